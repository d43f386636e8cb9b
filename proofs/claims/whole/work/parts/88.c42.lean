/-! the JDK's Strings over maps -/
section JS
variable {G : GG} {p : Program} {l : Launch} {e : Env} {R : Room} {s : State} {m : MethodId} {args : Array Value} {below : List Frame} {meth : Method} {c : Code} {nL : Nat} {A : Nat → Prop} {H0 : Heap} {Q : State → Prop} {w : WM} {cells slots pc : Nat} {lv lv' : List (Nat × Value)} {rest st : List Value} {cc : ByteArray} {own : String}
variable {a ci N n index : Nat} {C : String} {T : u_T} {ty : Nat → FieldType} {fs : List Value}
theorem aw_instS (X : Cx G p s m args meth c A H0 cc nL own) (okc : okC ci C T N ty) (hw : w a = some (.inr (ci, fs))) (hl : Cond.classLink own index C ∈ lw_g) (hdg : decode cc pc = .ok (.instanceof index, 3)) (kk : AW G p l e R s m args below meth c nL A H0 Q w cells slots (pc + 3) lv (.int 1 :: rest)) : AW G p l e R s m args below meth c nL A H0 Q w cells slots pc lv (.ref a :: rest) := by
  intro H locs ls hP hA hS hl'
  obtain ⟨q0, hq⟩ := wm_pos hP hw
  exact va_instS X.1 X.2.1 X.2.2.2.1 (X.2.2.2.2.1 _ hl) (X.2.2.2.2.2.1.1 _ _ okc.1).2 (va_recv X.2.2.2.2.2.1 (wm_toP hP _) okc.1 hq) hdg (kk H locs ls hP hA hS hl')
theorem aw_castS (X : Cx G p s m args meth c A H0 cc nL own) (okc : okC ci C T N ty) (hw : w a = some (.inr (ci, fs))) (hl : Cond.classLink own index C ∈ lw_g) (hdg : decode cc pc = .ok (.checkcast index, 3)) (kk : AW G p l e R s m args below meth c nL A H0 Q w cells slots (pc + 3) lv (.ref a :: rest)) : AW G p l e R s m args below meth c nL A H0 Q w cells slots pc lv (.ref a :: rest) := by
  intro H locs ls hP hA hS hl'
  obtain ⟨q0, hq⟩ := wm_pos hP hw
  exact va_castS X.1 X.2.1 X.2.2.2.1 (X.2.2.2.2.1 _ hl) (X.2.2.2.2.2.1.1 _ _ okc.1).2 (va_recv X.2.2.2.2.2.1 (wm_toP hP _) okc.1 hq) hdg (kk H locs ls hP hA hS hl')
theorem aw_baldKv {i : Nat} {x v : Int32} (X : Cx G p s m args meth c A H0 cc nL own) (hi3 : i < 3) (hin : vp_in x (lw_ln.getD i 0)) (hv : (lw_by.getD i []).getD x.toNatClampNeg 0 = v) (hdg : decode cc pc = .ok (.baload, 1)) (kk : AW G p l e R s m args below meth c nL A H0 Q w cells slots (pc + 1) lv (.int v :: rest)) : AW G p l e R s m args below meth c nL A H0 Q w cells slots pc lv (.int x :: .ref (gV G i) :: rest) := by
  subst hv
  exact aw_baldK (index := 0) X hi3 hin hdg kk
end JS
set_option maxRecDepth 100000 in
set_option maxHeartbeats 4000000 in
theorem kJ5_length_8abf5 (G : GG) (l : Launch) (w : WM) (b vb : Nat) (ml cnt : Int32) (hB : w b = some (.inr (1, [.ref vb, .int 0, .int ml, .int cnt]))) : MC G l yJ5_length_8abf5 cJ5_length_8abf5 1 ((Option.some .int)) ({ frames := 0, cells := 0, slots := 0, locals := 0 } : Room) [.ref b] w (fun v w' => v = some (.int cnt) ∧ w' = w) := by
  refine mf9_int (by decide +kernel) (Nat.le_of_ble_eq_true rfl) rfl rfl ?_
  intro p e s m args below meth c A H0 Q X hnm RTN
  have X : Cx G p s m args meth c A H0 cJ5_length_8abf5 1 RJ5 := X
  refine aw_aload_n X dJ5_length_8abf5_0 rfl rfl ?_
  refine aw_get X okJ4 (k := 3) hB (Nat.le_of_ble_eq_true rfl) fl_J5_79 (Or.inl rfl) rfl dJ5_length_8abf5_1 ?_
  refine RTN (some (.int _)) _ _ _ _ _ dJ5_length_8abf5_4 (⟨_, rfl⟩) (Nat.le_of_ble_eq_true rfl) (Nat.le_of_ble_eq_true rfl) ?_
  exact ⟨rfl, rfl⟩
set_option maxRecDepth 100000 in
set_option maxHeartbeats 4000000 in
theorem kJ4_length_8abf5 (G : GG) (l : Launch) (w : WM) (b vb : Nat) (ml cnt : Int32) (hB : w b = some (.inr (1, [.ref vb, .int 0, .int ml, .int cnt]))) : MC G l yJ4_length_8abf5 cJ4_length_8abf5 1 ((Option.some .int)) ({ frames := 1, cells := 0, slots := 0, locals := 20 } : Room) [.ref b] w (fun v w' => v = some (.int cnt) ∧ w' = w) := by
  refine mf9_int (by decide +kernel) (Nat.le_of_ble_eq_true rfl) rfl rfl ?_
  intro p e s m args below meth c A H0 Q X hnm RTN
  have X : Cx G p s m args meth c A H0 cJ4_length_8abf5 1 RJ4 := X
  refine aw_aload_n X dJ4_length_8abf5_0 rfl rfl ?_
  refine aw_callSp X (kJ5_length_8abf5 _ _ _ _ _ _ _ hB) okm_J5_length_8abf5 okJ4 hB ml_J4_343 sm_J5_length_8abf5 su_J4 im_J5_length_8abf5 (by decide) rfl rfl (Nat.le_of_ble_eq_true rfl) ⟨Nat.le_of_ble_eq_true rfl, Nat.le_of_ble_eq_true rfl, Nat.le_of_ble_eq_true rfl, Nat.le_of_ble_eq_true rfl⟩ dJ4_length_8abf5_1 (fun v w2 hp => ?_)
  obtain ⟨rfl, hw9⟩ := hp
  have hw9 := hw9.symm
  subst hw9
  refine RTN (some (.int _)) _ _ _ _ _ dJ4_length_8abf5_4 (⟨_, rfl⟩) (Nat.le_of_ble_eq_true rfl) (Nat.le_of_ble_eq_true rfl) ?_
  exact ⟨rfl, rfl⟩
set_option maxRecDepth 100000 in
set_option maxHeartbeats 4000000 in
theorem kJ5_isLatin1_aae02 (G : GG) (l : Launch) (w : WM) (b vb : Nat) (ml cnt : Int32) (hB : w b = some (.inr (1, [.ref vb, .int 0, .int ml, .int cnt]))) : MC G l yJ5_isLatin1_aae02 cJ5_isLatin1_aae02 1 ((Option.some .boolean)) ({ frames := 0, cells := 0, slots := 0, locals := 0 } : Room) [.ref b] w (fun v w' => v = some (.int 1) ∧ w' = w) := by
  refine mf9_bool (by decide +kernel) (Nat.le_of_ble_eq_true rfl) rfl rfl ?_
  intro p e s m args below meth c A H0 Q X hnm RTN
  have X : Cx G p s m args meth c A H0 cJ5_isLatin1_aae02 1 RJ5 := X
  refine aw_getsC X fl_J5_18 dJ5_isLatin1_aae02_0 ?_
  refine aw_if_eq (tgt := 17) X dJ5_isLatin1_aae02_3 rfl (fun c3 => ?_) (fun c3 => ?_)
  · exact absurd c3 (by decide)
  · refine aw_aload_n X dJ5_isLatin1_aae02_6 rfl rfl ?_
    refine aw_get X okJ4 (k := 1) hB (Nat.le_of_ble_eq_true rfl) fl_J5_22 (Or.inl rfl) rfl dJ5_isLatin1_aae02_7 ?_
    refine aw_if_ne (tgt := 17) X dJ5_isLatin1_aae02_10 rfl (fun c10 => ?_) (fun c10 => ?_)
    · exact absurd c10 (by decide)
    · refine aw_iconst X dJ5_isLatin1_aae02_13 ci_1 ?_
      refine aw_goto (tgt := 18) X dJ5_isLatin1_aae02_14 rfl ?_
      refine RTN (some (.int _)) _ _ _ _ _ dJ5_isLatin1_aae02_18 (by first | exact Or.inl rfl | exact Or.inr rfl) (Nat.le_of_ble_eq_true rfl) (Nat.le_of_ble_eq_true rfl) ?_
      exact ⟨rfl, rfl⟩
set_option maxRecDepth 100000 in
set_option maxHeartbeats 4000000 in
theorem kJ5_getValue_6d5f1 (G : GG) (l : Launch) (w : WM) (b vb : Nat) (ml cnt : Int32) (hB : w b = some (.inr (1, [.ref vb, .int 0, .int ml, .int cnt]))) : MC G l yJ5_getValue_6d5f1 cJ5_getValue_6d5f1 1 ((Option.some (.array .byte))) ({ frames := 0, cells := 0, slots := 0, locals := 0 } : Room) [.ref b] w (fun v w' => v = some (.ref vb) ∧ w' = w) := by
  refine mf9_ref (by decide +kernel) (Nat.le_of_ble_eq_true rfl) rfl rfl (Or.inr ⟨_, rfl⟩) ?_
  intro p e s m args below meth c A H0 Q X hnm RTN
  have X : Cx G p s m args meth c A H0 cJ5_getValue_6d5f1 1 RJ5 := X
  refine aw_aload_n X dJ5_getValue_6d5f1_0 rfl rfl ?_
  refine aw_get X okJ4 (k := 0) hB (Nat.le_of_ble_eq_true rfl) fl_J5_15 (Or.inl rfl) rfl dJ5_getValue_6d5f1_1 ?_
  refine RTN (some _) _ _ _ _ _ dJ5_getValue_6d5f1_4 (⟨some vb, rfl⟩) (Nat.le_of_ble_eq_true rfl) (Nat.le_of_ble_eq_true rfl) ?_
  exact ⟨rfl, rfl⟩
set_option maxRecDepth 100000 in
set_option maxHeartbeats 4000000 in
theorem kJ5_ensureCapacityInternal_d00df (G : GG) (l : Launch) (w : WM) (b vb : Nat) (ml cnt : Int32) (hB : w b = some (.inr (1, [.ref vb, .int 0, .int ml, .int cnt]))) (f : Nat → Int32) (hV : w vb = some (.inl (gA G 1, 16, .inl f))) (mc : Int32) (hmc : bt mc 0 16) : MC G l yJ5_ensureCapacityInternal_d00df cJ5_ensureCapacityInternal_d00df 3 (none) ({ frames := 3, cells := 0, slots := 0, locals := 82 } : Room) [.ref b, .int mc] w (fun v w' => v = none ∧ w' = w) := by
  refine mf9_void (by decide +kernel) (Nat.le_of_ble_eq_true rfl) rfl rfl ?_
  intro p e s m args below meth c A H0 Q X hnm RTN
  have X : Cx G p s m args meth c A H0 cJ5_ensureCapacityInternal_d00df 3 RJ5 := X
  refine aw_aload_n X dJ5_ensureCapacityInternal_d00df_0 rfl rfl ?_
  refine aw_get X okJ4 (k := 0) hB (Nat.le_of_ble_eq_true rfl) fl_J5_15 (Or.inl rfl) rfl dJ5_ensureCapacityInternal_d00df_1 ?_
  refine aw_alen X 1 hV rfl (v := 16) rfl dJ5_ensureCapacityInternal_d00df_4 ?_
  refine aw_aload_n X dJ5_ensureCapacityInternal_d00df_5 rfl rfl ?_
  refine aw_get X okJ4 (k := 1) hB (Nat.le_of_ble_eq_true rfl) fl_J5_22 (Or.inl rfl) rfl dJ5_ensureCapacityInternal_d00df_6 ?_
  refine aw_ishr X dJ5_ensureCapacityInternal_d00df_9 ?_
  refine aw_istore_n (lv' := [(2, _), (0, _), (1, _)]) X dJ5_ensureCapacityInternal_d00df_10 rfl (by decide) rfl ?_
  refine aw_iload_n X dJ5_ensureCapacityInternal_d00df_11 rfl rfl ?_
  refine aw_iload_n X dJ5_ensureCapacityInternal_d00df_12 rfl rfl ?_
  refine aw_isub X dJ5_ensureCapacityInternal_d00df_13 ?_
  refine aw_if_le (tgt := 38) X dJ5_ensureCapacityInternal_d00df_14 rfl (fun c14 => ?_) (fun c14 => ?_)
  · refine RTN (none) _ _ _ _ _ dJ5_ensureCapacityInternal_d00df_38 (rfl) (Nat.le_of_ble_eq_true rfl) (Nat.le_of_ble_eq_true rfl) ?_
    exact ⟨rfl, rfl⟩
  · exfalso
    have hb := bt_iff.mp hmc
    have h16 : (16 : Int32) >>> ((0 : Int32) &&& 31) = 16 := by decide
    rw [h16, i32_le] at c14
    have h3 := ti_sub (a := mc) (b := 16) (y := 16) rfl rfl (by omega)
    have e0 : (0 : Int32).toInt = 0 := rfl
    omega
set_option maxRecDepth 100000 in
set_option maxHeartbeats 4000000 in
theorem kJ5_setLength_d00df (G : GG) (l : Launch) (w : WM) (b vb : Nat) (ml cnt : Int32) (hB : w b = some (.inr (1, [.ref vb, .int 0, .int ml, .int cnt]))) (f : Nat → Int32) (hV : w vb = some (.inl (gA G 1, 16, .inl f))) (h0 : 0 ≤ cnt) : MC G l yJ5_setLength_d00df cJ5_setLength_d00df 2 (none) ({ frames := 4, cells := 0, slots := 0, locals := 104 } : Room) [.ref b, .int 0] w (fun v w' => v = none ∧ w' = wm_up w b (.inr (1, [.ref vb, .int 0, .int (if cnt ≤ 0 then ml else 1), .int 0]))) := by
  refine mf9_void (by decide +kernel) (Nat.le_of_ble_eq_true rfl) rfl rfl ?_
  intro p e s m args below meth c A H0 Q X hnm RTN
  have X : Cx G p s m args meth c A H0 cJ5_setLength_d00df 2 RJ5 := X
  refine aw_iload_n X dJ5_setLength_d00df_0 rfl rfl ?_
  refine aw_if_ge (tgt := 13) X dJ5_setLength_d00df_1 rfl (fun c1 => ?_) (fun c1 => ?_)
  · refine aw_aload_n X dJ5_setLength_d00df_13 rfl rfl ?_
    refine aw_iload_n X dJ5_setLength_d00df_14 rfl rfl ?_
    refine aw_callP X (kJ5_ensureCapacityInternal_d00df _ _ _ _ _ _ _ hB _ hV _ (by decide)) okm_J5_ensureCapacityInternal_d00df okJ4 hB ml_J5_100 im_J5_ensureCapacityInternal_d00df sm_J5_ensureCapacityInternal_d00df (X.2.2.2.2.2.2.2.2.1 _ pv_J5_ensureCapacityInternal_d00df) rfl rfl (Nat.le_of_ble_eq_true rfl) ⟨Nat.le_of_ble_eq_true rfl, Nat.le_of_ble_eq_true rfl, Nat.le_of_ble_eq_true rfl, Nat.le_of_ble_eq_true rfl⟩ dJ5_setLength_d00df_15 (fun v w2 hp => ?_)
    obtain ⟨rfl, hw9⟩ := hp
    have hw9 := hw9.symm
    subst hw9
    refine aw_aload_n X dJ5_setLength_d00df_18 rfl rfl ?_
    refine aw_get X okJ4 (k := 3) hB (Nat.le_of_ble_eq_true rfl) fl_J5_79 (Or.inl rfl) rfl dJ5_setLength_d00df_19 ?_
    refine aw_iload_n X dJ5_setLength_d00df_22 rfl rfl ?_
    refine aw_icmp_ge (tgt := 63) X dJ5_setLength_d00df_23 rfl (fun c23 => ?_) (fun c23 => ?_)
    · refine aw_aload_n X dJ5_setLength_d00df_63 rfl rfl ?_
      refine aw_get X okJ4 (k := 3) hB (Nat.le_of_ble_eq_true rfl) fl_J5_79 (Or.inl rfl) rfl dJ5_setLength_d00df_64 ?_
      refine aw_iload_n X dJ5_setLength_d00df_67 rfl rfl ?_
      refine aw_icmp_le (tgt := 76) X dJ5_setLength_d00df_68 rfl (fun c68 => ?_) (fun c68 => ?_)
      · refine aw_aload_n X dJ5_setLength_d00df_76 rfl rfl ?_
        refine aw_iload_n X dJ5_setLength_d00df_77 rfl rfl ?_
        refine aw_put2 X okJ4 (k := 3) (fs' := [.ref vb, .int 0, .int ml, .int 0]) hB (Nat.le_of_ble_eq_true rfl) fl_J5_79 (Or.inl rfl) rfl (rfl ) ( rfl) (Nat.le_of_ble_eq_true rfl) rfl dJ5_setLength_d00df_78 (fun w101 hk102 hn103 he104 => ?_)
        have hk105 := (hn103 _ (Ne.symm (ne_oa hB hV))).trans hV
        refine RTN (none) _ _ _ _ _ dJ5_setLength_d00df_81 (rfl) (Nat.le_of_ble_eq_true rfl) (Nat.le_of_ble_eq_true rfl) ?_
        exact ⟨rfl, by rw [he104, if_pos c68]⟩
      · refine aw_aload_n X dJ5_setLength_d00df_71 rfl rfl ?_
        refine aw_iconst X dJ5_setLength_d00df_72 ci_1 ?_
        refine aw_put2 X okJ4 (k := 2) (fs' := [.ref vb, .int 0, .int 1, .int cnt]) hB (Nat.le_of_ble_eq_true rfl) fl_J5_73 (Or.inl rfl) rfl (rfl ) ( rfl) (Nat.le_of_ble_eq_true rfl) rfl dJ5_setLength_d00df_73 (fun w106 hk107 hn108 he109 => ?_)
        have hk110 := (hn108 _ (Ne.symm (ne_oa hB hV))).trans hV
        refine aw_aload_n X dJ5_setLength_d00df_76 rfl rfl ?_
        refine aw_iload_n X dJ5_setLength_d00df_77 rfl rfl ?_
        refine aw_put2 X okJ4 (k := 3) (fs' := [.ref vb, .int 0, .int 1, .int 0]) hk107 (Nat.le_of_ble_eq_true rfl) fl_J5_79 (Or.inl rfl) rfl (rfl ) ( rfl) (Nat.le_of_ble_eq_true rfl) rfl dJ5_setLength_d00df_78 (fun w111 hk112 hn113 he114 => ?_)
        have hk115 := (hn113 _ (Ne.symm (ne_oa hk107 hk110))).trans hk110
        refine RTN (none) _ _ _ _ _ dJ5_setLength_d00df_81 (rfl) (Nat.le_of_ble_eq_true rfl) (Nat.le_of_ble_eq_true rfl) ?_
        exact ⟨rfl, by rw [he114, he109, wm_up_up, if_neg c68]⟩
    · exact absurd h0 c23
  · exact absurd c1 (by decide)
set_option maxRecDepth 100000 in
set_option maxHeartbeats 4000000 in
theorem kJ4_setLength_d00df (G : GG) (l : Launch) (w : WM) (b vb : Nat) (ml cnt : Int32) (hB : w b = some (.inr (1, [.ref vb, .int 0, .int ml, .int cnt]))) (f : Nat → Int32) (hV : w vb = some (.inl (gA G 1, 16, .inl f))) (h0 : 0 ≤ cnt) : MC G l yJ4_setLength_d00df cJ4_setLength_d00df 2 (none) ({ frames := 5, cells := 0, slots := 0, locals := 125 } : Room) [.ref b, .int 0] w (fun v w' => v = none ∧ w' = wm_up w b (.inr (1, [.ref vb, .int 0, .int (if cnt ≤ 0 then ml else 1), .int 0]))) := by
  refine mf9_void (by decide +kernel) (Nat.le_of_ble_eq_true rfl) rfl rfl ?_
  intro p e s m args below meth c A H0 Q X hnm RTN
  have X : Cx G p s m args meth c A H0 cJ4_setLength_d00df 2 RJ4 := X
  refine aw_aload_n X dJ4_setLength_d00df_0 rfl rfl ?_
  refine aw_iload_n X dJ4_setLength_d00df_1 rfl rfl ?_
  refine aw_callSp X (kJ5_setLength_d00df _ _ _ _ _ _ _ hB _ hV h0) okm_J5_setLength_d00df okJ4 hB ml_J4_333 sm_J5_setLength_d00df su_J4 im_J5_setLength_d00df (by decide) rfl rfl (Nat.le_of_ble_eq_true rfl) ⟨Nat.le_of_ble_eq_true rfl, Nat.le_of_ble_eq_true rfl, Nat.le_of_ble_eq_true rfl, Nat.le_of_ble_eq_true rfl⟩ dJ4_setLength_d00df_2 (fun v w2 hp => ?_)
  obtain ⟨rfl, hw116⟩ := hp
  have hk117 := (congrFun hw116 b).trans wm_ups
  have hk118 := ((congrFun hw116 vb).trans (wm_upn (Ne.symm (ne_oa hB hV)))).trans hV
  refine RTN (none) _ _ _ _ _ dJ4_setLength_d00df_5 (rfl) (Nat.le_of_ble_eq_true rfl) (Nat.le_of_ble_eq_true rfl) ?_
  exact ⟨rfl, hw116⟩
set_option maxRecDepth 100000 in
set_option maxHeartbeats 4000000 in
theorem kJ1_canEncode_fc78d (G : GG) (l : Launch) (w : WM) (ch : Int32) (hc : bt ch 0 255) : MC G l yJ1_canEncode_fc78d cJ1_canEncode_fc78d 1 ((Option.some .boolean)) ({ frames := 0, cells := 0, slots := 0, locals := 0 } : Room) [.int ch] w (fun v w' => v = some (.int 1) ∧ w' = w) := by
  refine mf9_bool (by decide +kernel) (Nat.le_of_ble_eq_true rfl) rfl rfl ?_
  intro p e s m args below meth c A H0 Q X hnm RTN
  have X : Cx G p s m args meth c A H0 cJ1_canEncode_fc78d 1 RJ1 := X
  refine aw_iload_n X dJ1_canEncode_fc78d_0 rfl rfl ?_
  refine aw_sipush X dJ1_canEncode_fc78d_1 cs_255 ?_
  refine aw_icmp_gt (tgt := 11) X dJ1_canEncode_fc78d_4 rfl (fun c4 => ?_) (fun c4 => ?_)
  · exfalso
    have hb := bt_iff.mp hc
    rw [i32_lt] at c4
    have e0 : (255 : Int32).toInt = 255 := rfl
    omega
  · refine aw_iconst X dJ1_canEncode_fc78d_7 ci_1 ?_
    refine aw_goto (tgt := 12) X dJ1_canEncode_fc78d_8 rfl ?_
    refine RTN (some (.int _)) _ _ _ _ _ dJ1_canEncode_fc78d_12 (by first | exact Or.inl rfl | exact Or.inr rfl) (Nat.le_of_ble_eq_true rfl) (Nat.le_of_ble_eq_true rfl) ?_
    exact ⟨rfl, rfl⟩
set_option maxRecDepth 100000 in
set_option maxHeartbeats 4000000 in
theorem kJ5_append_3fe6f (G : GG) (l : Launch) (w : WM) (b vb : Nat) (ml cnt : Int32) (hB : w b = some (.inr (1, [.ref vb, .int 0, .int ml, .int cnt]))) (f : Nat → Int32) (hV : w vb = some (.inl (gA G 1, 16, .inl f))) (ch : Int32) (hc : bt ch 0 255) (hn : bt cnt 0 15) : MC G l yJ5_append_3fe6f cJ5_append_3fe6f 2 ((Option.some (.object "java/lang/AbstractStringBuilder"))) ({ frames := 6, cells := 0, slots := 0, locals := 137 } : Room) [.ref b, .int ch] w (fun v w' => v = some (.ref b) ∧ w' b = some (.inr (1, [.ref vb, .int 0, .int ml, .int (cnt + 1)])) ∧ w' vb = some (.inl (gA G 1, 16, .inl (upd f cnt.toNatClampNeg (vp_nar .byte ch.toInt8.toInt32)))) ∧ ∀ q, q ≠ b → q ≠ vb → w' q = w q) := by
  refine mf9_ref (by decide +kernel) (Nat.le_of_ble_eq_true rfl) rfl rfl (Or.inl ⟨_, rfl⟩) ?_
  intro p e s m args below meth c A H0 Q X hnm RTN
  have X : Cx G p s m args meth c A H0 cJ5_append_3fe6f 2 RJ5 := X
  have hb := bt_iff.mp hn
  have h3 := ti_add (a := cnt) (b := 1) (y := 1) rfl rfl (by omega)
  have hc1 : bt (cnt + 1) 0 16 = true := bt_iff.mpr ⟨by omega, by omega⟩
  refine aw_aload_n X dJ5_append_3fe6f_0 rfl rfl ?_
  refine aw_aload_n X dJ5_append_3fe6f_1 rfl rfl ?_
  refine aw_get X okJ4 (k := 3) hB (Nat.le_of_ble_eq_true rfl) fl_J5_79 (Or.inl rfl) rfl dJ5_append_3fe6f_2 ?_
  refine aw_iconst X dJ5_append_3fe6f_5 ci_1 ?_
  refine aw_iadd X dJ5_append_3fe6f_6 ?_
  refine aw_callP X (kJ5_ensureCapacityInternal_d00df _ _ _ _ _ _ _ hB _ hV _ (hc1)) okm_J5_ensureCapacityInternal_d00df okJ4 hB ml_J5_100 im_J5_ensureCapacityInternal_d00df sm_J5_ensureCapacityInternal_d00df (X.2.2.2.2.2.2.2.2.1 _ pv_J5_ensureCapacityInternal_d00df) rfl rfl (Nat.le_of_ble_eq_true rfl) ⟨Nat.le_of_ble_eq_true rfl, Nat.le_of_ble_eq_true rfl, Nat.le_of_ble_eq_true rfl, Nat.le_of_ble_eq_true rfl⟩ dJ5_append_3fe6f_7 (fun v w2 hp => ?_)
  obtain ⟨rfl, hw9⟩ := hp
  have hw9 := hw9.symm
  subst hw9
  refine aw_aload_n X dJ5_append_3fe6f_10 rfl rfl ?_
  refine aw_callV X (kJ5_isLatin1_aae02 _ _ _ _ _ _ _ hB) okm_J5_isLatin1_aae02 okJ4 hB ml_J5_83 im_J5_isLatin1_aae02 se_J4_J5_isLatin1_aae02 rfl rfl (Nat.le_of_ble_eq_true rfl) ⟨Nat.le_of_ble_eq_true rfl, Nat.le_of_ble_eq_true rfl, Nat.le_of_ble_eq_true rfl, Nat.le_of_ble_eq_true rfl⟩ dJ5_append_3fe6f_11 (fun v w2 hp => ?_)
  obtain ⟨rfl, hw9⟩ := hp
  have hw9 := hw9.symm
  subst hw9
  refine aw_if_eq (tgt := 45) X dJ5_append_3fe6f_14 rfl (fun c14 => ?_) (fun c14 => ?_)
  · exact absurd c14 (by decide)
  · refine aw_iload_n X dJ5_append_3fe6f_17 rfl rfl ?_
    refine aw_callS X (kJ1_canEncode_fc78d _ _ _ _ hc) okm_J1_canEncode_fc78d ml_J5_191 st_J1_canEncode_fc78d rfl rfl (Nat.le_of_ble_eq_true rfl) ⟨Nat.le_of_ble_eq_true rfl, Nat.le_of_ble_eq_true rfl, Nat.le_of_ble_eq_true rfl, Nat.le_of_ble_eq_true rfl⟩ dJ5_append_3fe6f_18 (fun v w2 hp => ?_)
    obtain ⟨rfl, hw9⟩ := hp
    have hw9 := hw9.symm
    subst hw9
    refine aw_if_eq (tgt := 45) X dJ5_append_3fe6f_21 rfl (fun c21 => ?_) (fun c21 => ?_)
    · exact absurd c21 (by decide)
    · refine aw_aload_n X dJ5_append_3fe6f_24 rfl rfl ?_
      refine aw_get X okJ4 (k := 0) hB (Nat.le_of_ble_eq_true rfl) fl_J5_15 (Or.inl rfl) rfl dJ5_append_3fe6f_25 ?_
      refine aw_aload_n X dJ5_append_3fe6f_28 rfl rfl ?_
      refine aw_dup X dJ5_append_3fe6f_29 rfl ?_
      refine aw_get X okJ4 (k := 3) hB (Nat.le_of_ble_eq_true rfl) fl_J5_79 (Or.inl rfl) rfl dJ5_append_3fe6f_30 ?_
      refine aw_dup_x1 X dJ5_append_3fe6f_33 rfl rfl ?_
      refine aw_iconst X dJ5_append_3fe6f_34 ci_1 ?_
      refine aw_iadd X dJ5_append_3fe6f_35 ?_
      refine aw_put2 X okJ4 (k := 3) (fs' := [.ref vb, .int 0, .int ml, .int (cnt + 1)]) hB (Nat.le_of_ble_eq_true rfl) fl_J5_79 (Or.inl rfl) rfl (rfl ) ( rfl) (Nat.le_of_ble_eq_true rfl) rfl dJ5_append_3fe6f_36 (fun w119 hk120 hn121 he122 => ?_)
      have hk123 := (hn121 _ (Ne.symm (ne_oa hB hV))).trans hV
      refine aw_iload_n X dJ5_append_3fe6f_39 rfl rfl ?_
      refine aw_i2b X dJ5_append_3fe6f_40 ?_
      refine aw_bast2 X hk123 (bt_vp hn (by decide) (by decide)) dJ5_append_3fe6f_41 (fun w124 hk125 hn126 he127 => ?_)
      have hk128 := (hn126 _ (ne_oa hk120 hk123)).trans hk120
      refine aw_goto (tgt := 75) X dJ5_append_3fe6f_42 rfl ?_
      refine aw_aload_n X dJ5_append_3fe6f_75 rfl rfl ?_
      refine RTN (some _) _ _ _ _ _ dJ5_append_3fe6f_76 (⟨some b, rfl⟩) (Nat.le_of_ble_eq_true rfl) (Nat.le_of_ble_eq_true rfl) ?_
      exact ⟨rfl, hk128, hk125, fun q h1 h2 => by rw [he127, wm_upn h2, he122, wm_upn h1]⟩
set_option maxRecDepth 100000 in
set_option maxHeartbeats 4000000 in
theorem kJ4_append_cf468 (G : GG) (l : Launch) (w : WM) (b vb : Nat) (ml cnt : Int32) (hB : w b = some (.inr (1, [.ref vb, .int 0, .int ml, .int cnt]))) (f : Nat → Int32) (hV : w vb = some (.inl (gA G 1, 16, .inl f))) (ch : Int32) (hc : bt ch 0 255) (hn : bt cnt 0 15) : MC G l yJ4_append_cf468 cJ4_append_cf468 2 ((Option.some (.object "java/lang/StringBuilder"))) ({ frames := 7, cells := 0, slots := 0, locals := 158 } : Room) [.ref b, .int ch] w (fun v w' => v = some (.ref b) ∧ w' b = some (.inr (1, [.ref vb, .int 0, .int ml, .int (cnt + 1)])) ∧ w' vb = some (.inl (gA G 1, 16, .inl (upd f cnt.toNatClampNeg (vp_nar .byte ch.toInt8.toInt32)))) ∧ ∀ q, q ≠ b → q ≠ vb → w' q = w q) := by
  refine mf9_ref (by decide +kernel) (Nat.le_of_ble_eq_true rfl) rfl rfl (Or.inl ⟨_, rfl⟩) ?_
  intro p e s m args below meth c A H0 Q X hnm RTN
  have X : Cx G p s m args meth c A H0 cJ4_append_cf468 2 RJ4 := X
  refine aw_aload_n X dJ4_append_cf468_0 rfl rfl ?_
  refine aw_iload_n X dJ4_append_cf468_1 rfl rfl ?_
  refine aw_callSp X (kJ5_append_3fe6f _ _ _ _ _ _ _ hB _ hV _ hc hn) okm_J5_append_3fe6f okJ4 hB ml_J4_50 sm_J5_append_3fe6f su_J4 im_J5_append_3fe6f (by decide) rfl rfl (Nat.le_of_ble_eq_true rfl) ⟨Nat.le_of_ble_eq_true rfl, Nat.le_of_ble_eq_true rfl, Nat.le_of_ble_eq_true rfl, Nat.le_of_ble_eq_true rfl⟩ dJ4_append_cf468_2 (fun v w2 hp => ?_)
  obtain ⟨rfl, hk129, hk130, hb131⟩ := hp
  refine aw_pop X dJ4_append_cf468_5 rfl ?_
  refine aw_aload_n X dJ4_append_cf468_6 rfl rfl ?_
  refine RTN (some _) _ _ _ _ _ dJ4_append_cf468_7 (⟨some b, rfl⟩) (Nat.le_of_ble_eq_true rfl) (Nat.le_of_ble_eq_true rfl) ?_
  exact ⟨rfl, hk129, hk130, hb131⟩
def ixu (c : Int32) : Bool := decide (c = 47) || (decide (c = 92) || (decide (c = 60) || (decide (c = 62) || (decide (c = 58) || (decide (c = 34) || (decide (c = 124) || (decide (c = 63) || decide (c = 42))))))))
set_option maxRecDepth 100000 in
set_option maxHeartbeats 4000000 in
theorem kJ1_indexOfChar_4cfef (G : GG) (l : Launch) (w : WM) (ch : Int32) : MC G l yJ1_indexOfChar_4cfef cJ1_indexOfChar_4cfef 6 ((Option.some .int)) ({ frames := 0, cells := 0, slots := 0, locals := 0 } : Room) [.ref (gV G 0), .int ch, .int 0, .int 9] w (fun v w' => ∃ r : Int32, v = some (.int r) ∧ w' = w ∧ (0 ≤ r ↔ ixu ch.toInt8.toInt32 = true)) := by
  refine mf9_int (by decide +kernel) (Nat.le_of_ble_eq_true rfl) rfl rfl ?_
  intro p e s m args below meth c A H0 Q X hnm RTN
  have X : Cx G p s m args meth c A H0 cJ1_indexOfChar_4cfef 6 RJ1 := X
  refine aw_iload_n X dJ1_indexOfChar_4cfef_0 rfl rfl ?_
  refine aw_i2b X dJ1_indexOfChar_4cfef_1 ?_
  refine aw_istore (lv' := [(4, _), (0, _), (1, _), (2, _), (3, _)]) X dJ1_indexOfChar_4cfef_2 (by decide) rfl ?_
  refine aw_iload_n X dJ1_indexOfChar_4cfef_4 rfl rfl ?_
  refine aw_istore (lv' := [(5, _), (4, _), (0, _), (1, _), (2, _), (3, _)]) X dJ1_indexOfChar_4cfef_5 (by decide) rfl ?_
  refine aw_iload X dJ1_indexOfChar_4cfef_7 rfl ?_
  refine aw_iload_n X dJ1_indexOfChar_4cfef_9 rfl rfl ?_
  refine aw_icmp_ge (tgt := 31) X dJ1_indexOfChar_4cfef_10 rfl (fun c10 => ?_) (fun c10 => ?_)
  · exact absurd c10 (by decide)
  · refine aw_aload_n X dJ1_indexOfChar_4cfef_13 rfl rfl ?_
    refine aw_iload X dJ1_indexOfChar_4cfef_14 rfl ?_
    refine aw_baldKv (v := 47) X (i := 0) (by decide) (vp_in_nI (n := 0) (N := 9) (by decide) (by decide)) (by decide) dJ1_indexOfChar_4cfef_16 ?_
    refine aw_iload X dJ1_indexOfChar_4cfef_17 rfl ?_
    refine aw_icmp_ne (tgt := 25) X dJ1_indexOfChar_4cfef_19 rfl (fun c19 => ?_) (fun c19 => ?_)
    · refine aw_iinc (v := 1) (lv' := [(5, _), (4, _), (0, _), (1, _), (2, _), (3, _)]) X dJ1_indexOfChar_4cfef_25 rfl (by decide) (by decide) rfl ?_
      refine aw_goto (tgt := 7) X dJ1_indexOfChar_4cfef_28 rfl ?_
      refine aw_iload X dJ1_indexOfChar_4cfef_7 rfl ?_
      refine aw_iload_n X dJ1_indexOfChar_4cfef_9 rfl rfl ?_
      refine aw_icmp_ge (tgt := 31) X dJ1_indexOfChar_4cfef_10 rfl (fun c10 => ?_) (fun c10 => ?_)
      · exact absurd c10 (by decide)
      · refine aw_aload_n X dJ1_indexOfChar_4cfef_13 rfl rfl ?_
        refine aw_iload X dJ1_indexOfChar_4cfef_14 rfl ?_
        refine aw_baldKv (v := 92) X (i := 0) (by decide) (vp_in_nI (n := 1) (N := 9) (by decide) (by decide)) (by decide) dJ1_indexOfChar_4cfef_16 ?_
        refine aw_iload X dJ1_indexOfChar_4cfef_17 rfl ?_
        refine aw_icmp_ne (tgt := 25) X dJ1_indexOfChar_4cfef_19 rfl (fun c19' => ?_) (fun c19' => ?_)
        · refine aw_iinc (v := 2) (lv' := [(5, _), (4, _), (0, _), (1, _), (2, _), (3, _)]) X dJ1_indexOfChar_4cfef_25 rfl (by decide) (by decide) rfl ?_
          refine aw_goto (tgt := 7) X dJ1_indexOfChar_4cfef_28 rfl ?_
          refine aw_iload X dJ1_indexOfChar_4cfef_7 rfl ?_
          refine aw_iload_n X dJ1_indexOfChar_4cfef_9 rfl rfl ?_
          refine aw_icmp_ge (tgt := 31) X dJ1_indexOfChar_4cfef_10 rfl (fun c10 => ?_) (fun c10 => ?_)
          · exact absurd c10 (by decide)
          · refine aw_aload_n X dJ1_indexOfChar_4cfef_13 rfl rfl ?_
            refine aw_iload X dJ1_indexOfChar_4cfef_14 rfl ?_
            refine aw_baldKv (v := 60) X (i := 0) (by decide) (vp_in_nI (n := 2) (N := 9) (by decide) (by decide)) (by decide) dJ1_indexOfChar_4cfef_16 ?_
            refine aw_iload X dJ1_indexOfChar_4cfef_17 rfl ?_
            refine aw_icmp_ne (tgt := 25) X dJ1_indexOfChar_4cfef_19 rfl (fun c19'' => ?_) (fun c19'' => ?_)
            · refine aw_iinc (v := 3) (lv' := [(5, _), (4, _), (0, _), (1, _), (2, _), (3, _)]) X dJ1_indexOfChar_4cfef_25 rfl (by decide) (by decide) rfl ?_
              refine aw_goto (tgt := 7) X dJ1_indexOfChar_4cfef_28 rfl ?_
              refine aw_iload X dJ1_indexOfChar_4cfef_7 rfl ?_
              refine aw_iload_n X dJ1_indexOfChar_4cfef_9 rfl rfl ?_
              refine aw_icmp_ge (tgt := 31) X dJ1_indexOfChar_4cfef_10 rfl (fun c10 => ?_) (fun c10 => ?_)
              · exact absurd c10 (by decide)
              · refine aw_aload_n X dJ1_indexOfChar_4cfef_13 rfl rfl ?_
                refine aw_iload X dJ1_indexOfChar_4cfef_14 rfl ?_
                refine aw_baldKv (v := 62) X (i := 0) (by decide) (vp_in_nI (n := 3) (N := 9) (by decide) (by decide)) (by decide) dJ1_indexOfChar_4cfef_16 ?_
                refine aw_iload X dJ1_indexOfChar_4cfef_17 rfl ?_
                refine aw_icmp_ne (tgt := 25) X dJ1_indexOfChar_4cfef_19 rfl (fun c19''' => ?_) (fun c19''' => ?_)
                · refine aw_iinc (v := 4) (lv' := [(5, _), (4, _), (0, _), (1, _), (2, _), (3, _)]) X dJ1_indexOfChar_4cfef_25 rfl (by decide) (by decide) rfl ?_
                  refine aw_goto (tgt := 7) X dJ1_indexOfChar_4cfef_28 rfl ?_
                  refine aw_iload X dJ1_indexOfChar_4cfef_7 rfl ?_
                  refine aw_iload_n X dJ1_indexOfChar_4cfef_9 rfl rfl ?_
                  refine aw_icmp_ge (tgt := 31) X dJ1_indexOfChar_4cfef_10 rfl (fun c10 => ?_) (fun c10 => ?_)
                  · exact absurd c10 (by decide)
                  · refine aw_aload_n X dJ1_indexOfChar_4cfef_13 rfl rfl ?_
                    refine aw_iload X dJ1_indexOfChar_4cfef_14 rfl ?_
                    refine aw_baldKv (v := 58) X (i := 0) (by decide) (vp_in_nI (n := 4) (N := 9) (by decide) (by decide)) (by decide) dJ1_indexOfChar_4cfef_16 ?_
                    refine aw_iload X dJ1_indexOfChar_4cfef_17 rfl ?_
                    refine aw_icmp_ne (tgt := 25) X dJ1_indexOfChar_4cfef_19 rfl (fun c19'''' => ?_) (fun c19'''' => ?_)
                    · refine aw_iinc (v := 5) (lv' := [(5, _), (4, _), (0, _), (1, _), (2, _), (3, _)]) X dJ1_indexOfChar_4cfef_25 rfl (by decide) (by decide) rfl ?_
                      refine aw_goto (tgt := 7) X dJ1_indexOfChar_4cfef_28 rfl ?_
                      refine aw_iload X dJ1_indexOfChar_4cfef_7 rfl ?_
                      refine aw_iload_n X dJ1_indexOfChar_4cfef_9 rfl rfl ?_
                      refine aw_icmp_ge (tgt := 31) X dJ1_indexOfChar_4cfef_10 rfl (fun c10 => ?_) (fun c10 => ?_)
                      · exact absurd c10 (by decide)
                      · refine aw_aload_n X dJ1_indexOfChar_4cfef_13 rfl rfl ?_
                        refine aw_iload X dJ1_indexOfChar_4cfef_14 rfl ?_
                        refine aw_baldKv (v := 34) X (i := 0) (by decide) (vp_in_nI (n := 5) (N := 9) (by decide) (by decide)) (by decide) dJ1_indexOfChar_4cfef_16 ?_
                        refine aw_iload X dJ1_indexOfChar_4cfef_17 rfl ?_
                        refine aw_icmp_ne (tgt := 25) X dJ1_indexOfChar_4cfef_19 rfl (fun c19''''' => ?_) (fun c19''''' => ?_)
                        · refine aw_iinc (v := 6) (lv' := [(5, _), (4, _), (0, _), (1, _), (2, _), (3, _)]) X dJ1_indexOfChar_4cfef_25 rfl (by decide) (by decide) rfl ?_
                          refine aw_goto (tgt := 7) X dJ1_indexOfChar_4cfef_28 rfl ?_
                          refine aw_iload X dJ1_indexOfChar_4cfef_7 rfl ?_
                          refine aw_iload_n X dJ1_indexOfChar_4cfef_9 rfl rfl ?_
                          refine aw_icmp_ge (tgt := 31) X dJ1_indexOfChar_4cfef_10 rfl (fun c10 => ?_) (fun c10 => ?_)
                          · exact absurd c10 (by decide)
                          · refine aw_aload_n X dJ1_indexOfChar_4cfef_13 rfl rfl ?_
                            refine aw_iload X dJ1_indexOfChar_4cfef_14 rfl ?_
                            refine aw_baldKv (v := 124) X (i := 0) (by decide) (vp_in_nI (n := 6) (N := 9) (by decide) (by decide)) (by decide) dJ1_indexOfChar_4cfef_16 ?_
                            refine aw_iload X dJ1_indexOfChar_4cfef_17 rfl ?_
                            refine aw_icmp_ne (tgt := 25) X dJ1_indexOfChar_4cfef_19 rfl (fun c19'''''' => ?_) (fun c19'''''' => ?_)
                            · refine aw_iinc (v := 7) (lv' := [(5, _), (4, _), (0, _), (1, _), (2, _), (3, _)]) X dJ1_indexOfChar_4cfef_25 rfl (by decide) (by decide) rfl ?_
                              refine aw_goto (tgt := 7) X dJ1_indexOfChar_4cfef_28 rfl ?_
                              refine aw_iload X dJ1_indexOfChar_4cfef_7 rfl ?_
                              refine aw_iload_n X dJ1_indexOfChar_4cfef_9 rfl rfl ?_
                              refine aw_icmp_ge (tgt := 31) X dJ1_indexOfChar_4cfef_10 rfl (fun c10 => ?_) (fun c10 => ?_)
                              · exact absurd c10 (by decide)
                              · refine aw_aload_n X dJ1_indexOfChar_4cfef_13 rfl rfl ?_
                                refine aw_iload X dJ1_indexOfChar_4cfef_14 rfl ?_
                                refine aw_baldKv (v := 63) X (i := 0) (by decide) (vp_in_nI (n := 7) (N := 9) (by decide) (by decide)) (by decide) dJ1_indexOfChar_4cfef_16 ?_
                                refine aw_iload X dJ1_indexOfChar_4cfef_17 rfl ?_
                                refine aw_icmp_ne (tgt := 25) X dJ1_indexOfChar_4cfef_19 rfl (fun c19''''''' => ?_) (fun c19''''''' => ?_)
                                · refine aw_iinc (v := 8) (lv' := [(5, _), (4, _), (0, _), (1, _), (2, _), (3, _)]) X dJ1_indexOfChar_4cfef_25 rfl (by decide) (by decide) rfl ?_
                                  refine aw_goto (tgt := 7) X dJ1_indexOfChar_4cfef_28 rfl ?_
                                  refine aw_iload X dJ1_indexOfChar_4cfef_7 rfl ?_
                                  refine aw_iload_n X dJ1_indexOfChar_4cfef_9 rfl rfl ?_
                                  refine aw_icmp_ge (tgt := 31) X dJ1_indexOfChar_4cfef_10 rfl (fun c10 => ?_) (fun c10 => ?_)
                                  · exact absurd c10 (by decide)
                                  · refine aw_aload_n X dJ1_indexOfChar_4cfef_13 rfl rfl ?_
                                    refine aw_iload X dJ1_indexOfChar_4cfef_14 rfl ?_
                                    refine aw_baldKv (v := 42) X (i := 0) (by decide) (vp_in_nI (n := 8) (N := 9) (by decide) (by decide)) (by decide) dJ1_indexOfChar_4cfef_16 ?_
                                    refine aw_iload X dJ1_indexOfChar_4cfef_17 rfl ?_
                                    refine aw_icmp_ne (tgt := 25) X dJ1_indexOfChar_4cfef_19 rfl (fun c19'''''''' => ?_) (fun c19'''''''' => ?_)
                                    · refine aw_iinc (v := 9) (lv' := [(5, _), (4, _), (0, _), (1, _), (2, _), (3, _)]) X dJ1_indexOfChar_4cfef_25 rfl (by decide) (by decide) rfl ?_
                                      refine aw_goto (tgt := 7) X dJ1_indexOfChar_4cfef_28 rfl ?_
                                      refine aw_iload X dJ1_indexOfChar_4cfef_7 rfl ?_
                                      refine aw_iload_n X dJ1_indexOfChar_4cfef_9 rfl rfl ?_
                                      refine aw_icmp_ge (tgt := 31) X dJ1_indexOfChar_4cfef_10 rfl (fun c10 => ?_) (fun c10 => ?_)
                                      · refine aw_iconst X dJ1_indexOfChar_4cfef_31 ci_m1 ?_
                                        refine RTN (some (.int _)) _ _ _ _ _ dJ1_indexOfChar_4cfef_32 (⟨_, rfl⟩) (Nat.le_of_ble_eq_true rfl) (Nat.le_of_ble_eq_true rfl) ?_
                                        refine ⟨_, rfl, rfl, ⟨fun h => absurd h (by decide), fun h => ?_⟩⟩
                                        exfalso
                                        simp only [ixu, Bool.or_eq_true, decide_eq_true_eq] at h
                                        rcases h with h | h | h | h | h | h | h | h | h
                                        · exact c19 h.symm
                                        · exact c19' h.symm
                                        · exact c19'' h.symm
                                        · exact c19''' h.symm
                                        · exact c19'''' h.symm
                                        · exact c19''''' h.symm
                                        · exact c19'''''' h.symm
                                        · exact c19''''''' h.symm
                                        · exact c19'''''''' h.symm
                                      · exact absurd c10 (by decide)
                                    · refine aw_iload X dJ1_indexOfChar_4cfef_22 rfl ?_
                                      refine RTN (some (.int _)) _ _ _ _ _ dJ1_indexOfChar_4cfef_24 (⟨_, rfl⟩) (Nat.le_of_ble_eq_true rfl) (Nat.le_of_ble_eq_true rfl) ?_
                                      exact ⟨_, rfl, rfl, ⟨fun _ => by rw [← c19'''''''']; decide, fun _ => by decide⟩⟩
                                · refine aw_iload X dJ1_indexOfChar_4cfef_22 rfl ?_
                                  refine RTN (some (.int _)) _ _ _ _ _ dJ1_indexOfChar_4cfef_24 (⟨_, rfl⟩) (Nat.le_of_ble_eq_true rfl) (Nat.le_of_ble_eq_true rfl) ?_
                                  exact ⟨_, rfl, rfl, ⟨fun _ => by rw [← c19''''''']; decide, fun _ => by decide⟩⟩
                            · refine aw_iload X dJ1_indexOfChar_4cfef_22 rfl ?_
                              refine RTN (some (.int _)) _ _ _ _ _ dJ1_indexOfChar_4cfef_24 (⟨_, rfl⟩) (Nat.le_of_ble_eq_true rfl) (Nat.le_of_ble_eq_true rfl) ?_
                              exact ⟨_, rfl, rfl, ⟨fun _ => by rw [← c19'''''']; decide, fun _ => by decide⟩⟩
                        · refine aw_iload X dJ1_indexOfChar_4cfef_22 rfl ?_
                          refine RTN (some (.int _)) _ _ _ _ _ dJ1_indexOfChar_4cfef_24 (⟨_, rfl⟩) (Nat.le_of_ble_eq_true rfl) (Nat.le_of_ble_eq_true rfl) ?_
                          exact ⟨_, rfl, rfl, ⟨fun _ => by rw [← c19''''']; decide, fun _ => by decide⟩⟩
                    · refine aw_iload X dJ1_indexOfChar_4cfef_22 rfl ?_
                      refine RTN (some (.int _)) _ _ _ _ _ dJ1_indexOfChar_4cfef_24 (⟨_, rfl⟩) (Nat.le_of_ble_eq_true rfl) (Nat.le_of_ble_eq_true rfl) ?_
                      exact ⟨_, rfl, rfl, ⟨fun _ => by rw [← c19'''']; decide, fun _ => by decide⟩⟩
                · refine aw_iload X dJ1_indexOfChar_4cfef_22 rfl ?_
                  refine RTN (some (.int _)) _ _ _ _ _ dJ1_indexOfChar_4cfef_24 (⟨_, rfl⟩) (Nat.le_of_ble_eq_true rfl) (Nat.le_of_ble_eq_true rfl) ?_
                  exact ⟨_, rfl, rfl, ⟨fun _ => by rw [← c19''']; decide, fun _ => by decide⟩⟩
            · refine aw_iload X dJ1_indexOfChar_4cfef_22 rfl ?_
              refine RTN (some (.int _)) _ _ _ _ _ dJ1_indexOfChar_4cfef_24 (⟨_, rfl⟩) (Nat.le_of_ble_eq_true rfl) (Nat.le_of_ble_eq_true rfl) ?_
              exact ⟨_, rfl, rfl, ⟨fun _ => by rw [← c19'']; decide, fun _ => by decide⟩⟩
        · refine aw_iload X dJ1_indexOfChar_4cfef_22 rfl ?_
          refine RTN (some (.int _)) _ _ _ _ _ dJ1_indexOfChar_4cfef_24 (⟨_, rfl⟩) (Nat.le_of_ble_eq_true rfl) (Nat.le_of_ble_eq_true rfl) ?_
          exact ⟨_, rfl, rfl, ⟨fun _ => by rw [← c19']; decide, fun _ => by decide⟩⟩
    · refine aw_iload X dJ1_indexOfChar_4cfef_22 rfl ?_
      refine RTN (some (.int _)) _ _ _ _ _ dJ1_indexOfChar_4cfef_24 (⟨_, rfl⟩) (Nat.le_of_ble_eq_true rfl) (Nat.le_of_ble_eq_true rfl) ?_
      exact ⟨_, rfl, rfl, ⟨fun _ => by rw [← c19]; decide, fun _ => by decide⟩⟩
set_option maxRecDepth 100000 in
set_option maxHeartbeats 4000000 in
theorem kJ1_canEncode_9a6ad (G : GG) (l : Launch) (w : WM) (ch : Int32) (hc : bt ch 0 255) : MC G l yJ1_canEncode_9a6ad cJ1_canEncode_9a6ad 1 ((Option.some .boolean)) ({ frames := 0, cells := 0, slots := 0, locals := 0 } : Room) [.int ch] w (fun v w' => v = some (.int 1) ∧ w' = w) := by
  refine mf9_bool (by decide +kernel) (Nat.le_of_ble_eq_true rfl) rfl rfl ?_
  intro p e s m args below meth c A H0 Q X hnm RTN
  have X : Cx G p s m args meth c A H0 cJ1_canEncode_9a6ad 1 RJ1 := X
  refine aw_iload_n X dJ1_canEncode_9a6ad_0 rfl rfl ?_
  refine aw_if_lt (tgt := 15) X dJ1_canEncode_9a6ad_1 rfl (fun c1 => ?_) (fun c1 => ?_)
  · exfalso
    have hb := bt_iff.mp hc
    rw [i32_lt] at c1
    have e0 : (0 : Int32).toInt = 0 := rfl
    omega
  · refine aw_iload_n X dJ1_canEncode_9a6ad_4 rfl rfl ?_
    refine aw_sipush X dJ1_canEncode_9a6ad_5 cs_255 ?_
    refine aw_icmp_gt (tgt := 15) X dJ1_canEncode_9a6ad_8 rfl (fun c8 => ?_) (fun c8 => ?_)
    · exfalso
      have hb := bt_iff.mp hc
      rw [i32_lt] at c8
      have e0 : (255 : Int32).toInt = 255 := rfl
      omega
    · refine aw_iconst X dJ1_canEncode_9a6ad_11 ci_1 ?_
      refine aw_goto (tgt := 16) X dJ1_canEncode_9a6ad_12 rfl ?_
      refine RTN (some (.int _)) _ _ _ _ _ dJ1_canEncode_9a6ad_16 (by first | exact Or.inl rfl | exact Or.inr rfl) (Nat.le_of_ble_eq_true rfl) (Nat.le_of_ble_eq_true rfl) ?_
      exact ⟨rfl, rfl⟩
