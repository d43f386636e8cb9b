/-! the constant String searched; toString; equals -/
section MCB
variable {G : GG} {l : Launch} {y : MethodName} {cc : ByteArray} {maxL : Nat} {ret : Option FieldType} {rm : Room} {av : List Value} {w : WM} {post : Option Value → WM → Prop} {lv0 : List (Nat × Value)}
theorem mf9_byte (hy : plainFor y = true) (hs : (lg_sl av).length ≤ maxL) (hlv : lv_args 0 av = lv0) (hret : ret = some .byte)
    (body : ∀ (p : Program) (e : Env) (s : State) (m : MethodId) (args : Array Value) (below : List Frame) (meth : Method) (c : Code) (A : Nat → Prop) (H0 : Heap) (Q : State → Prop), Cx G p s m args meth c A H0 cc maxL y.cls → meth.name = y.name → RT G p l e rm s m args below meth c cc maxL A H0 Q .ireturn okBool post → AW G p l e rm s m args below meth c maxL A H0 Q w 0 0 0 lv0 []) : MC G l y cc maxL ret rm av w post := by
  refine mf9_of .ireturn okBool hy hs hlv ?_ body
  intro p e s m below meth c v H locs ls pc hx hb hr hk hdg hok hq hf
  rcases hok with rfl | rfl
  · exact W.zret hx hb (hr.trans hret) rfl hq hf hdg hk
  · exact W.zret hx hb (hr.trans hret) rfl hq hf hdg hk
end MCB
theorem i32_s0 (x : Int32) : x - 0 = x := by
  apply Int32.toInt_inj.mp
  rw [← Int.sub_zero x.toInt]
  exact ti_sub (a := x) (b := 0) (y := 0) rfl rfl (by have := Int32.toInt_lt x; have := Int32.le_toInt x; omega)
theorem c0n : (0 : Int32).toNatClampNeg = 0 := rfl
theorem k9_1 : (9 : Int32) >>> ((0 : Int32) &&& 31) = 9 := by decide
set_option maxRecDepth 100000 in
set_option maxHeartbeats 4000000 in
theorem kJ0_isLatin1_aae02 (G : GG) (l : Launch) (w : WM) : MC G l yJ0_isLatin1_aae02 cJ0_isLatin1_aae02 1 ((Option.some .boolean)) ({ frames := 0, cells := 0, slots := 0, locals := 0 } : Room) [.ref (gK G 0)] w (fun v w' => v = some (.int 1) ∧ w' = w) := by
  refine mf9_bool (by decide +kernel) (Nat.le_of_ble_eq_true rfl) rfl rfl ?_
  intro p e s m args below meth c A H0 Q X hnm RTN
  have X : Cx G p s m args meth c A H0 cJ0_isLatin1_aae02 1 RJ0 := X
  refine aw_getsC X fl_J0_38 dJ0_isLatin1_aae02_0 ?_
  refine aw_if_eq (tgt := 17) X dJ0_isLatin1_aae02_3 rfl (fun c3 => ?_) (fun c3 => ?_)
  · exact absurd c3 (by decide)
  · refine aw_aload_n X dJ0_isLatin1_aae02_6 rfl rfl ?_
    refine aw_getKc X (i := 0) (by decide) fl_J0_15 dJ0_isLatin1_aae02_7 ?_
    refine aw_if_ne (tgt := 17) X dJ0_isLatin1_aae02_10 rfl (fun c10 => ?_) (fun c10 => ?_)
    · exact absurd c10 (by decide)
    · refine aw_iconst X dJ0_isLatin1_aae02_13 ci_1 ?_
      refine aw_goto (tgt := 18) X dJ0_isLatin1_aae02_14 rfl ?_
      refine RTN (some (.int _)) _ _ _ _ _ dJ0_isLatin1_aae02_18 (by first | exact Or.inl rfl | exact Or.inr rfl) (Nat.le_of_ble_eq_true rfl) (Nat.le_of_ble_eq_true rfl) ?_
      exact ⟨rfl, rfl⟩
set_option maxRecDepth 100000 in
set_option maxHeartbeats 4000000 in
theorem kJ0_coder_7d493 (G : GG) (l : Launch) (w : WM) : MC G l yJ0_coder_7d493 cJ0_coder_7d493 1 ((Option.some .byte)) ({ frames := 0, cells := 0, slots := 0, locals := 0 } : Room) [.ref (gK G 0)] w (fun v w' => v = some (.int 0) ∧ w' = w) := by
  refine mf9_byte (by decide +kernel) (Nat.le_of_ble_eq_true rfl) rfl rfl ?_
  intro p e s m args below meth c A H0 Q X hnm RTN
  have X : Cx G p s m args meth c A H0 cJ0_coder_7d493 1 RJ0 := X
  refine aw_getsC X fl_J0_38 dJ0_coder_7d493_0 ?_
  refine aw_if_eq (tgt := 13) X dJ0_coder_7d493_3 rfl (fun c3 => ?_) (fun c3 => ?_)
  · exact absurd c3 (by decide)
  · refine aw_aload_n X dJ0_coder_7d493_6 rfl rfl ?_
    refine aw_getKc X (i := 0) (by decide) fl_J0_15 dJ0_coder_7d493_7 ?_
    refine aw_goto (tgt := 14) X dJ0_coder_7d493_10 rfl ?_
    refine RTN (some (.int _)) _ _ _ _ _ dJ0_coder_7d493_14 (by first | exact Or.inl rfl | exact Or.inr rfl) (Nat.le_of_ble_eq_true rfl) (Nat.le_of_ble_eq_true rfl) ?_
    exact ⟨rfl, rfl⟩
set_option maxRecDepth 100000 in
set_option maxHeartbeats 4000000 in
theorem kJ0_length_8abf5 (G : GG) (l : Launch) (w : WM) : MC G l yJ0_length_8abf5 cJ0_length_8abf5 1 ((Option.some .int)) ({ frames := 1, cells := 0, slots := 0, locals := 20 } : Room) [.ref (gK G 0)] w (fun v w' => v = some (.int 9) ∧ w' = w) := by
  refine mf9_int (by decide +kernel) (Nat.le_of_ble_eq_true rfl) rfl rfl ?_
  intro p e s m args below meth c A H0 Q X hnm RTN
  have X : Cx G p s m args meth c A H0 cJ0_length_8abf5 1 RJ0 := X
  refine aw_aload_n X dJ0_length_8abf5_0 rfl rfl ?_
  refine aw_getKv X (i := 0) (by decide) fl_J0_9 dJ0_length_8abf5_1 ?_
  refine aw_alenK (index := 0) (v := 9) X (i := 0) (by decide) (by decide) dJ0_length_8abf5_4 ?_
  refine aw_aload_n X dJ0_length_8abf5_5 rfl rfl ?_
  refine aw_callVK (i := 0) X (by decide) (kJ0_coder_7d493 _ _ _) okm_J0_coder_7d493 ml_J0_335 im_J0_coder_7d493 se_J0_J0_coder_7d493 rfl rfl (Nat.le_of_ble_eq_true rfl) ⟨Nat.le_of_ble_eq_true rfl, Nat.le_of_ble_eq_true rfl, Nat.le_of_ble_eq_true rfl, Nat.le_of_ble_eq_true rfl⟩ dJ0_length_8abf5_6 (fun v w2 hp => ?_)
  obtain ⟨rfl, hw9⟩ := hp
  have hw9 := hw9.symm
  subst hw9
  refine aw_ishr X dJ0_length_8abf5_9 ?_
  refine RTN (some (.int _)) _ _ _ _ _ dJ0_length_8abf5_10 (⟨_, rfl⟩) (Nat.le_of_ble_eq_true rfl) (Nat.le_of_ble_eq_true rfl) ?_
  exact ⟨by rw [k9_1], rfl⟩
theorem kmax00 (G : GG) (l : Launch) (w : WM) : MC G l yJ9_max_7cf53 cJ9_max_7cf53 2 ((Option.some .int)) ({ frames := 0, cells := 0, slots := 0, locals := 0 } : Room) [.int 0, .int 0] w (fun v w' => v = some (.int 0) ∧ w' = w) := by
  have h := kJ9_max_7cf53 G l w 0 0
  rw [if_neg (by decide)] at h
  exact h
theorem kmin99 (G : GG) (l : Launch) (w : WM) : MC G l yJ9_min_7cf53 cJ9_min_7cf53 2 ((Option.some .int)) ({ frames := 0, cells := 0, slots := 0, locals := 0 } : Room) [.int 9, .int 9] w (fun v w' => v = some (.int 9) ∧ w' = w) := by
  have h := kJ9_min_7cf53 G l w 9 9
  rw [if_neg (by decide)] at h
  exact h
theorem kminN (G : GG) (l : Launch) (w : WM) {N : Nat} (hN : N ≤ 15) : MC G l yJ9_min_7cf53 cJ9_min_7cf53 2 ((Option.some .int)) ({ frames := 0, cells := 0, slots := 0, locals := 0 } : Room) [.int (16 - 0), .int (nI N - 0)] w (fun v w' => v = some (.int (nI N)) ∧ w' = w) := by
  have h := kJ9_min_7cf53 G l w (16 - 0) (nI N - 0)
  rw [i32_s0, i32_s0, if_pos (by rw [i32_lt, nI_toInt (by omega)]; have e : (16 : Int32).toInt = 16 := rfl; omega)] at h
  rw [i32_s0, i32_s0]
  exact h
set_option maxRecDepth 100000 in
set_option maxHeartbeats 4000000 in
theorem kJ1_indexOf_4cfef (G : GG) (l : Launch) (w : WM) (ch : Int32) (hc : bt ch 0 255) : MC G l yJ1_indexOf_4cfef cJ1_indexOf_4cfef 4 ((Option.some .int)) ({ frames := 1, cells := 0, slots := 0, locals := 25 } : Room) [.ref (gV G 0), .int ch, .int 0, .int 9] w (fun v w' => ∃ r : Int32, v = some (.int r) ∧ w' = w ∧ (0 ≤ r ↔ ixu ch.toInt8.toInt32 = true)) := by
  refine mf9_int (by decide +kernel) (Nat.le_of_ble_eq_true rfl) rfl rfl ?_
  intro p e s m args below meth c A H0 Q X hnm RTN
  have X : Cx G p s m args meth c A H0 cJ1_indexOf_4cfef 4 RJ1 := X
  refine aw_iload_n X dJ1_indexOf_4cfef_0 rfl rfl ?_
  refine aw_callS X (kJ1_canEncode_9a6ad _ _ _ _ hc) okm_J1_canEncode_9a6ad ml_J1_88 st_J1_canEncode_9a6ad rfl rfl (Nat.le_of_ble_eq_true rfl) ⟨Nat.le_of_ble_eq_true rfl, Nat.le_of_ble_eq_true rfl, Nat.le_of_ble_eq_true rfl, Nat.le_of_ble_eq_true rfl⟩ dJ1_indexOf_4cfef_1 (fun v w2 hp => ?_)
  obtain ⟨rfl, hw9⟩ := hp
  have hw9 := hw9.symm
  subst hw9
  refine aw_if_ne (tgt := 9) X dJ1_indexOf_4cfef_4 rfl (fun c4 => ?_) (fun c4 => ?_)
  · refine aw_iload_n X dJ1_indexOf_4cfef_9 rfl rfl ?_
    refine aw_iconst X dJ1_indexOf_4cfef_10 ci_0 ?_
    refine aw_callS X (kmax00 _ _ _) okm_J9_max_7cf53 ml_J1_92 st_J9_max_7cf53 rfl rfl (Nat.le_of_ble_eq_true rfl) ⟨Nat.le_of_ble_eq_true rfl, Nat.le_of_ble_eq_true rfl, Nat.le_of_ble_eq_true rfl, Nat.le_of_ble_eq_true rfl⟩ dJ1_indexOf_4cfef_11 (fun v w2 hp => ?_)
    obtain ⟨rfl, hw9⟩ := hp
    have hw9 := hw9.symm
    subst hw9
    refine aw_istore_n (lv' := [(2, _), (0, _), (1, _), (3, _)]) X dJ1_indexOf_4cfef_14 rfl (by decide) rfl ?_
    refine aw_iload_n X dJ1_indexOf_4cfef_15 rfl rfl ?_
    refine aw_aload_n X dJ1_indexOf_4cfef_16 rfl rfl ?_
    refine aw_alenK (index := 0) (v := 9) X (i := 0) (by decide) (by decide) dJ1_indexOf_4cfef_17 ?_
    refine aw_callS X (kmin99 _ _ _) okm_J9_min_7cf53 ml_J1_38 st_J9_min_7cf53 rfl rfl (Nat.le_of_ble_eq_true rfl) ⟨Nat.le_of_ble_eq_true rfl, Nat.le_of_ble_eq_true rfl, Nat.le_of_ble_eq_true rfl, Nat.le_of_ble_eq_true rfl⟩ dJ1_indexOf_4cfef_18 (fun v w2 hp => ?_)
    obtain ⟨rfl, hw9⟩ := hp
    have hw9 := hw9.symm
    subst hw9
    refine aw_istore_n (lv' := [(3, _), (2, _), (0, _), (1, _)]) X dJ1_indexOf_4cfef_21 rfl (by decide) rfl ?_
    refine aw_iload_n X dJ1_indexOf_4cfef_22 rfl rfl ?_
    refine aw_iload_n X dJ1_indexOf_4cfef_23 rfl rfl ?_
    refine aw_icmp_lt (tgt := 29) X dJ1_indexOf_4cfef_24 rfl (fun c24 => ?_) (fun c24 => ?_)
    · refine aw_aload_n X dJ1_indexOf_4cfef_29 rfl rfl ?_
      refine aw_iload_n X dJ1_indexOf_4cfef_30 rfl rfl ?_
      refine aw_iload_n X dJ1_indexOf_4cfef_31 rfl rfl ?_
      refine aw_iload_n X dJ1_indexOf_4cfef_32 rfl rfl ?_
      refine aw_callS X (kJ1_indexOfChar_4cfef _ _ _ _) okm_J1_indexOfChar_4cfef ml_J1_95 st_J1_indexOfChar_4cfef rfl rfl (Nat.le_of_ble_eq_true rfl) ⟨Nat.le_of_ble_eq_true rfl, Nat.le_of_ble_eq_true rfl, Nat.le_of_ble_eq_true rfl, Nat.le_of_ble_eq_true rfl⟩ dJ1_indexOf_4cfef_33 (fun v w2 hp => ?_)
      obtain ⟨r9, rfl, hw9, hr9⟩ := hp
      have hw9 := hw9.symm
      subst hw9
      refine RTN (some (.int _)) _ _ _ _ _ dJ1_indexOf_4cfef_36 (⟨_, rfl⟩) (Nat.le_of_ble_eq_true rfl) (Nat.le_of_ble_eq_true rfl) ?_
      exact ⟨_, rfl, rfl, hr9⟩
    · exact absurd c24 (by decide)
  · exact absurd c4 (by decide)
set_option maxRecDepth 100000 in
set_option maxHeartbeats 4000000 in
theorem kJ0_indexOf_7cf53 (G : GG) (l : Launch) (w : WM) (ch : Int32) (hc : bt ch 0 255) : MC G l yJ0_indexOf_7cf53 cJ0_indexOf_7cf53 3 ((Option.some .int)) ({ frames := 5, cells := 0, slots := 0, locals := 116 } : Room) [.ref (gK G 0), .int ch, .int 0] w (fun v w' => ∃ r : Int32, v = some (.int r) ∧ w' = w ∧ (0 ≤ r ↔ ixu ch.toInt8.toInt32 = true)) := by
  refine mf9_int (by decide +kernel) (Nat.le_of_ble_eq_true rfl) rfl rfl ?_
  intro p e s m args below meth c A H0 Q X hnm RTN
  have X : Cx G p s m args meth c A H0 cJ0_indexOf_7cf53 3 RJ0 := X
  refine aw_aload_n X dJ0_indexOf_7cf53_0 rfl rfl ?_
  refine aw_callVK (i := 0) X (by decide) (kJ0_isLatin1_aae02 _ _ _) okm_J0_isLatin1_aae02 ml_J0_492 im_J0_isLatin1_aae02 se_J0_J0_isLatin1_aae02 rfl rfl (Nat.le_of_ble_eq_true rfl) ⟨Nat.le_of_ble_eq_true rfl, Nat.le_of_ble_eq_true rfl, Nat.le_of_ble_eq_true rfl, Nat.le_of_ble_eq_true rfl⟩ dJ0_indexOf_7cf53_1 (fun v w2 hp => ?_)
  obtain ⟨rfl, hw9⟩ := hp
  have hw9 := hw9.symm
  subst hw9
  refine aw_if_eq (tgt := 23) X dJ0_indexOf_7cf53_4 rfl (fun c4 => ?_) (fun c4 => ?_)
  · exact absurd c4 (by decide)
  · refine aw_aload_n X dJ0_indexOf_7cf53_7 rfl rfl ?_
    refine aw_getKv X (i := 0) (by decide) fl_J0_9 dJ0_indexOf_7cf53_8 ?_
    refine aw_iload_n X dJ0_indexOf_7cf53_11 rfl rfl ?_
    refine aw_iload_n X dJ0_indexOf_7cf53_12 rfl rfl ?_
    refine aw_aload_n X dJ0_indexOf_7cf53_13 rfl rfl ?_
    refine aw_callVK (i := 0) X (by decide) (kJ0_length_8abf5 _ _ _) okm_J0_length_8abf5 ml_J0_505 im_J0_length_8abf5 se_J0_J0_length_8abf5 rfl rfl (Nat.le_of_ble_eq_true rfl) ⟨Nat.le_of_ble_eq_true rfl, Nat.le_of_ble_eq_true rfl, Nat.le_of_ble_eq_true rfl, Nat.le_of_ble_eq_true rfl⟩ dJ0_indexOf_7cf53_14 (fun v w2 hp => ?_)
    obtain ⟨rfl, hw9⟩ := hp
    have hw9 := hw9.symm
    subst hw9
    refine aw_callS X (kJ1_indexOf_4cfef _ _ _ _ hc) okm_J1_indexOf_4cfef ml_J0_637 st_J1_indexOf_4cfef rfl rfl (Nat.le_of_ble_eq_true rfl) ⟨Nat.le_of_ble_eq_true rfl, Nat.le_of_ble_eq_true rfl, Nat.le_of_ble_eq_true rfl, Nat.le_of_ble_eq_true rfl⟩ dJ0_indexOf_7cf53_17 (fun v w2 hp => ?_)
    obtain ⟨r9, rfl, hw9, hr9⟩ := hp
    have hw9 := hw9.symm
    subst hw9
    refine aw_goto (tgt := 36) X dJ0_indexOf_7cf53_20 rfl ?_
    refine RTN (some (.int _)) _ _ _ _ _ dJ0_indexOf_7cf53_36 (⟨_, rfl⟩) (Nat.le_of_ble_eq_true rfl) (Nat.le_of_ble_eq_true rfl) ?_
    exact ⟨_, rfl, rfl, hr9⟩
set_option maxRecDepth 100000 in
set_option maxHeartbeats 4000000 in
theorem kJ0_indexOf_0f7a4 (G : GG) (l : Launch) (w : WM) (ch : Int32) (hc : bt ch 0 255) : MC G l yJ0_indexOf_0f7a4 cJ0_indexOf_0f7a4 2 ((Option.some .int)) ({ frames := 6, cells := 0, slots := 0, locals := 138 } : Room) [.ref (gK G 0), .int ch] w (fun v w' => ∃ r : Int32, v = some (.int r) ∧ w' = w ∧ (0 ≤ r ↔ ixu ch.toInt8.toInt32 = true)) := by
  refine mf9_int (by decide +kernel) (Nat.le_of_ble_eq_true rfl) rfl rfl ?_
  intro p e s m args below meth c A H0 Q X hnm RTN
  have X : Cx G p s m args meth c A H0 cJ0_indexOf_0f7a4 2 RJ0 := X
  refine aw_aload_n X dJ0_indexOf_0f7a4_0 rfl rfl ?_
  refine aw_iload_n X dJ0_indexOf_0f7a4_1 rfl rfl ?_
  refine aw_iconst X dJ0_indexOf_0f7a4_2 ci_0 ?_
  refine aw_callVK (i := 0) X (by decide) (kJ0_indexOf_7cf53 _ _ _ _ hc) okm_J0_indexOf_7cf53 ml_J0_633 im_J0_indexOf_7cf53 se_J0_J0_indexOf_7cf53 rfl rfl (Nat.le_of_ble_eq_true rfl) ⟨Nat.le_of_ble_eq_true rfl, Nat.le_of_ble_eq_true rfl, Nat.le_of_ble_eq_true rfl, Nat.le_of_ble_eq_true rfl⟩ dJ0_indexOf_0f7a4_3 (fun v w2 hp => ?_)
  obtain ⟨r9, rfl, hw9, hr9⟩ := hp
  have hw9 := hw9.symm
  subst hw9
  refine RTN (some (.int _)) _ _ _ _ _ dJ0_indexOf_0f7a4_6 (⟨_, rfl⟩) (Nat.le_of_ble_eq_true rfl) (Nat.le_of_ble_eq_true rfl) ?_
  exact ⟨_, rfl, rfl, hr9⟩
set_option maxRecDepth 100000 in
set_option maxHeartbeats 4000000 in
theorem kJ7_checkLength_df160 (G : GG) (l : Launch) (w : WM) (n : Int32) (h0 : 0 ≤ n) : MC G l yJ7_checkLength_df160 cJ7_checkLength_df160 2 (none) ({ frames := 0, cells := 0, slots := 0, locals := 0 } : Room) [.int 0, .int n] w (fun v w' => v = none ∧ w' = w) := by
  refine mf9_void (by decide +kernel) (Nat.le_of_ble_eq_true rfl) rfl rfl ?_
  intro p e s m args below meth c A H0 Q X hnm RTN
  have X : Cx G p s m args meth c A H0 cJ7_checkLength_df160 2 RJ7 := X
  refine aw_iload_n X dJ7_checkLength_df160_0 rfl rfl ?_
  refine aw_iload_n X dJ7_checkLength_df160_1 rfl rfl ?_
  refine aw_icmp_ge (tgt := 37) X dJ7_checkLength_df160_2 rfl (fun c2 => ?_) (fun c2 => ?_)
  · refine RTN (none) _ _ _ _ _ dJ7_checkLength_df160_37 (rfl) (Nat.le_of_ble_eq_true rfl) (Nat.le_of_ble_eq_true rfl) ?_
    exact ⟨rfl, rfl⟩
  · exact absurd h0 c2
set_option maxRecDepth 100000 in
set_option maxHeartbeats 4000000 in
theorem kJ7_copyOfRangeByte_39247 (G : GG) (l : Launch) (w : WM) (vb N : Nat) (hN : N ≤ 15) (f : Nat → Int32) (hV : w vb = some (.inl (gA G 1, 16, .inl f))) (hft : ∀ j, j < N → fits .byte (.int (f j)) = true) : MC G l yJ7_copyOfRangeByte_39247 cJ7_copyOfRangeByte_39247 5 ((Option.some (.array .byte))) ({ frames := 1, cells := 1, slots := 16, locals := 60 } : Room) [.ref vb, .int 0, .int (nI N)] w (fun v w' => ∃ q : Nat, v = some (.ref q) ∧ w q = none ∧ w' = wm_up w q (.inl (gA G 1, N, .inl (va_cpy f (fun _ => 0) 0 0 N)))) := by
  refine mf9_ref (by decide +kernel) (Nat.le_of_ble_eq_true rfl) rfl rfl (Or.inr ⟨_, rfl⟩) ?_
  intro p e s m args below meth c A H0 Q X hnm RTN
  have X : Cx G p s m args meth c A H0 cJ7_copyOfRangeByte_39247 5 RJ7 := X
  refine aw_iload_n X dJ7_copyOfRangeByte_39247_0 rfl rfl ?_
  refine aw_iload_n X dJ7_copyOfRangeByte_39247_1 rfl rfl ?_
  refine aw_callS X (kJ7_checkLength_df160 _ _ _ _ (nI_pos' (by omega))) okm_J7_checkLength_df160 ml_J7_343 st_J7_checkLength_df160 rfl rfl (Nat.le_of_ble_eq_true rfl) ⟨Nat.le_of_ble_eq_true rfl, Nat.le_of_ble_eq_true rfl, Nat.le_of_ble_eq_true rfl, Nat.le_of_ble_eq_true rfl⟩ dJ7_copyOfRangeByte_39247_2 (fun v w2 hp => ?_)
  obtain ⟨rfl, hw9⟩ := hp
  have hw9 := hw9.symm
  subst hw9
  refine aw_iload_n X dJ7_copyOfRangeByte_39247_5 rfl rfl ?_
  refine aw_iload_n X dJ7_copyOfRangeByte_39247_6 rfl rfl ?_
  refine aw_isub X dJ7_copyOfRangeByte_39247_7 ?_
  refine aw_istore_n (lv' := [(3, _), (0, _), (1, _), (2, _)]) X dJ7_copyOfRangeByte_39247_8 rfl (by decide) rfl ?_
  refine aw_iload_n X dJ7_copyOfRangeByte_39247_9 rfl rfl ?_
  refine aw_newb2 (n := N) X (by rw [i32_s0]; exact nI_pos (by omega)) (by rw [i32_s0]; exact nI_clamp (by omega)) (by omega) (Nat.le_refl 1) (by show 0 + N ≤ 16; omega) dJ7_copyOfRangeByte_39247_10 (fun q132 w133 hf134 hk135 hn136 he137 => ?_)
  have hk138 := (hn136 _ (ne_fr hV hf134)).trans hV
  refine aw_widen 1 16 (Nat.le_of_ble_eq_true rfl) (by show 0 + 0 + N ≤ 16; omega) ?_
  refine aw_astore (lv' := [(4, _), (3, _), (0, _), (1, _), (2, _)]) X dJ7_copyOfRangeByte_39247_12 (by decide) rfl ?_
  refine aw_aload_n X dJ7_copyOfRangeByte_39247_14 rfl rfl ?_
  refine aw_iload_n X dJ7_copyOfRangeByte_39247_15 rfl rfl ?_
  refine aw_aload X dJ7_copyOfRangeByte_39247_16 rfl ?_
  refine aw_iconst X dJ7_copyOfRangeByte_39247_18 ci_0 ?_
  refine aw_aload_n X dJ7_copyOfRangeByte_39247_19 rfl rfl ?_
  refine aw_alen X 1 hk138 rfl (v := 16) rfl dJ7_copyOfRangeByte_39247_20 ?_
  refine aw_iload_n X dJ7_copyOfRangeByte_39247_21 rfl rfl ?_
  refine aw_isub X dJ7_copyOfRangeByte_39247_22 ?_
  refine aw_iload_n X dJ7_copyOfRangeByte_39247_23 rfl rfl ?_
  refine aw_callS X (kminN _ _ _ hN) okm_J9_min_7cf53 ml_J7_304 st_J9_min_7cf53 rfl rfl (Nat.le_of_ble_eq_true rfl) ⟨Nat.le_of_ble_eq_true rfl, Nat.le_of_ble_eq_true rfl, Nat.le_of_ble_eq_true rfl, Nat.le_of_ble_eq_true rfl⟩ dJ7_copyOfRangeByte_39247_24 (fun v w2 hp => ?_)
  obtain ⟨rfl, hw9⟩ := hp
  have hw9 := hw9.symm
  subst hw9
  refine aw_copyi X 1 ml_J7_150 nat_copy st_copy in_Sys hk138 hk135 rfl rfl (by decide) (by decide) (nn_nI (by omega)) (by rw [nI_clamp (by omega), c0n]; omega) (by rw [nI_clamp (by omega), c0n]; omega) (fun j hj => by rw [nI_clamp (by omega)] at hj; rw [c0n, Nat.zero_add]; exact hft j hj) (Nat.le_of_ble_eq_true rfl) (Nat.le_of_ble_eq_true rfl) dJ7_copyOfRangeByte_39247_27 (fun w139 hk140 hn141 he142 => ?_)
  rw [nI_clamp (show N < 2 ^ 31 by omega), c0n] at hk140 he142
  have hk143 := (hn141 _ (ne_fr hV hf134)).trans hk138
  refine aw_aload X dJ7_copyOfRangeByte_39247_30 rfl ?_
  refine RTN (some _) _ _ _ _ _ dJ7_copyOfRangeByte_39247_32 (⟨some q132, rfl⟩) (Nat.le_of_ble_eq_true rfl) (Nat.le_of_ble_eq_true rfl) ?_
  exact ⟨q132, rfl, hf134, by rw [he142, he137, wm_up_up]⟩
set_option maxRecDepth 100000 in
set_option maxHeartbeats 4000000 in
theorem kJ7_copyOfRange_39247 (G : GG) (l : Launch) (w : WM) (vb N : Nat) (hN : N ≤ 15) (f : Nat → Int32) (hV : w vb = some (.inl (gA G 1, 16, .inl f))) (hft : ∀ j, j < N → fits .byte (.int (f j)) = true) : MC G l yJ7_copyOfRange_39247 cJ7_copyOfRange_39247 3 ((Option.some (.array .byte))) ({ frames := 2, cells := 1, slots := 16, locals := 84 } : Room) [.ref vb, .int 0, .int (nI N)] w (fun v w' => ∃ q : Nat, v = some (.ref q) ∧ w q = none ∧ w' = wm_up w q (.inl (gA G 1, N, .inl (va_cpy f (fun _ => 0) 0 0 N)))) := by
  refine mf9_ref (by decide +kernel) (Nat.le_of_ble_eq_true rfl) rfl rfl (Or.inr ⟨_, rfl⟩) ?_
  intro p e s m args below meth c A H0 Q X hnm RTN
  have X : Cx G p s m args meth c A H0 cJ7_copyOfRange_39247 3 RJ7 := X
  refine aw_iload_n X dJ7_copyOfRange_39247_0 rfl rfl ?_
  refine aw_if_ne (tgt := 10) X dJ7_copyOfRange_39247_1 rfl (fun c1 => ?_) (fun c1 => ?_)
  · exact absurd c1 (by decide)
  · refine aw_iload_n X dJ7_copyOfRange_39247_4 rfl rfl ?_
    refine aw_aload_n X dJ7_copyOfRange_39247_5 rfl rfl ?_
    refine aw_alen X 1 hV rfl (v := 16) rfl dJ7_copyOfRange_39247_6 ?_
    refine aw_icmp_eq (tgt := 17) X dJ7_copyOfRange_39247_7 rfl (fun c7 => ?_) (fun c7 => ?_)
    · exfalso
      have h9 : nI N = nI 16 := c7
      exact absurd (nI_inj (by omega) (by omega) h9) (by omega)
    · refine aw_aload_n X dJ7_copyOfRange_39247_10 rfl rfl ?_
      refine aw_iload_n X dJ7_copyOfRange_39247_11 rfl rfl ?_
      refine aw_iload_n X dJ7_copyOfRange_39247_12 rfl rfl ?_
      refine aw_callS X (kJ7_copyOfRangeByte_39247 _ _ _ _ _ hN _ hV hft) okm_J7_copyOfRangeByte_39247 ml_J7_339 st_J7_copyOfRangeByte_39247 rfl rfl (Nat.le_of_ble_eq_true rfl) ⟨Nat.le_of_ble_eq_true rfl, Nat.le_of_ble_eq_true rfl, Nat.le_of_ble_eq_true rfl, Nat.le_of_ble_eq_true rfl⟩ dJ7_copyOfRange_39247_13 (fun v w2 hp => ?_)
      obtain ⟨q144, rfl, hf145, hw146⟩ := hp
      have hk147 := (congrFun hw146 q144).trans wm_ups
      have hk148 := ((congrFun hw146 vb).trans (wm_upn (ne_fr hV hf145))).trans hV
      refine RTN (some _) _ _ _ _ _ dJ7_copyOfRange_39247_16 (⟨some q144, rfl⟩) (Nat.le_of_ble_eq_true rfl) (Nat.le_of_ble_eq_true rfl) ?_
      exact ⟨q144, rfl, hf145, hw146⟩
set_option maxRecDepth 100000 in
set_option maxHeartbeats 4000000 in
theorem kJ0_init_db425 (G : GG) (l : Launch) (w : WM) (o b vb N : Nat) (ml : Int32) (hN : N ≤ 15) (hB : w b = some (.inr (1, [.ref vb, .int 0, .int ml, .int (nI N)]))) (f : Nat → Int32) (hV : w vb = some (.inl (gA G 1, 16, .inl f))) (hft : ∀ j, j < N → fits .byte (.int (f j)) = true) (hO : w o = some (.inr (0, [.null, .int 0, .int 0, .int 0]))) : MC G l yJ0_init_db425 cJ0_init_db425 5 (none) ({ frames := 5, cells := 1, slots := 16, locals := 131 } : Room) [.ref o, .ref b, .null] w (fun v w' => v = none ∧ ∃ va : Nat, w va = none ∧ w' o = some (.inr (0, [.ref va, .int 0, .int 0, .int 0])) ∧ w' va = some (.inl (gA G 1, N, .inl (va_cpy f (fun _ => 0) 0 0 N))) ∧ ∀ q, q ≠ o → q ≠ va → w' q = w q) := by
  refine mf9_void (by decide +kernel) (Nat.le_of_ble_eq_true rfl) rfl rfl ?_
  intro p e s m args below meth c A H0 Q X hnm RTN
  have X : Cx G p s m args meth c A H0 cJ0_init_db425 5 RJ0 := X
  have hin : meth.name = "<init>" := hnm
  refine aw_aload_n X dJ0_init_db425_0 rfl rfl ?_
  refine aw_objInit X ml_J0_1 im_obj cd_obj (Nat.le_of_ble_eq_true rfl) (Nat.le_of_ble_eq_true rfl) dJ0_init_db425_1 ?_
  refine aw_aload_n X dJ0_init_db425_4 rfl rfl ?_
  refine aw_callV X (kJ5_getValue_6d5f1 _ _ _ _ _ _ _ hB) okm_J5_getValue_6d5f1 okJ4 hB ml_J0_552 im_J5_getValue_6d5f1 se_J4_J5_getValue_6d5f1 rfl rfl (Nat.le_of_ble_eq_true rfl) ⟨Nat.le_of_ble_eq_true rfl, Nat.le_of_ble_eq_true rfl, Nat.le_of_ble_eq_true rfl, Nat.le_of_ble_eq_true rfl⟩ dJ0_init_db425_5 (fun v w2 hp => ?_)
  obtain ⟨rfl, hw9⟩ := hp
  have hw9 := hw9.symm
  subst hw9
  refine aw_astore_n (lv' := [(3, _), (0, _), (1, _), (2, _)]) X dJ0_init_db425_8 rfl (by decide) rfl ?_
  refine aw_aload_n X dJ0_init_db425_9 rfl rfl ?_
  refine aw_callU (n := 0) (x := yJ5_length_8abf5) (owner := RJ5) X (kJ4_length_8abf5 _ _ _ _ _ _ _ hB) okm_J4_length_8abf5 okJ4 hB ml_J0_549 sm_J5_length_8abf5 (va_Decl.of (X.2.2.2.2.1 _ im_J5_length_8abf5) (X.2.2.2.2.1 _ okm_J5_length_8abf5.1)) (by decide) rfl im_J4_length_8abf5 se_J4_J5_length_8abf5_J4_length_8abf5 rfl rfl (Nat.le_of_ble_eq_true rfl) ⟨Nat.le_of_ble_eq_true rfl, Nat.le_of_ble_eq_true rfl, Nat.le_of_ble_eq_true rfl, Nat.le_of_ble_eq_true rfl⟩ dJ0_init_db425_10 (fun v w2 hp => ?_)
  obtain ⟨rfl, hw9⟩ := hp
  have hw9 := hw9.symm
  subst hw9
  refine aw_istore (lv' := [(4, _), (3, _), (0, _), (1, _), (2, _)]) X dJ0_init_db425_13 (by decide) rfl ?_
  refine aw_aload_n X dJ0_init_db425_15 rfl rfl ?_
  refine aw_callV X (kJ5_isLatin1_aae02 _ _ _ _ _ _ _ hB) okm_J5_isLatin1_aae02 okJ4 hB ml_J0_1047 im_J5_isLatin1_aae02 se_J4_J5_isLatin1_aae02 rfl rfl (Nat.le_of_ble_eq_true rfl) ⟨Nat.le_of_ble_eq_true rfl, Nat.le_of_ble_eq_true rfl, Nat.le_of_ble_eq_true rfl, Nat.le_of_ble_eq_true rfl⟩ dJ0_init_db425_16 (fun v w2 hp => ?_)
  obtain ⟨rfl, hw9⟩ := hp
  have hw9 := hw9.symm
  subst hw9
  refine aw_if_eq (tgt := 41) X dJ0_init_db425_19 rfl (fun c19 => ?_) (fun c19 => ?_)
  · exact absurd c19 (by decide)
  · refine aw_aload_n X dJ0_init_db425_22 rfl rfl ?_
    refine aw_iconst X dJ0_init_db425_23 ci_0 ?_
    refine aw_putF2 X hin okJ0 (k := 1) (fs' := [.null, .int 0, .int 0, .int 0]) hO (Nat.le_of_ble_eq_true rfl) fl_J0_15 (Or.inl rfl) rfl rfl (rfl ) ( rfl) (Nat.le_of_ble_eq_true rfl) rfl dJ0_init_db425_24 (fun w149 hk150 hn151 he152 => ?_)
    have hk153 := (hn151 _ (ne_ci hB hO (by decide))).trans hB
    have hk154 := (hn151 _ (Ne.symm (ne_oa hO hV))).trans hV
    refine aw_aload_n X dJ0_init_db425_27 rfl rfl ?_
    refine aw_aload_n X dJ0_init_db425_28 rfl rfl ?_
    refine aw_iconst X dJ0_init_db425_29 ci_0 ?_
    refine aw_iload X dJ0_init_db425_30 rfl ?_
    refine aw_callS X (kJ7_copyOfRange_39247 _ _ _ _ _ hN _ hk154 hft) okm_J7_copyOfRange_39247 ml_J0_54 st_J7_copyOfRange_39247 rfl rfl (Nat.le_of_ble_eq_true rfl) ⟨Nat.le_of_ble_eq_true rfl, Nat.le_of_ble_eq_true rfl, Nat.le_of_ble_eq_true rfl, Nat.le_of_ble_eq_true rfl⟩ dJ0_init_db425_32 (fun v w2 hp => ?_)
    obtain ⟨q155, rfl, hf156, hw157⟩ := hp
    have hk158 := (congrFun hw157 q155).trans wm_ups
    have hk159 := ((congrFun hw157 o).trans (wm_upn (ne_fr hk150 hf156))).trans hk150
    have hk160 := ((congrFun hw157 b).trans (wm_upn (ne_fr hk153 hf156))).trans hk153
    have hk161 := ((congrFun hw157 vb).trans (wm_upn (ne_fr hk154 hf156))).trans hk154
    refine aw_putF2 X hin okJ0 (k := 0) (fs' := [.ref q155, .int 0, .int 0, .int 0]) hk159 (Nat.le_of_ble_eq_true rfl) fl_J0_9 (Or.inl rfl) rfl rfl (rfl ) ( rfl) (Nat.le_of_ble_eq_true rfl) rfl dJ0_init_db425_35 (fun w162 hk163 hn164 he165 => ?_)
    have hk166 := (hn164 _ (ne_ci hk160 hk159 (by decide))).trans hk160
    have hk167 := (hn164 _ (Ne.symm (ne_oa hk159 hk161))).trans hk161
    have hk168 := (hn164 _ (Ne.symm (ne_oa hk159 hk158))).trans hk158
    refine aw_goto (tgt := 97) X dJ0_init_db425_38 rfl ?_
    refine RTN (none) _ _ _ _ _ dJ0_init_db425_97 (rfl) (Nat.le_of_ble_eq_true rfl) (Nat.le_of_ble_eq_true rfl) ?_
    have hov : o ≠ q155 := ne_oa hk163 hk168
    exact ⟨rfl, q155, by have h := hf156; rw [he152, wm_upn (Ne.symm hov)] at h; exact h, hk163, hk168, fun c h1 h2 => by rw [he165, wm_upn h1, hw157, wm_upn h2, he152, wm_upn h1]⟩
set_option maxRecDepth 100000 in
set_option maxHeartbeats 4000000 in
theorem kJ0_init_81219 (G : GG) (l : Launch) (w : WM) (o b vb N : Nat) (ml : Int32) (hN : N ≤ 15) (hB : w b = some (.inr (1, [.ref vb, .int 0, .int ml, .int (nI N)]))) (f : Nat → Int32) (hV : w vb = some (.inl (gA G 1, 16, .inl f))) (hft : ∀ j, j < N → fits .byte (.int (f j)) = true) (hO : w o = some (.inr (0, [.null, .int 0, .int 0, .int 0]))) : MC G l yJ0_init_81219 cJ0_init_81219 2 (none) ({ frames := 6, cells := 1, slots := 16, locals := 155 } : Room) [.ref o, .ref b] w (fun v w' => v = none ∧ ∃ va : Nat, w va = none ∧ w' o = some (.inr (0, [.ref va, .int 0, .int 0, .int 0])) ∧ w' va = some (.inl (gA G 1, N, .inl (va_cpy f (fun _ => 0) 0 0 N))) ∧ ∀ q, q ≠ o → q ≠ va → w' q = w q) := by
  refine mf9_void (by decide +kernel) (Nat.le_of_ble_eq_true rfl) rfl rfl ?_
  intro p e s m args below meth c A H0 Q X hnm RTN
  have X : Cx G p s m args meth c A H0 cJ0_init_81219 2 RJ0 := X
  have hin : meth.name = "<init>" := hnm
  refine aw_aload_n X dJ0_init_81219_0 rfl rfl ?_
  refine aw_aload_n X dJ0_init_81219_1 rfl rfl ?_
  refine aw_null X dJ0_init_81219_2 ?_
  refine aw_callI X (kJ0_init_db425 _ _ _ o _ _ _ _ hN hB _ hV hft hO) okm_J0_init_db425 rfl ml_J0_489 im_J0_init_db425 rfl rfl (Nat.le_of_ble_eq_true rfl) ⟨Nat.le_of_ble_eq_true rfl, Nat.le_of_ble_eq_true rfl, Nat.le_of_ble_eq_true rfl, Nat.le_of_ble_eq_true rfl⟩ dJ0_init_81219_3 (fun v w2 hp => ?_)
  obtain ⟨rfl, va169, hf170, hk171, hk172, hb173⟩ := hp
  have hk174 := (hb173 b (ne_ci hB hO (by decide)) (ne_fr hB hf170)).trans hB
  have hk175 := (hb173 vb (Ne.symm (ne_oa hO hV)) (ne_fr hV hf170)).trans hV
  refine RTN (none) _ _ _ _ _ dJ0_init_81219_6 (rfl) (Nat.le_of_ble_eq_true rfl) (Nat.le_of_ble_eq_true rfl) ?_
  exact ⟨rfl, va169, hf170, hk171, hk172, hb173⟩
set_option maxRecDepth 100000 in
set_option maxHeartbeats 4000000 in
theorem kJ4_toString_0e30d (G : GG) (l : Launch) (w : WM) (b vb N : Nat) (ml : Int32) (hN : N ≤ 15) (hB : w b = some (.inr (1, [.ref vb, .int 0, .int ml, .int (nI N)]))) (f : Nat → Int32) (hV : w vb = some (.inl (gA G 1, 16, .inl f))) (hft : ∀ j, j < N → fits .byte (.int (f j)) = true) : MC G l yJ4_toString_0e30d cJ4_toString_0e30d 1 ((Option.some (.object "java/lang/String"))) ({ frames := 7, cells := 2, slots := 20, locals := 176 } : Room) [.ref b] w (fun v w' => ∃ o va : Nat, v = some (.ref o) ∧ w o = none ∧ w va = none ∧ o ≠ va ∧ w' o = some (.inr (0, [.ref va, .int 0, .int 0, .int 0])) ∧ w' va = some (.inl (gA G 1, N, .inl (va_cpy f (fun _ => 0) 0 0 N))) ∧ ∀ q, q ≠ o → q ≠ va → w' q = w q) := by
  refine mf9_ref (by decide +kernel) (Nat.le_of_ble_eq_true rfl) rfl rfl (Or.inl ⟨_, rfl⟩) ?_
  intro p e s m args below meth c A H0 Q X hnm RTN
  have X : Cx G p s m args meth c A H0 cJ4_toString_0e30d 1 RJ4 := X
  refine aw_new2 X okJ0 cl_J4_18 is_J0 in_J0 rfl (Nat.le_of_ble_eq_true rfl) (Nat.le_of_ble_eq_true rfl) dJ4_toString_0e30d_0 (fun q176 w177 hf178 hk179 hn180 he181 => ?_)
  have hk182 := (hn180 _ (ne_fr hB hf178)).trans hB
  have hk183 := (hn180 _ (ne_fr hV hf178)).trans hV
  refine aw_dup X dJ4_toString_0e30d_3 rfl ?_
  refine aw_aload_n X dJ4_toString_0e30d_4 rfl rfl ?_
  refine aw_callI X (kJ0_init_81219 _ _ _ q176 _ _ _ _ hN hk182 _ hk183 hft hk179) okm_J0_init_81219 rfl ml_J4_137 im_J0_init_81219 rfl rfl (Nat.le_of_ble_eq_true rfl) ⟨Nat.le_of_ble_eq_true rfl, Nat.le_of_ble_eq_true rfl, Nat.le_of_ble_eq_true rfl, Nat.le_of_ble_eq_true rfl⟩ dJ4_toString_0e30d_5 (fun v w2 hp => ?_)
  obtain ⟨rfl, va184, hf185, hk186, hk187, hb188⟩ := hp
  have hk189 := (hb188 b (ne_ci hk182 hk179 (by decide)) (ne_fr hk182 hf185)).trans hk182
  have hk190 := (hb188 vb (Ne.symm (ne_oa hk179 hk183)) (ne_fr hk183 hf185)).trans hk183
  refine RTN (some _) _ _ _ _ _ dJ4_toString_0e30d_8 (⟨some q176, rfl⟩) (Nat.le_of_ble_eq_true rfl) (Nat.le_of_ble_eq_true rfl) ?_
  have hov : q176 ≠ va184 := ne_fr hk179 hf185
  exact ⟨q176, va184, rfl, hf178, by have h := hf185; rw [he181, wm_upn (Ne.symm hov)] at h; exact h, hov, hk186, hk187, fun c h1 h2 => by rw [hb188 c h1 h2, he181, wm_upn h1]⟩
set_option maxRecDepth 100000 in
set_option maxHeartbeats 4000000 in
theorem kJ1_equals_b5fdf (G : GG) (l : Launch) (w : WM) (va vb N K : Nat) (hN : N ≤ 60) (hK : K ≤ 60) (f g : Nat → Int32) (hF : w va = some (.inl (gA G 1, N, .inl f))) (hG : w vb = some (.inl (gA G 1, K, .inl g))) : MC G l yJ1_equals_b5fdf cJ1_equals_b5fdf 3 ((Option.some .boolean)) ({ frames := 0, cells := 0, slots := 0, locals := 0 } : Room) [.ref va, .ref vb] w (fun v w' => ∃ r : Int32, v = some (.int r) ∧ w' = w ∧ (r = 0 ∨ r = 1) ∧ (r = 1 ↔ N = K ∧ ∀ j, j < N → f j = g j)) := by
  refine mf9_bool (by decide +kernel) (Nat.le_of_ble_eq_true rfl) rfl rfl ?_
  intro p e s m args below meth c A H0 Q X hnm RTN
  have X : Cx G p s m args meth c A H0 cJ1_equals_b5fdf 3 RJ1 := X
  refine aw_aload_n X dJ1_equals_b5fdf_0 rfl rfl ?_
  refine aw_alen X 1 hF rfl (v := (nI N)) rfl dJ1_equals_b5fdf_1 ?_
  refine aw_aload_n X dJ1_equals_b5fdf_2 rfl rfl ?_
  refine aw_alen X 1 hG rfl (v := (nI K)) rfl dJ1_equals_b5fdf_3 ?_
  refine aw_icmp_ne (tgt := 34) X dJ1_equals_b5fdf_4 rfl (fun c4 => ?_) (fun c4 => ?_)
  · refine aw_iconst X dJ1_equals_b5fdf_34 ci_0 ?_
    refine RTN (some (.int _)) _ _ _ _ _ dJ1_equals_b5fdf_35 (by first | exact Or.inl rfl | exact Or.inr rfl) (Nat.le_of_ble_eq_true rfl) (Nat.le_of_ble_eq_true rfl) ?_
    refine ⟨_, rfl, rfl, Or.inl rfl, ⟨fun h => absurd h (by decide), fun h => ?_⟩⟩
    exfalso
    exact c4 (by rw [h.1])
  · refine aw_iconst X dJ1_equals_b5fdf_7 ci_0 ?_
    refine aw_istore_n (lv' := [(2, _), (0, _), (1, _)]) X dJ1_equals_b5fdf_8 rfl (by decide) rfl ?_
    have hNK : N = K := nI_inj (by omega) (by omega) c4
    have L : ∀ (nn : Nat) (i : Nat) (x : Int32), (x = nI i) → (i ≤ N) → (∀ j, j < i → f j = g j) → (N + 1 ≤ i + nn) → AW G p l e ({ frames := 0, cells := 0, slots := 0, locals := 0 } : Room) s m args below meth c 3 A H0 Q w 0 0 9 [(2, .int x), (0, .ref va), (1, .ref vb)] [] := by
      intro nn
      induction nn with
      | zero => intro i x hx h1 hj h2; exact absurd h2 (by omega)
      | succ nn ih =>
        intro i x hx h1 hj h2
        subst hx
        refine aw_iload_n X dJ1_equals_b5fdf_9 rfl rfl ?_
        refine aw_aload_n X dJ1_equals_b5fdf_10 rfl rfl ?_
        refine aw_alen X 1 hF rfl (v := (nI N)) rfl dJ1_equals_b5fdf_11 ?_
        refine aw_icmp_ge (tgt := 32) X dJ1_equals_b5fdf_12 rfl (fun c12 => ?_) (fun c12 => ?_)
        · have h9 : i = N := by have := (nI_leI (a := N) (b := i) (by omega) (by omega)).mp c12; omega
          refine aw_iconst X dJ1_equals_b5fdf_32 ci_1 ?_
          refine RTN (some (.int _)) _ _ _ _ _ dJ1_equals_b5fdf_33 (by first | exact Or.inl rfl | exact Or.inr rfl) (Nat.le_of_ble_eq_true rfl) (Nat.le_of_ble_eq_true rfl) ?_
          exact ⟨_, rfl, rfl, Or.inr rfl, ⟨fun _ => ⟨hNK, fun j hj9 => hj j (by omega)⟩, fun _ => rfl⟩⟩
        · have h9 : i < N := Nat.lt_of_not_le (fun h => c12 ((nI_leI (a := N) (b := i) (by omega) (by omega)).mpr h))
          refine aw_aload_n X dJ1_equals_b5fdf_15 rfl rfl ?_
          refine aw_iload_n X dJ1_equals_b5fdf_16 rfl rfl ?_
          refine aw_bald X hF (vp_in_nI h9 (by omega)) dJ1_equals_b5fdf_17 ?_
          refine aw_aload_n X dJ1_equals_b5fdf_18 rfl rfl ?_
          refine aw_iload_n X dJ1_equals_b5fdf_19 rfl rfl ?_
          refine aw_bald X hG (vp_in_nI (show i < K by omega) (by omega)) dJ1_equals_b5fdf_20 ?_
          refine aw_icmp_eq (tgt := 26) X dJ1_equals_b5fdf_21 rfl (fun c21 => ?_) (fun c21 => ?_)
          · refine aw_iinc (lv' := [(2, _), (0, _), (1, _)]) X dJ1_equals_b5fdf_26 rfl (iinc_1 _) (by decide) rfl ?_
            refine aw_goto (tgt := 9) X dJ1_equals_b5fdf_29 rfl ?_
            refine aw_lv [0, 1, 2] rfl ?_
            exact ih (i + 1) _ (nI_1 i) (by omega) (fun j hj9 => by by_cases hz : j = i; rw [hz]; rw [nI_clamp (by omega)] at c21; exact c21; exact hj j (by omega)) (by omega)
          · refine aw_iconst X dJ1_equals_b5fdf_24 ci_0 ?_
            refine RTN (some (.int _)) _ _ _ _ _ dJ1_equals_b5fdf_25 (by first | exact Or.inl rfl | exact Or.inr rfl) (Nat.le_of_ble_eq_true rfl) (Nat.le_of_ble_eq_true rfl) ?_
            refine ⟨_, rfl, rfl, Or.inl rfl, ⟨fun h => absurd h (by decide), fun h => ?_⟩⟩
            exfalso
            rw [nI_clamp (by omega)] at c21
            exact c21 (h.2 i h9)
    refine aw_lv [0, 1, 2] rfl ?_
    exact L (N + 1) 0 _ rfl (by omega) (fun j hj9 => absurd hj9 (by omega)) (by omega)
set_option maxRecDepth 100000 in
set_option maxHeartbeats 4000000 in
theorem kJ0_equals_9ea2d (G : GG) (l : Launch) (w : WM) (a b va vb N K : Nat) (hab : a ≠ b) (hN : N ≤ 60) (hK : K ≤ 60) (f g : Nat → Int32) (hA1 : w a = some (.inr (0, [.ref va, .int 0, .int 0, .int 0]))) (hB1 : w b = some (.inr (0, [.ref vb, .int 0, .int 0, .int 0]))) (hF : w va = some (.inl (gA G 1, N, .inl f))) (hG : w vb = some (.inl (gA G 1, K, .inl g))) : MC G l yJ0_equals_9ea2d cJ0_equals_9ea2d 3 ((Option.some .boolean)) ({ frames := 1, cells := 0, slots := 0, locals := 22 } : Room) [.ref a, .ref b] w (fun v w' => ∃ r : Int32, v = some (.int r) ∧ w' = w ∧ (r = 0 ∨ r = 1) ∧ (r = 1 ↔ N = K ∧ ∀ j, j < N → f j = g j)) := by
  refine mf9_bool (by decide +kernel) (Nat.le_of_ble_eq_true rfl) rfl rfl ?_
  intro p e s m args below meth c A H0 Q X hnm RTN
  have X : Cx G p s m args meth c A H0 cJ0_equals_9ea2d 3 RJ0 := X
  refine aw_aload_n X dJ0_equals_9ea2d_0 rfl rfl ?_
  refine aw_aload_n X dJ0_equals_9ea2d_1 rfl rfl ?_
  refine aw_acmp_ne (rx := (some a)) (ry := (some b)) (tgt := 7) X dJ0_equals_9ea2d_2 rfl (fun c2 => ?_) (fun c2 => ?_)
  · refine aw_aload_n X dJ0_equals_9ea2d_7 rfl rfl ?_
    refine aw_instS X okJ0 hB1 cl_J0_10 dJ0_equals_9ea2d_8 ?_
    refine aw_if_eq (tgt := 54) X dJ0_equals_9ea2d_11 rfl (fun c11 => ?_) (fun c11 => ?_)
    · exact absurd c11 (by decide)
    · refine aw_aload_n X dJ0_equals_9ea2d_14 rfl rfl ?_
      refine aw_castS X okJ0 hB1 cl_J0_10 dJ0_equals_9ea2d_15 ?_
      refine aw_astore_n (lv' := [(2, _), (0, _), (1, _)]) X dJ0_equals_9ea2d_18 rfl (by decide) rfl ?_
      refine aw_getsC X fl_J0_38 dJ0_equals_9ea2d_19 ?_
      refine aw_if_eq (tgt := 36) X dJ0_equals_9ea2d_22 rfl (fun c22 => ?_) (fun c22 => ?_)
      · exact absurd c22 (by decide)
      · refine aw_aload_n X dJ0_equals_9ea2d_25 rfl rfl ?_
        refine aw_get X okJ0 (k := 1) hA1 (Nat.le_of_ble_eq_true rfl) fl_J0_15 (Or.inl rfl) rfl dJ0_equals_9ea2d_26 ?_
        refine aw_aload_n X dJ0_equals_9ea2d_29 rfl rfl ?_
        refine aw_get X okJ0 (k := 1) hB1 (Nat.le_of_ble_eq_true rfl) fl_J0_15 (Or.inl rfl) rfl dJ0_equals_9ea2d_30 ?_
        refine aw_icmp_ne (tgt := 54) X dJ0_equals_9ea2d_33 rfl (fun c33 => ?_) (fun c33 => ?_)
        · exact absurd c33 (by decide)
        · refine aw_aload_n X dJ0_equals_9ea2d_36 rfl rfl ?_
          refine aw_get X okJ0 (k := 0) hA1 (Nat.le_of_ble_eq_true rfl) fl_J0_9 (Or.inl rfl) rfl dJ0_equals_9ea2d_37 ?_
          refine aw_aload_n X dJ0_equals_9ea2d_40 rfl rfl ?_
          refine aw_get X okJ0 (k := 0) hB1 (Nat.le_of_ble_eq_true rfl) fl_J0_9 (Or.inl rfl) rfl dJ0_equals_9ea2d_41 ?_
          refine aw_callS X (kJ1_equals_b5fdf _ _ _ va vb _ _ hN hK _ _ hF hG) okm_J1_equals_b5fdf ml_J0_541 st_J1_equals_b5fdf rfl rfl (Nat.le_of_ble_eq_true rfl) ⟨Nat.le_of_ble_eq_true rfl, Nat.le_of_ble_eq_true rfl, Nat.le_of_ble_eq_true rfl, Nat.le_of_ble_eq_true rfl⟩ dJ0_equals_9ea2d_44 (fun v w2 hp => ?_)
          obtain ⟨r9, rfl, hw9, hr0, hr9⟩ := hp
          have hw9 := hw9.symm
          subst hw9
          refine aw_if_eq (tgt := 54) X dJ0_equals_9ea2d_47 rfl (fun c47 => ?_) (fun c47 => ?_)
          · refine aw_iconst X dJ0_equals_9ea2d_54 ci_0 ?_
            refine RTN (some (.int _)) _ _ _ _ _ dJ0_equals_9ea2d_55 (by first | exact Or.inl rfl | exact Or.inr rfl) (Nat.le_of_ble_eq_true rfl) (Nat.le_of_ble_eq_true rfl) ?_
            refine ⟨_, rfl, rfl, Or.inl rfl, ⟨fun h => absurd h (by decide), fun h => ?_⟩⟩
            exfalso
            rw [hr9.mpr h] at c47
            exact absurd c47 (by decide)
          · refine aw_iconst X dJ0_equals_9ea2d_50 ci_1 ?_
            refine aw_goto (tgt := 55) X dJ0_equals_9ea2d_51 rfl ?_
            refine RTN (some (.int _)) _ _ _ _ _ dJ0_equals_9ea2d_55 (by first | exact Or.inl rfl | exact Or.inr rfl) (Nat.le_of_ble_eq_true rfl) (Nat.le_of_ble_eq_true rfl) ?_
            have h1 : r9 = 1 := hr0.resolve_left c47
            exact ⟨_, rfl, rfl, Or.inr rfl, ⟨fun _ => hr9.mp h1, fun _ => rfl⟩⟩
  · exact absurd (Option.some.inj c2) hab
