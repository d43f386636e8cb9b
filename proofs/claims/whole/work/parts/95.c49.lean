/-! the class's constructor -/
theorem nb_up {w w2 : WM} {a q : Nat} {e : va_E} (he : w2 = wm_up w q e) (h : w2 a = none) : w a = none := by
  rw [he] at h
  unfold wm_up at h
  by_cases hq : a = q
  · rw [if_pos hq] at h; cases h
  · rw [if_neg hq] at h; exact h
section AWQ
variable {G : GG} {p : Program} {l : Launch} {e : Env} {R : Room} {s : State} {m : MethodId} {args : Array Value} {below : List Frame} {meth : Method} {c : Code} {nL : Nat} {A : Nat → Prop} {H0 : Heap} {Q : State → Prop} {w : WM} {cells slots pc : Nat} {lv lv' : List (Nat × Value)} {rest st : List Value} {cc : ByteArray} {own : String} {n index : Nat}
theorem aw_newq (X : Cx G p s m args meth c A H0 cc nL own) (t0 : Nat) {E : String} {cA : ClassId} {i : Int32} (hl : Cond.classLink own index E ∈ lw_g) (hov : Cond.arrayOver (.object E) ∈ lw_x) (ht : (gT G)[t0]? = some (cA, .object E)) (hn : ¬ i < 0) (hN : i.toNatClampNeg = n) (hbytes : n * 4 ≤ 536870912) (hcells : cells + 1 ≤ R.cells) (hslots : slots + n ≤ R.slots) (hdg : decode cc pc = .ok (.anewarray index, 3))
    (kk : ∀ (q : Nat) (w2 : WM), w q = none → w2 q = some (rA cA n (fun _ => none)) → (∀ b, b ≠ q → w2 b = w b) → w2 = wm_up w q (rA cA n (fun _ => none)) → AW G p l e R s m args below meth c nL A H0 Q w2 (cells + 1) (slots + n) (pc + 3) lv (.ref q :: rest)) : AW G p l e R s m args below meth c nL A H0 Q w cells slots pc lv (.int i :: rest) := by
  intro H locs ls hP hA hS hl'
  refine va_newq (D := gD G) X.1 X.2.1 X.2.2.2.1 (X.2.2.2.2.1 _ hl) (va_AO.of (X.2.2.2.2.2.2.2.2.1 _ hov)) X.2.2.2.2.2.1 (wm_toP hP H.size) (wm_toD hA _) hS X.2.2.2.2.2.2.2.1 hn hN hbytes hcells hslots hdg (fun q cA1 H1 hK1 hP1 hD1 hS1 => ?_)
  have hsame : cA1 = cA := by
    obtain ⟨kA, comp, _, _, _, h1⟩ := (hK1.2 (gT G).length (cA1, .object E) (by simp)).2
    obtain ⟨kA2, comp2, _, _, _, h2⟩ := (X.2.2.2.2.2.1.2 t0 _ ht).2
    exact Option.some.inj (h1.symm.trans h2)
  subst hsame
  obtain ⟨h1, h2, h3⟩ := wm_push hP hP1 hD1
  exact kk q _ h2 wm_ups (fun b h => wm_upn h) rfl H1 locs ls h1 (wm_upA hA h3) hS1 hl'
end AWQ
set_option maxRecDepth 100000 in
set_option maxHeartbeats 4000000 in
theorem kJ5_init_d00df (G : GG) (l : Launch) (w : WM) (b : Nat) (hO : w b = some (.inr (1, [.null, .int 0, .int 0, .int 0]))) : MC G l yJ5_init_d00df cJ5_init_d00df 2 (none) ({ frames := 2, cells := 1, slots := 16, locals := 40 } : Room) [.ref b, .int 16] w (fun v w' => v = none ∧ ∃ va : Nat, w va = none ∧ w' b = some (.inr (1, [.ref va, .int 0, .int 0, .int 0])) ∧ w' va = some (.inl (gA G 1, 16, .inl (fun _ => 0))) ∧ ∀ q, q ≠ b → q ≠ va → w' q = w q) := by
  refine mf9_void (by decide +kernel) (Nat.le_of_ble_eq_true rfl) rfl rfl ?_
  intro p e s m args below meth c A H0 Q X hnm RTN
  have X : Cx G p s m args meth c A H0 cJ5_init_d00df 2 RJ5 := X
  have hin : meth.name = "<init>" := hnm
  refine aw_aload_n X dJ5_init_d00df_0 rfl rfl ?_
  refine aw_objInit X ml_J5_3 im_obj cd_obj (Nat.le_of_ble_eq_true rfl) (Nat.le_of_ble_eq_true rfl) dJ5_init_d00df_1 ?_
  refine aw_getsC X fl_J5_18 dJ5_init_d00df_4 ?_
  refine aw_if_eq (tgt := 25) X dJ5_init_d00df_7 rfl (fun c7 => ?_) (fun c7 => ?_)
  · exact absurd c7 (by decide)
  · refine aw_aload_n X dJ5_init_d00df_10 rfl rfl ?_
    refine aw_iload_n X dJ5_init_d00df_11 rfl rfl ?_
    refine aw_newb2 (n := 16) X (by decide) (by decide) (by decide) (Nat.le_of_ble_eq_true rfl) (Nat.le_of_ble_eq_true rfl) dJ5_init_d00df_12 (fun q101 w102 hf103 hk104 hn105 he106 => ?_)
    have hk107 := (hn105 _ (ne_fr hO hf103)).trans hO
    refine aw_put2 X okJ4 (k := 0) (fs' := [.ref q101, .int 0, .int 0, .int 0]) hk107 (Nat.le_of_ble_eq_true rfl) fl_J5_15 (Or.inl rfl) rfl (rfl ) ( rfl) (Nat.le_of_ble_eq_true rfl) rfl dJ5_init_d00df_14 (fun w108 hk109 hn110 he111 => ?_)
    have hk112 := (hn110 _ (Ne.symm (ne_fr hO hf103))).trans hk104
    refine aw_aload_n X dJ5_init_d00df_17 rfl rfl ?_
    refine aw_iconst X dJ5_init_d00df_18 ci_0 ?_
    refine aw_put2 X okJ4 (k := 1) (fs' := [.ref q101, .int 0, .int 0, .int 0]) hk109 (Nat.le_of_ble_eq_true rfl) fl_J5_22 (Or.inl rfl) rfl (rfl ) ( rfl) (Nat.le_of_ble_eq_true rfl) rfl dJ5_init_d00df_19 (fun w113 hk114 hn115 he116 => ?_)
    have hk117 := (hn115 _ (Ne.symm (ne_fr hO hf103))).trans hk112
    refine aw_goto (tgt := 38) X dJ5_init_d00df_22 rfl ?_
    refine RTN (none) _ _ _ _ _ dJ5_init_d00df_38 (rfl) (Nat.le_of_ble_eq_true rfl) (Nat.le_of_ble_eq_true rfl) ?_
    exact ⟨rfl, q101, hf103, hk114, hk117, fun q9 h1 h2 => by rw [he116, wm_upn h1, he111, wm_upn h1, he106, wm_upn h2]⟩
set_option maxRecDepth 100000 in
set_option maxHeartbeats 4000000 in
theorem kJ4_init_da8c8 (G : GG) (l : Launch) (w : WM) (b : Nat) (hO : w b = some (.inr (1, [.null, .int 0, .int 0, .int 0]))) : MC G l yJ4_init_da8c8 cJ4_init_da8c8 1 (none) ({ frames := 3, cells := 1, slots := 16, locals := 61 } : Room) [.ref b] w (fun v w' => v = none ∧ ∃ va : Nat, w va = none ∧ w' b = some (.inr (1, [.ref va, .int 0, .int 0, .int 0])) ∧ w' va = some (.inl (gA G 1, 16, .inl (fun _ => 0))) ∧ ∀ q, q ≠ b → q ≠ va → w' q = w q) := by
  refine mf9_void (by decide +kernel) (Nat.le_of_ble_eq_true rfl) rfl rfl ?_
  intro p e s m args below meth c A H0 Q X hnm RTN
  have X : Cx G p s m args meth c A H0 cJ4_init_da8c8 1 RJ4 := X
  have hin : meth.name = "<init>" := hnm
  refine aw_aload_n X dJ4_init_da8c8_0 rfl rfl ?_
  refine aw_bipush X dJ4_init_da8c8_1 cb_16 ?_
  refine aw_callI X (kJ5_init_d00df _ _ _ b hO) okm_J5_init_d00df rfl ml_J4_1 im_J5_init_d00df rfl rfl (Nat.le_of_ble_eq_true rfl) ⟨Nat.le_of_ble_eq_true rfl, Nat.le_of_ble_eq_true rfl, Nat.le_of_ble_eq_true rfl, Nat.le_of_ble_eq_true rfl⟩ dJ4_init_da8c8_3 (fun v w2 hp => ?_)
  obtain ⟨rfl, va118, hf119, hk120, hk121, hb122⟩ := hp
  refine RTN (none) _ _ _ _ _ dJ4_init_da8c8_6 (rfl) (Nat.le_of_ble_eq_true rfl) (Nat.le_of_ble_eq_true rfl) ?_
  exact ⟨rfl, va118, hf119, hk120, hk121, hb122⟩
set_option maxRecDepth 100000 in
set_option maxHeartbeats 4000000 in
theorem kX4_init (G : GG) (l : Launch) (w : WM) (o : Nat) (hO : w o = some (.inr (6, [.null, .int 0, .int 0]))) : MC G l yX4_init cX4_init 1 (none) ({ frames := 4, cells := 2, slots := 20, locals := 81 } : Room) [.ref o] w (fun v w' => v = none ∧ ∃ b vb : Nat, w b = none ∧ w vb = none ∧ w' o = some (.inr (6, [.ref b, .int 0, .int 0])) ∧ w' b = some (.inr (1, [.ref vb, .int 0, .int 0, .int 0])) ∧ w' vb = some (.inl (gA G 1, 16, .inl (fun _ => 0))) ∧ ∀ q, q ≠ o → q ≠ b → q ≠ vb → w' q = w q) := by
  refine mc_void (by decide) (Nat.le_of_ble_eq_true rfl) rfl rfl ?_
  intro p e s m args below meth c A H0 Q X hnm RTN
  have X : Cx G p s m args meth c A H0 cX4_init 1 RX4 := X
  have hin : meth.name = "<init>" := hnm
  refine aw_aload_n X dX4_init_0 rfl rfl ?_
  refine aw_objInit X ml_X4_3 im_obj cd_obj (Nat.le_of_ble_eq_true rfl) (Nat.le_of_ble_eq_true rfl) dX4_init_1 ?_
  refine aw_aload_n X dX4_init_4 rfl rfl ?_
  refine aw_new2 X okJ4 cl_X4_9 is_J4 in_J4 rfl (Nat.le_of_ble_eq_true rfl) (Nat.le_of_ble_eq_true rfl) dX4_init_5 (fun q123 w124 hf125 hk126 hn127 he128 => ?_)
  have hk129 := (hn127 _ (ne_fr hO hf125)).trans hO
  refine aw_dup X dX4_init_8 rfl ?_
  refine aw_callI X (kJ4_init_da8c8 _ _ _ q123 hk126) okm_J4_init_da8c8 rfl ml_X4_11 im_J4_init_da8c8 rfl rfl (Nat.le_of_ble_eq_true rfl) ⟨Nat.le_of_ble_eq_true rfl, Nat.le_of_ble_eq_true rfl, Nat.le_of_ble_eq_true rfl, Nat.le_of_ble_eq_true rfl⟩ dX4_init_9 (fun v w2 hp => ?_)
  obtain ⟨rfl, va130, hf131, hk132, hk133, hb134⟩ := hp
  have hk135 := (hb134 o (ne_fr hO hf125) (ne_fr hk129 hf131)).trans hk129
  refine aw_putF2 X hin okX4 (k := 0) (fs' := [.ref q123, .int 0, .int 0]) hk135 (Nat.le_of_ble_eq_true rfl) fl_X4_12 (Or.inl rfl) rfl rfl (rfl ) ( rfl) (Nat.le_of_ble_eq_true rfl) rfl dX4_init_12 (fun w136 hk137 hn138 he139 => ?_)
  have hk140 := (hn138 _ (Ne.symm (ne_fr hO hf125))).trans hk132
  have hk141 := (hn138 _ (Ne.symm (ne_oa hk135 hk133))).trans hk133
  refine RTN (none) _ _ _ _ _ dX4_init_15 (rfl) (Nat.le_of_ble_eq_true rfl) (Nat.le_of_ble_eq_true rfl) ?_
  exact ⟨rfl, q123, va130, hf125, nb_up he128 hf131, hk137, hk140, hk141, fun q9 h1 h2 h3 => by rw [he139, wm_upn h1, hb134 q9 h2 h3, he128, wm_upn h2]⟩
set_option maxRecDepth 100000 in
set_option maxHeartbeats 4000000 in
theorem kX0_init (G : GG) (l : Launch) (w : WM) (o : Nat) (hO : w o = some (.inr (2, [.int 0, .int 0, .int 0, .null, .int 0, .int 0, .null]))) : MC G l yX0_init cX0_init 1 (none) ({ frames := 1, cells := 2, slots := 10, locals := 20 } : Room) [.ref o] w (fun v w' => v = none ∧ ∃ b vb : Nat, w b = none ∧ w vb = none ∧ w' o = some (.inr (2, [.int 0, .int 0, .int 0, .ref b, .int 0, .int 0, .ref vb])) ∧ w' b = some (.inl (gA G 0, 2, .inl (fun _ => 0))) ∧ w' vb = some (.inl (gA G 0, 8, .inl (fun _ => 0))) ∧ ∀ q, q ≠ o → q ≠ b → q ≠ vb → w' q = w q) := by
  refine mc_void (by decide) (Nat.le_of_ble_eq_true rfl) rfl rfl ?_
  intro p e s m args below meth c A H0 Q X hnm RTN
  have X : Cx G p s m args meth c A H0 cX0_init 1 RX0 := X
  have hin : meth.name = "<init>" := hnm
  refine aw_aload_n X dX0_init_0 rfl rfl ?_
  refine aw_objInit X ml_X0_3 im_obj cd_obj (Nat.le_of_ble_eq_true rfl) (Nat.le_of_ble_eq_true rfl) dX0_init_1 ?_
  refine aw_aload_n X dX0_init_4 rfl rfl ?_
  refine aw_iconst X dX0_init_5 ci_2 ?_
  refine aw_newi2 (n := 2) X (by decide) (by decide) (by decide) (Nat.le_of_ble_eq_true rfl) (Nat.le_of_ble_eq_true rfl) dX0_init_6 (fun q142 w143 hf144 hk145 hn146 he147 => ?_)
  have hk148 := (hn146 _ (ne_fr hO hf144)).trans hO
  refine aw_putF2 X hin okX0 (k := 3) (fs' := [.int 0, .int 0, .int 0, .ref q142, .int 0, .int 0, .null]) hk148 (Nat.le_of_ble_eq_true rfl) fl_X0_9 (Or.inl rfl) rfl rfl (rfl ) ( rfl) (Nat.le_of_ble_eq_true rfl) rfl dX0_init_8 (fun w149 hk150 hn151 he152 => ?_)
  have hk153 := (hn151 _ (Ne.symm (ne_fr hO hf144))).trans hk145
  refine aw_aload_n X dX0_init_11 rfl rfl ?_
  refine aw_bipush X dX0_init_12 cb_8 ?_
  refine aw_newi2 (n := 8) X (by decide) (by decide) (by decide) (Nat.le_of_ble_eq_true rfl) (Nat.le_of_ble_eq_true rfl) dX0_init_14 (fun q154 w155 hf156 hk157 hn158 he159 => ?_)
  have hk160 := (hn158 _ (ne_fr hk150 hf156)).trans hk150
  have hk161 := (hn158 _ (ne_fr hk153 hf156)).trans hk153
  refine aw_putF2 X hin okX0 (k := 6) (fs' := [.int 0, .int 0, .int 0, .ref q142, .int 0, .int 0, .ref q154]) hk160 (Nat.le_of_ble_eq_true rfl) fl_X0_15 (Or.inl rfl) rfl rfl (rfl ) ( rfl) (Nat.le_of_ble_eq_true rfl) rfl dX0_init_16 (fun w162 hk163 hn164 he165 => ?_)
  have hk166 := (hn164 _ (Ne.symm (ne_fr hO hf144))).trans hk161
  have hk167 := (hn164 _ (Ne.symm (ne_fr hk150 hf156))).trans hk157
  refine RTN (none) _ _ _ _ _ dX0_init_19 (rfl) (Nat.le_of_ble_eq_true rfl) (Nat.le_of_ble_eq_true rfl) ?_
  exact ⟨rfl, q142, q154, hf144, nb_up he147 (nb_up he152 hf156), hk163, hk166, hk167, fun q9 h1 h2 h3 => by rw [he165, wm_upn h1, he159, wm_upn h3, he152, wm_upn h1, he147, wm_upn h2]⟩
theorem mI_1 (k : Nat) : mInit.1 k = 0 := rfl
theorem mI_2 (k : Nat) : mInit.2.1 k = 0 := rfl
theorem mI_3 (k : Nat) (h : k ≠ 23) : mInit.2.2 k = fun _ => 0 := by
  show va_up (va_up (va_up (va_up M00.2.2 23 _) 23 _) 23 _) 23 _ k = _
  rw [va_up_ne _ _ h, va_up_ne _ _ h, va_up_ne _ _ h, va_up_ne _ _ h]
  rfl
theorem mI_23 (i : Nat) (h : i < 4) : mInit.2.2 23 i = -1 := by
  have : ∀ i, i < 4 → mInit.2.2 23 i = -1 := by decide
  exact this i h
theorem mI_usd (u : Nat) : ¬ usd mInit u := by
  intro ⟨h1, h2, h3⟩
  have : ∀ u, u < 25 → 1 ≤ u → uA mInit (nI u) 8 = false := by decide
  rw [this u (by omega) h1] at h3
  cases h3
theorem mI_opn (k : Nat) : ¬ opn mInit k := by
  intro ⟨h1, h2⟩
  rw [mI_3 6 (by decide)] at h2
  exact absurd (show (0 : Int32) < 0 from h2) (by decide)
theorem mI_isr (r : Nat) : ¬ isr mInit r := by
  intro h
  have h : (r : Int) < 0 := h
  omega
theorem mI_lv {t i : Nat} (h : lvT mInit t i) : t ≤ 10 ∧ i = 0 := by
  by_cases ht : t ≤ 10
  · refine ⟨ht, ?_⟩
    have : ∀ t, t ≤ 10 → lvT mInit t i → i = 0 := by
      intro t ht h
      match t, ht, h with
      | 0, _, h | 1, _, h | 2, _, h | 3, _, h | 4, _, h | 5, _, h | 6, _, h | 7, _, h | 8, _, h | 9, _, h | 10, _, h => exact h.2
    exact this t ht h
  · exfalso
    match t, ht, h with
    | 11, _, h | 12, _, h => exact mI_usd _ h
    | 13, _, h => exact mI_opn _ h
    | 14, _, h => exact mI_opn _ h.1
    | 15, _, h | 16, _, h | 18, _, h | 19, _, h => exact mI_isr _ h.1
    | 17, _, h => exact mI_isr _ h
    | 20, _, h | 21, _, h => exact absurd h.2 (by rw [mI_23 _ h.1]; decide)
    | 22, _, h | 23, _, h => exact mI_opn _ h.1
    | n + 24, _, h => exact absurd h.1 (by omega)
theorem mI_sd : sdS mInit (fun _ _ _ => 0) := by
  refine ⟨fun k h => absurd h (mI_opn k), fun f _ j _ => ?_, ⟨by decide, by decide, fun h => absurd h (by decide)⟩, fun j h => ?_, fun r h => absurd h (mI_isr r), fun k h => absurd h (mI_opn k)⟩
  · rw [mI_3 37 (by decide)]
    show (0 : Int32) &&& 255 = 0
    decide
  · have h : (j : Int) < 0 := h
    omega
def adI (L : List Nat) : AD := fun t i => if i = 0 then L.getD t 0 else 0
theorem mI_rl {G : GG} {w : WM} {q0 q1 q2 q3 q4 q5 q6 q7 q8 q9 q10 : Nat} (hnd : [q0, q1, q2, q3, q4, q5, q6, q7, q8, q9, q10].Nodup)
    (h0 : w q0 = some (.inr (11, [.ref q1, .ref q2, .ref q3, .ref q4, .ref q5, .ref q6, .null, .int 0, .int 0, .int 0, .int 0, .int 0, .int 0])))
    (h1 : w q1 = some (rA (gA G 4) 8 (fun _ => none))) (h2 : w q2 = some (rA (gA G 4) 4 (fun _ => none))) (h3 : w q3 = some (rA (gA G 5) 8 (fun _ => none))) (h4 : w q4 = some (rA (gA G 6) 20 (fun _ => none)))
    (h5 : w q5 = some (.inr (6, [.ref q9, .int 0, .int 0]))) (h6 : w q6 = some (.inr (2, [.int 0, .int 0, .int 0, .ref q7, .int 0, .int 0, .ref q8])))
    (h7 : w q7 = some (.inl (gA G 0, 2, .inl (fun _ => 0)))) (h8 : w q8 = some (.inl (gA G 0, 8, .inl (fun _ => 0)))) (h9 : w q9 = some (.inr (1, [.ref q10, .int 0, .int 0, .int 0]))) (h10 : w q10 = some (.inl (gA G 1, 16, .inl (fun _ => 0)))) : ∃ (ad : AD) (gi : GI), ad 0 0 = q0 ∧ RLa G mInit ad gi w := by
  refine ⟨adI [q0, q1, q2, q3, q4, q5, q6, q7, q8, q9, q10], fun _ _ _ => 0, rfl, fun t i hl => ?_, fun t i t' i' hl hl' he => ?_, mI_sd⟩
  · obtain ⟨ht, rfl⟩ := mI_lv hl
    have eR : cR mInit (adI [q0, q1, q2, q3, q4, q5, q6, q7, q8, q9, q10]) = fun _ => none := by
      funext k
      unfold cR
      rw [mI_3 1 (by decide)]
      split <;> rfl
    have eG : cG mInit (adI [q0, q1, q2, q3, q4, q5, q6, q7, q8, q9, q10]) = fun _ => none := by
      funext k
      unfold cG
      rw [if_neg (fun h => absurd h.2 (by rw [mI_23 _ (by omega)]; decide))]
    have eS : cS mInit (adI [q0, q1, q2, q3, q4, q5, q6, q7, q8, q9, q10]) = fun _ => none := by
      funext k
      unfold cS
      rw [mI_3 6 (by decide)]
      exact if_neg (fun h => absurd (show (0 : Int32) < 0 from h.2) (by decide))
    have eF : cF mInit (adI [q0, q1, q2, q3, q4, q5, q6, q7, q8, q9, q10]) = fun _ => none := by
      funext k
      unfold cF
      exact if_neg (mI_isr k)
    match t, ht with
    | 0, _ => exact h0
    | 1, _ => show _ = some (rA (gA G 4) 8 (cR _ _)); rw [eR]; exact h1
    | 2, _ => show _ = some (rA (gA G 4) 4 (cG _ _)); rw [eG]; exact h2
    | 3, _ => show _ = some (rA (gA G 5) 8 (cS _ _)); rw [eS]; exact h3
    | 4, _ => show _ = some (rA (gA G 6) 20 (cF _ _)); rw [eF]; exact h4
    | 5, _ => exact h5
    | 6, _ => exact h6
    | 7, _ => show _ = some (Sum.inl (gA G 0, 2, Sum.inl (mInit.2.2 42))); rw [mI_3 42 (by decide)]; exact h7
    | 8, _ => show _ = some (Sum.inl (gA G 0, 8, Sum.inl (mInit.2.2 43))); rw [mI_3 43 (by decide)]; exact h8
    | 9, _ => exact h9
    | 10, _ => exact h10
  · obtain ⟨ht, rfl⟩ := mI_lv hl
    obtain ⟨ht', rfl⟩ := mI_lv hl'
    refine Or.inl ⟨?_, rfl⟩
    have g : ∀ t, t ≤ 10 → [q0, q1, q2, q3, q4, q5, q6, q7, q8, q9, q10][t]? = some (adI [q0, q1, q2, q3, q4, q5, q6, q7, q8, q9, q10] t 0) := by
      intro t ht
      match t, ht with
      | 0, _ | 1, _ | 2, _ | 3, _ | 4, _ | 5, _ | 6, _ | 7, _ | 8, _ | 9, _ | 10, _ => rfl
    have e1 := g t ht
    have e2 := g t' ht'
    rw [he] at e1
    exact (List.getElem?_inj (by show t < 11; omega) hnd).mp (e1.trans e2.symm)
theorem ne_cl {w : WM} {a b n k : Nat} {c d : ClassId} {x y : (Nat → Int32) ⊕ (Nat → Int64) ⊕ (Nat → UInt32) ⊕ (Nat → UInt64) ⊕ (Nat → Option Nat)} (h1 : w a = some (.inl (c, n, x))) (h2 : w b = some (.inl (d, k, y))) (h : n ≠ k := by decide) : a ≠ b := by
  intro z
  rw [z, h2] at h1
  have := Sum.inl.inj (Option.some.inj h1)
  exact h (congrArg (fun q => q.2.1) this).symm
set_option maxRecDepth 100000 in
set_option maxHeartbeats 4000000 in
theorem kX10_init (G : GG) (l : Launch) (w : WM) (o : Nat) (hO : w o = some (.inr (11, [.null, .null, .null, .null, .null, .null, .null, .int 0, .int 0, .int 0, .int 0, .int 0, .int 0]))) : MC G l yX10_init cX10_init 1 (none) ({ frames := 5, cells := 12, slots := 80, locals := 101 } : Room) [.ref o] w (fun v w' => v = none ∧ ∃ (ad : AD) (gi : GI), ad 0 0 = o ∧ RLa G mInit ad gi w') := by
  refine mc_void (by decide) (Nat.le_of_ble_eq_true rfl) rfl rfl ?_
  intro p e s m args below meth c A H0 Q X hnm RTN
  have X : Cx G p s m args meth c A H0 cX10_init 1 RX10 := X
  have hin : meth.name = "<init>" := hnm
  refine aw_aload_n X dX10_init_0 rfl rfl ?_
  refine aw_objInit X ml_X10_3 im_obj cd_obj (Nat.le_of_ble_eq_true rfl) (Nat.le_of_ble_eq_true rfl) dX10_init_1 ?_
  refine aw_aload_n X dX10_init_4 rfl rfl ?_
  refine aw_bipush X dX10_init_5 cb_8 ?_
  refine aw_newq (n := 8) X 4 cl_X10_11 ao_X2 rfl (by decide) (by decide) (by decide) (Nat.le_of_ble_eq_true rfl) (Nat.le_of_ble_eq_true rfl) dX10_init_7 (fun q168 w169 hf170 hk171 hn172 he173 => ?_)
  have hk174 := (hn172 _ (ne_fr hO hf170)).trans hO
  refine aw_putF2 X hin okX10 (k := 0) (fs' := [.ref q168, .null, .null, .null, .null, .null, .null, .int 0, .int 0, .int 0, .int 0, .int 0, .int 0]) hk174 (Nat.le_of_ble_eq_true rfl) fl_X10_13 (Or.inl rfl) rfl rfl (rfl ) ( rfl) (Nat.le_of_ble_eq_true rfl) rfl dX10_init_10 (fun w175 hk176 hn177 he178 => ?_)
  have hk179 := (hn177 _ (Ne.symm (ne_fr hO hf170))).trans hk171
  refine aw_aload_n X dX10_init_13 rfl rfl ?_
  refine aw_iconst X dX10_init_14 ci_4 ?_
  refine aw_newq (n := 4) X 4 cl_X10_11 ao_X2 rfl (by decide) (by decide) (by decide) (Nat.le_of_ble_eq_true rfl) (Nat.le_of_ble_eq_true rfl) dX10_init_15 (fun q180 w181 hf182 hk183 hn184 he185 => ?_)
  have hk186 := (hn184 _ (ne_fr hk176 hf182)).trans hk176
  have hk187 := (hn184 _ (ne_fr hk179 hf182)).trans hk179
  refine aw_putF2 X hin okX10 (k := 1) (fs' := [.ref q168, .ref q180, .null, .null, .null, .null, .null, .int 0, .int 0, .int 0, .int 0, .int 0, .int 0]) hk186 (Nat.le_of_ble_eq_true rfl) fl_X10_17 (Or.inl rfl) rfl rfl (rfl ) ( rfl) (Nat.le_of_ble_eq_true rfl) rfl dX10_init_18 (fun w188 hk189 hn190 he191 => ?_)
  have hk192 := (hn190 _ (Ne.symm (ne_fr hO hf170))).trans hk187
  have hk193 := (hn190 _ (Ne.symm (ne_fr hk176 hf182))).trans hk183
  refine aw_aload_n X dX10_init_21 rfl rfl ?_
  refine aw_bipush X dX10_init_22 cb_8 ?_
  refine aw_newq (n := 8) X 5 cl_X10_20 ao_X9 rfl (by decide) (by decide) (by decide) (Nat.le_of_ble_eq_true rfl) (Nat.le_of_ble_eq_true rfl) dX10_init_24 (fun q194 w195 hf196 hk197 hn198 he199 => ?_)
  have hk200 := (hn198 _ (ne_fr hk189 hf196)).trans hk189
  have hk201 := (hn198 _ (ne_fr hk192 hf196)).trans hk192
  have hk202 := (hn198 _ (ne_fr hk193 hf196)).trans hk193
  refine aw_putF2 X hin okX10 (k := 2) (fs' := [.ref q168, .ref q180, .ref q194, .null, .null, .null, .null, .int 0, .int 0, .int 0, .int 0, .int 0, .int 0]) hk200 (Nat.le_of_ble_eq_true rfl) fl_X10_22 (Or.inl rfl) rfl rfl (rfl ) ( rfl) (Nat.le_of_ble_eq_true rfl) rfl dX10_init_27 (fun w203 hk204 hn205 he206 => ?_)
  have hk207 := (hn205 _ (Ne.symm (ne_fr hO hf170))).trans hk201
  have hk208 := (hn205 _ (Ne.symm (ne_fr hk176 hf182))).trans hk202
  have hk209 := (hn205 _ (Ne.symm (ne_fr hk189 hf196))).trans hk197
  refine aw_aload_n X dX10_init_30 rfl rfl ?_
  refine aw_bipush X dX10_init_31 cb_20 ?_
  refine aw_newq (n := 20) X 6 cl_X10_26 ao_X6 rfl (by decide) (by decide) (by decide) (Nat.le_of_ble_eq_true rfl) (Nat.le_of_ble_eq_true rfl) dX10_init_33 (fun q210 w211 hf212 hk213 hn214 he215 => ?_)
  have hk216 := (hn214 _ (ne_fr hk204 hf212)).trans hk204
  have hk217 := (hn214 _ (ne_fr hk207 hf212)).trans hk207
  have hk218 := (hn214 _ (ne_fr hk208 hf212)).trans hk208
  have hk219 := (hn214 _ (ne_fr hk209 hf212)).trans hk209
  refine aw_putF2 X hin okX10 (k := 3) (fs' := [.ref q168, .ref q180, .ref q194, .ref q210, .null, .null, .null, .int 0, .int 0, .int 0, .int 0, .int 0, .int 0]) hk216 (Nat.le_of_ble_eq_true rfl) fl_X10_28 (Or.inl rfl) rfl rfl (rfl ) ( rfl) (Nat.le_of_ble_eq_true rfl) rfl dX10_init_36 (fun w220 hk221 hn222 he223 => ?_)
  have hk224 := (hn222 _ (Ne.symm (ne_fr hO hf170))).trans hk217
  have hk225 := (hn222 _ (Ne.symm (ne_fr hk176 hf182))).trans hk218
  have hk226 := (hn222 _ (Ne.symm (ne_fr hk189 hf196))).trans hk219
  have hk227 := (hn222 _ (Ne.symm (ne_fr hk204 hf212))).trans hk213
  refine aw_aload_n X dX10_init_39 rfl rfl ?_
  refine aw_new2 X okX4 cl_X10_32 is_X4 in_X4 rfl (Nat.le_of_ble_eq_true rfl) (Nat.le_of_ble_eq_true rfl) dX10_init_40 (fun q228 w229 hf230 hk231 hn232 he233 => ?_)
  have hk234 := (hn232 _ (ne_fr hk221 hf230)).trans hk221
  have hk235 := (hn232 _ (ne_fr hk224 hf230)).trans hk224
  have hk236 := (hn232 _ (ne_fr hk225 hf230)).trans hk225
  have hk237 := (hn232 _ (ne_fr hk226 hf230)).trans hk226
  have hk238 := (hn232 _ (ne_fr hk227 hf230)).trans hk227
  refine aw_dup X dX10_init_43 rfl ?_
  refine aw_callI X (kX4_init _ _ _ q228 hk231) okm_X4_init rfl ml_X10_34 im_X4_init rfl rfl (Nat.le_of_ble_eq_true rfl) ⟨Nat.le_of_ble_eq_true rfl, Nat.le_of_ble_eq_true rfl, Nat.le_of_ble_eq_true rfl, Nat.le_of_ble_eq_true rfl⟩ dX10_init_44 (fun v w2 hp => ?_)
  obtain ⟨rfl, va239, va240, hf241, hf242, hk243, hk244, hk245, hb246⟩ := hp
  have hk247 := (hb246 o (ne_fr hk221 hf230) (ne_fr hk234 hf241) (ne_fr hk234 hf242)).trans hk234
  have hk248 := (hb246 q168 (ne_fr hk224 hf230) (ne_fr hk235 hf241) (ne_fr hk235 hf242)).trans hk235
  have hk249 := (hb246 q180 (ne_fr hk225 hf230) (ne_fr hk236 hf241) (ne_fr hk236 hf242)).trans hk236
  have hk250 := (hb246 q194 (ne_fr hk226 hf230) (ne_fr hk237 hf241) (ne_fr hk237 hf242)).trans hk237
  have hk251 := (hb246 q210 (ne_fr hk227 hf230) (ne_fr hk238 hf241) (ne_fr hk238 hf242)).trans hk238
  refine aw_putF2 X hin okX10 (k := 4) (fs' := [.ref q168, .ref q180, .ref q194, .ref q210, .ref q228, .null, .null, .int 0, .int 0, .int 0, .int 0, .int 0, .int 0]) hk247 (Nat.le_of_ble_eq_true rfl) fl_X10_35 (Or.inl rfl) rfl rfl (rfl ) ( rfl) (Nat.le_of_ble_eq_true rfl) rfl dX10_init_47 (fun w252 hk253 hn254 he255 => ?_)
  have hk256 := (hn254 _ (Ne.symm (ne_fr hO hf170))).trans hk248
  have hk257 := (hn254 _ (Ne.symm (ne_fr hk176 hf182))).trans hk249
  have hk258 := (hn254 _ (Ne.symm (ne_fr hk189 hf196))).trans hk250
  have hk259 := (hn254 _ (Ne.symm (ne_fr hk204 hf212))).trans hk251
  have hk260 := (hn254 _ (Ne.symm (ne_fr hk221 hf230))).trans hk243
  have hk261 := (hn254 _ (ne_ci hk244 hk247 (by decide))).trans hk244
  have hk262 := (hn254 _ (Ne.symm (ne_oa hk247 hk245))).trans hk245
  refine aw_aload_n X dX10_init_50 rfl rfl ?_
  refine aw_new2 X okX0 cl_X10_39 is_X0 in_X0 rfl (Nat.le_of_ble_eq_true rfl) (Nat.le_of_ble_eq_true rfl) dX10_init_51 (fun q263 w264 hf265 hk266 hn267 he268 => ?_)
  have hk269 := (hn267 _ (ne_fr hk253 hf265)).trans hk253
  have hk270 := (hn267 _ (ne_fr hk256 hf265)).trans hk256
  have hk271 := (hn267 _ (ne_fr hk257 hf265)).trans hk257
  have hk272 := (hn267 _ (ne_fr hk258 hf265)).trans hk258
  have hk273 := (hn267 _ (ne_fr hk259 hf265)).trans hk259
  have hk274 := (hn267 _ (ne_fr hk260 hf265)).trans hk260
  have hk275 := (hn267 _ (ne_fr hk261 hf265)).trans hk261
  have hk276 := (hn267 _ (ne_fr hk262 hf265)).trans hk262
  refine aw_dup X dX10_init_54 rfl ?_
  refine aw_callI X (kX0_init _ _ _ q263 hk266) okm_X0_init rfl ml_X10_41 im_X0_init rfl rfl (Nat.le_of_ble_eq_true rfl) ⟨Nat.le_of_ble_eq_true rfl, Nat.le_of_ble_eq_true rfl, Nat.le_of_ble_eq_true rfl, Nat.le_of_ble_eq_true rfl⟩ dX10_init_55 (fun v w2 hp => ?_)
  obtain ⟨rfl, va277, va278, hf279, hf280, hk281, hk282, hk283, hb284⟩ := hp
  have hk285 := (hb284 o (ne_fr hk253 hf265) (ne_fr hk269 hf279) (ne_fr hk269 hf280)).trans hk269
  have hk286 := (hb284 q168 (ne_fr hk256 hf265) (ne_fr hk270 hf279) (ne_fr hk270 hf280)).trans hk270
  have hk287 := (hb284 q180 (ne_fr hk257 hf265) (ne_fr hk271 hf279) (ne_fr hk271 hf280)).trans hk271
  have hk288 := (hb284 q194 (ne_fr hk258 hf265) (ne_fr hk272 hf279) (ne_fr hk272 hf280)).trans hk272
  have hk289 := (hb284 q210 (ne_fr hk259 hf265) (ne_fr hk273 hf279) (ne_fr hk273 hf280)).trans hk273
  have hk290 := (hb284 q228 (ne_fr hk260 hf265) (ne_fr hk274 hf279) (ne_fr hk274 hf280)).trans hk274
  have hk291 := (hb284 va239 (ne_fr hk261 hf265) (ne_fr hk275 hf279) (ne_fr hk275 hf280)).trans hk275
  have hk292 := (hb284 va240 (ne_fr hk262 hf265) (ne_fr hk276 hf279) (ne_fr hk276 hf280)).trans hk276
  refine aw_putF2 X hin okX10 (k := 5) (fs' := [.ref q168, .ref q180, .ref q194, .ref q210, .ref q228, .ref q263, .null, .int 0, .int 0, .int 0, .int 0, .int 0, .int 0]) hk285 (Nat.le_of_ble_eq_true rfl) fl_X10_42 (Or.inl rfl) rfl rfl (rfl ) ( rfl) (Nat.le_of_ble_eq_true rfl) rfl dX10_init_58 (fun w293 hk294 hn295 he296 => ?_)
  have hk297 := (hn295 _ (Ne.symm (ne_fr hO hf170))).trans hk286
  have hk298 := (hn295 _ (Ne.symm (ne_fr hk176 hf182))).trans hk287
  have hk299 := (hn295 _ (Ne.symm (ne_fr hk189 hf196))).trans hk288
  have hk300 := (hn295 _ (Ne.symm (ne_fr hk204 hf212))).trans hk289
  have hk301 := (hn295 _ (Ne.symm (ne_fr hk221 hf230))).trans hk290
  have hk302 := (hn295 _ (ne_ci hk291 hk285 (by decide))).trans hk291
  have hk303 := (hn295 _ (Ne.symm (ne_oa hk285 hk292))).trans hk292
  have hk304 := (hn295 _ (Ne.symm (ne_fr hk253 hf265))).trans hk281
  have hk305 := (hn295 _ (Ne.symm (ne_oa hk285 hk282))).trans hk282
  have hk306 := (hn295 _ (Ne.symm (ne_oa hk285 hk283))).trans hk283
  refine RTN (none) _ _ _ _ _ dX10_init_61 (rfl) (Nat.le_of_ble_eq_true rfl) (Nat.le_of_ble_eq_true rfl) ?_
  have n0_1 : o ≠ q168 := (ne_fr hO hf170)
  have n0_2 : o ≠ q180 := (ne_fr hk176 hf182)
  have n0_3 : o ≠ q194 := (ne_fr hk189 hf196)
  have n0_4 : o ≠ q210 := (ne_fr hk204 hf212)
  have n0_5 : o ≠ q228 := (ne_fr hk221 hf230)
  have n0_6 : o ≠ q263 := (ne_fr hk253 hf265)
  have n0_7 : o ≠ va277 := (ne_oa hk294 hk305)
  have n0_8 : o ≠ va278 := (ne_oa hk294 hk306)
  have n0_9 : o ≠ va239 := (ne_ci hk294 hk302 (by decide))
  have n0_10 : o ≠ va240 := (ne_oa hk294 hk303)
  have n1_2 : q168 ≠ q180 := (ne_fr hk179 hf182)
  have n1_3 : q168 ≠ q194 := (ne_fr hk192 hf196)
  have n1_4 : q168 ≠ q210 := (ne_fr hk207 hf212)
  have n1_5 : q168 ≠ q228 := (ne_fr hk224 hf230)
  have n1_6 : q168 ≠ q263 := (ne_fr hk256 hf265)
  have n1_7 : q168 ≠ va277 := (Ne.symm (ne_ar hk305 hk297))
  have n1_8 : q168 ≠ va278 := (Ne.symm (ne_ar hk306 hk297))
  have n1_9 : q168 ≠ va239 := (Ne.symm (ne_oa hk302 hk297))
  have n1_10 : q168 ≠ va240 := (Ne.symm (ne_ar hk303 hk297))
  have n2_3 : q180 ≠ q194 := (ne_fr hk193 hf196)
  have n2_4 : q180 ≠ q210 := (ne_fr hk208 hf212)
  have n2_5 : q180 ≠ q228 := (ne_fr hk225 hf230)
  have n2_6 : q180 ≠ q263 := (ne_fr hk257 hf265)
  have n2_7 : q180 ≠ va277 := (Ne.symm (ne_ar hk305 hk298))
  have n2_8 : q180 ≠ va278 := (Ne.symm (ne_ar hk306 hk298))
  have n2_9 : q180 ≠ va239 := (Ne.symm (ne_oa hk302 hk298))
  have n2_10 : q180 ≠ va240 := (Ne.symm (ne_ar hk303 hk298))
  have n3_4 : q194 ≠ q210 := (ne_fr hk209 hf212)
  have n3_5 : q194 ≠ q228 := (ne_fr hk226 hf230)
  have n3_6 : q194 ≠ q263 := (ne_fr hk258 hf265)
  have n3_7 : q194 ≠ va277 := (Ne.symm (ne_ar hk305 hk299))
  have n3_8 : q194 ≠ va278 := (Ne.symm (ne_ar hk306 hk299))
  have n3_9 : q194 ≠ va239 := (Ne.symm (ne_oa hk302 hk299))
  have n3_10 : q194 ≠ va240 := (Ne.symm (ne_ar hk303 hk299))
  have n4_5 : q210 ≠ q228 := (ne_fr hk227 hf230)
  have n4_6 : q210 ≠ q263 := (ne_fr hk259 hf265)
  have n4_7 : q210 ≠ va277 := (Ne.symm (ne_ar hk305 hk300))
  have n4_8 : q210 ≠ va278 := (Ne.symm (ne_ar hk306 hk300))
  have n4_9 : q210 ≠ va239 := (Ne.symm (ne_oa hk302 hk300))
  have n4_10 : q210 ≠ va240 := (Ne.symm (ne_ar hk303 hk300))
  have n5_6 : q228 ≠ q263 := (ne_fr hk260 hf265)
  have n5_7 : q228 ≠ va277 := (ne_oa hk301 hk305)
  have n5_8 : q228 ≠ va278 := (ne_oa hk301 hk306)
  have n5_9 : q228 ≠ va239 := (ne_ci hk301 hk302 (by decide))
  have n5_10 : q228 ≠ va240 := (ne_oa hk301 hk303)
  have n6_7 : q263 ≠ va277 := (ne_oa hk304 hk305)
  have n6_8 : q263 ≠ va278 := (ne_oa hk304 hk306)
  have n6_9 : q263 ≠ va239 := (Ne.symm (ne_fr hk261 hf265))
  have n6_10 : q263 ≠ va240 := (Ne.symm (ne_fr hk262 hf265))
  have n7_8 : va277 ≠ va278 := (ne_cl hk305 hk306)
  have n7_9 : va277 ≠ va239 := (Ne.symm (ne_oa hk302 hk305))
  have n7_10 : va277 ≠ va240 := (ne_cl hk305 hk303)
  have n8_9 : va278 ≠ va239 := (Ne.symm (ne_oa hk302 hk306))
  have n8_10 : va278 ≠ va240 := (ne_cl hk306 hk303)
  have n9_10 : va239 ≠ va240 := (ne_oa hk302 hk303)
  have hnd : [o, q168, q180, q194, q210, q228, q263, va277, va278, va239, va240].Nodup := by simp [List.nodup_cons, n0_1, n0_2, n0_3, n0_4, n0_5, n0_6, n0_7, n0_8, n0_9, n0_10, n1_2, n1_3, n1_4, n1_5, n1_6, n1_7, n1_8, n1_9, n1_10, n2_3, n2_4, n2_5, n2_6, n2_7, n2_8, n2_9, n2_10, n3_4, n3_5, n3_6, n3_7, n3_8, n3_9, n3_10, n4_5, n4_6, n4_7, n4_8, n4_9, n4_10, n5_6, n5_7, n5_8, n5_9, n5_10, n6_7, n6_8, n6_9, n6_10, n7_8, n7_9, n7_10, n8_9, n8_10, n9_10]
  exact ⟨rfl, mI_rl hnd hk294 hk297 hk298 hk299 hk300 hk301 hk304 hk305 hk306 hk302 hk303⟩
