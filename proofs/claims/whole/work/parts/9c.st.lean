/-! the first state -/
theorem iv_init : INV 0 0 mInit := by
  have z : ∀ k, k ≠ 23 → ∀ i, mInit.2.2 k i = 0 := fun k hk i => by rw [mI_3 k hk]
  have zi : ∀ k, mInit.1 k = 0 := mI_1
  have zl : ∀ k, mInit.2.1 k = 0 := mI_2
  have e0 : (0 : Int32).toInt = 0 := rfl
  have l0 : (0 : Int64).toInt = 0 := rfl
  refine ⟨⟨fun k _ => ?_, fun k _ => ?_, fun a j _ _ _ h => ?_, fun u h => absurd h (mI_usd u), fun u j h => absurd h (mI_usd u)⟩, ⟨fun k _ => ?_, Or.inl (zi 20), fun k _ => Or.inl (z 17 (by decide) k), ⟨fun _ => 0, fun _ => (by decide : 0 < 8), fun k _ h => ?_⟩, fun k _ => ?_, ?_, ?_⟩, ⟨fun k _ h => ?_, fun k _ => ?_, fun k _ => ?_, fun k _ => ?_, fun k _ => ?_, fun k h => absurd h (mI_opn k), fun k _ _ => z 17 (by decide) k, fun k _ => ?_, fun k h => absurd h (mI_opn k)⟩, ⟨?_, fun k _ => ?_, fun r h => absurd h (mI_isr r), fun k => Or.inl (z 33 (by decide) k), fun r h => absurd h (mI_isr r), fun r h => absurd h (mI_isr r), fun k h => absurd h (mI_opn k)⟩, ⟨fun f _ _ => ⟨z 35 (by decide) f, z 36 (by decide) f, fun j _ => z 37 (by decide) _⟩, fun k _ => ?_, ?_, ?_⟩, ⟨fun k hk => ?_, fun i => ?_⟩, ⟨Or.inl (zi 27), fun j h => ?_, ?_⟩, ⟨?_, ?_, ?_, ?_⟩, ?_, ?_, ?_, ?_⟩
  · rw [z 1 (by decide)]; decide
  · rw [z 3 (by decide)]; decide
  · rw [z 2 (by decide)] at h; exact absurd h (by decide)
  · rw [z 6 (by decide)]; decide
  · rw [z 17 (by decide)] at h; exact absurd h (by decide)
  · rw [z 6 (by decide), z 17 (by decide), zi]; decide
  · rw [zi, zi]; decide
  · rw [zi]; decide
  · rw [z 8 (by decide)] at h; exact absurd h (by decide)
  · rw [z 19 (by decide)]; decide
  · rw [z 15 (by decide)]; decide
  · rw [z 8 (by decide)]; exact ⟨by decide, fun h => absurd h (by decide)⟩
  · rw [z 12 (by decide)]; decide
  · rw [z 11 (by decide)]; decide
  · unfold mi_refs; rw [zi]; decide
  · rw [z 34 (by decide)]; decide
  · rw [z 36 (by decide)]; decide
  · rw [zi, mI_3 35 (by decide)]; decide
  · rw [zi]; decide
  · rw [mI_23 k hk]; decide
  · rw [z 24 (by decide)]; decide
  · rw [zi] at h; omega
  · rw [zi]; decide
  · rw [zi]; decide
  · rw [zi]; decide
  · rw [zi]; decide
  · rw [zi]; decide
  · rw [zl]; decide
  · rw [zl]; decide
  · rw [zl]; decide
  · rw [zl]; decide
/-! the law's entry -/
theorem x_args {w : Cond} {A : Array Value} {s : State} (hx : lw_isX w = true) (h : w.before A s = true) : va_Nw w s := by
  cases w <;> first | (exact va_tabs (A := A) rfl (rfl : s.vm = s.vm) h) | (rename_i ty; cases ty <;> first | (exact va_AO.of h) | (cases hx)) | (cases hx)
theorem x_tbl {w : Cond} (h : w ∈ lw_x) : w ∈ lw_tbl := (List.mem_filter.mp h).1
theorem g_tbl {w : Cond} (h : w ∈ lw_g) : w ∈ lw_tbl := (List.mem_filter.mp h).1
theorem ar_p {A : Array Value} {s : State} {ty : FieldType} (hp : ∀ C, ty ≠ .object C) (h : (Cond.arrayClass ty).before A s = true) : ∃ cA : ClassId, ArrOfT s cA ty ∧ va_RA s cA ty := by
  obtain ⟨cA, k, comp, h1, h2, h3⟩ := Cond.arrayClass_spec h
  refine ⟨cA, fun n z => ⟨fun k h => (by cases h), k, h2, comp, h3⟩, ?_⟩
  cases ty with
  | object C => exact absurd rfl (hp C)
  | _ => exact h1
theorem ar_o {s : State} {C : String} (h : va_Nw (.arrayOver (.object C)) s) : ∃ cA : ClassId, ArrOfT s cA (.object C) ∧ va_RA s cA (.object C) := by
  obtain ⟨comp, cA, k, h1, h2, h3, h4, h5⟩ := Cond.arrayOver_spec h
  exact ⟨cA, fun n z => ⟨fun k h => (by cases h), k, h3, comp, h4⟩, k, comp, h3, h4, h1, h5⟩
def tmS : Nat → Term := fun i => match i with
  | 0 => .string "GlkStreams$NameAtHand" 46
  | 1 => .string "GlkStreams" 300
  | _ => .string "GlkStreams" 373
def lwF : List Cond := flatC (Jvm.Cond.and given_1 narrow_1)
theorem lwF_n : ∀ q ∈ lw_n, Cond.not (.castable q.1 q.2) ∈ lwF := by decide +kernel
theorem lwF_x0 : Cond.exactly (tmS 0) "java/lang/String" ∈ lwF := by decide +kernel
theorem lwF_c0 : Cond.eq (.field (tmS 0) "java/lang/String" "coder" "B") (.int 0) ∈ lwF := by decide +kernel
theorem lwF_a0 : Cond.arrayOf (.field (tmS 0) "java/lang/String" "value" "[B") .byte ∈ lwF := by decide +kernel
theorem lwF_l0 : Cond.eq (.length (.field (tmS 0) "java/lang/String" "value" "[B")) (.int (Int32.ofNat (lw_ln.getD 0 0))) ∈ lwF := by decide +kernel
theorem lwF_e0 : ∀ j : Nat, j < lw_ln.getD 0 0 → Cond.eq (.elem (.field (tmS 0) "java/lang/String" "value" "[B") (.int (Int32.ofNat j))) (.int ((lw_by.getD 0 []).getD j 0)) ∈ lwF := by decide +kernel
theorem lwF_x1 : Cond.exactly (tmS 1) "java/lang/String" ∈ lwF := by decide +kernel
theorem lwF_c1 : Cond.eq (.field (tmS 1) "java/lang/String" "coder" "B") (.int 0) ∈ lwF := by decide +kernel
theorem lwF_a1 : Cond.arrayOf (.field (tmS 1) "java/lang/String" "value" "[B") .byte ∈ lwF := by decide +kernel
theorem lwF_l1 : Cond.eq (.length (.field (tmS 1) "java/lang/String" "value" "[B")) (.int (Int32.ofNat (lw_ln.getD 1 0))) ∈ lwF := by decide +kernel
theorem lwF_e1 : ∀ j : Nat, j < lw_ln.getD 1 0 → Cond.eq (.elem (.field (tmS 1) "java/lang/String" "value" "[B") (.int (Int32.ofNat j))) (.int ((lw_by.getD 1 []).getD j 0)) ∈ lwF := by decide +kernel
theorem lwF_x2 : Cond.exactly (tmS 2) "java/lang/String" ∈ lwF := by decide +kernel
theorem lwF_c2 : Cond.eq (.field (tmS 2) "java/lang/String" "coder" "B") (.int 0) ∈ lwF := by decide +kernel
theorem lwF_a2 : Cond.arrayOf (.field (tmS 2) "java/lang/String" "value" "[B") .byte ∈ lwF := by decide +kernel
theorem lwF_l2 : Cond.eq (.length (.field (tmS 2) "java/lang/String" "value" "[B")) (.int (Int32.ofNat (lw_ln.getD 2 0))) ∈ lwF := by decide +kernel
theorem lwF_e2 : ∀ j : Nat, j < lw_ln.getD 2 0 → Cond.eq (.elem (.field (tmS 2) "java/lang/String" "value" "[B") (.int (Int32.ofNat j))) (.int ((lw_by.getD 2 []).getD j 0)) ∈ lwF := by decide +kernel
theorem lwF_n01 : Cond.not (Cond.eq (tmS 0) (tmS 1)) ∈ lwF := by decide +kernel
theorem lwF_n02 : Cond.not (Cond.eq (tmS 0) (tmS 2)) ∈ lwF := by decide +kernel
theorem lwF_n12 : Cond.not (Cond.eq (tmS 1) (tmS 2)) ∈ lwF := by decide +kernel
theorem l3 {P : Nat → Prop} (h0 : P 0) (h1 : P 1) (h2 : P 2) : ∀ i, i < 3 → P i := fun i hi => by
  match i, hi with
  | 0, _ => exact h0
  | 1, _ => exact h1
  | 2, _ => exact h2
set_option maxHeartbeats 4000000 in
theorem law_G {p : Program} {s : State} {m : MethodId} {meth : Method} {c : Code} {b : Nat} (hx : p.tables.exec = Jvm.exec) (hb : c.code = code) (hml : c.maxLocals = 7) (hown : s.vm.findClass RL = some m.cls) (hts : ∀ w ∈ lw_tbl, w.before #[Value.ref b] s = true) (hlocks : meth.locks = false) (hgv : (Jvm.Cond.and given_1 narrow_1).before #[Value.ref b] s = true) : ∃ G : GG, gR G = (fun _ => none) ∧ Cx G p s m #[Value.ref b] meth c (fun q => s.heap.size ≤ q) s.heap code 7 RL := by
  have hfl : ∀ w ∈ lwF, w.before #[Value.ref b] s = true := flat_of_before _ hgv
  have htg : ∀ w ∈ lw_g, w.before #[Value.ref b] s = true := fun w h => hts w (g_tbl h)
  have htx : ∀ w ∈ lw_x, va_Nw w s := fun w h => x_args (List.mem_filter.mp h).2 (hts w (x_tbl h))
  have hA : ∀ a : Nat, a < s.heap.size → ¬ (fun q : Nat => s.heap.size ≤ q) a := fun a h z => absurd z (Nat.not_le.mpr h)
  obtain ⟨c0, i0, k0⟩ := u_known (ws := lw_g) (C := RJ0) (T := TJ0) (N := 4) (n := 4) htg okJ0.2.1 (htg _ is_J0)
  obtain ⟨c1, i1, k1⟩ := u_known (ws := lw_g) (C := RJ4) (T := TJ4) (N := 4) (n := 4) htg okJ4.2.1 (htg _ is_J4)
  obtain ⟨c2, i2, k2⟩ := u_known (ws := lw_g) (C := RX0) (T := TX0) (N := 7) (n := 7) htg okX0.2.1 (htg _ is_X0)
  obtain ⟨c3, i3, k3⟩ := u_known (ws := lw_g) (C := RX1) (T := TX1) (N := 10) (n := 10) htg okX1.2.1 (htg _ is_X1)
  obtain ⟨c4, i4, k4⟩ := u_known (ws := lw_g) (C := RX2) (T := TX2) (N := 2) (n := 2) htg okX2.2.1 (htg _ is_X2)
  obtain ⟨c5, i5, k5⟩ := u_known (ws := lw_g) (C := RX3) (T := TX3) (N := 10) (n := 10) htg okX3.2.1 (htg _ is_X3)
  obtain ⟨c6, i6, k6⟩ := u_known (ws := lw_g) (C := RX4) (T := TX4) (N := 3) (n := 3) htg okX4.2.1 (htg _ is_X4)
  obtain ⟨c7, i7, k7⟩ := u_known (ws := lw_g) (C := RX5) (T := TX5) (N := 11) (n := 11) htg okX5.2.1 (htg _ is_X5)
  obtain ⟨c8, i8, k8⟩ := u_known (ws := lw_g) (C := RX6) (T := TX6) (N := 4) (n := 4) htg okX6.2.1 (htg _ is_X6)
  obtain ⟨c9, i9, k9⟩ := u_known (ws := lw_g) (C := RX7) (T := TX7) (N := 9) (n := 9) htg okX7.2.1 (htg _ is_X7)
  obtain ⟨c10, i10, k10⟩ := u_known (ws := lw_g) (C := RX8) (T := TX8) (N := 3) (n := 3) htg okX8.2.1 (htg _ is_X8)
  obtain ⟨c11, i11, k11⟩ := u_known (ws := lw_g) (C := RX10) (T := TX10) (N := 13) (n := 13) htg okX10.2.1 (htg _ is_X10)
  obtain ⟨c12, i12, k12⟩ := u_known (ws := lw_g) (C := RX11) (T := TX11) (N := 46) (n := 46) htg okX11.2.1 (htg _ is_X11)
  obtain ⟨a0, r0⟩ := ar_p (fun _ h => by cases h) (htg _ ac_int)
  obtain ⟨a1, r1⟩ := ar_p (fun _ h => by cases h) (htg _ ac_byte)
  obtain ⟨a2, r2⟩ := ar_p (fun _ h => by cases h) (htg _ ac_boolean)
  obtain ⟨a3, r3⟩ := ar_p (fun _ h => by cases h) (htg _ ac_long)
  obtain ⟨a4, r4⟩ := ar_o (htx _ ao_X2)
  obtain ⟨a5, r5⟩ := ar_o (htx _ ao_X9)
  obtain ⟨a6, r6⟩ := ar_o (htx _ ao_X6)
  obtain ⟨aK, aV, hS, hE⟩ := vk_Sof (args := #[Value.ref b]) (s := s) (N := 3) (tm := tmS) (len := lw_ln) (byt := lw_by) (A := fun q : Nat => s.heap.size ≤ q) (by decide) (l3 (hfl _ lwF_x0) (hfl _ lwF_x1) (hfl _ lwF_x2)) (l3 (hfl _ lwF_c0) (hfl _ lwF_c1) (hfl _ lwF_c2)) (l3 (hfl _ lwF_a0) (hfl _ lwF_a1) (hfl _ lwF_a2)) (l3 (hfl _ lwF_l0) (hfl _ lwF_l1) (hfl _ lwF_l2)) (l3 (fun j hj => hfl _ (lwF_e0 j hj)) (fun j hj => hfl _ (lwF_e1 j hj)) (fun j hj => hfl _ (lwF_e2 j hj))) (by
    intro i j hi hj hij
    match i, j, hi, hj, hij with
    | 0, 0, _, _, h => exact absurd rfl h
    | 0, 1, _, _, _ => exact Or.inl (hfl _ lwF_n01)
    | 0, 2, _, _, _ => exact Or.inl (hfl _ lwF_n02)
    | 1, 0, _, _, _ => exact Or.inr (hfl _ lwF_n01)
    | 1, 1, _, _, h => exact absurd rfl h
    | 1, 2, _, _, _ => exact Or.inl (hfl _ lwF_n12)
    | 2, 0, _, _, _ => exact Or.inr (hfl _ lwF_n02)
    | 2, 1, _, _, _ => exact Or.inr (hfl _ lwF_n12)
    | 2, 2, _, _, h => exact absurd rfl h) hA
  refine ⟨((fun k => match k with | 0 => c0 | 1 => c1 | 2 => c2 | 3 => c3 | 4 => c4 | 5 => c5 | 6 => c6 | 7 => c7 | 8 => c8 | 9 => c9 | 10 => c10 | 11 => c11 | _ => c12 : Nat → ClassId), (fun k => match k with | 0 => i0 | 1 => i1 | 2 => i2 | 3 => i3 | 4 => i4 | 5 => i5 | 6 => i6 | 7 => i7 | 8 => i8 | 9 => i9 | 10 => i10 | 11 => i11 | _ => i12 : Nat → Nat → Nat), (fun k => match k with | 0 => a0 | 1 => a1 | 2 => a2 | 3 => a3 | 4 => a4 | 5 => a5 | _ => a6 : Nat → ClassId), (fun _ => none), aK, aV), rfl, hx, hb, hml, hown, htg, ⟨fun k q hq => ?_, fun k q hq => ?_⟩, hlocks, fun _ h => h, htx, (by intro a e h; exact absurd (show (none : Option va_E) = some e from h) (fun z => by cases z)), fun a h => absurd rfl h, fun q hq => va_Nc.of (hfl _ (lwF_n q hq)), ?_, ?_, ?_, ?_, hS, ?_, ?_, ?_⟩
  · match k, hq with
    | 0, hq => cases hq; exact k0
    | 1, hq => cases hq; exact k1
    | 2, hq => cases hq; exact k2
    | 3, hq => cases hq; exact k3
    | 4, hq => cases hq; exact k4
    | 5, hq => cases hq; exact k5
    | 6, hq => cases hq; exact k6
    | 7, hq => cases hq; exact k7
    | 8, hq => cases hq; exact k8
    | 9, hq => cases hq; exact k9
    | 10, hq => cases hq; exact k10
    | 11, hq => cases hq; exact k11
    | 12, hq => cases hq; exact k12
    | k + 13, hq => exact absurd hq (by simp [vwCl])
  · match k, hq with
    | 0, hq => cases hq; exact r0
    | 1, hq => cases hq; exact r1
    | 2, hq => cases hq; exact r2
    | 3, hq => cases hq; exact r3
    | 4, hq => cases hq; exact r4
    | 5, hq => cases hq; exact r5
    | 6, hq => cases hq; exact r6
    | k + 7, hq => exact absurd hq (by simp)
  · exact va_Zof (hts (.laysStatic "java/lang/String" "COMPACT_STRINGS" "Z") (by decide +kernel)) (hts (.initialized "java/lang/String") (by decide +kernel)) (va_eqt (hfl (.eq (.static "java/lang/String" "COMPACT_STRINGS" "Z") (.int 1)) (by decide +kernel))) hA
  · exact va_Zqof (hts (.laysStatic "jdk/internal/util/Preconditions" "SIOOBE_FORMATTER" "Ljava/util/function/BiFunction;") (by decide +kernel)) (hts (.initialized "jdk/internal/util/Preconditions") (by decide +kernel)) (hfl (.isRef (.static "jdk/internal/util/Preconditions" "SIOOBE_FORMATTER" "Ljava/util/function/BiFunction;")) (by decide +kernel)) hA
  · exact vx_Zqof (hts (.laysStatic "java/lang/Throwable" "UNASSIGNED_STACK" "[Ljava/lang/StackTraceElement;") (by decide +kernel)) (hts (.initialized "java/lang/Throwable") (by decide +kernel)) (hfl (.isRef (.static "java/lang/Throwable" "UNASSIGNED_STACK" "[Ljava/lang/StackTraceElement;")) (by decide +kernel)) hA
  · exact vx_Zqof (hts (.laysStatic "java/lang/Throwable" "SUPPRESSED_SENTINEL" "Ljava/util/List;") (by decide +kernel)) (hts (.initialized "java/lang/Throwable") (by decide +kernel)) (hfl (.isRef (.static "java/lang/Throwable" "SUPPRESSED_SENTINEL" "Ljava/util/List;")) (by decide +kernel)) hA
  · exact vk_R.of (hts (.stringRef "GlkStreams$NameAtHand" 46 "/\\<>:\"|?*") (by decide +kernel)) (hE 0 (by decide))
  · exact vk_R.of (hts (.stringRef "GlkStreams" 300 "") (by decide +kernel)) (hE 1 (by decide))
  · exact vk_R.of (hts (.stringRef "GlkStreams" 373 "no sign was dropped") (by decide +kernel)) (hE 2 (by decide))
