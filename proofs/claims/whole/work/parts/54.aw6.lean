section AWV
variable {G : GG} {p : Program} {l : Launch} {e : Env} {R : Room} {s : State} {m : MethodId} {args : Array Value} {below : List Frame} {meth : Method} {c : Code} {nL : Nat} {A : Nat → Prop} {H0 : Heap} {Q : State → Prop} {w : WM} {cells slots pc : Nat} {lv lv' : List (Nat × Value)} {rest st : List Value} {cc : ByteArray} {own : String}
variable {a ci N n index : Nat} {C : String} {T : u_T} {ty : Nat → FieldType} {fs : List Value}
variable {x y : MethodName} {bytes : ByteArray} {maxL : Nat} {ret : Option FieldType} {rm : Room} {As : List Value} {post : Option Value → WM → Prop}
theorem aw_callU {b : Nat} {owner : String} (X : Cx G p s m args meth c A H0 cc nL own) (hM : MC G l y bytes maxL ret rm (.ref b :: As) w post) (ok : okM y bytes maxL ret n) (okc : okC ci C T N ty) (hb : w b = some (.inr (ci, fs))) (hl : Cond.methodLink own index x ∈ lw_g) (hsm : Cond.sameMethod x.cls owner x.name x.desc ∈ lw_g) (hd : va_Decl s ⟨owner, x.name, x.desc⟩) (hmh : owner ≠ "java/lang/invoke/MethodHandle" ∧ owner ≠ "java/lang/invoke/VarHandle") (hxn : (parseMethodDescriptor x.desc).map (fun d => d.parameters.length) = some n) (hi : Cond.instanceMethod y ∈ lw_g) (hsel : Cond.selects C x y ∈ lw_g) (hn : As.length = n) (hst : st = As.reverse ++ .ref b :: rest) (hW : (rest.map fun v => v.category).sum ≤ 8) (hR : okR R rm maxL cells slots) (hdg : decode cc pc = .ok (.invokevirtual index, 3))
    (kk : ∀ (v : Option Value) (w2 : WM), post v w2 → AW G p l e R s m args below meth c nL A H0 Q w2 (cells + rm.cells) (slots + rm.slots) (pc + 3) lv (v.toList ++ rest)) : AW G p l e R s m args below meth c nL A H0 Q w cells slots pc lv st := by
  refine aw_run (aa := (Value.ref b :: As).toArray) (mc := rm.cells) (ms := rm.slots) (post := post) X (fun _ _ h => h) (fun H locs ls hP hE hlv => ?_) (fun v w2 h => by rw [wm_fr_self]; exact kk v w2 h)
  obtain ⟨q0, hq⟩ := wm_pos hP hb
  refine va_runU (Ts := lw_g) (owner := owner) (x := x) ⟨X.1, X.2.1, X.2.2.1, X.2.2.2.1, X.2.2.2.2.1⟩ (hM H.size) ⟨⟨rfl, rfl, hR.1, hR.2.1, fun w hw a' U hW => ?_, List.mem_cons_self⟩, X.2.2.2.2.1 _ ok.1, X.2.2.2.2.1 _ ok.2.1, hmh, fun sig h => ?_, X.2.2.2.2.1 _ hl, X.2.2.2.2.1 _ hsm, hd, X.2.2.2.2.1 _ hsel, X.2.2.2.2.1 _ hi⟩ ⟨mcp_blind, va_recv X.2.2.2.2.2.1 (wm_toP hP _) okc.1 hq, mcp_at X.2.2.2.2.2.1 hP hE⟩ rfl hn hlv.1 hst (lv_room hW) hdg hR.2.2
  · rcases List.mem_cons.mp hw with h | h
    · rw [h]; exact g_warm X.2.2.2.2.1 hW _ ok.1
    · exact g_warm X.2.2.2.2.1 hW _ h
  · rw [h] at hxn
    exact (Option.some.inj hxn).symm
end AWV
section AWI
variable {G : GG} {p : Program} {l : Launch} {e : Env} {R : Room} {s : State} {m : MethodId} {args : Array Value} {below : List Frame} {meth : Method} {c : Code} {nL : Nat} {A : Nat → Prop} {H0 : Heap} {Q : State → Prop} {w : WM} {cells slots pc : Nat} {lv lv' : List (Nat × Value)} {rest st : List Value} {cc : ByteArray} {own : String}
variable {a ci N n index : Nat} {C : String} {T : u_T} {ty : Nat → FieldType} {fs : List Value}
theorem aw_instY {nm : String} (X : Cx G p s m args meth c A H0 cc nL own) (okc : okC ci C T N ty) (hw : w a = some (.inr (ci, fs))) (hl : Cond.classLink own index nm ∈ lw_g) (hca : Cond.castable C nm ∈ lw_x) (hdg : decode cc pc = .ok (.instanceof index, 3)) (kk : AW G p l e R s m args below meth c nL A H0 Q w cells slots (pc + 3) lv (.int 1 :: rest)) : AW G p l e R s m args below meth c nL A H0 Q w cells slots pc lv (.ref a :: rest) := by
  intro H locs ls hP hA hS hl'
  obtain ⟨q0, hq⟩ := wm_pos hP hw
  exact va_instY X.1 X.2.1 X.2.2.2.1 (X.2.2.2.2.1 _ hl) (X.2.2.2.2.2.2.2.2.1 _ hca) (va_recv X.2.2.2.2.2.1 (wm_toP hP _) okc.1 hq) hdg (kk H locs ls hP hA hS hl')
theorem aw_castY {nm : String} (X : Cx G p s m args meth c A H0 cc nL own) (okc : okC ci C T N ty) (hw : w a = some (.inr (ci, fs))) (hl : Cond.classLink own index nm ∈ lw_g) (hca : Cond.castable C nm ∈ lw_x) (hdg : decode cc pc = .ok (.checkcast index, 3)) (kk : AW G p l e R s m args below meth c nL A H0 Q w cells slots (pc + 3) lv (.ref a :: rest)) : AW G p l e R s m args below meth c nL A H0 Q w cells slots pc lv (.ref a :: rest) := by
  intro H locs ls hP hA hS hl'
  obtain ⟨q0, hq⟩ := wm_pos hP hw
  exact va_castY X.1 X.2.1 X.2.2.2.1 (X.2.2.2.2.1 _ hl) (X.2.2.2.2.2.2.2.2.1 _ hca) (va_recv X.2.2.2.2.2.1 (wm_toP hP _) okc.1 hq) hdg (kk H locs ls hP hA hS hl')
theorem aw_instNo {nm : String} (X : Cx G p s m args meth c A H0 cc nL own) (okc : okC ci C T N ty) (hw : w a = some (.inr (ci, fs))) (hl : Cond.classLink own index nm ∈ lw_g) (hca : (C, nm) ∈ lw_n) (hdg : decode cc pc = .ok (.instanceof index, 3)) (kk : AW G p l e R s m args below meth c nL A H0 Q w cells slots (pc + 3) lv (.int 0 :: rest)) : AW G p l e R s m args below meth c nL A H0 Q w cells slots pc lv (.ref a :: rest) := by
  intro H locs ls hP hA hS hl'
  obtain ⟨q0, hq⟩ := wm_pos hP hw
  exact va_instNo X.1 X.2.1 X.2.2.2.1 (X.2.2.2.2.1 _ hl) (X.2.2.2.2.2.2.2.2.2.2.2.1 _ hca) (va_recv X.2.2.2.2.2.1 (wm_toP hP _) okc.1 hq) hdg (kk H locs ls hP hA hS hl')
theorem aw_instN (X : Cx G p s m args meth c A H0 cc nL own) (hdg : decode cc pc = .ok (.instanceof index, 3)) (kk : AW G p l e R s m args below meth c nL A H0 Q w cells slots (pc + 3) lv (.int 0 :: rest)) : AW G p l e R s m args below meth c nL A H0 Q w cells slots pc lv (.null :: rest) := by
  intro H locs ls hP hA hS hl'
  exact lv_instN X.1 X.2.1 hdg (kk H locs ls hP hA hS hl')
theorem aw_castN (X : Cx G p s m args meth c A H0 cc nL own) (hdg : decode cc pc = .ok (.checkcast index, 3)) (kk : AW G p l e R s m args below meth c nL A H0 Q w cells slots (pc + 3) lv (.null :: rest)) : AW G p l e R s m args below meth c nL A H0 Q w cells slots pc lv (.null :: rest) := by
  intro H locs ls hP hA hS hl'
  exact lv_castN X.1 X.2.1 hdg (kk H locs ls hP hA hS hl')
theorem aw_aastO2 (X : Cx G p s m args meth c A H0 cc nL own) (t0 : Nat) {cA : ClassId} {E : String} {b0 : Nat} {f : Nat → Option Nat} {i : Int32} (okc : okC ci C T N ty) (hw : w a = some (rA cA n f)) (ht : (gT G)[t0]? = some (cA, .object E)) (hca : Cond.castable C E ∈ lw_x) (hv : w b0 = some (.inr (ci, fs))) (hin : vp_in i n) (hdg : decode cc pc = .ok (.aastore, 1))
    (kk : ∀ w2 : WM, w2 a = some (rA cA n (va_up f i.toNatClampNeg (some b0))) → (∀ b, b ≠ a → w2 b = w b) → w2 = wm_up w a (rA cA n (va_up f i.toNatClampNeg (some b0))) → AW G p l e R s m args below meth c nL A H0 Q w2 cells slots (pc + 1) lv rest) : AW G p l e R s m args below meth c nL A H0 Q w cells slots pc lv (.ref b0 :: .int i :: .ref a :: rest) := by
  intro H locs ls hP hA hS hl
  obtain ⟨q0, hq⟩ := wm_pos hP hw
  obtain ⟨qk, hqk⟩ := wm_pos hP hv
  exact va_astqO X.1 X.2.1 X.2.2.2.2.2.1 (wm_toP hP _) (wm_toD hA _) hS q0 t0 qk ci hq ht (X.2.2.2.2.2.2.2.2.1 _ hca) hqk okc.1 hin hdg (fun H1 locs1 hP1 _ hS1 => kk _ wm_ups (fun b h => wm_upn h) rfl H1 locs1 ls (wm_set hP hq hP1) (wm_upA hA (hA a (nn_some hw))) hS1 hl)
theorem aw_getsC (X : Cx G p s m args meth c A H0 cc nL own) (hl : Cond.fieldLink own index RJ0 "COMPACT_STRINGS" "Z" ∈ lw_g) (hdg : decode cc pc = .ok (.getstatic index, 3)) (kk : AW G p l e R s m args below meth c nL A H0 Q w cells slots (pc + 3) lv (.int 1 :: rest)) : AW G p l e R s m args below meth c nL A H0 Q w cells slots pc lv rest := by
  intro H locs ls hP hA hS hl'
  obtain ⟨cf, kf, fi, f, a, cell, h1, h2, h3, h4, h5, h6, h7, h8⟩ := X.2.2.2.2.2.2.2.2.2.2.2.2.1
  exact W.gets X.1 X.2.1 X.2.2.2.1 (X.2.2.2.2.1 _ hl) h1 h2 h3 h4 (by rw [hS.2.1 a (Array.getElem?_eq_some_iff.mp h5).1 h8]; exact h5) (fun e => by rw [e] at h6; cases h6) h7 rfl hdg (kk H locs ls hP hA hS hl')
theorem aw_ldcS (X : Cx G p s m args meth c A H0 cc nL own) {tx : String} {q : Nat} (hZ : vk_R own index tx q s) (hdg : decode cc pc = .ok (.ldc index, 2)) (kk : AW G p l e R s m args below meth c nL A H0 Q w cells slots (pc + 2) lv (.ref q :: rest)) : AW G p l e R s m args below meth c nL A H0 Q w cells slots pc lv rest := by
  intro H locs ls hP hA hS hl'
  exact va_ldcS X.1 X.2.1 X.2.2.2.1 hZ hdg (kk H locs ls hP hA hS hl')
theorem aw_copyi (X : Cx G p s m args meth c A H0 cc nL own) (t0 : Nat) {a0 n0 n1 : Nat} {c0 : ClassId} {f g : Nat → Int32} {ty0 : FieldType} {sp dp k : Int32} (hl : Cond.methodLink own index arraycopyName ∈ lw_g) (hnat : Cond.native arraycopyName ∈ lw_g) (hstat : Cond.static arraycopyName ∈ lw_g) (hini : Cond.initialized "java/lang/System" ∈ lw_g) (h0 : w a0 = some (.inl (c0, n0, .inl f))) (hw : w a = some (.inl (c0, n1, .inl g))) (ht : (gT G)[t0]? = some (c0, ty0)) (hprim : refKind ty0 = false)
    (h1 : ¬ sp < 0) (h2 : ¬ dp < 0) (h3 : ¬ k < 0) (h4 : sp.toNatClampNeg + k.toNatClampNeg ≤ n0) (h5 : dp.toNatClampNeg + k.toNatClampNeg ≤ n1) (hfit : ∀ i, i < k.toNatClampNeg → fits ty0 (.int (f (sp.toNatClampNeg + i))) = true) (hf : 1 ≤ R.frames) (hlo : (rest.map fun v => v.category).sum + (nativeFrameWords "java/lang/System" "arraycopy" 5 + 11) ≤ R.locals) (hdg : decode cc pc = .ok (.invokestatic index, 3))
    (kk : ∀ w2 : WM, w2 a = some (.inl (c0, n1, .inl (va_cpy f g sp.toNatClampNeg dp.toNatClampNeg k.toNatClampNeg))) → (∀ b, b ≠ a → w2 b = w b) → w2 = wm_up w a (.inl (c0, n1, .inl (va_cpy f g sp.toNatClampNeg dp.toNatClampNeg k.toNatClampNeg))) → AW G p l e R s m args below meth c nL A H0 Q w2 cells slots (pc + 3) lv rest) : AW G p l e R s m args below meth c nL A H0 Q w cells slots pc lv (.int k :: .int dp :: .ref a :: .int sp :: .ref a0 :: rest) := by
  intro H locs ls hP hA hS hlv
  obtain ⟨q0, hq0⟩ := wm_pos hP h0
  obtain ⟨q1, hq1⟩ := wm_pos hP hw
  exact va_copyi X.1 X.2.1 (by rw [X.2.2.1]; exact hlv.1.symm) X.2.2.2.1 (X.2.2.2.2.1 _ hl) (X.2.2.2.2.1 _ hnat) (X.2.2.2.2.1 _ hstat) (X.2.2.2.2.1 _ hini) X.2.2.2.2.2.1 (wm_toP hP _) (wm_toD hA _) hS q0 q1 t0 t0 hq0 hq1 ht ht hprim h1 h2 h3 h4 h5 hfit hf hlo hdg (fun H1 locs1 hP1 _ hS1 => kk _ wm_ups (fun b h => wm_upn h) rfl H1 locs1 ls (wm_set hP hq1 hP1) (wm_upA hA (hA a (nn_some hw))) hS1 hlv)
theorem aw_aload_nR (X : Cx G p s m args meth c A H0 cc nL own) {kf : Fin 4} {i : Nat} {r0 : Option Nat} (hdg : decode cc pc = .ok (.aload_n kf, 1)) (hi : (kf : Nat) = i) (hx : lv.lookup i = some (va_rf r0)) (kk : AW G p l e R s m args below meth c nL A H0 Q w cells slots (pc + 1) lv (va_rf r0 :: rest)) : AW G p l e R s m args below meth c nL A H0 Q w cells slots pc lv rest := by
  cases r0 with
  | none => exact aw_aload_nN X hdg hi hx kk
  | some b => exact aw_aload_n X hdg hi hx kk
theorem aw_aloadR (X : Cx G p s m args meth c A H0 cc nL own) {i : Nat} {r0 : Option Nat} (hdg : decode cc pc = .ok (.aload i, 2)) (hx : lv.lookup i = some (va_rf r0)) (kk : AW G p l e R s m args below meth c nL A H0 Q w cells slots (pc + 2) lv (va_rf r0 :: rest)) : AW G p l e R s m args below meth c nL A H0 Q w cells slots pc lv rest := by
  cases r0 with
  | none => exact aw_aloadN X hdg hx kk
  | some b => exact aw_aload X hdg hx kk
theorem aw_astore_nR (X : Cx G p s m args meth c A H0 cc nL own) {kf : Fin 4} {i : Nat} {r0 : Option Nat} (hdg : decode cc pc = .ok (.astore_n kf, 1)) (hi : (kf : Nat) = i) (hn : i < nL) (hl' : (i, va_rf r0) :: lv.filter (fun q => !(q.1 == i) && !(q.1 + 1 == i && q.2.category == 2)) = lv') (kk : AW G p l e R s m args below meth c nL A H0 Q w cells slots (pc + 1) lv' rest) : AW G p l e R s m args below meth c nL A H0 Q w cells slots pc lv (va_rf r0 :: rest) := by
  cases r0 with
  | none => exact aw_astore_nN X hdg hi hn hl' kk
  | some b => exact aw_astore_n X hdg hi hn hl' kk
theorem aw_astoreR (X : Cx G p s m args meth c A H0 cc nL own) {i : Nat} {r0 : Option Nat} (hdg : decode cc pc = .ok (.astore i, 2)) (hn : i < nL) (hl' : (i, va_rf r0) :: lv.filter (fun q => !(q.1 == i) && !(q.1 + 1 == i && q.2.category == 2)) = lv') (kk : AW G p l e R s m args below meth c nL A H0 Q w cells slots (pc + 2) lv' rest) : AW G p l e R s m args below meth c nL A H0 Q w cells slots pc lv (va_rf r0 :: rest) := by
  cases r0 with
  | none => exact aw_astoreN X hdg hn hl' kk
  | some b => exact aw_astore X hdg hn hl' kk
theorem mc_imp {G : GG} {l : Launch} {y : MethodName} {bytes : ByteArray} {maxL : Nat} {ret : Option FieldType} {rm : Room} {av : List Value} {w : WM} {post post' : Option Value → WM → Prop} (h : MC G l y bytes maxL ret rm av w post) (hp : ∀ v w', post v w' → post' v w') : MC G l y bytes maxL ret rm av w post' := by
  intro sz
  refine MetFree.mono (h sz) (fun _ _ h => h) (fun _ _ _ _ _ h => h) ?_
  rintro a s o s' - ⟨⟨⟨v, w', h1, h2, h3⟩, h4⟩, h5⟩
  exact ⟨⟨⟨v, w', h1, hp v w' h2, h3⟩, h4⟩, h5⟩
theorem nar_b {x : Int32} (h : x = 0 ∨ x = 1) : narrow .boolean (.int x) = .int x := by
  rcases h with h | h <;> rw [h] <;> rfl
theorem nar_r (x : Option Nat) (n : String) : narrow (.object n) (va_rf x) = va_rf x := by cases x <;> rfl
theorem fit_r (x : Option Nat) (n : String) : fits (.object n) (va_rf x) = true := by cases x <;> rfl
end AWI
/-! a stream of any kind: its ints by field, its echo, its array, file or row -/
def sH (f : Nat → Int32) (e : Option Nat) : List Value := [.int (f 0), .int (f 1), .int (f 2), .int (f 3), .int (f 4), .int (f 5), .int (f 6), va_rf e]
def sC (f : Nat → Int32) (e x : Option Nat) : va_E := .inr (if f 0 = 0 then (7, sH f e ++ [va_rf x, .int (f 9), .int (f 10)]) else if f 0 = 1 then (5, sH f e ++ [va_rf x, .int (f 9)]) else if f 0 = 2 then (3, sH f e ++ [va_rf x, .int (f 9)]) else (9, sH f e ++ [va_rf x]))
theorem sC_0 {f : Nat → Int32} {e x : Option Nat} (h : f 0 = 0) : sC f e x = .inr (7, sH f e ++ [va_rf x, .int (f 9), .int (f 10)]) := by unfold sC; rw [if_pos h]
theorem sC_1 {f : Nat → Int32} {e x : Option Nat} (h : f 0 = 1) : sC f e x = .inr (5, sH f e ++ [va_rf x, .int (f 9)]) := by unfold sC; rw [if_neg (by rw [h]; decide), if_pos h]
theorem sC_2 {f : Nat → Int32} {e x : Option Nat} (h : f 0 = 2) : sC f e x = .inr (3, sH f e ++ [va_rf x, .int (f 9)]) := by unfold sC; rw [if_neg (by rw [h]; decide), if_neg (by rw [h]; decide), if_pos h]
theorem sC_3 {f : Nat → Int32} {e x : Option Nat} (h0 : ¬ f 0 = 0) (h1 : ¬ f 0 = 1) (h2 : ¬ f 0 = 2) : sC f e x = .inr (9, sH f e ++ [va_rf x]) := by unfold sC; rw [if_neg h0, if_neg h1, if_neg h2]
theorem sT_1 : ∀ k, k < 8 → TX1 k = TX5 k := by decide +kernel
theorem sT_3 : ∀ k, k < 8 → TX3 k = TX5 k := by decide +kernel
theorem sT_7 : ∀ k, k < 8 → TX7 k = TX5 k := by decide +kernel
theorem sT_5 : ∀ k, k < 8 → TX5 k = TX5 k := fun _ _ => rfl
theorem sT_o : ∀ k, k < 8 → (TX5 k).1 = RX9 := by decide +kernel
theorem sT_p' : ∀ k, k < 8 → 3 ≤ k → (TX5 k).2.2.2 = false := by decide +kernel
theorem sT_p (k : Nat) (h : 3 ≤ k) (h8 : k < 8) : (TX5 k).2.2.2 = false := sT_p' k h8 h
theorem sC_ci {w : WM} {a b : Nat} {f : Nat → Int32} {e x : Option Nat} {j : Nat} {fs : List Value} (ha : w a = some (sC f e x)) (hb : w b = some (.inr (j, fs))) (h : j ≠ 7 ∧ j ≠ 5 ∧ j ≠ 3 ∧ j ≠ 9) : a ≠ b := by
  by_cases h0 : f 0 = 0
  · rw [sC_0 h0] at ha; exact ne_ci ha hb (Ne.symm h.1)
  by_cases h1 : f 0 = 1
  · rw [sC_1 h1] at ha; exact ne_ci ha hb (Ne.symm h.2.1)
  by_cases h2 : f 0 = 2
  · rw [sC_2 h2] at ha; exact ne_ci ha hb (Ne.symm h.2.2.1)
  rw [sC_3 h0 h1 h2] at ha
  exact ne_ci ha hb (Ne.symm h.2.2.2)
theorem sC_oa {w : WM} {a b : Nat} {f : Nat → Int32} {e x : Option Nat} {y : ClassId × vp_A} (ha : w a = some (sC f e x)) (hb : w b = some (.inl y)) : a ≠ b := ne_oa ha hb
section AWS
variable {G : GG} {p : Program} {l : Launch} {e : Env} {R : Room} {s : State} {m : MethodId} {args : Array Value} {below : List Frame} {meth : Method} {c : Code} {nL : Nat} {A : Nat → Prop} {H0 : Heap} {Q : State → Prop} {w : WM} {cells slots pc : Nat} {lv lv' : List (Nat × Value)} {rest st : List Value} {cc : ByteArray} {own : String}
variable {a ci N n index : Nat} {C : String} {T : u_T} {ty : Nat → FieldType} {fs : List Value}
variable {f : Nat → Int32} {e0 x0 : Option Nat} {k : Nat} {v : Value}
theorem aw_getS (X : Cx G p s m args meth c A H0 cc nL own) (hw : w a = some (sC f e0 x0)) (hk : k < 8) (hlink : Cond.fieldLink own index RX9 (TX5 k).2.1 (TX5 k).2.2.1 ∈ lw_g) (hv : (sH f e0)[k]? = some v) (hdg : decode cc pc = .ok (.getfield index, 3)) (kk : AW G p l e R s m args below meth c nL A H0 Q w cells slots (pc + 3) lv (v :: rest)) : AW G p l e R s m args below meth c nL A H0 Q w cells slots pc lv (.ref a :: rest) := by
  by_cases h0 : f 0 = 0
  · rw [sC_0 h0] at hw
    exact aw_get X okX5 (k := k) hw (by omega) (by rw [sT_5 k hk]; exact hlink) (Or.inl (by rw [sT_5 k hk]; exact (sT_o k hk).symm)) (by rw [List.getElem?_append_left (by exact hk)]; exact hv) hdg kk
  by_cases h1 : f 0 = 1
  · rw [sC_1 h1] at hw
    exact aw_get X okX3 (k := k) hw (by omega) (by rw [sT_3 k hk]; exact hlink) (Or.inl (by rw [sT_3 k hk]; exact (sT_o k hk).symm)) (by rw [List.getElem?_append_left (by exact hk)]; exact hv) hdg kk
  by_cases h2 : f 0 = 2
  · rw [sC_2 h2] at hw
    exact aw_get X okX1 (k := k) hw (by omega) (by rw [sT_1 k hk]; exact hlink) (Or.inl (by rw [sT_1 k hk]; exact (sT_o k hk).symm)) (by rw [List.getElem?_append_left (by exact hk)]; exact hv) hdg kk
  rw [sC_3 h0 h1 h2] at hw
  exact aw_get X okX7 (k := k) hw (by omega) (by rw [sT_7 k hk]; exact hlink) (Or.inl (by rw [sT_7 k hk]; exact (sT_o k hk).symm)) (by rw [List.getElem?_append_left (by exact hk)]; exact hv) hdg kk
theorem aw_putSg (X : Cx G p s m args meth c A H0 cc nL own) {v : Value} {f' : Nat → Int32} {e' : Option Nat} (hw : w a = some (sC f e0 x0)) (h3 : 3 ≤ k) (hk : k < 8) (hlink : Cond.fieldLink own index RX9 (TX5 k).2.1 (TX5 k).2.2.1 ∈ lw_g) (hn5 : narrow (tyX5 k) v = v ∧ fits (tyX5 k) v = true) (hn3 : narrow (tyX3 k) v = v ∧ fits (tyX3 k) v = true) (hn1 : narrow (tyX1 k) v = v ∧ fits (tyX1 k) v = true) (hn7 : narrow (tyX7 k) v = v ∧ fits (tyX7 k) v = true) (hset : (sH f e0).set k v = sH f' e') (h00 : f' 0 = f 0) (h99 : f' 9 = f 9) (h10 : f' 10 = f 10) (hdg : decode cc pc = .ok (.putfield index, 3))
    (kk : ∀ w2 : WM, w2 a = some (sC f' e' x0) → (∀ b, b ≠ a → w2 b = w b) → w2 = wm_up w a (sC f' e' x0) → AW G p l e R s m args below meth c nL A H0 Q w2 cells slots (pc + 3) lv rest) : AW G p l e R s m args below meth c nL A H0 Q w cells slots pc lv (v :: .ref a :: rest) := by
  have h8 : k < (sH f e0).length := hk
  by_cases h0 : f 0 = 0
  · rw [sC_0 h0] at hw
    refine aw_put X okX5 (k := k) hw (by omega) (by rw [sT_5 k hk]; exact hlink) (Or.inl (by rw [sT_5 k hk]; exact (sT_o k hk).symm)) (by rw [sT_5 k hk]; exact sT_p k h3 hk) hn5.1 hn5.2 (by rw [List.length_append]; omega) hdg ?_
    rw [List.set_append_left _ _ h8, hset, ← h99, ← h10]
    have ex := sC_0 (f := f') (e := e') (x := x0) (h00.trans h0)
    rw [← ex]
    exact kk _ wm_ups (fun b h => wm_upn h) rfl
  by_cases h1 : f 0 = 1
  · rw [sC_1 h1] at hw
    refine aw_put X okX3 (k := k) hw (by omega) (by rw [sT_3 k hk]; exact hlink) (Or.inl (by rw [sT_3 k hk]; exact (sT_o k hk).symm)) (by rw [sT_3 k hk]; exact sT_p k h3 hk) hn3.1 hn3.2 (by rw [List.length_append]; omega) hdg ?_
    rw [List.set_append_left _ _ h8, hset, ← h99]
    have ex := sC_1 (f := f') (e := e') (x := x0) (h00.trans h1)
    rw [← ex]
    exact kk _ wm_ups (fun b h => wm_upn h) rfl
  by_cases h2 : f 0 = 2
  · rw [sC_2 h2] at hw
    refine aw_put X okX1 (k := k) hw (by omega) (by rw [sT_1 k hk]; exact hlink) (Or.inl (by rw [sT_1 k hk]; exact (sT_o k hk).symm)) (by rw [sT_1 k hk]; exact sT_p k h3 hk) hn1.1 hn1.2 (by rw [List.length_append]; omega) hdg ?_
    rw [List.set_append_left _ _ h8, hset, ← h99]
    have ex := sC_2 (f := f') (e := e') (x := x0) (h00.trans h2)
    rw [← ex]
    exact kk _ wm_ups (fun b h => wm_upn h) rfl
  rw [sC_3 h0 h1 h2] at hw
  refine aw_put X okX7 (k := k) hw (by omega) (by rw [sT_7 k hk]; exact hlink) (Or.inl (by rw [sT_7 k hk]; exact (sT_o k hk).symm)) (by rw [sT_7 k hk]; exact sT_p k h3 hk) hn7.1 hn7.2 (by rw [List.length_append]; omega) hdg ?_
  rw [List.set_append_left _ _ h8, hset]
  have ex := sC_3 (f := f') (e := e') (x := x0) (by rw [h00]; exact h0) (by rw [h00]; exact h1) (by rw [h00]; exact h2)
  rw [← ex]
  exact kk _ wm_ups (fun b h => wm_upn h) rfl
theorem aw_putS3 (X : Cx G p s m args meth c A H0 cc nL own) {v : Int32} (hw : w a = some (sC f e0 x0)) (hlink : Cond.fieldLink own index RX9 (TX5 3).2.1 (TX5 3).2.2.1 ∈ lw_g) (hdg : decode cc pc = .ok (.putfield index, 3))
    (kk : ∀ w2 : WM, w2 a = some (sC (upd f 3 v) e0 x0) → (∀ b, b ≠ a → w2 b = w b) → w2 = wm_up w a (sC (upd f 3 v) e0 x0) → AW G p l e R s m args below meth c nL A H0 Q w2 cells slots (pc + 3) lv rest) : AW G p l e R s m args below meth c nL A H0 Q w cells slots pc lv (.int v :: .ref a :: rest) :=
  aw_putSg X (k := 3) (f' := upd f 3 v) (e' := e0) hw (by decide) (by decide) hlink ⟨rfl, rfl⟩ ⟨rfl, rfl⟩ ⟨rfl, rfl⟩ ⟨rfl, rfl⟩ rfl rfl rfl rfl hdg kk
theorem aw_putS4 (X : Cx G p s m args meth c A H0 cc nL own) {v : Int32} (hw : w a = some (sC f e0 x0)) (hlink : Cond.fieldLink own index RX9 (TX5 4).2.1 (TX5 4).2.2.1 ∈ lw_g) (hdg : decode cc pc = .ok (.putfield index, 3))
    (kk : ∀ w2 : WM, w2 a = some (sC (upd f 4 v) e0 x0) → (∀ b, b ≠ a → w2 b = w b) → w2 = wm_up w a (sC (upd f 4 v) e0 x0) → AW G p l e R s m args below meth c nL A H0 Q w2 cells slots (pc + 3) lv rest) : AW G p l e R s m args below meth c nL A H0 Q w cells slots pc lv (.int v :: .ref a :: rest) :=
  aw_putSg X (k := 4) (f' := upd f 4 v) (e' := e0) hw (by decide) (by decide) hlink ⟨rfl, rfl⟩ ⟨rfl, rfl⟩ ⟨rfl, rfl⟩ ⟨rfl, rfl⟩ rfl rfl rfl rfl hdg kk
theorem aw_putS5 (X : Cx G p s m args meth c A H0 cc nL own) {v : Int32} (hw : w a = some (sC f e0 x0)) (hlink : Cond.fieldLink own index RX9 (TX5 5).2.1 (TX5 5).2.2.1 ∈ lw_g) (hdg : decode cc pc = .ok (.putfield index, 3))
    (kk : ∀ w2 : WM, w2 a = some (sC (upd f 5 v) e0 x0) → (∀ b, b ≠ a → w2 b = w b) → w2 = wm_up w a (sC (upd f 5 v) e0 x0) → AW G p l e R s m args below meth c nL A H0 Q w2 cells slots (pc + 3) lv rest) : AW G p l e R s m args below meth c nL A H0 Q w cells slots pc lv (.int v :: .ref a :: rest) :=
  aw_putSg X (k := 5) (f' := upd f 5 v) (e' := e0) hw (by decide) (by decide) hlink ⟨rfl, rfl⟩ ⟨rfl, rfl⟩ ⟨rfl, rfl⟩ ⟨rfl, rfl⟩ rfl rfl rfl rfl hdg kk
theorem aw_putS6 (X : Cx G p s m args meth c A H0 cc nL own) {v : Int32} (hw : w a = some (sC f e0 x0)) (hlink : Cond.fieldLink own index RX9 (TX5 6).2.1 (TX5 6).2.2.1 ∈ lw_g) (hdg : decode cc pc = .ok (.putfield index, 3))
    (kk : ∀ w2 : WM, w2 a = some (sC (upd f 6 v) e0 x0) → (∀ b, b ≠ a → w2 b = w b) → w2 = wm_up w a (sC (upd f 6 v) e0 x0) → AW G p l e R s m args below meth c nL A H0 Q w2 cells slots (pc + 3) lv rest) : AW G p l e R s m args below meth c nL A H0 Q w cells slots pc lv (.int v :: .ref a :: rest) :=
  aw_putSg X (k := 6) (f' := upd f 6 v) (e' := e0) hw (by decide) (by decide) hlink ⟨rfl, rfl⟩ ⟨rfl, rfl⟩ ⟨rfl, rfl⟩ ⟨rfl, rfl⟩ rfl rfl rfl rfl hdg kk
theorem aw_putSE (X : Cx G p s m args meth c A H0 cc nL own) {e' : Option Nat} (hw : w a = some (sC f e0 x0)) (hlink : Cond.fieldLink own index RX9 (TX5 7).2.1 (TX5 7).2.2.1 ∈ lw_g) (hdg : decode cc pc = .ok (.putfield index, 3))
    (kk : ∀ w2 : WM, w2 a = some (sC f e' x0) → (∀ b, b ≠ a → w2 b = w b) → w2 = wm_up w a (sC f e' x0) → AW G p l e R s m args below meth c nL A H0 Q w2 cells slots (pc + 3) lv rest) : AW G p l e R s m args below meth c nL A H0 Q w cells slots pc lv (va_rf e' :: .ref a :: rest) := by
  cases e' with
  | none => exact aw_putSg X (k := 7) (f' := f) (e' := _) hw (by decide) (by decide) hlink ⟨rfl, rfl⟩ ⟨rfl, rfl⟩ ⟨rfl, rfl⟩ ⟨rfl, rfl⟩ rfl rfl rfl rfl hdg kk
  | some b => exact aw_putSg X (k := 7) (f' := f) (e' := _) hw (by decide) (by decide) hlink ⟨rfl, rfl⟩ ⟨rfl, rfl⟩ ⟨rfl, rfl⟩ ⟨rfl, rfl⟩ rfl rfl rfl rfl hdg kk
theorem aw_aastS (X : Cx G p s m args meth c A H0 cc nL own) (t0 : Nat) {cA : ClassId} {b0 : Nat} {g : Nat → Option Nat} {i : Int32} (hw : w a = some (rA cA n g)) (ht : (gT G)[t0]? = some (cA, .object RX9)) (hv : w b0 = some (sC f e0 x0)) (hin : vp_in i n) (hdg : decode cc pc = .ok (.aastore, 1))
    (kk : ∀ w2 : WM, w2 a = some (rA cA n (va_up g i.toNatClampNeg (some b0))) → (∀ b, b ≠ a → w2 b = w b) → w2 = wm_up w a (rA cA n (va_up g i.toNatClampNeg (some b0))) → AW G p l e R s m args below meth c nL A H0 Q w2 cells slots (pc + 1) lv rest) : AW G p l e R s m args below meth c nL A H0 Q w cells slots pc lv (.ref b0 :: .int i :: .ref a :: rest) := by
  by_cases h0 : f 0 = 0
  · rw [sC_0 h0] at hv
    exact aw_aastO2 X t0 okX5 hw ht ca_X5_X9 hv hin hdg kk
  by_cases h1 : f 0 = 1
  · rw [sC_1 h1] at hv
    exact aw_aastO2 X t0 okX3 hw ht ca_X3_X9 hv hin hdg kk
  by_cases h2 : f 0 = 2
  · rw [sC_2 h2] at hv
    exact aw_aastO2 X t0 okX1 hw ht ca_X1_X9 hv hin hdg kk
  rw [sC_3 h0 h1 h2] at hv
  exact aw_aastO2 X t0 okX7 hw ht ca_X7_X9 hv hin hdg kk
variable {x y : MethodName} {bytes : ByteArray} {maxL : Nat} {ret : Option FieldType} {rm : Room} {As : List Value} {post : Option Value → WM → Prop} {b : Nat}
theorem aw_callVS (X : Cx G p s m args meth c A H0 cc nL own) (hM : MC G l y bytes maxL ret rm (.ref b :: As) w post) (ok : okM y bytes maxL ret n) (hb : w b = some (sC f e0 x0)) (hl : Cond.methodLink own index y ∈ lw_g) (hi : Cond.instanceMethod y ∈ lw_g) (hs5 : Cond.selects RX5 y y ∈ lw_g) (hs3 : Cond.selects RX3 y y ∈ lw_g) (hs1 : Cond.selects RX1 y y ∈ lw_g) (hs7 : Cond.selects RX7 y y ∈ lw_g) (hn : As.length = n) (hst : st = As.reverse ++ .ref b :: rest) (hW : (rest.map fun v => v.category).sum ≤ 8) (hR : okR R rm maxL cells slots) (hdg : decode cc pc = .ok (.invokevirtual index, 3))
    (kk : ∀ (v : Option Value) (w2 : WM), post v w2 → AW G p l e R s m args below meth c nL A H0 Q w2 (cells + rm.cells) (slots + rm.slots) (pc + 3) lv (v.toList ++ rest)) : AW G p l e R s m args below meth c nL A H0 Q w cells slots pc lv st := by
  by_cases h0 : f 0 = 0
  · rw [sC_0 h0] at hb
    exact aw_callV X hM ok okX5 hb hl hi hs5 hn hst hW hR hdg kk
  by_cases h1 : f 0 = 1
  · rw [sC_1 h1] at hb
    exact aw_callV X hM ok okX3 hb hl hi hs3 hn hst hW hR hdg kk
  by_cases h2 : f 0 = 2
  · rw [sC_2 h2] at hb
    exact aw_callV X hM ok okX1 hb hl hi hs1 hn hst hW hR hdg kk
  rw [sC_3 h0 h1 h2] at hb
  exact aw_callV X hM ok okX7 hb hl hi hs7 hn hst hW hR hdg kk
theorem aw_callSU (X : Cx G p s m args meth c A H0 cc nL own) (hb : w b = some (sC f e0 x0)) {y5 : MethodName} {b5 : ByteArray} {m5 : Nat} {r5 : Room} (hM5 : f 0 = 0 → MC G l y5 b5 m5 ret r5 (.ref b :: As) w post) (ok5 : okM y5 b5 m5 ret n) (hR5 : okR R r5 m5 cells slots) (hc5 : r5.cells = 0 ∧ r5.slots = 0) (hi5 : Cond.instanceMethod y5 ∈ lw_g) (hs5 : Cond.selects RX5 x y5 ∈ lw_g) {y3 : MethodName} {b3 : ByteArray} {m3 : Nat} {r3 : Room} (hM3 : f 0 = 1 → MC G l y3 b3 m3 ret r3 (.ref b :: As) w post) (ok3 : okM y3 b3 m3 ret n) (hR3 : okR R r3 m3 cells slots) (hc3 : r3.cells = 0 ∧ r3.slots = 0) (hi3 : Cond.instanceMethod y3 ∈ lw_g) (hs3 : Cond.selects RX3 x y3 ∈ lw_g) {y1 : MethodName} {b1 : ByteArray} {m1 : Nat} {r1 : Room} (hM1 : f 0 = 2 → MC G l y1 b1 m1 ret r1 (.ref b :: As) w post) (ok1 : okM y1 b1 m1 ret n) (hR1 : okR R r1 m1 cells slots) (hc1 : r1.cells = 0 ∧ r1.slots = 0) (hi1 : Cond.instanceMethod y1 ∈ lw_g) (hs1 : Cond.selects RX1 x y1 ∈ lw_g) {y7 : MethodName} {b7 : ByteArray} {m7 : Nat} {r7 : Room} (hM7 : ¬ f 0 = 0 ∧ ¬ f 0 = 1 ∧ ¬ f 0 = 2 → MC G l y7 b7 m7 ret r7 (.ref b :: As) w post) (ok7 : okM y7 b7 m7 ret n) (hR7 : okR R r7 m7 cells slots) (hc7 : r7.cells = 0 ∧ r7.slots = 0) (hi7 : Cond.instanceMethod y7 ∈ lw_g) (hs7 : Cond.selects RX7 x y7 ∈ lw_g) (hl : Cond.methodLink own index x ∈ lw_g) (hsm : Cond.sameMethod x.cls RX9 x.name x.desc ∈ lw_g) (hd : va_Decl s ⟨RX9, x.name, x.desc⟩) (hxn : (parseMethodDescriptor x.desc).map (fun d => d.parameters.length) = some n) (hn : As.length = n) (hst : st = As.reverse ++ .ref b :: rest) (hW : (rest.map fun v => v.category).sum ≤ 8) (hdg : decode cc pc = .ok (.invokevirtual index, 3))
    (kk : ∀ (v : Option Value) (w2 : WM), post v w2 → AW G p l e R s m args below meth c nL A H0 Q w2 (cells + 0) (slots + 0) (pc + 3) lv (v.toList ++ rest)) : AW G p l e R s m args below meth c nL A H0 Q w cells slots pc lv st := by
  have hmh : RX9 ≠ "java/lang/invoke/MethodHandle" ∧ RX9 ≠ "java/lang/invoke/VarHandle" := by decide
  by_cases h0 : f 0 = 0
  · have hb2 := hb
    rw [sC_0 h0] at hb2
    refine aw_callU X (hM5 h0) ok5 okX5 hb2 hl hsm hd hmh hxn hi5 hs5 hn hst hW hR5 hdg (fun v w2 hp => ?_)
    rw [hc5.1, hc5.2]
    exact kk v w2 hp
  by_cases h1 : f 0 = 1
  · have hb2 := hb
    rw [sC_1 h1] at hb2
    refine aw_callU X (hM3 h1) ok3 okX3 hb2 hl hsm hd hmh hxn hi3 hs3 hn hst hW hR3 hdg (fun v w2 hp => ?_)
    rw [hc3.1, hc3.2]
    exact kk v w2 hp
  by_cases h2 : f 0 = 2
  · have hb2 := hb
    rw [sC_2 h2] at hb2
    refine aw_callU X (hM1 h2) ok1 okX1 hb2 hl hsm hd hmh hxn hi1 hs1 hn hst hW hR1 hdg (fun v w2 hp => ?_)
    rw [hc1.1, hc1.2]
    exact kk v w2 hp
  have hb2 := hb
  rw [sC_3 h0 h1 h2] at hb2
  refine aw_callU X (hM7 ⟨h0, h1, h2⟩) ok7 okX7 hb2 hl hsm hd hmh hxn hi7 hs7 hn hst hW hR7 hdg (fun v w2 hp => ?_)
  rw [hc7.1, hc7.2]
  exact kk v w2 hp
end AWS
