/-! rows: super calls, private methods of a superclass, the constant Strings -/
theorem aw_callSp {G : GG} {p : Program} {l : Launch} {e : Env} {R : Room} {s : State} {m : MethodId} {args : Array Value} {below : List Frame} {meth : Method} {c : Code} {nL : Nat} {A : Nat → Prop} {H0 : Heap} {Q : State → Prop} {w : WM} {cells slots pc : Nat} {lv : List (Nat × Value)} {rest : List Value} {cc : ByteArray} {own : String} {index : Nat} {st : List Value} {y : MethodName} {bytes : ByteArray} {maxL n : Nat} {ret : Option FieldType} {rm : Room} {As : List Value} {post : Option Value → WM → Prop} {b ci N : Nat} {C : String} {T : u_T} {ty : Nat → FieldType} {fs : List Value} (X : Cx G p s m args meth c A H0 cc nL own) (hM : MC G l y bytes maxL ret rm (.ref b :: As) w post) (ok : okM y bytes maxL ret n) (okc : okC ci C T N ty) (hb : w b = some (.inr (ci, fs))) (hl : Cond.methodLink own index y ∈ lw_g) (hsm : Cond.sameMethod y.cls y.cls y.name y.desc ∈ lw_g) (hsu : Cond.superclass own y.cls ∈ lw_g) (hi : Cond.instanceMethod y ∈ lw_g) (hni : y.name ≠ "<init>") (hn : As.length = n) (hst : st = As.reverse ++ .ref b :: rest) (hW : (rest.map fun v => v.category).sum ≤ 8) (hR : okR R rm maxL cells slots) (hdg : decode cc pc = .ok (.invokespecial index, 3))
    (kk : ∀ (v : Option Value) (w2 : WM), post v w2 → AW G p l e R s m args below meth c nL A H0 Q w2 (cells + rm.cells) (slots + rm.slots) (pc + 3) lv (v.toList ++ rest)) : AW G p l e R s m args below meth c nL A H0 Q w cells slots pc lv st := by
  refine aw_run (aa := (Value.ref b :: As).toArray) (mc := rm.cells) (ms := rm.slots) (post := post) X (fun _ _ h => h) (fun H locs ls hP hE hlv => ?_) (fun v w2 h => by rw [wm_fr_self]; exact kk v w2 h)
  obtain ⟨q0, hq⟩ := wm_pos hP hb
  refine va_runSU (Ts := lw_g) (X.2.2.2.2.2.1.1 _ _ okc.1).2 ⟨X.1, X.2.1, X.2.2.1, X.2.2.2.1, X.2.2.2.2.1⟩ (hM H.size) ⟨⟨rfl, rfl, hR.1, hR.2.1, fun w hw a' U hW => ?_, List.mem_cons_self⟩, X.2.2.2.2.1 _ hl, X.2.2.2.2.1 _ hsm, X.2.2.2.2.1 _ hsu, X.2.2.2.2.1 _ hi, X.2.2.2.2.1 _ ok.2.1, X.2.2.2.2.1 _ ok.1, hni, fun sig h => ?_⟩ ⟨mcp_blind, va_recv X.2.2.2.2.2.1 (wm_toP hP _) okc.1 hq, mcp_at X.2.2.2.2.2.1 hP hE⟩ rfl hn hlv.1 hst (lv_room hW) hdg hR.2.2
  · rcases List.mem_cons.mp hw with h | h
    · rw [h]; exact g_warm X.2.2.2.2.1 hW _ ok.1
    · exact g_warm X.2.2.2.2.1 hW _ h
  · have := ok.2.2.2
    rw [h] at this
    exact (Option.some.inj this).symm
theorem sm_found {args : Array Value} {s : State} {y : MethodName} (h : (Cond.sameMethod y.cls y.cls y.name y.desc).before args s = true) : ∃ c r k, s.vm.findClass y.cls = some c ∧ s.methodFound? y.cls y.name y.desc = some r ∧ s.methodNamed? y = some r ∧ s.vm.classes[c]? = some k ∧ k.isInterface = false := by
  have h0 := h
  simp only [Cond.before, Cond.holds, Cond.value] at h
  cases hc : s.vm.findClass y.cls with
  | none => simp [hc] at h
  | some c =>
    cases hf : s.methodFound? y.cls y.name y.desc with
    | none => simp [hc, hf] at h
    | some r =>
      obtain ⟨h1, k, h2, h3⟩ := Cond.sameMethod_spec hc hf h0
      exact ⟨c, r, k, rfl, rfl, h1, h2, h3⟩
theorem sel_priv {args : Array Value} {s : State} {C : String} {cC : ClassId} {y : MethodName} (hat : s.vm.findClass C = some cC) (hsm : (Cond.sameMethod y.cls y.cls y.name y.desc).before args s = true) (hpr : va_Nw (Cond.privateMethod y) s) (hi : (Cond.instanceMethod y).before args s = true) : (Cond.selects C y y).before args s = true := by
  obtain ⟨c, r, k, h1, h2, h3, h4, h5⟩ := sm_found hsm
  obtain ⟨m', meth, g1, g2, g3, g4⟩ := Cond.instanceMethod_spec hi
  cases h3.symm.trans g1
  have hp := Cond.privateMethod_at hpr r meth h3 g2
  have hsel : selectMethod {} s.vm cC r = .method r := selectMethod_private g2 hp
  have hcls : r.cls = c := Option.some.inj ((findClass_of_methodNamed h3).symm.trans h1)
  simp only [Cond.before, Cond.holds, Cond.value, hat, h2, h3, hsel]
  simp [hcls, h4, h5]
theorem aw_callP {G : GG} {p : Program} {l : Launch} {e : Env} {R : Room} {s : State} {m : MethodId} {args : Array Value} {below : List Frame} {meth : Method} {c : Code} {nL : Nat} {A : Nat → Prop} {H0 : Heap} {Q : State → Prop} {w : WM} {cells slots pc : Nat} {lv : List (Nat × Value)} {rest : List Value} {cc : ByteArray} {own : String} {index : Nat} {st : List Value} {y : MethodName} {bytes : ByteArray} {maxL n : Nat} {ret : Option FieldType} {rm : Room} {As : List Value} {post : Option Value → WM → Prop} {b ci N : Nat} {C : String} {T : u_T} {ty : Nat → FieldType} {fs : List Value} (X : Cx G p s m args meth c A H0 cc nL own) (hM : MC G l y bytes maxL ret rm (.ref b :: As) w post) (ok : okM y bytes maxL ret n) (okc : okC ci C T N ty) (hb : w b = some (.inr (ci, fs))) (hl : Cond.methodLink own index y ∈ lw_g) (hi : Cond.instanceMethod y ∈ lw_g) (hsm : Cond.sameMethod y.cls y.cls y.name y.desc ∈ lw_g) (hpr : va_Nw (Cond.privateMethod y) s) (hn : As.length = n) (hst : st = As.reverse ++ .ref b :: rest) (hW : (rest.map fun v => v.category).sum ≤ 8) (hR : okR R rm maxL cells slots) (hdg : decode cc pc = .ok (.invokevirtual index, 3))
    (kk : ∀ (v : Option Value) (w2 : WM), post v w2 → AW G p l e R s m args below meth c nL A H0 Q w2 (cells + rm.cells) (slots + rm.slots) (pc + 3) lv (v.toList ++ rest)) : AW G p l e R s m args below meth c nL A H0 Q w cells slots pc lv st := by
  refine aw_run (aa := (Value.ref b :: As).toArray) (mc := rm.cells) (ms := rm.slots) (post := post) X (fun _ _ h => h) (fun H locs ls hP hE hlv => ?_) (fun v w2 h => by rw [wm_fr_self]; exact kk v w2 h)
  obtain ⟨q0, hq⟩ := wm_pos hP hb
  exact va_runV (Ts := lw_g) ⟨X.1, X.2.1, X.2.2.1, X.2.2.2.1, X.2.2.2.2.1⟩ (hM H.size) ⟨call_B X ok hl hR, X.2.2.2.2.1 _ hi, sel_priv (X.2.2.2.2.2.1.1 _ _ okc.1).2.1 (X.2.2.2.2.1 _ hsm) hpr (X.2.2.2.2.1 _ hi)⟩ ⟨mcp_blind, va_recv X.2.2.2.2.2.1 (wm_toP hP _) okc.1 hq, mcp_at X.2.2.2.2.2.1 hP hE⟩ rfl hn hlv.1 hst (lv_room hW) hdg hR.2.2
theorem aw_callVK {G : GG} {p : Program} {l : Launch} {e : Env} {R : Room} {s : State} {m : MethodId} {args : Array Value} {below : List Frame} {meth : Method} {c : Code} {nL : Nat} {A : Nat → Prop} {H0 : Heap} {Q : State → Prop} {w : WM} {cells slots pc : Nat} {lv : List (Nat × Value)} {rest : List Value} {cc : ByteArray} {own : String} {index : Nat} {st : List Value} {y : MethodName} {bytes : ByteArray} {maxL n : Nat} {ret : Option FieldType} {rm : Room} {As : List Value} {post : Option Value → WM → Prop} {i : Nat} (X : Cx G p s m args meth c A H0 cc nL own) (hi3 : i < 3) (hM : MC G l y bytes maxL ret rm (.ref (gK G i) :: As) w post) (ok : okM y bytes maxL ret n) (hl : Cond.methodLink own index y ∈ lw_g) (hi : Cond.instanceMethod y ∈ lw_g) (hsel : Cond.selects RJ0 y y ∈ lw_g) (hn : As.length = n) (hst : st = As.reverse ++ .ref (gK G i) :: rest) (hW : (rest.map fun v => v.category).sum ≤ 8) (hR : okR R rm maxL cells slots) (hdg : decode cc pc = .ok (.invokevirtual index, 3))
    (kk : ∀ (v : Option Value) (w2 : WM), post v w2 → AW G p l e R s m args below meth c nL A H0 Q w2 (cells + rm.cells) (slots + rm.slots) (pc + 3) lv (v.toList ++ rest)) : AW G p l e R s m args below meth c nL A H0 Q w cells slots pc lv st := by
  refine aw_run (aa := (Value.ref (gK G i) :: As).toArray) (mc := rm.cells) (ms := rm.slots) (post := post) X (fun _ _ h => h) (fun H locs ls hP hE hlv => ?_) (fun v w2 h => by rw [wm_fr_self]; exact kk v w2 h)
  obtain ⟨cell, h1, h2, h3, -⟩ := (hE.2.2.2.2.2.2.2.2.1.1 i hi3).1
  exact va_runV (Ts := lw_g) ⟨X.1, X.2.1, X.2.2.1, X.2.2.2.1, X.2.2.2.2.1⟩ (hM H.size) ⟨call_B X ok hl hR, X.2.2.2.2.1 _ hi, X.2.2.2.2.1 _ hsel⟩ ⟨mcp_blind, ⟨cell, h1, h2, h3⟩, mcp_at X.2.2.2.2.2.1 hP hE⟩ rfl hn hlv.1 hst (lv_room hW) hdg hR.2.2
theorem aw_getKv {G : GG} {p : Program} {l : Launch} {e : Env} {R : Room} {s : State} {m : MethodId} {args : Array Value} {below : List Frame} {meth : Method} {c : Code} {nL : Nat} {A : Nat → Prop} {H0 : Heap} {Q : State → Prop} {w : WM} {cells slots pc : Nat} {lv : List (Nat × Value)} {rest : List Value} {cc : ByteArray} {own : String} {index : Nat} {i : Nat} (X : Cx G p s m args meth c A H0 cc nL own) (hi3 : i < 3) (hl : Cond.fieldLink own index RJ0 "value" "[B" ∈ lw_g) (hdg : decode cc pc = .ok (.getfield index, 3)) (kk : AW G p l e R s m args below meth c nL A H0 Q w cells slots (pc + 3) lv (.ref (gV G i) :: rest)) : AW G p l e R s m args below meth c nL A H0 Q w cells slots pc lv (.ref (gK G i) :: rest) := by
  intro H locs ls hP hA hS hl'
  obtain ⟨cf, k, fi, f, cell, h1, h2, h3, h4, h5, h6⟩ := ((X.2.2.2.2.2.2.2.2.2.2.2.2.2.2.2.2.1).1 i hi3).2.2.1.kept hS.2.1
  exact W.getf X.1 X.2.1 X.2.2.2.1 (X.2.2.2.2.1 _ hl) h1 h2 h3 h4 (v := .ref (gV G i)) h5 rfl rfl hdg (kk H locs ls hP hA hS hl')
theorem aw_getKc {G : GG} {p : Program} {l : Launch} {e : Env} {R : Room} {s : State} {m : MethodId} {args : Array Value} {below : List Frame} {meth : Method} {c : Code} {nL : Nat} {A : Nat → Prop} {H0 : Heap} {Q : State → Prop} {w : WM} {cells slots pc : Nat} {lv : List (Nat × Value)} {rest : List Value} {cc : ByteArray} {own : String} {index : Nat} {i : Nat} (X : Cx G p s m args meth c A H0 cc nL own) (hi3 : i < 3) (hl : Cond.fieldLink own index RJ0 "coder" "B" ∈ lw_g) (hdg : decode cc pc = .ok (.getfield index, 3)) (kk : AW G p l e R s m args below meth c nL A H0 Q w cells slots (pc + 3) lv (.int 0 :: rest)) : AW G p l e R s m args below meth c nL A H0 Q w cells slots pc lv (.ref (gK G i) :: rest) := by
  intro H locs ls hP hA hS hl'
  obtain ⟨cf, k, fi, f, cell, h1, h2, h3, h4, h5, h6⟩ := ((X.2.2.2.2.2.2.2.2.2.2.2.2.2.2.2.2.1).1 i hi3).2.1.kept hS.2.1
  exact W.getf X.1 X.2.1 X.2.2.2.1 (X.2.2.2.2.1 _ hl) h1 h2 h3 h4 (v := .int 0) h5 rfl rfl hdg (kk H locs ls hP hA hS hl')
theorem aw_alenK {G : GG} {p : Program} {l : Launch} {e : Env} {R : Room} {s : State} {m : MethodId} {args : Array Value} {below : List Frame} {meth : Method} {c : Code} {nL : Nat} {A : Nat → Prop} {H0 : Heap} {Q : State → Prop} {w : WM} {cells slots pc : Nat} {lv : List (Nat × Value)} {rest : List Value} {cc : ByteArray} {own : String} {index : Nat} {i : Nat} {v : Int32} (X : Cx G p s m args meth c A H0 cc nL own) (hi3 : i < 3) (hv : Int32.ofNat (lw_ln.getD i 0) = v) (hdg : decode cc pc = .ok (.arraylength, 1)) (kk : AW G p l e R s m args below meth c nL A H0 Q w cells slots (pc + 1) lv (.int v :: rest)) : AW G p l e R s m args below meth c nL A H0 Q w cells slots pc lv (.ref (gV G i) :: rest) := by
  subst hv
  intro H locs ls hP hA hS hl'
  obtain ⟨cell, h1, h2, h3, h4, h5, h6, h7⟩ := ((X.2.2.2.2.2.2.2.2.2.2.2.2.2.2.2.2.1).1 i hi3).2.2.2.kept hS.2.1
  exact W.alen (n := Int32.ofNat (lw_ln.getD i 0)) X.1 X.2.1 h1 h2 h5 rfl rfl hdg (kk H locs ls hP hA hS hl')
theorem aw_baldK {G : GG} {p : Program} {l : Launch} {e : Env} {R : Room} {s : State} {m : MethodId} {args : Array Value} {below : List Frame} {meth : Method} {c : Code} {nL : Nat} {A : Nat → Prop} {H0 : Heap} {Q : State → Prop} {w : WM} {cells slots pc : Nat} {lv : List (Nat × Value)} {rest : List Value} {cc : ByteArray} {own : String} {index : Nat} {i : Nat} {x : Int32} (X : Cx G p s m args meth c A H0 cc nL own) (hi3 : i < 3) (hin : vp_in x (lw_ln.getD i 0)) (hdg : decode cc pc = .ok (.baload, 1)) (kk : AW G p l e R s m args below meth c nL A H0 Q w cells slots (pc + 1) lv (.int ((lw_by.getD i []).getD x.toNatClampNeg 0) :: rest)) : AW G p l e R s m args below meth c nL A H0 Q w cells slots pc lv (.int x :: .ref (gV G i) :: rest) := by
  intro H locs ls hP hA hS hl'
  obtain ⟨cell, h1, h2, h3, h4, h5, h6, h7⟩ := ((X.2.2.2.2.2.2.2.2.2.2.2.2.2.2.2.2.1).1 i hi3).2.2.2.kept hS.2.1
  have hlt : x.toNatClampNeg < lw_ln.getD i 0 := Nat.not_le.mp fun q => hin (Or.inr q)
  have hin' : ¬ (x < 0 ∨ cell.slots.size ≤ x.toNatClampNeg) := by
    intro q
    rcases q with q | q
    · exact hin (Or.inl q)
    · omega
  exact W.bald (v := .int ((lw_by.getD i []).getD x.toNatClampNeg 0)) X.1 X.2.1 h1 h2 h3 hin' (h6 _ hlt) rfl rfl hdg (kk H locs ls hP hA hS hl')
theorem ldcw_str {p : Program} {l : Launch} {e : Env} {R : Room} {s : State} {m : MethodId} {args : Array Value} {below : List Frame} {meth : Method} {c : Code} {T : State} {locs : List Loc} {cells slots : Nat} (X : Stand p l e R s m args below meth c T locs cells slots) (hexec : p.tables.exec = Jvm.exec) {own tx : String} {index : Nat} {a : Addr} (hown : s.vm.findClass own = some m.cls) (hZ : vk_R own index tx a s) {g : JFrame} (hg : g.method = m) (hdg : decode c.code g.pc = .ok (.ldc_w index, 3)) : ∀ target, Steps p.tables e below (T.setTop { g with pc := g.pc + 3, stack := .ref a :: g.stack }) target → Steps p.tables e below (T.setTop g) target := by
  obtain ⟨k, cf, i, a', hk, hcf, hcp, -, hr, hev'⟩ := Cond.stringRef_spec hown hZ.1
  cases hZ.2.symm.trans hev'
  obtain ⟨k', hk', he⟩ := X.warmed.alike.2.2 _ _ hk
  have hr' : k'.resolved[index]? = some (some (.string a)) := by
    rcases X.warmed.entry hk hk' index with h | ⟨h, -⟩
    · rw [h]; exact hr
    · rw [hr] at h; cases h
  intro target hrest
  subst hg
  jvm_step X.here [hexec, hdg, Op.ldc_w.wp_string (e := e) (s := T) (f := g) X.here.top hk' (by rw [he]; exact hcf) hcp hr']
  exact hrest
theorem aw_ldcwS {G : GG} {p : Program} {l : Launch} {e : Env} {R : Room} {s : State} {m : MethodId} {args : Array Value} {below : List Frame} {meth : Method} {c : Code} {nL : Nat} {A : Nat → Prop} {H0 : Heap} {Q : State → Prop} {w : WM} {cells slots pc : Nat} {lv : List (Nat × Value)} {rest : List Value} {cc : ByteArray} {own : String} {index : Nat} {tx : String} {q : Nat} (X : Cx G p s m args meth c A H0 cc nL own) (hZ : vk_R own index tx q s) (hdg : decode cc pc = .ok (.ldc_w index, 3)) (kk : AW G p l e R s m args below meth c nL A H0 Q w cells slots (pc + 3) lv (.ref q :: rest)) : AW G p l e R s m args below meth c nL A H0 Q w cells slots pc lv rest := by
  intro H locs ls hP hA hS hl'
  intro T hT X'
  obtain ⟨t, a1, b1⟩ := kk H locs ls hP hA hS hl' T hT X'
  exact ⟨t, ldcw_str X' X.1 X.2.2.2.1 hZ (g := F0 m pc ls rest) rfl (by rw [X.2.1]; exact hdg) t a1, b1⟩
theorem ao_X2 : Cond.arrayOver (.object RX2) ∈ lw_x := mem_x (mem_t (List.mem_append_left _ (List.mem_of_getElem? (i := 37) (by decide +kernel)))) rfl
theorem ao_X9 : Cond.arrayOver (.object RX9) ∈ lw_x := mem_x (mem_t (List.mem_append_left _ (List.mem_of_getElem? (i := 39) (by decide +kernel)))) rfl
theorem ao_X6 : Cond.arrayOver (.object RX6) ∈ lw_x := mem_x (mem_t (List.mem_append_left _ (List.mem_of_getElem? (i := 41) (by decide +kernel)))) rfl
theorem pv_X10_faulted : Cond.privateMethod yX10_faulted ∈ lw_x := mem_x (mem_t (List.mem_append_left _ (List.mem_of_getElem? (i := 179) (by decide +kernel)))) rfl
theorem pv_X10_refusalOfNumberAt : Cond.privateMethod yX10_refusalOfNumberAt ∈ lw_x := mem_x (mem_t (List.mem_append_left _ (List.mem_of_getElem? (i := 207) (by decide +kernel)))) rfl
theorem pv_X10_isReference : Cond.privateMethod yX10_isReference ∈ lw_x := mem_x (mem_t (List.mem_append_left _ (List.mem_of_getElem? (i := 231) (by decide +kernel)))) rfl
theorem pv_X10_mayStore : Cond.privateMethod yX10_mayStore ∈ lw_x := mem_x (mem_t (List.mem_append_left _ (List.mem_of_getElem? (i := 235) (by decide +kernel)))) rfl
theorem pv_X10_storable : Cond.privateMethod yX10_storable ∈ lw_x := mem_x (mem_t (List.mem_append_right _ (List.mem_append_left _ (List.mem_of_getElem? (i := 16) (by decide +kernel))))) rfl
theorem pv_X10_admit : Cond.privateMethod yX10_admit ∈ lw_x := mem_x (mem_t (List.mem_append_right _ (List.mem_append_left _ (List.mem_of_getElem? (i := 85) (by decide +kernel))))) rfl
theorem pv_X10_freeSlot : Cond.privateMethod yX10_freeSlot ∈ lw_x := mem_x (mem_t (List.mem_append_right _ (List.mem_append_left _ (List.mem_of_getElem? (i := 89) (by decide +kernel))))) rfl
theorem pv_X10_isInTheWay : Cond.privateMethod yX10_isInTheWay ∈ lw_x := mem_x (mem_t (List.mem_append_right _ (List.mem_append_left _ (List.mem_of_getElem? (i := 122) (by decide +kernel))))) rfl
theorem pv_X1_wholeSigns : Cond.privateMethod yX1_wholeSigns ∈ lw_x := mem_x (mem_t (List.mem_append_right _ (List.mem_append_left _ (List.mem_of_getElem? (i := 136) (by decide +kernel))))) rfl
theorem pv_X10_streamOf : Cond.privateMethod yX10_streamOf ∈ lw_x := mem_x (mem_t (List.mem_append_right _ (List.mem_append_left _ (List.mem_of_getElem? (i := 207) (by decide +kernel))))) rfl
theorem pv_X10_slotOf : Cond.privateMethod yX10_slotOf ∈ lw_x := mem_x (mem_t (List.mem_append_right _ (List.mem_append_left _ (List.mem_of_getElem? (i := 211) (by decide +kernel))))) rfl
theorem pv_X10_putAndEcho : Cond.privateMethod yX10_putAndEcho ∈ lw_x := mem_x (mem_t (List.mem_append_right _ (List.mem_append_left _ (List.mem_of_getElem? (i := 215) (by decide +kernel))))) rfl
theorem pv_X10_putInto : Cond.privateMethod yX10_putInto ∈ lw_x := mem_x (mem_t (List.mem_append_right _ (List.mem_append_left _ (List.mem_of_getElem? (i := 219) (by decide +kernel))))) rfl
theorem pv_X3_faultHere : Cond.privateMethod yX3_faultHere ∈ lw_x := mem_x (mem_t (List.mem_append_right _ (List.mem_append_right _ (List.mem_append_left _ (List.mem_of_getElem? (i := 3) (by decide +kernel)))))) rfl
theorem pv_J5_ensureCapacityInternal_d00df : Cond.privateMethod yJ5_ensureCapacityInternal_d00df ∈ lw_x := mem_x (mem_t (List.mem_append_right _ (List.mem_append_right _ (List.mem_append_left _ (List.mem_of_getElem? (i := 221) (by decide +kernel)))))) rfl
theorem pv_J5_newCapacity_0f7a4 : Cond.privateMethod yJ5_newCapacity_0f7a4 ∈ lw_x := mem_x (mem_t (List.mem_append_right _ (List.mem_append_right _ (List.mem_append_left _ (List.mem_of_getElem? (i := 225) (by decide +kernel)))))) rfl
theorem pv_J5_inflate_da8c8 : Cond.privateMethod yJ5_inflate_da8c8 ∈ lw_x := mem_x (mem_t (List.mem_append_right _ (List.mem_append_right _ (List.mem_append_right _ (List.mem_append_left _ (List.mem_of_getElem? (i := 18) (by decide +kernel))))))) rfl
theorem pv_X10_fileNamed : Cond.privateMethod yX10_fileNamed ∈ lw_x := mem_x (mem_t (List.mem_append_right _ (List.mem_append_right _ (List.mem_append_right _ (List.mem_append_left _ (List.mem_of_getElem? (i := 135) (by decide +kernel))))))) rfl
theorem pv_X10_refer : Cond.privateMethod yX10_refer ∈ lw_x := mem_x (mem_t (List.mem_append_right _ (List.mem_append_right _ (List.mem_append_right _ (List.mem_append_left _ (List.mem_of_getElem? (i := 188) (by decide +kernel))))))) rfl
theorem pv_X0_tell : Cond.privateMethod yX0_tell ∈ lw_x := mem_x (mem_t (List.mem_append_right _ (List.mem_append_right _ (List.mem_append_right _ (List.mem_append_right _ (List.mem_append_left _ (List.mem_of_getElem? (i := 15) (by decide +kernel)))))))) rfl
theorem pv_X10_openStreams : Cond.privateMethod yX10_openStreams ∈ lw_x := mem_x (mem_t (List.mem_append_right _ (List.mem_append_right _ (List.mem_append_right _ (List.mem_append_right _ (List.mem_append_left _ (List.mem_of_getElem? (i := 31) (by decide +kernel)))))))) rfl
theorem pv_X11_fails : Cond.privateMethod yX11_fails ∈ lw_x := mem_x (mem_t (List.mem_append_right _ (List.mem_append_right _ (List.mem_append_right _ (List.mem_append_right _ (List.mem_append_left _ (List.mem_of_getElem? (i := 124) (by decide +kernel)))))))) rfl
theorem pv_X11_freeArray : Cond.privateMethod yX11_freeArray ∈ lw_x := mem_x (mem_t (List.mem_append_right _ (List.mem_append_right _ (List.mem_append_right _ (List.mem_append_right _ (List.mem_append_left _ (List.mem_of_getElem? (i := 129) (by decide +kernel)))))))) rfl
theorem pv_X11_against : Cond.privateMethod yX11_against ∈ lw_x := mem_x (mem_t (List.mem_append_right _ (List.mem_append_right _ (List.mem_append_right _ (List.mem_append_right _ (List.mem_append_left _ (List.mem_of_getElem? (i := 142) (by decide +kernel)))))))) rfl
theorem pv_X11_isReference : Cond.privateMethod yX11_isReference ∈ lw_x := mem_x (mem_t (List.mem_append_right _ (List.mem_append_right _ (List.mem_append_right _ (List.mem_append_right _ (List.mem_append_left _ (List.mem_of_getElem? (i := 157) (by decide +kernel)))))))) rfl
theorem pv_X11_freePlace : Cond.privateMethod yX11_freePlace ∈ lw_x := mem_x (mem_t (List.mem_append_right _ (List.mem_append_right _ (List.mem_append_right _ (List.mem_append_right _ (List.mem_append_left _ (List.mem_of_getElem? (i := 173) (by decide +kernel)))))))) rfl
theorem pv_X11_begin : Cond.privateMethod yX11_begin ∈ lw_x := mem_x (mem_t (List.mem_append_right _ (List.mem_append_right _ (List.mem_append_right _ (List.mem_append_right _ (List.mem_append_left _ (List.mem_of_getElem? (i := 177) (by decide +kernel)))))))) rfl
theorem pv_X11_endOf : Cond.privateMethod yX11_endOf ∈ lw_x := mem_x (mem_t (List.mem_append_right _ (List.mem_append_right _ (List.mem_append_right _ (List.mem_append_right _ (List.mem_append_left _ (List.mem_of_getElem? (i := 191) (by decide +kernel)))))))) rfl
theorem pv_X11_placeOf : Cond.privateMethod yX11_placeOf ∈ lw_x := mem_x (mem_t (List.mem_append_right _ (List.mem_append_right _ (List.mem_append_right _ (List.mem_append_right _ (List.mem_append_right _ (List.mem_append_left _ (List.mem_of_getElem? (i := 117) (by decide +kernel))))))))) rfl
theorem pv_X11_putOn : Cond.privateMethod yX11_putOn ∈ lw_x := mem_x (mem_t (List.mem_append_right _ (List.mem_append_right _ (List.mem_append_right _ (List.mem_append_right _ (List.mem_append_right _ (List.mem_append_left _ (List.mem_of_getElem? (i := 122) (by decide +kernel))))))))) rfl
theorem pv_X11_putInto : Cond.privateMethod yX11_putInto ∈ lw_x := mem_x (mem_t (List.mem_append_right _ (List.mem_append_right _ (List.mem_append_right _ (List.mem_append_right _ (List.mem_append_right _ (List.mem_append_left _ (List.mem_of_getElem? (i := 126) (by decide +kernel))))))))) rfl
theorem pv_X11_counted : Cond.privateMethod yX11_counted ∈ lw_x := mem_x (mem_t (List.mem_append_right _ (List.mem_append_right _ (List.mem_append_right _ (List.mem_append_right _ (List.mem_append_right _ (List.mem_append_left _ (List.mem_of_getElem? (i := 130) (by decide +kernel))))))))) rfl
theorem pv_X11_isLike : Cond.privateMethod yX11_isLike ∈ lw_x := mem_x (mem_t (List.mem_append_right _ (List.mem_append_right _ (List.mem_append_right _ (List.mem_append_right _ (List.mem_append_right _ (List.mem_append_left _ (List.mem_of_getElem? (i := 177) (by decide +kernel))))))))) rfl
theorem pv_X11_comes : Cond.privateMethod yX11_comes ∈ lw_x := mem_x (mem_t (List.mem_append_right _ (List.mem_append_right _ (List.mem_append_right _ (List.mem_append_right _ (List.mem_append_right _ (List.mem_append_right _ (List.mem_of_getElem? (i := 15) (by decide +kernel))))))))) rfl
