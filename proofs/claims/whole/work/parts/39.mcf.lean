theorem met_ofF {l : Launch} {y : MethodName} {ws ws' : List Cond} {rm : Room} {Pc : Array Value → State → Prop} {Qc : Array Value → State → Outcome → State → Prop} {mc ms : Nat} {free : Addr → Prop} {cc : ByteArray} {maxL : Nat} {ret : Option FieldType}
    (hy : plainFor y = true) (hw : ws = Cond.code y cc maxL ret :: ws')
    (body : ∀ p e s m args below meth c s₁, BodyLoose p l y (headSpec ws rm) cc maxL ret e s m args below meth c s₁ → c.maxLocals = maxL → Pc args s →
      W p l e (headSpec ws rm).room s m args below meth c s.heap [] 0 0 (MQ below Qc args s mc ms free) (entryFrame m args maxL)) : Met l y ws rm Pc Qc mc ms free := by
  refine MetFree.of_bodySF (code := cc) (maxLocals := maxL) (ret := ret) hy ?_ ?_
  · intro args s m h hn
    obtain ⟨meth, c, h1, h2, h3, h4, h5, h6, -, -⟩ := Cond.code_spec hn (atoms_spec (ws := ws) h _ (by rw [hw]; exact List.mem_cons_self))
    exact ⟨meth, c, h1, h2, h3, h4, h5, h6⟩
  · intro p e s m args below meth c s₁ B hml hP _
    have hh0 : s₁.heap = s.heap := by rw [B.state]; rfl
    obtain ⟨t, a1, o, b1, b2, b3⟩ := body p e s m args below meth c s₁ B hml hP s₁ hh0 (Stand.of_body B)
    exact ⟨t, o, a1, b1, b2, ⟨b3.1, b3.2⟩⟩
section MCF
variable {G : GG} {l : Launch} {y : MethodName} {cc : ByteArray} {maxL : Nat} {ret : Option FieldType} {rm : Room} {av : List Value} {w : WM} {post : Option Value → WM → Prop} {lv0 : List (Nat × Value)}
theorem mf9_of (ins : Instr) (okv : Option Value → Prop) (hy : plainFor y = true) (hs : (lg_sl av).length ≤ maxL) (hlv : lv_args 0 av = lv0)
    (hend : ∀ (p : Program) (e : Env) (s : State) (m : MethodId) (below : List Frame) (meth : Method) (c : Code) (v : Option Value) (H : Heap) (locs : List Loc) (ls : Array Slot) (pc : Nat), p.tables.exec = Jvm.exec → c.code = cc → meth.sig.returnType = ret → meth.locks = false → decode cc pc = .ok (ins, 1) → okv v → (∀ t : State, t.heap = H → s.WarmedH t.vm → MCQ G w s.heap.size post av.toArray s (.returned v) t) → (∀ q ∈ locs, mA w s.heap.size q.base) → W p l e rm s m av.toArray below meth c H locs rm.cells rm.slots (MQ below (MCQ G w s.heap.size post) av.toArray s rm.cells rm.slots (mA w s.heap.size)) (F0 m pc ls v.toList))
    (body : ∀ (p : Program) (e : Env) (s : State) (m : MethodId) (args : Array Value) (below : List Frame) (meth : Method) (c : Code) (A : Nat → Prop) (H0 : Heap) (Q : State → Prop), Cx G p s m args meth c A H0 cc maxL y.cls → meth.name = y.name → RT G p l e rm s m args below meth c cc maxL A H0 Q ins okv post → AW G p l e rm s m args below meth c maxL A H0 Q w 0 0 0 lv0 []) : MC G l y cc maxL ret rm av w post := by
  intro sz
  refine met_ofF (cc := cc) (maxL := maxL) (ret := ret) hy rfl ?_
  intro p e s m args below meth c s₁ B hml hv
  obtain ⟨rfl, hsz, hP, hK, hE⟩ := hv
  subst hsz
  have hts := atoms_spec (ws := wsM y cc maxL ret) B.pre
  have X : Cx G p s m av.toArray meth c (mA w s.heap.size) s.heap cc maxL y.cls := ⟨B.exec, B.bytes, hml, findClass_of_methodNamed B.named, fun w hw => hts w (List.mem_cons_of_mem _ hw), hK, B.notSynchronized, fun _ h => Or.inr h, hE⟩
  rw [lg_entry_eq]
  subst hlv
  refine body p e s m av.toArray below meth c (mA w s.heap.size) s.heap _ X (name_of_methodNamed B.named B.method).1 ?_ s.heap [] _ hP (fun a h => Or.inl h) va_S.rf (lv_entry av hs)
  intro v w' cells slots pc lv hdg hok hc hsl hp H locs ls hP' hA' hS' hl'
  refine W.widen hc hsl ?_
  exact hend p e s m below meth c v H locs ls pc B.exec B.bytes B.returns B.notSynchronized hdg hok (fun t ht hW => ⟨⟨v, w', rfl, hp, by rw [ht]; exact hP', hA'⟩, hS'.F ht⟩) hS'.2.2
theorem mf9_int (hy : plainFor y = true) (hs : (lg_sl av).length ≤ maxL) (hlv : lv_args 0 av = lv0) (hret : ret = some .int)
    (body : ∀ (p : Program) (e : Env) (s : State) (m : MethodId) (args : Array Value) (below : List Frame) (meth : Method) (c : Code) (A : Nat → Prop) (H0 : Heap) (Q : State → Prop), Cx G p s m args meth c A H0 cc maxL y.cls → meth.name = y.name → RT G p l e rm s m args below meth c cc maxL A H0 Q .ireturn okInt post → AW G p l e rm s m args below meth c maxL A H0 Q w 0 0 0 lv0 []) : MC G l y cc maxL ret rm av w post := by
  refine mf9_of .ireturn okInt hy hs hlv ?_ body
  intro p e s m below meth c v H locs ls pc hx hb hr hk hdg hok hq hf
  obtain ⟨x, rfl⟩ := hok
  exact W.iret hx hb (hr.trans hret) hq hf hdg hk
theorem mf9_bool (hy : plainFor y = true) (hs : (lg_sl av).length ≤ maxL) (hlv : lv_args 0 av = lv0) (hret : ret = some .boolean)
    (body : ∀ (p : Program) (e : Env) (s : State) (m : MethodId) (args : Array Value) (below : List Frame) (meth : Method) (c : Code) (A : Nat → Prop) (H0 : Heap) (Q : State → Prop), Cx G p s m args meth c A H0 cc maxL y.cls → meth.name = y.name → RT G p l e rm s m args below meth c cc maxL A H0 Q .ireturn okBool post → AW G p l e rm s m args below meth c maxL A H0 Q w 0 0 0 lv0 []) : MC G l y cc maxL ret rm av w post := by
  refine mf9_of .ireturn okBool hy hs hlv ?_ body
  intro p e s m below meth c v H locs ls pc hx hb hr hk hdg hok hq hf
  rcases hok with rfl | rfl
  · exact W.zret hx hb (hr.trans hret) rfl hq hf hdg hk
  · exact W.zret hx hb (hr.trans hret) rfl hq hf hdg hk
theorem mf9_long (hy : plainFor y = true) (hs : (lg_sl av).length ≤ maxL) (hlv : lv_args 0 av = lv0) (hret : ret = some .long)
    (body : ∀ (p : Program) (e : Env) (s : State) (m : MethodId) (args : Array Value) (below : List Frame) (meth : Method) (c : Code) (A : Nat → Prop) (H0 : Heap) (Q : State → Prop), Cx G p s m args meth c A H0 cc maxL y.cls → meth.name = y.name → RT G p l e rm s m args below meth c cc maxL A H0 Q .lreturn okLong post → AW G p l e rm s m args below meth c maxL A H0 Q w 0 0 0 lv0 []) : MC G l y cc maxL ret rm av w post := by
  refine mf9_of .lreturn okLong hy hs hlv ?_ body
  intro p e s m below meth c v H locs ls pc hx hb hr hk hdg hok hq hf
  obtain ⟨x, rfl⟩ := hok
  exact W.lret hx hb (hr.trans hret) hq hf hdg hk
theorem mf9_void (hy : plainFor y = true) (hs : (lg_sl av).length ≤ maxL) (hlv : lv_args 0 av = lv0) (hret : ret = none)
    (body : ∀ (p : Program) (e : Env) (s : State) (m : MethodId) (args : Array Value) (below : List Frame) (meth : Method) (c : Code) (A : Nat → Prop) (H0 : Heap) (Q : State → Prop), Cx G p s m args meth c A H0 cc maxL y.cls → meth.name = y.name → RT G p l e rm s m args below meth c cc maxL A H0 Q .return_ okVoid post → AW G p l e rm s m args below meth c maxL A H0 Q w 0 0 0 lv0 []) : MC G l y cc maxL ret rm av w post := by
  refine mf9_of .return_ okVoid hy hs hlv ?_ body
  intro p e s m below meth c v H locs ls pc hx hb hr hk hdg hok hq hf
  cases hok
  exact W.vret hx hb (hr.trans hret) hq hf hdg hk
theorem mf9_ref (hy : plainFor y = true) (hs : (lg_sl av).length ≤ maxL) (hlv : lv_args 0 av = lv0) {rt : FieldType} (hret : ret = some rt) (hrt : (∃ n, rt = .object n) ∨ ∃ t, rt = .array t)
    (body : ∀ (p : Program) (e : Env) (s : State) (m : MethodId) (args : Array Value) (below : List Frame) (meth : Method) (c : Code) (A : Nat → Prop) (H0 : Heap) (Q : State → Prop), Cx G p s m args meth c A H0 cc maxL y.cls → meth.name = y.name → RT G p l e rm s m args below meth c cc maxL A H0 Q .areturn okRef post → AW G p l e rm s m args below meth c maxL A H0 Q w 0 0 0 lv0 []) : MC G l y cc maxL ret rm av w post := by
  refine mf9_of .areturn okRef hy hs hlv ?_ body
  intro p e s m below meth c v H locs ls pc hx hb hr hk hdg hok hq hf
  obtain ⟨r, rfl⟩ := hok
  cases r with
  | none => exact W.aret hx hb (hr.trans hret) hrt (Or.inl rfl) hq hf hdg hk
  | some a => exact W.aret hx hb (hr.trans hret) hrt (Or.inr ⟨a, rfl⟩) hq hf hdg hk
end MCF
