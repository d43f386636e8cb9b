/-! arrays of references, nest mates' static methods, addresses apart by what lies there -/
abbrev rA (cA : ClassId) (n : Nat) (f : Nat → Option Nat) : va_E := .inl (cA, n, .inr (.inr (.inr (.inr f))))
theorem ne_ci {w : WM} {a b i j : Nat} {f g : List Value} (ha : w a = some (.inr (i, f))) (hb : w b = some (.inr (j, g))) (h : i ≠ j) : a ≠ b := by
  intro z
  rw [z, hb] at ha
  simp only [Option.some.injEq, Sum.inr.injEq, Prod.mk.injEq] at ha
  exact h ha.1.symm
theorem ne_oa {w : WM} {a b : Nat} {x : Nat × List Value} {y : ClassId × vp_A} (ha : w a = some (.inr x)) (hb : w b = some (.inl y)) : a ≠ b := by
  intro z
  rw [z, hb] at ha
  cases ha
section AWX
variable {G : GG} {p : Program} {l : Launch} {e : Env} {R : Room} {s : State} {m : MethodId} {args : Array Value} {below : List Frame} {meth : Method} {c : Code} {nL : Nat} {A : Nat → Prop} {H0 : Heap} {Q : State → Prop} {w : WM} {cells slots pc : Nat} {lv lv' : List (Nat × Value)} {rest st : List Value} {cc : ByteArray} {own : String}
variable {a n : Nat}
theorem aw_aald (X : Cx G p s m args meth c A H0 cc nL own) (t0 : Nat) {cA : ClassId} {C : String} {f : Nat → Option Nat} {i : Int32} (hw : w a = some (rA cA n f)) (ht : (gT G)[t0]? = some (cA, .object C)) (hin : vp_in i n) (hdg : decode cc pc = .ok (.aaload, 1))
    (kk : AW G p l e R s m args below meth c nL A H0 Q w cells slots (pc + 1) lv (va_rf (f i.toNatClampNeg) :: rest)) : AW G p l e R s m args below meth c nL A H0 Q w cells slots pc lv (.int i :: .ref a :: rest) := by
  intro H locs ls hP hA hS hl
  obtain ⟨q0, hq⟩ := wm_pos hP hw
  exact va_aldq X.1 X.2.1 X.2.2.2.2.2.1 (wm_toP hP _) q0 t0 hq ht hin hdg (kk H locs ls hP hA hS hl)
theorem aw_aastN (X : Cx G p s m args meth c A H0 cc nL own) (t0 : Nat) {cA : ClassId} {C : String} {f : Nat → Option Nat} {i : Int32} (hw : w a = some (rA cA n f)) (ht : (gT G)[t0]? = some (cA, .object C)) (hin : vp_in i n) (hdg : decode cc pc = .ok (.aastore, 1))
    (kk : AW G p l e R s m args below meth c nL A H0 Q (wm_up w a (rA cA n (va_up f i.toNatClampNeg none))) cells slots (pc + 1) lv rest) : AW G p l e R s m args below meth c nL A H0 Q w cells slots pc lv (.null :: .int i :: .ref a :: rest) := by
  intro H locs ls hP hA hS hl
  obtain ⟨q0, hq⟩ := wm_pos hP hw
  exact va_astqN X.1 X.2.1 X.2.2.2.2.2.1 (wm_toP hP _) (wm_toD hA _) hS q0 t0 hq ht hin hdg (fun H1 locs1 hP1 _ hS1 => kk H1 locs1 ls (wm_set hP hq hP1) (wm_upA hA (hA a (nn_some hw))) hS1 hl)
theorem aw_aast (X : Cx G p s m args meth c A H0 cc nL own) (t0 : Nat) {cA : ClassId} {ci N v : Nat} {C : String} {T : u_T} {ty : Nat → FieldType} {vs : List Value} {f : Nat → Option Nat} {i : Int32} (ok : okC ci C T N ty) (hw : w a = some (rA cA n f)) (ht : (gT G)[t0]? = some (cA, .object C)) (hv : w v = some (.inr (ci, vs))) (hin : vp_in i n) (hdg : decode cc pc = .ok (.aastore, 1))
    (kk : AW G p l e R s m args below meth c nL A H0 Q (wm_up w a (rA cA n (va_up f i.toNatClampNeg (some v)))) cells slots (pc + 1) lv rest) : AW G p l e R s m args below meth c nL A H0 Q w cells slots pc lv (.ref v :: .int i :: .ref a :: rest) := by
  intro H locs ls hP hA hS hl
  obtain ⟨q0, hq⟩ := wm_pos hP hw
  obtain ⟨qk, hqk⟩ := wm_pos hP hv
  exact va_astq X.1 X.2.1 X.2.2.2.2.2.1 (wm_toP hP _) (wm_toD hA _) hS q0 t0 qk ci hq ht hqk ok.1 hin hdg (fun H1 locs1 hP1 _ hS1 => kk H1 locs1 ls (wm_set hP hq hP1) (wm_upA hA (hA a (nn_some hw))) hS1 hl)
variable {y : MethodName} {bytes : ByteArray} {maxL index : Nat} {ret : Option FieldType} {rm : Room} {As : List Value} {post : Option Value → WM → Prop}
theorem aw_callSN {host : String} (X : Cx G p s m args meth c A H0 cc nL own) (hM : MC G l y bytes maxL ret rm As w post) (ok : okM y bytes maxL ret n) (hl : Cond.methodLinkNest own index y host ∈ lw_x) (hs : Cond.static y ∈ lw_g) (hn : As.length = n) (hst : st = As.reverse ++ rest) (hW : (rest.map fun v => v.category).sum ≤ 8) (hR : okR R rm maxL cells slots) (hdg : decode cc pc = .ok (.invokestatic index, 3))
    (kk : ∀ (v : Option Value) (w2 : WM), post v w2 → AW G p l e R s m args below meth c nL A H0 Q w2 (cells + rm.cells) (slots + rm.slots) (pc + 3) lv (v.toList ++ rest)) : AW G p l e R s m args below meth c nL A H0 Q w cells slots pc lv st := by
  refine aw_run (aa := As.toArray) (mc := rm.cells) (ms := rm.slots) (post := post) X (fun _ _ h => h) (fun H locs ls hP hE hlv => ?_) (fun v w2 h => by rw [wm_fr_self]; exact kk v w2 h)
  refine va_runSN (Ts := lw_g) (host := host) ⟨X.1, X.2.1, X.2.2.1, X.2.2.2.1, X.2.2.2.2.1⟩ (hM H.size) ⟨⟨⟨rfl, rfl, hR.1, hR.2.1, fun w hw a' U hW => ?_, List.mem_cons_self⟩, X.2.2.2.2.1 _ ok.1, X.2.2.2.2.1 _ ok.2.1, ok.2.2.1, fun sig h => ?_, va_Nw.use rfl (hE.1 _ hl)⟩, X.2.2.2.2.1 _ hs, trivial⟩ ⟨mcp_blind, mcp_at X.2.2.2.2.2.1 hP hE⟩ rfl hn hlv.1 hst (lv_room hW) hdg hR.2.2
  · rcases List.mem_cons.mp hw with h | h
    · rw [h]; exact g_warm X.2.2.2.2.1 hW _ ok.1
    · exact g_warm X.2.2.2.2.1 hW _ h
  · have := ok.2.2.2
    rw [h] at this
    exact (Option.some.inj this).symm
end AWX
theorem mem_x {w : Cond} (h : w ∈ lw_tbl) (hg : lw_isX w = true) : w ∈ lw_x := List.mem_filter.mpr ⟨h, hg⟩
