/-! share: of the class, which may throw; of the law, which catches -/
def AEx : String := "java/lang/ArithmeticException"
theorem cl_AE : Cond.classLink RX10 371 AEx ∈ lw_g := mem_g (by decide +kernel) (by decide +kernel)
theorem cl_LAE : Cond.classLink RL 13 AEx ∈ lw_g := mem_g (by decide +kernel) (by decide +kernel)
theorem in_AE : Cond.initialized AEx ∈ lw_g := mem_g (by decide +kernel) (by decide +kernel)
theorem ca_AE : Cond.castable AEx AEx ∈ lw_x := List.mem_filter.mpr ⟨by decide +kernel, by decide +kernel⟩
theorem at_AE : ∀ w ∈ vx_atS RX10 375 AEx ["java/lang/RuntimeException", "java/lang/Exception"], w ∈ lw_tbl ∧ (goodWord w = true ∨ lw_isX w = true) := by decide +kernel
theorem ot_AE : ∀ w ∈ Cond.classLink RX10 371 AEx :: Cond.initialized AEx :: vx_atS RX10 375 AEx ["java/lang/RuntimeException", "java/lang/Exception"], vx_ot w = true := by decide +kernel
theorem cw_Ls : Cond.codeWith yL_share cL_share 3 (some .int) [(0, 8, 11, 13)] ∈ lw_g := mem_g (by decide +kernel) (by decide +kernel)
theorem x_un {w : Cond} {A : Array Value} {s : State} (hx : lw_isX w = true) (h : va_Nw w s) : w.before A s = true := by
  cases w <;> first | (exact va_tabs (A := #[]) rfl (rfl : s.vm = s.vm) h) | (rename_i ty; cases ty <;> first | (exact va_AO.use h) | (cases hx)) | (cases hx)
def XCS (G : GG) (w : WM) (sz : Nat) (sd : Int32) : String → State → State → Prop := fun E st t => E = AEx ∧ sd = 0 ∧ wm_P G w t.heap ∧ va_F (mA w sz) st t
def rmS : Room := { frames := 6, cells := 1, slots := 6, locals := 90 }
theorem vX10_share (G : GG) (l : Launch) (hl : l.stackTraces = false) (w : WM) (o aR aG aS aF aN aC : Nat) (cur : Option Nat) (ln rc ft sp sd lf : Int32) (hO : w o = some (.inr (11, [.ref aR, .ref aG, .ref aS, .ref aF, .ref aN, .ref aC, va_rf cur, .int ln, .int rc, .int ft, .int sp, .int sd, .int lf]))) (sz : Nat) : vx_Met l yX10_share (wsM yX10_share cX10_share 1 (some .int)) rmS (va_Pc [.ref o] (MCP G w sz)) (MCQ G w sz (fun v w' => v = some (.int (sp / sd)) ∧ ¬ sd = 0 ∧ w' = w)) (XCS G w sz sd) 1 6 (mA w sz) := by
  refine vx_ofW (cc := cX10_share) (maxL := 1) (ret := some .int) (by decide) rfl ?_
  intro p e s m args below meth c s₁ B hml hne hv
  obtain ⟨rfl, hsz, hP, hK, hE⟩ := hv
  subst hsz
  have hts := atoms_spec (ws := wsM yX10_share cX10_share 1 (some .int)) B.pre
  have X : Cx G p s m [Value.ref o].toArray meth c (mA w s.heap.size) s.heap cX10_share 1 RX10 := ⟨B.exec, B.bytes, hml, findClass_of_methodNamed B.named, fun w hw => hts w (List.mem_cons_of_mem _ hw), hK, B.notSynchronized, fun _ h => Or.inr h, hE⟩
  rw [lg_entry_eq]
  have key : AW G p l e rmS s m [Value.ref o].toArray below meth c 1 (mA w s.heap.size) s.heap (vx_MQ below (MCQ G w s.heap.size (fun v w' => v = some (.int (sp / sd)) ∧ ¬ sd = 0 ∧ w' = w)) (XCS G w s.heap.size sd) [Value.ref o].toArray s 1 6 (mA w s.heap.size)) w 0 0 0 [(0, .ref o)] [] := by
    refine aw_aload_n X dX10_share_0 rfl rfl ?_
    refine aw_get X okX10 (k := 11) hO (Nat.le_of_ble_eq_true rfl) fl_X10_257 (Or.inl rfl) rfl dX10_share_1 ?_
    refine aw_if_ne X dX10_share_4 rfl (fun c4 => ?_) (fun c4 => ?_)
    · refine aw_aload_n X dX10_share_18 rfl rfl ?_
      refine aw_get X okX10 (k := 10) hO (Nat.le_of_ble_eq_true rfl) fl_X10_260 (Or.inl rfl) rfl dX10_share_19 ?_
      refine aw_aload_n X dX10_share_22 rfl rfl ?_
      refine aw_get X okX10 (k := 11) hO (Nat.le_of_ble_eq_true rfl) fl_X10_257 (Or.inl rfl) rfl dX10_share_23 ?_
      refine aw_idiv X dX10_share_26 c4 ?_
      intro H locs ls hP' hA' hS' hl'
      refine W.widen (k := 1) (n := 6) (Nat.le_of_ble_eq_true rfl) (Nat.le_of_ble_eq_true rfl) ?_
      exact vx_ret (W.iret X.1 X.2.1 B.returns (fun t ht hW => ⟨⟨_, w, rfl, ⟨rfl, c4, rfl⟩, by rw [ht]; exact hP', fun a h => hA' a h⟩, hS'.F ht⟩) hS'.2.2 dX10_share_27 X.2.2.2.2.2.2.1)
    · intro H locs ls hP' hA' hS' hl'
      obtain ⟨-, -, -, h4, h5, -, -, -, h9⟩ := hE.2.2.2
      refine vx_throwSW (cc := cX10_share) (pc := 7) (own := RX10) (cls := AEx) (text := "no sign was dropped") (names := ["java/lang/RuntimeException", "java/lang/Exception"]) (ik := 371) (is := 373) (ic := 375) (sa := gK G 2) (A := mA w s.heap.size) X.1 X.2.1 hl X.2.2.2.1 (by decide) (by decide) (X.2.2.2.2.1 _ cl_AE) (X.2.2.2.2.1 _ in_AE) h9 (fun w hw => ?_) ot_AE h4 h5 hS' (by rw [X.2.2.1]; exact hl'.1) dX10_share_7 dX10_share_10 dX10_share_11 dX10_share_14 dX10_share_17 (fun x hx => (hne x hx).elim) (by decide) (by decide) (by decide) (by decide) X.2.2.2.2.2.2.1 (fun t h1 h2 h3 => ⟨rfl, c4, fun a x h => (hP' a x h).kept (h3 a (wm_lt hP' h)), Nat.le_trans hS'.1 h2, fun q hq hn => (h3 q (Nat.lt_of_lt_of_le hq hS'.1)).trans (hS'.2.1 q hq hn)⟩) hS'.2.2 (by decide) (by decide)
      rcases (at_AE w hw).2 with g | g
      · exact X.2.2.2.2.1 _ (mem_g (at_AE w hw).1 g)
      · exact x_un g (hE.1 _ (List.mem_filter.mpr ⟨(at_AE w hw).1, g⟩))
  exact key s.heap [] _ hP (fun a h => Or.inl h) va_S.rf (lv_entry [.ref o] (Nat.le_of_ble_eq_true rfl))
