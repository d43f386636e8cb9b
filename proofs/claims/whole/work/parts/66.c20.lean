/-! files: in the way, open, drop -/
theorem aw_instX1N {G : GG} {p : Program} {l : Launch} {e : Env} {R : Room} {s : State} {m : MethodId} {args : Array Value} {below : List Frame} {meth : Method} {c : Code} {nL : Nat} {A : Nat → Prop} {H0 : Heap} {Q : State → Prop} {w : WM} {cells slots pc : Nat} {lv : List (Nat × Value)} {rest : List Value} {cc : ByteArray} {own : String} {a index : Nat} {f : Nat → Int32} {e0 x0 : Option Nat} (X : Cx G p s m args meth c A H0 cc nL own) (hw : w a = some (sC f e0 x0)) (h : ¬ f 0 = 2) (hl : Cond.classLink own index RX1 ∈ lw_g) (hdg : decode cc pc = .ok (.instanceof index, 3)) (kk : AW G p l e R s m args below meth c nL A H0 Q w cells slots (pc + 3) lv (.int 0 :: rest)) : AW G p l e R s m args below meth c nL A H0 Q w cells slots pc lv (.ref a :: rest) := by
  by_cases h0 : f 0 = 0
  · exact aw_instNo X okX5 (hw.trans (by rw [sC_0 h0])) hl (by decide) hdg kk
  by_cases h1 : f 0 = 1
  · exact aw_instNo X okX3 (hw.trans (by rw [sC_1 h1])) hl (by decide) hdg kk
  exact aw_instNo X okX7 (hw.trans (by rw [sC_3 h0 h1 h])) hl (by decide) hdg kk
theorem aw_instX5N {G : GG} {p : Program} {l : Launch} {e : Env} {R : Room} {s : State} {m : MethodId} {args : Array Value} {below : List Frame} {meth : Method} {c : Code} {nL : Nat} {A : Nat → Prop} {H0 : Heap} {Q : State → Prop} {w : WM} {cells slots pc : Nat} {lv : List (Nat × Value)} {rest : List Value} {cc : ByteArray} {own : String} {a index : Nat} {f : Nat → Int32} {e0 x0 : Option Nat} (X : Cx G p s m args meth c A H0 cc nL own) (hw : w a = some (sC f e0 x0)) (h : ¬ f 0 = 0) (hl : Cond.classLink own index RX5 ∈ lw_g) (hdg : decode cc pc = .ok (.instanceof index, 3)) (kk : AW G p l e R s m args below meth c nL A H0 Q w cells slots (pc + 3) lv (.int 0 :: rest)) : AW G p l e R s m args below meth c nL A H0 Q w cells slots pc lv (.ref a :: rest) := by
  by_cases h1 : f 0 = 1
  · exact aw_instNo X okX3 (hw.trans (by rw [sC_1 h1])) hl (by decide) hdg kk
  by_cases h2 : f 0 = 2
  · exact aw_instNo X okX1 (hw.trans (by rw [sC_2 h2])) hl (by decide) hdg kk
  exact aw_instNo X okX7 (hw.trans (by rw [sC_3 h h1 h2])) hl (by decide) hdg kk
theorem cX_0 {M : MS} {ad : AD} {k : Nat} (h : M.2.2 8 k = 0) : cX M ad k = some (ad 14 k) := by unfold cX; rw [if_pos h]
theorem cX_1 {M : MS} {ad : AD} {k : Nat} (h : M.2.2 8 k = 1) : cX M ad k = rIA ad (M.2.2 15 k) := by unfold cX; rw [if_neg (by rw [h]; decide), if_pos h]
theorem cX_2 {M : MS} {ad : AD} {k : Nat} (h : M.2.2 8 k = 2) : cX M ad k = some (ad 15 (M.2.2 16 k).toNatClampNeg) := by unfold cX; rw [if_neg (by rw [h]; decide), if_neg (by rw [h]; decide), if_pos h]
theorem cX_3 {M : MS} {ad : AD} {k : Nat} (h0 : ¬ M.2.2 8 k = 0) (h1 : ¬ M.2.2 8 k = 1) (h2 : ¬ M.2.2 8 k = 2) : cX M ad k = some (ad 22 k) := by unfold cX; rw [if_neg h0, if_neg h1, if_neg h2]
theorem c9_0 {M : MS} {gi : GI} {k : Nat} (h : M.2.2 8 k = 0) : c9 M gi k = gi 0 k 0 := by unfold c9; rw [if_pos h]
theorem c9_1 {M : MS} {gi : GI} {k : Nat} (h : M.2.2 8 k = 1) : c9 M gi k = M.2.2 12 k := by unfold c9; rw [if_neg (by rw [h]; decide), if_pos h]
theorem c9_2 {M : MS} {gi : GI} {k : Nat} (h : M.2.2 8 k = 2) : c9 M gi k = wdt (M.2.2 9 k) := by unfold c9; rw [if_neg (by rw [h]; decide), if_neg (by rw [h]; decide), if_pos h]
theorem rl_s2 {G : GG} {M : MS} {ad : AD} {gi : GI} {w : WM} (hL : RLa G M ad gi w) {i : Nat} (ho : opn M i) (h8 : M.2.2 8 i = 2) : w (ad 13 i) = some (.inr (3, [.int (M.2.2 8 i), .int (M.2.2 10 i), .int (M.2.2 9 i), .int (M.2.2 6 i), .int (M.2.2 11 i), .int (M.2.2 13 i), .int (M.2.2 14 i), va_rf (sAd M ad (M.2.2 17 i)), .ref (ad 15 (M.2.2 16 i).toNatClampNeg), .int (wdt (M.2.2 9 i))])) := by
  have h := rl_st hL ho
  have e9 : cSI M gi i 9 = wdt (M.2.2 9 i) := c9_2 h8
  rw [sC_2 (show cSI M gi i 0 = 2 from h8), cX_2 h8, e9] at h
  exact h
theorem rl_s0 {G : GG} {M : MS} {ad : AD} {gi : GI} {w : WM} (hL : RLa G M ad gi w) {i : Nat} (ho : opn M i) (h8 : M.2.2 8 i = 0) : w (ad 13 i) = some (.inr (7, [.int (M.2.2 8 i), .int (M.2.2 10 i), .int (M.2.2 9 i), .int (M.2.2 6 i), .int (M.2.2 11 i), .int (M.2.2 13 i), .int (M.2.2 14 i), va_rf (sAd M ad (M.2.2 17 i)), .ref (ad 14 i), .int (gi 0 i 0), .int (M.2.2 19 i)])) := by
  have h := rl_st hL ho
  have e9 : cSI M gi i 9 = gi 0 i 0 := c9_0 h8
  rw [sC_0 (show cSI M gi i 0 = 0 from h8), cX_0 h8, e9] at h
  exact h
/-- the file of a stream is one that a reference names first -/
def mi_sf (M : MS) : Prop := ∀ k, opn M k → M.2.2 8 k = 2 → 0 ≤ (M.2.2 16 k).toInt ∧ lvT M 15 (M.2.2 16 k).toNatClampNeg
theorem any_no {P : Nat → Bool} {n : Nat} (h : ∀ j, j < n → P j = false) : ¬ (List.range n).any P = true := by
  rw [List.any_eq_true]
  rintro ⟨x, hx, h1⟩
  rw [h x (List.mem_range.mp hx)] at h1
  cases h1
theorem any_yes {P : Nat → Bool} {n i : Nat} (hi : i < n) (h : P i = true) : (List.range n).any P = true := List.any_eq_true.mpr ⟨i, List.mem_range.mpr hi, h⟩
theorem blk_iff {M : MS} {f mode : Int32} {k : Nat} : blk M f mode k = true ↔ 0 < M.2.2 6 k ∧ M.2.2 8 k = 2 ∧ M.2.2 16 k = f ∧ (¬ mode = 2 ∨ ¬ M.2.2 10 k = 2) := by
  unfold blk
  simp only [Bool.and_eq_true, Bool.or_eq_true, Bool.not_eq_true', decide_eq_true_eq, decide_eq_false_iff_not]
theorem blk_no {M : MS} {f mode : Int32} {k : Nat} (h : ¬ (0 < M.2.2 6 k ∧ M.2.2 8 k = 2 ∧ M.2.2 16 k = f ∧ (¬ mode = 2 ∨ ¬ M.2.2 10 k = 2))) : blk M f mode k = false := Bool.eq_false_iff.mpr (fun z => h (blk_iff.mp z))
set_option maxRecDepth 100000 in
set_option maxHeartbeats 4000000 in
theorem kX10_isInTheWay (G : GG) (l : Launch) (M : MS) (ad : AD) (gi : GI) (w : WM) (hL : RLa G M ad gi w) (hsf : mi_sf M) (hrc : mi_refs M) (fn : Nat) (hfl : lvT M 15 fn) (mode : Int32) : MC G l yX10_isInTheWay cX10_isInTheWay 8 ((Option.some .boolean)) ({ frames := 0, cells := 0, slots := 0, locals := 0 } : Room) [.ref (ad 0 0), .ref (ad 15 fn), .int mode] w (fun v w' => v = some (.int (bI ((List.range 8).any (blk M (nI fn) mode) = true))) ∧ w' = w) := by
  refine mc_bool (by decide) (Nat.le_of_ble_eq_true rfl) rfl rfl ?_
  intro p e s m args below meth c A H0 Q X hnm RTN
  have X : Cx G p s m args meth c A H0 cX10_isInTheWay 8 RX10 := X
  have k0_ : w (ad 0 0) = some (.inr (11, [.ref (ad 1 0), .ref (ad 2 0), .ref (ad 3 0), .ref (ad 4 0), .ref (ad 5 0), .ref (ad 6 0), va_rf (sAd M ad (M.1 20)), .int (M.1 7), .int (M.1 29), .int (M.1 38), .int ((M.2.1 21).toInt32), .int ((M.2.1 22).toInt32), .int (M.1 5)])) := hL.1 0 0 (lvf 0 (by decide))
  have k3_ : w (ad 3 0) = some (rA (gA G 5) 8 (cS M ad)) := hL.1 3 0 (lvf 3 (by decide))
  have L : ∀ (nn : Nat) (i : Nat) (x : Int32), (x = nI i) → (i ≤ 8) → (∀ j, j < i → blk M (nI fn) mode j = false) → (9 ≤ i + nn) → AW G p l e ({ frames := 0, cells := 0, slots := 0, locals := 0 } : Room) s m args below meth c 8 A H0 Q w 0 0 12 [(5, .int x), (4, .int 8), (3, .ref (ad 3 0)), (0, .ref (ad 0 0)), (1, .ref (ad 15 fn)), (2, .int mode)] [] := by
    intro nn
    induction nn with
    | zero => intro i x hx h1 hb h2; exact absurd h2 (by omega)
    | succ nn ih =>
      intro i x hx h1 hb h2
      subst hx
      refine aw_iload X dX10_isInTheWay_12 rfl ?_
      refine aw_iload X dX10_isInTheWay_14 rfl ?_
      refine aw_icmp_ge (tgt := 71) X dX10_isInTheWay_16 rfl (fun c16 => ?_) (fun c16 => ?_)
      · have h9 : i = 8 := by have := ge_i (N := 8) rfl (by omega) (by decide) c16; omega
        subst h9
        refine aw_iconst X dX10_isInTheWay_71 ci_0 ?_
        refine RTN (some (.int _)) _ _ _ _ _ dX10_isInTheWay_72 (Or.inl rfl) (Nat.le_of_ble_eq_true rfl) (Nat.le_of_ble_eq_true rfl) ?_
        exact ⟨by rw [bI_f (any_no hb)], rfl⟩
      · have h9 : i < 8 := lt_i (N := 8) rfl (by omega) (by decide) c16
        refine aw_aload_n X dX10_isInTheWay_19 rfl rfl ?_
        refine aw_iload X dX10_isInTheWay_20 rfl ?_
        refine aw_aaldn X 5 (j := i) k3_ rfl (h9) (by decide) dX10_isInTheWay_22 ?_
        rcases hr101 : (cS M ad) i with _ | a102
        · refine aw_astoreN (lv' := [(6, _), (5, _), (4, _), (3, _), (0, _), (1, _), (2, _)]) X dX10_isInTheWay_23 (by decide) rfl ?_
          refine aw_aloadN X dX10_isInTheWay_25 rfl ?_
          refine aw_instN X dX10_isInTheWay_27 ?_
          refine aw_if_eq (tgt := 65) X dX10_isInTheWay_30 rfl (fun c30 => ?_) (fun c30 => ?_)
          · refine aw_iinc (lv' := [(5, _), (6, _), (4, _), (3, _), (0, _), (1, _), (2, _)]) X dX10_isInTheWay_65 rfl (iinc_1 _) (by decide) rfl ?_
            refine aw_goto (tgt := 12) X dX10_isInTheWay_68 rfl ?_
            refine aw_lv [0, 2, 3, 4, 5, 6] rfl ?_
            exact ih (i + 1) _ (nI_1 i) (by omega) (fun j hj => by rcases Nat.lt_or_eq_of_le (Nat.le_of_lt_succ hj) with h | h; exact hb j h; rw [h]; exact blk_no (fun z => cS_none hr101 h9 z.1)) (by omega)
          · exact absurd c30 (by decide)
        · obtain ⟨he103, ho104⟩ := cS_some hr101
          subst he103
          refine aw_astore (lv' := [(6, _), (5, _), (4, _), (3, _), (0, _), (1, _), (2, _)]) X dX10_isInTheWay_23 (by decide) rfl ?_
          refine aw_aload X dX10_isInTheWay_25 rfl ?_
          by_cases h8 : M.2.2 8 i = 2
          · refine aw_instY X okX1 (rl_s2 hL ho104 h8) cl_X10_152 ca_X1_X1 dX10_isInTheWay_27 ?_
            refine aw_if_eq (tgt := 65) X dX10_isInTheWay_30 rfl (fun c30 => ?_) (fun c30 => ?_)
            · exact absurd c30 (by decide)
            · refine aw_aload X dX10_isInTheWay_33 rfl ?_
              refine aw_castY X okX1 (rl_s2 hL ho104 h8) cl_X10_152 ca_X1_X1 dX10_isInTheWay_35 ?_
              refine aw_astore (lv' := [(7, _), (6, _), (5, _), (4, _), (3, _), (0, _), (1, _), (2, _)]) X dX10_isInTheWay_38 (by decide) rfl ?_
              refine aw_aload X dX10_isInTheWay_40 rfl ?_
              refine aw_get X okX1 (k := 8) (rl_s2 hL ho104 h8) (Nat.le_of_ble_eq_true rfl) fl_X10_246 (Or.inl rfl) rfl dX10_isInTheWay_42 ?_
              refine aw_aload_n X dX10_isInTheWay_45 rfl rfl ?_
              refine aw_acmp_ne (rx := (some (ad 15 (M.2.2 16 i).toNatClampNeg))) (ry := (some (ad 15 fn))) (tgt := 65) X dX10_isInTheWay_46 rfl (fun c46 => ?_) (fun c46 => ?_)
              · refine aw_iinc (lv' := [(5, _), (7, _), (6, _), (4, _), (3, _), (0, _), (1, _), (2, _)]) X dX10_isInTheWay_65 rfl (iinc_1 _) (by decide) rfl ?_
                refine aw_goto (tgt := 12) X dX10_isInTheWay_68 rfl ?_
                refine aw_lv [0, 3, 4, 5, 6, 7] rfl ?_
                exact ih (i + 1) _ (nI_1 i) (by omega) (fun j hj => by rcases Nat.lt_or_eq_of_le (Nat.le_of_lt_succ hj) with h | h; exact hb j h; rw [h]; exact blk_no (fun z => c46 (by rw [z.2.2.1, nI_clamp (by have := hfl.1; have := bt_iff.mp hrc; unfold isr at *; omega)]))) (by omega)
              · refine aw_iload_n X dX10_isInTheWay_49 rfl rfl ?_
                refine aw_iconst X dX10_isInTheWay_50 ci_2 ?_
                refine aw_icmp_ne (tgt := 63) X dX10_isInTheWay_51 rfl (fun c51 => ?_) (fun c51 => ?_)
                · refine aw_iconst X dX10_isInTheWay_63 ci_1 ?_
                  refine RTN (some (.int _)) _ _ _ _ _ dX10_isInTheWay_64 (Or.inr rfl) (Nat.le_of_ble_eq_true rfl) (Nat.le_of_ble_eq_true rfl) ?_
                  have hfe : M.2.2 16 i = nI fn := by have h := hsf i ho104 h8; have hz : (M.2.2 16 i).toNatClampNeg = fn := Decidable.byContradiction (fun hz => rl_ne hL (t := 15) (t' := 15) h.2 hfl (Or.inl rfl) (fun y => hz y.2) (Option.some.inj c46)); rw [← hz, nI_cl h.1]
                  exact ⟨by rw [bI_t (any_yes h9 (blk_iff.mpr ⟨ho104.2, h8, hfe, Or.inl c51⟩))], rfl⟩
                · refine aw_aload X dX10_isInTheWay_54 rfl ?_
                  refine aw_get X okX1 (k := 1) (rl_s2 hL ho104 h8) (Nat.le_of_ble_eq_true rfl) fl_X10_247 (Or.inr sf_X1_mode) rfl dX10_isInTheWay_56 ?_
                  refine aw_iconst X dX10_isInTheWay_59 ci_2 ?_
                  refine aw_icmp_eq (tgt := 65) X dX10_isInTheWay_60 rfl (fun c60 => ?_) (fun c60 => ?_)
                  · refine aw_iinc (lv' := [(5, _), (7, _), (6, _), (4, _), (3, _), (0, _), (1, _), (2, _)]) X dX10_isInTheWay_65 rfl (iinc_1 _) (by decide) rfl ?_
                    refine aw_goto (tgt := 12) X dX10_isInTheWay_68 rfl ?_
                    refine aw_lv [0, 3, 4, 5, 6, 7] rfl ?_
                    exact ih (i + 1) _ (nI_1 i) (by omega) (fun j hj => by rcases Nat.lt_or_eq_of_le (Nat.le_of_lt_succ hj) with h | h; exact hb j h; rw [h]; exact blk_no (fun z => z.2.2.2.elim (fun h => h c51) (fun h => h c60))) (by omega)
                  · refine aw_iconst X dX10_isInTheWay_63 ci_1 ?_
                    refine RTN (some (.int _)) _ _ _ _ _ dX10_isInTheWay_64 (Or.inr rfl) (Nat.le_of_ble_eq_true rfl) (Nat.le_of_ble_eq_true rfl) ?_
                    have hfe : M.2.2 16 i = nI fn := by have h := hsf i ho104 h8; have hz : (M.2.2 16 i).toNatClampNeg = fn := Decidable.byContradiction (fun hz => rl_ne hL (t := 15) (t' := 15) h.2 hfl (Or.inl rfl) (fun y => hz y.2) (Option.some.inj c46)); rw [← hz, nI_cl h.1]
                    exact ⟨by rw [bI_t (any_yes h9 (blk_iff.mpr ⟨ho104.2, h8, hfe, Or.inr c60⟩))], rfl⟩
          · refine aw_instX1N X (rl_st hL ho104) (show ¬ cSI M gi i 0 = 2 from h8) cl_X10_152 dX10_isInTheWay_27 ?_
            refine aw_if_eq (tgt := 65) X dX10_isInTheWay_30 rfl (fun c30 => ?_) (fun c30 => ?_)
            · refine aw_iinc (lv' := [(5, _), (6, _), (4, _), (3, _), (0, _), (1, _), (2, _)]) X dX10_isInTheWay_65 rfl (iinc_1 _) (by decide) rfl ?_
              refine aw_goto (tgt := 12) X dX10_isInTheWay_68 rfl ?_
              refine aw_lv [0, 2, 3, 4, 5, 6] rfl ?_
              exact ih (i + 1) _ (nI_1 i) (by omega) (fun j hj => by rcases Nat.lt_or_eq_of_le (Nat.le_of_lt_succ hj) with h | h; exact hb j h; rw [h]; exact blk_no (fun z => h8 z.2.1)) (by omega)
            · exact absurd c30 (by decide)
  refine aw_aload_n X dX10_isInTheWay_0 rfl rfl ?_
  refine aw_get X okX10 (k := 2) k0_ (Nat.le_of_ble_eq_true rfl) fl_X10_22 (Or.inl rfl) rfl dX10_isInTheWay_1 ?_
  refine aw_astore_n (lv' := [(3, _), (0, _), (1, _), (2, _)]) X dX10_isInTheWay_4 rfl (by decide) rfl ?_
  refine aw_aload_n X dX10_isInTheWay_5 rfl rfl ?_
  refine aw_alen X 5 k3_ rfl (v := 8) rfl dX10_isInTheWay_6 ?_
  refine aw_istore (lv' := [(4, _), (3, _), (0, _), (1, _), (2, _)]) X dX10_isInTheWay_7 (by decide) rfl ?_
  refine aw_iconst X dX10_isInTheWay_9 ci_0 ?_
  refine aw_istore (lv' := [(5, _), (4, _), (3, _), (0, _), (1, _), (2, _)]) X dX10_isInTheWay_10 (by decide) rfl ?_
  refine aw_lv [0, 1, 2, 3, 4, 5] rfl ?_
  exact L 9 0 _ rfl (by omega) (fun j hj => absurd hj (Nat.not_lt_zero j)) (by omega)
