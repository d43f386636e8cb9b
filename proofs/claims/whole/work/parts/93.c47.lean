/-! fileNamed, file -/
def nmG (M : MS) (gi : GI) (u : Int32) (N : Nat) (f : Nat → Int32) (i : Nat) : Prop := M.2.2 33 i = 0 ∧ M.2.2 30 i = u ∧ (M.2.2 32 i).toNatClampNeg = N ∧ ∀ j, j < N → gi 5 i j = f j
set_option maxRecDepth 100000 in
set_option maxHeartbeats 4000000 in
theorem kX10_fileNamed (G : GG) (l : Launch) (M : MS) (ad : AD) (gi : GI) (w : WM) (hL : RLa G M ad gi w) (hrc : mi_refs M) (hnl : mi_nl M) (u : Int32) (sa va N : Nat) (hN : N ≤ 60) (f : Nat → Int32) (hS : w sa = some (.inr (0, [.ref va, .int 0, .int 0, .int 0]))) (hV : w va = some (.inl (gA G 1, N, .inl f))) (hfr : ∀ i, isr M i → M.2.2 33 i = 0 → ad 18 i ≠ sa) : MC G l yX10_fileNamed cX10_fileNamed 5 ((Option.some (.object "GlkStreams$StoryFile"))) ({ frames := 2, cells := 2, slots := 63, locals := 44 } : Room) [.ref (ad 0 0), .int u, .ref sa] w (fun v w' => ∃ fa : Nat, v = some (.ref fa) ∧ (∀ c, w c ≠ none → w' c = w c) ∧ ((∃ i, isr M i ∧ nmG M gi u N f i ∧ (∀ b, b < i → ¬ nmG M gi u N f b) ∧ fa = ad 15 (M.2.2 34 i).toNatClampNeg ∧ w' = w) ∨ ((∀ b, isr M b → ¬ nmG M gi u N f b) ∧ ∃ pa : Nat, w fa = none ∧ w pa = none ∧ fa ≠ pa ∧ w' fa = some (.inr (10, [.ref pa, .int 0, .int 0])) ∧ w' pa = some (.inl (gA G 1, 60, .inl (fun _ => 0))) ∧ ∀ c, c ≠ fa → c ≠ pa → w' c = w c))) := by
  refine mc_ref (by decide) (Nat.le_of_ble_eq_true rfl) rfl rfl (Or.inl ⟨_, rfl⟩) ?_
  intro p e s m args below meth c A H0 Q X hnm RTN
  have X : Cx G p s m args meth c A H0 cX10_fileNamed 5 RX10 := X
  have k0_ : w (ad 0 0) = some (.inr (11, [.ref (ad 1 0), .ref (ad 2 0), .ref (ad 3 0), .ref (ad 4 0), .ref (ad 5 0), .ref (ad 6 0), va_rf (sAd M ad (M.1 20)), .int (M.1 7), .int (M.1 29), .int (M.1 38), .int ((M.2.1 21).toInt32), .int ((M.2.1 22).toInt32), .int (M.1 5)])) := hL.1 0 0 (lvf 0 (by decide))
  have k4_ : w (ad 4 0) = some (rA (gA G 6) 20 (cF M ad)) := hL.1 4 0 (lvf 4 (by decide))
  have brc := bt_iff.mp hrc
  obtain ⟨C, hC, hCe, _⟩ := bt_nat (hi := 20) hrc
  have tC : (M.1 29).toInt = C := by rw [hCe]; exact nI_toInt (by omega)
  refine aw_iconst X dX10_fileNamed_0 ci_0 ?_
  refine aw_istore_n (lv' := [(3, _), (0, _), (1, _), (2, _)]) X dX10_fileNamed_1 rfl (by decide) rfl ?_
  have L : ∀ (nn : Nat) (i : Nat) (x : Int32), (x = nI i) → (i ≤ C) → (∀ b, b < i → ¬ nmG M gi u N f b) → (C + 1 ≤ i + nn) → AW G p l e ({ frames := 2, cells := 2, slots := 63, locals := 44 } : Room) s m args below meth c 5 A H0 Q w 0 0 2 [(3, .int x), (0, .ref (ad 0 0)), (1, .int u), (2, .ref sa)] [] := by
    intro nn
    induction nn with
    | zero => intro i x hx h1 hj h2; exact absurd h2 (by omega)
    | succ nn ih =>
      intro i x hx h1 hj h2
      subst hx
      refine aw_iload_n X dX10_fileNamed_2 rfl rfl ?_
      refine aw_aload_n X dX10_fileNamed_3 rfl rfl ?_
      refine aw_get X okX10 (k := 8) k0_ (Nat.le_of_ble_eq_true rfl) fl_X10_282 (Or.inl rfl) rfl dX10_fileNamed_4 ?_
      refine aw_icmp_ge (tgt := 59) X dX10_fileNamed_7 rfl (fun c7 => ?_) (fun c7 => ?_)
      · have h9 : i = C := by rw [hCe] at c7; have := (nI_leI (a := C) (b := i) (by omega) (by omega)).mp c7; omega
        refine aw_new2 X okX8 cl_X10_134 is_X8 in_X8 rfl (Nat.le_of_ble_eq_true rfl) (Nat.le_of_ble_eq_true rfl) dX10_fileNamed_59 (fun q101 w102 hf103 hk104 hn105 he106 => ?_)
        have hk107 := (hn105 _ (ne_fr k0_ hf103)).trans k0_
        have hk108 := (hn105 _ (ne_fr k4_ hf103)).trans k4_
        have hk109 := (hn105 _ (ne_fr hS hf103)).trans hS
        have hk110 := (hn105 _ (ne_fr hV hf103)).trans hV
        refine aw_dup X dX10_fileNamed_62 rfl ?_
        refine aw_callI X (kX8_init _ _ _ q101 hk104) okm_X8_init rfl ml_X10_302 im_X8_init rfl rfl (Nat.le_of_ble_eq_true rfl) ⟨Nat.le_of_ble_eq_true rfl, Nat.le_of_ble_eq_true rfl, Nat.le_of_ble_eq_true rfl, Nat.le_of_ble_eq_true rfl⟩ dX10_fileNamed_63 (fun v w2 hp => ?_)
        obtain ⟨rfl, va111, hf112, hk113, hk114, hb115⟩ := hp
        have hk116 := (hb115 (ad 0 0) (ne_ci hk107 hk104 (by decide)) (ne_fr hk107 hf112)).trans hk107
        have hk117 := (hb115 (ad 4 0) (Ne.symm (ne_oa hk104 hk108)) (ne_fr hk108 hf112)).trans hk108
        have hk118 := (hb115 sa (ne_ci hk109 hk104 (by decide)) (ne_fr hk109 hf112)).trans hk109
        have hk119 := (hb115 va (Ne.symm (ne_oa hk104 hk110)) (ne_fr hk110 hf112)).trans hk110
        refine RTN (some _) _ _ _ _ _ dX10_fileNamed_66 (⟨some q101, rfl⟩) (Nat.le_of_ble_eq_true rfl) (Nat.le_of_ble_eq_true rfl) ?_
        have nqp : q101 ≠ va111 := ne_fr hk104 hf112
        have hpa : w va111 = none := by have h := hf112; rw [he106, wm_upn (Ne.symm nqp)] at h; exact h
        have hoth : ∀ c, c ≠ q101 → c ≠ va111 → w2 c = w c := fun c h1 h2 => by rw [hb115 c h1 h2, he106, wm_upn h1]
        exact ⟨q101, rfl, fun c hc => hoth c (fun z => hc (by rw [z]; exact hf103)) (fun z => hc (by rw [z]; exact hpa)), Or.inr ⟨fun b hb9 => hj b (by unfold isr at hb9; omega), va111, hf103, hpa, nqp, hk113, hk114, hoth⟩⟩
      · have h9 : i < C := Nat.lt_of_not_le (fun h => c7 (by rw [hCe]; exact (nI_leI (a := C) (b := i) (by omega) (by omega)).mpr h))
        refine aw_aload_n X dX10_fileNamed_10 rfl rfl ?_
        refine aw_get X okX10 (k := 3) k0_ (Nat.le_of_ble_eq_true rfl) fl_X10_28 (Or.inl rfl) rfl dX10_fileNamed_11 ?_
        refine aw_iload_n X dX10_fileNamed_14 rfl rfl ?_
        refine aw_aaldn X 6 (j := i) k4_ rfl (show i < 20 by omega) (by decide) dX10_fileNamed_15 ?_
        have hri : isr M i := by unfold isr; omega
        rw [cF_is hri]
        refine aw_astore (lv' := [(4, _), (3, _), (0, _), (1, _), (2, _)]) X dX10_fileNamed_16 (by decide) rfl ?_
        refine aw_aload X dX10_fileNamed_18 rfl ?_
        refine aw_get X okX6 (k := 2) (hL.1 17 i hri) (Nat.le_of_ble_eq_true rfl) fl_X10_110 (Or.inl rfl) rfl dX10_fileNamed_20 ?_
        refine aw_if_ne (tgt := 53) X dX10_fileNamed_23 rfl (fun c23 => ?_) (fun c23 => ?_)
        · refine aw_iinc (lv' := [(3, _), (4, _), (0, _), (1, _), (2, _)]) X dX10_fileNamed_53 rfl (iinc_1 _) (by decide) rfl ?_
          refine aw_goto (tgt := 2) X dX10_fileNamed_56 rfl ?_
          refine aw_lv [0, 2, 3, 4] rfl ?_
          exact ih (i + 1) _ (nI_1 i) (by omega) (fun b hb9 => by by_cases hz : b = i; rw [hz]; exact (fun h => c23 h.1); exact hj b (by omega)) (by omega)
        · refine aw_aload X dX10_fileNamed_26 rfl ?_
          refine aw_get X okX6 (k := 0) (hL.1 17 i hri) (Nat.le_of_ble_eq_true rfl) fl_X10_305 (Or.inl rfl) rfl dX10_fileNamed_28 ?_
          refine aw_iload_n X dX10_fileNamed_31 rfl rfl ?_
          refine aw_icmp_ne (tgt := 53) X dX10_fileNamed_32 rfl (fun c32 => ?_) (fun c32 => ?_)
          · refine aw_iinc (lv' := [(3, _), (4, _), (0, _), (1, _), (2, _)]) X dX10_fileNamed_53 rfl (iinc_1 _) (by decide) rfl ?_
            refine aw_goto (tgt := 2) X dX10_fileNamed_56 rfl ?_
            refine aw_lv [0, 2, 3, 4] rfl ?_
            exact ih (i + 1) _ (nI_1 i) (by omega) (fun b hb9 => by by_cases hz : b = i; rw [hz]; exact (fun h => c32 h.2.1); exact hj b (by omega)) (by omega)
          · refine aw_aload X dX10_fileNamed_35 rfl ?_
            refine aw_get X okX6 (k := 1) (hL.1 17 i hri) (Nat.le_of_ble_eq_true rfl) fl_X10_308 (Or.inl rfl) rfl dX10_fileNamed_37 ?_
            rw [if_pos c23]
            refine aw_aload_n X dX10_fileNamed_40 rfl rfl ?_
            refine aw_callV X (kJ0_equals_9ea2d _ _ _ (ad 18 i) sa _ _ _ _ (hfr i hri c23) (by have h8 := bt_iff.mp (hnl i hri c23); have := cl_toInt (x := M.2.2 32 i) h8.1; omega) hN _ _ (hL.1 18 i ⟨hri, c23⟩) hS (hL.1 19 i ⟨hri, c23⟩) hV) okm_J0_equals_9ea2d okJ0 (hL.1 18 i ⟨hri, c23⟩) ml_X10_312 im_J0_equals_9ea2d se_J0_J0_equals_9ea2d rfl rfl (Nat.le_of_ble_eq_true rfl) ⟨Nat.le_of_ble_eq_true rfl, Nat.le_of_ble_eq_true rfl, Nat.le_of_ble_eq_true rfl, Nat.le_of_ble_eq_true rfl⟩ dX10_fileNamed_41 (fun v w2 hp => ?_)
            obtain ⟨r9, rfl, hw9, hr0, hr9⟩ := hp
            have hw9 := hw9.symm
            subst hw9
            refine aw_if_eq (tgt := 53) X dX10_fileNamed_44 rfl (fun c44 => ?_) (fun c44 => ?_)
            · refine aw_iinc (lv' := [(3, _), (4, _), (0, _), (1, _), (2, _)]) X dX10_fileNamed_53 rfl (iinc_1 _) (by decide) rfl ?_
              refine aw_goto (tgt := 2) X dX10_fileNamed_56 rfl ?_
              refine aw_lv [0, 2, 3, 4] rfl ?_
              exact ih (i + 1) _ (nI_1 i) (by omega) (fun b hb9 => by by_cases hz : b = i; rw [hz]; exact (fun h => by have h1 := hr9.mpr ⟨h.2.2.1, fun j hj => h.2.2.2 j (by rw [← h.2.2.1]; exact hj)⟩; rw [h1] at c44; exact absurd c44 (by decide)); exact hj b (by omega)) (by omega)
            · refine aw_aload X dX10_fileNamed_47 rfl ?_
              refine aw_get X okX6 (k := 3) (hL.1 17 i hri) (Nat.le_of_ble_eq_true rfl) fl_X10_129 (Or.inl rfl) rfl dX10_fileNamed_49 ?_
              refine RTN (some _) _ _ _ _ _ dX10_fileNamed_52 (⟨some (ad 15 (M.2.2 34 i).toNatClampNeg), rfl⟩) (Nat.le_of_ble_eq_true rfl) (Nat.le_of_ble_eq_true rfl) ?_
              have h1 : r9 = 1 := hr0.resolve_left c44
              have h2 := hr9.mp h1
              exact ⟨_, rfl, fun c _ => rfl, Or.inl ⟨i, hri, ⟨c23, c32, h2.1, fun j hj9 => h2.2 j (by rw [h2.1]; exact hj9)⟩, hj, rfl, rfl⟩⟩
  refine aw_lv [0, 1, 2, 3] rfl ?_
  exact L (C + 1) 0 _ rfl (by omega) (fun b hb9 => absurd hb9 (by omega)) (by omega)
