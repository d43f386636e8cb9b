/-! echo -/
def mo_rg (M : MS) (k : Int32) : Nat → Int32 → Bool
  | 0, _ => false
  | n + 1, j => if j < 0 then false else if j = k then true else if M.2.2 17 j.toNatClampNeg ≤ 0 then mo_rg M k n (-1) else mo_rg M k n (oI (mo_pl M (M.2.2 17 j.toNatClampNeg)))
def mo_echo (M : MS) (t to : Int32) : Int32 × MS :=
  if (oI (mo_pl (sI M 0 0) t)) < 0 then (-2, (sI M 0 0))
  else if to = 0 ∨ 0 ≤ (oI (mo_pl (sI M 0 0) to)) then
    if M.2.2 8 (oI (mo_pl (sI M 0 0) t)).toNatClampNeg = 0 then
      if mo_rg (sI M 0 0) (oI (mo_pl (sI M 0 0) t)) 10 (oI (mo_pl (sI M 0 0) to)) then (0, (sI M 0 0)) else (1, sF (sI M 0 0) 17 (oI (mo_pl (sI M 0 0) t)).toNatClampNeg to)
    else (-4, (sI M 0 0))
  else (-2, (sI M 0 0))
theorem pl_in {M : MS} {t : Int32} {k : Nat} (h : mo_pl M t = some k) : k < 8 := List.mem_range.mp (List.mem_of_find?_eq_some h)
theorem pl_cl {M : MS} {t : Int32} {k : Nat} (h : mo_pl M t = some k) : (oI (mo_pl M t)).toNatClampNeg = k := by
  rw [h]; have := pl_in h; exact nI_clamp (by omega)
theorem pl_b {M : MS} {t : Int32} {k : Nat} (h : mo_pl M t = some k) : bt (oI (mo_pl M t)) 0 7 := by
  rw [h]; have := pl_in h; exact (bt_nI (by omega)).mpr ⟨by omega, by omega⟩
theorem oI_lt {x : Option Nat} (h : oI x < 0) (hx : ∀ k, x = some k → k < 8) : oI x = -1 := by
  cases x with
  | none => rfl
  | some k => exact absurd h (nI_pos (by have := hx k rfl; omega))
set_option maxRecDepth 100000 in
set_option maxHeartbeats 4000000 in
theorem kX11_echo (G : GG) (l : Launch) (q : Nat → Nat) (M : MS) (hq : mInj q) (r : Nat → Nat) (hr8 : ∀ k, r k < 8) (hE : mi_ech r M) (t to : Int32) : MC G l yX11_echo cX11_echo 6 ((Option.some .int)) ({ frames := 1, cells := 0, slots := 0, locals := 22 } : Room) [.ref (q 0), .int t, .int to] (mw G q M) (fun v w' => v = some (.int (mo_echo M t to).1) ∧ w' = mw G q (mo_echo M t to).2) := by
  refine mc_int (by decide) (Nat.le_of_ble_eq_true rfl) rfl rfl ?_
  intro p e s m args below meth c A H0 Q X hnm RTN
  have X : Cx G p s m args meth c A H0 cX11_echo 6 RX11 := X
  refine aw_aload_n X dX11_echo_0 rfl rfl ?_
  refine aw_iconst X dX11_echo_1 ci_0 ?_
  refine am_put X 0 (M' := sI _ 0 _) (Nat.le_of_ble_eq_true rfl) fl_X11_1 rfl rfl (rfl) (rfl) (mf_0 _ _ _) rfl dX11_echo_2 ?_
  refine aw_aload_n X dX11_echo_5 rfl rfl ?_
  refine aw_iload_n X dX11_echo_6 rfl rfl ?_
  refine aw_callV X (kX11_placeOf _ _ _ _ hq _) okm_X11_placeOf okX11 mw_0 ml_X11_183 im_X11_placeOf se_X11_X11_placeOf rfl rfl (Nat.le_of_ble_eq_true rfl) ⟨Nat.le_of_ble_eq_true rfl, Nat.le_of_ble_eq_true rfl, Nat.le_of_ble_eq_true rfl, Nat.le_of_ble_eq_true rfl⟩ dX11_echo_7 (fun v w2 hp => ?_)
  obtain ⟨rfl, rfl⟩ := hp
  refine aw_istore_n (lv' := [(3, _), (0, _), (1, _), (2, _)]) X dX11_echo_10 rfl (by decide) rfl ?_
  refine aw_aload_n X dX11_echo_11 rfl rfl ?_
  refine aw_iload_n X dX11_echo_12 rfl rfl ?_
  refine aw_callV X (kX11_placeOf _ _ _ _ hq _) okm_X11_placeOf okX11 mw_0 ml_X11_183 im_X11_placeOf se_X11_X11_placeOf rfl rfl (Nat.le_of_ble_eq_true rfl) ⟨Nat.le_of_ble_eq_true rfl, Nat.le_of_ble_eq_true rfl, Nat.le_of_ble_eq_true rfl, Nat.le_of_ble_eq_true rfl⟩ dX11_echo_13 (fun v w2 hp => ?_)
  obtain ⟨rfl, rfl⟩ := hp
  refine aw_istore (lv' := [(4, _), (3, _), (0, _), (1, _), (2, _)]) X dX11_echo_16 (by decide) rfl ?_
  refine aw_iload_n X dX11_echo_18 rfl rfl ?_
  refine aw_if_lt (tgt := 31) X dX11_echo_19 rfl (fun c19 => ?_) (fun c19 => ?_)
  · refine aw_bipush X dX11_echo_31 cb_m2 ?_
    refine RTN (some (.int _)) _ _ _ _ _ dX11_echo_33 (⟨_, rfl⟩) (Nat.le_of_ble_eq_true rfl) (Nat.le_of_ble_eq_true rfl) ?_
    first | (constructor <;> ((try simp only [mo_echo, c19, if_true, if_false, not_true_eq_false, not_false_eq_true, and_self, true_and, and_true, false_and, and_false, or_true, true_or, or_false, false_or, reduceCtorEq, ne_eq, va_us, pk_us]); (try with_reducible rfl); done)) | (clear RTN X; constructor <;> ((try simp_all only [mo_echo, if_true, if_false, not_true_eq_false, not_false_eq_true, and_self, true_and, and_true, false_and, and_false, or_true, true_or, or_false, false_or, reduceCtorEq, ne_eq, va_us, pk_us]); (try with_reducible rfl); done)) | (constructor <;> ((try simp only [mo_echo, c19, if_true, if_false, not_true_eq_false, not_false_eq_true, and_self, true_and, and_true, false_and, and_false, or_true, true_or, or_false, false_or, reduceCtorEq, ne_eq, va_us, pk_us]); (try rfl); done))
  · refine aw_iload_n X dX11_echo_22 rfl rfl ?_
    refine aw_if_eq (tgt := 34) X dX11_echo_23 rfl (fun c23 => ?_) (fun c23 => ?_)
    · refine aw_aload_n X dX11_echo_34 rfl rfl ?_
      refine am_get X 8 (Nat.le_of_ble_eq_true rfl) fl_X11_23 rfl rfl dX11_echo_35 ?_
      refine aw_iload_n X dX11_echo_38 rfl rfl ?_
      refine am_ald X 8 _ (M.2.2 8) hq (by decide) rfl rfl rfl (bt_vp ((pl_bt c19)) (by decide) (by decide)) dX11_echo_39 ?_
      refine aw_if_eq (tgt := 46) X dX11_echo_40 rfl (fun c40 => ?_) (fun c40 => ?_)
      · refine aw_iload X dX11_echo_46 rfl ?_
        refine aw_istore (lv' := [(5, _), (4, _), (3, _), (0, _), (1, _), (2, _)]) X dX11_echo_48 (by decide) rfl ?_
        have L : ∀ (nn : Nat) (j : Int32), mo_rg (sI M 0 0) (oI (mo_pl (sI M 0 0) t)) nn j = mo_rg (sI M 0 0) (oI (mo_pl (sI M 0 0) t)) 10 (oI (mo_pl (sI M 0 0) to)) → ((j < 0 ∧ 0 < nn) ∨ (bt j 0 7 = true ∧ r j.toNatClampNeg + 1 < nn)) → AW G p l e ({ frames := 1, cells := 0, slots := 0, locals := 22 } : Room) s m args below meth c 6 A H0 Q (mw G q (sI M 0 0)) 0 0 50 [(5, .int j), (4, .int (oI (mo_pl (sI M 0 0) to))), (3, .int (oI (mo_pl (sI M 0 0) t))), (0, .ref (q 0)), (1, .int t), (2, .int to)] [] := by
          intro nn
          induction nn with
          | zero => intro j hcc h2; rcases h2 with h | h
                    · exact absurd h.2 (by omega)
                    · exact absurd h.2 (by omega)
          | succ nn ih =>
            intro j hcc h2
            refine aw_iload X dX11_echo_50 rfl ?_
            refine aw_if_lt (tgt := 91) X dX11_echo_52 rfl (fun c52 => ?_) (fun c52 => ?_)
            · refine aw_iload X dX11_echo_91 rfl ?_
              refine aw_iload_n X dX11_echo_93 rfl rfl ?_
              refine aw_icmp_ne (tgt := 99) X dX11_echo_94 rfl (fun c94 => ?_) (fun c94 => ?_)
              · refine aw_aload_n X dX11_echo_99 rfl rfl ?_
                refine am_get X 17 (Nat.le_of_ble_eq_true rfl) fl_X11_95 rfl rfl dX11_echo_100 ?_
                refine aw_iload_n X dX11_echo_103 rfl rfl ?_
                refine aw_iload_n X dX11_echo_104 rfl rfl ?_
                refine am_ast X 17 _ hq (by decide) rfl rfl (bt_vp ((pl_bt c19)) (by decide) (by decide)) dX11_echo_105 ?_
                refine aw_iconst X dX11_echo_106 ci_1 ?_
                refine RTN (some (.int _)) _ _ _ _ _ dX11_echo_107 (⟨_, rfl⟩) (Nat.le_of_ble_eq_true rfl) (Nat.le_of_ble_eq_true rfl) ?_
                have hrg : mo_rg (sI M 0 0) (oI (mo_pl (sI M 0 0) t)) 10 (oI (mo_pl (sI M 0 0) to)) = false := by rw [← hcc]; simp only [mo_rg, c52, if_true, if_false]
                constructor <;> simp only [mo_echo, c19, (eq_true c23), (eq_true c40), hrg, if_true, if_false, not_true_eq_false, not_false_eq_true, and_self, true_and, and_true, false_and, and_false, or_true, true_or, or_false, false_or, reduceCtorEq, ne_eq, va_us, pk_us, Bool.false_eq_true]
              · exact absurd (by rw [c94] at c52; exact c52) c19
            · have h3 : bt j 0 7 = true ∧ r j.toNatClampNeg + 1 < nn + 1 := by
                rcases h2 with h | h
                · exact absurd h.1 c52
                · exact h
              have hjl : j.toNatClampNeg < 8 := cl_lt h3.1 (by decide) (by decide)
              refine aw_iload X dX11_echo_55 rfl ?_
              refine aw_iload_n X dX11_echo_57 rfl rfl ?_
              refine aw_icmp_eq (tgt := 91) X dX11_echo_58 rfl (fun c58 => ?_) (fun c58 => ?_)
              · refine aw_iload X dX11_echo_91 rfl ?_
                refine aw_iload_n X dX11_echo_93 rfl rfl ?_
                refine aw_icmp_ne (tgt := 99) X dX11_echo_94 rfl (fun c94 => ?_) (fun c94 => ?_)
                · exact absurd c58 c94
                · refine aw_iconst X dX11_echo_97 ci_0 ?_
                  refine RTN (some (.int _)) _ _ _ _ _ dX11_echo_98 (⟨_, rfl⟩) (Nat.le_of_ble_eq_true rfl) (Nat.le_of_ble_eq_true rfl) ?_
                  have hrg : mo_rg (sI M 0 0) (oI (mo_pl (sI M 0 0) t)) 10 (oI (mo_pl (sI M 0 0) to)) = true := by rw [← hcc]; simp only [mo_rg, c52, (eq_true c58), if_true, if_false]
                  constructor <;> simp only [mo_echo, c19, (eq_true c23), (eq_true c40), hrg, if_true, if_false, not_true_eq_false, not_false_eq_true, and_self, true_and, and_true, false_and, and_false, or_true, true_or, or_false, false_or, reduceCtorEq, ne_eq, va_us, pk_us, Bool.false_eq_true]
              · refine aw_aload_n X dX11_echo_61 rfl rfl ?_
                refine am_get X 17 (Nat.le_of_ble_eq_true rfl) fl_X11_95 rfl rfl dX11_echo_62 ?_
                refine aw_iload X dX11_echo_65 rfl ?_
                refine am_ald X 17 _ (M.2.2 17) hq (by decide) rfl rfl rfl (bt_vp h3.1 (by decide) (by decide)) dX11_echo_67 ?_
                refine aw_if_le (tgt := 85) X dX11_echo_68 rfl (fun c68 => ?_) (fun c68 => ?_)
                · refine aw_iconst X dX11_echo_85 ci_m1 ?_
                  refine aw_istore (lv' := [(5, _), (4, _), (3, _), (0, _), (1, _), (2, _)]) X dX11_echo_86 (by decide) rfl ?_
                  refine aw_goto (tgt := 50) X dX11_echo_88 rfl ?_
                  refine aw_lv [0, 1, 2, 3, 4, 5] rfl ?_
                  refine ih _ ?_ (Or.inl ⟨by decide, by omega⟩)
                  rw [← hcc]
                  simp only [mo_rg, c52, c58, c68, if_true, if_false]
                · refine aw_aload_n X dX11_echo_71 rfl rfl ?_
                  refine aw_aload_n X dX11_echo_72 rfl rfl ?_
                  refine am_get X 17 (Nat.le_of_ble_eq_true rfl) fl_X11_95 rfl rfl dX11_echo_73 ?_
                  refine aw_iload X dX11_echo_76 rfl ?_
                  refine am_ald X 17 _ (M.2.2 17) hq (by decide) rfl rfl rfl (bt_vp h3.1 (by decide) (by decide)) dX11_echo_78 ?_
                  obtain ⟨t9, ht9, hr9⟩ := hE _ hjl (Int32.not_le.mp c68)
                  have ht9 : mo_pl (sI M 0 0) (M.2.2 17 j.toNatClampNeg) = some t9 := ht9
                  refine aw_callV X (kX11_placeOf _ _ _ _ hq _) okm_X11_placeOf okX11 mw_0 ml_X11_183 im_X11_placeOf se_X11_X11_placeOf rfl rfl (Nat.le_of_ble_eq_true rfl) ⟨Nat.le_of_ble_eq_true rfl, Nat.le_of_ble_eq_true rfl, Nat.le_of_ble_eq_true rfl, Nat.le_of_ble_eq_true rfl⟩ dX11_echo_79 (fun v w2 hp => ?_)
                  obtain ⟨rfl, rfl⟩ := hp
                  refine aw_goto (tgt := 86) X dX11_echo_82 rfl ?_
                  refine aw_istore (lv' := [(5, _), (4, _), (3, _), (0, _), (1, _), (2, _)]) X dX11_echo_86 (by decide) rfl ?_
                  refine aw_goto (tgt := 50) X dX11_echo_88 rfl ?_
                  refine aw_lv [0, 1, 2, 3, 4, 5] rfl ?_
                  refine ih _ ?_ (Or.inr ⟨pl_b ht9, by rw [pl_cl ht9]; omega⟩)
                  rw [← hcc]
                  simp only [mo_rg, c52, c58, c68, if_true, if_false]
        refine aw_lv [0, 1, 2, 3, 4, 5] rfl ?_
        refine L 10 _ rfl ?_
        rcases Int32.lt_or_le (oI (mo_pl (sI M 0 0) to)) 0 with h | h
        · exact Or.inl ⟨h, by decide⟩
        · exact Or.inr ⟨pl_bt' h, by have := hr8 (oI (mo_pl (sI M 0 0) to)).toNatClampNeg; omega⟩
      · refine aw_bipush X dX11_echo_43 cb_m4 ?_
        refine RTN (some (.int _)) _ _ _ _ _ dX11_echo_45 (⟨_, rfl⟩) (Nat.le_of_ble_eq_true rfl) (Nat.le_of_ble_eq_true rfl) ?_
        first | (constructor <;> ((try simp only [mo_echo, c19, (eq_true c23), c40, if_true, if_false, not_true_eq_false, not_false_eq_true, and_self, true_and, and_true, false_and, and_false, or_true, true_or, or_false, false_or, reduceCtorEq, ne_eq, va_us, pk_us]); (try with_reducible rfl); done)) | (clear RTN X; constructor <;> ((try simp_all only [mo_echo, if_true, if_false, not_true_eq_false, not_false_eq_true, and_self, true_and, and_true, false_and, and_false, or_true, true_or, or_false, false_or, reduceCtorEq, ne_eq, va_us, pk_us]); (try with_reducible rfl); done)) | (constructor <;> ((try simp only [mo_echo, c19, (eq_true c23), c40, if_true, if_false, not_true_eq_false, not_false_eq_true, and_self, true_and, and_true, false_and, and_false, or_true, true_or, or_false, false_or, reduceCtorEq, ne_eq, va_us, pk_us]); (try rfl); done))
    · refine aw_iload X dX11_echo_26 rfl ?_
      refine aw_if_ge (tgt := 34) X dX11_echo_28 rfl (fun c28 => ?_) (fun c28 => ?_)
      · refine aw_aload_n X dX11_echo_34 rfl rfl ?_
        refine am_get X 8 (Nat.le_of_ble_eq_true rfl) fl_X11_23 rfl rfl dX11_echo_35 ?_
        refine aw_iload_n X dX11_echo_38 rfl rfl ?_
        refine am_ald X 8 _ (M.2.2 8) hq (by decide) rfl rfl rfl (bt_vp ((pl_bt c19)) (by decide) (by decide)) dX11_echo_39 ?_
        refine aw_if_eq (tgt := 46) X dX11_echo_40 rfl (fun c40 => ?_) (fun c40 => ?_)
        · refine aw_iload X dX11_echo_46 rfl ?_
          refine aw_istore (lv' := [(5, _), (4, _), (3, _), (0, _), (1, _), (2, _)]) X dX11_echo_48 (by decide) rfl ?_
          have L : ∀ (nn : Nat) (j : Int32), mo_rg (sI M 0 0) (oI (mo_pl (sI M 0 0) t)) nn j = mo_rg (sI M 0 0) (oI (mo_pl (sI M 0 0) t)) 10 (oI (mo_pl (sI M 0 0) to)) → ((j < 0 ∧ 0 < nn) ∨ (bt j 0 7 = true ∧ r j.toNatClampNeg + 1 < nn)) → AW G p l e ({ frames := 1, cells := 0, slots := 0, locals := 22 } : Room) s m args below meth c 6 A H0 Q (mw G q (sI M 0 0)) 0 0 50 [(5, .int j), (4, .int (oI (mo_pl (sI M 0 0) to))), (3, .int (oI (mo_pl (sI M 0 0) t))), (0, .ref (q 0)), (1, .int t), (2, .int to)] [] := by
            intro nn
            induction nn with
            | zero => intro j hcc h2; rcases h2 with h | h
                      · exact absurd h.2 (by omega)
                      · exact absurd h.2 (by omega)
            | succ nn ih =>
              intro j hcc h2
              refine aw_iload X dX11_echo_50 rfl ?_
              refine aw_if_lt (tgt := 91) X dX11_echo_52 rfl (fun c52 => ?_) (fun c52 => ?_)
              · refine aw_iload X dX11_echo_91 rfl ?_
                refine aw_iload_n X dX11_echo_93 rfl rfl ?_
                refine aw_icmp_ne (tgt := 99) X dX11_echo_94 rfl (fun c94 => ?_) (fun c94 => ?_)
                · refine aw_aload_n X dX11_echo_99 rfl rfl ?_
                  refine am_get X 17 (Nat.le_of_ble_eq_true rfl) fl_X11_95 rfl rfl dX11_echo_100 ?_
                  refine aw_iload_n X dX11_echo_103 rfl rfl ?_
                  refine aw_iload_n X dX11_echo_104 rfl rfl ?_
                  refine am_ast X 17 _ hq (by decide) rfl rfl (bt_vp ((pl_bt c19)) (by decide) (by decide)) dX11_echo_105 ?_
                  refine aw_iconst X dX11_echo_106 ci_1 ?_
                  refine RTN (some (.int _)) _ _ _ _ _ dX11_echo_107 (⟨_, rfl⟩) (Nat.le_of_ble_eq_true rfl) (Nat.le_of_ble_eq_true rfl) ?_
                  have hrg : mo_rg (sI M 0 0) (oI (mo_pl (sI M 0 0) t)) 10 (oI (mo_pl (sI M 0 0) to)) = false := by rw [← hcc]; simp only [mo_rg, c52, if_true, if_false]
                  constructor <;> simp only [mo_echo, c19, c23, c28, (eq_true c40), hrg, if_true, if_false, not_true_eq_false, not_false_eq_true, and_self, true_and, and_true, false_and, and_false, or_true, true_or, or_false, false_or, reduceCtorEq, ne_eq, va_us, pk_us, Bool.false_eq_true]
                · exact absurd (by rw [c94] at c52; exact c52) c19
              · have h3 : bt j 0 7 = true ∧ r j.toNatClampNeg + 1 < nn + 1 := by
                  rcases h2 with h | h
                  · exact absurd h.1 c52
                  · exact h
                have hjl : j.toNatClampNeg < 8 := cl_lt h3.1 (by decide) (by decide)
                refine aw_iload X dX11_echo_55 rfl ?_
                refine aw_iload_n X dX11_echo_57 rfl rfl ?_
                refine aw_icmp_eq (tgt := 91) X dX11_echo_58 rfl (fun c58 => ?_) (fun c58 => ?_)
                · refine aw_iload X dX11_echo_91 rfl ?_
                  refine aw_iload_n X dX11_echo_93 rfl rfl ?_
                  refine aw_icmp_ne (tgt := 99) X dX11_echo_94 rfl (fun c94 => ?_) (fun c94 => ?_)
                  · exact absurd c58 c94
                  · refine aw_iconst X dX11_echo_97 ci_0 ?_
                    refine RTN (some (.int _)) _ _ _ _ _ dX11_echo_98 (⟨_, rfl⟩) (Nat.le_of_ble_eq_true rfl) (Nat.le_of_ble_eq_true rfl) ?_
                    have hrg : mo_rg (sI M 0 0) (oI (mo_pl (sI M 0 0) t)) 10 (oI (mo_pl (sI M 0 0) to)) = true := by rw [← hcc]; simp only [mo_rg, c52, (eq_true c58), if_true, if_false]
                    constructor <;> simp only [mo_echo, c19, c23, c28, (eq_true c40), hrg, if_true, if_false, not_true_eq_false, not_false_eq_true, and_self, true_and, and_true, false_and, and_false, or_true, true_or, or_false, false_or, reduceCtorEq, ne_eq, va_us, pk_us, Bool.false_eq_true]
                · refine aw_aload_n X dX11_echo_61 rfl rfl ?_
                  refine am_get X 17 (Nat.le_of_ble_eq_true rfl) fl_X11_95 rfl rfl dX11_echo_62 ?_
                  refine aw_iload X dX11_echo_65 rfl ?_
                  refine am_ald X 17 _ (M.2.2 17) hq (by decide) rfl rfl rfl (bt_vp h3.1 (by decide) (by decide)) dX11_echo_67 ?_
                  refine aw_if_le (tgt := 85) X dX11_echo_68 rfl (fun c68 => ?_) (fun c68 => ?_)
                  · refine aw_iconst X dX11_echo_85 ci_m1 ?_
                    refine aw_istore (lv' := [(5, _), (4, _), (3, _), (0, _), (1, _), (2, _)]) X dX11_echo_86 (by decide) rfl ?_
                    refine aw_goto (tgt := 50) X dX11_echo_88 rfl ?_
                    refine aw_lv [0, 1, 2, 3, 4, 5] rfl ?_
                    refine ih _ ?_ (Or.inl ⟨by decide, by omega⟩)
                    rw [← hcc]
                    simp only [mo_rg, c52, c58, c68, if_true, if_false]
                  · refine aw_aload_n X dX11_echo_71 rfl rfl ?_
                    refine aw_aload_n X dX11_echo_72 rfl rfl ?_
                    refine am_get X 17 (Nat.le_of_ble_eq_true rfl) fl_X11_95 rfl rfl dX11_echo_73 ?_
                    refine aw_iload X dX11_echo_76 rfl ?_
                    refine am_ald X 17 _ (M.2.2 17) hq (by decide) rfl rfl rfl (bt_vp h3.1 (by decide) (by decide)) dX11_echo_78 ?_
                    obtain ⟨t9, ht9, hr9⟩ := hE _ hjl (Int32.not_le.mp c68)
                    have ht9 : mo_pl (sI M 0 0) (M.2.2 17 j.toNatClampNeg) = some t9 := ht9
                    refine aw_callV X (kX11_placeOf _ _ _ _ hq _) okm_X11_placeOf okX11 mw_0 ml_X11_183 im_X11_placeOf se_X11_X11_placeOf rfl rfl (Nat.le_of_ble_eq_true rfl) ⟨Nat.le_of_ble_eq_true rfl, Nat.le_of_ble_eq_true rfl, Nat.le_of_ble_eq_true rfl, Nat.le_of_ble_eq_true rfl⟩ dX11_echo_79 (fun v w2 hp => ?_)
                    obtain ⟨rfl, rfl⟩ := hp
                    refine aw_goto (tgt := 86) X dX11_echo_82 rfl ?_
                    refine aw_istore (lv' := [(5, _), (4, _), (3, _), (0, _), (1, _), (2, _)]) X dX11_echo_86 (by decide) rfl ?_
                    refine aw_goto (tgt := 50) X dX11_echo_88 rfl ?_
                    refine aw_lv [0, 1, 2, 3, 4, 5] rfl ?_
                    refine ih _ ?_ (Or.inr ⟨pl_b ht9, by rw [pl_cl ht9]; omega⟩)
                    rw [← hcc]
                    simp only [mo_rg, c52, c58, c68, if_true, if_false]
          refine aw_lv [0, 1, 2, 3, 4, 5] rfl ?_
          refine L 10 _ rfl ?_
          rcases Int32.lt_or_le (oI (mo_pl (sI M 0 0) to)) 0 with h | h
          · exact Or.inl ⟨h, by decide⟩
          · exact Or.inr ⟨pl_bt' h, by have := hr8 (oI (mo_pl (sI M 0 0) to)).toNatClampNeg; omega⟩
        · refine aw_bipush X dX11_echo_43 cb_m4 ?_
          refine RTN (some (.int _)) _ _ _ _ _ dX11_echo_45 (⟨_, rfl⟩) (Nat.le_of_ble_eq_true rfl) (Nat.le_of_ble_eq_true rfl) ?_
          first | (constructor <;> ((try simp only [mo_echo, c19, c23, c28, c40, if_true, if_false, not_true_eq_false, not_false_eq_true, and_self, true_and, and_true, false_and, and_false, or_true, true_or, or_false, false_or, reduceCtorEq, ne_eq, va_us, pk_us]); (try with_reducible rfl); done)) | (clear RTN X; constructor <;> ((try simp_all only [mo_echo, if_true, if_false, not_true_eq_false, not_false_eq_true, and_self, true_and, and_true, false_and, and_false, or_true, true_or, or_false, false_or, reduceCtorEq, ne_eq, va_us, pk_us]); (try with_reducible rfl); done)) | (constructor <;> ((try simp only [mo_echo, c19, c23, c28, c40, if_true, if_false, not_true_eq_false, not_false_eq_true, and_self, true_and, and_true, false_and, and_false, or_true, true_or, or_false, false_or, reduceCtorEq, ne_eq, va_us, pk_us]); (try rfl); done))
      · refine aw_bipush X dX11_echo_31 cb_m2 ?_
        refine RTN (some (.int _)) _ _ _ _ _ dX11_echo_33 (⟨_, rfl⟩) (Nat.le_of_ble_eq_true rfl) (Nat.le_of_ble_eq_true rfl) ?_
        first | (constructor <;> ((try simp only [mo_echo, c19, c23, c28, if_true, if_false, not_true_eq_false, not_false_eq_true, and_self, true_and, and_true, false_and, and_false, or_true, true_or, or_false, false_or, reduceCtorEq, ne_eq, va_us, pk_us]); (try with_reducible rfl); done)) | (clear RTN X; constructor <;> ((try simp_all only [mo_echo, if_true, if_false, not_true_eq_false, not_false_eq_true, and_self, true_and, and_true, false_and, and_false, or_true, true_or, or_false, false_or, reduceCtorEq, ne_eq, va_us, pk_us]); (try with_reducible rfl); done)) | (constructor <;> ((try simp only [mo_echo, c19, c23, c28, if_true, if_false, not_true_eq_false, not_false_eq_true, and_self, true_and, and_true, false_and, and_false, or_true, true_or, or_false, false_or, reduceCtorEq, ne_eq, va_us, pk_us]); (try rfl); done))
