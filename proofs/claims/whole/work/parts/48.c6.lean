/-! rows -/
theorem i1n0 : ¬ (1 : Int32) = 0 := by decide
theorem ne_ar {w : WM} {a b n m : Nat} {c d : ClassId} {f : Nat → Int32} {g : Nat → Option Nat} (ha : w a = some (.inl (c, n, .inl f))) (hb : w b = some (rA d m g)) : a ≠ b := by
  intro z
  rw [z, hb] at ha
  simp at ha
def isIt (G : GG) (w : WM) (iS : Nat → Int32) (iV iN : Nat → Nat) (iF : Nat → Nat → Int32) (a : Nat) : Prop := w a = some (.inr (4, [.int (iS a), .ref (iV a)])) ∧ w (iV a) = some (.inl (gA G 0, iN a, .inl (iF a)))
abbrev oC (aR aG aS aF aN aC : Nat) (cur : Option Nat) (ln rc ft sp sd lf : Int32) : va_E := .inr (11, [.ref aR, .ref aG, .ref aS, .ref aF, .ref aN, .ref aC, va_rf cur, .int ln, .int rc, .int ft, .int sp, .int sd, .int lf])
def rw_fault (iS : Nat → Int32) (iN : Nat → Nat) (r : Option Nat) (sort k : Int32) : Int32 := match r with
  | none => 1
  | some a => it_fault (iS a) (iN a) sort k
set_option maxRecDepth 100000 in
set_option maxHeartbeats 4000000 in
theorem kX10_faulted (G : GG) (l : Launch) (w : WM) (o aR aG aS aF aN aC : Nat) (cur : Option Nat) (ln rc ft sp sd lf : Int32) (hO : w o = some (.inr (11, [.ref aR, .ref aG, .ref aS, .ref aF, .ref aN, .ref aC, va_rf cur, .int ln, .int rc, .int ft, .int sp, .int sd, .int lf]))) (f : Int32) : MC G l yX10_faulted cX10_faulted 2 ((Option.some .int)) ({ frames := 0, cells := 0, slots := 0, locals := 0 } : Room) [.ref o, .int f] w (fun v w' => v = some (.int ((-10) - f)) ∧ w' = wm_up w o (oC aR aG aS aF aN aC cur ln rc ft sp sd f)) := by
  refine mc_int (by decide) (Nat.le_of_ble_eq_true rfl) rfl rfl ?_
  intro p e s m args below meth c A H0 Q X hnm RTN
  have X : Cx G p s m args meth c A H0 cX10_faulted 2 RX10 := X
  refine aw_aload_n X dX10_faulted_0 rfl rfl ?_
  refine aw_iload_n X dX10_faulted_1 rfl rfl ?_
  refine aw_put2 X okX10 (k := 12) (fs' := [.ref aR, .ref aG, .ref aS, .ref aF, .ref aN, .ref aC, va_rf cur, .int ln, .int rc, .int ft, .int sp, .int sd, .int f]) hO (Nat.le_of_ble_eq_true rfl) fl_X10_114 (Or.inl rfl) rfl (rfl ) ( rfl) (Nat.le_of_ble_eq_true rfl) rfl dX10_faulted_2 (fun w1 hk2 hn3 he4 => ?_)
  refine aw_bipush X dX10_faulted_5 cb_m10 ?_
  refine aw_iload_n X dX10_faulted_7 rfl rfl ?_
  refine aw_isub X dX10_faulted_8 ?_
  refine RTN (some (.int _)) _ _ _ _ _ dX10_faulted_9 (⟨_, rfl⟩) (Nat.le_of_ble_eq_true rfl) (Nat.le_of_ble_eq_true rfl) ?_
  exact ⟨rfl, he4⟩
set_option maxRecDepth 100000 in
set_option maxHeartbeats 4000000 in
theorem kX10_isReference (G : GG) (l : Launch) (w : WM) (o aR aG aS aF aN aC : Nat) (cur : Option Nat) (ln rc ft sp sd lf : Int32) (hO : w o = some (.inr (11, [.ref aR, .ref aG, .ref aS, .ref aF, .ref aN, .ref aC, va_rf cur, .int ln, .int rc, .int ft, .int sp, .int sd, .int lf]))) (r : Int32) : MC G l yX10_isReference cX10_isReference 2 ((Option.some .boolean)) ({ frames := 1, cells := 0, slots := 0, locals := 22 } : Room) [.ref o, .int r] w (fun v w' => v = some (.int (bI (bt r 0 (rc - 1).toInt = true))) ∧ w' = w) := by
  refine mc_bool (by decide) (Nat.le_of_ble_eq_true rfl) rfl rfl ?_
  intro p e s m args below meth c A H0 Q X hnm RTN
  have X : Cx G p s m args meth c A H0 cX10_isReference 2 RX10 := X
  refine aw_iload_n X dX10_isReference_0 rfl rfl ?_
  refine aw_iconst X dX10_isReference_1 ci_0 ?_
  refine aw_aload_n X dX10_isReference_2 rfl rfl ?_
  refine aw_get X okX10 (k := 8) hO (Nat.le_of_ble_eq_true rfl) fl_X10_282 (Or.inl rfl) rfl dX10_isReference_3 ?_
  refine aw_iconst X dX10_isReference_6 ci_1 ?_
  refine aw_isub X dX10_isReference_7 ?_
  refine aw_callS X (kX10_within _ _ _ _ _ _ 0 ((rc - 1).toInt) rfl rfl) okm_X10_within ml_X10_50 st_X10_within rfl rfl (Nat.le_of_ble_eq_true rfl) ⟨Nat.le_of_ble_eq_true rfl, Nat.le_of_ble_eq_true rfl, Nat.le_of_ble_eq_true rfl, Nat.le_of_ble_eq_true rfl⟩ dX10_isReference_8 (fun v w2 hp => ?_)
  obtain ⟨rfl, rfl⟩ := hp
  refine RTN (some (.int _)) _ _ _ _ _ dX10_isReference_11 (bI_ok) (Nat.le_of_ble_eq_true rfl) (Nat.le_of_ble_eq_true rfl) ?_
  exact ⟨rfl, rfl⟩
/-- what refusalOfNumberAt answers; the fault that it tells, if any -/
def rw_ref (iS : Nat → Int32) (iN : Nat → Nat) (R : Nat → Option Nat) (r sort k : Int32) : Int32 × Option Int32 :=
  if bt r 0 7 then
    if sort = 1 ∨ sort = 2 then
      if rw_fault iS iN (R r.toNatClampNeg) sort k = 0 then (0, none) else ((-10) - rw_fault iS iN (R r.toNatClampNeg) sort k, some (rw_fault iS iN (R r.toNatClampNeg) sort k))
    else (-3, none)
  else (-2, none)
def oUp (w : WM) (o aR aG aS aF aN aC : Nat) (cur : Option Nat) (ln rc ft sp sd : Int32) (x : Option Int32) : WM := match x with
  | none => w
  | some f => wm_up w o (oC aR aG aS aF aN aC cur ln rc ft sp sd f)
set_option maxRecDepth 100000 in
set_option maxHeartbeats 4000000 in
theorem kX10_refusalOfNumberAt (G : GG) (l : Launch) (w : WM) (o aR aG aS aF aN aC : Nat) (cur : Option Nat) (ln rc ft sp sd lf : Int32) (hO : w o = some (.inr (11, [.ref aR, .ref aG, .ref aS, .ref aF, .ref aN, .ref aC, va_rf cur, .int ln, .int rc, .int ft, .int sp, .int sd, .int lf]))) (R : Nat → Option Nat) (hR : w aR = some (rA (gA G 4) 8 R)) (iS : Nat → Int32) (iV iN : Nat → Nat) (iF : Nat → Nat → Int32) (hI : ∀ k a, k < 8 → R k = some a → isIt G w iS iV iN iF a) (r sort k : Int32) : MC G l yX10_refusalOfNumberAt cX10_refusalOfNumberAt 5 ((Option.some .int)) ({ frames := 2, cells := 0, slots := 0, locals := 43 } : Room) [.ref o, .int r, .int sort, .int k] w (fun v w' => v = some (.int (rw_ref iS iN R r sort k).1) ∧ w' = oUp w o aR aG aS aF aN aC cur ln rc ft sp sd (rw_ref iS iN R r sort k).2) := by
  refine mc_int (by decide) (Nat.le_of_ble_eq_true rfl) rfl rfl ?_
  intro p e s m args below meth c A H0 Q X hnm RTN
  have X : Cx G p s m args meth c A H0 cX10_refusalOfNumberAt 5 RX10 := X
  refine aw_iload_n X dX10_refusalOfNumberAt_0 rfl rfl ?_
  refine aw_callS X (kX10_isRow _ _ _ _) okm_X10_isRow ml_X10_46 st_X10_isRow rfl rfl (Nat.le_of_ble_eq_true rfl) ⟨Nat.le_of_ble_eq_true rfl, Nat.le_of_ble_eq_true rfl, Nat.le_of_ble_eq_true rfl, Nat.le_of_ble_eq_true rfl⟩ dX10_refusalOfNumberAt_1 (fun v w2 hp => ?_)
  obtain ⟨rfl, rfl⟩ := hp
  refine aw_if_ne (tgt := 10) X dX10_refusalOfNumberAt_4 rfl (fun c4 => ?_) (fun c4 => ?_)
  · rw [bI_n0] at c4
    refine aw_iload_n X dX10_refusalOfNumberAt_10 rfl rfl ?_
    refine aw_iconst X dX10_refusalOfNumberAt_11 ci_1 ?_
    refine aw_icmp_eq (tgt := 23) X dX10_refusalOfNumberAt_12 rfl (fun c12 => ?_) (fun c12 => ?_)
    · refine aw_aload_n X dX10_refusalOfNumberAt_23 rfl rfl ?_
      refine aw_get X okX10 (k := 0) hO (Nat.le_of_ble_eq_true rfl) fl_X10_13 (Or.inl rfl) rfl dX10_refusalOfNumberAt_24 ?_
      refine aw_iload_n X dX10_refusalOfNumberAt_27 rfl rfl ?_
      refine aw_aald X 4 hR rfl (bt_vp c4 (by decide) (by decide)) dX10_refusalOfNumberAt_28 ?_
      rcases hr5 : R r.toNatClampNeg with _ | a6
      · refine aw_iload_n X dX10_refusalOfNumberAt_29 rfl rfl ?_
        refine aw_iload_n X dX10_refusalOfNumberAt_30 rfl rfl ?_
        refine aw_callS X (kX10_faultAt0 _ _ _ _ _) okm_X10_faultAt ml_X10_74 st_X10_faultAt rfl rfl (Nat.le_of_ble_eq_true rfl) ⟨Nat.le_of_ble_eq_true rfl, Nat.le_of_ble_eq_true rfl, Nat.le_of_ble_eq_true rfl, Nat.le_of_ble_eq_true rfl⟩ dX10_refusalOfNumberAt_31 (fun v w2 hp => ?_)
        obtain ⟨rfl, rfl⟩ := hp
        refine aw_istore (lv' := [(4, _), (0, _), (1, _), (2, _), (3, _)]) X dX10_refusalOfNumberAt_34 (by decide) rfl ?_
        refine aw_iload X dX10_refusalOfNumberAt_36 rfl ?_
        refine aw_if_ne (tgt := 45) X dX10_refusalOfNumberAt_38 rfl (fun c38 => ?_) (fun c38 => ?_)
        · refine aw_aload_n X dX10_refusalOfNumberAt_45 rfl rfl ?_
          refine aw_iload X dX10_refusalOfNumberAt_46 rfl ?_
          refine aw_callV X (kX10_faulted _ _ _ _ _ _ _ _ _ _ _ _ _ _ _ _ _ hO _) okm_X10_faulted okX10 hO ml_X10_54 im_X10_faulted se_X10_X10_faulted rfl rfl (Nat.le_of_ble_eq_true rfl) ⟨Nat.le_of_ble_eq_true rfl, Nat.le_of_ble_eq_true rfl, Nat.le_of_ble_eq_true rfl, Nat.le_of_ble_eq_true rfl⟩ dX10_refusalOfNumberAt_48 (fun v w2 hp => ?_)
          obtain ⟨rfl, hw7⟩ := hp
          have hk8 := (congrFun hw7 o).trans wm_ups
          have hk9 := ((congrFun hw7 aR).trans (wm_upn (Ne.symm (ne_oa hO hR)))).trans hR
          refine RTN (some (.int _)) _ _ _ _ _ dX10_refusalOfNumberAt_51 (⟨_, rfl⟩) (Nat.le_of_ble_eq_true rfl) (Nat.le_of_ble_eq_true rfl) ?_
          refine ⟨by simp only [rw_ref, rw_fault, i1n0, c4, (eq_true c12), hr5, if_true, if_false, not_true_eq_false, not_false_eq_true, and_self, true_and, and_true, false_and, and_false, or_true, true_or, or_false, false_or, reduceCtorEq, ne_eq, va_us, pk_us], ?_⟩
          rw [hw7]
          simp only [rw_ref, rw_fault, i1n0, c4, (eq_true c12), hr5, if_true, if_false, not_true_eq_false, not_false_eq_true, and_self, true_and, and_true, false_and, and_false, or_true, true_or, or_false, false_or, reduceCtorEq, ne_eq, va_us, pk_us, oUp]
        · exact absurd c38 (by decide)
      · have hk10 := hI _ a6 (cl_lt c4 (by decide) (by decide)) hr5
        refine aw_iload_n X dX10_refusalOfNumberAt_29 rfl rfl ?_
        refine aw_iload_n X dX10_refusalOfNumberAt_30 rfl rfl ?_
        refine aw_callS X (kX10_faultAt _ _ _ _ _ _ _ _ hk10.1 hk10.2 _ _) okm_X10_faultAt ml_X10_74 st_X10_faultAt rfl rfl (Nat.le_of_ble_eq_true rfl) ⟨Nat.le_of_ble_eq_true rfl, Nat.le_of_ble_eq_true rfl, Nat.le_of_ble_eq_true rfl, Nat.le_of_ble_eq_true rfl⟩ dX10_refusalOfNumberAt_31 (fun v w2 hp => ?_)
        obtain ⟨rfl, rfl⟩ := hp
        refine aw_istore (lv' := [(4, _), (0, _), (1, _), (2, _), (3, _)]) X dX10_refusalOfNumberAt_34 (by decide) rfl ?_
        refine aw_iload X dX10_refusalOfNumberAt_36 rfl ?_
        refine aw_if_ne (tgt := 45) X dX10_refusalOfNumberAt_38 rfl (fun c38 => ?_) (fun c38 => ?_)
        · refine aw_aload_n X dX10_refusalOfNumberAt_45 rfl rfl ?_
          refine aw_iload X dX10_refusalOfNumberAt_46 rfl ?_
          refine aw_callV X (kX10_faulted _ _ _ _ _ _ _ _ _ _ _ _ _ _ _ _ _ hO _) okm_X10_faulted okX10 hO ml_X10_54 im_X10_faulted se_X10_X10_faulted rfl rfl (Nat.le_of_ble_eq_true rfl) ⟨Nat.le_of_ble_eq_true rfl, Nat.le_of_ble_eq_true rfl, Nat.le_of_ble_eq_true rfl, Nat.le_of_ble_eq_true rfl⟩ dX10_refusalOfNumberAt_48 (fun v w2 hp => ?_)
          obtain ⟨rfl, hw11⟩ := hp
          have hk12 := (congrFun hw11 o).trans wm_ups
          have hk13 := ((congrFun hw11 aR).trans (wm_upn (Ne.symm (ne_oa hO hR)))).trans hR
          have hk14 := ((congrFun hw11 a6).trans (wm_upn (ne_ci hk10.1 hO (by decide)))).trans hk10.1
          have hk15 := ((congrFun hw11 (iV a6)).trans (wm_upn (Ne.symm (ne_oa hO hk10.2)))).trans hk10.2
          refine RTN (some (.int _)) _ _ _ _ _ dX10_refusalOfNumberAt_51 (⟨_, rfl⟩) (Nat.le_of_ble_eq_true rfl) (Nat.le_of_ble_eq_true rfl) ?_
          refine ⟨by simp only [rw_ref, rw_fault, i1n0, c4, (eq_true c12), hr5, c38, if_true, if_false, not_true_eq_false, not_false_eq_true, and_self, true_and, and_true, false_and, and_false, or_true, true_or, or_false, false_or, reduceCtorEq, ne_eq, va_us, pk_us], ?_⟩
          rw [hw11]
          simp only [rw_ref, rw_fault, i1n0, c4, (eq_true c12), hr5, c38, if_true, if_false, not_true_eq_false, not_false_eq_true, and_self, true_and, and_true, false_and, and_false, or_true, true_or, or_false, false_or, reduceCtorEq, ne_eq, va_us, pk_us, oUp]
        · refine aw_iconst X dX10_refusalOfNumberAt_41 ci_0 ?_
          refine aw_goto (tgt := 51) X dX10_refusalOfNumberAt_42 rfl ?_
          refine RTN (some (.int _)) _ _ _ _ _ dX10_refusalOfNumberAt_51 (⟨_, rfl⟩) (Nat.le_of_ble_eq_true rfl) (Nat.le_of_ble_eq_true rfl) ?_
          constructor <;> simp only [rw_ref, rw_fault, i1n0, c4, (eq_true c12), hr5, (eq_true c38), if_true, if_false, not_true_eq_false, not_false_eq_true, and_self, true_and, and_true, false_and, and_false, or_true, true_or, or_false, false_or, reduceCtorEq, ne_eq, va_us, pk_us, oUp]
    · refine aw_iload_n X dX10_refusalOfNumberAt_15 rfl rfl ?_
      refine aw_iconst X dX10_refusalOfNumberAt_16 ci_2 ?_
      refine aw_icmp_eq (tgt := 23) X dX10_refusalOfNumberAt_17 rfl (fun c17 => ?_) (fun c17 => ?_)
      · refine aw_aload_n X dX10_refusalOfNumberAt_23 rfl rfl ?_
        refine aw_get X okX10 (k := 0) hO (Nat.le_of_ble_eq_true rfl) fl_X10_13 (Or.inl rfl) rfl dX10_refusalOfNumberAt_24 ?_
        refine aw_iload_n X dX10_refusalOfNumberAt_27 rfl rfl ?_
        refine aw_aald X 4 hR rfl (bt_vp c4 (by decide) (by decide)) dX10_refusalOfNumberAt_28 ?_
        rcases hr16 : R r.toNatClampNeg with _ | a17
        · refine aw_iload_n X dX10_refusalOfNumberAt_29 rfl rfl ?_
          refine aw_iload_n X dX10_refusalOfNumberAt_30 rfl rfl ?_
          refine aw_callS X (kX10_faultAt0 _ _ _ _ _) okm_X10_faultAt ml_X10_74 st_X10_faultAt rfl rfl (Nat.le_of_ble_eq_true rfl) ⟨Nat.le_of_ble_eq_true rfl, Nat.le_of_ble_eq_true rfl, Nat.le_of_ble_eq_true rfl, Nat.le_of_ble_eq_true rfl⟩ dX10_refusalOfNumberAt_31 (fun v w2 hp => ?_)
          obtain ⟨rfl, rfl⟩ := hp
          refine aw_istore (lv' := [(4, _), (0, _), (1, _), (2, _), (3, _)]) X dX10_refusalOfNumberAt_34 (by decide) rfl ?_
          refine aw_iload X dX10_refusalOfNumberAt_36 rfl ?_
          refine aw_if_ne (tgt := 45) X dX10_refusalOfNumberAt_38 rfl (fun c38 => ?_) (fun c38 => ?_)
          · refine aw_aload_n X dX10_refusalOfNumberAt_45 rfl rfl ?_
            refine aw_iload X dX10_refusalOfNumberAt_46 rfl ?_
            refine aw_callV X (kX10_faulted _ _ _ _ _ _ _ _ _ _ _ _ _ _ _ _ _ hO _) okm_X10_faulted okX10 hO ml_X10_54 im_X10_faulted se_X10_X10_faulted rfl rfl (Nat.le_of_ble_eq_true rfl) ⟨Nat.le_of_ble_eq_true rfl, Nat.le_of_ble_eq_true rfl, Nat.le_of_ble_eq_true rfl, Nat.le_of_ble_eq_true rfl⟩ dX10_refusalOfNumberAt_48 (fun v w2 hp => ?_)
            obtain ⟨rfl, hw18⟩ := hp
            have hk19 := (congrFun hw18 o).trans wm_ups
            have hk20 := ((congrFun hw18 aR).trans (wm_upn (Ne.symm (ne_oa hO hR)))).trans hR
            refine RTN (some (.int _)) _ _ _ _ _ dX10_refusalOfNumberAt_51 (⟨_, rfl⟩) (Nat.le_of_ble_eq_true rfl) (Nat.le_of_ble_eq_true rfl) ?_
            refine ⟨by simp only [rw_ref, rw_fault, i1n0, c4, c12, (eq_true c17), hr16, if_true, if_false, not_true_eq_false, not_false_eq_true, and_self, true_and, and_true, false_and, and_false, or_true, true_or, or_false, false_or, reduceCtorEq, ne_eq, va_us, pk_us], ?_⟩
            rw [hw18]
            simp only [rw_ref, rw_fault, i1n0, c4, c12, (eq_true c17), hr16, if_true, if_false, not_true_eq_false, not_false_eq_true, and_self, true_and, and_true, false_and, and_false, or_true, true_or, or_false, false_or, reduceCtorEq, ne_eq, va_us, pk_us, oUp]
          · exact absurd c38 (by decide)
        · have hk21 := hI _ a17 (cl_lt c4 (by decide) (by decide)) hr16
          refine aw_iload_n X dX10_refusalOfNumberAt_29 rfl rfl ?_
          refine aw_iload_n X dX10_refusalOfNumberAt_30 rfl rfl ?_
          refine aw_callS X (kX10_faultAt _ _ _ _ _ _ _ _ hk21.1 hk21.2 _ _) okm_X10_faultAt ml_X10_74 st_X10_faultAt rfl rfl (Nat.le_of_ble_eq_true rfl) ⟨Nat.le_of_ble_eq_true rfl, Nat.le_of_ble_eq_true rfl, Nat.le_of_ble_eq_true rfl, Nat.le_of_ble_eq_true rfl⟩ dX10_refusalOfNumberAt_31 (fun v w2 hp => ?_)
          obtain ⟨rfl, rfl⟩ := hp
          refine aw_istore (lv' := [(4, _), (0, _), (1, _), (2, _), (3, _)]) X dX10_refusalOfNumberAt_34 (by decide) rfl ?_
          refine aw_iload X dX10_refusalOfNumberAt_36 rfl ?_
          refine aw_if_ne (tgt := 45) X dX10_refusalOfNumberAt_38 rfl (fun c38 => ?_) (fun c38 => ?_)
          · refine aw_aload_n X dX10_refusalOfNumberAt_45 rfl rfl ?_
            refine aw_iload X dX10_refusalOfNumberAt_46 rfl ?_
            refine aw_callV X (kX10_faulted _ _ _ _ _ _ _ _ _ _ _ _ _ _ _ _ _ hO _) okm_X10_faulted okX10 hO ml_X10_54 im_X10_faulted se_X10_X10_faulted rfl rfl (Nat.le_of_ble_eq_true rfl) ⟨Nat.le_of_ble_eq_true rfl, Nat.le_of_ble_eq_true rfl, Nat.le_of_ble_eq_true rfl, Nat.le_of_ble_eq_true rfl⟩ dX10_refusalOfNumberAt_48 (fun v w2 hp => ?_)
            obtain ⟨rfl, hw22⟩ := hp
            have hk23 := (congrFun hw22 o).trans wm_ups
            have hk24 := ((congrFun hw22 aR).trans (wm_upn (Ne.symm (ne_oa hO hR)))).trans hR
            have hk25 := ((congrFun hw22 a17).trans (wm_upn (ne_ci hk21.1 hO (by decide)))).trans hk21.1
            have hk26 := ((congrFun hw22 (iV a17)).trans (wm_upn (Ne.symm (ne_oa hO hk21.2)))).trans hk21.2
            refine RTN (some (.int _)) _ _ _ _ _ dX10_refusalOfNumberAt_51 (⟨_, rfl⟩) (Nat.le_of_ble_eq_true rfl) (Nat.le_of_ble_eq_true rfl) ?_
            refine ⟨by simp only [rw_ref, rw_fault, i1n0, c4, c12, (eq_true c17), hr16, c38, if_true, if_false, not_true_eq_false, not_false_eq_true, and_self, true_and, and_true, false_and, and_false, or_true, true_or, or_false, false_or, reduceCtorEq, ne_eq, va_us, pk_us], ?_⟩
            rw [hw22]
            simp only [rw_ref, rw_fault, i1n0, c4, c12, (eq_true c17), hr16, c38, if_true, if_false, not_true_eq_false, not_false_eq_true, and_self, true_and, and_true, false_and, and_false, or_true, true_or, or_false, false_or, reduceCtorEq, ne_eq, va_us, pk_us, oUp]
          · refine aw_iconst X dX10_refusalOfNumberAt_41 ci_0 ?_
            refine aw_goto (tgt := 51) X dX10_refusalOfNumberAt_42 rfl ?_
            refine RTN (some (.int _)) _ _ _ _ _ dX10_refusalOfNumberAt_51 (⟨_, rfl⟩) (Nat.le_of_ble_eq_true rfl) (Nat.le_of_ble_eq_true rfl) ?_
            constructor <;> simp only [rw_ref, rw_fault, i1n0, c4, c12, (eq_true c17), hr16, (eq_true c38), if_true, if_false, not_true_eq_false, not_false_eq_true, and_self, true_and, and_true, false_and, and_false, or_true, true_or, or_false, false_or, reduceCtorEq, ne_eq, va_us, pk_us, oUp]
      · refine aw_bipush X dX10_refusalOfNumberAt_20 cb_m3 ?_
        refine RTN (some (.int _)) _ _ _ _ _ dX10_refusalOfNumberAt_22 (⟨_, rfl⟩) (Nat.le_of_ble_eq_true rfl) (Nat.le_of_ble_eq_true rfl) ?_
        constructor <;> simp only [rw_ref, rw_fault, i1n0, c4, c12, c17, if_true, if_false, not_true_eq_false, not_false_eq_true, and_self, true_and, and_true, false_and, and_false, or_true, true_or, or_false, false_or, reduceCtorEq, ne_eq, va_us, pk_us, oUp]
  · rw [bI_0] at c4
    refine aw_bipush X dX10_refusalOfNumberAt_7 cb_m2 ?_
    refine RTN (some (.int _)) _ _ _ _ _ dX10_refusalOfNumberAt_9 (⟨_, rfl⟩) (Nat.le_of_ble_eq_true rfl) (Nat.le_of_ble_eq_true rfl) ?_
    constructor <;> simp only [rw_ref, rw_fault, i1n0, c4, if_true, if_false, not_true_eq_false, not_false_eq_true, and_self, true_and, and_true, false_and, and_false, or_true, true_or, or_false, false_or, reduceCtorEq, ne_eq, va_us, pk_us, oUp]
theorem rref_ok {iS : Nat → Int32} {iN : Nat → Nat} {R : Nat → Option Nat} {r sort k : Int32} (h : (rw_ref iS iN R r sort k).1 = 0) : bt r 0 7 = true ∧ (sort = 1 ∨ sort = 2) ∧ (∃ a, R r.toNatClampNeg = some a ∧ it_fault (iS a) (iN a) sort k = 0) ∧ (rw_ref iS iN R r sort k).2 = none := by
  unfold rw_ref at h ⊢
  split at h
  · rename_i h1
    split at h
    · rename_i h2
      split at h
      · rename_i h3
        refine ⟨h1, h2, ?_, by rw [if_pos h1, if_pos h2, if_pos h3]⟩
        unfold rw_fault at h3
        split at h3
        · exact absurd h3 (by decide)
        · rename_i a ha
          exact ⟨a, ha, h3⟩
      · rename_i h3
        exfalso
        have hf : rw_fault iS iN (R r.toNatClampNeg) sort k = 1 ∨ rw_fault iS iN (R r.toNatClampNeg) sort k = 2 ∨ rw_fault iS iN (R r.toNatClampNeg) sort k = 3 := by
          unfold rw_fault at h3 ⊢
          split
          · exact Or.inl rfl
          · rename_i a ha
            rw [ha] at h3
            unfold it_fault at h3 ⊢
            dsimp only at h3
            split
            · rename_i h4
              rw [if_pos h4] at h3
              split
              · rename_i h5
                rw [if_pos h5] at h3
                exact absurd rfl h3
              · exact Or.inr (Or.inr rfl)
            · exact Or.inr (Or.inl rfl)
        rcases hf with hf | hf | hf <;> rw [hf] at h <;> exact absurd h (by decide)
    · exact absurd h (by decide)
  · exact absurd h (by decide)
theorem has_vp {n : Nat} {k : Int32} (hn : n < 2 ^ 31) (h : it_has n k = true) : vp_in k n := by
  unfold it_has at h
  simp only [Bool.and_eq_true, Bool.not_eq_true', decide_eq_false_iff_not] at h
  rw [i32_lt, i32_le, nI_toInt hn] at h
  have e0 : (0 : Int32).toInt = 0 := rfl
  exact vp_in_iff.mpr ⟨by omega, by omega⟩
theorem fault_has {so : Int32} {n : Nat} {sort k : Int32} (h : it_fault so n sort k = 0) : it_of so sort = true ∧ it_has n k = true := by
  unfold it_fault at h
  split at h
  · rename_i h1
    split at h
    · rename_i h2; exact ⟨h1, h2⟩
    · exact absurd h (by decide)
  · exact absurd h (by decide)
def rw_item (iS : Nat → Int32) (iN : Nat → Nat) (iF : Nat → Nat → Int32) (R : Nat → Option Nat) (r sort k : Int32) : Int64 :=
  if (rw_ref iS iN R r sort k).1 = 0 then (iF ((R r.toNatClampNeg).getD 0) k.toNatClampNeg).toInt64 else (-9223372036854775808) - ((rw_ref iS iN R r sort k).1).toInt64
set_option maxRecDepth 100000 in
set_option maxHeartbeats 4000000 in
theorem kX10_item (G : GG) (l : Launch) (w : WM) (o aR aG aS aF aN aC : Nat) (cur : Option Nat) (ln rc ft sp sd lf : Int32) (hO : w o = some (.inr (11, [.ref aR, .ref aG, .ref aS, .ref aF, .ref aN, .ref aC, va_rf cur, .int ln, .int rc, .int ft, .int sp, .int sd, .int lf]))) (R : Nat → Option Nat) (hR : w aR = some (rA (gA G 4) 8 R)) (iS : Nat → Int32) (iV iN : Nat → Nat) (iF : Nat → Nat → Int32) (hI : ∀ k a, k < 8 → R k = some a → isIt G w iS iV iN iF a) (hL : ∀ a, iN a ≤ 40) (r sort k : Int32) : MC G l yX10_item cX10_item 5 ((Option.some .long)) ({ frames := 3, cells := 0, slots := 0, locals := 67 } : Room) [.ref o, .int r, .int sort, .int k] w (fun v w' => v = some (.long (rw_item iS iN iF R r sort k)) ∧ w' = oUp w o aR aG aS aF aN aC cur ln rc ft sp sd (rw_ref iS iN R r sort k).2) := by
  refine mc_long (by decide) (Nat.le_of_ble_eq_true rfl) rfl rfl ?_
  intro p e s m args below meth c A H0 Q X hnm RTN
  have X : Cx G p s m args meth c A H0 cX10_item 5 RX10 := X
  refine aw_aload_n X dX10_item_0 rfl rfl ?_
  refine aw_iload_n X dX10_item_1 rfl rfl ?_
  refine aw_iload_n X dX10_item_2 rfl rfl ?_
  refine aw_iload_n X dX10_item_3 rfl rfl ?_
  refine aw_callV X (kX10_refusalOfNumberAt _ _ _ _ _ _ _ _ _ _ _ _ _ _ _ _ _ hO _ hR _ _ _ _ hI _ _ _) okm_X10_refusalOfNumberAt okX10 hO ml_X10_61 im_X10_refusalOfNumberAt se_X10_X10_refusalOfNumberAt rfl rfl (Nat.le_of_ble_eq_true rfl) ⟨Nat.le_of_ble_eq_true rfl, Nat.le_of_ble_eq_true rfl, Nat.le_of_ble_eq_true rfl, Nat.le_of_ble_eq_true rfl⟩ dX10_item_4 (fun v w2 hp => ?_)
  obtain ⟨rfl, hwx⟩ := hp
  refine aw_istore (lv' := [(4, _), (0, _), (1, _), (2, _), (3, _)]) X dX10_item_7 (by decide) rfl ?_
  refine aw_iload X dX10_item_9 rfl ?_
  refine aw_if_eq (tgt := 22) X dX10_item_11 rfl (fun c11 => ?_) (fun c11 => ?_)
  · obtain ⟨hb7, hs12, ⟨a9, ha9, hf9⟩, hn9⟩ := rref_ok c11
    have hw0 : w2 = w := by rw [hwx, hn9]; rfl
    subst hw0
    have hI9 := hI _ a9 (cl_lt hb7 (by decide) (by decide)) ha9
    refine aw_aload_n X dX10_item_22 rfl rfl ?_
    refine aw_get X okX10 (k := 0) hO (Nat.le_of_ble_eq_true rfl) fl_X10_13 (Or.inl rfl) rfl dX10_item_23 ?_
    refine aw_iload_n X dX10_item_26 rfl rfl ?_
    refine aw_aald X 4 hR rfl (bt_vp hb7 (by decide) (by decide)) dX10_item_27 ?_
    rw [ha9]
    refine aw_get X okX2 (k := 1) hI9.1 (Nat.le_of_ble_eq_true rfl) fl_X10_65 (Or.inl rfl) rfl dX10_item_28 ?_
    refine aw_iload_n X dX10_item_31 rfl rfl ?_
    refine aw_iald X hI9.2 (has_vp (show iN a9 < 2 ^ 31 by have := hL a9; omega) (fault_has hf9).2) dX10_item_32 ?_
    refine aw_i2l X dX10_item_33 ?_
    refine RTN (some (.long _)) _ _ _ _ _ dX10_item_34 (⟨_, rfl⟩) (Nat.le_of_ble_eq_true rfl) (Nat.le_of_ble_eq_true rfl) ?_
    exact ⟨by simp only [rw_item, c11, if_true, ha9, Option.getD_some], by rw [hn9]; rfl⟩
  · refine aw_ldc2 X kl_X10_69 dX10_item_14 ?_
    refine aw_iload X dX10_item_17 rfl ?_
    refine aw_i2l X dX10_item_19 ?_
    refine aw_lsub X dX10_item_20 ?_
    refine RTN (some (.long _)) _ _ _ _ _ dX10_item_21 (⟨_, rfl⟩) (Nat.le_of_ble_eq_true rfl) (Nat.le_of_ble_eq_true rfl) ?_
    exact ⟨by simp only [rw_item, c11, if_false], hwx⟩
set_option maxRecDepth 100000 in
set_option maxHeartbeats 4000000 in
theorem kX10_set (G : GG) (l : Launch) (w : WM) (o aR aG aS aF aN aC : Nat) (cur : Option Nat) (ln rc ft sp sd lf : Int32) (hO : w o = some (.inr (11, [.ref aR, .ref aG, .ref aS, .ref aF, .ref aN, .ref aC, va_rf cur, .int ln, .int rc, .int ft, .int sp, .int sd, .int lf]))) (R : Nat → Option Nat) (hR : w aR = some (rA (gA G 4) 8 R)) (iS : Nat → Int32) (iV iN : Nat → Nat) (iF : Nat → Nat → Int32) (hI : ∀ k a, k < 8 → R k = some a → isIt G w iS iV iN iF a) (hL : ∀ a, iN a ≤ 40) (r sort k x : Int32) : MC G l yX10_set cX10_set 6 ((Option.some .int)) ({ frames := 3, cells := 0, slots := 0, locals := 67 } : Room) [.ref o, .int r, .int sort, .int k, .int x] w (fun v w' => (¬ (rw_ref iS iN R r sort k).1 = 0 → v = some (.int (rw_ref iS iN R r sort k).1) ∧ w' = oUp w o aR aG aS aF aN aC cur ln rc ft sp sd (rw_ref iS iN R r sort k).2) ∧ ((rw_ref iS iN R r sort k).1 = 0 → ∃ a, R r.toNatClampNeg = some a ∧ v = some (.int 1) ∧ w' = wm_up w (iV a) (.inl (gA G 0, iN a, .inl (upd (iF a) k.toNatClampNeg (if sort = 1 then x.toInt8.toInt32 else x)))))) := by
  refine mc_int (by decide) (Nat.le_of_ble_eq_true rfl) rfl rfl ?_
  intro p e s m args below meth c A H0 Q X hnm RTN
  have X : Cx G p s m args meth c A H0 cX10_set 6 RX10 := X
  refine aw_aload_n X dX10_set_0 rfl rfl ?_
  refine aw_iload_n X dX10_set_1 rfl rfl ?_
  refine aw_iload_n X dX10_set_2 rfl rfl ?_
  refine aw_iload_n X dX10_set_3 rfl rfl ?_
  refine aw_callV X (kX10_refusalOfNumberAt _ _ _ _ _ _ _ _ _ _ _ _ _ _ _ _ _ hO _ hR _ _ _ _ hI _ _ _) okm_X10_refusalOfNumberAt okX10 hO ml_X10_61 im_X10_refusalOfNumberAt se_X10_X10_refusalOfNumberAt rfl rfl (Nat.le_of_ble_eq_true rfl) ⟨Nat.le_of_ble_eq_true rfl, Nat.le_of_ble_eq_true rfl, Nat.le_of_ble_eq_true rfl, Nat.le_of_ble_eq_true rfl⟩ dX10_set_4 (fun v w2 hp => ?_)
  obtain ⟨rfl, hwx⟩ := hp
  refine aw_istore (lv' := [(5, _), (0, _), (1, _), (2, _), (3, _), (4, _)]) X dX10_set_7 (by decide) rfl ?_
  refine aw_iload X dX10_set_9 rfl ?_
  refine aw_if_eq (tgt := 17) X dX10_set_11 rfl (fun c11 => ?_) (fun c11 => ?_)
  · obtain ⟨hb7, hs12, ⟨a9, ha9, hf9⟩, hn9⟩ := rref_ok c11
    have hw0 : w2 = w := by rw [hwx, hn9]; rfl
    subst hw0
    have hI9 := hI _ a9 (cl_lt hb7 (by decide) (by decide)) ha9
    refine aw_aload_n X dX10_set_17 rfl rfl ?_
    refine aw_get X okX10 (k := 0) hO (Nat.le_of_ble_eq_true rfl) fl_X10_13 (Or.inl rfl) rfl dX10_set_18 ?_
    refine aw_iload_n X dX10_set_21 rfl rfl ?_
    refine aw_aald X 4 hR rfl (bt_vp hb7 (by decide) (by decide)) dX10_set_22 ?_
    rw [ha9]
    refine aw_get X okX2 (k := 1) hI9.1 (Nat.le_of_ble_eq_true rfl) fl_X10_65 (Or.inl rfl) rfl dX10_set_23 ?_
    refine aw_iload_n X dX10_set_26 rfl rfl ?_
    refine aw_iload_n X dX10_set_27 rfl rfl ?_
    refine aw_iconst X dX10_set_28 ci_1 ?_
    refine aw_icmp_ne (tgt := 38) X dX10_set_29 rfl (fun c29 => ?_) (fun c29 => ?_)
    · refine aw_iload X dX10_set_38 rfl ?_
      refine aw_iast2 X hI9.2 (has_vp (show iN a9 < 2 ^ 31 by have := hL a9; omega) (fault_has hf9).2) dX10_set_40 (fun w27 hk28 hn29 he30 => ?_)
      refine aw_iconst X dX10_set_41 ci_1 ?_
      refine RTN (some (.int _)) _ _ _ _ _ dX10_set_42 (⟨_, rfl⟩) (Nat.le_of_ble_eq_true rfl) (Nat.le_of_ble_eq_true rfl) ?_
      exact ⟨fun h => absurd c11 h, fun _ => ⟨a9, ha9, rfl, by rw [he30]; simp only [c29, if_true, if_false]⟩⟩
    · refine aw_iload X dX10_set_32 rfl ?_
      refine aw_i2b X dX10_set_34 ?_
      refine aw_goto (tgt := 40) X dX10_set_35 rfl ?_
      refine aw_iast2 X hI9.2 (has_vp (show iN a9 < 2 ^ 31 by have := hL a9; omega) (fault_has hf9).2) dX10_set_40 (fun w31 hk32 hn33 he34 => ?_)
      refine aw_iconst X dX10_set_41 ci_1 ?_
      refine RTN (some (.int _)) _ _ _ _ _ dX10_set_42 (⟨_, rfl⟩) (Nat.le_of_ble_eq_true rfl) (Nat.le_of_ble_eq_true rfl) ?_
      exact ⟨fun h => absurd c11 h, fun _ => ⟨a9, ha9, rfl, by rw [he34]; simp only [(eq_true c29), if_true, if_false]⟩⟩
  · refine aw_iload X dX10_set_14 rfl ?_
    refine RTN (some (.int _)) _ _ _ _ _ dX10_set_16 (⟨_, rfl⟩) (Nat.le_of_ble_eq_true rfl) (Nat.le_of_ble_eq_true rfl) ?_
    exact ⟨fun _ => ⟨rfl, hwx⟩, fun h => absurd h c11⟩
theorem bt_no {x : Int32} {lo hi : Int} {P : Prop} (h : ¬ bt x lo hi = true) : ¬ (bt x lo hi = true ∧ P) := fun z => h z.1
set_option maxRecDepth 100000 in
set_option maxHeartbeats 4000000 in
theorem kX10_lend (G : GG) (l : Launch) (w : WM) (o aR aG aS aF aN aC : Nat) (cur : Option Nat) (ln rc ft sp sd lf : Int32) (hO : w o = some (.inr (11, [.ref aR, .ref aG, .ref aS, .ref aF, .ref aN, .ref aC, va_rf cur, .int ln, .int rc, .int ft, .int sp, .int sd, .int lf]))) (R : Nat → Option Nat) (hR : w aR = some (rA (gA G 4) 8 R)) (iS : Nat → Int32) (iV iN : Nat → Nat) (iF : Nat → Nat → Int32) (hI : ∀ k a, k < 8 → R k = some a → isIt G w iS iV iN iF a) (r f : Int32) : MC G l yX10_lend cX10_lend 3 ((Option.some .int)) ({ frames := 2, cells := 0, slots := 0, locals := 42 } : Room) [.ref o, .int r, .int f] w (fun v w' => (¬ (bt r 0 7 = true ∧ bt f 0 7 = true) → v = some (.int (-2)) ∧ w' = w) ∧ (bt r 0 7 = true ∧ bt f 0 7 = true → v = some (.int 1) ∧ w' = wm_up w aR (rA (gA G 4) 8 (va_up R r.toNatClampNeg (R f.toNatClampNeg))))) := by
  refine mc_int (by decide) (Nat.le_of_ble_eq_true rfl) rfl rfl ?_
  intro p e s m args below meth c A H0 Q X hnm RTN
  have X : Cx G p s m args meth c A H0 cX10_lend 3 RX10 := X
  refine aw_iload_n X dX10_lend_0 rfl rfl ?_
  refine aw_callS X (kX10_isRow _ _ _ _) okm_X10_isRow ml_X10_46 st_X10_isRow rfl rfl (Nat.le_of_ble_eq_true rfl) ⟨Nat.le_of_ble_eq_true rfl, Nat.le_of_ble_eq_true rfl, Nat.le_of_ble_eq_true rfl, Nat.le_of_ble_eq_true rfl⟩ dX10_lend_1 (fun v w2 hp => ?_)
  obtain ⟨rfl, rfl⟩ := hp
  refine aw_if_eq (tgt := 14) X dX10_lend_4 rfl (fun c4 => ?_) (fun c4 => ?_)
  · rw [bI_0] at c4
    refine aw_bipush X dX10_lend_14 cb_m2 ?_
    refine RTN (some (.int _)) _ _ _ _ _ dX10_lend_16 (⟨_, rfl⟩) (Nat.le_of_ble_eq_true rfl) (Nat.le_of_ble_eq_true rfl) ?_
    exact ⟨fun _ => ⟨rfl, rfl⟩, fun h => absurd h.1 c4⟩
  · rw [bI_n0] at c4
    refine aw_iload_n X dX10_lend_7 rfl rfl ?_
    refine aw_callS X (kX10_isRow _ _ _ _) okm_X10_isRow ml_X10_46 st_X10_isRow rfl rfl (Nat.le_of_ble_eq_true rfl) ⟨Nat.le_of_ble_eq_true rfl, Nat.le_of_ble_eq_true rfl, Nat.le_of_ble_eq_true rfl, Nat.le_of_ble_eq_true rfl⟩ dX10_lend_8 (fun v w2 hp => ?_)
    obtain ⟨rfl, rfl⟩ := hp
    refine aw_if_ne (tgt := 17) X dX10_lend_11 rfl (fun c11 => ?_) (fun c11 => ?_)
    · rw [bI_n0] at c11
      refine aw_aload_n X dX10_lend_17 rfl rfl ?_
      refine aw_get X okX10 (k := 0) hO (Nat.le_of_ble_eq_true rfl) fl_X10_13 (Or.inl rfl) rfl dX10_lend_18 ?_
      refine aw_iload_n X dX10_lend_21 rfl rfl ?_
      refine aw_aload_n X dX10_lend_22 rfl rfl ?_
      refine aw_get X okX10 (k := 0) hO (Nat.le_of_ble_eq_true rfl) fl_X10_13 (Or.inl rfl) rfl dX10_lend_23 ?_
      refine aw_iload_n X dX10_lend_26 rfl rfl ?_
      refine aw_aald X 4 hR rfl (bt_vp c11 (by decide) (by decide)) dX10_lend_27 ?_
      rcases hr35 : R f.toNatClampNeg with _ | a36
      · refine aw_aastN2 X 4 hR rfl (bt_vp c4 (by decide) (by decide)) dX10_lend_28 (fun w37 hk38 hn39 he40 => ?_)
        have hk41 := (hn39 _ (ne_oa hO hR)).trans hO
        refine aw_iconst X dX10_lend_29 ci_1 ?_
        refine RTN (some (.int _)) _ _ _ _ _ dX10_lend_30 (⟨_, rfl⟩) (Nat.le_of_ble_eq_true rfl) (Nat.le_of_ble_eq_true rfl) ?_
        exact ⟨fun h => absurd ⟨c4, c11⟩ h, fun _ => ⟨rfl, by rw [he40, hr35]⟩⟩
      · have hk42 := hI _ a36 (cl_lt c11 (by decide) (by decide)) hr35
        refine aw_aast2 X 4 okX2 hR rfl hk42.1 (bt_vp c4 (by decide) (by decide)) dX10_lend_28 (fun w43 hk44 hn45 he46 => ?_)
        have hk47 := (hn45 _ (ne_oa hO hR)).trans hO
        have hk48 := (hn45 _ (ne_oa hk42.1 hR)).trans hk42.1
        have hk49 := (hn45 _ (ne_ar hk42.2 hR)).trans hk42.2
        refine aw_iconst X dX10_lend_29 ci_1 ?_
        refine RTN (some (.int _)) _ _ _ _ _ dX10_lend_30 (⟨_, rfl⟩) (Nat.le_of_ble_eq_true rfl) (Nat.le_of_ble_eq_true rfl) ?_
        exact ⟨fun h => absurd ⟨c4, c11⟩ h, fun _ => ⟨rfl, by rw [he46, hr35]⟩⟩
    · rw [bI_0] at c11
      refine aw_bipush X dX10_lend_14 cb_m2 ?_
      refine RTN (some (.int _)) _ _ _ _ _ dX10_lend_16 (⟨_, rfl⟩) (Nat.le_of_ble_eq_true rfl) (Nat.le_of_ble_eq_true rfl) ?_
      exact ⟨fun _ => ⟨rfl, rfl⟩, fun h => absurd h.2 c11⟩
