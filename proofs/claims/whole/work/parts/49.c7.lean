/-! references in rows -/
def ms_ (rc : Int32) (fT : Nat → Int32) (so ref : Int32) : Int32 := if so = 4 then (if bt ref 0 (rc - 1).toInt then fT ref.toNatClampNeg else 1) else 1
theorem rc_bt {rc r : Int32} (h : bt rc 0 20) (hr : bt r 0 (rc - 1).toInt) : bt r 0 19 ∧ (r.toNatClampNeg : Int) < rc.toInt := by
  have h1 := bt_iff.mp h
  have h2 := bt_iff.mp hr
  have h3 := ti_sub (a := rc) (b := 1) (y := 1) rfl rfl (by omega)
  have h4 := cl_toInt (x := r) (by omega)
  exact ⟨bt_iff.mpr ⟨by omega, by omega⟩, by omega⟩
def rw_held (iS : Nat → Int32) (iN : Nat → Nat) (iF : Nat → Nat → Int32) (R : Nat → Option Nat) (r k : Int32) : Int32 × Option Int32 :=
  if bt r 0 7 then
    if rw_fault iS iN (R r.toNatClampNeg) 3 k = 0 then
      (if iF ((R r.toNatClampNeg).getD 0) k.toNatClampNeg = -1 then ((-10) - 1, some 1) else (iF ((R r.toNatClampNeg).getD 0) k.toNatClampNeg, none))
    else ((-10) - rw_fault iS iN (R r.toNatClampNeg) 3 k, some (rw_fault iS iN (R r.toNatClampNeg) 3 k))
  else (-2, none)
set_option maxRecDepth 100000 in
set_option maxHeartbeats 4000000 in
theorem kX10_mayStore (G : GG) (l : Launch) (w : WM) (o aR aG aS aF aN aC : Nat) (cur : Option Nat) (ln rc ft sp sd lf : Int32) (hO : w o = some (.inr (11, [.ref aR, .ref aG, .ref aS, .ref aF, .ref aN, .ref aC, va_rf cur, .int ln, .int rc, .int ft, .int sp, .int sd, .int lf]))) (F : Nat → Option Nat) (hF : w aF = some (rA (gA G 6) 20 F)) (fA fN fS : Nat → Nat) (fU fT : Nat → Int32) (hT : ∀ k, fT k = 0 ∨ fT k = 1) (hrc : bt rc 0 20) (hfr : ∀ k : Nat, (k : Int) < rc.toInt → F k = some (fA k) ∧ w (fA k) = some (.inr (8, [.int (fU k), .ref (fN k), .int (fT k), .ref (fS k)]))) (io va n : Nat) (so : Int32) (f : Nat → Int32) (hO2 : w io = some (.inr (4, [.int so, .ref va]))) (ref : Int32) : MC G l yX10_mayStore cX10_mayStore 3 ((Option.some .boolean)) ({ frames := 2, cells := 0, slots := 0, locals := 43 } : Room) [.ref o, .ref io, .int ref] w (fun v w' => v = some (.int (ms_ rc fT so ref)) ∧ w' = w) := by
  refine mc_bool (by decide) (Nat.le_of_ble_eq_true rfl) rfl rfl ?_
  intro p e s m args below meth c A H0 Q X hnm RTN
  have X : Cx G p s m args meth c A H0 cX10_mayStore 3 RX10 := X
  refine aw_aload_n X dX10_mayStore_0 rfl rfl ?_
  refine aw_get X okX2 (k := 0) hO2 (Nat.le_of_ble_eq_true rfl) fl_X10_106 (Or.inl rfl) rfl dX10_mayStore_1 ?_
  refine aw_iconst X dX10_mayStore_4 ci_4 ?_
  refine aw_icmp_ne (tgt := 16) X dX10_mayStore_5 rfl (fun c5 => ?_) (fun c5 => ?_)
  · refine aw_iconst X dX10_mayStore_16 ci_1 ?_
    refine RTN (some (.int _)) _ _ _ _ _ dX10_mayStore_17 (by first | exact Or.inl rfl | exact Or.inr rfl) (Nat.le_of_ble_eq_true rfl) (Nat.le_of_ble_eq_true rfl) ?_
    first | (constructor <;> ((try simp only [ms_, c5, if_true, if_false, not_true_eq_false, not_false_eq_true, and_self, true_and, and_true, false_and, and_false, or_true, true_or, or_false, false_or, reduceCtorEq, ne_eq, va_us, pk_us]); (try with_reducible rfl); done)) | (clear RTN X; constructor <;> ((try simp_all only [ms_, if_true, if_false, not_true_eq_false, not_false_eq_true, and_self, true_and, and_true, false_and, and_false, or_true, true_or, or_false, false_or, reduceCtorEq, ne_eq, va_us, pk_us]); (try with_reducible rfl); done)) | (constructor <;> ((try simp only [ms_, c5, if_true, if_false, not_true_eq_false, not_false_eq_true, and_self, true_and, and_true, false_and, and_false, or_true, true_or, or_false, false_or, reduceCtorEq, ne_eq, va_us, pk_us]); (try rfl); done))
  · refine aw_aload_n X dX10_mayStore_8 rfl rfl ?_
    refine aw_iload_n X dX10_mayStore_9 rfl rfl ?_
    refine aw_callV X (kX10_isReference _ _ _ _ _ _ _ _ _ _ _ _ _ _ _ _ _ hO _) okm_X10_isReference okX10 hO ml_X10_71 im_X10_isReference se_X10_X10_isReference rfl rfl (Nat.le_of_ble_eq_true rfl) ⟨Nat.le_of_ble_eq_true rfl, Nat.le_of_ble_eq_true rfl, Nat.le_of_ble_eq_true rfl, Nat.le_of_ble_eq_true rfl⟩ dX10_mayStore_10 (fun v w2 hp => ?_)
    obtain ⟨rfl, rfl⟩ := hp
    refine aw_if_ne (tgt := 18) X dX10_mayStore_13 rfl (fun c13 => ?_) (fun c13 => ?_)
    · rw [bI_n0] at c13
      refine aw_aload_n X dX10_mayStore_18 rfl rfl ?_
      refine aw_get X okX10 (k := 3) hO (Nat.le_of_ble_eq_true rfl) fl_X10_28 (Or.inl rfl) rfl dX10_mayStore_19 ?_
      refine aw_iload_n X dX10_mayStore_22 rfl rfl ?_
      refine aw_aald X 6 hF rfl (bt_vp (rc_bt hrc c13).1 (by decide) (by decide)) dX10_mayStore_23 ?_
      rw [(hfr _ (rc_bt hrc c13).2).1]
      refine aw_get X okX6 (k := 2) (hfr _ (rc_bt hrc c13).2).2 (Nat.le_of_ble_eq_true rfl) fl_X10_110 (Or.inl rfl) rfl dX10_mayStore_24 ?_
      refine RTN (some (.int _)) _ _ _ _ _ dX10_mayStore_27 (by rcases hT ref.toNatClampNeg with h | h <;> rw [h]; exact Or.inl rfl; exact Or.inr rfl) (Nat.le_of_ble_eq_true rfl) (Nat.le_of_ble_eq_true rfl) ?_
      first | (constructor <;> ((try simp only [ms_, (eq_true c5), c13, if_true, if_false, not_true_eq_false, not_false_eq_true, and_self, true_and, and_true, false_and, and_false, or_true, true_or, or_false, false_or, reduceCtorEq, ne_eq, va_us, pk_us]); (try with_reducible rfl); done)) | (clear RTN X; constructor <;> ((try simp_all only [ms_, if_true, if_false, not_true_eq_false, not_false_eq_true, and_self, true_and, and_true, false_and, and_false, or_true, true_or, or_false, false_or, reduceCtorEq, ne_eq, va_us, pk_us]); (try with_reducible rfl); done)) | (constructor <;> ((try simp only [ms_, (eq_true c5), c13, if_true, if_false, not_true_eq_false, not_false_eq_true, and_self, true_and, and_true, false_and, and_false, or_true, true_or, or_false, false_or, reduceCtorEq, ne_eq, va_us, pk_us]); (try rfl); done))
    · rw [bI_0] at c13
      refine aw_iconst X dX10_mayStore_16 ci_1 ?_
      refine RTN (some (.int _)) _ _ _ _ _ dX10_mayStore_17 (by first | exact Or.inl rfl | exact Or.inr rfl) (Nat.le_of_ble_eq_true rfl) (Nat.le_of_ble_eq_true rfl) ?_
      first | (constructor <;> ((try simp only [ms_, (eq_true c5), c13, if_true, if_false, not_true_eq_false, not_false_eq_true, and_self, true_and, and_true, false_and, and_false, or_true, true_or, or_false, false_or, reduceCtorEq, ne_eq, va_us, pk_us]); (try with_reducible rfl); done)) | (clear RTN X; constructor <;> ((try simp_all only [ms_, if_true, if_false, not_true_eq_false, not_false_eq_true, and_self, true_and, and_true, false_and, and_false, or_true, true_or, or_false, false_or, reduceCtorEq, ne_eq, va_us, pk_us]); (try with_reducible rfl); done)) | (constructor <;> ((try simp only [ms_, (eq_true c5), c13, if_true, if_false, not_true_eq_false, not_false_eq_true, and_self, true_and, and_true, false_and, and_false, or_true, true_or, or_false, false_or, reduceCtorEq, ne_eq, va_us, pk_us]); (try rfl); done))
set_option maxRecDepth 100000 in
set_option maxHeartbeats 4000000 in
theorem kX10_held (G : GG) (l : Launch) (w : WM) (o aR aG aS aF aN aC : Nat) (cur : Option Nat) (ln rc ft sp sd lf : Int32) (hO : w o = some (.inr (11, [.ref aR, .ref aG, .ref aS, .ref aF, .ref aN, .ref aC, va_rf cur, .int ln, .int rc, .int ft, .int sp, .int sd, .int lf]))) (R : Nat → Option Nat) (hR : w aR = some (rA (gA G 4) 8 R)) (iS : Nat → Int32) (iV iN : Nat → Nat) (iF : Nat → Nat → Int32) (hI : ∀ k a, k < 8 → R k = some a → isIt G w iS iV iN iF a) (hL : ∀ a, iN a ≤ 40) (r k : Int32) : MC G l yX10_held cX10_held 6 ((Option.some .int)) ({ frames := 2, cells := 0, slots := 0, locals := 43 } : Room) [.ref o, .int r, .int k] w (fun v w' => v = some (.int (rw_held iS iN iF R r k).1) ∧ w' = oUp w o aR aG aS aF aN aC cur ln rc ft sp sd (rw_held iS iN iF R r k).2) := by
  refine mc_int (by decide) (Nat.le_of_ble_eq_true rfl) rfl rfl ?_
  intro p e s m args below meth c A H0 Q X hnm RTN
  have X : Cx G p s m args meth c A H0 cX10_held 6 RX10 := X
  refine aw_iload_n X dX10_held_0 rfl rfl ?_
  refine aw_callS X (kX10_isRow _ _ _ _) okm_X10_isRow ml_X10_46 st_X10_isRow rfl rfl (Nat.le_of_ble_eq_true rfl) ⟨Nat.le_of_ble_eq_true rfl, Nat.le_of_ble_eq_true rfl, Nat.le_of_ble_eq_true rfl, Nat.le_of_ble_eq_true rfl⟩ dX10_held_1 (fun v w2 hp => ?_)
  obtain ⟨rfl, rfl⟩ := hp
  refine aw_if_ne (tgt := 10) X dX10_held_4 rfl (fun c4 => ?_) (fun c4 => ?_)
  · rw [bI_n0] at c4
    refine aw_aload_n X dX10_held_10 rfl rfl ?_
    refine aw_get X okX10 (k := 0) hO (Nat.le_of_ble_eq_true rfl) fl_X10_13 (Or.inl rfl) rfl dX10_held_11 ?_
    refine aw_iload_n X dX10_held_14 rfl rfl ?_
    refine aw_aald X 4 hR rfl (bt_vp c4 (by decide) (by decide)) dX10_held_15 ?_
    rcases hr1 : R r.toNatClampNeg with _ | a2
    · refine aw_astore_nN (lv' := [(3, _), (0, _), (1, _), (2, _)]) X dX10_held_16 rfl (by decide) rfl ?_
      refine aw_aload_nN X dX10_held_17 rfl rfl ?_
      refine aw_iconst X dX10_held_18 ci_3 ?_
      refine aw_iload_n X dX10_held_19 rfl rfl ?_
      refine aw_callS X (kX10_faultAt0 _ _ _ _ _) okm_X10_faultAt ml_X10_74 st_X10_faultAt rfl rfl (Nat.le_of_ble_eq_true rfl) ⟨Nat.le_of_ble_eq_true rfl, Nat.le_of_ble_eq_true rfl, Nat.le_of_ble_eq_true rfl, Nat.le_of_ble_eq_true rfl⟩ dX10_held_20 (fun v w2 hp => ?_)
      obtain ⟨rfl, rfl⟩ := hp
      refine aw_istore (lv' := [(4, _), (3, _), (0, _), (1, _), (2, _)]) X dX10_held_23 (by decide) rfl ?_
      refine aw_iload X dX10_held_25 rfl ?_
      refine aw_if_eq (tgt := 37) X dX10_held_27 rfl (fun c27 => ?_) (fun c27 => ?_)
      · exact absurd c27 (by decide)
      · refine aw_aload_n X dX10_held_30 rfl rfl ?_
        refine aw_iload X dX10_held_31 rfl ?_
        refine aw_callV X (kX10_faulted _ _ _ _ _ _ _ _ _ _ _ _ _ _ _ _ _ hO _) okm_X10_faulted okX10 hO ml_X10_54 im_X10_faulted se_X10_X10_faulted rfl rfl (Nat.le_of_ble_eq_true rfl) ⟨Nat.le_of_ble_eq_true rfl, Nat.le_of_ble_eq_true rfl, Nat.le_of_ble_eq_true rfl, Nat.le_of_ble_eq_true rfl⟩ dX10_held_33 (fun v w2 hp => ?_)
        obtain ⟨rfl, hw3⟩ := hp
        have hk4 := (congrFun hw3 o).trans wm_ups
        have hk5 := ((congrFun hw3 aR).trans (wm_upn (Ne.symm (ne_oa hO hR)))).trans hR
        refine RTN (some (.int _)) _ _ _ _ _ dX10_held_36 (⟨_, rfl⟩) (Nat.le_of_ble_eq_true rfl) (Nat.le_of_ble_eq_true rfl) ?_
        refine ⟨by simp only [rw_held, rw_fault, i1n0, Option.getD_some, c4, hr1, if_true, if_false, not_true_eq_false, not_false_eq_true, and_self, true_and, and_true, false_and, and_false, or_true, true_or, or_false, false_or, reduceCtorEq, ne_eq, va_us, pk_us], ?_⟩
        rw [hw3]
        simp only [rw_held, rw_fault, i1n0, Option.getD_some, c4, hr1, if_true, if_false, not_true_eq_false, not_false_eq_true, and_self, true_and, and_true, false_and, and_false, or_true, true_or, or_false, false_or, reduceCtorEq, ne_eq, va_us, pk_us, oUp]
    · have hk6 := hI _ a2 (cl_lt c4 (by decide) (by decide)) hr1
      refine aw_astore_n (lv' := [(3, _), (0, _), (1, _), (2, _)]) X dX10_held_16 rfl (by decide) rfl ?_
      refine aw_aload_n X dX10_held_17 rfl rfl ?_
      refine aw_iconst X dX10_held_18 ci_3 ?_
      refine aw_iload_n X dX10_held_19 rfl rfl ?_
      refine aw_callS X (kX10_faultAt _ _ _ _ _ _ _ _ hk6.1 hk6.2 _ _) okm_X10_faultAt ml_X10_74 st_X10_faultAt rfl rfl (Nat.le_of_ble_eq_true rfl) ⟨Nat.le_of_ble_eq_true rfl, Nat.le_of_ble_eq_true rfl, Nat.le_of_ble_eq_true rfl, Nat.le_of_ble_eq_true rfl⟩ dX10_held_20 (fun v w2 hp => ?_)
      obtain ⟨rfl, rfl⟩ := hp
      refine aw_istore (lv' := [(4, _), (3, _), (0, _), (1, _), (2, _)]) X dX10_held_23 (by decide) rfl ?_
      refine aw_iload X dX10_held_25 rfl ?_
      refine aw_if_eq (tgt := 37) X dX10_held_27 rfl (fun c27 => ?_) (fun c27 => ?_)
      · refine aw_aload_n X dX10_held_37 rfl rfl ?_
        refine aw_get X okX2 (k := 1) hk6.1 (Nat.le_of_ble_eq_true rfl) fl_X10_65 (Or.inl rfl) rfl dX10_held_38 ?_
        refine aw_iload_n X dX10_held_41 rfl rfl ?_
        refine aw_iald X hk6.2 (has_vp (show iN a2 < 2 ^ 31 by have := hL a2; omega) (fault_has c27).2) dX10_held_42 ?_
        refine aw_istore (lv' := [(5, _), (4, _), (3, _), (0, _), (1, _), (2, _)]) X dX10_held_43 (by decide) rfl ?_
        refine aw_iload X dX10_held_45 rfl ?_
        refine aw_iconst X dX10_held_47 ci_m1 ?_
        refine aw_icmp_ne (tgt := 59) X dX10_held_48 rfl (fun c48 => ?_) (fun c48 => ?_)
        · refine aw_iload X dX10_held_59 rfl ?_
          refine RTN (some (.int _)) _ _ _ _ _ dX10_held_61 (⟨_, rfl⟩) (Nat.le_of_ble_eq_true rfl) (Nat.le_of_ble_eq_true rfl) ?_
          constructor <;> simp only [rw_held, rw_fault, i1n0, Option.getD_some, c4, hr1, (eq_true c27), c48, if_true, if_false, not_true_eq_false, not_false_eq_true, and_self, true_and, and_true, false_and, and_false, or_true, true_or, or_false, false_or, reduceCtorEq, ne_eq, va_us, pk_us, oUp]
        · refine aw_aload_n X dX10_held_51 rfl rfl ?_
          refine aw_iconst X dX10_held_52 ci_1 ?_
          refine aw_callV X (kX10_faulted _ _ _ _ _ _ _ _ _ _ _ _ _ _ _ _ _ hO _) okm_X10_faulted okX10 hO ml_X10_54 im_X10_faulted se_X10_X10_faulted rfl rfl (Nat.le_of_ble_eq_true rfl) ⟨Nat.le_of_ble_eq_true rfl, Nat.le_of_ble_eq_true rfl, Nat.le_of_ble_eq_true rfl, Nat.le_of_ble_eq_true rfl⟩ dX10_held_53 (fun v w2 hp => ?_)
          obtain ⟨rfl, hw7⟩ := hp
          have hk8 := (congrFun hw7 o).trans wm_ups
          have hk9 := ((congrFun hw7 aR).trans (wm_upn (Ne.symm (ne_oa hO hR)))).trans hR
          have hk10 := ((congrFun hw7 a2).trans (wm_upn (ne_ci hk6.1 hO (by decide)))).trans hk6.1
          have hk11 := ((congrFun hw7 (iV a2)).trans (wm_upn (Ne.symm (ne_oa hO hk6.2)))).trans hk6.2
          refine aw_goto (tgt := 61) X dX10_held_56 rfl ?_
          refine RTN (some (.int _)) _ _ _ _ _ dX10_held_61 (⟨_, rfl⟩) (Nat.le_of_ble_eq_true rfl) (Nat.le_of_ble_eq_true rfl) ?_
          refine ⟨by simp only [rw_held, rw_fault, i1n0, Option.getD_some, c4, hr1, (eq_true c27), (eq_true c48), if_true, if_false, not_true_eq_false, not_false_eq_true, and_self, true_and, and_true, false_and, and_false, or_true, true_or, or_false, false_or, reduceCtorEq, ne_eq, va_us, pk_us], ?_⟩
          rw [hw7]
          simp only [rw_held, rw_fault, i1n0, Option.getD_some, c4, hr1, (eq_true c27), (eq_true c48), if_true, if_false, not_true_eq_false, not_false_eq_true, and_self, true_and, and_true, false_and, and_false, or_true, true_or, or_false, false_or, reduceCtorEq, ne_eq, va_us, pk_us, oUp]
      · refine aw_aload_n X dX10_held_30 rfl rfl ?_
        refine aw_iload X dX10_held_31 rfl ?_
        refine aw_callV X (kX10_faulted _ _ _ _ _ _ _ _ _ _ _ _ _ _ _ _ _ hO _) okm_X10_faulted okX10 hO ml_X10_54 im_X10_faulted se_X10_X10_faulted rfl rfl (Nat.le_of_ble_eq_true rfl) ⟨Nat.le_of_ble_eq_true rfl, Nat.le_of_ble_eq_true rfl, Nat.le_of_ble_eq_true rfl, Nat.le_of_ble_eq_true rfl⟩ dX10_held_33 (fun v w2 hp => ?_)
        obtain ⟨rfl, hw12⟩ := hp
        have hk13 := (congrFun hw12 o).trans wm_ups
        have hk14 := ((congrFun hw12 aR).trans (wm_upn (Ne.symm (ne_oa hO hR)))).trans hR
        have hk15 := ((congrFun hw12 a2).trans (wm_upn (ne_ci hk6.1 hO (by decide)))).trans hk6.1
        have hk16 := ((congrFun hw12 (iV a2)).trans (wm_upn (Ne.symm (ne_oa hO hk6.2)))).trans hk6.2
        refine RTN (some (.int _)) _ _ _ _ _ dX10_held_36 (⟨_, rfl⟩) (Nat.le_of_ble_eq_true rfl) (Nat.le_of_ble_eq_true rfl) ?_
        refine ⟨by simp only [rw_held, rw_fault, i1n0, Option.getD_some, c4, hr1, c27, if_true, if_false, not_true_eq_false, not_false_eq_true, and_self, true_and, and_true, false_and, and_false, or_true, true_or, or_false, false_or, reduceCtorEq, ne_eq, va_us, pk_us], ?_⟩
        rw [hw12]
        simp only [rw_held, rw_fault, i1n0, Option.getD_some, c4, hr1, c27, if_true, if_false, not_true_eq_false, not_false_eq_true, and_self, true_and, and_true, false_and, and_false, or_true, true_or, or_false, false_or, reduceCtorEq, ne_eq, va_us, pk_us, oUp]
  · rw [bI_0] at c4
    refine aw_bipush X dX10_held_7 cb_m2 ?_
    refine RTN (some (.int _)) _ _ _ _ _ dX10_held_9 (⟨_, rfl⟩) (Nat.le_of_ble_eq_true rfl) (Nat.le_of_ble_eq_true rfl) ?_
    constructor <;> simp only [rw_held, rw_fault, i1n0, Option.getD_some, c4, if_true, if_false, not_true_eq_false, not_false_eq_true, and_self, true_and, and_true, false_and, and_false, or_true, true_or, or_false, false_or, reduceCtorEq, ne_eq, va_us, pk_us, oUp]
