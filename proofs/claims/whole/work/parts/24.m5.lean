def mo_month (m : Int32) : Int32 := if 10 ≤ m then m - 9 else m + 3
def mo_dm (of : Int32) : Int32 := ((5 * of) + 2) / 153
def mo_dy (e : Int32) : Int32 := (((e - (e / 1460)) + (e / 36524)) - (e / 146096)) / 365
def mo_dof (e y : Int32) : Int32 := e - (((365 * y) + (y / 4)) - (y / 100))
def mo_yr (era : Int64) (y month : Int32) : Int64 := ((400 * era) + y.toInt64) + (if 3 ≤ month then 0 else 1)
def mo_cal (days : Int64) (what : Int32) : Int32 :=
  let era := flr (days + 719468) 146097
  let e := ((days + 719468) - (146097 * era)).toInt32
  let y := mo_dy e
  let of := mo_dof e y
  let m := mo_dm of
  if what = 1 then mo_month m else if what = 2 then (of - (((153 * m) + 2) / 5)) + 1
  else (if 0 ≤ mo_yr era y (mo_month m) then mo_yr era y (mo_month m) else mo_yr era y (mo_month m) - 10).toInt32
def mo_date (M : MS) (x : Int64) (what : Int32) : Int32 × MS :=
  (if bt what 0 6 then
    if (-100000000000000) ≤ x ∧ x ≤ 100000000000000 then
      let days := flr x 86400
      let rest := (x - (86400 * days)).toInt32
      if what ≤ 3 then
        if what = 3 then (if 0 ≤ (days + 4) - (((days + 4) / 7) * 7) then (days + 4) - (((days + 4) / 7) * 7) else ((days + 4) - (((days + 4) / 7) * 7)) + 7).toInt32
        else mo_cal days what
      else if what = 4 then rest / 3600
      else if what = 5 then (rest / 60) - (((rest / 60) / 60) * 60)
      else rest - ((rest / 60) * 60)
    else -3
  else -3, (sI M 0 0))
set_option maxRecDepth 100000 in
set_option maxHeartbeats 4000000 in
theorem kX11_date (G : GG) (l : Launch) (q : Nat → Nat) (M : MS) (hq : mInj q) (x : Int64) (what : Int32) : MC G l yX11_date cX11_date 19 ((Option.some .int)) ({ frames := 1, cells := 0, slots := 0, locals := 25 } : Room) [.ref (q 0), .long x, .int what] (mw G q M) (fun v w' => v = some (.int (mo_date M x what).1) ∧ w' = mw G q (mo_date M x what).2) := by
  refine mc_int (by decide) (Nat.le_of_ble_eq_true rfl) rfl rfl ?_
  intro p e s m args below meth c A H0 Q X hnm RTN
  have X : Cx G p s m args meth c A H0 cX11_date 19 RX11 := X
  refine aw_aload_n X dX11_date_0 rfl rfl ?_
  refine aw_iconst X dX11_date_1 ci_0 ?_
  refine am_put X 0 (M' := sI _ 0 _) (Nat.le_of_ble_eq_true rfl) fl_X11_1 rfl rfl (rfl) (rfl) (mf_0 _ _ _) rfl dX11_date_2 ?_
  refine aw_iload_n X dX11_date_5 rfl rfl ?_
  refine aw_i2l X dX11_date_6 ?_
  refine aw_lconst X dX11_date_7 cl_0 ?_
  refine aw_ldc2 X kl_X11_262 dX11_date_8 ?_
  refine aw_callS X (kX11_inI _ _ _ _ _ _ 0 6 rfl rfl) okm_X11_in ml_X11_12 st_X11_in rfl rfl (Nat.le_of_ble_eq_true rfl) ⟨Nat.le_of_ble_eq_true rfl, Nat.le_of_ble_eq_true rfl, Nat.le_of_ble_eq_true rfl, Nat.le_of_ble_eq_true rfl⟩ dX11_date_11 (fun v w2 hp => ?_)
  obtain ⟨rfl, rfl⟩ := hp
  refine aw_if_eq (tgt := 30) X dX11_date_14 rfl (fun c14 => ?_) (fun c14 => ?_)
  · rw [bI_0] at c14
    refine aw_bipush X dX11_date_30 cb_m3 ?_
    refine RTN (some (.int _)) _ _ _ _ _ dX11_date_32 (⟨_, rfl⟩) (Nat.le_of_ble_eq_true rfl) (Nat.le_of_ble_eq_true rfl) ?_
    first | (constructor <;> ((try simp only [mo_date, mo_cal, mo_yr, mo_month, mo_dm, mo_dy, mo_dof, c14, if_true, if_false, not_true_eq_false, not_false_eq_true, and_self, true_and, and_true, false_and, and_false, or_true, true_or, or_false, false_or, reduceCtorEq, ne_eq, va_us, pk_us]); (try rfl); done)) | (clear RTN X; constructor <;> ((try simp_all only [mo_date, mo_cal, mo_yr, mo_month, mo_dm, mo_dy, mo_dof, if_true, if_false, not_true_eq_false, not_false_eq_true, and_self, true_and, and_true, false_and, and_false, or_true, true_or, or_false, false_or, reduceCtorEq, ne_eq, va_us, pk_us]); (try rfl); done))
  · rw [bI_n0] at c14
    refine aw_lload_n X dX11_date_17 rfl rfl ?_
    refine aw_ldc2 X kl_X11_264 dX11_date_18 ?_
    refine aw_ldc2 X kl_X11_266 dX11_date_21 ?_
    refine aw_callS X (kX11_in _ _ _ _ _ _) okm_X11_in ml_X11_12 st_X11_in rfl rfl (Nat.le_of_ble_eq_true rfl) ⟨Nat.le_of_ble_eq_true rfl, Nat.le_of_ble_eq_true rfl, Nat.le_of_ble_eq_true rfl, Nat.le_of_ble_eq_true rfl⟩ dX11_date_24 (fun v w2 hp => ?_)
    obtain ⟨rfl, rfl⟩ := hp
    refine aw_if_ne (tgt := 33) X dX11_date_27 rfl (fun c27 => ?_) (fun c27 => ?_)
    · rw [bI_n0] at c27
      refine aw_lload_n X dX11_date_33 rfl rfl ?_
      refine aw_ldc2 X kl_X11_268 dX11_date_34 ?_
      refine aw_callS X (kX11_floor _ _ _ _ _ (by decide)) okm_X11_floor ml_X11_270 st_X11_floor rfl rfl (Nat.le_of_ble_eq_true rfl) ⟨Nat.le_of_ble_eq_true rfl, Nat.le_of_ble_eq_true rfl, Nat.le_of_ble_eq_true rfl, Nat.le_of_ble_eq_true rfl⟩ dX11_date_37 (fun v w2 hp => ?_)
      obtain ⟨rfl, rfl⟩ := hp
      refine aw_lstore (lv' := [(4, _), (0, _), (1, _), (3, _)]) X dX11_date_40 (by decide) rfl ?_
      refine aw_lload_n X dX11_date_42 rfl rfl ?_
      refine aw_ldc2 X kl_X11_268 dX11_date_43 ?_
      refine aw_lload X dX11_date_46 rfl ?_
      refine aw_lmul X dX11_date_48 ?_
      refine aw_lsub X dX11_date_49 ?_
      refine aw_l2i X dX11_date_50 ?_
      refine aw_istore (lv' := [(6, _), (4, _), (0, _), (1, _), (3, _)]) X dX11_date_51 (by decide) rfl ?_
      refine aw_iload_n X dX11_date_53 rfl rfl ?_
      refine aw_iconst X dX11_date_54 ci_3 ?_
      refine aw_icmp_le (tgt := 94) X dX11_date_55 rfl (fun c55 => ?_) (fun c55 => ?_)
      · refine aw_iload_n X dX11_date_94 rfl rfl ?_
        refine aw_iconst X dX11_date_95 ci_3 ?_
        refine aw_icmp_ne (tgt := 131) X dX11_date_96 rfl (fun c96 => ?_) (fun c96 => ?_)
        · refine aw_lload X dX11_date_131 rfl ?_
          refine aw_ldc2 X kl_X11_274 dX11_date_133 ?_
          refine aw_ladd X dX11_date_136 ?_
          refine aw_lstore (lv' := [(7, _), (6, _), (4, _), (0, _), (1, _), (3, _)]) X dX11_date_137 (by decide) rfl ?_
          refine aw_lload X dX11_date_139 rfl ?_
          refine aw_ldc2 X kl_X11_276 dX11_date_141 ?_
          refine aw_callS X (kX11_floor _ _ _ _ _ (by decide)) okm_X11_floor ml_X11_270 st_X11_floor rfl rfl (Nat.le_of_ble_eq_true rfl) ⟨Nat.le_of_ble_eq_true rfl, Nat.le_of_ble_eq_true rfl, Nat.le_of_ble_eq_true rfl, Nat.le_of_ble_eq_true rfl⟩ dX11_date_144 (fun v w2 hp => ?_)
          obtain ⟨rfl, rfl⟩ := hp
          refine aw_lstore (lv' := [(9, _), (7, _), (6, _), (4, _), (0, _), (1, _), (3, _)]) X dX11_date_147 (by decide) rfl ?_
          refine aw_lload X dX11_date_149 rfl ?_
          refine aw_ldc2 X kl_X11_276 dX11_date_151 ?_
          refine aw_lload X dX11_date_154 rfl ?_
          refine aw_lmul X dX11_date_156 ?_
          refine aw_lsub X dX11_date_157 ?_
          refine aw_l2i X dX11_date_158 ?_
          refine aw_istore (lv' := [(11, _), (9, _), (7, _), (6, _), (4, _), (0, _), (1, _), (3, _)]) X dX11_date_159 (by decide) rfl ?_
          refine aw_iload X dX11_date_161 rfl ?_
          refine aw_iload X dX11_date_163 rfl ?_
          refine aw_sipush X dX11_date_165 cs_1460 ?_
          refine aw_idiv X dX11_date_168 (by decide) ?_
          refine aw_isub X dX11_date_169 ?_
          refine aw_iload X dX11_date_170 rfl ?_
          refine aw_ldcw X kc_X11_278 dX11_date_172 ?_
          refine aw_idiv X dX11_date_175 (by decide) ?_
          refine aw_iadd X dX11_date_176 ?_
          refine aw_iload X dX11_date_177 rfl ?_
          refine aw_ldcw X kc_X11_279 dX11_date_179 ?_
          refine aw_idiv X dX11_date_182 (by decide) ?_
          refine aw_isub X dX11_date_183 ?_
          refine aw_sipush X dX11_date_184 cs_365 ?_
          refine aw_idiv X dX11_date_187 (by decide) ?_
          refine aw_istore (lv' := [(12, _), (11, _), (9, _), (7, _), (6, _), (4, _), (0, _), (1, _), (3, _)]) X dX11_date_188 (by decide) rfl ?_
          refine aw_iload X dX11_date_190 rfl ?_
          refine aw_sipush X dX11_date_192 cs_365 ?_
          refine aw_iload X dX11_date_195 rfl ?_
          refine aw_imul X dX11_date_197 ?_
          refine aw_iload X dX11_date_198 rfl ?_
          refine aw_iconst X dX11_date_200 ci_4 ?_
          refine aw_idiv X dX11_date_201 (by decide) ?_
          refine aw_iadd X dX11_date_202 ?_
          refine aw_iload X dX11_date_203 rfl ?_
          refine aw_bipush X dX11_date_205 cb_100 ?_
          refine aw_idiv X dX11_date_207 (by decide) ?_
          refine aw_isub X dX11_date_208 ?_
          refine aw_isub X dX11_date_209 ?_
          refine aw_istore (lv' := [(13, _), (12, _), (11, _), (9, _), (7, _), (6, _), (4, _), (0, _), (1, _), (3, _)]) X dX11_date_210 (by decide) rfl ?_
          refine aw_iconst X dX11_date_212 ci_5 ?_
          refine aw_iload X dX11_date_213 rfl ?_
          refine aw_imul X dX11_date_215 ?_
          refine aw_iconst X dX11_date_216 ci_2 ?_
          refine aw_iadd X dX11_date_217 ?_
          refine aw_sipush X dX11_date_218 cs_153 ?_
          refine aw_idiv X dX11_date_221 (by decide) ?_
          refine aw_istore (lv' := [(14, _), (13, _), (12, _), (11, _), (9, _), (7, _), (6, _), (4, _), (0, _), (1, _), (3, _)]) X dX11_date_222 (by decide) rfl ?_
          refine aw_iload X dX11_date_224 rfl ?_
          refine aw_sipush X dX11_date_226 cs_153 ?_
          refine aw_iload X dX11_date_229 rfl ?_
          refine aw_imul X dX11_date_231 ?_
          refine aw_iconst X dX11_date_232 ci_2 ?_
          refine aw_iadd X dX11_date_233 ?_
          refine aw_iconst X dX11_date_234 ci_5 ?_
          refine aw_idiv X dX11_date_235 (by decide) ?_
          refine aw_isub X dX11_date_236 ?_
          refine aw_iconst X dX11_date_237 ci_1 ?_
          refine aw_iadd X dX11_date_238 ?_
          refine aw_istore (lv' := [(15, _), (14, _), (13, _), (12, _), (11, _), (9, _), (7, _), (6, _), (4, _), (0, _), (1, _), (3, _)]) X dX11_date_239 (by decide) rfl ?_
          refine aw_iload X dX11_date_241 rfl ?_
          refine aw_bipush X dX11_date_243 cb_10 ?_
          refine aw_icmp_ge (tgt := 255) X dX11_date_245 rfl (fun c245 => ?_) (fun c245 => ?_)
          · refine aw_iload X dX11_date_255 rfl ?_
            refine aw_bipush X dX11_date_257 cb_9 ?_
            refine aw_isub X dX11_date_259 ?_
            refine aw_istore (lv' := [(16, _), (15, _), (14, _), (13, _), (12, _), (11, _), (9, _), (7, _), (6, _), (4, _), (0, _), (1, _), (3, _)]) X dX11_date_260 (by decide) rfl ?_
            refine aw_ldc2 X kl_X11_280 dX11_date_262 ?_
            refine aw_lload X dX11_date_265 rfl ?_
            refine aw_lmul X dX11_date_267 ?_
            refine aw_iload X dX11_date_268 rfl ?_
            refine aw_i2l X dX11_date_270 ?_
            refine aw_ladd X dX11_date_271 ?_
            refine aw_iload X dX11_date_272 rfl ?_
            refine aw_iconst X dX11_date_274 ci_3 ?_
            refine aw_icmp_ge (tgt := 282) X dX11_date_275 rfl (fun c275 => ?_) (fun c275 => ?_)
            · refine aw_lconst X dX11_date_282 cl_0 ?_
              refine aw_ladd X dX11_date_283 ?_
              refine aw_lstore (lv' := [(17, _), (16, _), (15, _), (14, _), (13, _), (12, _), (11, _), (9, _), (7, _), (6, _), (4, _), (0, _), (1, _), (3, _)]) X dX11_date_284 (by decide) rfl ?_
              refine aw_iload_n X dX11_date_286 rfl rfl ?_
              refine aw_iconst X dX11_date_287 ci_1 ?_
              refine aw_icmp_ne (tgt := 296) X dX11_date_288 rfl (fun c288 => ?_) (fun c288 => ?_)
              · refine aw_iload_n X dX11_date_296 rfl rfl ?_
                refine aw_iconst X dX11_date_297 ci_2 ?_
                refine aw_icmp_ne (tgt := 306) X dX11_date_298 rfl (fun c298 => ?_) (fun c298 => ?_)
                · refine aw_lload X dX11_date_306 rfl ?_
                  refine aw_lconst X dX11_date_308 cl_0 ?_
                  refine aw_lcmp X dX11_date_309 ?_
                  refine aw_if_ge (tgt := 322) X dX11_date_310 rfl (fun c310 => ?_) (fun c310 => ?_)
                  · rw [lg_cmp_ge] at c310
                    refine aw_lload X dX11_date_322 rfl ?_
                    refine aw_l2i X dX11_date_324 ?_
                    refine RTN (some (.int _)) _ _ _ _ _ dX11_date_325 (⟨_, rfl⟩) (Nat.le_of_ble_eq_true rfl) (Nat.le_of_ble_eq_true rfl) ?_
                    first | (constructor <;> ((try simp only [mo_date, mo_cal, mo_yr, mo_month, mo_dm, mo_dy, mo_dof, c14, c27, c55, c96, c245, c275, c288, c298, c310, if_true, if_false, not_true_eq_false, not_false_eq_true, and_self, true_and, and_true, false_and, and_false, or_true, true_or, or_false, false_or, reduceCtorEq, ne_eq, va_us, pk_us]); (try rfl); done)) | (clear RTN X; constructor <;> ((try simp_all only [mo_date, mo_cal, mo_yr, mo_month, mo_dm, mo_dy, mo_dof, if_true, if_false, not_true_eq_false, not_false_eq_true, and_self, true_and, and_true, false_and, and_false, or_true, true_or, or_false, false_or, reduceCtorEq, ne_eq, va_us, pk_us]); (try rfl); done))
                  · rw [lg_cmp_ge] at c310
                    refine aw_lload X dX11_date_313 rfl ?_
                    refine aw_ldc2 X kl_X11_282 dX11_date_315 ?_
                    refine aw_lsub X dX11_date_318 ?_
                    refine aw_goto (tgt := 324) X dX11_date_319 rfl ?_
                    refine aw_l2i X dX11_date_324 ?_
                    refine RTN (some (.int _)) _ _ _ _ _ dX11_date_325 (⟨_, rfl⟩) (Nat.le_of_ble_eq_true rfl) (Nat.le_of_ble_eq_true rfl) ?_
                    first | (constructor <;> ((try simp only [mo_date, mo_cal, mo_yr, mo_month, mo_dm, mo_dy, mo_dof, c14, c27, c55, c96, c245, c275, c288, c298, c310, if_true, if_false, not_true_eq_false, not_false_eq_true, and_self, true_and, and_true, false_and, and_false, or_true, true_or, or_false, false_or, reduceCtorEq, ne_eq, va_us, pk_us]); (try rfl); done)) | (clear RTN X; constructor <;> ((try simp_all only [mo_date, mo_cal, mo_yr, mo_month, mo_dm, mo_dy, mo_dof, if_true, if_false, not_true_eq_false, not_false_eq_true, and_self, true_and, and_true, false_and, and_false, or_true, true_or, or_false, false_or, reduceCtorEq, ne_eq, va_us, pk_us]); (try rfl); done))
                · refine aw_iload X dX11_date_301 rfl ?_
                  refine aw_goto (tgt := 325) X dX11_date_303 rfl ?_
                  refine RTN (some (.int _)) _ _ _ _ _ dX11_date_325 (⟨_, rfl⟩) (Nat.le_of_ble_eq_true rfl) (Nat.le_of_ble_eq_true rfl) ?_
                  first | (constructor <;> ((try simp only [mo_date, mo_cal, mo_yr, mo_month, mo_dm, mo_dy, mo_dof, c14, c27, c55, c96, c245, c275, c288, c298, if_true, if_false, not_true_eq_false, not_false_eq_true, and_self, true_and, and_true, false_and, and_false, or_true, true_or, or_false, false_or, reduceCtorEq, ne_eq, va_us, pk_us]); (try rfl); done)) | (clear RTN X; constructor <;> ((try simp_all only [mo_date, mo_cal, mo_yr, mo_month, mo_dm, mo_dy, mo_dof, if_true, if_false, not_true_eq_false, not_false_eq_true, and_self, true_and, and_true, false_and, and_false, or_true, true_or, or_false, false_or, reduceCtorEq, ne_eq, va_us, pk_us]); (try rfl); done))
              · refine aw_iload X dX11_date_291 rfl ?_
                refine aw_goto (tgt := 325) X dX11_date_293 rfl ?_
                refine RTN (some (.int _)) _ _ _ _ _ dX11_date_325 (⟨_, rfl⟩) (Nat.le_of_ble_eq_true rfl) (Nat.le_of_ble_eq_true rfl) ?_
                first | (constructor <;> ((try simp only [mo_date, mo_cal, mo_yr, mo_month, mo_dm, mo_dy, mo_dof, c14, c27, c55, c96, c245, c275, c288, if_true, if_false, not_true_eq_false, not_false_eq_true, and_self, true_and, and_true, false_and, and_false, or_true, true_or, or_false, false_or, reduceCtorEq, ne_eq, va_us, pk_us]); (try rfl); done)) | (clear RTN X; constructor <;> ((try simp_all only [mo_date, mo_cal, mo_yr, mo_month, mo_dm, mo_dy, mo_dof, if_true, if_false, not_true_eq_false, not_false_eq_true, and_self, true_and, and_true, false_and, and_false, or_true, true_or, or_false, false_or, reduceCtorEq, ne_eq, va_us, pk_us]); (try rfl); done))
            · refine aw_lconst X dX11_date_278 cl_1 ?_
              refine aw_goto (tgt := 283) X dX11_date_279 rfl ?_
              refine aw_ladd X dX11_date_283 ?_
              refine aw_lstore (lv' := [(17, _), (16, _), (15, _), (14, _), (13, _), (12, _), (11, _), (9, _), (7, _), (6, _), (4, _), (0, _), (1, _), (3, _)]) X dX11_date_284 (by decide) rfl ?_
              refine aw_iload_n X dX11_date_286 rfl rfl ?_
              refine aw_iconst X dX11_date_287 ci_1 ?_
              refine aw_icmp_ne (tgt := 296) X dX11_date_288 rfl (fun c288 => ?_) (fun c288 => ?_)
              · refine aw_iload_n X dX11_date_296 rfl rfl ?_
                refine aw_iconst X dX11_date_297 ci_2 ?_
                refine aw_icmp_ne (tgt := 306) X dX11_date_298 rfl (fun c298 => ?_) (fun c298 => ?_)
                · refine aw_lload X dX11_date_306 rfl ?_
                  refine aw_lconst X dX11_date_308 cl_0 ?_
                  refine aw_lcmp X dX11_date_309 ?_
                  refine aw_if_ge (tgt := 322) X dX11_date_310 rfl (fun c310 => ?_) (fun c310 => ?_)
                  · rw [lg_cmp_ge] at c310
                    refine aw_lload X dX11_date_322 rfl ?_
                    refine aw_l2i X dX11_date_324 ?_
                    refine RTN (some (.int _)) _ _ _ _ _ dX11_date_325 (⟨_, rfl⟩) (Nat.le_of_ble_eq_true rfl) (Nat.le_of_ble_eq_true rfl) ?_
                    first | (constructor <;> ((try simp only [mo_date, mo_cal, mo_yr, mo_month, mo_dm, mo_dy, mo_dof, c14, c27, c55, c96, c245, c275, c288, c298, c310, if_true, if_false, not_true_eq_false, not_false_eq_true, and_self, true_and, and_true, false_and, and_false, or_true, true_or, or_false, false_or, reduceCtorEq, ne_eq, va_us, pk_us]); (try rfl); done)) | (clear RTN X; constructor <;> ((try simp_all only [mo_date, mo_cal, mo_yr, mo_month, mo_dm, mo_dy, mo_dof, if_true, if_false, not_true_eq_false, not_false_eq_true, and_self, true_and, and_true, false_and, and_false, or_true, true_or, or_false, false_or, reduceCtorEq, ne_eq, va_us, pk_us]); (try rfl); done))
                  · rw [lg_cmp_ge] at c310
                    refine aw_lload X dX11_date_313 rfl ?_
                    refine aw_ldc2 X kl_X11_282 dX11_date_315 ?_
                    refine aw_lsub X dX11_date_318 ?_
                    refine aw_goto (tgt := 324) X dX11_date_319 rfl ?_
                    refine aw_l2i X dX11_date_324 ?_
                    refine RTN (some (.int _)) _ _ _ _ _ dX11_date_325 (⟨_, rfl⟩) (Nat.le_of_ble_eq_true rfl) (Nat.le_of_ble_eq_true rfl) ?_
                    first | (constructor <;> ((try simp only [mo_date, mo_cal, mo_yr, mo_month, mo_dm, mo_dy, mo_dof, c14, c27, c55, c96, c245, c275, c288, c298, c310, if_true, if_false, not_true_eq_false, not_false_eq_true, and_self, true_and, and_true, false_and, and_false, or_true, true_or, or_false, false_or, reduceCtorEq, ne_eq, va_us, pk_us]); (try rfl); done)) | (clear RTN X; constructor <;> ((try simp_all only [mo_date, mo_cal, mo_yr, mo_month, mo_dm, mo_dy, mo_dof, if_true, if_false, not_true_eq_false, not_false_eq_true, and_self, true_and, and_true, false_and, and_false, or_true, true_or, or_false, false_or, reduceCtorEq, ne_eq, va_us, pk_us]); (try rfl); done))
                · refine aw_iload X dX11_date_301 rfl ?_
                  refine aw_goto (tgt := 325) X dX11_date_303 rfl ?_
                  refine RTN (some (.int _)) _ _ _ _ _ dX11_date_325 (⟨_, rfl⟩) (Nat.le_of_ble_eq_true rfl) (Nat.le_of_ble_eq_true rfl) ?_
                  first | (constructor <;> ((try simp only [mo_date, mo_cal, mo_yr, mo_month, mo_dm, mo_dy, mo_dof, c14, c27, c55, c96, c245, c275, c288, c298, if_true, if_false, not_true_eq_false, not_false_eq_true, and_self, true_and, and_true, false_and, and_false, or_true, true_or, or_false, false_or, reduceCtorEq, ne_eq, va_us, pk_us]); (try rfl); done)) | (clear RTN X; constructor <;> ((try simp_all only [mo_date, mo_cal, mo_yr, mo_month, mo_dm, mo_dy, mo_dof, if_true, if_false, not_true_eq_false, not_false_eq_true, and_self, true_and, and_true, false_and, and_false, or_true, true_or, or_false, false_or, reduceCtorEq, ne_eq, va_us, pk_us]); (try rfl); done))
              · refine aw_iload X dX11_date_291 rfl ?_
                refine aw_goto (tgt := 325) X dX11_date_293 rfl ?_
                refine RTN (some (.int _)) _ _ _ _ _ dX11_date_325 (⟨_, rfl⟩) (Nat.le_of_ble_eq_true rfl) (Nat.le_of_ble_eq_true rfl) ?_
                first | (constructor <;> ((try simp only [mo_date, mo_cal, mo_yr, mo_month, mo_dm, mo_dy, mo_dof, c14, c27, c55, c96, c245, c275, c288, if_true, if_false, not_true_eq_false, not_false_eq_true, and_self, true_and, and_true, false_and, and_false, or_true, true_or, or_false, false_or, reduceCtorEq, ne_eq, va_us, pk_us]); (try rfl); done)) | (clear RTN X; constructor <;> ((try simp_all only [mo_date, mo_cal, mo_yr, mo_month, mo_dm, mo_dy, mo_dof, if_true, if_false, not_true_eq_false, not_false_eq_true, and_self, true_and, and_true, false_and, and_false, or_true, true_or, or_false, false_or, reduceCtorEq, ne_eq, va_us, pk_us]); (try rfl); done))
          · refine aw_iload X dX11_date_248 rfl ?_
            refine aw_iconst X dX11_date_250 ci_3 ?_
            refine aw_iadd X dX11_date_251 ?_
            refine aw_goto (tgt := 260) X dX11_date_252 rfl ?_
            refine aw_istore (lv' := [(16, _), (15, _), (14, _), (13, _), (12, _), (11, _), (9, _), (7, _), (6, _), (4, _), (0, _), (1, _), (3, _)]) X dX11_date_260 (by decide) rfl ?_
            refine aw_ldc2 X kl_X11_280 dX11_date_262 ?_
            refine aw_lload X dX11_date_265 rfl ?_
            refine aw_lmul X dX11_date_267 ?_
            refine aw_iload X dX11_date_268 rfl ?_
            refine aw_i2l X dX11_date_270 ?_
            refine aw_ladd X dX11_date_271 ?_
            refine aw_iload X dX11_date_272 rfl ?_
            refine aw_iconst X dX11_date_274 ci_3 ?_
            refine aw_icmp_ge (tgt := 282) X dX11_date_275 rfl (fun c275 => ?_) (fun c275 => ?_)
            · refine aw_lconst X dX11_date_282 cl_0 ?_
              refine aw_ladd X dX11_date_283 ?_
              refine aw_lstore (lv' := [(17, _), (16, _), (15, _), (14, _), (13, _), (12, _), (11, _), (9, _), (7, _), (6, _), (4, _), (0, _), (1, _), (3, _)]) X dX11_date_284 (by decide) rfl ?_
              refine aw_iload_n X dX11_date_286 rfl rfl ?_
              refine aw_iconst X dX11_date_287 ci_1 ?_
              refine aw_icmp_ne (tgt := 296) X dX11_date_288 rfl (fun c288 => ?_) (fun c288 => ?_)
              · refine aw_iload_n X dX11_date_296 rfl rfl ?_
                refine aw_iconst X dX11_date_297 ci_2 ?_
                refine aw_icmp_ne (tgt := 306) X dX11_date_298 rfl (fun c298 => ?_) (fun c298 => ?_)
                · refine aw_lload X dX11_date_306 rfl ?_
                  refine aw_lconst X dX11_date_308 cl_0 ?_
                  refine aw_lcmp X dX11_date_309 ?_
                  refine aw_if_ge (tgt := 322) X dX11_date_310 rfl (fun c310 => ?_) (fun c310 => ?_)
                  · rw [lg_cmp_ge] at c310
                    refine aw_lload X dX11_date_322 rfl ?_
                    refine aw_l2i X dX11_date_324 ?_
                    refine RTN (some (.int _)) _ _ _ _ _ dX11_date_325 (⟨_, rfl⟩) (Nat.le_of_ble_eq_true rfl) (Nat.le_of_ble_eq_true rfl) ?_
                    first | (constructor <;> ((try simp only [mo_date, mo_cal, mo_yr, mo_month, mo_dm, mo_dy, mo_dof, c14, c27, c55, c96, c245, c275, c288, c298, c310, if_true, if_false, not_true_eq_false, not_false_eq_true, and_self, true_and, and_true, false_and, and_false, or_true, true_or, or_false, false_or, reduceCtorEq, ne_eq, va_us, pk_us]); (try rfl); done)) | (clear RTN X; constructor <;> ((try simp_all only [mo_date, mo_cal, mo_yr, mo_month, mo_dm, mo_dy, mo_dof, if_true, if_false, not_true_eq_false, not_false_eq_true, and_self, true_and, and_true, false_and, and_false, or_true, true_or, or_false, false_or, reduceCtorEq, ne_eq, va_us, pk_us]); (try rfl); done))
                  · rw [lg_cmp_ge] at c310
                    refine aw_lload X dX11_date_313 rfl ?_
                    refine aw_ldc2 X kl_X11_282 dX11_date_315 ?_
                    refine aw_lsub X dX11_date_318 ?_
                    refine aw_goto (tgt := 324) X dX11_date_319 rfl ?_
                    refine aw_l2i X dX11_date_324 ?_
                    refine RTN (some (.int _)) _ _ _ _ _ dX11_date_325 (⟨_, rfl⟩) (Nat.le_of_ble_eq_true rfl) (Nat.le_of_ble_eq_true rfl) ?_
                    first | (constructor <;> ((try simp only [mo_date, mo_cal, mo_yr, mo_month, mo_dm, mo_dy, mo_dof, c14, c27, c55, c96, c245, c275, c288, c298, c310, if_true, if_false, not_true_eq_false, not_false_eq_true, and_self, true_and, and_true, false_and, and_false, or_true, true_or, or_false, false_or, reduceCtorEq, ne_eq, va_us, pk_us]); (try rfl); done)) | (clear RTN X; constructor <;> ((try simp_all only [mo_date, mo_cal, mo_yr, mo_month, mo_dm, mo_dy, mo_dof, if_true, if_false, not_true_eq_false, not_false_eq_true, and_self, true_and, and_true, false_and, and_false, or_true, true_or, or_false, false_or, reduceCtorEq, ne_eq, va_us, pk_us]); (try rfl); done))
                · refine aw_iload X dX11_date_301 rfl ?_
                  refine aw_goto (tgt := 325) X dX11_date_303 rfl ?_
                  refine RTN (some (.int _)) _ _ _ _ _ dX11_date_325 (⟨_, rfl⟩) (Nat.le_of_ble_eq_true rfl) (Nat.le_of_ble_eq_true rfl) ?_
                  first | (constructor <;> ((try simp only [mo_date, mo_cal, mo_yr, mo_month, mo_dm, mo_dy, mo_dof, c14, c27, c55, c96, c245, c275, c288, c298, if_true, if_false, not_true_eq_false, not_false_eq_true, and_self, true_and, and_true, false_and, and_false, or_true, true_or, or_false, false_or, reduceCtorEq, ne_eq, va_us, pk_us]); (try rfl); done)) | (clear RTN X; constructor <;> ((try simp_all only [mo_date, mo_cal, mo_yr, mo_month, mo_dm, mo_dy, mo_dof, if_true, if_false, not_true_eq_false, not_false_eq_true, and_self, true_and, and_true, false_and, and_false, or_true, true_or, or_false, false_or, reduceCtorEq, ne_eq, va_us, pk_us]); (try rfl); done))
              · refine aw_iload X dX11_date_291 rfl ?_
                refine aw_goto (tgt := 325) X dX11_date_293 rfl ?_
                refine RTN (some (.int _)) _ _ _ _ _ dX11_date_325 (⟨_, rfl⟩) (Nat.le_of_ble_eq_true rfl) (Nat.le_of_ble_eq_true rfl) ?_
                first | (constructor <;> ((try simp only [mo_date, mo_cal, mo_yr, mo_month, mo_dm, mo_dy, mo_dof, c14, c27, c55, c96, c245, c275, c288, if_true, if_false, not_true_eq_false, not_false_eq_true, and_self, true_and, and_true, false_and, and_false, or_true, true_or, or_false, false_or, reduceCtorEq, ne_eq, va_us, pk_us]); (try rfl); done)) | (clear RTN X; constructor <;> ((try simp_all only [mo_date, mo_cal, mo_yr, mo_month, mo_dm, mo_dy, mo_dof, if_true, if_false, not_true_eq_false, not_false_eq_true, and_self, true_and, and_true, false_and, and_false, or_true, true_or, or_false, false_or, reduceCtorEq, ne_eq, va_us, pk_us]); (try rfl); done))
            · refine aw_lconst X dX11_date_278 cl_1 ?_
              refine aw_goto (tgt := 283) X dX11_date_279 rfl ?_
              refine aw_ladd X dX11_date_283 ?_
              refine aw_lstore (lv' := [(17, _), (16, _), (15, _), (14, _), (13, _), (12, _), (11, _), (9, _), (7, _), (6, _), (4, _), (0, _), (1, _), (3, _)]) X dX11_date_284 (by decide) rfl ?_
              refine aw_iload_n X dX11_date_286 rfl rfl ?_
              refine aw_iconst X dX11_date_287 ci_1 ?_
              refine aw_icmp_ne (tgt := 296) X dX11_date_288 rfl (fun c288 => ?_) (fun c288 => ?_)
              · refine aw_iload_n X dX11_date_296 rfl rfl ?_
                refine aw_iconst X dX11_date_297 ci_2 ?_
                refine aw_icmp_ne (tgt := 306) X dX11_date_298 rfl (fun c298 => ?_) (fun c298 => ?_)
                · refine aw_lload X dX11_date_306 rfl ?_
                  refine aw_lconst X dX11_date_308 cl_0 ?_
                  refine aw_lcmp X dX11_date_309 ?_
                  refine aw_if_ge (tgt := 322) X dX11_date_310 rfl (fun c310 => ?_) (fun c310 => ?_)
                  · rw [lg_cmp_ge] at c310
                    refine aw_lload X dX11_date_322 rfl ?_
                    refine aw_l2i X dX11_date_324 ?_
                    refine RTN (some (.int _)) _ _ _ _ _ dX11_date_325 (⟨_, rfl⟩) (Nat.le_of_ble_eq_true rfl) (Nat.le_of_ble_eq_true rfl) ?_
                    first | (constructor <;> ((try simp only [mo_date, mo_cal, mo_yr, mo_month, mo_dm, mo_dy, mo_dof, c14, c27, c55, c96, c245, c275, c288, c298, c310, if_true, if_false, not_true_eq_false, not_false_eq_true, and_self, true_and, and_true, false_and, and_false, or_true, true_or, or_false, false_or, reduceCtorEq, ne_eq, va_us, pk_us]); (try rfl); done)) | (clear RTN X; constructor <;> ((try simp_all only [mo_date, mo_cal, mo_yr, mo_month, mo_dm, mo_dy, mo_dof, if_true, if_false, not_true_eq_false, not_false_eq_true, and_self, true_and, and_true, false_and, and_false, or_true, true_or, or_false, false_or, reduceCtorEq, ne_eq, va_us, pk_us]); (try rfl); done))
                  · rw [lg_cmp_ge] at c310
                    refine aw_lload X dX11_date_313 rfl ?_
                    refine aw_ldc2 X kl_X11_282 dX11_date_315 ?_
                    refine aw_lsub X dX11_date_318 ?_
                    refine aw_goto (tgt := 324) X dX11_date_319 rfl ?_
                    refine aw_l2i X dX11_date_324 ?_
                    refine RTN (some (.int _)) _ _ _ _ _ dX11_date_325 (⟨_, rfl⟩) (Nat.le_of_ble_eq_true rfl) (Nat.le_of_ble_eq_true rfl) ?_
                    first | (constructor <;> ((try simp only [mo_date, mo_cal, mo_yr, mo_month, mo_dm, mo_dy, mo_dof, c14, c27, c55, c96, c245, c275, c288, c298, c310, if_true, if_false, not_true_eq_false, not_false_eq_true, and_self, true_and, and_true, false_and, and_false, or_true, true_or, or_false, false_or, reduceCtorEq, ne_eq, va_us, pk_us]); (try rfl); done)) | (clear RTN X; constructor <;> ((try simp_all only [mo_date, mo_cal, mo_yr, mo_month, mo_dm, mo_dy, mo_dof, if_true, if_false, not_true_eq_false, not_false_eq_true, and_self, true_and, and_true, false_and, and_false, or_true, true_or, or_false, false_or, reduceCtorEq, ne_eq, va_us, pk_us]); (try rfl); done))
                · refine aw_iload X dX11_date_301 rfl ?_
                  refine aw_goto (tgt := 325) X dX11_date_303 rfl ?_
                  refine RTN (some (.int _)) _ _ _ _ _ dX11_date_325 (⟨_, rfl⟩) (Nat.le_of_ble_eq_true rfl) (Nat.le_of_ble_eq_true rfl) ?_
                  first | (constructor <;> ((try simp only [mo_date, mo_cal, mo_yr, mo_month, mo_dm, mo_dy, mo_dof, c14, c27, c55, c96, c245, c275, c288, c298, if_true, if_false, not_true_eq_false, not_false_eq_true, and_self, true_and, and_true, false_and, and_false, or_true, true_or, or_false, false_or, reduceCtorEq, ne_eq, va_us, pk_us]); (try rfl); done)) | (clear RTN X; constructor <;> ((try simp_all only [mo_date, mo_cal, mo_yr, mo_month, mo_dm, mo_dy, mo_dof, if_true, if_false, not_true_eq_false, not_false_eq_true, and_self, true_and, and_true, false_and, and_false, or_true, true_or, or_false, false_or, reduceCtorEq, ne_eq, va_us, pk_us]); (try rfl); done))
              · refine aw_iload X dX11_date_291 rfl ?_
                refine aw_goto (tgt := 325) X dX11_date_293 rfl ?_
                refine RTN (some (.int _)) _ _ _ _ _ dX11_date_325 (⟨_, rfl⟩) (Nat.le_of_ble_eq_true rfl) (Nat.le_of_ble_eq_true rfl) ?_
                first | (constructor <;> ((try simp only [mo_date, mo_cal, mo_yr, mo_month, mo_dm, mo_dy, mo_dof, c14, c27, c55, c96, c245, c275, c288, if_true, if_false, not_true_eq_false, not_false_eq_true, and_self, true_and, and_true, false_and, and_false, or_true, true_or, or_false, false_or, reduceCtorEq, ne_eq, va_us, pk_us]); (try rfl); done)) | (clear RTN X; constructor <;> ((try simp_all only [mo_date, mo_cal, mo_yr, mo_month, mo_dm, mo_dy, mo_dof, if_true, if_false, not_true_eq_false, not_false_eq_true, and_self, true_and, and_true, false_and, and_false, or_true, true_or, or_false, false_or, reduceCtorEq, ne_eq, va_us, pk_us]); (try rfl); done))
        · refine aw_lload X dX11_date_99 rfl ?_
          refine aw_ldc2 X kl_X11_33 dX11_date_101 ?_
          refine aw_ladd X dX11_date_104 ?_
          refine aw_ldc2 X kl_X11_10 dX11_date_105 ?_
          refine aw_lrem X dX11_date_108 (by decide) ?_
          refine aw_lstore (lv' := [(7, _), (6, _), (4, _), (0, _), (1, _), (3, _)]) X dX11_date_109 (by decide) rfl ?_
          refine aw_lload X dX11_date_111 rfl ?_
          refine aw_lconst X dX11_date_113 cl_0 ?_
          refine aw_lcmp X dX11_date_114 ?_
          refine aw_if_ge (tgt := 127) X dX11_date_115 rfl (fun c115 => ?_) (fun c115 => ?_)
          · rw [lg_cmp_ge] at c115
            refine aw_lload X dX11_date_127 rfl ?_
            refine aw_l2i X dX11_date_129 ?_
            refine RTN (some (.int _)) _ _ _ _ _ dX11_date_130 (⟨_, rfl⟩) (Nat.le_of_ble_eq_true rfl) (Nat.le_of_ble_eq_true rfl) ?_
            first | (constructor <;> ((try simp only [mo_date, mo_cal, mo_yr, mo_month, mo_dm, mo_dy, mo_dof, c14, c27, c55, c96, c115, if_true, if_false, not_true_eq_false, not_false_eq_true, and_self, true_and, and_true, false_and, and_false, or_true, true_or, or_false, false_or, reduceCtorEq, ne_eq, va_us, pk_us]); (try rfl); done)) | (clear RTN X; constructor <;> ((try simp_all only [mo_date, mo_cal, mo_yr, mo_month, mo_dm, mo_dy, mo_dof, if_true, if_false, not_true_eq_false, not_false_eq_true, and_self, true_and, and_true, false_and, and_false, or_true, true_or, or_false, false_or, reduceCtorEq, ne_eq, va_us, pk_us]); (try rfl); done))
          · rw [lg_cmp_ge] at c115
            refine aw_lload X dX11_date_118 rfl ?_
            refine aw_ldc2 X kl_X11_10 dX11_date_120 ?_
            refine aw_ladd X dX11_date_123 ?_
            refine aw_goto (tgt := 129) X dX11_date_124 rfl ?_
            refine aw_l2i X dX11_date_129 ?_
            refine RTN (some (.int _)) _ _ _ _ _ dX11_date_130 (⟨_, rfl⟩) (Nat.le_of_ble_eq_true rfl) (Nat.le_of_ble_eq_true rfl) ?_
            first | (constructor <;> ((try simp only [mo_date, mo_cal, mo_yr, mo_month, mo_dm, mo_dy, mo_dof, c14, c27, c55, c96, c115, if_true, if_false, not_true_eq_false, not_false_eq_true, and_self, true_and, and_true, false_and, and_false, or_true, true_or, or_false, false_or, reduceCtorEq, ne_eq, va_us, pk_us]); (try rfl); done)) | (clear RTN X; constructor <;> ((try simp_all only [mo_date, mo_cal, mo_yr, mo_month, mo_dm, mo_dy, mo_dof, if_true, if_false, not_true_eq_false, not_false_eq_true, and_self, true_and, and_true, false_and, and_false, or_true, true_or, or_false, false_or, reduceCtorEq, ne_eq, va_us, pk_us]); (try rfl); done))
      · refine aw_iload_n X dX11_date_58 rfl rfl ?_
        refine aw_iconst X dX11_date_59 ci_4 ?_
        refine aw_icmp_ne (tgt := 72) X dX11_date_60 rfl (fun c60 => ?_) (fun c60 => ?_)
        · refine aw_iload_n X dX11_date_72 rfl rfl ?_
          refine aw_iconst X dX11_date_73 ci_5 ?_
          refine aw_icmp_ne (tgt := 88) X dX11_date_74 rfl (fun c74 => ?_) (fun c74 => ?_)
          · refine aw_iload X dX11_date_88 rfl ?_
            refine aw_bipush X dX11_date_90 cb_60 ?_
            refine aw_irem X dX11_date_92 (by decide) ?_
            refine RTN (some (.int _)) _ _ _ _ _ dX11_date_93 (⟨_, rfl⟩) (Nat.le_of_ble_eq_true rfl) (Nat.le_of_ble_eq_true rfl) ?_
            first | (constructor <;> ((try simp only [mo_date, mo_cal, mo_yr, mo_month, mo_dm, mo_dy, mo_dof, c14, c27, c55, c60, c74, if_true, if_false, not_true_eq_false, not_false_eq_true, and_self, true_and, and_true, false_and, and_false, or_true, true_or, or_false, false_or, reduceCtorEq, ne_eq, va_us, pk_us]); (try rfl); done)) | (clear RTN X; constructor <;> ((try simp_all only [mo_date, mo_cal, mo_yr, mo_month, mo_dm, mo_dy, mo_dof, if_true, if_false, not_true_eq_false, not_false_eq_true, and_self, true_and, and_true, false_and, and_false, or_true, true_or, or_false, false_or, reduceCtorEq, ne_eq, va_us, pk_us]); (try rfl); done))
          · refine aw_iload X dX11_date_77 rfl ?_
            refine aw_bipush X dX11_date_79 cb_60 ?_
            refine aw_idiv X dX11_date_81 (by decide) ?_
            refine aw_bipush X dX11_date_82 cb_60 ?_
            refine aw_irem X dX11_date_84 (by decide) ?_
            refine aw_goto (tgt := 93) X dX11_date_85 rfl ?_
            refine RTN (some (.int _)) _ _ _ _ _ dX11_date_93 (⟨_, rfl⟩) (Nat.le_of_ble_eq_true rfl) (Nat.le_of_ble_eq_true rfl) ?_
            first | (constructor <;> ((try simp only [mo_date, mo_cal, mo_yr, mo_month, mo_dm, mo_dy, mo_dof, c14, c27, c55, c60, c74, if_true, if_false, not_true_eq_false, not_false_eq_true, and_self, true_and, and_true, false_and, and_false, or_true, true_or, or_false, false_or, reduceCtorEq, ne_eq, va_us, pk_us]); (try rfl); done)) | (clear RTN X; constructor <;> ((try simp_all only [mo_date, mo_cal, mo_yr, mo_month, mo_dm, mo_dy, mo_dof, if_true, if_false, not_true_eq_false, not_false_eq_true, and_self, true_and, and_true, false_and, and_false, or_true, true_or, or_false, false_or, reduceCtorEq, ne_eq, va_us, pk_us]); (try rfl); done))
        · refine aw_iload X dX11_date_63 rfl ?_
          refine aw_sipush X dX11_date_65 cs_3600 ?_
          refine aw_idiv X dX11_date_68 (by decide) ?_
          refine aw_goto (tgt := 93) X dX11_date_69 rfl ?_
          refine RTN (some (.int _)) _ _ _ _ _ dX11_date_93 (⟨_, rfl⟩) (Nat.le_of_ble_eq_true rfl) (Nat.le_of_ble_eq_true rfl) ?_
          first | (constructor <;> ((try simp only [mo_date, mo_cal, mo_yr, mo_month, mo_dm, mo_dy, mo_dof, c14, c27, c55, c60, if_true, if_false, not_true_eq_false, not_false_eq_true, and_self, true_and, and_true, false_and, and_false, or_true, true_or, or_false, false_or, reduceCtorEq, ne_eq, va_us, pk_us]); (try rfl); done)) | (clear RTN X; constructor <;> ((try simp_all only [mo_date, mo_cal, mo_yr, mo_month, mo_dm, mo_dy, mo_dof, if_true, if_false, not_true_eq_false, not_false_eq_true, and_self, true_and, and_true, false_and, and_false, or_true, true_or, or_false, false_or, reduceCtorEq, ne_eq, va_us, pk_us]); (try rfl); done))
    · rw [bI_0] at c27
      refine aw_bipush X dX11_date_30 cb_m3 ?_
      refine RTN (some (.int _)) _ _ _ _ _ dX11_date_32 (⟨_, rfl⟩) (Nat.le_of_ble_eq_true rfl) (Nat.le_of_ble_eq_true rfl) ?_
      first | (constructor <;> ((try simp only [mo_date, mo_cal, mo_yr, mo_month, mo_dm, mo_dy, mo_dof, c14, c27, if_true, if_false, not_true_eq_false, not_false_eq_true, and_self, true_and, and_true, false_and, and_false, or_true, true_or, or_false, false_or, reduceCtorEq, ne_eq, va_us, pk_us]); (try rfl); done)) | (clear RTN X; constructor <;> ((try simp_all only [mo_date, mo_cal, mo_yr, mo_month, mo_dm, mo_dy, mo_dof, if_true, if_false, not_true_eq_false, not_false_eq_true, and_self, true_and, and_true, false_and, and_false, or_true, true_or, or_false, false_or, reduceCtorEq, ne_eq, va_us, pk_us]); (try rfl); done))
def mo_shift (M : MS) : Nat → MS
  | 0 => M
  | j + 1 => sF (mo_shift M j) 43 (nI (j + 1) - 1).toNatClampNeg ((mo_shift M j).2.2 43 (nI (j + 1)).toNatClampNeg)
theorem shift_1 (M : MS) : ∀ j, (mo_shift M j).1 = M.1
  | 0 => rfl
  | j + 1 => shift_1 M j
def mo_event (M : MS) : Int32 × MS :=
  if M.1 44 = 0 then (0, (sI M 0 0)) else (M.2.2 43 (0 : Int32).toNatClampNeg, sI (mo_shift (sI M 0 0) ((M.1 44).toNatClampNeg - 1)) 44 (M.1 44 - 1))
set_option maxRecDepth 100000 in
set_option maxHeartbeats 4000000 in
theorem kX11_event (G : GG) (l : Launch) (q : Nat → Nat) (M : MS) (hq : mInj q) (he : bt (M.1 44) 0 8) : MC G l yX11_event cX11_event 3 ((Option.some .int)) ({ frames := 0, cells := 0, slots := 0, locals := 0 } : Room) [.ref (q 0)] (mw G q M) (fun v w' => v = some (.int (mo_event M).1) ∧ w' = mw G q (mo_event M).2) := by
  refine mc_int (by decide) (Nat.le_of_ble_eq_true rfl) rfl rfl ?_
  intro p e s m args below meth c A H0 Q X hnm RTN
  have X : Cx G p s m args meth c A H0 cX11_event 3 RX11 := X
  refine aw_aload_n X dX11_event_0 rfl rfl ?_
  refine aw_iconst X dX11_event_1 ci_0 ?_
  refine am_put X 0 (M' := sI _ 0 _) (Nat.le_of_ble_eq_true rfl) fl_X11_1 rfl rfl (rfl) (rfl) (mf_0 _ _ _) rfl dX11_event_2 ?_
  refine aw_aload_n X dX11_event_5 rfl rfl ?_
  refine am_get X 44 (v := .int (M.1 44)) (Nat.le_of_ble_eq_true rfl) fl_X11_295 rfl rfl dX11_event_6 ?_
  refine aw_if_ne (tgt := 14) X dX11_event_9 rfl (fun c9 => ?_) (fun c9 => ?_)
  · refine aw_aload_n X dX11_event_14 rfl rfl ?_
    refine am_get X 43 (Nat.le_of_ble_eq_true rfl) fl_X11_160 rfl rfl dX11_event_15 ?_
    refine aw_iconst X dX11_event_18 ci_0 ?_
    refine am_ald X 43 _ (M.2.2 43) hq (by decide) rfl rfl rfl (vp_in_nI (n := 0) (N := 8) (by decide) (by decide)) dX11_event_19 ?_
    refine aw_istore_n (lv' := [(1, _), (0, _)]) X dX11_event_20 rfl (by decide) rfl ?_
    refine aw_iconst X dX11_event_21 ci_1 ?_
    refine aw_istore_n (lv' := [(2, _), (1, _), (0, _)]) X dX11_event_22 rfl (by decide) rfl ?_
    obtain ⟨N, hN, hNe, _⟩ := bt_nat (hi := 8) he
    have hN0 : N ≠ 0 := fun z => c9 (by rw [hNe, z]; rfl)
    have L : ∀ (nn : Nat) (i : Nat) (x : Int32), (x = nI (i + 1)) → (i + 1 ≤ N) → (N ≤ i + nn) → AW G p l e ({ frames := 0, cells := 0, slots := 0, locals := 0 } : Room) s m args below meth c 3 A H0 Q (mw G q (mo_shift (sI M 0 0) i)) 0 0 23 [(2, .int x), (1, .int (M.2.2 43 (0 : Int32).toNatClampNeg)), (0, .ref (q 0))] [] := by
      intro nn
      induction nn with
      | zero => intro i x hx h1 h2; exact absurd h2 (by omega)
      | succ nn ih =>
        intro i x hx h1 h2
        subst hx
        refine aw_iload_n X dX11_event_23 rfl rfl ?_
        refine aw_aload_n X dX11_event_24 rfl rfl ?_
        refine am_get X 44 (v := .int ((mo_shift (sI M 0 0) i).1 44)) (Nat.le_of_ble_eq_true rfl) fl_X11_295 rfl rfl dX11_event_25 ?_
        refine aw_icmp_ge (tgt := 51) X dX11_event_28 rfl (fun c28 => ?_) (fun c28 => ?_)
        · rw [shift_1] at c28
          have h9 : i + 1 = N := by have := (nI_leI (by omega) (by omega)).mp (show nI N ≤ nI (i + 1) from by rw [← hNe]; exact c28); omega
          refine aw_aload_n X dX11_event_51 rfl rfl ?_
          refine aw_dup X dX11_event_52 rfl ?_
          refine am_get X 44 (v := .int ((mo_shift (sI M 0 0) i).1 44)) (Nat.le_of_ble_eq_true rfl) fl_X11_295 rfl rfl dX11_event_53 ?_
          refine aw_iconst X dX11_event_56 ci_1 ?_
          refine aw_isub X dX11_event_57 ?_
          refine am_put X 44 (M' := sI _ 44 _) (Nat.le_of_ble_eq_true rfl) fl_X11_295 rfl rfl (rfl) (rfl) (mf_44 _ _ _) rfl dX11_event_58 ?_
          refine aw_iload_n X dX11_event_61 rfl rfl ?_
          refine RTN (some (.int _)) _ _ _ _ _ dX11_event_62 (⟨_, rfl⟩) (Nat.le_of_ble_eq_true rfl) (Nat.le_of_ble_eq_true rfl) ?_
          have hk : (M.1 44).toNatClampNeg - 1 = i := by rw [hNe, nI_clamp (by omega)]; omega
          refine ⟨by simp only [mo_event, c9, if_false], ?_⟩
          simp only [mo_event, c9, if_false, hk, shift_1]
          rfl
        · rw [shift_1] at c28
          have h9 : i + 1 < N := Nat.lt_of_not_le (fun h => c28 (by show M.1 44 ≤ _; rw [hNe]; exact (nI_leI (by omega) (by omega)).mpr h))
          refine aw_aload_n X dX11_event_31 rfl rfl ?_
          refine am_get X 43 (Nat.le_of_ble_eq_true rfl) fl_X11_160 rfl rfl dX11_event_32 ?_
          refine aw_iload_n X dX11_event_35 rfl rfl ?_
          refine aw_iconst X dX11_event_36 ci_1 ?_
          refine aw_isub X dX11_event_37 ?_
          refine aw_aload_n X dX11_event_38 rfl rfl ?_
          refine am_get X 43 (Nat.le_of_ble_eq_true rfl) fl_X11_160 rfl rfl dX11_event_39 ?_
          refine aw_iload_n X dX11_event_42 rfl rfl ?_
          refine am_ald X 43 _ ((mo_shift (sI M 0 0) i).2.2 43) hq (by decide) rfl rfl rfl (vp_in_nI (N := 8) (by omega) (by decide)) dX11_event_43 ?_
          refine am_ast X 43 _ hq (by decide) rfl rfl (by rw [nI_pred]; exact vp_in_nI (N := 8) (by omega) (by decide)) dX11_event_44 ?_
          refine aw_iinc (lv' := [(2, _), (1, _), (0, _)]) X dX11_event_45 rfl (iinc_1 _) (by decide) rfl ?_
          refine aw_goto (tgt := 23) X dX11_event_48 rfl ?_
          refine aw_lv [0, 1, 2] rfl ?_
          exact ih (i + 1) _ (nI_1 (i + 1)) (by omega) (by omega)
    refine aw_lv [0, 1, 2] rfl ?_
    exact L N 0 _ rfl (by omega) (by omega)
  · refine aw_iconst X dX11_event_12 ci_0 ?_
    refine RTN (some (.int _)) _ _ _ _ _ dX11_event_13 (⟨_, rfl⟩) (Nat.le_of_ble_eq_true rfl) (Nat.le_of_ble_eq_true rfl) ?_
    first | (constructor <;> ((try simp only [mo_event, c9, if_true, if_false, not_true_eq_false, not_false_eq_true, and_self, true_and, and_true, false_and, and_false, or_true, true_or, or_false, false_or, reduceCtorEq, ne_eq, va_us, pk_us]); (try rfl); done)) | (clear RTN X; constructor <;> ((try simp_all only [mo_event, if_true, if_false, not_true_eq_false, not_false_eq_true, and_self, true_and, and_true, false_and, and_false, or_true, true_or, or_false, false_or, reduceCtorEq, ne_eq, va_us, pk_us]); (try rfl); done))
def mo_on (M : MS) : Nat → Int32
  | 0 => 0
  | j + 1 => mo_on M j + (if M.2.2 6 j ≤ 0 then 0 else 1)
theorem swi_out {x : Int32} {l : List Int32} {d : Int32} (h : x.toInt < 0 ∨ (l.length : Int) - 1 < x.toInt) : swi x l d = d := if_pos h
def mo_told (M : MS) (what : Int32) : Int32 × MS := (swi what [mo_on M 8, M.1 20, M.1 38, M.1 29, M.1 28, M.1 39, M.1 45, M.1 5] (-3), (sI M 0 0))
set_option maxRecDepth 100000 in
set_option maxHeartbeats 4000000 in
theorem kX11_told (G : GG) (l : Launch) (q : Nat → Nat) (M : MS) (hq : mInj q) (what : Int32) : MC G l yX11_told cX11_told 4 ((Option.some .int)) ({ frames := 0, cells := 0, slots := 0, locals := 0 } : Room) [.ref (q 0), .int what] (mw G q M) (fun v w' => v = some (.int (mo_told M what).1) ∧ w' = mw G q (mo_told M what).2) := by
  refine mc_int (by decide) (Nat.le_of_ble_eq_true rfl) rfl rfl ?_
  intro p e s m args below meth c A H0 Q X hnm RTN
  have X : Cx G p s m args meth c A H0 cX11_told 4 RX11 := X
  refine aw_aload_n X dX11_told_0 rfl rfl ?_
  refine aw_iconst X dX11_told_1 ci_0 ?_
  refine am_put X 0 (M' := sI _ 0 _) (Nat.le_of_ble_eq_true rfl) fl_X11_1 rfl rfl (rfl) (rfl) (mf_0 _ _ _) rfl dX11_told_2 ?_
  refine aw_iconst X dX11_told_5 ci_0 ?_
  refine aw_istore_n (lv' := [(2, _), (0, _), (1, _)]) X dX11_told_6 rfl (by decide) rfl ?_
  refine aw_iconst X dX11_told_7 ci_0 ?_
  refine aw_istore_n (lv' := [(3, _), (2, _), (0, _), (1, _)]) X dX11_told_8 rfl (by decide) rfl ?_
  have L : ∀ (nn : Nat) (i : Nat) (x u : Int32), (x = nI i) → (u = mo_on M i) → (i ≤ 8) → (9 ≤ i + nn) → AW G p l e ({ frames := 0, cells := 0, slots := 0, locals := 0 } : Room) s m args below meth c 4 A H0 Q (mw G q (sI M 0 0)) 0 0 9 [(3, .int x), (2, .int u), (0, .ref (q 0)), (1, .int what)] [] := by
    intro nn
    induction nn with
    | zero => intro i x u hx hu h1 h2; exact absurd h2 (by omega)
    | succ nn ih =>
      intro i x u hx hu h1 h2
      subst hx
      refine aw_iload_n X dX11_told_9 rfl rfl ?_
      refine aw_bipush X dX11_told_10 cb_8 ?_
      refine aw_icmp_ge (tgt := 38) X dX11_told_12 rfl (fun c12 => ?_) (fun c12 => ?_)
      · have h9 : i = 8 := by have := ge_i (N := 8) rfl (by omega) (by decide) c12; omega
        subst h9
        refine aw_iload_n X dX11_told_38 rfl rfl ?_
        rcases sw_8 what with c39 | c39 | c39 | c39 | c39 | c39 | c39 | c39 | c39
        · refine aw_tableOut (tgt := 121) X dX11_told_39 c39 rfl ?_
          refine aw_bipush X dX11_told_121 cb_m3 ?_
          refine RTN (some (.int _)) _ _ _ _ _ dX11_told_123 (⟨_, rfl⟩) (Nat.le_of_ble_eq_true rfl) (Nat.le_of_ble_eq_true rfl) ?_
          refine ⟨?_, rfl⟩
          simp only [mo_told]
          rw [swi_out]
          exact c39
        · refine aw_tableIn (tgt := 84) (off := 45) X dX11_told_39 (by rw [c39]; decide) (by rw [c39]; decide) (by rw [c39]; rfl) rfl ?_
          refine aw_iload_n X dX11_told_84 rfl rfl ?_
          refine RTN (some (.int _)) _ _ _ _ _ dX11_told_85 (⟨_, rfl⟩) (Nat.le_of_ble_eq_true rfl) (Nat.le_of_ble_eq_true rfl) ?_
          subst c39; exact ⟨by rw [hu]; rfl, rfl⟩
        · refine aw_tableIn (tgt := 86) (off := 47) X dX11_told_39 (by rw [c39]; decide) (by rw [c39]; decide) (by rw [c39]; rfl) rfl ?_
          refine aw_aload_n X dX11_told_86 rfl rfl ?_
          refine am_get X 20 (v := .int (M.1 20)) (Nat.le_of_ble_eq_true rfl) fl_X11_191 rfl rfl dX11_told_87 ?_
          refine RTN (some (.int _)) _ _ _ _ _ dX11_told_90 (⟨_, rfl⟩) (Nat.le_of_ble_eq_true rfl) (Nat.le_of_ble_eq_true rfl) ?_
          subst c39; exact ⟨rfl, rfl⟩
        · refine aw_tableIn (tgt := 91) (off := 52) X dX11_told_39 (by rw [c39]; decide) (by rw [c39]; decide) (by rw [c39]; rfl) rfl ?_
          refine aw_aload_n X dX11_told_91 rfl rfl ?_
          refine am_get X 38 (v := .int (M.1 38)) (Nat.le_of_ble_eq_true rfl) fl_X11_118 rfl rfl dX11_told_92 ?_
          refine RTN (some (.int _)) _ _ _ _ _ dX11_told_95 (⟨_, rfl⟩) (Nat.le_of_ble_eq_true rfl) (Nat.le_of_ble_eq_true rfl) ?_
          subst c39; exact ⟨rfl, rfl⟩
        · refine aw_tableIn (tgt := 96) (off := 57) X dX11_told_39 (by rw [c39]; decide) (by rw [c39]; decide) (by rw [c39]; rfl) rfl ?_
          refine aw_aload_n X dX11_told_96 rfl rfl ?_
          refine am_get X 29 (v := .int (M.1 29)) (Nat.le_of_ble_eq_true rfl) fl_X11_194 rfl rfl dX11_told_97 ?_
          refine RTN (some (.int _)) _ _ _ _ _ dX11_told_100 (⟨_, rfl⟩) (Nat.le_of_ble_eq_true rfl) (Nat.le_of_ble_eq_true rfl) ?_
          subst c39; exact ⟨rfl, rfl⟩
        · refine aw_tableIn (tgt := 101) (off := 62) X dX11_told_39 (by rw [c39]; decide) (by rw [c39]; decide) (by rw [c39]; rfl) rfl ?_
          refine aw_aload_n X dX11_told_101 rfl rfl ?_
          refine am_get X 28 (v := .int (M.1 28)) (Nat.le_of_ble_eq_true rfl) fl_X11_204 rfl rfl dX11_told_102 ?_
          refine RTN (some (.int _)) _ _ _ _ _ dX11_told_105 (⟨_, rfl⟩) (Nat.le_of_ble_eq_true rfl) (Nat.le_of_ble_eq_true rfl) ?_
          subst c39; exact ⟨rfl, rfl⟩
        · refine aw_tableIn (tgt := 106) (off := 67) X dX11_told_39 (by rw [c39]; decide) (by rw [c39]; decide) (by rw [c39]; rfl) rfl ?_
          refine aw_aload_n X dX11_told_106 rfl rfl ?_
          refine am_get X 39 (v := .int (M.1 39)) (Nat.le_of_ble_eq_true rfl) fl_X11_289 rfl rfl dX11_told_107 ?_
          refine RTN (some (.int _)) _ _ _ _ _ dX11_told_110 (⟨_, rfl⟩) (Nat.le_of_ble_eq_true rfl) (Nat.le_of_ble_eq_true rfl) ?_
          subst c39; exact ⟨rfl, rfl⟩
        · refine aw_tableIn (tgt := 111) (off := 72) X dX11_told_39 (by rw [c39]; decide) (by rw [c39]; decide) (by rw [c39]; rfl) rfl ?_
          refine aw_aload_n X dX11_told_111 rfl rfl ?_
          refine am_get X 45 (v := .int (M.1 45)) (Nat.le_of_ble_eq_true rfl) fl_X11_298 rfl rfl dX11_told_112 ?_
          refine RTN (some (.int _)) _ _ _ _ _ dX11_told_115 (⟨_, rfl⟩) (Nat.le_of_ble_eq_true rfl) (Nat.le_of_ble_eq_true rfl) ?_
          subst c39; exact ⟨rfl, rfl⟩
        · refine aw_tableIn (tgt := 116) (off := 77) X dX11_told_39 (by rw [c39]; decide) (by rw [c39]; decide) (by rw [c39]; rfl) rfl ?_
          refine aw_aload_n X dX11_told_116 rfl rfl ?_
          refine am_get X 5 (v := .int (M.1 5)) (Nat.le_of_ble_eq_true rfl) fl_X11_7 rfl rfl dX11_told_117 ?_
          refine RTN (some (.int _)) _ _ _ _ _ dX11_told_120 (⟨_, rfl⟩) (Nat.le_of_ble_eq_true rfl) (Nat.le_of_ble_eq_true rfl) ?_
          subst c39; exact ⟨rfl, rfl⟩
      · have h9 : i < 8 := lt_i (N := 8) rfl (by omega) (by decide) c12
        refine aw_iload_n X dX11_told_15 rfl rfl ?_
        refine aw_aload_n X dX11_told_16 rfl rfl ?_
        refine am_get X 6 (Nat.le_of_ble_eq_true rfl) fl_X11_20 rfl rfl dX11_told_17 ?_
        refine aw_iload_n X dX11_told_20 rfl rfl ?_
        refine am_ald X 6 _ (M.2.2 6) hq (by decide) rfl rfl rfl (vp_in_nI h9 (by decide)) dX11_told_21 ?_
        refine aw_if_le (tgt := 29) X dX11_told_22 rfl (fun c22 => ?_) (fun c22 => ?_)
        · rw [nI_clamp (by omega)] at c22
          refine aw_iconst X dX11_told_29 ci_0 ?_
          refine aw_iadd X dX11_told_30 ?_
          refine aw_istore_n (lv' := [(2, _), (3, _), (0, _), (1, _)]) X dX11_told_31 rfl (by decide) rfl ?_
          refine aw_iinc (lv' := [(3, _), (2, _), (0, _), (1, _)]) X dX11_told_32 rfl (iinc_1 _) (by decide) rfl ?_
          refine aw_goto (tgt := 9) X dX11_told_35 rfl ?_
          refine aw_lv [0, 1, 2, 3] rfl ?_
          exact ih (i + 1) _ _ (nI_1 i) (by rw [hu]; simp only [mo_on, c22, if_true, if_false]) (by omega) (by omega)
        · rw [nI_clamp (by omega)] at c22
          refine aw_iconst X dX11_told_25 ci_1 ?_
          refine aw_goto (tgt := 30) X dX11_told_26 rfl ?_
          refine aw_iadd X dX11_told_30 ?_
          refine aw_istore_n (lv' := [(2, _), (3, _), (0, _), (1, _)]) X dX11_told_31 rfl (by decide) rfl ?_
          refine aw_iinc (lv' := [(3, _), (2, _), (0, _), (1, _)]) X dX11_told_32 rfl (iinc_1 _) (by decide) rfl ?_
          refine aw_goto (tgt := 9) X dX11_told_35 rfl ?_
          refine aw_lv [0, 1, 2, 3] rfl ?_
          exact ih (i + 1) _ _ (nI_1 i) (by rw [hu]; simp only [mo_on, c22, if_true, if_false]) (by omega) (by omega)
  refine aw_lv [0, 1, 2, 3] rfl ?_
  exact L 9 0 _ _ rfl rfl (by decide) (by decide)
