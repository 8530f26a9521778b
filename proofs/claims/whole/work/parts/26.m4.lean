theorem f_127_257 : mj_fetch 127 257 = some (.iconst 0, 0, 0) := by decide +kernel
theorem f_127_258 : mj_fetch 127 258 = some (.istore 8, 0, 0) := by decide +kernel
theorem f_127_260 : mj_fetch 127 260 = some (.iload 8, 0, 0) := by decide +kernel
theorem f_127_262 : mj_fetch 127 262 = some (.iload 6, 0, 0) := by decide +kernel
theorem f_127_264 : mj_fetch 127 264 = some (.if_icmp .ge 88, 0, 0) := by decide +kernel
theorem f_127_267 : mj_fetch 127 267 = some (.aload_n 0, 0, 0) := by decide +kernel
theorem f_127_268 : mj_fetch 127 268 = some (.getfield 38, 11, 13) := by decide +kernel
theorem f_127_271 : mj_fetch 127 271 = some (.iload 8, 0, 0) := by decide +kernel
theorem f_127_273 : mj_fetch 127 273 = some (.iload 4, 0, 0) := by decide +kernel
theorem f_127_275 : mj_fetch 127 275 = some (.ifCond .eq 31, 0, 0) := by decide +kernel
theorem f_127_278 : mj_fetch 127 278 = some (.aload_n 0, 0, 0) := by decide +kernel
theorem f_127_279 : mj_fetch 127 279 = some (.getfield 38, 11, 13) := by decide +kernel
theorem f_127_282 : mj_fetch 127 282 = some (.iload 8, 0, 0) := by decide +kernel
theorem f_127_284 : mj_fetch 127 284 = some (.iaload, 0, 0) := by decide +kernel
theorem f_127_285 : mj_fetch 127 285 = some (.aload_n 0, 0, 0) := by decide +kernel
theorem f_127_286 : mj_fetch 127 286 = some (.getfield 26, 11, 9) := by decide +kernel
theorem f_127_289 : mj_fetch 127 289 = some (.iload 8, 0, 0) := by decide +kernel
theorem f_127_291 : mj_fetch 127 291 = some (.iaload, 0, 0) := by decide +kernel
theorem f_127_292 : mj_fetch 127 292 = some (.aload_n 0, 0, 0) := by decide +kernel
theorem f_127_293 : mj_fetch 127 293 = some (.getfield 29, 11, 10) := by decide +kernel
theorem f_127_296 : mj_fetch 127 296 = some (.iload 8, 0, 0) := by decide +kernel
theorem f_127_298 : mj_fetch 127 298 = some (.iaload, 0, 0) := by decide +kernel
theorem f_127_299 : mj_fetch 127 299 = some (.isub, 0, 0) := by decide +kernel
theorem f_127_300 : mj_fetch 127 300 = some (.invokestatic 123, 0, 3) := by decide +kernel
theorem f_127_303 : mj_fetch 127 303 = some (.goto 4, 0, 0) := by decide +kernel
theorem f_127_306 : mj_fetch 127 306 = some (.iconst 0, 0, 0) := by decide +kernel
theorem f_127_307 : mj_fetch 127 307 = some (.iastore, 0, 0) := by decide +kernel
theorem f_127_308 : mj_fetch 127 308 = some (.aload_n 0, 0, 0) := by decide +kernel
theorem f_127_309 : mj_fetch 127 309 = some (.getfield 26, 11, 9) := by decide +kernel
theorem f_127_312 : mj_fetch 127 312 = some (.iload 8, 0, 0) := by decide +kernel
theorem f_127_314 : mj_fetch 127 314 = some (.aload_n 0, 0, 0) := by decide +kernel
theorem f_127_315 : mj_fetch 127 315 = some (.getfield 29, 11, 10) := by decide +kernel
theorem f_127_318 : mj_fetch 127 318 = some (.iload 8, 0, 0) := by decide +kernel
theorem f_127_320 : mj_fetch 127 320 = some (.iaload, 0, 0) := by decide +kernel
theorem f_127_321 : mj_fetch 127 321 = some (.iastore, 0, 0) := by decide +kernel
theorem f_127_322 : mj_fetch 127 322 = some (.aload_n 0, 0, 0) := by decide +kernel
theorem f_127_323 : mj_fetch 127 323 = some (.getfield 32, 11, 11) := by decide +kernel
theorem f_127_326 : mj_fetch 127 326 = some (.iload 8, 0, 0) := by decide +kernel
theorem f_127_328 : mj_fetch 127 328 = some (.aload_n 0, 0, 0) := by decide +kernel
theorem f_127_329 : mj_fetch 127 329 = some (.getfield 32, 11, 11) := by decide +kernel
theorem f_127_332 : mj_fetch 127 332 = some (.iload 8, 0, 0) := by decide +kernel
theorem f_127_334 : mj_fetch 127 334 = some (.iaload, 0, 0) := by decide +kernel
theorem f_127_335 : mj_fetch 127 335 = some (.aload_n 0, 0, 0) := by decide +kernel
theorem f_127_336 : mj_fetch 127 336 = some (.getfield 26, 11, 9) := by decide +kernel
theorem f_127_339 : mj_fetch 127 339 = some (.iload 8, 0, 0) := by decide +kernel
theorem f_127_341 : mj_fetch 127 341 = some (.iaload, 0, 0) := by decide +kernel
theorem f_127_342 : mj_fetch 127 342 = some (.invokestatic 123, 0, 3) := by decide +kernel
theorem f_127_345 : mj_fetch 127 345 = some (.iastore, 0, 0) := by decide +kernel
theorem f_127_346 : mj_fetch 127 346 = some (.iinc 8 1, 0, 0) := by decide +kernel
theorem f_127_349 : mj_fetch 127 349 = some (.goto (-89), 0, 0) := by decide +kernel
theorem f_127_352 : mj_fetch 127 352 = some (.return_, 0, 0) := by decide +kernel
theorem f_127_0 : mj_fetch 127 0 = some (.bipush 9, 0, 0) := by decide +kernel
theorem f_127_2 : mj_fetch 127 2 = some (.iload_n 1, 0, 0) := by decide +kernel
theorem f_127_3 : mj_fetch 127 3 = some (.imul, 0, 0) := by decide +kernel
theorem f_127_4 : mj_fetch 127 4 = some (.istore 5, 0, 0) := by decide +kernel
theorem f_127_6 : mj_fetch 127 6 = some (.aload_n 0, 0, 0) := by decide +kernel
theorem f_127_7 : mj_fetch 127 7 = some (.getfield 17, 11, 4) := by decide +kernel
theorem f_127_10 : mj_fetch 127 10 = some (.iload 5, 0, 0) := by decide +kernel
theorem f_127_12 : mj_fetch 127 12 = some (.bipush 8, 0, 0) := by decide +kernel
theorem f_127_14 : mj_fetch 127 14 = some (.iadd, 0, 0) := by decide +kernel
theorem f_127_15 : mj_fetch 127 15 = some (.iaload, 0, 0) := by decide +kernel
theorem f_127_16 : mj_fetch 127 16 = some (.istore 6, 0, 0) := by decide +kernel
theorem f_127_18 : mj_fetch 127 18 = some (.aload_n 0, 0, 0) := by decide +kernel
theorem f_127_19 : mj_fetch 127 19 = some (.getfield 17, 11, 4) := by decide +kernel
theorem f_127_22 : mj_fetch 127 22 = some (.iload 5, 0, 0) := by decide +kernel
theorem f_127_24 : mj_fetch 127 24 = some (.iconst 2, 0, 0) := by decide +kernel
theorem f_127_25 : mj_fetch 127 25 = some (.iadd, 0, 0) := by decide +kernel
theorem f_127_26 : mj_fetch 127 26 = some (.iaload, 0, 0) := by decide +kernel
theorem f_127_27 : mj_fetch 127 27 = some (.istore 7, 0, 0) := by decide +kernel
theorem f_127_29 : mj_fetch 127 29 = some (.iconst 0, 0, 0) := by decide +kernel
theorem f_127_30 : mj_fetch 127 30 = some (.istore 8, 0, 0) := by decide +kernel
set_option maxRecDepth 20000 in
set_option maxHeartbeats 4000000 in
theorem tick_l2 {h : mj_H} {j rg : Nat} (hj : j < 20) (hrg : 2 ≤ rg ∧ rg ≤ 6) (work push : Int32) {c : Nat} (hc : c ≤ 1) (nx ot : Nat → Int32) (v9 v10 v11 v12 : Value) {Q : Option Value → mj_H → Prop}
    (K : ∀ g : mj_H, SM g → Rw h g [39, 40, 41, 42, 43] → (∀ q, q < rg → mj_I g 40 q = nx q) → (∀ q, mj_I g 39 q = if q < rg then nx q else mj_I h 39 q) → (∀ q, mj_I g 41 q = if q < rg then tk_max (mj_I h 41 q) (nx q) else mj_I h 41 q) → (∀ q, mj_I g 42 q = ot q) → (∀ q, mj_I g 43 q = if q < rg then (if c = 0 then nI 0 else tk_max (mj_I h 43 q) (mj_I h 39 q - nx q)) else mj_I h 43 q) → Q none g) :
    ∀ (n r : Nat) (g : mj_H), r + n = rg → SM g → Rw h g [39, 40, 41, 42, 43] → (∀ q, q < rg → mj_I g 40 q = nx q) → (∀ q, mj_I g 39 q = if q < r then nx q else mj_I h 39 q) → (∀ q, mj_I g 41 q = if q < r then tk_max (mj_I h 41 q) (nx q) else mj_I h 41 q) → (∀ q, mj_I g 42 q = ot q) → (∀ q, mj_I g 43 q = if q < r then (if c = 0 then nI 0 else tk_max (mj_I h 43 q) (mj_I h 39 q - nx q)) else mj_I h 43 q) → mx 1 127 260 [.ref 33, .int (nI j), .int work, .int push, .int (nI c), .int (nI (9 * j)), .int (nI rg), .int (mj_I h 36 (9 * j + 2)), .int (nI r), v9, v10, v11, v12] [] g Q := by
  intro n
  induction n with
  | zero =>
    intro r g hr S hR i40 i39 i41 i42 i43
    have hrr : r = rg := by omega
    subst hrr
    refine x_iload f_127_260 rfl ?_
    refine x_iload f_127_262 rfl ?_
    refine x_icmpN_ge (t := 352) f_127_264 (by decide) (by omega) (by omega) (fun c_1 => ?_) (fun c_1 => by omega)
    refine x_retV f_127_352 rfl ?_
    exact K g S hR i40 i39 i41 i42 i43
  | succ n ih =>
    intro r g hr S hR i40 i39 i41 i42 i43
    have i39r : mj_I g 39 r = mj_I h 39 r := by rw [i39, if_neg (by omega)]
    have i41r : mj_I g 41 r = mj_I h 41 r := by rw [i41, if_neg (by omega)]
    have i43r : mj_I g 43 r = mj_I h 43 r := by rw [i43, if_neg (by omega)]
    refine x_iload f_127_260 rfl ?_
    refine x_iload f_127_262 rfl ?_
    refine x_icmpN_ge (t := 352) f_127_264 (by decide) (by omega) (by omega) (fun c_1 => by omega) (fun c_1 => ?_)
    refine x_aload_n f_127_267 rfl ?_
    refine x_getR f_127_268 S.k33 (by decide) S.r13 ?_
    refine x_iload f_127_271 rfl ?_
    refine x_iload f_127_273 rfl ?_
    refine x_ifN_eq (t := 306) f_127_275 (by decide) (by omega) (fun c_c => ?_) (fun c_c => ?_)
    · refine x_iconst (v := nI 0) f_127_306 (by decide) ?_
      refine x_iast (j := r) f_127_307 S.k43 (by decide) (by omega) (by decide) ?_
      refine x_aload_n f_127_308 rfl ?_
      refine x_getR f_127_309 S.k33 (by decide) S.r9 ?_
      refine x_iload f_127_312 rfl ?_
      refine x_aload_n f_127_314 rfl ?_
      refine x_getR f_127_315 S.k33 (by decide) S.r10 ?_
      refine x_iload f_127_318 rfl ?_
      refine x_iald (j := r) f_127_320 S.k40 (by omega) (by decide) ?_
      refine x_topi (w := nx r) ((congrFun (mj_I_other (by decide)) _).trans (i40 r (by omega))) ?_
      refine x_iast (j := r) f_127_321 S.k39 (by decide) (by omega) (by decide) ?_
      refine x_aload_n f_127_322 rfl ?_
      refine x_getR f_127_323 S.k33 (by decide) S.r11 ?_
      refine x_iload f_127_326 rfl ?_
      refine x_aload_n f_127_328 rfl ?_
      refine x_getR f_127_329 S.k33 (by decide) S.r11 ?_
      refine x_iload f_127_332 rfl ?_
      refine x_iald (j := r) f_127_334 S.k41 (by omega) (by decide) ?_
      refine x_topi (w := mj_I h 41 r) ((congrFun (mj_I_other (by decide)) _).trans ((congrFun (mj_I_other (by decide)) _).trans (i41r))) ?_
      refine x_aload_n f_127_335 rfl ?_
      refine x_getR f_127_336 S.k33 (by decide) S.r9 ?_
      refine x_iload f_127_339 rfl ?_
      refine x_iald (j := r) f_127_341 S.k39 (by omega) (by decide) ?_
      refine x_topi (w := nx r) (mj_I_at _ _ _ _) ?_
      refine x_max f_127_342 (Nat.le_of_ble_eq_true rfl) ?_
      refine x_iast (j := r) f_127_345 S.k41 (by decide) (by omega) (by decide) ?_
      refine x_iinc (v := nI (r + 1)) (ls1 := [.ref 33, .int (nI j), .int work, .int push, .int (nI c), .int (nI (9 * j)), .int (nI rg), .int (mj_I h 36 (9 * j + 2)), .int (nI (r + 1)), v9, v10, v11, v12]) f_127_346 rfl (by exact nI_add _ 1) rfl ?_
      refine x_goto (t := 260) f_127_349 (by decide) ?_
      refine ih (r + 1) (mj_setI (mj_setI (mj_setI g 43 r (nI 0)) 39 r (nx r)) 41 r (if (mj_I h 41 r) < (nx r) then (nx r) else (mj_I h 41 r))) (by omega) S (((hR.set (by decide)).set (by decide)).set (by decide)) (fun q hq => ?_) (fun q => ?_) (fun q => ?_) (fun q => ?_) (fun q => ?_)
      · exact (congrFun (mj_I_other (a := 41) (b := 40) (by decide)) q).trans ((congrFun (mj_I_other (a := 39) (b := 40) (by decide)) q).trans ((congrFun (mj_I_other (a := 43) (b := 40) (by decide)) q).trans (i40 q hq)))
      · by_cases hqr : q = r
        · subst hqr
          exact ((congrFun (mj_I_other (a := 41) (b := 39) (by decide)) q).trans (mj_I_at _ 39 q _)).trans (if_pos (Nat.lt_succ_self q)).symm
        · rw [mj_ifs hqr]
          exact (congrFun (mj_I_other (a := 41) (b := 39) (by decide)) q).trans ((mj_I_ne (a := 39) hqr).trans ((congrFun (mj_I_other (a := 43) (b := 39) (by decide)) q).trans (i39 q)))
      · by_cases hqr : q = r
        · subst hqr
          exact (mj_I_at _ 41 q _).trans (if_pos (Nat.lt_succ_self q)).symm
        · rw [mj_ifs hqr]
          exact (mj_I_ne (a := 41) hqr).trans ((congrFun (mj_I_other (a := 39) (b := 41) (by decide)) q).trans ((congrFun (mj_I_other (a := 43) (b := 41) (by decide)) q).trans (i41 q)))
      · exact (congrFun (mj_I_other (a := 41) (b := 42) (by decide)) q).trans ((congrFun (mj_I_other (a := 39) (b := 42) (by decide)) q).trans ((congrFun (mj_I_other (a := 43) (b := 42) (by decide)) q).trans (i42 q)))
      · by_cases hqr : q = r
        · subst hqr
          refine ((congrFun (mj_I_other (a := 41) (b := 43) (by decide)) q).trans ((congrFun (mj_I_other (a := 39) (b := 43) (by decide)) q).trans (mj_I_at _ 43 q _))).trans ?_
          rw [if_pos (Nat.lt_succ_self q), if_pos c_c]
        · rw [mj_ifs hqr]
          exact (congrFun (mj_I_other (a := 41) (b := 43) (by decide)) q).trans ((congrFun (mj_I_other (a := 39) (b := 43) (by decide)) q).trans ((mj_I_ne (a := 43) hqr).trans (i43 q)))
    · refine x_aload_n f_127_278 rfl ?_
      refine x_getR f_127_279 S.k33 (by decide) S.r13 ?_
      refine x_iload f_127_282 rfl ?_
      refine x_iald (j := r) f_127_284 S.k43 (by omega) (by decide) ?_
      refine x_topi (w := mj_I h 43 r) i43r ?_
      refine x_aload_n f_127_285 rfl ?_
      refine x_getR f_127_286 S.k33 (by decide) S.r9 ?_
      refine x_iload f_127_289 rfl ?_
      refine x_iald (j := r) f_127_291 S.k39 (by omega) (by decide) ?_
      refine x_topi (w := mj_I h 39 r) i39r ?_
      refine x_aload_n f_127_292 rfl ?_
      refine x_getR f_127_293 S.k33 (by decide) S.r10 ?_
      refine x_iload f_127_296 rfl ?_
      refine x_iald (j := r) f_127_298 S.k40 (by omega) (by decide) ?_
      refine x_topi (w := nx r) (i40 r (by omega)) ?_
      refine x_isub f_127_299 ?_
      refine x_max f_127_300 (Nat.le_of_ble_eq_true rfl) ?_
      refine x_goto (t := 307) f_127_303 (by decide) ?_
      refine x_iast (j := r) f_127_307 S.k43 (by decide) (by omega) (by decide) ?_
      refine x_aload_n f_127_308 rfl ?_
      refine x_getR f_127_309 S.k33 (by decide) S.r9 ?_
      refine x_iload f_127_312 rfl ?_
      refine x_aload_n f_127_314 rfl ?_
      refine x_getR f_127_315 S.k33 (by decide) S.r10 ?_
      refine x_iload f_127_318 rfl ?_
      refine x_iald (j := r) f_127_320 S.k40 (by omega) (by decide) ?_
      refine x_topi (w := nx r) ((congrFun (mj_I_other (by decide)) _).trans (i40 r (by omega))) ?_
      refine x_iast (j := r) f_127_321 S.k39 (by decide) (by omega) (by decide) ?_
      refine x_aload_n f_127_322 rfl ?_
      refine x_getR f_127_323 S.k33 (by decide) S.r11 ?_
      refine x_iload f_127_326 rfl ?_
      refine x_aload_n f_127_328 rfl ?_
      refine x_getR f_127_329 S.k33 (by decide) S.r11 ?_
      refine x_iload f_127_332 rfl ?_
      refine x_iald (j := r) f_127_334 S.k41 (by omega) (by decide) ?_
      refine x_topi (w := mj_I h 41 r) ((congrFun (mj_I_other (by decide)) _).trans ((congrFun (mj_I_other (by decide)) _).trans (i41r))) ?_
      refine x_aload_n f_127_335 rfl ?_
      refine x_getR f_127_336 S.k33 (by decide) S.r9 ?_
      refine x_iload f_127_339 rfl ?_
      refine x_iald (j := r) f_127_341 S.k39 (by omega) (by decide) ?_
      refine x_topi (w := nx r) (mj_I_at _ _ _ _) ?_
      refine x_max f_127_342 (Nat.le_of_ble_eq_true rfl) ?_
      refine x_iast (j := r) f_127_345 S.k41 (by decide) (by omega) (by decide) ?_
      refine x_iinc (v := nI (r + 1)) (ls1 := [.ref 33, .int (nI j), .int work, .int push, .int (nI c), .int (nI (9 * j)), .int (nI rg), .int (mj_I h 36 (9 * j + 2)), .int (nI (r + 1)), v9, v10, v11, v12]) f_127_346 rfl (by exact nI_add _ 1) rfl ?_
      refine x_goto (t := 260) f_127_349 (by decide) ?_
      refine ih (r + 1) (mj_setI (mj_setI (mj_setI g 43 r (if (mj_I h 43 r) < ((mj_I h 39 r) - (nx r)) then ((mj_I h 39 r) - (nx r)) else (mj_I h 43 r))) 39 r (nx r)) 41 r (if (mj_I h 41 r) < (nx r) then (nx r) else (mj_I h 41 r))) (by omega) S (((hR.set (by decide)).set (by decide)).set (by decide)) (fun q hq => ?_) (fun q => ?_) (fun q => ?_) (fun q => ?_) (fun q => ?_)
      · exact (congrFun (mj_I_other (a := 41) (b := 40) (by decide)) q).trans ((congrFun (mj_I_other (a := 39) (b := 40) (by decide)) q).trans ((congrFun (mj_I_other (a := 43) (b := 40) (by decide)) q).trans (i40 q hq)))
      · by_cases hqr : q = r
        · subst hqr
          exact ((congrFun (mj_I_other (a := 41) (b := 39) (by decide)) q).trans (mj_I_at _ 39 q _)).trans (if_pos (Nat.lt_succ_self q)).symm
        · rw [mj_ifs hqr]
          exact (congrFun (mj_I_other (a := 41) (b := 39) (by decide)) q).trans ((mj_I_ne (a := 39) hqr).trans ((congrFun (mj_I_other (a := 43) (b := 39) (by decide)) q).trans (i39 q)))
      · by_cases hqr : q = r
        · subst hqr
          exact (mj_I_at _ 41 q _).trans (if_pos (Nat.lt_succ_self q)).symm
        · rw [mj_ifs hqr]
          exact (mj_I_ne (a := 41) hqr).trans ((congrFun (mj_I_other (a := 39) (b := 41) (by decide)) q).trans ((congrFun (mj_I_other (a := 43) (b := 41) (by decide)) q).trans (i41 q)))
      · exact (congrFun (mj_I_other (a := 41) (b := 42) (by decide)) q).trans ((congrFun (mj_I_other (a := 39) (b := 42) (by decide)) q).trans ((congrFun (mj_I_other (a := 43) (b := 42) (by decide)) q).trans (i42 q)))
      · by_cases hqr : q = r
        · subst hqr
          refine ((congrFun (mj_I_other (a := 41) (b := 43) (by decide)) q).trans ((congrFun (mj_I_other (a := 39) (b := 43) (by decide)) q).trans (mj_I_at _ 43 q _))).trans ?_
          rw [if_pos (Nat.lt_succ_self q), if_neg c_c]
          rfl
        · rw [mj_ifs hqr]
          exact (congrFun (mj_I_other (a := 41) (b := 43) (by decide)) q).trans ((congrFun (mj_I_other (a := 39) (b := 43) (by decide)) q).trans ((mj_I_ne (a := 43) hqr).trans (i43 q)))
set_option maxRecDepth 20000 in
theorem c_tick {h : mj_H} (S : SM h) {j rg : Nat} (hj : j < 20) (e_rg : mj_I h 36 (9 * j + 8) = nI rg) (hrg : 2 ≤ rg ∧ rg ≤ 6) (h1 : ¬ mj_I h 36 (9 * j + 1) = 0) (h4 : ¬ mj_I h 36 (9 * j + 4) = 0) (work push : Int32) {c : Nat} (hc : c ≤ 1) : mxc 1 127 [.ref 33, .int (nI j), .int work, .int push, .int (nI c)] h (fun r h' => r = none ∧ Rw h h' [39, 40, 41, 42, 43] ∧ mT h' = tk (mM h j) rg work push c (mT h)) := by
  show mx 1 127 0 [.ref 33, .int (nI j), .int work, .int push, .int (nI c), mj_unset, mj_unset, mj_unset, mj_unset, mj_unset, mj_unset, mj_unset, mj_unset] [] h _
  refine x_bipush (v := nI 9) f_127_0 (by decide) ?_
  refine x_iload_n f_127_2 rfl ?_
  refine x_imulN f_127_3 ?_
  refine x_istore (ls1 := [.ref 33, .int (nI j), .int work, .int push, .int (nI c), .int (nI (9 * j)), mj_unset, mj_unset, mj_unset, mj_unset, mj_unset, mj_unset, mj_unset]) f_127_4 (Nat.le_of_ble_eq_true rfl) rfl ?_
  refine x_aload_n f_127_6 rfl ?_
  refine x_getR f_127_7 S.k33 (by decide) S.r4 ?_
  refine x_iload f_127_10 rfl ?_
  refine x_bipush (v := nI 8) f_127_12 (by decide) ?_
  refine x_iaddN f_127_14 ?_
  refine x_iald (j := ((9 * j) + 8)) f_127_15 S.k36 (by omega) (by decide) ?_
  refine x_topi (w := nI rg) e_rg ?_
  refine x_istore (ls1 := [.ref 33, .int (nI j), .int work, .int push, .int (nI c), .int (nI (9 * j)), .int (nI rg), mj_unset, mj_unset, mj_unset, mj_unset, mj_unset, mj_unset]) f_127_16 (Nat.le_of_ble_eq_true rfl) rfl ?_
  refine x_aload_n f_127_18 rfl ?_
  refine x_getR f_127_19 S.k33 (by decide) S.r4 ?_
  refine x_iload f_127_22 rfl ?_
  refine x_iconst (v := nI 2) f_127_24 (by decide) ?_
  refine x_iaddN f_127_25 ?_
  refine x_iald (j := ((9 * j) + 2)) f_127_26 S.k36 (by omega) (by decide) ?_
  refine x_istore (ls1 := [.ref 33, .int (nI j), .int work, .int push, .int (nI c), .int (nI (9 * j)), .int (nI rg), .int (mj_I h 36 ((9 * j) + 2)), mj_unset, mj_unset, mj_unset, mj_unset, mj_unset]) f_127_27 (Nat.le_of_ble_eq_true rfl) rfl ?_
  refine x_iconst (v := nI 0) f_127_29 (by decide) ?_
  refine x_istore (ls1 := [.ref 33, .int (nI j), .int work, .int push, .int (nI c), .int (nI (9 * j)), .int (nI rg), .int (mj_I h 36 ((9 * j) + 2)), .int (nI 0), mj_unset, mj_unset, mj_unset, mj_unset]) f_127_30 (Nat.le_of_ble_eq_true rfl) rfl ?_
  refine tick_l1 hj e_rg hrg h1 h4 work push c ?_ rg 0 h _ _ _ _ (by omega) S (Rw.rf _ _) (fun q hq => by omega) (fun q => by rw [if_neg (by omega)])
  intro g v9 v10 v11 v12 S1 hR1 i40 i42
  refine x_iconst (v := nI 0) f_127_257 (by decide) ?_
  refine x_istore (ls1 := [.ref 33, .int (nI j), .int work, .int push, .int (nI c), .int (nI (9 * j)), .int (nI rg), .int (mj_I h 36 (9 * j + 2)), .int (nI 0), v9, v10, v11, v12]) f_127_258 (Nat.le_of_ble_eq_true rfl) rfl ?_
  refine tick_l2 hj hrg work push hc (tk_nx (mM h j) rg (mj_I h 39) work) (fun q => if q < rg then tk_ot (mM h j) (mj_I h 39) (mj_I h 42) push q else mj_I h 42 q) v9 v10 v11 v12 ?_ rg 0 g (by omega) S1 (hR1.mono (by decide)) i40 (fun q => by rw [if_neg (by omega)]; exact congrFun (hR1.i (by decide)) q) (fun q => by rw [if_neg (by omega)]; exact congrFun (hR1.i (by decide)) q) i42 (fun q => by rw [if_neg (by omega)]; exact congrFun (hR1.i (by decide)) q)
  intro g2 S2 hR2 j40 j39 j41 j42 j43
  refine ⟨rfl, hR2, ?_⟩
  unfold mT tk
  exact Prod.ext (funext j39) (Prod.ext (funext j41) (Prod.ext (funext j42) (funext j43)))
