theorem f_128_4 : mj_fetch 128 4 = some (.iload_n 3, 0, 0) := by decide +kernel
theorem f_128_5 : mj_fetch 128 5 = some (.iload_n 1, 0, 0) := by decide +kernel
theorem f_128_6 : mj_fetch 128 6 = some (.if_icmp .ge 18, 0, 0) := by decide +kernel
theorem f_128_9 : mj_fetch 128 9 = some (.iload_n 2, 0, 0) := by decide +kernel
theorem f_128_10 : mj_fetch 128 10 = some (.aload_n 0, 0, 0) := by decide +kernel
theorem f_128_11 : mj_fetch 128 11 = some (.getfield 35, 11, 12) := by decide +kernel
theorem f_128_14 : mj_fetch 128 14 = some (.iload_n 3, 0, 0) := by decide +kernel
theorem f_128_15 : mj_fetch 128 15 = some (.iaload, 0, 0) := by decide +kernel
theorem f_128_16 : mj_fetch 128 16 = some (.iadd, 0, 0) := by decide +kernel
theorem f_128_17 : mj_fetch 128 17 = some (.istore_n 2, 0, 0) := by decide +kernel
theorem f_128_18 : mj_fetch 128 18 = some (.iinc 3 1, 0, 0) := by decide +kernel
theorem f_128_21 : mj_fetch 128 21 = some (.goto (-17), 0, 0) := by decide +kernel
theorem f_128_24 : mj_fetch 128 24 = some (.iload_n 2, 0, 0) := by decide +kernel
theorem f_128_25 : mj_fetch 128 25 = some (.ireturn, 0, 0) := by decide +kernel
theorem f_128_0 : mj_fetch 128 0 = some (.iconst 0, 0, 0) := by decide +kernel
theorem f_128_1 : mj_fetch 128 1 = some (.istore_n 2, 0, 0) := by decide +kernel
theorem f_128_2 : mj_fetch 128 2 = some (.iconst 0, 0, 0) := by decide +kernel
theorem f_128_3 : mj_fetch 128 3 = some (.istore_n 3, 0, 0) := by decide +kernel
theorem f_129_30 : mj_fetch 129 30 = some (.iload 6, 0, 0) := by decide +kernel
theorem f_129_32 : mj_fetch 129 32 = some (.bipush 6, 0, 0) := by decide +kernel
theorem f_129_34 : mj_fetch 129 34 = some (.if_icmp .ge 43, 0, 0) := by decide +kernel
theorem f_129_37 : mj_fetch 129 37 = some (.aload_n 0, 0, 0) := by decide +kernel
theorem f_129_38 : mj_fetch 129 38 = some (.getfield 26, 11, 9) := by decide +kernel
theorem f_129_41 : mj_fetch 129 41 = some (.iload 6, 0, 0) := by decide +kernel
theorem f_129_43 : mj_fetch 129 43 = some (.bipush 20, 0, 0) := by decide +kernel
theorem f_129_45 : mj_fetch 129 45 = some (.iastore, 0, 0) := by decide +kernel
theorem f_129_46 : mj_fetch 129 46 = some (.aload_n 0, 0, 0) := by decide +kernel
theorem f_129_47 : mj_fetch 129 47 = some (.getfield 32, 11, 11) := by decide +kernel
theorem f_129_50 : mj_fetch 129 50 = some (.iload 6, 0, 0) := by decide +kernel
theorem f_129_52 : mj_fetch 129 52 = some (.bipush 20, 0, 0) := by decide +kernel
theorem f_129_54 : mj_fetch 129 54 = some (.iastore, 0, 0) := by decide +kernel
theorem f_129_55 : mj_fetch 129 55 = some (.aload_n 0, 0, 0) := by decide +kernel
theorem f_129_56 : mj_fetch 129 56 = some (.getfield 35, 11, 12) := by decide +kernel
theorem f_129_59 : mj_fetch 129 59 = some (.iload 6, 0, 0) := by decide +kernel
theorem f_129_61 : mj_fetch 129 61 = some (.iconst 0, 0, 0) := by decide +kernel
theorem f_129_62 : mj_fetch 129 62 = some (.iastore, 0, 0) := by decide +kernel
theorem f_129_63 : mj_fetch 129 63 = some (.aload_n 0, 0, 0) := by decide +kernel
theorem f_129_64 : mj_fetch 129 64 = some (.getfield 38, 11, 13) := by decide +kernel
theorem f_129_67 : mj_fetch 129 67 = some (.iload 6, 0, 0) := by decide +kernel
theorem f_129_69 : mj_fetch 129 69 = some (.iconst 0, 0, 0) := by decide +kernel
theorem f_129_70 : mj_fetch 129 70 = some (.iastore, 0, 0) := by decide +kernel
theorem f_129_71 : mj_fetch 129 71 = some (.iinc 6 1, 0, 0) := by decide +kernel
theorem f_129_74 : mj_fetch 129 74 = some (.goto (-44), 0, 0) := by decide +kernel
def mm_sum (f : Nat → Int32) : Nat → Int32
  | 0 => nI 0
  | n + 1 => mm_sum f n + f n
def wd_rub (st : tk_R → tk_R) (lt : tk_R → Bool) : Nat → Nat → tk_R → Nat × tk_R
  | 0, k, T => (k, T)
  | n + 1, k, T => if k = 0 ∨ lt T = true then wd_rub st lt n (k + 1) (st T) else (k, T)
def wd_it (st : tk_R → tk_R) : Nat → tk_R → tk_R
  | 0, T => T
  | n + 1, T => wd_it st n (st T)
def wd_lt (rg z : Nat) (T : tk_R) : Bool := decide (mm_sum T.2.2.1 rg < nI (20 * (mm_pt z 2 + 1)))
def wd_0 : tk_R := (fun r => if r < 6 then nI 20 else 0, fun r => if r < 6 then nI 20 else 0, fun _ => 0, fun _ => 0)
/-- the rubbing: ticks, and the rings behind it -/
def wd_1 (M : Nat → Int32) (rg z : Nat) : Nat × tk_R := wd_rub (tk M rg (nI ((mm_pt z 0 + 1) * (mm_pt z 1 + 1))) (nI (mm_pt z 1 + 1)) 0) (wd_lt rg z) 60 0 wd_0
/-- the rings behind pressing and cooling -/
def wd_T (M : Nat → Int32) (rg z : Nat) : tk_R := wd_it (tk M rg (nI 0) (nI 0) 1) 30 (wd_it (tk M rg (nI 0) (nI (2 * (mm_pt z 1 + 1))) 0) 5 (wd_1 M rg z).2)
theorem mm_pt_lt (z a : Nat) (hz : z < 729) : mm_pt z a < 9 := by
  unfold mm_pt
  split
  · omega
  · split <;> omega

set_option maxRecDepth 20000 in
theorem outAll_l {h : mj_H} (S : SM h) {m : Nat} (hm : m ≤ 6) : ∀ (n r : Nat), r + n = m → mx 0 128 4 [.ref 33, .int (nI m), .int (mm_sum (mj_I h 42) r), .int (nI r)] [] h (fun r h' => r = some (.int (mm_sum (mj_I h 42) m)) ∧ h' = h) := by
  intro n
  induction n with
  | zero =>
    intro r hr
    have hrr : r = m := by omega
    subst hrr
    refine x_iload_n f_128_4 rfl ?_
    refine x_iload_n f_128_5 rfl ?_
    refine x_icmpN_ge (t := 24) f_128_6 (by decide) (by omega) (by omega) (fun c_1 => ?_) (fun c_1 => by omega)
    refine x_iload_n f_128_24 rfl ?_
    refine x_retI f_128_25 rfl ?_
    exact ⟨rfl, rfl⟩
  | succ n ih =>
    intro r hr
    refine x_iload_n f_128_4 rfl ?_
    refine x_iload_n f_128_5 rfl ?_
    refine x_icmpN_ge (t := 24) f_128_6 (by decide) (by omega) (by omega) (fun c_1 => by omega) (fun c_1 => ?_)
    refine x_iload_n f_128_9 rfl ?_
    refine x_aload_n f_128_10 rfl ?_
    refine x_getR f_128_11 S.k33 (by decide) S.r12 ?_
    refine x_iload_n f_128_14 rfl ?_
    refine x_iald (j := r) f_128_15 S.k42 (by omega) (by decide) ?_
    refine x_iadd f_128_16 ?_
    refine x_istore_n (ls1 := [.ref 33, .int (nI m), .int ((mm_sum (mj_I h 42) r) + (mj_I h 42 r)), .int (nI r)]) f_128_17 (Nat.le_of_ble_eq_true rfl) rfl ?_
    refine x_iinc (v := nI (r + 1)) (ls1 := [.ref 33, .int (nI m), .int ((mm_sum (mj_I h 42) r) + (mj_I h 42 r)), .int (nI (r + 1))]) f_128_18 rfl (by exact nI_add _ 1) rfl ?_
    refine x_goto (t := 4) f_128_21 (by decide) ?_
    exact ih (r + 1) (by omega)
theorem c_outAll {h : mj_H} (S : SM h) {m : Nat} (hm : m ≤ 6) : mxc 0 128 [.ref 33, .int (nI m)] h (fun r h' => r = some (.int (mm_sum (mj_I h 42) m)) ∧ h' = h) := by
  show mx 0 128 0 [.ref 33, .int (nI m), mj_unset, mj_unset] [] h _
  refine x_iconst (v := nI 0) f_128_0 (by decide) ?_
  refine x_istore_n (ls1 := [.ref 33, .int (nI m), .int (nI 0), mj_unset]) f_128_1 (Nat.le_of_ble_eq_true rfl) rfl ?_
  refine x_iconst (v := nI 0) f_128_2 (by decide) ?_
  refine x_istore_n (ls1 := [.ref 33, .int (nI m), .int (nI 0), .int (nI 0)]) f_128_3 (Nat.le_of_ble_eq_true rfl) rfl ?_
  exact outAll_l S hm m 0 (by omega)
set_option maxRecDepth 20000 in
set_option maxHeartbeats 4000000 in
theorem weld_l0 {h : mj_H} {j z rg : Nat} {Q : Option Value → mj_H → Prop} (K : ∀ g : mj_H, SM g → Rw h g [33, 39, 40, 41, 42, 43] → (∀ q, mj_I g 33 q = mj_I h 33 q) → (∀ q, mj_I g 39 q = if q < 6 then nI 20 else mj_I h 39 q) → (∀ q, mj_I g 41 q = if q < 6 then nI 20 else mj_I h 41 q) → (∀ q, mj_I g 42 q = if q < 6 then nI 0 else mj_I h 42 q) → (∀ q, mj_I g 43 q = if q < 6 then nI 0 else mj_I h 43 q) → mx 2 129 77 [.ref 33, .int (nI j), .int (nI z), .int (nI (mm_pt z 1 + 1)), .int (nI (mm_pt z 2 + 1)), .int (nI rg), .int (nI 6)] [] g Q) :
    ∀ (n r : Nat) (g : mj_H), r + n = 6 → SM g → Rw h g [33, 39, 40, 41, 42, 43] → (∀ q, mj_I g 33 q = mj_I h 33 q) → (∀ q, mj_I g 39 q = if q < r then nI 20 else mj_I h 39 q) → (∀ q, mj_I g 41 q = if q < r then nI 20 else mj_I h 41 q) → (∀ q, mj_I g 42 q = if q < r then nI 0 else mj_I h 42 q) → (∀ q, mj_I g 43 q = if q < r then nI 0 else mj_I h 43 q) → mx 2 129 30 [.ref 33, .int (nI j), .int (nI z), .int (nI (mm_pt z 1 + 1)), .int (nI (mm_pt z 2 + 1)), .int (nI rg), .int (nI r)] [] g Q := by
  intro n
  induction n with
  | zero =>
    intro r g hr S hR i33 i39 i41 i42 i43
    have hrr : r = 6 := by omega
    subst hrr
    refine x_iload f_129_30 rfl ?_
    refine x_bipush (v := nI 6) f_129_32 (by decide) ?_
    refine x_icmpN_ge (t := 77) f_129_34 (by decide) (by decide) (by decide) (fun c_1 => ?_) (fun c_1 => by omega)
    exact K g S hR i33 i39 i41 i42 i43
  | succ n ih =>
    intro r g hr S hR i33 i39 i41 i42 i43
    refine x_iload f_129_30 rfl ?_
    refine x_bipush (v := nI 6) f_129_32 (by decide) ?_
    refine x_icmpN_ge (t := 77) f_129_34 (by decide) (by omega) (by decide) (fun c_1 => by omega) (fun c_1 => ?_)
    refine x_aload_n f_129_37 rfl ?_
    refine x_getR f_129_38 S.k33 (by decide) S.r9 ?_
    refine x_iload f_129_41 rfl ?_
    refine x_bipush (v := nI 20) f_129_43 (by decide) ?_
    refine x_iast (j := r) f_129_45 S.k39 (by decide) (by omega) (by decide) ?_
    refine x_aload_n f_129_46 rfl ?_
    refine x_getR f_129_47 S.k33 (by decide) S.r11 ?_
    refine x_iload f_129_50 rfl ?_
    refine x_bipush (v := nI 20) f_129_52 (by decide) ?_
    refine x_iast (j := r) f_129_54 S.k41 (by decide) (by omega) (by decide) ?_
    refine x_aload_n f_129_55 rfl ?_
    refine x_getR f_129_56 S.k33 (by decide) S.r12 ?_
    refine x_iload f_129_59 rfl ?_
    refine x_iconst (v := nI 0) f_129_61 (by decide) ?_
    refine x_iast (j := r) f_129_62 S.k42 (by decide) (by omega) (by decide) ?_
    refine x_aload_n f_129_63 rfl ?_
    refine x_getR f_129_64 S.k33 (by decide) S.r13 ?_
    refine x_iload f_129_67 rfl ?_
    refine x_iconst (v := nI 0) f_129_69 (by decide) ?_
    refine x_iast (j := r) f_129_70 S.k43 (by decide) (by omega) (by decide) ?_
    refine x_iinc (v := nI (r + 1)) (ls1 := [.ref 33, .int (nI j), .int (nI z), .int (nI (mm_pt z 1 + 1)), .int (nI (mm_pt z 2 + 1)), .int (nI rg), .int (nI (r + 1))]) f_129_71 rfl (by exact nI_add _ 1) rfl ?_
    refine x_goto (t := 30) f_129_74 (by decide) ?_
    refine ih (r + 1) (mj_setI (mj_setI (mj_setI (mj_setI g 39 r (nI 20)) 41 r (nI 20)) 42 r (nI 0)) 43 r (nI 0)) (by omega) S ((((hR.set (by decide)).set (by decide)).set (by decide)).set (by decide)) (fun q => (congrFun (mj_I_other (a := 43) (b := 33) (by decide)) q).trans ((congrFun (mj_I_other (a := 42) (b := 33) (by decide)) q).trans ((congrFun (mj_I_other (a := 41) (b := 33) (by decide)) q).trans ((congrFun (mj_I_other (a := 39) (b := 33) (by decide)) q).trans (i33 q))))) (fun q => ?_) (fun q => ?_) (fun q => ?_) (fun q => ?_)
    · by_cases hqr : q = r
      · subst hqr
        exact ((congrFun (mj_I_other (a := 43) (b := 39) (by decide)) q).trans ((congrFun (mj_I_other (a := 42) (b := 39) (by decide)) q).trans ((congrFun (mj_I_other (a := 41) (b := 39) (by decide)) q).trans (mj_I_at _ 39 q _)))).trans (if_pos (Nat.lt_succ_self q)).symm
      · rw [mj_ifs hqr]
        exact (congrFun (mj_I_other (a := 43) (b := 39) (by decide)) q).trans ((congrFun (mj_I_other (a := 42) (b := 39) (by decide)) q).trans ((congrFun (mj_I_other (a := 41) (b := 39) (by decide)) q).trans ((mj_I_ne (a := 39) hqr).trans (i39 q))))
    · by_cases hqr : q = r
      · subst hqr
        exact ((congrFun (mj_I_other (a := 43) (b := 41) (by decide)) q).trans ((congrFun (mj_I_other (a := 42) (b := 41) (by decide)) q).trans (mj_I_at _ 41 q _))).trans (if_pos (Nat.lt_succ_self q)).symm
      · rw [mj_ifs hqr]
        exact (congrFun (mj_I_other (a := 43) (b := 41) (by decide)) q).trans ((congrFun (mj_I_other (a := 42) (b := 41) (by decide)) q).trans ((mj_I_ne (a := 41) hqr).trans ((congrFun (mj_I_other (a := 39) (b := 41) (by decide)) q).trans (i41 q))))
    · by_cases hqr : q = r
      · subst hqr
        exact ((congrFun (mj_I_other (a := 43) (b := 42) (by decide)) q).trans (mj_I_at _ 42 q _)).trans (if_pos (Nat.lt_succ_self q)).symm
      · rw [mj_ifs hqr]
        exact (congrFun (mj_I_other (a := 43) (b := 42) (by decide)) q).trans ((mj_I_ne (a := 42) hqr).trans ((congrFun (mj_I_other (a := 41) (b := 42) (by decide)) q).trans ((congrFun (mj_I_other (a := 39) (b := 42) (by decide)) q).trans (i42 q))))
    · by_cases hqr : q = r
      · subst hqr
        exact (mj_I_at _ 43 q _).trans (if_pos (Nat.lt_succ_self q)).symm
      · rw [mj_ifs hqr]
        exact (mj_I_ne (a := 43) hqr).trans ((congrFun (mj_I_other (a := 42) (b := 43) (by decide)) q).trans ((congrFun (mj_I_other (a := 41) (b := 43) (by decide)) q).trans ((congrFun (mj_I_other (a := 39) (b := 43) (by decide)) q).trans (i43 q))))
