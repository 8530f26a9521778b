theorem f_165_5 : mj_fetch 165 5 = some (.iload 4, 0, 0) := by decide +kernel
theorem f_165_7 : mj_fetch 165 7 = some (.aload_n 0, 0, 0) := by decide +kernel
theorem f_165_8 : mj_fetch 165 8 = some (.getfield 255, 11, 41) := by decide +kernel
theorem f_165_11 : mj_fetch 165 11 = some (.if_icmp .ge 51, 0, 0) := by decide +kernel
theorem f_165_14 : mj_fetch 165 14 = some (.aload_n 0, 0, 0) := by decide +kernel
theorem f_165_15 : mj_fetch 165 15 = some (.getfield 75, 11, 37) := by decide +kernel
theorem f_165_18 : mj_fetch 165 18 = some (.iload 4, 0, 0) := by decide +kernel
theorem f_165_20 : mj_fetch 165 20 = some (.iaload, 0, 0) := by decide +kernel
theorem f_165_21 : mj_fetch 165 21 = some (.iload_n 1, 0, 0) := by decide +kernel
theorem f_165_22 : mj_fetch 165 22 = some (.if_icmp .ne 32, 0, 0) := by decide +kernel
theorem f_165_25 : mj_fetch 165 25 = some (.aload_n 0, 0, 0) := by decide +kernel
theorem f_165_26 : mj_fetch 165 26 = some (.getfield 81, 11, 39) := by decide +kernel
theorem f_165_29 : mj_fetch 165 29 = some (.iload 4, 0, 0) := by decide +kernel
theorem f_165_31 : mj_fetch 165 31 = some (.iaload, 0, 0) := by decide +kernel
theorem f_165_32 : mj_fetch 165 32 = some (.iload_n 2, 0, 0) := by decide +kernel
theorem f_165_33 : mj_fetch 165 33 = some (.if_icmp .gt 21, 0, 0) := by decide +kernel
theorem f_165_36 : mj_fetch 165 36 = some (.aload_n 0, 0, 0) := by decide +kernel
theorem f_165_37 : mj_fetch 165 37 = some (.getfield 78, 11, 38) := by decide +kernel
theorem f_165_40 : mj_fetch 165 40 = some (.iload 4, 0, 0) := by decide +kernel
theorem f_165_42 : mj_fetch 165 42 = some (.baload, 0, 0) := by decide +kernel
theorem f_165_43 : mj_fetch 165 43 = some (.ifCond .eq 7, 0, 0) := by decide +kernel
theorem f_165_46 : mj_fetch 165 46 = some (.iconst 1, 0, 0) := by decide +kernel
theorem f_165_47 : mj_fetch 165 47 = some (.goto 8, 0, 0) := by decide +kernel
theorem f_165_50 : mj_fetch 165 50 = some (.iconst 2, 0, 0) := by decide +kernel
theorem f_165_51 : mj_fetch 165 51 = some (.goto 4, 0, 0) := by decide +kernel
theorem f_165_54 : mj_fetch 165 54 = some (.iload_n 3, 0, 0) := by decide +kernel
theorem f_165_55 : mj_fetch 165 55 = some (.istore_n 3, 0, 0) := by decide +kernel
theorem f_165_56 : mj_fetch 165 56 = some (.iinc 4 1, 0, 0) := by decide +kernel
theorem f_165_59 : mj_fetch 165 59 = some (.goto (-54), 0, 0) := by decide +kernel
theorem f_165_62 : mj_fetch 165 62 = some (.iload_n 3, 0, 0) := by decide +kernel
theorem f_165_63 : mj_fetch 165 63 = some (.ireturn, 0, 0) := by decide +kernel
theorem f_165_0 : mj_fetch 165 0 = some (.iconst 0, 0, 0) := by decide +kernel
theorem f_165_1 : mj_fetch 165 1 = some (.istore_n 3, 0, 0) := by decide +kernel
theorem f_165_2 : mj_fetch 165 2 = some (.iconst 0, 0, 0) := by decide +kernel
theorem f_165_3 : mj_fetch 165 3 = some (.istore 4, 0, 0) := by decide +kernel
theorem f_166_0 : mj_fetch 166 0 = some (.iload_n 1, 0, 0) := by decide +kernel
theorem f_166_1 : mj_fetch 166 1 = some (.iconst 0, 0, 0) := by decide +kernel
theorem f_166_2 : mj_fetch 166 2 = some (.aload_n 0, 0, 0) := by decide +kernel
theorem f_166_3 : mj_fetch 166 3 = some (.getfield 252, 11, 40) := by decide +kernel
theorem f_166_6 : mj_fetch 166 6 = some (.iconst 1, 0, 0) := by decide +kernel
theorem f_166_7 : mj_fetch 166 7 = some (.isub, 0, 0) := by decide +kernel
theorem f_166_8 : mj_fetch 166 8 = some (.invokestatic 100, 112, 0) := by decide +kernel
theorem f_166_11 : mj_fetch 166 11 = some (.ifCond .eq 34, 0, 0) := by decide +kernel
theorem f_166_14 : mj_fetch 166 14 = some (.iload_n 2, 0, 0) := by decide +kernel
theorem f_166_15 : mj_fetch 166 15 = some (.iconst 0, 0, 0) := by decide +kernel
theorem f_166_16 : mj_fetch 166 16 = some (.aload_n 0, 0, 0) := by decide +kernel
theorem f_166_17 : mj_fetch 166 17 = some (.getfield 104, 11, 0) := by decide +kernel
theorem f_166_20 : mj_fetch 166 20 = some (.invokestatic 100, 112, 0) := by decide +kernel
theorem f_166_23 : mj_fetch 166 23 = some (.ifCond .eq 22, 0, 0) := by decide +kernel
theorem f_166_26 : mj_fetch 166 26 = some (.aload_n 0, 0, 0) := by decide +kernel
theorem f_166_27 : mj_fetch 166 27 = some (.getfield 72, 11, 36) := by decide +kernel
theorem f_166_30 : mj_fetch 166 30 = some (.iload_n 1, 0, 0) := by decide +kernel
theorem f_166_31 : mj_fetch 166 31 = some (.iaload, 0, 0) := by decide +kernel
theorem f_166_32 : mj_fetch 166 32 = some (.iload_n 2, 0, 0) := by decide +kernel
theorem f_166_33 : mj_fetch 166 33 = some (.if_icmp .gt 12, 0, 0) := by decide +kernel
theorem f_166_36 : mj_fetch 166 36 = some (.aload_n 0, 0, 0) := by decide +kernel
theorem f_166_37 : mj_fetch 166 37 = some (.iload_n 1, 0, 0) := by decide +kernel
theorem f_166_38 : mj_fetch 166 38 = some (.iload_n 2, 0, 0) := by decide +kernel
theorem f_166_39 : mj_fetch 166 39 = some (.invokevirtual 258, 165, 0) := by decide +kernel
theorem f_166_42 : mj_fetch 166 42 = some (.goto 4, 0, 0) := by decide +kernel
theorem f_166_45 : mj_fetch 166 45 = some (.iconst (-1), 0, 0) := by decide +kernel
theorem f_166_46 : mj_fetch 166 46 = some (.ireturn, 0, 0) := by decide +kernel
theorem f_167_18 : mj_fetch 167 18 = some (.iload_n 3, 0, 0) := by decide +kernel
theorem f_167_19 : mj_fetch 167 19 = some (.aload_n 0, 0, 0) := by decide +kernel
theorem f_167_20 : mj_fetch 167 20 = some (.getfield 252, 11, 40) := by decide +kernel
theorem f_167_23 : mj_fetch 167 23 = some (.if_icmp .ge 68, 0, 0) := by decide +kernel
theorem f_167_26 : mj_fetch 167 26 = some (.aload_n 0, 0, 0) := by decide +kernel
theorem f_167_27 : mj_fetch 167 27 = some (.iload_n 3, 0, 0) := by decide +kernel
theorem f_167_28 : mj_fetch 167 28 = some (.iload_n 1, 0, 0) := by decide +kernel
theorem f_167_29 : mj_fetch 167 29 = some (.invokevirtual 258, 165, 0) := by decide +kernel
theorem f_167_32 : mj_fetch 167 32 = some (.istore 4, 0, 0) := by decide +kernel
theorem f_167_34 : mj_fetch 167 34 = some (.iload_n 2, 0, 0) := by decide +kernel
theorem f_167_35 : mj_fetch 167 35 = some (.iload 4, 0, 0) := by decide +kernel
theorem f_167_37 : mj_fetch 167 37 = some (.ifCond .eq 45, 0, 0) := by decide +kernel
theorem f_167_40 : mj_fetch 167 40 = some (.iload 4, 0, 0) := by decide +kernel
theorem f_167_42 : mj_fetch 167 42 = some (.iconst 1, 0, 0) := by decide +kernel
theorem f_167_43 : mj_fetch 167 43 = some (.if_icmp .ne 7, 0, 0) := by decide +kernel
theorem f_167_46 : mj_fetch 167 46 = some (.iconst 1, 0, 0) := by decide +kernel
theorem f_167_47 : mj_fetch 167 47 = some (.goto 4, 0, 0) := by decide +kernel
theorem f_167_50 : mj_fetch 167 50 = some (.iconst 0, 0, 0) := by decide +kernel
theorem f_167_51 : mj_fetch 167 51 = some (.aload_n 0, 0, 0) := by decide +kernel
theorem f_167_52 : mj_fetch 167 52 = some (.aload_n 0, 0, 0) := by decide +kernel
theorem f_167_53 : mj_fetch 167 53 = some (.getfield 66, 11, 34) := by decide +kernel
theorem f_167_56 : mj_fetch 167 56 = some (.iload_n 3, 0, 0) := by decide +kernel
theorem f_167_57 : mj_fetch 167 57 = some (.iaload, 0, 0) := by decide +kernel
theorem f_167_58 : mj_fetch 167 58 = some (.aload_n 0, 0, 0) := by decide +kernel
theorem f_167_59 : mj_fetch 167 59 = some (.getfield 69, 11, 35) := by decide +kernel
theorem f_167_62 : mj_fetch 167 62 = some (.iload_n 3, 0, 0) := by decide +kernel
theorem f_167_63 : mj_fetch 167 63 = some (.iaload, 0, 0) := by decide +kernel
theorem f_167_64 : mj_fetch 167 64 = some (.invokevirtual 172, 131, 0) := by decide +kernel
theorem f_167_67 : mj_fetch 167 67 = some (.ifCond .ne 7, 0, 0) := by decide +kernel
theorem f_167_70 : mj_fetch 167 70 = some (.iconst 1, 0, 0) := by decide +kernel
theorem f_167_71 : mj_fetch 167 71 = some (.goto 4, 0, 0) := by decide +kernel
theorem f_167_74 : mj_fetch 167 74 = some (.iconst 0, 0, 0) := by decide +kernel
theorem f_167_75 : mj_fetch 167 75 = some (.if_icmp .eq 7, 0, 0) := by decide +kernel
theorem f_167_78 : mj_fetch 167 78 = some (.iconst 1, 0, 0) := by decide +kernel
theorem f_167_79 : mj_fetch 167 79 = some (.goto 4, 0, 0) := by decide +kernel
theorem f_167_82 : mj_fetch 167 82 = some (.iconst 0, 0, 0) := by decide +kernel
theorem f_167_83 : mj_fetch 167 83 = some (.iadd, 0, 0) := by decide +kernel
theorem f_167_84 : mj_fetch 167 84 = some (.istore_n 2, 0, 0) := by decide +kernel
theorem f_167_85 : mj_fetch 167 85 = some (.iinc 3 1, 0, 0) := by decide +kernel
theorem f_167_88 : mj_fetch 167 88 = some (.goto (-70), 0, 0) := by decide +kernel
theorem f_167_91 : mj_fetch 167 91 = some (.iload_n 2, 0, 0) := by decide +kernel
theorem f_167_92 : mj_fetch 167 92 = some (.ireturn, 0, 0) := by decide +kernel
theorem f_167_0 : mj_fetch 167 0 = some (.iload_n 1, 0, 0) := by decide +kernel
theorem f_167_1 : mj_fetch 167 1 = some (.iconst 0, 0, 0) := by decide +kernel
theorem f_167_2 : mj_fetch 167 2 = some (.aload_n 0, 0, 0) := by decide +kernel
theorem f_167_3 : mj_fetch 167 3 = some (.getfield 104, 11, 0) := by decide +kernel
theorem f_167_6 : mj_fetch 167 6 = some (.invokestatic 100, 112, 0) := by decide +kernel
theorem f_167_9 : mj_fetch 167 9 = some (.ifCond .ne 5, 0, 0) := by decide +kernel
theorem f_167_12 : mj_fetch 167 12 = some (.iconst (-1), 0, 0) := by decide +kernel
theorem f_167_13 : mj_fetch 167 13 = some (.ireturn, 0, 0) := by decide +kernel
theorem f_167_14 : mj_fetch 167 14 = some (.iconst 0, 0, 0) := by decide +kernel
theorem f_167_15 : mj_fetch 167 15 = some (.istore_n 2, 0, 0) := by decide +kernel
theorem f_167_16 : mj_fetch 167 16 = some (.iconst 0, 0, 0) := by decide +kernel
theorem f_167_17 : mj_fetch 167 17 = some (.istore_n 3, 0, 0) := by decide +kernel
/-! WHAT WAS TOLD OF JOINTS -/
/-- what a joint is as known in q, by the first k trials: 0 untried, 1 good, 2 bad -/
def ta (h : mj_H) (x q : Int32) : Nat → Nat
  | 0 => 0
  | k + 1 => if mj_I h 55 k = x ∧ mj_I h 57 k ≤ q then (if mj_I h 56 k = 0 then 2 else 1) else ta h x q k
theorem ta_le (h : mj_H) (x q : Int32) : ∀ k, ta h x q k ≤ 2
  | 0 => by show 0 ≤ 2; omega
  | k + 1 => by
    show (if _ then (if _ then 2 else 1) else ta h x q k) ≤ 2
    have := ta_le h x q k
    split
    · split <;> omega
    · exact this
theorem ta_to {h g : mj_H} (e55 : mj_I g 55 = mj_I h 55) (e56 : mj_I g 56 = mj_I h 56) (e57 : mj_I g 57 = mj_I h 57) (x q : Int32) : ∀ k, ta g x q k = ta h x q k
  | 0 => rfl
  | k + 1 => by
    show (if _ then _ else ta g x q k) = (if _ then _ else ta h x q k)
    rw [e55, e56, e57, ta_to e55 e56 e57 x q k]

set_option maxRecDepth 20000 in
theorem tried_l {h : mj_H} (S : SM h) (x q : Int32) {km : Nat} (h_km : km ≤ 100) (e_km : mj_I h 33 41 = nI km) : ∀ (n k : Nat), k + n = km → mx 1 165 5 [.ref 33, .int x, .int q, .int (nI (ta h x q k)), .int (nI k)] [] h (fun r h' => r = some (.int (nI (ta h x q km))) ∧ h' = h) := by
  intro n
  induction n with
  | zero =>
    intro k hk
    have hkk : k = km := by omega
    subst hkk
    refine x_iload f_165_5 rfl ?_
    refine x_aload_n f_165_7 rfl ?_
    refine x_getI f_165_8 S.k33 (by decide) ?_
    refine x_topi (w := nI k) e_km ?_
    refine x_icmpN_ge (t := 62) f_165_11 (by decide) (by omega) (by omega) (fun c_1 => ?_) (fun c_1 => by omega)
    refine x_iload_n f_165_62 rfl ?_
    refine x_retI f_165_63 rfl ?_
    exact ⟨rfl, rfl⟩
  | succ n ih =>
    intro k hk
    have hle := ta_le h x q k
    refine x_iload f_165_5 rfl ?_
    refine x_aload_n f_165_7 rfl ?_
    refine x_getI f_165_8 S.k33 (by decide) ?_
    refine x_topi (w := nI km) e_km ?_
    refine x_icmpN_ge (t := 62) f_165_11 (by decide) (by omega) (by omega) (fun c_1 => by omega) (fun c_1 => ?_)
    refine x_aload_n f_165_14 rfl ?_
    refine x_getR f_165_15 S.k33 (by decide) S.r37 ?_
    refine x_iload f_165_18 rfl ?_
    refine x_iald (j := k) f_165_20 S.k55 (by omega) (by decide) ?_
    refine x_iload_n f_165_21 rfl ?_
    refine x_icmp_ne (t := 54) f_165_22 (by decide) (fun c_2 => ?_) (fun c_2 => ?_)
    · refine x_iload_n f_165_54 rfl ?_
      refine x_istore_n (ls1 := [.ref 33, .int x, .int q, .int (nI (ta h x q k)), .int (nI k)]) f_165_55 (Nat.le_of_ble_eq_true rfl) rfl ?_
      refine x_iinc (v := nI (k + 1)) (ls1 := [.ref 33, .int x, .int q, .int (nI (ta h x q k)), .int (nI (k + 1))]) f_165_56 rfl (by exact nI_add _ 1) rfl ?_
      refine x_goto (t := 5) f_165_59 (by decide) ?_
      have e : ta h x q (k + 1) = ta h x q k := if_neg (fun z => c_2 z.1)
      have ih2 := ih (k + 1) (by omega)
      rw [e] at ih2
      exact ih2
    · refine x_aload_n f_165_25 rfl ?_
      refine x_getR f_165_26 S.k33 (by decide) S.r39 ?_
      refine x_iload f_165_29 rfl ?_
      refine x_iald (j := k) f_165_31 S.k57 (by omega) (by decide) ?_
      refine x_iload_n f_165_32 rfl ?_
      refine x_icmp_gt (t := 54) f_165_33 (by decide) (fun c_3 => ?_) (fun c_3 => ?_)
      · refine x_iload_n f_165_54 rfl ?_
        refine x_istore_n (ls1 := [.ref 33, .int x, .int q, .int (nI (ta h x q k)), .int (nI k)]) f_165_55 (Nat.le_of_ble_eq_true rfl) rfl ?_
        refine x_iinc (v := nI (k + 1)) (ls1 := [.ref 33, .int x, .int q, .int (nI (ta h x q k)), .int (nI (k + 1))]) f_165_56 rfl (by exact nI_add _ 1) rfl ?_
        refine x_goto (t := 5) f_165_59 (by decide) ?_
        have e : ta h x q (k + 1) = ta h x q k := if_neg (fun z => absurd c_3 (Int32.not_lt.mpr z.2))
        have ih2 := ih (k + 1) (by omega)
        rw [e] at ih2
        exact ih2
      · refine x_aload_n f_165_36 rfl ?_
        refine x_getR f_165_37 S.k33 (by decide) S.r38 ?_
        refine x_iload f_165_40 rfl ?_
        refine x_zald (j := k) f_165_42 S.k56 (by omega) (by decide) ?_
        refine x_if_eq (t := 50) f_165_43 (by decide) (fun c_4 => ?_) (fun c_4 => ?_)
        · refine x_iconst (v := nI 2) f_165_50 (by decide) ?_
          refine x_goto (t := 55) f_165_51 (by decide) ?_
          refine x_istore_n (ls1 := [.ref 33, .int x, .int q, .int (nI 2), .int (nI k)]) f_165_55 (Nat.le_of_ble_eq_true rfl) rfl ?_
          refine x_iinc (v := nI (k + 1)) (ls1 := [.ref 33, .int x, .int q, .int (nI 2), .int (nI (k + 1))]) f_165_56 rfl (by exact nI_add _ 1) rfl ?_
          refine x_goto (t := 5) f_165_59 (by decide) ?_
          have e : ta h x q (k + 1) = 2 := (if_pos ⟨c_2, Int32.not_lt.mp c_3⟩).trans (if_pos c_4)
          have ih2 := ih (k + 1) (by omega)
          rw [e] at ih2
          exact ih2
        · refine x_iconst (v := nI 1) f_165_46 (by decide) ?_
          refine x_goto (t := 55) f_165_47 (by decide) ?_
          refine x_istore_n (ls1 := [.ref 33, .int x, .int q, .int (nI 1), .int (nI k)]) f_165_55 (Nat.le_of_ble_eq_true rfl) rfl ?_
          refine x_iinc (v := nI (k + 1)) (ls1 := [.ref 33, .int x, .int q, .int (nI 1), .int (nI (k + 1))]) f_165_56 rfl (by exact nI_add _ 1) rfl ?_
          refine x_goto (t := 5) f_165_59 (by decide) ?_
          have e : ta h x q (k + 1) = 1 := (if_pos ⟨c_2, Int32.not_lt.mp c_3⟩).trans (if_neg c_4)
          have ih2 := ih (k + 1) (by omega)
          rw [e] at ih2
          exact ih2
set_option maxRecDepth 20000 in
theorem c_triedAt {h : mj_H} (S : SM h) (x q : Int32) {km : Nat} (h_km : km ≤ 100) (e_km : mj_I h 33 41 = nI km) : mxc 1 165 [.ref 33, .int x, .int q] h (fun r h' => r = some (.int (nI (ta h x q km))) ∧ h' = h) := by
  show mx 1 165 0 [.ref 33, .int x, .int q, mj_unset, mj_unset] [] h _
  refine x_iconst (v := nI 0) f_165_0 (by decide) ?_
  refine x_istore_n (ls1 := [.ref 33, .int x, .int q, .int (nI 0), mj_unset]) f_165_1 (Nat.le_of_ble_eq_true rfl) rfl ?_
  refine x_iconst (v := nI 0) f_165_2 (by decide) ?_
  refine x_istore (ls1 := [.ref 33, .int x, .int q, .int (nI 0), .int (nI 0)]) f_165_3 (Nat.le_of_ble_eq_true rfl) rfl ?_
  exact tried_l S x q h_km e_km km 0 (Nat.zero_add _)
set_option maxRecDepth 20000 in
theorem c_tried {h : mj_H} (S : SM h) (x q : Int32) {km xm : Nat} (h_km : km ≤ 100) (e_km : mj_I h 33 41 = nI km) (h_xm : xm ≤ 60) (e_xm : mj_I h 33 40 = nI xm) : mxc 2 166 [.ref 33, .int x, .int q] h (fun r h' => if mIn x xm ∧ (nI 0 ≤ q ∧ q ≤ mj_I h 33 0) ∧ mj_I h 54 x.toNatClampNeg ≤ q then r = some (.int (nI (ta h x q km))) ∧ h' = h else r = some (.int (-1)) ∧ h' = h) := by
  show mx 2 166 0 [.ref 33, .int x, .int q] [] h _
  refine x_iload_n f_166_0 rfl ?_
  refine x_iconst (v := nI 0) f_166_1 (by decide) ?_
  refine x_aload_n f_166_2 rfl ?_
  refine x_getI f_166_3 S.k33 (by decide) ?_
  refine x_topi (w := nI xm) e_xm ?_
  refine x_iconst (v := nI 1) f_166_6 (by decide) ?_
  refine x_isub f_166_7 ?_
  refine x_callSe f_166_8 (c_inM _ _ (n := xm) (by omega)) (by omega) rfl rfl rfl (Nat.le_of_ble_eq_true rfl) rfl ?_
  refine x_ifB_eq (t := 45) f_166_11 (by decide) (fun c_1 => ?_) (fun c_1 => ?_)
  · refine x_iconst (v := -1) f_166_45 (by decide) ?_
    refine x_retI f_166_46 rfl ?_
    exact mj_qF (by first | exact fun q => c_1 (q.1) | exact fun q => absurd c_1 (Int32.not_lt.mpr q.1)) ⟨rfl, rfl⟩
  · refine x_iload_n f_166_14 rfl ?_
    refine x_iconst (v := nI 0) f_166_15 (by decide) ?_
    refine x_aload_n f_166_16 rfl ?_
    refine x_getI f_166_17 S.k33 (by decide) ?_
    refine x_callSe f_166_20 (c_in _ _ _ _) (by omega) rfl rfl rfl (Nat.le_of_ble_eq_true rfl) rfl ?_
    refine x_ifB_eq (t := 45) f_166_23 (by decide) (fun c_2 => ?_) (fun c_2 => ?_)
    · refine x_iconst (v := -1) f_166_45 (by decide) ?_
      refine x_retI f_166_46 rfl ?_
      exact mj_qF (by first | exact fun q => c_2 (q.2.1) | exact fun q => absurd c_2 (Int32.not_lt.mpr q.2.1)) ⟨rfl, rfl⟩
    · obtain ⟨i, h_i, rfl⟩ := mIn_of c_1 (by omega)
      simp only [nI_clamp (show i < 2 ^ 31 by omega)]
      refine x_aload_n f_166_26 rfl ?_
      refine x_getR f_166_27 S.k33 (by decide) S.r36 ?_
      refine x_iload_n f_166_30 rfl ?_
      refine x_iald (j := i) f_166_31 S.k54 (by omega) (by decide) ?_
      refine x_iload_n f_166_32 rfl ?_
      refine x_icmp_gt (t := 45) f_166_33 (by decide) (fun c_3 => ?_) (fun c_3 => ?_)
      · refine x_iconst (v := -1) f_166_45 (by decide) ?_
        refine x_retI f_166_46 rfl ?_
        exact mj_qF (by first | exact fun q => c_3 (q.2.2) | exact fun q => absurd c_3 (Int32.not_lt.mpr q.2.2)) ⟨rfl, rfl⟩
      · refine x_aload_n f_166_36 rfl ?_
        refine x_iload_n f_166_37 rfl ?_
        refine x_iload_n f_166_38 rfl ?_
        refine x_callVe f_166_39 (c_triedAt S _ _ h_km e_km) (by omega) S.k33 (by decide) rfl rfl (Nat.le_of_ble_eq_true rfl) rfl ?_
        refine x_goto (t := 46) f_166_42 (by decide) ?_
        refine x_retI f_166_46 rfl ?_
        exact mj_qT ⟨c_1, c_2, Int32.not_lt.mp c_3⟩ ⟨rfl, rfl⟩
def jj (h : mj_H) (x : Nat) : Nat := (mj_I h 52 x).toNatClampNeg
def js (h : mj_H) (x : Nat) : Nat := (mj_I h 53 x).toNatClampNeg
/-- a joint of the model -/
def JT (h : mj_H) (x jm : Nat) : Prop := mj_I h 52 x = nI (jj h x) ∧ jj h x < jm ∧ mj_I h 53 x = nI (js h x) ∧ js h x < 729
/-- tried, and otherwise than it is reckoned -/
abbrev oddp (h : mj_H) (q : Int32) (km x : Nat) : Prop := ¬ ta h (nI x) q km = 0 ∧ ((ta h (nI x) q km = 1) ↔ ¬ vd h (jj h x) (js h x) = 0)
def od (h : mj_H) (q : Int32) (km : Nat) : Nat → Nat
  | 0 => 0
  | x + 1 => od h q km x + (if oddp h q km x then 1 else 0)
theorem od_le (h : mj_H) (q : Int32) (km : Nat) : ∀ x, od h q km x ≤ x
  | 0 => Nat.le_refl _
  | x + 1 => by
    have := od_le h q km x
    show od h q km x + (if _ then 1 else 0) ≤ x + 1
    split <;> omega

set_option maxRecDepth 20000 in
set_option maxHeartbeats 4000000 in
theorem odd_l {h : mj_H} {jm km xm : Nat} (q : Int32) (h_km : km ≤ 100) (e_km : mj_I h 33 41 = nI km) (h_xm : xm ≤ 60) (e_xm : mj_I h 33 40 = nI xm) (hJJ : ∀ x, x < xm → JT h x jm) : ∀ (n x : Nat) (g : mj_H), x + n = xm → MV h g jm → ∀ v4 : Value, mx 5 167 18 [.ref 33, .int q, .int (nI (od h q km x)), .int (nI x), v4] [] g (fun r h' => r = some (.int (nI (od h q km xm))) ∧ MV h h' jm) := by
  intro n
  induction n with
  | zero =>
    intro x g hx hv v4
    have hkk : x = xm := by omega
    subst hkk
    have S := hv.1.1
    refine x_iload_n f_167_18 rfl ?_
    refine x_aload_n f_167_19 rfl ?_
    refine x_getI f_167_20 S.k33 (by decide) ?_
    refine x_topi (w := nI x) ((hv.2.2 40 (by decide) (by decide) (by decide)).trans e_xm) ?_
    refine x_icmpN_ge (t := 91) f_167_23 (by decide) (by omega) (by omega) (fun c_1 => ?_) (fun c_1 => by omega)
    refine x_iload_n f_167_91 rfl ?_
    refine x_retI f_167_92 rfl ?_
    exact ⟨rfl, hv⟩
  | succ n ih =>
    intro x g hx hv v4
    have S := hv.1.1
    have f_xm : mj_I g 33 40 = nI xm := (hv.2.2 40 (by decide) (by decide) (by decide)).trans e_xm
    have f_km : mj_I g 33 41 = nI km := (hv.2.2 41 (by decide) (by decide) (by decide)).trans e_km
    have hJ := hJJ x (by omega)
    have hj20 := hv.1.2.2.1
    have f52 : mj_I g 52 x = nI (jj h x) := (congrFun (hv.2.1.i (by decide)) x).trans hJ.1
    have f53 : mj_I g 53 x = nI (js h x) := (congrFun (hv.2.1.i (by decide)) x).trans hJ.2.2.1
    have hta : ta g (nI x) q km = ta h (nI x) q km := ta_to (hv.2.1.i (by decide)) (hv.2.1.i (by decide)) (hv.2.1.i (by decide)) _ _ _
    have hod := od_le h q km x
    refine x_iload_n f_167_18 rfl ?_
    refine x_aload_n f_167_19 rfl ?_
    refine x_getI f_167_20 S.k33 (by decide) ?_
    refine x_topi (w := nI xm) f_xm ?_
    refine x_icmpN_ge (t := 91) f_167_23 (by decide) (by omega) (by omega) (fun c_1 => by omega) (fun c_1 => ?_)
    refine x_aload_n f_167_26 rfl ?_
    refine x_iload_n f_167_27 rfl ?_
    refine x_iload_n f_167_28 rfl ?_
    refine x_callVe f_167_29 (c_triedAt S _ _ h_km f_km) (by omega) S.k33 (by decide) rfl rfl (Nat.le_of_ble_eq_true rfl) rfl ?_
    rw [hta]
    have hle := ta_le h (nI x) q km
    refine x_istore (ls1 := [.ref 33, .int q, .int (nI (od h q km x)), .int (nI x), .int (nI (ta h (nI x) q km))]) f_167_32 (Nat.le_of_ble_eq_true rfl) rfl ?_
    refine x_iload_n f_167_34 rfl ?_
    refine x_iload f_167_35 rfl ?_
    refine x_ifN_eq (t := 82) f_167_37 (by decide) (by omega) (fun c_t0 => ?_) (fun c_t0 => ?_)
    · refine x_iconst (v := nI 0) f_167_82 (by decide) ?_
      refine x_iaddN f_167_83 ?_
      refine x_istore_n (ls1 := [.ref 33, .int q, .int (nI ((od h q km x) + 0)), .int (nI x), .int (nI (ta h (nI x) q km))]) f_167_84 (Nat.le_of_ble_eq_true rfl) rfl ?_
      refine x_iinc (v := nI (x + 1)) (ls1 := [.ref 33, .int q, .int (nI ((od h q km x) + 0)), .int (nI (x + 1)), .int (nI (ta h (nI x) q km))]) f_167_85 rfl (by exact nI_add _ 1) rfl ?_
      refine x_goto (t := 18) f_167_88 (by decide) ?_
      have e : od h q km (x + 1) = (od h q km x) + 0 := by
        show od h q km x + (if _ then 1 else 0) = _
        rw [if_neg]
        unfold oddp
        simp [c_t0]
      have ih2 := ih (x + 1) g (by omega) hv
      rw [e] at ih2
      exact ih2 _
    · refine x_iload f_167_40 rfl ?_
      refine x_iconst (v := nI 1) f_167_42 (by decide) ?_
      refine x_icmpN_ne (t := 50) f_167_43 (by decide) (by omega) (by decide) (fun c_t1 => ?_) (fun c_t1 => ?_)
      · refine x_iconst (v := nI 0) f_167_50 (by decide) ?_
        refine x_aload_n f_167_51 rfl ?_
        refine x_aload_n f_167_52 rfl ?_
        refine x_getR f_167_53 S.k33 (by decide) S.r34 ?_
        refine x_iload_n f_167_56 rfl ?_
        refine x_iald (j := x) f_167_57 S.k52 (by omega) (by decide) ?_
        refine x_topi (w := nI (jj h x)) f52 ?_
        refine x_aload_n f_167_58 rfl ?_
        refine x_getR f_167_59 S.k33 (by decide) S.r35 ?_
        refine x_iload_n f_167_62 rfl ?_
        refine x_iald (j := x) f_167_63 S.k53 (by omega) (by decide) ?_
        refine x_topi (w := nI (js h x)) f53 ?_
        refine x_callV f_167_64 (c_verdictOf hv.1 hJ.2.1 hJ.2.2.2) (by omega) S.k33 (by decide) rfl rfl (Nat.le_of_ble_eq_true rfl) rfl ?_
        rintro _ g1 ⟨rfl, hv1⟩
        rw [MV_vd hv]
        have l1 := vd_le h (jj h x) (js h x)
        refine x_ifN_ne (t := 74) f_167_67 (by decide) (by omega) (fun c_v => ?_) (fun c_v => ?_)
        · refine x_iconst (v := nI 0) f_167_74 (by decide) ?_
          refine x_icmpN_eq (t := 82) f_167_75 (by decide) (by decide) (by decide) (fun c_2 => ?_) (fun c_2 => by omega)
          refine x_iconst (v := nI 0) f_167_82 (by decide) ?_
          refine x_iaddN f_167_83 ?_
          refine x_istore_n (ls1 := [.ref 33, .int q, .int (nI ((od h q km x) + 0)), .int (nI x), .int (nI (ta h (nI x) q km))]) f_167_84 (Nat.le_of_ble_eq_true rfl) rfl ?_
          refine x_iinc (v := nI (x + 1)) (ls1 := [.ref 33, .int q, .int (nI ((od h q km x) + 0)), .int (nI (x + 1)), .int (nI (ta h (nI x) q km))]) f_167_85 rfl (by exact nI_add _ 1) rfl ?_
          refine x_goto (t := 18) f_167_88 (by decide) ?_
          have e : od h q km (x + 1) = (od h q km x) + 0 := by
            show od h q km x + (if _ then 1 else 0) = _
            rw [if_neg]
            unfold oddp
            simp [c_t0, c_t1, c_v]
          have ih2 := ih (x + 1) g1 (by omega) (hv.trans hv1)
          rw [e] at ih2
          exact ih2 _
        · refine x_iconst (v := nI 1) f_167_70 (by decide) ?_
          refine x_goto (t := 75) f_167_71 (by decide) ?_
          refine x_icmpN_eq (t := 82) f_167_75 (by decide) (by decide) (by decide) (fun c_3 => by omega) (fun c_3 => ?_)
          refine x_iconst (v := nI 1) f_167_78 (by decide) ?_
          refine x_goto (t := 83) f_167_79 (by decide) ?_
          refine x_iaddN f_167_83 ?_
          refine x_istore_n (ls1 := [.ref 33, .int q, .int (nI ((od h q km x) + 1)), .int (nI x), .int (nI (ta h (nI x) q km))]) f_167_84 (Nat.le_of_ble_eq_true rfl) rfl ?_
          refine x_iinc (v := nI (x + 1)) (ls1 := [.ref 33, .int q, .int (nI ((od h q km x) + 1)), .int (nI (x + 1)), .int (nI (ta h (nI x) q km))]) f_167_85 rfl (by exact nI_add _ 1) rfl ?_
          refine x_goto (t := 18) f_167_88 (by decide) ?_
          have e : od h q km (x + 1) = (od h q km x) + 1 := by
            show od h q km x + (if _ then 1 else 0) = _
            rw [if_pos]
            unfold oddp
            simp [c_t0, c_t1, c_v]
          have ih2 := ih (x + 1) g1 (by omega) (hv.trans hv1)
          rw [e] at ih2
          exact ih2 _
      · refine x_iconst (v := nI 1) f_167_46 (by decide) ?_
        refine x_goto (t := 51) f_167_47 (by decide) ?_
        refine x_aload_n f_167_51 rfl ?_
        refine x_aload_n f_167_52 rfl ?_
        refine x_getR f_167_53 S.k33 (by decide) S.r34 ?_
        refine x_iload_n f_167_56 rfl ?_
        refine x_iald (j := x) f_167_57 S.k52 (by omega) (by decide) ?_
        refine x_topi (w := nI (jj h x)) f52 ?_
        refine x_aload_n f_167_58 rfl ?_
        refine x_getR f_167_59 S.k33 (by decide) S.r35 ?_
        refine x_iload_n f_167_62 rfl ?_
        refine x_iald (j := x) f_167_63 S.k53 (by omega) (by decide) ?_
        refine x_topi (w := nI (js h x)) f53 ?_
        refine x_callV f_167_64 (c_verdictOf hv.1 hJ.2.1 hJ.2.2.2) (by omega) S.k33 (by decide) rfl rfl (Nat.le_of_ble_eq_true rfl) rfl ?_
        rintro _ g1 ⟨rfl, hv1⟩
        rw [MV_vd hv]
        have l1 := vd_le h (jj h x) (js h x)
        refine x_ifN_ne (t := 74) f_167_67 (by decide) (by omega) (fun c_v => ?_) (fun c_v => ?_)
        · refine x_iconst (v := nI 0) f_167_74 (by decide) ?_
          refine x_icmpN_eq (t := 82) f_167_75 (by decide) (by decide) (by decide) (fun c_4 => by omega) (fun c_4 => ?_)
          refine x_iconst (v := nI 1) f_167_78 (by decide) ?_
          refine x_goto (t := 83) f_167_79 (by decide) ?_
          refine x_iaddN f_167_83 ?_
          refine x_istore_n (ls1 := [.ref 33, .int q, .int (nI ((od h q km x) + 1)), .int (nI x), .int (nI (ta h (nI x) q km))]) f_167_84 (Nat.le_of_ble_eq_true rfl) rfl ?_
          refine x_iinc (v := nI (x + 1)) (ls1 := [.ref 33, .int q, .int (nI ((od h q km x) + 1)), .int (nI (x + 1)), .int (nI (ta h (nI x) q km))]) f_167_85 rfl (by exact nI_add _ 1) rfl ?_
          refine x_goto (t := 18) f_167_88 (by decide) ?_
          have e : od h q km (x + 1) = (od h q km x) + 1 := by
            show od h q km x + (if _ then 1 else 0) = _
            rw [if_pos]
            unfold oddp
            simp [c_t0, c_t1, c_v]
          have ih2 := ih (x + 1) g1 (by omega) (hv.trans hv1)
          rw [e] at ih2
          exact ih2 _
        · refine x_iconst (v := nI 1) f_167_70 (by decide) ?_
          refine x_goto (t := 75) f_167_71 (by decide) ?_
          refine x_icmpN_eq (t := 82) f_167_75 (by decide) (by decide) (by decide) (fun c_5 => ?_) (fun c_5 => by omega)
          refine x_iconst (v := nI 0) f_167_82 (by decide) ?_
          refine x_iaddN f_167_83 ?_
          refine x_istore_n (ls1 := [.ref 33, .int q, .int (nI ((od h q km x) + 0)), .int (nI x), .int (nI (ta h (nI x) q km))]) f_167_84 (Nat.le_of_ble_eq_true rfl) rfl ?_
          refine x_iinc (v := nI (x + 1)) (ls1 := [.ref 33, .int q, .int (nI ((od h q km x) + 0)), .int (nI (x + 1)), .int (nI (ta h (nI x) q km))]) f_167_85 rfl (by exact nI_add _ 1) rfl ?_
          refine x_goto (t := 18) f_167_88 (by decide) ?_
          have e : od h q km (x + 1) = (od h q km x) + 0 := by
            show od h q km x + (if _ then 1 else 0) = _
            rw [if_neg]
            unfold oddp
            simp [c_t0, c_t1, c_v]
          have ih2 := ih (x + 1) g1 (by omega) (hv.trans hv1)
          rw [e] at ih2
          exact ih2 _
set_option maxRecDepth 20000 in
theorem c_odd {h : mj_H} {jm km xm : Nat} (hW : MW h jm) (q : Int32) (h_km : km ≤ 100) (e_km : mj_I h 33 41 = nI km) (h_xm : xm ≤ 60) (e_xm : mj_I h 33 40 = nI xm) (hJJ : ∀ x, x < xm → JT h x jm) : mxc 5 167 [.ref 33, .int q] h (fun r h' => if nI 0 ≤ q ∧ q ≤ mj_I h 33 0 then r = some (.int (nI (od h q km xm))) ∧ MV h h' jm else r = some (.int (-1)) ∧ h' = h) := by
  have S : SM h := hW.1
  show mx 5 167 0 [.ref 33, .int q, mj_unset, mj_unset, mj_unset] [] h _
  refine x_iload_n f_167_0 rfl ?_
  refine x_iconst (v := nI 0) f_167_1 (by decide) ?_
  refine x_aload_n f_167_2 rfl ?_
  refine x_getI f_167_3 S.k33 (by decide) ?_
  refine x_callSe f_167_6 (c_in _ _ _ _) (by omega) rfl rfl rfl (Nat.le_of_ble_eq_true rfl) rfl ?_
  refine x_ifB_ne (t := 14) f_167_9 (by decide) (fun c_1 => ?_) (fun c_1 => ?_)
  · refine x_iconst (v := nI 0) f_167_14 (by decide) ?_
    refine x_istore_n (ls1 := [.ref 33, .int q, .int (nI 0), mj_unset, mj_unset]) f_167_15 (Nat.le_of_ble_eq_true rfl) rfl ?_
    refine x_iconst (v := nI 0) f_167_16 (by decide) ?_
    refine x_istore_n (ls1 := [.ref 33, .int q, .int (nI 0), .int (nI 0), mj_unset]) f_167_17 (Nat.le_of_ble_eq_true rfl) rfl ?_
    refine (odd_l q h_km e_km h_xm e_xm hJJ xm 0 h (Nat.zero_add _) (MV.rf hW) _).post ?_
    intro r h' k
    exact mj_qT c_1 k
  · refine x_iconst (v := -1) f_167_12 (by decide) ?_
    refine x_retI f_167_13 rfl ?_
    exact mj_qF c_1 ⟨rfl, rfl⟩
