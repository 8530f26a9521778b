theorem f_130_28 : mj_fetch 130 28 = some (.iload 4, 0, 0) := by decide +kernel
theorem f_130_30 : mj_fetch 130 30 = some (.aload_n 0, 0, 0) := by decide +kernel
theorem f_130_31 : mj_fetch 130 31 = some (.getfield 17, 11, 4) := by decide +kernel
theorem f_130_34 : mj_fetch 130 34 = some (.iload_n 3, 0, 0) := by decide +kernel
theorem f_130_35 : mj_fetch 130 35 = some (.bipush 8, 0, 0) := by decide +kernel
theorem f_130_37 : mj_fetch 130 37 = some (.iadd, 0, 0) := by decide +kernel
theorem f_130_38 : mj_fetch 130 38 = some (.iaload, 0, 0) := by decide +kernel
theorem f_130_39 : mj_fetch 130 39 = some (.if_icmp .ge 77, 0, 0) := by decide +kernel
theorem f_130_42 : mj_fetch 130 42 = some (.aload_n 0, 0, 0) := by decide +kernel
theorem f_130_43 : mj_fetch 130 43 = some (.iload 4, 0, 0) := by decide +kernel
theorem f_130_45 : mj_fetch 130 45 = some (.putfield 159, 11, 17) := by decide +kernel
theorem f_130_48 : mj_fetch 130 48 = some (.aload_n 0, 0, 0) := by decide +kernel
theorem f_130_49 : mj_fetch 130 49 = some (.getfield 32, 11, 11) := by decide +kernel
theorem f_130_52 : mj_fetch 130 52 = some (.iload 4, 0, 0) := by decide +kernel
theorem f_130_54 : mj_fetch 130 54 = some (.iaload, 0, 0) := by decide +kernel
theorem f_130_55 : mj_fetch 130 55 = some (.aload_n 0, 0, 0) := by decide +kernel
theorem f_130_56 : mj_fetch 130 56 = some (.getfield 17, 11, 4) := by decide +kernel
theorem f_130_59 : mj_fetch 130 59 = some (.iload_n 3, 0, 0) := by decide +kernel
theorem f_130_60 : mj_fetch 130 60 = some (.iconst 5, 0, 0) := by decide +kernel
theorem f_130_61 : mj_fetch 130 61 = some (.iadd, 0, 0) := by decide +kernel
theorem f_130_62 : mj_fetch 130 62 = some (.iaload, 0, 0) := by decide +kernel
theorem f_130_63 : mj_fetch 130 63 = some (.if_icmp .ge 5, 0, 0) := by decide +kernel
theorem f_130_66 : mj_fetch 130 66 = some (.iconst 2, 0, 0) := by decide +kernel
theorem f_130_67 : mj_fetch 130 67 = some (.ireturn, 0, 0) := by decide +kernel
theorem f_130_68 : mj_fetch 130 68 = some (.aload_n 0, 0, 0) := by decide +kernel
theorem f_130_69 : mj_fetch 130 69 = some (.getfield 35, 11, 12) := by decide +kernel
theorem f_130_72 : mj_fetch 130 72 = some (.iload 4, 0, 0) := by decide +kernel
theorem f_130_74 : mj_fetch 130 74 = some (.iaload, 0, 0) := by decide +kernel
theorem f_130_75 : mj_fetch 130 75 = some (.aload_n 0, 0, 0) := by decide +kernel
theorem f_130_76 : mj_fetch 130 76 = some (.getfield 17, 11, 4) := by decide +kernel
theorem f_130_79 : mj_fetch 130 79 = some (.iload_n 3, 0, 0) := by decide +kernel
theorem f_130_80 : mj_fetch 130 80 = some (.bipush 6, 0, 0) := by decide +kernel
theorem f_130_82 : mj_fetch 130 82 = some (.iadd, 0, 0) := by decide +kernel
theorem f_130_83 : mj_fetch 130 83 = some (.iaload, 0, 0) := by decide +kernel
theorem f_130_84 : mj_fetch 130 84 = some (.if_icmp .ge 5, 0, 0) := by decide +kernel
theorem f_130_87 : mj_fetch 130 87 = some (.iconst 3, 0, 0) := by decide +kernel
theorem f_130_88 : mj_fetch 130 88 = some (.ireturn, 0, 0) := by decide +kernel
theorem f_130_89 : mj_fetch 130 89 = some (.aload_n 0, 0, 0) := by decide +kernel
theorem f_130_90 : mj_fetch 130 90 = some (.getfield 38, 11, 13) := by decide +kernel
theorem f_130_93 : mj_fetch 130 93 = some (.iload 4, 0, 0) := by decide +kernel
theorem f_130_95 : mj_fetch 130 95 = some (.iaload, 0, 0) := by decide +kernel
theorem f_130_96 : mj_fetch 130 96 = some (.aload_n 0, 0, 0) := by decide +kernel
theorem f_130_97 : mj_fetch 130 97 = some (.getfield 17, 11, 4) := by decide +kernel
theorem f_130_100 : mj_fetch 130 100 = some (.iload_n 3, 0, 0) := by decide +kernel
theorem f_130_101 : mj_fetch 130 101 = some (.bipush 7, 0, 0) := by decide +kernel
theorem f_130_103 : mj_fetch 130 103 = some (.iadd, 0, 0) := by decide +kernel
theorem f_130_104 : mj_fetch 130 104 = some (.iaload, 0, 0) := by decide +kernel
theorem f_130_105 : mj_fetch 130 105 = some (.if_icmp .le 5, 0, 0) := by decide +kernel
theorem f_130_108 : mj_fetch 130 108 = some (.iconst 4, 0, 0) := by decide +kernel
theorem f_130_109 : mj_fetch 130 109 = some (.ireturn, 0, 0) := by decide +kernel
theorem f_130_110 : mj_fetch 130 110 = some (.iinc 4 1, 0, 0) := by decide +kernel
theorem f_130_113 : mj_fetch 130 113 = some (.goto (-85), 0, 0) := by decide +kernel
theorem f_130_116 : mj_fetch 130 116 = some (.aload_n 0, 0, 0) := by decide +kernel
theorem f_130_117 : mj_fetch 130 117 = some (.iconst (-1), 0, 0) := by decide +kernel
theorem f_130_118 : mj_fetch 130 118 = some (.putfield 159, 11, 17) := by decide +kernel
theorem f_130_121 : mj_fetch 130 121 = some (.iconst 0, 0, 0) := by decide +kernel
theorem f_130_122 : mj_fetch 130 122 = some (.ireturn, 0, 0) := by decide +kernel
theorem f_130_0 : mj_fetch 130 0 = some (.aload_n 0, 0, 0) := by decide +kernel
theorem f_130_1 : mj_fetch 130 1 = some (.iload_n 1, 0, 0) := by decide +kernel
theorem f_130_2 : mj_fetch 130 2 = some (.iload_n 2, 0, 0) := by decide +kernel
theorem f_130_3 : mj_fetch 130 3 = some (.invokevirtual 155, 129, 0) := by decide +kernel
theorem f_130_6 : mj_fetch 130 6 = some (.aload_n 0, 0, 0) := by decide +kernel
theorem f_130_7 : mj_fetch 130 7 = some (.iconst (-1), 0, 0) := by decide +kernel
theorem f_130_8 : mj_fetch 130 8 = some (.putfield 159, 11, 17) := by decide +kernel
theorem f_130_11 : mj_fetch 130 11 = some (.aload_n 0, 0, 0) := by decide +kernel
theorem f_130_12 : mj_fetch 130 12 = some (.getfield 151, 11, 15) := by decide +kernel
theorem f_130_15 : mj_fetch 130 15 = some (.ifCond .eq 5, 0, 0) := by decide +kernel
theorem f_130_18 : mj_fetch 130 18 = some (.iconst 1, 0, 0) := by decide +kernel
theorem f_130_19 : mj_fetch 130 19 = some (.ireturn, 0, 0) := by decide +kernel
theorem f_130_20 : mj_fetch 130 20 = some (.bipush 9, 0, 0) := by decide +kernel
theorem f_130_22 : mj_fetch 130 22 = some (.iload_n 1, 0, 0) := by decide +kernel
theorem f_130_23 : mj_fetch 130 23 = some (.imul, 0, 0) := by decide +kernel
theorem f_130_24 : mj_fetch 130 24 = some (.istore_n 3, 0, 0) := by decide +kernel
theorem f_130_25 : mj_fetch 130 25 = some (.iconst 0, 0, 0) := by decide +kernel
theorem f_130_26 : mj_fetch 130 26 = some (.istore 4, 0, 0) := by decide +kernel
def jd_f (M : Nat → Int32) (T : tk_R) : Nat → Nat → Nat × Int32
  | 0, _ => (0, -1)
  | n + 1, r => if M 5 ≤ T.2.1 r then (if M 6 ≤ T.2.2.1 r then (if T.2.2.2 r ≤ M 7 then jd_f M T n (r + 1) else (4, nI r)) else (3, nI r)) else (2, nI r)
/-- the verdict of a weld, and the ring that it is by -/
def jd (M : Nat → Int32) (rg z : Nat) : Nat × Int32 := if wd_lt rg z (wd_1 M rg z).2 = true then (1, -1) else jd_f M (wd_T M rg z) rg 0
def ZT (T : tk_R) : Prop := ∀ q, 6 ≤ q → T.1 q = 0 ∧ T.2.1 q = 0 ∧ T.2.2.1 q = 0 ∧ T.2.2.2 q = 0
theorem ZT_tk {M : Nat → Int32} {rg : Nat} {work push : Int32} {c : Nat} {T : tk_R} (h : ZT T) (hrg : rg ≤ 6) : ZT (tk M rg work push c T) := by
  intro q hq
  obtain ⟨a1, a2, a3, a4⟩ := h q hq
  have hn : ¬ q < rg := by omega
  unfold tk
  simp only [if_neg hn]
  exact ⟨a1, a2, a3, a4⟩
theorem ZT_it {st : tk_R → tk_R} (hs : ∀ T, ZT T → ZT (st T)) : ∀ (n : Nat) (T : tk_R), ZT T → ZT (wd_it st n T)
  | 0, T, h => h
  | n + 1, T, h => ZT_it hs n (st T) (hs T h)
theorem ZT_rub {st : tk_R → tk_R} {lt : tk_R → Bool} (hs : ∀ T, ZT T → ZT (st T)) : ∀ (n k : Nat) (T : tk_R), ZT T → ZT (wd_rub st lt n k T).2
  | 0, k, T, h => h
  | n + 1, k, T, h => by
    show ZT (if k = 0 ∨ lt T = true then wd_rub st lt n (k + 1) (st T) else (k, T)).2
    split
    · exact ZT_rub hs n (k + 1) (st T) (hs T h)
    · exact h
theorem ZT_0 : ZT wd_0 := by
  intro q hq
  have hn : ¬ q < 6 := by omega
  exact ⟨if_neg hn, if_neg hn, rfl, rfl⟩
theorem ZT_w {M : Nat → Int32} {rg z : Nat} (hrg : rg ≤ 6) : ZT (wd_T M rg z) := ZT_it (fun _ h => ZT_tk h hrg) 30 _ (ZT_it (fun _ h => ZT_tk h hrg) 5 _ (ZT_rub (fun _ h => ZT_tk h hrg) 60 0 _ ZT_0))
theorem ZR_of {h : mj_H} {T : tk_R} (e : mT h = T) (z : ZT T) : ZR h := by
  intro a ha q hq
  rw [← e] at z
  obtain ⟨a1, a2, a3, a4⟩ := z q hq
  simp only [List.mem_cons, List.not_mem_nil, or_false] at ha
  rcases ha with rfl | rfl | rfl | rfl
  · exact a1
  · exact a2
  · exact a3
  · exact a4
/-- behind a judging -/
def WJ (h g : mj_H) (T : tk_R) (a b c : Int32) : Prop := SM g ∧ Rw h g [33, 39, 40, 41, 42, 43] ∧ (∀ q, ¬ q = 14 → ¬ q = 15 → ¬ q = 17 → mj_I g 33 q = mj_I h 33 q) ∧ mT g = T ∧ mj_I g 33 14 = a ∧ mj_I g 33 15 = b ∧ mj_I g 33 17 = c
theorem WJ_set {h g : mj_H} {T : tk_R} {a b c x : Int32} (w : WJ h g T a b c) : WJ h (mj_setI g 33 17 x) T a b x :=
  ⟨w.1, w.2.1.set (by decide), fun q h1 h2 h3 => (mj_I_ne h3).trans (w.2.2.1 q h1 h2 h3), mT_set.trans w.2.2.2.1, (mj_I_ne (by decide)).trans w.2.2.2.2.1, (mj_I_ne (by decide)).trans w.2.2.2.2.2.1, mj_I_at _ _ _ _⟩
theorem WJ_of {h g : mj_H} {T : tk_R} {a b : Int32} (w : WI h g T a b) : WJ h g T a b (mj_I g 33 17) := ⟨w.1, w.2.1, fun q h1 h2 _ => w.2.2.1 q h1 h2, w.2.2.2.1, w.2.2.2.2.1, w.2.2.2.2.2, rfl⟩

set_option maxRecDepth 20000 in
set_option maxHeartbeats 4000000 in
theorem judge_l {h : mj_H} {j rg : Nat} (hj : j < 20) (e_rg : mj_I h 36 (9 * j + 8) = nI rg) (hrg : 2 ≤ rg ∧ rg ≤ 6) (h1 : ¬ mj_I h 36 (9 * j + 1) = 0) (h4 : ¬ mj_I h 36 (9 * j + 4) = 0) {z : Nat} {T : tk_R} {a b : Int32} (X : Nat × Int32) :
    ∀ (n r : Nat) (g : mj_H) (c : Int32), r + n = rg → WJ h g T a b c → jd_f (mM h j) T n r = X → mx 3 130 28 [.ref 33, .int (nI j), .int (nI z), .int (nI (9 * j)), .int (nI r)] [] g (fun r h' => r = some (.int (nI X.1)) ∧ WJ h h' T a b X.2) := by
  intro n
  induction n with
  | zero =>
    intro r g c hr hw e
    have hrr : r = rg := by omega
    subst hrr
    have S := hw.1
    have e36 : ∀ i, mj_I g 36 (9 * j + i) = mM h j i := fun i => congrFun (hw.2.1.i (by decide)) _
    refine x_iload f_130_28 rfl ?_
    refine x_aload_n f_130_30 rfl ?_
    refine x_getR f_130_31 S.k33 (by decide) S.r4 ?_
    refine x_iload_n f_130_34 rfl ?_
    refine x_bipush (v := nI 8) f_130_35 (by decide) ?_
    refine x_iaddN f_130_37 ?_
    refine x_iald (j := 9 * j + 8) f_130_38 S.k36 (by omega) (by decide) ?_
    refine x_topi (w := nI r) (e36 8 |>.trans e_rg) ?_
    refine x_icmpN_ge (t := 116) f_130_39 (by decide) (by omega) (by omega) (fun c_1 => ?_) (fun c_1 => by omega)
    refine x_aload_n f_130_116 rfl ?_
    refine x_iconst (v := -1) f_130_117 (by decide) ?_
    refine x_putI f_130_118 S.k33 (by decide) ?_
    refine x_iconst (v := nI 0) f_130_121 (by decide) ?_
    refine x_retI f_130_122 rfl ?_
    rw [← e]
    exact ⟨rfl, WJ_set hw⟩
  | succ n ih =>
    intro r g c hr hw e
    have S := hw.1
    have e36 : ∀ i, mj_I g 36 (9 * j + i) = mM h j i := fun i => congrFun (hw.2.1.i (by decide)) _
    have e41 : mj_I g 41 = T.2.1 := congrArg (fun t => t.2.1) hw.2.2.2.1
    have e42 : mj_I g 42 = T.2.2.1 := congrArg (fun t => t.2.2.1) hw.2.2.2.1
    have e43 : mj_I g 43 = T.2.2.2 := congrArg (fun t => t.2.2.2) hw.2.2.2.1
    refine x_iload f_130_28 rfl ?_
    refine x_aload_n f_130_30 rfl ?_
    refine x_getR f_130_31 S.k33 (by decide) S.r4 ?_
    refine x_iload_n f_130_34 rfl ?_
    refine x_bipush (v := nI 8) f_130_35 (by decide) ?_
    refine x_iaddN f_130_37 ?_
    refine x_iald (j := ((9 * j) + 8)) f_130_38 S.k36 (by omega) (by decide) ?_
    refine x_topi (w := nI rg) (e36 8 |>.trans e_rg) ?_
    refine x_icmpN_ge (t := 116) f_130_39 (by decide) (by omega) (by omega) (fun c_1 => by omega) (fun c_1 => ?_)
    refine x_aload_n f_130_42 rfl ?_
    refine x_iload f_130_43 rfl ?_
    refine x_putI f_130_45 S.k33 (by decide) ?_
    refine x_aload_n f_130_48 rfl ?_
    refine x_getR f_130_49 S.k33 (by decide) S.r11 ?_
    refine x_iload f_130_52 rfl ?_
    refine x_iald (j := r) f_130_54 S.k41 (by omega) (by decide) ?_
    refine x_topi (w := T.2.1 r) ((congrFun (mj_I_other (by decide)) _).trans (congrFun e41 _)) ?_
    refine x_aload_n f_130_55 rfl ?_
    refine x_getR f_130_56 S.k33 (by decide) S.r4 ?_
    refine x_iload_n f_130_59 rfl ?_
    refine x_iconst (v := nI 5) f_130_60 (by decide) ?_
    refine x_iaddN f_130_61 ?_
    refine x_iald (j := ((9 * j) + 5)) f_130_62 S.k36 (by omega) (by decide) ?_
    refine x_topi (w := mM h j 5) ((congrFun (mj_I_other (by decide)) _).trans (e36 5)) ?_
    refine x_icmp_ge (t := 68) f_130_63 (by decide) (fun c_5 => ?_) (fun c_5 => ?_)
    · refine x_aload_n f_130_68 rfl ?_
      refine x_getR f_130_69 S.k33 (by decide) S.r12 ?_
      refine x_iload f_130_72 rfl ?_
      refine x_iald (j := r) f_130_74 S.k42 (by omega) (by decide) ?_
      refine x_topi (w := T.2.2.1 r) ((congrFun (mj_I_other (by decide)) _).trans (congrFun e42 _)) ?_
      refine x_aload_n f_130_75 rfl ?_
      refine x_getR f_130_76 S.k33 (by decide) S.r4 ?_
      refine x_iload_n f_130_79 rfl ?_
      refine x_bipush (v := nI 6) f_130_80 (by decide) ?_
      refine x_iaddN f_130_82 ?_
      refine x_iald (j := ((9 * j) + 6)) f_130_83 S.k36 (by omega) (by decide) ?_
      refine x_topi (w := mM h j 6) ((congrFun (mj_I_other (by decide)) _).trans (e36 6)) ?_
      refine x_icmp_ge (t := 89) f_130_84 (by decide) (fun c_6 => ?_) (fun c_6 => ?_)
      · refine x_aload_n f_130_89 rfl ?_
        refine x_getR f_130_90 S.k33 (by decide) S.r13 ?_
        refine x_iload f_130_93 rfl ?_
        refine x_iald (j := r) f_130_95 S.k43 (by omega) (by decide) ?_
        refine x_topi (w := T.2.2.2 r) ((congrFun (mj_I_other (by decide)) _).trans (congrFun e43 _)) ?_
        refine x_aload_n f_130_96 rfl ?_
        refine x_getR f_130_97 S.k33 (by decide) S.r4 ?_
        refine x_iload_n f_130_100 rfl ?_
        refine x_bipush (v := nI 7) f_130_101 (by decide) ?_
        refine x_iaddN f_130_103 ?_
        refine x_iald (j := ((9 * j) + 7)) f_130_104 S.k36 (by omega) (by decide) ?_
        refine x_topi (w := mM h j 7) ((congrFun (mj_I_other (by decide)) _).trans (e36 7)) ?_
        refine x_icmp_le (t := 110) f_130_105 (by decide) (fun c_7 => ?_) (fun c_7 => ?_)
        · refine x_iinc (v := nI (r + 1)) (ls1 := [.ref 33, .int (nI j), .int (nI z), .int (nI (9 * j)), .int (nI (r + 1))]) f_130_110 rfl (by exact nI_add _ 1) rfl ?_
          refine x_goto (t := 28) f_130_113 (by decide) ?_
          have hq : jd_f (mM h j) T (n + 1) r = jd_f (mM h j) T n (r + 1) := by
            show (if _ then _ else _) = _
            rw [if_pos c_5, if_pos c_6, if_pos c_7]
          exact ih (r + 1) _ (nI r) (by omega) (WJ_set hw) (hq.symm.trans e)
        · refine x_iconst (v := nI 4) f_130_108 (by decide) ?_
          refine x_retI f_130_109 rfl ?_
          have hq : jd_f (mM h j) T (n + 1) r = (4, nI r) := by
            unfold jd_f
            rw [if_pos c_5, if_pos c_6, if_neg c_7]
          rw [← e, hq]
          exact ⟨rfl, WJ_set hw⟩
      · refine x_iconst (v := nI 3) f_130_87 (by decide) ?_
        refine x_retI f_130_88 rfl ?_
        have hq : jd_f (mM h j) T (n + 1) r = (3, nI r) := by
          unfold jd_f
          rw [if_pos c_5, if_neg c_6]
        rw [← e, hq]
        exact ⟨rfl, WJ_set hw⟩
    · refine x_iconst (v := nI 2) f_130_66 (by decide) ?_
      refine x_retI f_130_67 rfl ?_
      have hq : jd_f (mM h j) T (n + 1) r = (2, nI r) := by
        unfold jd_f
        rw [if_neg c_5]
      rw [← e, hq]
      exact ⟨rfl, WJ_set hw⟩
set_option maxRecDepth 20000 in
theorem c_judge {h : mj_H} (S : SM h) (Z : ZR h) {j rg : Nat} (hj : j < 20) (e_rg : mj_I h 36 (9 * j + 8) = nI rg) (hrg : 2 ≤ rg ∧ rg ≤ 6) (h1 : ¬ mj_I h 36 (9 * j + 1) = 0) (h4 : ¬ mj_I h 36 (9 * j + 4) = 0) {z : Nat} (hz : z < 729) : mxc 3 130 [.ref 33, .int (nI j), .int (nI z)] h (fun r h' => r = some (.int (nI (jd (mM h j) rg z).1)) ∧ WJ h h' (wd_T (mM h j) rg z) (nI (wd_1 (mM h j) rg z).1) (if wd_lt rg z (wd_1 (mM h j) rg z).2 = true then nI 1 else nI 0) (jd (mM h j) rg z).2) := by
  show mx 3 130 0 [.ref 33, .int (nI j), .int (nI z), mj_unset, mj_unset] [] h _
  refine x_aload_n f_130_0 rfl ?_
  refine x_iload_n f_130_1 rfl ?_
  refine x_iload_n f_130_2 rfl ?_
  refine x_callV f_130_3 (c_weld S Z hj e_rg hrg h1 h4 hz) (by omega) S.k33 (by decide) rfl rfl (Nat.le_of_ble_eq_true rfl) rfl ?_
  rintro _ g ⟨rfl, hw⟩
  have S : SM g := hw.1
  refine x_aload_n f_130_6 rfl ?_
  refine x_iconst (v := -1) f_130_7 (by decide) ?_
  refine x_putI f_130_8 S.k33 (by decide) ?_
  refine x_aload_n f_130_11 rfl ?_
  refine x_getI f_130_12 S.k33 (by decide) ?_
  refine x_topi (w := if wd_lt rg z (wd_1 (mM h j) rg z).2 = true then 1 else 0) ((mj_I_ne (by decide)).trans (hw.2.2.2.2.2)) ?_
  refine x_ifB_eq (t := 20) f_130_15 (by decide) (fun c_s => ?_) (fun c_s => ?_)
  · refine x_bipush (v := nI 9) f_130_20 (by decide) ?_
    refine x_iload_n f_130_22 rfl ?_
    refine x_imulN f_130_23 ?_
    refine x_istore_n (ls1 := [.ref 33, .int (nI j), .int (nI z), .int (nI (9 * j)), mj_unset]) f_130_24 (Nat.le_of_ble_eq_true rfl) rfl ?_
    refine x_iconst (v := nI 0) f_130_25 (by decide) ?_
    refine x_istore (ls1 := [.ref 33, .int (nI j), .int (nI z), .int (nI (9 * j)), .int (nI 0)]) f_130_26 (Nat.le_of_ble_eq_true rfl) rfl ?_
    have hq : jd (mM h j) rg z = jd_f (mM h j) (wd_T (mM h j) rg z) rg 0 := if_neg c_s
    rw [hq]
    exact judge_l hj e_rg hrg h1 h4 _ rg 0 _ (-1) (by omega) (WJ_set (WJ_of hw)) rfl
  · refine x_iconst (v := nI 1) f_130_18 (by decide) ?_
    refine x_retI f_130_19 rfl ?_
    have hq : jd (mM h j) rg z = (1, -1) := if_pos c_s
    rw [hq]
    exact ⟨rfl, WJ_set (WJ_of hw)⟩
