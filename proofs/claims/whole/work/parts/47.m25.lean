theorem f_168_42 : mj_fetch 168 42 = some (.iload 8, 0, 0) := by decide +kernel
theorem f_168_44 : mj_fetch 168 44 = some (.aload_n 0, 0, 0) := by decide +kernel
theorem f_168_45 : mj_fetch 168 45 = some (.getfield 252, 11, 40) := by decide +kernel
theorem f_168_48 : mj_fetch 168 48 = some (.if_icmp .ge 100, 0, 0) := by decide +kernel
theorem f_168_51 : mj_fetch 168 51 = some (.aload_n 0, 0, 0) := by decide +kernel
theorem f_168_52 : mj_fetch 168 52 = some (.iload 8, 0, 0) := by decide +kernel
theorem f_168_54 : mj_fetch 168 54 = some (.iload_n 1, 0, 0) := by decide +kernel
theorem f_168_55 : mj_fetch 168 55 = some (.invokevirtual 258, 165, 0) := by decide +kernel
theorem f_168_58 : mj_fetch 168 58 = some (.istore 9, 0, 0) := by decide +kernel
theorem f_168_60 : mj_fetch 168 60 = some (.aload_n 0, 0, 0) := by decide +kernel
theorem f_168_61 : mj_fetch 168 61 = some (.getfield 20, 11, 5) := by decide +kernel
theorem f_168_64 : mj_fetch 168 64 = some (.aload_n 0, 0, 0) := by decide +kernel
theorem f_168_65 : mj_fetch 168 65 = some (.getfield 66, 11, 34) := by decide +kernel
theorem f_168_68 : mj_fetch 168 68 = some (.iload 8, 0, 0) := by decide +kernel
theorem f_168_70 : mj_fetch 168 70 = some (.iaload, 0, 0) := by decide +kernel
theorem f_168_71 : mj_fetch 168 71 = some (.iaload, 0, 0) := by decide +kernel
theorem f_168_72 : mj_fetch 168 72 = some (.iload 5, 0, 0) := by decide +kernel
theorem f_168_74 : mj_fetch 168 74 = some (.if_icmp .eq 20, 0, 0) := by decide +kernel
theorem f_168_77 : mj_fetch 168 77 = some (.aload_n 0, 0, 0) := by decide +kernel
theorem f_168_78 : mj_fetch 168 78 = some (.getfield 23, 11, 6) := by decide +kernel
theorem f_168_81 : mj_fetch 168 81 = some (.aload_n 0, 0, 0) := by decide +kernel
theorem f_168_82 : mj_fetch 168 82 = some (.getfield 66, 11, 34) := by decide +kernel
theorem f_168_85 : mj_fetch 168 85 = some (.iload 8, 0, 0) := by decide +kernel
theorem f_168_87 : mj_fetch 168 87 = some (.iaload, 0, 0) := by decide +kernel
theorem f_168_88 : mj_fetch 168 88 = some (.iaload, 0, 0) := by decide +kernel
theorem f_168_89 : mj_fetch 168 89 = some (.iload 5, 0, 0) := by decide +kernel
theorem f_168_91 : mj_fetch 168 91 = some (.if_icmp .ne 7, 0, 0) := by decide +kernel
theorem f_168_94 : mj_fetch 168 94 = some (.iconst 1, 0, 0) := by decide +kernel
theorem f_168_95 : mj_fetch 168 95 = some (.goto 4, 0, 0) := by decide +kernel
theorem f_168_98 : mj_fetch 168 98 = some (.iconst 0, 0, 0) := by decide +kernel
theorem f_168_99 : mj_fetch 168 99 = some (.istore 10, 0, 0) := by decide +kernel
theorem f_168_101 : mj_fetch 168 101 = some (.iload 7, 0, 0) := by decide +kernel
theorem f_168_103 : mj_fetch 168 103 = some (.iload 10, 0, 0) := by decide +kernel
theorem f_168_105 : mj_fetch 168 105 = some (.ifCond .eq 12, 0, 0) := by decide +kernel
theorem f_168_108 : mj_fetch 168 108 = some (.iload 9, 0, 0) := by decide +kernel
theorem f_168_110 : mj_fetch 168 110 = some (.ifCond .eq 7, 0, 0) := by decide +kernel
theorem f_168_113 : mj_fetch 168 113 = some (.iconst 1, 0, 0) := by decide +kernel
theorem f_168_114 : mj_fetch 168 114 = some (.goto 4, 0, 0) := by decide +kernel
theorem f_168_117 : mj_fetch 168 117 = some (.iconst 0, 0, 0) := by decide +kernel
theorem f_168_118 : mj_fetch 168 118 = some (.iadd, 0, 0) := by decide +kernel
theorem f_168_119 : mj_fetch 168 119 = some (.istore 7, 0, 0) := by decide +kernel
theorem f_168_121 : mj_fetch 168 121 = some (.iload 6, 0, 0) := by decide +kernel
theorem f_168_123 : mj_fetch 168 123 = some (.iload 10, 0, 0) := by decide +kernel
theorem f_168_125 : mj_fetch 168 125 = some (.ifCond .eq 13, 0, 0) := by decide +kernel
theorem f_168_128 : mj_fetch 168 128 = some (.iload 9, 0, 0) := by decide +kernel
theorem f_168_130 : mj_fetch 168 130 = some (.iconst 2, 0, 0) := by decide +kernel
theorem f_168_131 : mj_fetch 168 131 = some (.if_icmp .ne 7, 0, 0) := by decide +kernel
theorem f_168_134 : mj_fetch 168 134 = some (.iconst 1, 0, 0) := by decide +kernel
theorem f_168_135 : mj_fetch 168 135 = some (.goto 4, 0, 0) := by decide +kernel
theorem f_168_138 : mj_fetch 168 138 = some (.iconst 0, 0, 0) := by decide +kernel
theorem f_168_139 : mj_fetch 168 139 = some (.iadd, 0, 0) := by decide +kernel
theorem f_168_140 : mj_fetch 168 140 = some (.istore 6, 0, 0) := by decide +kernel
theorem f_168_142 : mj_fetch 168 142 = some (.iinc 8 1, 0, 0) := by decide +kernel
theorem f_168_145 : mj_fetch 168 145 = some (.goto (-103), 0, 0) := by decide +kernel
theorem f_168_148 : mj_fetch 168 148 = some (.iload 6, 0, 0) := by decide +kernel
theorem f_168_150 : mj_fetch 168 150 = some (.ifCond .le 25, 0, 0) := by decide +kernel
theorem f_168_153 : mj_fetch 168 153 = some (.iload 6, 0, 0) := by decide +kernel
theorem f_168_155 : mj_fetch 168 155 = some (.iload 4, 0, 0) := by decide +kernel
theorem f_168_157 : mj_fetch 168 157 = some (.imul, 0, 0) := by decide +kernel
theorem f_168_158 : mj_fetch 168 158 = some (.iload_n 3, 0, 0) := by decide +kernel
theorem f_168_159 : mj_fetch 168 159 = some (.iload 7, 0, 0) := by decide +kernel
theorem f_168_161 : mj_fetch 168 161 = some (.imul, 0, 0) := by decide +kernel
theorem f_168_162 : mj_fetch 168 162 = some (.if_icmp .le 13, 0, 0) := by decide +kernel
theorem f_168_165 : mj_fetch 168 165 = some (.iload 5, 0, 0) := by decide +kernel
theorem f_168_167 : mj_fetch 168 167 = some (.istore_n 2, 0, 0) := by decide +kernel
theorem f_168_168 : mj_fetch 168 168 = some (.iload 6, 0, 0) := by decide +kernel
theorem f_168_170 : mj_fetch 168 170 = some (.istore_n 3, 0, 0) := by decide +kernel
theorem f_168_171 : mj_fetch 168 171 = some (.iload 7, 0, 0) := by decide +kernel
theorem f_168_173 : mj_fetch 168 173 = some (.istore 4, 0, 0) := by decide +kernel
theorem f_168_175 : mj_fetch 168 175 = some (.iinc 5 1, 0, 0) := by decide +kernel
theorem f_168_178 : mj_fetch 168 178 = some (.goto (-154), 0, 0) := by decide +kernel
theorem f_168_24 : mj_fetch 168 24 = some (.iload 5, 0, 0) := by decide +kernel
theorem f_168_26 : mj_fetch 168 26 = some (.aload_n 0, 0, 0) := by decide +kernel
theorem f_168_27 : mj_fetch 168 27 = some (.getfield 107, 11, 7) := by decide +kernel
theorem f_168_30 : mj_fetch 168 30 = some (.if_icmp .ge 151, 0, 0) := by decide +kernel
theorem f_168_33 : mj_fetch 168 33 = some (.iconst 0, 0, 0) := by decide +kernel
theorem f_168_34 : mj_fetch 168 34 = some (.istore 6, 0, 0) := by decide +kernel
theorem f_168_36 : mj_fetch 168 36 = some (.iconst 0, 0, 0) := by decide +kernel
theorem f_168_37 : mj_fetch 168 37 = some (.istore 7, 0, 0) := by decide +kernel
theorem f_168_39 : mj_fetch 168 39 = some (.iconst 0, 0, 0) := by decide +kernel
theorem f_168_40 : mj_fetch 168 40 = some (.istore 8, 0, 0) := by decide +kernel
theorem f_168_181 : mj_fetch 168 181 = some (.iload_n 2, 0, 0) := by decide +kernel
theorem f_168_182 : mj_fetch 168 182 = some (.ireturn, 0, 0) := by decide +kernel
theorem f_168_0 : mj_fetch 168 0 = some (.iload_n 1, 0, 0) := by decide +kernel
theorem f_168_1 : mj_fetch 168 1 = some (.iconst 0, 0, 0) := by decide +kernel
theorem f_168_2 : mj_fetch 168 2 = some (.aload_n 0, 0, 0) := by decide +kernel
theorem f_168_3 : mj_fetch 168 3 = some (.getfield 104, 11, 0) := by decide +kernel
theorem f_168_6 : mj_fetch 168 6 = some (.invokestatic 100, 112, 0) := by decide +kernel
theorem f_168_9 : mj_fetch 168 9 = some (.ifCond .ne 5, 0, 0) := by decide +kernel
theorem f_168_12 : mj_fetch 168 12 = some (.iconst (-1), 0, 0) := by decide +kernel
theorem f_168_13 : mj_fetch 168 13 = some (.ireturn, 0, 0) := by decide +kernel
theorem f_168_14 : mj_fetch 168 14 = some (.iconst (-1), 0, 0) := by decide +kernel
theorem f_168_15 : mj_fetch 168 15 = some (.istore_n 2, 0, 0) := by decide +kernel
theorem f_168_16 : mj_fetch 168 16 = some (.iconst 0, 0, 0) := by decide +kernel
theorem f_168_17 : mj_fetch 168 17 = some (.istore_n 3, 0, 0) := by decide +kernel
theorem f_168_18 : mj_fetch 168 18 = some (.iconst 1, 0, 0) := by decide +kernel
theorem f_168_19 : mj_fetch 168 19 = some (.istore 4, 0, 0) := by decide +kernel
theorem f_168_21 : mj_fetch 168 21 = some (.iconst 0, 0, 0) := by decide +kernel
theorem f_168_22 : mj_fetch 168 22 = some (.istore 5, 0, 0) := by decide +kernel
/-! THE STUFF THAT LEADS AMONG THE BAD -/
/-- the joint is of the stuff -/
abbrev hs (h : mj_H) (s x : Nat) : Prop := mj_I h 37 (jj h x) = nI s ∨ mj_I h 38 (jj h x) = nI s
/-- the joints of the stuff that are tried; that are bad -/
def ca (h : mj_H) (q : Int32) (km s : Nat) : Nat → Nat
  | 0 => 0
  | x + 1 => ca h q km s x + (if hs h s x ∧ ¬ ta h (nI x) q km = 0 then 1 else 0)
def cb (h : mj_H) (q : Int32) (km s : Nat) : Nat → Nat
  | 0 => 0
  | x + 1 => cb h q km s x + (if hs h s x ∧ ta h (nI x) q km = 2 then 1 else 0)
theorem ca_le (h : mj_H) (q : Int32) (km s : Nat) : ∀ x, ca h q km s x ≤ x
  | 0 => Nat.le_refl _
  | x + 1 => by
    have := ca_le h q km s x
    show ca h q km s x + (if _ then 1 else 0) ≤ x + 1
    split <;> omega
theorem cb_le (h : mj_H) (q : Int32) (km s : Nat) : ∀ x, cb h q km s x ≤ x
  | 0 => Nat.le_refl _
  | x + 1 => by
    have := cb_le h q km s x
    show cb h q km s x + (if _ then 1 else 0) ≤ x + 1
    split <;> omega
/-- the one that leads so far, its bad ones, its tried ones -/
abbrev lf_T : Type := Int32 × Nat × Nat
def lf (h : mj_H) (q : Int32) (km xm : Nat) : Nat → lf_T
  | 0 => (-1, 0, 1)
  | s + 1 => if 0 < cb h q km s xm ∧ (lf h q km xm s).2.1 * ca h q km s xm < cb h q km s xm * (lf h q km xm s).2.2 then (nI s, cb h q km s xm, ca h q km s xm) else lf h q km xm s
theorem lf_le (h : mj_H) (q : Int32) {km xm : Nat} (hx : xm ≤ 60) : ∀ s, (lf h q km xm s).2.1 ≤ 60 ∧ (lf h q km xm s).2.2 ≤ 60
  | 0 => by show 0 ≤ 60 ∧ 1 ≤ 60; omega
  | s + 1 => by
    have k := lf_le h q hx (km := km) s
    have a := ca_le h q km s xm
    have b := cb_le h q km s xm
    unfold lf
    split
    · dsimp only; omega
    · exact k

set_option maxRecDepth 20000 in
set_option maxHeartbeats 4000000 in
theorem led_i {h : mj_H} (S : SM h) {jm km xm s : Nat} (q : Int32) (h_jm : jm ≤ 20) (hs6 : s < 6) (h_km : km ≤ 100) (e_km : mj_I h 33 41 = nI km) (h_xm : xm ≤ 60) (e_xm : mj_I h 33 40 = nI xm) (hJJ : ∀ x, x < xm → JT h x jm) {v2 v3 v4 : Value} {Q : Option Value → mj_H → Prop} : ∀ (n x : Nat), x + n = xm → ∀ v9 v10 : Value, (∀ v9 v10 : Value, mx 2 168 148 [.ref 33, .int q, v2, v3, v4, .int (nI s), .int (nI (cb h q km s xm)), .int (nI (ca h q km s xm)), .int (nI xm), v9, v10] [] h Q) → mx 2 168 42 [.ref 33, .int q, v2, v3, v4, .int (nI s), .int (nI (cb h q km s x)), .int (nI (ca h q km s x)), .int (nI x), v9, v10] [] h Q := by
  intro n
  induction n with
  | zero =>
    intro x hx v9 v10 K
    have hkk : x = xm := by omega
    subst hkk
    refine x_iload f_168_42 rfl ?_
    refine x_aload_n f_168_44 rfl ?_
    refine x_getI f_168_45 S.k33 (by decide) ?_
    refine x_topi (w := nI x) e_xm ?_
    refine x_icmpN_ge (t := 148) f_168_48 (by decide) (by omega) (by omega) (fun c_1 => ?_) (fun c_1 => by omega)
    exact K v9 v10
  | succ n ih =>
    intro x hx v9 v10 K
    have hJ := hJJ x (by omega)
    have hJ2 := hJ.2.1
    have hal := ca_le h q km s x
    have hbl := cb_le h q km s x
    refine x_iload f_168_42 rfl ?_
    refine x_aload_n f_168_44 rfl ?_
    refine x_getI f_168_45 S.k33 (by decide) ?_
    refine x_topi (w := nI xm) e_xm ?_
    refine x_icmpN_ge (t := 148) f_168_48 (by decide) (by omega) (by omega) (fun c_1 => by omega) (fun c_1 => ?_)
    refine x_aload_n f_168_51 rfl ?_
    refine x_iload f_168_52 rfl ?_
    refine x_iload_n f_168_54 rfl ?_
    refine x_callVe f_168_55 (c_triedAt S _ _ h_km e_km) (by omega) S.k33 (by decide) rfl rfl (Nat.le_of_ble_eq_true rfl) rfl ?_
    have hle := ta_le h (nI x) q km
    refine x_istore (ls1 := [.ref 33, .int q, v2, v3, v4, .int (nI s), .int (nI (cb h q km s x)), .int (nI (ca h q km s x)), .int (nI x), .int (nI (ta h (nI x) q km)), v10]) f_168_58 (Nat.le_of_ble_eq_true rfl) rfl ?_
    refine x_aload_n f_168_60 rfl ?_
    refine x_getR f_168_61 S.k33 (by decide) S.r5 ?_
    refine x_aload_n f_168_64 rfl ?_
    refine x_getR f_168_65 S.k33 (by decide) S.r34 ?_
    refine x_iload f_168_68 rfl ?_
    refine x_iald (j := x) f_168_70 S.k52 (by omega) (by decide) ?_
    refine x_topi (w := nI (jj h x)) hJ.1 ?_
    refine x_iald (j := (jj h x)) f_168_71 S.k37 (by omega) (by decide) ?_
    refine x_iload f_168_72 rfl ?_
    refine x_icmp_eq (t := 94) f_168_74 (by decide) (fun c_o => ?_) (fun c_o => ?_)
    · refine x_iconst (v := nI 1) f_168_94 (by decide) ?_
      refine x_goto (t := 99) f_168_95 (by decide) ?_
      refine x_istore (ls1 := [.ref 33, .int q, v2, v3, v4, .int (nI s), .int (nI (cb h q km s x)), .int (nI (ca h q km s x)), .int (nI x), .int (nI (ta h (nI x) q km)), .int (nI 1)]) f_168_99 (Nat.le_of_ble_eq_true rfl) rfl ?_
      refine x_iload f_168_101 rfl ?_
      refine x_iload f_168_103 rfl ?_
      refine x_ifN_eq (t := 117) f_168_105 (by decide) (by decide) (fun c_2 => by omega) (fun c_2 => ?_)
      refine x_iload f_168_108 rfl ?_
      refine x_ifN_eq (t := 117) f_168_110 (by decide) (by omega) (fun c_t => ?_) (fun c_t => ?_)
      · refine x_iconst (v := nI 0) f_168_117 (by decide) ?_
        refine x_iaddN f_168_118 ?_
        refine x_istore (ls1 := [.ref 33, .int q, v2, v3, v4, .int (nI s), .int (nI (cb h q km s x)), .int (nI ((ca h q km s x) + 0)), .int (nI x), .int (nI (ta h (nI x) q km)), .int (nI 1)]) f_168_119 (Nat.le_of_ble_eq_true rfl) rfl ?_
        refine x_iload f_168_121 rfl ?_
        refine x_iload f_168_123 rfl ?_
        refine x_ifN_eq (t := 138) f_168_125 (by decide) (by decide) (fun c_3 => by omega) (fun c_3 => ?_)
        refine x_iload f_168_128 rfl ?_
        refine x_iconst (v := nI 2) f_168_130 (by decide) ?_
        refine x_icmpN_ne (t := 138) f_168_131 (by decide) (by omega) (by decide) (fun c_2 => ?_) (fun c_2 => ?_)
        · refine x_iconst (v := nI 0) f_168_138 (by decide) ?_
          refine x_iaddN f_168_139 ?_
          refine x_istore (ls1 := [.ref 33, .int q, v2, v3, v4, .int (nI s), .int (nI ((cb h q km s x) + 0)), .int (nI ((ca h q km s x) + 0)), .int (nI x), .int (nI (ta h (nI x) q km)), .int (nI 1)]) f_168_140 (Nat.le_of_ble_eq_true rfl) rfl ?_
          refine x_iinc (v := nI (x + 1)) (ls1 := [.ref 33, .int q, v2, v3, v4, .int (nI s), .int (nI ((cb h q km s x) + 0)), .int (nI ((ca h q km s x) + 0)), .int (nI (x + 1)), .int (nI (ta h (nI x) q km)), .int (nI 1)]) f_168_142 rfl (by exact nI_add _ 1) rfl ?_
          refine x_goto (t := 42) f_168_145 (by decide) ?_
          have hh : hs h s x := Or.inl c_o
          have ea : ca h q km s (x + 1) = (ca h q km s x) + 0 := by
            show ca h q km s x + (if _ then 1 else 0) = _
            rw [if_neg]
            simp [hh, c_t]
          have eb : cb h q km s (x + 1) = (cb h q km s x) + 0 := by
            show cb h q km s x + (if _ then 1 else 0) = _
            rw [if_neg]
            simp [hh, c_2]
          have ih2 := ih (x + 1) (by omega)
          rw [ea, eb] at ih2
          exact ih2 _ _ K
        · refine x_iconst (v := nI 1) f_168_134 (by decide) ?_
          refine x_goto (t := 139) f_168_135 (by decide) ?_
          refine x_iaddN f_168_139 ?_
          refine x_istore (ls1 := [.ref 33, .int q, v2, v3, v4, .int (nI s), .int (nI ((cb h q km s x) + 1)), .int (nI ((ca h q km s x) + 0)), .int (nI x), .int (nI (ta h (nI x) q km)), .int (nI 1)]) f_168_140 (Nat.le_of_ble_eq_true rfl) rfl ?_
          refine x_iinc (v := nI (x + 1)) (ls1 := [.ref 33, .int q, v2, v3, v4, .int (nI s), .int (nI ((cb h q km s x) + 1)), .int (nI ((ca h q km s x) + 0)), .int (nI (x + 1)), .int (nI (ta h (nI x) q km)), .int (nI 1)]) f_168_142 rfl (by exact nI_add _ 1) rfl ?_
          refine x_goto (t := 42) f_168_145 (by decide) ?_
          have hh : hs h s x := Or.inl c_o
          have ea : ca h q km s (x + 1) = (ca h q km s x) + 0 := by
            show ca h q km s x + (if _ then 1 else 0) = _
            rw [if_neg]
            simp [hh, c_t]
          have eb : cb h q km s (x + 1) = (cb h q km s x) + 1 := by
            show cb h q km s x + (if _ then 1 else 0) = _
            rw [if_pos]
            simp [hh, c_2]
          have ih2 := ih (x + 1) (by omega)
          rw [ea, eb] at ih2
          exact ih2 _ _ K
      · refine x_iconst (v := nI 1) f_168_113 (by decide) ?_
        refine x_goto (t := 118) f_168_114 (by decide) ?_
        refine x_iaddN f_168_118 ?_
        refine x_istore (ls1 := [.ref 33, .int q, v2, v3, v4, .int (nI s), .int (nI (cb h q km s x)), .int (nI ((ca h q km s x) + 1)), .int (nI x), .int (nI (ta h (nI x) q km)), .int (nI 1)]) f_168_119 (Nat.le_of_ble_eq_true rfl) rfl ?_
        refine x_iload f_168_121 rfl ?_
        refine x_iload f_168_123 rfl ?_
        refine x_ifN_eq (t := 138) f_168_125 (by decide) (by decide) (fun c_4 => by omega) (fun c_4 => ?_)
        refine x_iload f_168_128 rfl ?_
        refine x_iconst (v := nI 2) f_168_130 (by decide) ?_
        refine x_icmpN_ne (t := 138) f_168_131 (by decide) (by omega) (by decide) (fun c_2 => ?_) (fun c_2 => ?_)
        · refine x_iconst (v := nI 0) f_168_138 (by decide) ?_
          refine x_iaddN f_168_139 ?_
          refine x_istore (ls1 := [.ref 33, .int q, v2, v3, v4, .int (nI s), .int (nI ((cb h q km s x) + 0)), .int (nI ((ca h q km s x) + 1)), .int (nI x), .int (nI (ta h (nI x) q km)), .int (nI 1)]) f_168_140 (Nat.le_of_ble_eq_true rfl) rfl ?_
          refine x_iinc (v := nI (x + 1)) (ls1 := [.ref 33, .int q, v2, v3, v4, .int (nI s), .int (nI ((cb h q km s x) + 0)), .int (nI ((ca h q km s x) + 1)), .int (nI (x + 1)), .int (nI (ta h (nI x) q km)), .int (nI 1)]) f_168_142 rfl (by exact nI_add _ 1) rfl ?_
          refine x_goto (t := 42) f_168_145 (by decide) ?_
          have hh : hs h s x := Or.inl c_o
          have ea : ca h q km s (x + 1) = (ca h q km s x) + 1 := by
            show ca h q km s x + (if _ then 1 else 0) = _
            rw [if_pos]
            simp [hh, c_t]
          have eb : cb h q km s (x + 1) = (cb h q km s x) + 0 := by
            show cb h q km s x + (if _ then 1 else 0) = _
            rw [if_neg]
            simp [hh, c_2]
          have ih2 := ih (x + 1) (by omega)
          rw [ea, eb] at ih2
          exact ih2 _ _ K
        · refine x_iconst (v := nI 1) f_168_134 (by decide) ?_
          refine x_goto (t := 139) f_168_135 (by decide) ?_
          refine x_iaddN f_168_139 ?_
          refine x_istore (ls1 := [.ref 33, .int q, v2, v3, v4, .int (nI s), .int (nI ((cb h q km s x) + 1)), .int (nI ((ca h q km s x) + 1)), .int (nI x), .int (nI (ta h (nI x) q km)), .int (nI 1)]) f_168_140 (Nat.le_of_ble_eq_true rfl) rfl ?_
          refine x_iinc (v := nI (x + 1)) (ls1 := [.ref 33, .int q, v2, v3, v4, .int (nI s), .int (nI ((cb h q km s x) + 1)), .int (nI ((ca h q km s x) + 1)), .int (nI (x + 1)), .int (nI (ta h (nI x) q km)), .int (nI 1)]) f_168_142 rfl (by exact nI_add _ 1) rfl ?_
          refine x_goto (t := 42) f_168_145 (by decide) ?_
          have hh : hs h s x := Or.inl c_o
          have ea : ca h q km s (x + 1) = (ca h q km s x) + 1 := by
            show ca h q km s x + (if _ then 1 else 0) = _
            rw [if_pos]
            simp [hh, c_t]
          have eb : cb h q km s (x + 1) = (cb h q km s x) + 1 := by
            show cb h q km s x + (if _ then 1 else 0) = _
            rw [if_pos]
            simp [hh, c_2]
          have ih2 := ih (x + 1) (by omega)
          rw [ea, eb] at ih2
          exact ih2 _ _ K
    · refine x_aload_n f_168_77 rfl ?_
      refine x_getR f_168_78 S.k33 (by decide) S.r6 ?_
      refine x_aload_n f_168_81 rfl ?_
      refine x_getR f_168_82 S.k33 (by decide) S.r34 ?_
      refine x_iload f_168_85 rfl ?_
      refine x_iald (j := x) f_168_87 S.k52 (by omega) (by decide) ?_
      refine x_topi (w := nI (jj h x)) hJ.1 ?_
      refine x_iald (j := (jj h x)) f_168_88 S.k38 (by omega) (by decide) ?_
      refine x_iload f_168_89 rfl ?_
      refine x_icmp_ne (t := 98) f_168_91 (by decide) (fun c_p => ?_) (fun c_p => ?_)
      · refine x_iconst (v := nI 0) f_168_98 (by decide) ?_
        refine x_istore (ls1 := [.ref 33, .int q, v2, v3, v4, .int (nI s), .int (nI (cb h q km s x)), .int (nI (ca h q km s x)), .int (nI x), .int (nI (ta h (nI x) q km)), .int (nI 0)]) f_168_99 (Nat.le_of_ble_eq_true rfl) rfl ?_
        refine x_iload f_168_101 rfl ?_
        refine x_iload f_168_103 rfl ?_
        refine x_ifN_eq (t := 117) f_168_105 (by decide) (by decide) (fun c_5 => ?_) (fun c_5 => by omega)
        refine x_iconst (v := nI 0) f_168_117 (by decide) ?_
        refine x_iaddN f_168_118 ?_
        refine x_istore (ls1 := [.ref 33, .int q, v2, v3, v4, .int (nI s), .int (nI (cb h q km s x)), .int (nI ((ca h q km s x) + 0)), .int (nI x), .int (nI (ta h (nI x) q km)), .int (nI 0)]) f_168_119 (Nat.le_of_ble_eq_true rfl) rfl ?_
        refine x_iload f_168_121 rfl ?_
        refine x_iload f_168_123 rfl ?_
        refine x_ifN_eq (t := 138) f_168_125 (by decide) (by decide) (fun c_6 => ?_) (fun c_6 => by omega)
        refine x_iconst (v := nI 0) f_168_138 (by decide) ?_
        refine x_iaddN f_168_139 ?_
        refine x_istore (ls1 := [.ref 33, .int q, v2, v3, v4, .int (nI s), .int (nI ((cb h q km s x) + 0)), .int (nI ((ca h q km s x) + 0)), .int (nI x), .int (nI (ta h (nI x) q km)), .int (nI 0)]) f_168_140 (Nat.le_of_ble_eq_true rfl) rfl ?_
        refine x_iinc (v := nI (x + 1)) (ls1 := [.ref 33, .int q, v2, v3, v4, .int (nI s), .int (nI ((cb h q km s x) + 0)), .int (nI ((ca h q km s x) + 0)), .int (nI (x + 1)), .int (nI (ta h (nI x) q km)), .int (nI 0)]) f_168_142 rfl (by exact nI_add _ 1) rfl ?_
        refine x_goto (t := 42) f_168_145 (by decide) ?_
        have hh : ¬ hs h s x := fun z => z.elim c_o c_p
        have ea : ca h q km s (x + 1) = (ca h q km s x) + 0 := by
          show ca h q km s x + (if _ then 1 else 0) = _
          rw [if_neg]
          simp [hh]
        have eb : cb h q km s (x + 1) = (cb h q km s x) + 0 := by
          show cb h q km s x + (if _ then 1 else 0) = _
          rw [if_neg]
          simp [hh]
        have ih2 := ih (x + 1) (by omega)
        rw [ea, eb] at ih2
        exact ih2 _ _ K
      · refine x_iconst (v := nI 1) f_168_94 (by decide) ?_
        refine x_goto (t := 99) f_168_95 (by decide) ?_
        refine x_istore (ls1 := [.ref 33, .int q, v2, v3, v4, .int (nI s), .int (nI (cb h q km s x)), .int (nI (ca h q km s x)), .int (nI x), .int (nI (ta h (nI x) q km)), .int (nI 1)]) f_168_99 (Nat.le_of_ble_eq_true rfl) rfl ?_
        refine x_iload f_168_101 rfl ?_
        refine x_iload f_168_103 rfl ?_
        refine x_ifN_eq (t := 117) f_168_105 (by decide) (by decide) (fun c_7 => by omega) (fun c_7 => ?_)
        refine x_iload f_168_108 rfl ?_
        refine x_ifN_eq (t := 117) f_168_110 (by decide) (by omega) (fun c_t => ?_) (fun c_t => ?_)
        · refine x_iconst (v := nI 0) f_168_117 (by decide) ?_
          refine x_iaddN f_168_118 ?_
          refine x_istore (ls1 := [.ref 33, .int q, v2, v3, v4, .int (nI s), .int (nI (cb h q km s x)), .int (nI ((ca h q km s x) + 0)), .int (nI x), .int (nI (ta h (nI x) q km)), .int (nI 1)]) f_168_119 (Nat.le_of_ble_eq_true rfl) rfl ?_
          refine x_iload f_168_121 rfl ?_
          refine x_iload f_168_123 rfl ?_
          refine x_ifN_eq (t := 138) f_168_125 (by decide) (by decide) (fun c_8 => by omega) (fun c_8 => ?_)
          refine x_iload f_168_128 rfl ?_
          refine x_iconst (v := nI 2) f_168_130 (by decide) ?_
          refine x_icmpN_ne (t := 138) f_168_131 (by decide) (by omega) (by decide) (fun c_2 => ?_) (fun c_2 => ?_)
          · refine x_iconst (v := nI 0) f_168_138 (by decide) ?_
            refine x_iaddN f_168_139 ?_
            refine x_istore (ls1 := [.ref 33, .int q, v2, v3, v4, .int (nI s), .int (nI ((cb h q km s x) + 0)), .int (nI ((ca h q km s x) + 0)), .int (nI x), .int (nI (ta h (nI x) q km)), .int (nI 1)]) f_168_140 (Nat.le_of_ble_eq_true rfl) rfl ?_
            refine x_iinc (v := nI (x + 1)) (ls1 := [.ref 33, .int q, v2, v3, v4, .int (nI s), .int (nI ((cb h q km s x) + 0)), .int (nI ((ca h q km s x) + 0)), .int (nI (x + 1)), .int (nI (ta h (nI x) q km)), .int (nI 1)]) f_168_142 rfl (by exact nI_add _ 1) rfl ?_
            refine x_goto (t := 42) f_168_145 (by decide) ?_
            have hh : hs h s x := Or.inr c_p
            have ea : ca h q km s (x + 1) = (ca h q km s x) + 0 := by
              show ca h q km s x + (if _ then 1 else 0) = _
              rw [if_neg]
              simp [hh, c_t]
            have eb : cb h q km s (x + 1) = (cb h q km s x) + 0 := by
              show cb h q km s x + (if _ then 1 else 0) = _
              rw [if_neg]
              simp [hh, c_2]
            have ih2 := ih (x + 1) (by omega)
            rw [ea, eb] at ih2
            exact ih2 _ _ K
          · refine x_iconst (v := nI 1) f_168_134 (by decide) ?_
            refine x_goto (t := 139) f_168_135 (by decide) ?_
            refine x_iaddN f_168_139 ?_
            refine x_istore (ls1 := [.ref 33, .int q, v2, v3, v4, .int (nI s), .int (nI ((cb h q km s x) + 1)), .int (nI ((ca h q km s x) + 0)), .int (nI x), .int (nI (ta h (nI x) q km)), .int (nI 1)]) f_168_140 (Nat.le_of_ble_eq_true rfl) rfl ?_
            refine x_iinc (v := nI (x + 1)) (ls1 := [.ref 33, .int q, v2, v3, v4, .int (nI s), .int (nI ((cb h q km s x) + 1)), .int (nI ((ca h q km s x) + 0)), .int (nI (x + 1)), .int (nI (ta h (nI x) q km)), .int (nI 1)]) f_168_142 rfl (by exact nI_add _ 1) rfl ?_
            refine x_goto (t := 42) f_168_145 (by decide) ?_
            have hh : hs h s x := Or.inr c_p
            have ea : ca h q km s (x + 1) = (ca h q km s x) + 0 := by
              show ca h q km s x + (if _ then 1 else 0) = _
              rw [if_neg]
              simp [hh, c_t]
            have eb : cb h q km s (x + 1) = (cb h q km s x) + 1 := by
              show cb h q km s x + (if _ then 1 else 0) = _
              rw [if_pos]
              simp [hh, c_2]
            have ih2 := ih (x + 1) (by omega)
            rw [ea, eb] at ih2
            exact ih2 _ _ K
        · refine x_iconst (v := nI 1) f_168_113 (by decide) ?_
          refine x_goto (t := 118) f_168_114 (by decide) ?_
          refine x_iaddN f_168_118 ?_
          refine x_istore (ls1 := [.ref 33, .int q, v2, v3, v4, .int (nI s), .int (nI (cb h q km s x)), .int (nI ((ca h q km s x) + 1)), .int (nI x), .int (nI (ta h (nI x) q km)), .int (nI 1)]) f_168_119 (Nat.le_of_ble_eq_true rfl) rfl ?_
          refine x_iload f_168_121 rfl ?_
          refine x_iload f_168_123 rfl ?_
          refine x_ifN_eq (t := 138) f_168_125 (by decide) (by decide) (fun c_9 => by omega) (fun c_9 => ?_)
          refine x_iload f_168_128 rfl ?_
          refine x_iconst (v := nI 2) f_168_130 (by decide) ?_
          refine x_icmpN_ne (t := 138) f_168_131 (by decide) (by omega) (by decide) (fun c_2 => ?_) (fun c_2 => ?_)
          · refine x_iconst (v := nI 0) f_168_138 (by decide) ?_
            refine x_iaddN f_168_139 ?_
            refine x_istore (ls1 := [.ref 33, .int q, v2, v3, v4, .int (nI s), .int (nI ((cb h q km s x) + 0)), .int (nI ((ca h q km s x) + 1)), .int (nI x), .int (nI (ta h (nI x) q km)), .int (nI 1)]) f_168_140 (Nat.le_of_ble_eq_true rfl) rfl ?_
            refine x_iinc (v := nI (x + 1)) (ls1 := [.ref 33, .int q, v2, v3, v4, .int (nI s), .int (nI ((cb h q km s x) + 0)), .int (nI ((ca h q km s x) + 1)), .int (nI (x + 1)), .int (nI (ta h (nI x) q km)), .int (nI 1)]) f_168_142 rfl (by exact nI_add _ 1) rfl ?_
            refine x_goto (t := 42) f_168_145 (by decide) ?_
            have hh : hs h s x := Or.inr c_p
            have ea : ca h q km s (x + 1) = (ca h q km s x) + 1 := by
              show ca h q km s x + (if _ then 1 else 0) = _
              rw [if_pos]
              simp [hh, c_t]
            have eb : cb h q km s (x + 1) = (cb h q km s x) + 0 := by
              show cb h q km s x + (if _ then 1 else 0) = _
              rw [if_neg]
              simp [hh, c_2]
            have ih2 := ih (x + 1) (by omega)
            rw [ea, eb] at ih2
            exact ih2 _ _ K
          · refine x_iconst (v := nI 1) f_168_134 (by decide) ?_
            refine x_goto (t := 139) f_168_135 (by decide) ?_
            refine x_iaddN f_168_139 ?_
            refine x_istore (ls1 := [.ref 33, .int q, v2, v3, v4, .int (nI s), .int (nI ((cb h q km s x) + 1)), .int (nI ((ca h q km s x) + 1)), .int (nI x), .int (nI (ta h (nI x) q km)), .int (nI 1)]) f_168_140 (Nat.le_of_ble_eq_true rfl) rfl ?_
            refine x_iinc (v := nI (x + 1)) (ls1 := [.ref 33, .int q, v2, v3, v4, .int (nI s), .int (nI ((cb h q km s x) + 1)), .int (nI ((ca h q km s x) + 1)), .int (nI (x + 1)), .int (nI (ta h (nI x) q km)), .int (nI 1)]) f_168_142 rfl (by exact nI_add _ 1) rfl ?_
            refine x_goto (t := 42) f_168_145 (by decide) ?_
            have hh : hs h s x := Or.inr c_p
            have ea : ca h q km s (x + 1) = (ca h q km s x) + 1 := by
              show ca h q km s x + (if _ then 1 else 0) = _
              rw [if_pos]
              simp [hh, c_t]
            have eb : cb h q km s (x + 1) = (cb h q km s x) + 1 := by
              show cb h q km s x + (if _ then 1 else 0) = _
              rw [if_pos]
              simp [hh, c_2]
            have ih2 := ih (x + 1) (by omega)
            rw [ea, eb] at ih2
            exact ih2 _ _ K
set_option maxRecDepth 20000 in
set_option maxHeartbeats 4000000 in
theorem led_o {h : mj_H} (S : SM h) {jm km xm sm : Nat} (q : Int32) (h_jm : jm ≤ 20) (h_sm : sm ≤ 6) (e_sm : mj_I h 33 7 = nI sm) (h_km : km ≤ 100) (e_km : mj_I h 33 41 = nI km) (h_xm : xm ≤ 60) (e_xm : mj_I h 33 40 = nI xm) (hJJ : ∀ x, x < xm → JT h x jm) : ∀ (n s : Nat), s + n = sm → ∀ v6 v7 v8 v9 v10 : Value, mx 2 168 24 [.ref 33, .int q, .int ((lf h q km xm s).1), .int (nI ((lf h q km xm s).2.1)), .int (nI ((lf h q km xm s).2.2)), .int (nI s), v6, v7, v8, v9, v10] [] h (fun r h' => r = some (.int (lf h q km xm sm).1) ∧ h' = h) := by
  intro n
  induction n with
  | zero =>
    intro s hx v6 v7 v8 v9 v10
    have hkk : s = sm := by omega
    subst hkk
    refine x_iload f_168_24 rfl ?_
    refine x_aload_n f_168_26 rfl ?_
    refine x_getI f_168_27 S.k33 (by decide) ?_
    refine x_topi (w := nI s) e_sm ?_
    refine x_icmpN_ge (t := 181) f_168_30 (by decide) (by omega) (by omega) (fun c_1 => ?_) (fun c_1 => by omega)
    refine x_iload_n f_168_181 rfl ?_
    refine x_retI f_168_182 rfl ?_
    exact ⟨rfl, rfl⟩
  | succ n ih =>
    intro s hx v6 v7 v8 v9 v10
    have hb6 := cb_le h q km s xm
    have ha6 := ca_le h q km s xm
    have hl6 := lf_le h q h_xm (km := km) s
    have m1 : cb h q km s xm * (lf h q km xm s).2.2 ≤ 60 * 60 := Nat.mul_le_mul (by omega) (by omega)
    have m2 : (lf h q km xm s).2.1 * ca h q km s xm ≤ 60 * 60 := Nat.mul_le_mul (by omega) (by omega)
    refine x_iload f_168_24 rfl ?_
    refine x_aload_n f_168_26 rfl ?_
    refine x_getI f_168_27 S.k33 (by decide) ?_
    refine x_topi (w := nI sm) e_sm ?_
    refine x_icmpN_ge (t := 181) f_168_30 (by decide) (by omega) (by omega) (fun c_1 => by omega) (fun c_1 => ?_)
    refine x_iconst (v := nI 0) f_168_33 (by decide) ?_
    refine x_istore (ls1 := [.ref 33, .int q, .int ((lf h q km xm s).1), .int (nI ((lf h q km xm s).2.1)), .int (nI ((lf h q km xm s).2.2)), .int (nI s), .int (nI 0), v7, v8, v9, v10]) f_168_34 (Nat.le_of_ble_eq_true rfl) rfl ?_
    refine x_iconst (v := nI 0) f_168_36 (by decide) ?_
    refine x_istore (ls1 := [.ref 33, .int q, .int ((lf h q km xm s).1), .int (nI ((lf h q km xm s).2.1)), .int (nI ((lf h q km xm s).2.2)), .int (nI s), .int (nI 0), .int (nI 0), v8, v9, v10]) f_168_37 (Nat.le_of_ble_eq_true rfl) rfl ?_
    refine x_iconst (v := nI 0) f_168_39 (by decide) ?_
    refine x_istore (ls1 := [.ref 33, .int q, .int ((lf h q km xm s).1), .int (nI ((lf h q km xm s).2.1)), .int (nI ((lf h q km xm s).2.2)), .int (nI s), .int (nI 0), .int (nI 0), .int (nI 0), v9, v10]) f_168_40 (Nat.le_of_ble_eq_true rfl) rfl ?_
    refine led_i S q h_jm (by omega) h_km e_km h_xm e_xm hJJ xm 0 (Nat.zero_add _) _ _ ?_
    intro v9 v10
    refine x_iload f_168_148 rfl ?_
    refine x_ifN_le (t := 175) f_168_150 (by decide) (by omega) (fun c_b => ?_) (fun c_b => ?_)
    · refine x_iinc (v := nI (s + 1)) (ls1 := [.ref 33, .int q, .int ((lf h q km xm s).1), .int (nI ((lf h q km xm s).2.1)), .int (nI ((lf h q km xm s).2.2)), .int (nI (s + 1)), .int (nI (cb h q km s xm)), .int (nI (ca h q km s xm)), .int (nI xm), v9, v10]) f_168_175 rfl (by exact nI_add _ 1) rfl ?_
      refine x_goto (t := 24) f_168_178 (by decide) ?_
      have e : lf h q km xm (s + 1) = lf h q km xm s := if_neg (by omega)
      have ih2 := ih (s + 1) (by omega)
      rw [e] at ih2
      exact ih2 _ _ _ _ _
    · refine x_iload f_168_153 rfl ?_
      refine x_iload f_168_155 rfl ?_
      refine x_imulN f_168_157 ?_
      refine x_iload_n f_168_158 rfl ?_
      refine x_iload f_168_159 rfl ?_
      refine x_imulN f_168_161 ?_
      refine x_icmpN_le (t := 175) f_168_162 (by decide) (by omega) (by omega) (fun c_m => ?_) (fun c_m => ?_)
      · refine x_iinc (v := nI (s + 1)) (ls1 := [.ref 33, .int q, .int ((lf h q km xm s).1), .int (nI ((lf h q km xm s).2.1)), .int (nI ((lf h q km xm s).2.2)), .int (nI (s + 1)), .int (nI (cb h q km s xm)), .int (nI (ca h q km s xm)), .int (nI xm), v9, v10]) f_168_175 rfl (by exact nI_add _ 1) rfl ?_
        refine x_goto (t := 24) f_168_178 (by decide) ?_
        have e : lf h q km xm (s + 1) = lf h q km xm s := if_neg (by omega)
        have ih2 := ih (s + 1) (by omega)
        rw [e] at ih2
        exact ih2 _ _ _ _ _
      · refine x_iload f_168_165 rfl ?_
        refine x_istore_n (ls1 := [.ref 33, .int q, .int (nI s), .int (nI ((lf h q km xm s).2.1)), .int (nI ((lf h q km xm s).2.2)), .int (nI s), .int (nI (cb h q km s xm)), .int (nI (ca h q km s xm)), .int (nI xm), v9, v10]) f_168_167 (Nat.le_of_ble_eq_true rfl) rfl ?_
        refine x_iload f_168_168 rfl ?_
        refine x_istore_n (ls1 := [.ref 33, .int q, .int (nI s), .int (nI (cb h q km s xm)), .int (nI ((lf h q km xm s).2.2)), .int (nI s), .int (nI (cb h q km s xm)), .int (nI (ca h q km s xm)), .int (nI xm), v9, v10]) f_168_170 (Nat.le_of_ble_eq_true rfl) rfl ?_
        refine x_iload f_168_171 rfl ?_
        refine x_istore (ls1 := [.ref 33, .int q, .int (nI s), .int (nI (cb h q km s xm)), .int (nI (ca h q km s xm)), .int (nI s), .int (nI (cb h q km s xm)), .int (nI (ca h q km s xm)), .int (nI xm), v9, v10]) f_168_173 (Nat.le_of_ble_eq_true rfl) rfl ?_
        refine x_iinc (v := nI (s + 1)) (ls1 := [.ref 33, .int q, .int (nI s), .int (nI (cb h q km s xm)), .int (nI (ca h q km s xm)), .int (nI (s + 1)), .int (nI (cb h q km s xm)), .int (nI (ca h q km s xm)), .int (nI xm), v9, v10]) f_168_175 rfl (by exact nI_add _ 1) rfl ?_
        refine x_goto (t := 24) f_168_178 (by decide) ?_
        have e : lf h q km xm (s + 1) = (nI s, cb h q km s xm, ca h q km s xm) := if_pos ⟨by omega, by omega⟩
        have ih2 := ih (s + 1) (by omega)
        rw [e] at ih2
        exact ih2 _ _ _ _ _
set_option maxRecDepth 20000 in
theorem c_led {h : mj_H} (S : SM h) {jm km xm sm : Nat} (q : Int32) (h_jm : jm ≤ 20) (h_sm : sm ≤ 6) (e_sm : mj_I h 33 7 = nI sm) (h_km : km ≤ 100) (e_km : mj_I h 33 41 = nI km) (h_xm : xm ≤ 60) (e_xm : mj_I h 33 40 = nI xm) (hJJ : ∀ x, x < xm → JT h x jm) : mxc 2 168 [.ref 33, .int q] h (fun r h' => if nI 0 ≤ q ∧ q ≤ mj_I h 33 0 then r = some (.int (lf h q km xm sm).1) ∧ h' = h else r = some (.int (-1)) ∧ h' = h) := by
  show mx 2 168 0 [.ref 33, .int q, mj_unset, mj_unset, mj_unset, mj_unset, mj_unset, mj_unset, mj_unset, mj_unset, mj_unset] [] h _
  refine x_iload_n f_168_0 rfl ?_
  refine x_iconst (v := nI 0) f_168_1 (by decide) ?_
  refine x_aload_n f_168_2 rfl ?_
  refine x_getI f_168_3 S.k33 (by decide) ?_
  refine x_callSe f_168_6 (c_in _ _ _ _) (by omega) rfl rfl rfl (Nat.le_of_ble_eq_true rfl) rfl ?_
  refine x_ifB_ne (t := 14) f_168_9 (by decide) (fun c_1 => ?_) (fun c_1 => ?_)
  · refine x_iconst (v := -1) f_168_14 (by decide) ?_
    refine x_istore_n (ls1 := [.ref 33, .int q, .int (-1), mj_unset, mj_unset, mj_unset, mj_unset, mj_unset, mj_unset, mj_unset, mj_unset]) f_168_15 (Nat.le_of_ble_eq_true rfl) rfl ?_
    refine x_iconst (v := nI 0) f_168_16 (by decide) ?_
    refine x_istore_n (ls1 := [.ref 33, .int q, .int (-1), .int (nI 0), mj_unset, mj_unset, mj_unset, mj_unset, mj_unset, mj_unset, mj_unset]) f_168_17 (Nat.le_of_ble_eq_true rfl) rfl ?_
    refine x_iconst (v := nI 1) f_168_18 (by decide) ?_
    refine x_istore (ls1 := [.ref 33, .int q, .int (-1), .int (nI 0), .int (nI 1), mj_unset, mj_unset, mj_unset, mj_unset, mj_unset, mj_unset]) f_168_19 (Nat.le_of_ble_eq_true rfl) rfl ?_
    refine x_iconst (v := nI 0) f_168_21 (by decide) ?_
    refine x_istore (ls1 := [.ref 33, .int q, .int (-1), .int (nI 0), .int (nI 1), .int (nI 0), mj_unset, mj_unset, mj_unset, mj_unset, mj_unset]) f_168_22 (Nat.le_of_ble_eq_true rfl) rfl ?_
    refine (led_o S q h_jm h_sm e_sm h_km e_km h_xm e_xm hJJ sm 0 (Nat.zero_add _) _ _ _ _ _).post ?_
    intro r h' k
    exact mj_qT c_1 k
  · refine x_iconst (v := -1) f_168_12 (by decide) ?_
    refine x_retI f_168_13 rfl ?_
    exact mj_qF c_1 ⟨rfl, rfl⟩
