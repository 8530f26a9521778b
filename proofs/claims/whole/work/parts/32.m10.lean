theorem f_138_0 : mj_fetch 138 0 = some (.aload_n 0, 0, 0) := by decide +kernel
theorem f_138_1 : mj_fetch 138 1 = some (.iload_n 1, 0, 0) := by decide +kernel
theorem f_138_2 : mj_fetch 138 2 = some (.invokevirtual 126, 117, 0) := by decide +kernel
theorem f_138_5 : mj_fetch 138 5 = some (.ifCond .eq 26, 0, 0) := by decide +kernel
theorem f_138_8 : mj_fetch 138 8 = some (.iload_n 2, 0, 0) := by decide +kernel
theorem f_138_9 : mj_fetch 138 9 = some (.invokestatic 165, 118, 0) := by decide +kernel
theorem f_138_12 : mj_fetch 138 12 = some (.ifCond .eq 19, 0, 0) := by decide +kernel
theorem f_138_15 : mj_fetch 138 15 = some (.iload_n 3, 0, 0) := by decide +kernel
theorem f_138_16 : mj_fetch 138 16 = some (.invokestatic 165, 118, 0) := by decide +kernel
theorem f_138_19 : mj_fetch 138 19 = some (.ifCond .eq 12, 0, 0) := by decide +kernel
theorem f_138_22 : mj_fetch 138 22 = some (.aload_n 0, 0, 0) := by decide +kernel
theorem f_138_23 : mj_fetch 138 23 = some (.getfield 176, 11, 21) := by decide +kernel
theorem f_138_26 : mj_fetch 138 26 = some (.bipush 10, 0, 0) := by decide +kernel
theorem f_138_28 : mj_fetch 138 28 = some (.if_icmp .ne 5, 0, 0) := by decide +kernel
theorem f_138_31 : mj_fetch 138 31 = some (.iconst (-1), 0, 0) := by decide +kernel
theorem f_138_32 : mj_fetch 138 32 = some (.ireturn, 0, 0) := by decide +kernel
theorem f_138_33 : mj_fetch 138 33 = some (.iconst 0, 0, 0) := by decide +kernel
theorem f_138_34 : mj_fetch 138 34 = some (.istore 4, 0, 0) := by decide +kernel
theorem f_138_36 : mj_fetch 138 36 = some (.iload 4, 0, 0) := by decide +kernel
theorem f_138_38 : mj_fetch 138 38 = some (.iconst 3, 0, 0) := by decide +kernel
theorem f_138_39 : mj_fetch 138 39 = some (.if_icmp .ge 32, 0, 0) := by decide +kernel
theorem f_138_42 : mj_fetch 138 42 = some (.iload_n 3, 0, 0) := by decide +kernel
theorem f_138_43 : mj_fetch 138 43 = some (.iload 4, 0, 0) := by decide +kernel
theorem f_138_45 : mj_fetch 138 45 = some (.invokestatic 137, 125, 0) := by decide +kernel
theorem f_138_48 : mj_fetch 138 48 = some (.iload_n 2, 0, 0) := by decide +kernel
theorem f_138_49 : mj_fetch 138 49 = some (.iload 4, 0, 0) := by decide +kernel
theorem f_138_51 : mj_fetch 138 51 = some (.invokestatic 137, 125, 0) := by decide +kernel
theorem f_138_54 : mj_fetch 138 54 = some (.isub, 0, 0) := by decide +kernel
theorem f_138_55 : mj_fetch 138 55 = some (.iconst 0, 0, 0) := by decide +kernel
theorem f_138_56 : mj_fetch 138 56 = some (.iconst 5, 0, 0) := by decide +kernel
theorem f_138_57 : mj_fetch 138 57 = some (.invokestatic 100, 112, 0) := by decide +kernel
theorem f_138_60 : mj_fetch 138 60 = some (.ifCond .ne 5, 0, 0) := by decide +kernel
theorem f_138_63 : mj_fetch 138 63 = some (.iconst (-1), 0, 0) := by decide +kernel
theorem f_138_64 : mj_fetch 138 64 = some (.ireturn, 0, 0) := by decide +kernel
theorem f_138_65 : mj_fetch 138 65 = some (.iinc 4 1, 0, 0) := by decide +kernel
theorem f_138_68 : mj_fetch 138 68 = some (.goto (-32), 0, 0) := by decide +kernel
theorem f_138_71 : mj_fetch 138 71 = some (.aload_n 0, 0, 0) := by decide +kernel
theorem f_138_72 : mj_fetch 138 72 = some (.getfield 44, 11, 18) := by decide +kernel
theorem f_138_75 : mj_fetch 138 75 = some (.aload_n 0, 0, 0) := by decide +kernel
theorem f_138_76 : mj_fetch 138 76 = some (.getfield 176, 11, 21) := by decide +kernel
theorem f_138_79 : mj_fetch 138 79 = some (.iload_n 1, 0, 0) := by decide +kernel
theorem f_138_80 : mj_fetch 138 80 = some (.iastore, 0, 0) := by decide +kernel
theorem f_138_81 : mj_fetch 138 81 = some (.iconst 0, 0, 0) := by decide +kernel
theorem f_138_82 : mj_fetch 138 82 = some (.istore 4, 0, 0) := by decide +kernel
theorem f_138_84 : mj_fetch 138 84 = some (.iload 4, 0, 0) := by decide +kernel
theorem f_138_86 : mj_fetch 138 86 = some (.iconst 3, 0, 0) := by decide +kernel
theorem f_138_87 : mj_fetch 138 87 = some (.if_icmp .ge 49, 0, 0) := by decide +kernel
theorem f_138_90 : mj_fetch 138 90 = some (.aload_n 0, 0, 0) := by decide +kernel
theorem f_138_91 : mj_fetch 138 91 = some (.getfield 47, 11, 19) := by decide +kernel
theorem f_138_94 : mj_fetch 138 94 = some (.iconst 3, 0, 0) := by decide +kernel
theorem f_138_95 : mj_fetch 138 95 = some (.aload_n 0, 0, 0) := by decide +kernel
theorem f_138_96 : mj_fetch 138 96 = some (.getfield 176, 11, 21) := by decide +kernel
theorem f_138_99 : mj_fetch 138 99 = some (.imul, 0, 0) := by decide +kernel
theorem f_138_100 : mj_fetch 138 100 = some (.iload 4, 0, 0) := by decide +kernel
theorem f_138_102 : mj_fetch 138 102 = some (.iadd, 0, 0) := by decide +kernel
theorem f_138_103 : mj_fetch 138 103 = some (.iload_n 2, 0, 0) := by decide +kernel
theorem f_138_104 : mj_fetch 138 104 = some (.iload 4, 0, 0) := by decide +kernel
theorem f_138_106 : mj_fetch 138 106 = some (.invokestatic 137, 125, 0) := by decide +kernel
theorem f_138_109 : mj_fetch 138 109 = some (.iastore, 0, 0) := by decide +kernel
theorem f_138_110 : mj_fetch 138 110 = some (.aload_n 0, 0, 0) := by decide +kernel
theorem f_138_111 : mj_fetch 138 111 = some (.getfield 50, 11, 20) := by decide +kernel
theorem f_138_114 : mj_fetch 138 114 = some (.iconst 3, 0, 0) := by decide +kernel
theorem f_138_115 : mj_fetch 138 115 = some (.aload_n 0, 0, 0) := by decide +kernel
theorem f_138_116 : mj_fetch 138 116 = some (.getfield 176, 11, 21) := by decide +kernel
theorem f_138_119 : mj_fetch 138 119 = some (.imul, 0, 0) := by decide +kernel
theorem f_138_120 : mj_fetch 138 120 = some (.iload 4, 0, 0) := by decide +kernel
theorem f_138_122 : mj_fetch 138 122 = some (.iadd, 0, 0) := by decide +kernel
theorem f_138_123 : mj_fetch 138 123 = some (.iload_n 3, 0, 0) := by decide +kernel
theorem f_138_124 : mj_fetch 138 124 = some (.iload 4, 0, 0) := by decide +kernel
theorem f_138_126 : mj_fetch 138 126 = some (.invokestatic 137, 125, 0) := by decide +kernel
theorem f_138_129 : mj_fetch 138 129 = some (.iastore, 0, 0) := by decide +kernel
theorem f_138_130 : mj_fetch 138 130 = some (.iinc 4 1, 0, 0) := by decide +kernel
theorem f_138_133 : mj_fetch 138 133 = some (.goto (-49), 0, 0) := by decide +kernel
theorem f_138_136 : mj_fetch 138 136 = some (.aload_n 0, 0, 0) := by decide +kernel
theorem f_138_137 : mj_fetch 138 137 = some (.dup, 0, 0) := by decide +kernel
theorem f_138_138 : mj_fetch 138 138 = some (.getfield 176, 11, 21) := by decide +kernel
theorem f_138_141 : mj_fetch 138 141 = some (.iconst 1, 0, 0) := by decide +kernel
theorem f_138_142 : mj_fetch 138 142 = some (.iadd, 0, 0) := by decide +kernel
theorem f_138_143 : mj_fetch 138 143 = some (.putfield 176, 11, 21) := by decide +kernel
theorem f_138_146 : mj_fetch 138 146 = some (.aload_n 0, 0, 0) := by decide +kernel
theorem f_138_147 : mj_fetch 138 147 = some (.getfield 176, 11, 21) := by decide +kernel
theorem f_138_150 : mj_fetch 138 150 = some (.iconst 1, 0, 0) := by decide +kernel
theorem f_138_151 : mj_fetch 138 151 = some (.isub, 0, 0) := by decide +kernel
theorem f_138_152 : mj_fetch 138 152 = some (.ireturn, 0, 0) := by decide +kernel
theorem f_142_0 : mj_fetch 142 0 = some (.iload_n 1, 0, 0) := by decide +kernel
theorem f_142_1 : mj_fetch 142 1 = some (.iload_n 0, 0, 0) := by decide +kernel
theorem f_142_2 : mj_fetch 142 2 = some (.isub, 0, 0) := by decide +kernel
theorem f_142_3 : mj_fetch 142 3 = some (.iconst 1, 0, 0) := by decide +kernel
theorem f_142_4 : mj_fetch 142 4 = some (.iadd, 0, 0) := by decide +kernel
theorem f_142_5 : mj_fetch 142 5 = some (.iload_n 3, 0, 0) := by decide +kernel
theorem f_142_6 : mj_fetch 142 6 = some (.iload_n 2, 0, 0) := by decide +kernel
theorem f_142_7 : mj_fetch 142 7 = some (.isub, 0, 0) := by decide +kernel
theorem f_142_8 : mj_fetch 142 8 = some (.iconst 1, 0, 0) := by decide +kernel
theorem f_142_9 : mj_fetch 142 9 = some (.iadd, 0, 0) := by decide +kernel
theorem f_142_10 : mj_fetch 142 10 = some (.imul, 0, 0) := by decide +kernel
theorem f_142_11 : mj_fetch 142 11 = some (.iload 5, 0, 0) := by decide +kernel
theorem f_142_13 : mj_fetch 142 13 = some (.iload 4, 0, 0) := by decide +kernel
theorem f_142_15 : mj_fetch 142 15 = some (.isub, 0, 0) := by decide +kernel
theorem f_142_16 : mj_fetch 142 16 = some (.iconst 1, 0, 0) := by decide +kernel
theorem f_142_17 : mj_fetch 142 17 = some (.iadd, 0, 0) := by decide +kernel
theorem f_142_18 : mj_fetch 142 18 = some (.imul, 0, 0) := by decide +kernel
theorem f_142_19 : mj_fetch 142 19 = some (.ireturn, 0, 0) := by decide +kernel
theorem f_139_0 : mj_fetch 139 0 = some (.iload_n 0, 0, 0) := by decide +kernel
theorem f_139_1 : mj_fetch 139 1 = some (.bipush 6, 0, 0) := by decide +kernel
theorem f_139_3 : mj_fetch 139 3 = some (.imul, 0, 0) := by decide +kernel
theorem f_139_4 : mj_fetch 139 4 = some (.iload_n 1, 0, 0) := by decide +kernel
theorem f_139_5 : mj_fetch 139 5 = some (.iadd, 0, 0) := by decide +kernel
theorem f_139_6 : mj_fetch 139 6 = some (.bipush 6, 0, 0) := by decide +kernel
theorem f_139_8 : mj_fetch 139 8 = some (.imul, 0, 0) := by decide +kernel
theorem f_139_9 : mj_fetch 139 9 = some (.iload_n 2, 0, 0) := by decide +kernel
theorem f_139_10 : mj_fetch 139 10 = some (.iadd, 0, 0) := by decide +kernel
theorem f_139_11 : mj_fetch 139 11 = some (.bipush 6, 0, 0) := by decide +kernel
theorem f_139_13 : mj_fetch 139 13 = some (.imul, 0, 0) := by decide +kernel
theorem f_139_14 : mj_fetch 139 14 = some (.iload_n 3, 0, 0) := by decide +kernel
theorem f_139_15 : mj_fetch 139 15 = some (.iadd, 0, 0) := by decide +kernel
theorem f_139_16 : mj_fetch 139 16 = some (.bipush 6, 0, 0) := by decide +kernel
theorem f_139_18 : mj_fetch 139 18 = some (.imul, 0, 0) := by decide +kernel
theorem f_139_19 : mj_fetch 139 19 = some (.iload 4, 0, 0) := by decide +kernel
theorem f_139_21 : mj_fetch 139 21 = some (.iadd, 0, 0) := by decide +kernel
theorem f_139_22 : mj_fetch 139 22 = some (.bipush 6, 0, 0) := by decide +kernel
theorem f_139_24 : mj_fetch 139 24 = some (.imul, 0, 0) := by decide +kernel
theorem f_139_25 : mj_fetch 139 25 = some (.iload 5, 0, 0) := by decide +kernel
theorem f_139_27 : mj_fetch 139 27 = some (.iadd, 0, 0) := by decide +kernel
theorem f_139_28 : mj_fetch 139 28 = some (.ireturn, 0, 0) := by decide +kernel
theorem f_143_0 : mj_fetch 143 0 = some (.aload_n 0, 0, 0) := by decide +kernel
theorem f_143_1 : mj_fetch 143 1 = some (.getfield 50, 11, 20) := by decide +kernel
theorem f_143_4 : mj_fetch 143 4 = some (.iconst 3, 0, 0) := by decide +kernel
theorem f_143_5 : mj_fetch 143 5 = some (.aload_n 0, 0, 0) := by decide +kernel
theorem f_143_6 : mj_fetch 143 6 = some (.getfield 179, 11, 22) := by decide +kernel
theorem f_143_9 : mj_fetch 143 9 = some (.imul, 0, 0) := by decide +kernel
theorem f_143_10 : mj_fetch 143 10 = some (.iload_n 1, 0, 0) := by decide +kernel
theorem f_143_11 : mj_fetch 143 11 = some (.iadd, 0, 0) := by decide +kernel
theorem f_143_12 : mj_fetch 143 12 = some (.iaload, 0, 0) := by decide +kernel
theorem f_143_13 : mj_fetch 143 13 = some (.aload_n 0, 0, 0) := by decide +kernel
theorem f_143_14 : mj_fetch 143 14 = some (.getfield 47, 11, 19) := by decide +kernel
theorem f_143_17 : mj_fetch 143 17 = some (.iconst 3, 0, 0) := by decide +kernel
theorem f_143_18 : mj_fetch 143 18 = some (.aload_n 0, 0, 0) := by decide +kernel
theorem f_143_19 : mj_fetch 143 19 = some (.getfield 179, 11, 22) := by decide +kernel
theorem f_143_22 : mj_fetch 143 22 = some (.imul, 0, 0) := by decide +kernel
theorem f_143_23 : mj_fetch 143 23 = some (.iload_n 1, 0, 0) := by decide +kernel
theorem f_143_24 : mj_fetch 143 24 = some (.iadd, 0, 0) := by decide +kernel
theorem f_143_25 : mj_fetch 143 25 = some (.iaload, 0, 0) := by decide +kernel
theorem f_143_26 : mj_fetch 143 26 = some (.isub, 0, 0) := by decide +kernel
theorem f_143_27 : mj_fetch 143 27 = some (.ireturn, 0, 0) := by decide +kernel
theorem f_140_0 : mj_fetch 140 0 = some (.aload_n 0, 0, 0) := by decide +kernel
theorem f_140_1 : mj_fetch 140 1 = some (.aload_n 0, 0, 0) := by decide +kernel
theorem f_140_2 : mj_fetch 140 2 = some (.getfield 44, 11, 18) := by decide +kernel
theorem f_140_5 : mj_fetch 140 5 = some (.aload_n 0, 0, 0) := by decide +kernel
theorem f_140_6 : mj_fetch 140 6 = some (.getfield 179, 11, 22) := by decide +kernel
theorem f_140_9 : mj_fetch 140 9 = some (.iaload, 0, 0) := by decide +kernel
theorem f_140_10 : mj_fetch 140 10 = some (.aload_n 0, 0, 0) := by decide +kernel
theorem f_140_11 : mj_fetch 140 11 = some (.getfield 47, 11, 19) := by decide +kernel
theorem f_140_14 : mj_fetch 140 14 = some (.iconst 3, 0, 0) := by decide +kernel
theorem f_140_15 : mj_fetch 140 15 = some (.aload_n 0, 0, 0) := by decide +kernel
theorem f_140_16 : mj_fetch 140 16 = some (.getfield 179, 11, 22) := by decide +kernel
theorem f_140_19 : mj_fetch 140 19 = some (.imul, 0, 0) := by decide +kernel
theorem f_140_20 : mj_fetch 140 20 = some (.iaload, 0, 0) := by decide +kernel
theorem f_140_21 : mj_fetch 140 21 = some (.iload_n 1, 0, 0) := by decide +kernel
theorem f_140_22 : mj_fetch 140 22 = some (.iadd, 0, 0) := by decide +kernel
theorem f_140_23 : mj_fetch 140 23 = some (.aload_n 0, 0, 0) := by decide +kernel
theorem f_140_24 : mj_fetch 140 24 = some (.getfield 47, 11, 19) := by decide +kernel
theorem f_140_27 : mj_fetch 140 27 = some (.iconst 3, 0, 0) := by decide +kernel
theorem f_140_28 : mj_fetch 140 28 = some (.aload_n 0, 0, 0) := by decide +kernel
theorem f_140_29 : mj_fetch 140 29 = some (.getfield 179, 11, 22) := by decide +kernel
theorem f_140_32 : mj_fetch 140 32 = some (.imul, 0, 0) := by decide +kernel
theorem f_140_33 : mj_fetch 140 33 = some (.iconst 1, 0, 0) := by decide +kernel
theorem f_140_34 : mj_fetch 140 34 = some (.iadd, 0, 0) := by decide +kernel
theorem f_140_35 : mj_fetch 140 35 = some (.iaload, 0, 0) := by decide +kernel
theorem f_140_36 : mj_fetch 140 36 = some (.iload_n 2, 0, 0) := by decide +kernel
theorem f_140_37 : mj_fetch 140 37 = some (.iadd, 0, 0) := by decide +kernel
theorem f_140_38 : mj_fetch 140 38 = some (.aload_n 0, 0, 0) := by decide +kernel
theorem f_140_39 : mj_fetch 140 39 = some (.getfield 47, 11, 19) := by decide +kernel
theorem f_140_42 : mj_fetch 140 42 = some (.iconst 3, 0, 0) := by decide +kernel
theorem f_140_43 : mj_fetch 140 43 = some (.aload_n 0, 0, 0) := by decide +kernel
theorem f_140_44 : mj_fetch 140 44 = some (.getfield 179, 11, 22) := by decide +kernel
theorem f_140_47 : mj_fetch 140 47 = some (.imul, 0, 0) := by decide +kernel
theorem f_140_48 : mj_fetch 140 48 = some (.iconst 2, 0, 0) := by decide +kernel
theorem f_140_49 : mj_fetch 140 49 = some (.iadd, 0, 0) := by decide +kernel
theorem f_140_50 : mj_fetch 140 50 = some (.iaload, 0, 0) := by decide +kernel
theorem f_140_51 : mj_fetch 140 51 = some (.iload_n 3, 0, 0) := by decide +kernel
theorem f_140_52 : mj_fetch 140 52 = some (.iadd, 0, 0) := by decide +kernel
theorem f_140_53 : mj_fetch 140 53 = some (.invokestatic 129, 124, 0) := by decide +kernel
theorem f_140_56 : mj_fetch 140 56 = some (.invokevirtual 172, 131, 0) := by decide +kernel
theorem f_140_59 : mj_fetch 140 59 = some (.ifCond .ne 7, 0, 0) := by decide +kernel
theorem f_140_62 : mj_fetch 140 62 = some (.iconst 1, 0, 0) := by decide +kernel
theorem f_140_63 : mj_fetch 140 63 = some (.goto 4, 0, 0) := by decide +kernel
theorem f_140_66 : mj_fetch 140 66 = some (.iconst 0, 0, 0) := by decide +kernel
theorem f_140_67 : mj_fetch 140 67 = some (.ireturn, 0, 0) := by decide +kernel
abbrev wsp (f t a : Nat) : Prop := nI 0 ≤ nI (mm_pt t a + 1) - nI (mm_pt f a + 1) ∧ nI (mm_pt t a + 1) - nI (mm_pt f a + 1) ≤ nI 5
theorem wsp_iff {f t a : Nat} (hf : f < 729) (ht : t < 729) : wsp f t a ↔ mm_pt f a ≤ mm_pt t a ∧ mm_pt t a ≤ mm_pt f a + 5 := by
  have p1 := mm_pt_lt f a hf
  have p2 := mm_pt_lt t a ht
  unfold wsp
  rw [Int32.le_iff_toInt_le, Int32.le_iff_toInt_le, pk_sub_toInt (by omega) (by omega), nI_toInt (by decide), nI_toInt (by decide)]
  omega

set_option maxRecDepth 20000 in
set_option maxHeartbeats 4000000 in
theorem c_window {h : mj_H} (S : SM h) (j fr to : Int32) {jm wm : Nat} (h_jm : jm ≤ 20) (e_jm : mj_I h 33 8 = nI jm) (h_wm : wm ≤ 10) (e_wm : mj_I h 33 21 = nI wm) : mxc 2 138 [.ref 33, .int j, .int fr, .int to] h (fun r h' => if mIn j jm ∧ mIn fr 729 ∧ mIn to 729 ∧ ¬ wm = 10 ∧ wsp fr.toNatClampNeg to.toNatClampNeg 0 ∧ wsp fr.toNatClampNeg to.toNatClampNeg 1 ∧ wsp fr.toNatClampNeg to.toNatClampNeg 2 then r = some (.int (nI wm)) ∧ h' = mj_setI (mj_setI (mj_setI (mj_setI (mj_setI (mj_setI (mj_setI (mj_setI h 45 wm j) 46 (3 * wm + 0) (nI (mm_pt fr.toNatClampNeg 0 + 1))) 47 (3 * wm + 0) (nI (mm_pt to.toNatClampNeg 0 + 1))) 46 (3 * wm + 1) (nI (mm_pt fr.toNatClampNeg 1 + 1))) 47 (3 * wm + 1) (nI (mm_pt to.toNatClampNeg 1 + 1))) 46 (3 * wm + 2) (nI (mm_pt fr.toNatClampNeg 2 + 1))) 47 (3 * wm + 2) (nI (mm_pt to.toNatClampNeg 2 + 1))) 33 21 (nI (wm + 1)) else r = some (.int (-1)) ∧ h' = h) := by
  show mx 2 138 0 [.ref 33, .int j, .int fr, .int to, mj_unset] [] h _
  refine x_aload_n f_138_0 rfl ?_
  refine x_iload_n f_138_1 rfl ?_
  refine x_callVe f_138_2 (c_isJob S _ (n := jm) (by omega) e_jm) (by omega) S.k33 (by decide) rfl rfl (Nat.le_of_ble_eq_true rfl) rfl ?_
  refine x_ifB_eq (t := 31) f_138_5 (by decide) (fun c_1 => ?_) (fun c_1 => ?_)
  · refine x_iconst (v := -1) f_138_31 (by decide) ?_
    refine x_retI f_138_32 rfl ?_
    exact mj_qF (by first | exact fun q => c_1 (q.1) | exact fun q => (q.1) c_1) ⟨rfl, rfl⟩
  · refine x_iload_n f_138_8 rfl ?_
    refine x_callSe f_138_9 (c_isSetting _ _) (by omega) rfl rfl rfl (Nat.le_of_ble_eq_true rfl) rfl ?_
    refine x_ifB_eq (t := 31) f_138_12 (by decide) (fun c_2 => ?_) (fun c_2 => ?_)
    · refine x_iconst (v := -1) f_138_31 (by decide) ?_
      refine x_retI f_138_32 rfl ?_
      exact mj_qF (by first | exact fun q => c_2 (q.2.1) | exact fun q => (q.2.1) c_2) ⟨rfl, rfl⟩
    · refine x_iload_n f_138_15 rfl ?_
      refine x_callSe f_138_16 (c_isSetting _ _) (by omega) rfl rfl rfl (Nat.le_of_ble_eq_true rfl) rfl ?_
      refine x_ifB_eq (t := 31) f_138_19 (by decide) (fun c_3 => ?_) (fun c_3 => ?_)
      · refine x_iconst (v := -1) f_138_31 (by decide) ?_
        refine x_retI f_138_32 rfl ?_
        exact mj_qF (by first | exact fun q => c_3 (q.2.2.1) | exact fun q => (q.2.2.1) c_3) ⟨rfl, rfl⟩
      · refine x_aload_n f_138_22 rfl ?_
        refine x_getI f_138_23 S.k33 (by decide) ?_
        refine x_topi (w := nI wm) e_wm ?_
        refine x_bipush (v := nI 10) f_138_26 (by decide) ?_
        refine x_icmpN_ne (t := 33) f_138_28 (by decide) (by omega) (by decide) (fun c_4 => ?_) (fun c_4 => ?_)
        · obtain ⟨f, h_f, rfl⟩ := mIn_of c_2 (by decide)
          obtain ⟨t, h_t, rfl⟩ := mIn_of c_3 (by decide)
          simp only [nI_clamp (show f < 2 ^ 31 by omega), nI_clamp (show t < 2 ^ 31 by omega)]
          refine x_iconst (v := nI 0) f_138_33 (by decide) ?_
          refine x_istore (ls1 := [.ref 33, .int j, .int (nI f), .int (nI t), .int (nI 0)]) f_138_34 (Nat.le_of_ble_eq_true rfl) rfl ?_
          refine x_iload f_138_36 rfl ?_
          refine x_iconst (v := nI 3) f_138_38 (by decide) ?_
          refine x_icmpN_ge (t := 71) f_138_39 (by decide) (by decide) (by decide) (fun c_5 => by omega) (fun c_5 => ?_)
          refine x_iload_n f_138_42 rfl ?_
          refine x_iload f_138_43 rfl ?_
          refine x_callSe f_138_45 (c_part _ _ _ (by omega) (by omega)) (by omega) rfl rfl rfl (Nat.le_of_ble_eq_true rfl) rfl ?_
          refine x_iload_n f_138_48 rfl ?_
          refine x_iload f_138_49 rfl ?_
          refine x_callSe f_138_51 (c_part _ _ _ (by omega) (by omega)) (by omega) rfl rfl rfl (Nat.le_of_ble_eq_true rfl) rfl ?_
          refine x_isub f_138_54 ?_
          refine x_iconst (v := nI 0) f_138_55 (by decide) ?_
          refine x_iconst (v := nI 5) f_138_56 (by decide) ?_
          refine x_callSe f_138_57 (c_in _ _ _ _) (by omega) rfl rfl rfl (Nat.le_of_ble_eq_true rfl) rfl ?_
          refine x_ifB_ne (t := 65) f_138_60 (by decide) (fun c_6 => ?_) (fun c_6 => ?_)
          · refine x_iinc (v := nI 1) (ls1 := [.ref 33, .int j, .int (nI f), .int (nI t), .int (nI 1)]) f_138_65 rfl (by decide) rfl ?_
            refine x_goto (t := 36) f_138_68 (by decide) ?_
            refine x_iload f_138_36 rfl ?_
            refine x_iconst (v := nI 3) f_138_38 (by decide) ?_
            refine x_icmpN_ge (t := 71) f_138_39 (by decide) (by decide) (by decide) (fun c_7 => by omega) (fun c_7 => ?_)
            refine x_iload_n f_138_42 rfl ?_
            refine x_iload f_138_43 rfl ?_
            refine x_callSe f_138_45 (c_part _ _ _ (by omega) (by omega)) (by omega) rfl rfl rfl (Nat.le_of_ble_eq_true rfl) rfl ?_
            refine x_iload_n f_138_48 rfl ?_
            refine x_iload f_138_49 rfl ?_
            refine x_callSe f_138_51 (c_part _ _ _ (by omega) (by omega)) (by omega) rfl rfl rfl (Nat.le_of_ble_eq_true rfl) rfl ?_
            refine x_isub f_138_54 ?_
            refine x_iconst (v := nI 0) f_138_55 (by decide) ?_
            refine x_iconst (v := nI 5) f_138_56 (by decide) ?_
            refine x_callSe f_138_57 (c_in _ _ _ _) (by omega) rfl rfl rfl (Nat.le_of_ble_eq_true rfl) rfl ?_
            refine x_ifB_ne (t := 65) f_138_60 (by decide) (fun c_8 => ?_) (fun c_8 => ?_)
            · refine x_iinc (v := nI 2) (ls1 := [.ref 33, .int j, .int (nI f), .int (nI t), .int (nI 2)]) f_138_65 rfl (by decide) rfl ?_
              refine x_goto (t := 36) f_138_68 (by decide) ?_
              refine x_iload f_138_36 rfl ?_
              refine x_iconst (v := nI 3) f_138_38 (by decide) ?_
              refine x_icmpN_ge (t := 71) f_138_39 (by decide) (by decide) (by decide) (fun c_9 => by omega) (fun c_9 => ?_)
              refine x_iload_n f_138_42 rfl ?_
              refine x_iload f_138_43 rfl ?_
              refine x_callSe f_138_45 (c_part _ _ _ (by omega) (by omega)) (by omega) rfl rfl rfl (Nat.le_of_ble_eq_true rfl) rfl ?_
              refine x_iload_n f_138_48 rfl ?_
              refine x_iload f_138_49 rfl ?_
              refine x_callSe f_138_51 (c_part _ _ _ (by omega) (by omega)) (by omega) rfl rfl rfl (Nat.le_of_ble_eq_true rfl) rfl ?_
              refine x_isub f_138_54 ?_
              refine x_iconst (v := nI 0) f_138_55 (by decide) ?_
              refine x_iconst (v := nI 5) f_138_56 (by decide) ?_
              refine x_callSe f_138_57 (c_in _ _ _ _) (by omega) rfl rfl rfl (Nat.le_of_ble_eq_true rfl) rfl ?_
              refine x_ifB_ne (t := 65) f_138_60 (by decide) (fun c_10 => ?_) (fun c_10 => ?_)
              · refine x_iinc (v := nI 3) (ls1 := [.ref 33, .int j, .int (nI f), .int (nI t), .int (nI 3)]) f_138_65 rfl (by decide) rfl ?_
                refine x_goto (t := 36) f_138_68 (by decide) ?_
                refine x_iload f_138_36 rfl ?_
                refine x_iconst (v := nI 3) f_138_38 (by decide) ?_
                refine x_icmpN_ge (t := 71) f_138_39 (by decide) (by decide) (by decide) (fun c_11 => ?_) (fun c_11 => by omega)
                refine x_aload_n f_138_71 rfl ?_
                refine x_getR f_138_72 S.k33 (by decide) S.r18 ?_
                refine x_aload_n f_138_75 rfl ?_
                refine x_getI f_138_76 S.k33 (by decide) ?_
                refine x_topi (w := nI wm) e_wm ?_
                refine x_iload_n f_138_79 rfl ?_
                refine x_iast (j := wm) f_138_80 S.k45 (by decide) (by omega) (by decide) ?_
                refine x_iconst (v := nI 0) f_138_81 (by decide) ?_
                refine x_istore (ls1 := [.ref 33, .int j, .int (nI f), .int (nI t), .int (nI 0)]) f_138_82 (Nat.le_of_ble_eq_true rfl) rfl ?_
                refine x_iload f_138_84 rfl ?_
                refine x_iconst (v := nI 3) f_138_86 (by decide) ?_
                refine x_icmpN_ge (t := 136) f_138_87 (by decide) (by decide) (by decide) (fun c_12 => by omega) (fun c_12 => ?_)
                refine x_aload_n f_138_90 rfl ?_
                refine x_getR f_138_91 S.k33 (by decide) S.r19 ?_
                refine x_iconst (v := nI 3) f_138_94 (by decide) ?_
                refine x_aload_n f_138_95 rfl ?_
                refine x_getI f_138_96 S.k33 (by decide) ?_
                refine x_topi (w := nI wm) ((congrFun (mj_I_other (by decide)) _).trans (e_wm)) ?_
                refine x_imulN f_138_99 ?_
                refine x_iload f_138_100 rfl ?_
                refine x_iaddN f_138_102 ?_
                refine x_iload_n f_138_103 rfl ?_
                refine x_iload f_138_104 rfl ?_
                refine x_callSe f_138_106 (c_part _ _ _ (by omega) (by omega)) (by omega) rfl rfl rfl (Nat.le_of_ble_eq_true rfl) rfl ?_
                refine x_iast (j := ((3 * wm) + 0)) f_138_109 S.k46 (by decide) (by omega) (by decide) ?_
                refine x_aload_n f_138_110 rfl ?_
                refine x_getR f_138_111 S.k33 (by decide) S.r20 ?_
                refine x_iconst (v := nI 3) f_138_114 (by decide) ?_
                refine x_aload_n f_138_115 rfl ?_
                refine x_getI f_138_116 S.k33 (by decide) ?_
                refine x_topi (w := nI wm) ((congrFun (mj_I_other (by decide)) _).trans ((congrFun (mj_I_other (by decide)) _).trans (e_wm))) ?_
                refine x_imulN f_138_119 ?_
                refine x_iload f_138_120 rfl ?_
                refine x_iaddN f_138_122 ?_
                refine x_iload_n f_138_123 rfl ?_
                refine x_iload f_138_124 rfl ?_
                refine x_callSe f_138_126 (c_part _ _ _ (by omega) (by omega)) (by omega) rfl rfl rfl (Nat.le_of_ble_eq_true rfl) rfl ?_
                refine x_iast (j := ((3 * wm) + 0)) f_138_129 S.k47 (by decide) (by omega) (by decide) ?_
                refine x_iinc (v := nI 1) (ls1 := [.ref 33, .int j, .int (nI f), .int (nI t), .int (nI 1)]) f_138_130 rfl (by decide) rfl ?_
                refine x_goto (t := 84) f_138_133 (by decide) ?_
                refine x_iload f_138_84 rfl ?_
                refine x_iconst (v := nI 3) f_138_86 (by decide) ?_
                refine x_icmpN_ge (t := 136) f_138_87 (by decide) (by decide) (by decide) (fun c_13 => by omega) (fun c_13 => ?_)
                refine x_aload_n f_138_90 rfl ?_
                refine x_getR f_138_91 S.k33 (by decide) S.r19 ?_
                refine x_iconst (v := nI 3) f_138_94 (by decide) ?_
                refine x_aload_n f_138_95 rfl ?_
                refine x_getI f_138_96 S.k33 (by decide) ?_
                refine x_topi (w := nI wm) ((congrFun (mj_I_other (by decide)) _).trans ((congrFun (mj_I_other (by decide)) _).trans ((congrFun (mj_I_other (by decide)) _).trans (e_wm)))) ?_
                refine x_imulN f_138_99 ?_
                refine x_iload f_138_100 rfl ?_
                refine x_iaddN f_138_102 ?_
                refine x_iload_n f_138_103 rfl ?_
                refine x_iload f_138_104 rfl ?_
                refine x_callSe f_138_106 (c_part _ _ _ (by omega) (by omega)) (by omega) rfl rfl rfl (Nat.le_of_ble_eq_true rfl) rfl ?_
                refine x_iast (j := ((3 * wm) + 1)) f_138_109 S.k46 (by decide) (by omega) (by decide) ?_
                refine x_aload_n f_138_110 rfl ?_
                refine x_getR f_138_111 S.k33 (by decide) S.r20 ?_
                refine x_iconst (v := nI 3) f_138_114 (by decide) ?_
                refine x_aload_n f_138_115 rfl ?_
                refine x_getI f_138_116 S.k33 (by decide) ?_
                refine x_topi (w := nI wm) ((congrFun (mj_I_other (by decide)) _).trans ((congrFun (mj_I_other (by decide)) _).trans ((congrFun (mj_I_other (by decide)) _).trans ((congrFun (mj_I_other (by decide)) _).trans (e_wm))))) ?_
                refine x_imulN f_138_119 ?_
                refine x_iload f_138_120 rfl ?_
                refine x_iaddN f_138_122 ?_
                refine x_iload_n f_138_123 rfl ?_
                refine x_iload f_138_124 rfl ?_
                refine x_callSe f_138_126 (c_part _ _ _ (by omega) (by omega)) (by omega) rfl rfl rfl (Nat.le_of_ble_eq_true rfl) rfl ?_
                refine x_iast (j := ((3 * wm) + 1)) f_138_129 S.k47 (by decide) (by omega) (by decide) ?_
                refine x_iinc (v := nI 2) (ls1 := [.ref 33, .int j, .int (nI f), .int (nI t), .int (nI 2)]) f_138_130 rfl (by decide) rfl ?_
                refine x_goto (t := 84) f_138_133 (by decide) ?_
                refine x_iload f_138_84 rfl ?_
                refine x_iconst (v := nI 3) f_138_86 (by decide) ?_
                refine x_icmpN_ge (t := 136) f_138_87 (by decide) (by decide) (by decide) (fun c_14 => by omega) (fun c_14 => ?_)
                refine x_aload_n f_138_90 rfl ?_
                refine x_getR f_138_91 S.k33 (by decide) S.r19 ?_
                refine x_iconst (v := nI 3) f_138_94 (by decide) ?_
                refine x_aload_n f_138_95 rfl ?_
                refine x_getI f_138_96 S.k33 (by decide) ?_
                refine x_topi (w := nI wm) ((congrFun (mj_I_other (by decide)) _).trans ((congrFun (mj_I_other (by decide)) _).trans ((congrFun (mj_I_other (by decide)) _).trans ((congrFun (mj_I_other (by decide)) _).trans ((congrFun (mj_I_other (by decide)) _).trans (e_wm)))))) ?_
                refine x_imulN f_138_99 ?_
                refine x_iload f_138_100 rfl ?_
                refine x_iaddN f_138_102 ?_
                refine x_iload_n f_138_103 rfl ?_
                refine x_iload f_138_104 rfl ?_
                refine x_callSe f_138_106 (c_part _ _ _ (by omega) (by omega)) (by omega) rfl rfl rfl (Nat.le_of_ble_eq_true rfl) rfl ?_
                refine x_iast (j := ((3 * wm) + 2)) f_138_109 S.k46 (by decide) (by omega) (by decide) ?_
                refine x_aload_n f_138_110 rfl ?_
                refine x_getR f_138_111 S.k33 (by decide) S.r20 ?_
                refine x_iconst (v := nI 3) f_138_114 (by decide) ?_
                refine x_aload_n f_138_115 rfl ?_
                refine x_getI f_138_116 S.k33 (by decide) ?_
                refine x_topi (w := nI wm) ((congrFun (mj_I_other (by decide)) _).trans ((congrFun (mj_I_other (by decide)) _).trans ((congrFun (mj_I_other (by decide)) _).trans ((congrFun (mj_I_other (by decide)) _).trans ((congrFun (mj_I_other (by decide)) _).trans ((congrFun (mj_I_other (by decide)) _).trans (e_wm))))))) ?_
                refine x_imulN f_138_119 ?_
                refine x_iload f_138_120 rfl ?_
                refine x_iaddN f_138_122 ?_
                refine x_iload_n f_138_123 rfl ?_
                refine x_iload f_138_124 rfl ?_
                refine x_callSe f_138_126 (c_part _ _ _ (by omega) (by omega)) (by omega) rfl rfl rfl (Nat.le_of_ble_eq_true rfl) rfl ?_
                refine x_iast (j := ((3 * wm) + 2)) f_138_129 S.k47 (by decide) (by omega) (by decide) ?_
                refine x_iinc (v := nI 3) (ls1 := [.ref 33, .int j, .int (nI f), .int (nI t), .int (nI 3)]) f_138_130 rfl (by decide) rfl ?_
                refine x_goto (t := 84) f_138_133 (by decide) ?_
                refine x_iload f_138_84 rfl ?_
                refine x_iconst (v := nI 3) f_138_86 (by decide) ?_
                refine x_icmpN_ge (t := 136) f_138_87 (by decide) (by decide) (by decide) (fun c_15 => ?_) (fun c_15 => by omega)
                refine x_aload_n f_138_136 rfl ?_
                refine x_dup f_138_137 rfl ?_
                refine x_getI f_138_138 S.k33 (by decide) ?_
                refine x_topi (w := nI wm) ((congrFun (mj_I_other (by decide)) _).trans ((congrFun (mj_I_other (by decide)) _).trans ((congrFun (mj_I_other (by decide)) _).trans ((congrFun (mj_I_other (by decide)) _).trans ((congrFun (mj_I_other (by decide)) _).trans ((congrFun (mj_I_other (by decide)) _).trans ((congrFun (mj_I_other (by decide)) _).trans (e_wm)))))))) ?_
                refine x_iconst (v := nI 1) f_138_141 (by decide) ?_
                refine x_iaddN f_138_142 ?_
                refine x_putI f_138_143 S.k33 (by decide) ?_
                refine x_aload_n f_138_146 rfl ?_
                refine x_getI f_138_147 S.k33 (by decide) ?_
                refine x_topi (w := nI (wm + 1)) (mj_I_at _ _ _ _) ?_
                refine x_iconst (v := nI 1) f_138_150 (by decide) ?_
                refine x_isubN f_138_151 (by omega) ?_
                refine x_retI f_138_152 rfl ?_
                exact mj_qT ⟨c_1, c_2, c_3, c_4, c_6, c_8, c_10⟩ ⟨by rw [Nat.add_sub_cancel], rfl⟩
              · refine x_iconst (v := -1) f_138_63 (by decide) ?_
                refine x_retI f_138_64 rfl ?_
                exact mj_qF (by first | exact fun q => c_10 (q.2.2.2.2.2.2) | exact fun q => (q.2.2.2.2.2.2) c_10) ⟨rfl, rfl⟩
            · refine x_iconst (v := -1) f_138_63 (by decide) ?_
              refine x_retI f_138_64 rfl ?_
              exact mj_qF (by first | exact fun q => c_8 (q.2.2.2.2.2.1) | exact fun q => (q.2.2.2.2.2.1) c_8) ⟨rfl, rfl⟩
          · refine x_iconst (v := -1) f_138_63 (by decide) ?_
            refine x_retI f_138_64 rfl ?_
            exact mj_qF (by first | exact fun q => c_6 (q.2.2.2.2.1) | exact fun q => (q.2.2.2.2.1) c_6) ⟨rfl, rfl⟩
        · refine x_iconst (v := -1) f_138_31 (by decide) ?_
          refine x_retI f_138_32 rfl ?_
          exact mj_qF (by first | exact fun q => c_4 (q.2.2.2.1) | exact fun q => (q.2.2.2.1) c_4) ⟨rfl, rfl⟩
set_option maxRecDepth 20000 in
theorem c_sizeOf (h : mj_H) (a b c d e f : Int32) : mxc 0 142 [.int a, .int b, .int c, .int d, .int e, .int f] h (fun r h' => r = some (.int ((b - a + nI 1) * (d - c + nI 1) * (f - e + nI 1))) ∧ h' = h) := by
  show mx 0 142 0 [.int a, .int b, .int c, .int d, .int e, .int f] [] h _
  refine x_iload_n f_142_0 rfl ?_
  refine x_iload_n f_142_1 rfl ?_
  refine x_isub f_142_2 ?_
  refine x_iconst (v := nI 1) f_142_3 (by decide) ?_
  refine x_iadd f_142_4 ?_
  refine x_iload_n f_142_5 rfl ?_
  refine x_iload_n f_142_6 rfl ?_
  refine x_isub f_142_7 ?_
  refine x_iconst (v := nI 1) f_142_8 (by decide) ?_
  refine x_iadd f_142_9 ?_
  refine x_imul f_142_10 ?_
  refine x_iload f_142_11 rfl ?_
  refine x_iload f_142_13 rfl ?_
  refine x_isub f_142_15 ?_
  refine x_iconst (v := nI 1) f_142_16 (by decide) ?_
  refine x_iadd f_142_17 ?_
  refine x_imul f_142_18 ?_
  refine x_retI f_142_19 rfl ?_
  exact ⟨rfl, rfl⟩
def bx (a b c d e f : Nat) : Nat := ((((a * 6 + b) * 6 + c) * 6 + d) * 6 + e) * 6 + f
set_option maxRecDepth 20000 in
theorem c_boxOf (h : mj_H) (a b c d e f : Nat) : mxc 0 139 [.int (nI a), .int (nI b), .int (nI c), .int (nI d), .int (nI e), .int (nI f)] h (fun r h' => r = some (.int (nI (bx a b c d e f))) ∧ h' = h) := by
  show mx 0 139 0 [.int (nI a), .int (nI b), .int (nI c), .int (nI d), .int (nI e), .int (nI f)] [] h _
  refine x_iload_n f_139_0 rfl ?_
  refine x_bipush (v := nI 6) f_139_1 (by decide) ?_
  refine x_imulN f_139_3 ?_
  refine x_iload_n f_139_4 rfl ?_
  refine x_iaddN f_139_5 ?_
  refine x_bipush (v := nI 6) f_139_6 (by decide) ?_
  refine x_imulN f_139_8 ?_
  refine x_iload_n f_139_9 rfl ?_
  refine x_iaddN f_139_10 ?_
  refine x_bipush (v := nI 6) f_139_11 (by decide) ?_
  refine x_imulN f_139_13 ?_
  refine x_iload_n f_139_14 rfl ?_
  refine x_iaddN f_139_15 ?_
  refine x_bipush (v := nI 6) f_139_16 (by decide) ?_
  refine x_imulN f_139_18 ?_
  refine x_iload f_139_19 rfl ?_
  refine x_iaddN f_139_21 ?_
  refine x_bipush (v := nI 6) f_139_22 (by decide) ?_
  refine x_imulN f_139_24 ?_
  refine x_iload f_139_25 rfl ?_
  refine x_iaddN f_139_27 ?_
  refine x_retI f_139_28 rfl ?_
  exact ⟨rfl, rfl⟩
def wj (h : mj_H) (w : Nat) : Nat := (mj_I h 45 w).toNatClampNeg
def wlo (h : mj_H) (w a : Nat) : Nat := (mj_I h 46 (3 * w + a)).toNatClampNeg
def whi (h : mj_H) (w a : Nat) : Nat := (mj_I h 47 (3 * w + a)).toNatClampNeg
/-- a window of the model: its job, its box -/
def WN (h : mj_H) (w jm : Nat) : Prop := mj_I h 45 w = nI (wj h w) ∧ wj h w < jm ∧ ∀ a, a < 3 → mj_I h 46 (3 * w + a) = nI (wlo h w a) ∧ mj_I h 47 (3 * w + a) = nI (whi h w a) ∧ 1 ≤ wlo h w a ∧ whi h w a ≤ 9 ∧ wlo h w a ≤ whi h w a ∧ whi h w a ≤ wlo h w a + 5
def wz (h : mj_H) (w t p l : Nat) : Nat := 81 * (wlo h w 0 + t - 1) + 9 * (wlo h w 1 + p - 1) + (wlo h w 2 + l - 1)
theorem vd_le (h : mj_H) (j z : Nat) : vd h j z ≤ 4 := by
  have key : ∀ (M : Nat → Int32) (T : tk_R) (n r : Nat), (jd_f M T n r).1 ≤ 4 := by
    intro M T n
    induction n with
    | zero => intro r; exact Nat.zero_le _
    | succ n ih =>
      intro r
      unfold jd_f
      split
      · split
        · split
          · exact ih (r + 1)
          · exact Nat.le_refl 4
        · exact (by decide : (3 : Nat) ≤ 4)
      · exact (by decide : (2 : Nat) ≤ 4)
  unfold vd jd
  split
  · exact (by decide : (1 : Nat) ≤ 4)
  · exact key _ _ _ _
theorem MW_33 {h : mj_H} {jm i : Nat} {x : Int32} (w : MW h jm) : MW (mj_setI h 33 i x) jm := by
  have e36 : mj_I (mj_setI h 33 i x) 36 = mj_I h 36 := mj_I_other (by decide)
  have e44 : mj_I (mj_setI h 33 i x) 44 = mj_I h 44 := mj_I_other (by decide)
  refine ⟨w.1, fun a ha q hq => ?_, w.2.2.1, fun j hj => (w.2.2.2.1 j hj).to e36, fun j hj z hz => by rw [e44, vd_eq e36]; exact w.2.2.2.2 j hj z hz⟩
  rw [mj_I_other (by intro q; subst q; revert ha; decide)]
  exact w.2.1 a ha q hq
theorem WN_to {h g : mj_H} {w jm : Nat} (e45 : mj_I g 45 = mj_I h 45) (e46 : mj_I g 46 = mj_I h 46) (e47 : mj_I g 47 = mj_I h 47) (k : WN h w jm) : WN g w jm := by
  unfold WN wj wlo whi
  rw [e45, e46, e47]
  exact k
theorem wz_to {h g : mj_H} (e46 : mj_I g 46 = mj_I h 46) (w t p l : Nat) : wz g w t p l = wz h w t p l := by
  unfold wz wlo
  rw [e46]
theorem MV_WN {h g : mj_H} {jm w : Nat} (a : MV h g jm) (k : WN h w jm) : WN g w jm := WN_to (a.2.1.i (by decide)) (a.2.1.i (by decide)) (a.2.1.i (by decide)) k
/-- whether the setting at a place of the window is good -/
def wg (h : mj_H) (w t p l : Nat) : Bool := decide (vd h (wj h w) (wz h w t p l) = 0)
theorem wg_MV {h g : mj_H} {jm : Nat} (a : MV h g jm) (w t p l : Nat) : wg g w t p l = wg h w t p l := by
  unfold wg
  rw [wz_to (a.2.1.i (by decide)), MV_vd a, show wj g w = wj h w by unfold wj; rw [a.2.1.i (by decide)]]

set_option maxRecDepth 20000 in
theorem c_wide {h : mj_H} (S : SM h) {w jm a : Nat} (hw : w < 10) (e_at : mj_I h 33 22 = nI w) (hN : WN h w jm) (ha : a < 3) : mxc 0 143 [.ref 33, .int (nI a)] h (fun r h' => r = some (.int (nI (whi h w a - wlo h w a))) ∧ h' = h) := by
  show mx 0 143 0 [.ref 33, .int (nI a)] [] h _
  refine x_aload_n f_143_0 rfl ?_
  refine x_getR f_143_1 S.k33 (by decide) S.r20 ?_
  refine x_iconst (v := nI 3) f_143_4 (by decide) ?_
  refine x_aload_n f_143_5 rfl ?_
  refine x_getI f_143_6 S.k33 (by decide) ?_
  refine x_topi (w := nI w) e_at ?_
  refine x_imulN f_143_9 ?_
  refine x_iload_n f_143_10 rfl ?_
  refine x_iaddN f_143_11 ?_
  refine x_iald (j := ((3 * w) + a)) f_143_12 S.k47 (by omega) (by decide) ?_
  refine x_topi (w := nI (whi h w a)) (hN.2.2 a ha).2.1 ?_
  refine x_aload_n f_143_13 rfl ?_
  refine x_getR f_143_14 S.k33 (by decide) S.r19 ?_
  refine x_iconst (v := nI 3) f_143_17 (by decide) ?_
  refine x_aload_n f_143_18 rfl ?_
  refine x_getI f_143_19 S.k33 (by decide) ?_
  refine x_topi (w := nI w) e_at ?_
  refine x_imulN f_143_22 ?_
  refine x_iload_n f_143_23 rfl ?_
  refine x_iaddN f_143_24 ?_
  refine x_iald (j := ((3 * w) + a)) f_143_25 S.k46 (by omega) (by decide) ?_
  refine x_topi (w := nI (wlo h w a)) (hN.2.2 a ha).1 ?_
  refine x_isubN f_143_26 ((hN.2.2 a ha).2.2.2.2.1) ?_
  refine x_retI f_143_27 rfl ?_
  exact ⟨rfl, rfl⟩
set_option maxRecDepth 20000 in
theorem c_isGood {h : mj_H} {w jm : Nat} (hW : MW h jm) (hw : w < 10) (e_at : mj_I h 33 22 = nI w) (hN : WN h w jm) {t p l : Nat} (ht : wlo h w 0 + t ≤ 9) (hp : wlo h w 1 + p ≤ 9) (hl : wlo h w 2 + l ≤ 9) : mxc 5 140 [.ref 33, .int (nI t), .int (nI p), .int (nI l)] h (fun r h' => r = some (.int (if wg h w t p l = true then 1 else 0)) ∧ MV h h' jm) := by
  have S := hW.1
  have a0 := hN.2.2 0 (by decide)
  have a1 := hN.2.2 1 (by decide)
  have a2 := hN.2.2 2 (by decide)
  have hz : wz h w t p l < 729 := by unfold wz; omega
  have hle := vd_le h (wj h w) (wz h w t p l)
  have hset : (81 : Int32) * ((nI (wlo h w 0 + t)) - 1) + 9 * ((nI (wlo h w 1 + p)) - 1) + (nI (wlo h w 2 + l)) - 1 = nI (wz h w t p l) := by
    have q := mm_set (wlo h w 0 + t - 1) (wlo h w 1 + p - 1) (wlo h w 2 + l - 1)
    rw [show wlo h w 0 + t - 1 + 1 = wlo h w 0 + t by omega, show wlo h w 1 + p - 1 + 1 = wlo h w 1 + p by omega, show wlo h w 2 + l - 1 + 1 = wlo h w 2 + l by omega] at q
    exact q
  show mx 5 140 0 [.ref 33, .int (nI t), .int (nI p), .int (nI l)] [] h _
  refine x_aload_n f_140_0 rfl ?_
  refine x_aload_n f_140_1 rfl ?_
  refine x_getR f_140_2 S.k33 (by decide) S.r18 ?_
  refine x_aload_n f_140_5 rfl ?_
  refine x_getI f_140_6 S.k33 (by decide) ?_
  refine x_topi (w := nI w) e_at ?_
  refine x_iald (j := w) f_140_9 S.k45 (by omega) (by decide) ?_
  refine x_topi (w := nI (wj h w)) hN.1 ?_
  refine x_aload_n f_140_10 rfl ?_
  refine x_getR f_140_11 S.k33 (by decide) S.r19 ?_
  refine x_iconst (v := nI 3) f_140_14 (by decide) ?_
  refine x_aload_n f_140_15 rfl ?_
  refine x_getI f_140_16 S.k33 (by decide) ?_
  refine x_topi (w := nI w) e_at ?_
  refine x_imulN f_140_19 ?_
  refine x_iald (j := (3 * w)) f_140_20 S.k46 (by omega) (by decide) ?_
  refine x_topi (w := nI (wlo h w 0)) (hN.2.2 0 (by decide)).1 ?_
  refine x_iload_n f_140_21 rfl ?_
  refine x_iaddN f_140_22 ?_
  refine x_aload_n f_140_23 rfl ?_
  refine x_getR f_140_24 S.k33 (by decide) S.r19 ?_
  refine x_iconst (v := nI 3) f_140_27 (by decide) ?_
  refine x_aload_n f_140_28 rfl ?_
  refine x_getI f_140_29 S.k33 (by decide) ?_
  refine x_topi (w := nI w) e_at ?_
  refine x_imulN f_140_32 ?_
  refine x_iconst (v := nI 1) f_140_33 (by decide) ?_
  refine x_iaddN f_140_34 ?_
  refine x_iald (j := ((3 * w) + 1)) f_140_35 S.k46 (by omega) (by decide) ?_
  refine x_topi (w := nI (wlo h w 1)) (hN.2.2 1 (by decide)).1 ?_
  refine x_iload_n f_140_36 rfl ?_
  refine x_iaddN f_140_37 ?_
  refine x_aload_n f_140_38 rfl ?_
  refine x_getR f_140_39 S.k33 (by decide) S.r19 ?_
  refine x_iconst (v := nI 3) f_140_42 (by decide) ?_
  refine x_aload_n f_140_43 rfl ?_
  refine x_getI f_140_44 S.k33 (by decide) ?_
  refine x_topi (w := nI w) e_at ?_
  refine x_imulN f_140_47 ?_
  refine x_iconst (v := nI 2) f_140_48 (by decide) ?_
  refine x_iaddN f_140_49 ?_
  refine x_iald (j := ((3 * w) + 2)) f_140_50 S.k46 (by omega) (by decide) ?_
  refine x_topi (w := nI (wlo h w 2)) (hN.2.2 2 (by decide)).1 ?_
  refine x_iload_n f_140_51 rfl ?_
  refine x_iaddN f_140_52 ?_
  refine x_callSe f_140_53 (c_settingOf _ _ _ _) (by omega) rfl rfl rfl (Nat.le_of_ble_eq_true rfl) rfl ?_
  refine x_topi (w := nI (wz h w t p l)) hset ?_
  refine x_callV f_140_56 (c_verdictOf hW hN.2.1 hz) (by omega) S.k33 (by decide) rfl rfl (Nat.le_of_ble_eq_true rfl) rfl ?_
  rintro _ g ⟨rfl, hv⟩
  refine x_ifN_ne (t := 66) f_140_59 (by decide) (by omega) (fun c_v => ?_) (fun c_v => ?_)
  · refine x_iconst (v := nI 0) f_140_66 (by decide) ?_
    refine x_retZ f_140_67 rfl (by decide) ?_
    exact ⟨by unfold wg; rw [decide_eq_false c_v]; rfl, hv⟩
  · refine x_iconst (v := nI 1) f_140_62 (by decide) ?_
    refine x_goto (t := 67) f_140_63 (by decide) ?_
    refine x_retZ f_140_67 rfl (by decide) ?_
    exact ⟨by unfold wg; rw [decide_eq_true c_v]; rfl, hv⟩
