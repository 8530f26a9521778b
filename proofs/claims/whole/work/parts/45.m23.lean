theorem f_161_113 : mj_fetch 161 113 = some (.iload 6, 0, 0) := by decide +kernel
theorem f_161_115 : mj_fetch 161 115 = some (.aload_n 0, 0, 0) := by decide +kernel
theorem f_161_116 : mj_fetch 161 116 = some (.getfield 50, 11, 20) := by decide +kernel
theorem f_161_119 : mj_fetch 161 119 = some (.iconst 3, 0, 0) := by decide +kernel
theorem f_161_120 : mj_fetch 161 120 = some (.iload_n 1, 0, 0) := by decide +kernel
theorem f_161_121 : mj_fetch 161 121 = some (.imul, 0, 0) := by decide +kernel
theorem f_161_122 : mj_fetch 161 122 = some (.iconst 1, 0, 0) := by decide +kernel
theorem f_161_123 : mj_fetch 161 123 = some (.iadd, 0, 0) := by decide +kernel
theorem f_161_124 : mj_fetch 161 124 = some (.iaload, 0, 0) := by decide +kernel
theorem f_161_125 : mj_fetch 161 125 = some (.if_icmp .gt 127, 0, 0) := by decide +kernel
theorem f_161_246 : mj_fetch 161 246 = some (.iinc 6 1, 0, 0) := by decide +kernel
theorem f_161_249 : mj_fetch 161 249 = some (.goto (-136), 0, 0) := by decide +kernel
theorem f_161_128 : mj_fetch 161 128 = some (.aload_n 0, 0, 0) := by decide +kernel
theorem f_161_129 : mj_fetch 161 129 = some (.getfield 47, 11, 19) := by decide +kernel
theorem f_161_132 : mj_fetch 161 132 = some (.iconst 3, 0, 0) := by decide +kernel
theorem f_161_133 : mj_fetch 161 133 = some (.iload_n 1, 0, 0) := by decide +kernel
theorem f_161_134 : mj_fetch 161 134 = some (.imul, 0, 0) := by decide +kernel
theorem f_161_135 : mj_fetch 161 135 = some (.iconst 2, 0, 0) := by decide +kernel
theorem f_161_136 : mj_fetch 161 136 = some (.iadd, 0, 0) := by decide +kernel
theorem f_161_137 : mj_fetch 161 137 = some (.iaload, 0, 0) := by decide +kernel
theorem f_161_138 : mj_fetch 161 138 = some (.istore 7, 0, 0) := by decide +kernel
theorem f_161_88 : mj_fetch 161 88 = some (.iload 5, 0, 0) := by decide +kernel
theorem f_161_90 : mj_fetch 161 90 = some (.aload_n 0, 0, 0) := by decide +kernel
theorem f_161_91 : mj_fetch 161 91 = some (.getfield 50, 11, 20) := by decide +kernel
theorem f_161_94 : mj_fetch 161 94 = some (.iconst 3, 0, 0) := by decide +kernel
theorem f_161_95 : mj_fetch 161 95 = some (.iload_n 1, 0, 0) := by decide +kernel
theorem f_161_96 : mj_fetch 161 96 = some (.imul, 0, 0) := by decide +kernel
theorem f_161_97 : mj_fetch 161 97 = some (.iaload, 0, 0) := by decide +kernel
theorem f_161_98 : mj_fetch 161 98 = some (.if_icmp .gt 160, 0, 0) := by decide +kernel
theorem f_161_252 : mj_fetch 161 252 = some (.iinc 5 1, 0, 0) := by decide +kernel
theorem f_161_255 : mj_fetch 161 255 = some (.goto (-167), 0, 0) := by decide +kernel
theorem f_161_101 : mj_fetch 161 101 = some (.aload_n 0, 0, 0) := by decide +kernel
theorem f_161_102 : mj_fetch 161 102 = some (.getfield 47, 11, 19) := by decide +kernel
theorem f_161_105 : mj_fetch 161 105 = some (.iconst 3, 0, 0) := by decide +kernel
theorem f_161_106 : mj_fetch 161 106 = some (.iload_n 1, 0, 0) := by decide +kernel
theorem f_161_107 : mj_fetch 161 107 = some (.imul, 0, 0) := by decide +kernel
theorem f_161_108 : mj_fetch 161 108 = some (.iconst 1, 0, 0) := by decide +kernel
theorem f_161_109 : mj_fetch 161 109 = some (.iadd, 0, 0) := by decide +kernel
theorem f_161_110 : mj_fetch 161 110 = some (.iaload, 0, 0) := by decide +kernel
theorem f_161_111 : mj_fetch 161 111 = some (.istore 6, 0, 0) := by decide +kernel
theorem f_161_258 : mj_fetch 161 258 = some (.iload 4, 0, 0) := by decide +kernel
theorem f_161_260 : mj_fetch 161 260 = some (.ireturn, 0, 0) := by decide +kernel
theorem f_161_0 : mj_fetch 161 0 = some (.aload_n 0, 0, 0) := by decide +kernel
theorem f_161_1 : mj_fetch 161 1 = some (.iload_n 1, 0, 0) := by decide +kernel
theorem f_161_2 : mj_fetch 161 2 = some (.invokevirtual 185, 137, 0) := by decide +kernel
theorem f_161_5 : mj_fetch 161 5 = some (.ifCond .eq 10, 0, 0) := by decide +kernel
theorem f_161_8 : mj_fetch 161 8 = some (.iload_n 2, 0, 0) := by decide +kernel
theorem f_161_9 : mj_fetch 161 9 = some (.invokestatic 165, 118, 0) := by decide +kernel
theorem f_161_12 : mj_fetch 161 12 = some (.ifCond .ne 5, 0, 0) := by decide +kernel
theorem f_161_15 : mj_fetch 161 15 = some (.iconst (-1), 0, 0) := by decide +kernel
theorem f_161_16 : mj_fetch 161 16 = some (.ireturn, 0, 0) := by decide +kernel
theorem f_161_17 : mj_fetch 161 17 = some (.iconst 0, 0, 0) := by decide +kernel
theorem f_161_18 : mj_fetch 161 18 = some (.istore_n 3, 0, 0) := by decide +kernel
theorem f_161_19 : mj_fetch 161 19 = some (.iload_n 3, 0, 0) := by decide +kernel
theorem f_161_20 : mj_fetch 161 20 = some (.iconst 3, 0, 0) := by decide +kernel
theorem f_161_21 : mj_fetch 161 21 = some (.if_icmp .ge 42, 0, 0) := by decide +kernel
theorem f_161_24 : mj_fetch 161 24 = some (.iload_n 2, 0, 0) := by decide +kernel
theorem f_161_25 : mj_fetch 161 25 = some (.iload_n 3, 0, 0) := by decide +kernel
theorem f_161_26 : mj_fetch 161 26 = some (.invokestatic 137, 125, 0) := by decide +kernel
theorem f_161_29 : mj_fetch 161 29 = some (.aload_n 0, 0, 0) := by decide +kernel
theorem f_161_30 : mj_fetch 161 30 = some (.getfield 47, 11, 19) := by decide +kernel
theorem f_161_33 : mj_fetch 161 33 = some (.iconst 3, 0, 0) := by decide +kernel
theorem f_161_34 : mj_fetch 161 34 = some (.iload_n 1, 0, 0) := by decide +kernel
theorem f_161_35 : mj_fetch 161 35 = some (.imul, 0, 0) := by decide +kernel
theorem f_161_36 : mj_fetch 161 36 = some (.iload_n 3, 0, 0) := by decide +kernel
theorem f_161_37 : mj_fetch 161 37 = some (.iadd, 0, 0) := by decide +kernel
theorem f_161_38 : mj_fetch 161 38 = some (.iaload, 0, 0) := by decide +kernel
theorem f_161_39 : mj_fetch 161 39 = some (.aload_n 0, 0, 0) := by decide +kernel
theorem f_161_40 : mj_fetch 161 40 = some (.getfield 50, 11, 20) := by decide +kernel
theorem f_161_43 : mj_fetch 161 43 = some (.iconst 3, 0, 0) := by decide +kernel
theorem f_161_44 : mj_fetch 161 44 = some (.iload_n 1, 0, 0) := by decide +kernel
theorem f_161_45 : mj_fetch 161 45 = some (.imul, 0, 0) := by decide +kernel
theorem f_161_46 : mj_fetch 161 46 = some (.iload_n 3, 0, 0) := by decide +kernel
theorem f_161_47 : mj_fetch 161 47 = some (.iadd, 0, 0) := by decide +kernel
theorem f_161_48 : mj_fetch 161 48 = some (.iaload, 0, 0) := by decide +kernel
theorem f_161_49 : mj_fetch 161 49 = some (.invokestatic 100, 112, 0) := by decide +kernel
theorem f_161_52 : mj_fetch 161 52 = some (.ifCond .ne 5, 0, 0) := by decide +kernel
theorem f_161_55 : mj_fetch 161 55 = some (.iconst (-1), 0, 0) := by decide +kernel
theorem f_161_56 : mj_fetch 161 56 = some (.ireturn, 0, 0) := by decide +kernel
theorem f_161_57 : mj_fetch 161 57 = some (.iinc 3 1, 0, 0) := by decide +kernel
theorem f_161_60 : mj_fetch 161 60 = some (.goto (-41), 0, 0) := by decide +kernel
theorem f_161_63 : mj_fetch 161 63 = some (.aload_n 0, 0, 0) := by decide +kernel
theorem f_161_64 : mj_fetch 161 64 = some (.iload_n 1, 0, 0) := by decide +kernel
theorem f_161_65 : mj_fetch 161 65 = some (.putfield 179, 11, 22) := by decide +kernel
theorem f_161_68 : mj_fetch 161 68 = some (.aload_n 0, 0, 0) := by decide +kernel
theorem f_161_69 : mj_fetch 161 69 = some (.getfield 44, 11, 18) := by decide +kernel
theorem f_161_72 : mj_fetch 161 72 = some (.iload_n 1, 0, 0) := by decide +kernel
theorem f_161_73 : mj_fetch 161 73 = some (.iaload, 0, 0) := by decide +kernel
theorem f_161_74 : mj_fetch 161 74 = some (.istore_n 3, 0, 0) := by decide +kernel
theorem f_161_75 : mj_fetch 161 75 = some (.iconst (-1), 0, 0) := by decide +kernel
theorem f_161_76 : mj_fetch 161 76 = some (.istore 4, 0, 0) := by decide +kernel
theorem f_161_78 : mj_fetch 161 78 = some (.aload_n 0, 0, 0) := by decide +kernel
theorem f_161_79 : mj_fetch 161 79 = some (.getfield 47, 11, 19) := by decide +kernel
theorem f_161_82 : mj_fetch 161 82 = some (.iconst 3, 0, 0) := by decide +kernel
theorem f_161_83 : mj_fetch 161 83 = some (.iload_n 1, 0, 0) := by decide +kernel
theorem f_161_84 : mj_fetch 161 84 = some (.imul, 0, 0) := by decide +kernel
theorem f_161_85 : mj_fetch 161 85 = some (.iaload, 0, 0) := by decide +kernel
theorem f_161_86 : mj_fetch 161 86 = some (.istore 5, 0, 0) := by decide +kernel
theorem f_162_16 : mj_fetch 162 16 = some (.iload 4, 0, 0) := by decide +kernel
theorem f_162_18 : mj_fetch 162 18 = some (.bipush 6, 0, 0) := by decide +kernel
theorem f_162_20 : mj_fetch 162 20 = some (.if_icmp .ge 97, 0, 0) := by decide +kernel
theorem f_162_23 : mj_fetch 162 23 = some (.iload 4, 0, 0) := by decide +kernel
theorem f_162_25 : mj_fetch 162 25 = some (.iconst 2, 0, 0) := by decide +kernel
theorem f_162_26 : mj_fetch 162 26 = some (.idiv, 0, 0) := by decide +kernel
theorem f_162_27 : mj_fetch 162 27 = some (.istore 5, 0, 0) := by decide +kernel
theorem f_162_29 : mj_fetch 162 29 = some (.iload 4, 0, 0) := by decide +kernel
theorem f_162_31 : mj_fetch 162 31 = some (.iconst 2, 0, 0) := by decide +kernel
theorem f_162_32 : mj_fetch 162 32 = some (.irem, 0, 0) := by decide +kernel
theorem f_162_33 : mj_fetch 162 33 = some (.ifCond .ne 7, 0, 0) := by decide +kernel
theorem f_162_36 : mj_fetch 162 36 = some (.iconst (-1), 0, 0) := by decide +kernel
theorem f_162_37 : mj_fetch 162 37 = some (.goto 4, 0, 0) := by decide +kernel
theorem f_162_41 : mj_fetch 162 41 = some (.istore 6, 0, 0) := by decide +kernel
theorem f_162_43 : mj_fetch 162 43 = some (.iload_n 2, 0, 0) := by decide +kernel
theorem f_162_44 : mj_fetch 162 44 = some (.iload 5, 0, 0) := by decide +kernel
theorem f_162_46 : mj_fetch 162 46 = some (.invokestatic 137, 125, 0) := by decide +kernel
theorem f_162_49 : mj_fetch 162 49 = some (.iload 6, 0, 0) := by decide +kernel
theorem f_162_51 : mj_fetch 162 51 = some (.iadd, 0, 0) := by decide +kernel
theorem f_162_52 : mj_fetch 162 52 = some (.iconst 1, 0, 0) := by decide +kernel
theorem f_162_53 : mj_fetch 162 53 = some (.bipush 9, 0, 0) := by decide +kernel
theorem f_162_55 : mj_fetch 162 55 = some (.invokestatic 100, 112, 0) := by decide +kernel
theorem f_162_58 : mj_fetch 162 58 = some (.ifCond .eq 53, 0, 0) := by decide +kernel
theorem f_162_61 : mj_fetch 162 61 = some (.iload_n 2, 0, 0) := by decide +kernel
theorem f_162_62 : mj_fetch 162 62 = some (.iload 6, 0, 0) := by decide +kernel
theorem f_162_64 : mj_fetch 162 64 = some (.iload 5, 0, 0) := by decide +kernel
theorem f_162_66 : mj_fetch 162 66 = some (.ifCond .ne 8, 0, 0) := by decide +kernel
theorem f_162_69 : mj_fetch 162 69 = some (.bipush 81, 0, 0) := by decide +kernel
theorem f_162_71 : mj_fetch 162 71 = some (.goto 15, 0, 0) := by decide +kernel
theorem f_162_86 : mj_fetch 162 86 = some (.imul, 0, 0) := by decide +kernel
theorem f_162_87 : mj_fetch 162 87 = some (.iadd, 0, 0) := by decide +kernel
theorem f_162_88 : mj_fetch 162 88 = some (.istore 7, 0, 0) := by decide +kernel
theorem f_162_90 : mj_fetch 162 90 = some (.iload_n 3, 0, 0) := by decide +kernel
theorem f_162_91 : mj_fetch 162 91 = some (.aload_n 0, 0, 0) := by decide +kernel
theorem f_162_92 : mj_fetch 162 92 = some (.iload_n 1, 0, 0) := by decide +kernel
theorem f_162_93 : mj_fetch 162 93 = some (.iload 7, 0, 0) := by decide +kernel
theorem f_162_95 : mj_fetch 162 95 = some (.invokevirtual 172, 131, 0) := by decide +kernel
theorem f_162_98 : mj_fetch 162 98 = some (.ifCond .ne 10, 0, 0) := by decide +kernel
theorem f_162_101 : mj_fetch 162 101 = some (.iconst 1, 0, 0) := by decide +kernel
theorem f_162_102 : mj_fetch 162 102 = some (.iload 4, 0, 0) := by decide +kernel
theorem f_162_104 : mj_fetch 162 104 = some (.ishl, 0, 0) := by decide +kernel
theorem f_162_105 : mj_fetch 162 105 = some (.goto 4, 0, 0) := by decide +kernel
theorem f_162_108 : mj_fetch 162 108 = some (.iconst 0, 0, 0) := by decide +kernel
theorem f_162_109 : mj_fetch 162 109 = some (.ior, 0, 0) := by decide +kernel
theorem f_162_110 : mj_fetch 162 110 = some (.istore_n 3, 0, 0) := by decide +kernel
theorem f_162_111 : mj_fetch 162 111 = some (.iinc 4 1, 0, 0) := by decide +kernel
theorem f_162_114 : mj_fetch 162 114 = some (.goto (-98), 0, 0) := by decide +kernel
theorem f_162_40 : mj_fetch 162 40 = some (.iconst 1, 0, 0) := by decide +kernel
theorem f_162_74 : mj_fetch 162 74 = some (.iload 5, 0, 0) := by decide +kernel
theorem f_162_76 : mj_fetch 162 76 = some (.iconst 1, 0, 0) := by decide +kernel
theorem f_162_77 : mj_fetch 162 77 = some (.if_icmp .ne 8, 0, 0) := by decide +kernel
theorem f_162_80 : mj_fetch 162 80 = some (.bipush 9, 0, 0) := by decide +kernel
theorem f_162_82 : mj_fetch 162 82 = some (.goto 4, 0, 0) := by decide +kernel
theorem f_162_85 : mj_fetch 162 85 = some (.iconst 1, 0, 0) := by decide +kernel
theorem f_162_117 : mj_fetch 162 117 = some (.iload_n 3, 0, 0) := by decide +kernel
theorem f_162_118 : mj_fetch 162 118 = some (.ireturn, 0, 0) := by decide +kernel
theorem f_162_0 : mj_fetch 162 0 = some (.aload_n 0, 0, 0) := by decide +kernel
theorem f_162_1 : mj_fetch 162 1 = some (.iload_n 1, 0, 0) := by decide +kernel
theorem f_162_2 : mj_fetch 162 2 = some (.iload_n 2, 0, 0) := by decide +kernel
theorem f_162_3 : mj_fetch 162 3 = some (.invokevirtual 168, 132, 0) := by decide +kernel
theorem f_162_6 : mj_fetch 162 6 = some (.ifCond .ne 5, 0, 0) := by decide +kernel
theorem f_162_9 : mj_fetch 162 9 = some (.iconst (-1), 0, 0) := by decide +kernel
theorem f_162_10 : mj_fetch 162 10 = some (.ireturn, 0, 0) := by decide +kernel
theorem f_162_11 : mj_fetch 162 11 = some (.iconst 0, 0, 0) := by decide +kernel
theorem f_162_12 : mj_fetch 162 12 = some (.istore_n 3, 0, 0) := by decide +kernel
theorem f_162_13 : mj_fetch 162 13 = some (.iconst 0, 0, 0) := by decide +kernel
theorem f_162_14 : mj_fetch 162 14 = some (.istore 4, 0, 0) := by decide +kernel
set_option maxRecDepth 20000 in
set_option maxHeartbeats 4000000 in
theorem edge_l2 {h : mj_H} {jm w s t : Nat} (hw : w < 10) (hN : WN h w jm) (hs : s < 729) (ht : wlo h w 0 ≤ t ∧ t ≤ whi h w 0) {Q : Option Value → mj_H → Prop} :
    ∀ (n p : Nat) (best : Option Nat) (g : mj_H) (v7 v8 v9 : Value), p + n = whi h w 1 + 1 → wlo h w 1 ≤ p → MV h g jm → Eb (gdV h (wj h w)) s (wlo h w) (whi h w) best → (∀ b, best = some b → b < sO t p (wlo h w 2)) →
    (∀ (g : mj_H) (best' : Option Nat) (v7 v8 v9 : Value), MV h g jm → Eb (gdV h (wj h w)) s (wlo h w) (whi h w) best' → (∀ b, best' = some b → b < sO t (whi h w 1 + 1) (wlo h w 2)) → (∀ o, Ed (gdV h (wj h w)) s best o → Ed (gdV h (wj h w)) s best' o) → (∀ p' l', p ≤ p' → p' ≤ whi h w 1 → wlo h w 2 ≤ l' → l' ≤ whi h w 2 → Ed (gdV h (wj h w)) s best' (sO t p' l')) → mx 6 161 252 [.ref 33, .int (nI w), .int (nI s), .int (nI (wj h w)), .int (ckA best'), .int (nI t), .int (nI (whi h w 1 + 1)), v7, v8, v9] [] g Q) → mx 6 161 113 [.ref 33, .int (nI w), .int (nI s), .int (nI (wj h w)), .int (ckA best), .int (nI t), .int (nI p), v7, v8, v9] [] g Q := by
  intro n
  induction n with
  | zero =>
    intro p best g v7 v8 v9 hl hl1 hv hEb hlt K
    have hi : p = whi h w 1 + 1 := by omega
    subst hi
    have S := hv.1.1
    have e46 : mj_I g 46 = mj_I h 46 := hv.2.1.i (by decide)
    have e47 : mj_I g 47 = mj_I h 47 := hv.2.1.i (by decide)
    have a0 := hN.2.2 0 (by decide)
    have a1 := hN.2.2 1 (by decide)
    have a2 := hN.2.2 2 (by decide)
    have k460 : mj_I g 46 (3 * w) = nI (wlo h w 0) := by rw [e46]; exact a0.1
    have k461 : mj_I g 46 (3 * w + 1) = nI (wlo h w 1) := by rw [e46]; exact a1.1
    have k462 : mj_I g 46 (3 * w + 2) = nI (wlo h w 2) := by rw [e46]; exact a2.1
    have k470 : mj_I g 47 (3 * w) = nI (whi h w 0) := by rw [e47]; exact a0.2.1
    have k471 : mj_I g 47 (3 * w + 1) = nI (whi h w 1) := by rw [e47]; exact a1.2.1
    have k472 : mj_I g 47 (3 * w + 2) = nI (whi h w 2) := by rw [e47]; exact a2.2.1
    refine x_iload f_161_113 rfl ?_
    refine x_aload_n f_161_115 rfl ?_
    refine x_getR f_161_116 S.k33 (by decide) S.r20 ?_
    refine x_iconst (v := nI 3) f_161_119 (by decide) ?_
    refine x_iload_n f_161_120 rfl ?_
    refine x_imulN f_161_121 ?_
    refine x_iconst (v := nI 1) f_161_122 (by decide) ?_
    refine x_iaddN f_161_123 ?_
    refine x_iald (j := ((3 * w) + 1)) f_161_124 S.k47 (by omega) (by decide) ?_
    refine x_topi (w := nI (whi h w 1)) k471 ?_
    refine x_icmpN_gt (t := 252) f_161_125 (by decide) (by omega) (by omega) (fun c_1 => ?_) (fun c_1 => by omega)
    exact K g best v7 v8 v9 hv hEb hlt (fun _ q => q) (fun p' l' h1 h2 => by omega)
  | succ n ih =>
    intro p best g v7 v8 v9 hl hl1 hv hEb hlt K
    have S := hv.1.1
    have e46 : mj_I g 46 = mj_I h 46 := hv.2.1.i (by decide)
    have e47 : mj_I g 47 = mj_I h 47 := hv.2.1.i (by decide)
    have a0 := hN.2.2 0 (by decide)
    have a1 := hN.2.2 1 (by decide)
    have a2 := hN.2.2 2 (by decide)
    have k460 : mj_I g 46 (3 * w) = nI (wlo h w 0) := by rw [e46]; exact a0.1
    have k461 : mj_I g 46 (3 * w + 1) = nI (wlo h w 1) := by rw [e46]; exact a1.1
    have k462 : mj_I g 46 (3 * w + 2) = nI (wlo h w 2) := by rw [e46]; exact a2.1
    have k470 : mj_I g 47 (3 * w) = nI (whi h w 0) := by rw [e47]; exact a0.2.1
    have k471 : mj_I g 47 (3 * w + 1) = nI (whi h w 1) := by rw [e47]; exact a1.2.1
    have k472 : mj_I g 47 (3 * w + 2) = nI (whi h w 2) := by rw [e47]; exact a2.2.1
    refine x_iload f_161_113 rfl ?_
    refine x_aload_n f_161_115 rfl ?_
    refine x_getR f_161_116 S.k33 (by decide) S.r20 ?_
    refine x_iconst (v := nI 3) f_161_119 (by decide) ?_
    refine x_iload_n f_161_120 rfl ?_
    refine x_imulN f_161_121 ?_
    refine x_iconst (v := nI 1) f_161_122 (by decide) ?_
    refine x_iaddN f_161_123 ?_
    refine x_iald (j := ((3 * w) + 1)) f_161_124 S.k47 (by omega) (by decide) ?_
    refine x_topi (w := nI (whi h w 1)) k471 ?_
    refine x_icmpN_gt (t := 252) f_161_125 (by decide) (by omega) (by omega) (fun c_1 => by omega) (fun c_1 => ?_)
    refine x_aload_n f_161_128 rfl ?_
    refine x_getR f_161_129 S.k33 (by decide) S.r19 ?_
    refine x_iconst (v := nI 3) f_161_132 (by decide) ?_
    refine x_iload_n f_161_133 rfl ?_
    refine x_imulN f_161_134 ?_
    refine x_iconst (v := nI 2) f_161_135 (by decide) ?_
    refine x_iaddN f_161_136 ?_
    refine x_iald (j := ((3 * w) + 2)) f_161_137 S.k46 (by omega) (by decide) ?_
    refine x_topi (w := nI (wlo h w 2)) k462 ?_
    refine x_istore (ls1 := [.ref 33, .int (nI w), .int (nI s), .int (nI (wj h w)), .int (ckA best), .int (nI t), .int (nI p), .int (nI (wlo h w 2)), v8, v9]) f_161_138 (Nat.le_of_ble_eq_true rfl) rfl ?_
    refine edge_l3 hw hN hs ht (by omega) (whi h w 2 + 1 - wlo h w 2) (wlo h w 2) best g _ _ (by omega) (Nat.le_refl _) hv hEb hlt ?_
    intro g best2 v8 v9 hv hEb hlt2 mono2 cov2
    refine x_iinc (v := nI (p + 1)) (ls1 := [.ref 33, .int (nI w), .int (nI s), .int (nI (wj h w)), .int (ckA best2), .int (nI t), .int (nI (p + 1)), .int (nI (whi h w 2 + 1)), v8, v9]) f_161_246 rfl (by exact nI_add _ 1) rfl ?_
    refine x_goto (t := 113) f_161_249 (by decide) ?_
    refine ih (p + 1) best2 g _ _ _ (by omega) (by omega) hv hEb (fun b hb => by have := hlt2 b hb; unfold sO at *; omega) ?_
    intro g best3 v7 v8 v9 hv hEb hlt3 mono3 cov3
    refine K g best3 v7 v8 v9 hv hEb hlt3 (fun o q => mono3 o (mono2 o q)) (fun p' l' h1 h2 h3 h4 => ?_)
    by_cases hq : p' = p
    · subst hq; exact mono3 _ (cov2 l' h3 h4)
    · exact cov3 p' l' (by omega) h2 h3 h4
set_option maxRecDepth 20000 in
set_option maxHeartbeats 4000000 in
theorem edge_l1 {h : mj_H} {jm w s : Nat} (hw : w < 10) (hN : WN h w jm) (hs : s < 729) {Q : Option Value → mj_H → Prop} :
    ∀ (n t : Nat) (best : Option Nat) (g : mj_H) (v6 v7 v8 v9 : Value), t + n = whi h w 0 + 1 → wlo h w 0 ≤ t → MV h g jm → Eb (gdV h (wj h w)) s (wlo h w) (whi h w) best → (∀ b, best = some b → b < sO t (wlo h w 1) (wlo h w 2)) →
    (∀ (g : mj_H) (best' : Option Nat) (v6 v7 v8 v9 : Value), MV h g jm → Eb (gdV h (wj h w)) s (wlo h w) (whi h w) best' → (∀ o, Ed (gdV h (wj h w)) s best o → Ed (gdV h (wj h w)) s best' o) → (∀ t' p' l', t ≤ t' → t' ≤ whi h w 0 → wlo h w 1 ≤ p' → p' ≤ whi h w 1 → wlo h w 2 ≤ l' → l' ≤ whi h w 2 → Ed (gdV h (wj h w)) s best' (sO t' p' l')) → mx 6 161 258 [.ref 33, .int (nI w), .int (nI s), .int (nI (wj h w)), .int (ckA best'), .int (nI (whi h w 0 + 1)), v6, v7, v8, v9] [] g Q) → mx 6 161 88 [.ref 33, .int (nI w), .int (nI s), .int (nI (wj h w)), .int (ckA best), .int (nI t), v6, v7, v8, v9] [] g Q := by
  intro n
  induction n with
  | zero =>
    intro t best g v6 v7 v8 v9 hl hl1 hv hEb hlt K
    have hi : t = whi h w 0 + 1 := by omega
    subst hi
    have S := hv.1.1
    have e46 : mj_I g 46 = mj_I h 46 := hv.2.1.i (by decide)
    have e47 : mj_I g 47 = mj_I h 47 := hv.2.1.i (by decide)
    have a0 := hN.2.2 0 (by decide)
    have a1 := hN.2.2 1 (by decide)
    have a2 := hN.2.2 2 (by decide)
    have k460 : mj_I g 46 (3 * w) = nI (wlo h w 0) := by rw [e46]; exact a0.1
    have k461 : mj_I g 46 (3 * w + 1) = nI (wlo h w 1) := by rw [e46]; exact a1.1
    have k462 : mj_I g 46 (3 * w + 2) = nI (wlo h w 2) := by rw [e46]; exact a2.1
    have k470 : mj_I g 47 (3 * w) = nI (whi h w 0) := by rw [e47]; exact a0.2.1
    have k471 : mj_I g 47 (3 * w + 1) = nI (whi h w 1) := by rw [e47]; exact a1.2.1
    have k472 : mj_I g 47 (3 * w + 2) = nI (whi h w 2) := by rw [e47]; exact a2.2.1
    refine x_iload f_161_88 rfl ?_
    refine x_aload_n f_161_90 rfl ?_
    refine x_getR f_161_91 S.k33 (by decide) S.r20 ?_
    refine x_iconst (v := nI 3) f_161_94 (by decide) ?_
    refine x_iload_n f_161_95 rfl ?_
    refine x_imulN f_161_96 ?_
    refine x_iald (j := (3 * w)) f_161_97 S.k47 (by omega) (by decide) ?_
    refine x_topi (w := nI (whi h w 0)) k470 ?_
    refine x_icmpN_gt (t := 258) f_161_98 (by decide) (by omega) (by omega) (fun c_1 => ?_) (fun c_1 => by omega)
    exact K g best v6 v7 v8 v9 hv hEb (fun _ q => q) (fun t' p' l' h1 h2 => by omega)
  | succ n ih =>
    intro t best g v6 v7 v8 v9 hl hl1 hv hEb hlt K
    have S := hv.1.1
    have e46 : mj_I g 46 = mj_I h 46 := hv.2.1.i (by decide)
    have e47 : mj_I g 47 = mj_I h 47 := hv.2.1.i (by decide)
    have a0 := hN.2.2 0 (by decide)
    have a1 := hN.2.2 1 (by decide)
    have a2 := hN.2.2 2 (by decide)
    have k460 : mj_I g 46 (3 * w) = nI (wlo h w 0) := by rw [e46]; exact a0.1
    have k461 : mj_I g 46 (3 * w + 1) = nI (wlo h w 1) := by rw [e46]; exact a1.1
    have k462 : mj_I g 46 (3 * w + 2) = nI (wlo h w 2) := by rw [e46]; exact a2.1
    have k470 : mj_I g 47 (3 * w) = nI (whi h w 0) := by rw [e47]; exact a0.2.1
    have k471 : mj_I g 47 (3 * w + 1) = nI (whi h w 1) := by rw [e47]; exact a1.2.1
    have k472 : mj_I g 47 (3 * w + 2) = nI (whi h w 2) := by rw [e47]; exact a2.2.1
    refine x_iload f_161_88 rfl ?_
    refine x_aload_n f_161_90 rfl ?_
    refine x_getR f_161_91 S.k33 (by decide) S.r20 ?_
    refine x_iconst (v := nI 3) f_161_94 (by decide) ?_
    refine x_iload_n f_161_95 rfl ?_
    refine x_imulN f_161_96 ?_
    refine x_iald (j := (3 * w)) f_161_97 S.k47 (by omega) (by decide) ?_
    refine x_topi (w := nI (whi h w 0)) k470 ?_
    refine x_icmpN_gt (t := 258) f_161_98 (by decide) (by omega) (by omega) (fun c_1 => by omega) (fun c_1 => ?_)
    refine x_aload_n f_161_101 rfl ?_
    refine x_getR f_161_102 S.k33 (by decide) S.r19 ?_
    refine x_iconst (v := nI 3) f_161_105 (by decide) ?_
    refine x_iload_n f_161_106 rfl ?_
    refine x_imulN f_161_107 ?_
    refine x_iconst (v := nI 1) f_161_108 (by decide) ?_
    refine x_iaddN f_161_109 ?_
    refine x_iald (j := ((3 * w) + 1)) f_161_110 S.k46 (by omega) (by decide) ?_
    refine x_topi (w := nI (wlo h w 1)) k461 ?_
    refine x_istore (ls1 := [.ref 33, .int (nI w), .int (nI s), .int (nI (wj h w)), .int (ckA best), .int (nI t), .int (nI (wlo h w 1)), v7, v8, v9]) f_161_111 (Nat.le_of_ble_eq_true rfl) rfl ?_
    refine edge_l2 hw hN hs (by omega) (whi h w 1 + 1 - wlo h w 1) (wlo h w 1) best g _ _ _ (by omega) (Nat.le_refl _) hv hEb hlt ?_
    intro g best2 v7 v8 v9 hv hEb hlt2 mono2 cov2
    refine x_iinc (v := nI (t + 1)) (ls1 := [.ref 33, .int (nI w), .int (nI s), .int (nI (wj h w)), .int (ckA best2), .int (nI (t + 1)), .int (nI (whi h w 1 + 1)), v7, v8, v9]) f_161_252 rfl (by exact nI_add _ 1) rfl ?_
    refine x_goto (t := 88) f_161_255 (by decide) ?_
    refine ih (t + 1) best2 g _ _ _ _ (by omega) (by omega) hv hEb (fun b hb => by have := hlt2 b hb; unfold sO at *; omega) ?_
    intro g best3 v6 v7 v8 v9 hv hEb mono3 cov3
    refine K g best3 v6 v7 v8 v9 hv hEb (fun o q => mono3 o (mono2 o q)) (fun t' p' l' h1 h2 h3 h4 h5 h6 => ?_)
    by_cases hq : t' = t
    · subst hq; exact mono3 _ (cov2 p' l' h3 h4 h5 h6)
    · exact cov3 t' p' l' (by omega) h2 h3 h4 h5 h6
set_option maxRecDepth 20000 in
set_option maxHeartbeats 4000000 in
theorem c_edge {h : mj_H} {jm wm : Nat} (hW : MW h jm) (h_wm : wm ≤ 10) (e_wm : mj_I h 33 21 = nI wm) (hNN : ∀ i, i < wm → WN h i jm) (w : Int32) (z : Int32) : mxc 6 161 [.ref 33, .int w, .int z] h (fun r h' => if mIn w wm ∧ mIn z 729 ∧ (wlo h w.toNatClampNeg 0 ≤ mm_pt z.toNatClampNeg 0 + 1 ∧ mm_pt z.toNatClampNeg 0 + 1 ≤ whi h w.toNatClampNeg 0) ∧ (wlo h w.toNatClampNeg 1 ≤ mm_pt z.toNatClampNeg 1 + 1 ∧ mm_pt z.toNatClampNeg 1 + 1 ≤ whi h w.toNatClampNeg 1) ∧ (wlo h w.toNatClampNeg 2 ≤ mm_pt z.toNatClampNeg 2 + 1 ∧ mm_pt z.toNatClampNeg 2 + 1 ≤ whi h w.toNatClampNeg 2) then ∃ best, ED (gdV h (wj h w.toNatClampNeg)) z.toNatClampNeg (wlo h w.toNatClampNeg) (whi h w.toNatClampNeg) best ∧ r = some (.int (ckA best)) ∧ SQ h h' jm else r = some (.int (-1)) ∧ h' = h) := by
  have S : SM h := hW.1
  show mx 6 161 0 [.ref 33, .int w, .int z, mj_unset, mj_unset, mj_unset, mj_unset, mj_unset, mj_unset, mj_unset] [] h _
  refine x_aload_n f_161_0 rfl ?_
  refine x_iload_n f_161_1 rfl ?_
  refine x_callVe f_161_2 (c_isWindow hW.1 _ (n := wm) (by omega) e_wm) (by omega) S.k33 (by decide) rfl rfl (Nat.le_of_ble_eq_true rfl) rfl ?_
  refine x_ifB_eq (t := 15) f_161_5 (by decide) (fun c_1 => ?_) (fun c_1 => ?_)
  · refine x_iconst (v := -1) f_161_15 (by decide) ?_
    refine x_retI f_161_16 rfl ?_
    exact mj_qF (by first | exact fun q => c_1 (q.1) | exact fun q => (q.1) c_1) ⟨rfl, rfl⟩
  · refine x_iload_n f_161_8 rfl ?_
    refine x_callSe f_161_9 (c_isSetting _ _) (by omega) rfl rfl rfl (Nat.le_of_ble_eq_true rfl) rfl ?_
    refine x_ifB_ne (t := 17) f_161_12 (by decide) (fun c_2 => ?_) (fun c_2 => ?_)
    · obtain ⟨i, h_i, rfl⟩ := mIn_of c_1 (by omega)
      obtain ⟨s, h_s, rfl⟩ := mIn_of c_2 (by decide)
      have hN := hNN i h_i
      have a0 := hN.2.2 0 (by decide)
      have a1 := hN.2.2 1 (by decide)
      have a2 := hN.2.2 2 (by decide)
      have p0 := mm_pt_lt s 0 h_s
      have p1 := mm_pt_lt s 1 h_s
      have p2 := mm_pt_lt s 2 h_s
      simp only [nI_clamp (show i < 2 ^ 31 by omega), nI_clamp (show s < 2 ^ 31 by omega)]
      refine x_iconst (v := nI 0) f_161_17 (by decide) ?_
      refine x_istore_n (ls1 := [.ref 33, .int (nI i), .int (nI s), .int (nI 0), mj_unset, mj_unset, mj_unset, mj_unset, mj_unset, mj_unset]) f_161_18 (Nat.le_of_ble_eq_true rfl) rfl ?_
      refine x_iload_n f_161_19 rfl ?_
      refine x_iconst (v := nI 3) f_161_20 (by decide) ?_
      refine x_icmpN_ge (t := 63) f_161_21 (by decide) (by decide) (by decide) (fun c_3 => by omega) (fun c_3 => ?_)
      refine x_iload_n f_161_24 rfl ?_
      refine x_iload_n f_161_25 rfl ?_
      refine x_callSe f_161_26 (c_part _ _ _ (by omega) (by decide)) (by omega) rfl rfl rfl (Nat.le_of_ble_eq_true rfl) rfl ?_
      refine x_aload_n f_161_29 rfl ?_
      refine x_getR f_161_30 S.k33 (by decide) S.r19 ?_
      refine x_iconst (v := nI 3) f_161_33 (by decide) ?_
      refine x_iload_n f_161_34 rfl ?_
      refine x_imulN f_161_35 ?_
      refine x_iload_n f_161_36 rfl ?_
      refine x_iaddN f_161_37 ?_
      refine x_iald (j := ((3 * i) + 0)) f_161_38 S.k46 (by omega) (by decide) ?_
      refine x_topi (w := nI (wlo h i 0)) a0.1 ?_
      refine x_aload_n f_161_39 rfl ?_
      refine x_getR f_161_40 S.k33 (by decide) S.r20 ?_
      refine x_iconst (v := nI 3) f_161_43 (by decide) ?_
      refine x_iload_n f_161_44 rfl ?_
      refine x_imulN f_161_45 ?_
      refine x_iload_n f_161_46 rfl ?_
      refine x_iaddN f_161_47 ?_
      refine x_iald (j := ((3 * i) + 0)) f_161_48 S.k47 (by omega) (by decide) ?_
      refine x_topi (w := nI (whi h i 0)) a0.2.1 ?_
      refine x_callSe f_161_49 (c_inN _ (by omega) (by omega) (by omega)) (by omega) rfl rfl rfl (Nat.le_of_ble_eq_true rfl) rfl ?_
      refine x_ifB_ne (t := 57) f_161_52 (by decide) (fun c_4 => ?_) (fun c_4 => ?_)
      · refine x_iinc (v := nI 1) (ls1 := [.ref 33, .int (nI i), .int (nI s), .int (nI 1), mj_unset, mj_unset, mj_unset, mj_unset, mj_unset, mj_unset]) f_161_57 rfl (by decide) rfl ?_
        refine x_goto (t := 19) f_161_60 (by decide) ?_
        refine x_iload_n f_161_19 rfl ?_
        refine x_iconst (v := nI 3) f_161_20 (by decide) ?_
        refine x_icmpN_ge (t := 63) f_161_21 (by decide) (by decide) (by decide) (fun c_5 => by omega) (fun c_5 => ?_)
        refine x_iload_n f_161_24 rfl ?_
        refine x_iload_n f_161_25 rfl ?_
        refine x_callSe f_161_26 (c_part _ _ _ (by omega) (by decide)) (by omega) rfl rfl rfl (Nat.le_of_ble_eq_true rfl) rfl ?_
        refine x_aload_n f_161_29 rfl ?_
        refine x_getR f_161_30 S.k33 (by decide) S.r19 ?_
        refine x_iconst (v := nI 3) f_161_33 (by decide) ?_
        refine x_iload_n f_161_34 rfl ?_
        refine x_imulN f_161_35 ?_
        refine x_iload_n f_161_36 rfl ?_
        refine x_iaddN f_161_37 ?_
        refine x_iald (j := ((3 * i) + 1)) f_161_38 S.k46 (by omega) (by decide) ?_
        refine x_topi (w := nI (wlo h i 1)) a1.1 ?_
        refine x_aload_n f_161_39 rfl ?_
        refine x_getR f_161_40 S.k33 (by decide) S.r20 ?_
        refine x_iconst (v := nI 3) f_161_43 (by decide) ?_
        refine x_iload_n f_161_44 rfl ?_
        refine x_imulN f_161_45 ?_
        refine x_iload_n f_161_46 rfl ?_
        refine x_iaddN f_161_47 ?_
        refine x_iald (j := ((3 * i) + 1)) f_161_48 S.k47 (by omega) (by decide) ?_
        refine x_topi (w := nI (whi h i 1)) a1.2.1 ?_
        refine x_callSe f_161_49 (c_inN _ (by omega) (by omega) (by omega)) (by omega) rfl rfl rfl (Nat.le_of_ble_eq_true rfl) rfl ?_
        refine x_ifB_ne (t := 57) f_161_52 (by decide) (fun c_6 => ?_) (fun c_6 => ?_)
        · refine x_iinc (v := nI 2) (ls1 := [.ref 33, .int (nI i), .int (nI s), .int (nI 2), mj_unset, mj_unset, mj_unset, mj_unset, mj_unset, mj_unset]) f_161_57 rfl (by decide) rfl ?_
          refine x_goto (t := 19) f_161_60 (by decide) ?_
          refine x_iload_n f_161_19 rfl ?_
          refine x_iconst (v := nI 3) f_161_20 (by decide) ?_
          refine x_icmpN_ge (t := 63) f_161_21 (by decide) (by decide) (by decide) (fun c_7 => by omega) (fun c_7 => ?_)
          refine x_iload_n f_161_24 rfl ?_
          refine x_iload_n f_161_25 rfl ?_
          refine x_callSe f_161_26 (c_part _ _ _ (by omega) (by decide)) (by omega) rfl rfl rfl (Nat.le_of_ble_eq_true rfl) rfl ?_
          refine x_aload_n f_161_29 rfl ?_
          refine x_getR f_161_30 S.k33 (by decide) S.r19 ?_
          refine x_iconst (v := nI 3) f_161_33 (by decide) ?_
          refine x_iload_n f_161_34 rfl ?_
          refine x_imulN f_161_35 ?_
          refine x_iload_n f_161_36 rfl ?_
          refine x_iaddN f_161_37 ?_
          refine x_iald (j := ((3 * i) + 2)) f_161_38 S.k46 (by omega) (by decide) ?_
          refine x_topi (w := nI (wlo h i 2)) a2.1 ?_
          refine x_aload_n f_161_39 rfl ?_
          refine x_getR f_161_40 S.k33 (by decide) S.r20 ?_
          refine x_iconst (v := nI 3) f_161_43 (by decide) ?_
          refine x_iload_n f_161_44 rfl ?_
          refine x_imulN f_161_45 ?_
          refine x_iload_n f_161_46 rfl ?_
          refine x_iaddN f_161_47 ?_
          refine x_iald (j := ((3 * i) + 2)) f_161_48 S.k47 (by omega) (by decide) ?_
          refine x_topi (w := nI (whi h i 2)) a2.2.1 ?_
          refine x_callSe f_161_49 (c_inN _ (by omega) (by omega) (by omega)) (by omega) rfl rfl rfl (Nat.le_of_ble_eq_true rfl) rfl ?_
          refine x_ifB_ne (t := 57) f_161_52 (by decide) (fun c_8 => ?_) (fun c_8 => ?_)
          · refine x_iinc (v := nI 3) (ls1 := [.ref 33, .int (nI i), .int (nI s), .int (nI 3), mj_unset, mj_unset, mj_unset, mj_unset, mj_unset, mj_unset]) f_161_57 rfl (by decide) rfl ?_
            refine x_goto (t := 19) f_161_60 (by decide) ?_
            refine x_iload_n f_161_19 rfl ?_
            refine x_iconst (v := nI 3) f_161_20 (by decide) ?_
            refine x_icmpN_ge (t := 63) f_161_21 (by decide) (by decide) (by decide) (fun c_9 => ?_) (fun c_9 => by omega)
            refine x_aload_n f_161_63 rfl ?_
            refine x_iload_n f_161_64 rfl ?_
            refine x_putI f_161_65 S.k33 (by decide) ?_
            refine x_aload_n f_161_68 rfl ?_
            refine x_getR f_161_69 S.k33 (by decide) S.r18 ?_
            refine x_iload_n f_161_72 rfl ?_
            refine x_iald (j := i) f_161_73 S.k45 (by omega) (by decide) ?_
            refine x_topi (w := nI (wj h i)) ((congrFun (mj_I_other (by decide)) _).trans (hN.1)) ?_
            refine x_istore_n (ls1 := [.ref 33, .int (nI i), .int (nI s), .int (nI (wj h i)), mj_unset, mj_unset, mj_unset, mj_unset, mj_unset, mj_unset]) f_161_74 (Nat.le_of_ble_eq_true rfl) rfl ?_
            refine x_iconst (v := -1) f_161_75 (by decide) ?_
            refine x_istore (ls1 := [.ref 33, .int (nI i), .int (nI s), .int (nI (wj h i)), .int (-1), mj_unset, mj_unset, mj_unset, mj_unset, mj_unset]) f_161_76 (Nat.le_of_ble_eq_true rfl) rfl ?_
            refine x_aload_n f_161_78 rfl ?_
            refine x_getR f_161_79 S.k33 (by decide) S.r19 ?_
            refine x_iconst (v := nI 3) f_161_82 (by decide) ?_
            refine x_iload_n f_161_83 rfl ?_
            refine x_imulN f_161_84 ?_
            refine x_iald (j := (3 * i)) f_161_85 S.k46 (by omega) (by decide) ?_
            refine x_topi (w := nI (wlo h i 0)) ((congrFun (mj_I_other (by decide)) _).trans (a0.1)) ?_
            refine x_istore (ls1 := [.ref 33, .int (nI i), .int (nI s), .int (nI (wj h i)), .int (-1), .int (nI (wlo h i 0)), mj_unset, mj_unset, mj_unset, mj_unset]) f_161_86 (Nat.le_of_ble_eq_true rfl) rfl ?_
            have f36 : mj_I (mj_setI h 33 22 (nI i)) 36 = mj_I h 36 := mj_I_other (by decide)
            have f45 : mj_I (mj_setI h 33 22 (nI i)) 45 = mj_I h 45 := mj_I_other (by decide)
            have f46 : mj_I (mj_setI h 33 22 (nI i)) 46 = mj_I h 46 := mj_I_other (by decide)
            have f47 : mj_I (mj_setI h 33 22 (nI i)) 47 = mj_I h 47 := mj_I_other (by decide)
            have hN2 : WN (mj_setI h 33 22 (nI i)) i jm := WN_to f45 f46 f47 hN
            have g1 : wj (mj_setI h 33 22 (nI i)) i = wj h i := by unfold wj; rw [f45]
            have g2 : wlo (mj_setI h 33 22 (nI i)) i = wlo h i := by funext a; unfold wlo; rw [f46]
            have g3 : whi (mj_setI h 33 22 (nI i)) i = whi h i := by funext a; unfold whi; rw [f47]
            have g4 : gdV (mj_setI h 33 22 (nI i)) (wj h i) = gdV h (wj h i) := by funext z; unfold gdV; rw [vd_eq f36]
            have K := fun Q : Option Value → mj_H → Prop => edge_l1 (h := mj_setI h 33 22 (nI i)) (by omega) hN2 h_s (Q := Q) (whi h i 0 + 1 - wlo h i 0) (wlo h i 0) none (mj_setI h 33 22 (nI i)) mj_unset mj_unset mj_unset mj_unset
            simp only [g1, g2, g3, g4] at K
            refine K _ (by omega) (Nat.le_refl _) (MV.rf (MW_33 hW)) (fun b hb => absurd hb (by simp)) (fun b hb => absurd hb (by simp)) ?_
            intro g best v6 v7 v8 v9 hv hEb mono cov
            refine x_iload f_161_258 rfl ?_
            refine x_retI f_161_260 rfl ?_
            refine mj_qT ⟨c_1, c_2, c_4, c_6, c_8⟩ ⟨best, ⟨hEb, ?_⟩, rfl, ((SQ.rf hW).set33 (by decide)).trans (SQ.mv hv)⟩
            rintro o ⟨t, p, l, h1, h2, h3, h4, h5, h6, rfl⟩
            exact cov t p l h1 h2 h3 h4 h5 h6
          · refine x_iconst (v := -1) f_161_55 (by decide) ?_
            refine x_retI f_161_56 rfl ?_
            exact mj_qF (by first | exact fun q => c_8 (q.2.2.2.2) | exact fun q => (q.2.2.2.2) c_8) ⟨rfl, rfl⟩
        · refine x_iconst (v := -1) f_161_55 (by decide) ?_
          refine x_retI f_161_56 rfl ?_
          exact mj_qF (by first | exact fun q => c_6 (q.2.2.2.1) | exact fun q => (q.2.2.2.1) c_6) ⟨rfl, rfl⟩
      · refine x_iconst (v := -1) f_161_55 (by decide) ?_
        refine x_retI f_161_56 rfl ?_
        exact mj_qF (by first | exact fun q => c_4 (q.2.2.1) | exact fun q => (q.2.2.1) c_4) ⟨rfl, rfl⟩
    · refine x_iconst (v := -1) f_161_15 (by decide) ?_
      refine x_retI f_161_16 rfl ?_
      exact mj_qF (by first | exact fun q => c_2 (q.2.1) | exact fun q => (q.2.1) c_2) ⟨rfl, rfl⟩
/-- whether the setting a step off on an axis is there and good: k = 2 axis down, 2 axis + 1 up -/
abbrev mdk (h : mj_H) (j s k : Nat) : Prop := if k % 2 = 0 then 1 ≤ mm_pt s (k / 2) ∧ vd h j (s - (if k / 2 = 0 then 81 else if k / 2 = 1 then 9 else 1)) = 0 else mm_pt s (k / 2) + 1 < 9 ∧ vd h j (s + (if k / 2 = 0 then 81 else if k / 2 = 1 then 9 else 1)) = 0
def mdb (h : mj_H) (j s k : Nat) (b : Int32) : Int32 := if mdk h j s k then b ||| (1 <<< (nI k &&& 31)) else b
theorem nI_predA (n : Nat) : nI (n + 1) + -1 = nI n := by
  have q := nI_pred n
  rw [Int32.sub_eq_add_neg] at q
  exact q
theorem or_zero32 (b : Int32) : b ||| nI 0 = b := by
  show b ||| 0 = b
  simp
theorem nI_sub1 {s c : Nat} (h : c ≤ s) : nI s + -1 * nI c = nI (s - c) := by
  rw [← pk_sub h, Int32.sub_eq_add_neg, Int32.neg_mul, Int32.one_mul]

set_option maxRecDepth 20000 in
theorem mended_0 {h g : mj_H} {jm j s : Nat} {b : Int32} {v5 v6 v7 : Value} (hj : j < jm) (hs : s < 729) (hv : MV h g jm) {Q : Option Value → mj_H → Prop} (K : ∀ (g : mj_H) (v5 v6 v7 : Value), MV h g jm → mx 5 162 16 [.ref 33, .int (nI j), .int (nI s), .int (mdb h j s 0 b), .int (nI 1), v5, v6, v7] [] g Q) : mx 5 162 16 [.ref 33, .int (nI j), .int (nI s), .int b, .int (nI 0), v5, v6, v7] [] g Q := by
  have S := hv.1.1
  have p0 := mm_pt_lt s 0 hs
  have m0 : mm_pt s 0 = s / 81 := rfl
  refine x_iload f_162_16 rfl ?_
  refine x_bipush (v := nI 6) f_162_18 (by decide) ?_
  refine x_icmpN_ge (t := 117) f_162_20 (by decide) (by decide) (by decide) (fun c_1 => by omega) (fun c_1 => ?_)
  refine x_iload f_162_23 rfl ?_
  refine x_iconst (v := nI 2) f_162_25 (by decide) ?_
  refine x_idivN f_162_26 (by omega) (by decide) (by decide) ?_
  refine x_topi (w := nI 0) (by decide) ?_
  refine x_istore (ls1 := [.ref 33, .int (nI j), .int (nI s), .int b, .int (nI 0), .int (nI 0), v6, v7]) f_162_27 (Nat.le_of_ble_eq_true rfl) rfl ?_
  refine x_iload f_162_29 rfl ?_
  refine x_iconst (v := nI 2) f_162_31 (by decide) ?_
  refine x_iremN f_162_32 (by omega) (by decide) (by decide) ?_
  refine x_topi (w := nI 0) (by decide) ?_
  refine x_ifN_ne (t := 40) f_162_33 (by decide) (by decide) (fun c_2 => by omega) (fun c_2 => ?_)
  refine x_iconst (v := -1) f_162_36 (by decide) ?_
  refine x_goto (t := 41) f_162_37 (by decide) ?_
  refine x_istore (ls1 := [.ref 33, .int (nI j), .int (nI s), .int b, .int (nI 0), .int (nI 0), .int (-1), v7]) f_162_41 (Nat.le_of_ble_eq_true rfl) rfl ?_
  refine x_iload_n f_162_43 rfl ?_
  refine x_iload f_162_44 rfl ?_
  refine x_callSe f_162_46 (c_part _ _ _ (by omega) (by decide)) (by omega) rfl rfl rfl (Nat.le_of_ble_eq_true rfl) rfl ?_
  refine x_iload f_162_49 rfl ?_
  refine x_iadd f_162_51 ?_
  refine x_topi (w := nI (mm_pt s 0)) (nI_predA _) ?_
  refine x_iconst (v := nI 1) f_162_52 (by decide) ?_
  refine x_bipush (v := nI 9) f_162_53 (by decide) ?_
  refine x_callSe f_162_55 (c_inN _ (by omega) (by omega) (by omega)) (by omega) rfl rfl rfl (Nat.le_of_ble_eq_true rfl) rfl ?_
  refine x_ifB_eq (t := 111) f_162_58 (by decide) (fun c_in => ?_) (fun c_in => ?_)
  · refine x_iinc (v := nI 1) (ls1 := [.ref 33, .int (nI j), .int (nI s), .int b, .int (nI 1), .int (nI 0), .int (-1), v7]) f_162_111 rfl (by decide) rfl ?_
    refine x_goto (t := 16) f_162_114 (by decide) ?_
    have hb : mdb h j s 0 b = b := if_neg (show ¬ (1 ≤ mm_pt s 0 ∧ vd h j (s - 81) = 0) from fun q => c_in (by have := q.1; omega))
    rw [hb] at K
    exact K g _ _ _ hv
  · refine x_iload_n f_162_61 rfl ?_
    refine x_iload f_162_62 rfl ?_
    refine x_iload f_162_64 rfl ?_
    refine x_ifN_ne (t := 74) f_162_66 (by decide) (by decide) (fun c_3 => by omega) (fun c_3 => ?_)
    refine x_bipush (v := nI 81) f_162_69 (by decide) ?_
    refine x_goto (t := 86) f_162_71 (by decide) ?_
    refine x_imul f_162_86 ?_
    refine x_iadd f_162_87 ?_
    refine x_topi (w := nI (s - 81)) (nI_sub1 (by omega)) ?_
    refine x_istore (ls1 := [.ref 33, .int (nI j), .int (nI s), .int b, .int (nI 0), .int (nI 0), .int (-1), .int (nI (s - 81))]) f_162_88 (Nat.le_of_ble_eq_true rfl) rfl ?_
    refine x_iload_n f_162_90 rfl ?_
    refine x_aload_n f_162_91 rfl ?_
    refine x_iload_n f_162_92 rfl ?_
    refine x_iload f_162_93 rfl ?_
    refine x_callV f_162_95 (c_verdictOf hv.1 hj (z := s - 81) (by omega)) (by omega) S.k33 (by decide) rfl rfl (Nat.le_of_ble_eq_true rfl) rfl ?_
    rintro _ g1 ⟨rfl, hv1⟩
    have l1 := vd_le g j (s - 81)
    rw [MV_vd hv]
    rw [MV_vd hv] at l1
    refine x_ifN_ne (t := 108) f_162_98 (by decide) (by omega) (fun c_v => ?_) (fun c_v => ?_)
    · refine x_iconst (v := nI 0) f_162_108 (by decide) ?_
      refine x_ior f_162_109 ?_
      refine x_istore_n (ls1 := [.ref 33, .int (nI j), .int (nI s), .int (b ||| (nI 0)), .int (nI 0), .int (nI 0), .int (-1), .int (nI (s - 81))]) f_162_110 (Nat.le_of_ble_eq_true rfl) rfl ?_
      refine x_iinc (v := nI 1) (ls1 := [.ref 33, .int (nI j), .int (nI s), .int (b ||| (nI 0)), .int (nI 1), .int (nI 0), .int (-1), .int (nI (s - 81))]) f_162_111 rfl (by decide) rfl ?_
      refine x_goto (t := 16) f_162_114 (by decide) ?_
      have hb : mdb h j s 0 b = b := if_neg (show ¬ (1 ≤ mm_pt s 0 ∧ vd h j (s - 81) = 0) from fun q => c_v q.2)
      rw [hb] at K
      rw [or_zero32]
      exact K g1 _ _ _ (hv.trans hv1)
    · refine x_iconst (v := nI 1) f_162_101 (by decide) ?_
      refine x_iload f_162_102 rfl ?_
      refine x_ishl f_162_104 ?_
      refine x_goto (t := 109) f_162_105 (by decide) ?_
      refine x_ior f_162_109 ?_
      refine x_istore_n (ls1 := [.ref 33, .int (nI j), .int (nI s), .int (b ||| ((nI 1) <<< ((nI 0) &&& 31))), .int (nI 0), .int (nI 0), .int (-1), .int (nI (s - 81))]) f_162_110 (Nat.le_of_ble_eq_true rfl) rfl ?_
      refine x_iinc (v := nI 1) (ls1 := [.ref 33, .int (nI j), .int (nI s), .int (b ||| ((nI 1) <<< ((nI 0) &&& 31))), .int (nI 1), .int (nI 0), .int (-1), .int (nI (s - 81))]) f_162_111 rfl (by decide) rfl ?_
      refine x_goto (t := 16) f_162_114 (by decide) ?_
      have hb : mdb h j s 0 b = b ||| (1 <<< (nI 0 &&& 31)) := if_pos (show 1 ≤ mm_pt s 0 ∧ vd h j (s - 81) = 0 from ⟨by omega, c_v⟩)
      rw [hb] at K
      exact K g1 _ _ _ (hv.trans hv1)
set_option maxRecDepth 20000 in
theorem mended_1 {h g : mj_H} {jm j s : Nat} {b : Int32} {v5 v6 v7 : Value} (hj : j < jm) (hs : s < 729) (hv : MV h g jm) {Q : Option Value → mj_H → Prop} (K : ∀ (g : mj_H) (v5 v6 v7 : Value), MV h g jm → mx 5 162 16 [.ref 33, .int (nI j), .int (nI s), .int (mdb h j s 1 b), .int (nI 2), v5, v6, v7] [] g Q) : mx 5 162 16 [.ref 33, .int (nI j), .int (nI s), .int b, .int (nI 1), v5, v6, v7] [] g Q := by
  have S := hv.1.1
  have p0 := mm_pt_lt s 0 hs
  have m0 : mm_pt s 0 = s / 81 := rfl
  refine x_iload f_162_16 rfl ?_
  refine x_bipush (v := nI 6) f_162_18 (by decide) ?_
  refine x_icmpN_ge (t := 117) f_162_20 (by decide) (by decide) (by decide) (fun c_1 => by omega) (fun c_1 => ?_)
  refine x_iload f_162_23 rfl ?_
  refine x_iconst (v := nI 2) f_162_25 (by decide) ?_
  refine x_idivN f_162_26 (by omega) (by decide) (by decide) ?_
  refine x_topi (w := nI 0) (by decide) ?_
  refine x_istore (ls1 := [.ref 33, .int (nI j), .int (nI s), .int b, .int (nI 1), .int (nI 0), v6, v7]) f_162_27 (Nat.le_of_ble_eq_true rfl) rfl ?_
  refine x_iload f_162_29 rfl ?_
  refine x_iconst (v := nI 2) f_162_31 (by decide) ?_
  refine x_iremN f_162_32 (by omega) (by decide) (by decide) ?_
  refine x_topi (w := nI 1) (by decide) ?_
  refine x_ifN_ne (t := 40) f_162_33 (by decide) (by decide) (fun c_2 => ?_) (fun c_2 => by omega)
  refine x_iconst (v := nI 1) f_162_40 (by decide) ?_
  refine x_istore (ls1 := [.ref 33, .int (nI j), .int (nI s), .int b, .int (nI 1), .int (nI 0), .int (nI 1), v7]) f_162_41 (Nat.le_of_ble_eq_true rfl) rfl ?_
  refine x_iload_n f_162_43 rfl ?_
  refine x_iload f_162_44 rfl ?_
  refine x_callSe f_162_46 (c_part _ _ _ (by omega) (by decide)) (by omega) rfl rfl rfl (Nat.le_of_ble_eq_true rfl) rfl ?_
  refine x_iload f_162_49 rfl ?_
  refine x_iaddN f_162_51 ?_
  refine x_iconst (v := nI 1) f_162_52 (by decide) ?_
  refine x_bipush (v := nI 9) f_162_53 (by decide) ?_
  refine x_callSe f_162_55 (c_inN _ (by omega) (by omega) (by omega)) (by omega) rfl rfl rfl (Nat.le_of_ble_eq_true rfl) rfl ?_
  refine x_ifB_eq (t := 111) f_162_58 (by decide) (fun c_in => ?_) (fun c_in => ?_)
  · refine x_iinc (v := nI 2) (ls1 := [.ref 33, .int (nI j), .int (nI s), .int b, .int (nI 2), .int (nI 0), .int (nI 1), v7]) f_162_111 rfl (by decide) rfl ?_
    refine x_goto (t := 16) f_162_114 (by decide) ?_
    have hb : mdb h j s 1 b = b := if_neg (show ¬ (mm_pt s 0 + 1 < 9 ∧ vd h j (s + 81) = 0) from fun q => c_in (by have := q.1; omega))
    rw [hb] at K
    exact K g _ _ _ hv
  · refine x_iload_n f_162_61 rfl ?_
    refine x_iload f_162_62 rfl ?_
    refine x_iload f_162_64 rfl ?_
    refine x_ifN_ne (t := 74) f_162_66 (by decide) (by decide) (fun c_3 => by omega) (fun c_3 => ?_)
    refine x_bipush (v := nI 81) f_162_69 (by decide) ?_
    refine x_goto (t := 86) f_162_71 (by decide) ?_
    refine x_imulN f_162_86 ?_
    refine x_iaddN f_162_87 ?_
    refine x_istore (ls1 := [.ref 33, .int (nI j), .int (nI s), .int b, .int (nI 1), .int (nI 0), .int (nI 1), .int (nI (s + (1 * 81)))]) f_162_88 (Nat.le_of_ble_eq_true rfl) rfl ?_
    refine x_iload_n f_162_90 rfl ?_
    refine x_aload_n f_162_91 rfl ?_
    refine x_iload_n f_162_92 rfl ?_
    refine x_iload f_162_93 rfl ?_
    refine x_callV f_162_95 (c_verdictOf hv.1 hj (z := s + 1 * 81) (by omega)) (by omega) S.k33 (by decide) rfl rfl (Nat.le_of_ble_eq_true rfl) rfl ?_
    rintro _ g1 ⟨rfl, hv1⟩
    have l1 := vd_le g j (s + 1 * 81)
    rw [MV_vd hv]
    rw [MV_vd hv] at l1
    refine x_ifN_ne (t := 108) f_162_98 (by decide) (by omega) (fun c_v => ?_) (fun c_v => ?_)
    · refine x_iconst (v := nI 0) f_162_108 (by decide) ?_
      refine x_ior f_162_109 ?_
      refine x_istore_n (ls1 := [.ref 33, .int (nI j), .int (nI s), .int (b ||| (nI 0)), .int (nI 1), .int (nI 0), .int (nI 1), .int (nI (s + (1 * 81)))]) f_162_110 (Nat.le_of_ble_eq_true rfl) rfl ?_
      refine x_iinc (v := nI 2) (ls1 := [.ref 33, .int (nI j), .int (nI s), .int (b ||| (nI 0)), .int (nI 2), .int (nI 0), .int (nI 1), .int (nI (s + (1 * 81)))]) f_162_111 rfl (by decide) rfl ?_
      refine x_goto (t := 16) f_162_114 (by decide) ?_
      have hb : mdb h j s 1 b = b := if_neg (show ¬ (mm_pt s 0 + 1 < 9 ∧ vd h j (s + 81) = 0) from fun q => c_v q.2)
      rw [hb] at K
      rw [or_zero32]
      exact K g1 _ _ _ (hv.trans hv1)
    · refine x_iconst (v := nI 1) f_162_101 (by decide) ?_
      refine x_iload f_162_102 rfl ?_
      refine x_ishl f_162_104 ?_
      refine x_goto (t := 109) f_162_105 (by decide) ?_
      refine x_ior f_162_109 ?_
      refine x_istore_n (ls1 := [.ref 33, .int (nI j), .int (nI s), .int (b ||| ((nI 1) <<< ((nI 1) &&& 31))), .int (nI 1), .int (nI 0), .int (nI 1), .int (nI (s + (1 * 81)))]) f_162_110 (Nat.le_of_ble_eq_true rfl) rfl ?_
      refine x_iinc (v := nI 2) (ls1 := [.ref 33, .int (nI j), .int (nI s), .int (b ||| ((nI 1) <<< ((nI 1) &&& 31))), .int (nI 2), .int (nI 0), .int (nI 1), .int (nI (s + (1 * 81)))]) f_162_111 rfl (by decide) rfl ?_
      refine x_goto (t := 16) f_162_114 (by decide) ?_
      have hb : mdb h j s 1 b = b ||| (1 <<< (nI 1 &&& 31)) := if_pos (show mm_pt s 0 + 1 < 9 ∧ vd h j (s + 81) = 0 from ⟨by omega, c_v⟩)
      rw [hb] at K
      exact K g1 _ _ _ (hv.trans hv1)
set_option maxRecDepth 20000 in
theorem mended_2 {h g : mj_H} {jm j s : Nat} {b : Int32} {v5 v6 v7 : Value} (hj : j < jm) (hs : s < 729) (hv : MV h g jm) {Q : Option Value → mj_H → Prop} (K : ∀ (g : mj_H) (v5 v6 v7 : Value), MV h g jm → mx 5 162 16 [.ref 33, .int (nI j), .int (nI s), .int (mdb h j s 2 b), .int (nI 3), v5, v6, v7] [] g Q) : mx 5 162 16 [.ref 33, .int (nI j), .int (nI s), .int b, .int (nI 2), v5, v6, v7] [] g Q := by
  have S := hv.1.1
  have p0 := mm_pt_lt s 1 hs
  have m0 : mm_pt s 1 = s / 9 % 9 := rfl
  refine x_iload f_162_16 rfl ?_
  refine x_bipush (v := nI 6) f_162_18 (by decide) ?_
  refine x_icmpN_ge (t := 117) f_162_20 (by decide) (by decide) (by decide) (fun c_1 => by omega) (fun c_1 => ?_)
  refine x_iload f_162_23 rfl ?_
  refine x_iconst (v := nI 2) f_162_25 (by decide) ?_
  refine x_idivN f_162_26 (by omega) (by decide) (by decide) ?_
  refine x_topi (w := nI 1) (by decide) ?_
  refine x_istore (ls1 := [.ref 33, .int (nI j), .int (nI s), .int b, .int (nI 2), .int (nI 1), v6, v7]) f_162_27 (Nat.le_of_ble_eq_true rfl) rfl ?_
  refine x_iload f_162_29 rfl ?_
  refine x_iconst (v := nI 2) f_162_31 (by decide) ?_
  refine x_iremN f_162_32 (by omega) (by decide) (by decide) ?_
  refine x_topi (w := nI 0) (by decide) ?_
  refine x_ifN_ne (t := 40) f_162_33 (by decide) (by decide) (fun c_2 => by omega) (fun c_2 => ?_)
  refine x_iconst (v := -1) f_162_36 (by decide) ?_
  refine x_goto (t := 41) f_162_37 (by decide) ?_
  refine x_istore (ls1 := [.ref 33, .int (nI j), .int (nI s), .int b, .int (nI 2), .int (nI 1), .int (-1), v7]) f_162_41 (Nat.le_of_ble_eq_true rfl) rfl ?_
  refine x_iload_n f_162_43 rfl ?_
  refine x_iload f_162_44 rfl ?_
  refine x_callSe f_162_46 (c_part _ _ _ (by omega) (by decide)) (by omega) rfl rfl rfl (Nat.le_of_ble_eq_true rfl) rfl ?_
  refine x_iload f_162_49 rfl ?_
  refine x_iadd f_162_51 ?_
  refine x_topi (w := nI (mm_pt s 1)) (nI_predA _) ?_
  refine x_iconst (v := nI 1) f_162_52 (by decide) ?_
  refine x_bipush (v := nI 9) f_162_53 (by decide) ?_
  refine x_callSe f_162_55 (c_inN _ (by omega) (by omega) (by omega)) (by omega) rfl rfl rfl (Nat.le_of_ble_eq_true rfl) rfl ?_
  refine x_ifB_eq (t := 111) f_162_58 (by decide) (fun c_in => ?_) (fun c_in => ?_)
  · refine x_iinc (v := nI 3) (ls1 := [.ref 33, .int (nI j), .int (nI s), .int b, .int (nI 3), .int (nI 1), .int (-1), v7]) f_162_111 rfl (by decide) rfl ?_
    refine x_goto (t := 16) f_162_114 (by decide) ?_
    have hb : mdb h j s 2 b = b := if_neg (show ¬ (1 ≤ mm_pt s 1 ∧ vd h j (s - 9) = 0) from fun q => c_in (by have := q.1; omega))
    rw [hb] at K
    exact K g _ _ _ hv
  · refine x_iload_n f_162_61 rfl ?_
    refine x_iload f_162_62 rfl ?_
    refine x_iload f_162_64 rfl ?_
    refine x_ifN_ne (t := 74) f_162_66 (by decide) (by decide) (fun c_3 => ?_) (fun c_3 => by omega)
    refine x_iload f_162_74 rfl ?_
    refine x_iconst (v := nI 1) f_162_76 (by decide) ?_
    refine x_icmpN_ne (t := 85) f_162_77 (by decide) (by decide) (by decide) (fun c_4 => by omega) (fun c_4 => ?_)
    refine x_bipush (v := nI 9) f_162_80 (by decide) ?_
    refine x_goto (t := 86) f_162_82 (by decide) ?_
    refine x_imul f_162_86 ?_
    refine x_iadd f_162_87 ?_
    refine x_topi (w := nI (s - 9)) (nI_sub1 (by omega)) ?_
    refine x_istore (ls1 := [.ref 33, .int (nI j), .int (nI s), .int b, .int (nI 2), .int (nI 1), .int (-1), .int (nI (s - 9))]) f_162_88 (Nat.le_of_ble_eq_true rfl) rfl ?_
    refine x_iload_n f_162_90 rfl ?_
    refine x_aload_n f_162_91 rfl ?_
    refine x_iload_n f_162_92 rfl ?_
    refine x_iload f_162_93 rfl ?_
    refine x_callV f_162_95 (c_verdictOf hv.1 hj (z := s - 9) (by omega)) (by omega) S.k33 (by decide) rfl rfl (Nat.le_of_ble_eq_true rfl) rfl ?_
    rintro _ g1 ⟨rfl, hv1⟩
    have l1 := vd_le g j (s - 9)
    rw [MV_vd hv]
    rw [MV_vd hv] at l1
    refine x_ifN_ne (t := 108) f_162_98 (by decide) (by omega) (fun c_v => ?_) (fun c_v => ?_)
    · refine x_iconst (v := nI 0) f_162_108 (by decide) ?_
      refine x_ior f_162_109 ?_
      refine x_istore_n (ls1 := [.ref 33, .int (nI j), .int (nI s), .int (b ||| (nI 0)), .int (nI 2), .int (nI 1), .int (-1), .int (nI (s - 9))]) f_162_110 (Nat.le_of_ble_eq_true rfl) rfl ?_
      refine x_iinc (v := nI 3) (ls1 := [.ref 33, .int (nI j), .int (nI s), .int (b ||| (nI 0)), .int (nI 3), .int (nI 1), .int (-1), .int (nI (s - 9))]) f_162_111 rfl (by decide) rfl ?_
      refine x_goto (t := 16) f_162_114 (by decide) ?_
      have hb : mdb h j s 2 b = b := if_neg (show ¬ (1 ≤ mm_pt s 1 ∧ vd h j (s - 9) = 0) from fun q => c_v q.2)
      rw [hb] at K
      rw [or_zero32]
      exact K g1 _ _ _ (hv.trans hv1)
    · refine x_iconst (v := nI 1) f_162_101 (by decide) ?_
      refine x_iload f_162_102 rfl ?_
      refine x_ishl f_162_104 ?_
      refine x_goto (t := 109) f_162_105 (by decide) ?_
      refine x_ior f_162_109 ?_
      refine x_istore_n (ls1 := [.ref 33, .int (nI j), .int (nI s), .int (b ||| ((nI 1) <<< ((nI 2) &&& 31))), .int (nI 2), .int (nI 1), .int (-1), .int (nI (s - 9))]) f_162_110 (Nat.le_of_ble_eq_true rfl) rfl ?_
      refine x_iinc (v := nI 3) (ls1 := [.ref 33, .int (nI j), .int (nI s), .int (b ||| ((nI 1) <<< ((nI 2) &&& 31))), .int (nI 3), .int (nI 1), .int (-1), .int (nI (s - 9))]) f_162_111 rfl (by decide) rfl ?_
      refine x_goto (t := 16) f_162_114 (by decide) ?_
      have hb : mdb h j s 2 b = b ||| (1 <<< (nI 2 &&& 31)) := if_pos (show 1 ≤ mm_pt s 1 ∧ vd h j (s - 9) = 0 from ⟨by omega, c_v⟩)
      rw [hb] at K
      exact K g1 _ _ _ (hv.trans hv1)
set_option maxRecDepth 20000 in
theorem mended_3 {h g : mj_H} {jm j s : Nat} {b : Int32} {v5 v6 v7 : Value} (hj : j < jm) (hs : s < 729) (hv : MV h g jm) {Q : Option Value → mj_H → Prop} (K : ∀ (g : mj_H) (v5 v6 v7 : Value), MV h g jm → mx 5 162 16 [.ref 33, .int (nI j), .int (nI s), .int (mdb h j s 3 b), .int (nI 4), v5, v6, v7] [] g Q) : mx 5 162 16 [.ref 33, .int (nI j), .int (nI s), .int b, .int (nI 3), v5, v6, v7] [] g Q := by
  have S := hv.1.1
  have p0 := mm_pt_lt s 1 hs
  have m0 : mm_pt s 1 = s / 9 % 9 := rfl
  refine x_iload f_162_16 rfl ?_
  refine x_bipush (v := nI 6) f_162_18 (by decide) ?_
  refine x_icmpN_ge (t := 117) f_162_20 (by decide) (by decide) (by decide) (fun c_1 => by omega) (fun c_1 => ?_)
  refine x_iload f_162_23 rfl ?_
  refine x_iconst (v := nI 2) f_162_25 (by decide) ?_
  refine x_idivN f_162_26 (by omega) (by decide) (by decide) ?_
  refine x_topi (w := nI 1) (by decide) ?_
  refine x_istore (ls1 := [.ref 33, .int (nI j), .int (nI s), .int b, .int (nI 3), .int (nI 1), v6, v7]) f_162_27 (Nat.le_of_ble_eq_true rfl) rfl ?_
  refine x_iload f_162_29 rfl ?_
  refine x_iconst (v := nI 2) f_162_31 (by decide) ?_
  refine x_iremN f_162_32 (by omega) (by decide) (by decide) ?_
  refine x_topi (w := nI 1) (by decide) ?_
  refine x_ifN_ne (t := 40) f_162_33 (by decide) (by decide) (fun c_2 => ?_) (fun c_2 => by omega)
  refine x_iconst (v := nI 1) f_162_40 (by decide) ?_
  refine x_istore (ls1 := [.ref 33, .int (nI j), .int (nI s), .int b, .int (nI 3), .int (nI 1), .int (nI 1), v7]) f_162_41 (Nat.le_of_ble_eq_true rfl) rfl ?_
  refine x_iload_n f_162_43 rfl ?_
  refine x_iload f_162_44 rfl ?_
  refine x_callSe f_162_46 (c_part _ _ _ (by omega) (by decide)) (by omega) rfl rfl rfl (Nat.le_of_ble_eq_true rfl) rfl ?_
  refine x_iload f_162_49 rfl ?_
  refine x_iaddN f_162_51 ?_
  refine x_iconst (v := nI 1) f_162_52 (by decide) ?_
  refine x_bipush (v := nI 9) f_162_53 (by decide) ?_
  refine x_callSe f_162_55 (c_inN _ (by omega) (by omega) (by omega)) (by omega) rfl rfl rfl (Nat.le_of_ble_eq_true rfl) rfl ?_
  refine x_ifB_eq (t := 111) f_162_58 (by decide) (fun c_in => ?_) (fun c_in => ?_)
  · refine x_iinc (v := nI 4) (ls1 := [.ref 33, .int (nI j), .int (nI s), .int b, .int (nI 4), .int (nI 1), .int (nI 1), v7]) f_162_111 rfl (by decide) rfl ?_
    refine x_goto (t := 16) f_162_114 (by decide) ?_
    have hb : mdb h j s 3 b = b := if_neg (show ¬ (mm_pt s 1 + 1 < 9 ∧ vd h j (s + 9) = 0) from fun q => c_in (by have := q.1; omega))
    rw [hb] at K
    exact K g _ _ _ hv
  · refine x_iload_n f_162_61 rfl ?_
    refine x_iload f_162_62 rfl ?_
    refine x_iload f_162_64 rfl ?_
    refine x_ifN_ne (t := 74) f_162_66 (by decide) (by decide) (fun c_3 => ?_) (fun c_3 => by omega)
    refine x_iload f_162_74 rfl ?_
    refine x_iconst (v := nI 1) f_162_76 (by decide) ?_
    refine x_icmpN_ne (t := 85) f_162_77 (by decide) (by decide) (by decide) (fun c_4 => by omega) (fun c_4 => ?_)
    refine x_bipush (v := nI 9) f_162_80 (by decide) ?_
    refine x_goto (t := 86) f_162_82 (by decide) ?_
    refine x_imulN f_162_86 ?_
    refine x_iaddN f_162_87 ?_
    refine x_istore (ls1 := [.ref 33, .int (nI j), .int (nI s), .int b, .int (nI 3), .int (nI 1), .int (nI 1), .int (nI (s + (1 * 9)))]) f_162_88 (Nat.le_of_ble_eq_true rfl) rfl ?_
    refine x_iload_n f_162_90 rfl ?_
    refine x_aload_n f_162_91 rfl ?_
    refine x_iload_n f_162_92 rfl ?_
    refine x_iload f_162_93 rfl ?_
    refine x_callV f_162_95 (c_verdictOf hv.1 hj (z := s + 1 * 9) (by omega)) (by omega) S.k33 (by decide) rfl rfl (Nat.le_of_ble_eq_true rfl) rfl ?_
    rintro _ g1 ⟨rfl, hv1⟩
    have l1 := vd_le g j (s + 1 * 9)
    rw [MV_vd hv]
    rw [MV_vd hv] at l1
    refine x_ifN_ne (t := 108) f_162_98 (by decide) (by omega) (fun c_v => ?_) (fun c_v => ?_)
    · refine x_iconst (v := nI 0) f_162_108 (by decide) ?_
      refine x_ior f_162_109 ?_
      refine x_istore_n (ls1 := [.ref 33, .int (nI j), .int (nI s), .int (b ||| (nI 0)), .int (nI 3), .int (nI 1), .int (nI 1), .int (nI (s + (1 * 9)))]) f_162_110 (Nat.le_of_ble_eq_true rfl) rfl ?_
      refine x_iinc (v := nI 4) (ls1 := [.ref 33, .int (nI j), .int (nI s), .int (b ||| (nI 0)), .int (nI 4), .int (nI 1), .int (nI 1), .int (nI (s + (1 * 9)))]) f_162_111 rfl (by decide) rfl ?_
      refine x_goto (t := 16) f_162_114 (by decide) ?_
      have hb : mdb h j s 3 b = b := if_neg (show ¬ (mm_pt s 1 + 1 < 9 ∧ vd h j (s + 9) = 0) from fun q => c_v q.2)
      rw [hb] at K
      rw [or_zero32]
      exact K g1 _ _ _ (hv.trans hv1)
    · refine x_iconst (v := nI 1) f_162_101 (by decide) ?_
      refine x_iload f_162_102 rfl ?_
      refine x_ishl f_162_104 ?_
      refine x_goto (t := 109) f_162_105 (by decide) ?_
      refine x_ior f_162_109 ?_
      refine x_istore_n (ls1 := [.ref 33, .int (nI j), .int (nI s), .int (b ||| ((nI 1) <<< ((nI 3) &&& 31))), .int (nI 3), .int (nI 1), .int (nI 1), .int (nI (s + (1 * 9)))]) f_162_110 (Nat.le_of_ble_eq_true rfl) rfl ?_
      refine x_iinc (v := nI 4) (ls1 := [.ref 33, .int (nI j), .int (nI s), .int (b ||| ((nI 1) <<< ((nI 3) &&& 31))), .int (nI 4), .int (nI 1), .int (nI 1), .int (nI (s + (1 * 9)))]) f_162_111 rfl (by decide) rfl ?_
      refine x_goto (t := 16) f_162_114 (by decide) ?_
      have hb : mdb h j s 3 b = b ||| (1 <<< (nI 3 &&& 31)) := if_pos (show mm_pt s 1 + 1 < 9 ∧ vd h j (s + 9) = 0 from ⟨by omega, c_v⟩)
      rw [hb] at K
      exact K g1 _ _ _ (hv.trans hv1)
set_option maxRecDepth 20000 in
theorem mended_4 {h g : mj_H} {jm j s : Nat} {b : Int32} {v5 v6 v7 : Value} (hj : j < jm) (hs : s < 729) (hv : MV h g jm) {Q : Option Value → mj_H → Prop} (K : ∀ (g : mj_H) (v5 v6 v7 : Value), MV h g jm → mx 5 162 16 [.ref 33, .int (nI j), .int (nI s), .int (mdb h j s 4 b), .int (nI 5), v5, v6, v7] [] g Q) : mx 5 162 16 [.ref 33, .int (nI j), .int (nI s), .int b, .int (nI 4), v5, v6, v7] [] g Q := by
  have S := hv.1.1
  have p0 := mm_pt_lt s 2 hs
  have m0 : mm_pt s 2 = s % 9 := rfl
  refine x_iload f_162_16 rfl ?_
  refine x_bipush (v := nI 6) f_162_18 (by decide) ?_
  refine x_icmpN_ge (t := 117) f_162_20 (by decide) (by decide) (by decide) (fun c_1 => by omega) (fun c_1 => ?_)
  refine x_iload f_162_23 rfl ?_
  refine x_iconst (v := nI 2) f_162_25 (by decide) ?_
  refine x_idivN f_162_26 (by omega) (by decide) (by decide) ?_
  refine x_topi (w := nI 2) (by decide) ?_
  refine x_istore (ls1 := [.ref 33, .int (nI j), .int (nI s), .int b, .int (nI 4), .int (nI 2), v6, v7]) f_162_27 (Nat.le_of_ble_eq_true rfl) rfl ?_
  refine x_iload f_162_29 rfl ?_
  refine x_iconst (v := nI 2) f_162_31 (by decide) ?_
  refine x_iremN f_162_32 (by omega) (by decide) (by decide) ?_
  refine x_topi (w := nI 0) (by decide) ?_
  refine x_ifN_ne (t := 40) f_162_33 (by decide) (by decide) (fun c_2 => by omega) (fun c_2 => ?_)
  refine x_iconst (v := -1) f_162_36 (by decide) ?_
  refine x_goto (t := 41) f_162_37 (by decide) ?_
  refine x_istore (ls1 := [.ref 33, .int (nI j), .int (nI s), .int b, .int (nI 4), .int (nI 2), .int (-1), v7]) f_162_41 (Nat.le_of_ble_eq_true rfl) rfl ?_
  refine x_iload_n f_162_43 rfl ?_
  refine x_iload f_162_44 rfl ?_
  refine x_callSe f_162_46 (c_part _ _ _ (by omega) (by decide)) (by omega) rfl rfl rfl (Nat.le_of_ble_eq_true rfl) rfl ?_
  refine x_iload f_162_49 rfl ?_
  refine x_iadd f_162_51 ?_
  refine x_topi (w := nI (mm_pt s 2)) (nI_predA _) ?_
  refine x_iconst (v := nI 1) f_162_52 (by decide) ?_
  refine x_bipush (v := nI 9) f_162_53 (by decide) ?_
  refine x_callSe f_162_55 (c_inN _ (by omega) (by omega) (by omega)) (by omega) rfl rfl rfl (Nat.le_of_ble_eq_true rfl) rfl ?_
  refine x_ifB_eq (t := 111) f_162_58 (by decide) (fun c_in => ?_) (fun c_in => ?_)
  · refine x_iinc (v := nI 5) (ls1 := [.ref 33, .int (nI j), .int (nI s), .int b, .int (nI 5), .int (nI 2), .int (-1), v7]) f_162_111 rfl (by decide) rfl ?_
    refine x_goto (t := 16) f_162_114 (by decide) ?_
    have hb : mdb h j s 4 b = b := if_neg (show ¬ (1 ≤ mm_pt s 2 ∧ vd h j (s - 1) = 0) from fun q => c_in (by have := q.1; omega))
    rw [hb] at K
    exact K g _ _ _ hv
  · refine x_iload_n f_162_61 rfl ?_
    refine x_iload f_162_62 rfl ?_
    refine x_iload f_162_64 rfl ?_
    refine x_ifN_ne (t := 74) f_162_66 (by decide) (by decide) (fun c_3 => ?_) (fun c_3 => by omega)
    refine x_iload f_162_74 rfl ?_
    refine x_iconst (v := nI 1) f_162_76 (by decide) ?_
    refine x_icmpN_ne (t := 85) f_162_77 (by decide) (by decide) (by decide) (fun c_4 => ?_) (fun c_4 => by omega)
    refine x_iconst (v := nI 1) f_162_85 (by decide) ?_
    refine x_imul f_162_86 ?_
    refine x_iadd f_162_87 ?_
    refine x_topi (w := nI (s - 1)) (nI_sub1 (by omega)) ?_
    refine x_istore (ls1 := [.ref 33, .int (nI j), .int (nI s), .int b, .int (nI 4), .int (nI 2), .int (-1), .int (nI (s - 1))]) f_162_88 (Nat.le_of_ble_eq_true rfl) rfl ?_
    refine x_iload_n f_162_90 rfl ?_
    refine x_aload_n f_162_91 rfl ?_
    refine x_iload_n f_162_92 rfl ?_
    refine x_iload f_162_93 rfl ?_
    refine x_callV f_162_95 (c_verdictOf hv.1 hj (z := s - 1) (by omega)) (by omega) S.k33 (by decide) rfl rfl (Nat.le_of_ble_eq_true rfl) rfl ?_
    rintro _ g1 ⟨rfl, hv1⟩
    have l1 := vd_le g j (s - 1)
    rw [MV_vd hv]
    rw [MV_vd hv] at l1
    refine x_ifN_ne (t := 108) f_162_98 (by decide) (by omega) (fun c_v => ?_) (fun c_v => ?_)
    · refine x_iconst (v := nI 0) f_162_108 (by decide) ?_
      refine x_ior f_162_109 ?_
      refine x_istore_n (ls1 := [.ref 33, .int (nI j), .int (nI s), .int (b ||| (nI 0)), .int (nI 4), .int (nI 2), .int (-1), .int (nI (s - 1))]) f_162_110 (Nat.le_of_ble_eq_true rfl) rfl ?_
      refine x_iinc (v := nI 5) (ls1 := [.ref 33, .int (nI j), .int (nI s), .int (b ||| (nI 0)), .int (nI 5), .int (nI 2), .int (-1), .int (nI (s - 1))]) f_162_111 rfl (by decide) rfl ?_
      refine x_goto (t := 16) f_162_114 (by decide) ?_
      have hb : mdb h j s 4 b = b := if_neg (show ¬ (1 ≤ mm_pt s 2 ∧ vd h j (s - 1) = 0) from fun q => c_v q.2)
      rw [hb] at K
      rw [or_zero32]
      exact K g1 _ _ _ (hv.trans hv1)
    · refine x_iconst (v := nI 1) f_162_101 (by decide) ?_
      refine x_iload f_162_102 rfl ?_
      refine x_ishl f_162_104 ?_
      refine x_goto (t := 109) f_162_105 (by decide) ?_
      refine x_ior f_162_109 ?_
      refine x_istore_n (ls1 := [.ref 33, .int (nI j), .int (nI s), .int (b ||| ((nI 1) <<< ((nI 4) &&& 31))), .int (nI 4), .int (nI 2), .int (-1), .int (nI (s - 1))]) f_162_110 (Nat.le_of_ble_eq_true rfl) rfl ?_
      refine x_iinc (v := nI 5) (ls1 := [.ref 33, .int (nI j), .int (nI s), .int (b ||| ((nI 1) <<< ((nI 4) &&& 31))), .int (nI 5), .int (nI 2), .int (-1), .int (nI (s - 1))]) f_162_111 rfl (by decide) rfl ?_
      refine x_goto (t := 16) f_162_114 (by decide) ?_
      have hb : mdb h j s 4 b = b ||| (1 <<< (nI 4 &&& 31)) := if_pos (show 1 ≤ mm_pt s 2 ∧ vd h j (s - 1) = 0 from ⟨by omega, c_v⟩)
      rw [hb] at K
      exact K g1 _ _ _ (hv.trans hv1)
set_option maxRecDepth 20000 in
theorem mended_5 {h g : mj_H} {jm j s : Nat} {b : Int32} {v5 v6 v7 : Value} (hj : j < jm) (hs : s < 729) (hv : MV h g jm) {Q : Option Value → mj_H → Prop} (K : ∀ (g : mj_H) (v5 v6 v7 : Value), MV h g jm → mx 5 162 16 [.ref 33, .int (nI j), .int (nI s), .int (mdb h j s 5 b), .int (nI 6), v5, v6, v7] [] g Q) : mx 5 162 16 [.ref 33, .int (nI j), .int (nI s), .int b, .int (nI 5), v5, v6, v7] [] g Q := by
  have S := hv.1.1
  have p0 := mm_pt_lt s 2 hs
  have m0 : mm_pt s 2 = s % 9 := rfl
  refine x_iload f_162_16 rfl ?_
  refine x_bipush (v := nI 6) f_162_18 (by decide) ?_
  refine x_icmpN_ge (t := 117) f_162_20 (by decide) (by decide) (by decide) (fun c_1 => by omega) (fun c_1 => ?_)
  refine x_iload f_162_23 rfl ?_
  refine x_iconst (v := nI 2) f_162_25 (by decide) ?_
  refine x_idivN f_162_26 (by omega) (by decide) (by decide) ?_
  refine x_topi (w := nI 2) (by decide) ?_
  refine x_istore (ls1 := [.ref 33, .int (nI j), .int (nI s), .int b, .int (nI 5), .int (nI 2), v6, v7]) f_162_27 (Nat.le_of_ble_eq_true rfl) rfl ?_
  refine x_iload f_162_29 rfl ?_
  refine x_iconst (v := nI 2) f_162_31 (by decide) ?_
  refine x_iremN f_162_32 (by omega) (by decide) (by decide) ?_
  refine x_topi (w := nI 1) (by decide) ?_
  refine x_ifN_ne (t := 40) f_162_33 (by decide) (by decide) (fun c_2 => ?_) (fun c_2 => by omega)
  refine x_iconst (v := nI 1) f_162_40 (by decide) ?_
  refine x_istore (ls1 := [.ref 33, .int (nI j), .int (nI s), .int b, .int (nI 5), .int (nI 2), .int (nI 1), v7]) f_162_41 (Nat.le_of_ble_eq_true rfl) rfl ?_
  refine x_iload_n f_162_43 rfl ?_
  refine x_iload f_162_44 rfl ?_
  refine x_callSe f_162_46 (c_part _ _ _ (by omega) (by decide)) (by omega) rfl rfl rfl (Nat.le_of_ble_eq_true rfl) rfl ?_
  refine x_iload f_162_49 rfl ?_
  refine x_iaddN f_162_51 ?_
  refine x_iconst (v := nI 1) f_162_52 (by decide) ?_
  refine x_bipush (v := nI 9) f_162_53 (by decide) ?_
  refine x_callSe f_162_55 (c_inN _ (by omega) (by omega) (by omega)) (by omega) rfl rfl rfl (Nat.le_of_ble_eq_true rfl) rfl ?_
  refine x_ifB_eq (t := 111) f_162_58 (by decide) (fun c_in => ?_) (fun c_in => ?_)
  · refine x_iinc (v := nI 6) (ls1 := [.ref 33, .int (nI j), .int (nI s), .int b, .int (nI 6), .int (nI 2), .int (nI 1), v7]) f_162_111 rfl (by decide) rfl ?_
    refine x_goto (t := 16) f_162_114 (by decide) ?_
    have hb : mdb h j s 5 b = b := if_neg (show ¬ (mm_pt s 2 + 1 < 9 ∧ vd h j (s + 1) = 0) from fun q => c_in (by have := q.1; omega))
    rw [hb] at K
    exact K g _ _ _ hv
  · refine x_iload_n f_162_61 rfl ?_
    refine x_iload f_162_62 rfl ?_
    refine x_iload f_162_64 rfl ?_
    refine x_ifN_ne (t := 74) f_162_66 (by decide) (by decide) (fun c_3 => ?_) (fun c_3 => by omega)
    refine x_iload f_162_74 rfl ?_
    refine x_iconst (v := nI 1) f_162_76 (by decide) ?_
    refine x_icmpN_ne (t := 85) f_162_77 (by decide) (by decide) (by decide) (fun c_4 => ?_) (fun c_4 => by omega)
    refine x_iconst (v := nI 1) f_162_85 (by decide) ?_
    refine x_imulN f_162_86 ?_
    refine x_iaddN f_162_87 ?_
    refine x_istore (ls1 := [.ref 33, .int (nI j), .int (nI s), .int b, .int (nI 5), .int (nI 2), .int (nI 1), .int (nI (s + (1 * 1)))]) f_162_88 (Nat.le_of_ble_eq_true rfl) rfl ?_
    refine x_iload_n f_162_90 rfl ?_
    refine x_aload_n f_162_91 rfl ?_
    refine x_iload_n f_162_92 rfl ?_
    refine x_iload f_162_93 rfl ?_
    refine x_callV f_162_95 (c_verdictOf hv.1 hj (z := s + 1 * 1) (by omega)) (by omega) S.k33 (by decide) rfl rfl (Nat.le_of_ble_eq_true rfl) rfl ?_
    rintro _ g1 ⟨rfl, hv1⟩
    have l1 := vd_le g j (s + 1 * 1)
    rw [MV_vd hv]
    rw [MV_vd hv] at l1
    refine x_ifN_ne (t := 108) f_162_98 (by decide) (by omega) (fun c_v => ?_) (fun c_v => ?_)
    · refine x_iconst (v := nI 0) f_162_108 (by decide) ?_
      refine x_ior f_162_109 ?_
      refine x_istore_n (ls1 := [.ref 33, .int (nI j), .int (nI s), .int (b ||| (nI 0)), .int (nI 5), .int (nI 2), .int (nI 1), .int (nI (s + (1 * 1)))]) f_162_110 (Nat.le_of_ble_eq_true rfl) rfl ?_
      refine x_iinc (v := nI 6) (ls1 := [.ref 33, .int (nI j), .int (nI s), .int (b ||| (nI 0)), .int (nI 6), .int (nI 2), .int (nI 1), .int (nI (s + (1 * 1)))]) f_162_111 rfl (by decide) rfl ?_
      refine x_goto (t := 16) f_162_114 (by decide) ?_
      have hb : mdb h j s 5 b = b := if_neg (show ¬ (mm_pt s 2 + 1 < 9 ∧ vd h j (s + 1) = 0) from fun q => c_v q.2)
      rw [hb] at K
      rw [or_zero32]
      exact K g1 _ _ _ (hv.trans hv1)
    · refine x_iconst (v := nI 1) f_162_101 (by decide) ?_
      refine x_iload f_162_102 rfl ?_
      refine x_ishl f_162_104 ?_
      refine x_goto (t := 109) f_162_105 (by decide) ?_
      refine x_ior f_162_109 ?_
      refine x_istore_n (ls1 := [.ref 33, .int (nI j), .int (nI s), .int (b ||| ((nI 1) <<< ((nI 5) &&& 31))), .int (nI 5), .int (nI 2), .int (nI 1), .int (nI (s + (1 * 1)))]) f_162_110 (Nat.le_of_ble_eq_true rfl) rfl ?_
      refine x_iinc (v := nI 6) (ls1 := [.ref 33, .int (nI j), .int (nI s), .int (b ||| ((nI 1) <<< ((nI 5) &&& 31))), .int (nI 6), .int (nI 2), .int (nI 1), .int (nI (s + (1 * 1)))]) f_162_111 rfl (by decide) rfl ?_
      refine x_goto (t := 16) f_162_114 (by decide) ?_
      have hb : mdb h j s 5 b = b ||| (1 <<< (nI 5 &&& 31)) := if_pos (show mm_pt s 2 + 1 < 9 ∧ vd h j (s + 1) = 0 from ⟨by omega, c_v⟩)
      rw [hb] at K
      exact K g1 _ _ _ (hv.trans hv1)
/-- which single steps mend a joint: a bit each -/
def MDB (h : mj_H) (j s : Nat) : Int32 := mdb h j s 5 (mdb h j s 4 (mdb h j s 3 (mdb h j s 2 (mdb h j s 1 (mdb h j s 0 (nI 0))))))

set_option maxRecDepth 20000 in
theorem c_mended {h : mj_H} {jm : Nat} (hW : MW h jm) (e_jm : mj_I h 33 8 = nI jm) (j s : Int32) : mxc 5 162 [.ref 33, .int j, .int s] h (fun r h' => if mIn j jm ∧ mIn s 729 then r = some (.int (MDB h j.toNatClampNeg s.toNatClampNeg)) ∧ MV h h' jm else r = some (.int (-1)) ∧ h' = h) := by
  have S : SM h := hW.1
  show mx 5 162 0 [.ref 33, .int j, .int s, mj_unset, mj_unset, mj_unset, mj_unset, mj_unset] [] h _
  refine x_aload_n f_162_0 rfl ?_
  refine x_iload_n f_162_1 rfl ?_
  refine x_iload_n f_162_2 rfl ?_
  refine x_callVe f_162_3 (c_isAsked S _ _ (jm := jm) (by have := hW.2.2.1; omega) e_jm) (by omega) S.k33 (by decide) rfl rfl (Nat.le_of_ble_eq_true rfl) rfl ?_
  refine x_ifB_ne (t := 11) f_162_6 (by decide) (fun c_1 => ?_) (fun c_1 => ?_)
  · obtain ⟨i, h_i, rfl⟩ := mIn_of c_1.1 (by have := hW.2.2.1; omega)
    obtain ⟨z, h_z, rfl⟩ := mIn_of c_1.2 (by decide)
    simp only [nI_clamp (show i < 2 ^ 31 by have := hW.2.2.1; omega), nI_clamp (show z < 2 ^ 31 by omega)]
    refine x_iconst (v := nI 0) f_162_11 (by decide) ?_
    refine x_istore_n (ls1 := [.ref 33, .int (nI i), .int (nI z), .int (nI 0), mj_unset, mj_unset, mj_unset, mj_unset]) f_162_12 (Nat.le_of_ble_eq_true rfl) rfl ?_
    refine x_iconst (v := nI 0) f_162_13 (by decide) ?_
    refine x_istore (ls1 := [.ref 33, .int (nI i), .int (nI z), .int (nI 0), .int (nI 0), mj_unset, mj_unset, mj_unset]) f_162_14 (Nat.le_of_ble_eq_true rfl) rfl ?_
    have c_1w := c_1
    refine mended_0 h_i h_z (MV.rf hW) ?_
    intro g v5 v6 v7 hv
    refine mended_1 h_i h_z hv ?_
    intro g v5 v6 v7 hv
    refine mended_2 h_i h_z hv ?_
    intro g v5 v6 v7 hv
    refine mended_3 h_i h_z hv ?_
    intro g v5 v6 v7 hv
    refine mended_4 h_i h_z hv ?_
    intro g v5 v6 v7 hv
    refine mended_5 h_i h_z hv ?_
    intro g v5 v6 v7 hv
    have S := hv.1.1
    refine x_iload f_162_16 rfl ?_
    refine x_bipush (v := nI 6) f_162_18 (by decide) ?_
    refine x_icmpN_ge (t := 117) f_162_20 (by decide) (by decide) (by decide) (fun c_1 => ?_) (fun c_1 => by omega)
    refine x_iload_n f_162_117 rfl ?_
    refine x_retI f_162_118 rfl ?_
    exact mj_qT c_1w ⟨rfl, hv⟩
  · refine x_iconst (v := -1) f_162_9 (by decide) ?_
    refine x_retI f_162_10 rfl ?_
    exact mj_qF c_1 ⟨rfl, rfl⟩
