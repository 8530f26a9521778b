theorem f_134_0 : mj_fetch 134 0 = some (.aload_n 0, 0, 0) := by decide +kernel
theorem f_134_1 : mj_fetch 134 1 = some (.iload_n 1, 0, 0) := by decide +kernel
theorem f_134_2 : mj_fetch 134 2 = some (.iload_n 2, 0, 0) := by decide +kernel
theorem f_134_3 : mj_fetch 134 3 = some (.invokevirtual 168, 132, 0) := by decide +kernel
theorem f_134_6 : mj_fetch 134 6 = some (.ifCond .eq 35, 0, 0) := by decide +kernel
theorem f_134_9 : mj_fetch 134 9 = some (.iload_n 3, 0, 0) := by decide +kernel
theorem f_134_10 : mj_fetch 134 10 = some (.iconst 0, 0, 0) := by decide +kernel
theorem f_134_11 : mj_fetch 134 11 = some (.aload_n 0, 0, 0) := by decide +kernel
theorem f_134_12 : mj_fetch 134 12 = some (.getfield 17, 11, 4) := by decide +kernel
theorem f_134_15 : mj_fetch 134 15 = some (.bipush 9, 0, 0) := by decide +kernel
theorem f_134_17 : mj_fetch 134 17 = some (.iload_n 1, 0, 0) := by decide +kernel
theorem f_134_18 : mj_fetch 134 18 = some (.imul, 0, 0) := by decide +kernel
theorem f_134_19 : mj_fetch 134 19 = some (.bipush 8, 0, 0) := by decide +kernel
theorem f_134_21 : mj_fetch 134 21 = some (.iadd, 0, 0) := by decide +kernel
theorem f_134_22 : mj_fetch 134 22 = some (.iaload, 0, 0) := by decide +kernel
theorem f_134_23 : mj_fetch 134 23 = some (.iconst 1, 0, 0) := by decide +kernel
theorem f_134_24 : mj_fetch 134 24 = some (.isub, 0, 0) := by decide +kernel
theorem f_134_25 : mj_fetch 134 25 = some (.invokestatic 100, 112, 0) := by decide +kernel
theorem f_134_28 : mj_fetch 134 28 = some (.ifCond .eq 13, 0, 0) := by decide +kernel
theorem f_134_31 : mj_fetch 134 31 = some (.iload 4, 0, 0) := by decide +kernel
theorem f_134_33 : mj_fetch 134 33 = some (.iconst 0, 0, 0) := by decide +kernel
theorem f_134_34 : mj_fetch 134 34 = some (.iconst 3, 0, 0) := by decide +kernel
theorem f_134_35 : mj_fetch 134 35 = some (.invokestatic 100, 112, 0) := by decide +kernel
theorem f_134_38 : mj_fetch 134 38 = some (.ifCond .ne 6, 0, 0) := by decide +kernel
theorem f_134_41 : mj_fetch 134 41 = some (.ldc 175, 4293967296, 0) := by decide +kernel
theorem f_134_43 : mj_fetch 134 43 = some (.ireturn, 0, 0) := by decide +kernel
theorem f_134_44 : mj_fetch 134 44 = some (.aload_n 0, 0, 0) := by decide +kernel
theorem f_134_45 : mj_fetch 134 45 = some (.iload_n 1, 0, 0) := by decide +kernel
theorem f_134_46 : mj_fetch 134 46 = some (.iload_n 2, 0, 0) := by decide +kernel
theorem f_134_47 : mj_fetch 134 47 = some (.invokevirtual 155, 129, 0) := by decide +kernel
theorem f_134_50 : mj_fetch 134 50 = some (.iload 4, 0, 0) := by decide +kernel
theorem f_134_52 : mj_fetch 134 52 = some (.ifCond .ne 12, 0, 0) := by decide +kernel
theorem f_134_55 : mj_fetch 134 55 = some (.aload_n 0, 0, 0) := by decide +kernel
theorem f_134_56 : mj_fetch 134 56 = some (.getfield 26, 11, 9) := by decide +kernel
theorem f_134_59 : mj_fetch 134 59 = some (.iload_n 3, 0, 0) := by decide +kernel
theorem f_134_60 : mj_fetch 134 60 = some (.iaload, 0, 0) := by decide +kernel
theorem f_134_61 : mj_fetch 134 61 = some (.goto 39, 0, 0) := by decide +kernel
theorem f_134_64 : mj_fetch 134 64 = some (.iload 4, 0, 0) := by decide +kernel
theorem f_134_66 : mj_fetch 134 66 = some (.iconst 1, 0, 0) := by decide +kernel
theorem f_134_67 : mj_fetch 134 67 = some (.if_icmp .ne 12, 0, 0) := by decide +kernel
theorem f_134_70 : mj_fetch 134 70 = some (.aload_n 0, 0, 0) := by decide +kernel
theorem f_134_71 : mj_fetch 134 71 = some (.getfield 32, 11, 11) := by decide +kernel
theorem f_134_74 : mj_fetch 134 74 = some (.iload_n 3, 0, 0) := by decide +kernel
theorem f_134_75 : mj_fetch 134 75 = some (.iaload, 0, 0) := by decide +kernel
theorem f_134_76 : mj_fetch 134 76 = some (.goto 24, 0, 0) := by decide +kernel
theorem f_134_79 : mj_fetch 134 79 = some (.iload 4, 0, 0) := by decide +kernel
theorem f_134_81 : mj_fetch 134 81 = some (.iconst 2, 0, 0) := by decide +kernel
theorem f_134_82 : mj_fetch 134 82 = some (.if_icmp .ne 12, 0, 0) := by decide +kernel
theorem f_134_85 : mj_fetch 134 85 = some (.aload_n 0, 0, 0) := by decide +kernel
theorem f_134_86 : mj_fetch 134 86 = some (.getfield 35, 11, 12) := by decide +kernel
theorem f_134_89 : mj_fetch 134 89 = some (.iload_n 3, 0, 0) := by decide +kernel
theorem f_134_90 : mj_fetch 134 90 = some (.iaload, 0, 0) := by decide +kernel
theorem f_134_91 : mj_fetch 134 91 = some (.goto 9, 0, 0) := by decide +kernel
theorem f_134_94 : mj_fetch 134 94 = some (.aload_n 0, 0, 0) := by decide +kernel
theorem f_134_95 : mj_fetch 134 95 = some (.getfield 38, 11, 13) := by decide +kernel
theorem f_134_98 : mj_fetch 134 98 = some (.iload_n 3, 0, 0) := by decide +kernel
theorem f_134_99 : mj_fetch 134 99 = some (.iaload, 0, 0) := by decide +kernel
theorem f_134_100 : mj_fetch 134 100 = some (.ireturn, 0, 0) := by decide +kernel
theorem f_121_54 : mj_fetch 121 54 = some (.iload 4, 0, 0) := by decide +kernel
theorem f_121_56 : mj_fetch 121 56 = some (.bipush 8, 0, 0) := by decide +kernel
theorem f_121_58 : mj_fetch 121 58 = some (.if_icmp .ge 129, 0, 0) := by decide +kernel
theorem f_121_61 : mj_fetch 121 61 = some (.aload_n 0, 0, 0) := by decide +kernel
theorem f_121_62 : mj_fetch 121 62 = some (.getfield 9, 11, 2) := by decide +kernel
theorem f_121_65 : mj_fetch 121 65 = some (.bipush 8, 0, 0) := by decide +kernel
theorem f_121_67 : mj_fetch 121 67 = some (.iload_n 1, 0, 0) := by decide +kernel
theorem f_121_68 : mj_fetch 121 68 = some (.imul, 0, 0) := by decide +kernel
theorem f_121_69 : mj_fetch 121 69 = some (.iload 4, 0, 0) := by decide +kernel
theorem f_121_71 : mj_fetch 121 71 = some (.iadd, 0, 0) := by decide +kernel
theorem f_121_72 : mj_fetch 121 72 = some (.iaload, 0, 0) := by decide +kernel
theorem f_121_73 : mj_fetch 121 73 = some (.istore 5, 0, 0) := by decide +kernel
theorem f_121_75 : mj_fetch 121 75 = some (.aload_n 0, 0, 0) := by decide +kernel
theorem f_121_76 : mj_fetch 121 76 = some (.getfield 9, 11, 2) := by decide +kernel
theorem f_121_79 : mj_fetch 121 79 = some (.bipush 8, 0, 0) := by decide +kernel
theorem f_121_81 : mj_fetch 121 81 = some (.iload_n 2, 0, 0) := by decide +kernel
theorem f_121_82 : mj_fetch 121 82 = some (.imul, 0, 0) := by decide +kernel
theorem f_121_83 : mj_fetch 121 83 = some (.iload 4, 0, 0) := by decide +kernel
theorem f_121_85 : mj_fetch 121 85 = some (.iadd, 0, 0) := by decide +kernel
theorem f_121_86 : mj_fetch 121 86 = some (.iaload, 0, 0) := by decide +kernel
theorem f_121_87 : mj_fetch 121 87 = some (.istore 6, 0, 0) := by decide +kernel
theorem f_121_89 : mj_fetch 121 89 = some (.iload 4, 0, 0) := by decide +kernel
theorem f_121_91 : mj_fetch 121 91 = some (.iconst 3, 0, 0) := by decide +kernel
theorem f_121_92 : mj_fetch 121 92 = some (.if_icmp .eq 10, 0, 0) := by decide +kernel
theorem f_121_95 : mj_fetch 121 95 = some (.iload 4, 0, 0) := by decide +kernel
theorem f_121_97 : mj_fetch 121 97 = some (.bipush 7, 0, 0) := by decide +kernel
theorem f_121_99 : mj_fetch 121 99 = some (.if_icmp .ne 7, 0, 0) := by decide +kernel
theorem f_121_102 : mj_fetch 121 102 = some (.iconst 1, 0, 0) := by decide +kernel
theorem f_121_103 : mj_fetch 121 103 = some (.goto 4, 0, 0) := by decide +kernel
theorem f_121_106 : mj_fetch 121 106 = some (.iconst 0, 0, 0) := by decide +kernel
theorem f_121_107 : mj_fetch 121 107 = some (.istore 7, 0, 0) := by decide +kernel
theorem f_121_109 : mj_fetch 121 109 = some (.iload 4, 0, 0) := by decide +kernel
theorem f_121_111 : mj_fetch 121 111 = some (.iconst 5, 0, 0) := by decide +kernel
theorem f_121_112 : mj_fetch 121 112 = some (.if_icmp .eq 10, 0, 0) := by decide +kernel
theorem f_121_115 : mj_fetch 121 115 = some (.iload 4, 0, 0) := by decide +kernel
theorem f_121_117 : mj_fetch 121 117 = some (.bipush 6, 0, 0) := by decide +kernel
theorem f_121_119 : mj_fetch 121 119 = some (.if_icmp .ne 7, 0, 0) := by decide +kernel
theorem f_121_122 : mj_fetch 121 122 = some (.iconst 1, 0, 0) := by decide +kernel
theorem f_121_123 : mj_fetch 121 123 = some (.goto 4, 0, 0) := by decide +kernel
theorem f_121_126 : mj_fetch 121 126 = some (.iconst 0, 0, 0) := by decide +kernel
theorem f_121_127 : mj_fetch 121 127 = some (.istore 8, 0, 0) := by decide +kernel
theorem f_121_129 : mj_fetch 121 129 = some (.aload_n 0, 0, 0) := by decide +kernel
theorem f_121_130 : mj_fetch 121 130 = some (.getfield 17, 11, 4) := by decide +kernel
theorem f_121_133 : mj_fetch 121 133 = some (.bipush 9, 0, 0) := by decide +kernel
theorem f_121_135 : mj_fetch 121 135 = some (.aload_n 0, 0, 0) := by decide +kernel
theorem f_121_136 : mj_fetch 121 136 = some (.getfield 110, 11, 8) := by decide +kernel
theorem f_121_139 : mj_fetch 121 139 = some (.imul, 0, 0) := by decide +kernel
theorem f_121_140 : mj_fetch 121 140 = some (.iload 4, 0, 0) := by decide +kernel
theorem f_121_142 : mj_fetch 121 142 = some (.iadd, 0, 0) := by decide +kernel
theorem f_121_143 : mj_fetch 121 143 = some (.iload 7, 0, 0) := by decide +kernel
theorem f_121_145 : mj_fetch 121 145 = some (.ifCond .eq 13, 0, 0) := by decide +kernel
theorem f_121_148 : mj_fetch 121 148 = some (.iload 5, 0, 0) := by decide +kernel
theorem f_121_150 : mj_fetch 121 150 = some (.iload 6, 0, 0) := by decide +kernel
theorem f_121_152 : mj_fetch 121 152 = some (.invokestatic 117, 0, 2) := by decide +kernel
theorem f_121_155 : mj_fetch 121 155 = some (.goto 25, 0, 0) := by decide +kernel
theorem f_121_158 : mj_fetch 121 158 = some (.iload 8, 0, 0) := by decide +kernel
theorem f_121_160 : mj_fetch 121 160 = some (.ifCond .eq 13, 0, 0) := by decide +kernel
theorem f_121_163 : mj_fetch 121 163 = some (.iload 5, 0, 0) := by decide +kernel
theorem f_121_165 : mj_fetch 121 165 = some (.iload 6, 0, 0) := by decide +kernel
theorem f_121_167 : mj_fetch 121 167 = some (.invokestatic 123, 0, 3) := by decide +kernel
theorem f_121_170 : mj_fetch 121 170 = some (.goto 10, 0, 0) := by decide +kernel
theorem f_121_173 : mj_fetch 121 173 = some (.iload 5, 0, 0) := by decide +kernel
theorem f_121_175 : mj_fetch 121 175 = some (.iload 6, 0, 0) := by decide +kernel
theorem f_121_177 : mj_fetch 121 177 = some (.iadd, 0, 0) := by decide +kernel
theorem f_121_178 : mj_fetch 121 178 = some (.iconst 2, 0, 0) := by decide +kernel
theorem f_121_179 : mj_fetch 121 179 = some (.idiv, 0, 0) := by decide +kernel
theorem f_121_180 : mj_fetch 121 180 = some (.iastore, 0, 0) := by decide +kernel
theorem f_121_181 : mj_fetch 121 181 = some (.iinc 4 1, 0, 0) := by decide +kernel
theorem f_121_184 : mj_fetch 121 184 = some (.goto (-130), 0, 0) := by decide +kernel
theorem f_121_187 : mj_fetch 121 187 = some (.aload_n 0, 0, 0) := by decide +kernel
theorem f_121_188 : mj_fetch 121 188 = some (.getfield 17, 11, 4) := by decide +kernel
theorem f_121_191 : mj_fetch 121 191 = some (.bipush 9, 0, 0) := by decide +kernel
theorem f_121_193 : mj_fetch 121 193 = some (.aload_n 0, 0, 0) := by decide +kernel
theorem f_121_194 : mj_fetch 121 194 = some (.getfield 110, 11, 8) := by decide +kernel
theorem f_121_197 : mj_fetch 121 197 = some (.imul, 0, 0) := by decide +kernel
theorem f_121_198 : mj_fetch 121 198 = some (.bipush 8, 0, 0) := by decide +kernel
theorem f_121_200 : mj_fetch 121 200 = some (.iadd, 0, 0) := by decide +kernel
theorem f_121_201 : mj_fetch 121 201 = some (.iload_n 3, 0, 0) := by decide +kernel
theorem f_121_202 : mj_fetch 121 202 = some (.iastore, 0, 0) := by decide +kernel
theorem f_121_203 : mj_fetch 121 203 = some (.aload_n 0, 0, 0) := by decide +kernel
theorem f_121_204 : mj_fetch 121 204 = some (.getfield 20, 11, 5) := by decide +kernel
theorem f_121_207 : mj_fetch 121 207 = some (.aload_n 0, 0, 0) := by decide +kernel
theorem f_121_208 : mj_fetch 121 208 = some (.getfield 110, 11, 8) := by decide +kernel
theorem f_121_211 : mj_fetch 121 211 = some (.iload_n 1, 0, 0) := by decide +kernel
theorem f_121_212 : mj_fetch 121 212 = some (.iastore, 0, 0) := by decide +kernel
theorem f_121_213 : mj_fetch 121 213 = some (.aload_n 0, 0, 0) := by decide +kernel
theorem f_121_214 : mj_fetch 121 214 = some (.getfield 23, 11, 6) := by decide +kernel
theorem f_121_217 : mj_fetch 121 217 = some (.aload_n 0, 0, 0) := by decide +kernel
theorem f_121_218 : mj_fetch 121 218 = some (.getfield 110, 11, 8) := by decide +kernel
theorem f_121_221 : mj_fetch 121 221 = some (.iload_n 2, 0, 0) := by decide +kernel
theorem f_121_222 : mj_fetch 121 222 = some (.iastore, 0, 0) := by decide +kernel
theorem f_121_223 : mj_fetch 121 223 = some (.aload_n 0, 0, 0) := by decide +kernel
theorem f_121_224 : mj_fetch 121 224 = some (.dup, 0, 0) := by decide +kernel
theorem f_121_225 : mj_fetch 121 225 = some (.getfield 110, 11, 8) := by decide +kernel
theorem f_121_228 : mj_fetch 121 228 = some (.iconst 1, 0, 0) := by decide +kernel
theorem f_121_229 : mj_fetch 121 229 = some (.iadd, 0, 0) := by decide +kernel
theorem f_121_230 : mj_fetch 121 230 = some (.putfield 110, 11, 8) := by decide +kernel
theorem f_121_233 : mj_fetch 121 233 = some (.aload_n 0, 0, 0) := by decide +kernel
theorem f_121_234 : mj_fetch 121 234 = some (.getfield 110, 11, 8) := by decide +kernel
theorem f_121_237 : mj_fetch 121 237 = some (.iconst 1, 0, 0) := by decide +kernel
theorem f_121_238 : mj_fetch 121 238 = some (.isub, 0, 0) := by decide +kernel
theorem f_121_239 : mj_fetch 121 239 = some (.ireturn, 0, 0) := by decide +kernel
theorem f_121_0 : mj_fetch 121 0 = some (.aload_n 0, 0, 0) := by decide +kernel
theorem f_121_1 : mj_fetch 121 1 = some (.iload_n 1, 0, 0) := by decide +kernel
theorem f_121_2 : mj_fetch 121 2 = some (.invokevirtual 113, 116, 0) := by decide +kernel
theorem f_121_5 : mj_fetch 121 5 = some (.ifCond .eq 44, 0, 0) := by decide +kernel
theorem f_121_8 : mj_fetch 121 8 = some (.aload_n 0, 0, 0) := by decide +kernel
theorem f_121_9 : mj_fetch 121 9 = some (.iload_n 2, 0, 0) := by decide +kernel
theorem f_121_10 : mj_fetch 121 10 = some (.invokevirtual 113, 116, 0) := by decide +kernel
theorem f_121_13 : mj_fetch 121 13 = some (.ifCond .eq 36, 0, 0) := by decide +kernel
theorem f_121_16 : mj_fetch 121 16 = some (.aload_n 0, 0, 0) := by decide +kernel
theorem f_121_17 : mj_fetch 121 17 = some (.getfield 13, 11, 3) := by decide +kernel
theorem f_121_20 : mj_fetch 121 20 = some (.bipush 6, 0, 0) := by decide +kernel
theorem f_121_22 : mj_fetch 121 22 = some (.iload_n 1, 0, 0) := by decide +kernel
theorem f_121_23 : mj_fetch 121 23 = some (.imul, 0, 0) := by decide +kernel
theorem f_121_24 : mj_fetch 121 24 = some (.iload_n 2, 0, 0) := by decide +kernel
theorem f_121_25 : mj_fetch 121 25 = some (.iadd, 0, 0) := by decide +kernel
theorem f_121_26 : mj_fetch 121 26 = some (.baload, 0, 0) := by decide +kernel
theorem f_121_27 : mj_fetch 121 27 = some (.ifCond .ne 22, 0, 0) := by decide +kernel
theorem f_121_30 : mj_fetch 121 30 = some (.iload_n 3, 0, 0) := by decide +kernel
theorem f_121_31 : mj_fetch 121 31 = some (.iconst 2, 0, 0) := by decide +kernel
theorem f_121_32 : mj_fetch 121 32 = some (.bipush 6, 0, 0) := by decide +kernel
theorem f_121_34 : mj_fetch 121 34 = some (.invokestatic 100, 112, 0) := by decide +kernel
theorem f_121_37 : mj_fetch 121 37 = some (.ifCond .eq 12, 0, 0) := by decide +kernel
theorem f_121_40 : mj_fetch 121 40 = some (.aload_n 0, 0, 0) := by decide +kernel
theorem f_121_41 : mj_fetch 121 41 = some (.getfield 110, 11, 8) := by decide +kernel
theorem f_121_44 : mj_fetch 121 44 = some (.bipush 20, 0, 0) := by decide +kernel
theorem f_121_46 : mj_fetch 121 46 = some (.if_icmp .ne 5, 0, 0) := by decide +kernel
theorem f_121_49 : mj_fetch 121 49 = some (.iconst (-1), 0, 0) := by decide +kernel
theorem f_121_50 : mj_fetch 121 50 = some (.ireturn, 0, 0) := by decide +kernel
theorem f_121_51 : mj_fetch 121 51 = some (.iconst 0, 0, 0) := by decide +kernel
theorem f_121_52 : mj_fetch 121 52 = some (.istore 4, 0, 0) := by decide +kernel
set_option maxRecDepth 20000 in
theorem c_ring {h : mj_H} {jm : Nat} (hW : MW h jm) (e_jm : mj_I h 33 8 = nI jm) (j s : Int32) (r w : Int32) : mxc 3 134 [.ref 33, .int j, .int s, .int r, .int w] h (fun r1 h' => if (mIn j jm ∧ mIn s 729) ∧ mIn r (rgs h j.toNatClampNeg) ∧ (nI 0 ≤ w ∧ w ≤ nI 3) then r1 = some (.int (if w = 0 then (wd_T (mM h j.toNatClampNeg) (rgs h j.toNatClampNeg) s.toNatClampNeg).1 r.toNatClampNeg else if w = nI 1 then (wd_T (mM h j.toNatClampNeg) (rgs h j.toNatClampNeg) s.toNatClampNeg).2.1 r.toNatClampNeg else if w = nI 2 then (wd_T (mM h j.toNatClampNeg) (rgs h j.toNatClampNeg) s.toNatClampNeg).2.2.1 r.toNatClampNeg else (wd_T (mM h j.toNatClampNeg) (rgs h j.toNatClampNeg) s.toNatClampNeg).2.2.2 r.toNatClampNeg)) ∧ MV h h' jm else r1 = some (.int (-1000000)) ∧ h' = h) := by
  have S := hW.1
  show mx 3 134 0 [.ref 33, .int j, .int s, .int r, .int w] [] h _
  refine x_aload_n f_134_0 rfl ?_
  refine x_iload_n f_134_1 rfl ?_
  refine x_iload_n f_134_2 rfl ?_
  refine x_callVe f_134_3 (c_isAsked hW.1 _ _ (jm := jm) (by have := hW.2.2.1; omega) e_jm) (by omega) S.k33 (by decide) rfl rfl (Nat.le_of_ble_eq_true rfl) rfl ?_
  refine x_ifB_eq (t := 41) f_134_6 (by decide) (fun c_1 => ?_) (fun c_1 => ?_)
  · refine x_ldc (v := -1000000) f_134_41 (by decide) ?_
    refine x_retI f_134_43 rfl ?_
    exact mj_qF (fun q => c_1 (q.1)) ⟨rfl, rfl⟩
  · obtain ⟨i, h_i, rfl⟩ := mIn_of c_1.1 (by have := hW.2.2.1; omega)
    obtain ⟨k, h_k, rfl⟩ := mIn_of c_1.2 (by decide)
    have S := hW.1
    have hjm := hW.2.2.1
    simp only [nI_clamp (show i < 2 ^ 31 by omega), nI_clamp (show k < 2 ^ 31 by omega)]
    obtain ⟨rg, e_rg, hrg, h1, h4⟩ := hW.2.2.2.1 i h_i
    have hj20 : i < 20 := by omega
    simp only [rgs_eq e_rg hrg]
    refine x_iload_n f_134_9 rfl ?_
    refine x_iconst (v := nI 0) f_134_10 (by decide) ?_
    refine x_aload_n f_134_11 rfl ?_
    refine x_getR f_134_12 S.k33 (by decide) S.r4 ?_
    refine x_bipush (v := nI 9) f_134_15 (by decide) ?_
    refine x_iload_n f_134_17 rfl ?_
    refine x_imulN f_134_18 ?_
    refine x_bipush (v := nI 8) f_134_19 (by decide) ?_
    refine x_iaddN f_134_21 ?_
    refine x_iald (j := ((9 * i) + 8)) f_134_22 S.k36 (by omega) (by decide) ?_
    refine x_topi (w := nI rg) e_rg ?_
    refine x_iconst (v := nI 1) f_134_23 (by decide) ?_
    refine x_isub f_134_24 ?_
    refine x_callSe f_134_25 (c_inM _ _ (n := rg) (by omega)) (by omega) rfl rfl rfl (Nat.le_of_ble_eq_true rfl) rfl ?_
    refine x_ifB_eq (t := 41) f_134_28 (by decide) (fun c_2 => ?_) (fun c_2 => ?_)
    · refine x_ldc (v := -1000000) f_134_41 (by decide) ?_
      refine x_retI f_134_43 rfl ?_
      exact mj_qF (fun q => c_2 (q.2.1)) ⟨rfl, rfl⟩
    · refine x_iload f_134_31 rfl ?_
      refine x_iconst (v := nI 0) f_134_33 (by decide) ?_
      refine x_iconst (v := nI 3) f_134_34 (by decide) ?_
      refine x_callSe f_134_35 (c_in _ _ _ _) (by omega) rfl rfl rfl (Nat.le_of_ble_eq_true rfl) rfl ?_
      refine x_ifB_ne (t := 44) f_134_38 (by decide) (fun c_3 => ?_) (fun c_3 => ?_)
      · obtain ⟨q, h_q, rfl⟩ := mIn_of c_2 (by omega)
        simp only [nI_clamp (show q < 2 ^ 31 by omega)]
        refine x_aload_n f_134_44 rfl ?_
        refine x_iload_n f_134_45 rfl ?_
        refine x_iload_n f_134_46 rfl ?_
        refine x_callV f_134_47 (c_weld S hW.2.1 hj20 e_rg hrg h1 h4 h_k) (by omega) S.k33 (by decide) rfl rfl (Nat.le_of_ble_eq_true rfl) rfl ?_
        rintro _ g ⟨rfl, hw⟩; have S : SM g := hw.1
        refine x_iload f_134_50 rfl ?_
        refine x_if_ne (t := 64) f_134_52 (by decide) (fun c_4 => ?_) (fun c_4 => ?_)
        · refine x_iload f_134_64 rfl ?_
          refine x_iconst (v := nI 1) f_134_66 (by decide) ?_
          refine x_icmp_ne (t := 79) f_134_67 (by decide) (fun c_5 => ?_) (fun c_5 => ?_)
          · refine x_iload f_134_79 rfl ?_
            refine x_iconst (v := nI 2) f_134_81 (by decide) ?_
            refine x_icmp_ne (t := 94) f_134_82 (by decide) (fun c_6 => ?_) (fun c_6 => ?_)
            · refine x_aload_n f_134_94 rfl ?_
              refine x_getR f_134_95 S.k33 (by decide) S.r13 ?_
              refine x_iload_n f_134_98 rfl ?_
              refine x_iald (j := q) f_134_99 S.k43 (by omega) (by decide) ?_
              refine x_topi (w := (wd_T (mM h i) rg k).2.2.2 q) (congrFun (congrArg (fun t => t.2.2.2) hw.2.2.2.1) _) ?_
              refine x_retI f_134_100 rfl ?_
              exact mj_qT ⟨c_1, c_2, c_3⟩ ⟨by rw [if_neg c_4, if_neg c_5, if_neg c_6], MV.wj hW hrg.2 (WJ_of hw)⟩
            · refine x_aload_n f_134_85 rfl ?_
              refine x_getR f_134_86 S.k33 (by decide) S.r12 ?_
              refine x_iload_n f_134_89 rfl ?_
              refine x_iald (j := q) f_134_90 S.k42 (by omega) (by decide) ?_
              refine x_topi (w := (wd_T (mM h i) rg k).2.2.1 q) (congrFun (congrArg (fun t => t.2.2.1) hw.2.2.2.1) _) ?_
              refine x_goto (t := 100) f_134_91 (by decide) ?_
              refine x_retI f_134_100 rfl ?_
              exact mj_qT ⟨c_1, c_2, c_3⟩ ⟨by rw [if_neg c_4, if_neg c_5, if_pos c_6], MV.wj hW hrg.2 (WJ_of hw)⟩
          · refine x_aload_n f_134_70 rfl ?_
            refine x_getR f_134_71 S.k33 (by decide) S.r11 ?_
            refine x_iload_n f_134_74 rfl ?_
            refine x_iald (j := q) f_134_75 S.k41 (by omega) (by decide) ?_
            refine x_topi (w := (wd_T (mM h i) rg k).2.1 q) (congrFun (congrArg (fun t => t.2.1) hw.2.2.2.1) _) ?_
            refine x_goto (t := 100) f_134_76 (by decide) ?_
            refine x_retI f_134_100 rfl ?_
            exact mj_qT ⟨c_1, c_2, c_3⟩ ⟨by rw [if_neg c_4, if_pos c_5], MV.wj hW hrg.2 (WJ_of hw)⟩
        · refine x_aload_n f_134_55 rfl ?_
          refine x_getR f_134_56 S.k33 (by decide) S.r9 ?_
          refine x_iload_n f_134_59 rfl ?_
          refine x_iald (j := q) f_134_60 S.k39 (by omega) (by decide) ?_
          refine x_topi (w := (wd_T (mM h i) rg k).1 q) (congrFun (congrArg (fun t => t.1) hw.2.2.2.1) _) ?_
          refine x_goto (t := 100) f_134_61 (by decide) ?_
          refine x_retI f_134_100 rfl ?_
          exact mj_qT ⟨c_1, c_2, c_3⟩ ⟨by rw [if_pos c_4], MV.wj hW hrg.2 (WJ_of hw)⟩
      · refine x_ldc (v := -1000000) f_134_41 (by decide) ?_
        refine x_retI f_134_43 rfl ?_
        exact mj_qF (fun q => c_3 (q.2.2)) ⟨rfl, rfl⟩
/-- a mark of a job out of its two stuffs' -/
def jn (k : Nat) (x y : Int32) : Int32 := if k = 3 ∨ k = 7 then (if y < x then y else x) else if k = 5 ∨ k = 6 then (if x < y then y else x) else (x + y) / nI 2

set_option maxRecDepth 20000 in
set_option maxHeartbeats 4000000 in
theorem job_l {h : mj_H} {jm i l : Nat} (h_i : i < 6) (h_l : l < 6) (h_jm : jm < 20) (e_jm : mj_I h 33 8 = nI jm) (rings : Int32) {Q : Option Value → mj_H → Prop}
    (K : ∀ (g : mj_H) (v5 v6 v7 v8 : Value), SM g → Rw h g [36] → (∀ q, mj_I g 36 q = if 9 * jm ≤ q ∧ q < 9 * jm + 8 then jn (q - 9 * jm) (mj_I h 34 (8 * i + (q - 9 * jm))) (mj_I h 34 (8 * l + (q - 9 * jm))) else mj_I h 36 q) → mx 2 121 187 [.ref 33, .int (nI i), .int (nI l), .int rings, .int (nI 8), v5, v6, v7, v8] [] g Q) :
    ∀ (n k : Nat) (g : mj_H) (v5 v6 v7 v8 : Value), k + n = 8 → SM g → Rw h g [36] → (∀ q, mj_I g 36 q = if 9 * jm ≤ q ∧ q < 9 * jm + k then jn (q - 9 * jm) (mj_I h 34 (8 * i + (q - 9 * jm))) (mj_I h 34 (8 * l + (q - 9 * jm))) else mj_I h 36 q) → mx 2 121 54 [.ref 33, .int (nI i), .int (nI l), .int rings, .int (nI k), v5, v6, v7, v8] [] g Q := by
  intro n
  induction n with
  | zero =>
    intro k g v5 v6 v7 v8 hk S hR i36
    have hkk : k = 8 := by omega
    subst hkk
    refine x_iload f_121_54 rfl ?_
    refine x_bipush (v := nI 8) f_121_56 (by decide) ?_
    refine x_icmpN_ge (t := 187) f_121_58 (by decide) (by decide) (by decide) (fun c_1 => ?_) (fun c_1 => by omega)
    exact K g v5 v6 v7 v8 S hR i36
  | succ n ih =>
    intro k g v5 v6 v7 v8 hk S hR i36
    have e33 : mj_I g 33 = mj_I h 33 := hR.i (by decide)
    have e34 : mj_I g 34 = mj_I h 34 := hR.i (by decide)
    refine x_iload f_121_54 rfl ?_
    refine x_bipush (v := nI 8) f_121_56 (by decide) ?_
    refine x_icmpN_ge (t := 187) f_121_58 (by decide) (by omega) (by decide) (fun c_1 => by omega) (fun c_1 => ?_)
    refine x_aload_n f_121_61 rfl ?_
    refine x_getR f_121_62 S.k33 (by decide) S.r2 ?_
    refine x_bipush (v := nI 8) f_121_65 (by decide) ?_
    refine x_iload_n f_121_67 rfl ?_
    refine x_imulN f_121_68 ?_
    refine x_iload f_121_69 rfl ?_
    refine x_iaddN f_121_71 ?_
    refine x_iald (j := ((8 * i) + k)) f_121_72 S.k34 (by omega) (by decide) ?_
    refine x_topi (w := mj_I h 34 ((8 * i) + k)) (congrFun e34 _) ?_
    refine x_istore (ls1 := [.ref 33, .int (nI i), .int (nI l), .int rings, .int (nI k), .int (mj_I h 34 ((8 * i) + k)), v6, v7, v8]) f_121_73 (Nat.le_of_ble_eq_true rfl) rfl ?_
    refine x_aload_n f_121_75 rfl ?_
    refine x_getR f_121_76 S.k33 (by decide) S.r2 ?_
    refine x_bipush (v := nI 8) f_121_79 (by decide) ?_
    refine x_iload_n f_121_81 rfl ?_
    refine x_imulN f_121_82 ?_
    refine x_iload f_121_83 rfl ?_
    refine x_iaddN f_121_85 ?_
    refine x_iald (j := ((8 * l) + k)) f_121_86 S.k34 (by omega) (by decide) ?_
    refine x_topi (w := mj_I h 34 ((8 * l) + k)) (congrFun e34 _) ?_
    refine x_istore (ls1 := [.ref 33, .int (nI i), .int (nI l), .int rings, .int (nI k), .int (mj_I h 34 ((8 * i) + k)), .int (mj_I h 34 ((8 * l) + k)), v7, v8]) f_121_87 (Nat.le_of_ble_eq_true rfl) rfl ?_
    refine x_iload f_121_89 rfl ?_
    refine x_iconst (v := nI 3) f_121_91 (by decide) ?_
    refine x_icmpN_eq (t := 102) f_121_92 (by decide) (by omega) (by decide) (fun c_3 => ?_) (fun c_3 => ?_)
    · refine x_iconst (v := nI 1) f_121_102 (by decide) ?_
      refine x_goto (t := 107) f_121_103 (by decide) ?_
      refine x_istore (ls1 := [.ref 33, .int (nI i), .int (nI l), .int rings, .int (nI k), .int (mj_I h 34 ((8 * i) + k)), .int (mj_I h 34 ((8 * l) + k)), .int (nI 1), v8]) f_121_107 (Nat.le_of_ble_eq_true rfl) rfl ?_
      refine x_iload f_121_109 rfl ?_
      refine x_iconst (v := nI 5) f_121_111 (by decide) ?_
      refine x_icmpN_eq (t := 122) f_121_112 (by decide) (by omega) (by decide) (fun c_5 => ?_) (fun c_5 => ?_)
      · refine x_iconst (v := nI 1) f_121_122 (by decide) ?_
        refine x_goto (t := 127) f_121_123 (by decide) ?_
        refine x_istore (ls1 := [.ref 33, .int (nI i), .int (nI l), .int rings, .int (nI k), .int (mj_I h 34 ((8 * i) + k)), .int (mj_I h 34 ((8 * l) + k)), .int (nI 1), .int (nI 1)]) f_121_127 (Nat.le_of_ble_eq_true rfl) rfl ?_
        refine x_aload_n f_121_129 rfl ?_
        refine x_getR f_121_130 S.k33 (by decide) S.r4 ?_
        refine x_bipush (v := nI 9) f_121_133 (by decide) ?_
        refine x_aload_n f_121_135 rfl ?_
        refine x_getI f_121_136 S.k33 (by decide) ?_
        refine x_topi (w := nI jm) ((congrFun e33 8).trans e_jm) ?_
        refine x_imulN f_121_139 ?_
        refine x_iload f_121_140 rfl ?_
        refine x_iaddN f_121_142 ?_
        refine x_iload f_121_143 rfl ?_
        refine x_ifN_eq (t := 158) f_121_145 (by decide) (by decide) (fun c_2 => by omega) (fun c_2 => ?_)
        refine x_iload f_121_148 rfl ?_
        refine x_iload f_121_150 rfl ?_
        refine x_min f_121_152 (Nat.le_of_ble_eq_true rfl) ?_
        refine x_goto (t := 180) f_121_155 (by decide) ?_
        refine x_iast (j := ((9 * jm) + k)) f_121_180 S.k36 (by decide) (by omega) (by decide) ?_
        refine x_iinc (v := nI (k + 1)) (ls1 := [.ref 33, .int (nI i), .int (nI l), .int rings, .int (nI (k + 1)), .int (mj_I h 34 ((8 * i) + k)), .int (mj_I h 34 ((8 * l) + k)), .int (nI 1), .int (nI 1)]) f_121_181 rfl (by exact nI_add _ 1) rfl ?_
        refine x_goto (t := 54) f_121_184 (by decide) ?_
        have hjn : (if (mj_I h 34 ((8 * l) + k)) < (mj_I h 34 ((8 * i) + k)) then (mj_I h 34 ((8 * l) + k)) else (mj_I h 34 ((8 * i) + k))) = jn k (mj_I h 34 (8 * i + k)) (mj_I h 34 (8 * l + k)) := by
          unfold jn
          rw [if_pos (show k = 3 ∨ k = 7 by omega)]
        refine ih (k + 1) (mj_setI g 36 ((9 * jm) + k) (if (mj_I h 34 ((8 * l) + k)) < (mj_I h 34 ((8 * i) + k)) then (mj_I h 34 ((8 * l) + k)) else (mj_I h 34 ((8 * i) + k)))) _ _ _ _ (by omega) S (hR.set (by decide)) (fun q => ?_)
        by_cases hq : q = 9 * jm + k
        · subst hq
          refine (mj_I_at _ _ _ _).trans (hjn.trans ?_)
          rw [if_pos (show 9 * jm ≤ 9 * jm + k ∧ 9 * jm + k < 9 * jm + (k + 1) by omega), show 9 * jm + k - 9 * jm = k by omega]
        · refine (mj_I_ne hq).trans ((i36 q).trans ?_)
          by_cases h9 : 9 * jm ≤ q ∧ q < 9 * jm + k
          · rw [if_pos h9, if_pos (show 9 * jm ≤ q ∧ q < 9 * jm + (k + 1) by omega)]
          · rw [if_neg h9, if_neg (show ¬ (9 * jm ≤ q ∧ q < 9 * jm + (k + 1)) by omega)]
      · refine x_iload f_121_115 rfl ?_
        refine x_bipush (v := nI 6) f_121_117 (by decide) ?_
        refine x_icmpN_ne (t := 126) f_121_119 (by decide) (by omega) (by decide) (fun c_6 => ?_) (fun c_6 => ?_)
        · refine x_iconst (v := nI 0) f_121_126 (by decide) ?_
          refine x_istore (ls1 := [.ref 33, .int (nI i), .int (nI l), .int rings, .int (nI k), .int (mj_I h 34 ((8 * i) + k)), .int (mj_I h 34 ((8 * l) + k)), .int (nI 1), .int (nI 0)]) f_121_127 (Nat.le_of_ble_eq_true rfl) rfl ?_
          refine x_aload_n f_121_129 rfl ?_
          refine x_getR f_121_130 S.k33 (by decide) S.r4 ?_
          refine x_bipush (v := nI 9) f_121_133 (by decide) ?_
          refine x_aload_n f_121_135 rfl ?_
          refine x_getI f_121_136 S.k33 (by decide) ?_
          refine x_topi (w := nI jm) ((congrFun e33 8).trans e_jm) ?_
          refine x_imulN f_121_139 ?_
          refine x_iload f_121_140 rfl ?_
          refine x_iaddN f_121_142 ?_
          refine x_iload f_121_143 rfl ?_
          refine x_ifN_eq (t := 158) f_121_145 (by decide) (by decide) (fun c_3 => by omega) (fun c_3 => ?_)
          refine x_iload f_121_148 rfl ?_
          refine x_iload f_121_150 rfl ?_
          refine x_min f_121_152 (Nat.le_of_ble_eq_true rfl) ?_
          refine x_goto (t := 180) f_121_155 (by decide) ?_
          refine x_iast (j := ((9 * jm) + k)) f_121_180 S.k36 (by decide) (by omega) (by decide) ?_
          refine x_iinc (v := nI (k + 1)) (ls1 := [.ref 33, .int (nI i), .int (nI l), .int rings, .int (nI (k + 1)), .int (mj_I h 34 ((8 * i) + k)), .int (mj_I h 34 ((8 * l) + k)), .int (nI 1), .int (nI 0)]) f_121_181 rfl (by exact nI_add _ 1) rfl ?_
          refine x_goto (t := 54) f_121_184 (by decide) ?_
          have hjn : (if (mj_I h 34 ((8 * l) + k)) < (mj_I h 34 ((8 * i) + k)) then (mj_I h 34 ((8 * l) + k)) else (mj_I h 34 ((8 * i) + k))) = jn k (mj_I h 34 (8 * i + k)) (mj_I h 34 (8 * l + k)) := by
            unfold jn
            rw [if_pos (show k = 3 ∨ k = 7 by omega)]
          refine ih (k + 1) (mj_setI g 36 ((9 * jm) + k) (if (mj_I h 34 ((8 * l) + k)) < (mj_I h 34 ((8 * i) + k)) then (mj_I h 34 ((8 * l) + k)) else (mj_I h 34 ((8 * i) + k)))) _ _ _ _ (by omega) S (hR.set (by decide)) (fun q => ?_)
          by_cases hq : q = 9 * jm + k
          · subst hq
            refine (mj_I_at _ _ _ _).trans (hjn.trans ?_)
            rw [if_pos (show 9 * jm ≤ 9 * jm + k ∧ 9 * jm + k < 9 * jm + (k + 1) by omega), show 9 * jm + k - 9 * jm = k by omega]
          · refine (mj_I_ne hq).trans ((i36 q).trans ?_)
            by_cases h9 : 9 * jm ≤ q ∧ q < 9 * jm + k
            · rw [if_pos h9, if_pos (show 9 * jm ≤ q ∧ q < 9 * jm + (k + 1) by omega)]
            · rw [if_neg h9, if_neg (show ¬ (9 * jm ≤ q ∧ q < 9 * jm + (k + 1)) by omega)]
        · refine x_iconst (v := nI 1) f_121_122 (by decide) ?_
          refine x_goto (t := 127) f_121_123 (by decide) ?_
          refine x_istore (ls1 := [.ref 33, .int (nI i), .int (nI l), .int rings, .int (nI k), .int (mj_I h 34 ((8 * i) + k)), .int (mj_I h 34 ((8 * l) + k)), .int (nI 1), .int (nI 1)]) f_121_127 (Nat.le_of_ble_eq_true rfl) rfl ?_
          refine x_aload_n f_121_129 rfl ?_
          refine x_getR f_121_130 S.k33 (by decide) S.r4 ?_
          refine x_bipush (v := nI 9) f_121_133 (by decide) ?_
          refine x_aload_n f_121_135 rfl ?_
          refine x_getI f_121_136 S.k33 (by decide) ?_
          refine x_topi (w := nI jm) ((congrFun e33 8).trans e_jm) ?_
          refine x_imulN f_121_139 ?_
          refine x_iload f_121_140 rfl ?_
          refine x_iaddN f_121_142 ?_
          refine x_iload f_121_143 rfl ?_
          refine x_ifN_eq (t := 158) f_121_145 (by decide) (by decide) (fun c_4 => by omega) (fun c_4 => ?_)
          refine x_iload f_121_148 rfl ?_
          refine x_iload f_121_150 rfl ?_
          refine x_min f_121_152 (Nat.le_of_ble_eq_true rfl) ?_
          refine x_goto (t := 180) f_121_155 (by decide) ?_
          refine x_iast (j := ((9 * jm) + k)) f_121_180 S.k36 (by decide) (by omega) (by decide) ?_
          refine x_iinc (v := nI (k + 1)) (ls1 := [.ref 33, .int (nI i), .int (nI l), .int rings, .int (nI (k + 1)), .int (mj_I h 34 ((8 * i) + k)), .int (mj_I h 34 ((8 * l) + k)), .int (nI 1), .int (nI 1)]) f_121_181 rfl (by exact nI_add _ 1) rfl ?_
          refine x_goto (t := 54) f_121_184 (by decide) ?_
          have hjn : (if (mj_I h 34 ((8 * l) + k)) < (mj_I h 34 ((8 * i) + k)) then (mj_I h 34 ((8 * l) + k)) else (mj_I h 34 ((8 * i) + k))) = jn k (mj_I h 34 (8 * i + k)) (mj_I h 34 (8 * l + k)) := by
            unfold jn
            rw [if_pos (show k = 3 ∨ k = 7 by omega)]
          refine ih (k + 1) (mj_setI g 36 ((9 * jm) + k) (if (mj_I h 34 ((8 * l) + k)) < (mj_I h 34 ((8 * i) + k)) then (mj_I h 34 ((8 * l) + k)) else (mj_I h 34 ((8 * i) + k)))) _ _ _ _ (by omega) S (hR.set (by decide)) (fun q => ?_)
          by_cases hq : q = 9 * jm + k
          · subst hq
            refine (mj_I_at _ _ _ _).trans (hjn.trans ?_)
            rw [if_pos (show 9 * jm ≤ 9 * jm + k ∧ 9 * jm + k < 9 * jm + (k + 1) by omega), show 9 * jm + k - 9 * jm = k by omega]
          · refine (mj_I_ne hq).trans ((i36 q).trans ?_)
            by_cases h9 : 9 * jm ≤ q ∧ q < 9 * jm + k
            · rw [if_pos h9, if_pos (show 9 * jm ≤ q ∧ q < 9 * jm + (k + 1) by omega)]
            · rw [if_neg h9, if_neg (show ¬ (9 * jm ≤ q ∧ q < 9 * jm + (k + 1)) by omega)]
    · refine x_iload f_121_95 rfl ?_
      refine x_bipush (v := nI 7) f_121_97 (by decide) ?_
      refine x_icmpN_ne (t := 106) f_121_99 (by decide) (by omega) (by decide) (fun c_7 => ?_) (fun c_7 => ?_)
      · refine x_iconst (v := nI 0) f_121_106 (by decide) ?_
        refine x_istore (ls1 := [.ref 33, .int (nI i), .int (nI l), .int rings, .int (nI k), .int (mj_I h 34 ((8 * i) + k)), .int (mj_I h 34 ((8 * l) + k)), .int (nI 0), v8]) f_121_107 (Nat.le_of_ble_eq_true rfl) rfl ?_
        refine x_iload f_121_109 rfl ?_
        refine x_iconst (v := nI 5) f_121_111 (by decide) ?_
        refine x_icmpN_eq (t := 122) f_121_112 (by decide) (by omega) (by decide) (fun c_5 => ?_) (fun c_5 => ?_)
        · refine x_iconst (v := nI 1) f_121_122 (by decide) ?_
          refine x_goto (t := 127) f_121_123 (by decide) ?_
          refine x_istore (ls1 := [.ref 33, .int (nI i), .int (nI l), .int rings, .int (nI k), .int (mj_I h 34 ((8 * i) + k)), .int (mj_I h 34 ((8 * l) + k)), .int (nI 0), .int (nI 1)]) f_121_127 (Nat.le_of_ble_eq_true rfl) rfl ?_
          refine x_aload_n f_121_129 rfl ?_
          refine x_getR f_121_130 S.k33 (by decide) S.r4 ?_
          refine x_bipush (v := nI 9) f_121_133 (by decide) ?_
          refine x_aload_n f_121_135 rfl ?_
          refine x_getI f_121_136 S.k33 (by decide) ?_
          refine x_topi (w := nI jm) ((congrFun e33 8).trans e_jm) ?_
          refine x_imulN f_121_139 ?_
          refine x_iload f_121_140 rfl ?_
          refine x_iaddN f_121_142 ?_
          refine x_iload f_121_143 rfl ?_
          refine x_ifN_eq (t := 158) f_121_145 (by decide) (by decide) (fun c_5 => ?_) (fun c_5 => by omega)
          refine x_iload f_121_158 rfl ?_
          refine x_ifN_eq (t := 173) f_121_160 (by decide) (by decide) (fun c_6 => by omega) (fun c_6 => ?_)
          refine x_iload f_121_163 rfl ?_
          refine x_iload f_121_165 rfl ?_
          refine x_max f_121_167 (Nat.le_of_ble_eq_true rfl) ?_
          refine x_goto (t := 180) f_121_170 (by decide) ?_
          refine x_iast (j := ((9 * jm) + k)) f_121_180 S.k36 (by decide) (by omega) (by decide) ?_
          refine x_iinc (v := nI (k + 1)) (ls1 := [.ref 33, .int (nI i), .int (nI l), .int rings, .int (nI (k + 1)), .int (mj_I h 34 ((8 * i) + k)), .int (mj_I h 34 ((8 * l) + k)), .int (nI 0), .int (nI 1)]) f_121_181 rfl (by exact nI_add _ 1) rfl ?_
          refine x_goto (t := 54) f_121_184 (by decide) ?_
          have hjn : (if (mj_I h 34 ((8 * i) + k)) < (mj_I h 34 ((8 * l) + k)) then (mj_I h 34 ((8 * l) + k)) else (mj_I h 34 ((8 * i) + k))) = jn k (mj_I h 34 (8 * i + k)) (mj_I h 34 (8 * l + k)) := by
            unfold jn
            rw [if_neg (show ¬ (k = 3 ∨ k = 7) by omega), if_pos (show k = 5 ∨ k = 6 by omega)]
          refine ih (k + 1) (mj_setI g 36 ((9 * jm) + k) (if (mj_I h 34 ((8 * i) + k)) < (mj_I h 34 ((8 * l) + k)) then (mj_I h 34 ((8 * l) + k)) else (mj_I h 34 ((8 * i) + k)))) _ _ _ _ (by omega) S (hR.set (by decide)) (fun q => ?_)
          by_cases hq : q = 9 * jm + k
          · subst hq
            refine (mj_I_at _ _ _ _).trans (hjn.trans ?_)
            rw [if_pos (show 9 * jm ≤ 9 * jm + k ∧ 9 * jm + k < 9 * jm + (k + 1) by omega), show 9 * jm + k - 9 * jm = k by omega]
          · refine (mj_I_ne hq).trans ((i36 q).trans ?_)
            by_cases h9 : 9 * jm ≤ q ∧ q < 9 * jm + k
            · rw [if_pos h9, if_pos (show 9 * jm ≤ q ∧ q < 9 * jm + (k + 1) by omega)]
            · rw [if_neg h9, if_neg (show ¬ (9 * jm ≤ q ∧ q < 9 * jm + (k + 1)) by omega)]
        · refine x_iload f_121_115 rfl ?_
          refine x_bipush (v := nI 6) f_121_117 (by decide) ?_
          refine x_icmpN_ne (t := 126) f_121_119 (by decide) (by omega) (by decide) (fun c_6 => ?_) (fun c_6 => ?_)
          · refine x_iconst (v := nI 0) f_121_126 (by decide) ?_
            refine x_istore (ls1 := [.ref 33, .int (nI i), .int (nI l), .int rings, .int (nI k), .int (mj_I h 34 ((8 * i) + k)), .int (mj_I h 34 ((8 * l) + k)), .int (nI 0), .int (nI 0)]) f_121_127 (Nat.le_of_ble_eq_true rfl) rfl ?_
            refine x_aload_n f_121_129 rfl ?_
            refine x_getR f_121_130 S.k33 (by decide) S.r4 ?_
            refine x_bipush (v := nI 9) f_121_133 (by decide) ?_
            refine x_aload_n f_121_135 rfl ?_
            refine x_getI f_121_136 S.k33 (by decide) ?_
            refine x_topi (w := nI jm) ((congrFun e33 8).trans e_jm) ?_
            refine x_imulN f_121_139 ?_
            refine x_iload f_121_140 rfl ?_
            refine x_iaddN f_121_142 ?_
            refine x_iload f_121_143 rfl ?_
            refine x_ifN_eq (t := 158) f_121_145 (by decide) (by decide) (fun c_7 => ?_) (fun c_7 => by omega)
            refine x_iload f_121_158 rfl ?_
            refine x_ifN_eq (t := 173) f_121_160 (by decide) (by decide) (fun c_8 => ?_) (fun c_8 => by omega)
            refine x_iload f_121_173 rfl ?_
            refine x_iload f_121_175 rfl ?_
            refine x_iadd f_121_177 ?_
            refine x_iconst (v := nI 2) f_121_178 (by decide) ?_
            refine x_idiv f_121_179 (by decide) ?_
            refine x_iast (j := ((9 * jm) + k)) f_121_180 S.k36 (by decide) (by omega) (by decide) ?_
            refine x_iinc (v := nI (k + 1)) (ls1 := [.ref 33, .int (nI i), .int (nI l), .int rings, .int (nI (k + 1)), .int (mj_I h 34 ((8 * i) + k)), .int (mj_I h 34 ((8 * l) + k)), .int (nI 0), .int (nI 0)]) f_121_181 rfl (by exact nI_add _ 1) rfl ?_
            refine x_goto (t := 54) f_121_184 (by decide) ?_
            have hjn : (((mj_I h 34 ((8 * i) + k)) + (mj_I h 34 ((8 * l) + k))) / (nI 2)) = jn k (mj_I h 34 (8 * i + k)) (mj_I h 34 (8 * l + k)) := by
              unfold jn
              rw [if_neg (show ¬ (k = 3 ∨ k = 7) by omega), if_neg (show ¬ (k = 5 ∨ k = 6) by omega)]
            refine ih (k + 1) (mj_setI g 36 ((9 * jm) + k) (((mj_I h 34 ((8 * i) + k)) + (mj_I h 34 ((8 * l) + k))) / (nI 2))) _ _ _ _ (by omega) S (hR.set (by decide)) (fun q => ?_)
            by_cases hq : q = 9 * jm + k
            · subst hq
              refine (mj_I_at _ _ _ _).trans (hjn.trans ?_)
              rw [if_pos (show 9 * jm ≤ 9 * jm + k ∧ 9 * jm + k < 9 * jm + (k + 1) by omega), show 9 * jm + k - 9 * jm = k by omega]
            · refine (mj_I_ne hq).trans ((i36 q).trans ?_)
              by_cases h9 : 9 * jm ≤ q ∧ q < 9 * jm + k
              · rw [if_pos h9, if_pos (show 9 * jm ≤ q ∧ q < 9 * jm + (k + 1) by omega)]
              · rw [if_neg h9, if_neg (show ¬ (9 * jm ≤ q ∧ q < 9 * jm + (k + 1)) by omega)]
          · refine x_iconst (v := nI 1) f_121_122 (by decide) ?_
            refine x_goto (t := 127) f_121_123 (by decide) ?_
            refine x_istore (ls1 := [.ref 33, .int (nI i), .int (nI l), .int rings, .int (nI k), .int (mj_I h 34 ((8 * i) + k)), .int (mj_I h 34 ((8 * l) + k)), .int (nI 0), .int (nI 1)]) f_121_127 (Nat.le_of_ble_eq_true rfl) rfl ?_
            refine x_aload_n f_121_129 rfl ?_
            refine x_getR f_121_130 S.k33 (by decide) S.r4 ?_
            refine x_bipush (v := nI 9) f_121_133 (by decide) ?_
            refine x_aload_n f_121_135 rfl ?_
            refine x_getI f_121_136 S.k33 (by decide) ?_
            refine x_topi (w := nI jm) ((congrFun e33 8).trans e_jm) ?_
            refine x_imulN f_121_139 ?_
            refine x_iload f_121_140 rfl ?_
            refine x_iaddN f_121_142 ?_
            refine x_iload f_121_143 rfl ?_
            refine x_ifN_eq (t := 158) f_121_145 (by decide) (by decide) (fun c_9 => ?_) (fun c_9 => by omega)
            refine x_iload f_121_158 rfl ?_
            refine x_ifN_eq (t := 173) f_121_160 (by decide) (by decide) (fun c_10 => by omega) (fun c_10 => ?_)
            refine x_iload f_121_163 rfl ?_
            refine x_iload f_121_165 rfl ?_
            refine x_max f_121_167 (Nat.le_of_ble_eq_true rfl) ?_
            refine x_goto (t := 180) f_121_170 (by decide) ?_
            refine x_iast (j := ((9 * jm) + k)) f_121_180 S.k36 (by decide) (by omega) (by decide) ?_
            refine x_iinc (v := nI (k + 1)) (ls1 := [.ref 33, .int (nI i), .int (nI l), .int rings, .int (nI (k + 1)), .int (mj_I h 34 ((8 * i) + k)), .int (mj_I h 34 ((8 * l) + k)), .int (nI 0), .int (nI 1)]) f_121_181 rfl (by exact nI_add _ 1) rfl ?_
            refine x_goto (t := 54) f_121_184 (by decide) ?_
            have hjn : (if (mj_I h 34 ((8 * i) + k)) < (mj_I h 34 ((8 * l) + k)) then (mj_I h 34 ((8 * l) + k)) else (mj_I h 34 ((8 * i) + k))) = jn k (mj_I h 34 (8 * i + k)) (mj_I h 34 (8 * l + k)) := by
              unfold jn
              rw [if_neg (show ¬ (k = 3 ∨ k = 7) by omega), if_pos (show k = 5 ∨ k = 6 by omega)]
            refine ih (k + 1) (mj_setI g 36 ((9 * jm) + k) (if (mj_I h 34 ((8 * i) + k)) < (mj_I h 34 ((8 * l) + k)) then (mj_I h 34 ((8 * l) + k)) else (mj_I h 34 ((8 * i) + k)))) _ _ _ _ (by omega) S (hR.set (by decide)) (fun q => ?_)
            by_cases hq : q = 9 * jm + k
            · subst hq
              refine (mj_I_at _ _ _ _).trans (hjn.trans ?_)
              rw [if_pos (show 9 * jm ≤ 9 * jm + k ∧ 9 * jm + k < 9 * jm + (k + 1) by omega), show 9 * jm + k - 9 * jm = k by omega]
            · refine (mj_I_ne hq).trans ((i36 q).trans ?_)
              by_cases h9 : 9 * jm ≤ q ∧ q < 9 * jm + k
              · rw [if_pos h9, if_pos (show 9 * jm ≤ q ∧ q < 9 * jm + (k + 1) by omega)]
              · rw [if_neg h9, if_neg (show ¬ (9 * jm ≤ q ∧ q < 9 * jm + (k + 1)) by omega)]
      · refine x_iconst (v := nI 1) f_121_102 (by decide) ?_
        refine x_goto (t := 107) f_121_103 (by decide) ?_
        refine x_istore (ls1 := [.ref 33, .int (nI i), .int (nI l), .int rings, .int (nI k), .int (mj_I h 34 ((8 * i) + k)), .int (mj_I h 34 ((8 * l) + k)), .int (nI 1), v8]) f_121_107 (Nat.le_of_ble_eq_true rfl) rfl ?_
        refine x_iload f_121_109 rfl ?_
        refine x_iconst (v := nI 5) f_121_111 (by decide) ?_
        refine x_icmpN_eq (t := 122) f_121_112 (by decide) (by omega) (by decide) (fun c_5 => ?_) (fun c_5 => ?_)
        · refine x_iconst (v := nI 1) f_121_122 (by decide) ?_
          refine x_goto (t := 127) f_121_123 (by decide) ?_
          refine x_istore (ls1 := [.ref 33, .int (nI i), .int (nI l), .int rings, .int (nI k), .int (mj_I h 34 ((8 * i) + k)), .int (mj_I h 34 ((8 * l) + k)), .int (nI 1), .int (nI 1)]) f_121_127 (Nat.le_of_ble_eq_true rfl) rfl ?_
          refine x_aload_n f_121_129 rfl ?_
          refine x_getR f_121_130 S.k33 (by decide) S.r4 ?_
          refine x_bipush (v := nI 9) f_121_133 (by decide) ?_
          refine x_aload_n f_121_135 rfl ?_
          refine x_getI f_121_136 S.k33 (by decide) ?_
          refine x_topi (w := nI jm) ((congrFun e33 8).trans e_jm) ?_
          refine x_imulN f_121_139 ?_
          refine x_iload f_121_140 rfl ?_
          refine x_iaddN f_121_142 ?_
          refine x_iload f_121_143 rfl ?_
          refine x_ifN_eq (t := 158) f_121_145 (by decide) (by decide) (fun c_11 => by omega) (fun c_11 => ?_)
          refine x_iload f_121_148 rfl ?_
          refine x_iload f_121_150 rfl ?_
          refine x_min f_121_152 (Nat.le_of_ble_eq_true rfl) ?_
          refine x_goto (t := 180) f_121_155 (by decide) ?_
          refine x_iast (j := ((9 * jm) + k)) f_121_180 S.k36 (by decide) (by omega) (by decide) ?_
          refine x_iinc (v := nI (k + 1)) (ls1 := [.ref 33, .int (nI i), .int (nI l), .int rings, .int (nI (k + 1)), .int (mj_I h 34 ((8 * i) + k)), .int (mj_I h 34 ((8 * l) + k)), .int (nI 1), .int (nI 1)]) f_121_181 rfl (by exact nI_add _ 1) rfl ?_
          refine x_goto (t := 54) f_121_184 (by decide) ?_
          have hjn : (if (mj_I h 34 ((8 * l) + k)) < (mj_I h 34 ((8 * i) + k)) then (mj_I h 34 ((8 * l) + k)) else (mj_I h 34 ((8 * i) + k))) = jn k (mj_I h 34 (8 * i + k)) (mj_I h 34 (8 * l + k)) := by
            unfold jn
            rw [if_pos (show k = 3 ∨ k = 7 by omega)]
          refine ih (k + 1) (mj_setI g 36 ((9 * jm) + k) (if (mj_I h 34 ((8 * l) + k)) < (mj_I h 34 ((8 * i) + k)) then (mj_I h 34 ((8 * l) + k)) else (mj_I h 34 ((8 * i) + k)))) _ _ _ _ (by omega) S (hR.set (by decide)) (fun q => ?_)
          by_cases hq : q = 9 * jm + k
          · subst hq
            refine (mj_I_at _ _ _ _).trans (hjn.trans ?_)
            rw [if_pos (show 9 * jm ≤ 9 * jm + k ∧ 9 * jm + k < 9 * jm + (k + 1) by omega), show 9 * jm + k - 9 * jm = k by omega]
          · refine (mj_I_ne hq).trans ((i36 q).trans ?_)
            by_cases h9 : 9 * jm ≤ q ∧ q < 9 * jm + k
            · rw [if_pos h9, if_pos (show 9 * jm ≤ q ∧ q < 9 * jm + (k + 1) by omega)]
            · rw [if_neg h9, if_neg (show ¬ (9 * jm ≤ q ∧ q < 9 * jm + (k + 1)) by omega)]
        · refine x_iload f_121_115 rfl ?_
          refine x_bipush (v := nI 6) f_121_117 (by decide) ?_
          refine x_icmpN_ne (t := 126) f_121_119 (by decide) (by omega) (by decide) (fun c_6 => ?_) (fun c_6 => ?_)
          · refine x_iconst (v := nI 0) f_121_126 (by decide) ?_
            refine x_istore (ls1 := [.ref 33, .int (nI i), .int (nI l), .int rings, .int (nI k), .int (mj_I h 34 ((8 * i) + k)), .int (mj_I h 34 ((8 * l) + k)), .int (nI 1), .int (nI 0)]) f_121_127 (Nat.le_of_ble_eq_true rfl) rfl ?_
            refine x_aload_n f_121_129 rfl ?_
            refine x_getR f_121_130 S.k33 (by decide) S.r4 ?_
            refine x_bipush (v := nI 9) f_121_133 (by decide) ?_
            refine x_aload_n f_121_135 rfl ?_
            refine x_getI f_121_136 S.k33 (by decide) ?_
            refine x_topi (w := nI jm) ((congrFun e33 8).trans e_jm) ?_
            refine x_imulN f_121_139 ?_
            refine x_iload f_121_140 rfl ?_
            refine x_iaddN f_121_142 ?_
            refine x_iload f_121_143 rfl ?_
            refine x_ifN_eq (t := 158) f_121_145 (by decide) (by decide) (fun c_12 => by omega) (fun c_12 => ?_)
            refine x_iload f_121_148 rfl ?_
            refine x_iload f_121_150 rfl ?_
            refine x_min f_121_152 (Nat.le_of_ble_eq_true rfl) ?_
            refine x_goto (t := 180) f_121_155 (by decide) ?_
            refine x_iast (j := ((9 * jm) + k)) f_121_180 S.k36 (by decide) (by omega) (by decide) ?_
            refine x_iinc (v := nI (k + 1)) (ls1 := [.ref 33, .int (nI i), .int (nI l), .int rings, .int (nI (k + 1)), .int (mj_I h 34 ((8 * i) + k)), .int (mj_I h 34 ((8 * l) + k)), .int (nI 1), .int (nI 0)]) f_121_181 rfl (by exact nI_add _ 1) rfl ?_
            refine x_goto (t := 54) f_121_184 (by decide) ?_
            have hjn : (if (mj_I h 34 ((8 * l) + k)) < (mj_I h 34 ((8 * i) + k)) then (mj_I h 34 ((8 * l) + k)) else (mj_I h 34 ((8 * i) + k))) = jn k (mj_I h 34 (8 * i + k)) (mj_I h 34 (8 * l + k)) := by
              unfold jn
              rw [if_pos (show k = 3 ∨ k = 7 by omega)]
            refine ih (k + 1) (mj_setI g 36 ((9 * jm) + k) (if (mj_I h 34 ((8 * l) + k)) < (mj_I h 34 ((8 * i) + k)) then (mj_I h 34 ((8 * l) + k)) else (mj_I h 34 ((8 * i) + k)))) _ _ _ _ (by omega) S (hR.set (by decide)) (fun q => ?_)
            by_cases hq : q = 9 * jm + k
            · subst hq
              refine (mj_I_at _ _ _ _).trans (hjn.trans ?_)
              rw [if_pos (show 9 * jm ≤ 9 * jm + k ∧ 9 * jm + k < 9 * jm + (k + 1) by omega), show 9 * jm + k - 9 * jm = k by omega]
            · refine (mj_I_ne hq).trans ((i36 q).trans ?_)
              by_cases h9 : 9 * jm ≤ q ∧ q < 9 * jm + k
              · rw [if_pos h9, if_pos (show 9 * jm ≤ q ∧ q < 9 * jm + (k + 1) by omega)]
              · rw [if_neg h9, if_neg (show ¬ (9 * jm ≤ q ∧ q < 9 * jm + (k + 1)) by omega)]
          · refine x_iconst (v := nI 1) f_121_122 (by decide) ?_
            refine x_goto (t := 127) f_121_123 (by decide) ?_
            refine x_istore (ls1 := [.ref 33, .int (nI i), .int (nI l), .int rings, .int (nI k), .int (mj_I h 34 ((8 * i) + k)), .int (mj_I h 34 ((8 * l) + k)), .int (nI 1), .int (nI 1)]) f_121_127 (Nat.le_of_ble_eq_true rfl) rfl ?_
            refine x_aload_n f_121_129 rfl ?_
            refine x_getR f_121_130 S.k33 (by decide) S.r4 ?_
            refine x_bipush (v := nI 9) f_121_133 (by decide) ?_
            refine x_aload_n f_121_135 rfl ?_
            refine x_getI f_121_136 S.k33 (by decide) ?_
            refine x_topi (w := nI jm) ((congrFun e33 8).trans e_jm) ?_
            refine x_imulN f_121_139 ?_
            refine x_iload f_121_140 rfl ?_
            refine x_iaddN f_121_142 ?_
            refine x_iload f_121_143 rfl ?_
            refine x_ifN_eq (t := 158) f_121_145 (by decide) (by decide) (fun c_13 => by omega) (fun c_13 => ?_)
            refine x_iload f_121_148 rfl ?_
            refine x_iload f_121_150 rfl ?_
            refine x_min f_121_152 (Nat.le_of_ble_eq_true rfl) ?_
            refine x_goto (t := 180) f_121_155 (by decide) ?_
            refine x_iast (j := ((9 * jm) + k)) f_121_180 S.k36 (by decide) (by omega) (by decide) ?_
            refine x_iinc (v := nI (k + 1)) (ls1 := [.ref 33, .int (nI i), .int (nI l), .int rings, .int (nI (k + 1)), .int (mj_I h 34 ((8 * i) + k)), .int (mj_I h 34 ((8 * l) + k)), .int (nI 1), .int (nI 1)]) f_121_181 rfl (by exact nI_add _ 1) rfl ?_
            refine x_goto (t := 54) f_121_184 (by decide) ?_
            have hjn : (if (mj_I h 34 ((8 * l) + k)) < (mj_I h 34 ((8 * i) + k)) then (mj_I h 34 ((8 * l) + k)) else (mj_I h 34 ((8 * i) + k))) = jn k (mj_I h 34 (8 * i + k)) (mj_I h 34 (8 * l + k)) := by
              unfold jn
              rw [if_pos (show k = 3 ∨ k = 7 by omega)]
            refine ih (k + 1) (mj_setI g 36 ((9 * jm) + k) (if (mj_I h 34 ((8 * l) + k)) < (mj_I h 34 ((8 * i) + k)) then (mj_I h 34 ((8 * l) + k)) else (mj_I h 34 ((8 * i) + k)))) _ _ _ _ (by omega) S (hR.set (by decide)) (fun q => ?_)
            by_cases hq : q = 9 * jm + k
            · subst hq
              refine (mj_I_at _ _ _ _).trans (hjn.trans ?_)
              rw [if_pos (show 9 * jm ≤ 9 * jm + k ∧ 9 * jm + k < 9 * jm + (k + 1) by omega), show 9 * jm + k - 9 * jm = k by omega]
            · refine (mj_I_ne hq).trans ((i36 q).trans ?_)
              by_cases h9 : 9 * jm ≤ q ∧ q < 9 * jm + k
              · rw [if_pos h9, if_pos (show 9 * jm ≤ q ∧ q < 9 * jm + (k + 1) by omega)]
              · rw [if_neg h9, if_neg (show ¬ (9 * jm ≤ q ∧ q < 9 * jm + (k + 1)) by omega)]
/-- behind a job: its marks, its stuffs, one job more -/
def JB (h h' : mj_H) (jm i l : Nat) (rings : Int32) : Prop := Rw h h' [33, 36, 37, 38] ∧ (∀ q, ¬ q = 8 → mj_I h' 33 q = mj_I h 33 q) ∧ mj_I h' 33 8 = nI (jm + 1) ∧
  (∀ q, mj_I h' 36 q = if q = 9 * jm + 8 then rings else if 9 * jm ≤ q ∧ q < 9 * jm + 8 then jn (q - 9 * jm) (mj_I h 34 (8 * i + (q - 9 * jm))) (mj_I h 34 (8 * l + (q - 9 * jm))) else mj_I h 36 q) ∧
  (∀ q, mj_I h' 37 q = if q = jm then nI i else mj_I h 37 q) ∧ ∀ q, mj_I h' 38 q = if q = jm then nI l else mj_I h 38 q

set_option maxRecDepth 20000 in
theorem c_job {h : mj_H} (S : SM h) (a b rings : Int32) {sm jm : Nat} (h_sm : sm ≤ 6) (e_sm : mj_I h 33 7 = nI sm) (h_jm : jm ≤ 20) (e_jm : mj_I h 33 8 = nI jm) : mxc 2 121 [.ref 33, .int a, .int b, .int rings] h (fun r h' => if mIn a sm ∧ mIn b sm ∧ mj_I h 35 (6 * a.toNatClampNeg + b.toNatClampNeg) = 0 ∧ (nI 2 ≤ rings ∧ rings ≤ nI 6) ∧ ¬ jm = 20 then r = some (.int (nI jm)) ∧ JB h h' jm a.toNatClampNeg b.toNatClampNeg rings else r = some (.int (-1)) ∧ h' = h) := by
  show mx 2 121 0 [.ref 33, .int a, .int b, .int rings, mj_unset, mj_unset, mj_unset, mj_unset, mj_unset] [] h _
  refine x_aload_n f_121_0 rfl ?_
  refine x_iload_n f_121_1 rfl ?_
  refine x_callVe f_121_2 (c_isStuff S _ (n := sm) (by omega) e_sm) (by omega) S.k33 (by decide) rfl rfl (Nat.le_of_ble_eq_true rfl) rfl ?_
  refine x_ifB_eq (t := 49) f_121_5 (by decide) (fun c_1 => ?_) (fun c_1 => ?_)
  · refine x_iconst (v := -1) f_121_49 (by decide) ?_
    refine x_retI f_121_50 rfl ?_
    exact mj_qF (by first | exact fun q => c_1 (q.1) | exact fun q => (q.1) c_1) ⟨rfl, rfl⟩
  · refine x_aload_n f_121_8 rfl ?_
    refine x_iload_n f_121_9 rfl ?_
    refine x_callVe f_121_10 (c_isStuff S _ (n := sm) (by omega) e_sm) (by omega) S.k33 (by decide) rfl rfl (Nat.le_of_ble_eq_true rfl) rfl ?_
    refine x_ifB_eq (t := 49) f_121_13 (by decide) (fun c_2 => ?_) (fun c_2 => ?_)
    · refine x_iconst (v := -1) f_121_49 (by decide) ?_
      refine x_retI f_121_50 rfl ?_
      exact mj_qF (by first | exact fun q => c_2 (q.2.1) | exact fun q => (q.2.1) c_2) ⟨rfl, rfl⟩
    · obtain ⟨i, h_i, rfl⟩ := mIn_of c_1 (by omega)
      simp only [nI_clamp (show i < 2 ^ 31 by omega)]
      obtain ⟨l, h_l, rfl⟩ := mIn_of c_2 (by omega)
      simp only [nI_clamp (show l < 2 ^ 31 by omega)]
      refine x_aload_n f_121_16 rfl ?_
      refine x_getR f_121_17 S.k33 (by decide) S.r3 ?_
      refine x_bipush (v := nI 6) f_121_20 (by decide) ?_
      refine x_iload_n f_121_22 rfl ?_
      refine x_imulN f_121_23 ?_
      refine x_iload_n f_121_24 rfl ?_
      refine x_iaddN f_121_25 ?_
      refine x_zald (j := ((6 * i) + l)) f_121_26 S.k35 (by omega) (by decide) ?_
      refine x_if_ne (t := 49) f_121_27 (by decide) (fun c_3 => ?_) (fun c_3 => ?_)
      · refine x_iconst (v := -1) f_121_49 (by decide) ?_
        refine x_retI f_121_50 rfl ?_
        exact mj_qF (by first | exact fun q => c_3 (q.2.2.1) | exact fun q => (q.2.2.1) c_3) ⟨rfl, rfl⟩
      · refine x_iload_n f_121_30 rfl ?_
        refine x_iconst (v := nI 2) f_121_31 (by decide) ?_
        refine x_bipush (v := nI 6) f_121_32 (by decide) ?_
        refine x_callSe f_121_34 (c_in _ _ _ _) (by omega) rfl rfl rfl (Nat.le_of_ble_eq_true rfl) rfl ?_
        refine x_ifB_eq (t := 49) f_121_37 (by decide) (fun c_4 => ?_) (fun c_4 => ?_)
        · refine x_iconst (v := -1) f_121_49 (by decide) ?_
          refine x_retI f_121_50 rfl ?_
          exact mj_qF (by first | exact fun q => c_4 (q.2.2.2.1) | exact fun q => (q.2.2.2.1) c_4) ⟨rfl, rfl⟩
        · refine x_aload_n f_121_40 rfl ?_
          refine x_getI f_121_41 S.k33 (by decide) ?_
          refine x_topi (w := nI jm) e_jm ?_
          refine x_bipush (v := nI 20) f_121_44 (by decide) ?_
          refine x_icmpN_ne (t := 51) f_121_46 (by decide) (by omega) (by decide) (fun c_5 => ?_) (fun c_5 => ?_)
          · refine x_iconst (v := nI 0) f_121_51 (by decide) ?_
            refine x_istore (ls1 := [.ref 33, .int (nI i), .int (nI l), .int rings, .int (nI 0), mj_unset, mj_unset, mj_unset, mj_unset]) f_121_52 (Nat.le_of_ble_eq_true rfl) rfl ?_
            refine job_l (by omega) (by omega) (by omega) e_jm rings ?_ 8 0 h _ _ _ _ (by omega) S (Rw.rf _ _) (fun q => by rw [if_neg (by omega)])
            intro g v5 v6 v7 v8 S hR i36
            have e33 : mj_I g 33 = mj_I h 33 := hR.i (by decide)
            refine x_aload_n f_121_187 rfl ?_
            refine x_getR f_121_188 S.k33 (by decide) S.r4 ?_
            refine x_bipush (v := nI 9) f_121_191 (by decide) ?_
            refine x_aload_n f_121_193 rfl ?_
            refine x_getI f_121_194 S.k33 (by decide) ?_
            refine x_topi (w := nI jm) ((congrFun e33 8).trans e_jm) ?_
            refine x_imulN f_121_197 ?_
            refine x_bipush (v := nI 8) f_121_198 (by decide) ?_
            refine x_iaddN f_121_200 ?_
            refine x_iload_n f_121_201 rfl ?_
            refine x_iast (j := ((9 * jm) + 8)) f_121_202 S.k36 (by decide) (by omega) (by decide) ?_
            refine x_aload_n f_121_203 rfl ?_
            refine x_getR f_121_204 S.k33 (by decide) S.r5 ?_
            refine x_aload_n f_121_207 rfl ?_
            refine x_getI f_121_208 S.k33 (by decide) ?_
            refine x_topi (w := nI jm) ((congrFun (mj_I_other (by decide)) _).trans ((congrFun e33 8).trans e_jm)) ?_
            refine x_iload_n f_121_211 rfl ?_
            refine x_iast (j := jm) f_121_212 S.k37 (by decide) (by omega) (by decide) ?_
            refine x_aload_n f_121_213 rfl ?_
            refine x_getR f_121_214 S.k33 (by decide) S.r6 ?_
            refine x_aload_n f_121_217 rfl ?_
            refine x_getI f_121_218 S.k33 (by decide) ?_
            refine x_topi (w := nI jm) ((congrFun (mj_I_other (by decide)) _).trans ((congrFun (mj_I_other (by decide)) _).trans ((congrFun e33 8).trans e_jm))) ?_
            refine x_iload_n f_121_221 rfl ?_
            refine x_iast (j := jm) f_121_222 S.k38 (by decide) (by omega) (by decide) ?_
            refine x_aload_n f_121_223 rfl ?_
            refine x_dup f_121_224 rfl ?_
            refine x_getI f_121_225 S.k33 (by decide) ?_
            refine x_topi (w := nI jm) ((congrFun (mj_I_other (by decide)) _).trans ((congrFun (mj_I_other (by decide)) _).trans ((congrFun (mj_I_other (by decide)) _).trans ((congrFun e33 8).trans e_jm)))) ?_
            refine x_iconst (v := nI 1) f_121_228 (by decide) ?_
            refine x_iaddN f_121_229 ?_
            refine x_putI f_121_230 S.k33 (by decide) ?_
            refine x_aload_n f_121_233 rfl ?_
            refine x_getI f_121_234 S.k33 (by decide) ?_
            refine x_topi (w := nI (jm + 1)) (mj_I_at _ _ _ _) ?_
            refine x_iconst (v := nI 1) f_121_237 (by decide) ?_
            refine x_isubN f_121_238 (by omega) ?_
            refine x_retI f_121_239 rfl ?_
            refine mj_qT ⟨c_1, c_2, c_3, c_4, c_5⟩ ⟨by rw [Nat.add_sub_cancel], ?_⟩
            refine ⟨((((hR.mono (by decide)).set (by decide)).set (by decide)).set (by decide)).set (by decide), fun q hq => ?_, mj_I_at _ _ _ _, fun q => ?_, fun q => ?_, fun q => ?_⟩
            · exact (mj_I_ne hq).trans ((congrFun (mj_I_other (a := 38) (b := 33) (by decide)) q).trans ((congrFun (mj_I_other (a := 37) (b := 33) (by decide)) q).trans ((congrFun (mj_I_other (a := 36) (b := 33) (by decide)) q).trans (congrFun e33 q))))
            · refine (congrFun (mj_I_other (a := 33) (b := 36) (by decide)) q).trans ((congrFun (mj_I_other (a := 38) (b := 36) (by decide)) q).trans ((congrFun (mj_I_other (a := 37) (b := 36) (by decide)) q).trans ?_))
              by_cases hq : q = 9 * jm + 8
              · rw [if_pos hq, hq]
                exact mj_I_at _ _ _ _
              · rw [if_neg hq]
                exact (mj_I_ne hq).trans (i36 q)
            · refine (congrFun (mj_I_other (a := 33) (b := 37) (by decide)) q).trans ((congrFun (mj_I_other (a := 38) (b := 37) (by decide)) q).trans ?_)
              by_cases hq : q = jm
              · rw [if_pos hq, hq]
                exact mj_I_at _ _ _ _
              · rw [if_neg hq]
                exact (mj_I_ne hq).trans ((congrFun (mj_I_other (a := 36) (b := 37) (by decide)) q).trans (congrFun (hR.i (by decide)) q))
            · refine (congrFun (mj_I_other (a := 33) (b := 38) (by decide)) q).trans ?_
              by_cases hq : q = jm
              · rw [if_pos hq, hq]
                exact mj_I_at _ _ _ _
              · rw [if_neg hq]
                exact (mj_I_ne hq).trans ((congrFun (mj_I_other (a := 37) (b := 38) (by decide)) q).trans ((congrFun (mj_I_other (a := 36) (b := 38) (by decide)) q).trans (congrFun (hR.i (by decide)) q)))
          · refine x_iconst (v := -1) f_121_49 (by decide) ?_
            refine x_retI f_121_50 rfl ?_
            exact mj_qF (by first | exact fun q => c_5 (q.2.2.2.2) | exact fun q => (q.2.2.2.2) c_5) ⟨rfl, rfl⟩
