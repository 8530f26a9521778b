theorem f_119_0 : mj_fetch 119 0 = some (.iload_n 1, 0, 0) := by decide +kernel
theorem f_119_1 : mj_fetch 119 1 = some (.iconst 1, 0, 0) := by decide +kernel
theorem f_119_2 : mj_fetch 119 2 = some (.bipush 100, 0, 0) := by decide +kernel
theorem f_119_4 : mj_fetch 119 4 = some (.invokestatic 100, 112, 0) := by decide +kernel
theorem f_119_7 : mj_fetch 119 7 = some (.ifCond .eq 94, 0, 0) := by decide +kernel
theorem f_119_10 : mj_fetch 119 10 = some (.iload_n 2, 0, 0) := by decide +kernel
theorem f_119_11 : mj_fetch 119 11 = some (.iconst 1, 0, 0) := by decide +kernel
theorem f_119_12 : mj_fetch 119 12 = some (.bipush 100, 0, 0) := by decide +kernel
theorem f_119_14 : mj_fetch 119 14 = some (.invokestatic 100, 112, 0) := by decide +kernel
theorem f_119_17 : mj_fetch 119 17 = some (.ifCond .eq 84, 0, 0) := by decide +kernel
theorem f_119_20 : mj_fetch 119 20 = some (.iload_n 3, 0, 0) := by decide +kernel
theorem f_119_21 : mj_fetch 119 21 = some (.iconst 0, 0, 0) := by decide +kernel
theorem f_119_22 : mj_fetch 119 22 = some (.sipush 300, 0, 0) := by decide +kernel
theorem f_119_25 : mj_fetch 119 25 = some (.invokestatic 100, 112, 0) := by decide +kernel
theorem f_119_28 : mj_fetch 119 28 = some (.ifCond .eq 73, 0, 0) := by decide +kernel
theorem f_119_31 : mj_fetch 119 31 = some (.iload 4, 0, 0) := by decide +kernel
theorem f_119_33 : mj_fetch 119 33 = some (.bipush 50, 0, 0) := by decide +kernel
theorem f_119_35 : mj_fetch 119 35 = some (.sipush 900, 0, 0) := by decide +kernel
theorem f_119_38 : mj_fetch 119 38 = some (.invokestatic 100, 112, 0) := by decide +kernel
theorem f_119_41 : mj_fetch 119 41 = some (.ifCond .eq 60, 0, 0) := by decide +kernel
theorem f_119_44 : mj_fetch 119 44 = some (.iload 5, 0, 0) := by decide +kernel
theorem f_119_46 : mj_fetch 119 46 = some (.iconst 1, 0, 0) := by decide +kernel
theorem f_119_47 : mj_fetch 119 47 = some (.bipush 100, 0, 0) := by decide +kernel
theorem f_119_49 : mj_fetch 119 49 = some (.invokestatic 100, 112, 0) := by decide +kernel
theorem f_119_52 : mj_fetch 119 52 = some (.ifCond .eq 49, 0, 0) := by decide +kernel
theorem f_119_55 : mj_fetch 119 55 = some (.iload 6, 0, 0) := by decide +kernel
theorem f_119_57 : mj_fetch 119 57 = some (.bipush 50, 0, 0) := by decide +kernel
theorem f_119_59 : mj_fetch 119 59 = some (.sipush 999, 0, 0) := by decide +kernel
theorem f_119_62 : mj_fetch 119 62 = some (.invokestatic 100, 112, 0) := by decide +kernel
theorem f_119_65 : mj_fetch 119 65 = some (.ifCond .eq 36, 0, 0) := by decide +kernel
theorem f_119_68 : mj_fetch 119 68 = some (.iload 7, 0, 0) := by decide +kernel
theorem f_119_70 : mj_fetch 119 70 = some (.iconst 0, 0, 0) := by decide +kernel
theorem f_119_71 : mj_fetch 119 71 = some (.sipush 500, 0, 0) := by decide +kernel
theorem f_119_74 : mj_fetch 119 74 = some (.invokestatic 100, 112, 0) := by decide +kernel
theorem f_119_77 : mj_fetch 119 77 = some (.ifCond .eq 24, 0, 0) := by decide +kernel
theorem f_119_80 : mj_fetch 119 80 = some (.iload 8, 0, 0) := by decide +kernel
theorem f_119_82 : mj_fetch 119 82 = some (.iconst 1, 0, 0) := by decide +kernel
theorem f_119_83 : mj_fetch 119 83 = some (.sipush 500, 0, 0) := by decide +kernel
theorem f_119_86 : mj_fetch 119 86 = some (.invokestatic 100, 112, 0) := by decide +kernel
theorem f_119_89 : mj_fetch 119 89 = some (.ifCond .eq 12, 0, 0) := by decide +kernel
theorem f_119_92 : mj_fetch 119 92 = some (.aload_n 0, 0, 0) := by decide +kernel
theorem f_119_93 : mj_fetch 119 93 = some (.getfield 107, 11, 7) := by decide +kernel
theorem f_119_96 : mj_fetch 119 96 = some (.bipush 6, 0, 0) := by decide +kernel
theorem f_119_98 : mj_fetch 119 98 = some (.if_icmp .ne 5, 0, 0) := by decide +kernel
theorem f_119_101 : mj_fetch 119 101 = some (.iconst (-1), 0, 0) := by decide +kernel
theorem f_119_102 : mj_fetch 119 102 = some (.ireturn, 0, 0) := by decide +kernel
theorem f_119_103 : mj_fetch 119 103 = some (.bipush 8, 0, 0) := by decide +kernel
theorem f_119_105 : mj_fetch 119 105 = some (.aload_n 0, 0, 0) := by decide +kernel
theorem f_119_106 : mj_fetch 119 106 = some (.getfield 107, 11, 7) := by decide +kernel
theorem f_119_109 : mj_fetch 119 109 = some (.imul, 0, 0) := by decide +kernel
theorem f_119_110 : mj_fetch 119 110 = some (.istore 9, 0, 0) := by decide +kernel
theorem f_119_112 : mj_fetch 119 112 = some (.aload_n 0, 0, 0) := by decide +kernel
theorem f_119_113 : mj_fetch 119 113 = some (.getfield 9, 11, 2) := by decide +kernel
theorem f_119_116 : mj_fetch 119 116 = some (.iload 9, 0, 0) := by decide +kernel
theorem f_119_118 : mj_fetch 119 118 = some (.iload_n 1, 0, 0) := by decide +kernel
theorem f_119_119 : mj_fetch 119 119 = some (.iastore, 0, 0) := by decide +kernel
theorem f_119_120 : mj_fetch 119 120 = some (.aload_n 0, 0, 0) := by decide +kernel
theorem f_119_121 : mj_fetch 119 121 = some (.getfield 9, 11, 2) := by decide +kernel
theorem f_119_124 : mj_fetch 119 124 = some (.iload 9, 0, 0) := by decide +kernel
theorem f_119_126 : mj_fetch 119 126 = some (.iconst 1, 0, 0) := by decide +kernel
theorem f_119_127 : mj_fetch 119 127 = some (.iadd, 0, 0) := by decide +kernel
theorem f_119_128 : mj_fetch 119 128 = some (.iload_n 2, 0, 0) := by decide +kernel
theorem f_119_129 : mj_fetch 119 129 = some (.iastore, 0, 0) := by decide +kernel
theorem f_119_130 : mj_fetch 119 130 = some (.aload_n 0, 0, 0) := by decide +kernel
theorem f_119_131 : mj_fetch 119 131 = some (.getfield 9, 11, 2) := by decide +kernel
theorem f_119_134 : mj_fetch 119 134 = some (.iload 9, 0, 0) := by decide +kernel
theorem f_119_136 : mj_fetch 119 136 = some (.iconst 2, 0, 0) := by decide +kernel
theorem f_119_137 : mj_fetch 119 137 = some (.iadd, 0, 0) := by decide +kernel
theorem f_119_138 : mj_fetch 119 138 = some (.iload_n 3, 0, 0) := by decide +kernel
theorem f_119_139 : mj_fetch 119 139 = some (.iastore, 0, 0) := by decide +kernel
theorem f_119_140 : mj_fetch 119 140 = some (.aload_n 0, 0, 0) := by decide +kernel
theorem f_119_141 : mj_fetch 119 141 = some (.getfield 9, 11, 2) := by decide +kernel
theorem f_119_144 : mj_fetch 119 144 = some (.iload 9, 0, 0) := by decide +kernel
theorem f_119_146 : mj_fetch 119 146 = some (.iconst 3, 0, 0) := by decide +kernel
theorem f_119_147 : mj_fetch 119 147 = some (.iadd, 0, 0) := by decide +kernel
theorem f_119_148 : mj_fetch 119 148 = some (.iload 4, 0, 0) := by decide +kernel
theorem f_119_150 : mj_fetch 119 150 = some (.iastore, 0, 0) := by decide +kernel
theorem f_119_151 : mj_fetch 119 151 = some (.aload_n 0, 0, 0) := by decide +kernel
theorem f_119_152 : mj_fetch 119 152 = some (.getfield 9, 11, 2) := by decide +kernel
theorem f_119_155 : mj_fetch 119 155 = some (.iload 9, 0, 0) := by decide +kernel
theorem f_119_157 : mj_fetch 119 157 = some (.iconst 4, 0, 0) := by decide +kernel
theorem f_119_158 : mj_fetch 119 158 = some (.iadd, 0, 0) := by decide +kernel
theorem f_119_159 : mj_fetch 119 159 = some (.iload 5, 0, 0) := by decide +kernel
theorem f_119_161 : mj_fetch 119 161 = some (.iastore, 0, 0) := by decide +kernel
theorem f_119_162 : mj_fetch 119 162 = some (.aload_n 0, 0, 0) := by decide +kernel
theorem f_119_163 : mj_fetch 119 163 = some (.getfield 9, 11, 2) := by decide +kernel
theorem f_119_166 : mj_fetch 119 166 = some (.iload 9, 0, 0) := by decide +kernel
theorem f_119_168 : mj_fetch 119 168 = some (.iconst 5, 0, 0) := by decide +kernel
theorem f_119_169 : mj_fetch 119 169 = some (.iadd, 0, 0) := by decide +kernel
theorem f_119_170 : mj_fetch 119 170 = some (.iload 6, 0, 0) := by decide +kernel
theorem f_119_172 : mj_fetch 119 172 = some (.iastore, 0, 0) := by decide +kernel
theorem f_119_173 : mj_fetch 119 173 = some (.aload_n 0, 0, 0) := by decide +kernel
theorem f_119_174 : mj_fetch 119 174 = some (.getfield 9, 11, 2) := by decide +kernel
theorem f_119_177 : mj_fetch 119 177 = some (.iload 9, 0, 0) := by decide +kernel
theorem f_119_179 : mj_fetch 119 179 = some (.bipush 6, 0, 0) := by decide +kernel
theorem f_119_181 : mj_fetch 119 181 = some (.iadd, 0, 0) := by decide +kernel
theorem f_119_182 : mj_fetch 119 182 = some (.iload 7, 0, 0) := by decide +kernel
theorem f_119_184 : mj_fetch 119 184 = some (.iastore, 0, 0) := by decide +kernel
theorem f_119_185 : mj_fetch 119 185 = some (.aload_n 0, 0, 0) := by decide +kernel
theorem f_119_186 : mj_fetch 119 186 = some (.getfield 9, 11, 2) := by decide +kernel
theorem f_119_189 : mj_fetch 119 189 = some (.iload 9, 0, 0) := by decide +kernel
theorem f_119_191 : mj_fetch 119 191 = some (.bipush 7, 0, 0) := by decide +kernel
theorem f_119_193 : mj_fetch 119 193 = some (.iadd, 0, 0) := by decide +kernel
theorem f_119_194 : mj_fetch 119 194 = some (.iload 8, 0, 0) := by decide +kernel
theorem f_119_196 : mj_fetch 119 196 = some (.iastore, 0, 0) := by decide +kernel
theorem f_119_197 : mj_fetch 119 197 = some (.aload_n 0, 0, 0) := by decide +kernel
theorem f_119_198 : mj_fetch 119 198 = some (.dup, 0, 0) := by decide +kernel
theorem f_119_199 : mj_fetch 119 199 = some (.getfield 107, 11, 7) := by decide +kernel
theorem f_119_202 : mj_fetch 119 202 = some (.iconst 1, 0, 0) := by decide +kernel
theorem f_119_203 : mj_fetch 119 203 = some (.iadd, 0, 0) := by decide +kernel
theorem f_119_204 : mj_fetch 119 204 = some (.putfield 107, 11, 7) := by decide +kernel
theorem f_119_207 : mj_fetch 119 207 = some (.aload_n 0, 0, 0) := by decide +kernel
theorem f_119_208 : mj_fetch 119 208 = some (.getfield 107, 11, 7) := by decide +kernel
theorem f_119_211 : mj_fetch 119 211 = some (.iconst 1, 0, 0) := by decide +kernel
theorem f_119_212 : mj_fetch 119 212 = some (.isub, 0, 0) := by decide +kernel
theorem f_119_213 : mj_fetch 119 213 = some (.ireturn, 0, 0) := by decide +kernel
theorem f_174_0 : mj_fetch 174 0 = some (.iload_n 1, 0, 0) := by decide +kernel
theorem f_174_1 : mj_fetch 174 1 = some (.tableswitch 78 0 6 #[43, 48, 53, 58, 63, 68, 73], 0, 0) := by decide +kernel
theorem f_174_44 : mj_fetch 174 44 = some (.aload_n 0, 0, 0) := by decide +kernel
theorem f_174_45 : mj_fetch 174 45 = some (.getfield 104, 11, 0) := by decide +kernel
theorem f_174_48 : mj_fetch 174 48 = some (.ireturn, 0, 0) := by decide +kernel
theorem f_174_49 : mj_fetch 174 49 = some (.aload_n 0, 0, 0) := by decide +kernel
theorem f_174_50 : mj_fetch 174 50 = some (.getfield 107, 11, 7) := by decide +kernel
theorem f_174_53 : mj_fetch 174 53 = some (.ireturn, 0, 0) := by decide +kernel
theorem f_174_54 : mj_fetch 174 54 = some (.aload_n 0, 0, 0) := by decide +kernel
theorem f_174_55 : mj_fetch 174 55 = some (.getfield 110, 11, 8) := by decide +kernel
theorem f_174_58 : mj_fetch 174 58 = some (.ireturn, 0, 0) := by decide +kernel
theorem f_174_59 : mj_fetch 174 59 = some (.aload_n 0, 0, 0) := by decide +kernel
theorem f_174_60 : mj_fetch 174 60 = some (.getfield 176, 11, 21) := by decide +kernel
theorem f_174_63 : mj_fetch 174 63 = some (.ireturn, 0, 0) := by decide +kernel
theorem f_174_64 : mj_fetch 174 64 = some (.aload_n 0, 0, 0) := by decide +kernel
theorem f_174_65 : mj_fetch 174 65 = some (.getfield 222, 11, 28) := by decide +kernel
theorem f_174_68 : mj_fetch 174 68 = some (.ireturn, 0, 0) := by decide +kernel
theorem f_174_69 : mj_fetch 174 69 = some (.aload_n 0, 0, 0) := by decide +kernel
theorem f_174_70 : mj_fetch 174 70 = some (.getfield 252, 11, 40) := by decide +kernel
theorem f_174_73 : mj_fetch 174 73 = some (.ireturn, 0, 0) := by decide +kernel
theorem f_174_74 : mj_fetch 174 74 = some (.aload_n 0, 0, 0) := by decide +kernel
theorem f_174_75 : mj_fetch 174 75 = some (.getfield 261, 11, 46) := by decide +kernel
theorem f_174_78 : mj_fetch 174 78 = some (.ireturn, 0, 0) := by decide +kernel
theorem f_174_79 : mj_fetch 174 79 = some (.iconst (-1), 0, 0) := by decide +kernel
theorem f_174_80 : mj_fetch 174 80 = some (.ireturn, 0, 0) := by decide +kernel
set_option maxRecDepth 20000 in
theorem c_stuff {h : mj_H} (S : SM h) (a1 a2 a3 a4 a5 a6 a7 a8 : Int32) {sm : Nat} (h_sm : sm ≤ 6) (e_sm : mj_I h 33 7 = nI sm) : mxc 1 119 [.ref 33, .int a1, .int a2, .int a3, .int a4, .int a5, .int a6, .int a7, .int a8] h (fun r h' => if (1 ≤ a1 ∧ a1 ≤ 100) ∧ (1 ≤ a2 ∧ a2 ≤ 100) ∧ (0 ≤ a3 ∧ a3 ≤ 300) ∧ (50 ≤ a4 ∧ a4 ≤ 900) ∧ (1 ≤ a5 ∧ a5 ≤ 100) ∧ (50 ≤ a6 ∧ a6 ≤ 999) ∧ (0 ≤ a7 ∧ a7 ≤ 500) ∧ (1 ≤ a8 ∧ a8 ≤ 500) ∧ ¬ sm = 6 then r = some (.int (nI sm)) ∧ h' = mj_setI (mj_setI (mj_setI (mj_setI (mj_setI (mj_setI (mj_setI (mj_setI (mj_setI h 34 (8 * sm) a1) 34 (8 * sm + 1) a2) 34 (8 * sm + 2) a3) 34 (8 * sm + 3) a4) 34 (8 * sm + 4) a5) 34 (8 * sm + 5) a6) 34 (8 * sm + 6) a7) 34 (8 * sm + 7) a8) 33 7 (nI (sm + 1)) else r = some (.int (-1)) ∧ h' = h) := by
  show mx 1 119 0 [.ref 33, .int a1, .int a2, .int a3, .int a4, .int a5, .int a6, .int a7, .int a8, mj_unset] [] h _
  refine x_iload_n f_119_0 rfl ?_
  refine x_iconst (v := nI 1) f_119_1 (by decide) ?_
  refine x_bipush (v := nI 100) f_119_2 (by decide) ?_
  refine x_callSe f_119_4 (c_in _ _ _ _) (by omega) rfl rfl rfl (Nat.le_of_ble_eq_true rfl) rfl ?_
  refine x_ifB_eq (t := 101) f_119_7 (by decide) (fun c_1 => ?_) (fun c_1 => ?_)
  · refine x_iconst (v := -1) f_119_101 (by decide) ?_
    refine x_retI f_119_102 rfl ?_
    exact mj_qF (by first | exact fun q => c_1 (q.1) | exact fun q => (q.1) c_1) ⟨rfl, rfl⟩
  · refine x_iload_n f_119_10 rfl ?_
    refine x_iconst (v := nI 1) f_119_11 (by decide) ?_
    refine x_bipush (v := nI 100) f_119_12 (by decide) ?_
    refine x_callSe f_119_14 (c_in _ _ _ _) (by omega) rfl rfl rfl (Nat.le_of_ble_eq_true rfl) rfl ?_
    refine x_ifB_eq (t := 101) f_119_17 (by decide) (fun c_2 => ?_) (fun c_2 => ?_)
    · refine x_iconst (v := -1) f_119_101 (by decide) ?_
      refine x_retI f_119_102 rfl ?_
      exact mj_qF (by first | exact fun q => c_2 (q.2.1) | exact fun q => (q.2.1) c_2) ⟨rfl, rfl⟩
    · refine x_iload_n f_119_20 rfl ?_
      refine x_iconst (v := nI 0) f_119_21 (by decide) ?_
      refine x_sipush (v := nI 300) f_119_22 (by decide) ?_
      refine x_callSe f_119_25 (c_in _ _ _ _) (by omega) rfl rfl rfl (Nat.le_of_ble_eq_true rfl) rfl ?_
      refine x_ifB_eq (t := 101) f_119_28 (by decide) (fun c_3 => ?_) (fun c_3 => ?_)
      · refine x_iconst (v := -1) f_119_101 (by decide) ?_
        refine x_retI f_119_102 rfl ?_
        exact mj_qF (by first | exact fun q => c_3 (q.2.2.1) | exact fun q => (q.2.2.1) c_3) ⟨rfl, rfl⟩
      · refine x_iload f_119_31 rfl ?_
        refine x_bipush (v := nI 50) f_119_33 (by decide) ?_
        refine x_sipush (v := nI 900) f_119_35 (by decide) ?_
        refine x_callSe f_119_38 (c_in _ _ _ _) (by omega) rfl rfl rfl (Nat.le_of_ble_eq_true rfl) rfl ?_
        refine x_ifB_eq (t := 101) f_119_41 (by decide) (fun c_4 => ?_) (fun c_4 => ?_)
        · refine x_iconst (v := -1) f_119_101 (by decide) ?_
          refine x_retI f_119_102 rfl ?_
          exact mj_qF (by first | exact fun q => c_4 (q.2.2.2.1) | exact fun q => (q.2.2.2.1) c_4) ⟨rfl, rfl⟩
        · refine x_iload f_119_44 rfl ?_
          refine x_iconst (v := nI 1) f_119_46 (by decide) ?_
          refine x_bipush (v := nI 100) f_119_47 (by decide) ?_
          refine x_callSe f_119_49 (c_in _ _ _ _) (by omega) rfl rfl rfl (Nat.le_of_ble_eq_true rfl) rfl ?_
          refine x_ifB_eq (t := 101) f_119_52 (by decide) (fun c_5 => ?_) (fun c_5 => ?_)
          · refine x_iconst (v := -1) f_119_101 (by decide) ?_
            refine x_retI f_119_102 rfl ?_
            exact mj_qF (by first | exact fun q => c_5 (q.2.2.2.2.1) | exact fun q => (q.2.2.2.2.1) c_5) ⟨rfl, rfl⟩
          · refine x_iload f_119_55 rfl ?_
            refine x_bipush (v := nI 50) f_119_57 (by decide) ?_
            refine x_sipush (v := nI 999) f_119_59 (by decide) ?_
            refine x_callSe f_119_62 (c_in _ _ _ _) (by omega) rfl rfl rfl (Nat.le_of_ble_eq_true rfl) rfl ?_
            refine x_ifB_eq (t := 101) f_119_65 (by decide) (fun c_6 => ?_) (fun c_6 => ?_)
            · refine x_iconst (v := -1) f_119_101 (by decide) ?_
              refine x_retI f_119_102 rfl ?_
              exact mj_qF (by first | exact fun q => c_6 (q.2.2.2.2.2.1) | exact fun q => (q.2.2.2.2.2.1) c_6) ⟨rfl, rfl⟩
            · refine x_iload f_119_68 rfl ?_
              refine x_iconst (v := nI 0) f_119_70 (by decide) ?_
              refine x_sipush (v := nI 500) f_119_71 (by decide) ?_
              refine x_callSe f_119_74 (c_in _ _ _ _) (by omega) rfl rfl rfl (Nat.le_of_ble_eq_true rfl) rfl ?_
              refine x_ifB_eq (t := 101) f_119_77 (by decide) (fun c_7 => ?_) (fun c_7 => ?_)
              · refine x_iconst (v := -1) f_119_101 (by decide) ?_
                refine x_retI f_119_102 rfl ?_
                exact mj_qF (by first | exact fun q => c_7 (q.2.2.2.2.2.2.1) | exact fun q => (q.2.2.2.2.2.2.1) c_7) ⟨rfl, rfl⟩
              · refine x_iload f_119_80 rfl ?_
                refine x_iconst (v := nI 1) f_119_82 (by decide) ?_
                refine x_sipush (v := nI 500) f_119_83 (by decide) ?_
                refine x_callSe f_119_86 (c_in _ _ _ _) (by omega) rfl rfl rfl (Nat.le_of_ble_eq_true rfl) rfl ?_
                refine x_ifB_eq (t := 101) f_119_89 (by decide) (fun c_8 => ?_) (fun c_8 => ?_)
                · refine x_iconst (v := -1) f_119_101 (by decide) ?_
                  refine x_retI f_119_102 rfl ?_
                  exact mj_qF (by first | exact fun q => c_8 (q.2.2.2.2.2.2.2.1) | exact fun q => (q.2.2.2.2.2.2.2.1) c_8) ⟨rfl, rfl⟩
                · refine x_aload_n f_119_92 rfl ?_
                  refine x_getI f_119_93 S.k33 (by decide) ?_
                  refine x_topi (w := nI sm) e_sm ?_
                  refine x_bipush (v := nI 6) f_119_96 (by decide) ?_
                  refine x_icmpN_ne (t := 103) f_119_98 (by decide) (by omega) (by decide) (fun c_9 => ?_) (fun c_9 => ?_)
                  · refine x_bipush (v := nI 8) f_119_103 (by decide) ?_
                    refine x_aload_n f_119_105 rfl ?_
                    refine x_getI f_119_106 S.k33 (by decide) ?_
                    refine x_topi (w := nI sm) e_sm ?_
                    refine x_imulN f_119_109 ?_
                    refine x_istore (ls1 := [.ref 33, .int a1, .int a2, .int a3, .int a4, .int a5, .int a6, .int a7, .int a8, .int (nI (8 * sm))]) f_119_110 (Nat.le_of_ble_eq_true rfl) rfl ?_
                    refine x_aload_n f_119_112 rfl ?_
                    refine x_getR f_119_113 S.k33 (by decide) S.r2 ?_
                    refine x_iload f_119_116 rfl ?_
                    refine x_iload_n f_119_118 rfl ?_
                    refine x_iast (j := (8 * sm)) f_119_119 S.k34 (by decide) (by omega) (by decide) ?_
                    refine x_aload_n f_119_120 rfl ?_
                    refine x_getR f_119_121 S.k33 (by decide) S.r2 ?_
                    refine x_iload f_119_124 rfl ?_
                    refine x_iconst (v := nI 1) f_119_126 (by decide) ?_
                    refine x_iaddN f_119_127 ?_
                    refine x_iload_n f_119_128 rfl ?_
                    refine x_iast (j := ((8 * sm) + 1)) f_119_129 S.k34 (by decide) (by omega) (by decide) ?_
                    refine x_aload_n f_119_130 rfl ?_
                    refine x_getR f_119_131 S.k33 (by decide) S.r2 ?_
                    refine x_iload f_119_134 rfl ?_
                    refine x_iconst (v := nI 2) f_119_136 (by decide) ?_
                    refine x_iaddN f_119_137 ?_
                    refine x_iload_n f_119_138 rfl ?_
                    refine x_iast (j := ((8 * sm) + 2)) f_119_139 S.k34 (by decide) (by omega) (by decide) ?_
                    refine x_aload_n f_119_140 rfl ?_
                    refine x_getR f_119_141 S.k33 (by decide) S.r2 ?_
                    refine x_iload f_119_144 rfl ?_
                    refine x_iconst (v := nI 3) f_119_146 (by decide) ?_
                    refine x_iaddN f_119_147 ?_
                    refine x_iload f_119_148 rfl ?_
                    refine x_iast (j := ((8 * sm) + 3)) f_119_150 S.k34 (by decide) (by omega) (by decide) ?_
                    refine x_aload_n f_119_151 rfl ?_
                    refine x_getR f_119_152 S.k33 (by decide) S.r2 ?_
                    refine x_iload f_119_155 rfl ?_
                    refine x_iconst (v := nI 4) f_119_157 (by decide) ?_
                    refine x_iaddN f_119_158 ?_
                    refine x_iload f_119_159 rfl ?_
                    refine x_iast (j := ((8 * sm) + 4)) f_119_161 S.k34 (by decide) (by omega) (by decide) ?_
                    refine x_aload_n f_119_162 rfl ?_
                    refine x_getR f_119_163 S.k33 (by decide) S.r2 ?_
                    refine x_iload f_119_166 rfl ?_
                    refine x_iconst (v := nI 5) f_119_168 (by decide) ?_
                    refine x_iaddN f_119_169 ?_
                    refine x_iload f_119_170 rfl ?_
                    refine x_iast (j := ((8 * sm) + 5)) f_119_172 S.k34 (by decide) (by omega) (by decide) ?_
                    refine x_aload_n f_119_173 rfl ?_
                    refine x_getR f_119_174 S.k33 (by decide) S.r2 ?_
                    refine x_iload f_119_177 rfl ?_
                    refine x_bipush (v := nI 6) f_119_179 (by decide) ?_
                    refine x_iaddN f_119_181 ?_
                    refine x_iload f_119_182 rfl ?_
                    refine x_iast (j := ((8 * sm) + 6)) f_119_184 S.k34 (by decide) (by omega) (by decide) ?_
                    refine x_aload_n f_119_185 rfl ?_
                    refine x_getR f_119_186 S.k33 (by decide) S.r2 ?_
                    refine x_iload f_119_189 rfl ?_
                    refine x_bipush (v := nI 7) f_119_191 (by decide) ?_
                    refine x_iaddN f_119_193 ?_
                    refine x_iload f_119_194 rfl ?_
                    refine x_iast (j := ((8 * sm) + 7)) f_119_196 S.k34 (by decide) (by omega) (by decide) ?_
                    refine x_aload_n f_119_197 rfl ?_
                    refine x_dup f_119_198 rfl ?_
                    refine x_getI f_119_199 S.k33 (by decide) ?_
                    refine x_topi (w := nI sm) ((congrFun (mj_I_other (by decide)) _).trans ((congrFun (mj_I_other (by decide)) _).trans ((congrFun (mj_I_other (by decide)) _).trans ((congrFun (mj_I_other (by decide)) _).trans ((congrFun (mj_I_other (by decide)) _).trans ((congrFun (mj_I_other (by decide)) _).trans ((congrFun (mj_I_other (by decide)) _).trans ((congrFun (mj_I_other (by decide)) _).trans (e_sm))))))))) ?_
                    refine x_iconst (v := nI 1) f_119_202 (by decide) ?_
                    refine x_iaddN f_119_203 ?_
                    refine x_putI f_119_204 S.k33 (by decide) ?_
                    refine x_aload_n f_119_207 rfl ?_
                    refine x_getI f_119_208 S.k33 (by decide) ?_
                    refine x_topi (w := nI (sm + 1)) (mj_I_at _ _ _ _) ?_
                    refine x_iconst (v := nI 1) f_119_211 (by decide) ?_
                    refine x_isubN f_119_212 (by omega) ?_
                    refine x_retI f_119_213 rfl ?_
                    exact mj_qT ⟨c_1, c_2, c_3, c_4, c_5, c_6, c_7, c_8, c_9⟩ ⟨by rw [Nat.add_sub_cancel], rfl⟩
                  · refine x_iconst (v := -1) f_119_101 (by decide) ?_
                    refine x_retI f_119_102 rfl ?_
                    exact mj_qF (by first | exact fun q => c_9 (q.2.2.2.2.2.2.2.2) | exact fun q => (q.2.2.2.2.2.2.2.2) c_9) ⟨rfl, rfl⟩
theorem c_count {h : mj_H} (S : SM h) (w : Int32) : mxc 0 174 [.ref 33, .int w] h (fun r h' => r = some (.int (if w = 0 then mj_I h 33 0 else if w = 1 then mj_I h 33 7 else if w = 2 then mj_I h 33 8 else if w = 3 then mj_I h 33 21 else if w = 4 then mj_I h 33 28 else if w = 5 then mj_I h 33 40 else if w = 6 then mj_I h 33 46 else -1)) ∧ h' = h) := by
  show mx 0 174 0 [.ref 33, .int w] [] h _
  refine x_iload_n f_174_0 rfl ?_
  by_cases hw : w.toInt < 0 ∨ 6 < w.toInt
  · refine x_tswD (t := 79) f_174_1 hw (by decide) ?_
    refine x_iconst (v := -1) f_174_79 (by decide) ?_
    refine x_retI f_174_80 rfl ?_
    refine ⟨?_, rfl⟩
    have k : ∀ v : Int32, 0 ≤ v.toInt ∧ v.toInt ≤ 6 → ¬ w = v := fun v hv q => by subst q; omega
    rw [if_neg (k 0 (by decide)), if_neg (k 1 (by decide)), if_neg (k 2 (by decide)), if_neg (k 3 (by decide)), if_neg (k 4 (by decide)), if_neg (k 5 (by decide)), if_neg (k 6 (by decide))]
  · have k : w = 0 ∨ w = 1 ∨ w = 2 ∨ w = 3 ∨ w = 4 ∨ w = 5 ∨ w = 6 := by
      simp only [← Int32.toInt_inj, show (0 : Int32).toInt = 0 from rfl, show (1 : Int32).toInt = 1 from rfl, show (2 : Int32).toInt = 2 from rfl, show (3 : Int32).toInt = 3 from rfl, show (4 : Int32).toInt = 4 from rfl, show (5 : Int32).toInt = 5 from rfl, show (6 : Int32).toInt = 6 from rfl]
      omega
    rcases k with rfl | rfl | rfl | rfl | rfl | rfl | rfl
    · refine x_tsw (t := 44) f_174_1 (by decide) (off := 43) (by decide) (by decide) ?_
      refine x_aload_n f_174_44 rfl ?_
      refine x_getI f_174_45 S.k33 (by decide) ?_
      refine x_retI f_174_48 rfl ?_
      exact ⟨rfl, rfl⟩
    · refine x_tsw (t := 49) f_174_1 (by decide) (off := 48) (by decide) (by decide) ?_
      refine x_aload_n f_174_49 rfl ?_
      refine x_getI f_174_50 S.k33 (by decide) ?_
      refine x_retI f_174_53 rfl ?_
      exact ⟨rfl, rfl⟩
    · refine x_tsw (t := 54) f_174_1 (by decide) (off := 53) (by decide) (by decide) ?_
      refine x_aload_n f_174_54 rfl ?_
      refine x_getI f_174_55 S.k33 (by decide) ?_
      refine x_retI f_174_58 rfl ?_
      exact ⟨rfl, rfl⟩
    · refine x_tsw (t := 59) f_174_1 (by decide) (off := 58) (by decide) (by decide) ?_
      refine x_aload_n f_174_59 rfl ?_
      refine x_getI f_174_60 S.k33 (by decide) ?_
      refine x_retI f_174_63 rfl ?_
      exact ⟨rfl, rfl⟩
    · refine x_tsw (t := 64) f_174_1 (by decide) (off := 63) (by decide) (by decide) ?_
      refine x_aload_n f_174_64 rfl ?_
      refine x_getI f_174_65 S.k33 (by decide) ?_
      refine x_retI f_174_68 rfl ?_
      exact ⟨rfl, rfl⟩
    · refine x_tsw (t := 69) f_174_1 (by decide) (off := 68) (by decide) (by decide) ?_
      refine x_aload_n f_174_69 rfl ?_
      refine x_getI f_174_70 S.k33 (by decide) ?_
      refine x_retI f_174_73 rfl ?_
      exact ⟨rfl, rfl⟩
    · refine x_tsw (t := 74) f_174_1 (by decide) (off := 73) (by decide) (by decide) ?_
      refine x_aload_n f_174_74 rfl ?_
      refine x_getI f_174_75 S.k33 (by decide) ?_
      refine x_retI f_174_78 rfl ?_
      exact ⟨rfl, rfl⟩
