/-- the place of a setting on an axis: 0 to 8 -/
def mm_pt (k a : Nat) : Nat := if a = 0 then k / 81 else if a = 1 then k / 9 % 9 else k % 9
theorem mm_set (t p l : Nat) : (81 : Int32) * (nI (t + 1) - 1) + 9 * (nI (p + 1) - 1) + nI (l + 1) - 1 = nI (81 * t + 9 * p + l) := by
  rw [nI_pred, nI_pred, show (81 : Int32) = nI 81 from rfl, show (9 : Int32) = nI 9 from rfl, pk_mul, pk_mul, nI_add, nI_add, show 81 * t + 9 * p + (l + 1) = 81 * t + 9 * p + l + 1 by omega, nI_pred]
theorem f_112_0 : mj_fetch 112 0 = some (.iload_n 0, 0, 0) := by decide +kernel
theorem f_112_1 : mj_fetch 112 1 = some (.iload_n 1, 0, 0) := by decide +kernel
theorem f_112_2 : mj_fetch 112 2 = some (.if_icmp .lt 12, 0, 0) := by decide +kernel
theorem f_112_5 : mj_fetch 112 5 = some (.iload_n 0, 0, 0) := by decide +kernel
theorem f_112_6 : mj_fetch 112 6 = some (.iload_n 2, 0, 0) := by decide +kernel
theorem f_112_7 : mj_fetch 112 7 = some (.if_icmp .gt 7, 0, 0) := by decide +kernel
theorem f_112_10 : mj_fetch 112 10 = some (.iconst 1, 0, 0) := by decide +kernel
theorem f_112_11 : mj_fetch 112 11 = some (.goto 4, 0, 0) := by decide +kernel
theorem f_112_14 : mj_fetch 112 14 = some (.iconst 0, 0, 0) := by decide +kernel
theorem f_112_15 : mj_fetch 112 15 = some (.ireturn, 0, 0) := by decide +kernel
theorem f_116_0 : mj_fetch 116 0 = some (.iload_n 1, 0, 0) := by decide +kernel
theorem f_116_1 : mj_fetch 116 1 = some (.iconst 0, 0, 0) := by decide +kernel
theorem f_116_2 : mj_fetch 116 2 = some (.aload_n 0, 0, 0) := by decide +kernel
theorem f_116_3 : mj_fetch 116 3 = some (.getfield 107, 11, 7) := by decide +kernel
theorem f_116_6 : mj_fetch 116 6 = some (.iconst 1, 0, 0) := by decide +kernel
theorem f_116_7 : mj_fetch 116 7 = some (.isub, 0, 0) := by decide +kernel
theorem f_116_8 : mj_fetch 116 8 = some (.invokestatic 100, 112, 0) := by decide +kernel
theorem f_116_11 : mj_fetch 116 11 = some (.ireturn, 0, 0) := by decide +kernel
theorem f_117_0 : mj_fetch 117 0 = some (.iload_n 1, 0, 0) := by decide +kernel
theorem f_117_1 : mj_fetch 117 1 = some (.iconst 0, 0, 0) := by decide +kernel
theorem f_117_2 : mj_fetch 117 2 = some (.aload_n 0, 0, 0) := by decide +kernel
theorem f_117_3 : mj_fetch 117 3 = some (.getfield 110, 11, 8) := by decide +kernel
theorem f_117_6 : mj_fetch 117 6 = some (.iconst 1, 0, 0) := by decide +kernel
theorem f_117_7 : mj_fetch 117 7 = some (.isub, 0, 0) := by decide +kernel
theorem f_117_8 : mj_fetch 117 8 = some (.invokestatic 100, 112, 0) := by decide +kernel
theorem f_117_11 : mj_fetch 117 11 = some (.ireturn, 0, 0) := by decide +kernel
theorem f_137_0 : mj_fetch 137 0 = some (.iload_n 1, 0, 0) := by decide +kernel
theorem f_137_1 : mj_fetch 137 1 = some (.iconst 0, 0, 0) := by decide +kernel
theorem f_137_2 : mj_fetch 137 2 = some (.aload_n 0, 0, 0) := by decide +kernel
theorem f_137_3 : mj_fetch 137 3 = some (.getfield 176, 11, 21) := by decide +kernel
theorem f_137_6 : mj_fetch 137 6 = some (.iconst 1, 0, 0) := by decide +kernel
theorem f_137_7 : mj_fetch 137 7 = some (.isub, 0, 0) := by decide +kernel
theorem f_137_8 : mj_fetch 137 8 = some (.invokestatic 100, 112, 0) := by decide +kernel
theorem f_137_11 : mj_fetch 137 11 = some (.ireturn, 0, 0) := by decide +kernel
theorem f_118_0 : mj_fetch 118 0 = some (.iload_n 0, 0, 0) := by decide +kernel
theorem f_118_1 : mj_fetch 118 1 = some (.iconst 0, 0, 0) := by decide +kernel
theorem f_118_2 : mj_fetch 118 2 = some (.sipush 728, 0, 0) := by decide +kernel
theorem f_118_5 : mj_fetch 118 5 = some (.invokestatic 100, 112, 0) := by decide +kernel
theorem f_118_8 : mj_fetch 118 8 = some (.ireturn, 0, 0) := by decide +kernel
theorem f_132_0 : mj_fetch 132 0 = some (.aload_n 0, 0, 0) := by decide +kernel
theorem f_132_1 : mj_fetch 132 1 = some (.iload_n 1, 0, 0) := by decide +kernel
theorem f_132_2 : mj_fetch 132 2 = some (.invokevirtual 126, 117, 0) := by decide +kernel
theorem f_132_5 : mj_fetch 132 5 = some (.ifCond .eq 14, 0, 0) := by decide +kernel
theorem f_132_8 : mj_fetch 132 8 = some (.iload_n 2, 0, 0) := by decide +kernel
theorem f_132_9 : mj_fetch 132 9 = some (.invokestatic 165, 118, 0) := by decide +kernel
theorem f_132_12 : mj_fetch 132 12 = some (.ifCond .eq 7, 0, 0) := by decide +kernel
theorem f_132_15 : mj_fetch 132 15 = some (.iconst 1, 0, 0) := by decide +kernel
theorem f_132_16 : mj_fetch 132 16 = some (.goto 4, 0, 0) := by decide +kernel
theorem f_132_19 : mj_fetch 132 19 = some (.iconst 0, 0, 0) := by decide +kernel
theorem f_132_20 : mj_fetch 132 20 = some (.ireturn, 0, 0) := by decide +kernel
theorem f_114_0 : mj_fetch 114 0 = some (.aload_n 0, 0, 0) := by decide +kernel
theorem f_114_1 : mj_fetch 114 1 = some (.getfield 96, 11, 1) := by decide +kernel
theorem f_114_4 : mj_fetch 114 4 = some (.ireturn, 0, 0) := by decide +kernel
theorem f_124_0 : mj_fetch 124 0 = some (.bipush 81, 0, 0) := by decide +kernel
theorem f_124_2 : mj_fetch 124 2 = some (.iload_n 0, 0, 0) := by decide +kernel
theorem f_124_3 : mj_fetch 124 3 = some (.iconst 1, 0, 0) := by decide +kernel
theorem f_124_4 : mj_fetch 124 4 = some (.isub, 0, 0) := by decide +kernel
theorem f_124_5 : mj_fetch 124 5 = some (.imul, 0, 0) := by decide +kernel
theorem f_124_6 : mj_fetch 124 6 = some (.bipush 9, 0, 0) := by decide +kernel
theorem f_124_8 : mj_fetch 124 8 = some (.iload_n 1, 0, 0) := by decide +kernel
theorem f_124_9 : mj_fetch 124 9 = some (.iconst 1, 0, 0) := by decide +kernel
theorem f_124_10 : mj_fetch 124 10 = some (.isub, 0, 0) := by decide +kernel
theorem f_124_11 : mj_fetch 124 11 = some (.imul, 0, 0) := by decide +kernel
theorem f_124_12 : mj_fetch 124 12 = some (.iadd, 0, 0) := by decide +kernel
theorem f_124_13 : mj_fetch 124 13 = some (.iload_n 2, 0, 0) := by decide +kernel
theorem f_124_14 : mj_fetch 124 14 = some (.iadd, 0, 0) := by decide +kernel
theorem f_124_15 : mj_fetch 124 15 = some (.iconst 1, 0, 0) := by decide +kernel
theorem f_124_16 : mj_fetch 124 16 = some (.isub, 0, 0) := by decide +kernel
theorem f_124_17 : mj_fetch 124 17 = some (.ireturn, 0, 0) := by decide +kernel
theorem f_126_0 : mj_fetch 126 0 = some (.iload_n 1, 0, 0) := by decide +kernel
theorem f_126_1 : mj_fetch 126 1 = some (.iload_n 2, 0, 0) := by decide +kernel
theorem f_126_2 : mj_fetch 126 2 = some (.isub, 0, 0) := by decide +kernel
theorem f_126_3 : mj_fetch 126 3 = some (.iload_n 3, 0, 0) := by decide +kernel
theorem f_126_4 : mj_fetch 126 4 = some (.imul, 0, 0) := by decide +kernel
theorem f_126_5 : mj_fetch 126 5 = some (.sipush 1000, 0, 0) := by decide +kernel
theorem f_126_8 : mj_fetch 126 8 = some (.idiv, 0, 0) := by decide +kernel
theorem f_126_9 : mj_fetch 126 9 = some (.ireturn, 0, 0) := by decide +kernel
theorem f_125_0 : mj_fetch 125 0 = some (.iload_n 1, 0, 0) := by decide +kernel
theorem f_125_1 : mj_fetch 125 1 = some (.ifCond .ne 10, 0, 0) := by decide +kernel
theorem f_125_4 : mj_fetch 125 4 = some (.iload_n 0, 0, 0) := by decide +kernel
theorem f_125_5 : mj_fetch 125 5 = some (.bipush 81, 0, 0) := by decide +kernel
theorem f_125_7 : mj_fetch 125 7 = some (.idiv, 0, 0) := by decide +kernel
theorem f_125_8 : mj_fetch 125 8 = some (.goto 22, 0, 0) := by decide +kernel
theorem f_125_11 : mj_fetch 125 11 = some (.iload_n 1, 0, 0) := by decide +kernel
theorem f_125_12 : mj_fetch 125 12 = some (.iconst 1, 0, 0) := by decide +kernel
theorem f_125_13 : mj_fetch 125 13 = some (.if_icmp .ne 13, 0, 0) := by decide +kernel
theorem f_125_16 : mj_fetch 125 16 = some (.iload_n 0, 0, 0) := by decide +kernel
theorem f_125_17 : mj_fetch 125 17 = some (.bipush 9, 0, 0) := by decide +kernel
theorem f_125_19 : mj_fetch 125 19 = some (.idiv, 0, 0) := by decide +kernel
theorem f_125_20 : mj_fetch 125 20 = some (.bipush 9, 0, 0) := by decide +kernel
theorem f_125_22 : mj_fetch 125 22 = some (.irem, 0, 0) := by decide +kernel
theorem f_125_23 : mj_fetch 125 23 = some (.goto 7, 0, 0) := by decide +kernel
theorem f_125_26 : mj_fetch 125 26 = some (.iload_n 0, 0, 0) := by decide +kernel
theorem f_125_27 : mj_fetch 125 27 = some (.bipush 9, 0, 0) := by decide +kernel
theorem f_125_29 : mj_fetch 125 29 = some (.irem, 0, 0) := by decide +kernel
theorem f_125_30 : mj_fetch 125 30 = some (.iconst 1, 0, 0) := by decide +kernel
theorem f_125_31 : mj_fetch 125 31 = some (.iadd, 0, 0) := by decide +kernel
theorem f_125_32 : mj_fetch 125 32 = some (.ireturn, 0, 0) := by decide +kernel
theorem f_115_0 : mj_fetch 115 0 = some (.iload_n 1, 0, 0) := by decide +kernel
theorem f_115_1 : mj_fetch 115 1 = some (.iconst 0, 0, 0) := by decide +kernel
theorem f_115_2 : mj_fetch 115 2 = some (.sipush 500, 0, 0) := by decide +kernel
theorem f_115_5 : mj_fetch 115 5 = some (.invokestatic 100, 112, 0) := by decide +kernel
theorem f_115_8 : mj_fetch 115 8 = some (.ifCond .eq 15, 0, 0) := by decide +kernel
theorem f_115_11 : mj_fetch 115 11 = some (.aload_n 0, 0, 0) := by decide +kernel
theorem f_115_12 : mj_fetch 115 12 = some (.getfield 104, 11, 0) := by decide +kernel
theorem f_115_15 : mj_fetch 115 15 = some (.iload_n 1, 0, 0) := by decide +kernel
theorem f_115_16 : mj_fetch 115 16 = some (.iadd, 0, 0) := by decide +kernel
theorem f_115_17 : mj_fetch 115 17 = some (.sipush 1000, 0, 0) := by decide +kernel
theorem f_115_20 : mj_fetch 115 20 = some (.if_icmp .le 5, 0, 0) := by decide +kernel
theorem f_115_23 : mj_fetch 115 23 = some (.iconst (-1), 0, 0) := by decide +kernel
theorem f_115_24 : mj_fetch 115 24 = some (.ireturn, 0, 0) := by decide +kernel
theorem f_115_25 : mj_fetch 115 25 = some (.aload_n 0, 0, 0) := by decide +kernel
theorem f_115_26 : mj_fetch 115 26 = some (.dup, 0, 0) := by decide +kernel
theorem f_115_27 : mj_fetch 115 27 = some (.getfield 104, 11, 0) := by decide +kernel
theorem f_115_30 : mj_fetch 115 30 = some (.iload_n 1, 0, 0) := by decide +kernel
theorem f_115_31 : mj_fetch 115 31 = some (.iadd, 0, 0) := by decide +kernel
theorem f_115_32 : mj_fetch 115 32 = some (.putfield 104, 11, 0) := by decide +kernel
theorem f_115_35 : mj_fetch 115 35 = some (.aload_n 0, 0, 0) := by decide +kernel
theorem f_115_36 : mj_fetch 115 36 = some (.getfield 104, 11, 0) := by decide +kernel
theorem f_115_39 : mj_fetch 115 39 = some (.ireturn, 0, 0) := by decide +kernel
theorem f_123_0 : mj_fetch 123 0 = some (.iload_n 1, 0, 0) := by decide +kernel
theorem f_123_1 : mj_fetch 123 1 = some (.iconst 1, 0, 0) := by decide +kernel
theorem f_123_2 : mj_fetch 123 2 = some (.bipush 9, 0, 0) := by decide +kernel
theorem f_123_4 : mj_fetch 123 4 = some (.invokestatic 100, 112, 0) := by decide +kernel
theorem f_123_7 : mj_fetch 123 7 = some (.ifCond .eq 32, 0, 0) := by decide +kernel
theorem f_123_10 : mj_fetch 123 10 = some (.iload_n 2, 0, 0) := by decide +kernel
theorem f_123_11 : mj_fetch 123 11 = some (.iconst 1, 0, 0) := by decide +kernel
theorem f_123_12 : mj_fetch 123 12 = some (.bipush 9, 0, 0) := by decide +kernel
theorem f_123_14 : mj_fetch 123 14 = some (.invokestatic 100, 112, 0) := by decide +kernel
theorem f_123_17 : mj_fetch 123 17 = some (.ifCond .eq 22, 0, 0) := by decide +kernel
theorem f_123_20 : mj_fetch 123 20 = some (.iload_n 3, 0, 0) := by decide +kernel
theorem f_123_21 : mj_fetch 123 21 = some (.iconst 1, 0, 0) := by decide +kernel
theorem f_123_22 : mj_fetch 123 22 = some (.bipush 9, 0, 0) := by decide +kernel
theorem f_123_24 : mj_fetch 123 24 = some (.invokestatic 100, 112, 0) := by decide +kernel
theorem f_123_27 : mj_fetch 123 27 = some (.ifCond .eq 12, 0, 0) := by decide +kernel
theorem f_123_30 : mj_fetch 123 30 = some (.iload_n 1, 0, 0) := by decide +kernel
theorem f_123_31 : mj_fetch 123 31 = some (.iload_n 2, 0, 0) := by decide +kernel
theorem f_123_32 : mj_fetch 123 32 = some (.iload_n 3, 0, 0) := by decide +kernel
theorem f_123_33 : mj_fetch 123 33 = some (.invokestatic 129, 124, 0) := by decide +kernel
theorem f_123_36 : mj_fetch 123 36 = some (.goto 4, 0, 0) := by decide +kernel
theorem f_123_39 : mj_fetch 123 39 = some (.iconst (-1), 0, 0) := by decide +kernel
theorem f_123_40 : mj_fetch 123 40 = some (.ireturn, 0, 0) := by decide +kernel
theorem f_152_0 : mj_fetch 152 0 = some (.iload_n 1, 0, 0) := by decide +kernel
theorem f_152_1 : mj_fetch 152 1 = some (.iconst 0, 0, 0) := by decide +kernel
theorem f_152_2 : mj_fetch 152 2 = some (.bipush 31, 0, 0) := by decide +kernel
theorem f_152_4 : mj_fetch 152 4 = some (.invokestatic 100, 112, 0) := by decide +kernel
theorem f_152_7 : mj_fetch 152 7 = some (.ifCond .eq 13, 0, 0) := by decide +kernel
theorem f_152_10 : mj_fetch 152 10 = some (.aload_n 0, 0, 0) := by decide +kernel
theorem f_152_11 : mj_fetch 152 11 = some (.getfield 222, 11, 28) := by decide +kernel
theorem f_152_14 : mj_fetch 152 14 = some (.sipush 500, 0, 0) := by decide +kernel
theorem f_152_17 : mj_fetch 152 17 = some (.if_icmp .ne 5, 0, 0) := by decide +kernel
theorem f_152_20 : mj_fetch 152 20 = some (.iconst (-1), 0, 0) := by decide +kernel
theorem f_152_21 : mj_fetch 152 21 = some (.ireturn, 0, 0) := by decide +kernel
theorem f_152_22 : mj_fetch 152 22 = some (.aload_n 0, 0, 0) := by decide +kernel
theorem f_152_23 : mj_fetch 152 23 = some (.getfield 63, 11, 27) := by decide +kernel
theorem f_152_26 : mj_fetch 152 26 = some (.aload_n 0, 0, 0) := by decide +kernel
theorem f_152_27 : mj_fetch 152 27 = some (.getfield 222, 11, 28) := by decide +kernel
theorem f_152_30 : mj_fetch 152 30 = some (.iload_n 1, 0, 0) := by decide +kernel
theorem f_152_31 : mj_fetch 152 31 = some (.iastore, 0, 0) := by decide +kernel
theorem f_152_32 : mj_fetch 152 32 = some (.aload_n 0, 0, 0) := by decide +kernel
theorem f_152_33 : mj_fetch 152 33 = some (.dup, 0, 0) := by decide +kernel
theorem f_152_34 : mj_fetch 152 34 = some (.getfield 222, 11, 28) := by decide +kernel
theorem f_152_37 : mj_fetch 152 37 = some (.iconst 1, 0, 0) := by decide +kernel
theorem f_152_38 : mj_fetch 152 38 = some (.iadd, 0, 0) := by decide +kernel
theorem f_152_39 : mj_fetch 152 39 = some (.putfield 222, 11, 28) := by decide +kernel
theorem f_152_42 : mj_fetch 152 42 = some (.aload_n 0, 0, 0) := by decide +kernel
theorem f_152_43 : mj_fetch 152 43 = some (.getfield 222, 11, 28) := by decide +kernel
theorem f_152_46 : mj_fetch 152 46 = some (.ireturn, 0, 0) := by decide +kernel
theorem f_154_0 : mj_fetch 154 0 = some (.iload_n 1, 0, 0) := by decide +kernel
theorem f_154_1 : mj_fetch 154 1 = some (.iconst 0, 0, 0) := by decide +kernel
theorem f_154_2 : mj_fetch 154 2 = some (.aload_n 0, 0, 0) := by decide +kernel
theorem f_154_3 : mj_fetch 154 3 = some (.getfield 222, 11, 28) := by decide +kernel
theorem f_154_6 : mj_fetch 154 6 = some (.iconst 1, 0, 0) := by decide +kernel
theorem f_154_7 : mj_fetch 154 7 = some (.isub, 0, 0) := by decide +kernel
theorem f_154_8 : mj_fetch 154 8 = some (.invokestatic 100, 112, 0) := by decide +kernel
theorem f_154_11 : mj_fetch 154 11 = some (.ifCond .eq 13, 0, 0) := by decide +kernel
theorem f_154_14 : mj_fetch 154 14 = some (.iload_n 2, 0, 0) := by decide +kernel
theorem f_154_15 : mj_fetch 154 15 = some (.iconst 0, 0, 0) := by decide +kernel
theorem f_154_16 : mj_fetch 154 16 = some (.bipush 31, 0, 0) := by decide +kernel
theorem f_154_18 : mj_fetch 154 18 = some (.invokestatic 100, 112, 0) := by decide +kernel
theorem f_154_21 : mj_fetch 154 21 = some (.ifCond .ne 5, 0, 0) := by decide +kernel
theorem f_154_24 : mj_fetch 154 24 = some (.iconst 0, 0, 0) := by decide +kernel
theorem f_154_25 : mj_fetch 154 25 = some (.ireturn, 0, 0) := by decide +kernel
theorem f_154_26 : mj_fetch 154 26 = some (.aload_n 0, 0, 0) := by decide +kernel
theorem f_154_27 : mj_fetch 154 27 = some (.getfield 63, 11, 27) := by decide +kernel
theorem f_154_30 : mj_fetch 154 30 = some (.iload_n 1, 0, 0) := by decide +kernel
theorem f_154_31 : mj_fetch 154 31 = some (.iload_n 2, 0, 0) := by decide +kernel
theorem f_154_32 : mj_fetch 154 32 = some (.iastore, 0, 0) := by decide +kernel
theorem f_154_33 : mj_fetch 154 33 = some (.iconst 1, 0, 0) := by decide +kernel
theorem f_154_34 : mj_fetch 154 34 = some (.ireturn, 0, 0) := by decide +kernel
theorem f_155_0 : mj_fetch 155 0 = some (.iload_n 1, 0, 0) := by decide +kernel
theorem f_155_1 : mj_fetch 155 1 = some (.ifCond .lt 11, 0, 0) := by decide +kernel
theorem f_155_4 : mj_fetch 155 4 = some (.iload_n 1, 0, 0) := by decide +kernel
theorem f_155_5 : mj_fetch 155 5 = some (.aload_n 0, 0, 0) := by decide +kernel
theorem f_155_6 : mj_fetch 155 6 = some (.getfield 222, 11, 28) := by decide +kernel
theorem f_155_9 : mj_fetch 155 9 = some (.if_icmp .le 5, 0, 0) := by decide +kernel
theorem f_155_12 : mj_fetch 155 12 = some (.iconst 0, 0, 0) := by decide +kernel
theorem f_155_13 : mj_fetch 155 13 = some (.ireturn, 0, 0) := by decide +kernel
theorem f_155_14 : mj_fetch 155 14 = some (.aload_n 0, 0, 0) := by decide +kernel
theorem f_155_15 : mj_fetch 155 15 = some (.iload_n 1, 0, 0) := by decide +kernel
theorem f_155_16 : mj_fetch 155 16 = some (.putfield 222, 11, 28) := by decide +kernel
theorem f_155_19 : mj_fetch 155 19 = some (.iconst 1, 0, 0) := by decide +kernel
theorem f_155_20 : mj_fetch 155 20 = some (.ireturn, 0, 0) := by decide +kernel
theorem f_170_0 : mj_fetch 170 0 = some (.aload_n 0, 0, 0) := by decide +kernel
theorem f_170_1 : mj_fetch 170 1 = some (.iconst 0, 0, 0) := by decide +kernel
theorem f_170_2 : mj_fetch 170 2 = some (.putfield 261, 11, 46) := by decide +kernel
theorem f_170_5 : mj_fetch 170 5 = some (.return_, 0, 0) := by decide +kernel
theorem f_120_0 : mj_fetch 120 0 = some (.aload_n 0, 0, 0) := by decide +kernel
theorem f_120_1 : mj_fetch 120 1 = some (.iload_n 1, 0, 0) := by decide +kernel
theorem f_120_2 : mj_fetch 120 2 = some (.invokevirtual 113, 116, 0) := by decide +kernel
theorem f_120_5 : mj_fetch 120 5 = some (.ifCond .eq 25, 0, 0) := by decide +kernel
theorem f_120_8 : mj_fetch 120 8 = some (.aload_n 0, 0, 0) := by decide +kernel
theorem f_120_9 : mj_fetch 120 9 = some (.iload_n 2, 0, 0) := by decide +kernel
theorem f_120_10 : mj_fetch 120 10 = some (.invokevirtual 113, 116, 0) := by decide +kernel
theorem f_120_13 : mj_fetch 120 13 = some (.ifCond .eq 17, 0, 0) := by decide +kernel
theorem f_120_16 : mj_fetch 120 16 = some (.aload_n 0, 0, 0) := by decide +kernel
theorem f_120_17 : mj_fetch 120 17 = some (.getfield 13, 11, 3) := by decide +kernel
theorem f_120_20 : mj_fetch 120 20 = some (.bipush 6, 0, 0) := by decide +kernel
theorem f_120_22 : mj_fetch 120 22 = some (.iload_n 1, 0, 0) := by decide +kernel
theorem f_120_23 : mj_fetch 120 23 = some (.imul, 0, 0) := by decide +kernel
theorem f_120_24 : mj_fetch 120 24 = some (.iload_n 2, 0, 0) := by decide +kernel
theorem f_120_25 : mj_fetch 120 25 = some (.iadd, 0, 0) := by decide +kernel
theorem f_120_26 : mj_fetch 120 26 = some (.baload, 0, 0) := by decide +kernel
theorem f_120_27 : mj_fetch 120 27 = some (.ifCond .eq 5, 0, 0) := by decide +kernel
theorem f_120_30 : mj_fetch 120 30 = some (.iconst 0, 0, 0) := by decide +kernel
theorem f_120_31 : mj_fetch 120 31 = some (.ireturn, 0, 0) := by decide +kernel
theorem f_120_32 : mj_fetch 120 32 = some (.aload_n 0, 0, 0) := by decide +kernel
theorem f_120_33 : mj_fetch 120 33 = some (.getfield 13, 11, 3) := by decide +kernel
theorem f_120_36 : mj_fetch 120 36 = some (.bipush 6, 0, 0) := by decide +kernel
theorem f_120_38 : mj_fetch 120 38 = some (.iload_n 1, 0, 0) := by decide +kernel
theorem f_120_39 : mj_fetch 120 39 = some (.imul, 0, 0) := by decide +kernel
theorem f_120_40 : mj_fetch 120 40 = some (.iload_n 2, 0, 0) := by decide +kernel
theorem f_120_41 : mj_fetch 120 41 = some (.iadd, 0, 0) := by decide +kernel
theorem f_120_42 : mj_fetch 120 42 = some (.iconst 1, 0, 0) := by decide +kernel
theorem f_120_43 : mj_fetch 120 43 = some (.bastore, 0, 0) := by decide +kernel
theorem f_120_44 : mj_fetch 120 44 = some (.aload_n 0, 0, 0) := by decide +kernel
theorem f_120_45 : mj_fetch 120 45 = some (.getfield 13, 11, 3) := by decide +kernel
theorem f_120_48 : mj_fetch 120 48 = some (.bipush 6, 0, 0) := by decide +kernel
theorem f_120_50 : mj_fetch 120 50 = some (.iload_n 2, 0, 0) := by decide +kernel
theorem f_120_51 : mj_fetch 120 51 = some (.imul, 0, 0) := by decide +kernel
theorem f_120_52 : mj_fetch 120 52 = some (.iload_n 1, 0, 0) := by decide +kernel
theorem f_120_53 : mj_fetch 120 53 = some (.iadd, 0, 0) := by decide +kernel
theorem f_120_54 : mj_fetch 120 54 = some (.iconst 1, 0, 0) := by decide +kernel
theorem f_120_55 : mj_fetch 120 55 = some (.bastore, 0, 0) := by decide +kernel
theorem f_120_56 : mj_fetch 120 56 = some (.iconst 1, 0, 0) := by decide +kernel
theorem f_120_57 : mj_fetch 120 57 = some (.ireturn, 0, 0) := by decide +kernel
theorem f_122_0 : mj_fetch 122 0 = some (.aload_n 0, 0, 0) := by decide +kernel
theorem f_122_1 : mj_fetch 122 1 = some (.aload_n 0, 0, 0) := by decide +kernel
theorem f_122_2 : mj_fetch 122 2 = some (.iload_n 1, 0, 0) := by decide +kernel
theorem f_122_3 : mj_fetch 122 3 = some (.invokevirtual 126, 117, 0) := by decide +kernel
theorem f_122_6 : mj_fetch 122 6 = some (.ifCond .eq 17, 0, 0) := by decide +kernel
theorem f_122_9 : mj_fetch 122 9 = some (.iload_n 2, 0, 0) := by decide +kernel
theorem f_122_10 : mj_fetch 122 10 = some (.iconst 0, 0, 0) := by decide +kernel
theorem f_122_11 : mj_fetch 122 11 = some (.bipush 8, 0, 0) := by decide +kernel
theorem f_122_13 : mj_fetch 122 13 = some (.invokestatic 100, 112, 0) := by decide +kernel
theorem f_122_16 : mj_fetch 122 16 = some (.ifCond .eq 7, 0, 0) := by decide +kernel
theorem f_122_19 : mj_fetch 122 19 = some (.iconst 0, 0, 0) := by decide +kernel
theorem f_122_20 : mj_fetch 122 20 = some (.goto 4, 0, 0) := by decide +kernel
theorem f_122_23 : mj_fetch 122 23 = some (.iconst 1, 0, 0) := by decide +kernel
theorem f_122_24 : mj_fetch 122 24 = some (.putfield 96, 11, 1) := by decide +kernel
theorem f_122_27 : mj_fetch 122 27 = some (.aload_n 0, 0, 0) := by decide +kernel
theorem f_122_28 : mj_fetch 122 28 = some (.getfield 96, 11, 1) := by decide +kernel
theorem f_122_31 : mj_fetch 122 31 = some (.iconst 1, 0, 0) := by decide +kernel
theorem f_122_32 : mj_fetch 122 32 = some (.if_icmp .ne 7, 0, 0) := by decide +kernel
theorem f_122_35 : mj_fetch 122 35 = some (.iconst 0, 0, 0) := by decide +kernel
theorem f_122_36 : mj_fetch 122 36 = some (.goto 14, 0, 0) := by decide +kernel
theorem f_122_39 : mj_fetch 122 39 = some (.aload_n 0, 0, 0) := by decide +kernel
theorem f_122_40 : mj_fetch 122 40 = some (.getfield 17, 11, 4) := by decide +kernel
theorem f_122_43 : mj_fetch 122 43 = some (.bipush 9, 0, 0) := by decide +kernel
theorem f_122_45 : mj_fetch 122 45 = some (.iload_n 1, 0, 0) := by decide +kernel
theorem f_122_46 : mj_fetch 122 46 = some (.imul, 0, 0) := by decide +kernel
theorem f_122_47 : mj_fetch 122 47 = some (.iload_n 2, 0, 0) := by decide +kernel
theorem f_122_48 : mj_fetch 122 48 = some (.iadd, 0, 0) := by decide +kernel
theorem f_122_49 : mj_fetch 122 49 = some (.iaload, 0, 0) := by decide +kernel
theorem f_122_50 : mj_fetch 122 50 = some (.ireturn, 0, 0) := by decide +kernel
theorem f_163_0 : mj_fetch 163 0 = some (.aload_n 0, 0, 0) := by decide +kernel
theorem f_163_1 : mj_fetch 163 1 = some (.iload_n 1, 0, 0) := by decide +kernel
theorem f_163_2 : mj_fetch 163 2 = some (.iload_n 2, 0, 0) := by decide +kernel
theorem f_163_3 : mj_fetch 163 3 = some (.invokevirtual 168, 132, 0) := by decide +kernel
theorem f_163_6 : mj_fetch 163 6 = some (.ifCond .eq 12, 0, 0) := by decide +kernel
theorem f_163_9 : mj_fetch 163 9 = some (.aload_n 0, 0, 0) := by decide +kernel
theorem f_163_10 : mj_fetch 163 10 = some (.getfield 252, 11, 40) := by decide +kernel
theorem f_163_13 : mj_fetch 163 13 = some (.bipush 60, 0, 0) := by decide +kernel
theorem f_163_15 : mj_fetch 163 15 = some (.if_icmp .ne 5, 0, 0) := by decide +kernel
theorem f_163_18 : mj_fetch 163 18 = some (.iconst (-1), 0, 0) := by decide +kernel
theorem f_163_19 : mj_fetch 163 19 = some (.ireturn, 0, 0) := by decide +kernel
theorem f_163_20 : mj_fetch 163 20 = some (.aload_n 0, 0, 0) := by decide +kernel
theorem f_163_21 : mj_fetch 163 21 = some (.getfield 66, 11, 34) := by decide +kernel
theorem f_163_24 : mj_fetch 163 24 = some (.aload_n 0, 0, 0) := by decide +kernel
theorem f_163_25 : mj_fetch 163 25 = some (.getfield 252, 11, 40) := by decide +kernel
theorem f_163_28 : mj_fetch 163 28 = some (.iload_n 1, 0, 0) := by decide +kernel
theorem f_163_29 : mj_fetch 163 29 = some (.iastore, 0, 0) := by decide +kernel
theorem f_163_30 : mj_fetch 163 30 = some (.aload_n 0, 0, 0) := by decide +kernel
theorem f_163_31 : mj_fetch 163 31 = some (.getfield 69, 11, 35) := by decide +kernel
theorem f_163_34 : mj_fetch 163 34 = some (.aload_n 0, 0, 0) := by decide +kernel
theorem f_163_35 : mj_fetch 163 35 = some (.getfield 252, 11, 40) := by decide +kernel
theorem f_163_38 : mj_fetch 163 38 = some (.iload_n 2, 0, 0) := by decide +kernel
theorem f_163_39 : mj_fetch 163 39 = some (.iastore, 0, 0) := by decide +kernel
theorem f_163_40 : mj_fetch 163 40 = some (.aload_n 0, 0, 0) := by decide +kernel
theorem f_163_41 : mj_fetch 163 41 = some (.getfield 72, 11, 36) := by decide +kernel
theorem f_163_44 : mj_fetch 163 44 = some (.aload_n 0, 0, 0) := by decide +kernel
theorem f_163_45 : mj_fetch 163 45 = some (.getfield 252, 11, 40) := by decide +kernel
theorem f_163_48 : mj_fetch 163 48 = some (.aload_n 0, 0, 0) := by decide +kernel
theorem f_163_49 : mj_fetch 163 49 = some (.getfield 104, 11, 0) := by decide +kernel
theorem f_163_52 : mj_fetch 163 52 = some (.iastore, 0, 0) := by decide +kernel
theorem f_163_53 : mj_fetch 163 53 = some (.aload_n 0, 0, 0) := by decide +kernel
theorem f_163_54 : mj_fetch 163 54 = some (.dup, 0, 0) := by decide +kernel
theorem f_163_55 : mj_fetch 163 55 = some (.getfield 252, 11, 40) := by decide +kernel
theorem f_163_58 : mj_fetch 163 58 = some (.iconst 1, 0, 0) := by decide +kernel
theorem f_163_59 : mj_fetch 163 59 = some (.iadd, 0, 0) := by decide +kernel
theorem f_163_60 : mj_fetch 163 60 = some (.putfield 252, 11, 40) := by decide +kernel
theorem f_163_63 : mj_fetch 163 63 = some (.aload_n 0, 0, 0) := by decide +kernel
theorem f_163_64 : mj_fetch 163 64 = some (.getfield 252, 11, 40) := by decide +kernel
theorem f_163_67 : mj_fetch 163 67 = some (.iconst 1, 0, 0) := by decide +kernel
theorem f_163_68 : mj_fetch 163 68 = some (.isub, 0, 0) := by decide +kernel
theorem f_163_69 : mj_fetch 163 69 = some (.ireturn, 0, 0) := by decide +kernel
theorem f_164_0 : mj_fetch 164 0 = some (.iload_n 1, 0, 0) := by decide +kernel
theorem f_164_1 : mj_fetch 164 1 = some (.iconst 0, 0, 0) := by decide +kernel
theorem f_164_2 : mj_fetch 164 2 = some (.aload_n 0, 0, 0) := by decide +kernel
theorem f_164_3 : mj_fetch 164 3 = some (.getfield 252, 11, 40) := by decide +kernel
theorem f_164_6 : mj_fetch 164 6 = some (.iconst 1, 0, 0) := by decide +kernel
theorem f_164_7 : mj_fetch 164 7 = some (.isub, 0, 0) := by decide +kernel
theorem f_164_8 : mj_fetch 164 8 = some (.invokestatic 100, 112, 0) := by decide +kernel
theorem f_164_11 : mj_fetch 164 11 = some (.ifCond .eq 12, 0, 0) := by decide +kernel
theorem f_164_14 : mj_fetch 164 14 = some (.aload_n 0, 0, 0) := by decide +kernel
theorem f_164_15 : mj_fetch 164 15 = some (.getfield 255, 11, 41) := by decide +kernel
theorem f_164_18 : mj_fetch 164 18 = some (.bipush 100, 0, 0) := by decide +kernel
theorem f_164_20 : mj_fetch 164 20 = some (.if_icmp .ne 5, 0, 0) := by decide +kernel
theorem f_164_23 : mj_fetch 164 23 = some (.iconst 0, 0, 0) := by decide +kernel
theorem f_164_24 : mj_fetch 164 24 = some (.ireturn, 0, 0) := by decide +kernel
theorem f_164_25 : mj_fetch 164 25 = some (.aload_n 0, 0, 0) := by decide +kernel
theorem f_164_26 : mj_fetch 164 26 = some (.getfield 75, 11, 37) := by decide +kernel
theorem f_164_29 : mj_fetch 164 29 = some (.aload_n 0, 0, 0) := by decide +kernel
theorem f_164_30 : mj_fetch 164 30 = some (.getfield 255, 11, 41) := by decide +kernel
theorem f_164_33 : mj_fetch 164 33 = some (.iload_n 1, 0, 0) := by decide +kernel
theorem f_164_34 : mj_fetch 164 34 = some (.iastore, 0, 0) := by decide +kernel
theorem f_164_35 : mj_fetch 164 35 = some (.aload_n 0, 0, 0) := by decide +kernel
theorem f_164_36 : mj_fetch 164 36 = some (.getfield 78, 11, 38) := by decide +kernel
theorem f_164_39 : mj_fetch 164 39 = some (.aload_n 0, 0, 0) := by decide +kernel
theorem f_164_40 : mj_fetch 164 40 = some (.getfield 255, 11, 41) := by decide +kernel
theorem f_164_43 : mj_fetch 164 43 = some (.iload_n 2, 0, 0) := by decide +kernel
theorem f_164_44 : mj_fetch 164 44 = some (.bastore, 0, 0) := by decide +kernel
theorem f_164_45 : mj_fetch 164 45 = some (.aload_n 0, 0, 0) := by decide +kernel
theorem f_164_46 : mj_fetch 164 46 = some (.getfield 81, 11, 39) := by decide +kernel
theorem f_164_49 : mj_fetch 164 49 = some (.aload_n 0, 0, 0) := by decide +kernel
theorem f_164_50 : mj_fetch 164 50 = some (.getfield 255, 11, 41) := by decide +kernel
theorem f_164_53 : mj_fetch 164 53 = some (.aload_n 0, 0, 0) := by decide +kernel
theorem f_164_54 : mj_fetch 164 54 = some (.getfield 104, 11, 0) := by decide +kernel
theorem f_164_57 : mj_fetch 164 57 = some (.iastore, 0, 0) := by decide +kernel
theorem f_164_58 : mj_fetch 164 58 = some (.aload_n 0, 0, 0) := by decide +kernel
theorem f_164_59 : mj_fetch 164 59 = some (.dup, 0, 0) := by decide +kernel
theorem f_164_60 : mj_fetch 164 60 = some (.getfield 255, 11, 41) := by decide +kernel
theorem f_164_63 : mj_fetch 164 63 = some (.iconst 1, 0, 0) := by decide +kernel
theorem f_164_64 : mj_fetch 164 64 = some (.iadd, 0, 0) := by decide +kernel
theorem f_164_65 : mj_fetch 164 65 = some (.putfield 255, 11, 41) := by decide +kernel
theorem f_164_68 : mj_fetch 164 68 = some (.iconst 1, 0, 0) := by decide +kernel
theorem f_164_69 : mj_fetch 164 69 = some (.ireturn, 0, 0) := by decide +kernel
theorem f_169_0 : mj_fetch 169 0 = some (.aload_n 0, 0, 0) := by decide +kernel
theorem f_169_1 : mj_fetch 169 1 = some (.iload_n 1, 0, 0) := by decide +kernel
theorem f_169_2 : mj_fetch 169 2 = some (.iload_n 2, 0, 0) := by decide +kernel
theorem f_169_3 : mj_fetch 169 3 = some (.invokevirtual 168, 132, 0) := by decide +kernel
theorem f_169_6 : mj_fetch 169 6 = some (.ifCond .eq 12, 0, 0) := by decide +kernel
theorem f_169_9 : mj_fetch 169 9 = some (.aload_n 0, 0, 0) := by decide +kernel
theorem f_169_10 : mj_fetch 169 10 = some (.getfield 261, 11, 46) := by decide +kernel
theorem f_169_13 : mj_fetch 169 13 = some (.bipush 8, 0, 0) := by decide +kernel
theorem f_169_15 : mj_fetch 169 15 = some (.if_icmp .ne 5, 0, 0) := by decide +kernel
theorem f_169_18 : mj_fetch 169 18 = some (.iconst (-1), 0, 0) := by decide +kernel
theorem f_169_19 : mj_fetch 169 19 = some (.ireturn, 0, 0) := by decide +kernel
theorem f_169_20 : mj_fetch 169 20 = some (.aload_n 0, 0, 0) := by decide +kernel
theorem f_169_21 : mj_fetch 169 21 = some (.getfield 84, 11, 42) := by decide +kernel
theorem f_169_24 : mj_fetch 169 24 = some (.aload_n 0, 0, 0) := by decide +kernel
theorem f_169_25 : mj_fetch 169 25 = some (.getfield 261, 11, 46) := by decide +kernel
theorem f_169_28 : mj_fetch 169 28 = some (.iload_n 1, 0, 0) := by decide +kernel
theorem f_169_29 : mj_fetch 169 29 = some (.iastore, 0, 0) := by decide +kernel
theorem f_169_30 : mj_fetch 169 30 = some (.aload_n 0, 0, 0) := by decide +kernel
theorem f_169_31 : mj_fetch 169 31 = some (.getfield 87, 11, 43) := by decide +kernel
theorem f_169_34 : mj_fetch 169 34 = some (.aload_n 0, 0, 0) := by decide +kernel
theorem f_169_35 : mj_fetch 169 35 = some (.getfield 261, 11, 46) := by decide +kernel
theorem f_169_38 : mj_fetch 169 38 = some (.iload_n 2, 0, 0) := by decide +kernel
theorem f_169_39 : mj_fetch 169 39 = some (.iastore, 0, 0) := by decide +kernel
theorem f_169_40 : mj_fetch 169 40 = some (.aload_n 0, 0, 0) := by decide +kernel
theorem f_169_41 : mj_fetch 169 41 = some (.dup, 0, 0) := by decide +kernel
theorem f_169_42 : mj_fetch 169 42 = some (.getfield 261, 11, 46) := by decide +kernel
theorem f_169_45 : mj_fetch 169 45 = some (.iconst 1, 0, 0) := by decide +kernel
theorem f_169_46 : mj_fetch 169 46 = some (.iadd, 0, 0) := by decide +kernel
theorem f_169_47 : mj_fetch 169 47 = some (.putfield 261, 11, 46) := by decide +kernel
theorem f_169_50 : mj_fetch 169 50 = some (.aload_n 0, 0, 0) := by decide +kernel
theorem f_169_51 : mj_fetch 169 51 = some (.getfield 261, 11, 46) := by decide +kernel
theorem f_169_54 : mj_fetch 169 54 = some (.iconst 1, 0, 0) := by decide +kernel
theorem f_169_55 : mj_fetch 169 55 = some (.isub, 0, 0) := by decide +kernel
theorem f_169_56 : mj_fetch 169 56 = some (.ireturn, 0, 0) := by decide +kernel
set_option maxRecDepth 20000 in
theorem c_in (h : mj_H) (v lo hi : Int32) : mxc 0 112 [.int v, .int lo, .int hi] h (fun r h' => r = some (.int (if lo ≤ v ∧ v ≤ hi then 1 else 0)) ∧ h' = h) := by
  show mx 0 112 0 [.int v, .int lo, .int hi] [] h _
  refine x_iload_n f_112_0 rfl ?_
  refine x_iload_n f_112_1 rfl ?_
  refine x_icmp_lt (t := 14) f_112_2 (by decide) (fun c_1 => ?_) (fun c_1 => ?_)
  · refine x_iconst (v := nI 0) f_112_14 (by decide) ?_
    refine x_retZ f_112_15 rfl (by decide) ?_
    exact ⟨mj_if0 (by simp only [Int32.lt_iff_toInt_lt, Int32.le_iff_toInt_le, ← Int32.toInt_inj] at *; omega), rfl⟩
  · refine x_iload_n f_112_5 rfl ?_
    refine x_iload_n f_112_6 rfl ?_
    refine x_icmp_gt (t := 14) f_112_7 (by decide) (fun c_2 => ?_) (fun c_2 => ?_)
    · refine x_iconst (v := nI 0) f_112_14 (by decide) ?_
      refine x_retZ f_112_15 rfl (by decide) ?_
      exact ⟨mj_if0 (by simp only [Int32.lt_iff_toInt_lt, Int32.le_iff_toInt_le, ← Int32.toInt_inj] at *; omega), rfl⟩
    · refine x_iconst (v := nI 1) f_112_10 (by decide) ?_
      refine x_goto (t := 15) f_112_11 (by decide) ?_
      refine x_retZ f_112_15 rfl (by decide) ?_
      exact ⟨mj_if1 (by simp only [Int32.lt_iff_toInt_lt, Int32.le_iff_toInt_le, ← Int32.toInt_inj] at *; omega), rfl⟩
theorem c_inM (h : mj_H) (v : Int32) {n : Nat} (hn : n < 2 ^ 30) : mxc 0 112 [.int v, .int (nI 0), .int (nI n - nI 1)] h (fun r h' => r = some (.int (if mIn v n then 1 else 0)) ∧ h' = h) := by
  refine (c_in h v (nI 0) (nI n - nI 1)).post ?_
  rintro _ _ ⟨rfl, rfl⟩
  refine ⟨?_, rfl⟩
  simp only [show nI 0 = (0 : Int32) from rfl, show nI 1 = (1 : Int32) from rfl, mIn_iff hn]
set_option maxRecDepth 20000 in
theorem c_isStuff {h : mj_H} (S : SM h) (s : Int32) {n : Nat} (hn : n < 2 ^ 30) (e : mj_I h 33 7 = nI n) : mxc 1 116 [.ref 33, .int s] h (fun r h' => r = some (.int (if mIn s n then 1 else 0)) ∧ h' = h) := by
  show mx 1 116 0 [.ref 33, .int s] [] h _
  refine x_iload_n f_116_0 rfl ?_
  refine x_iconst (v := nI 0) f_116_1 (by decide) ?_
  refine x_aload_n f_116_2 rfl ?_
  refine x_getI f_116_3 S.k33 (by decide) ?_
  refine x_iconst (v := nI 1) f_116_6 (by decide) ?_
  refine x_isub f_116_7 ?_
  refine x_callSe f_116_8 (c_in _ _ _ _) (by omega) rfl rfl rfl (Nat.le_of_ble_eq_true rfl) rfl ?_
  refine x_retZ f_116_11 rfl mj_b01 ?_
  refine ⟨?_, rfl⟩
  rw [e]
  simp only [show nI 0 = (0 : Int32) from rfl, show nI 1 = (1 : Int32) from rfl, mIn_iff hn]
set_option maxRecDepth 20000 in
theorem c_isJob {h : mj_H} (S : SM h) (s : Int32) {n : Nat} (hn : n < 2 ^ 30) (e : mj_I h 33 8 = nI n) : mxc 1 117 [.ref 33, .int s] h (fun r h' => r = some (.int (if mIn s n then 1 else 0)) ∧ h' = h) := by
  show mx 1 117 0 [.ref 33, .int s] [] h _
  refine x_iload_n f_117_0 rfl ?_
  refine x_iconst (v := nI 0) f_117_1 (by decide) ?_
  refine x_aload_n f_117_2 rfl ?_
  refine x_getI f_117_3 S.k33 (by decide) ?_
  refine x_iconst (v := nI 1) f_117_6 (by decide) ?_
  refine x_isub f_117_7 ?_
  refine x_callSe f_117_8 (c_in _ _ _ _) (by omega) rfl rfl rfl (Nat.le_of_ble_eq_true rfl) rfl ?_
  refine x_retZ f_117_11 rfl mj_b01 ?_
  refine ⟨?_, rfl⟩
  rw [e]
  simp only [show nI 0 = (0 : Int32) from rfl, show nI 1 = (1 : Int32) from rfl, mIn_iff hn]
set_option maxRecDepth 20000 in
theorem c_isWindow {h : mj_H} (S : SM h) (s : Int32) {n : Nat} (hn : n < 2 ^ 30) (e : mj_I h 33 21 = nI n) : mxc 1 137 [.ref 33, .int s] h (fun r h' => r = some (.int (if mIn s n then 1 else 0)) ∧ h' = h) := by
  show mx 1 137 0 [.ref 33, .int s] [] h _
  refine x_iload_n f_137_0 rfl ?_
  refine x_iconst (v := nI 0) f_137_1 (by decide) ?_
  refine x_aload_n f_137_2 rfl ?_
  refine x_getI f_137_3 S.k33 (by decide) ?_
  refine x_iconst (v := nI 1) f_137_6 (by decide) ?_
  refine x_isub f_137_7 ?_
  refine x_callSe f_137_8 (c_in _ _ _ _) (by omega) rfl rfl rfl (Nat.le_of_ble_eq_true rfl) rfl ?_
  refine x_retZ f_137_11 rfl mj_b01 ?_
  refine ⟨?_, rfl⟩
  rw [e]
  simp only [show nI 0 = (0 : Int32) from rfl, show nI 1 = (1 : Int32) from rfl, mIn_iff hn]
set_option maxRecDepth 20000 in
theorem c_isSetting (h : mj_H) (s : Int32) : mxc 1 118 [.int s] h (fun r h' => r = some (.int (if mIn s 729 then 1 else 0)) ∧ h' = h) := by
  show mx 1 118 0 [.int s] [] h _
  refine x_iload_n f_118_0 rfl ?_
  refine x_iconst (v := nI 0) f_118_1 (by decide) ?_
  refine x_sipush (v := nI 728) f_118_2 (by decide) ?_
  refine x_callSe f_118_5 (c_in _ _ _ _) (by omega) rfl rfl rfl (Nat.le_of_ble_eq_true rfl) rfl ?_
  refine x_retZ f_118_8 rfl mj_b01 ?_
  refine ⟨?_, rfl⟩
  simp only [show nI 0 = (0 : Int32) from rfl, show nI 728 = nI 729 - 1 by decide, mIn_iff (s := s) (n := 729) (by decide)]
set_option maxRecDepth 20000 in
theorem c_isAsked {h : mj_H} (S : SM h) (j s : Int32) {jm : Nat} (h_jm : jm < 2 ^ 30) (e_jm : mj_I h 33 8 = nI jm) : mxc 2 132 [.ref 33, .int j, .int s] h (fun r h' => r = some (.int (if mIn j jm ∧ mIn s 729 then 1 else 0)) ∧ h' = h) := by
  show mx 2 132 0 [.ref 33, .int j, .int s] [] h _
  refine x_aload_n f_132_0 rfl ?_
  refine x_iload_n f_132_1 rfl ?_
  refine x_callVe f_132_2 (c_isJob S _ h_jm e_jm) (by omega) S.k33 (by decide) rfl rfl (Nat.le_of_ble_eq_true rfl) rfl ?_
  refine x_ifB_eq (t := 19) f_132_5 (by decide) (fun c_1 => ?_) (fun c_1 => ?_)
  · refine x_iconst (v := nI 0) f_132_19 (by decide) ?_
    refine x_retZ f_132_20 rfl (by decide) ?_
    exact ⟨mj_if0 (fun q => c_1 q.1), rfl⟩
  · refine x_iload_n f_132_8 rfl ?_
    refine x_callSe f_132_9 (c_isSetting _ _) (by omega) rfl rfl rfl (Nat.le_of_ble_eq_true rfl) rfl ?_
    refine x_ifB_eq (t := 19) f_132_12 (by decide) (fun c_2 => ?_) (fun c_2 => ?_)
    · refine x_iconst (v := nI 0) f_132_19 (by decide) ?_
      refine x_retZ f_132_20 rfl (by decide) ?_
      exact ⟨mj_if0 (fun q => c_2 q.2), rfl⟩
    · refine x_iconst (v := nI 1) f_132_15 (by decide) ?_
      refine x_goto (t := 20) f_132_16 (by decide) ?_
      refine x_retZ f_132_20 rfl (by decide) ?_
      exact ⟨mj_if1 ⟨c_1, c_2⟩, rfl⟩
set_option maxRecDepth 20000 in
theorem c_thrown {h : mj_H} (S : SM h) : mxc 0 114 [.ref 33] h (fun r h' => r = some (.int (mj_I h 33 1)) ∧ h' = h) := by
  show mx 0 114 0 [.ref 33] [] h _
  refine x_aload_n f_114_0 rfl ?_
  refine x_getI f_114_1 S.k33 (by decide) ?_
  refine x_retI f_114_4 rfl ?_
  exact ⟨rfl, rfl⟩
set_option maxRecDepth 20000 in
theorem c_settingOf (h : mj_H) (t p l : Int32) : mxc 0 124 [.int t, .int p, .int l] h (fun r h' => r = some (.int (81 * (t - 1) + 9 * (p - 1) + l - 1)) ∧ h' = h) := by
  show mx 0 124 0 [.int t, .int p, .int l] [] h _
  refine x_bipush (v := nI 81) f_124_0 (by decide) ?_
  refine x_iload_n f_124_2 rfl ?_
  refine x_iconst (v := nI 1) f_124_3 (by decide) ?_
  refine x_isub f_124_4 ?_
  refine x_imul f_124_5 ?_
  refine x_bipush (v := nI 9) f_124_6 (by decide) ?_
  refine x_iload_n f_124_8 rfl ?_
  refine x_iconst (v := nI 1) f_124_9 (by decide) ?_
  refine x_isub f_124_10 ?_
  refine x_imul f_124_11 ?_
  refine x_iadd f_124_12 ?_
  refine x_iload_n f_124_13 rfl ?_
  refine x_iadd f_124_14 ?_
  refine x_iconst (v := nI 1) f_124_15 (by decide) ?_
  refine x_isub f_124_16 ?_
  refine x_retI f_124_17 rfl ?_
  exact ⟨rfl, rfl⟩
set_option maxRecDepth 20000 in
theorem c_led3 {h : mj_H} (x y z : Int32) (n : Nat) : mxc 0 126 [.ref 33, .int x, .int y, .int z] h (fun r h' => r = some (.int ((x - y) * z / 1000)) ∧ h' = h) := by
  show mx 0 126 0 [.ref 33, .int x, .int y, .int z] [] h _
  refine x_iload_n f_126_0 rfl ?_
  refine x_iload_n f_126_1 rfl ?_
  refine x_isub f_126_2 ?_
  refine x_iload_n f_126_3 rfl ?_
  refine x_imul f_126_4 ?_
  refine x_sipush (v := nI 1000) f_126_5 (by decide) ?_
  refine x_idiv f_126_8 (by decide) ?_
  refine x_retI f_126_9 rfl ?_
  exact ⟨rfl, rfl⟩
set_option maxRecDepth 20000 in
theorem c_part (h : mj_H) (k a : Nat) (hk : k < 729) (ha : a < 3) : mxc 0 125 [.int (nI k), .int (nI a)] h (fun r h' => r = some (.int (nI (mm_pt k a + 1))) ∧ h' = h) := by
  show mx 0 125 0 [.int (nI k), .int (nI a)] [] h _
  refine x_iload_n f_125_0 rfl ?_
  refine x_ifN_ne (t := 11) f_125_1 (by decide) (by omega) (fun c_1 => ?_) (fun c_1 => ?_)
  · refine x_iload_n f_125_11 rfl ?_
    refine x_iconst (v := nI 1) f_125_12 (by decide) ?_
    refine x_icmpN_ne (t := 26) f_125_13 (by decide) (by omega) (by decide) (fun c_2 => ?_) (fun c_2 => ?_)
    · refine x_iload_n f_125_26 rfl ?_
      refine x_bipush (v := nI 9) f_125_27 (by decide) ?_
      refine x_iremN f_125_29 (by omega) (by decide) (by decide) ?_
      refine x_iconst (v := nI 1) f_125_30 (by decide) ?_
      refine x_iaddN f_125_31 ?_
      refine x_retI f_125_32 rfl ?_
      exact ⟨by simp [mm_pt, *], rfl⟩
    · refine x_iload_n f_125_16 rfl ?_
      refine x_bipush (v := nI 9) f_125_17 (by decide) ?_
      refine x_idivN f_125_19 (by omega) (by decide) (by decide) ?_
      refine x_bipush (v := nI 9) f_125_20 (by decide) ?_
      refine x_iremN f_125_22 (by omega) (by decide) (by decide) ?_
      refine x_goto (t := 30) f_125_23 (by decide) ?_
      refine x_iconst (v := nI 1) f_125_30 (by decide) ?_
      refine x_iaddN f_125_31 ?_
      refine x_retI f_125_32 rfl ?_
      exact ⟨by simp [mm_pt, *], rfl⟩
  · refine x_iload_n f_125_4 rfl ?_
    refine x_bipush (v := nI 81) f_125_5 (by decide) ?_
    refine x_idivN f_125_7 (by omega) (by decide) (by decide) ?_
    refine x_goto (t := 30) f_125_8 (by decide) ?_
    refine x_iconst (v := nI 1) f_125_30 (by decide) ?_
    refine x_iaddN f_125_31 ?_
    refine x_retI f_125_32 rfl ?_
    exact ⟨by simp [mm_pt, *], rfl⟩
set_option maxRecDepth 20000 in
theorem c_days {h : mj_H} (S : SM h) (n : Int32) : mxc 1 115 [.ref 33, .int n] h (fun r h' => if (0 ≤ n ∧ n ≤ 500) ∧ mj_I h 33 0 + n ≤ 1000 then r = some (.int (mj_I h 33 0 + n)) ∧ h' = mj_setI h 33 0 (mj_I h 33 0 + n) else r = some (.int (-1)) ∧ h' = h) := by
  show mx 1 115 0 [.ref 33, .int n] [] h _
  refine x_iload_n f_115_0 rfl ?_
  refine x_iconst (v := nI 0) f_115_1 (by decide) ?_
  refine x_sipush (v := nI 500) f_115_2 (by decide) ?_
  refine x_callSe f_115_5 (c_in _ _ _ _) (by omega) rfl rfl rfl (Nat.le_of_ble_eq_true rfl) rfl ?_
  refine x_ifB_eq (t := 23) f_115_8 (by decide) (fun c_1 => ?_) (fun c_1 => ?_)
  · refine x_iconst (v := -1) f_115_23 (by decide) ?_
    refine x_retI f_115_24 rfl ?_
    exact mj_qF (by first | exact fun q => c_1 (q.1) | exact fun q => (q.1) c_1) ⟨rfl, rfl⟩
  · refine x_aload_n f_115_11 rfl ?_
    refine x_getI f_115_12 S.k33 (by decide) ?_
    refine x_iload_n f_115_15 rfl ?_
    refine x_iadd f_115_16 ?_
    refine x_sipush (v := nI 1000) f_115_17 (by decide) ?_
    refine x_icmp_le (t := 25) f_115_20 (by decide) (fun c_2 => ?_) (fun c_2 => ?_)
    · refine x_aload_n f_115_25 rfl ?_
      refine x_dup f_115_26 rfl ?_
      refine x_getI f_115_27 S.k33 (by decide) ?_
      refine x_iload_n f_115_30 rfl ?_
      refine x_iadd f_115_31 ?_
      refine x_putI f_115_32 S.k33 (by decide) ?_
      refine x_aload_n f_115_35 rfl ?_
      refine x_getI f_115_36 S.k33 (by decide) ?_
      refine x_topi (w := (mj_I h 33 0) + n) (mj_I_at _ _ _ _) ?_
      refine x_retI f_115_39 rfl ?_
      exact mj_qT ⟨c_1, c_2⟩ ⟨rfl, rfl⟩
    · refine x_iconst (v := -1) f_115_23 (by decide) ?_
      refine x_retI f_115_24 rfl ?_
      exact mj_qF (by first | exact fun q => c_2 (q.2) | exact fun q => (q.2) c_2) ⟨rfl, rfl⟩
set_option maxRecDepth 20000 in
theorem c_setting {h : mj_H} (S : SM h) (t p l : Int32) : mxc 1 123 [.ref 33, .int t, .int p, .int l] h (fun r h' => if (1 ≤ t ∧ t ≤ 9) ∧ (1 ≤ p ∧ p ≤ 9) ∧ (1 ≤ l ∧ l ≤ 9) then r = some (.int (81 * (t - 1) + 9 * (p - 1) + l - 1)) ∧ h' = h else r = some (.int (-1)) ∧ h' = h) := by
  show mx 1 123 0 [.ref 33, .int t, .int p, .int l] [] h _
  refine x_iload_n f_123_0 rfl ?_
  refine x_iconst (v := nI 1) f_123_1 (by decide) ?_
  refine x_bipush (v := nI 9) f_123_2 (by decide) ?_
  refine x_callSe f_123_4 (c_in _ _ _ _) (by omega) rfl rfl rfl (Nat.le_of_ble_eq_true rfl) rfl ?_
  refine x_ifB_eq (t := 39) f_123_7 (by decide) (fun c_1 => ?_) (fun c_1 => ?_)
  · refine x_iconst (v := -1) f_123_39 (by decide) ?_
    refine x_retI f_123_40 rfl ?_
    exact mj_qF (by first | exact fun q => c_1 (q.1) | exact fun q => (q.1) c_1) ⟨rfl, rfl⟩
  · refine x_iload_n f_123_10 rfl ?_
    refine x_iconst (v := nI 1) f_123_11 (by decide) ?_
    refine x_bipush (v := nI 9) f_123_12 (by decide) ?_
    refine x_callSe f_123_14 (c_in _ _ _ _) (by omega) rfl rfl rfl (Nat.le_of_ble_eq_true rfl) rfl ?_
    refine x_ifB_eq (t := 39) f_123_17 (by decide) (fun c_2 => ?_) (fun c_2 => ?_)
    · refine x_iconst (v := -1) f_123_39 (by decide) ?_
      refine x_retI f_123_40 rfl ?_
      exact mj_qF (by first | exact fun q => c_2 (q.2.1) | exact fun q => (q.2.1) c_2) ⟨rfl, rfl⟩
    · refine x_iload_n f_123_20 rfl ?_
      refine x_iconst (v := nI 1) f_123_21 (by decide) ?_
      refine x_bipush (v := nI 9) f_123_22 (by decide) ?_
      refine x_callSe f_123_24 (c_in _ _ _ _) (by omega) rfl rfl rfl (Nat.le_of_ble_eq_true rfl) rfl ?_
      refine x_ifB_eq (t := 39) f_123_27 (by decide) (fun c_3 => ?_) (fun c_3 => ?_)
      · refine x_iconst (v := -1) f_123_39 (by decide) ?_
        refine x_retI f_123_40 rfl ?_
        exact mj_qF (by first | exact fun q => c_3 (q.2.2) | exact fun q => (q.2.2) c_3) ⟨rfl, rfl⟩
      · refine x_iload_n f_123_30 rfl ?_
        refine x_iload_n f_123_31 rfl ?_
        refine x_iload_n f_123_32 rfl ?_
        refine x_callSe f_123_33 (c_settingOf _ _ _ _) (by omega) rfl rfl rfl (Nat.le_of_ble_eq_true rfl) rfl ?_
        refine x_goto (t := 40) f_123_36 (by decide) ?_
        refine x_retI f_123_40 rfl ?_
        exact mj_qT ⟨c_1, c_2, c_3⟩ ⟨rfl, rfl⟩
set_option maxRecDepth 20000 in
theorem c_tell {h : mj_H} (S : SM h) (v : Int32) {tm : Nat} (h_tm : tm ≤ 500) (e_tm : mj_I h 33 28 = nI tm) : mxc 1 152 [.ref 33, .int v] h (fun r h' => if (0 ≤ v ∧ v ≤ 31) ∧ ¬ tm = 500 then r = some (.int (nI (tm + 1))) ∧ h' = mj_setI (mj_setI h 51 tm v) 33 28 (nI (tm + 1)) else r = some (.int (-1)) ∧ h' = h) := by
  show mx 1 152 0 [.ref 33, .int v] [] h _
  refine x_iload_n f_152_0 rfl ?_
  refine x_iconst (v := nI 0) f_152_1 (by decide) ?_
  refine x_bipush (v := nI 31) f_152_2 (by decide) ?_
  refine x_callSe f_152_4 (c_in _ _ _ _) (by omega) rfl rfl rfl (Nat.le_of_ble_eq_true rfl) rfl ?_
  refine x_ifB_eq (t := 20) f_152_7 (by decide) (fun c_1 => ?_) (fun c_1 => ?_)
  · refine x_iconst (v := -1) f_152_20 (by decide) ?_
    refine x_retI f_152_21 rfl ?_
    exact mj_qF (by first | exact fun q => c_1 (q.1) | exact fun q => (q.1) c_1) ⟨rfl, rfl⟩
  · refine x_aload_n f_152_10 rfl ?_
    refine x_getI f_152_11 S.k33 (by decide) ?_
    refine x_topi (w := nI tm) e_tm ?_
    refine x_sipush (v := nI 500) f_152_14 (by decide) ?_
    refine x_icmpN_ne (t := 22) f_152_17 (by decide) (by omega) (by decide) (fun c_2 => ?_) (fun c_2 => ?_)
    · refine x_aload_n f_152_22 rfl ?_
      refine x_getR f_152_23 S.k33 (by decide) S.r27 ?_
      refine x_aload_n f_152_26 rfl ?_
      refine x_getI f_152_27 S.k33 (by decide) ?_
      refine x_topi (w := nI tm) e_tm ?_
      refine x_iload_n f_152_30 rfl ?_
      refine x_iast (j := tm) f_152_31 S.k51 (by decide) (by omega) (by decide) ?_
      refine x_aload_n f_152_32 rfl ?_
      refine x_dup f_152_33 rfl ?_
      refine x_getI f_152_34 S.k33 (by decide) ?_
      refine x_topi (w := nI tm) ((congrFun (mj_I_other (by decide)) _).trans (e_tm)) ?_
      refine x_iconst (v := nI 1) f_152_37 (by decide) ?_
      refine x_iaddN f_152_38 ?_
      refine x_putI f_152_39 S.k33 (by decide) ?_
      refine x_aload_n f_152_42 rfl ?_
      refine x_getI f_152_43 S.k33 (by decide) ?_
      refine x_topi (w := nI (tm + 1)) (mj_I_at _ _ _ _) ?_
      refine x_retI f_152_46 rfl ?_
      exact mj_qT ⟨c_1, c_2⟩ ⟨rfl, rfl⟩
    · refine x_iconst (v := -1) f_152_20 (by decide) ?_
      refine x_retI f_152_21 rfl ?_
      exact mj_qF (by first | exact fun q => c_2 (q.2) | exact fun q => (q.2) c_2) ⟨rfl, rfl⟩
set_option maxRecDepth 20000 in
theorem c_alter {h : mj_H} (S : SM h) (k v : Int32) {tm : Nat} (h_tm : tm ≤ 500) (e_tm : mj_I h 33 28 = nI tm) : mxc 1 154 [.ref 33, .int k, .int v] h (fun r h' => if mIn k tm ∧ (0 ≤ v ∧ v ≤ 31) then r = some (.int (nI 1)) ∧ h' = mj_setI h 51 k.toNatClampNeg v else r = some (.int (nI 0)) ∧ h' = h) := by
  show mx 1 154 0 [.ref 33, .int k, .int v] [] h _
  refine x_iload_n f_154_0 rfl ?_
  refine x_iconst (v := nI 0) f_154_1 (by decide) ?_
  refine x_aload_n f_154_2 rfl ?_
  refine x_getI f_154_3 S.k33 (by decide) ?_
  refine x_topi (w := nI tm) e_tm ?_
  refine x_iconst (v := nI 1) f_154_6 (by decide) ?_
  refine x_isub f_154_7 ?_
  refine x_callSe f_154_8 (c_inM _ _ (n := tm) (by omega)) (by omega) rfl rfl rfl (Nat.le_of_ble_eq_true rfl) rfl ?_
  refine x_ifB_eq (t := 24) f_154_11 (by decide) (fun c_1 => ?_) (fun c_1 => ?_)
  · refine x_iconst (v := nI 0) f_154_24 (by decide) ?_
    refine x_retZ f_154_25 rfl (by decide) ?_
    exact mj_qF (by first | exact fun q => c_1 (q.1) | exact fun q => (q.1) c_1) ⟨rfl, rfl⟩
  · refine x_iload_n f_154_14 rfl ?_
    refine x_iconst (v := nI 0) f_154_15 (by decide) ?_
    refine x_bipush (v := nI 31) f_154_16 (by decide) ?_
    refine x_callSe f_154_18 (c_in _ _ _ _) (by omega) rfl rfl rfl (Nat.le_of_ble_eq_true rfl) rfl ?_
    refine x_ifB_ne (t := 26) f_154_21 (by decide) (fun c_2 => ?_) (fun c_2 => ?_)
    · obtain ⟨j, h_j, rfl⟩ := mIn_of c_1 (by omega)
      simp only [nI_clamp (show j < 2 ^ 31 by omega)]
      refine x_aload_n f_154_26 rfl ?_
      refine x_getR f_154_27 S.k33 (by decide) S.r27 ?_
      refine x_iload_n f_154_30 rfl ?_
      refine x_iload_n f_154_31 rfl ?_
      refine x_iast (j := j) f_154_32 S.k51 (by decide) (by omega) (by decide) ?_
      refine x_iconst (v := nI 1) f_154_33 (by decide) ?_
      refine x_retZ f_154_34 rfl (by decide) ?_
      exact mj_qT ⟨c_1, c_2⟩ ⟨rfl, rfl⟩
    · refine x_iconst (v := nI 0) f_154_24 (by decide) ?_
      refine x_retZ f_154_25 rfl (by decide) ?_
      exact mj_qF (by first | exact fun q => c_2 (q.2) | exact fun q => (q.2) c_2) ⟨rfl, rfl⟩
set_option maxRecDepth 20000 in
theorem c_end {h : mj_H} (S : SM h) (n : Int32) : mxc 0 155 [.ref 33, .int n] h (fun r h' => if ¬ n < 0 ∧ n ≤ mj_I h 33 28 then r = some (.int (nI 1)) ∧ h' = mj_setI h 33 28 n else r = some (.int (nI 0)) ∧ h' = h) := by
  show mx 0 155 0 [.ref 33, .int n] [] h _
  refine x_iload_n f_155_0 rfl ?_
  refine x_if_lt (t := 12) f_155_1 (by decide) (fun c_1 => ?_) (fun c_1 => ?_)
  · refine x_iconst (v := nI 0) f_155_12 (by decide) ?_
    refine x_retZ f_155_13 rfl (by decide) ?_
    exact mj_qF (by first | exact fun q => c_1 (q.1) | exact fun q => (q.1) c_1) ⟨rfl, rfl⟩
  · refine x_iload_n f_155_4 rfl ?_
    refine x_aload_n f_155_5 rfl ?_
    refine x_getI f_155_6 S.k33 (by decide) ?_
    refine x_icmp_le (t := 14) f_155_9 (by decide) (fun c_2 => ?_) (fun c_2 => ?_)
    · refine x_aload_n f_155_14 rfl ?_
      refine x_iload_n f_155_15 rfl ?_
      refine x_putI f_155_16 S.k33 (by decide) ?_
      refine x_iconst (v := nI 1) f_155_19 (by decide) ?_
      refine x_retZ f_155_20 rfl (by decide) ?_
      exact mj_qT ⟨c_1, c_2⟩ ⟨rfl, rfl⟩
    · refine x_iconst (v := nI 0) f_155_12 (by decide) ?_
      refine x_retZ f_155_13 rfl (by decide) ?_
      exact mj_qF (by first | exact fun q => c_2 (q.2) | exact fun q => (q.2) c_2) ⟨rfl, rfl⟩
set_option maxRecDepth 20000 in
theorem c_clear {h : mj_H} (S : SM h) : mxc 0 170 [.ref 33] h (fun r h' => r = none ∧ h' = mj_setI h 33 46 (nI 0)) := by
  show mx 0 170 0 [.ref 33] [] h _
  refine x_aload_n f_170_0 rfl ?_
  refine x_iconst (v := nI 0) f_170_1 (by decide) ?_
  refine x_putI f_170_2 S.k33 (by decide) ?_
  refine x_retV f_170_5 rfl ?_
  exact ⟨rfl, rfl⟩
set_option maxRecDepth 20000 in
theorem c_bar {h : mj_H} (S : SM h) (a b : Int32) {sm : Nat} (h_sm : sm ≤ 6) (e_sm : mj_I h 33 7 = nI sm) : mxc 2 120 [.ref 33, .int a, .int b] h (fun r h' => if mIn a sm ∧ mIn b sm ∧ mj_I h 35 (6 * a.toNatClampNeg + b.toNatClampNeg) = 0 then r = some (.int (nI 1)) ∧ h' = mj_setI (mj_setI h 35 (6 * a.toNatClampNeg + b.toNatClampNeg) (nI 1)) 35 (6 * b.toNatClampNeg + a.toNatClampNeg) (nI 1) else r = some (.int (nI 0)) ∧ h' = h) := by
  show mx 2 120 0 [.ref 33, .int a, .int b] [] h _
  refine x_aload_n f_120_0 rfl ?_
  refine x_iload_n f_120_1 rfl ?_
  refine x_callVe f_120_2 (c_isStuff S _ (n := sm) (by omega) e_sm) (by omega) S.k33 (by decide) rfl rfl (Nat.le_of_ble_eq_true rfl) rfl ?_
  refine x_ifB_eq (t := 30) f_120_5 (by decide) (fun c_1 => ?_) (fun c_1 => ?_)
  · refine x_iconst (v := nI 0) f_120_30 (by decide) ?_
    refine x_retZ f_120_31 rfl (by decide) ?_
    exact mj_qF (by first | exact fun q => c_1 (q.1) | exact fun q => (q.1) c_1) ⟨rfl, rfl⟩
  · refine x_aload_n f_120_8 rfl ?_
    refine x_iload_n f_120_9 rfl ?_
    refine x_callVe f_120_10 (c_isStuff S _ (n := sm) (by omega) e_sm) (by omega) S.k33 (by decide) rfl rfl (Nat.le_of_ble_eq_true rfl) rfl ?_
    refine x_ifB_eq (t := 30) f_120_13 (by decide) (fun c_2 => ?_) (fun c_2 => ?_)
    · refine x_iconst (v := nI 0) f_120_30 (by decide) ?_
      refine x_retZ f_120_31 rfl (by decide) ?_
      exact mj_qF (by first | exact fun q => c_2 (q.2.1) | exact fun q => (q.2.1) c_2) ⟨rfl, rfl⟩
    · obtain ⟨i, h_i, rfl⟩ := mIn_of c_1 (by omega)
      simp only [nI_clamp (show i < 2 ^ 31 by omega)]
      obtain ⟨j, h_j, rfl⟩ := mIn_of c_2 (by omega)
      simp only [nI_clamp (show j < 2 ^ 31 by omega)]
      refine x_aload_n f_120_16 rfl ?_
      refine x_getR f_120_17 S.k33 (by decide) S.r3 ?_
      refine x_bipush (v := nI 6) f_120_20 (by decide) ?_
      refine x_iload_n f_120_22 rfl ?_
      refine x_imulN f_120_23 ?_
      refine x_iload_n f_120_24 rfl ?_
      refine x_iaddN f_120_25 ?_
      refine x_zald (j := ((6 * i) + j)) f_120_26 S.k35 (by omega) (by decide) ?_
      refine x_if_eq (t := 32) f_120_27 (by decide) (fun c_3 => ?_) (fun c_3 => ?_)
      · refine x_aload_n f_120_32 rfl ?_
        refine x_getR f_120_33 S.k33 (by decide) S.r3 ?_
        refine x_bipush (v := nI 6) f_120_36 (by decide) ?_
        refine x_iload_n f_120_38 rfl ?_
        refine x_imulN f_120_39 ?_
        refine x_iload_n f_120_40 rfl ?_
        refine x_iaddN f_120_41 ?_
        refine x_iconst (v := nI 1) f_120_42 (by decide) ?_
        refine x_zast (j := ((6 * i) + j)) f_120_43 S.k35 (by decide) (by omega) (by decide) ?_
        refine x_aload_n f_120_44 rfl ?_
        refine x_getR f_120_45 S.k33 (by decide) S.r3 ?_
        refine x_bipush (v := nI 6) f_120_48 (by decide) ?_
        refine x_iload_n f_120_50 rfl ?_
        refine x_imulN f_120_51 ?_
        refine x_iload_n f_120_52 rfl ?_
        refine x_iaddN f_120_53 ?_
        refine x_iconst (v := nI 1) f_120_54 (by decide) ?_
        refine x_zast (j := ((6 * j) + i)) f_120_55 S.k35 (by decide) (by omega) (by decide) ?_
        refine x_iconst (v := nI 1) f_120_56 (by decide) ?_
        refine x_retZ f_120_57 rfl (by decide) ?_
        exact mj_qT ⟨c_1, c_2, c_3⟩ ⟨rfl, rfl⟩
      · refine x_iconst (v := nI 0) f_120_30 (by decide) ?_
        refine x_retZ f_120_31 rfl (by decide) ?_
        exact mj_qF (by first | exact fun q => c_3 (q.2.2) | exact fun q => (q.2.2) c_3) ⟨rfl, rfl⟩
set_option maxRecDepth 20000 in
theorem c_told {h : mj_H} (S : SM h) (j w : Int32) {jm : Nat} (h_jm : jm ≤ 20) (e_jm : mj_I h 33 8 = nI jm) : mxc 2 122 [.ref 33, .int j, .int w] h (fun r h' => if mIn j jm ∧ (0 ≤ w ∧ w ≤ 8) then r = some (.int (mj_I h 36 (9 * j.toNatClampNeg + w.toNatClampNeg))) ∧ h' = mj_setI h 33 1 (nI 0) else r = some (.int (nI 0)) ∧ h' = mj_setI h 33 1 (nI 1)) := by
  show mx 2 122 0 [.ref 33, .int j, .int w] [] h _
  refine x_aload_n f_122_0 rfl ?_
  refine x_aload_n f_122_1 rfl ?_
  refine x_iload_n f_122_2 rfl ?_
  refine x_callVe f_122_3 (c_isJob S _ (n := jm) (by omega) e_jm) (by omega) S.k33 (by decide) rfl rfl (Nat.le_of_ble_eq_true rfl) rfl ?_
  refine x_ifB_eq (t := 23) f_122_6 (by decide) (fun c_1 => ?_) (fun c_1 => ?_)
  · refine x_iconst (v := nI 1) f_122_23 (by decide) ?_
    refine x_putI f_122_24 S.k33 (by decide) ?_
    refine x_aload_n f_122_27 rfl ?_
    refine x_getI f_122_28 S.k33 (by decide) ?_
    refine x_topi (w := nI 1) (mj_I_at _ _ _ _) ?_
    refine x_iconst (v := nI 1) f_122_31 (by decide) ?_
    refine x_icmpN_ne (t := 39) f_122_32 (by decide) (by decide) (by decide) (fun c_2 => by omega) (fun c_2 => ?_)
    refine x_iconst (v := nI 0) f_122_35 (by decide) ?_
    refine x_goto (t := 50) f_122_36 (by decide) ?_
    refine x_retI f_122_50 rfl ?_
    exact mj_qF (fun q => c_1 q.1) ⟨rfl, rfl⟩
  · refine x_iload_n f_122_9 rfl ?_
    refine x_iconst (v := nI 0) f_122_10 (by decide) ?_
    refine x_bipush (v := nI 8) f_122_11 (by decide) ?_
    refine x_callSe f_122_13 (c_in _ _ _ _) (by omega) rfl rfl rfl (Nat.le_of_ble_eq_true rfl) rfl ?_
    refine x_ifB_eq (t := 23) f_122_16 (by decide) (fun c_2 => ?_) (fun c_2 => ?_)
    · refine x_iconst (v := nI 1) f_122_23 (by decide) ?_
      refine x_putI f_122_24 S.k33 (by decide) ?_
      refine x_aload_n f_122_27 rfl ?_
      refine x_getI f_122_28 S.k33 (by decide) ?_
      refine x_topi (w := nI 1) (mj_I_at _ _ _ _) ?_
      refine x_iconst (v := nI 1) f_122_31 (by decide) ?_
      refine x_icmpN_ne (t := 39) f_122_32 (by decide) (by decide) (by decide) (fun c_3 => by omega) (fun c_3 => ?_)
      refine x_iconst (v := nI 0) f_122_35 (by decide) ?_
      refine x_goto (t := 50) f_122_36 (by decide) ?_
      refine x_retI f_122_50 rfl ?_
      exact mj_qF (fun q => c_2 q.2) ⟨rfl, rfl⟩
    · obtain ⟨i, h_i, rfl⟩ := mIn_of c_1 (by omega)
      simp only [nI_clamp (show i < 2 ^ 31 by omega)]
      have c_2b : mIn w 9 := (mIn_iff (n := 9) (by decide)).mp c_2
      obtain ⟨k, h_k, rfl⟩ := mIn_of c_2b (by decide)
      simp only [nI_clamp (show k < 2 ^ 31 by omega)]
      refine x_iconst (v := nI 0) f_122_19 (by decide) ?_
      refine x_goto (t := 24) f_122_20 (by decide) ?_
      refine x_putI f_122_24 S.k33 (by decide) ?_
      refine x_aload_n f_122_27 rfl ?_
      refine x_getI f_122_28 S.k33 (by decide) ?_
      refine x_topi (w := nI 0) (mj_I_at _ _ _ _) ?_
      refine x_iconst (v := nI 1) f_122_31 (by decide) ?_
      refine x_icmpN_ne (t := 39) f_122_32 (by decide) (by decide) (by decide) (fun c_4 => ?_) (fun c_4 => by omega)
      refine x_aload_n f_122_39 rfl ?_
      refine x_getR f_122_40 S.k33 (by decide) S.r4 ?_
      refine x_bipush (v := nI 9) f_122_43 (by decide) ?_
      refine x_iload_n f_122_45 rfl ?_
      refine x_imulN f_122_46 ?_
      refine x_iload_n f_122_47 rfl ?_
      refine x_iaddN f_122_48 ?_
      refine x_iald (j := ((9 * i) + k)) f_122_49 S.k36 (by omega) (by decide) ?_
      refine x_topi (w := mj_I h 36 ((9 * i) + k)) (congrFun (mj_I_other (by decide)) _) ?_
      refine x_retI f_122_50 rfl ?_
      exact mj_qT ⟨c_1, c_2⟩ ⟨rfl, rfl⟩
set_option maxRecDepth 20000 in
theorem c_joint {h : mj_H} (S : SM h) (j s : Int32) {jm xm : Nat} (h_jm : jm ≤ 20) (e_jm : mj_I h 33 8 = nI jm) (h_xm : xm ≤ 60) (e_xm : mj_I h 33 40 = nI xm) : mxc 3 163 [.ref 33, .int j, .int s] h (fun r h' => if (mIn j jm ∧ mIn s 729) ∧ ¬ xm = 60 then r = some (.int (nI xm)) ∧ h' = mj_setI (mj_setI (mj_setI (mj_setI h 52 xm j) 53 xm s) 54 xm (mj_I h 33 0)) 33 40 (nI (xm + 1)) else r = some (.int (-1)) ∧ h' = h) := by
  show mx 3 163 0 [.ref 33, .int j, .int s] [] h _
  refine x_aload_n f_163_0 rfl ?_
  refine x_iload_n f_163_1 rfl ?_
  refine x_iload_n f_163_2 rfl ?_
  refine x_callVe f_163_3 (c_isAsked S _ _ (jm := jm) (by omega) e_jm) (by omega) S.k33 (by decide) rfl rfl (Nat.le_of_ble_eq_true rfl) rfl ?_
  refine x_ifB_eq (t := 18) f_163_6 (by decide) (fun c_1 => ?_) (fun c_1 => ?_)
  · refine x_iconst (v := -1) f_163_18 (by decide) ?_
    refine x_retI f_163_19 rfl ?_
    exact mj_qF (by first | exact fun q => c_1 (q.1) | exact fun q => (q.1) c_1) ⟨rfl, rfl⟩
  · refine x_aload_n f_163_9 rfl ?_
    refine x_getI f_163_10 S.k33 (by decide) ?_
    refine x_topi (w := nI xm) e_xm ?_
    refine x_bipush (v := nI 60) f_163_13 (by decide) ?_
    refine x_icmpN_ne (t := 20) f_163_15 (by decide) (by omega) (by decide) (fun c_2 => ?_) (fun c_2 => ?_)
    · refine x_aload_n f_163_20 rfl ?_
      refine x_getR f_163_21 S.k33 (by decide) S.r34 ?_
      refine x_aload_n f_163_24 rfl ?_
      refine x_getI f_163_25 S.k33 (by decide) ?_
      refine x_topi (w := nI xm) e_xm ?_
      refine x_iload_n f_163_28 rfl ?_
      refine x_iast (j := xm) f_163_29 S.k52 (by decide) (by omega) (by decide) ?_
      refine x_aload_n f_163_30 rfl ?_
      refine x_getR f_163_31 S.k33 (by decide) S.r35 ?_
      refine x_aload_n f_163_34 rfl ?_
      refine x_getI f_163_35 S.k33 (by decide) ?_
      refine x_topi (w := nI xm) ((congrFun (mj_I_other (by decide)) _).trans (e_xm)) ?_
      refine x_iload_n f_163_38 rfl ?_
      refine x_iast (j := xm) f_163_39 S.k53 (by decide) (by omega) (by decide) ?_
      refine x_aload_n f_163_40 rfl ?_
      refine x_getR f_163_41 S.k33 (by decide) S.r36 ?_
      refine x_aload_n f_163_44 rfl ?_
      refine x_getI f_163_45 S.k33 (by decide) ?_
      refine x_topi (w := nI xm) ((congrFun (mj_I_other (by decide)) _).trans ((congrFun (mj_I_other (by decide)) _).trans (e_xm))) ?_
      refine x_aload_n f_163_48 rfl ?_
      refine x_getI f_163_49 S.k33 (by decide) ?_
      refine x_topi (w := mj_I h 33 0) ((congrFun (mj_I_other (by decide)) _).trans (congrFun (mj_I_other (by decide)) _)) ?_
      refine x_iast (j := xm) f_163_52 S.k54 (by decide) (by omega) (by decide) ?_
      refine x_aload_n f_163_53 rfl ?_
      refine x_dup f_163_54 rfl ?_
      refine x_getI f_163_55 S.k33 (by decide) ?_
      refine x_topi (w := nI xm) ((congrFun (mj_I_other (by decide)) _).trans ((congrFun (mj_I_other (by decide)) _).trans ((congrFun (mj_I_other (by decide)) _).trans (e_xm)))) ?_
      refine x_iconst (v := nI 1) f_163_58 (by decide) ?_
      refine x_iaddN f_163_59 ?_
      refine x_putI f_163_60 S.k33 (by decide) ?_
      refine x_aload_n f_163_63 rfl ?_
      refine x_getI f_163_64 S.k33 (by decide) ?_
      refine x_topi (w := nI (xm + 1)) (mj_I_at _ _ _ _) ?_
      refine x_iconst (v := nI 1) f_163_67 (by decide) ?_
      refine x_isubN f_163_68 (by omega) ?_
      refine x_retI f_163_69 rfl ?_
      exact mj_qT ⟨c_1, c_2⟩ ⟨by rw [Nat.add_sub_cancel], rfl⟩
    · refine x_iconst (v := -1) f_163_18 (by decide) ?_
      refine x_retI f_163_19 rfl ?_
      exact mj_qF (by first | exact fun q => c_2 (q.2) | exact fun q => (q.2) c_2) ⟨rfl, rfl⟩
set_option maxRecDepth 20000 in
theorem c_attempt {h : mj_H} (S : SM h) (x g : Int32) (hg : g = 0 ∨ g = 1) {xm km : Nat} (h_xm : xm ≤ 60) (e_xm : mj_I h 33 40 = nI xm) (h_km : km ≤ 100) (e_km : mj_I h 33 41 = nI km) : mxc 1 164 [.ref 33, .int x, .int g] h (fun r h' => if mIn x xm ∧ ¬ km = 100 then r = some (.int (nI 1)) ∧ h' = mj_setI (mj_setI (mj_setI (mj_setI h 55 km x) 56 km g) 57 km (mj_I h 33 0)) 33 41 (nI (km + 1)) else r = some (.int (nI 0)) ∧ h' = h) := by
  show mx 1 164 0 [.ref 33, .int x, .int g] [] h _
  refine x_iload_n f_164_0 rfl ?_
  refine x_iconst (v := nI 0) f_164_1 (by decide) ?_
  refine x_aload_n f_164_2 rfl ?_
  refine x_getI f_164_3 S.k33 (by decide) ?_
  refine x_topi (w := nI xm) e_xm ?_
  refine x_iconst (v := nI 1) f_164_6 (by decide) ?_
  refine x_isub f_164_7 ?_
  refine x_callSe f_164_8 (c_inM _ _ (n := xm) (by omega)) (by omega) rfl rfl rfl (Nat.le_of_ble_eq_true rfl) rfl ?_
  refine x_ifB_eq (t := 23) f_164_11 (by decide) (fun c_1 => ?_) (fun c_1 => ?_)
  · refine x_iconst (v := nI 0) f_164_23 (by decide) ?_
    refine x_retZ f_164_24 rfl (by decide) ?_
    exact mj_qF (by first | exact fun q => c_1 (q.1) | exact fun q => (q.1) c_1) ⟨rfl, rfl⟩
  · refine x_aload_n f_164_14 rfl ?_
    refine x_getI f_164_15 S.k33 (by decide) ?_
    refine x_topi (w := nI km) e_km ?_
    refine x_bipush (v := nI 100) f_164_18 (by decide) ?_
    refine x_icmpN_ne (t := 25) f_164_20 (by decide) (by omega) (by decide) (fun c_2 => ?_) (fun c_2 => ?_)
    · refine x_aload_n f_164_25 rfl ?_
      refine x_getR f_164_26 S.k33 (by decide) S.r37 ?_
      refine x_aload_n f_164_29 rfl ?_
      refine x_getI f_164_30 S.k33 (by decide) ?_
      refine x_topi (w := nI km) e_km ?_
      refine x_iload_n f_164_33 rfl ?_
      refine x_iast (j := km) f_164_34 S.k55 (by decide) (by omega) (by decide) ?_
      refine x_aload_n f_164_35 rfl ?_
      refine x_getR f_164_36 S.k33 (by decide) S.r38 ?_
      refine x_aload_n f_164_39 rfl ?_
      refine x_getI f_164_40 S.k33 (by decide) ?_
      refine x_topi (w := nI km) ((congrFun (mj_I_other (by decide)) _).trans (e_km)) ?_
      refine x_iload_n f_164_43 rfl ?_
      refine x_zast (j := km) f_164_44 S.k56 hg (by omega) (by decide) ?_
      refine x_aload_n f_164_45 rfl ?_
      refine x_getR f_164_46 S.k33 (by decide) S.r39 ?_
      refine x_aload_n f_164_49 rfl ?_
      refine x_getI f_164_50 S.k33 (by decide) ?_
      refine x_topi (w := nI km) ((congrFun (mj_I_other (by decide)) _).trans ((congrFun (mj_I_other (by decide)) _).trans (e_km))) ?_
      refine x_aload_n f_164_53 rfl ?_
      refine x_getI f_164_54 S.k33 (by decide) ?_
      refine x_topi (w := mj_I h 33 0) ((congrFun (mj_I_other (by decide)) _).trans (congrFun (mj_I_other (by decide)) _)) ?_
      refine x_iast (j := km) f_164_57 S.k57 (by decide) (by omega) (by decide) ?_
      refine x_aload_n f_164_58 rfl ?_
      refine x_dup f_164_59 rfl ?_
      refine x_getI f_164_60 S.k33 (by decide) ?_
      refine x_topi (w := nI km) ((congrFun (mj_I_other (by decide)) _).trans ((congrFun (mj_I_other (by decide)) _).trans ((congrFun (mj_I_other (by decide)) _).trans (e_km)))) ?_
      refine x_iconst (v := nI 1) f_164_63 (by decide) ?_
      refine x_iaddN f_164_64 ?_
      refine x_putI f_164_65 S.k33 (by decide) ?_
      refine x_iconst (v := nI 1) f_164_68 (by decide) ?_
      refine x_retZ f_164_69 rfl (by decide) ?_
      exact mj_qT ⟨c_1, c_2⟩ ⟨rfl, rfl⟩
    · refine x_iconst (v := nI 0) f_164_23 (by decide) ?_
      refine x_retZ f_164_24 rfl (by decide) ?_
      exact mj_qF (by first | exact fun q => c_2 (q.2) | exact fun q => (q.2) c_2) ⟨rfl, rfl⟩
set_option maxRecDepth 20000 in
theorem c_work {h : mj_H} (S : SM h) (j s : Int32) {jm em : Nat} (h_jm : jm ≤ 20) (e_jm : mj_I h 33 8 = nI jm) (h_em : em ≤ 8) (e_em : mj_I h 33 46 = nI em) : mxc 3 169 [.ref 33, .int j, .int s] h (fun r h' => if (mIn j jm ∧ mIn s 729) ∧ ¬ em = 8 then r = some (.int (nI em)) ∧ h' = mj_setI (mj_setI (mj_setI h 58 em j) 59 em s) 33 46 (nI (em + 1)) else r = some (.int (-1)) ∧ h' = h) := by
  show mx 3 169 0 [.ref 33, .int j, .int s] [] h _
  refine x_aload_n f_169_0 rfl ?_
  refine x_iload_n f_169_1 rfl ?_
  refine x_iload_n f_169_2 rfl ?_
  refine x_callVe f_169_3 (c_isAsked S _ _ (jm := jm) (by omega) e_jm) (by omega) S.k33 (by decide) rfl rfl (Nat.le_of_ble_eq_true rfl) rfl ?_
  refine x_ifB_eq (t := 18) f_169_6 (by decide) (fun c_1 => ?_) (fun c_1 => ?_)
  · refine x_iconst (v := -1) f_169_18 (by decide) ?_
    refine x_retI f_169_19 rfl ?_
    exact mj_qF (by first | exact fun q => c_1 (q.1) | exact fun q => (q.1) c_1) ⟨rfl, rfl⟩
  · refine x_aload_n f_169_9 rfl ?_
    refine x_getI f_169_10 S.k33 (by decide) ?_
    refine x_topi (w := nI em) e_em ?_
    refine x_bipush (v := nI 8) f_169_13 (by decide) ?_
    refine x_icmpN_ne (t := 20) f_169_15 (by decide) (by omega) (by decide) (fun c_2 => ?_) (fun c_2 => ?_)
    · refine x_aload_n f_169_20 rfl ?_
      refine x_getR f_169_21 S.k33 (by decide) S.r42 ?_
      refine x_aload_n f_169_24 rfl ?_
      refine x_getI f_169_25 S.k33 (by decide) ?_
      refine x_topi (w := nI em) e_em ?_
      refine x_iload_n f_169_28 rfl ?_
      refine x_iast (j := em) f_169_29 S.k58 (by decide) (by omega) (by decide) ?_
      refine x_aload_n f_169_30 rfl ?_
      refine x_getR f_169_31 S.k33 (by decide) S.r43 ?_
      refine x_aload_n f_169_34 rfl ?_
      refine x_getI f_169_35 S.k33 (by decide) ?_
      refine x_topi (w := nI em) ((congrFun (mj_I_other (by decide)) _).trans (e_em)) ?_
      refine x_iload_n f_169_38 rfl ?_
      refine x_iast (j := em) f_169_39 S.k59 (by decide) (by omega) (by decide) ?_
      refine x_aload_n f_169_40 rfl ?_
      refine x_dup f_169_41 rfl ?_
      refine x_getI f_169_42 S.k33 (by decide) ?_
      refine x_topi (w := nI em) ((congrFun (mj_I_other (by decide)) _).trans ((congrFun (mj_I_other (by decide)) _).trans (e_em))) ?_
      refine x_iconst (v := nI 1) f_169_45 (by decide) ?_
      refine x_iaddN f_169_46 ?_
      refine x_putI f_169_47 S.k33 (by decide) ?_
      refine x_aload_n f_169_50 rfl ?_
      refine x_getI f_169_51 S.k33 (by decide) ?_
      refine x_topi (w := nI (em + 1)) (mj_I_at _ _ _ _) ?_
      refine x_iconst (v := nI 1) f_169_54 (by decide) ?_
      refine x_isubN f_169_55 (by omega) ?_
      refine x_retI f_169_56 rfl ?_
      exact mj_qT ⟨c_1, c_2⟩ ⟨by rw [Nat.add_sub_cancel], rfl⟩
    · refine x_iconst (v := -1) f_169_18 (by decide) ?_
      refine x_retI f_169_19 rfl ?_
      exact mj_qF (by first | exact fun q => c_2 (q.2) | exact fun q => (q.2) c_2) ⟨rfl, rfl⟩
