set_option maxRecDepth 100000 in
theorem mj_e148 : mj_cd148.all (mj_okE 148) = true := by decide +kernel
set_option maxRecDepth 100000 in
theorem mj_e149_0 : (mj_cd149.take 60).all (mj_okE 149) = true := by decide +kernel
set_option maxRecDepth 100000 in
theorem mj_e149_1 : (mj_cd149.drop 60).all (mj_okE 149) = true := by decide +kernel
theorem mj_e149 : mj_cd149.all (mj_okE 149) = true := mj_tk 60 mj_e149_0 (mj_e149_1)
set_option maxRecDepth 100000 in
theorem mj_e150 : mj_cd150.all (mj_okE 150) = true := by decide +kernel
set_option maxRecDepth 100000 in
theorem mj_e151 : mj_cd151.all (mj_okE 151) = true := by decide +kernel
set_option maxRecDepth 100000 in
theorem mj_e152 : mj_cd152.all (mj_okE 152) = true := by decide +kernel
set_option maxRecDepth 100000 in
theorem mj_e153 : mj_cd153.all (mj_okE 153) = true := by decide +kernel
set_option maxRecDepth 100000 in
theorem mj_e154 : mj_cd154.all (mj_okE 154) = true := by decide +kernel
set_option maxRecDepth 100000 in
theorem mj_e155 : mj_cd155.all (mj_okE 155) = true := by decide +kernel
set_option maxRecDepth 100000 in
theorem mj_e156_0 : (mj_cd156.take 60).all (mj_okE 156) = true := by decide +kernel
set_option maxRecDepth 100000 in
theorem mj_e156_1 : ((mj_cd156.drop 60).take 60).all (mj_okE 156) = true := by decide +kernel
set_option maxRecDepth 100000 in
theorem mj_e156_2 : ((mj_cd156.drop 60).drop 60).all (mj_okE 156) = true := by decide +kernel
theorem mj_e156 : mj_cd156.all (mj_okE 156) = true := mj_tk 60 mj_e156_0 (mj_tk 60 mj_e156_1 (mj_e156_2))
set_option maxRecDepth 100000 in
theorem mj_e157 : mj_cd157.all (mj_okE 157) = true := by decide +kernel
set_option maxRecDepth 100000 in
theorem mj_e158_0 : (mj_cd158.take 60).all (mj_okE 158) = true := by decide +kernel
set_option maxRecDepth 100000 in
theorem mj_e158_1 : (mj_cd158.drop 60).all (mj_okE 158) = true := by decide +kernel
theorem mj_e158 : mj_cd158.all (mj_okE 158) = true := mj_tk 60 mj_e158_0 (mj_e158_1)
set_option maxRecDepth 100000 in
theorem mj_e159_0 : (mj_cd159.take 60).all (mj_okE 159) = true := by decide +kernel
set_option maxRecDepth 100000 in
theorem mj_e159_1 : (mj_cd159.drop 60).all (mj_okE 159) = true := by decide +kernel
theorem mj_e159 : mj_cd159.all (mj_okE 159) = true := mj_tk 60 mj_e159_0 (mj_e159_1)
set_option maxRecDepth 100000 in
theorem mj_e160 : mj_cd160.all (mj_okE 160) = true := by decide +kernel
set_option maxRecDepth 100000 in
theorem mj_e161_0 : (mj_cd161.take 60).all (mj_okE 161) = true := by decide +kernel
set_option maxRecDepth 100000 in
theorem mj_e161_1 : ((mj_cd161.drop 60).take 60).all (mj_okE 161) = true := by decide +kernel
set_option maxRecDepth 100000 in
theorem mj_e161_2 : ((mj_cd161.drop 60).drop 60).all (mj_okE 161) = true := by decide +kernel
theorem mj_e161 : mj_cd161.all (mj_okE 161) = true := mj_tk 60 mj_e161_0 (mj_tk 60 mj_e161_1 (mj_e161_2))
set_option maxRecDepth 100000 in
theorem mj_e162_0 : (mj_cd162.take 60).all (mj_okE 162) = true := by decide +kernel
set_option maxRecDepth 100000 in
theorem mj_e162_1 : (mj_cd162.drop 60).all (mj_okE 162) = true := by decide +kernel
theorem mj_e162 : mj_cd162.all (mj_okE 162) = true := mj_tk 60 mj_e162_0 (mj_e162_1)
set_option maxRecDepth 100000 in
theorem mj_e163 : mj_cd163.all (mj_okE 163) = true := by decide +kernel
set_option maxRecDepth 100000 in
theorem mj_e164 : mj_cd164.all (mj_okE 164) = true := by decide +kernel
set_option maxRecDepth 100000 in
theorem mj_e165 : mj_cd165.all (mj_okE 165) = true := by decide +kernel
set_option maxRecDepth 100000 in
theorem mj_e166 : mj_cd166.all (mj_okE 166) = true := by decide +kernel
set_option maxRecDepth 100000 in
theorem mj_e167 : mj_cd167.all (mj_okE 167) = true := by decide +kernel
set_option maxRecDepth 100000 in
theorem mj_e168_0 : (mj_cd168.take 60).all (mj_okE 168) = true := by decide +kernel
set_option maxRecDepth 100000 in
theorem mj_e168_1 : (mj_cd168.drop 60).all (mj_okE 168) = true := by decide +kernel
theorem mj_e168 : mj_cd168.all (mj_okE 168) = true := mj_tk 60 mj_e168_0 (mj_e168_1)
set_option maxRecDepth 100000 in
theorem mj_e169 : mj_cd169.all (mj_okE 169) = true := by decide +kernel
set_option maxRecDepth 100000 in
theorem mj_e170 : mj_cd170.all (mj_okE 170) = true := by decide +kernel
set_option maxRecDepth 100000 in
theorem mj_e171 : mj_cd171.all (mj_okE 171) = true := by decide +kernel
set_option maxRecDepth 100000 in
theorem mj_e172_0 : (mj_cd172.take 60).all (mj_okE 172) = true := by decide +kernel
set_option maxRecDepth 100000 in
theorem mj_e172_1 : (mj_cd172.drop 60).all (mj_okE 172) = true := by decide +kernel
theorem mj_e172 : mj_cd172.all (mj_okE 172) = true := mj_tk 60 mj_e172_0 (mj_e172_1)
set_option maxRecDepth 100000 in
theorem mj_e173 : mj_cd173.all (mj_okE 173) = true := by decide +kernel
set_option maxRecDepth 100000 in
theorem mj_e174 : mj_cd174.all (mj_okE 174) = true := by decide +kernel
set_option maxRecDepth 100000 in
theorem mj_e175 : mj_cd175.all (mj_okE 175) = true := by decide +kernel
set_option maxRecDepth 100000 in
theorem mj_e176_0 : (mj_cd176.take 60).all (mj_okE 176) = true := by decide +kernel
set_option maxRecDepth 100000 in
theorem mj_e176_1 : ((mj_cd176.drop 60).take 60).all (mj_okE 176) = true := by decide +kernel
set_option maxRecDepth 100000 in
theorem mj_e176_2 : (((mj_cd176.drop 60).drop 60).take 60).all (mj_okE 176) = true := by decide +kernel
set_option maxRecDepth 100000 in
theorem mj_e176_3 : ((((mj_cd176.drop 60).drop 60).drop 60).take 60).all (mj_okE 176) = true := by decide +kernel
set_option maxRecDepth 100000 in
theorem mj_e176_4 : (((((mj_cd176.drop 60).drop 60).drop 60).drop 60).take 60).all (mj_okE 176) = true := by decide +kernel
set_option maxRecDepth 100000 in
theorem mj_e176_5 : ((((((mj_cd176.drop 60).drop 60).drop 60).drop 60).drop 60).take 60).all (mj_okE 176) = true := by decide +kernel
set_option maxRecDepth 100000 in
theorem mj_e176_6 : (((((((mj_cd176.drop 60).drop 60).drop 60).drop 60).drop 60).drop 60).take 60).all (mj_okE 176) = true := by decide +kernel
set_option maxRecDepth 100000 in
theorem mj_e176_7 : ((((((((mj_cd176.drop 60).drop 60).drop 60).drop 60).drop 60).drop 60).drop 60).take 60).all (mj_okE 176) = true := by decide +kernel
set_option maxRecDepth 100000 in
theorem mj_e176_8 : (((((((((mj_cd176.drop 60).drop 60).drop 60).drop 60).drop 60).drop 60).drop 60).drop 60).take 60).all (mj_okE 176) = true := by decide +kernel
set_option maxRecDepth 100000 in
theorem mj_e176_9 : ((((((((((mj_cd176.drop 60).drop 60).drop 60).drop 60).drop 60).drop 60).drop 60).drop 60).drop 60).take 60).all (mj_okE 176) = true := by decide +kernel
set_option maxRecDepth 100000 in
theorem mj_e176_10 : (((((((((((mj_cd176.drop 60).drop 60).drop 60).drop 60).drop 60).drop 60).drop 60).drop 60).drop 60).drop 60).take 60).all (mj_okE 176) = true := by decide +kernel
set_option maxRecDepth 100000 in
theorem mj_e176_11 : ((((((((((((mj_cd176.drop 60).drop 60).drop 60).drop 60).drop 60).drop 60).drop 60).drop 60).drop 60).drop 60).drop 60).take 60).all (mj_okE 176) = true := by decide +kernel
set_option maxRecDepth 100000 in
theorem mj_e176_12 : (((((((((((((mj_cd176.drop 60).drop 60).drop 60).drop 60).drop 60).drop 60).drop 60).drop 60).drop 60).drop 60).drop 60).drop 60).take 60).all (mj_okE 176) = true := by decide +kernel
set_option maxRecDepth 100000 in
theorem mj_e176_13 : ((((((((((((((mj_cd176.drop 60).drop 60).drop 60).drop 60).drop 60).drop 60).drop 60).drop 60).drop 60).drop 60).drop 60).drop 60).drop 60).take 60).all (mj_okE 176) = true := by decide +kernel
set_option maxRecDepth 100000 in
theorem mj_e176_14 : ((((((((((((((mj_cd176.drop 60).drop 60).drop 60).drop 60).drop 60).drop 60).drop 60).drop 60).drop 60).drop 60).drop 60).drop 60).drop 60).drop 60).all (mj_okE 176) = true := by decide +kernel
theorem mj_e176 : mj_cd176.all (mj_okE 176) = true := mj_tk 60 mj_e176_0 (mj_tk 60 mj_e176_1 (mj_tk 60 mj_e176_2 (mj_tk 60 mj_e176_3 (mj_tk 60 mj_e176_4 (mj_tk 60 mj_e176_5 (mj_tk 60 mj_e176_6 (mj_tk 60 mj_e176_7 (mj_tk 60 mj_e176_8 (mj_tk 60 mj_e176_9 (mj_tk 60 mj_e176_10 (mj_tk 60 mj_e176_11 (mj_tk 60 mj_e176_12 (mj_tk 60 mj_e176_13 (mj_e176_14))))))))))))))
theorem mj_e : ∀ mid, (mj_cds.getD mid []).all (mj_okE mid) = true := by
  have h : ∀ mid, mid < 177 → (mj_cds.getD mid []).all (mj_okE mid) = true := by
    intro mid hm
    match mid, hm with
    | 0, _ => exact mj_e0
    | 1, _ => exact mj_e1
    | 2, _ => exact mj_e2
    | 3, _ => exact mj_e3
    | 4, _ => exact mj_e4
    | 5, _ => exact mj_e5
    | 6, _ => exact mj_e6
    | 7, _ => exact mj_e7
    | 8, _ => exact mj_e8
    | 9, _ => exact mj_e9
    | 10, _ => exact mj_e10
    | 11, _ => exact mj_e11
    | 12, _ => exact mj_e12
    | 13, _ => exact mj_e13
    | 14, _ => exact mj_e14
    | 15, _ => exact mj_e15
    | 16, _ => exact mj_e16
    | 17, _ => exact mj_e17
    | 18, _ => exact mj_e18
    | 19, _ => exact mj_e19
    | 20, _ => exact mj_e20
    | 21, _ => exact mj_e21
    | 22, _ => exact mj_e22
    | 23, _ => exact mj_e23
    | 24, _ => exact mj_e24
    | 25, _ => exact mj_e25
    | 26, _ => exact mj_e26
    | 27, _ => exact mj_e27
    | 28, _ => exact mj_e28
    | 29, _ => exact mj_e29
    | 30, _ => exact mj_e30
    | 31, _ => exact mj_e31
    | 32, _ => exact mj_e32
    | 33, _ => exact mj_e33
    | 34, _ => exact mj_e34
    | 35, _ => exact mj_e35
    | 36, _ => exact mj_e36
    | 37, _ => exact mj_e37
    | 38, _ => exact mj_e38
    | 39, _ => exact mj_e39
    | 40, _ => exact mj_e40
    | 41, _ => exact mj_e41
    | 42, _ => exact mj_e42
    | 43, _ => exact mj_e43
    | 44, _ => exact mj_e44
    | 45, _ => exact mj_e45
    | 46, _ => exact mj_e46
    | 47, _ => exact mj_e47
    | 48, _ => exact mj_e48
    | 49, _ => exact mj_e49
    | 50, _ => exact mj_e50
    | 51, _ => exact mj_e51
    | 52, _ => exact mj_e52
    | 53, _ => exact mj_e53
    | 54, _ => exact mj_e54
    | 55, _ => exact mj_e55
    | 56, _ => exact mj_e56
    | 57, _ => exact mj_e57
    | 58, _ => exact mj_e58
    | 59, _ => exact mj_e59
    | 60, _ => exact mj_e60
    | 61, _ => exact mj_e61
    | 62, _ => exact mj_e62
    | 63, _ => exact mj_e63
    | 64, _ => exact mj_e64
    | 65, _ => exact mj_e65
    | 66, _ => exact mj_e66
    | 67, _ => exact mj_e67
    | 68, _ => exact mj_e68
    | 69, _ => exact mj_e69
    | 70, _ => exact mj_e70
    | 71, _ => exact mj_e71
    | 72, _ => exact mj_e72
    | 73, _ => exact mj_e73
    | 74, _ => exact mj_e74
    | 75, _ => exact mj_e75
    | 76, _ => exact mj_e76
    | 77, _ => exact mj_e77
    | 78, _ => exact mj_e78
    | 79, _ => exact mj_e79
    | 80, _ => exact mj_e80
    | 81, _ => exact mj_e81
    | 82, _ => exact mj_e82
    | 83, _ => exact mj_e83
    | 84, _ => exact mj_e84
    | 85, _ => exact mj_e85
    | 86, _ => exact mj_e86
    | 87, _ => exact mj_e87
    | 88, _ => exact mj_e88
    | 89, _ => exact mj_e89
    | 90, _ => exact mj_e90
    | 91, _ => exact mj_e91
    | 92, _ => exact mj_e92
    | 93, _ => exact mj_e93
    | 94, _ => exact mj_e94
    | 95, _ => exact mj_e95
    | 96, _ => exact mj_e96
    | 97, _ => exact mj_e97
    | 98, _ => exact mj_e98
    | 99, _ => exact mj_e99
    | 100, _ => exact mj_e100
    | 101, _ => exact mj_e101
    | 102, _ => exact mj_e102
    | 103, _ => exact mj_e103
    | 104, _ => exact mj_e104
    | 105, _ => exact mj_e105
    | 106, _ => exact mj_e106
    | 107, _ => exact mj_e107
    | 108, _ => exact mj_e108
    | 109, _ => exact mj_e109
    | 110, _ => exact mj_e110
    | 111, _ => exact mj_e111
    | 112, _ => exact mj_e112
    | 113, _ => exact mj_e113
    | 114, _ => exact mj_e114
    | 115, _ => exact mj_e115
    | 116, _ => exact mj_e116
    | 117, _ => exact mj_e117
    | 118, _ => exact mj_e118
    | 119, _ => exact mj_e119
    | 120, _ => exact mj_e120
    | 121, _ => exact mj_e121
    | 122, _ => exact mj_e122
    | 123, _ => exact mj_e123
    | 124, _ => exact mj_e124
    | 125, _ => exact mj_e125
    | 126, _ => exact mj_e126
    | 127, _ => exact mj_e127
    | 128, _ => exact mj_e128
    | 129, _ => exact mj_e129
    | 130, _ => exact mj_e130
    | 131, _ => exact mj_e131
    | 132, _ => exact mj_e132
    | 133, _ => exact mj_e133
    | 134, _ => exact mj_e134
    | 135, _ => exact mj_e135
    | 136, _ => exact mj_e136
    | 137, _ => exact mj_e137
    | 138, _ => exact mj_e138
    | 139, _ => exact mj_e139
    | 140, _ => exact mj_e140
    | 141, _ => exact mj_e141
    | 142, _ => exact mj_e142
    | 143, _ => exact mj_e143
    | 144, _ => exact mj_e144
    | 145, _ => exact mj_e145
    | 146, _ => exact mj_e146
    | 147, _ => exact mj_e147
    | 148, _ => exact mj_e148
    | 149, _ => exact mj_e149
    | 150, _ => exact mj_e150
    | 151, _ => exact mj_e151
    | 152, _ => exact mj_e152
    | 153, _ => exact mj_e153
    | 154, _ => exact mj_e154
    | 155, _ => exact mj_e155
    | 156, _ => exact mj_e156
    | 157, _ => exact mj_e157
    | 158, _ => exact mj_e158
    | 159, _ => exact mj_e159
    | 160, _ => exact mj_e160
    | 161, _ => exact mj_e161
    | 162, _ => exact mj_e162
    | 163, _ => exact mj_e163
    | 164, _ => exact mj_e164
    | 165, _ => exact mj_e165
    | 166, _ => exact mj_e166
    | 167, _ => exact mj_e167
    | 168, _ => exact mj_e168
    | 169, _ => exact mj_e169
    | 170, _ => exact mj_e170
    | 171, _ => exact mj_e171
    | 172, _ => exact mj_e172
    | 173, _ => exact mj_e173
    | 174, _ => exact mj_e174
    | 175, _ => exact mj_e175
    | 176, _ => exact mj_e176
    | n + 177, h => exact absurd h (by omega)
  intro mid
  by_cases hm : mid < 177
  · exact h mid hm
  · have hl : mj_cds[mid]? = none := List.getElem?_eq_none (by show 177 ≤ mid; omega)
    rw [List.getD_eq_getElem?_getD, hl]; rfl
theorem mj_look_mem {pc : Nat} {x : Instr × Nat × Nat} : ∀ {l : List (Nat × Instr × Nat × Nat)}, mj_look l pc = some x → (pc, x) ∈ l := by
  intro l
  induction l with
  | nil => intro h; cases h
  | cons e r ih =>
    intro h
    unfold mj_look at h
    cases hb : Nat.beq e.1 pc with
    | true =>
      rw [hb] at h
      simp only [cond_true] at h
      have h2 : e.1 = pc := Nat.eq_of_beq_eq_true hb
      have h3 : e.2 = x := Option.some.inj h
      rw [← h2, ← h3]
      exact List.mem_cons_self
    | false =>
      rw [hb] at h
      exact List.mem_cons_of_mem _ (ih h)
theorem mj_okf {mid pc : Nat} {i : Instr} {a b : Nat} (h : mj_fetch mid pc = some (i, a, b)) : mj_okE mid (pc, i, a, b) = true :=
  List.all_eq_true.mp (mj_e mid) _ (mj_look_mem h)
