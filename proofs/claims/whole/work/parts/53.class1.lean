/-! THE CLASS'S SHAPE: statics 0 to 6, the object 8, its rows and helpers up to 32 -/
def cc_K : List (Nat × Nat × Nat) := [(0, 12, 8), (1, 12, 8), (2, 12, 3), (3, 12, 3), (4, 12, 7), (5, 12, 21), (6, 12, 21), (8, 10, 13), (9, 17, 6), (10, 15, 20), (11, 18, 10), (12, 0, 9), (13, 12, 6), (14, 12, 6), (15, 12, 6), (16, 12, 6), (17, 8, 5), (18, 12, 16), (19, 12, 16), (20, 7, 2), (21, 12, 500), (22, 1, 7), (23, 16, 60), (24, 12, 60), (25, 12, 100), (26, 12, 100), (27, 12, 100), (28, 2, 8), (29, 12, 8), (30, 12, 8), (31, 12, 8), (32, 12, 64)]
def cc_R : List (Nat × Nat × Nat) := [(8, 0, 9), (8, 1, 10), (8, 2, 11), (8, 3, 12), (8, 4, 17), (8, 5, 20), (8, 6, 22), (8, 7, 28), (12, 0, 13), (12, 1, 14), (12, 2, 15), (12, 3, 16), (17, 0, 18), (17, 1, 19), (20, 0, 21), (22, 0, 23), (22, 1, 24), (22, 2, 25), (22, 3, 26), (22, 4, 27), (28, 0, 29), (28, 1, 30), (28, 2, 31), (28, 3, 32)]
def SC (h : mj_H) : Prop := (∀ e ∈ cc_K, mj_K h e.1 = e.2) ∧ (∀ e ∈ cc_R, mj_R h e.1 e.2.1 = some e.2.2) ∧ ∀ k, k < 7 → mj_I h k = mj_sV k
theorem SC.k0 {h : mj_H} (C : SC h) : mj_K h 0 = (12, 8) := C.1 (0, 12, 8) (by decide)
theorem SC.k1 {h : mj_H} (C : SC h) : mj_K h 1 = (12, 8) := C.1 (1, 12, 8) (by decide)
theorem SC.k2 {h : mj_H} (C : SC h) : mj_K h 2 = (12, 3) := C.1 (2, 12, 3) (by decide)
theorem SC.k3 {h : mj_H} (C : SC h) : mj_K h 3 = (12, 3) := C.1 (3, 12, 3) (by decide)
theorem SC.k4 {h : mj_H} (C : SC h) : mj_K h 4 = (12, 7) := C.1 (4, 12, 7) (by decide)
theorem SC.k5 {h : mj_H} (C : SC h) : mj_K h 5 = (12, 21) := C.1 (5, 12, 21) (by decide)
theorem SC.k6 {h : mj_H} (C : SC h) : mj_K h 6 = (12, 21) := C.1 (6, 12, 21) (by decide)
theorem SC.k8 {h : mj_H} (C : SC h) : mj_K h 8 = (10, 13) := C.1 (8, 10, 13) (by decide)
theorem SC.k9 {h : mj_H} (C : SC h) : mj_K h 9 = (17, 6) := C.1 (9, 17, 6) (by decide)
theorem SC.k10 {h : mj_H} (C : SC h) : mj_K h 10 = (15, 20) := C.1 (10, 15, 20) (by decide)
theorem SC.k11 {h : mj_H} (C : SC h) : mj_K h 11 = (18, 10) := C.1 (11, 18, 10) (by decide)
theorem SC.k12 {h : mj_H} (C : SC h) : mj_K h 12 = (0, 9) := C.1 (12, 0, 9) (by decide)
theorem SC.k13 {h : mj_H} (C : SC h) : mj_K h 13 = (12, 6) := C.1 (13, 12, 6) (by decide)
theorem SC.k14 {h : mj_H} (C : SC h) : mj_K h 14 = (12, 6) := C.1 (14, 12, 6) (by decide)
theorem SC.k15 {h : mj_H} (C : SC h) : mj_K h 15 = (12, 6) := C.1 (15, 12, 6) (by decide)
theorem SC.k16 {h : mj_H} (C : SC h) : mj_K h 16 = (12, 6) := C.1 (16, 12, 6) (by decide)
theorem SC.k17 {h : mj_H} (C : SC h) : mj_K h 17 = (8, 5) := C.1 (17, 8, 5) (by decide)
theorem SC.k18 {h : mj_H} (C : SC h) : mj_K h 18 = (12, 16) := C.1 (18, 12, 16) (by decide)
theorem SC.k19 {h : mj_H} (C : SC h) : mj_K h 19 = (12, 16) := C.1 (19, 12, 16) (by decide)
theorem SC.k20 {h : mj_H} (C : SC h) : mj_K h 20 = (7, 2) := C.1 (20, 7, 2) (by decide)
theorem SC.k21 {h : mj_H} (C : SC h) : mj_K h 21 = (12, 500) := C.1 (21, 12, 500) (by decide)
theorem SC.k22 {h : mj_H} (C : SC h) : mj_K h 22 = (1, 7) := C.1 (22, 1, 7) (by decide)
theorem SC.k23 {h : mj_H} (C : SC h) : mj_K h 23 = (16, 60) := C.1 (23, 16, 60) (by decide)
theorem SC.k24 {h : mj_H} (C : SC h) : mj_K h 24 = (12, 60) := C.1 (24, 12, 60) (by decide)
theorem SC.k25 {h : mj_H} (C : SC h) : mj_K h 25 = (12, 100) := C.1 (25, 12, 100) (by decide)
theorem SC.k26 {h : mj_H} (C : SC h) : mj_K h 26 = (12, 100) := C.1 (26, 12, 100) (by decide)
theorem SC.k27 {h : mj_H} (C : SC h) : mj_K h 27 = (12, 100) := C.1 (27, 12, 100) (by decide)
theorem SC.k28 {h : mj_H} (C : SC h) : mj_K h 28 = (2, 8) := C.1 (28, 2, 8) (by decide)
theorem SC.k29 {h : mj_H} (C : SC h) : mj_K h 29 = (12, 8) := C.1 (29, 12, 8) (by decide)
theorem SC.k30 {h : mj_H} (C : SC h) : mj_K h 30 = (12, 8) := C.1 (30, 12, 8) (by decide)
theorem SC.k31 {h : mj_H} (C : SC h) : mj_K h 31 = (12, 8) := C.1 (31, 12, 8) (by decide)
theorem SC.k32 {h : mj_H} (C : SC h) : mj_K h 32 = (12, 64) := C.1 (32, 12, 64) (by decide)
theorem SC.r8_0 {h : mj_H} (C : SC h) : mj_R h 8 0 = some 9 := C.2.1 (8, 0, 9) (by decide)
theorem SC.r8_1 {h : mj_H} (C : SC h) : mj_R h 8 1 = some 10 := C.2.1 (8, 1, 10) (by decide)
theorem SC.r8_2 {h : mj_H} (C : SC h) : mj_R h 8 2 = some 11 := C.2.1 (8, 2, 11) (by decide)
theorem SC.r8_3 {h : mj_H} (C : SC h) : mj_R h 8 3 = some 12 := C.2.1 (8, 3, 12) (by decide)
theorem SC.r8_4 {h : mj_H} (C : SC h) : mj_R h 8 4 = some 17 := C.2.1 (8, 4, 17) (by decide)
theorem SC.r8_5 {h : mj_H} (C : SC h) : mj_R h 8 5 = some 20 := C.2.1 (8, 5, 20) (by decide)
theorem SC.r8_6 {h : mj_H} (C : SC h) : mj_R h 8 6 = some 22 := C.2.1 (8, 6, 22) (by decide)
theorem SC.r8_7 {h : mj_H} (C : SC h) : mj_R h 8 7 = some 28 := C.2.1 (8, 7, 28) (by decide)
theorem SC.r12_0 {h : mj_H} (C : SC h) : mj_R h 12 0 = some 13 := C.2.1 (12, 0, 13) (by decide)
theorem SC.r12_1 {h : mj_H} (C : SC h) : mj_R h 12 1 = some 14 := C.2.1 (12, 1, 14) (by decide)
theorem SC.r12_2 {h : mj_H} (C : SC h) : mj_R h 12 2 = some 15 := C.2.1 (12, 2, 15) (by decide)
theorem SC.r12_3 {h : mj_H} (C : SC h) : mj_R h 12 3 = some 16 := C.2.1 (12, 3, 16) (by decide)
theorem SC.r17_0 {h : mj_H} (C : SC h) : mj_R h 17 0 = some 18 := C.2.1 (17, 0, 18) (by decide)
theorem SC.r17_1 {h : mj_H} (C : SC h) : mj_R h 17 1 = some 19 := C.2.1 (17, 1, 19) (by decide)
theorem SC.r20_0 {h : mj_H} (C : SC h) : mj_R h 20 0 = some 21 := C.2.1 (20, 0, 21) (by decide)
theorem SC.r22_0 {h : mj_H} (C : SC h) : mj_R h 22 0 = some 23 := C.2.1 (22, 0, 23) (by decide)
theorem SC.r22_1 {h : mj_H} (C : SC h) : mj_R h 22 1 = some 24 := C.2.1 (22, 1, 24) (by decide)
theorem SC.r22_2 {h : mj_H} (C : SC h) : mj_R h 22 2 = some 25 := C.2.1 (22, 2, 25) (by decide)
theorem SC.r22_3 {h : mj_H} (C : SC h) : mj_R h 22 3 = some 26 := C.2.1 (22, 3, 26) (by decide)
theorem SC.r22_4 {h : mj_H} (C : SC h) : mj_R h 22 4 = some 27 := C.2.1 (22, 4, 27) (by decide)
theorem SC.r28_0 {h : mj_H} (C : SC h) : mj_R h 28 0 = some 29 := C.2.1 (28, 0, 29) (by decide)
theorem SC.r28_1 {h : mj_H} (C : SC h) : mj_R h 28 1 = some 30 := C.2.1 (28, 1, 30) (by decide)
theorem SC.r28_2 {h : mj_H} (C : SC h) : mj_R h 28 2 = some 31 := C.2.1 (28, 2, 31) (by decide)
theorem SC.r28_3 {h : mj_H} (C : SC h) : mj_R h 28 3 = some 32 := C.2.1 (28, 3, 32) (by decide)
theorem SC.v0_0 {h : mj_H} (C : SC h) : mj_I h 0 0 = nI 1 := by rw [C.2.2 0 (by decide)]; decide
theorem SC.v0_1 {h : mj_H} (C : SC h) : mj_I h 0 1 = nI 1 := by rw [C.2.2 0 (by decide)]; decide
theorem SC.v0_2 {h : mj_H} (C : SC h) : mj_I h 0 2 = nI 0 := by rw [C.2.2 0 (by decide)]; decide
theorem SC.v0_3 {h : mj_H} (C : SC h) : mj_I h 0 3 = nI 50 := by rw [C.2.2 0 (by decide)]; decide
theorem SC.v0_4 {h : mj_H} (C : SC h) : mj_I h 0 4 = nI 1 := by rw [C.2.2 0 (by decide)]; decide
theorem SC.v0_5 {h : mj_H} (C : SC h) : mj_I h 0 5 = nI 50 := by rw [C.2.2 0 (by decide)]; decide
theorem SC.v0_6 {h : mj_H} (C : SC h) : mj_I h 0 6 = nI 0 := by rw [C.2.2 0 (by decide)]; decide
theorem SC.v0_7 {h : mj_H} (C : SC h) : mj_I h 0 7 = nI 1 := by rw [C.2.2 0 (by decide)]; decide
theorem SC.v1_0 {h : mj_H} (C : SC h) : mj_I h 1 0 = nI 100 := by rw [C.2.2 1 (by decide)]; decide
theorem SC.v1_1 {h : mj_H} (C : SC h) : mj_I h 1 1 = nI 100 := by rw [C.2.2 1 (by decide)]; decide
theorem SC.v1_2 {h : mj_H} (C : SC h) : mj_I h 1 2 = nI 300 := by rw [C.2.2 1 (by decide)]; decide
theorem SC.v1_3 {h : mj_H} (C : SC h) : mj_I h 1 3 = nI 900 := by rw [C.2.2 1 (by decide)]; decide
theorem SC.v1_4 {h : mj_H} (C : SC h) : mj_I h 1 4 = nI 100 := by rw [C.2.2 1 (by decide)]; decide
theorem SC.v1_5 {h : mj_H} (C : SC h) : mj_I h 1 5 = nI 999 := by rw [C.2.2 1 (by decide)]; decide
theorem SC.v1_6 {h : mj_H} (C : SC h) : mj_I h 1 6 = nI 500 := by rw [C.2.2 1 (by decide)]; decide
theorem SC.v1_7 {h : mj_H} (C : SC h) : mj_I h 1 7 = nI 500 := by rw [C.2.2 1 (by decide)]; decide
theorem SC.v2_0 {h : mj_H} (C : SC h) : mj_I h 2 0 = nI 81 := by rw [C.2.2 2 (by decide)]; decide
theorem SC.v2_1 {h : mj_H} (C : SC h) : mj_I h 2 1 = nI 9 := by rw [C.2.2 2 (by decide)]; decide
theorem SC.v2_2 {h : mj_H} (C : SC h) : mj_I h 2 2 = nI 1 := by rw [C.2.2 2 (by decide)]; decide
theorem SC.v3_0 {h : mj_H} (C : SC h) : mj_I h 3 0 = nI 441 := by rw [C.2.2 3 (by decide)]; decide
theorem SC.v3_1 {h : mj_H} (C : SC h) : mj_I h 3 1 = nI 21 := by rw [C.2.2 3 (by decide)]; decide
theorem SC.v3_2 {h : mj_H} (C : SC h) : mj_I h 3 2 = nI 1 := by rw [C.2.2 3 (by decide)]; decide
theorem SC.v4_0 {h : mj_H} (C : SC h) : mj_I h 4 0 = nI 0 := by rw [C.2.2 4 (by decide)]; decide
theorem SC.v4_1 {h : mj_H} (C : SC h) : mj_I h 4 1 = nI 1 := by rw [C.2.2 4 (by decide)]; decide
theorem SC.v4_2 {h : mj_H} (C : SC h) : mj_I h 4 2 = nI 3 := by rw [C.2.2 4 (by decide)]; decide
theorem SC.v4_3 {h : mj_H} (C : SC h) : mj_I h 4 3 = nI 6 := by rw [C.2.2 4 (by decide)]; decide
theorem SC.v4_4 {h : mj_H} (C : SC h) : mj_I h 4 4 = nI 10 := by rw [C.2.2 4 (by decide)]; decide
theorem SC.v4_5 {h : mj_H} (C : SC h) : mj_I h 4 5 = nI 15 := by rw [C.2.2 4 (by decide)]; decide
theorem SC.v4_6 {h : mj_H} (C : SC h) : mj_I h 4 6 = nI 21 := by rw [C.2.2 4 (by decide)]; decide
theorem SC.v5_0 {h : mj_H} (C : SC h) : mj_I h 5 0 = nI 0 := by rw [C.2.2 5 (by decide)]; decide
theorem SC.v5_1 {h : mj_H} (C : SC h) : mj_I h 5 1 = nI 1 := by rw [C.2.2 5 (by decide)]; decide
theorem SC.v5_2 {h : mj_H} (C : SC h) : mj_I h 5 2 = nI 1 := by rw [C.2.2 5 (by decide)]; decide
theorem SC.v5_3 {h : mj_H} (C : SC h) : mj_I h 5 3 = nI 2 := by rw [C.2.2 5 (by decide)]; decide
theorem SC.v5_4 {h : mj_H} (C : SC h) : mj_I h 5 4 = nI 2 := by rw [C.2.2 5 (by decide)]; decide
theorem SC.v5_5 {h : mj_H} (C : SC h) : mj_I h 5 5 = nI 2 := by rw [C.2.2 5 (by decide)]; decide
theorem SC.v5_6 {h : mj_H} (C : SC h) : mj_I h 5 6 = nI 3 := by rw [C.2.2 5 (by decide)]; decide
theorem SC.v5_7 {h : mj_H} (C : SC h) : mj_I h 5 7 = nI 3 := by rw [C.2.2 5 (by decide)]; decide
theorem SC.v5_8 {h : mj_H} (C : SC h) : mj_I h 5 8 = nI 3 := by rw [C.2.2 5 (by decide)]; decide
theorem SC.v5_9 {h : mj_H} (C : SC h) : mj_I h 5 9 = nI 3 := by rw [C.2.2 5 (by decide)]; decide
theorem SC.v5_10 {h : mj_H} (C : SC h) : mj_I h 5 10 = nI 4 := by rw [C.2.2 5 (by decide)]; decide
theorem SC.v5_11 {h : mj_H} (C : SC h) : mj_I h 5 11 = nI 4 := by rw [C.2.2 5 (by decide)]; decide
theorem SC.v5_12 {h : mj_H} (C : SC h) : mj_I h 5 12 = nI 4 := by rw [C.2.2 5 (by decide)]; decide
theorem SC.v5_13 {h : mj_H} (C : SC h) : mj_I h 5 13 = nI 4 := by rw [C.2.2 5 (by decide)]; decide
theorem SC.v5_14 {h : mj_H} (C : SC h) : mj_I h 5 14 = nI 4 := by rw [C.2.2 5 (by decide)]; decide
theorem SC.v5_15 {h : mj_H} (C : SC h) : mj_I h 5 15 = nI 5 := by rw [C.2.2 5 (by decide)]; decide
theorem SC.v5_16 {h : mj_H} (C : SC h) : mj_I h 5 16 = nI 5 := by rw [C.2.2 5 (by decide)]; decide
theorem SC.v5_17 {h : mj_H} (C : SC h) : mj_I h 5 17 = nI 5 := by rw [C.2.2 5 (by decide)]; decide
theorem SC.v5_18 {h : mj_H} (C : SC h) : mj_I h 5 18 = nI 5 := by rw [C.2.2 5 (by decide)]; decide
theorem SC.v5_19 {h : mj_H} (C : SC h) : mj_I h 5 19 = nI 5 := by rw [C.2.2 5 (by decide)]; decide
theorem SC.v5_20 {h : mj_H} (C : SC h) : mj_I h 5 20 = nI 5 := by rw [C.2.2 5 (by decide)]; decide
theorem SC.v6_0 {h : mj_H} (C : SC h) : mj_I h 6 0 = nI 0 := by rw [C.2.2 6 (by decide)]; decide
theorem SC.v6_1 {h : mj_H} (C : SC h) : mj_I h 6 1 = nI 0 := by rw [C.2.2 6 (by decide)]; decide
theorem SC.v6_2 {h : mj_H} (C : SC h) : mj_I h 6 2 = nI 1 := by rw [C.2.2 6 (by decide)]; decide
theorem SC.v6_3 {h : mj_H} (C : SC h) : mj_I h 6 3 = nI 0 := by rw [C.2.2 6 (by decide)]; decide
theorem SC.v6_4 {h : mj_H} (C : SC h) : mj_I h 6 4 = nI 1 := by rw [C.2.2 6 (by decide)]; decide
theorem SC.v6_5 {h : mj_H} (C : SC h) : mj_I h 6 5 = nI 2 := by rw [C.2.2 6 (by decide)]; decide
theorem SC.v6_6 {h : mj_H} (C : SC h) : mj_I h 6 6 = nI 0 := by rw [C.2.2 6 (by decide)]; decide
theorem SC.v6_7 {h : mj_H} (C : SC h) : mj_I h 6 7 = nI 1 := by rw [C.2.2 6 (by decide)]; decide
theorem SC.v6_8 {h : mj_H} (C : SC h) : mj_I h 6 8 = nI 2 := by rw [C.2.2 6 (by decide)]; decide
theorem SC.v6_9 {h : mj_H} (C : SC h) : mj_I h 6 9 = nI 3 := by rw [C.2.2 6 (by decide)]; decide
theorem SC.v6_10 {h : mj_H} (C : SC h) : mj_I h 6 10 = nI 0 := by rw [C.2.2 6 (by decide)]; decide
theorem SC.v6_11 {h : mj_H} (C : SC h) : mj_I h 6 11 = nI 1 := by rw [C.2.2 6 (by decide)]; decide
theorem SC.v6_12 {h : mj_H} (C : SC h) : mj_I h 6 12 = nI 2 := by rw [C.2.2 6 (by decide)]; decide
theorem SC.v6_13 {h : mj_H} (C : SC h) : mj_I h 6 13 = nI 3 := by rw [C.2.2 6 (by decide)]; decide
theorem SC.v6_14 {h : mj_H} (C : SC h) : mj_I h 6 14 = nI 4 := by rw [C.2.2 6 (by decide)]; decide
theorem SC.v6_15 {h : mj_H} (C : SC h) : mj_I h 6 15 = nI 0 := by rw [C.2.2 6 (by decide)]; decide
theorem SC.v6_16 {h : mj_H} (C : SC h) : mj_I h 6 16 = nI 1 := by rw [C.2.2 6 (by decide)]; decide
theorem SC.v6_17 {h : mj_H} (C : SC h) : mj_I h 6 17 = nI 2 := by rw [C.2.2 6 (by decide)]; decide
theorem SC.v6_18 {h : mj_H} (C : SC h) : mj_I h 6 18 = nI 3 := by rw [C.2.2 6 (by decide)]; decide
theorem SC.v6_19 {h : mj_H} (C : SC h) : mj_I h 6 19 = nI 4 := by rw [C.2.2 6 (by decide)]; decide
theorem SC.v6_20 {h : mj_H} (C : SC h) : mj_I h 6 20 = nI 5 := by rw [C.2.2 6 (by decide)]; decide
theorem SC.to {h h' : mj_H} (C : SC h) (e1 : ∀ a, a < 33 → mj_K h' a = mj_K h a) (e2 : ∀ e ∈ cc_R, mj_R h' e.1 e.2.1 = mj_R h e.1 e.2.1) (e3 : ∀ a, a < 7 → mj_I h' a = mj_I h a) : SC h' :=
  ⟨fun e he => (e1 e.1 (by revert e; decide)).trans (C.1 e he), fun e he => (e2 e he).trans (C.2.1 e he), fun k hk => (e3 k hk).trans (C.2.2 k hk)⟩
theorem Rw.sc {h g : mj_H} {as : List Nat} (r : Rw h g as) (C : SC h) (ha : ∀ a, a < 7 → a ∉ as) : SC g := C.to (fun a _ => by rw [r.2.2.1]) (fun e _ => by rw [r.2.2.2.2.1]) (fun a h7 => r.i (ha a h7))
theorem mj_I_setJ (h : mj_H) (a j : Nat) (x : Int64) : mj_I (mj_setJ h a j x) = mj_I h := rfl
theorem mj_I_setR (h : mj_H) (a j : Nat) (x : Option Nat) : mj_I (mj_setR h a j x) = mj_I h := rfl
theorem mj_J_setI (h : mj_H) (a j : Nat) (x : Int32) : mj_J (mj_setI h a j x) = mj_J h := rfl
theorem mj_J_setR (h : mj_H) (a j : Nat) (x : Option Nat) : mj_J (mj_setR h a j x) = mj_J h := rfl
theorem mj_R_setI (h : mj_H) (a j : Nat) (x : Int32) : mj_R (mj_setI h a j x) = mj_R h := rfl
theorem mj_R_setJ (h : mj_H) (a j : Nat) (x : Int64) : mj_R (mj_setJ h a j x) = mj_R h := rfl
theorem mj_R_set (h : mj_H) (a j b i : Nat) (x : Option Nat) : mj_R (mj_setR h a j x) b i = if b = a then (if i = j then x else mj_R h b i) else mj_R h b i := rfl
theorem mj_J_set (h : mj_H) (a j b i : Nat) (x : Int64) : mj_J (mj_setJ h a j x) b i = if b = a then (if i = j then x else mj_J h b i) else mj_J h b i := rfl
theorem mj_R_at (h : mj_H) (a j : Nat) (x : Option Nat) : mj_R (mj_setR h a j x) a j = x := by simp [mj_R_set]
theorem mj_R_ne {h : mj_H} {a j i : Nat} {x : Option Nat} (hq : ¬ i = j) : mj_R (mj_setR h a j x) a i = mj_R h a i := by simp [mj_R_set, hq]
theorem mj_R_other {h : mj_H} {a j b : Nat} {x : Option Nat} (hb : b ≠ a) : mj_R (mj_setR h a j x) b = mj_R h b := by funext i; simp [mj_R_set, hb]
theorem mj_J_at (h : mj_H) (a j : Nat) (x : Int64) : mj_J (mj_setJ h a j x) a j = x := by simp [mj_J_set]
theorem mj_J_ne {h : mj_H} {a j i : Nat} {x : Int64} (hq : ¬ i = j) : mj_J (mj_setJ h a j x) a i = mj_J h a i := by simp [mj_J_set, hq]
theorem mj_J_other {h : mj_H} {a j b : Nat} {x : Int64} (hb : b ≠ a) : mj_J (mj_setJ h a j x) b = mj_J h b := by funext i; simp [mj_J_set, hb]
