/-! THE MODEL'S SHAPE: its object is cell 33, its rows are the cells 34 to 61 -/
def mm_L : List (Nat × Nat × Nat × Nat) := [(2, 34, 12, 48), (3, 35, 14, 36), (4, 36, 12, 180), (5, 37, 12, 20), (6, 38, 12, 20), (9, 39, 12, 6), (10, 40, 12, 6), (11, 41, 12, 6), (12, 42, 12, 6), (13, 43, 12, 6), (16, 44, 12, 14580), (18, 45, 12, 10), (19, 46, 12, 30), (20, 47, 12, 30), (23, 48, 12, 46656), (24, 49, 12, 46656), (25, 50, 12, 500), (27, 51, 12, 500), (34, 52, 12, 60), (35, 53, 12, 60), (36, 54, 12, 60), (37, 55, 12, 100), (38, 56, 14, 100), (39, 57, 12, 100), (42, 58, 12, 8), (43, 59, 12, 8), (44, 60, 12, 8), (45, 61, 12, 8)]
def SM (h : mj_H) : Prop := mj_K h 33 = (11, 48) ∧ ∀ e ∈ mm_L, mj_R h 33 e.1 = some e.2.1 ∧ mj_K h e.2.1 = e.2.2
theorem SM.k33 {h : mj_H} (S : SM h) : mj_K h 33 = (11, 48) := S.1
theorem SM.r2 {h : mj_H} (S : SM h) : mj_R h 33 2 = some 34 := (S.2 (2, 34, 12, 48) (by decide)).1
theorem SM.k34 {h : mj_H} (S : SM h) : mj_K h 34 = (12, 48) := (S.2 (2, 34, 12, 48) (by decide)).2
theorem SM.r3 {h : mj_H} (S : SM h) : mj_R h 33 3 = some 35 := (S.2 (3, 35, 14, 36) (by decide)).1
theorem SM.k35 {h : mj_H} (S : SM h) : mj_K h 35 = (14, 36) := (S.2 (3, 35, 14, 36) (by decide)).2
theorem SM.r4 {h : mj_H} (S : SM h) : mj_R h 33 4 = some 36 := (S.2 (4, 36, 12, 180) (by decide)).1
theorem SM.k36 {h : mj_H} (S : SM h) : mj_K h 36 = (12, 180) := (S.2 (4, 36, 12, 180) (by decide)).2
theorem SM.r5 {h : mj_H} (S : SM h) : mj_R h 33 5 = some 37 := (S.2 (5, 37, 12, 20) (by decide)).1
theorem SM.k37 {h : mj_H} (S : SM h) : mj_K h 37 = (12, 20) := (S.2 (5, 37, 12, 20) (by decide)).2
theorem SM.r6 {h : mj_H} (S : SM h) : mj_R h 33 6 = some 38 := (S.2 (6, 38, 12, 20) (by decide)).1
theorem SM.k38 {h : mj_H} (S : SM h) : mj_K h 38 = (12, 20) := (S.2 (6, 38, 12, 20) (by decide)).2
theorem SM.r9 {h : mj_H} (S : SM h) : mj_R h 33 9 = some 39 := (S.2 (9, 39, 12, 6) (by decide)).1
theorem SM.k39 {h : mj_H} (S : SM h) : mj_K h 39 = (12, 6) := (S.2 (9, 39, 12, 6) (by decide)).2
theorem SM.r10 {h : mj_H} (S : SM h) : mj_R h 33 10 = some 40 := (S.2 (10, 40, 12, 6) (by decide)).1
theorem SM.k40 {h : mj_H} (S : SM h) : mj_K h 40 = (12, 6) := (S.2 (10, 40, 12, 6) (by decide)).2
theorem SM.r11 {h : mj_H} (S : SM h) : mj_R h 33 11 = some 41 := (S.2 (11, 41, 12, 6) (by decide)).1
theorem SM.k41 {h : mj_H} (S : SM h) : mj_K h 41 = (12, 6) := (S.2 (11, 41, 12, 6) (by decide)).2
theorem SM.r12 {h : mj_H} (S : SM h) : mj_R h 33 12 = some 42 := (S.2 (12, 42, 12, 6) (by decide)).1
theorem SM.k42 {h : mj_H} (S : SM h) : mj_K h 42 = (12, 6) := (S.2 (12, 42, 12, 6) (by decide)).2
theorem SM.r13 {h : mj_H} (S : SM h) : mj_R h 33 13 = some 43 := (S.2 (13, 43, 12, 6) (by decide)).1
theorem SM.k43 {h : mj_H} (S : SM h) : mj_K h 43 = (12, 6) := (S.2 (13, 43, 12, 6) (by decide)).2
theorem SM.r16 {h : mj_H} (S : SM h) : mj_R h 33 16 = some 44 := (S.2 (16, 44, 12, 14580) (by decide)).1
theorem SM.k44 {h : mj_H} (S : SM h) : mj_K h 44 = (12, 14580) := (S.2 (16, 44, 12, 14580) (by decide)).2
theorem SM.r18 {h : mj_H} (S : SM h) : mj_R h 33 18 = some 45 := (S.2 (18, 45, 12, 10) (by decide)).1
theorem SM.k45 {h : mj_H} (S : SM h) : mj_K h 45 = (12, 10) := (S.2 (18, 45, 12, 10) (by decide)).2
theorem SM.r19 {h : mj_H} (S : SM h) : mj_R h 33 19 = some 46 := (S.2 (19, 46, 12, 30) (by decide)).1
theorem SM.k46 {h : mj_H} (S : SM h) : mj_K h 46 = (12, 30) := (S.2 (19, 46, 12, 30) (by decide)).2
theorem SM.r20 {h : mj_H} (S : SM h) : mj_R h 33 20 = some 47 := (S.2 (20, 47, 12, 30) (by decide)).1
theorem SM.k47 {h : mj_H} (S : SM h) : mj_K h 47 = (12, 30) := (S.2 (20, 47, 12, 30) (by decide)).2
theorem SM.r23 {h : mj_H} (S : SM h) : mj_R h 33 23 = some 48 := (S.2 (23, 48, 12, 46656) (by decide)).1
theorem SM.k48 {h : mj_H} (S : SM h) : mj_K h 48 = (12, 46656) := (S.2 (23, 48, 12, 46656) (by decide)).2
theorem SM.r24 {h : mj_H} (S : SM h) : mj_R h 33 24 = some 49 := (S.2 (24, 49, 12, 46656) (by decide)).1
theorem SM.k49 {h : mj_H} (S : SM h) : mj_K h 49 = (12, 46656) := (S.2 (24, 49, 12, 46656) (by decide)).2
theorem SM.r25 {h : mj_H} (S : SM h) : mj_R h 33 25 = some 50 := (S.2 (25, 50, 12, 500) (by decide)).1
theorem SM.k50 {h : mj_H} (S : SM h) : mj_K h 50 = (12, 500) := (S.2 (25, 50, 12, 500) (by decide)).2
theorem SM.r27 {h : mj_H} (S : SM h) : mj_R h 33 27 = some 51 := (S.2 (27, 51, 12, 500) (by decide)).1
theorem SM.k51 {h : mj_H} (S : SM h) : mj_K h 51 = (12, 500) := (S.2 (27, 51, 12, 500) (by decide)).2
theorem SM.r34 {h : mj_H} (S : SM h) : mj_R h 33 34 = some 52 := (S.2 (34, 52, 12, 60) (by decide)).1
theorem SM.k52 {h : mj_H} (S : SM h) : mj_K h 52 = (12, 60) := (S.2 (34, 52, 12, 60) (by decide)).2
theorem SM.r35 {h : mj_H} (S : SM h) : mj_R h 33 35 = some 53 := (S.2 (35, 53, 12, 60) (by decide)).1
theorem SM.k53 {h : mj_H} (S : SM h) : mj_K h 53 = (12, 60) := (S.2 (35, 53, 12, 60) (by decide)).2
theorem SM.r36 {h : mj_H} (S : SM h) : mj_R h 33 36 = some 54 := (S.2 (36, 54, 12, 60) (by decide)).1
theorem SM.k54 {h : mj_H} (S : SM h) : mj_K h 54 = (12, 60) := (S.2 (36, 54, 12, 60) (by decide)).2
theorem SM.r37 {h : mj_H} (S : SM h) : mj_R h 33 37 = some 55 := (S.2 (37, 55, 12, 100) (by decide)).1
theorem SM.k55 {h : mj_H} (S : SM h) : mj_K h 55 = (12, 100) := (S.2 (37, 55, 12, 100) (by decide)).2
theorem SM.r38 {h : mj_H} (S : SM h) : mj_R h 33 38 = some 56 := (S.2 (38, 56, 14, 100) (by decide)).1
theorem SM.k56 {h : mj_H} (S : SM h) : mj_K h 56 = (14, 100) := (S.2 (38, 56, 14, 100) (by decide)).2
theorem SM.r39 {h : mj_H} (S : SM h) : mj_R h 33 39 = some 57 := (S.2 (39, 57, 12, 100) (by decide)).1
theorem SM.k57 {h : mj_H} (S : SM h) : mj_K h 57 = (12, 100) := (S.2 (39, 57, 12, 100) (by decide)).2
theorem SM.r42 {h : mj_H} (S : SM h) : mj_R h 33 42 = some 58 := (S.2 (42, 58, 12, 8) (by decide)).1
theorem SM.k58 {h : mj_H} (S : SM h) : mj_K h 58 = (12, 8) := (S.2 (42, 58, 12, 8) (by decide)).2
theorem SM.r43 {h : mj_H} (S : SM h) : mj_R h 33 43 = some 59 := (S.2 (43, 59, 12, 8) (by decide)).1
theorem SM.k59 {h : mj_H} (S : SM h) : mj_K h 59 = (12, 8) := (S.2 (43, 59, 12, 8) (by decide)).2
theorem SM.r44 {h : mj_H} (S : SM h) : mj_R h 33 44 = some 60 := (S.2 (44, 60, 12, 8) (by decide)).1
theorem SM.k60 {h : mj_H} (S : SM h) : mj_K h 60 = (12, 8) := (S.2 (44, 60, 12, 8) (by decide)).2
theorem SM.r45 {h : mj_H} (S : SM h) : mj_R h 33 45 = some 61 := (S.2 (45, 61, 12, 8) (by decide)).1
theorem SM.k61 {h : mj_H} (S : SM h) : mj_K h 61 = (12, 8) := (S.2 (45, 61, 12, 8) (by decide)).2
theorem SM.to {h h' : mj_H} (S : SM h) (e1 : mj_K h' = mj_K h) (e2 : mj_R h' = mj_R h) : SM h' := by
  unfold SM
  rw [e1, e2]
  exact S
/-- a number that names one of n things -/
abbrev mIn (s : Int32) (n : Nat) : Prop := ¬ s < 0 ∧ s.toNatClampNeg < n
theorem mIn_of {s : Int32} {n : Nat} (h : mIn s n) (hn : n < 2 ^ 31) : ∃ j, j < n ∧ s = nI j := vp_in_of (n := n) (fun q => q.elim h.1 (fun z => absurd h.2 (Nat.not_lt.mpr z))) hn
theorem mIn_nI {j n : Nat} (h : j < n) (hn : n < 2 ^ 31) : mIn (nI j) n := ⟨nI_pos (by omega), by rw [nI_clamp (by omega)]; exact h⟩
theorem mIn_nI_iff {j n : Nat} (hj : j < 2 ^ 31) : mIn (nI j) n ↔ j < n := ⟨fun h => by have := h.2; rw [nI_clamp hj] at this; exact this, fun h => ⟨nI_pos hj, by rw [nI_clamp hj]; exact h⟩⟩
theorem mIn_iff {s : Int32} {n : Nat} (hn : n < 2 ^ 30) : (0 ≤ s ∧ s ≤ nI n - 1) ↔ mIn s n := by
  have e1 : (nI n - 1).toInt = (n : Int) - 1 := by
    cases n with
    | zero => rfl
    | succ k =>
      have : nI (k + 1) - 1 = nI k := nI_pred k
      rw [this, nI_toInt (by omega)]
      omega
  rw [Int32.le_iff_toInt_le, Int32.le_iff_toInt_le, e1]
  have e0 : (0 : Int32).toInt = 0 := rfl
  have e2 : s.toNatClampNeg = s.toInt.toNat := rfl
  unfold mIn
  rw [Int32.lt_iff_toInt_lt, e0, e2]
  omega

