/-! branches on a truth value, and small helps -/
section MXB
variable {d mid pc : Nat} {ls st : List Value} {h : mj_H} {Q Q' : Option Value → mj_H → Prop} {a b : Nat}
theorem mj_b01 {P : Prop} {i : Decidable P} : (@ite Int32 P i 1 0) = 0 ∨ (@ite Int32 P i 1 0) = 1 := by
  by_cases h : P
  · right; simp [h]
  · left; simp [h]
theorem x_ifB_eq {P : Prop} {i : Decidable P} {off : Int} {t : Nat} (f : mj_fetch mid pc = some (.ifCond .eq off, a, b)) (ht : mj_tgt pc off = t) (kt : ¬ P → mx d mid t ls st h Q) (kf : P → mx d mid (pc + 3) ls st h Q) : mx d mid pc ls (.int (@ite Int32 P i 1 0) :: st) h Q :=
  x_if_eq f ht (fun hc => kt (fun hp => by rw [if_pos hp] at hc; exact absurd hc (by decide))) (fun hc => kf (by
    by_cases hp : P
    · exact hp
    · exact absurd (if_neg hp) hc))
theorem x_ifB_ne {P : Prop} {i : Decidable P} {off : Int} {t : Nat} (f : mj_fetch mid pc = some (.ifCond .ne off, a, b)) (ht : mj_tgt pc off = t) (kt : P → mx d mid t ls st h Q) (kf : ¬ P → mx d mid (pc + 3) ls st h Q) : mx d mid pc ls (.int (@ite Int32 P i 1 0) :: st) h Q :=
  x_if_ne f ht (fun hc => kt (by
    by_cases hp : P
    · exact hp
    · exact absurd (if_neg hp) hc)) (fun hc => kf (fun hp => by rw [if_pos hp] at hc; exact absurd hc (by decide)))
theorem x_ifN_eq {x : Nat} {off : Int} {t : Nat} (f : mj_fetch mid pc = some (.ifCond .eq off, a, b)) (ht : mj_tgt pc off = t) (hx : x < 2 ^ 31) (kt : x = 0 → mx d mid t ls st h Q) (kf : ¬ x = 0 → mx d mid (pc + 3) ls st h Q) : mx d mid pc ls (.int (nI x) :: st) h Q :=
  x_if_eq f ht (fun hc => kt ((nI_eq (b := 0) hx (by decide)).mp hc)) (fun hc => kf (fun q => hc ((nI_eq (b := 0) hx (by decide)).mpr q)))
theorem x_ifN_ne {x : Nat} {off : Int} {t : Nat} (f : mj_fetch mid pc = some (.ifCond .ne off, a, b)) (ht : mj_tgt pc off = t) (hx : x < 2 ^ 31) (kt : ¬ x = 0 → mx d mid t ls st h Q) (kf : x = 0 → mx d mid (pc + 3) ls st h Q) : mx d mid pc ls (.int (nI x) :: st) h Q :=
  x_if_ne f ht (fun hc => kt (fun q => hc ((nI_eq (b := 0) hx (by decide)).mpr q))) (fun hc => kf ((nI_eq (b := 0) hx (by decide)).mp hc))
theorem x_ifN_lt {x : Nat} {off : Int} {t : Nat} (f : mj_fetch mid pc = some (.ifCond .lt off, a, b)) (ht : mj_tgt pc off = t) (hx : x < 2 ^ 31) (kt : False → mx d mid t ls st h Q) (kf : True → mx d mid (pc + 3) ls st h Q) : mx d mid pc ls (.int (nI x) :: st) h Q :=
  x_if_lt f ht (fun hc => (nI_pos hx hc).elim) (fun _ => kf trivial)
theorem x_ifN_le {x : Nat} {off : Int} {t : Nat} (f : mj_fetch mid pc = some (.ifCond .le off, a, b)) (ht : mj_tgt pc off = t) (hx : x < 2 ^ 31) (kt : x = 0 → mx d mid t ls st h Q) (kf : ¬ x = 0 → mx d mid (pc + 3) ls st h Q) : mx d mid pc ls (.int (nI x) :: st) h Q :=
  x_if_le f ht (fun hc => kt (by have := (nI_leI (b := 0) hx (by decide)).mp hc; omega)) (fun hc => kf (fun q => hc ((nI_leI (b := 0) hx (by decide)).mpr (by omega))))
theorem x_ifN_gt {x : Nat} {off : Int} {t : Nat} (f : mj_fetch mid pc = some (.ifCond .gt off, a, b)) (ht : mj_tgt pc off = t) (hx : x < 2 ^ 31) (kt : 0 < x → mx d mid t ls st h Q) (kf : ¬ 0 < x → mx d mid (pc + 3) ls st h Q) : mx d mid pc ls (.int (nI x) :: st) h Q :=
  x_if_gt f ht (fun hc => kt ((nI_ltI (a := 0) (by decide) hx).mp hc)) (fun hc => kf (fun q => hc ((nI_ltI (a := 0) (by decide) hx).mpr q)))
theorem x_callVe {x q n dc : Nat} {as : List Value} {stk : List Value} {v : Value} {h' : mj_H} (f : mj_fetch mid pc = some (.invokevirtual x, a, 0)) (k : mxc dc a (.ref q :: as) h (fun r h1 => r = some v ∧ h1 = h')) (hd : dc < d) (hK : mj_K h q = (mj_own a, n)) (hg : mj_own a < 12 ∧ mj_st a = false) (hstk : stk = as.reverse ++ .ref q :: st) (hn : mj_np a = as.length) (hw : mj_words st ≤ 8) (hk : as.all mj_kn = true) (kk : mx d mid (pc + 3) ls (v :: st) h' Q) : mx d mid pc ls stk h Q :=
  x_callV f k hd hK hg hstk hn hw hk (by rintro _ _ ⟨rfl, rfl⟩; exact kk)
theorem x_callVn {x q n dc : Nat} {as : List Value} {stk : List Value} {h' : mj_H} (f : mj_fetch mid pc = some (.invokevirtual x, a, 0)) (k : mxc dc a (.ref q :: as) h (fun r h1 => r = none ∧ h1 = h')) (hd : dc < d) (hK : mj_K h q = (mj_own a, n)) (hg : mj_own a < 12 ∧ mj_st a = false) (hstk : stk = as.reverse ++ .ref q :: st) (hn : mj_np a = as.length) (hw : mj_words st ≤ 8) (hk : as.all mj_kn = true) (kk : mx d mid (pc + 3) ls st h' Q) : mx d mid pc ls stk h Q :=
  x_callV f k hd hK hg hstk hn hw hk (by rintro _ _ ⟨rfl, rfl⟩; exact kk)
theorem x_callIn {x q dc : Nat} {as : List Value} {stk : List Value} {h' : mj_H} (f : mj_fetch mid pc = some (.invokespecial x, a, 0)) (k : mxc dc a (.ref q :: as) h (fun r h1 => r = none ∧ h1 = h')) (hd : dc < d) (hg : mj_st a = false) (hstk : stk = as.reverse ++ .ref q :: st) (hn : mj_np a = as.length) (hw : mj_words st ≤ 8) (hk : as.all mj_kn = true) (kk : mx d mid (pc + 3) ls st h' Q) : mx d mid pc ls stk h Q :=
  x_callI f k hd hg hstk hn hw hk (by rintro _ _ ⟨rfl, rfl⟩; exact kk)
theorem x_callSe {x dc : Nat} {as : List Value} {stk : List Value} {v : Value} {h' : mj_H} (f : mj_fetch mid pc = some (.invokestatic x, a, 0)) (k : mxc dc a as h (fun r h1 => r = some v ∧ h1 = h')) (hd : dc < d) (hg : mj_st a = true) (hstk : stk = as.reverse ++ st) (hn : mj_np a = as.length) (hw : mj_words st ≤ 8) (hk : as.all mj_kn = true) (kk : mx d mid (pc + 3) ls (v :: st) h' Q) : mx d mid pc ls stk h Q :=
  x_callS f k hd hg hstk hn hw hk (by rintro _ _ ⟨rfl, rfl⟩; exact kk)
theorem x_callSn {x dc : Nat} {as : List Value} {stk : List Value} {h' : mj_H} (f : mj_fetch mid pc = some (.invokestatic x, a, 0)) (k : mxc dc a as h (fun r h1 => r = none ∧ h1 = h')) (hd : dc < d) (hg : mj_st a = true) (hstk : stk = as.reverse ++ st) (hn : mj_np a = as.length) (hw : mj_words st ≤ 8) (hk : as.all mj_kn = true) (kk : mx d mid (pc + 3) ls st h' Q) : mx d mid pc ls stk h Q :=
  x_callS f k hd hg hstk hn hw hk (by rintro _ _ ⟨rfl, rfl⟩; exact kk)
theorem x_top {v w : Value} (e : v = w) (k : mx d mid pc ls (w :: st) h Q) : mx d mid pc ls (v :: st) h Q := e ▸ k
theorem x_topi {v w : Int32} (e : v = w) (k : mx d mid pc ls (.int w :: st) h Q) : mx d mid pc ls (.int v :: st) h Q := e ▸ k
theorem x_name {v : Int32} (k : ∀ w, w = v → mx d mid pc ls (.int w :: st) h Q) : mx d mid pc ls (.int v :: st) h Q := k v rfl
theorem x_heap {h' : mj_H} (e : h = h') (k : mx d mid pc ls st h' Q) : mx d mid pc ls st h Q := e ▸ k
theorem x_nameH (k : ∀ w, w = h → mx d mid pc ls st w Q) : mx d mid pc ls st h Q := k h rfl
end MXB
theorem mj_if0 {P : Prop} {i : Decidable P} (h : ¬ P) : (some (.int (nI 0)) : Option Value) = some (.int (@ite Int32 P i 1 0)) := by rw [if_neg h]; rfl
theorem mj_if1 {P : Prop} {i : Decidable P} (h : P) : (some (.int (nI 1)) : Option Value) = some (.int (@ite Int32 P i 1 0)) := by rw [if_pos h]; rfl
theorem mj_qT {P A B : Prop} {i : Decidable P} (h : P) (a : A) : @ite Prop P i A B := by rw [if_pos h]; exact a
theorem mj_qF {P A B : Prop} {i : Decidable P} (h : ¬ P) (b : B) : @ite Prop P i A B := by rw [if_neg h]; exact b
theorem mj_I_set (h : mj_H) (a j b i : Nat) (x : Int32) : mj_I (mj_setI h a j x) b i = if b = a then (if i = j then x else mj_I h b i) else mj_I h b i := rfl
theorem mj_I_at (h : mj_H) (a j : Nat) (x : Int32) : mj_I (mj_setI h a j x) a j = x := by simp [mj_I_set]
theorem mj_I_ne {h : mj_H} {a j i : Nat} {x : Int32} (hq : ¬ i = j) : mj_I (mj_setI h a j x) a i = mj_I h a i := by simp [mj_I_set, hq]
theorem mj_ifs {α : Type} {q r : Nat} {a b : α} (h : ¬ q = r) : (if q < r + 1 then a else b) = if q < r then a else b := by
  by_cases h1 : q < r
  · rw [if_pos h1, if_pos (by omega)]
  · rw [if_neg h1, if_neg (by omega)]
theorem mj_I_other {h : mj_H} {a j b : Nat} {x : Int32} (hb : b ≠ a) : mj_I (mj_setI h a j x) b = mj_I h b := by
  funext i; simp [mj_I_set, hb]
