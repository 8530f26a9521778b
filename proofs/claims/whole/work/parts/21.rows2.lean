/-! branches on a truth value, and small helps -/
section MXB
variable {d mid pc : Nat} {ls st : List Value} {h : mj_H} {Q Q' : Option Value → mj_H → Prop} {a b : Nat}
theorem mj_b01 {P : Prop} {i : Decidable P} : (@ite Int32 P i 1 0) = 0 ∨ (@ite Int32 P i 1 0) = 1 := by
  by_cases h : P
  · right; simp [h]
  · left; simp [h]
theorem x_ifB_eq {P : Prop} {i : Decidable P} {off : Int} {t : Nat} (f : mj_fetch mid pc = some (.ifCond .eq off, a, b)) (ht : mj_tgt pc off = t) (kt : ¬ P → mx d mid t ls st h Q) (kf : P → mx d mid (pc + 3) ls st h Q) : mx d mid pc ls (.int (@ite Int32 P i 1 0) :: st) h Q :=
  x_if_eq f ht (fun hc => kt (fun hp => by rw [if_pos hp] at hc; exact absurd hc (by decide))) (fun hc => kf (by
    by_cases hp : P
    · exact hp
    · exact absurd (if_neg hp) hc))
theorem x_ifB_ne {P : Prop} {i : Decidable P} {off : Int} {t : Nat} (f : mj_fetch mid pc = some (.ifCond .ne off, a, b)) (ht : mj_tgt pc off = t) (kt : P → mx d mid t ls st h Q) (kf : ¬ P → mx d mid (pc + 3) ls st h Q) : mx d mid pc ls (.int (@ite Int32 P i 1 0) :: st) h Q :=
  x_if_ne f ht (fun hc => kt (by
    by_cases hp : P
    · exact hp
    · exact absurd (if_neg hp) hc)) (fun hc => kf (fun hp => by rw [if_pos hp] at hc; exact absurd hc (by decide)))
theorem x_top {v w : Value} (e : v = w) (k : mx d mid pc ls (w :: st) h Q) : mx d mid pc ls (v :: st) h Q := e ▸ k
theorem x_topi {v w : Int32} (e : v = w) (k : mx d mid pc ls (.int w :: st) h Q) : mx d mid pc ls (.int v :: st) h Q := e ▸ k
theorem x_name {v : Int32} (k : ∀ w, w = v → mx d mid pc ls (.int w :: st) h Q) : mx d mid pc ls (.int v :: st) h Q := k v rfl
theorem x_heap {h' : mj_H} (e : h = h') (k : mx d mid pc ls st h' Q) : mx d mid pc ls st h Q := e ▸ k
theorem x_nameH (k : ∀ w, w = h → mx d mid pc ls st w Q) : mx d mid pc ls st h Q := k h rfl
end MXB
theorem mj_if0 {P : Prop} {i : Decidable P} (h : ¬ P) : (some (.int (nI 0)) : Option Value) = some (.int (@ite Int32 P i 1 0)) := by rw [if_neg h]; rfl
theorem mj_if1 {P : Prop} {i : Decidable P} (h : P) : (some (.int (nI 1)) : Option Value) = some (.int (@ite Int32 P i 1 0)) := by rw [if_pos h]; rfl
theorem mj_I_set (h : mj_H) (a j b i : Nat) (x : Int32) : mj_I (mj_setI h a j x) b i = if b = a then (if i = j then x else mj_I h b i) else mj_I h b i := rfl
theorem mj_I_other {h : mj_H} {a j b : Nat} {x : Int32} (hb : b ≠ a) : mj_I (mj_setI h a j x) b = mj_I h b := by
  funext i; simp [mj_I_set, hb]
