/-! THE BENCH: cold rings, rubbing, pressing -/
/-- a job on the bench: its object, its row of marks, its rings and marks -/
def JH (h : mj_H) (A U rg : Nat) (M : Nat → Int32) : Prop := mj_K h A = (3, 5) ∧ mj_R h A 2 = some U ∧ mj_K h U = (12, 9) ∧ 63 ≤ U ∧ mj_I h U = M ∧ M 8 = nI rg ∧ (2 ≤ rg ∧ rg ≤ 6) ∧ MB M
theorem JH.to {h g : mj_H} {A U rg : Nat} {M : Nat → Int32} {as : List Nat} (J : JH h A U rg M) (r : Rw h g as) (hs : ∀ a, a ∈ as → a < 63) : JH g A U rg M :=
  ⟨by rw [r.2.2.1]; exact J.1, by rw [r.2.2.2.2.1]; exact J.2.1, by rw [r.2.2.1]; exact J.2.2.1, J.2.2.2.1, (r.i (fun q => by have := hs _ q; have := J.2.2.2.1; omega)).trans J.2.2.2.2.1, J.2.2.2.2.2⟩
theorem le1 {x : Int32} (h : 1 ≤ x.toInt) : nI 1 ≤ x := by rw [Int32.le_iff_toInt_le]; exact h
theorem k_tickJ {h : mj_H} (C : SC h) {A U rg : Nat} {M : Nat → Int32} (J : JH h A U rg M) (work push : Int32) : mxc 0 7 [.ref 12, .ref A, .int work, .int push] h (fun r h' => r = some (.int (if mv (tc_ch M rg (cT h).1 (cT h).2.2.1 work push) rg = true then 1 else 0)) ∧ Rw h h' [13, 14, 15, 16] ∧ cT h' = tc M rg work push (cT h)) := by
  obtain ⟨hA, hRU, hU, _, rfl, e8, hrg, hM⟩ := J
  exact k_tick C hA hRU hU e8 hrg (le1 hM.2.1) (le1 hM.2.2.2) work push
theorem k_tickR {h : mj_H} (C : SC h) {A U rg : Nat} {M : Nat → Int32} (J : JH h A U rg M) (work push : Int32) {W p : Int32} (eW : work = W * M 0) (ep : push = p) {T : tk_R} (hE : E3 (cT h) T) (hT : TI T) : mxc 0 7 [.ref 12, .ref A, .int work, .int push] h (fun r h' => (r = some (.int 1) ∨ (r = some (.int 0) ∧ tk M rg W p 0 (tk M rg W p 0 T) = tk M rg W p 0 T)) ∧ Rw h h' [13, 14, 15, 16] ∧ E3 (cT h') (tk M rg W p 0 T) ∧ ∀ q, 6 ≤ q → mj_I h' 16 q = mj_I h 16 q) := by
  subst eW
  subst ep
  refine (k_tickJ C J (W * M 0) push).post ?_
  rintro r g ⟨hr, hR, hT1⟩
  have hE2 := tk_E3 (W := W) (p := push) J.2.2.2.2.2.2.2 J.2.2.2.2.2.2.1 hE hT
  refine ⟨?_, hR, by rw [hT1]; exact hE2, fun q hq => (congrFun (congrArg (fun x : tk_R => x.2.2.2) hT1) q).trans (if_neg (by have := J.2.2.2.2.2.2.1.2; omega))⟩
  by_cases hm : mv (tc_ch M rg (cT h).1 (cT h).2.2.1 (W * M 0) push) rg = true
  · exact Or.inl (by rw [hr, if_pos hm])
  · refine Or.inr ⟨by rw [hr, if_neg hm], tk_fix0 ?_⟩
    rw [tc_fix hm] at hE2
    exact ⟨hE.1.symm.trans hE2.1, hE.2.1.symm.trans hE2.2.1, hE.2.2.symm.trans hE2.2.2⟩
set_option maxRecDepth 20000 in
theorem klay_l {h : mj_H} {Q : Option Value → mj_H → Prop} (K : ∀ g, SC g → Rw h g [12, 13, 14, 15, 16] → (∀ q, ¬ q = 6 → ¬ q = 8 → mj_I g 12 q = mj_I h 12 q) → mj_I g 12 6 = nI 0 → mj_I g 12 8 = -1 → (∀ q, mj_I g 13 q = if q < 6 then nI 20 else mj_I h 13 q) → (∀ q, mj_I g 14 q = if q < 6 then nI 20 else mj_I h 14 q) → (∀ q, mj_I g 15 q = if q < 6 then nI 0 else mj_I h 15 q) → (∀ q, mj_I g 16 q = if q < 6 then nI 0 else mj_I h 16 q) → Q none g) :
  ∀ (n r : Nat) (g : mj_H), r + n = 6 → SC g → Rw h g [13, 14, 15, 16] → (∀ q, mj_I g 13 q = if q < r then nI 20 else mj_I h 13 q) → (∀ q, mj_I g 14 q = if q < r then nI 20 else mj_I h 14 q) → (∀ q, mj_I g 15 q = if q < r then nI 0 else mj_I h 15 q) → (∀ q, mj_I g 16 q = if q < r then nI 0 else mj_I h 16 q) → mx 0 3 2 [.ref 12, .int (nI r)] [] g Q := by
  intro n
  induction n with
  | zero =>
    intro r g hr C hR i13 i14 i15 i16
    obtain rfl : r = 6 := by omega
    refine x_iload_n f_3_2 rfl ?_
    refine x_bipush (v := nI 6) f_3_3 (by decide) ?_
    refine x_icmpN_ge (t := 44) f_3_5 (by decide) (by decide) (by decide) (fun c_1 => ?_) (fun c_1 => by omega)
    refine x_aload_n f_3_44 rfl ?_
    refine x_iconst (v := nI 0) f_3_45 (by decide) ?_
    refine x_putI f_3_46 C.k12 (by decide) ?_
    refine x_aload_n f_3_49 rfl ?_
    refine x_iconst (v := -1) f_3_50 (by decide) ?_
    refine x_putI f_3_51 C.k12 (by decide) ?_
    refine x_retV f_3_54 rfl ?_
    exact K _ (Rw.sc (((Rw.rf g [12]).set (by decide)).set (by decide)) C (by decide)) ((hR.mono (by decide)).trans (((Rw.rf g _).set (by decide)).set (by decide))) (fun q h6 h8 => (mj_I_ne h8).trans ((mj_I_ne h6).trans (congrFun (hR.i (by decide)) q))) ((mj_I_ne (by decide)).trans (mj_I_at _ _ _ _)) (mj_I_at _ _ _ _) i13 i14 i15 i16
  | succ n ih =>
    intro r g hr C hR i13 i14 i15 i16
    refine x_iload_n f_3_2 rfl ?_
    refine x_bipush (v := nI 6) f_3_3 (by decide) ?_
    refine x_icmpN_ge (t := 44) f_3_5 (by decide) (by omega) (by decide) (fun c_1 => by omega) (fun c_1 => ?_)
    refine x_aload_n f_3_8 rfl ?_
    refine x_getR f_3_9 C.k12 (by decide) C.r12_0 ?_
    refine x_iload_n f_3_12 rfl ?_
    refine x_bipush (v := nI 20) f_3_13 (by decide) ?_
    refine x_iast (j := r) f_3_15 C.k13 (by decide) (by omega) (by decide) ?_
    refine x_aload_n f_3_16 rfl ?_
    refine x_getR f_3_17 C.k12 (by decide) C.r12_1 ?_
    refine x_iload_n f_3_20 rfl ?_
    refine x_bipush (v := nI 20) f_3_21 (by decide) ?_
    refine x_iast (j := r) f_3_23 C.k14 (by decide) (by omega) (by decide) ?_
    refine x_aload_n f_3_24 rfl ?_
    refine x_getR f_3_25 C.k12 (by decide) C.r12_2 ?_
    refine x_iload_n f_3_28 rfl ?_
    refine x_iconst (v := nI 0) f_3_29 (by decide) ?_
    refine x_iast (j := r) f_3_30 C.k15 (by decide) (by omega) (by decide) ?_
    refine x_aload_n f_3_31 rfl ?_
    refine x_getR f_3_32 C.k12 (by decide) C.r12_3 ?_
    refine x_iload_n f_3_35 rfl ?_
    refine x_iconst (v := nI 0) f_3_36 (by decide) ?_
    refine x_iast (j := r) f_3_37 C.k16 (by decide) (by omega) (by decide) ?_
    refine x_iinc (v := nI (r + 1)) (ls1 := [.ref 12, .int (nI (r + 1))]) f_3_38 rfl (by exact nI_add _ 1) rfl ?_
    refine x_goto (t := 2) f_3_41 (by decide) ?_
    refine ih (r + 1) _ (by omega) (Rw.sc ((((Rw.rf g [13, 14, 15, 16]).set (by decide)).set (by decide)).set (by decide) |>.set (by decide)) C (by decide)) (hR.trans ((((Rw.rf g _).set (by decide)).set (by decide)).set (by decide) |>.set (by decide))) ?_ ?_ ?_ ?_
    · exact row_up (fun q => ((congrFun (mj_I_other (by decide)) q).trans ((congrFun (mj_I_other (by decide)) q).trans ((congrFun (mj_I_other (by decide)) q).trans (mj_I_if rfl rfl))))) i13 rfl
    · exact row_up (fun q => ((congrFun (mj_I_other (by decide)) q).trans ((congrFun (mj_I_other (by decide)) q).trans (mj_I_if rfl (congrFun (mj_I_other (by decide)) q))))) i14 rfl
    · exact row_up (fun q => ((congrFun (mj_I_other (by decide)) q).trans (mj_I_if rfl ((congrFun (mj_I_other (by decide)) q).trans (congrFun (mj_I_other (by decide)) q))))) i15 rfl
    · exact row_up (fun q => (mj_I_if rfl ((congrFun (mj_I_other (by decide)) q).trans ((congrFun (mj_I_other (by decide)) q).trans (congrFun (mj_I_other (by decide)) q))))) i16 rfl
/-- the bench's rows hold nothing beyond the rings -/
def ZC (h : mj_H) : Prop := ∀ a ∈ [13, 14, 15, 16], ∀ q, 6 ≤ q → mj_I h a q = 0
theorem ifz {f : Nat → Int32} {x : Int32} (hz : ∀ q, 6 ≤ q → f q = 0) : (fun q => if q < 6 then x else f q) = fun q => if q < 6 then x else 0 := by
  funext q
  by_cases h : q < 6
  · rw [if_pos h, if_pos h]
  · rw [if_neg h, if_neg h, hz q (by omega)]
theorem ifz0 : (fun q : Nat => if q < 6 then nI 0 else (0 : Int32)) = fun _ => 0 := by
  funext q
  by_cases h : q < 6
  · rw [if_pos h]; rfl
  · rw [if_neg h]
set_option maxRecDepth 20000 in
theorem k_layCold {h : mj_H} (C : SC h) (Z : ZC h) : mxc 0 3 [.ref 12] h (fun r h' => r = none ∧ Rw h h' [12, 13, 14, 15, 16] ∧ (∀ q, ¬ q = 6 → ¬ q = 8 → mj_I h' 12 q = mj_I h 12 q) ∧ mj_I h' 12 6 = nI 0 ∧ mj_I h' 12 8 = -1 ∧ cT h' = wd_0) := by
  show mx 0 3 0 [.ref 12, mj_unset] [] h _
  refine x_iconst (v := nI 0) f_3_0 (by decide) ?_
  refine x_istore_n (ls1 := [.ref 12, .int (nI 0)]) f_3_1 (Nat.le_of_ble_eq_true rfl) rfl ?_
  refine klay_l (fun g C1 hR a b c i13 i14 i15 i16 => ⟨rfl, hR, a, b, c, ?_⟩) 6 0 h rfl C (Rw.rf _ _) (fun q => rfl) (fun q => rfl) (fun q => rfl) (fun q => rfl)
  unfold cT wd_0
  rw [funext i13, funext i14, funext i15, funext i16, ifz (Z 13 (by decide)), ifz (Z 14 (by decide)), ifz (Z 15 (by decide)), ifz (Z 16 (by decide)), ifz0]
set_option maxRecDepth 20000 in
theorem k_outOfAll {h : mj_H} (C : SC h) : mxc 0 8 [.ref 12] h (fun r h' => r = some (.int (mm_sum (mj_I h 15) 6)) ∧ h' = h) := by
  show mx 0 8 0 [.ref 12, mj_unset, mj_unset] [] h _
  refine x_iconst (v := nI 0) f_8_0 (by decide) ?_
  refine x_istore_n (ls1 := [.ref 12, .int (nI 0), mj_unset]) f_8_1 (Nat.le_of_ble_eq_true rfl) rfl ?_
  refine x_iconst (v := nI 0) f_8_2 (by decide) ?_
  refine x_istore_n (ls1 := [.ref 12, .int (nI 0), .int (nI 0)]) f_8_3 (Nat.le_of_ble_eq_true rfl) rfl ?_
  refine x_iload_n f_8_4 rfl ?_
  refine x_bipush (v := nI 6) f_8_5 (by decide) ?_
  refine x_icmpN_ge (t := 25) f_8_7 (by decide) (by decide) (by decide) (fun c_1 => by omega) (fun c_1 => ?_)
  refine x_iload_n f_8_10 rfl ?_
  refine x_aload_n f_8_11 rfl ?_
  refine x_getR f_8_12 C.k12 (by decide) C.r12_2 ?_
  refine x_iload_n f_8_15 rfl ?_
  refine x_iald (j := 0) f_8_16 C.k15 (by omega) (by decide) ?_
  refine x_iadd f_8_17 ?_
  refine x_istore_n (ls1 := [.ref 12, .int ((nI 0) + (mj_I h 15 0)), .int (nI 0)]) f_8_18 (Nat.le_of_ble_eq_true rfl) rfl ?_
  refine x_iinc (v := nI 1) (ls1 := [.ref 12, .int ((nI 0) + (mj_I h 15 0)), .int (nI 1)]) f_8_19 rfl (by decide) rfl ?_
  refine x_goto (t := 4) f_8_22 (by decide) ?_
  refine x_iload_n f_8_4 rfl ?_
  refine x_bipush (v := nI 6) f_8_5 (by decide) ?_
  refine x_icmpN_ge (t := 25) f_8_7 (by decide) (by decide) (by decide) (fun c_2 => by omega) (fun c_2 => ?_)
  refine x_iload_n f_8_10 rfl ?_
  refine x_aload_n f_8_11 rfl ?_
  refine x_getR f_8_12 C.k12 (by decide) C.r12_2 ?_
  refine x_iload_n f_8_15 rfl ?_
  refine x_iald (j := 1) f_8_16 C.k15 (by omega) (by decide) ?_
  refine x_iadd f_8_17 ?_
  refine x_istore_n (ls1 := [.ref 12, .int (((nI 0) + (mj_I h 15 0)) + (mj_I h 15 1)), .int (nI 1)]) f_8_18 (Nat.le_of_ble_eq_true rfl) rfl ?_
  refine x_iinc (v := nI 2) (ls1 := [.ref 12, .int (((nI 0) + (mj_I h 15 0)) + (mj_I h 15 1)), .int (nI 2)]) f_8_19 rfl (by decide) rfl ?_
  refine x_goto (t := 4) f_8_22 (by decide) ?_
  refine x_iload_n f_8_4 rfl ?_
  refine x_bipush (v := nI 6) f_8_5 (by decide) ?_
  refine x_icmpN_ge (t := 25) f_8_7 (by decide) (by decide) (by decide) (fun c_3 => by omega) (fun c_3 => ?_)
  refine x_iload_n f_8_10 rfl ?_
  refine x_aload_n f_8_11 rfl ?_
  refine x_getR f_8_12 C.k12 (by decide) C.r12_2 ?_
  refine x_iload_n f_8_15 rfl ?_
  refine x_iald (j := 2) f_8_16 C.k15 (by omega) (by decide) ?_
  refine x_iadd f_8_17 ?_
  refine x_istore_n (ls1 := [.ref 12, .int ((((nI 0) + (mj_I h 15 0)) + (mj_I h 15 1)) + (mj_I h 15 2)), .int (nI 2)]) f_8_18 (Nat.le_of_ble_eq_true rfl) rfl ?_
  refine x_iinc (v := nI 3) (ls1 := [.ref 12, .int ((((nI 0) + (mj_I h 15 0)) + (mj_I h 15 1)) + (mj_I h 15 2)), .int (nI 3)]) f_8_19 rfl (by decide) rfl ?_
  refine x_goto (t := 4) f_8_22 (by decide) ?_
  refine x_iload_n f_8_4 rfl ?_
  refine x_bipush (v := nI 6) f_8_5 (by decide) ?_
  refine x_icmpN_ge (t := 25) f_8_7 (by decide) (by decide) (by decide) (fun c_4 => by omega) (fun c_4 => ?_)
  refine x_iload_n f_8_10 rfl ?_
  refine x_aload_n f_8_11 rfl ?_
  refine x_getR f_8_12 C.k12 (by decide) C.r12_2 ?_
  refine x_iload_n f_8_15 rfl ?_
  refine x_iald (j := 3) f_8_16 C.k15 (by omega) (by decide) ?_
  refine x_iadd f_8_17 ?_
  refine x_istore_n (ls1 := [.ref 12, .int (((((nI 0) + (mj_I h 15 0)) + (mj_I h 15 1)) + (mj_I h 15 2)) + (mj_I h 15 3)), .int (nI 3)]) f_8_18 (Nat.le_of_ble_eq_true rfl) rfl ?_
  refine x_iinc (v := nI 4) (ls1 := [.ref 12, .int (((((nI 0) + (mj_I h 15 0)) + (mj_I h 15 1)) + (mj_I h 15 2)) + (mj_I h 15 3)), .int (nI 4)]) f_8_19 rfl (by decide) rfl ?_
  refine x_goto (t := 4) f_8_22 (by decide) ?_
  refine x_iload_n f_8_4 rfl ?_
  refine x_bipush (v := nI 6) f_8_5 (by decide) ?_
  refine x_icmpN_ge (t := 25) f_8_7 (by decide) (by decide) (by decide) (fun c_5 => by omega) (fun c_5 => ?_)
  refine x_iload_n f_8_10 rfl ?_
  refine x_aload_n f_8_11 rfl ?_
  refine x_getR f_8_12 C.k12 (by decide) C.r12_2 ?_
  refine x_iload_n f_8_15 rfl ?_
  refine x_iald (j := 4) f_8_16 C.k15 (by omega) (by decide) ?_
  refine x_iadd f_8_17 ?_
  refine x_istore_n (ls1 := [.ref 12, .int ((((((nI 0) + (mj_I h 15 0)) + (mj_I h 15 1)) + (mj_I h 15 2)) + (mj_I h 15 3)) + (mj_I h 15 4)), .int (nI 4)]) f_8_18 (Nat.le_of_ble_eq_true rfl) rfl ?_
  refine x_iinc (v := nI 5) (ls1 := [.ref 12, .int ((((((nI 0) + (mj_I h 15 0)) + (mj_I h 15 1)) + (mj_I h 15 2)) + (mj_I h 15 3)) + (mj_I h 15 4)), .int (nI 5)]) f_8_19 rfl (by decide) rfl ?_
  refine x_goto (t := 4) f_8_22 (by decide) ?_
  refine x_iload_n f_8_4 rfl ?_
  refine x_bipush (v := nI 6) f_8_5 (by decide) ?_
  refine x_icmpN_ge (t := 25) f_8_7 (by decide) (by decide) (by decide) (fun c_6 => by omega) (fun c_6 => ?_)
  refine x_iload_n f_8_10 rfl ?_
  refine x_aload_n f_8_11 rfl ?_
  refine x_getR f_8_12 C.k12 (by decide) C.r12_2 ?_
  refine x_iload_n f_8_15 rfl ?_
  refine x_iald (j := 5) f_8_16 C.k15 (by omega) (by decide) ?_
  refine x_iadd f_8_17 ?_
  refine x_istore_n (ls1 := [.ref 12, .int (((((((nI 0) + (mj_I h 15 0)) + (mj_I h 15 1)) + (mj_I h 15 2)) + (mj_I h 15 3)) + (mj_I h 15 4)) + (mj_I h 15 5)), .int (nI 5)]) f_8_18 (Nat.le_of_ble_eq_true rfl) rfl ?_
  refine x_iinc (v := nI 6) (ls1 := [.ref 12, .int (((((((nI 0) + (mj_I h 15 0)) + (mj_I h 15 1)) + (mj_I h 15 2)) + (mj_I h 15 3)) + (mj_I h 15 4)) + (mj_I h 15 5)), .int (nI 6)]) f_8_19 rfl (by decide) rfl ?_
  refine x_goto (t := 4) f_8_22 (by decide) ?_
  refine x_iload_n f_8_4 rfl ?_
  refine x_bipush (v := nI 6) f_8_5 (by decide) ?_
  refine x_icmpN_ge (t := 25) f_8_7 (by decide) (by decide) (by decide) (fun c_7 => ?_) (fun c_7 => by omega)
  refine x_iload_n f_8_25 rfl ?_
  refine x_retI f_8_26 rfl ?_
  exact ⟨rfl, rfl⟩
theorem zW {z : Nat} (hz : z < 729) : 0 ≤ (nI ((mm_pt z 0 + 1) * (mm_pt z 1 + 1))).toInt ∧ (nI ((mm_pt z 0 + 1) * (mm_pt z 1 + 1))).toInt ≤ 81 := by
  have h0 := mm_pt_lt z 0 hz
  have h1 := mm_pt_lt z 1 hz
  have h2 : (mm_pt z 0 + 1) * (mm_pt z 1 + 1) ≤ 9 * 9 := Nat.mul_le_mul (by omega) (by omega)
  rw [nI_toInt (by omega)]
  omega
theorem given_iff {rg z : Nat} {T : tk_R} : (nI ((mm_pt z 2 + 1) * 20) ≤ mm_sum T.2.2.1 rg) ↔ ¬ wd_lt rg z T = true := by
  unfold wd_lt
  rw [Nat.mul_comm, decide_eq_true_iff, Int32.not_lt]
set_option maxRecDepth 20000 in
theorem krub_x {g : mj_H} {A z rg : Nat} {M : Nat → Int32} {m : Int32} {T : tk_R} {Q : Option Value → mj_H → Prop} (K : ∀ x : Int32, x = (if wd_lt rg z T = true then 0 else 1) → Q (some (.int x)) g) : mx 1 4 94 [.ref 12, .ref A, .int (nI z), .int (nI (mm_pt z 1 + 1)), .int (nI ((mm_pt z 0 + 1) * (mm_pt z 1 + 1)) * M 0), .int (nI ((mm_pt z 2 + 1) * 20)), .int m, .int (mm_sum T.2.2.1 rg)] [] g Q := by
  refine x_iload f_4_94 rfl ?_
  refine x_iload f_4_96 rfl ?_
  refine x_icmp_lt (t := 105) f_4_98 (by decide) (fun c_1 => ?_) (fun c_1 => ?_)
  · refine x_iconst (v := nI 0) f_4_105 (by decide) ?_
    refine x_retZ f_4_106 rfl (by decide) ?_
    exact K _ (if_pos (Decidable.byContradiction fun q => Int32.not_le.mpr c_1 (given_iff.mpr q))).symm
  · refine x_iconst (v := nI 1) f_4_101 (by decide) ?_
    refine x_goto (t := 106) f_4_102 (by decide) ?_
    refine x_retZ f_4_106 rfl (by decide) ?_
    exact K _ (if_neg (given_iff.mp (Int32.not_lt.mp c_1))).symm
theorem cT_12 (g : mj_H) (i : Nat) (x : Int32) : cT (mj_setI g 12 i x) = cT g := by
  unfold cT
  rw [mj_I_other (by decide), mj_I_other (by decide), mj_I_other (by decide), mj_I_other (by decide)]
set_option maxRecDepth 20000 in
theorem krub_l {h : mj_H} {A U rg z : Nat} {M : Nat → Int32} (hz : z < 729) {Q : Option Value → mj_H → Prop} (st : tk_R → tk_R) (hst : st = tk M rg (nI ((mm_pt z 0 + 1) * (mm_pt z 1 + 1))) (nI (mm_pt z 1 + 1)) 0) (X : Nat × tk_R)
  (K : ∀ g, SC g → Rw h g [12, 13, 14, 15, 16] → (∀ q, ¬ q = 6 → mj_I g 12 q = mj_I h 12 q) → mj_I g 12 6 = nI X.1 → E3 (cT g) X.2 → TI X.2 → (∀ q, 6 ≤ q → mj_I g 16 q = 0) → ∀ x : Int32, x = (if wd_lt rg z X.2 = true then 0 else 1) → Q (some (.int x)) g) :
  ∀ (n k : Nat) (g : mj_H) (T : tk_R), k + n = 60 → SC g → Rw h g [12, 13, 14, 15, 16] → (∀ q, ¬ q = 6 → mj_I g 12 q = mj_I h 12 q) → mj_I g 12 6 = nI k → JH g A U rg M → E3 (cT g) T → TI T → ZO rg T → (∀ q, 6 ≤ q → mj_I g 16 q = 0) → ∀ m : Int32, (m = 1 ∨ (m = 0 ∧ st T = T ∧ ¬ k = 0)) → ∀ gv : Int32, gv = (if k = 0 then nI 0 else mm_sum T.2.2.1 rg) → wd_rub st (wd_lt rg z) n k T = X → mx 1 4 44 [.ref 12, .ref A, .int (nI z), .int (nI (mm_pt z 1 + 1)), .int (nI ((mm_pt z 0 + 1) * (mm_pt z 1 + 1)) * M 0), .int (nI ((mm_pt z 2 + 1) * 20)), .int m, .int gv] [] g Q := by
  intro n
  induction n with
  | zero =>
    intro k g T hk C hR hF e6 J hE hT hZ hZ6 m hm gv hgv e
    subst e
    refine x_aload_n f_4_44 rfl ?_
    refine x_getI f_4_45 C.k12 (by decide) ?_
    refine x_topi (w := nI k) e6 ?_
    refine x_bipush (v := nI 60) f_4_48 (by decide) ?_
    refine x_icmpN_ge (t := 94) f_4_50 (by decide) (by omega) (by decide) (fun c_1 => ?_) (fun c_1 => by omega)
    rw [hgv, if_neg (by omega)]
    exact krub_x (T := T) (K g C hR hF e6 hE hT hZ6)
  | succ n ih =>
    intro k g T hk C hR hF e6 J hE hT hZ hZ6 m hm gv hgv e
    have hz0 := mm_pt_lt z 0 hz
    have hy1 := mm_pt_lt z 1 hz
    have hz2 := mm_pt_lt z 2 hz
    refine x_aload_n f_4_44 rfl ?_
    refine x_getI f_4_45 C.k12 (by decide) ?_
    refine x_topi (w := nI k) e6 ?_
    refine x_bipush (v := nI 60) f_4_48 (by decide) ?_
    refine x_icmpN_ge (t := 94) f_4_50 (by decide) (by omega) (by decide) (fun c_1 => by omega) (fun c_1 => ?_)
    refine x_iload f_4_53 rfl ?_
    refine x_iload f_4_55 rfl ?_
    refine x_icmp_ge (t := 94) f_4_57 (by decide) (fun c_g => ?_) (fun c_g => ?_)
    · have hk : ¬ k = 0 := fun q => by rw [hgv, if_pos q] at c_g; exact absurd c_g (Int32.not_le.mpr (nI_lt (by omega) (by omega)))
      rw [hgv, if_neg hk] at c_g ⊢
      have hq : wd_rub st (wd_lt rg z) (n + 1) k T = (k, T) := if_neg (fun q => q.elim hk (given_iff.mp c_g))
      rw [hq] at e
      subst e
      exact krub_x (T := T) (K g C hR hF e6 hE hT hZ6)
    · have hlt : k = 0 ∨ wd_lt rg z T = true := Decidable.or_iff_not_imp_left.mpr (fun hk => by rw [hgv, if_neg hk] at c_g; exact Decidable.byContradiction fun q => c_g (given_iff.mpr q))
      refine x_iload f_4_60 rfl ?_
      refine x_if_eq (t := 81) f_4_62 (by decide) (fun c_m => ?_) (fun c_m => ?_)
      · refine x_aload_n f_4_81 rfl ?_
        refine x_dup f_4_82 rfl ?_
        refine x_getI f_4_83 C.k12 (by decide) ?_
        refine x_topi (w := nI k) e6 ?_
        refine x_iconst (v := nI 1) f_4_86 (by decide) ?_
        refine x_iaddN f_4_87 ?_
        refine x_putI f_4_88 C.k12 (by decide) ?_
        refine x_goto (t := 44) f_4_91 (by decide) ?_
        obtain ⟨hs, hk⟩ : st T = T ∧ ¬ k = 0 := hm.elim (fun q => absurd (q.symm.trans c_m) (by decide)) (fun q => q.2)
        refine ih (k + 1) _ T (by omega) (Rw.sc ((Rw.rf g [12]).set (by decide)) C (by decide)) (hR.trans ((Rw.rf g _).set (by decide))) (fun q hq => (mj_I_ne hq).trans (hF q hq)) (mj_I_at _ _ _ _) (J.to ((Rw.rf g [12]).set (by decide)) (by decide)) ((cT_12 g _ _).symm ▸ hE) hT hZ (fun q hq => (congrFun (mj_I_other (by decide)) q).trans (hZ6 q hq)) _ (Or.inr ⟨c_m, hs, Nat.succ_ne_zero k⟩) _ (by rw [hgv, if_neg hk, if_neg (Nat.succ_ne_zero k)]) ?_
        rw [← e]
        have hq : wd_rub st (wd_lt rg z) (n + 1) k T = wd_rub st (wd_lt rg z) n (k + 1) (st T) := if_pos hlt
        rw [hq, hs]
      · refine x_aload_n f_4_65 rfl ?_
        refine x_aload_n f_4_66 rfl ?_
        refine x_iload f_4_67 rfl ?_
        refine x_iload_n f_4_69 rfl ?_
        refine x_callV f_4_70 (k_tickR C J _ _ (W := nI ((mm_pt z 0 + 1) * (mm_pt z 1 + 1))) (p := nI (mm_pt z 1 + 1)) rfl rfl hE hT) (by omega) C.k12 (by decide) rfl rfl (Nat.le_of_ble_eq_true rfl) rfl ?_
        rintro r1 g1 ⟨hr1, hR1, hE1, hz1⟩
        obtain ⟨m1, rfl, hm1⟩ : ∃ m1 : Int32, r1 = some (.int m1) ∧ (m1 = 1 ∨ (m1 = 0 ∧ _)) := hr1.elim (fun q => ⟨1, q, Or.inl rfl⟩) (fun q => ⟨0, q.1, Or.inr ⟨rfl, q.2⟩⟩)
        have C1 : SC g1 := hR1.sc C (by decide)
        have e6 : mj_I g1 12 6 = nI k := (congrFun (hR1.i (by decide)) 6).trans e6
        refine x_istore (ls1 := [.ref 12, .ref A, .int (nI z), .int (nI (mm_pt z 1 + 1)), .int (nI ((mm_pt z 0 + 1) * (mm_pt z 1 + 1)) * M 0), .int (nI ((mm_pt z 2 + 1) * 20)), .int m1, .int gv]) f_4_73 (Nat.le_of_ble_eq_true rfl) rfl ?_
        refine x_aload_n f_4_75 rfl ?_
        refine x_callVe f_4_76 (k_outOfAll C1) (by omega) C1.k12 (by decide) rfl rfl (Nat.le_of_ble_eq_true rfl) rfl ?_
        refine x_istore (ls1 := [.ref 12, .ref A, .int (nI z), .int (nI (mm_pt z 1 + 1)), .int (nI ((mm_pt z 0 + 1) * (mm_pt z 1 + 1)) * M 0), .int (nI ((mm_pt z 2 + 1) * 20)), .int m1, .int (mm_sum (mj_I g1 15) 6)]) f_4_79 (Nat.le_of_ble_eq_true rfl) rfl ?_
        refine x_aload_n f_4_81 rfl ?_
        refine x_dup f_4_82 rfl ?_
        refine x_getI f_4_83 C1.k12 (by decide) ?_
        refine x_topi (w := nI k) e6 ?_
        refine x_iconst (v := nI 1) f_4_86 (by decide) ?_
        refine x_iaddN f_4_87 ?_
        refine x_putI f_4_88 C1.k12 (by decide) ?_
        refine x_goto (t := 44) f_4_91 (by decide) ?_
        refine ih (k + 1) _ (st T) (by omega) (Rw.sc ((Rw.rf g1 [12]).set (by decide)) C1 (by decide)) (hR.trans ((hR1.mono (by decide)).trans ((Rw.rf g1 _).set (by decide)))) (fun q hq => (mj_I_ne hq).trans ((congrFun (hR1.i (by decide)) q).trans (hF q hq))) (mj_I_at _ _ _ _) ((J.to hR1 (by decide)).to ((Rw.rf g1 [12]).set (by decide)) (by decide)) ((cT_12 g1 _ _).symm ▸ hst ▸ hE1) (hst ▸ tk_TI J.2.2.2.2.2.2.2 J.2.2.2.2.2.2.1 (zW hz) hT) (hst ▸ tk_ZO hZ) (fun q hq => (congrFun (mj_I_other (by decide)) q).trans ((hz1 q hq).trans (hZ6 q hq))) _ (hm1.elim (fun q => Or.inl q) (fun q => Or.inr ⟨q.1, by rw [hst]; exact q.2, Nat.succ_ne_zero k⟩)) _ ?_ ?_
        · rw [if_neg (Nat.succ_ne_zero k), hst, show mj_I g1 15 = (cT g1).2.2.1 from rfl, hE1.2.2]
          exact mm_sum6 J.2.2.2.2.2.2.1.2 (tk_ZO hZ)
        · rw [← e]
          exact (if_pos hlt).symm
