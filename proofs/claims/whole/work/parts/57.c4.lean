/-! ONE TICK: the loop -/
theorem row_up {F' F a b : Nat → Int32} {r : Nat} {x : Int32} (j : ∀ q, F' q = if q = r then x else F q) (i : ∀ q, F q = if q < r then a q else b q) (e : x = a r) : ∀ q, F' q = if q < r + 1 then a q else b q := by
  intro q
  rw [j q, i q]
  by_cases h : q = r
  · subst h; rw [if_pos rfl, if_pos (Nat.lt_succ_self q), e]
  · rw [if_neg h, mj_ifs h]
theorem mv_s {ch : Nat → Bool} {r : Nat} {a b : Prop} {ia : Decidable a} {ib : Decidable b} {i1 : Decidable ((mv ch r = true ∨ a) ∨ b)} (hc : ch r = (decide a || decide b)) : (@ite Int32 ((mv ch r = true ∨ a) ∨ b) i1 1 0) = if mv ch (r + 1) = true then 1 else 0 := by
  have e : ((mv ch r = true ∨ a) ∨ b) ↔ mv ch (r + 1) = true := by
    show _ ↔ (mv ch r || ch r) = true
    rw [hc]
    simp [or_assoc]
  by_cases h : mv ch (r + 1) = true
  · rw [if_pos h, if_pos (e.mpr h)]
  · rw [if_neg h, if_neg (fun q => h (e.mp q))]
set_option maxRecDepth 20000 in
theorem ktick_l {h : mj_H} {A rg : Nat} (hrg : 2 ≤ rg ∧ rg ≤ 6) (M : Nat → Int32) (h1 : ¬ M 1 = 0) (h4 : ¬ M 4 = 0) (work push : Int32) {Q : Option Value → mj_H → Prop}
  (K : ∀ g, Rw h g [13, 14, 15, 16] → cT g = tc M rg work push (cT h) → Q (some (.int (if mv (tc_ch M rg (mj_I h 13) (mj_I h 15) work push) rg = true then 1 else 0))) g) :
  ∀ (n r : Nat) (g : mj_H), r + n = rg → SC g → Rw h g [13, 14, 15, 16] → (∀ q, mj_I g 13 q = if q < r then tc_nx M rg (mj_I h 13) work q else mj_I h 13 q) → (∀ q, mj_I g 14 q = if q < r then tc_up (tc_nx M rg (mj_I h 13) work q) (mj_I h 13 q) (tc_nx M rg (mj_I h 13) work q) (mj_I h 14 q) else mj_I h 14 q) → (∀ q, mj_I g 15 q = if q < r then tc_ot M (mj_I h 13) (mj_I h 15) push q else mj_I h 15 q) → (∀ q, mj_I g 16 q = if q < r then tc_up (tc_nx M rg (mj_I h 13) work q) (mj_I h 13 q) (mj_I h 13 q - tc_nx M rg (mj_I h 13) work q) (mj_I h 16 q) else mj_I h 16 q) → ∀ tkn : Int32, tkn = tc_tk M rg (mj_I h 13) r → ∀ m : Int32, m = (if mv (tc_ch M rg (mj_I h 13) (mj_I h 15) work push) r = true then 1 else 0) → ∀ v12 v13 v14 v15 v16 : Value, mx 0 7 64 [.ref 12, .ref A, .int work, .int push, .int (nI rg), .int (M 2), .int (M 3), .int (M 1), .int (M 4), .int tkn, .int m, .int (nI r), v12, v13, v14, v15, v16] [] g Q := by
  intro n
  induction n with
  | zero =>
    intro r g hr C hR i13 i14 i15 i16 tkn htk m hm v12 v13 v14 v15 v16
    subst htk
    subst hm
    obtain rfl : r = rg := by omega
    refine x_iload f_7_64 rfl ?_
    refine x_iload f_7_66 rfl ?_
    refine x_icmpN_ge (t := 342) f_7_68 (by decide) (by omega) (by omega) (fun c_1 => ?_) (fun c_1 => by omega)
    refine x_iload f_7_342 rfl ?_
    refine x_retZ f_7_344 rfl mj_b01 ?_
    refine K g hR ?_
    unfold cT tc
    simp only [Prod.mk.injEq]
    exact ⟨funext i13, funext i14, funext i15, funext i16⟩
  | succ n ih =>
    intro r g hr C hR i13 i14 i15 i16 tkn htk m hm v12 v13 v14 v15 v16
    subst htk
    subst hm
    have i13r : mj_I g 13 r = mj_I h 13 r := (i13 r).trans (if_neg (Nat.lt_irrefl r))
    have i13s : mj_I g 13 (r + 1) = mj_I h 13 (r + 1) := (i13 (r + 1)).trans (if_neg (by omega))
    have i14r : mj_I g 14 r = mj_I h 14 r := (i14 r).trans (if_neg (Nat.lt_irrefl r))
    have i15r : mj_I g 15 r = mj_I h 15 r := (i15 r).trans (if_neg (Nat.lt_irrefl r))
    have i16r : mj_I g 16 r = mj_I h 16 r := (i16 r).trans (if_neg (Nat.lt_irrefl r))
    refine x_iload f_7_64 rfl ?_
    refine x_iload f_7_66 rfl ?_
    refine x_icmpN_ge (t := 342) f_7_68 (by decide) (by omega) (by omega) (fun c_1 => by omega) (fun c_1 => ?_)
    refine x_aload_n f_7_71 rfl ?_
    refine x_getR f_7_72 C.k12 (by decide) C.r12_0 ?_
    refine x_iload f_7_75 rfl ?_
    refine x_iald (j := r) f_7_77 C.k13 (by omega) (by decide) ?_
    refine x_topi (w := mj_I h 13 r) i13r ?_
    refine x_istore (ls1 := [.ref 12, .ref A, .int work, .int push, .int (nI rg), .int (M 2), .int (M 3), .int (M 1), .int (M 4), .int (tc_tk M rg (mj_I h 13) r), .int (if mv (tc_ch M rg (mj_I h 13) (mj_I h 15) work push) r = true then 1 else 0), .int (nI r), .int (mj_I h 13 r), v13, v14, v15, v16]) f_7_78 (Nat.le_of_ble_eq_true rfl) rfl ?_
    have J_1 : ∀ jx : Int32, jx = (if r + 1 < rg then mj_I h 13 (r + 1) else nI 20) → mx 0 7 103 [.ref 12, .ref A, .int work, .int push, .int (nI rg), .int (M 2), .int (M 3), .int (M 1), .int (M 4), .int (tc_tk M rg (mj_I h 13) r), .int (if mv (tc_ch M rg (mj_I h 13) (mj_I h 15) work push) r = true then 1 else 0), .int (nI r), .int (mj_I h 13 r), v13, v14, v15, v16] [.int jx] g Q := by
      intro jx hjx
      subst hjx
      refine x_istore (ls1 := [.ref 12, .ref A, .int work, .int push, .int (nI rg), .int (M 2), .int (M 3), .int (M 1), .int (M 4), .int (tc_tk M rg (mj_I h 13) r), .int (if mv (tc_ch M rg (mj_I h 13) (mj_I h 15) work push) r = true then 1 else 0), .int (nI r), .int (mj_I h 13 r), .int (if r + 1 < rg then mj_I h 13 (r + 1) else nI 20), v14, v15, v16]) f_7_103 (Nat.le_of_ble_eq_true rfl) rfl ?_
      refine x_iload f_7_105 rfl ?_
      refine x_iload f_7_107 rfl ?_
      refine x_isub f_7_109 ?_
      refine x_iload f_7_110 rfl ?_
      refine x_imul f_7_112 ?_
      refine x_sipush (v := nI 1000) f_7_113 (by decide) ?_
      refine x_idiv f_7_116 (by decide) ?_
      refine x_istore (ls1 := [.ref 12, .ref A, .int work, .int push, .int (nI rg), .int (M 2), .int (M 3), .int (M 1), .int (M 4), .int (tc_tk M rg (mj_I h 13) r), .int (if mv (tc_ch M rg (mj_I h 13) (mj_I h 15) work push) r = true then 1 else 0), .int (nI r), .int (mj_I h 13 r), .int (if r + 1 < rg then mj_I h 13 (r + 1) else nI 20), .int ((((mj_I h 13 r) - (if r + 1 < rg then mj_I h 13 (r + 1) else nI 20)) * (M 2)) / (nI 1000)), v15, v16]) f_7_117 (Nat.le_of_ble_eq_true rfl) rfl ?_
      refine x_iload_n f_7_119 rfl ?_
      refine x_iload f_7_120 rfl ?_
      refine x_iconst (v := nI 1) f_7_122 (by decide) ?_
      refine x_iaddN f_7_123 ?_
      refine x_imul f_7_124 ?_
      refine x_iload f_7_125 rfl ?_
      refine x_idiv f_7_127 h1 ?_
      refine x_istore (ls1 := [.ref 12, .ref A, .int work, .int push, .int (nI rg), .int (M 2), .int (M 3), .int (M 1), .int (M 4), .int (tc_tk M rg (mj_I h 13) r), .int (if mv (tc_ch M rg (mj_I h 13) (mj_I h 15) work push) r = true then 1 else 0), .int (nI r), .int (mj_I h 13 r), .int (if r + 1 < rg then mj_I h 13 (r + 1) else nI 20), .int ((((mj_I h 13 r) - (if r + 1 < rg then mj_I h 13 (r + 1) else nI 20)) * (M 2)) / (nI 1000)), .int ((work * (nI (r + 1))) / (M 1)), v16]) f_7_128 (Nat.le_of_ble_eq_true rfl) rfl ?_
      refine ktick_b C (by omega) M h4 work push _ _ _ _ _ _ _ (mv (tc_ch M rg (mj_I h 13) (mj_I h 15) work push) r = true) i15r ?_
      intro g1 hR1 j15 gn hgn m hm v16
      subst hgn
      subst hm
      have C1 : SC g1 := hR1.sc C (by decide)
      have k13 : mj_I g1 13 r = mj_I h 13 r := (congrFun (hR1.i (by decide)) r).trans i13r
      have k14 : mj_I g1 14 r = mj_I h 14 r := (congrFun (hR1.i (by decide)) r).trans i14r
      have k16 : mj_I g1 16 r = mj_I h 16 r := (congrFun (hR1.i (by decide)) r).trans i16r
      refine x_iload f_7_214 rfl ?_
      refine x_iload f_7_216 rfl ?_
      refine x_iadd f_7_218 ?_
      refine x_iload f_7_219 rfl ?_
      refine x_isub f_7_221 ?_
      refine x_iload f_7_222 rfl ?_
      refine x_iadd f_7_224 ?_
      refine x_istore (ls1 := [.ref 12, .ref A, .int work, .int push, .int (nI rg), .int (M 2), .int (M 3), .int (M 1), .int (M 4), .int (tc_tk M rg (mj_I h 13) r), .int (if mv (tc_ch M rg (mj_I h 13) (mj_I h 15) work push) r = true ∨ ¬ (if mj_I h 13 r < M 3 then mj_I h 15 r else tc_cap (mj_I h 15 r + push * (mj_I h 13 r - M 3 + nI 1) / M 4) (nI 100000)) = mj_I h 15 r then 1 else 0), .int (nI r), .int (mj_I h 13 r), .int (if r + 1 < rg then mj_I h 13 (r + 1) else nI 20), .int ((((mj_I h 13 r) - (if r + 1 < rg then mj_I h 13 (r + 1) else nI 20)) * (M 2)) / (nI 1000)), .int (if mj_I h 13 r < M 3 then (work * (nI (r + 1))) / (M 1) else ((work * (nI (r + 1))) / (M 1)) / nI 2), .int ((((mj_I h 13 r) + (tc_tk M rg (mj_I h 13) r)) - ((((mj_I h 13 r) - (if r + 1 < rg then mj_I h 13 (r + 1) else nI 20)) * (M 2)) / (nI 1000))) + (if mj_I h 13 r < M 3 then (work * (nI (r + 1))) / (M 1) else ((work * (nI (r + 1))) / (M 1)) / nI 2))]) f_7_225 (Nat.le_of_ble_eq_true rfl) rfl ?_
      have J_1 : ∀ jx : Int32, jx = (tc_cap ((((mj_I h 13 r) + (tc_tk M rg (mj_I h 13) r)) - ((((mj_I h 13 r) - (if r + 1 < rg then mj_I h 13 (r + 1) else nI 20)) * (M 2)) / (nI 1000))) + (if mj_I h 13 r < M 3 then (work * (nI (r + 1))) / (M 1) else ((work * (nI (r + 1))) / (M 1)) / nI 2)) (nI 5000)) → mx 0 7 243 [.ref 12, .ref A, .int work, .int push, .int (nI rg), .int (M 2), .int (M 3), .int (M 1), .int (M 4), .int (tc_tk M rg (mj_I h 13) r), .int (if mv (tc_ch M rg (mj_I h 13) (mj_I h 15) work push) r = true ∨ ¬ (if mj_I h 13 r < M 3 then mj_I h 15 r else tc_cap (mj_I h 15 r + push * (mj_I h 13 r - M 3 + nI 1) / M 4) (nI 100000)) = mj_I h 15 r then 1 else 0), .int (nI r), .int (mj_I h 13 r), .int (if r + 1 < rg then mj_I h 13 (r + 1) else nI 20), .int ((((mj_I h 13 r) - (if r + 1 < rg then mj_I h 13 (r + 1) else nI 20)) * (M 2)) / (nI 1000)), .int (if mj_I h 13 r < M 3 then (work * (nI (r + 1))) / (M 1) else ((work * (nI (r + 1))) / (M 1)) / nI 2), .int ((((mj_I h 13 r) + (tc_tk M rg (mj_I h 13) r)) - ((((mj_I h 13 r) - (if r + 1 < rg then mj_I h 13 (r + 1) else nI 20)) * (M 2)) / (nI 1000))) + (if mj_I h 13 r < M 3 then (work * (nI (r + 1))) / (M 1) else ((work * (nI (r + 1))) / (M 1)) / nI 2))] [.int jx] g1 Q := by
        intro jx hjx
        subst hjx
        refine x_istore (ls1 := [.ref 12, .ref A, .int work, .int push, .int (nI rg), .int (M 2), .int (M 3), .int (M 1), .int (M 4), .int (tc_tk M rg (mj_I h 13) r), .int (if mv (tc_ch M rg (mj_I h 13) (mj_I h 15) work push) r = true ∨ ¬ (if mj_I h 13 r < M 3 then mj_I h 15 r else tc_cap (mj_I h 15 r + push * (mj_I h 13 r - M 3 + nI 1) / M 4) (nI 100000)) = mj_I h 15 r then 1 else 0), .int (nI r), .int (mj_I h 13 r), .int (if r + 1 < rg then mj_I h 13 (r + 1) else nI 20), .int ((((mj_I h 13 r) - (if r + 1 < rg then mj_I h 13 (r + 1) else nI 20)) * (M 2)) / (nI 1000)), .int (if mj_I h 13 r < M 3 then (work * (nI (r + 1))) / (M 1) else ((work * (nI (r + 1))) / (M 1)) / nI 2), .int (tc_cap ((((mj_I h 13 r) + (tc_tk M rg (mj_I h 13) r)) - ((((mj_I h 13 r) - (if r + 1 < rg then mj_I h 13 (r + 1) else nI 20)) * (M 2)) / (nI 1000))) + (if mj_I h 13 r < M 3 then (work * (nI (r + 1))) / (M 1) else ((work * (nI (r + 1))) / (M 1)) / nI 2)) (nI 5000))]) f_7_243 (Nat.le_of_ble_eq_true rfl) rfl ?_
        refine ktick_c C1 (by omega) M work push _ _ _ _ _ _ _ _ (mv (tc_ch M rg (mj_I h 13) (mj_I h 15) work push) r = true ∨ ¬ (if mj_I h 13 r < M 3 then mj_I h 15 r else tc_cap (mj_I h 15 r + push * (mj_I h 13 r - M 3 + nI 1) / M 4) (nI 100000)) = mj_I h 15 r) k13 k14 k16 ?_
        intro g2 hR2 j13 j14 j16 m hm
        subst hm
        have C2 : SC g2 := hR2.sc C1 (by decide)
        refine x_iload f_7_332 rfl ?_
        refine x_istore (ls1 := [.ref 12, .ref A, .int work, .int push, .int (nI rg), .int (M 2), .int (M 3), .int (M 1), .int (M 4), .int ((((mj_I h 13 r) - (if r + 1 < rg then mj_I h 13 (r + 1) else nI 20)) * (M 2)) / (nI 1000)), .int (if (mv (tc_ch M rg (mj_I h 13) (mj_I h 15) work push) r = true ∨ ¬ (if mj_I h 13 r < M 3 then mj_I h 15 r else tc_cap (mj_I h 15 r + push * (mj_I h 13 r - M 3 + nI 1) / M 4) (nI 100000)) = mj_I h 15 r) ∨ ¬ (tc_cap ((((mj_I h 13 r) + (tc_tk M rg (mj_I h 13) r)) - ((((mj_I h 13 r) - (if r + 1 < rg then mj_I h 13 (r + 1) else nI 20)) * (M 2)) / (nI 1000))) + (if mj_I h 13 r < M 3 then (work * (nI (r + 1))) / (M 1) else ((work * (nI (r + 1))) / (M 1)) / nI 2)) (nI 5000)) = mj_I h 13 r then 1 else 0), .int (nI r), .int (mj_I h 13 r), .int (if r + 1 < rg then mj_I h 13 (r + 1) else nI 20), .int ((((mj_I h 13 r) - (if r + 1 < rg then mj_I h 13 (r + 1) else nI 20)) * (M 2)) / (nI 1000)), .int (if mj_I h 13 r < M 3 then (work * (nI (r + 1))) / (M 1) else ((work * (nI (r + 1))) / (M 1)) / nI 2), .int (tc_cap ((((mj_I h 13 r) + (tc_tk M rg (mj_I h 13) r)) - ((((mj_I h 13 r) - (if r + 1 < rg then mj_I h 13 (r + 1) else nI 20)) * (M 2)) / (nI 1000))) + (if mj_I h 13 r < M 3 then (work * (nI (r + 1))) / (M 1) else ((work * (nI (r + 1))) / (M 1)) / nI 2)) (nI 5000))]) f_7_334 (Nat.le_of_ble_eq_true rfl) rfl ?_
        refine x_iinc (v := nI (r + 1)) (ls1 := [.ref 12, .ref A, .int work, .int push, .int (nI rg), .int (M 2), .int (M 3), .int (M 1), .int (M 4), .int ((((mj_I h 13 r) - (if r + 1 < rg then mj_I h 13 (r + 1) else nI 20)) * (M 2)) / (nI 1000)), .int (if (mv (tc_ch M rg (mj_I h 13) (mj_I h 15) work push) r = true ∨ ¬ (if mj_I h 13 r < M 3 then mj_I h 15 r else tc_cap (mj_I h 15 r + push * (mj_I h 13 r - M 3 + nI 1) / M 4) (nI 100000)) = mj_I h 15 r) ∨ ¬ (tc_cap ((((mj_I h 13 r) + (tc_tk M rg (mj_I h 13) r)) - ((((mj_I h 13 r) - (if r + 1 < rg then mj_I h 13 (r + 1) else nI 20)) * (M 2)) / (nI 1000))) + (if mj_I h 13 r < M 3 then (work * (nI (r + 1))) / (M 1) else ((work * (nI (r + 1))) / (M 1)) / nI 2)) (nI 5000)) = mj_I h 13 r then 1 else 0), .int (nI (r + 1)), .int (mj_I h 13 r), .int (if r + 1 < rg then mj_I h 13 (r + 1) else nI 20), .int ((((mj_I h 13 r) - (if r + 1 < rg then mj_I h 13 (r + 1) else nI 20)) * (M 2)) / (nI 1000)), .int (if mj_I h 13 r < M 3 then (work * (nI (r + 1))) / (M 1) else ((work * (nI (r + 1))) / (M 1)) / nI 2), .int (tc_cap ((((mj_I h 13 r) + (tc_tk M rg (mj_I h 13) r)) - ((((mj_I h 13 r) - (if r + 1 < rg then mj_I h 13 (r + 1) else nI 20)) * (M 2)) / (nI 1000))) + (if mj_I h 13 r < M 3 then (work * (nI (r + 1))) / (M 1) else ((work * (nI (r + 1))) / (M 1)) / nI 2)) (nI 5000))]) f_7_336 rfl (by exact nI_add _ 1) rfl ?_
        refine x_goto (t := 64) f_7_339 (by decide) ?_
        refine ih (r + 1) g2 (by omega) C2 ((hR.trans (hR1.mono (by decide))).trans (hR2.mono (by decide))) (row_up j13 (fun q => (congrFun (hR1.i (by decide)) q).trans (i13 q)) rfl) (row_up j14 (fun q => (congrFun (hR1.i (by decide)) q).trans (i14 q)) rfl) (fun q => ?_) (row_up j16 (fun q => (congrFun (hR1.i (by decide)) q).trans (i16 q)) rfl) _ ?_ _ ?_ _ _ _ _ _
        · exact (congrFun (hR2.i (by decide)) q).trans (row_up j15 i15 rfl q)
        · exact (if_neg (Nat.succ_ne_zero r)).symm
        · exact mv_s rfl
      refine x_iload f_7_227 rfl ?_
      refine x_sipush (v := nI 5000) f_7_229 (by decide) ?_
      refine x_icmp_le (t := 241) f_7_232 (by decide) (fun c_1 => ?_) (fun c_1 => ?_)
      · refine x_iload f_7_241 rfl ?_
        exact J_1 _ (if_pos c_1).symm
      · refine x_sipush (v := nI 5000) f_7_235 (by decide) ?_
        refine x_goto (t := 243) f_7_238 (by decide) ?_
        exact J_1 _ (if_neg c_1).symm
    refine x_iload f_7_80 rfl ?_
    refine x_iconst (v := nI 1) f_7_82 (by decide) ?_
    refine x_iaddN f_7_83 ?_
    refine x_iload f_7_84 rfl ?_
    refine x_icmpN_ge (t := 101) f_7_86 (by decide) (by omega) (by omega) (fun c_2 => ?_) (fun c_2 => ?_)
    · refine x_bipush (v := nI 20) f_7_101 (by decide) ?_
      exact J_1 _ (if_neg (by omega)).symm
    · refine x_aload_n f_7_89 rfl ?_
      refine x_getR f_7_90 C.k12 (by decide) C.r12_0 ?_
      refine x_iload f_7_93 rfl ?_
      refine x_iconst (v := nI 1) f_7_95 (by decide) ?_
      refine x_iaddN f_7_96 ?_
      refine x_iald (j := (r + 1)) f_7_97 C.k13 (by omega) (by decide) ?_
      refine x_topi (w := mj_I h 13 (r + 1)) i13s ?_
      refine x_goto (t := 103) f_7_98 (by decide) ?_
      exact J_1 _ (if_pos (by omega)).symm
set_option maxRecDepth 20000 in
theorem k_tick {h : mj_H} (C : SC h) {A U rg : Nat} (hA : mj_K h A = (3, 5)) (hRU : mj_R h A 2 = some U) (hU : mj_K h U = (12, 9)) (e_rg : mj_I h U 8 = nI rg) (hrg : 2 ≤ rg ∧ rg ≤ 6) (h1 : nI 1 ≤ mj_I h U 1) (h4 : nI 1 ≤ mj_I h U 4) (work push : Int32) : mxc 0 7 [.ref 12, .ref A, .int work, .int push] h (fun r h' => r = some (.int (if mv (tc_ch (mj_I h U) rg (mj_I h 13) (mj_I h 15) work push) rg = true then 1 else 0)) ∧ Rw h h' [13, 14, 15, 16] ∧ cT h' = tc (mj_I h U) rg work push (cT h)) := by
  show mx 0 7 0 [.ref 12, .ref A, .int work, .int push, mj_unset, mj_unset, mj_unset, mj_unset, mj_unset, mj_unset, mj_unset, mj_unset, mj_unset, mj_unset, mj_unset, mj_unset, mj_unset] [] h _
  refine x_aload_n f_7_0 rfl ?_
  refine x_getR f_7_1 hA (by decide) hRU ?_
  refine x_bipush (v := nI 8) f_7_4 (by decide) ?_
  refine x_iald (j := 8) f_7_6 hU (by omega) (by decide) ?_
  refine x_topi (w := nI rg) e_rg ?_
  refine x_istore (ls1 := [.ref 12, .ref A, .int work, .int push, .int (nI rg), mj_unset, mj_unset, mj_unset, mj_unset, mj_unset, mj_unset, mj_unset, mj_unset, mj_unset, mj_unset, mj_unset, mj_unset]) f_7_7 (Nat.le_of_ble_eq_true rfl) rfl ?_
  refine x_aload_n f_7_9 rfl ?_
  refine x_getR f_7_10 hA (by decide) hRU ?_
  refine x_iconst (v := nI 2) f_7_13 (by decide) ?_
  refine x_iald (j := 2) f_7_14 hU (by omega) (by decide) ?_
  refine x_istore (ls1 := [.ref 12, .ref A, .int work, .int push, .int (nI rg), .int (mj_I h U 2), mj_unset, mj_unset, mj_unset, mj_unset, mj_unset, mj_unset, mj_unset, mj_unset, mj_unset, mj_unset, mj_unset]) f_7_15 (Nat.le_of_ble_eq_true rfl) rfl ?_
  refine x_aload_n f_7_17 rfl ?_
  refine x_getR f_7_18 hA (by decide) hRU ?_
  refine x_iconst (v := nI 3) f_7_21 (by decide) ?_
  refine x_iald (j := 3) f_7_22 hU (by omega) (by decide) ?_
  refine x_istore (ls1 := [.ref 12, .ref A, .int work, .int push, .int (nI rg), .int (mj_I h U 2), .int (mj_I h U 3), mj_unset, mj_unset, mj_unset, mj_unset, mj_unset, mj_unset, mj_unset, mj_unset, mj_unset, mj_unset]) f_7_23 (Nat.le_of_ble_eq_true rfl) rfl ?_
  refine x_aload_n f_7_25 rfl ?_
  refine x_getR f_7_26 hA (by decide) hRU ?_
  refine x_iconst (v := nI 1) f_7_29 (by decide) ?_
  refine x_iald (j := 1) f_7_30 hU (by omega) (by decide) ?_
  refine x_istore (ls1 := [.ref 12, .ref A, .int work, .int push, .int (nI rg), .int (mj_I h U 2), .int (mj_I h U 3), .int (mj_I h U 1), mj_unset, mj_unset, mj_unset, mj_unset, mj_unset, mj_unset, mj_unset, mj_unset, mj_unset]) f_7_31 (Nat.le_of_ble_eq_true rfl) rfl ?_
  refine x_aload_n f_7_33 rfl ?_
  refine x_getR f_7_34 hA (by decide) hRU ?_
  refine x_iconst (v := nI 4) f_7_37 (by decide) ?_
  refine x_iald (j := 4) f_7_38 hU (by omega) (by decide) ?_
  refine x_istore (ls1 := [.ref 12, .ref A, .int work, .int push, .int (nI rg), .int (mj_I h U 2), .int (mj_I h U 3), .int (mj_I h U 1), .int (mj_I h U 4), mj_unset, mj_unset, mj_unset, mj_unset, mj_unset, mj_unset, mj_unset, mj_unset]) f_7_39 (Nat.le_of_ble_eq_true rfl) rfl ?_
  refine x_iload f_7_41 rfl ?_
  refine x_iconst (v := nI 1) f_7_43 (by decide) ?_
  refine x_icmp_lt (t := 53) f_7_44 (by decide) (fun c_1 => absurd c_1 (Int32.not_lt.mpr h1)) (fun c_1 => ?_)
  refine x_iload f_7_47 rfl ?_
  refine x_iconst (v := nI 1) f_7_49 (by decide) ?_
  refine x_icmp_ge (t := 55) f_7_50 (by decide) (fun c_2 => ?_) (fun c_2 => absurd h4 c_2)
  refine x_iconst (v := nI 0) f_7_55 (by decide) ?_
  refine x_istore (ls1 := [.ref 12, .ref A, .int work, .int push, .int (nI rg), .int (mj_I h U 2), .int (mj_I h U 3), .int (mj_I h U 1), .int (mj_I h U 4), .int (nI 0), mj_unset, mj_unset, mj_unset, mj_unset, mj_unset, mj_unset, mj_unset]) f_7_56 (Nat.le_of_ble_eq_true rfl) rfl ?_
  refine x_iconst (v := nI 0) f_7_58 (by decide) ?_
  refine x_istore (ls1 := [.ref 12, .ref A, .int work, .int push, .int (nI rg), .int (mj_I h U 2), .int (mj_I h U 3), .int (mj_I h U 1), .int (mj_I h U 4), .int (nI 0), .int (nI 0), mj_unset, mj_unset, mj_unset, mj_unset, mj_unset, mj_unset]) f_7_59 (Nat.le_of_ble_eq_true rfl) rfl ?_
  refine x_iconst (v := nI 0) f_7_61 (by decide) ?_
  refine x_istore (ls1 := [.ref 12, .ref A, .int work, .int push, .int (nI rg), .int (mj_I h U 2), .int (mj_I h U 3), .int (mj_I h U 1), .int (mj_I h U 4), .int (nI 0), .int (nI 0), .int (nI 0), mj_unset, mj_unset, mj_unset, mj_unset, mj_unset]) f_7_62 (Nat.le_of_ble_eq_true rfl) rfl ?_
  exact ktick_l hrg (mj_I h U) (fun q => by rw [q] at h1; exact absurd h1 (by decide)) (fun q => by rw [q] at h4; exact absurd h4 (by decide)) work push (fun g a b => ⟨rfl, a, b⟩) rg 0 h (Nat.zero_add _) C (Rw.rf _ _) (fun q => rfl) (fun q => rfl) (fun q => rfl) (fun q => rfl) _ rfl _ rfl _ _ _ _ _
