theorem f_131_0 : mj_fetch 131 0 = some (.sipush 729, 0, 0) := by decide +kernel
theorem f_131_3 : mj_fetch 131 3 = some (.iload_n 1, 0, 0) := by decide +kernel
theorem f_131_4 : mj_fetch 131 4 = some (.imul, 0, 0) := by decide +kernel
theorem f_131_5 : mj_fetch 131 5 = some (.iload_n 2, 0, 0) := by decide +kernel
theorem f_131_6 : mj_fetch 131 6 = some (.iadd, 0, 0) := by decide +kernel
theorem f_131_7 : mj_fetch 131 7 = some (.istore_n 3, 0, 0) := by decide +kernel
theorem f_131_8 : mj_fetch 131 8 = some (.aload_n 0, 0, 0) := by decide +kernel
theorem f_131_9 : mj_fetch 131 9 = some (.getfield 41, 11, 16) := by decide +kernel
theorem f_131_12 : mj_fetch 131 12 = some (.iload_n 3, 0, 0) := by decide +kernel
theorem f_131_13 : mj_fetch 131 13 = some (.iaload, 0, 0) := by decide +kernel
theorem f_131_14 : mj_fetch 131 14 = some (.iconst (-1), 0, 0) := by decide +kernel
theorem f_131_15 : mj_fetch 131 15 = some (.if_icmp .ne 15, 0, 0) := by decide +kernel
theorem f_131_18 : mj_fetch 131 18 = some (.aload_n 0, 0, 0) := by decide +kernel
theorem f_131_19 : mj_fetch 131 19 = some (.getfield 41, 11, 16) := by decide +kernel
theorem f_131_22 : mj_fetch 131 22 = some (.iload_n 3, 0, 0) := by decide +kernel
theorem f_131_23 : mj_fetch 131 23 = some (.aload_n 0, 0, 0) := by decide +kernel
theorem f_131_24 : mj_fetch 131 24 = some (.iload_n 1, 0, 0) := by decide +kernel
theorem f_131_25 : mj_fetch 131 25 = some (.iload_n 2, 0, 0) := by decide +kernel
theorem f_131_26 : mj_fetch 131 26 = some (.invokevirtual 162, 130, 0) := by decide +kernel
theorem f_131_29 : mj_fetch 131 29 = some (.iastore, 0, 0) := by decide +kernel
theorem f_131_30 : mj_fetch 131 30 = some (.aload_n 0, 0, 0) := by decide +kernel
theorem f_131_31 : mj_fetch 131 31 = some (.getfield 41, 11, 16) := by decide +kernel
theorem f_131_34 : mj_fetch 131 34 = some (.iload_n 3, 0, 0) := by decide +kernel
theorem f_131_35 : mj_fetch 131 35 = some (.iaload, 0, 0) := by decide +kernel
theorem f_131_36 : mj_fetch 131 36 = some (.ireturn, 0, 0) := by decide +kernel
theorem f_133_0 : mj_fetch 133 0 = some (.aload_n 0, 0, 0) := by decide +kernel
theorem f_133_1 : mj_fetch 133 1 = some (.iload_n 1, 0, 0) := by decide +kernel
theorem f_133_2 : mj_fetch 133 2 = some (.iload_n 2, 0, 0) := by decide +kernel
theorem f_133_3 : mj_fetch 133 3 = some (.invokevirtual 168, 132, 0) := by decide +kernel
theorem f_133_6 : mj_fetch 133 6 = some (.ifCond .eq 12, 0, 0) := by decide +kernel
theorem f_133_9 : mj_fetch 133 9 = some (.aload_n 0, 0, 0) := by decide +kernel
theorem f_133_10 : mj_fetch 133 10 = some (.iload_n 1, 0, 0) := by decide +kernel
theorem f_133_11 : mj_fetch 133 11 = some (.iload_n 2, 0, 0) := by decide +kernel
theorem f_133_12 : mj_fetch 133 12 = some (.invokevirtual 172, 131, 0) := by decide +kernel
theorem f_133_15 : mj_fetch 133 15 = some (.goto 4, 0, 0) := by decide +kernel
theorem f_133_18 : mj_fetch 133 18 = some (.iconst (-1), 0, 0) := by decide +kernel
theorem f_133_19 : mj_fetch 133 19 = some (.ireturn, 0, 0) := by decide +kernel
theorem f_135_0 : mj_fetch 135 0 = some (.aload_n 0, 0, 0) := by decide +kernel
theorem f_135_1 : mj_fetch 135 1 = some (.iload_n 1, 0, 0) := by decide +kernel
theorem f_135_2 : mj_fetch 135 2 = some (.iload_n 2, 0, 0) := by decide +kernel
theorem f_135_3 : mj_fetch 135 3 = some (.invokevirtual 168, 132, 0) := by decide +kernel
theorem f_135_6 : mj_fetch 135 6 = some (.ifCond .ne 5, 0, 0) := by decide +kernel
theorem f_135_9 : mj_fetch 135 9 = some (.iconst (-1), 0, 0) := by decide +kernel
theorem f_135_10 : mj_fetch 135 10 = some (.ireturn, 0, 0) := by decide +kernel
theorem f_135_11 : mj_fetch 135 11 = some (.aload_n 0, 0, 0) := by decide +kernel
theorem f_135_12 : mj_fetch 135 12 = some (.iload_n 1, 0, 0) := by decide +kernel
theorem f_135_13 : mj_fetch 135 13 = some (.iload_n 2, 0, 0) := by decide +kernel
theorem f_135_14 : mj_fetch 135 14 = some (.invokevirtual 162, 130, 0) := by decide +kernel
theorem f_135_17 : mj_fetch 135 17 = some (.pop, 0, 0) := by decide +kernel
theorem f_135_18 : mj_fetch 135 18 = some (.aload_n 0, 0, 0) := by decide +kernel
theorem f_135_19 : mj_fetch 135 19 = some (.getfield 159, 11, 17) := by decide +kernel
theorem f_135_22 : mj_fetch 135 22 = some (.ireturn, 0, 0) := by decide +kernel
theorem f_136_0 : mj_fetch 136 0 = some (.aload_n 0, 0, 0) := by decide +kernel
theorem f_136_1 : mj_fetch 136 1 = some (.iload_n 1, 0, 0) := by decide +kernel
theorem f_136_2 : mj_fetch 136 2 = some (.iload_n 2, 0, 0) := by decide +kernel
theorem f_136_3 : mj_fetch 136 3 = some (.invokevirtual 168, 132, 0) := by decide +kernel
theorem f_136_6 : mj_fetch 136 6 = some (.ifCond .ne 5, 0, 0) := by decide +kernel
theorem f_136_9 : mj_fetch 136 9 = some (.iconst (-1), 0, 0) := by decide +kernel
theorem f_136_10 : mj_fetch 136 10 = some (.ireturn, 0, 0) := by decide +kernel
theorem f_136_11 : mj_fetch 136 11 = some (.aload_n 0, 0, 0) := by decide +kernel
theorem f_136_12 : mj_fetch 136 12 = some (.iload_n 1, 0, 0) := by decide +kernel
theorem f_136_13 : mj_fetch 136 13 = some (.iload_n 2, 0, 0) := by decide +kernel
theorem f_136_14 : mj_fetch 136 14 = some (.invokevirtual 155, 129, 0) := by decide +kernel
theorem f_136_17 : mj_fetch 136 17 = some (.aload_n 0, 0, 0) := by decide +kernel
theorem f_136_18 : mj_fetch 136 18 = some (.getfield 140, 11, 14) := by decide +kernel
theorem f_136_21 : mj_fetch 136 21 = some (.ireturn, 0, 0) := by decide +kernel
/-! the model's jobs, and its verdicts kept -/
def JM (h : mj_H) (j : Nat) : Prop := ∃ rg, mj_I h 36 (9 * j + 8) = nI rg ∧ (2 ≤ rg ∧ rg ≤ 6) ∧ ¬ mj_I h 36 (9 * j + 1) = 0 ∧ ¬ mj_I h 36 (9 * j + 4) = 0
def rgs (h : mj_H) (j : Nat) : Nat := (mj_I h 36 (9 * j + 8)).toNatClampNeg
theorem rgs_eq {h : mj_H} {j rg : Nat} (e : mj_I h 36 (9 * j + 8) = nI rg) (hrg : 2 ≤ rg ∧ rg ≤ 6) : rgs h j = rg := by
  unfold rgs
  rw [e, nI_clamp (by omega)]
def vd (h : mj_H) (j z : Nat) : Nat := (jd (mM h j) (rgs h j) z).1
def MW (h : mj_H) (jm : Nat) : Prop := SM h ∧ ZR h ∧ jm ≤ 20 ∧ (∀ j, j < jm → JM h j) ∧ ∀ j, j < 20 → ∀ z, z < 729 → mj_I h 44 (729 * j + z) = -1 ∨ (j < jm ∧ mj_I h 44 (729 * j + z) = nI (vd h j z))
def F33 (h h' : mj_H) : Prop := ∀ q, ¬ q = 14 → ¬ q = 15 → ¬ q = 17 → mj_I h' 33 q = mj_I h 33 q
def MV (h h' : mj_H) (jm : Nat) : Prop := MW h' jm ∧ Rw h h' [33, 39, 40, 41, 42, 43, 44] ∧ F33 h h'
theorem MV.rf {h : mj_H} {jm : Nat} (w : MW h jm) : MV h h jm := ⟨w, Rw.rf _ _, fun _ _ _ _ => rfl⟩
theorem MV.trans {h g k : mj_H} {jm : Nat} (a : MV h g jm) (b : MV g k jm) : MV h k jm := ⟨b.1, a.2.1.trans b.2.1, fun q h1 h2 h3 => (b.2.2 q h1 h2 h3).trans (a.2.2 q h1 h2 h3)⟩
theorem vd_eq {h g : mj_H} (e : mj_I g 36 = mj_I h 36) (j z : Nat) : vd g j z = vd h j z := by
  unfold vd rgs mM
  rw [e]
theorem MV_vd {h g : mj_H} {jm : Nat} (a : MV h g jm) (j z : Nat) : vd g j z = vd h j z := vd_eq (a.2.1.i (by decide)) j z
theorem JM.to {h g : mj_H} (e : mj_I g 36 = mj_I h 36) {j : Nat} (k : JM h j) : JM g j := by
  unfold JM
  rw [e]
  exact k
theorem MV.wj {h g : mj_H} {jm j z rg : Nat} (w : MW h jm) (hrg : rg ≤ 6) {a b c : Int32} (k : WJ h g (wd_T (mM h j) rg z) a b c) : MV h g jm := by
  have e36 : mj_I g 36 = mj_I h 36 := k.2.1.i (by decide)
  have e44 : mj_I g 44 = mj_I h 44 := k.2.1.i (by decide)
  exact ⟨⟨k.1, ZR_of k.2.2.2.1 (ZT_w hrg), w.2.2.1, fun j hj => (w.2.2.2.1 j hj).to e36, fun j hj z hz => by rw [e44, vd_eq e36]; exact w.2.2.2.2 j hj z hz⟩, k.2.1.mono (by decide), k.2.2.1⟩
theorem MV.put {h g : mj_H} {jm j z : Nat} (a : MV h g jm) (hj : j < jm) (hz : z < 729) : MV h (mj_setI g 44 (729 * j + z) (nI (vd h j z))) jm := by
  obtain ⟨⟨S, Z, hm, hJ, hV⟩, hR, hF⟩ := a
  have e36 : mj_I (mj_setI g 44 (729 * j + z) (nI (vd h j z))) 36 = mj_I g 36 := mj_I_other (by decide)
  refine ⟨⟨S, fun a ha q hq => ?_, hm, fun j hj => (hJ j hj).to e36, fun j' hj' z' hz' => ?_⟩, hR.set (by decide), fun q h1 h2 h3 => (congrFun (mj_I_other (by decide)) q).trans (hF q h1 h2 h3)⟩
  · rw [mj_I_other (by intro q; subst q; revert ha; decide)]
    exact Z a ha q hq
  · rw [vd_eq e36]
    by_cases hq : 729 * j' + z' = 729 * j + z
    · have h1 : j' = j := by omega
      have h2 : z' = z := by omega
      subst h1
      subst h2
      right
      refine ⟨hj, ?_⟩
      rw [mj_I_at, vd_eq (hR.i (by decide))]
    · rw [mj_I_ne hq]
      exact hV j' hj' z' hz'

set_option maxRecDepth 20000 in
theorem c_verdictOf {h : mj_H} {jm : Nat} (hW : MW h jm) {j z : Nat} (hj : j < jm) (hz : z < 729) : mxc 4 131 [.ref 33, .int (nI j), .int (nI z)] h (fun r h' => r = some (.int (nI (vd h j z))) ∧ MV h h' jm) := by
  obtain ⟨S, Z, hm, hJ, hVV⟩ := hW
  have hW : MW h jm := ⟨S, Z, hm, hJ, hVV⟩
  have hV : mj_I h 44 (729 * j + z) = -1 ∨ mj_I h 44 (729 * j + z) = nI (vd h j z) := (hVV j (by omega) z hz).imp id (fun q => q.2)
  obtain ⟨rg, e_rg, hrg, h1, h4⟩ := hJ j hj
  have hj20 : j < 20 := by omega
  show mx 4 131 0 [.ref 33, .int (nI j), .int (nI z), mj_unset] [] h _
  refine x_sipush (v := nI 729) f_131_0 (by decide) ?_
  refine x_iload_n f_131_3 rfl ?_
  refine x_imulN f_131_4 ?_
  refine x_iload_n f_131_5 rfl ?_
  refine x_iaddN f_131_6 ?_
  refine x_istore_n (ls1 := [.ref 33, .int (nI j), .int (nI z), .int (nI ((729 * j) + z))]) f_131_7 (Nat.le_of_ble_eq_true rfl) rfl ?_
  refine x_aload_n f_131_8 rfl ?_
  refine x_getR f_131_9 S.k33 (by decide) S.r16 ?_
  refine x_iload_n f_131_12 rfl ?_
  refine x_iald (j := ((729 * j) + z)) f_131_13 S.k44 (by omega) (by decide) ?_
  refine x_iconst (v := -1) f_131_14 (by decide) ?_
  refine x_icmp_ne (t := 30) f_131_15 (by decide) (fun c_n => ?_) (fun c_n => ?_)
  · refine x_aload_n f_131_30 rfl ?_
    refine x_getR f_131_31 S.k33 (by decide) S.r16 ?_
    refine x_iload_n f_131_34 rfl ?_
    refine x_iald (j := ((729 * j) + z)) f_131_35 S.k44 (by omega) (by decide) ?_
    refine x_retI f_131_36 rfl ?_
    exact ⟨by rw [(hV.resolve_left c_n)], MV.rf hW⟩
  · refine x_aload_n f_131_18 rfl ?_
    refine x_getR f_131_19 S.k33 (by decide) S.r16 ?_
    refine x_iload_n f_131_22 rfl ?_
    refine x_aload_n f_131_23 rfl ?_
    refine x_iload_n f_131_24 rfl ?_
    refine x_iload_n f_131_25 rfl ?_
    refine x_callV f_131_26 (c_judge S Z hj20 e_rg hrg h1 h4 hz) (by omega) S.k33 (by decide) rfl rfl (Nat.le_of_ble_eq_true rfl) rfl ?_
    rintro _ g ⟨rfl, hw⟩
    have S : SM g := hw.1
    refine x_iast (j := ((729 * j) + z)) f_131_29 S.k44 (by decide) (by omega) (by decide) ?_
    refine x_aload_n f_131_30 rfl ?_
    refine x_getR f_131_31 S.k33 (by decide) S.r16 ?_
    refine x_iload_n f_131_34 rfl ?_
    refine x_iald (j := ((729 * j) + z)) f_131_35 S.k44 (by omega) (by decide) ?_
    refine x_topi (w := nI ((jd (mM h j) rg z).1)) (mj_I_at _ _ _ _) ?_
    refine x_retI f_131_36 rfl ?_
    have ev : (jd (mM h j) rg z).1 = vd h j z := by unfold vd; rw [rgs_eq e_rg hrg]
    rw [ev]
    exact ⟨rfl, (MV.wj hW hrg.2 hw).put hj hz⟩
set_option maxRecDepth 20000 in
theorem c_verdict {h : mj_H} {jm : Nat} (hW : MW h jm) (e_jm : mj_I h 33 8 = nI jm) (j s : Int32) : mxc 5 133 [.ref 33, .int j, .int s] h (fun r h' => if mIn j jm ∧ mIn s 729 then r = some (.int (nI (vd h j.toNatClampNeg s.toNatClampNeg))) ∧ MV h h' jm else r = some (.int (-1)) ∧ h' = h) := by
  have S := hW.1
  show mx 5 133 0 [.ref 33, .int j, .int s] [] h _
  refine x_aload_n f_133_0 rfl ?_
  refine x_iload_n f_133_1 rfl ?_
  refine x_iload_n f_133_2 rfl ?_
  refine x_callVe f_133_3 (c_isAsked hW.1 _ _ (jm := jm) (by have := hW.2.2.1; omega) e_jm) (by omega) S.k33 (by decide) rfl rfl (Nat.le_of_ble_eq_true rfl) rfl ?_
  refine x_ifB_eq (t := 18) f_133_6 (by decide) (fun c_1 => ?_) (fun c_1 => ?_)
  · refine x_iconst (v := -1) f_133_18 (by decide) ?_
    refine x_retI f_133_19 rfl ?_
    exact mj_qF c_1 ⟨rfl, rfl⟩
  · obtain ⟨i, h_i, rfl⟩ := mIn_of c_1.1 (by have := hW.2.2.1; omega)
    obtain ⟨k, h_k, rfl⟩ := mIn_of c_1.2 (by decide)
    have S := hW.1
    have hjm := hW.2.2.1
    simp only [nI_clamp (show i < 2 ^ 31 by omega), nI_clamp (show k < 2 ^ 31 by omega)]
    refine x_aload_n f_133_9 rfl ?_
    refine x_iload_n f_133_10 rfl ?_
    refine x_iload_n f_133_11 rfl ?_
    refine x_callV f_133_12 (c_verdictOf hW h_i h_k) (by omega) S.k33 (by decide) rfl rfl (Nat.le_of_ble_eq_true rfl) rfl ?_
    rintro _ g ⟨rfl, hv⟩
    refine x_goto (t := 19) f_133_15 (by decide) ?_
    refine x_retI f_133_19 rfl ?_
    exact mj_qT c_1 ⟨rfl, hv⟩
set_option maxRecDepth 20000 in
theorem c_by {h : mj_H} {jm : Nat} (hW : MW h jm) (e_jm : mj_I h 33 8 = nI jm) (j s : Int32) : mxc 4 135 [.ref 33, .int j, .int s] h (fun r h' => if mIn j jm ∧ mIn s 729 then r = some (.int (jd (mM h j.toNatClampNeg) (rgs h j.toNatClampNeg) s.toNatClampNeg).2) ∧ MV h h' jm else r = some (.int (-1)) ∧ h' = h) := by
  have S := hW.1
  show mx 4 135 0 [.ref 33, .int j, .int s] [] h _
  refine x_aload_n f_135_0 rfl ?_
  refine x_iload_n f_135_1 rfl ?_
  refine x_iload_n f_135_2 rfl ?_
  refine x_callVe f_135_3 (c_isAsked hW.1 _ _ (jm := jm) (by have := hW.2.2.1; omega) e_jm) (by omega) S.k33 (by decide) rfl rfl (Nat.le_of_ble_eq_true rfl) rfl ?_
  refine x_ifB_ne (t := 11) f_135_6 (by decide) (fun c_1 => ?_) (fun c_1 => ?_)
  · obtain ⟨i, h_i, rfl⟩ := mIn_of c_1.1 (by have := hW.2.2.1; omega)
    obtain ⟨k, h_k, rfl⟩ := mIn_of c_1.2 (by decide)
    have S := hW.1
    have hjm := hW.2.2.1
    simp only [nI_clamp (show i < 2 ^ 31 by omega), nI_clamp (show k < 2 ^ 31 by omega)]
    obtain ⟨rg, e_rg, hrg, h1, h4⟩ := hW.2.2.2.1 i h_i
    have hj20 : i < 20 := by omega
    simp only [rgs_eq e_rg hrg]
    refine x_aload_n f_135_11 rfl ?_
    refine x_iload_n f_135_12 rfl ?_
    refine x_iload_n f_135_13 rfl ?_
    refine x_callV f_135_14 (c_judge S hW.2.1 hj20 e_rg hrg h1 h4 h_k) (by omega) S.k33 (by decide) rfl rfl (Nat.le_of_ble_eq_true rfl) rfl ?_
    rintro _ g ⟨rfl, hw⟩; have S : SM g := hw.1
    refine x_pop f_135_17 rfl ?_
    refine x_aload_n f_135_18 rfl ?_
    refine x_getI f_135_19 S.k33 (by decide) ?_
    refine x_topi (w := (jd (mM h i) rg k).2) hw.2.2.2.2.2.2 ?_
    refine x_retI f_135_22 rfl ?_
    exact mj_qT c_1 ⟨rfl, MV.wj hW hrg.2 hw⟩
  · refine x_iconst (v := -1) f_135_9 (by decide) ?_
    refine x_retI f_135_10 rfl ?_
    exact mj_qF c_1 ⟨rfl, rfl⟩
set_option maxRecDepth 20000 in
theorem c_ticks {h : mj_H} {jm : Nat} (hW : MW h jm) (e_jm : mj_I h 33 8 = nI jm) (j s : Int32) : mxc 3 136 [.ref 33, .int j, .int s] h (fun r h' => if mIn j jm ∧ mIn s 729 then r = some (.int (nI (wd_1 (mM h j.toNatClampNeg) (rgs h j.toNatClampNeg) s.toNatClampNeg).1)) ∧ MV h h' jm else r = some (.int (-1)) ∧ h' = h) := by
  have S := hW.1
  show mx 3 136 0 [.ref 33, .int j, .int s] [] h _
  refine x_aload_n f_136_0 rfl ?_
  refine x_iload_n f_136_1 rfl ?_
  refine x_iload_n f_136_2 rfl ?_
  refine x_callVe f_136_3 (c_isAsked hW.1 _ _ (jm := jm) (by have := hW.2.2.1; omega) e_jm) (by omega) S.k33 (by decide) rfl rfl (Nat.le_of_ble_eq_true rfl) rfl ?_
  refine x_ifB_ne (t := 11) f_136_6 (by decide) (fun c_1 => ?_) (fun c_1 => ?_)
  · obtain ⟨i, h_i, rfl⟩ := mIn_of c_1.1 (by have := hW.2.2.1; omega)
    obtain ⟨k, h_k, rfl⟩ := mIn_of c_1.2 (by decide)
    have S := hW.1
    have hjm := hW.2.2.1
    simp only [nI_clamp (show i < 2 ^ 31 by omega), nI_clamp (show k < 2 ^ 31 by omega)]
    obtain ⟨rg, e_rg, hrg, h1, h4⟩ := hW.2.2.2.1 i h_i
    have hj20 : i < 20 := by omega
    simp only [rgs_eq e_rg hrg]
    refine x_aload_n f_136_11 rfl ?_
    refine x_iload_n f_136_12 rfl ?_
    refine x_iload_n f_136_13 rfl ?_
    refine x_callV f_136_14 (c_weld S hW.2.1 hj20 e_rg hrg h1 h4 h_k) (by omega) S.k33 (by decide) rfl rfl (Nat.le_of_ble_eq_true rfl) rfl ?_
    rintro _ g ⟨rfl, hw⟩; have S : SM g := hw.1
    refine x_aload_n f_136_17 rfl ?_
    refine x_getI f_136_18 S.k33 (by decide) ?_
    refine x_topi (w := nI ((wd_1 (mM h i) rg k).1)) hw.2.2.2.2.1 ?_
    refine x_retI f_136_21 rfl ?_
    exact mj_qT c_1 ⟨rfl, MV.wj hW hrg.2 (WJ_of hw)⟩
  · refine x_iconst (v := -1) f_136_9 (by decide) ?_
    refine x_retI f_136_10 rfl ?_
    exact mj_qF c_1 ⟨rfl, rfl⟩
