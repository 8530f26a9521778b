/-! THE LEAST ROW of a window -/
theorem win_to {h g : mj_H} (e36 : mj_I g 36 = mj_I h 36) (e45 : mj_I g 45 = mj_I h 45) (e46 : mj_I g 46 = mj_I h 46) (e47 : mj_I g 47 = mj_I h 47) (w : Nat) : wj g w = wj h w ∧ wlo g w = wlo h w ∧ Wd g w = Wd h w ∧ wg g w = wg h w := by
  refine ⟨by unfold wj; rw [e45], by funext a; unfold wlo; rw [e46], by funext a; unfold Wd whi wlo; rw [e46, e47], by funext t p l; exact wg_to e36 e45 e46 w t p l⟩
theorem WC_to {h g : mj_H} {w jm : Nat} (hw : WC h w jm) (hl : h.1 ≤ g.1) (r11 : mj_R g 11 w = mj_R h 11 w) (eK : mj_K g (wA h w) = mj_K h (wA h w)) (rA : mj_R g (wA h w) 0 = mj_R h (wA h w) 0) (i1 : mj_I g (wA h w) 1 = mj_I h (wA h w) 1) (i2 : mj_I g (wA h w) 2 = mj_I h (wA h w) 2) (r10 : ∀ j, jA g j = jA h j) (e36 : mj_I g 36 = mj_I h 36) (e45 : mj_I g 45 = mj_I h 45) (e46 : mj_I g 46 = mj_I h 46) (e47 : mj_I g 47 = mj_I h 47) : WC g w jm := by
  have eA : wA g w = wA h w := by unfold wA; rw [r11]
  obtain ⟨ej, el, eW, _⟩ := win_to e36 e45 e46 e47 w
  unfold WC
  rw [eA, r11, eK, rA, i1, i2, r10, ej, el, eW]
  exact ⟨⟨hw.1.1, hw.1.2.1, hw.1.2.2.1, by have := hw.1.2.2.2; omega⟩, hw.2.1, hw.2.2.1, hw.2.2.2.1, WN_to e45 e46 e47 hw.2.2.2.2⟩
def PVd (h : mj_H) (Pv X : Nat) : Prop := mj_K h Pv = (5, 1) ∧ mj_R h Pv 0 = some X ∧ mj_K h X = (12, 9261) ∧ 63 ≤ Pv ∧ Pv < h.1 ∧ 63 ≤ X ∧ X < h.1
/-- the prover is not there yet, or whole -/
def PV (h : mj_H) : Prop := mj_R h 8 8 = none ∨ ∃ Pv X, mj_R h 8 8 = some Pv ∧ PVd h Pv X
/-- a window's row is there: the least proof, and the greatest good box with it -/
def RowD (h g : mj_H) (w Y : Nat) : Prop := mj_R g (wA h w) 3 = some Y ∧ mj_K g Y = (12, (PW h w).length) ∧ 63 ≤ Y ∧ Y < g.1 ∧ (∀ q, q < (PW h w).length → mj_I g Y q = nI ((PW h w).getD q 0)) ∧ ∃ x, BSw g (wA h w) x ∧ GB (wg h w) (wlo h w) (Wd h w) x
def RowOk (h : mj_H) (w : Nat) : Prop := (mj_R h (wA h w) 3 = none ∧ mj_I h (wA h w) 4 = nI 0 ∧ mj_I h (wA h w) 5 = nI 0 ∧ mj_I h (wA h w) 6 = nI 0) ∨ ∃ Y, RowD h h w Y
def LRq (h g : mj_H) (jm w Y X k s : Nat) : Prop := CJ g jm ∧ EF [X, wA h w, 12, 13, 14, 15, 16, 17, 18, 19] [(12, 4), (8, 8), (wA h w, 3)] h g ∧ (∀ q, ¬ q = 4 → ¬ q = 5 → ¬ q = 6 → mj_I g (wA h w) q = mj_I h (wA h w) q) ∧ g.1 ≤ h.1 + k ∧ g.2.1 ≤ h.2.1 + s ∧ RowD h g w Y ∧ PV g
theorem Fr_3 {h : mj_H} {jm Y : Nat} (c : CJ h jm) (hY : h.1 ≤ Y) (h63 : 63 ≤ Y) {as : List Nat} (hs : ∀ a ∈ as, a = Y ∨ (17 ≤ a ∧ a < 20)) : Fr h jm as := by
  intro a ha
  have h1 := hs a ha
  refine ⟨by omega, by omega, by omega, by omega, fun j hj => ?_⟩
  have h2 := (c.2.2.1 j hj).1.1
  have h3 := (c.2.2.1 j hj).1.2.1
  omega
theorem PW_l216 {h : mj_H} {w jm : Nat} (n : WN h w jm) : (PW h w).length + 1 = 2 * (LW h w).1 ∧ (LW h w).1 ≤ 216 := by
  have hL := n.lb
  have b0 := hL 0 (by decide)
  have b1 := hL 1 (by decide)
  have b2 := hL 2 (by decide)
  exact ⟨PF_len (wg h w) 16 0 (Wd h w 0) 0 (Wd h w 1) 0 (Wd h w 2) (by omega) (by omega) (by omega) (by omega) (by omega) (by omega) (by unfold spn; omega), LV_216 (wg h w) (by omega) (by omega) (by omega) (by omega) (by omega) (by omega)⟩
set_option maxRecDepth 20000 in
set_option maxHeartbeats 2000000 in
theorem kleast_27 {h : mj_H} {jm w Pv X : Nat} (c : CJ h jm) (hw : WC h w jm) (h63h : 63 ≤ h.1) (r88 : mj_R h 8 8 = some Pv) (pv : PVd h Pv X) (z4 : mj_I h (wA h w) 4 = nI 0) (z5 : mj_I h (wA h w) 5 = nI 0) (z6 : mj_I h (wA h w) 6 = nI 0) (v2 : Value) : mx 5 104 27 [.ref 8, .ref (wA h w), v2] [] h (fun r h' => ∃ Y, r = some (.ref Y) ∧ LRq h h' jm w Y X 1 500) := by
  have hN := hw.2.2.2.2
  have hL := hN.lb
  have h63 := hw.1.2.2.1
  have hwl := hw.1.2.2.2
  have pv4 := pv.2.2.2
  refine x_aload_n f_104_27 rfl ?_
  refine x_getR f_104_28 c.1.k8 (by decide) r88 ?_
  refine x_aload_n f_104_31 rfl ?_
  refine x_getR f_104_32 c.1.k8 (by decide) c.1.r8_3 ?_
  refine x_aload_n f_104_35 rfl ?_
  refine x_callV f_104_36 (k_fill hw pv.1 pv.2.1 pv.2.2.1 pv.2.2.2.2.2.1 pv.2.2.2.1 c) (by omega) pv.1 (by decide) rfl rfl (Nat.le_of_ble_eq_true rfl) rfl ?_
  rintro _ g1 ⟨rfl, c1, hC1, hD1⟩
  have eA1 : wA g1 w = wA h w := by unfold wA; rw [hC1.r (by decide)]
  have hnX : ∀ a, a = 36 ∨ a = 45 ∨ a = 46 ∨ a = 47 ∨ a = wA h w → a ∉ [X, 12, 13, 14, 15, 16] := by
    intro a ha q
    simp only [List.mem_cons, List.not_mem_nil, or_false] at q
    have hne : wA h w ≠ X := fun z => by have := hw.1.2.1; rw [z, pv.2.2.1] at this; cases this
    omega
  have hw1 : WC g1 w jm := WC_to hw (Nat.le_of_eq hC1.1.symm) (congrFun (hC1.r (by decide)) w) (hC1.k _) (congrFun (hC1.r (by omega)) 0) (congrFun (hC1.i (hnX _ (by simp))) 1) (congrFun (hC1.i (hnX _ (by simp))) 2) hC1.eA (hC1.i (hnX _ (by simp))) (hC1.i (hnX _ (by simp))) (hC1.i (hnX _ (by simp))) (hC1.i (hnX _ (by simp)))
  obtain ⟨ej, el, eW, eg⟩ := win_to (hC1.i (hnX 36 (by simp))) (hC1.i (hnX 45 (by simp))) (hC1.i (hnX 46 (by simp))) (hC1.i (hnX 47 (by simp))) w
  have kw1 := (hC1.k (wA h w)).trans hw.1.2.1
  have kP1 := (hC1.k Pv).trans pv.1
  have rP1 := (congrFun (hC1.r (a := Pv) (by omega)) 0).trans pv.2.1
  have kX1 := (hC1.k X).trans pv.2.2.1
  have r881 := (congrFun (hC1.r (a := 8) (by decide)) 8).trans r88
  have iA1 : mj_I g1 (wA h w) = mj_I h (wA h w) := hC1.i (hnX _ (by simp))
  have fg := k_findGreatest (h := g1) hw1 kP1 rP1 kX1 pv.2.2.2.2.2.1 pv.2.2.2.1 (by rw [eg, eW]; exact hD1) c1.1 (by rw [eA1, iA1]; exact z4) (by rw [eA1, iA1]; exact z5) (by rw [eA1, iA1]; exact z6)
  rw [eA1, eg, el, eW] at fg
  refine x_aload_n f_104_39 rfl ?_
  refine x_getR f_104_40 c1.1.k8 (by decide) r881 ?_
  refine x_aload_n f_104_43 rfl ?_
  refine x_callV f_104_44 (fg) (by omega) kP1 (by decide) rfl rfl (Nat.le_of_ble_eq_true rfl) rfl ?_
  rintro _ g2 ⟨rfl, hR2, hF2, x, hx, hGB⟩
  have h632 : 63 ≤ g2.1 := by rw [hR2.1, hC1.1]; exact h63h
  have hl2 : g2.1 = h.1 := hR2.1.trans hC1.1
  have C2 : SC g2 := hR2.sc c1.1 (fun a ha q => by simp only [List.mem_cons, List.not_mem_nil, or_false] at q; omega)
  have c2 : CJ g2 jm := CJ_rw c1 hR2 (Fr_o c1 kw1 (by decide) h63)
  have kw2 := (congrFun hR2.2.2.1 (wA h w)).trans kw1
  have kP2 := (congrFun hR2.2.2.1 Pv).trans kP1
  have kX2 := (congrFun hR2.2.2.1 X).trans kX1
  have rP2 : mj_R g2 Pv 0 = some X := by rw [hR2.2.2.2.2.1]; exact rP1
  have r882 : mj_R g2 8 8 = some Pv := by rw [hR2.2.2.2.2.1]; exact r881
  have i12 := ((hF2 1 (by decide) (by decide) (by decide)).trans (congrFun iA1 1)).trans hw.2.2.1
  have i22 := ((hF2 2 (by decide) (by decide) (by decide)).trans (congrFun iA1 2)).trans hw.2.2.2.1
  have hXw : X ∉ [wA h w] := fun q => hnX (wA h w) (by simp) (by simp only [List.mem_cons, List.not_mem_nil, or_false] at q; rw [← q]; simp)
  have hD2 : FD (mj_I g2 X) (wg h w) (sB (Wd h w 0 + 1)) (sB (Wd h w 1 + 1)) (sB (Wd h w 2 + 1)) (sB (Wd h w 0 + 1)) 0 0 := by rw [hR2.i hXw]; exact hD1
  refine x_aload_n f_104_47 rfl ?_
  refine x_getR f_104_48 C2.k8 (by decide) r882 ?_
  refine x_aload_n f_104_51 rfl ?_
  refine x_getR f_104_52 C2.k8 (by decide) C2.r8_4 ?_
  refine x_aload_n f_104_55 rfl ?_
  refine x_callV f_104_56 (k_rowOf C2 h632 hL pv.2.2.2.1 pv.2.2.2.2.2.1 h63 (by omega) (by omega) (by omega) kP2 rP2 kX2 kw2 i12 i22 hD2 (PW h w) rfl) (by omega) kP2 (by decide) rfl rfl (Nat.le_of_ble_eq_true rfl) rfl ?_
  rintro _ g3 ⟨rfl, hR3, C3, hrow⟩
  have kw3 : mj_K g3 (wA h w) = (9, 7) := by rw [hR3.2.2.1, mj_K_new (by omega)]; exact kw2
  refine x_astore_n (ls1 := [.ref 8, .ref (wA h w), .ref g2.1]) f_104_59 (Nat.le_of_ble_eq_true rfl) rfl ?_
  refine x_aload_n f_104_60 rfl ?_
  refine x_aload_n f_104_61 rfl ?_
  refine x_putR f_104_62 kw3 (by decide) ?_
  refine x_aload_n f_104_65 rfl ?_
  refine x_retA f_104_66 rfl rfl ?_
  have hNs : Nw g2 (mj_new g2 12 (PW h w).length) := new_nw _ _ _
  have c3 : CJ (mj_new g2 12 (PW h w).length) jm := CJ_nw c2 hNs h632 (SC_new C2 h632 _ _)
  have hl3 : g3.1 = g2.1 + 1 := hR3.1
  have c4 : CJ g3 jm := CJ_rw c3 hR3 (fun a ha => by
      refine ⟨?_, ?_, ?_, ?_, fun j hj => ?_⟩
      all_goals simp only [List.mem_cons, List.not_mem_nil, or_false] at ha
      · omega
      · omega
      · omega
      · omega
      · have h2 := (c2.2.2.1 j hj).1
        have e1 : jA (mj_new g2 12 (PW h w).length) j = jA g2 j := by unfold jA; rw [mj_R_new (by omega)]
        have e2 : jU (mj_new g2 12 (PW h w).length) j = jU g2 j := by unfold jU; rw [e1, mj_R_new (by have := h2.1.2.2.2; omega)]
        rw [e1, e2]
        have := h2.1.2.2
        have := h2.2.1.2.2
        omega)
  have c5 : CJ (mj_setR g3 (wA h w) 3 (some g2.1)) jm := CJ_nw c4 (Nw.setR ⟨Nat.le_refl _, fun _ _ => rfl, fun _ _ => rfl, fun _ _ => rfl, fun _ _ _ _ _ _ _ _ => rfl⟩ (by simp [kw3])) (by omega) (SC_setRd C3 (by omega))
  have hY : g2.1 ∉ [17, 18, 19] := by simp; omega
  have eA3 : mj_I g3 (wA h w) = mj_I g2 (wA h w) := by rw [hR3.i (by simp; omega), mj_I_new (by omega)]
  have hpl := PW_l216 hw.2.2.2.2
  have ef1 : EF [X, wA h w, 12, 13, 14, 15, 16, 17, 18, 19] [(12, 4), (8, 8), (wA h w, 3)] h g2 := (hC1.ef.mono (fun x _ q => by simp only [List.mem_cons, List.not_mem_nil, or_false] at q ⊢; omega) (fun x _ q => by simp only [List.mem_cons, List.not_mem_nil, or_false] at q ⊢; exact Or.inl q)).trans ((hR2.ef [(12, 4), (8, 8), (wA h w, 3)]).mono (fun x _ q => by simp only [List.mem_cons, List.not_mem_nil, or_false] at q ⊢; omega) (fun x _ q => q))
  have ef2 : EF [X, wA h w, 12, 13, 14, 15, 16, 17, 18, 19] [(12, 4), (8, 8), (wA h w, 3)] g2 g3 := (hR3.ef [(12, 4), (8, 8), (wA h w, 3)]) |> fun e => ⟨Nat.le_trans (Nat.le_succ _) e.1, fun a ha => (e.2.1 a (Nat.lt_succ_of_lt ha)).trans (mj_K_new (by omega)), fun a ha hn => (e.2.2.1 a (Nat.lt_succ_of_lt ha) (fun q => hn (by simp only [List.mem_cons, List.not_mem_nil, or_false] at q ⊢; omega))).trans (mj_I_new (by omega)), fun a ha i hn => (e.2.2.2.1 a (Nat.lt_succ_of_lt ha) i hn).trans (congrFun (mj_R_new (by omega)) i), fun a h6 ha => (e.2.2.2.2 a h6 (Nat.lt_succ_of_lt ha)).trans (mj_J_new (by omega))⟩
  refine ⟨g2.1, rfl, c5, (ef1.trans ef2).trans (setR_ef g3 (Or.inl (by simp))), fun q h4 h5 h6 => ?_, ?_, ?_, ⟨mj_R_at _ _ _ _, ?_, h632, ?_, hrow, x, ?_, hGB⟩, Or.inr ⟨Pv, X, ?_, ?_⟩⟩
  · show mj_I g3 (wA h w) q = _
    rw [eA3, hF2 q h4 h5 h6, iA1]
  · show g3.1 ≤ _
    omega
  · show g3.2.1 ≤ _
    have e1 : g3.2.1 = g2.2.1 + (PW h w).length := hR3.2.1
    have e2 : g2.2.1 = h.2.1 := hR2.2.1.trans hC1.2.1
    omega
  · show mj_K g3 g2.1 = _
    rw [hR3.2.2.1]
    exact mj_K_newA _ _ _
  · show g2.1 < g3.1
    omega
  · unfold BSw at hx ⊢
    show mj_I g3 (wA h w) 6 = _ ∧ mj_I g3 (wA h w) 4 = _ ∧ mj_I g3 (wA h w) 5 = _ ∧ _
    rw [eA3]
    exact hx
  · rw [mj_R_other (by omega), hR3.2.2.2.2.1, mj_R_new (by omega)]
    exact r882
  · refine ⟨?_, ?_, ?_, pv.2.2.2.1, ?_, pv.2.2.2.2.2.1, ?_⟩
    · show mj_K g3 Pv = _
      rw [hR3.2.2.1, mj_K_new (by omega)]
      exact kP2
    · rw [mj_R_other (fun q => by rw [q, kw2] at kP2; cases kP2), hR3.2.2.2.2.1, mj_R_new (by omega)]
      exact rP2
    · show mj_K g3 X = _
      rw [hR3.2.2.1, mj_K_new (by omega)]
      exact kX2
    · show Pv < g3.1
      omega
    · show X < g3.1
      omega
