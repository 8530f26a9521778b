/-! CALLS that make: jobs -/
theorem avg_b {x y : Int32} {lo hi : Int} (h0 : 0 ≤ lo) (h1 : hi ≤ 1000) (hx : lo ≤ x.toInt ∧ x.toInt ≤ hi) (hy : lo ≤ y.toInt ∧ y.toInt ≤ hi) : lo ≤ ((x + y) / nI 2).toInt ∧ ((x + y) / nI 2).toInt ≤ hi := by
  have e : (x + y).toInt = x.toInt + y.toInt := i_add (by omega) (by omega)
  rw [i_div (by decide), e, Int.tdiv_eq_ediv_of_nonneg (by omega), show (nI 2).toInt = 2 from rfl]
  omega
theorem le_i {x : Int32} {n : Nat} (hn : n < 2 ^ 31) : (nI n ≤ x ↔ (n : Int) ≤ x.toInt) ∧ (x ≤ nI n ↔ x.toInt ≤ n) := by
  rw [Int32.le_iff_toInt_le, Int32.le_iff_toInt_le, nI_toInt hn]
  exact ⟨Iff.rfl, Iff.rfl⟩
theorem sBd_i {f : Nat → Int32} (h : sBd f) : (1 ≤ (f 0).toInt ∧ (f 0).toInt ≤ 100) ∧ (1 ≤ (f 1).toInt ∧ (f 1).toInt ≤ 100) ∧ (0 ≤ (f 2).toInt ∧ (f 2).toInt ≤ 300) ∧ (1 ≤ (f 4).toInt ∧ (f 4).toInt ≤ 100) := by
  obtain ⟨a, b, c, _, d, _⟩ := h
  rw [Int32.le_iff_toInt_le, Int32.le_iff_toInt_le] at a b c d
  exact ⟨a, b, c, d⟩
theorem MB_jn {M f g : Nat → Int32} (e : ∀ i, i < 8 → M i = jn i (f i) (g i)) (hf : sBd f) (hg : sBd g) : MB M ∧ 1 ≤ (M 1).toInt ∧ 1 ≤ (M 4).toInt := by
  have a := sBd_i hf
  have b := sBd_i hg
  have m0 : M 0 = (f 0 + g 0) / nI 2 := e 0 (by decide)
  have m1 : M 1 = (f 1 + g 1) / nI 2 := e 1 (by decide)
  have m2 : M 2 = (f 2 + g 2) / nI 2 := e 2 (by decide)
  have m4 : M 4 = (f 4 + g 4) / nI 2 := e 4 (by decide)
  have k0 := avg_b (by decide) (by decide) a.1 b.1
  have k1 := avg_b (by decide) (by decide) a.2.1 b.2.1
  have k2 := avg_b (by decide) (by decide) a.2.2.1 b.2.2.1
  have k4 := avg_b (by decide) (by decide) a.2.2.2 b.2.2.2
  unfold MB
  rw [m0, m1, m2, m4]
  exact ⟨⟨⟨by omega, k0.2⟩, k1.1, k2, k4.1⟩, k1.1, k4.1⟩
theorem vd_pt {h k : mj_H} {j : Nat} (e : ∀ i, i < 9 → mj_I k 36 (9 * j + i) = mj_I h 36 (9 * j + i)) (z : Nat) : vd k j z = vd h j z ∧ rgs k j = rgs h j ∧ MA (mM k j) (mM h j) := by
  have r : rgs k j = rgs h j := by unfold rgs; rw [e 8 (by decide)]
  have m : MA (mM k j) (mM h j) := fun i hi => e i hi
  refine ⟨?_, r, m⟩
  unfold vd
  rw [r, jd_M m]
theorem JM_pt {h k : mj_H} {j : Nat} (e : ∀ i, i < 9 → mj_I k 36 (9 * j + i) = mj_I h 36 (9 * j + i)) (m : JM h j) : JM k j := by
  obtain ⟨rg, a, b, c, d⟩ := m
  exact ⟨rg, (e 8 (by decide)).trans a, b, by rw [e 1 (by decide)]; exact c, by rw [e 4 (by decide)]; exact d⟩
/-- behind a job's making: all of before, one job more -/
theorem IV_job {h g k : mj_H} {sm jm wm tm xm km em a b : Nat} {rings : Int32} (v : IV h sm jm wm tm xm km em) (ha : a < sm) (hb : b < sm) (hj20 : jm < 20) (hr : nI 2 ≤ rings ∧ rings ≤ nI 6) (o : OJ h g jm a b rings) (jb : JB g k jm a b rings) : NX h k := by
  have h63 := v.l63
  obtain ⟨o1, o2, oK, oI, o8, o11, oJ, oR, o10, ⟨n1, n2, n3, n4⟩, ⟨n5, n6, n7⟩, m1, m2, m3, m4, m5, m6⟩ := o
  obtain ⟨r2, f33, f8, k36, k37, k38⟩ := jb
  have S := v.2.2.2.2.1
  have hA := S.1 a ha
  have hB := S.1 b hb
  have e1 : EF [8] [(10, jm)] h g := ⟨by omega, oK, fun x hx hn => oI x hx (fun q => hn (by rw [q]; simp)), fun x hx i hn => oR x i hx (fun q => hn (by rw [q.1, q.2]; simp)), fun x _ hx => oJ x hx⟩
  have e2 : EF [8, 33, 36, 37, 38] [(10, jm)] h k := (e1.mono (fun x _ q => by simp only [List.mem_cons, List.not_mem_nil, or_false] at q ⊢; omega) (fun x _ q => q)).trans ((r2.ef [(10, jm)]).mono (fun x _ q => by simp only [List.mem_cons, List.not_mem_nil, or_false] at q ⊢; omega) (fun x _ q => q))
  have ki : ∀ q, q < 63 → q ∉ [8, 33, 36, 37, 38] → mj_I k q = mj_I h q := fun q hq hn => ef_i e2 h63 hq hn
  have kd : ∀ q, 63 ≤ q → q < h.1 → mj_I k q = mj_I h q := fun q h1 h2 => e2.2.2.1 q h2 (by simp; omega)
  have lk : k.1 = h.1 + 4 := by rw [r2.1, o1]
  have i33 : ∀ q, ¬ q = 8 → mj_I k 33 q = mj_I h 33 q := fun q hq => by rw [f33 q hq]; exact congrFun (oI 33 (by omega) (by decide)) q
  have kJ : ∀ x, x < h.1 → mj_J k x = mj_J h x := fun x hx => by rw [r2.2.2.2.1]; exact oJ x hx
  have o36 : ∀ j, j < jm → ∀ i, i < 9 → mj_I k 36 (9 * j + i) = mj_I h 36 (9 * j + i) := fun j hj i hi => by
    rw [k36, if_neg (by omega), if_neg (by omega)]
    exact congrFun (oI 36 (by omega) (by decide)) _
  have n36 : ∀ i, i < 8 → mj_I k 36 (9 * jm + i) = jn i (mj_I h 34 (8 * a + i)) (mj_I h 34 (8 * b + i)) := fun i hi => by
    rw [k36, if_neg (by omega), if_pos (by omega), show 9 * jm + i - 9 * jm = i by omega, oI 34 (by omega) (by decide)]
  have n368 : mj_I k 36 (9 * jm + 8) = rings := by rw [k36, if_pos rfl]
  have o37 : ∀ j, j < jm → mj_I k 37 j = mj_I h 37 j := fun j hj => by rw [k37, if_neg (by omega)]; exact congrFun (oI 37 (by omega) (by decide)) j
  have o38 : ∀ j, j < jm → mj_I k 38 j = mj_I h 38 j := fun j hj => by rw [k38, if_neg (by omega)]; exact congrFun (oI 38 (by omega) (by decide)) j
  have kR : ∀ x i, x < h.1 → ¬ (x = 10 ∧ i = jm) → mj_R k x i = mj_R h x i := fun x i hx hn => by rw [r2.2.2.2.2.1]; exact oR x i hx hn
  have kR10 : mj_R k 10 jm = some h.1 := by rw [r2.2.2.2.2.1]; exact o10
  have kR2 : mj_R k h.1 2 = some (h.1 + 1) := by rw [r2.2.2.2.2.1]; exact n2
  have kR3 : mj_R k h.1 3 = some (h.1 + 2) := by rw [r2.2.2.2.2.1]; exact n3
  have kR4 : mj_R k h.1 4 = some (h.1 + 3) := by rw [r2.2.2.2.2.1]; exact n4
  have ejA : ∀ j, j < jm → jA k j = jA h j := fun j hj => by unfold jA; rw [kR 10 j (by omega) (by omega)]
  have jAn : jA k jm = h.1 := by unfold jA; rw [kR10]; rfl
  have ejr : ∀ j, j < jm → ∀ i, mj_R k (jA h j) i = mj_R h (jA h j) i := fun j hj i => by
    have q := (v.cj.2.2.1 j hj).1.1
    exact kR _ i q.2.2.2 (by omega)
  have ejU : ∀ j, j < jm → jU k j = jU h j := fun j hj => by unfold jU; rw [ejA j hj, ejr j hj]
  have ejD : ∀ j, j < jm → jD k j = jD h j := fun j hj => by unfold jD; rw [ejA j hj, ejr j hj]
  have ejF : ∀ j, j < jm → jF k j = jF h j := fun j hj => by unfold jF; rw [ejA j hj, ejr j hj]
  have jUn : jU k jm = h.1 + 1 := by unfold jU; rw [jAn, kR2]; rfl
  have jDn : jD k jm = h.1 + 2 := by unfold jD; rw [jAn, kR3]; rfl
  have jFn : jF k jm = h.1 + 3 := by unfold jF; rw [jAn, kR4]; rfl
  have hmb := MB_jn (M := mM k jm) (f := fun i => mj_I h 34 (8 * a + i)) (g := fun i => mj_I h 34 (8 * b + i)) n36 hA.2.2.2.2 hB.2.2.2.2
  have hJMn : JM k jm := by
    obtain ⟨rg, hrg⟩ : ∃ rg, rings = nI rg ∧ 2 ≤ rg ∧ rg ≤ 6 := by
      have q1 := hr.1
      have q2 := hr.2
      rw [(le_i (by decide)).1] at q1
      rw [(le_i (by decide)).2] at q2
      have hin : mIn rings 7 := (mIn_lt (by decide)).mp ⟨by rw [Int32.lt_iff_toInt_lt, show (0 : Int32).toInt = 0 from rfl]; omega, by rw [Int32.lt_iff_toInt_lt, nI_toInt (by decide)]; omega⟩
      obtain ⟨rg, h1, rfl⟩ := mIn_of hin (by decide)
      rw [nI_toInt (by omega)] at q1 q2
      exact ⟨rg, rfl, by omega, by omega⟩
    refine ⟨rg, n368.trans hrg.1, hrg.2, fun q => ?_, fun q => ?_⟩
    · have := hmb.2.1
      rw [show mM k jm 1 = mj_I k 36 (9 * jm + 1) from rfl, q] at this
      exact absurd this (by decide)
    · have := hmb.2.2
      rw [show mM k jm 4 = mj_I k 36 (9 * jm + 4) from rfl, q] at this
      exact absurd this (by decide)
  have JJ : ∀ j, j < jm + 1 → JM k j := fun j hj => by
    by_cases e : j = jm
    · rw [e]; exact hJMn
    · exact JM_pt (o36 j (by omega)) (v.cj.2.2.1 j (by omega)).2
  have hSC : SC k := v.sc.to (fun x hx => e2.2.1 x (by omega)) (fun e he => kR _ _ (by have := ccR33 e he; omega) (fun q => ccR_n e he (by simp [q.1]))) (fun x hx => ki x (by omega) (by simp; omega))
  have hZC : ZC k := fun x hx q hq => by rw [ki x (by have := row17 x hx; omega) (by revert x; decide)]; exact v.cj.2.1 x hx q hq
  have hMW : MW k (jm + 1) := by
    obtain ⟨w1, w2, w3, w4, w5⟩ := MW_ef v.mw e1 h63 (by decide) (by simp)
    refine ⟨r2.sm w1, fun x hx q hq => ?_, by omega, JJ, fun j hj z hz => ?_⟩
    · rw [ki x (by revert x; decide) (by revert x; decide)]; exact v.mw.2.1 x hx q hq
    · rw [ki 44 (by decide) (by decide)]
      rcases v.mw.2.2.2.2 j hj z hz with q | q
      · exact Or.inl q
      · exact Or.inr ⟨by omega, by rw [(vd_pt (o36 j q.1) z).1]; exact q.2⟩
  have hCJ : CJ k (jm + 1) := by
    obtain ⟨c1, c2, c3, c4, c5, c6⟩ := v.cj
    refine ⟨hSC, hZC, fun j hj => ⟨?_, JJ j hj⟩, fun i j hi hj => ?_, fun j hj z hz => ?_, ?_⟩
    · by_cases e : j = jm
      · subst e
        unfold JC
        rw [jAn, jUn, jDn, jFn, kR10, kR2, kR3, kR4, r2.2.2.1, n1, n5, n6, n7]
        refine ⟨⟨rfl, rfl, h63, by omega⟩, ⟨rfl, rfl, by omega, by omega⟩, ⟨rfl, rfl, by omega, by omega⟩, ⟨rfl, rfl, by omega, by omega⟩, fun i hi => ?_, ⟨?_, ?_⟩, hmb.1⟩
        · rw [r2.i (by simp; omega)]
          by_cases e : i = 8
          · rw [e, n368]; exact m2
          · rw [m1 i (by omega), n36 i (by omega), hA.2.2.1 i (by omega), hB.2.2.1 i (by omega)]
        · rw [r2.i (by simp; omega), k37, if_pos rfl]; exact m3
        · rw [r2.i (by simp; omega), k38, if_pos rfl]; exact m4
      · have hj' : j < jm := by omega
        have hc := (c3 j hj').1
        unfold JC
        rw [ejA j hj', ejU j hj', ejD j hj', ejF j hj', kR 10 j (by omega) (by omega), ejr j hj', ejr j hj', ejr j hj', e2.2.1 _ hc.1.2.2.2, e2.2.1 _ hc.2.1.2.2.2, e2.2.1 _ hc.2.2.1.2.2.2, e2.2.1 _ hc.2.2.2.1.2.2.2, kd _ hc.2.1.2.2.1 hc.2.1.2.2.2, kd _ hc.1.2.2.1 hc.1.2.2.2, o37 j hj', o38 j hj']
        exact ⟨⟨hc.1.1, hc.1.2.1, hc.1.2.2.1, by have := hc.1.2.2.2; omega⟩, ⟨hc.2.1.1, hc.2.1.2.1, hc.2.1.2.2.1, by have := hc.2.1.2.2.2; omega⟩, ⟨hc.2.2.1.1, hc.2.2.1.2.1, hc.2.2.1.2.2.1, by have := hc.2.2.1.2.2.2; omega⟩, ⟨hc.2.2.2.1.1, hc.2.2.2.1.2.1, hc.2.2.2.1.2.2.1, by have := hc.2.2.2.1.2.2.2; omega⟩, fun i hi => (hc.2.2.2.2.1 i hi).trans (o36 j hj' i hi).symm, hc.2.2.2.2.2.1, MB_M (vd_pt (o36 j hj') 0).2.2 hc.2.2.2.2.2.2⟩
    · by_cases ei : i = jm
      · by_cases ej : j = jm
        · rw [ei, ej, jAn, jDn, jFn]
          exact ⟨fun _ => rfl, fun _ => rfl, fun _ => rfl, by omega⟩
        · have hc := (c3 j (by omega)).1
          have q1 := hc.1.2.2.2
          have q2 := hc.2.2.1.2.2.2
          have q3 := hc.2.2.2.1.2.2.2
          rw [ei, jAn, jDn, jFn, ejA j (by omega), ejD j (by omega), ejF j (by omega)]
          exact ⟨fun q => by omega, fun q => by omega, fun q => by omega, by omega⟩
      · have hc := (c3 i (by omega)).1
        have q1 := hc.1.2.2.2
        have q2 := hc.2.2.1.2.2.2
        have q3 := hc.2.2.2.1.2.2.2
        by_cases ej : j = jm
        · rw [ej, jAn, jDn, jFn, ejA i (by omega), ejD i (by omega), ejF i (by omega)]
          exact ⟨fun q => by omega, fun q => by omega, fun q => by omega, by omega⟩
        · rw [ejA i (by omega), ejD i (by omega), ejF i (by omega), ejA j (by omega), ejD j (by omega), ejF j (by omega)]
          exact c4 i j (by omega) (by omega)
    · by_cases e : j = jm
      · have z0 : ∀ (D : Nat), (∀ i, mj_J k D i = 0) → ¬ lb k D z = true := fun D hD q => by
          unfold lb at q
          rw [hD] at q
          have : BitVec.getLsbD 0#64 (z % 64) = true := q
          simp at this
        rw [e, jDn, jFn]
        exact iff_of_false (z0 _ (fun i => by rw [r2.2.2.2.1]; exact m6 i)) (fun q => z0 _ (fun i => by rw [r2.2.2.2.1]; exact m5 i) q.1)
      · have hj' : j < jm := by omega
        have hc := (c3 j hj').1
        have l1 : lb k (jF h j) z = lb h (jF h j) z := by unfold lb; rw [kJ _ hc.2.2.2.1.2.2.2]
        have l2 : lb k (jD h j) z = lb h (jD h j) z := by unfold lb; rw [kJ _ hc.2.2.1.2.2.2]
        rw [ejF j hj', ejD j hj', l1, l2, (vd_pt (o36 j hj') z).1]
        exact c5 j hj' z hz
    · have e12 : mj_R k 12 4 = mj_R h 12 4 := kR 12 4 (by omega) (by omega)
      rcases c6 with q | ⟨j, z, hj, hz, hs, hb'⟩
      · exact Or.inl (e12.trans q)
      · refine Or.inr ⟨j, z, by omega, hz, by rw [e12, ejA j hj]; exact hs, ?_⟩
        have hc := (c3 j hj).1
        have p := vd_pt (o36 j hj) z
        have l2 : lb k (jD h j) z = lb h (jD h j) z := by unfold lb; rw [kJ _ hc.2.2.1.2.2.2]
        have eT : cT k = cT h := by unfold cT; rw [ki 13 (by decide) (by decide), ki 14 (by decide) (by decide), ki 15 (by decide) (by decide), ki 16 (by decide) (by decide)]
        unfold BR at hb' ⊢
        rw [eT, p.2.1, wd_T_M p.2.2, wd_1_M p.2.2, jd_M p.2.2, ejD j hj, l2, ki 12 (by decide) (by decide)]
        exact hb'
  refine IV.nx (sm := sm) (jm := jm + 1) (wm := wm) (tm := tm) (xm := xm) (km := km) (em := em) ⟨hMW, hCJ, by omega, ?_, al_SS S h63 e2 (by decide) (by simp), ⟨fun u hu => ?_, fun u u' hu hu' => ?_, PV_ef v.pv e2 h63 (by simp)⟩, TP_i v.tp (ki 20 (by decide) (by decide)) (ki 21 (by decide) (by decide)) (ki 51 (by decide) (by decide)) (i33 28 (by decide)), ⟨?_, (i33 40 (by decide)).trans v.bb.2.1, (i33 41 (by decide)).trans v.bb.2.2.1, fun i hi => by rw [ki 57 (by decide) (by decide), i33 0 (by decide)]; exact v.bb.2.2.2 i hi⟩, LL_i v.ll e2 h63 (by decide) (by simp) (i33 46 (by decide))⟩ (B0.ef e2 h63 (by decide) (by omega) (by rw [r2.2.1, o2]; omega))
  · have hv := v.2.2.2.1
    have g8 : ∀ q, ¬ q = 11 → mj_I k 8 q = mj_I h 8 q := fun q hq => by rw [r2.i (by decide)]; exact o8 q hq
    unfold CO
    rw [i33 7 (by decide), i33 21 (by decide), i33 0 (by decide), g8 10 (by decide), g8 12 (by decide), g8 9 (by decide)]
    exact ⟨hv.1, ⟨f8, by rw [r2.i (by decide)]; exact o11⟩, hv.2.2⟩
  · obtain ⟨k1, k2⟩ := v.win hu
    have hl := k1.1.2.2.2
    have h6 := k1.1.2.2.1
    have hN := k1.2.2.2.2
    have er : mj_R k 11 u = mj_R h 11 u := kR 11 u (by omega) (by omega)
    have eA : wA k u = wA h u := by unfold wA; rw [er]
    have ej : wj k u = wj h u := by unfold wj; rw [ki 45 (by decide) (by decide)]
    have el : wlo k u = wlo h u := by funext q; unfold wlo; rw [ki 46 (by decide) (by decide)]
    have eW : Wd k u = Wd h u := by funext q; unfold Wd whi wlo; rw [ki 46 (by decide) (by decide), ki 47 (by decide) (by decide)]
    have eg : wg k u = wg h u := by
      funext t p l
      unfold wg wz
      rw [ej, el, (vd_pt (o36 _ hN.2.1) _).1]
    have ePW : PW k u = PW h u := by unfold PW; rw [eg, eW]
    have iA : mj_I k (wA h u) = mj_I h (wA h u) := kd _ h6 hl
    have rA : ∀ i, mj_R k (wA h u) i = mj_R h (wA h u) i := fun i => kR _ i hl (by omega)
    have hN2 : WN k u (jm + 1) := by
      have q := WN_to (ki 45 (by decide) (by decide)) (ki 46 (by decide) (by decide)) (ki 47 (by decide) (by decide)) hN
      exact ⟨q.1, Nat.lt_succ_of_lt q.2.1, q.2.2⟩
    refine ⟨?_, ?_⟩
    · unfold WC
      rw [eA, ej, el, eW, er, e2.2.1 _ hl, rA 0, iA, ejA _ hN.2.1]
      exact ⟨⟨k1.1.1, k1.1.2.1, h6, by omega⟩, k1.2.1, k1.2.2.1, k1.2.2.2.1, hN2⟩
    · rcases k2 with q | ⟨Y, q⟩
      · left
        rw [eA, rA, iA]
        exact q
      · right
        exact ⟨Y, RowD_to q eA ePW eg el eW (by omega) (rA 3) (e2.2.1 _ q.2.2.2.1) (kd _ q.2.2.1 q.2.2.2.1) iA⟩
  · have eA : ∀ u, wA k u = wA h u := fun u => by unfold wA; rw [kR 11 u (by omega) (by omega)]
    rw [eA, eA]
    exact v.2.2.2.2.2.1.2.1 u u' hu hu'
  · obtain ⟨⟨b1, b2, b3⟩, b4, b5, b6, b7⟩ := v.bb.1
    refine ⟨⟨b1, by rw [ki 22 (by decide) (by decide)]; exact b2, fun x hx => ?_⟩, b4, by rw [ki 22 (by decide) (by decide)]; exact b5, fun i hi => ?_, fun i j => by rw [ki 57 (by decide) (by decide)]; exact b7 i j⟩
    · have q := b3 x hx
      have hl := q.1.2.2.2
      have h6 := q.1.2.2.1
      have er : mj_R k 23 x = mj_R h 23 x := kR 23 x (by omega) (by omega)
      have exA : xA k x = xA h x := by unfold xA; rw [er]
      have ejj : jj k x = jj h x := by unfold jj; rw [ki 52 (by decide) (by decide)]
      have ejs : js k x = js h x := by unfold js; rw [ki 53 (by decide) (by decide)]
      unfold XC JT
      rw [exA, ejj, ejs, ejA _ q.2.2.2.2.2.1, er, e2.2.1 _ hl, kR _ 0 hl (by omega), kd _ h6 hl, ki 52 (by decide) (by decide), ki 53 (by decide) (by decide), ki 54 (by decide) (by decide)]
      exact ⟨⟨q.1.1, q.1.2.1, h6, by omega⟩, q.2.1, q.2.2.1, q.2.2.2.1, q.2.2.2.2.1, Nat.lt_succ_of_lt q.2.2.2.2.2.1, q.2.2.2.2.2.2⟩
    · unfold TR
      rw [ki 25 (by decide) (by decide), ki 26 (by decide) (by decide), ki 27 (by decide) (by decide), ki 55 (by decide) (by decide), ki 56 (by decide) (by decide), ki 57 (by decide) (by decide)]
      exact b6 i hi
theorem pr_job {h : mj_H} {sm jm wm tm xm km em : Nat} (v : IV h sm jm wm tm xm km em) (x y rings : Int32) : PR 71 121 [.int x, .int y, .int rings] h := by
  have h6 := v.sm6
  have hj := v.jm20
  have S := v.2.2.2.2.1
  have bad : ¬ (mIn x sm ∧ mIn y sm ∧ mj_I h 35 (6 * x.toNatClampNeg + y.toNatClampNeg) = 0 ∧ (nI 2 ≤ rings ∧ rings ≤ nI 6) ∧ ¬ jm = 20) → mxc 30 71 [.ref 8, .int x, .int y, .int rings] h (fun r h' => r = some (.int (-1)) ∧ h' = h) → PR 71 121 [.int x, .int y, .int rings] h := fun hn kc => by
    refine kc.post ?_
    rintro _ g ⟨rfl, eg⟩
    refine ⟨_, rfl, ?_⟩
    rw [eg]
    refine (mxc.mono (c_job v.mw.1 x y rings h6 v.esm hj v.ejm) (by decide)).post ?_
    intro r k hk
    rw [if_neg hn] at hk
    obtain ⟨rfl, ek⟩ := hk
    rw [ek]
    exact ⟨rfl, v.nx (B0.rf _)⟩
  by_cases hx : mIn x sm
  · obtain ⟨a, ha, rfl⟩ := mIn_of hx (by omega)
    have ea := nI_clamp (show a < 2 ^ 31 by omega)
    have hA := S.1 a ha
    by_cases hy : mIn y sm
    · obtain ⟨b, hb, rfl⟩ := mIn_of hy (by omega)
      have eb := nI_clamp (show b < 2 ^ 31 by omega)
      have hB := S.1 b hb
      have hbit := hA.2.2.2.1 b (by omega)
      rw [ea, eb] at bad
      by_cases hz : mj_I h 35 (6 * a + b) = 0
      · have hnb : ¬ ibit (mj_I h (sA h a) 1) b = true := fun q => hbit.mp q hz
        by_cases hr : (nI 2 ≤ rings ∧ rings ≤ nI 6) ∧ ¬ jm = 20
        · refine (mxc.mono (k_jobV v.sc h6 v.esc ha hb hA hB v.l63 (show jm < 20 by omega) v.ejc hnb rings hr.1) (by decide)).post ?_
          rintro _ g ⟨rfl, o⟩
          refine ⟨_, rfl, ?_⟩
          have h63 := v.l63
          have e1 : EF [8] [(10, jm)] h g := by
            obtain ⟨o1, o2, oK, oI, o8, o11, oJ, oR, o10, _⟩ := o
            exact ⟨by omega, oK, fun x hx hn => oI x hx (fun q => hn (by rw [q]; simp)), fun x hx i hn => oR x i hx (fun q => hn (by rw [q.1, q.2]; simp)), fun x _ hx => oJ x hx⟩
          have gi : ∀ q, q < 63 → q ≠ 8 → mj_I g q = mj_I h q := fun q hq hn => ef_i e1 h63 hq (by simpa using hn)
          refine (mxc.mono (c_job (h := g) (MW_ef v.mw e1 h63 (by decide) (by simp)).1 (nI a) (nI b) rings h6 (by rw [gi 33 (by decide) (by decide)]; exact v.esm) hj (by rw [gi 33 (by decide) (by decide)]; exact v.ejm)) (by decide)).post ?_
          intro r k hk
          rw [if_pos (by rw [gi 35 (by decide) (by decide), ea, eb]; exact ⟨hx, hy, hz, hr.1, hr.2⟩), ea, eb] at hk
          obtain ⟨rfl, jb⟩ := hk
          exact ⟨rfl, IV_job v ha hb (by omega) hr.1 o jb⟩
        · exact bad (fun q => hr q.2.2.2) (mxc.mono (k_jobR v.sc h6 v.esc ha hb hA hB hj v.ejc hnb rings hr) (by decide))
      · exact bad (fun q => hz q.2.2.1) (mxc.mono (k_jobB v.sc h6 v.esc ha hb hA hB (hbit.mpr hz) rings) (by decide))
    · exact bad (fun q => hy q.2.1) (mxc.mono (k_job1 v.sc h6 v.esc ha hA y rings hy) (by decide))
  · by_cases hy : mIn y sm
    · obtain ⟨b, hb, rfl⟩ := mIn_of hy (by omega)
      exact bad (fun q => hx q.1) (mxc.mono (k_job2 v.sc h6 v.esc x hb (S.1 b hb) rings hx) (by decide))
    · exact bad (fun q => hx q.1) (mxc.mono (k_job0 v.sc h6 v.esc x y rings hx hy) (by decide))
