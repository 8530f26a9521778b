/-! WHAT THE CLASS HOLDS OF JOBS, and the bench -/
/-- where the class keeps a job, its marks, and its two rows of bits -/
def jA (h : mj_H) (j : Nat) : Nat := (mj_R h 10 j).getD 0
def jU (h : mj_H) (j : Nat) : Nat := (mj_R h (jA h j) 2).getD 0
def jD (h : mj_H) (j : Nat) : Nat := (mj_R h (jA h j) 3).getD 0
def jF (h : mj_H) (j : Nat) : Nat := (mj_R h (jA h j) 4).getD 0
def JC (h : mj_H) (j : Nat) : Prop := (mj_R h 10 j = some (jA h j) ∧ mj_K h (jA h j) = (3, 5) ∧ 63 ≤ jA h j ∧ jA h j < h.1) ∧ (mj_R h (jA h j) 2 = some (jU h j) ∧ mj_K h (jU h j) = (12, 9) ∧ 63 ≤ jU h j ∧ jU h j < h.1) ∧ (mj_R h (jA h j) 3 = some (jD h j) ∧ mj_K h (jD h j) = (13, 12) ∧ 63 ≤ jD h j ∧ jD h j < h.1) ∧ (mj_R h (jA h j) 4 = some (jF h j) ∧ mj_K h (jF h j) = (13, 12) ∧ 63 ≤ jF h j ∧ jF h j < h.1) ∧ (∀ i, i < 9 → mj_I h (jU h j) i = mj_I h 36 (9 * j + i)) ∧ (mj_I h (jA h j) 0 = mj_I h 37 j ∧ mj_I h (jA h j) 1 = mj_I h 38 j) ∧ MB (mM h j)
/-- no two jobs share a row -/
def JA (h : mj_H) (jm : Nat) : Prop := ∀ i j, i < jm → j < jm → (jA h i = jA h j → i = j) ∧ (jD h i = jD h j → i = j) ∧ (jF h i = jF h j → i = j) ∧ jD h i ≠ jF h j
/-- the bits say what was judged, and what was found good -/
def CA (h : mj_H) (jm : Nat) : Prop := ∀ j, j < jm → ∀ z, z < 729 → (lb h (jF h j) z = true ↔ lb h (jD h j) z = true ∧ vd h j z = 0)
def BR (h : mj_H) (j z : Nat) : Prop := cT h = wd_T (mM h j) (rgs h j) z ∧ mj_I h 12 6 = nI (wd_1 (mM h j) (rgs h j) z).1 ∧ mj_I h 12 7 = nI (jd (mM h j) (rgs h j) z).1 ∧ mj_I h 12 8 = (jd (mM h j) (rgs h j) z).2 ∧ mj_I h 12 5 = nI z ∧ lb h (jD h j) z = true
def BN (h : mj_H) (jm : Nat) : Prop := mj_R h 12 4 = none ∨ ∃ j z, j < jm ∧ z < 729 ∧ mj_R h 12 4 = some (jA h j) ∧ BR h j z
def CJ (h : mj_H) (jm : Nat) : Prop := SC h ∧ ZC h ∧ (∀ j, j < jm → JC h j ∧ JM h j) ∧ JA h jm ∧ CA h jm ∧ BN h jm
/-- a question to the bench: what it leaves alone -/
def CE (h g : mj_H) : Prop := g.1 = h.1 ∧ g.2.1 = h.2.1 ∧ mj_K g = mj_K h ∧ (∀ a, a ∉ [12, 13, 14, 15, 16] → mj_I g a = mj_I h a) ∧ (∀ a, a ≠ 12 → mj_R g a = mj_R h a) ∧ (∀ i, i ≠ 4 → mj_R g 12 i = mj_R h 12 i) ∧ ∀ a, a < 63 → mj_J g a = mj_J h a
def CQ (h g : mj_H) (jm : Nat) : Prop := CJ g jm ∧ CE h g
theorem CE.rf (h : mj_H) : CE h h := ⟨rfl, rfl, rfl, fun _ _ => rfl, fun _ _ => rfl, fun _ _ => rfl, fun _ _ => rfl⟩
theorem CE.trans {h g k : mj_H} (a : CE h g) (b : CE g k) : CE h k := ⟨b.1.trans a.1, b.2.1.trans a.2.1, b.2.2.1.trans a.2.2.1, fun x hx => (b.2.2.2.1 x hx).trans (a.2.2.2.1 x hx), fun x hx => (b.2.2.2.2.1 x hx).trans (a.2.2.2.2.1 x hx), fun x hx => (b.2.2.2.2.2.1 x hx).trans (a.2.2.2.2.2.1 x hx), fun x hx => (b.2.2.2.2.2.2 x hx).trans (a.2.2.2.2.2.2 x hx)⟩
theorem CQ.rf {h : mj_H} {jm : Nat} (c : CJ h jm) : CQ h h jm := ⟨c, CE.rf h⟩
theorem CQ.trans {h g k : mj_H} {jm : Nat} (a : CQ h g jm) (b : CQ g k jm) : CQ h k jm := ⟨b.1, a.2.trans b.2⟩
theorem CE.i {h g : mj_H} (e : CE h g) {a : Nat} (ha : 16 < a ∨ a < 12) : mj_I g a = mj_I h a := e.2.2.2.1 a (by simp; omega)
theorem CE.k {h g : mj_H} (e : CE h g) (a : Nat) : mj_K g a = mj_K h a := congrFun e.2.2.1 a
theorem CE.r {h g : mj_H} (e : CE h g) {a : Nat} (ha : a ≠ 12) : mj_R g a = mj_R h a := e.2.2.2.2.1 a ha
theorem CE.eA {h g : mj_H} (e : CE h g) (j : Nat) : jA g j = jA h j := by unfold jA; rw [e.r (by decide)]
theorem CE.eM {h g : mj_H} (e : CE h g) (j : Nat) : mM g j = mM h j := by unfold mM; rw [e.i (by decide)]
theorem CE.eG {h g : mj_H} (e : CE h g) (j : Nat) : rgs g j = rgs h j := by unfold rgs; rw [e.i (by decide)]
theorem CE.eV {h g : mj_H} (e : CE h g) (j z : Nat) : vd g j z = vd h j z := vd_eq (e.i (by decide)) j z
theorem CE.eU {h g : mj_H} (e : CE h g) {j : Nat} (hA : 63 ≤ jA h j) : jU g j = jU h j := by unfold jU; rw [e.eA, e.r (by omega)]
theorem CE.eD {h g : mj_H} (e : CE h g) {j : Nat} (hA : 63 ≤ jA h j) : jD g j = jD h j := by unfold jD; rw [e.eA, e.r (by omega)]
theorem CE.eF {h g : mj_H} (e : CE h g) {j : Nat} (hA : 63 ≤ jA h j) : jF g j = jF h j := by unfold jF; rw [e.eA, e.r (by omega)]
theorem CE.sc {h g : mj_H} (e : CE h g) (C : SC h) : SC g := C.to (fun a _ => e.k a) (fun x hx => by
    by_cases q : x.1 = 12
    · have : ¬ x.2.1 = 4 := by revert x; decide
      rw [q]; exact e.2.2.2.2.2.1 _ this
    · rw [e.r q]) (fun a ha => e.i (by omega))
theorem JC_to {h g : mj_H} (e : CE h g) {j : Nat} (c : JC h j) : JC g j := by
  have hA := c.1.2.2.1
  have hU := c.2.1.2.2.1
  unfold JC
  rw [e.eA, e.eU hA, e.eD hA, e.eF hA, e.eM, e.1, e.2.2.1, e.r (by decide), e.r (by omega), e.i (by omega), e.i (by decide), e.i (by omega), e.i (by decide), e.i (by decide)]
  exact c
theorem MB_M {M N : Nat → Int32} (h : MA M N) (b : MB N) : MB M := by
  unfold MB
  rw [h 0 (by decide), h 1 (by decide), h 2 (by decide), h 4 (by decide)]
  exact b
theorem JC.ma {h : mj_H} {j : Nat} (c : JC h j) : MA (mj_I h (jU h j)) (mM h j) := c.2.2.2.2.1
theorem JC.jh {h : mj_H} {j : Nat} (c : JC h j) (m : JM h j) : JH h (jA h j) (jU h j) (rgs h j) (mj_I h (jU h j)) := by
  obtain ⟨rg, e8, hrg, _, _⟩ := m
  rw [rgs_eq e8 hrg]
  exact ⟨c.1.2.1, c.2.1.1, c.2.1.2.1, c.2.1.2.2.1, rfl, (c.2.2.2.2.1 8 (by decide)).trans e8, hrg, MB_M c.ma c.2.2.2.2.2.2⟩
theorem lb_J {x y : mj_H} (e : mj_J x = mj_J y) (D z : Nat) : lb x D z = lb y D z := by unfold lb; rw [e]
theorem WE.ce {h g : mj_H} {A D F z rg : Nat} {M : Nat → Int32} (w : WE h g A D F z rg M) (hD : 63 ≤ D) (hF : 63 ≤ F) : CE h g := by
  obtain ⟨w1, w2, w3, w4, w5, w6, _⟩ := w
  refine ⟨w1, w2, w3, w4, fun a ha => by rw [w5, mj_R_other ha], fun i hi => by rw [w5, mj_R_ne hi], fun a ha => ?_⟩
  rw [w6]
  by_cases q : (jd M rg z).1 = 0
  · rw [if_pos q]
    unfold lset
    rw [mj_J_other (by omega), mj_J_other (by omega)]
  · rw [if_neg q]
    unfold lset
    rw [mj_J_other (by omega)]
theorem WE.cq {h g : mj_H} {jm j z : Nat} (c : CJ h jm) (hj : j < jm) (hz : z < 729) (w : WE h g (jA h j) (jD h j) (jF h j) z (rgs h j) (mj_I h (jU h j))) : CQ h g jm ∧ BR g j z ∧ mj_R g 12 4 = some (jA g j) := by
  obtain ⟨c1, c2, c3, c4, c5, c6⟩ := c
  have hc := (c3 j hj).1
  have e : CE h g := w.ce hc.2.2.1.2.2.1 hc.2.2.2.1.2.2.1
  have ma := hc.ma
  obtain ⟨rg, e8, hrg, _, _⟩ := (c3 j hj).2
  have hrgs := rgs_eq e8 hrg
  obtain ⟨_, _, _, _, w5, w6, wT, w5', w6', w7, w8⟩ := w
  rw [wd_T_M ma] at wT
  rw [wd_1_M ma] at w6'
  rw [jd_M ma] at w6 w7 w8
  have hv : (jd (mM h j) (rgs h j) z).1 = vd h j z := rfl
  have r4 : mj_R g 12 4 = some (jA g j) := by rw [w5, e.eA]; exact mj_R_at _ _ _ _
  have dF := (c4 j j hj hj).2.2.2
  have lD : ∀ q, lb g (jD h j) q = (lb h (jD h j) q || decide (q = z)) := by
    intro q
    rw [lb_J w6]
    by_cases h0 : (jd (mM h j) (rgs h j) z).1 = 0
    · rw [if_pos h0, lb_other dF, lb_set]
    · rw [if_neg h0, lb_set]
  have lO : ∀ X q, X ≠ jD h j → X ≠ jF h j → lb g X q = lb h X q := by
    intro X q h1 h2
    rw [lb_J w6]
    by_cases h0 : (jd (mM h j) (rgs h j) z).1 = 0
    · rw [if_pos h0, lb_other h2, lb_other h1]
    · rw [if_neg h0, lb_other h1]
  have lF : ∀ q, lb g (jF h j) q = (lb h (jF h j) q || (decide (q = z) && decide (vd h j z = 0))) := by
    intro q
    rw [lb_J w6]
    by_cases h0 : (jd (mM h j) (rgs h j) z).1 = 0
    · rw [if_pos h0, lb_set, lb_other dF.symm]
      rw [hv] at h0
      simp [h0]
    · rw [if_neg h0, lb_other dF.symm]
      rw [hv] at h0
      simp [h0]
  have br : BR g j z := by
    unfold BR
    rw [e.eM, e.eG, e.eD hc.1.2.2.1]
    exact ⟨wT, w6', w7, w8, w5', by rw [lD]; simp⟩
  refine ⟨⟨⟨e.sc c1, ?_, fun i hi => ⟨JC_to e (c3 i hi).1, (c3 i hi).2.to (e.i (by decide))⟩, ?_, ?_, Or.inr ⟨j, z, hj, hz, r4, br⟩⟩, e⟩, br, r4⟩
  · have hz6 := ZT_w (M := mM h j) (z := z) hrg.2
    rw [hrgs] at wT
    intro a ha q hq
    have h6 := hz6 q hq
    rw [← wT] at h6
    simp only [List.mem_cons, List.not_mem_nil, or_false] at ha
    rcases ha with rfl | rfl | rfl | rfl
    · exact h6.1
    · exact h6.2.1
    · exact h6.2.2.1
    · exact h6.2.2.2
  · intro a b ha hb
    rw [e.eA, e.eA, e.eD (c3 a ha).1.1.2.2.1, e.eD (c3 b hb).1.1.2.2.1, e.eF (c3 a ha).1.1.2.2.1, e.eF (c3 b hb).1.1.2.2.1]
    exact c4 a b ha hb
  · intro i hi q hq
    have hci := (c3 i hi).1
    rw [e.eF hci.1.2.2.1, e.eD hci.1.2.2.1, e.eV]
    have h5 := c5 i hi q hq
    by_cases ij : i = j
    · subst ij
      rw [lD, lF]
      by_cases qz : q = z
      · subst qz
        by_cases v0 : vd h i q = 0
        · simp [v0]
        · have h6 : ¬ lb h (jF h i) q = true := fun h6 => v0 (h5.mp h6).2
          simp [v0, h6]
      · simp [qz]
        exact h5
    · have k1 := c4 i j hi hj
      have k2 := c4 j i hj hi
      rw [lO _ q (fun x => k2.2.2.2 x.symm) (fun x => ij (k1.2.2.1 x)), lO _ q (fun x => ij (k1.2.1 x)) k1.2.2.2]
      exact h5
set_option maxRecDepth 20000 in
theorem k_weld {h : mj_H} {jm : Nat} (c : CJ h jm) {j z : Nat} (hj : j < jm) (hz : z < 729) : mxc 2 2 [.ref 12, .ref (jA h j), .int (nI z)] h (fun r h' => r = none ∧ CQ h h' jm ∧ BR h' j z) := by
  have C := c.1
  have hc := (c.2.2.1 j hj).1
  have hm := (c.2.2.1 j hj).2
  show mx 2 2 0 [.ref 12, .ref (jA h j), .int (nI z), mj_unset] [] h _
  rcases c.2.2.2.2.2 with hn | ⟨i, y, hi, hy, hs, hb⟩
  · skip
    refine x_aload_n f_2_0 rfl ?_
    refine x_getN f_2_1 C.k12 (by decide) hn ?_
    refine x_aload_n f_2_4 rfl ?_
    refine x_acmpN (t := 17) f_2_5 (by decide) ?_
    refine (kweld_17 c.1 c.2.1 (hc.jh hm) hc.2.2.1.1 hc.2.2.1.2.1 hc.2.2.2.1.1 hc.2.2.2.1.2.1 hz _).post ?_
    rintro _ g ⟨rfl, w⟩
    have k := w.cq c hj hz
    exact ⟨rfl, k.1, k.2.1⟩
  · by_cases hij : i = j
    · by_cases hzy : y = z
      · subst hzy
        subst hij
        refine x_aload_n f_2_0 rfl ?_
        refine x_getR f_2_1 C.k12 (by decide) hs ?_
        refine x_aload_n f_2_4 rfl ?_
        refine x_acmp (t := 17) f_2_5 (by decide) (by have := (c.2.2.1 i hi).1.1.2.2.1; omega) (by have := hc.1.2.2.1; omega) ?_
        rw [if_pos rfl]
        refine x_aload_n f_2_8 rfl ?_
        refine x_getI f_2_9 C.k12 (by decide) ?_
        refine x_topi (w := nI y) hb.2.2.2.2.1 ?_
        refine x_iload_n f_2_12 rfl ?_
        refine x_icmpN_ne (t := 17) f_2_13 (by decide) (by omega) (by omega) (fun c_z => absurd rfl c_z) (fun c_z => ?_)
        refine x_retV f_2_16 rfl ?_
        exact ⟨rfl, CQ.rf c, hb⟩
      · skip
        refine x_aload_n f_2_0 rfl ?_
        refine x_getR f_2_1 C.k12 (by decide) hs ?_
        refine x_aload_n f_2_4 rfl ?_
        refine x_acmp (t := 17) f_2_5 (by decide) (by have := (c.2.2.1 i hi).1.1.2.2.1; omega) (by have := hc.1.2.2.1; omega) ?_
        rw [if_pos (congrArg (jA h) hij)]
        refine x_aload_n f_2_8 rfl ?_
        refine x_getI f_2_9 C.k12 (by decide) ?_
        refine x_topi (w := nI y) hb.2.2.2.2.1 ?_
        refine x_iload_n f_2_12 rfl ?_
        refine x_icmpN_ne (t := 17) f_2_13 (by decide) (by omega) (by omega) (fun c_z => ?_) (fun c_z => absurd c_z hzy)
        refine (kweld_17 c.1 c.2.1 (hc.jh hm) hc.2.2.1.1 hc.2.2.1.2.1 hc.2.2.2.1.1 hc.2.2.2.1.2.1 hz _).post ?_
        rintro _ g ⟨rfl, w⟩
        have k := w.cq c hj hz
        exact ⟨rfl, k.1, k.2.1⟩
    · skip
      refine x_aload_n f_2_0 rfl ?_
      refine x_getR f_2_1 C.k12 (by decide) hs ?_
      refine x_aload_n f_2_4 rfl ?_
      refine x_acmp (t := 17) f_2_5 (by decide) (by have := (c.2.2.1 i hi).1.1.2.2.1; omega) (by have := hc.1.2.2.1; omega) ?_
      rw [if_neg (fun q => hij ((c.2.2.2.1 i j hi hj).1 q))]
      refine (kweld_17 c.1 c.2.1 (hc.jh hm) hc.2.2.1.1 hc.2.2.1.2.1 hc.2.2.2.1.1 hc.2.2.2.1.2.1 hz _).post ?_
      rintro _ g ⟨rfl, w⟩
      have k := w.cq c hj hz
      exact ⟨rfl, k.1, k.2.1⟩
theorem BR.v {h g : mj_H} {jm j z : Nat} (q : CQ h g jm) (b : BR g j z) : mj_I g 12 7 = nI (vd h j z) := by
  have := b.2.2.1
  rw [this]
  show nI (vd g j z) = _
  rw [q.2.eV]
theorem mj_ifc {P Q : Prop} {i : Decidable P} {k : Decidable Q} (h : P ↔ Q) : (@ite Int32 P i 1 0) = @ite Int32 Q k 1 0 := by
  by_cases q : Q
  · rw [if_pos q, if_pos (h.mpr q)]
  · rw [if_neg q, if_neg (fun x => q (h.mp x))]
set_option maxRecDepth 20000 in
theorem k_makesGood {h : mj_H} {jm : Nat} (c : CJ h jm) {j z : Nat} (hj : j < jm) (hz : z < 729) : mxc 3 1 [.ref 12, .ref (jA h j), .int (nI z)] h (fun r h' => r = some (.int (if vd h j z = 0 then 1 else 0)) ∧ CQ h h' jm) := by
  have C := c.1
  have hc := (c.2.2.1 j hj).1
  show mx 3 1 0 [.ref 12, .ref (jA h j), .int (nI z)] [] h _
  refine x_aload_n f_1_0 rfl ?_
  refine x_iload_n f_1_1 rfl ?_
  refine x_callVe f_1_2 (k_isJudged hc.1.2.1 hc.2.2.1.1 hc.2.2.1.2.1 hz) (by omega) hc.1.2.1 (by decide) rfl rfl (Nat.le_of_ble_eq_true rfl) rfl ?_
  refine x_ifB_ne (t := 14) f_1_5 (by decide) (fun c_j => ?_) (fun c_j => ?_)
  · refine x_aload_n f_1_14 rfl ?_
    refine x_iload_n f_1_15 rfl ?_
    refine x_callVe f_1_16 (k_isFound hc.1.2.1 hc.2.2.2.1.1 hc.2.2.2.1.2.1 hz) (by omega) hc.1.2.1 (by decide) rfl rfl (Nat.le_of_ble_eq_true rfl) rfl ?_
    refine x_retZ f_1_19 rfl mj_b01 ?_
    refine ⟨?_, CQ.rf c⟩
    have h5 := c.2.2.2.2.1 j hj z hz
    have hq : lb h (jF h j) z = true ↔ vd h j z = 0 := by rw [h5]; exact ⟨fun x => x.2, fun x => ⟨c_j, x⟩⟩
    exact congrArg (fun x : Int32 => some (Value.int x)) (mj_ifc hq)
  · refine x_aload_n f_1_8 rfl ?_
    refine x_aload_n f_1_9 rfl ?_
    refine x_iload_n f_1_10 rfl ?_
    refine x_callV f_1_11 (k_weld c hj hz) (by omega) C.k12 (by decide) rfl rfl (Nat.le_of_ble_eq_true rfl) rfl ?_
    rintro _ g ⟨rfl, q, hb⟩
    have C2 := q.1.1
    have eA := q.2.eA j
    have eD := q.2.eD (j := j) hc.1.2.2.1
    have eF := q.2.eF (j := j) hc.1.2.2.1
    have hc2 := (q.1.2.2.1 j hj).1
    have h52 := q.1.2.2.2.2.1 j hj z hz
    unfold BR at hb
    rw [eD] at hb
    rw [eF, eD, q.2.eV] at h52
    rw [JC, eA, eF] at hc2
    have hk2 := hc2.1.2.1
    refine x_aload_n f_1_14 rfl ?_
    refine x_iload_n f_1_15 rfl ?_
    refine x_callVe f_1_16 (k_isFound hc2.1.2.1 hc2.2.2.2.1.1 hc2.2.2.2.1.2.1 hz) (by omega) hk2 (by decide) rfl rfl (Nat.le_of_ble_eq_true rfl) rfl ?_
    refine x_retZ f_1_19 rfl mj_b01 ?_
    refine ⟨?_, q⟩
    have h5 := h52
    have hq : lb g (jF h j) z = true ↔ vd h j z = 0 := by rw [h5]; exact ⟨fun x => x.2, fun x => ⟨hb.2.2.2.2.2, x⟩⟩
    exact congrArg (fun x : Int32 => some (Value.int x)) (mj_ifc hq)
