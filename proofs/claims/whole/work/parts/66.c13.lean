/-! WINDOWS asked: the good ones -/
def inb (f t s : Nat) : Bool := decide ((mm_pt f 0 ≤ mm_pt s 0 ∧ mm_pt s 0 ≤ mm_pt t 0) ∧ (mm_pt f 1 ≤ mm_pt s 1 ∧ mm_pt s 1 ≤ mm_pt t 1) ∧ (mm_pt f 2 ≤ mm_pt s 2 ∧ mm_pt s 2 ≤ mm_pt t 2))
theorem inb_iff {f t s : Nat} : inb f t s = true ↔ inB f t s := by
  unfold inb
  rw [decide_eq_true_iff, inB_iff]
theorem k_isIn {h : mj_H} (C : SC h) {f t s : Nat} (hf : f < 729) (ht : t < 729) (hs : s < 729) : mxc 1 109 [.int (nI f), .int (nI t), .int (nI s)] h (fun r h' => r = some (.int (if inb f t s = true then 1 else 0)) ∧ h' = h) :=
  k_isInside_ C hf ht hs (fun q => ⟨mj_if1 (inb_iff.mpr q), rfl⟩) (fun q => ⟨mj_if0 (fun x => q (inb_iff.mp x)), rfl⟩)
theorem k_mg {h g : mj_H} {jm : Nat} (q : CQ h g jm) {j z : Nat} (hj : j < jm) (hz : z < 729) : mxc 3 1 [.ref 12, .ref (jA h j), .int (nI z)] g (fun r h' => r = some (.int (if vd h j z = 0 then 1 else 0)) ∧ CQ h h' jm) := by
  rw [← q.2.eA j]
  refine (k_makesGood q.1 hj hz).post ?_
  rintro r k ⟨hr, q2⟩
  rw [q.2.eV] at hr
  exact ⟨hr, q.trans q2⟩
/-- rows that hold nothing of jobs or bench -/
def Fr (h : mj_H) (jm : Nat) (as : List Nat) : Prop := ∀ a ∈ as, (17 ≤ a ∨ a = 8) ∧ a ≠ 36 ∧ a ≠ 37 ∧ a ≠ 38 ∧ ∀ j, j < jm → a ≠ jA h j ∧ a ≠ jU h j
theorem Fr_lt {h : mj_H} {jm : Nat} (c : ∀ j, j < jm → JC h j ∧ JM h j) {as : List Nat} (hs : ∀ a ∈ as, (17 ≤ a ∨ a = 8) ∧ a < 63 ∧ a ≠ 36 ∧ a ≠ 37 ∧ a ≠ 38) : Fr h jm as := by
  intro a ha
  have := hs a ha
  refine ⟨this.1, this.2.2.1, this.2.2.2.1, this.2.2.2.2, fun j hj => ?_⟩
  have h1 := (c j hj).1.1.2.2.1
  have h2 := (c j hj).1.2.1.2.2.1
  omega
theorem CJ_rw {h g : mj_H} {jm : Nat} {as : List Nat} (c : CJ h jm) (r : Rw h g as) (f : Fr h jm as) : CJ g jm := by
  obtain ⟨r1, r2, rK, rJ, rR, rI⟩ := r
  have i16 : ∀ a, a < 17 → a ≠ 8 → mj_I g a = mj_I h a := fun a ha h8 => rI a (fun q => by have := f a q; omega)
  have i36 : mj_I g 36 = mj_I h 36 := rI 36 (fun q => (f 36 q).2.1 rfl)
  have i37 : mj_I g 37 = mj_I h 37 := rI 37 (fun q => (f 37 q).2.2.1 rfl)
  have i38 : mj_I g 38 = mj_I h 38 := rI 38 (fun q => (f 38 q).2.2.2.1 rfl)
  have eA : jA g = jA h := by funext j; unfold jA; rw [rR]
  have eU : jU g = jU h := by funext j; unfold jU; rw [rR, eA]
  have eD : jD g = jD h := by funext j; unfold jD; rw [rR, eA]
  have eF : jF g = jF h := by funext j; unfold jF; rw [rR, eA]
  have eM : mM g = mM h := by funext j; unfold mM; rw [i36]
  have eG : rgs g = rgs h := by funext j; unfold rgs; rw [i36]
  have eV : vd g = vd h := by funext j z; exact vd_eq i36 j z
  have eL : lb g = lb h := by funext D z; exact lb_J rJ D z
  have eT : cT g = cT h := by unfold cT; rw [i16 13 (by decide) (by decide), i16 14 (by decide) (by decide), i16 15 (by decide) (by decide), i16 16 (by decide) (by decide)]
  obtain ⟨c1, c2, c3, c4, c5, c6⟩ := c
  refine ⟨c1.to (fun a _ => by rw [rK]) (fun e _ => by rw [rR]) (fun a ha => i16 a (by omega) (by omega)), fun a ha => by rw [i16 a (by revert a; decide) (by revert a; decide)]; exact c2 a ha, fun j hj => ⟨?_, (c3 j hj).2.to i36⟩, ?_, ?_, ?_⟩
  · have hc := (c3 j hj).1
    have iU : mj_I g (jU h j) = mj_I h (jU h j) := rI _ (fun q => ((f _ q).2.2.2.2 j hj).2 rfl)
    have iA : mj_I g (jA h j) = mj_I h (jA h j) := rI _ (fun q => ((f _ q).2.2.2.2 j hj).1 rfl)
    unfold JC
    rw [eA, eU, eD, eF, eM, rR, rK, r1, iU, iA, i36, i37, i38]
    exact hc
  · unfold JA
    rw [eA, eD, eF]
    exact c4
  · unfold CA
    rw [eF, eD, eV, eL]
    exact c5
  · unfold BN BR
    rw [rR, eA, eT, eM, eG, eL, eD, i16 12 (by decide) (by decide)]
    exact c6
/-- where the class keeps a window -/
def wA (h : mj_H) (w : Nat) : Nat := (mj_R h 11 w).getD 0
def WC (h : mj_H) (w jm : Nat) : Prop := (mj_R h 11 w = some (wA h w) ∧ mj_K h (wA h w) = (9, 7) ∧ 63 ≤ wA h w ∧ wA h w < h.1) ∧ mj_R h (wA h w) 0 = some (jA h (wj h w)) ∧ mj_I h (wA h w) 1 = nI (zz (wlo h w) 0 0 0) ∧ mj_I h (wA h w) 2 = nI (zz (wlo h w) (Wd h w 0) (Wd h w 1) (Wd h w 2)) ∧ WN h w jm
theorem WN.lb {h : mj_H} {w jm : Nat} (n : WN h w jm) : LB (wlo h w) (Wd h w) := by
  intro a ha
  have := n.2.2 a ha
  unfold Wd
  omega
theorem WN.bx {h : mj_H} {w jm : Nat} (n : WN h w jm) : BX (Wd h w) 0 (Wd h w 0) 0 (Wd h w 1) 0 (Wd h w 2) := ⟨by omega, by omega, by omega, by omega, by omega, by omega⟩
theorem wz_zz (h : mj_H) (w t p l : Nat) : wz h w t p l = zz (wlo h w) t p l := rfl
theorem zz_le (L : Nat → Nat) (t p l : Nat) : zz L 0 0 0 ≤ zz L t p l := by unfold zz; omega
/-- where the class keeps a stuff, a joint -/
def sA (h : mj_H) (s : Nat) : Nat := (mj_R h 9 s).getD 0
def xA (h : mj_H) (x : Nat) : Nat := (mj_R h 23 x).getD 0
set_option maxRecDepth 20000 in
theorem k_windowAt {h : mj_H} (C : SC h) {v m : Nat} (hm : m ≤ 10) (e_m : mj_I h 8 12 = nI m) (hv : v < m) (hR : mj_R h 11 v = some (wA h v)) : mxc 0 101 [.ref 8, .int (nI v)] h (fun r h' => r = some (.ref (wA h v)) ∧ h' = h) := by
  show mx 0 101 0 [.ref 8, .int (nI v)] [] h _
  refine x_iload_n f_101_0 rfl ?_
  refine x_ifN_lt (t := 21) f_101_1 (by decide) (by omega) (fun c_1 => c_1.elim) (fun c_1 => ?_)
  refine x_iload_n f_101_4 rfl ?_
  refine x_aload_n f_101_5 rfl ?_
  refine x_getI f_101_6 C.k8 (by decide) ?_
  refine x_topi (w := nI m) e_m ?_
  refine x_icmpN_ge (t := 21) f_101_9 (by decide) (by omega) (by omega) (fun c_2 => by omega) (fun c_2 => ?_)
  refine x_aload_n f_101_12 rfl ?_
  refine x_getR f_101_13 C.k8 (by decide) C.r8_2 ?_
  refine x_iload_n f_101_16 rfl ?_
  refine x_rald (j := v) f_101_17 C.k11 (by decide) (by omega) (by decide) hR ?_
  refine x_goto (t := 22) f_101_18 (by decide) ?_
  refine x_retA f_101_22 rfl rfl ?_
  exact ⟨rfl, rfl⟩
set_option maxRecDepth 20000 in
theorem k_windowAt0 {h : mj_H} (C : SC h) (v : Int32) {m : Nat} (hm : m ≤ 10) (e_m : mj_I h 8 12 = nI m) (hn : ¬ mIn v m) : mxc 0 101 [.ref 8, .int v] h (fun r h' => r = some (.null) ∧ h' = h) := by
  show mx 0 101 0 [.ref 8, .int v] [] h _
  refine x_iload_n f_101_0 rfl ?_
  refine x_if_lt (t := 21) f_101_1 (by decide) (fun c_1 => ?_) (fun c_1 => ?_)
  · refine x_null f_101_21 ?_
    refine x_retN f_101_22 rfl rfl ?_
    exact ⟨rfl, rfl⟩
  · refine x_iload_n f_101_4 rfl ?_
    refine x_aload_n f_101_5 rfl ?_
    refine x_getI f_101_6 C.k8 (by decide) ?_
    refine x_topi (w := nI m) e_m ?_
    refine x_icmp_ge (t := 21) f_101_9 (by decide) (fun c_2 => ?_) (fun c_2 => absurd ((mIn_lt (by omega)).mp ⟨c_1, Int32.not_le.mp c_2⟩) hn)
    refine x_null f_101_21 ?_
    refine x_retN f_101_22 rfl rfl ?_
    exact ⟨rfl, rfl⟩
set_option maxRecDepth 20000 in
theorem k_jobAt {h : mj_H} (C : SC h) {v m : Nat} (hm : m ≤ 20) (e_m : mj_I h 8 11 = nI m) (hv : v < m) (hR : mj_R h 10 v = some (jA h v)) : mxc 0 100 [.ref 8, .int (nI v)] h (fun r h' => r = some (.ref (jA h v)) ∧ h' = h) := by
  show mx 0 100 0 [.ref 8, .int (nI v)] [] h _
  refine x_iload_n f_100_0 rfl ?_
  refine x_ifN_lt (t := 21) f_100_1 (by decide) (by omega) (fun c_1 => c_1.elim) (fun c_1 => ?_)
  refine x_iload_n f_100_4 rfl ?_
  refine x_aload_n f_100_5 rfl ?_
  refine x_getI f_100_6 C.k8 (by decide) ?_
  refine x_topi (w := nI m) e_m ?_
  refine x_icmpN_ge (t := 21) f_100_9 (by decide) (by omega) (by omega) (fun c_2 => by omega) (fun c_2 => ?_)
  refine x_aload_n f_100_12 rfl ?_
  refine x_getR f_100_13 C.k8 (by decide) C.r8_1 ?_
  refine x_iload_n f_100_16 rfl ?_
  refine x_rald (j := v) f_100_17 C.k10 (by decide) (by omega) (by decide) hR ?_
  refine x_goto (t := 22) f_100_18 (by decide) ?_
  refine x_retA f_100_22 rfl rfl ?_
  exact ⟨rfl, rfl⟩
set_option maxRecDepth 20000 in
theorem k_jobAt0 {h : mj_H} (C : SC h) (v : Int32) {m : Nat} (hm : m ≤ 20) (e_m : mj_I h 8 11 = nI m) (hn : ¬ mIn v m) : mxc 0 100 [.ref 8, .int v] h (fun r h' => r = some (.null) ∧ h' = h) := by
  show mx 0 100 0 [.ref 8, .int v] [] h _
  refine x_iload_n f_100_0 rfl ?_
  refine x_if_lt (t := 21) f_100_1 (by decide) (fun c_1 => ?_) (fun c_1 => ?_)
  · refine x_null f_100_21 ?_
    refine x_retN f_100_22 rfl rfl ?_
    exact ⟨rfl, rfl⟩
  · refine x_iload_n f_100_4 rfl ?_
    refine x_aload_n f_100_5 rfl ?_
    refine x_getI f_100_6 C.k8 (by decide) ?_
    refine x_topi (w := nI m) e_m ?_
    refine x_icmp_ge (t := 21) f_100_9 (by decide) (fun c_2 => ?_) (fun c_2 => absurd ((mIn_lt (by omega)).mp ⟨c_1, Int32.not_le.mp c_2⟩) hn)
    refine x_null f_100_21 ?_
    refine x_retN f_100_22 rfl rfl ?_
    exact ⟨rfl, rfl⟩
set_option maxRecDepth 20000 in
theorem k_stuffAt {h : mj_H} (C : SC h) {v m : Nat} (hm : m ≤ 6) (e_m : mj_I h 8 10 = nI m) (hv : v < m) (hR : mj_R h 9 v = some (sA h v)) : mxc 0 99 [.ref 8, .int (nI v)] h (fun r h' => r = some (.ref (sA h v)) ∧ h' = h) := by
  show mx 0 99 0 [.ref 8, .int (nI v)] [] h _
  refine x_iload_n f_99_0 rfl ?_
  refine x_ifN_lt (t := 21) f_99_1 (by decide) (by omega) (fun c_1 => c_1.elim) (fun c_1 => ?_)
  refine x_iload_n f_99_4 rfl ?_
  refine x_aload_n f_99_5 rfl ?_
  refine x_getI f_99_6 C.k8 (by decide) ?_
  refine x_topi (w := nI m) e_m ?_
  refine x_icmpN_ge (t := 21) f_99_9 (by decide) (by omega) (by omega) (fun c_2 => by omega) (fun c_2 => ?_)
  refine x_aload_n f_99_12 rfl ?_
  refine x_getR f_99_13 C.k8 (by decide) C.r8_0 ?_
  refine x_iload_n f_99_16 rfl ?_
  refine x_rald (j := v) f_99_17 C.k9 (by decide) (by omega) (by decide) hR ?_
  refine x_goto (t := 22) f_99_18 (by decide) ?_
  refine x_retA f_99_22 rfl rfl ?_
  exact ⟨rfl, rfl⟩
set_option maxRecDepth 20000 in
theorem k_stuffAt0 {h : mj_H} (C : SC h) (v : Int32) {m : Nat} (hm : m ≤ 6) (e_m : mj_I h 8 10 = nI m) (hn : ¬ mIn v m) : mxc 0 99 [.ref 8, .int v] h (fun r h' => r = some (.null) ∧ h' = h) := by
  show mx 0 99 0 [.ref 8, .int v] [] h _
  refine x_iload_n f_99_0 rfl ?_
  refine x_if_lt (t := 21) f_99_1 (by decide) (fun c_1 => ?_) (fun c_1 => ?_)
  · refine x_null f_99_21 ?_
    refine x_retN f_99_22 rfl rfl ?_
    exact ⟨rfl, rfl⟩
  · refine x_iload_n f_99_4 rfl ?_
    refine x_aload_n f_99_5 rfl ?_
    refine x_getI f_99_6 C.k8 (by decide) ?_
    refine x_topi (w := nI m) e_m ?_
    refine x_icmp_ge (t := 21) f_99_9 (by decide) (fun c_2 => ?_) (fun c_2 => absurd ((mIn_lt (by omega)).mp ⟨c_1, Int32.not_le.mp c_2⟩) hn)
    refine x_null f_99_21 ?_
    refine x_retN f_99_22 rfl rfl ?_
    exact ⟨rfl, rfl⟩
set_option maxRecDepth 20000 in
theorem k_jointAt {h : mj_H} (C : SC h) {v m : Nat} (hm : m ≤ 60) (e_m : mj_I h 22 5 = nI m) (hv : v < m) (hR : mj_R h 23 v = some (xA h v)) : mxc 0 13 [.ref 22, .int (nI v)] h (fun r h' => r = some (.ref (xA h v)) ∧ h' = h) := by
  show mx 0 13 0 [.ref 22, .int (nI v)] [] h _
  refine x_iload_n f_13_0 rfl ?_
  refine x_ifN_lt (t := 21) f_13_1 (by decide) (by omega) (fun c_1 => c_1.elim) (fun c_1 => ?_)
  refine x_iload_n f_13_4 rfl ?_
  refine x_aload_n f_13_5 rfl ?_
  refine x_getI f_13_6 C.k22 (by decide) ?_
  refine x_topi (w := nI m) e_m ?_
  refine x_icmpN_ge (t := 21) f_13_9 (by decide) (by omega) (by omega) (fun c_2 => by omega) (fun c_2 => ?_)
  refine x_aload_n f_13_12 rfl ?_
  refine x_getR f_13_13 C.k22 (by decide) C.r22_0 ?_
  refine x_iload_n f_13_16 rfl ?_
  refine x_rald (j := v) f_13_17 C.k23 (by decide) (by omega) (by decide) hR ?_
  refine x_goto (t := 22) f_13_18 (by decide) ?_
  refine x_retA f_13_22 rfl rfl ?_
  exact ⟨rfl, rfl⟩
set_option maxRecDepth 20000 in
theorem k_jointAt0 {h : mj_H} (C : SC h) (v : Int32) {m : Nat} (hm : m ≤ 60) (e_m : mj_I h 22 5 = nI m) (hn : ¬ mIn v m) : mxc 0 13 [.ref 22, .int v] h (fun r h' => r = some (.null) ∧ h' = h) := by
  show mx 0 13 0 [.ref 22, .int v] [] h _
  refine x_iload_n f_13_0 rfl ?_
  refine x_if_lt (t := 21) f_13_1 (by decide) (fun c_1 => ?_) (fun c_1 => ?_)
  · refine x_null f_13_21 ?_
    refine x_retN f_13_22 rfl rfl ?_
    exact ⟨rfl, rfl⟩
  · refine x_iload_n f_13_4 rfl ?_
    refine x_aload_n f_13_5 rfl ?_
    refine x_getI f_13_6 C.k22 (by decide) ?_
    refine x_topi (w := nI m) e_m ?_
    refine x_icmp_ge (t := 21) f_13_9 (by decide) (fun c_2 => ?_) (fun c_2 => absurd ((mIn_lt (by omega)).mp ⟨c_1, Int32.not_le.mp c_2⟩) hn)
    refine x_null f_13_21 ?_
    refine x_retN f_13_22 rfl rfl ?_
    exact ⟨rfl, rfl⟩
theorem sm_s (f : Nat → Nat) (n x : Nat) : sm f (n + 1) x = f x + sm f n (x + 1) := rfl
set_option maxRecDepth 20000 in
theorem kgood_l {h : mj_H} {jm w : Nat} (hw : WC h w jm) {X : Nat} (hX : X < 1000) : ∀ (n s k : Nat) (g : mj_H), s + n = zz (wlo h w) (Wd h w 0) (Wd h w 1) (Wd h w 2) + 1 → CQ h g jm → k + sm (fun s => if inb (zz (wlo h w) 0 0 0) (zz (wlo h w) (Wd h w 0) (Wd h w 1) (Wd h w 2)) s = true ∧ vd h (wj h w) s = 0 then 1 else 0) n s = X → mx 4 79 20 [.ref 8, .int (nI w), .ref (wA h w), .int (nI k), .int (nI s)] [] g (fun r h' => r = some (.int (nI X)) ∧ CQ h h' jm) := by
  have hN := hw.2.2.2.2
  have hL := hN.lb
  have h63 := hw.1.2.2.1
  have zx := zz_ hL (t := 0) (p := 0) (l := 0) (by omega) (by omega) (by omega)
  have zy := zz_ hL (t := Wd h w 0) (p := Wd h w 1) (l := Wd h w 2) (by omega) (by omega) (by omega)
  intro n
  induction n with
  | zero =>
    intro s k g hs q e
    have C := q.1.1
    have kw : mj_K g (wA h w) = (9, 7) := (q.2.k _).trans hw.1.2.1
    have rw0 : mj_R g (wA h w) 0 = some (jA h (wj h w)) := (congrFun (q.2.r (by omega)) 0).trans hw.2.1
    have iw1 : mj_I g (wA h w) 1 = nI (zz (wlo h w) 0 0 0) := (congrFun (q.2.i (by omega)) 1).trans hw.2.2.1
    have iw2 : mj_I g (wA h w) 2 = nI (zz (wlo h w) (Wd h w 0) (Wd h w 1) (Wd h w 2)) := (congrFun (q.2.i (by omega)) 2).trans hw.2.2.2.1
    refine x_iload f_79_20 rfl ?_
    refine x_aload_n f_79_22 rfl ?_
    refine x_getI f_79_23 kw (by decide) ?_
    refine x_topi (w := nI (zz (wlo h w) (Wd h w 0) (Wd h w 1) (Wd h w 2))) iw2 ?_
    refine x_icmpN_gt (t := 70) f_79_26 (by decide) (by omega) (by omega) (fun c_1 => ?_) (fun c_1 => by omega)
    refine x_iload_n f_79_70 rfl ?_
    refine x_retI f_79_71 rfl ?_
    exact ⟨by rw [← e]; rfl, q⟩
  | succ n ih =>
    intro s k g hs q e
    have C := q.1.1
    have kw : mj_K g (wA h w) = (9, 7) := (q.2.k _).trans hw.1.2.1
    have rw0 : mj_R g (wA h w) 0 = some (jA h (wj h w)) := (congrFun (q.2.r (by omega)) 0).trans hw.2.1
    have iw1 : mj_I g (wA h w) 1 = nI (zz (wlo h w) 0 0 0) := (congrFun (q.2.i (by omega)) 1).trans hw.2.2.1
    have iw2 : mj_I g (wA h w) 2 = nI (zz (wlo h w) (Wd h w 0) (Wd h w 1) (Wd h w 2)) := (congrFun (q.2.i (by omega)) 2).trans hw.2.2.2.1
    refine x_iload f_79_20 rfl ?_
    refine x_aload_n f_79_22 rfl ?_
    refine x_getI f_79_23 kw (by decide) ?_
    refine x_topi (w := nI (zz (wlo h w) (Wd h w 0) (Wd h w 1) (Wd h w 2))) iw2 ?_
    refine x_icmpN_gt (t := 70) f_79_26 (by decide) (by omega) (by omega) (fun c_1 => by omega) (fun c_1 => ?_)
    refine x_aload_n f_79_29 rfl ?_
    refine x_getI f_79_30 kw (by decide) ?_
    refine x_topi (w := nI (zz (wlo h w) 0 0 0)) iw1 ?_
    refine x_aload_n f_79_33 rfl ?_
    refine x_getI f_79_34 kw (by decide) ?_
    refine x_topi (w := nI (zz (wlo h w) (Wd h w 0) (Wd h w 1) (Wd h w 2))) iw2 ?_
    refine x_iload f_79_37 rfl ?_
    refine x_callSe f_79_39 (k_isIn C zx.1 zy.1 (by omega)) (by omega) rfl rfl rfl (Nat.le_of_ble_eq_true rfl) rfl ?_
    refine x_ifB_eq (t := 64) f_79_42 (by decide) (fun c_i => ?_) (fun c_i => ?_)
    · refine x_iinc (v := nI (s + 1)) (ls1 := [.ref 8, .int (nI w), .ref (wA h w), .int (nI k), .int (nI (s + 1))]) f_79_64 rfl (by exact nI_add _ 1) rfl ?_
      refine x_goto (t := 20) f_79_67 (by decide) ?_
      exact ih (s + 1) _ g (by omega) q (by rw [← e, sm_s, if_neg (fun z => c_i z.1)]; omega)
    · refine x_aload_n f_79_45 rfl ?_
      refine x_getR f_79_46 C.k8 (by decide) C.r8_3 ?_
      refine x_aload_n f_79_49 rfl ?_
      refine x_getR f_79_50 kw (by decide) rw0 ?_
      refine x_iload f_79_53 rfl ?_
      refine x_callV f_79_55 (k_mg q hN.2.1 (z := s) (by omega)) (by omega) C.k12 (by decide) rfl rfl (Nat.le_of_ble_eq_true rfl) rfl ?_
      rintro _ g1 ⟨rfl, q1⟩
      refine x_ifB_eq (t := 64) f_79_58 (by decide) (fun c_v => ?_) (fun c_v => ?_)
      · refine x_iinc (v := nI (s + 1)) (ls1 := [.ref 8, .int (nI w), .ref (wA h w), .int (nI k), .int (nI (s + 1))]) f_79_64 rfl (by exact nI_add _ 1) rfl ?_
        refine x_goto (t := 20) f_79_67 (by decide) ?_
        exact ih (s + 1) _ g1 (by omega) q1 (by rw [← e, sm_s, if_neg (fun z => c_v z.2)]; omega)
      · refine x_iinc (v := nI (k + 1)) (ls1 := [.ref 8, .int (nI w), .ref (wA h w), .int (nI (k + 1)), .int (nI s)]) f_79_61 rfl (by exact nI_add _ 1) rfl ?_
        refine x_iinc (v := nI (s + 1)) (ls1 := [.ref 8, .int (nI w), .ref (wA h w), .int (nI (k + 1)), .int (nI (s + 1))]) f_79_64 rfl (by exact nI_add _ 1) rfl ?_
        refine x_goto (t := 20) f_79_67 (by decide) ?_
        exact ih (s + 1) _ g1 (by omega) q1 (by rw [← e, sm_s, if_pos ⟨c_i, c_v⟩]; omega)
set_option maxRecDepth 20000 in
theorem k_goodN {h : mj_H} {jm w wm : Nat} (c : CJ h jm) (hw : WC h w jm) (h_wm : wm ≤ 10) (e_wm : mj_I h 8 12 = nI wm) (h_w : w < wm) : mxc 4 79 [.ref 8, .int (nI w)] h (fun r h' => r = some (.int (nI (GW h w))) ∧ CQ h h' jm) := by
  have q := CQ.rf c
  have C := c.1
  have hN := hw.2.2.2.2
  have hL := hN.lb
  have h63 := hw.1.2.2.1
  have zx := zz_ hL (t := 0) (p := 0) (l := 0) (by omega) (by omega) (by omega)
  have zy := zz_ hL (t := Wd h w 0) (p := Wd h w 1) (l := Wd h w 2) (by omega) (by omega) (by omega)
  have kw := hw.1.2.1
  have iw1 := hw.2.2.1
  show mx 4 79 0 [.ref 8, .int (nI w), mj_unset, mj_unset, mj_unset] [] h _
  refine x_aload_n f_79_0 rfl ?_
  refine x_iload_n f_79_1 rfl ?_
  refine x_callVe f_79_2 (k_windowAt C h_wm e_wm h_w hw.1.1) (by omega) C.k8 (by decide) rfl rfl (Nat.le_of_ble_eq_true rfl) rfl ?_
  refine x_astore_n (ls1 := [.ref 8, .int (nI w), .ref (wA h w), mj_unset, mj_unset]) f_79_5 (Nat.le_of_ble_eq_true rfl) rfl ?_
  refine x_aload_n f_79_6 rfl ?_
  refine x_ifnonnull (t := 12) f_79_7 (by decide) ?_
  refine x_iconst (v := nI 0) f_79_12 (by decide) ?_
  refine x_istore_n (ls1 := [.ref 8, .int (nI w), .ref (wA h w), .int (nI 0), mj_unset]) f_79_13 (Nat.le_of_ble_eq_true rfl) rfl ?_
  refine x_aload_n f_79_14 rfl ?_
  refine x_getI f_79_15 kw (by decide) ?_
  refine x_topi (w := nI (zz (wlo h w) 0 0 0)) iw1 ?_
  refine x_istore (ls1 := [.ref 8, .int (nI w), .ref (wA h w), .int (nI 0), .int (nI (zz (wlo h w) 0 0 0))]) f_79_18 (Nat.le_of_ble_eq_true rfl) rfl ?_
  refine kgood_l hw (X := GW h w) (by have := gcN_le (wg h w) (a := 0) (b := Wd h w 0) (c := 0) (d := Wd h w 1) (e := 0) (f := Wd h w 2) (hL 0 (by decide)).2.2 (hL 1 (by decide)).2.2 (hL 2 (by decide)).2.2; unfold GW; omega) (zz (wlo h w) (Wd h w 0) (Wd h w 1) (Wd h w 2) + 1 - (zz (wlo h w) 0 0 0)) _ 0 h (by have := zz_le (wlo h w) (Wd h w 0) (Wd h w 1) (Wd h w 2); omega) (CQ.rf c) ?_
  rw [Nat.zero_add]
  exact gc_lin (V := fun s => decide (vd h (wj h w) s = 0)) hL _ (fun s q => by simp [inb_iff.mpr q]) (fun s q => if_neg (fun z => q (inb_iff.mp z.1)))
set_option maxRecDepth 20000 in
theorem k_good0 {h : mj_H} (C : SC h) {wm : Nat} (h_wm : wm ≤ 10) (e_wm : mj_I h 8 12 = nI wm) (v : Int32) (hin : ¬ mIn v wm) : mxc 1 79 [.ref 8, .int v] h (fun r h' => r = some (.int (-1)) ∧ h' = h) := by
  show mx 1 79 0 [.ref 8, .int v, mj_unset, mj_unset, mj_unset] [] h _
  refine x_aload_n f_79_0 rfl ?_
  refine x_iload_n f_79_1 rfl ?_
  refine x_callVe f_79_2 (k_windowAt0 C _ h_wm e_wm hin) (by omega) C.k8 (by decide) rfl rfl (Nat.le_of_ble_eq_true rfl) rfl ?_
  refine x_astore_nN (ls1 := [.ref 8, .int v, .null, mj_unset, mj_unset]) f_79_5 (Nat.le_of_ble_eq_true rfl) rfl ?_
  refine x_aload_nN f_79_6 rfl ?_
  refine x_ifnonnullN f_79_7 ?_
  refine x_iconst (v := -1) f_79_10 (by decide) ?_
  refine x_retI f_79_11 rfl ?_
  exact ⟨rfl, rfl⟩
