/-! told, its answer and its throw; the law's told; what the step stands for -/
section MU
variable {G : mj_G} {p : Program} {l : Launch} {e : Env} {R : Room} {s : State} {m : MethodId} {args : Array Value} {below : List Frame} {meth : Method} {c : Code} {Q : State → Prop} {H : Heap} {locs : List Loc} {la : Array Slot} {cells slots pc : Nat} {h : mj_H} {x o : Nat} {j w : Int32} {r : List Value} {cc : ByteArray}
theorem mt_marks (cx : mt_Cx G cX10_told 4 RX10 p s m args meth c) (hW : mj_WH G h H) {q mm : Nat} (hq : (mj_K h q).1 = 3) (hm : mj_R h q 2 = some mm) (kk : W p l e R s m args below meth c H locs cells slots Q (F0 m 32 la (.ref (mj_Bg G mm) :: r))) : W p l e R s m args below meth c H locs cells slots Q (F0 m 29 la (.ref (mj_Bg G q) :: r)) := by
  obtain ⟨hx, hb, -, -, hown, hts, -, hT, hE⟩ := cx
  have h9 := (hW.obj hq (by decide)).2.2
  have hl := mj_fl_at (o := 10) (x := 108) (a := 3) (b := 2) (n := 1) (by decide +kernel)
  simp only [mj_flok, Nat.succ_ne_self, if_false, Bool.and_eq_true, decide_eq_true_eq, show ¬ (1 = 0) by decide] at hl
  obtain ⟨⟨⟨hl, -⟩, -⟩, hC⟩ := hl
  have e1 : mj_rl (mj_Bg G) (mj_fv h 3 q 2) = .ref (mj_Bg G mm) := by
    unfold mj_fv
    rw [if_pos (by decide +kernel), hm]
    rfl
  refine va_getN (D := mj_D G) (own := mj_cn 10) (ci := 3) (C := (mj_kc 3).1) (T := (mj_kc 3).2.1) (N := (mj_kc 3).2.2) hx hb hts (mj_lay_in (by decide)) hown hT.1 (mj_one h9) 0 rfl (mj_kc_at (by decide)) 2 (by decide +kernel) (va_Nw.use rfl (hT.2.1 _ (mj_inN_n hl))) (fun y hy => by rw [← hC]; exact hy) (mj_fs_at (by decide +kernel)) dt_29 ?_
  rw [e1]
  exact kk
theorem mt_iald (hx : p.tables.exec = Jvm.exec) (hb : c.code = cc) (hT : mj_TB G s) (hE : mj_EX G s s.heap) (hW : mj_WH G h H) (hS : va_S (mj_A G) s.heap H locs) {k : Nat} {i : Int32} (hk : (mj_K h k).1 = 12) (hi : mj_inb h k i = true) (hd : decode cc pc = .ok (.iaload, 1))
    (kk : W p l e R s m args below meth c H locs cells slots Q (F0 m (pc + 1) la (.int (mj_I h k i.toNatClampNeg) :: r))) : W p l e R s m args below meth c H locs cells slots Q (F0 m pc la (.int i :: .ref (mj_Bg G k) :: r)) := by
  have hin := mj_inb_in hi
  by_cases h8 : k < 8
  · rw [mj_Bg_ext h8]
    by_cases h7 : k < 7
    · have e1 := hW.2.2.2.2.1 k h7
      rw [e1.1] at hin
      refine va_ti hx hb (hE.1 k h7).2 hS hin ?_ hd kk
      have hlt : i.toNatClampNeg < mj_sL k := Nat.not_le.mp fun q => hin (Or.inr q)
      rw [e1.2 _ hlt]
    · have e7 : k = 7 := by omega
      subst e7
      have e1 := hW.2.2.2.2.2
      rw [e1.1] at hin
      have hlt : i.toNatClampNeg < mj_len0 G := Nat.not_le.mp fun q => hin (Or.inr q)
      refine va_sld hx hb hE.2.1 ?_ (fun q => by have := hE.2.2; unfold mj_A at q; omega) hS hin hd ?_
      · obtain ⟨scr, h1, -⟩ := hE.2.1
        exact (Array.getElem?_eq_some_iff.mp h1).1
      · rw [← e1.2 _ hlt]
        exact kk
  · have h9 := (hW.arr (k := k) (by omega) (by omega) (by omega)).2
    rw [mj_cell12 hk] at h9
    exact va_iald hx hb hT.1 (mj_one h9) 0 0 rfl rfl hin hd kk
theorem mt_last (hx : p.tables.exec = Jvm.exec) (hb : c.code = cc) (hT : mj_TB G s) (hW : mj_WH G h H) (hS : va_S (mj_A G) s.heap H locs) {k : Nat} {i : Int32} {v : Int64} (hk : (mj_K h k).1 = 13) (hi : mj_inb h k i = true) (hd : decode cc pc = .ok (.lastore, 1))
    (kk : ∀ (H1 : Heap) (locs1 : List Loc), mj_WH G (mj_setJ h k i.toNatClampNeg v) H1 → va_S (mj_A G) s.heap H1 locs1 → W p l e R s m args below meth c H1 locs1 cells slots Q (F0 m (pc + 1) la r)) : W p l e R s m args below meth c H locs cells slots Q (F0 m pc la (.long v :: .int i :: .ref (mj_Bg G k) :: r)) := by
  have h8 : 8 ≤ k := Nat.not_lt.mp fun q => by have := hW.low q; omega
  have h9 := (hW.arr h8 (by omega) (by omega)).2
  rw [mj_cell13 hk] at h9
  have hin := mj_inb_in hi
  refine W.last hx hb h9 ((hT.1.2 1 _ rfl).1 _ (fun j => .long (mj_J h k j))) (fun q => by cases q) (by show ¬ (i < 0 ∨ (arrV _ _ _).slots.size ≤ _); rw [arrV_size]; exact hin) rfl rfl hd fun H1 e1 z oq => ?_
  refine kk H1 _ (hW.upd h8 rfl rfl (fun _ _ => rfl) (fun a ha => mj_u_other ha) (fun _ _ => rfl) z oq ?_) (hS.put z oq (mj_A_of h8))
  rw [mj_cell13 (h := mj_setJ h k i.toNatClampNeg v) hk]
  show H1[mj_Bg G k]? = some (vp_cell _ _)
  rw [e1]
  show some ((vp_cell _ (_, .inr (.inl _))).setSlot _ _) = _
  rw [vp_cell_l, vp_cell_l, arrV_store]
  congr 2
  funext q
  show updV _ _ _ q = .long (mj_u (mj_J h) k i.toNatClampNeg v k q)
  rw [mj_u_same]
  by_cases hq : q = i.toNatClampNeg
  · simp [updV, hq]
  · simp [updV, hq]
/-! told answers -/
theorem mt_bA {q mm : Nat} (cx : mt_Cx G cX10_told 4 RX10 p s m args meth c) (hW : mj_WH G h H) (hS : va_S (mj_A G) s.heap H locs) (hl : mj_L G la 4 [.ref x, .int j, .int w, mj_unset]) (hR : 2 ≤ R.frames ∧ 128 ≤ R.locals) (hf : cells ≤ R.cells ∧ slots ≤ R.slots)
    (hx10 : (mj_K h x).1 = 10) (hJ : mt_J h x j (.ref q)) (hw : ¬ (w < 0 ∨ 8 < w)) (hq : (mj_K h q).1 = 3) (hm : mj_R h q 2 = some mm) (hmk : (mj_K h mm).1 = 12) (hmi : mj_inb h mm w = true) :
    W p l e R s m args below meth c H locs cells slots (MQ below (mj_Qc G (some (.int (mj_I h mm w.toNatClampNeg))) h) args s cells slots (mj_A G)) (F0 m 0 la []) := by
  have cx0 := cx
  obtain ⟨hx, hb, hr, hml, hown, hts, hlocks, hT, hE⟩ := cx0
  refine lv_aload_n hx hb dt_0 rfl (hl.get (i := 0) (v := .ref x) rfl rfl) ?_
  refine lv_iload_n hx hb dt_1 rfl (hl.get (i := 1) (v := .int j) rfl rfl) ?_
  refine mt_job cx hW hS hl.1.1 hx10 hJ hR hf fun H1 locs1 hW1 hS1 => ?_
  show W p l e R s m args below meth c H1 locs1 cells slots _ (F0 m 5 la [.ref (mj_Bg G q)])
  refine lv_astore_n hx hb dt_5 rfl hl.1 (by decide) rfl (fun la' h' => ?_)
  have hl' : mj_L G la' 4 [.ref x, .int j, .int w, .ref q] := hl.set (v := .ref q) (i := 3) (Nat.le_of_ble_eq_true rfl) h'
  refine lv_aload_n hx hb dt_6 rfl (hl'.get (i := 3) (v := .ref q) rfl rfl) ?_
  refine lv_ifnull hx hb dt_7 ?_
  refine lv_iload_n hx hb dt_10 rfl (hl'.get (i := 2) (v := .int w) rfl rfl) ?_
  refine lv_if_lt hx hb dt_11 (tgt := 20) (by decide) (fun hc => absurd (Or.inl hc) hw) (fun _ => ?_)
  refine lv_iload_n hx hb dt_14 rfl (hl'.get (i := 2) (v := .int w) rfl rfl) ?_
  refine lv_bipush hx hb dt_15 (v := 8) (by decide) ?_
  refine lv_icmp_le hx hb dt_17 (tgt := 28) (by decide) (fun _ => ?_) (fun hc => absurd (Or.inr (Int32.not_le.mp hc)) hw)
  refine lv_aload_n hx hb dt_28 rfl (hl'.get (i := 3) (v := .ref q) rfl rfl) ?_
  refine mt_marks cx hW1 hq hm ?_
  refine lv_iload_n hx hb dt_32 rfl (hl'.get (i := 2) (v := .int w) rfl rfl) ?_
  refine mt_iald hx hb hT hE hW1 hS1 hmk hmi dt_33 ?_
  exact W.iret hx hb hr (fun t ht _ => ⟨rfl, by rw [ht]; exact hW1, hS1.F ht⟩) hS1.2.2 dt_34 hlocks
theorem mt_kn3 : ∀ v ∈ ([.ref x, .int j, .int w] : List Value), mj_kn v = true := fun v hv => by
  rcases List.mem_cons.mp hv with g | g
  · rw [g]; rfl
  · rcases List.mem_cons.mp g with g | g
    · rw [g]; rfl
    · rw [List.mem_singleton.mp g]; rfl
theorem mt_kn4 : ∀ v ∈ ([.ref x, .int j, .int w, .ref o] : List Value), mj_kn v = true := fun v hv => by
  rcases List.mem_cons.mp hv with g | g
  · rw [g]; rfl
  · rcases List.mem_cons.mp g with g | g
    · rw [g]; rfl
    · rcases List.mem_cons.mp g with g | g
      · rw [g]; rfl
      · rw [List.mem_singleton.mp g]; rfl
theorem mt_A {q mm : Nat} (hx10 : (mj_K h x).1 = 10) (hJ : mt_J h x j (.ref q)) (hw : ¬ (w < 0 ∨ 8 < w)) (hq : (mj_K h q).1 = 3) (hm : mj_R h q 2 = some mm) (hmk : (mj_K h mm).1 = 12) (hmi : mj_inb h mm w = true) :
    Met l yX10_told mt_ws (mj_rm 7 0 0) (mj_Pc G [.ref x, .int j, .int w] h) (mj_Qc G (some (.int (mj_I h mm w.toNatClampNeg))) h) 0 0 (mj_A G) := by
  refine Met.ofW (cc := cX10_told) (maxL := 4) (ret := some .int) (by decide) rfl ?_
  intro p e s m args below meth c s₁ B hml hv
  obtain ⟨rfl, hW, hT, hE⟩ := hv
  have hts := atoms_spec (ws := mt_ws) B.pre
  have hown : s.vm.findClass yX10_told.cls = some m.cls := findClass_of_methodNamed B.named
  have cx : mt_Cx G cX10_told 4 RX10 p s m (([.ref x, .int j, .int w] : List Value).map (mj_rl (mj_Bg G))).toArray meth c := ⟨B.exec, B.bytes, B.returns, hml, hown, fun w hw => hts w (List.mem_cons_of_mem _ hw), B.notSynchronized, hT, hE⟩
  rw [lg_entry_eq]
  exact mt_bA cx hW va_S.rf (mj_L.entry (n := 4) (vs := [.ref x, .int j, .int w]) (Nat.le_of_ble_eq_true rfl) mt_kn3) ⟨by show 2 ≤ 7 + 1; omega, by show 128 ≤ 64 * (7 + 1); omega⟩ ⟨Nat.zero_le _, Nat.zero_le _⟩ hx10 hJ hw hq hm hmk hmi
/-! told throws -/
def mt_XC (G : mj_G) (h : mj_H) : String → State → State → Prop := fun E st t => E = mj_E0 ∧ mj_WH G (mj_new h 19 6) t.heap ∧ va_F (mj_A G) st t
def mt_Pc (G : mj_G) (as : List Value) (h : mj_H) : Array Value → State → Prop := fun v U => mj_Pc G as h v U ∧ mj_ZZ G U U.heap
theorem mt_pre {as : List Value} (hT : mj_TB G s) (hE : mj_EX G s s.heap) (hZ : mj_ZZ G s s.heap) (hW : mj_WH G h H) (hS : va_S (mj_A G) s.heap H locs) : FrameBlind (mt_Pc G as h) ∧ ∀ U : State, U.heap = H → s.WarmedH U.vm → mt_Pc G as h (as.map (mj_rl (mj_Bg G))).toArray U := by
  have hp := mj_pre (as := as) hT hE hW hS
  refine ⟨fun a U g mk q => ⟨hp.1 a U g mk q.1, mj_ZZ.alike (U := U) (V := U.calling g mk a) rfl q.2⟩, fun U hU hW' => ⟨hp.2 U hU hW', ?_⟩⟩
  rw [hU]
  exact (hZ.moved hW').kept hS.2.1
theorem mt_thr (hl0 : l.stackTraces = false) (cx : mt_Cx G cX10_told 4 RX10 p s m args meth c) (hZ : mj_ZZ G s s.heap) (hex : ∀ x ∈ c.exceptionTable.toList, False) (hW : mj_WH G h H) (hS : va_S (mj_A G) s.heap H locs) (hsz : la.size = 4) (hR : 8 ≤ R.frames ∧ 512 ≤ R.locals ∧ 1 ≤ R.cells ∧ 6 ≤ R.slots) :
    W p l e R s m args below meth c H locs 0 0 (vx_MQ below (fun _ _ _ _ => False) (mt_XC G h) args s 1 6 (mj_A G)) (F0 m 20 la []) := by
  obtain ⟨hx, hb, hr, hml, hown, hts, hlocks, hT, hE⟩ := cx
  refine vx_throw0 (own := RX10) (cls := mj_E0) (names := ["java/lang/RuntimeException", "java/lang/Exception"]) (ik := 105) (ic := 107) (A := mj_A G) hx hb hl0 hown (by decide +kernel) (by decide +kernel) (hts _ tw_12) (hts _ tw_13) (tw_17 hts hZ.2.2) tw_15 hZ.1 hZ.2.1 hS (hsz.trans hml.symm) dt_20 dt_23 dt_24 dt_27 (fun x hx => (hex x hx).elim) (by show 2 + 3 < _; omega) (by show 0 + (13 * (2 + 1) + 42) ≤ _; omega) (by omega) (by omega) hlocks (fun t _ hz hk => ⟨rfl, hW.grow hz hk (Or.inl rfl), ?_⟩) hS.2.2 (Nat.le_refl _) (Nat.le_refl _)
  exact ⟨Nat.le_trans hS.1 (by omega), fun q g1 g2 => (hk q (Nat.lt_of_lt_of_le g1 hS.1)).trans (hS.2.1 q g1 g2)⟩
theorem mt_bB {v : Value} (hl0 : l.stackTraces = false) (cx : mt_Cx G cX10_told 4 RX10 p s m args meth c) (hZ : mj_ZZ G s s.heap) (hex : ∀ x ∈ c.exceptionTable.toList, False) (hW : mj_WH G h H) (hS : va_S (mj_A G) s.heap H locs) (hl : mj_L G la 4 [.ref x, .int j, .int w, mj_unset]) (hR : 8 ≤ R.frames ∧ 512 ≤ R.locals ∧ 1 ≤ R.cells ∧ 6 ≤ R.slots)
    (hx10 : (mj_K h x).1 = 10) (hJ : mt_J h x j v) (hv : v = .null ∨ ∃ q, v = .ref q ∧ (w < 0 ∨ 8 < w)) :
    W p l e R s m args below meth c H locs 0 0 (vx_MQ below (fun _ _ _ _ => False) (mt_XC G h) args s 1 6 (mj_A G)) (F0 m 0 la []) := by
  have cx0 := cx
  obtain ⟨hx, hb, hr, hml, hown, hts, hlocks, hT, hE⟩ := cx0
  refine lv_aload_n hx hb dt_0 rfl (hl.get (i := 0) (v := .ref x) rfl rfl) ?_
  refine lv_iload_n hx hb dt_1 rfl (hl.get (i := 1) (v := .int j) rfl rfl) ?_
  refine mt_job cx hW hS hl.1.1 hx10 hJ ⟨by omega, by omega⟩ ⟨Nat.zero_le _, Nat.zero_le _⟩ fun H1 locs1 hW1 hS1 => ?_
  rcases hv with rfl | ⟨q, rfl, hw⟩
  · show W p l e R s m args below meth c H1 locs1 0 0 _ (F0 m 5 la [.null])
    refine lv_astore_nN hx hb dt_5 rfl hl.1 (by decide) rfl (fun la' h' => ?_)
    have hl' : mj_L G la' 4 [.ref x, .int j, .int w, .null] := hl.set (v := .null) (i := 3) (Nat.le_of_ble_eq_true rfl) h'
    refine lv_aload_nN hx hb dt_6 rfl (hl'.get (i := 3) (v := .null) rfl rfl) ?_
    refine lv_ifnullN hx hb dt_7 (tgt := 20) (by decide) ?_
    exact mt_thr hl0 cx hZ hex hW1 hS1 hl'.1.1 hR
  · show W p l e R s m args below meth c H1 locs1 0 0 _ (F0 m 5 la [.ref (mj_Bg G q)])
    refine lv_astore_n hx hb dt_5 rfl hl.1 (by decide) rfl (fun la' h' => ?_)
    have hl' : mj_L G la' 4 [.ref x, .int j, .int w, .ref q] := hl.set (v := .ref q) (i := 3) (Nat.le_of_ble_eq_true rfl) h'
    refine lv_aload_n hx hb dt_6 rfl (hl'.get (i := 3) (v := .ref q) rfl rfl) ?_
    refine lv_ifnull hx hb dt_7 ?_
    refine lv_iload_n hx hb dt_10 rfl (hl'.get (i := 2) (v := .int w) rfl rfl) ?_
    refine lv_if_lt hx hb dt_11 (tgt := 20) (by decide) (fun _ => mt_thr hl0 cx hZ hex hW1 hS1 hl'.1.1 hR) (fun hc1 => ?_)
    refine lv_iload_n hx hb dt_14 rfl (hl'.get (i := 2) (v := .int w) rfl rfl) ?_
    refine lv_bipush hx hb dt_15 (v := 8) (by decide) ?_
    exact lv_icmp_le hx hb dt_17 (tgt := 28) (by decide) (fun hc => absurd hc (Int32.not_le.mpr (hw.resolve_left hc1))) (fun _ => mt_thr hl0 cx hZ hex hW1 hS1 hl'.1.1 hR)
theorem mt_B {v : Value} (hl0 : l.stackTraces = false) (hx10 : (mj_K h x).1 = 10) (hJ : mt_J h x j v) (hv : v = .null ∨ ∃ q, v = .ref q ∧ (w < 0 ∨ 8 < w)) :
    vx_Met l yX10_told mt_ws (mj_rm 7 1 6) (mt_Pc G [.ref x, .int j, .int w] h) (fun _ _ _ _ => False) (mt_XC G h) 1 6 (mj_A G) := by
  refine vx_ofW (cc := cX10_told) (maxL := 4) (ret := some .int) (by decide) rfl ?_
  intro p e s m args below meth c s₁ B hml hex hP
  obtain ⟨⟨rfl, hW, hT, hE⟩, hZ⟩ := hP
  have hts := atoms_spec (ws := mt_ws) B.pre
  have hown : s.vm.findClass yX10_told.cls = some m.cls := findClass_of_methodNamed B.named
  have cx : mt_Cx G cX10_told 4 RX10 p s m (([.ref x, .int j, .int w] : List Value).map (mj_rl (mj_Bg G))).toArray meth c := ⟨B.exec, B.bytes, B.returns, hml, hown, fun w hw => hts w (List.mem_cons_of_mem _ hw), B.notSynchronized, hT, hE⟩
  rw [lg_entry_eq]
  exact mt_bB hl0 cx hZ hex hW va_S.rf (mj_L.entry (n := 4) (vs := [.ref x, .int j, .int w]) (Nat.le_of_ble_eq_true rfl) mt_kn3) ⟨Nat.le_refl _, Nat.le_refl _, Nat.le_refl _, Nat.le_refl _⟩ hx10 hJ hv
end MU
