/-! the law's own told, by contract; its step in the law -/
section MV
variable {G : mj_G} {p : Program} {l : Launch} {e : Env} {R : Room} {s : State} {m : MethodId} {args : Array Value} {below : List Frame} {meth : Method} {c : Code} {Q : State → Prop} {H : Heap} {locs : List Loc} {la : Array Slot} {cells slots pc : Nat} {h : mj_H} {x o : Nat} {j w : Int32} {r : List Value} {cc : ByteArray}
theorem ml_inb0 (h1 : 1 ≤ (mj_K h o).2) : mj_inb h o 0 = true := by
  unfold mj_inb
  rw [decide_eq_false (show ¬ (0 : Int32) < 0 by decide), decide_eq_false (show ¬ (mj_K h o).2 ≤ (0 : Int32).toNatClampNeg from fun q => by have q2 : (mj_K h o).2 ≤ 0 := q; omega)]
  rfl
theorem ml_recv (hT : mj_TB G s) (hW : mj_WH G h H) (hx : (mj_K h x).1 = 10) : ∃ cell : Cell, H[mj_Bg G x]? = some cell ∧ cell.vm.isStatics = false ∧ s.vm.findClass RX10 = some cell.cls := va_recv (q0 := 0) hT.1 (mj_one (hW.obj hx (by decide)).2.2) (mj_kc_at (kd := 10) (by decide)) rfl
theorem ml_bA {q mm : Nat} (cx : mt_Cx G cL_told 5 RL p s m args meth c) (hW : mj_WH G h H) (hS : va_S (mj_A G) s.heap H locs) (hl : mj_L G la 5 [.ref x, .int j, .int w, .ref o, mj_unset]) (hR : 10 ≤ R.frames ∧ 640 ≤ R.locals)
    (hx10 : (mj_K h x).1 = 10) (ho : (mj_K h o).1 = 13) (ho1 : 1 ≤ (mj_K h o).2) (hJ : mt_J h x j (.ref q)) (hw : ¬ (w < 0 ∨ 8 < w)) (hq : (mj_K h q).1 = 3) (hm : mj_R h q 2 = some mm) (hmk : (mj_K h mm).1 = 12) (hmi : mj_inb h mm w = true) :
    W p l e R s m args below meth c H locs 0 0 (MQ below (mj_Qc G (some (.int 0)) (mj_setJ h o 0 (mj_I h mm w.toNatClampNeg).toInt64)) args s 0 0 (mj_A G)) (F0 m 0 la []) := by
  obtain ⟨hx, hb, hr, hml, hown, hts, hlocks, hT, hE⟩ := cx
  refine lv_aload_n hx hb dl_0 rfl (hl.get (i := 3) (v := .ref o) rfl rfl) ?_
  refine lv_iconst hx hb dl_1 (v := 0) (by decide) ?_
  refine lv_aload_n hx hb dl_2 rfl (hl.get (i := 0) (v := .ref x) rfl rfl) ?_
  refine lv_iload_n hx hb dl_3 rfl (hl.get (i := 1) (v := .int j) rfl rfl) ?_
  refine lv_iload_n hx hb dl_4 rfl (hl.get (i := 2) (v := .int w) rfl rfl) ?_
  have hpre := mj_pre (as := [.ref x, .int j, .int w]) hT hE hW hS
  have hpv : PreV s H RX10 (mj_Bg G x) (mj_Pc G [.ref x, .int j, .int w] h) [.int j, .int w] := ⟨hpre.1, ml_recv hT hW hx10, fun U g1 g2 => hpre.2 U g1 g2⟩
  refine mt_behind (r := some (.int (mj_I h mm w.toNatClampNeg))) (rest := [.int 0, .ref (mj_Bg G o)]) (va_runV ⟨hx, hb, hml, hown, hts⟩ (mt_A hx10 hJ hw hq hm hmk hmi) ⟨callB_of 2 hts (mj_good tw_1 rfl) rfl rfl rfl (hts _ tw_7) (hts _ tw_4) ⟨by decide, by decide, by decide +kernel⟩ ⟨by show 7 + 1 + 1 ≤ _; omega, by show 8 + (4 + 11) + 64 * (7 + 1) ≤ _; omega⟩, hts _ tw_5, hts _ tw_6⟩ hpv rfl rfl hl.1.1 rfl (by show 2 * 0 + (1 + (1 + 0)) ≤ 8; omega) dl_5 ⟨Nat.zero_le _, Nat.zero_le _⟩) hS fun H1 locs1 hW1 hS1 => ?_
  show W p l e R s m args below meth c H1 locs1 0 0 _ (F0 m 8 la [.int (mj_I h mm w.toNatClampNeg), .int 0, .ref (mj_Bg G o)])
  refine lv_i2l hx hb dl_8 rfl ?_
  refine mt_last hx hb hT hW1 hS1 ho (ml_inb0 ho1) dl_9 fun H2 locs2 hW2 hS2 => ?_
  refine lv_goto hx hb dl_10 (tgt := 17) (by decide) ?_
  refine lv_iconst hx hb dl_17 (v := 0) (by decide) ?_
  exact W.iret hx hb hr (fun t ht _ => ⟨rfl, by rw [ht]; exact hW2, hS2.F ht⟩) hS2.2.2 dl_18 hlocks
theorem ml_A {q mm : Nat} (hx10 : (mj_K h x).1 = 10) (ho : (mj_K h o).1 = 13) (ho1 : 1 ≤ (mj_K h o).2) (hJ : mt_J h x j (.ref q)) (hw : ¬ (w < 0 ∨ 8 < w)) (hq : (mj_K h q).1 = 3) (hm : mj_R h q 2 = some mm) (hmk : (mj_K h mm).1 = 12) (hmi : mj_inb h mm w = true) :
    Met l yL_told ml_ws (mj_rm 9 0 0) (mj_Pc G [.ref x, .int j, .int w, .ref o] h) (mj_Qc G (some (.int 0)) (mj_setJ h o 0 (mj_I h mm w.toNatClampNeg).toInt64)) 0 0 (mj_A G) := by
  refine va_MetW (cc := cL_told) (maxL := 5) (ret := some .int) (hh := [(0, 10, 13, 13)]) (by decide) rfl ?_
  intro p e s m args below meth c s₁ B hml hP
  obtain ⟨rfl, hW, hT, hE⟩ := hP
  have hts := atoms_spec (ws := ml_ws) B.pre
  have hown : s.vm.findClass yL_told.cls = some m.cls := findClass_of_methodNamed B.named
  have cx : mt_Cx G cL_told 5 RL p s m (([.ref x, .int j, .int w, .ref o] : List Value).map (mj_rl (mj_Bg G))).toArray meth c := ⟨B.exec, B.bytes, B.returns, hml, hown, fun w hw => hts w (List.mem_cons_of_mem _ hw), B.notSynchronized, hT, hE⟩
  rw [lg_entry_eq]
  exact ml_bA cx hW va_S.rf (mj_L.entry (n := 5) (vs := [.ref x, .int j, .int w, .ref o]) (Nat.le_of_ble_eq_true rfl) mt_kn4) ⟨Nat.le_refl _, Nat.le_refl _⟩ hx10 ho ho1 hJ hw hq hm hmk hmi
theorem ml_bB {v : Value} (hl0 : l.stackTraces = false) (cx : mt_Cx G cL_told 5 RL p s m args meth c) (hZ : mj_ZZ G s s.heap) (htab : c.exceptionTable.toList = tableOf [(0, 10, 13, 13)]) (hW : mj_WH G h H) (hS : va_S (mj_A G) s.heap H locs) (hl : mj_L G la 5 [.ref x, .int j, .int w, .ref o, mj_unset]) (hR : 10 ≤ R.frames ∧ 640 ≤ R.locals ∧ 1 ≤ R.cells ∧ 6 ≤ R.slots)
    (hx10 : (mj_K h x).1 = 10) (hJ : mt_J h x j v) (hv : v = .null ∨ ∃ q, v = .ref q ∧ (w < 0 ∨ 8 < w)) :
    W p l e R s m args below meth c H locs 0 0 (MQ below (mj_Qc G (some (.int 1)) (mj_new h 19 6)) args s 1 6 (mj_A G)) (F0 m 0 la []) := by
  obtain ⟨hx, hb, hr, hml, hown, hts, hlocks, hT, hE⟩ := cx
  refine lv_aload_n hx hb dl_0 rfl (hl.get (i := 3) (v := .ref o) rfl rfl) ?_
  refine lv_iconst hx hb dl_1 (v := 0) (by decide) ?_
  refine lv_aload_n hx hb dl_2 rfl (hl.get (i := 0) (v := .ref x) rfl rfl) ?_
  refine lv_iload_n hx hb dl_3 rfl (hl.get (i := 1) (v := .int j) rfl rfl) ?_
  refine lv_iload_n hx hb dl_4 rfl (hl.get (i := 2) (v := .int w) rfl rfl) ?_
  have hpre := mt_pre (as := [.ref x, .int j, .int w]) hT hE hZ hW hS
  have hpv : PreV s H RX10 (mj_Bg G x) (mt_Pc G [.ref x, .int j, .int w] h) [.int j, .int w] := ⟨hpre.1, ml_recv hT hW hx10, fun U g1 g2 => hpre.2 U g1 g2⟩
  have hrun := vx_runV (p := p) (e := e) (below := below) (meth := meth) (locs := locs) (cells := 0) (slots := 0) (rest := [.int 0, .ref (mj_Bg G o)]) (g := F0 m 5 la [.int w, .int j, .ref (mj_Bg G x), .int 0, .ref (mj_Bg G o)]) ⟨hx, hb, hml, hown, hts⟩ (mt_B (G := G) hl0 hx10 hJ hv) ⟨callB_of (R := R) 2 hts (mj_good tw_1 rfl) rfl rfl rfl (hts _ tw_7) (hts _ tw_4) ⟨by decide, by decide, by decide +kernel⟩ ⟨by show 7 + 1 + 1 ≤ _; omega, by show 8 + (4 + 11) + 64 * (7 + 1) ≤ _; omega⟩, hts _ tw_5, hts _ tw_6⟩ hpv rfl rfl hl.1.1 rfl (by show 2 * 0 + (1 + (1 + 0)) ≤ 8; omega) dl_5 ⟨by omega, by omega⟩
  intro T hT0 X
  rcases hrun T hT0 X with ⟨v, st₀, t, T', L, h0, X', hL, e1, e2, hq, st⟩ | ⟨q, st₀, t, T', L, E, ce, h0, X', hL, e1, e2, hxc, hce, hcv, hcl, st⟩
  · exact hq.elim
  · obtain ⟨rfl, hWt, hF⟩ := hxc
    rw [va_F, h0] at hF
    have hW1 : mj_WH G (mj_new h 19 6) T'.heap := by rw [e1]; exact hWt
    have hS1 : va_S (mj_A G) s.heap T'.heap (locs ++ L) := ⟨Nat.le_trans hS.1 (by rw [e1]; exact hF.1), fun q g1 g2 => by rw [e1, hF.2 q (Nat.lt_of_lt_of_le g1 hS.1) g2]; exact hS.2.1 q g1 g2, fun q hq => by
      rcases List.mem_append.mp hq with g | g
      · exact hS.2.2 q g
      · exact hL q g⟩
    have K : vx_W p l e R s m args below meth c T'.heap (locs ++ L) (0 + 1) (0 + 6) (MQ below (mj_Qc G (some (.int 1)) (mj_new h 19 6)) args s 1 6 (mj_A G)) (F0 m 5 la [.int 0, .ref (mj_Bg G o)]) q := by
      refine vx_catch (own := RL) (name := mj_E0) (E := mj_E0) hown ⟨0, 10, 13, 13⟩ [] htab rfl (by decide) (hts _ tw_8) (va_Nw.use rfl (hZ.2.2 _ tw_16)) (by rw [e1]; exact hce) hcv hcl ?_
      refine lv_astore hx hb dl_13 hl.1 (by decide) rfl (fun la' h' => ?_)
      refine lv_iconst hx hb dl_15 (v := 1) (by decide) ?_
      exact W.iret hx hb hr (fun t ht _ => ⟨rfl, by rw [ht]; exact hW1, hS1.F ht⟩) hS1.2.2 dl_16 hlocks
    obtain ⟨t2, a1, b1⟩ := K T' rfl X'
    exact ⟨t2, st.trans a1, b1⟩
theorem ml_B {v : Value} (hl0 : l.stackTraces = false) (hx10 : (mj_K h x).1 = 10) (hJ : mt_J h x j v) (hv : v = .null ∨ ∃ q, v = .ref q ∧ (w < 0 ∨ 8 < w)) :
    Met l yL_told ml_ws (mj_rm 9 1 6) (mt_Pc G [.ref x, .int j, .int w, .ref o] h) (mj_Qc G (some (.int 1)) (mj_new h 19 6)) 1 6 (mj_A G) := by
  refine va_MetW (cc := cL_told) (maxL := 5) (ret := some .int) (hh := [(0, 10, 13, 13)]) (by decide) rfl ?_
  intro p e s m args below meth c s₁ B hml hP
  obtain ⟨⟨rfl, hW, hT, hE⟩, hZ⟩ := hP
  have hts := atoms_spec (ws := ml_ws) B.pre
  have hown : s.vm.findClass yL_told.cls = some m.cls := findClass_of_methodNamed B.named
  have htab := vx_table B (hts _ (List.mem_cons_self))
  have cx : mt_Cx G cL_told 5 RL p s m (([.ref x, .int j, .int w, .ref o] : List Value).map (mj_rl (mj_Bg G))).toArray meth c := ⟨B.exec, B.bytes, B.returns, hml, hown, fun w hw => hts w (List.mem_cons_of_mem _ hw), B.notSynchronized, hT, hE⟩
  rw [lg_entry_eq]
  exact ml_bB hl0 cx hZ htab hW va_S.rf (mj_L.entry (n := 5) (vs := [.ref x, .int j, .int w, .ref o]) (Nat.le_of_ble_eq_true rfl) mt_kn4) ⟨Nat.le_refl _, Nat.le_refl _, Nat.le_refl _, Nat.le_refl _⟩ hx10 hJ hv
end MV
/-! the one step of the law's code that calls it -/
def mt_is39 : Instr → Nat → Bool
  | .invokestatic x, b => !(Nat.beq b 6) || Nat.beq x 39
  | _, _ => true
theorem mt_c39 : (mj_cds.getD 176 []).all (fun e => mt_is39 e.2.1 e.2.2.2) = true := by decide +kernel
theorem mt_39 {pc a x0 : Nat} (hf : mj_fetch 176 pc = some (.invokestatic x0, a, 6)) : x0 = 39 := by
  have h := List.all_eq_true.mp mt_c39 _ (mj_look_mem hf)
  exact Nat.eq_of_beq_eq_true h
theorem mt_par : ∀ sig, parseMethodDescriptor yL_told.desc = some sig → 4 = sig.parameters.length := by
  have h : (parseMethodDescriptor yL_told.desc).map (fun d => d.parameters.length) = some 4 := by decide +kernel
  intro sig hs
  rw [hs] at h
  exact (Option.some.inj h).symm
theorem mj_t6 (G : mj_G) (l : Launch) (hl0 : l.stackTraces = false) : mj_T6 G l := by
  intro p e s m args below meth c Q n0 s0 pc a x0 ls st h y cx hZ hf hs hn hs0 hR1 hR2 kk
  intro H locs la hW hS hl
  show W p l e room_1 s m args below meth c H locs (h.1 - n0) (h.2.1 - s0) Q (F0 m pc la (st.map (mj_rl (mj_Bg G))))
  replace hW : mj_WH G h H := hW
  replace hl : mj_L G la (mj_maxL 176) ls := hl
  have h39 := mt_39 hf
  subst h39
  have hs' : (mj_told h st).map (fun z => (pc + 3, ls, z.1, z.2)) = some y := hs
  obtain ⟨z, hz, rfl⟩ := Option.map_eq_some_iff.mp hs'
  obtain ⟨o, w, j, x, r, rfl, g1, g2, g3, g4, hcase⟩ := mj_told_some hz
  obtain ⟨hx, hb, hr, hml, hown, hts, hlocks, hnm, hT, hE, -, -⟩ := cx
  have hw2 : 2 * (F0 m pc la ((.ref o :: .int w :: .int j :: .ref x :: r : List Value).map (mj_rl (mj_Bg G)))).monitorRoom + ((r.map (mj_rl (mj_Bg G))).map fun v => v.category).sum ≤ 8 := by
    show 2 * 0 + _ ≤ 8
    rw [mj_rl_words]
    omega
  have hfr : 9 + 1 + 1 ≤ room_1.frames ∧ 8 + (5 + 11) + 64 * (9 + 1) ≤ room_1.locals := by decide
  rcases hcase with ⟨v, hJ, hv, rfl⟩ | ⟨q, mm, hJ, hw, h3, hm, hmk, hmi, rfl⟩
  · have hp := mt_pre (as := [.ref x, .int j, .int w, .ref o]) hT hE hZ hW hS
    have q1 : h.1 + 1 - n0 ≤ room_1.cells := hR1
    have q2 : h.2.1 + 6 - s0 ≤ room_1.slots := hR2
    have hrun := vx_runSW (p := p) (e := e) (below := below) (meth := meth) (locs := locs) (cells := h.1 - n0) (slots := h.2.1 - s0) (hh := [(0, 10, 13, 13)]) (bytes := cL_told) (maxL := 5) (ret := some .int) (n := 4) (index := 39) (own := RL) (As := [.ref (mj_Bg G x), .int j, .int w, .ref (mj_Bg G o)]) (rest := r.map (mj_rl (mj_Bg G))) (g := F0 m pc la ((.ref o :: .int w :: .int j :: .ref x :: r : List Value).map (mj_rl (mj_Bg G)))) ⟨hx, hb, hml, hown, hts⟩ (ml_B (G := G) (o := o) hl0 g1 hJ hv) ⟨⟨rfl, rfl, hfr.1, hfr.2, pay_in hts (mj_good tw_2 rfl), List.mem_cons_self⟩, hts _ tw_2, hts _ tw_11, ⟨by decide, by decide⟩, mt_par, hts _ tw_9, hts _ tw_10⟩ ⟨hp.1, fun U a1 a2 => hp.2 U a1 a2⟩ rfl rfl hl.1.1 rfl hw2 (mj_dec hf rfl) ⟨by omega, by omega⟩
    refine mt_behind (r := some (.int 1)) hrun hS fun H1 locs1 k1 k2 => ?_
    rw [show h.1 - n0 + 1 = h.1 + 1 - n0 by omega, show h.2.1 - s0 + 6 = h.2.1 + 6 - s0 by omega]
    exact kk H1 locs1 la k1 k2 hl
  · have hp := mj_pre (as := [.ref x, .int j, .int w, .ref o]) hT hE hW hS
    have q1 : h.1 - n0 ≤ room_1.cells := hR1
    have q2 : h.2.1 - s0 ≤ room_1.slots := hR2
    have hrun := vx_runSW (p := p) (e := e) (below := below) (meth := meth) (locs := locs) (cells := h.1 - n0) (slots := h.2.1 - s0) (hh := [(0, 10, 13, 13)]) (bytes := cL_told) (maxL := 5) (ret := some .int) (n := 4) (index := 39) (own := RL) (As := [.ref (mj_Bg G x), .int j, .int w, .ref (mj_Bg G o)]) (rest := r.map (mj_rl (mj_Bg G))) (g := F0 m pc la ((.ref o :: .int w :: .int j :: .ref x :: r : List Value).map (mj_rl (mj_Bg G)))) ⟨hx, hb, hml, hown, hts⟩ (ml_A (G := G) (l := l) (o := o) g1 g2 g3 hJ hw h3 hm hmk hmi) ⟨⟨rfl, rfl, hfr.1, hfr.2, pay_in hts (mj_good tw_2 rfl), List.mem_cons_self⟩, hts _ tw_2, hts _ tw_11, ⟨by decide, by decide⟩, mt_par, hts _ tw_9, hts _ tw_10⟩ ⟨hp.1, fun U a1 a2 => hp.2 U a1 a2⟩ rfl rfl hl.1.1 rfl hw2 (mj_dec hf rfl) ⟨by omega, by omega⟩
    refine mt_behind (r := some (.int 0)) hrun hS fun H1 locs1 k1 k2 => ?_
    exact kk H1 locs1 la k1 k2 hl
