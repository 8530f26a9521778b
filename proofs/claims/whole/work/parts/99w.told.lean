/-! THE LAW'S OWN told: the program's told, which answers or throws, and its catch -/
theorem dt_0 : decode cX10_told 0 = .ok (.aload_n 0, 1) := by decide +kernel
theorem dt_1 : decode cX10_told 1 = .ok (.iload_n 1, 1) := by decide +kernel
theorem dt_2 : decode cX10_told 2 = .ok (.invokevirtual 101, 3) := by decide +kernel
theorem dt_5 : decode cX10_told 5 = .ok (.astore_n 3, 1) := by decide +kernel
theorem dt_6 : decode cX10_told 6 = .ok (.aload_n 3, 1) := by decide +kernel
theorem dt_7 : decode cX10_told 7 = .ok (.ifnull 13, 3) := by decide +kernel
theorem dt_10 : decode cX10_told 10 = .ok (.iload_n 2, 1) := by decide +kernel
theorem dt_11 : decode cX10_told 11 = .ok (.ifCond .lt 9, 3) := by decide +kernel
theorem dt_14 : decode cX10_told 14 = .ok (.iload_n 2, 1) := by decide +kernel
theorem dt_15 : decode cX10_told 15 = .ok (.bipush 8, 2) := by decide +kernel
theorem dt_17 : decode cX10_told 17 = .ok (.if_icmp .le 11, 3) := by decide +kernel
theorem dt_20 : decode cX10_told 20 = .ok (.new 105, 3) := by decide +kernel
theorem dt_23 : decode cX10_told 23 = .ok (.dup, 1) := by decide +kernel
theorem dt_24 : decode cX10_told 24 = .ok (.invokespecial 107, 3) := by decide +kernel
theorem dt_27 : decode cX10_told 27 = .ok (.athrow, 1) := by decide +kernel
theorem dt_28 : decode cX10_told 28 = .ok (.aload_n 3, 1) := by decide +kernel
theorem dt_29 : decode cX10_told 29 = .ok (.getfield 108, 3) := by decide +kernel
theorem dt_32 : decode cX10_told 32 = .ok (.iload_n 2, 1) := by decide +kernel
theorem dt_33 : decode cX10_told 33 = .ok (.iaload, 1) := by decide +kernel
theorem dt_34 : decode cX10_told 34 = .ok (.ireturn, 1) := by decide +kernel
theorem dl_0 : decode cL_told 0 = .ok (.aload_n 3, 1) := by decide +kernel
theorem dl_1 : decode cL_told 1 = .ok (.iconst 0, 1) := by decide +kernel
theorem dl_2 : decode cL_told 2 = .ok (.aload_n 0, 1) := by decide +kernel
theorem dl_3 : decode cL_told 3 = .ok (.iload_n 1, 1) := by decide +kernel
theorem dl_4 : decode cL_told 4 = .ok (.iload_n 2, 1) := by decide +kernel
theorem dl_5 : decode cL_told 5 = .ok (.invokevirtual 7, 3) := by decide +kernel
theorem dl_8 : decode cL_told 8 = .ok (.i2l, 1) := by decide +kernel
theorem dl_9 : decode cL_told 9 = .ok (.lastore, 1) := by decide +kernel
theorem dl_10 : decode cL_told 10 = .ok (.goto 7, 3) := by decide +kernel
theorem dl_13 : decode cL_told 13 = .ok (.astore 4, 2) := by decide +kernel
theorem dl_15 : decode cL_told 15 = .ok (.iconst 1, 1) := by decide +kernel
theorem dl_16 : decode cL_told 16 = .ok (.ireturn, 1) := by decide +kernel
theorem dl_17 : decode cL_told 17 = .ok (.iconst 0, 1) := by decide +kernel
theorem dl_18 : decode cL_told 18 = .ok (.ireturn, 1) := by decide +kernel
/-! words -/
theorem tw_1 : Cond.code yX10_told cX10_told 4 (some .int) ∈ mj_tb := mj_in_tb (by decide +kernel)
theorem tw_2 : Cond.codeWith yL_told cL_told 5 (some .int) [(0, 10, 13, 13)] ∈ mj_tb := mj_in_tb (by decide +kernel)
theorem tw_3 : Cond.methodLink RX10 101 (mj_y 100) ∈ mj_tb := mj_in_tb (by decide +kernel)
theorem tw_4 : Cond.methodLink RL 7 yX10_told ∈ mj_tb := mj_in_tb (by decide +kernel)
theorem tw_5 : Cond.instanceMethod yX10_told ∈ mj_tb := mj_in_tb (by decide +kernel)
theorem tw_6 : Cond.selects RX10 yX10_told yX10_told ∈ mj_tb := mj_in_tb (by decide +kernel)
theorem tw_7 : Cond.initialized RX10 ∈ mj_tb := mj_in_tb (by decide +kernel)
theorem tw_8 : Cond.classLink RL 13 mj_E0 ∈ mj_tb := mj_in_tb (by decide +kernel)
theorem tw_9 : Cond.methodLink RL 39 yL_told ∈ mj_tb := mj_in_tb (by decide +kernel)
theorem tw_10 : Cond.static yL_told ∈ mj_tb := mj_in_tb (by decide +kernel)
theorem tw_11 : Cond.initialized RL ∈ mj_tb := mj_in_tb (by decide +kernel)
theorem tw_12 : Cond.classLink RX10 105 mj_E0 ∈ mj_tb := mj_in_tb (by decide +kernel)
theorem tw_13 : Cond.initialized mj_E0 ∈ mj_tb := mj_in_tb (by decide +kernel)
def mt_at : List Cond := vx_at0 RX10 107 mj_E0 ["java/lang/RuntimeException", "java/lang/Exception"]
theorem tw_14 : mt_at.all (fun w => mj_in w || (decide (w ∈ lw_tbl) && mj_isX w)) = true := by decide +kernel
theorem tw_15 : ∀ w ∈ Cond.classLink RX10 105 mj_E0 :: Cond.initialized mj_E0 :: mt_at, vx_ot w = true := List.all_eq_true.mp (by decide +kernel)
theorem tw_16 : Cond.castable mj_E0 mj_E0 ∈ mj_xd := List.mem_filter.mpr ⟨of_decide_eq_true (by decide +kernel), rfl⟩
theorem tw_17 {args : Array Value} {s : State} (hts : ∀ w ∈ mj_tb, w.before args s = true) (hz : ∀ w ∈ mj_xd, va_Nw w s) : ∀ w ∈ mt_at, w.before args s = true := by
  intro w hw
  have h := List.all_eq_true.mp tw_14 w hw
  rw [Bool.or_eq_true] at h
  rcases h with h | h
  · exact hts w (mj_in_tb h)
  · rw [Bool.and_eq_true, decide_eq_true_eq] at h
    have h0 := hz w (List.mem_filter.mpr h)
    have hn := h.2
    cases w <;> first | exact va_Nw.use rfl h0 | cases hn
def mt_ws : List Cond := Cond.code yX10_told cX10_told 4 (some .int) :: mj_tb
def ml_ws : List Cond := Cond.codeWith yL_told cL_told 5 (some .int) [(0, 10, 13, 13)] :: mj_tb
/-! the program's jobAt, over any heap -/
set_option maxRecDepth 20000 in
theorem t_jobAt {h : mj_H} {x n jr : Nat} {j : Int32} (hx : mj_K h x = (10, n)) (h1 : ¬ j < 0) (h2 : j < mj_I h x 11) (hR : mj_R h x 1 = some jr) (hk : (mj_K h jr).1 = 15) (hi : mj_inb h jr j = true) : mxc 0 100 [.ref x, .int j] h (fun r h' => r = some (va_rf (mj_R h jr j.toNatClampNeg)) ∧ h' = h) := by
  show mx 0 100 0 [.ref x, .int j] [] h _
  refine x_iload_n f_100_0 rfl ?_
  refine x_if_lt (t := 21) f_100_1 (by decide) (fun c_1 => absurd c_1 h1) (fun c_1 => ?_)
  refine x_iload_n f_100_4 rfl ?_
  refine x_aload_n f_100_5 rfl ?_
  refine x_getI f_100_6 hx (by decide) ?_
  refine x_icmp_ge (t := 21) f_100_9 (by decide) (fun c_2 => absurd h2 (Int32.not_lt.mpr c_2)) (fun c_2 => ?_)
  refine x_aload_n f_100_12 rfl ?_
  refine x_getR f_100_13 hx (by decide) hR ?_
  refine x_iload_n f_100_16 rfl ?_
  refine mx_step (pc' := 18) (ls' := [.ref x, .int j]) (st' := [va_rf (mj_R h jr j.toNatClampNeg)]) (h' := h) f_100_17 rfl (mj_nocall fun _ => ⟨nofun, nofun, nofun⟩) (by simp [mj_step, mj_rld, hk, hi]) ?_
  refine x_goto (t := 22) f_100_18 (by decide) ?_
  cases mj_R h jr j.toNatClampNeg with
  | none => exact x_retN f_100_22 rfl rfl ⟨rfl, rfl⟩
  | some q => exact x_retA f_100_22 rfl rfl ⟨rfl, rfl⟩
set_option maxRecDepth 20000 in
theorem t_jobAt0 {h : mj_H} {x n : Nat} {j : Int32} (hx : mj_K h x = (10, n)) (hn : ¬ (¬ j < 0 ∧ j < mj_I h x 11)) : mxc 0 100 [.ref x, .int j] h (fun r h' => r = some .null ∧ h' = h) := by
  show mx 0 100 0 [.ref x, .int j] [] h _
  refine x_iload_n f_100_0 rfl ?_
  refine x_if_lt (t := 21) f_100_1 (by decide) (fun c_1 => ?_) (fun c_1 => ?_)
  · refine x_null f_100_21 ?_
    exact x_retN f_100_22 rfl rfl ⟨rfl, rfl⟩
  · refine x_iload_n f_100_4 rfl ?_
    refine x_aload_n f_100_5 rfl ?_
    refine x_getI f_100_6 hx (by decide) ?_
    refine x_icmp_ge (t := 21) f_100_9 (by decide) (fun c_2 => ?_) (fun c_2 => absurd ⟨c_1, Int32.not_le.mp c_2⟩ hn)
    refine x_null f_100_21 ?_
    exact x_retN f_100_22 rfl rfl ⟨rfl, rfl⟩
/-- what told's one step stands for -/
def mt_J (h : mj_H) (x : Nat) (j : Int32) (v : Value) : Prop := mxc 0 100 [.ref x, .int j] h (fun r h' => r = some v ∧ h' = h)
theorem mj_told_some {h : mj_H} {st : List Value} {z : List Value × mj_H} (hz : mj_told h st = some z) : ∃ (o : Nat) (w j : Int32) (x : Nat) (r : List Value), st = .ref o :: .int w :: .int j :: .ref x :: r ∧ (mj_K h x).1 = 10 ∧ (mj_K h o).1 = 13 ∧ 1 ≤ (mj_K h o).2 ∧ mj_words r ≤ 8 ∧
    ((∃ v, mt_J h x j v ∧ (v = .null ∨ ∃ q, v = .ref q ∧ (w < 0 ∨ 8 < w)) ∧ z = (.int 1 :: r, mj_new h 19 6)) ∨
     (∃ q mm, mt_J h x j (.ref q) ∧ ¬ (w < 0 ∨ 8 < w) ∧ (mj_K h q).1 = 3 ∧ mj_R h q 2 = some mm ∧ (mj_K h mm).1 = 12 ∧ mj_inb h mm w = true ∧ z = (.int 0 :: r, mj_setJ h o 0 (mj_I h mm w.toNatClampNeg).toInt64))) := by
  unfold mj_told at hz
  split at hz
  · rename_i o w j x r
    split at hz
    · rename_i hc
      obtain ⟨g1, g2, g3, g4⟩ := hc
      refine ⟨o, w, j, x, r, rfl, g1, g2, g3, g4, ?_⟩
      have hx : mj_K h x = (10, (mj_K h x).2) := by rw [← g1]
      split at hz
      · rename_i hj
        split at hz
        · rename_i jr hjr
          split at hz
          · rename_i hk
            have hJ := t_jobAt hx hj.1 hj.2 hjr hk.1 hk.2
            split at hz
            · rename_i q hq
              rw [hq] at hJ
              unfold mj_toldQ mj_toldT at hz
              split at hz
              · rename_i hw
                cases hz
                exact Or.inl ⟨.ref q, hJ, Or.inr ⟨q, rfl, hw⟩, rfl⟩
              · rename_i hw
                split at hz
                · rename_i h3
                  split at hz
                  · rename_i mm hmm
                    split at hz
                    · rename_i hmk
                      cases hz
                      exact Or.inr ⟨q, mm, hJ, hw, h3, hmm, hmk.1, hmk.2, rfl⟩
                    · cases hz
                  · cases hz
                · cases hz
            · rename_i hq
              rw [hq] at hJ
              unfold mj_toldT at hz
              cases hz
              exact Or.inl ⟨.null, hJ, Or.inl rfl, rfl⟩
          · cases hz
        · cases hz
      · rename_i hj
        unfold mj_toldT at hz
        cases hz
        exact Or.inl ⟨.null, t_jobAt0 hx hj, Or.inl rfl, rfl⟩
    · cases hz
  · cases hz
section MT
variable {G : mj_G} {p : Program} {l : Launch} {e : Env} {R : Room} {s : State} {m : MethodId} {args : Array Value} {below : List Frame} {meth : Method} {c : Code} {Q : State → Prop} {H : Heap} {locs : List Loc} {la : Array Slot} {cells slots pc : Nat} {h h1 : mj_H} {x : Nat} {j w : Int32}
/-- a body's own givens -/
def mt_Cx (G : mj_G) (cc : ByteArray) (nL : Nat) (own : String) (p : Program) (s : State) (m : MethodId) (args : Array Value) (meth : Method) (c : Code) : Prop :=
  p.tables.exec = Jvm.exec ∧ c.code = cc ∧ meth.sig.returnType = some .int ∧ c.maxLocals = nL ∧ s.vm.findClass own = some m.cls ∧ (∀ w ∈ mj_tb, w.before args s = true) ∧ meth.locks = false ∧ mj_TB G s ∧ mj_EX G s s.heap
theorem mt_behind {stk rest : List Value} {r : Option Value} {mc ms : Nat} {av : Array Value} (hr : va_Run p l e R s m args below meth c H locs cells slots mc ms (F0 m pc la stk) rest (mj_Qc G r h1 av) (mj_A G)) (hS : va_S (mj_A G) s.heap H locs)
    (kk : ∀ (H1 : Heap) (locs1 : List Loc), mj_WH G h1 H1 → va_S (mj_A G) s.heap H1 locs1 → W p l e R s m args below meth c H1 locs1 (cells + mc) (slots + ms) Q (F0 m (pc + 3) la ((r.map (mj_rl (mj_Bg G))).toList ++ rest))) : W p l e R s m args below meth c H locs cells slots Q (F0 m pc la stk) := by
  intro T hT X
  obtain ⟨v, st₀, t, T', L, h0, X', hL, e1, e2, ⟨ho, hWt, hF⟩, stp⟩ := hr T hT X
  cases ho
  rw [va_F, h0] at hF
  obtain ⟨t2, a1, b1⟩ := kk T'.heap (locs ++ L) (by rw [e1]; exact hWt) ⟨Nat.le_trans hS.1 (by rw [e1]; exact hF.1), fun q g1 g2 => by rw [e1, hF.2 q (Nat.lt_of_lt_of_le g1 hS.1) g2]; exact hS.2.1 q g1 g2, fun q hq => by
      rcases List.mem_append.mp hq with g | g
      · exact hS.2.2 q g
      · exact hL q g⟩ T' rfl X'
  exact ⟨t2, stp t2 a1, b1⟩
theorem mt_kn2 : ∀ v ∈ ([.ref x, .int j] : List Value), mj_kn v = true := fun v hv => by
  rcases List.mem_cons.mp hv with g | g
  · rw [g]; rfl
  · rw [List.mem_singleton.mp g]; rfl
/-- jobAt, called by told -/
theorem mt_job {v : Value} (cx : mt_Cx G cX10_told 4 RX10 p s m args meth c) (hW : mj_WH G h H) (hS : va_S (mj_A G) s.heap H locs) (hsz : la.size = 4) (hx : (mj_K h x).1 = 10) (hJ : mt_J h x j v) (hR : 2 ≤ R.frames ∧ 128 ≤ R.locals) (hf : cells ≤ R.cells ∧ slots ≤ R.slots)
    (kk : ∀ (H1 : Heap) (locs1 : List Loc), mj_WH G h H1 → va_S (mj_A G) s.heap H1 locs1 → W p l e R s m args below meth c H1 locs1 cells slots Q (F0 m 5 la [mj_rl (mj_Bg G) v])) : W p l e R s m args below meth c H locs cells slots Q (F0 m 2 la [.int j, .ref (mj_Bg G x)]) := by
  obtain ⟨hx0, hb, hr, hml, hown, hts, hlocks, hT, hE⟩ := cx
  obtain ⟨n, r, h', er, rfl, rfl⟩ := hJ
  have hg := mj_sound0 G l n 0 100 0 _ [] h' (some v) h' (by decide) er
  have hk : mj_Mk 100 := mj_mk (by decide +kernel)
  have hM := mj_met (l := l) (d := 0) (as := [.ref x, .int j]) hk (by show 2 ≤ mj_maxL 100; decide +kernel) mt_kn2 hg
  simp only [Nat.sub_self] at hM
  obtain ⟨m1, m2, m3, m4, m5, m6, m7, m8, m9, m10⟩ := hk
  have hrecv : ∃ cell : Cell, H[mj_Bg G x]? = some cell ∧ cell.vm.isStatics = false ∧ s.vm.findClass (mj_y 100).cls = some cell.cls := va_recv (q0 := 0) hT.1 (mj_one (hW.obj hx (by decide)).2.2) (mj_kc_at (kd := 10) (by decide)) rfl
  have hpre := mj_pre (as := [.ref x, .int j]) hT hE hW hS
  have hst : mj_st 100 = false := by decide +kernel
  have hsel : Cond.selects (mj_y 100).cls (mj_y 100) (mj_y 100) ∈ mj_tb := (m4 hst).2.resolve_left (by decide)
  have hpv : PreV s H (mj_y 100).cls (mj_Bg G x) (mj_Pc G [.ref x, .int j] h') [.int j] := ⟨hpre.1, hrecv, fun U g1 g2 => hpre.2 U g1 g2⟩
  have hln : ([.int j] : List Value).length = mj_np 100 := by show 1 = mj_np 100; decide +kernel
  have hmL : mj_maxL 100 = 2 := by decide +kernel
  refine mt_behind (r := some v) (rest := []) (va_runV ⟨hx0, hb, hml, hown, hts⟩ hM ⟨callB_of (mj_np 100) hts (mj_good m1 rfl) rfl rfl rfl (hts _ m2) (hts _ tw_3) m5 ⟨by show 0 + 1 + 1 ≤ _; omega, by show 8 + (mj_maxL 100 + 11) + 64 * (0 + 1) ≤ _; omega⟩, hts _ (m4 hst).1, hts _ hsel⟩ hpv rfl hln hsz rfl (by show 2 * 0 + 0 ≤ 8; omega) dt_2 ⟨by omega, by omega⟩) hS fun H1 locs1 g1 g2 => ?_
  exact kk H1 locs1 g1 g2
end MT
