/-! A RUN of the small machine is a run of the JVM: calls by contract -/
theorem mj_mono_put {h : mj_H} {a b : Nat} {st : List Value} {z : List Value × mj_H} (hz : mj_putf h a b st = some z) : h.1 ≤ z.2.1 ∧ h.2.1 ≤ z.2.2.1 := by
  unfold mj_putf at hz
  repeat' (split at hz)
  all_goals first | (cases hz; exact ⟨Nat.le_refl _, Nat.le_refl _⟩) | cases hz
theorem mj_mono_ast {h : mj_H} {st : List Value} {z : List Value × mj_H} (hz : mj_ast h st = some z) : h.1 ≤ z.2.1 ∧ h.2.1 ≤ z.2.2.1 := by
  unfold mj_ast at hz
  repeat' (split at hz)
  all_goals first | (cases hz; exact ⟨Nat.le_refl _, Nat.le_refl _⟩) | cases hz
theorem mj_mono_zst {h : mj_H} {st : List Value} {z : List Value × mj_H} (hz : mj_zst h st = some z) : h.1 ≤ z.2.1 ∧ h.2.1 ≤ z.2.2.1 := by
  unfold mj_zst at hz
  repeat' (split at hz)
  all_goals first | (cases hz; exact ⟨Nat.le_refl _, Nat.le_refl _⟩) | cases hz
theorem mj_mono_lst {h : mj_H} {st : List Value} {z : List Value × mj_H} (hz : mj_lst h st = some z) : h.1 ≤ z.2.1 ∧ h.2.1 ≤ z.2.2.1 := by
  unfold mj_lst at hz
  repeat' (split at hz)
  all_goals first | (cases hz; exact ⟨Nat.le_refl _, Nat.le_refl _⟩) | cases hz
theorem mj_mono_rst {h : mj_H} {st : List Value} {z : List Value × mj_H} (hz : mj_rst h st = some z) : h.1 ≤ z.2.1 ∧ h.2.1 ≤ z.2.2.1 := by
  unfold mj_rst at hz
  repeat' (split at hz)
  all_goals first | (cases hz; exact ⟨Nat.le_refl _, Nat.le_refl _⟩) | cases hz
theorem mj_mono_nwa {h : mj_H} {kd : Nat} {st : List Value} {z : List Value × mj_H} (hz : mj_nwa h kd st = some z) : h.1 ≤ z.2.1 ∧ h.2.1 ≤ z.2.2.1 := by
  unfold mj_nwa at hz
  repeat' (split at hz)
  all_goals first | (cases hz; exact ⟨Nat.le_succ _, Nat.le_add_right _ _⟩) | cases hz
theorem mj_mono_cpy {h : mj_H} {st : List Value} {z : List Value × mj_H} (hz : mj_cpy h st = some z) : h.1 ≤ z.2.1 ∧ h.2.1 ≤ z.2.2.1 := by
  unfold mj_cpy at hz
  repeat' (split at hz)
  all_goals first | (cases hz; exact ⟨Nat.le_refl _, Nat.le_refl _⟩) | cases hz
theorem mj_mono_told {h : mj_H} {st : List Value} {z : List Value × mj_H} (hz : mj_told h st = some z) : h.1 ≤ z.2.1 ∧ h.2.1 ≤ z.2.2.1 := by
  unfold mj_told mj_toldQ mj_toldT at hz
  repeat' (split at hz)
  all_goals first | (cases hz; exact ⟨Nat.le_refl _, Nat.le_refl _⟩) | (cases hz; exact ⟨Nat.le_succ _, Nat.le_add_right _ _⟩) | cases hz
theorem mj_step_mono {i : Instr} {a b pc : Nat} {ls st : List Value} {h : mj_H} {x : mj_S} (hs : mj_step i a b pc ls st h = some x) : h.1 ≤ x.2.2.2.1 ∧ h.2.1 ≤ x.2.2.2.2.1 := by
  unfold mj_step at hs
  split at hs
  all_goals first
    | (cases hs; exact ⟨Nat.le_refl _, Nat.le_refl _⟩)
    | cases hs
    | (obtain ⟨z, hz, rfl⟩ := Option.map_eq_some_iff.mp hs; first | exact ⟨Nat.le_refl _, Nat.le_refl _⟩ | exact mj_mono_put hz | exact mj_mono_ast hz | exact mj_mono_zst hz | exact mj_mono_lst hz | exact mj_mono_rst hz | exact mj_mono_nwa hz)
    | (repeat' (split at hs)
       all_goals first
         | (cases hs; exact ⟨Nat.le_refl _, Nat.le_refl _⟩)
         | (cases hs; exact ⟨Nat.le_succ _, Nat.le_add_right _ _⟩)
         | cases hs
         | (obtain ⟨z, hz, rfl⟩ := Option.map_eq_some_iff.mp hs; first | exact ⟨Nat.le_refl _, Nat.le_refl _⟩ | exact mj_mono_cpy hz | exact mj_mono_told hz))
theorem mj_run_mono : ∀ (n d mid pc : Nat) (ls st : List Value) (h : mj_H) (r : Option Value) (h' : mj_H), mj_run n d mid pc ls st h = some (r, h') → h.1 ≤ h'.1 ∧ h.2.1 ≤ h'.2.1 := by
  intro n
  induction n with
  | zero => intro d mid pc ls st h r h' e; cases e
  | succ n ih =>
    intro d mid pc ls st h r h' e
    unfold mj_run at e
    split at e
    · cases e
    · split at e
      · cases e
        exact ⟨Nat.le_refl _, Nat.le_refl _⟩
      · split at e
        · split at e
          · cases e
          · split at e
            · cases e
            · rename_i r1 h1 e1
              have q1 := ih _ _ _ _ _ _ _ _ e1
              have q2 := ih _ _ _ _ _ _ _ _ e
              exact ⟨Nat.le_trans q1.1 q2.1, Nat.le_trans q1.2 q2.2⟩
        · split at e
          · cases e
          · rename_i pc1 ls1 st1 h1 e1
            have q1 := mj_step_mono e1
            have q2 := ih _ _ _ _ _ _ _ _ e
            exact ⟨Nat.le_trans q1.1 q2.1, Nat.le_trans q1.2 q2.2⟩
theorem mj_TB.moved {G : mj_G} {s U : State} (hW : s.WarmedH U.vm) (h : mj_TB G s) : mj_TB G U := by
  obtain ⟨h1, h2, h3, h4, h5, h6⟩ := h
  refine ⟨va_K.moved hW.alike h1, fun w hw => ?_, va_AO.moved hW.alike h3, va_AO.moved hW.alike h4, va_AO.moved hW.alike h5, va_AO.moved hW.alike h6⟩
  have hn := (List.mem_filter.mp hw).2
  have h0 := h2 w hw
  cases w <;> first | exact va_Nw.warmF hW h0 | exact va_Nw.warmM hW h0 | cases hn
theorem mj_TB.alike {G : mj_G} {U : State} {V : State} (hv : U.vm = V.vm) (h : mj_TB G U) : mj_TB G V := by
  obtain ⟨h1, h2, h3, h4, h5, h6⟩ := h
  have ha : U.vm.Alike V.vm := by rw [hv]; exact Vm.Alike.refl _
  refine ⟨va_K.moved ha h1, fun w hw => ?_, va_AO.moved ha h3, va_AO.moved ha h4, va_AO.moved ha h5, va_AO.moved ha h6⟩
  have hn := (List.mem_filter.mp hw).2
  have h0 := h2 w hw
  cases w <;> first | exact va_Nw.same rfl hv h0 | cases hn
theorem mj_EX.moved {G : mj_G} {s U : State} {H : Heap} (hv : s.vm.Alike U.vm) (h : mj_EX G s H) : mj_EX G U H :=
  ⟨fun k hk => ⟨(h.1 k hk).1.moved hv, (h.1 k hk).2.moved hv⟩, h.2.1.moved hv, h.2.2⟩
theorem mj_EX.kept {G : mj_G} {U : State} {H H1 : Heap} (h : mj_EX G U H) (hq : ∀ a : Nat, a < H.size → ¬ mj_A G a → H1[a]? = H[a]?) : mj_EX G U H1 := by
  refine ⟨fun k hk => ⟨(h.1 k hk).1.kept hq, (h.1 k hk).2.kept hq⟩, h.2.1.kept (hq _ ?_ ?_), h.2.2⟩
  · obtain ⟨scr, h1, -⟩ := h.2.1
    exact (Array.getElem?_eq_some_iff.mp h1).1
  · intro q
    have := h.2.2
    unfold mj_A at q
    omega
theorem mj_good {ws : List Cond} {w0 : Cond} (h0 : w0 ∈ mj_tb) (hw : ws = w0 :: mj_tb) : GoodIn mj_tb ws := by
  intro w h
  have hm : w ∈ mj_tb := by
    rw [hw] at h
    rcases List.mem_cons.mp h with h | h
    · rw [h]; exact h0
    · exact h
  exact ⟨hm, good_of_word (List.mem_filter.mp hm).2⟩
def mj_ws (a : Nat) : List Cond := Cond.code (mj_y a) (mj_b a) (mj_maxL a) (mj_r a) :: mj_tb
def mj_rm (d mc ms : Nat) : Room := { frames := d + 1, cells := mc, slots := ms, locals := 64 * (d + 1) }
def mj_Pc (G : mj_G) (as : List Value) (h : mj_H) : Array Value → State → Prop := fun v U => v = (as.map (mj_rl (mj_Bg G))).toArray ∧ mj_WH G h U.heap ∧ mj_TB G U ∧ mj_EX G U U.heap
def mj_Qc (G : mj_G) (r : Option Value) (h : mj_H) : Array Value → State → Outcome → State → Prop := fun _ st o t => o = .returned (r.map (mj_rl (mj_Bg G))) ∧ mj_WH G h t.heap ∧ va_F (mj_A G) st t
/-- what is known of a method that may be called -/
def mj_Mk (a : Nat) : Prop := Cond.code (mj_y a) (mj_b a) (mj_maxL a) (mj_r a) ∈ mj_tb ∧ Cond.initialized (mj_y a).cls ∈ mj_tb ∧ (mj_st a = true → Cond.static (mj_y a) ∈ mj_tb) ∧ (mj_st a = false → Cond.instanceMethod (mj_y a) ∈ mj_tb ∧ ((mj_y a).name = "<init>" ∨ Cond.selects (mj_y a).cls (mj_y a) (mj_y a) ∈ mj_tb)) ∧
  ((mj_y a).cls ≠ "java/lang/invoke/MethodHandle" ∧ (mj_y a).cls ≠ "java/lang/invoke/VarHandle" ∧ (parseMethodDescriptor (mj_y a).desc).map (fun d => d.parameters.length) = some (mj_np a)) ∧ plainName (mj_y a).cls = true ∧ (mj_y a).cls = mj_cn (mj_own a) ∧ mj_maxL a ≤ 40 ∧ mj_np a + (if mj_st a then 0 else 1) ≤ mj_maxL a ∧ ¬ a = 176
theorem mj_mos_lt : mj_mos.all (fun e => Nat.ble e.1 999) = true := by decide +kernel
theorem mj_small {a : Nat} (h : mj_mos.any (fun e => Nat.beq e.1 a) = true) : a < 1000 := by
  obtain ⟨e, he, hb⟩ := List.any_eq_true.mp h
  have ha : e.1 = a := Nat.eq_of_beq_eq_true hb
  have := Nat.le_of_ble_eq_true (List.all_eq_true.mp mj_mos_lt e he)
  omega
set_option maxRecDepth 100000 in
theorem mj_mos_in : mj_mos.all (fun e => !((mj_y e.1).name == "<init>") || decide (mj_r e.1 = none)) = true := by decide +kernel
theorem mj_init_none {a : Nat} (h : mj_mos.any (fun e => Nat.beq e.1 a) = true) (hn : (mj_y a).name = "<init>") : mj_r a = none := by
  obtain ⟨e, he, hb⟩ := List.any_eq_true.mp h
  have ha : e.1 = a := Nat.eq_of_beq_eq_true hb
  have := List.all_eq_true.mp mj_mos_in e he
  rw [ha, hn] at this
  simpa using this
theorem mj_mos_no : mj_mos.all (fun e => !(Nat.beq e.1 176)) = true := by decide +kernel
theorem mj_mk {a : Nat} (h : mj_mos.any (fun e => Nat.beq e.1 a) = true) : mj_Mk a := by
  obtain ⟨e, he, hb⟩ := List.any_eq_true.mp h
  have ha : e.1 = a := Nat.eq_of_beq_eq_true hb
  have hno : ¬ a = 176 := by
    have := List.all_eq_true.mp mj_mos_no e he
    rw [ha] at this
    intro q
    rw [q] at this
    cases this
  have hk := List.all_eq_true.mp mj_mos_ok e he
  subst ha
  simp only [mj_mok, Bool.and_eq_true, decide_eq_true_eq] at hk
  obtain ⟨⟨⟨⟨⟨⟨⟨⟨⟨k1, k2⟩, k3⟩, k4⟩, k5⟩, k6⟩, k7⟩, k8⟩, k9⟩, k10⟩ := hk
  refine ⟨mj_cat_tb hno k1, mj_at_tb k2, fun hs => ?_, fun hs => ?_, ⟨k4, k5, k6⟩, k7, k8, k9, k10, hno⟩
  · rw [hs] at k3
    exact mj_at_tb k3
  · rw [hs] at k3
    simp only [Bool.false_eq_true, if_false, Bool.and_eq_true, Bool.or_eq_true, beq_iff_eq] at k3
    exact ⟨mj_at_tb k3.1, k3.2.imp id mj_at_tb⟩
/-- the end of a method's body, by its return -/
theorem mj_end {G : mj_G} {p : Program} {l : Launch} {e : Env} {R : Room} {s : State} {m : MethodId} {args : Array Value} {below : List Frame} {meth : Method} {c : Code} {mid mc ms : Nat} {r : Option Value} {h' : mj_H} (hx : p.tables.exec = Jvm.exec) (hb : c.code = mj_b mid) (hr : meth.sig.returnType = mj_r mid) (hlocks : meth.locks = false)
    {pc : Nat} {i : Instr} {st : List Value} (hi : mj_ret (mj_r mid) i st = some r) (hd : decode (mj_b mid) pc = .ok (i, 1)) {H : Heap} {locs : List Loc} {la : Array Slot} (hW : mj_WH G h' H) (hS : va_S (mj_A G) s.heap H locs) :
    W p l e R s m args below meth c H locs mc ms (MQ below (mj_Qc G r h') args s mc ms (mj_A G)) (F0 m pc la (st.map (mj_rl (mj_Bg G)))) := by
  have hq : ∀ t : State, t.heap = H → s.WarmedH t.vm → mj_Qc G r h' args s (.returned (r.map (mj_rl (mj_Bg G)))) t := fun t ht _ => ⟨rfl, by rw [ht]; exact hW, hS.F ht⟩
  unfold mj_ret at hi
  split at hi
  · split at hi
    · rename_i hrt
      cases hi
      exact W.vret hx hb (hr.trans hrt) hq hS.2.2 hd
    · cases hi
  · split at hi
    · rename_i hrt
      cases hi
      exact W.iret hx hb (hr.trans hrt) hq hS.2.2 hd
    · rename_i v hrt
      split at hi
      · rename_i h01
        cases hi
        exact W.zret hx hb (hr.trans hrt) (by rcases h01 with h01 | h01 <;> rw [h01] <;> rfl) hq hS.2.2 hd
      · cases hi
    · cases hi
  · split at hi
    · rename_i t v hrt
      split at hi
      · rename_i hR
        cases hi
        exact W.aret hx hb (hr.trans hrt) (by cases t <;> first | exact Or.inl ⟨_, rfl⟩ | exact Or.inr ⟨_, rfl⟩ | cases hR) (Or.inr ⟨_, rfl⟩) hq hS.2.2 hd
      · cases hi
    · rename_i t hrt
      split at hi
      · rename_i hR
        cases hi
        exact W.aret hx hb (hr.trans hrt) (by cases t <;> first | exact Or.inl ⟨_, rfl⟩ | exact Or.inr ⟨_, rfl⟩ | cases hR) (Or.inl rfl) hq hS.2.2 hd
      · cases hi
    · cases hi
  · cases hi
/-- what a body's run must give -/
def mj_Go (G : mj_G) (l : Launch) (mid d pc : Nat) (ls st : List Value) (h : mj_H) (r : Option Value) (h' : mj_H) : Prop :=
  ∀ (p : Program) (e : Env) (R : Room) (s : State) (m : MethodId) (args : Array Value) (below : List Frame) (meth : Method) (c : Code) (Q : State → Prop) (n0 s0 : Nat), mj_Cx G mid p R s m args meth c → (mid = 176 → R = room_1 ∧ mj_ZZ G s s.heap) → d + 1 ≤ R.frames → 64 * (d + 1) ≤ R.locals → n0 ≤ h.1 → s0 ≤ h.2.1 → h'.1 - n0 ≤ R.cells → h'.2.1 - s0 ≤ R.slots →
    (∀ (pc' : Nat) (i : Instr) (st' : List Value), mj_ret (mj_r mid) i st' = some r → decode (mj_b mid) pc' = .ok (i, 1) → ∀ (H : Heap) (locs : List Loc) (la : Array Slot), mj_WH G h' H → va_S (mj_A G) s.heap H locs → W p l e R s m args below meth c H locs (h'.1 - n0) (h'.2.1 - s0) Q (F0 m pc' la (st'.map (mj_rl (mj_Bg G))))) →
    mj_N G p l e R s m args below meth c Q mid n0 s0 (pc, ls, st, h)
/-- a body's run gives the method's contract -/
theorem mj_met {G : mj_G} {l : Launch} {a d : Nat} {as : List Value} {h h1 : mj_H} {r : Option Value} (hk : mj_Mk a) (hal : as.length ≤ mj_maxL a) (hkn : ∀ v ∈ as, mj_kn v = true)
    (hg : mj_Go G l a d 0 (as ++ List.replicate (mj_maxL a - as.length) mj_unset) [] h r h1) : Met l (mj_y a) (mj_ws a) (mj_rm d (h1.1 - h.1) (h1.2.1 - h.2.1)) (mj_Pc G as h) (mj_Qc G r h1) (h1.1 - h.1) (h1.2.1 - h.2.1) (mj_A G) := by
  refine Met.ofW (cc := mj_b a) (maxL := mj_maxL a) (ret := mj_r a) hk.2.2.2.2.2.1 rfl ?_
  intro p e s m args below meth c s₁ B hml hv
  obtain ⟨rfl, hW, hT, hE⟩ := hv
  have hts := atoms_spec (ws := mj_ws a) B.pre
  have hown : s.vm.findClass (mj_y a).cls = some m.cls := findClass_of_methodNamed B.named
  have cx : mj_Cx G a p (headSpec (mj_ws a) (mj_rm d (h1.1 - h.1) (h1.2.1 - h.2.1))).room s m (as.map (mj_rl (mj_Bg G))).toArray meth c := ⟨B.exec, B.bytes, B.returns, hml, by rw [← hk.2.2.2.2.2.2.1]; exact hown, fun w hw => hts w (List.mem_cons_of_mem _ hw), B.notSynchronized, (name_of_methodNamed B.named B.method).1, hT, hE, (by show 1 ≤ d + 1; omega), (by show 64 ≤ 64 * (d + 1); omega)⟩
  have hN := hg p e _ s m _ below meth c (MQ below (mj_Qc G r h1) (as.map (mj_rl (mj_Bg G))).toArray s (h1.1 - h.1) (h1.2.1 - h.2.1) (mj_A G)) h.1 h.2.1 cx (fun q => absurd q hk.2.2.2.2.2.2.2.2.2) (Nat.le_refl _) (Nat.le_refl _) (Nat.le_refl _) (Nat.le_refl _) (Nat.le_refl _) (Nat.le_refl _)
    (fun pc' i st' hi hd H locs la hW' hS' => mj_end B.exec B.bytes B.returns B.notSynchronized hi hd hW' hS')
  rw [lg_entry_eq]
  have k := hN s.heap [] _ hW va_S.rf (mj_L.entry (n := mj_maxL a) hal hkn)
  replace k : W p l e (headSpec (mj_ws a) (mj_rm d (h1.1 - h.1) (h1.2.1 - h.2.1))).room s m (as.map (mj_rl (mj_Bg G))).toArray below meth c s.heap [] (h.1 - h.1) (h.2.1 - h.2.1) _ _ := k
  rw [Nat.sub_self, Nat.sub_self] at k
  exact k
section MJC
variable {G : mj_G} {p : Program} {l : Launch} {e : Env} {R : Room} {s : State} {m : MethodId} {args : Array Value} {below : List Frame} {meth : Method} {c : Code} {Q : State → Prop} {mid n0 s0 : Nat}
/-- behind a call -/
theorem mj_behind {pc : Nat} {ls rest : List Value} {stk : List Value} {h h1 : mj_H} {r : Option Value} {H : Heap} {locs : List Loc} {la : Array Slot} {av : Array Value}
    (hr : va_Run p l e R s m args below meth c H locs (h.1 - n0) (h.2.1 - s0) (h1.1 - h.1) (h1.2.1 - h.2.1) (F0 m pc la stk) (rest.map (mj_rl (mj_Bg G))) (mj_Qc G r h1 av) (mj_A G)) (hS : va_S (mj_A G) s.heap H locs) (hl : mj_L G la (mj_maxL mid) ls) (hn : n0 ≤ h.1) (hs0 : s0 ≤ h.2.1) (hm : h.1 ≤ h1.1 ∧ h.2.1 ≤ h1.2.1)
    (kk : mj_N G p l e R s m args below meth c Q mid n0 s0 (pc + 3, ls, r.toList ++ rest, h1)) : W p l e R s m args below meth c H locs (h.1 - n0) (h.2.1 - s0) Q (F0 m pc la stk) := by
  intro T hT X
  obtain ⟨v, st₀, t, T', L, h0, X', hL, e1, e2, ⟨ho, hWt, hF⟩, stp⟩ := hr T hT X
  cases ho
  rw [va_F, h0] at hF
  rw [show h.1 - n0 + (h1.1 - h.1) = h1.1 - n0 by omega, show h.2.1 - s0 + (h1.2.1 - h.2.1) = h1.2.1 - s0 by omega] at X'
  obtain ⟨t2, a1, b1⟩ := kk T'.heap (locs ++ L) la (by rw [e1]; exact hWt) ⟨Nat.le_trans hS.1 (by rw [e1]; exact hF.1), fun q g1 g2 => by rw [e1, hF.2 q (Nat.lt_of_lt_of_le g1 hS.1) g2]; exact hS.2.1 q g1 g2, fun q hq => by
      rcases List.mem_append.mp hq with g | g
      · exact hS.2.2 q g
      · exact hL q g⟩ hl T' rfl X'
  refine ⟨t2, stp t2 ?_, b1⟩
  have hstk : (r.map (mj_rl (mj_Bg G))).toList ++ rest.map (mj_rl (mj_Bg G)) = (r.toList ++ rest).map (mj_rl (mj_Bg G)) := by
    cases r <;> simp
  rw [hstk]
  exact a1
theorem mj_pre {as : List Value} {h : mj_H} {H : Heap} {locs : List Loc} (hT : mj_TB G s) (hE : mj_EX G s s.heap) (hW : mj_WH G h H) (hS : va_S (mj_A G) s.heap H locs) : FrameBlind (mj_Pc G as h) ∧ ∀ U : State, U.heap = H → s.WarmedH U.vm → mj_Pc G as h (as.map (mj_rl (mj_Bg G))).toArray U := by
  refine ⟨fun a U g mk q => ?_, fun U hU hW' => ⟨rfl, by rw [hU]; exact hW, hT.moved hW', by rw [hU]; exact (hE.moved hW'.alike).kept hS.2.1⟩⟩
  obtain ⟨q1, q2, q3, q4⟩ := q
  exact ⟨q1, q2, mj_TB.alike (U := U) (V := U.calling g mk a) rfl q3, mj_EX.moved (U := U.calling g mk a) (Vm.Alike.refl U.vm) q4⟩
theorem mj_call_some {i : Instr} {a b : Nat} {st : List Value} {h : mj_H} {as st' : List Value} (hc : mj_call i a b st h = some (as, st')) : b = 0 ∧
    ((∃ x k, i = .invokevirtual x ∧ (mj_K h k).1 = mj_own a ∧ mj_own a < 12 ∧ mj_st a = false ∧ st = st.take (mj_np a) ++ .ref k :: st' ∧ as = .ref k :: (st.take (mj_np a)).reverse ∧ (st.take (mj_np a)).length = mj_np a) ∨
     (∃ x k, i = .invokespecial x ∧ mj_st a = false ∧ st = st.take (mj_np a) ++ .ref k :: st' ∧ as = .ref k :: (st.take (mj_np a)).reverse ∧ (st.take (mj_np a)).length = mj_np a) ∨
     (∃ x, i = .invokestatic x ∧ mj_st a = true ∧ st = st.take (mj_np a) ++ st' ∧ as = (st.take (mj_np a)).reverse ∧ (st.take (mj_np a)).length = mj_np a)) ∧ mj_words st' ≤ 8 ∧ (∀ v ∈ as, mj_kn v = true) := by
  unfold mj_call at hc
  split at hc
  · rename_i hb
    refine ⟨hb, ?_⟩
    have hap := (List.take_append_drop (mj_np a) st).symm
    split at hc
    · rename_i x
      split at hc
      · rename_i k r hdr
        split at hc
        · rename_i hg
          cases hc
          obtain ⟨g1, g2, g3, g4, g5⟩ := hg
          rw [hdr] at hap
          have hlen : (st.take (mj_np a)).length = mj_np a := by
            rw [List.length_take]
            have h2 : (st.drop (mj_np a)).length = st'.length + 1 := by rw [hdr]; rfl
            rw [List.length_drop] at h2
            omega
          refine ⟨Or.inl ⟨x, k, rfl, g1, g2, g4, hap, rfl, hlen⟩, g3, fun v hv => ?_⟩
          rcases List.mem_cons.mp hv with hv | hv
          · rw [hv]; rfl
          · exact List.all_eq_true.mp g5 v (List.mem_reverse.mp hv)
        · cases hc
      · cases hc
    · rename_i x
      split at hc
      · rename_i k r hdr
        split at hc
        · rename_i hg
          cases hc
          obtain ⟨g3, g4, g5⟩ := hg
          rw [hdr] at hap
          have hlen : (st.take (mj_np a)).length = mj_np a := by
            rw [List.length_take]
            have h2 : (st.drop (mj_np a)).length = st'.length + 1 := by rw [hdr]; rfl
            rw [List.length_drop] at h2
            omega
          refine ⟨Or.inr (Or.inl ⟨x, k, rfl, g4, hap, rfl, hlen⟩), g3, fun v hv => ?_⟩
          rcases List.mem_cons.mp hv with hv | hv
          · rw [hv]; rfl
          · exact List.all_eq_true.mp g5 v (List.mem_reverse.mp hv)
        · cases hc
      · cases hc
    · rename_i x
      split at hc
      · rename_i hg
        cases hc
        obtain ⟨g2, g3, g4, g5⟩ := hg
        have hlen : (st.take (mj_np a)).length = mj_np a := by
          rw [List.length_take]
          omega
        exact ⟨Or.inr (Or.inr ⟨x, rfl, g4, hap, rfl, hlen⟩), g3, fun v hv => List.all_eq_true.mp g5 v (List.mem_reverse.mp hv)⟩
      · cases hc
    · cases hc
  · cases hc
set_option maxHeartbeats 4000000 in
/-- a call of one of the program's methods -/
theorem mj_simC (cx : mj_Cx G mid p R s m args meth c) {pc : Nat} {i : Instr} {a b d : Nat} {ls st as st' : List Value} {h h1 : mj_H} {r : Option Value} (hf : mj_fetch mid pc = some (i, a, b)) (hc : mj_call i a b st h = some (as, st'))
    (hg : mj_Go G l a d 0 (as ++ List.replicate (mj_maxL a - as.length) mj_unset) [] h r h1) (hfr : d + 2 ≤ R.frames) (hlo : 64 * (d + 2) ≤ R.locals) (hn : n0 ≤ h.1) (hs0 : s0 ≤ h.2.1) (hm : h.1 ≤ h1.1 ∧ h.2.1 ≤ h1.2.1) (hR1 : h1.1 - n0 ≤ R.cells) (hR2 : h1.2.1 - s0 ≤ R.slots)
    (kk : mj_N G p l e R s m args below meth c Q mid n0 s0 (pc + 3, ls, r.toList ++ st', h1)) : mj_N G p l e R s m args below meth c Q mid n0 s0 (pc, ls, st, h) := by
  intro H locs la hW hS hl
  show W p l e R s m args below meth c H locs (h.1 - n0) (h.2.1 - s0) Q (F0 m pc la (st.map (mj_rl (mj_Bg G))))
  replace hW : mj_WH G h H := hW
  replace hl : mj_L G la (mj_maxL mid) ls := hl
  have hI := mj_oki hf
  obtain ⟨hx, hb, hr, hml, hown, hts, hlocks, hnm, hT, hE, -, -⟩ := cx
  obtain ⟨hb0, hcase, hwd, hkn⟩ := mj_call_some hc
  subst hb0
  have hpre := mj_pre (as := as) hT hE hW hS
  have hfm : (h.1 - n0) + (h1.1 - h.1) ≤ R.cells ∧ (h.2.1 - s0) + (h1.2.1 - h.2.1) ≤ R.slots := ⟨by omega, by omega⟩
  have hw2 : 2 * (F0 m pc la (st.map (mj_rl (mj_Bg G)))).monitorRoom + ((st'.map (mj_rl (mj_Bg G))).map fun v => v.category).sum ≤ 8 := by
    show 2 * 0 + _ ≤ 8
    rw [mj_rl_words]
    omega
  rcases hcase with ⟨x, k, rfl, hk, h12, hst, hsp, has, hlen⟩ | ⟨x, k, rfl, hst, hsp, has, hlen⟩ | ⟨x, rfl, hst, hsp, has, hlen⟩
  · -- invokevirtual
    simp only [mj_okI, Bool.and_eq_true, Bool.or_eq_true] at hI
    obtain ⟨⟨⟨-, hlk⟩, hni⟩, hmo⟩ := hI
    have hkM := mj_mk hmo
    obtain ⟨m1, m2, m3, m4, m5, m6, m7, m8, m9, m10⟩ := hkM
    have hsel : Cond.selects (mj_y a).cls (mj_y a) (mj_y a) ∈ mj_tb := by
      rcases (m4 hst).2 with q | q
      · rw [q] at hni; cases hni
      · exact q
    have hal : as.length ≤ mj_maxL a := by
      rw [has, List.length_cons, List.length_reverse, hlen]
      rw [hst] at m9
      exact m9
    have hM := mj_met (mj_mk hmo) hal hkn hg
    have hR : (mj_rm d (h1.1 - h.1) (h1.2.1 - h.2.1)).frames + 1 ≤ R.frames ∧ 8 + (mj_maxL a + 11) + (mj_rm d (h1.1 - h.1) (h1.2.1 - h.2.1)).locals ≤ R.locals := ⟨by show d + 1 + 1 ≤ _; omega, by show 8 + (mj_maxL a + 11) + 64 * (d + 1) ≤ _; omega⟩
    have hkc : (mj_kc (mj_own a)).1 = (mj_y a).cls := by
      rw [m7]
      match mj_own a, h12 with
      | 0, _ => rfl | 1, _ => rfl | 2, _ => rfl | 3, _ => rfl | 4, _ => rfl | 5, _ => rfl | 6, _ => rfl | 7, _ => rfl | 8, _ => rfl | 9, _ => rfl | 10, _ => rfl | 11, _ => rfl
      | n + 12, h => exact absurd h (by omega)
    have hrecv : ∃ cell : Cell, H[mj_Bg G k]? = some cell ∧ cell.vm.isStatics = false ∧ s.vm.findClass (mj_y a).cls = some cell.cls := by
      have := va_recv (q0 := 0) hT.1 (mj_one (hW.obj hk h12).2.2) (mj_kc_at h12) rfl
      rw [hkc] at this
      exact this
    have hpv : PreV s H (mj_y a).cls (mj_Bg G k) (mj_Pc G as h) ((st.take (mj_np a)).reverse.map (mj_rl (mj_Bg G))) := by
      refine ⟨hpre.1, hrecv, fun U g1 g2 => ?_⟩
      have := hpre.2 U g1 g2
      rw [has] at this ⊢
      exact this
    have hstk : (F0 m pc la (st.map (mj_rl (mj_Bg G)))).stack = ((st.take (mj_np a)).reverse.map (mj_rl (mj_Bg G))).reverse ++ .ref (mj_Bg G k) :: st'.map (mj_rl (mj_Bg G)) := by
      show st.map (mj_rl (mj_Bg G)) = _
      rw [← List.map_reverse, List.reverse_reverse]
      conv => lhs; rw [hsp]
      rw [List.map_append]
      rfl
    have hln : ((st.take (mj_np a)).reverse.map (mj_rl (mj_Bg G))).length = mj_np a := by rw [List.length_map, List.length_reverse, hlen]
    rcases hlk with hlk | hlk
    · obtain ⟨pp, hok2⟩ := mj_ml_at hlk
      simp only [mj_mlok, mj_small hmo, if_true, Bool.and_eq_true] at hok2
      exact mj_behind (va_runV ⟨hx, hb, hml, hown, hts⟩ hM ⟨callB_of (mj_np a) hts (mj_good m1 rfl) rfl rfl rfl (hts _ m2) (hts _ (mj_at_tb hok2.1)) m5 hR, hts _ (m4 hst).1, hts _ hsel⟩ hpv rfl hln hl.1.1 hstk hw2 (mj_dec hf rfl) hfm) hS hl hn hs0 hm kk
    · obtain ⟨pp, hok2⟩ := mj_ml_at hlk
      simp only [mj_mlok, mj_small hmo, if_true, show ¬ (1 = 0) by decide, if_false, Bool.and_eq_true] at hok2
      exact mj_behind (va_runVN ⟨hx, hb, hml, hown, hts⟩ hM ⟨va_cnB (mj_np a) hts (mj_good m1 rfl) rfl rfl rfl (hT.2.1 _ (mj_atN_n hok2.1)) (hts _ m2) m5 hR, hts _ (m4 hst).1, hts _ hsel⟩ hpv rfl hln hl.1.1 hstk hw2 (mj_dec hf rfl) hfm) hS hl hn hs0 hm kk
  · -- invokespecial
    simp only [mj_okI, if_true, Bool.and_eq_true, Bool.or_eq_true, beq_iff_eq] at hI
    obtain ⟨⟨hlk, hni⟩, hmo⟩ := hI
    have hkM := mj_mk hmo
    obtain ⟨m1, m2, m3, m4, m5, m6, m7, m8, m9, m10⟩ := hkM
    have hal : as.length ≤ mj_maxL a := by
      rw [has, List.length_cons, List.length_reverse, hlen]
      rw [hst] at m9
      exact m9
    have hM := mj_met (mj_mk hmo) hal hkn hg
    have hR : (mj_rm d (h1.1 - h.1) (h1.2.1 - h.2.1)).frames + 1 ≤ R.frames ∧ 8 + (mj_maxL a + 11) + (mj_rm d (h1.1 - h.1) (h1.2.1 - h.2.1)).locals ≤ R.locals := ⟨by show d + 1 + 1 ≤ _; omega, by show 8 + (mj_maxL a + 11) + 64 * (d + 1) ≤ _; omega⟩
    have hpv : PreS s H (mj_Pc G as h) (.ref (mj_Bg G k) :: (st.take (mj_np a)).reverse.map (mj_rl (mj_Bg G))) := by
      refine ⟨hpre.1, fun U g1 g2 => ?_⟩
      have := hpre.2 U g1 g2
      rw [has] at this ⊢
      exact this
    have hstk : (F0 m pc la (st.map (mj_rl (mj_Bg G)))).stack = ((st.take (mj_np a)).reverse.map (mj_rl (mj_Bg G))).reverse ++ .ref (mj_Bg G k) :: st'.map (mj_rl (mj_Bg G)) := by
      show st.map (mj_rl (mj_Bg G)) = _
      rw [← List.map_reverse, List.reverse_reverse]
      conv => lhs; rw [hsp]
      rw [List.map_append]
      rfl
    have hln : ((st.take (mj_np a)).reverse.map (mj_rl (mj_Bg G))).length = mj_np a := by rw [List.length_map, List.length_reverse, hlen]
    have hnone : mj_r a = none := mj_init_none hmo hni
    rcases hlk with hlk | hlk
    · obtain ⟨pp, hok2⟩ := mj_ml_at hlk
      simp only [mj_mlok, mj_small hmo, if_true, Bool.and_eq_true] at hok2
      exact mj_behind (va_runI (maxL := mj_maxL a) (bytes := mj_b a) ⟨hx, hb, hml, hown, hts⟩ hM ⟨callB_of (ret := none) (mj_np a) hts (mj_good m1 rfl) (by unfold mj_ws; rw [hnone]) rfl rfl (hts _ m2) (hts _ (mj_at_tb hok2.1)) m5 hR, hni, hts _ (m4 hst).1⟩ hpv rfl hln hl.1.1 hstk hw2 (mj_dec hf rfl) hfm) hS hl hn hs0 hm kk
    · obtain ⟨pp, hok2⟩ := mj_ml_at hlk
      simp only [mj_mlok, mj_small hmo, if_true, show ¬ (1 = 0) by decide, if_false, Bool.and_eq_true] at hok2
      exact mj_behind (va_runIN (maxL := mj_maxL a) (bytes := mj_b a) ⟨hx, hb, hml, hown, hts⟩ hM ⟨va_cnB (ret := none) (mj_np a) hts (mj_good m1 rfl) (by unfold mj_ws; rw [hnone]) rfl rfl (hT.2.1 _ (mj_atN_n hok2.1)) (hts _ m2) m5 hR, hni, hts _ (m4 hst).1⟩ hpv rfl hln hl.1.1 hstk hw2 (mj_dec hf rfl) hfm) hS hl hn hs0 hm kk
  · -- invokestatic
    simp only [mj_okI, if_true, Bool.and_eq_true, Bool.or_eq_true] at hI
    obtain ⟨hlk, hmo⟩ := hI
    have hkM := mj_mk hmo
    obtain ⟨m1, m2, m3, m4, m5, m6, m7, m8, m9, m10⟩ := hkM
    have hal : as.length ≤ mj_maxL a := by
      rw [has, List.length_reverse, hlen]
      rw [hst] at m9
      exact m9
    have hM := mj_met (mj_mk hmo) hal hkn hg
    have hR : (mj_rm d (h1.1 - h.1) (h1.2.1 - h.2.1)).frames + 1 ≤ R.frames ∧ 8 + (mj_maxL a + 11) + (mj_rm d (h1.1 - h.1) (h1.2.1 - h.2.1)).locals ≤ R.locals := ⟨by show d + 1 + 1 ≤ _; omega, by show 8 + (mj_maxL a + 11) + 64 * (d + 1) ≤ _; omega⟩
    have hpv : PreS s H (mj_Pc G as h) ((st.take (mj_np a)).reverse.map (mj_rl (mj_Bg G))) := by
      refine ⟨hpre.1, fun U g1 g2 => ?_⟩
      have := hpre.2 U g1 g2
      rw [has] at this ⊢
      exact this
    have hstk : (F0 m pc la (st.map (mj_rl (mj_Bg G)))).stack = ((st.take (mj_np a)).reverse.map (mj_rl (mj_Bg G))).reverse ++ st'.map (mj_rl (mj_Bg G)) := by
      show st.map (mj_rl (mj_Bg G)) = _
      rw [← List.map_reverse, List.reverse_reverse]
      conv => lhs; rw [hsp]
      rw [List.map_append]
    have hln : ((st.take (mj_np a)).reverse.map (mj_rl (mj_Bg G))).length = mj_np a := by rw [List.length_map, List.length_reverse, hlen]
    rcases hlk with hlk | hlk
    · obtain ⟨pp, hok2⟩ := mj_ml_at hlk
      simp only [mj_mlok, mj_small hmo, if_true, Bool.and_eq_true] at hok2
      exact mj_behind (va_runS ⟨hx, hb, hml, hown, hts⟩ hM ⟨callB_of (mj_np a) hts (mj_good m1 rfl) rfl rfl rfl (hts _ m2) (hts _ (mj_at_tb hok2.1)) m5 hR, hts _ (m3 hst)⟩ hpv rfl hln hl.1.1 hstk hw2 (mj_dec hf rfl) hfm) hS hl hn hs0 hm kk
    · obtain ⟨pp, hok2⟩ := mj_ml_at hlk
      simp only [mj_mlok, mj_small hmo, if_true, show ¬ (1 = 0) by decide, if_false, Bool.and_eq_true] at hok2
      exact mj_behind (va_runSN ⟨hx, hb, hml, hown, hts⟩ hM ⟨va_cnB (mj_np a) hts (mj_good m1 rfl) rfl rfl rfl (hT.2.1 _ (mj_atN_n hok2.1)) (hts _ m2) m5 hR, hts _ (m3 hst), trivial⟩ hpv rfl hln hl.1.1 hstk hw2 (mj_dec hf rfl) hfm) hS hl hn hs0 hm kk
end MJC
/-- the law's own told, as one step: what is still owed of it -/
def mj_T6 (G : mj_G) (l : Launch) : Prop :=
  ∀ (p : Program) (e : Env) (s : State) (m : MethodId) (args : Array Value) (below : List Frame) (meth : Method) (c : Code) (Q : State → Prop) (n0 s0 pc a x0 : Nat) (ls st : List Value) (h : mj_H) (x : mj_S), mj_Cx G 176 p room_1 s m args meth c → mj_ZZ G s s.heap → mj_fetch 176 pc = some (.invokestatic x0, a, 6) → mj_step (.invokestatic x0) a 6 pc ls st h = some x → n0 ≤ h.1 → s0 ≤ h.2.1 → x.2.2.2.1 - n0 ≤ room_1.cells → x.2.2.2.2.1 - s0 ≤ room_1.slots →
    mj_N G p l e room_1 s m args below meth c Q 176 n0 s0 x → mj_N G p l e room_1 s m args below meth c Q 176 n0 s0 (pc, ls, st, h)
theorem mj_six {mid pc a x0 : Nat} (hf : mj_fetch mid pc = some (.invokestatic x0, a, 6)) : mid = 176 := by
  have hI := mj_oki hf
  simp only [mj_okI, show ¬ (6 = 0) by decide, if_false, if_true] at hI
  exact Nat.eq_of_beq_eq_true hI
/-- A RUN OF THE MACHINE IS A RUN OF THE JVM -/
theorem mj_callee {mid pc : Nat} {i : Instr} {a b : Nat} {st as st' : List Value} {h : mj_H} (hf : mj_fetch mid pc = some (i, a, b)) (hc : mj_call i a b st h = some (as, st')) : mj_Mk a := by
  have hI := mj_oki hf
  obtain ⟨hb0, hcase, -, -⟩ := mj_call_some hc
  subst hb0
  rcases hcase with ⟨x, k, rfl, -⟩ | ⟨x, k, rfl, -⟩ | ⟨x, rfl, -⟩
  · simp only [mj_okI, Bool.and_eq_true, Bool.or_eq_true] at hI
    exact mj_mk hI.2
  · simp only [mj_okI, if_true, Bool.and_eq_true, Bool.or_eq_true, beq_iff_eq] at hI
    exact mj_mk hI.2
  · simp only [mj_okI, if_true, Bool.and_eq_true, Bool.or_eq_true] at hI
    exact mj_mk hI.2
theorem mj_soundP (G : mj_G) (l : Launch) (P : Nat → Prop) (hP : P 176 → mj_T6 G l) (hM : ∀ a, mj_Mk a → P a) : ∀ (n d mid pc : Nat) (ls st : List Value) (h : mj_H) (r : Option Value) (h' : mj_H), P mid → mj_run n d mid pc ls st h = some (r, h') → mj_Go G l mid d pc ls st h r h' := by
  intro n
  induction n with
  | zero => intro d mid pc ls st h r h' _ e; cases e
  | succ n ih =>
    intro d mid pc ls st h r h' hp e0
    intro p e R s m args below meth c Q n0 s0 cx h176 hfr hlo hn hs0 hR1 hR2 kend
    unfold mj_run at e0
    split at e0
    · cases e0
    · rename_i i a b hf
      split at e0
      · rename_i r1 hret
        cases e0
        have hd : decode (mj_b mid) pc = .ok (i, 1) := by
          have hT : mj_isT i = false ∧ mj_len i = 1 := by
            unfold mj_ret at hret
            split at hret
            · exact ⟨rfl, rfl⟩
            · exact ⟨rfl, rfl⟩
            · exact ⟨rfl, rfl⟩
            · cases hret
          have := mj_dec hf hT.1
          rw [hT.2] at this
          exact this
        intro H locs la hW hS hl
        exact kend pc i st hret hd H locs la hW hS
      · split at e0
        · rename_i as st' hcall
          split at e0
          · cases e0
          · rename_i d'
            split at e0
            · cases e0
            · rename_i r1 h1 e1
              have hm1 := mj_run_mono _ _ _ _ _ _ _ _ _ e1
              have hm2 := mj_run_mono _ _ _ _ _ _ _ _ _ e0
              exact mj_simC cx hf hcall (ih _ _ _ _ _ _ _ _ (hM _ (mj_callee hf hcall)) e1) (by omega) (by omega) hn hs0 hm1 (by omega) (by omega) (ih _ _ _ _ _ _ _ _ hp e0 p e R s m args below meth c Q n0 s0 cx h176 hfr hlo (by omega) (by omega) hR1 hR2 kend)
        · split at e0
          · cases e0
          · rename_i pc1 ls1 st1 h1 e1
            have hm1 := mj_step_mono e1
            have hm2 := mj_run_mono _ _ _ _ _ _ _ _ _ e0
            have hm1a : h.1 ≤ h1.1 := hm1.1
            have hm1b : h.2.1 ≤ h1.2.1 := hm1.2
            have kk := ih _ _ _ _ _ _ _ _ hp e0 p e R s m args below meth c Q n0 s0 cx h176 hfr hlo (by omega) (by omega) hR1 hR2 kend
            by_cases hb6 : ∃ x0, i = .invokestatic x0 ∧ b = 6
            · obtain ⟨x0, g2, hb6⟩ := hb6
              subst g2
              subst hb6
              have g1 := mj_six hf
              subst g1
              obtain ⟨hR, hZ⟩ := h176 rfl
              subst hR
              exact hP hp p e s m args below meth c Q n0 s0 pc a x0 ls st h _ cx hZ hf e1 hn hs0 (by show h1.1 - n0 ≤ _; omega) (by show h1.2.1 - s0 ≤ _; omega) kk
            · exact mj_sim1 cx hf e1 (fun x0 g1 g2 => hb6 ⟨x0, g1, g2⟩) hn hs0 (by show h1.1 - n0 ≤ _; omega) (by show h1.2.1 - s0 ≤ _; omega) kk
theorem mj_sound (G : mj_G) (l : Launch) (hT6 : mj_T6 G l) (n d mid pc : Nat) (ls st : List Value) (h : mj_H) (r : Option Value) (h' : mj_H) (e : mj_run n d mid pc ls st h = some (r, h')) : mj_Go G l mid d pc ls st h r h' := mj_soundP G l (fun _ => True) (fun _ => hT6) (fun _ _ => trivial) n d mid pc ls st h r h' trivial e
theorem mj_sound0 (G : mj_G) (l : Launch) (n d mid pc : Nat) (ls st : List Value) (h : mj_H) (r : Option Value) (h' : mj_H) (hm : mid ≠ 176) (e : mj_run n d mid pc ls st h = some (r, h')) : mj_Go G l mid d pc ls st h r h' := mj_soundP G l (fun a => a ≠ 176) (fun q => absurd rfl q) (fun a q => q.2.2.2.2.2.2.2.2.2) n d mid pc ls st h r h' hm e
