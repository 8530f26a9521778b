/-! ONE STEP of the small machine is one step of the JVM -/
theorem mj_load_i {ls : List Value} {k : Nat} {v : Value} (h : mj_load ls k true = some v) : ∃ x, v = .int x ∧ ls[k]? = some (.int x) := by
  unfold mj_load at h
  split at h
  · rename_i x hx
    cases h
    exact ⟨x, rfl, hx⟩
  · simp at h
  · simp at h
  · cases h
theorem mj_load_a {ls : List Value} {k : Nat} {v : Value} (h : mj_load ls k false = some v) : (∃ q, v = .ref q ∧ ls[k]? = some (.ref q)) ∨ (v = .null ∧ ls[k]? = some .null) := by
  unfold mj_load at h
  split at h
  · simp at h
  · rename_i q hq
    simp at h
    exact Or.inl ⟨q, h.symm, hq⟩
  · rename_i hq
    simp at h
    exact Or.inr ⟨h.symm, hq⟩
  · cases h
theorem mj_bin_some {st z : List Value} {f : Int32 → Int32 → Option Int32} (h : mj_bin st f = some z) : ∃ x y w r, st = .int y :: .int x :: r ∧ f x y = some w ∧ z = .int w :: r := by
  unfold mj_bin at h
  split at h
  · rename_i y x r
    obtain ⟨w, hw, rfl⟩ := Option.map_eq_some_iff.mp h
    exact ⟨x, y, w, r, rfl, hw, rfl⟩
  · cases h
theorem mj_lbin_some {st z : List Value} {f : Int64 → Int64 → Value} (h : mj_lbin st f = some z) : ∃ x y r, st = .long y :: .long x :: r ∧ z = f x y :: r := by
  unfold mj_lbin at h
  split at h
  · rename_i y x r
    cases h
    exact ⟨x, y, r, rfl, rfl⟩
  · cases h
theorem mj_tgt_ok {pc : Nat} {off : Int} (h : decide (0 ≤ (pc : Int) + off) = true) : (pc : Int) + off = ((mj_tgt pc off : Nat) : Int) := by
  unfold mj_tgt
  rw [Int.toNat_of_nonneg (of_decide_eq_true h)]
def mj_N (G : mj_G) (p : Program) (l : Launch) (e : Env) (R : Room) (s : State) (m : MethodId) (args : Array Value) (below : List Frame) (meth : Method) (c : Code) (Q : State → Prop) (mid n0 s0 : Nat) (x : mj_S) : Prop :=
  ∀ (H : Heap) (locs : List Loc) (la : Array Slot), mj_WH G x.2.2.2 H → va_S (mj_A G) s.heap H locs → mj_L G la (mj_maxL mid) x.2.1 → W p l e R s m args below meth c H locs (x.2.2.2.1 - n0) (x.2.2.2.2.1 - s0) Q (F0 m x.1 la (x.2.2.1.map (mj_rl (mj_Bg G))))
section MJ1
variable {G : mj_G} {p : Program} {l : Launch} {e : Env} {R : Room} {s : State} {m : MethodId} {args : Array Value} {below : List Frame} {meth : Method} {c : Code} {Q : State → Prop} {mid n0 s0 : Nat}
set_option maxHeartbeats 4000000 in
theorem mj_sim1 (cx : mj_Cx G mid p R s m args meth c) {pc : Nat} {i : Instr} {a b : Nat} {ls st : List Value} {h : mj_H} {x : mj_S} (hf : mj_fetch mid pc = some (i, a, b)) (hs : mj_step i a b pc ls st h = some x) (h6 : ∀ x0, i = .invokestatic x0 → ¬ b = 6) (hn : n0 ≤ h.1) (hs0 : s0 ≤ h.2.1) (hR1 : x.2.2.2.1 - n0 ≤ R.cells) (hR2 : x.2.2.2.2.1 - s0 ≤ R.slots)
    (kk : mj_N G p l e R s m args below meth c Q mid n0 s0 x) : mj_N G p l e R s m args below meth c Q mid n0 s0 (pc, ls, st, h) := by
  intro H locs la hW hS hl
  show W p l e R s m args below meth c H locs (h.1 - n0) (h.2.1 - s0) Q (F0 m pc la (st.map (mj_rl (mj_Bg G))))
  replace hW : mj_WH G h H := hW
  replace hl : mj_L G la (mj_maxL mid) ls := hl
  have hI := mj_oki hf
  have cx0 := cx
  obtain ⟨hx, hb, hr, hml, hown, hts, hlocks, hnm, hT, hE, hfr, hlo⟩ := cx
  have hmla : c.maxLocals = la.size := by rw [hml]; exact hl.1.1.symm
  unfold mj_step at hs
  split at hs
  · -- iconst
    cases hs
    exact lv_iconst hx hb (mj_dec hf rfl) rfl (kk H locs la hW hS hl)
  · cases hs
    exact lv_bipush hx hb (mj_dec hf rfl) rfl (kk H locs la hW hS hl)
  · cases hs
    exact lv_sipush hx hb (mj_dec hf rfl) rfl (kk H locs la hW hS hl)
  · -- ldc
    cases hs
    have hc := List.all_eq_true.mp mj_cst_ok _ (mj_has_mem hI)
    exact lv_ldc hx hb hown (hts _ (mj_in_tb hc)) (mj_dec hf rfl) (kk H locs la hW hS hl)
  · cases hs
    exact lv_lconst hx hb (mj_dec hf rfl) rfl (kk H locs la hW hS hl)
  · cases hs
    exact lv_null hx hb (mj_dec hf rfl) (kk H locs la hW hS hl)
  · -- iload_n
    obtain ⟨v, hv, rfl⟩ := Option.map_eq_some_iff.mp hs
    obtain ⟨w, rfl, hw⟩ := mj_load_i hv
    exact lv_iload_n hx hb (mj_dec hf rfl) rfl (hl.get hw rfl) (kk H locs la hW hS hl)
  · obtain ⟨v, hv, rfl⟩ := Option.map_eq_some_iff.mp hs
    obtain ⟨w, rfl, hw⟩ := mj_load_i hv
    exact lv_iload hx hb (mj_dec hf rfl) (hl.get hw rfl) (kk H locs la hW hS hl)
  · -- aload_n
    obtain ⟨v, hv, rfl⟩ := Option.map_eq_some_iff.mp hs
    rcases mj_load_a hv with ⟨w, rfl, hw⟩ | ⟨rfl, hw⟩
    · exact lv_aload_n hx hb (mj_dec hf rfl) rfl (hl.get hw rfl) (kk H locs la hW hS hl)
    · exact lv_aload_nN hx hb (mj_dec hf rfl) rfl (hl.get hw rfl) (kk H locs la hW hS hl)
  · obtain ⟨v, hv, rfl⟩ := Option.map_eq_some_iff.mp hs
    rcases mj_load_a hv with ⟨w, rfl, hw⟩ | ⟨rfl, hw⟩
    · exact lv_aload hx hb (mj_dec hf rfl) (hl.get hw rfl) (kk H locs la hW hS hl)
    · exact lv_aloadN hx hb (mj_dec hf rfl) (hl.get hw rfl) (kk H locs la hW hS hl)
  · -- istore_n
    split at hs
    · split at hs
      · rename_i hlt
        cases hs
        exact lv_istore_n hx hb (mj_dec hf rfl) rfl hl.1 (by rw [← hl.2]; exact hlt) rfl (fun la' h' => kk H locs la' hW hS (hl.set hlt h'))
      · cases hs
    · cases hs
  · split at hs
    · split at hs
      · rename_i hlt
        cases hs
        exact lv_istore hx hb (mj_dec hf rfl) hl.1 (by rw [← hl.2]; exact hlt) rfl (fun la' h' => kk H locs la' hW hS (hl.set hlt h'))
      · cases hs
    · cases hs
  · -- astore_n
    split at hs
    · split at hs
      · rename_i hlt
        cases hs
        exact lv_astore_n hx hb (mj_dec hf rfl) rfl hl.1 (by rw [← hl.2]; exact hlt) rfl (fun la' h' => kk H locs la' hW hS (hl.set (v := .ref _) hlt h'))
      · cases hs
    · split at hs
      · rename_i hlt
        cases hs
        exact lv_astore_nN hx hb (mj_dec hf rfl) rfl hl.1 (by rw [← hl.2]; exact hlt) rfl (fun la' h' => kk H locs la' hW hS (hl.set (v := .null) hlt h'))
      · cases hs
    · cases hs
  · split at hs
    · split at hs
      · rename_i hlt
        cases hs
        exact lv_astore hx hb (mj_dec hf rfl) hl.1 (by rw [← hl.2]; exact hlt) rfl (fun la' h' => kk H locs la' hW hS (hl.set (v := .ref _) hlt h'))
      · cases hs
    · split at hs
      · rename_i hlt
        cases hs
        exact lv_astoreN hx hb (mj_dec hf rfl) hl.1 (by rw [← hl.2]; exact hlt) rfl (fun la' h' => kk H locs la' hW hS (hl.set (v := .null) hlt h'))
      · cases hs
    · cases hs
  · -- iinc
    split at hs
    · rename_i y hy
      cases hs
      have hlt := (List.getElem?_eq_some_iff.mp hy).1
      obtain ⟨k0, hk0⟩ := List.getElem?_of_mem (mj_lv_mem (B := mj_Bg G) (q := (_, .int y)).mpr ⟨.int y, hy, rfl, rfl⟩)
      exact lv_iinc hx hb (mj_dec hf rfl) hl.1 hk0 rfl (by rw [← hl.2]; exact hlt) rfl (fun la' h' => kk H locs la' hW hS (hl.set (v := .int _) hlt h'))
    · cases hs
  · obtain ⟨z, hz, rfl⟩ := Option.map_eq_some_iff.mp hs
    obtain ⟨u, v, w, r, rfl, hw, rfl⟩ := mj_bin_some hz
    cases hw
    exact lv_iadd hx hb (mj_dec hf rfl) (kk H locs la hW hS hl)
  · obtain ⟨z, hz, rfl⟩ := Option.map_eq_some_iff.mp hs
    obtain ⟨u, v, w, r, rfl, hw, rfl⟩ := mj_bin_some hz
    cases hw
    exact lv_isub hx hb (mj_dec hf rfl) (kk H locs la hW hS hl)
  · obtain ⟨z, hz, rfl⟩ := Option.map_eq_some_iff.mp hs
    obtain ⟨u, v, w, r, rfl, hw, rfl⟩ := mj_bin_some hz
    cases hw
    exact lv_imul hx hb (mj_dec hf rfl) (kk H locs la hW hS hl)
  · obtain ⟨z, hz, rfl⟩ := Option.map_eq_some_iff.mp hs
    obtain ⟨u, v, w, r, rfl, hw, rfl⟩ := mj_bin_some hz
    cases hw
    exact lv_iand hx hb (mj_dec hf rfl) (kk H locs la hW hS hl)
  · obtain ⟨z, hz, rfl⟩ := Option.map_eq_some_iff.mp hs
    obtain ⟨u, v, w, r, rfl, hw, rfl⟩ := mj_bin_some hz
    cases hw
    exact lv_ior hx hb (mj_dec hf rfl) (kk H locs la hW hS hl)
  · obtain ⟨z, hz, rfl⟩ := Option.map_eq_some_iff.mp hs
    obtain ⟨u, v, w, r, rfl, hw, rfl⟩ := mj_bin_some hz
    cases hw
    exact lv_ishl hx hb (mj_dec hf rfl) (kk H locs la hW hS hl)
  · obtain ⟨z, hz, rfl⟩ := Option.map_eq_some_iff.mp hs
    obtain ⟨u, v, w, r, rfl, hw, rfl⟩ := mj_bin_some hz
    cases hw
    exact lv_ishr hx hb (mj_dec hf rfl) (kk H locs la hW hS hl)
  · -- idiv
    obtain ⟨z, hz, rfl⟩ := Option.map_eq_some_iff.mp hs
    obtain ⟨u, v, w, r, rfl, hw, rfl⟩ := mj_bin_some hz
    split at hw
    · cases hw
    · rename_i h0
      cases hw
      exact lv_idiv hx hb (mj_dec hf rfl) h0 (kk H locs la hW hS hl)
  · obtain ⟨z, hz, rfl⟩ := Option.map_eq_some_iff.mp hs
    obtain ⟨u, v, w, r, rfl, hw, rfl⟩ := mj_bin_some hz
    split at hw
    · cases hw
    · rename_i h0
      cases hw
      exact lv_irem hx hb (mj_dec hf rfl) h0 (kk H locs la hW hS hl)
  · obtain ⟨z, hz, rfl⟩ := Option.map_eq_some_iff.mp hs
    obtain ⟨u, v, r, rfl, rfl⟩ := mj_lbin_some hz
    exact lv_land hx hb (mj_dec hf rfl) (kk H locs la hW hS hl)
  · obtain ⟨z, hz, rfl⟩ := Option.map_eq_some_iff.mp hs
    obtain ⟨u, v, r, rfl, rfl⟩ := mj_lbin_some hz
    exact lv_lor hx hb (mj_dec hf rfl) (kk H locs la hW hS hl)
  · obtain ⟨z, hz, rfl⟩ := Option.map_eq_some_iff.mp hs
    obtain ⟨u, v, r, rfl, rfl⟩ := mj_lbin_some hz
    exact W.lcmp hx hb (mj_dec hf rfl) (kk H locs la hW hS hl)
  · split at hs
    · cases hs
      exact lv_lshl hx hb (mj_dec hf rfl) rfl (kk H locs la hW hS hl)
    · cases hs
  · split at hs
    · cases hs
      exact lv_lshr hx hb (mj_dec hf rfl) rfl (kk H locs la hW hS hl)
    · cases hs
  · split at hs
    · cases hs
      exact lv_i2l hx hb (mj_dec hf rfl) rfl (kk H locs la hW hS hl)
    · cases hs
  · -- dup
    split at hs
    · split at hs
      · rename_i hc
        cases hs
        exact lv_dup hx hb (mj_dec hf rfl) (by rw [mj_rl_cat]; exact hc) (kk H locs la hW hS hl)
      · cases hs
    · cases hs
  · split at hs
    · split at hs
      · rename_i hc
        cases hs
        exact lv_pop hx hb (mj_dec hf rfl) (by rw [mj_rl_cat]; exact hc) (kk H locs la hW hS hl)
      · cases hs
    · cases hs
  · split at hs
    · split at hs
      · rename_i hc
        cases hs
        exact lv_dup2_11 hx hb (mj_dec hf rfl) (by rw [mj_rl_cat]; exact hc.1) (by rw [mj_rl_cat]; exact hc.2) (kk H locs la hW hS hl)
      · cases hs
    · cases hs
  · -- goto
    cases hs
    exact lv_goto hx hb (mj_dec hf rfl) (mj_tgt_ok hI) (kk H locs la hW hS hl)
  · -- if_icmp
    rename_i cnd off
    split at hs
    · rename_i v u r
      cases hs
      have k2 : W p l e R s m args below meth c H locs (h.1 - n0) (h.2.1 - s0) Q (F0 m (bif mj_icmp (.if_icmp cnd off) u v then mj_tgt pc off else pc + 3) la (r.map (mj_rl (mj_Bg G)))) := kk H locs la hW hS hl
      have ht := mj_tgt_ok hI
      cases cnd
      · refine lv_icmp_eq hx hb (mj_dec hf rfl) ht (fun hc => ?_) (fun hc => ?_)
        · rw [show mj_icmp (.if_icmp .eq off) u v = true from decide_eq_true hc] at k2; exact k2
        · rw [show mj_icmp (.if_icmp .eq off) u v = false from decide_eq_false hc] at k2; exact k2
      · refine lv_icmp_ne hx hb (mj_dec hf rfl) ht (fun hc => ?_) (fun hc => ?_)
        · rw [show mj_icmp (.if_icmp .ne off) u v = true from decide_eq_true hc] at k2; exact k2
        · rw [show mj_icmp (.if_icmp .ne off) u v = false from decide_eq_false (fun q => q hc)] at k2; exact k2
      · refine lv_icmp_lt hx hb (mj_dec hf rfl) ht (fun hc => ?_) (fun hc => ?_)
        · rw [show mj_icmp (.if_icmp .lt off) u v = true from decide_eq_true hc] at k2; exact k2
        · rw [show mj_icmp (.if_icmp .lt off) u v = false from decide_eq_false hc] at k2; exact k2
      · refine lv_icmp_ge hx hb (mj_dec hf rfl) ht (fun hc => ?_) (fun hc => ?_)
        · rw [show mj_icmp (.if_icmp .ge off) u v = true from decide_eq_true hc] at k2; exact k2
        · rw [show mj_icmp (.if_icmp .ge off) u v = false from decide_eq_false hc] at k2; exact k2
      · refine lv_icmp_gt hx hb (mj_dec hf rfl) ht (fun hc => ?_) (fun hc => ?_)
        · rw [show mj_icmp (.if_icmp .gt off) u v = true from decide_eq_true hc] at k2; exact k2
        · rw [show mj_icmp (.if_icmp .gt off) u v = false from decide_eq_false hc] at k2; exact k2
      · refine lv_icmp_le hx hb (mj_dec hf rfl) ht (fun hc => ?_) (fun hc => ?_)
        · rw [show mj_icmp (.if_icmp .le off) u v = true from decide_eq_true hc] at k2; exact k2
        · rw [show mj_icmp (.if_icmp .le off) u v = false from decide_eq_false hc] at k2; exact k2
    · cases hs
  · -- ifCond
    rename_i cnd off
    split at hs
    · rename_i u r
      cases hs
      have k2 : W p l e R s m args below meth c H locs (h.1 - n0) (h.2.1 - s0) Q (F0 m (bif mj_icmp (.ifCond cnd off) u 0 then mj_tgt pc off else pc + 3) la (r.map (mj_rl (mj_Bg G)))) := kk H locs la hW hS hl
      have ht := mj_tgt_ok hI
      cases cnd
      · refine lv_if_eq hx hb (mj_dec hf rfl) ht (fun hc => ?_) (fun hc => ?_)
        · rw [show mj_icmp (.ifCond .eq off) u 0 = true from decide_eq_true hc] at k2; exact k2
        · rw [show mj_icmp (.ifCond .eq off) u 0 = false from decide_eq_false hc] at k2; exact k2
      · refine lv_if_ne hx hb (mj_dec hf rfl) ht (fun hc => ?_) (fun hc => ?_)
        · rw [show mj_icmp (.ifCond .ne off) u 0 = true from decide_eq_true hc] at k2; exact k2
        · rw [show mj_icmp (.ifCond .ne off) u 0 = false from decide_eq_false (fun q => q hc)] at k2; exact k2
      · refine lv_if_lt hx hb (mj_dec hf rfl) ht (fun hc => ?_) (fun hc => ?_)
        · rw [show mj_icmp (.ifCond .lt off) u 0 = true from decide_eq_true hc] at k2; exact k2
        · rw [show mj_icmp (.ifCond .lt off) u 0 = false from decide_eq_false hc] at k2; exact k2
      · refine lv_if_ge hx hb (mj_dec hf rfl) ht (fun hc => ?_) (fun hc => ?_)
        · rw [show mj_icmp (.ifCond .ge off) u 0 = true from decide_eq_true hc] at k2; exact k2
        · rw [show mj_icmp (.ifCond .ge off) u 0 = false from decide_eq_false hc] at k2; exact k2
      · refine lv_if_gt hx hb (mj_dec hf rfl) ht (fun hc => ?_) (fun hc => ?_)
        · rw [show mj_icmp (.ifCond .gt off) u 0 = true from decide_eq_true hc] at k2; exact k2
        · rw [show mj_icmp (.ifCond .gt off) u 0 = false from decide_eq_false hc] at k2; exact k2
      · refine lv_if_le hx hb (mj_dec hf rfl) ht (fun hc => ?_) (fun hc => ?_)
        · rw [show mj_icmp (.ifCond .le off) u 0 = true from decide_eq_true hc] at k2; exact k2
        · rw [show mj_icmp (.ifCond .le off) u 0 = false from decide_eq_false hc] at k2; exact k2
    · cases hs
  · -- ifnull
    split at hs
    · cases hs
      exact lv_ifnull hx hb (mj_dec hf rfl) (kk H locs la hW hS hl)
    · cases hs
      exact lv_ifnullN hx hb (mj_dec hf rfl) (mj_tgt_ok hI) (kk H locs la hW hS hl)
    · cases hs
  · split at hs
    · cases hs
      exact lv_ifnonnull hx hb (mj_dec hf rfl) (mj_tgt_ok hI) (kk H locs la hW hS hl)
    · cases hs
      exact lv_ifnonnullN hx hb (mj_dec hf rfl) (kk H locs la hW hS hl)
    · cases hs
  · -- if_acmp ne
    rename_i off
    split at hs
    · rename_i v u r
      split at hs
      · rename_i h88
        cases hs
        have k2 : W p l e R s m args below meth c H locs (h.1 - n0) (h.2.1 - s0) Q (F0 m (if u = v then pc + 3 else mj_tgt pc off) la (r.map (mj_rl (mj_Bg G)))) := kk H locs la hW hS hl
        refine lv_acmp_ne (rx := some (mj_Bg G u)) (ry := some (mj_Bg G v)) hx hb (mj_dec hf rfl) (mj_tgt_ok hI) (fun hc => ?_) (fun hc => ?_)
        · rw [if_neg (fun q => hc (by rw [q]))] at k2; exact k2
        · rw [if_pos (mj_Bg_inj h88.1 h88.2 (Option.some.inj hc))] at k2; exact k2
      · cases hs
    · rename_i v r
      cases hs
      refine lv_acmp_ne (rx := none) (ry := some (mj_Bg G v)) hx hb (mj_dec hf rfl) (mj_tgt_ok hI) (fun hc => ?_) (fun hc => by cases hc)
      exact kk H locs la hW hS hl
    · cases hs
  · -- tableswitch
    rename_i dflt lo hi offs
    simp only [mj_okI, Bool.and_eq_true] at hI
    obtain ⟨len, hd⟩ := mj_decT hf
    split at hs
    · rename_i u r
      split at hs
      · rename_i ho
        cases hs
        exact lv_tableOut hx hb hd ho (mj_tgt_ok hI.1) (kk H locs la hW hS hl)
      · rename_i ho
        obtain ⟨off, hoff, rfl⟩ := Option.map_eq_some_iff.mp hs
        have hm : off ∈ offs.toList := by
          rw [← Array.getElem?_toList] at hoff
          exact List.mem_of_getElem? hoff
        exact lv_tableIn hx hb hd (fun q => ho (Or.inl q)) (fun q => ho (Or.inr q)) hoff (mj_tgt_ok (List.all_eq_true.mp hI.2 off hm)) (kk H locs la hW hS hl)
    · cases hs
  · -- getfield
    obtain ⟨z, hz, rfl⟩ := Option.map_eq_some_iff.mp hs
    unfold mj_getf at hz
    split at hz
    · split at hz
      · rename_i hc
        cases hz
        exact mj_q_get cx0 hW hc.1 hc.2.1 hc.2.2 hI (mj_dec hf rfl) (kk H locs la hW hS hl)
      · cases hz
    · cases hz
  · -- putfield
    obtain ⟨z, hz, rfl⟩ := Option.map_eq_some_iff.mp hs
    unfold mj_putf at hz
    split at hz
    · rename_i u k r
      split at hz
      · rename_i hc
        cases hz
        obtain ⟨c1, c2, c3, c4⟩ := hc
        have hnr : mj_isR (mj_ty a b) = false := by rcases c4 with c4 | c4 <;> simp [c4, mj_isR]
        refine mj_q_put (h' := mj_setI h k b u) (v := .int u) cx0 hW hS c1 c2 c3 (by rcases c4 with c4 | ⟨c4, c5 | c5⟩ <;> rw [c4] <;> (try rw [c5]) <;> rfl) (by rcases c4 with c4 | ⟨c4, c5 | c5⟩ <;> rw [c4] <;> (try rw [c5]) <;> rfl) hI (mj_dec hf rfl) rfl rfl (fun q hq => mj_u_other hq) (fun _ _ => rfl) (fun _ _ => rfl) (fun j => ?_) (fun H1 locs1 hW1 hS1 => kk H1 locs1 la hW1 hS1 hl)
        by_cases hj : j = b
        · subst hj
          simp [mj_fv, hnr, mj_I, mj_setI, mj_u, mj_rl]
        · simp [mj_fv, mj_I, mj_R, mj_setI, mj_u, hj]
      · cases hz
    · rename_i u k r
      split at hz
      · rename_i hc
        cases hz
        obtain ⟨c1, c2, c3, c4⟩ := hc
        refine mj_q_put (h' := mj_setR h k b (some u)) (v := .ref (mj_Bg G u)) cx0 hW hS c1 c2 c3 (by cases hq : mj_ty a b <;> simp [hq, mj_isR] at c4 <;> rfl) (by cases hq : mj_ty a b <;> simp [hq, mj_isR] at c4 <;> rfl) hI (mj_dec hf rfl) rfl rfl (fun _ _ => rfl) (fun _ _ => rfl) (fun q hq => mj_u_other hq) (fun j => ?_) (fun H1 locs1 hW1 hS1 => kk H1 locs1 la hW1 hS1 hl)
        by_cases hj : j = b
        · subst hj
          simp [mj_fv, c4, mj_R, mj_setR, mj_u, mj_rl, va_rf]
        · simp [mj_fv, mj_I, mj_R, mj_setR, mj_u, hj]
      · cases hz
    · rename_i k r
      split at hz
      · rename_i hc
        cases hz
        obtain ⟨c1, c2, c3, c4⟩ := hc
        refine mj_q_put (h' := mj_setR h k b none) (v := .null) cx0 hW hS c1 c2 c3 (by cases hq : mj_ty a b <;> simp [hq, mj_isR] at c4 <;> rfl) (by cases hq : mj_ty a b <;> simp [hq, mj_isR] at c4 <;> rfl) hI (mj_dec hf rfl) rfl rfl (fun _ _ => rfl) (fun _ _ => rfl) (fun q hq => mj_u_other hq) (fun j => ?_) (fun H1 locs1 hW1 hS1 => kk H1 locs1 la hW1 hS1 hl)
        by_cases hj : j = b
        · subst hj
          simp [mj_fv, c4, mj_R, mj_setR, mj_u, mj_rl, va_rf]
        · simp [mj_fv, mj_I, mj_R, mj_setR, mj_u, hj]
      · cases hz
    · cases hz
  · -- getstatic
    cases hs
    simp only [mj_okI, Bool.and_eq_true, Bool.or_eq_true] at hI
    obtain ⟨ha, hI⟩ := hI
    have ha7 : a < 7 := by have : a + 1 ≤ 7 := Nat.le_of_ble_eq_true ha
                           omega
    have kz := kk H locs la hW hS hl
    have hB : mj_Bg G a = mj_ext G a := mj_Bg_ext (by omega)
    replace kz : W p l e R s m args below meth c H locs (h.1 - n0) (h.2.1 - s0) Q (F0 m (pc + 3) la (.ref (mj_ext G a) :: st.map (mj_rl (mj_Bg G)))) := by rw [← hB]; exact kz
    rcases hI with hI | hI
    · have hl2 := mj_sl_at hI
      simp only [mj_slok, if_true, Bool.and_eq_true] at hl2
      exact va_gets hx hb (hE.1 a ha7).1 hS hown (hts _ (mj_in_tb hl2.1)) (fun _ q => q) (mj_dec hf rfl) kz
    · have hl2 := mj_sl_at hI
      simp only [mj_slok, if_false, Bool.and_eq_true, show ¬ (1 = 0) by decide] at hl2
      exact va_getsN hx hb (hE.1 a ha7).1 hS hown (va_Nw.use rfl (hT.2.1 _ (mj_inN_n hl2.1))) (fun _ q => q) (mj_dec hf rfl) kz
  · -- iaload
    obtain ⟨z, hz, rfl⟩ := Option.map_eq_some_iff.mp hs
    unfold mj_ald at hz
    split at hz
    · split at hz
      · rename_i hc
        cases hz
        exact mj_q_iald cx0 hW hS hc.1 hc.2 (mj_dec hf rfl) (kk H locs la hW hS hl)
      · cases hz
    · cases hz
  · obtain ⟨z, hz, rfl⟩ := Option.map_eq_some_iff.mp hs
    unfold mj_ald at hz
    split at hz
    · split at hz
      · rename_i hc
        cases hz
        exact mj_q_zald cx0 hW hc.1 hc.2 (mj_dec hf rfl) (kk H locs la hW hS hl)
      · cases hz
    · cases hz
  · obtain ⟨z, hz, rfl⟩ := Option.map_eq_some_iff.mp hs
    unfold mj_ald at hz
    split at hz
    · split at hz
      · rename_i hc
        cases hz
        exact mj_q_lald cx0 hW hc.1 hc.2 (mj_dec hf rfl) (kk H locs la hW hS hl)
      · cases hz
    · cases hz
  · -- aaload
    obtain ⟨z, hz, rfl⟩ := Option.map_eq_some_iff.mp hs
    unfold mj_rld at hz
    split at hz
    · split at hz
      · rename_i hc
        cases hz
        exact mj_q_rald cx0 hW hc.1 hc.2.1 hc.2.2 (mj_dec hf rfl) (kk H locs la hW hS hl)
      · cases hz
    · cases hz
  · -- iastore
    obtain ⟨z, hz, rfl⟩ := Option.map_eq_some_iff.mp hs
    unfold mj_ast at hz
    split at hz
    · split at hz
      · rename_i hc
        cases hz
        exact mj_q_iast cx0 hW hS hc.1 hc.2.1 hc.2.2 (mj_dec hf rfl) (fun H1 locs1 hW1 hS1 => kk H1 locs1 la hW1 hS1 hl)
      · cases hz
    · cases hz
  · obtain ⟨z, hz, rfl⟩ := Option.map_eq_some_iff.mp hs
    unfold mj_zst at hz
    split at hz
    · split at hz
      · rename_i hc
        cases hz
        exact mj_q_zast cx0 hW hS hc.1 hc.2.1 hc.2.2 (mj_dec hf rfl) (fun H1 locs1 hW1 hS1 => kk H1 locs1 la hW1 hS1 hl)
      · cases hz
    · cases hz
  · obtain ⟨z, hz, rfl⟩ := Option.map_eq_some_iff.mp hs
    unfold mj_lst at hz
    split at hz
    · split at hz
      · rename_i hc
        cases hz
        exact mj_q_last cx0 hW hS hc.1 hc.2 (mj_dec hf rfl) (fun H1 locs1 hW1 hS1 => kk H1 locs1 la hW1 hS1 hl)
      · cases hz
    · cases hz
  · -- aastore
    obtain ⟨z, hz, rfl⟩ := Option.map_eq_some_iff.mp hs
    unfold mj_rst at hz
    split at hz
    · split at hz
      · rename_i hc
        cases hz
        exact mj_q_rast cx0 hW hS hc.1 hc.2.1 hc.2.2.1 hc.2.2.2 (mj_dec hf rfl) (fun H1 locs1 hW1 hS1 => kk H1 locs1 la hW1 hS1 hl)
      · cases hz
    · cases hz
  · -- arraylength
    obtain ⟨z, hz, rfl⟩ := Option.map_eq_some_iff.mp hs
    unfold mj_alen at hz
    split at hz
    · split at hz
      · rename_i hc
        cases hz
        exact mj_q_alen cx0 hW hS hc.1 hc.2 (mj_dec hf rfl) (kk H locs la hW hS hl)
      · cases hz
    · cases hz
  · -- newarray
    rename_i at_
    obtain ⟨z, hz, rfl⟩ := Option.map_eq_some_iff.mp hs
    unfold mj_nwa at hz
    split at hz
    · rename_i n r
      split at hz
      · rename_i hc
        cases hz
        have hkd : (at_ = .int ∧ a = 12) ∨ (at_ = .long ∧ a = 13) ∨ (at_ = .boolean ∧ a = 14) := by
          cases at_ <;> simp only [mj_okI] at hI <;> first | cases hI | simp [Nat.eq_of_beq_eq_true hI]
        have q1 : h.1 + 1 - n0 ≤ R.cells := hR1
        have q2 : h.2.1 + n.toNatClampNeg - s0 ≤ R.slots := hR2
        refine mj_q_newa cx0 hW hS hkd hc.1 hc.2 (by omega) (by omega) (mj_dec hf rfl) (fun H1 hW1 hS1 => ?_)
        have k2 := kk H1 locs la hW1 hS1 hl
        replace k2 : W p l e R s m args below meth c H1 locs (h.1 + 1 - n0) (h.2.1 + n.toNatClampNeg - s0) Q (F0 m (pc + 2) la (.ref (mj_Bg G h.1) :: r.map (mj_rl (mj_Bg G)))) := k2
        rw [show h.1 + 1 - n0 = h.1 - n0 + 1 by omega, show h.2.1 + n.toNatClampNeg - s0 = h.2.1 - s0 + n.toNatClampNeg by omega] at k2
        exact k2
      · cases hz
    · cases hz
  · -- anewarray
    obtain ⟨z, hz, rfl⟩ := Option.map_eq_some_iff.mp hs
    unfold mj_nwa at hz
    split at hz
    · rename_i n r
      split at hz
      · rename_i hc
        cases hz
        simp only [mj_okI, Bool.and_eq_true] at hI
        have q1 : h.1 + 1 - n0 ≤ R.cells := hR1
        have q2 : h.2.1 + n.toNatClampNeg - s0 ≤ R.slots := hR2
        refine mj_q_newr cx0 hW hS (Nat.le_of_ble_eq_true hI.2) hI.1 hc.1 hc.2 (by omega) (by omega) (mj_dec hf rfl) (fun H1 hW1 hS1 => ?_)
        have k2 := kk H1 locs la hW1 hS1 hl
        replace k2 : W p l e R s m args below meth c H1 locs (h.1 + 1 - n0) (h.2.1 + n.toNatClampNeg - s0) Q (F0 m (pc + 3) la (.ref (mj_Bg G h.1) :: r.map (mj_rl (mj_Bg G)))) := k2
        rw [show h.1 + 1 - n0 = h.1 - n0 + 1 by omega, show h.2.1 + n.toNatClampNeg - s0 = h.2.1 - s0 + n.toNatClampNeg by omega] at k2
        exact k2
      · cases hz
    · cases hz
  · -- new
    split at hs
    · rename_i h12
      cases hs
      have q1 : h.1 + 1 - n0 ≤ R.cells := hR1
      have q2 : h.2.1 + mj_nf a - s0 ≤ R.slots := hR2
      refine mj_q_new cx0 hW hS h12 hI (by omega) (by omega) (mj_dec hf rfl) (fun H1 hW1 hS1 => ?_)
      have k2 := kk H1 locs la hW1 hS1 hl
      replace k2 : W p l e R s m args below meth c H1 locs (h.1 + 1 - n0) (h.2.1 + mj_nf a - s0) Q (F0 m (pc + 3) la (.ref (mj_Bg G h.1) :: st.map (mj_rl (mj_Bg G)))) := k2
      rw [show h.1 + 1 - n0 = h.1 - n0 + 1 by omega, show h.2.1 + mj_nf a - s0 = h.2.1 - s0 + mj_nf a by omega] at k2
      exact k2
    · cases hs
  · -- invokespecial: Object's own
    split at hs
    · rename_i k r
      split at hs
      · rename_i hc
        cases hs
        obtain ⟨rfl, hwd⟩ := hc
        simp only [mj_okI, show ¬ (1 = 0) by decide, if_false, Bool.and_eq_true] at hI
        obtain ⟨pp, hok2⟩ := mj_ml_at hI.2
        simp only [mj_mlok, show ¬ (1001 < 1000) by decide, if_false, if_true, Bool.and_eq_true] at hok2
        have hwd2 := mj_rl_words (mj_Bg G) r
        exact W.objInit hx hb hown (hts _ (mj_at_tb hok2.1)) (hts _ (mj_lib_in (by simp))) (hts _ (mj_lib_in (by simp))) rfl hmla.symm rfl (mj_dec hf rfl) hfr (by show 2 * 0 + _ + 12 ≤ _; rw [hwd2]; omega) (kk H locs la hW hS hl)
      · cases hs
    · cases hs
  · -- invokestatic: Math and System
    split at hs
    · rename_i hb2
      subst hb2
      split at hs
      · rename_i v u r
        split at hs
        · rename_i hwd
          cases hs
          simp only [mj_okI, show ¬ (2 = 0) by decide, show ¬ (2 = 6) by decide, if_false] at hI
          obtain ⟨pp, hok2⟩ := mj_ml_at hI
          simp only [mj_mlok, show ¬ (1000 + 2 < 1000) by decide, show ¬ (1000 + 2 = 1001) by decide, show (1000 + 2 = 1002) by decide, if_false, if_true, Bool.and_eq_true] at hok2
          exact va_mmin hx hb hmla hown (hts _ (mj_at_tb hok2.1)) (hts _ (mj_lib_in (by simp))) (hts _ (mj_lib_in (by simp))) (hts _ (mj_lib_in (by simp))) hfr (by rw [mj_rl_words]; omega) hR1 hR2 (mj_dec hf rfl) (kk H locs la hW hS hl)
        · cases hs
      · cases hs
    · split at hs
      · rename_i hb2
        subst hb2
        split at hs
        · rename_i v u r
          split at hs
          · rename_i hwd
            cases hs
            simp only [mj_okI, show ¬ (3 = 0) by decide, show ¬ (3 = 6) by decide, if_false] at hI
            obtain ⟨pp, hok2⟩ := mj_ml_at hI
            simp only [mj_mlok, show ¬ (1000 + 3 < 1000) by decide, show ¬ (1000 + 3 = 1001) by decide, show ¬ (1000 + 3 = 1002) by decide, show (1000 + 3 = 1003) by decide, if_false, if_true, Bool.and_eq_true] at hok2
            exact va_mmax hx hb hmla hown (hts _ (mj_at_tb hok2.1)) (hts _ (mj_lib_in (by simp))) (hts _ (mj_lib_in (by simp))) (hts _ (mj_lib_in (by simp))) hfr (by rw [mj_rl_words]; omega) hR1 hR2 (mj_dec hf rfl) (kk H locs la hW hS hl)
          · cases hs
        · cases hs
      · split at hs
        · rename_i hb2
          subst hb2
          split at hs
          · rename_i u r
            split at hs
            · rename_i hwd
              cases hs
              simp only [mj_okI, show ¬ (4 = 0) by decide, show ¬ (4 = 6) by decide, if_false] at hI
              obtain ⟨pp, hok2⟩ := mj_ml_at hI
              simp only [mj_mlok, show ¬ (1000 + 4 < 1000) by decide, show ¬ (1000 + 4 = 1001) by decide, show ¬ (1000 + 4 = 1002) by decide, show ¬ (1000 + 4 = 1003) by decide, show (1000 + 4 = 1004) by decide, if_false, if_true, Bool.and_eq_true] at hok2
              exact va_mabs hx hb hmla hown (hts _ (mj_at_tb hok2.1)) (hts _ (mj_lib_in (by simp))) (hts _ (mj_lib_in (by simp))) (hts _ (mj_lib_in (by simp))) hfr (by rw [mj_rl_words]; omega) hR1 hR2 (mj_dec hf rfl) (kk H locs la hW hS hl)
            · cases hs
          · cases hs
        · split at hs
          · rename_i hb2
            subst hb2
            obtain ⟨z, hz, rfl⟩ := Option.map_eq_some_iff.mp hs
            unfold mj_cpy at hz
            split at hz
            · rename_i n dp q sp k r
              split at hz
              · rename_i hc
                cases hz
                obtain ⟨c1, c2, c3, c4, c5, c6, c7, c8, c9, c10⟩ := hc
                simp only [mj_okI, show ¬ (5 = 0) by decide, show ¬ (5 = 6) by decide, if_false] at hI
                exact mj_q_cpy cx0 hW hS hmla c1 c2 c3 c4 c5 c6 c7 c8 c9 hI (by rw [mj_rl_words]; exact c10) (mj_dec hf rfl) (fun H1 locs1 hW1 hS1 => kk H1 locs1 la hW1 hS1 hl)
              · cases hz
            · cases hz
          · split at hs
            · rename_i hb2
              exact absurd hb2 (h6 _ rfl)
            · cases hs
  · cases hs
end MJ1
