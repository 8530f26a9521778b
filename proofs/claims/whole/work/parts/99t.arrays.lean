/-! arrays made, arrays copied -/
section MJA
variable {G : mj_G} {p : Program} {l : Launch} {e : Env} {R : Room} {s : State} {m : MethodId} {args : Array Value} {below : List Frame} {meth : Method} {c : Code} {Q : State → Prop} {mid : Nat} {H : Heap} {locs : List Loc} {la : Array Slot} {cells slots pc : Nat} {h h' : mj_H} {r : List Value}
theorem mj_newK (kd len : Nat) : (mj_K (mj_new h kd len) h.1) = (kd, len) := by simp [mj_new, mj_K]
theorem mj_top (hW : mj_WH G h H) : H.size = mj_Bg G h.1 := by rw [mj_Bg8 hW.2.2.1]; have := hW.2.1; have := hW.2.2.1; omega
theorem mj_q_newa (cx : mj_Cx G mid p R s m args meth c) (hW : mj_WH G h H) (hS : va_S (mj_A G) s.heap H locs) {kd : Nat} {at_ : ArrayType} {n : Int32} (hkd : (at_ = .int ∧ kd = 12) ∨ (at_ = .long ∧ kd = 13) ∨ (at_ = .boolean ∧ kd = 14)) (hn : ¬ n < 0) (hn2 : n.toNatClampNeg ≤ 100000) (hc1 : cells + 1 ≤ R.cells) (hc2 : slots + n.toNatClampNeg ≤ R.slots) (hd : decode (mj_b mid) pc = .ok (.newarray at_, 2))
    (kk : ∀ (H1 : Heap), mj_WH G (mj_new h kd n.toNatClampNeg) H1 → va_S (mj_A G) s.heap H1 locs → W p l e R s m args below meth c H1 locs (cells + 1) (slots + n.toNatClampNeg) Q (F0 m (pc + 2) la (.ref (mj_Bg G h.1) :: r))) : W p l e R s m args below meth c H locs cells slots Q (F0 m pc la (.int n :: r)) := by
  obtain ⟨hx, hb, -, -, hown, hts, -, -, hT, hE, -, -⟩ := cx
  have hbs := mj_top hW
  have harr : (Cond.arrayClass (newarray.typeOf at_)).before args s = true := by
    rcases hkd with ⟨rfl, -⟩ | ⟨rfl, -⟩ | ⟨rfl, -⟩ <;> exact hts _ (mj_lib_in (by simp [newarray.typeOf]))
  have hby : n.toNatClampNeg * componentBytes (newarray.typeOf at_) ≤ 536870912 := by
    rcases hkd with ⟨rfl, -⟩ | ⟨rfl, -⟩ | ⟨rfl, -⟩ <;> simp [newarray.typeOf, componentBytes] <;> omega
  refine va_newaK hx hb harr rfl hd rfl hn rfl hby hc1 hc2 hbs fun H1 cA e1 z1 oq hAr hNm => ?_
  refine kk H1 (hW.grow (by rw [z1, hbs]) (fun q hq => oq q (by rw [← hbs]; exact hq)) (Or.inr ?_)) ⟨Nat.le_trans hS.1 (by rw [z1, hbs]; omega), fun q h1 h2 => (oq q (by rw [← hbs]; exact Nat.lt_of_lt_of_le h1 hS.1)).trans (hS.2.1 q h1 h2), hS.2.2⟩
  have hk := mj_newK (h := h) kd n.toNatClampNeg
  rcases hkd with ⟨rfl, rfl⟩ | ⟨rfl, rfl⟩ | ⟨rfl, rfl⟩
  · have hcA : cA = mj_cy G 12 := Option.some.inj (hNm.symm.trans (hT.1.2 0 _ rfl).2)
    rw [mj_cell12 (by rw [hk]), hk]
    show H1[mj_Bg G h.1]? = some (vp_cell _ _)
    rw [vp_cell_i, e1, hcA]
    congr 2
    funext q
    simp [mj_I, mj_new, newarray.typeOf, defaultValue]
  · have hcA : cA = mj_cy G 13 := Option.some.inj (hNm.symm.trans (hT.1.2 1 _ rfl).2)
    rw [mj_cell13 (by rw [hk]), hk]
    show H1[mj_Bg G h.1]? = some (vp_cell _ _)
    rw [vp_cell_l, e1, hcA]
    congr 2
    funext q
    simp [mj_J, mj_new, newarray.typeOf, defaultValue]
  · have hcA : cA = mj_cy G 14 := Option.some.inj (hNm.symm.trans (hT.1.2 2 _ rfl).2)
    rw [mj_cell14 (by rw [hk]), hk]
    show H1[mj_Bg G h.1]? = some (vp_cell _ _)
    rw [vp_cell_i, e1, hcA]
    congr 2
    funext q
    simp [mj_I, mj_new, newarray.typeOf, defaultValue]
theorem mj_q_newr (cx : mj_Cx G mid p R s m args meth c) (hW : mj_WH G h H) (hS : va_S (mj_A G) s.heap H locs) {kd x : Nat} {n : Int32} (h1 : 15 ≤ kd) (hok : mj_hasC mj_cls (mj_own mid) x kd = true) (hn : ¬ n < 0) (hn2 : n.toNatClampNeg ≤ 100000) (hc1 : cells + 1 ≤ R.cells) (hc2 : slots + n.toNatClampNeg ≤ R.slots) (hd : decode (mj_b mid) pc = .ok (.anewarray x, 3))
    (kk : ∀ (H1 : Heap), mj_WH G (mj_new h kd n.toNatClampNeg) H1 → va_S (mj_A G) s.heap H1 locs → W p l e R s m args below meth c H1 locs (cells + 1) (slots + n.toNatClampNeg) Q (F0 m (pc + 3) la (.ref (mj_Bg G h.1) :: r))) : W p l e R s m args below meth c H locs cells slots Q (F0 m pc la (.int n :: r)) := by
  obtain ⟨hx, hb, -, -, hown, hts, -, -, hT, hE, -, -⟩ := cx
  have hok2 := List.all_eq_true.mp mj_cls_ok _ (mj_has_mem hok)
  simp only [mj_clok, show ¬ kd < 12 by omega, if_false, Bool.and_eq_true, decide_eq_true_eq] at hok2
  obtain ⟨⟨o1, -⟩, h2⟩ := hok2
  have hbs := mj_top hW
  refine W.anew hx hb hown (hts _ (mj_in_tb o1)) (va_AO.use (mj_AO_at hT h1 h2)) rfl hd rfl hn (by omega) hc1 hc2 fun cA kA comp f1 f2 f3 f4 => ?_
  generalize hH1 : H.push ({ cls := cA, slots := Array.replicate n.toNatClampNeg .null, vm := .none } : Cell) = H1
  have z1 : H1.size = H.size + 1 := by rw [← hH1, Array.size_push]
  have e1 : H1[H.size]? = some (arrV cA n.toNatClampNeg (fun _ => .null)) := by rw [← hH1, Array.getElem?_push_size, ← arrV_new]
  have oq : ∀ q : Nat, q < H.size → H1[q]? = H[q]? := fun q hq => by rw [← hH1, Array.getElem?_push, if_neg (Nat.ne_of_lt hq)]
  rw [hbs]
  refine kk H1 (hW.grow z1 oq (Or.inr ?_)) ⟨Nat.le_trans hS.1 (by omega), fun q g1 g2 => (oq q (Nat.lt_of_lt_of_le g1 hS.1)).trans (hS.2.1 q g1 g2), hS.2.2⟩
  have hk := mj_newK (h := h) kd n.toNatClampNeg
  have hcA : cA = mj_cy G kd := by
    obtain ⟨kA', comp', -, -, -, g4⟩ := (hT.1.2 _ _ (mj_tys_at h1 h2).1).2
    exact Option.some.inj (f1.symm.trans g4)
  rw [mj_cellR (by rw [hk]; exact h1), hk]
  show H1[mj_Bg G h.1]? = some (vp_cell _ _)
  rw [vp_cell_q, ← hbs, e1, hcA]
  congr 2
  funext q
  simp [mj_R, mj_new, va_rf]
theorem mj_q_cpy (cx : mj_Cx G mid p R s m args meth c) (hW : mj_WH G h H) (hS : va_S (mj_A G) s.heap H locs) (hml : c.maxLocals = la.size) {k q x : Nat} {sp dp n : Int32} (k8 : 8 ≤ k) (q8 : 8 ≤ q) (hk : (mj_K h k).1 = 12) (hq : (mj_K h q).1 = 12) (h1 : ¬ sp < 0) (h2 : ¬ dp < 0) (h3 : ¬ n < 0) (h4 : sp.toNatClampNeg + n.toNatClampNeg ≤ (mj_K h k).2) (h5 : dp.toNatClampNeg + n.toNatClampNeg ≤ (mj_K h q).2)
    (hok : mj_hasM (mj_own mid) x 1005 0 = true) (hr : (r.map fun v => v.category).sum ≤ 8) (hd : decode (mj_b mid) pc = .ok (.invokestatic x, 3))
    (kk : ∀ (H1 : Heap) (locs1 : List Loc), mj_WH G (mj_setW h q (va_cpy (mj_I h k) (mj_I h q) sp.toNatClampNeg dp.toNatClampNeg n.toNatClampNeg)) H1 → va_S (mj_A G) s.heap H1 locs1 → W p l e R s m args below meth c H1 locs1 cells slots Q (F0 m (pc + 3) la r)) : W p l e R s m args below meth c H locs cells slots Q (F0 m pc la (.int n :: .int dp :: .ref (mj_Bg G q) :: .int sp :: .ref (mj_Bg G k) :: r)) := by
  obtain ⟨hx, hb, -, -, hown, hts, -, -, hT, hE, hfr, hlo⟩ := cx
  obtain ⟨pp, hok2⟩ := mj_ml_at hok
  simp only [mj_mlok, show ¬ (1005 < 1000) by decide, show ¬ (1005 = 1001) by decide, show ¬ (1005 = 1002) by decide, show ¬ (1005 = 1003) by decide, show ¬ (1005 = 1004) by decide, if_false, if_true, Bool.and_eq_true] at hok2
  have hc0 := (hW.arr k8 (by omega) (by omega)).2
  rw [mj_cell12 hk] at hc0
  have hc1 := (hW.arr q8 (by omega) (by omega)).2
  rw [mj_cell12 hq] at hc1
  have nn : ∀ z : Int32, ¬ z < 0 → z.toInt = (z.toNatClampNeg : Int) := by
    intro z hz
    have hz0 : (0 : Int) ≤ z.toInt := by
      have := Int32.not_lt.mp hz
      simpa using Int32.le_iff_toInt_le.mp this
    show z.toInt = ((z.toInt.toNat : Nat) : Int)
    omega
  have hnw : nativeFrameWords "java/lang/System" "arraycopy" 5 + 11 ≤ 56 := by decide +kernel
  intro T hT' X
  obtain ⟨-, k0, hk0, cm0, hkk0⟩ := (hT.1.2 0 _ rfl).1 (mj_K h k).2 (fun j => .int (mj_I h k j))
  obtain ⟨-, k1, hk1, cm1, hkk1⟩ := (hT.1.2 0 _ rfl).1 (mj_K h q).2 (fun j => .int (mj_I h q j))
  obtain ⟨vm', X', step⟩ := X.arraycopy hx hown (hts _ (mj_at_tb hok2.1)) (hts _ (mj_lib_in (by simp))) (hts _ (mj_lib_in (by simp))) (hts _ (mj_lib_in (by simp))) (src := mj_Bg G k) (dst := mj_Bg G q) (cs := vp_cell (mj_cy G 12) ((mj_K h k).2, .inl (mj_I h k))) (cd := vp_cell (mj_cy G 12) ((mj_K h q).2, .inl (mj_I h q))) (srcPos := sp) (destPos := dp) (n := n) (by rw [hT']; exact hc0) (by rw [hT']; exact hc1)
    (fun _ h => by cases h) (fun _ h => by cases h) (fun h => by cases h) (fun h => by cases h) hk0 hk1 hkk0 hkk1 (by simp [refKind]) h1 h2 h3
    (by rw [nn sp h1, nn n h3]; show ¬ _ > ((arrV (mj_cy G 12) (mj_K h k).2 (fun j => .int (mj_I h k j))).slots.size : Int); rw [arrV_size]; omega)
    (by rw [nn dp h2, nn n h3]; show ¬ _ > ((arrV (mj_cy G 12) (mj_K h q).2 (fun j => .int (mj_I h q j))).slots.size : Int); rw [arrV_size]; omega)
    (fun vm₁ _ i hi => by
      have e9 : (vp_cell (mj_cy G 12) ((mj_K h k).2, .inl (mj_I h k))).slots.getD (sp.toNatClampNeg + i) .null = .int (mj_I h k (sp.toNatClampNeg + i)) := by
        show (arrV (mj_cy G 12) (mj_K h k).2 (fun j => .int (mj_I h k j))).slots.getD _ _ = _
        rw [Array.getD_eq_getD_getElem?, arrV_read _ _ (by omega)]
        rfl
      refine ⟨?_, ?_⟩
      · rw [e9]
        rfl
      · rw [e9]
        exact trivial)
    (g := F0 m pc la (.int n :: .int dp :: .ref (mj_Bg G q) :: .int sp :: .ref (mj_Bg G k) :: r)) rfl (by rw [hml]) (rest := r) rfl (by rw [hb]; exact hd) hfr (by show 2 * 0 + _ + (nativeFrameWords "java/lang/System" "arraycopy" 5 + 11) ≤ _; omega)
  have e1 : copied (vp_cell (mj_cy G 12) ((mj_K h k).2, .inl (mj_I h k))) (vp_cell (mj_cy G 12) ((mj_K h q).2, .inl (mj_I h q))) sp dp n = vp_cell (mj_cy G 12) ((mj_K h q).2, .inl (va_cpy (mj_I h k) (mj_I h q) sp.toNatClampNeg dp.toNatClampNeg n.toNatClampNeg)) := va_copied (fun z => .int z) _ _ _ _ h4
  rw [e1] at X' step
  have hl : mj_Bg G q < H.size := (Array.getElem?_eq_some_iff.mp hc1).1
  generalize hcc : vp_cell (mj_cy G 12) ((mj_K h q).2, .inl (va_cpy (mj_I h k) (mj_I h q) sp.toNatClampNeg dp.toNatClampNeg n.toNatClampNeg)) = cc at X' step
  have hheap : ((T.setVm vm').setCell (mj_Bg G q) cc).heap = H.setIfInBounds (mj_Bg G q) cc := by rw [← hT']; rfl
  have oq : ∀ z : Nat, z ≠ mj_Bg G q → (H.setIfInBounds (mj_Bg G q) cc)[z]? = H[z]? := fun z hz => by simp [Array.getElem?_setIfInBounds, Ne.symm hz]
  have hnew : mj_WH G (mj_setW h q (va_cpy (mj_I h k) (mj_I h q) sp.toNatClampNeg dp.toNatClampNeg n.toNatClampNeg)) (H.setIfInBounds (mj_Bg G q) cc) := by
    refine hW.upd q8 rfl rfl (fun a ha => ?_) (fun _ _ => rfl) (fun _ _ => rfl) (by simp) oq ?_
    · funext j
      simp [mj_I, mj_setW, ha]
    · rw [mj_cell12 (h := mj_setW h q _) hq]
      show (H.setIfInBounds (mj_Bg G q) cc)[mj_Bg G q]? = some (vp_cell _ _)
      rw [← hcc]
      simp [Array.getElem?_setIfInBounds, hl, mj_I, mj_setW, mj_K]
  obtain ⟨t, a1, b1⟩ := kk _ _ hnew ⟨by simp; exact hS.1, fun z g1 g2 => by
      rw [oq z (fun e => g2 (by rw [e]; exact mj_A_of q8))]
      exact hS.2.1 z g1 g2, fun z hz => by
      rcases List.mem_append.mp hz with h | h
      · exact hS.2.2 z h
      · obtain ⟨y, -, hy⟩ := List.mem_map.mp h
        rw [← hy]
        exact mj_A_of q8⟩ _ hheap X'
  exact ⟨t, step t a1, b1⟩
end MJA
