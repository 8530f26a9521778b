/-! what the checks say, one by one -/
theorem mj_fl_at {o x a b n : Nat} (h : mj_hasF o x a b n = true) : mj_flok (o, x, a, b, n) = true := by
  obtain ⟨⟨e1, e2, e3, e4, e5⟩, he, hb⟩ := List.any_eq_true.mp h
  simp only [Bool.and_eq_true] at hb
  obtain ⟨b1, b2, b3, b4, b5⟩ := hb
  have := List.all_eq_true.mp mj_fl_ok _ he
  rw [Nat.eq_of_beq_eq_true b1, Nat.eq_of_beq_eq_true b2, Nat.eq_of_beq_eq_true b3, Nat.eq_of_beq_eq_true b4, Nat.eq_of_beq_eq_true b5] at this
  exact this
theorem mj_sl_at {o x a n : Nat} (h : mj_hasS o x a n = true) : mj_slok (o, x, a, n) = true := by
  obtain ⟨⟨e1, e2, e3, e4⟩, he, hb⟩ := List.any_eq_true.mp h
  simp only [Bool.and_eq_true] at hb
  obtain ⟨b1, b2, b3, b4⟩ := hb
  have := List.all_eq_true.mp mj_sl_ok _ he
  rw [Nat.eq_of_beq_eq_true b1, Nat.eq_of_beq_eq_true b2, Nat.eq_of_beq_eq_true b3, Nat.eq_of_beq_eq_true b4] at this
  exact this
theorem mj_has_mem {l : List (Nat × Nat × Nat)} {o x a : Nat} (h : mj_hasC l o x a = true) : (o, x, a) ∈ l := by
  obtain ⟨⟨e1, e2, e3⟩, he, hb⟩ := List.any_eq_true.mp h
  simp only [Bool.and_eq_true] at hb
  obtain ⟨b1, b2, b3⟩ := hb
  rw [Nat.eq_of_beq_eq_true b1, Nat.eq_of_beq_eq_true b2, Nat.eq_of_beq_eq_true b3] at he
  exact he
theorem mj_ml_at {o x a n : Nat} (h : mj_hasM o x a n = true) : ∃ p, mj_mlok (o, x, a, n, p) = true := by
  obtain ⟨⟨e1, e2, e3, e4, e5⟩, he, hb⟩ := List.any_eq_true.mp h
  simp only [Bool.and_eq_true] at hb
  obtain ⟨b1, b2, b3, b4⟩ := hb
  have := List.all_eq_true.mp mj_mls_ok _ he
  rw [Nat.eq_of_beq_eq_true b1, Nat.eq_of_beq_eq_true b2, Nat.eq_of_beq_eq_true b3, Nat.eq_of_beq_eq_true b4] at this
  exact ⟨e5, this⟩
theorem mj_dec {mid pc : Nat} {i : Instr} {a b : Nat} (h : mj_fetch mid pc = some (i, a, b)) (ht : mj_isT i = false) : decode (mj_b mid) pc = .ok (i, mj_len i) := by
  have h1 := mj_okf h
  simp only [mj_okE, Bool.and_eq_true] at h1
  have h2 := h1.1
  generalize decode (mj_b mid) pc = d at h2 ⊢
  match d, h2 with
  | .ok (j, n), h2 =>
    simp only [mj_okD, ht, Bool.false_or, Bool.and_eq_true, decide_eq_true_eq] at h2
    rw [h2.1, Nat.eq_of_beq_eq_true h2.2]
theorem mj_decT {mid pc : Nat} {i : Instr} {a b : Nat} (h : mj_fetch mid pc = some (i, a, b)) : ∃ n, decode (mj_b mid) pc = .ok (i, n) := by
  have h1 := mj_okf h
  simp only [mj_okE, Bool.and_eq_true] at h1
  have h2 := h1.1
  generalize decode (mj_b mid) pc = d at h2 ⊢
  match d, h2 with
  | .ok (j, n), h2 =>
    simp only [mj_okD, Bool.and_eq_true, decide_eq_true_eq] at h2
    exact ⟨n, by rw [h2.1]⟩
theorem mj_oki {mid pc : Nat} {i : Instr} {a b : Nat} (h : mj_fetch mid pc = some (i, a, b)) : mj_okI mid pc i a b = true := by
  have h1 := mj_okf h
  simp only [mj_okE, Bool.and_eq_true] at h1
  exact h1.2
theorem mj_lib_in {w : Cond} (h : w ∈ ([.instanceMethod objectInit, .code objectInit ⟨#[0xb1]⟩ 1 none, .static Lib.Math.min.name, .static Lib.Math.max.name, .static Lib.Math.abs.name, .initialized "java/lang/Math", .code Lib.Math.min.name Lib.Math.min.code 2 (some .int), .code Lib.Math.max.name Lib.Math.max.code 2 (some .int), .code Lib.Math.abs.name Lib.Math.abs.code 1 (some .int), .native arraycopyName, .static arraycopyName, .initialized "java/lang/System", .arrayClass .int, .arrayClass .long, .arrayClass .boolean] : List Cond)) : w ∈ mj_tb := mj_in_tb (List.all_eq_true.mp mj_lib_ok _ h)
theorem mj_lay_in {kd : Nat} (h12 : kd < 12) : ∀ w ∈ u_ws (mj_kc kd).1 (mj_kc kd).2.1 (mj_kc kd).2.2, w ∈ mj_tb := fun w hw => mj_in_tb (List.all_eq_true.mp (List.all_eq_true.mp mj_lay_ok kd (List.mem_range.mpr h12)) w hw)
theorem mj_kc_at {kd : Nat} (h12 : kd < 12) : vwCl[kd]? = some (mj_kc kd) := by
  match kd, h12 with
  | 0, _ => rfl | 1, _ => rfl | 2, _ => rfl | 3, _ => rfl | 4, _ => rfl | 5, _ => rfl | 6, _ => rfl | 7, _ => rfl | 8, _ => rfl | 9, _ => rfl | 10, _ => rfl | 11, _ => rfl
  | n + 12, h => exact absurd h (by omega)
theorem mj_ty_ok {kd : Nat} (h12 : kd < 12) : ∀ k, k < (mj_kc kd).2.2 → parseFieldDescriptor ((mj_kc kd).2.1 k).2.2.1 = some (mj_ty kd k) := by
  match kd, h12 with
  | 0, _ => exact tyX0_ok | 1, _ => exact tyX1_ok | 2, _ => exact tyX2_ok | 3, _ => exact tyX3_ok | 4, _ => exact tyX4_ok | 5, _ => exact tyX5_ok | 6, _ => exact tyX6_ok | 7, _ => exact tyX7_ok | 8, _ => exact tyX8_ok | 9, _ => exact tyX9_ok | 10, _ => exact tyX10_ok | 11, _ => exact tyX11_ok
  | n + 12, h => exact absurd h (by omega)
theorem mj_nm_ok {kd : Nat} (h12 : kd < 12) : ∀ a, a < (mj_kc kd).2.2 → ∀ b, b < (mj_kc kd).2.2 → a ≠ b → ((mj_kc kd).2.1 a).2.1 ≠ ((mj_kc kd).2.1 b).2.1 := by
  match kd, h12 with
  | 0, _ => exact nmX0 | 1, _ => exact nmX1 | 2, _ => exact nmX2 | 3, _ => exact nmX3 | 4, _ => exact nmX4 | 5, _ => exact nmX5 | 6, _ => exact nmX6 | 7, _ => exact nmX7 | 8, _ => exact nmX8 | 9, _ => exact nmX9 | 10, _ => exact nmX10 | 11, _ => exact nmX11
  | n + 12, h => exact absurd h (by omega)
theorem mj_dflt : ∀ kd, kd < 12 → ∀ j, j < mj_nf kd → defaultValue (mj_ty kd j) = (if mj_isR (mj_ty kd j) then .null else .int 0) := by decide +kernel
theorem mj_tys_at {cy : Nat → ClassId} {kd : Nat} (h1 : 15 ≤ kd) (h2 : kd ≤ 18) : (mj_tys cy)[kd - 12]? = some (cy kd, .object (mj_kc (mj_elt kd)).1) ∧ mj_elt kd < 12 := by
  match kd, h1, h2 with
  | 15, _, _ => exact ⟨rfl, by decide⟩
  | 16, _, _ => exact ⟨rfl, by decide⟩
  | 17, _, _ => exact ⟨rfl, by decide⟩
  | 18, _, _ => exact ⟨rfl, by decide⟩
  | n + 19, _, h => exact absurd h (by omega)
theorem mj_AO_at {G : mj_G} {U : State} (h : mj_TB G U) {kd : Nat} (h1 : 15 ≤ kd) (h2 : kd ≤ 18) : va_AO (mj_kc (mj_elt kd)).1 U := by
  match kd, h1, h2 with
  | 15, _, _ => exact h.2.2.1
  | 16, _, _ => exact h.2.2.2.1
  | 17, _, _ => exact h.2.2.2.2.1
  | 18, _, _ => exact h.2.2.2.2.2
  | n + 19, _, h => exact absurd h (by omega)
theorem mj_inb_in {h : mj_H} {k : Nat} {i : Int32} (hi : mj_inb h k i = true) : vp_in i (mj_K h k).2 := by
  unfold mj_inb at hi
  unfold vp_in
  intro q
  rcases q with q | q
  · rw [decide_eq_true q] at hi
    simp at hi
  · rw [decide_eq_true q] at hi
    simp at hi
/-- where a method's body stands -/
def mj_Cx (G : mj_G) (mid : Nat) (p : Program) (R : Room) (s : State) (m : MethodId) (args : Array Value) (meth : Method) (c : Code) : Prop :=
  p.tables.exec = Jvm.exec ∧ c.code = mj_b mid ∧ meth.sig.returnType = mj_r mid ∧ c.maxLocals = mj_maxL mid ∧ s.vm.findClass (mj_cn (mj_own mid)) = some m.cls ∧ (∀ w ∈ mj_tb, w.before args s = true) ∧ meth.locks = false ∧ meth.name = (mj_y mid).name ∧ mj_TB G s ∧ mj_EX G s s.heap ∧ 1 ≤ R.frames ∧ 64 ≤ R.locals
section MJS
variable {G : mj_G} {p : Program} {l : Launch} {e : Env} {R : Room} {s : State} {m : MethodId} {args : Array Value} {below : List Frame} {meth : Method} {c : Code} {Q : State → Prop} {mid : Nat} {H : Heap} {locs : List Loc} {la : Array Slot} {cells slots pc : Nat} {h : mj_H} {r : List Value}
theorem mj_Bg_ext {k : Nat} (hk : k < 8) : mj_Bg G k = mj_ext G k := by
  unfold mj_Bg mj_B
  rw [if_pos hk]
theorem mj_q_iald (cx : mj_Cx G mid p R s m args meth c) (hW : mj_WH G h H) (hS : va_S (mj_A G) s.heap H locs) {k : Nat} {i : Int32} (hk : (mj_K h k).1 = 12) (hi : mj_inb h k i = true) (hd : decode (mj_b mid) pc = .ok (.iaload, 1))
    (kk : W p l e R s m args below meth c H locs cells slots Q (F0 m (pc + 1) la (.int (mj_I h k i.toNatClampNeg) :: r))) : W p l e R s m args below meth c H locs cells slots Q (F0 m pc la (.int i :: .ref (mj_Bg G k) :: r)) := by
  obtain ⟨hx, hb, -, -, -, -, -, -, hT, hE, -, -⟩ := cx
  have hin := mj_inb_in hi
  by_cases h8 : k < 8
  · rw [mj_Bg_ext h8]
    by_cases h7 : k < 7
    · have e1 := hW.2.2.2.2.1 k h7
      rw [e1.1] at hin
      refine va_ti hx hb (hE.1 k h7).2 hS hin ?_ hd kk
      have hlt : i.toNatClampNeg < mj_sL k := Nat.not_le.mp fun q => hin (Or.inr q)
      rw [e1.2 _ hlt]
    · have e7 : k = 7 := by omega
      subst e7
      have e1 := hW.2.2.2.2.2
      rw [e1.1] at hin
      have hlt : i.toNatClampNeg < mj_len0 G := Nat.not_le.mp fun q => hin (Or.inr q)
      refine va_sld hx hb hE.2.1 ?_ (fun q => by have := hE.2.2; unfold mj_A at q; omega) hS hin hd ?_
      · obtain ⟨scr, h1, -⟩ := hE.2.1
        exact (Array.getElem?_eq_some_iff.mp h1).1
      · rw [← e1.2 _ hlt]
        exact kk
  · have h9 := (hW.arr (k := k) (by omega) (by omega) (by omega)).2
    rw [mj_cell12 hk] at h9
    exact va_iald hx hb hT.1 (mj_one h9) 0 0 rfl rfl hin hd kk
theorem mj_q_alen (cx : mj_Cx G mid p R s m args meth c) (hW : mj_WH G h H) (hS : va_S (mj_A G) s.heap H locs) {k : Nat} (hk : 12 ≤ (mj_K h k).1) (hk2 : (mj_K h k).1 ≤ 18) (hd : decode (mj_b mid) pc = .ok (.arraylength, 1))
    (kk : W p l e R s m args below meth c H locs cells slots Q (F0 m (pc + 1) la (.int (Int32.ofNat (mj_K h k).2) :: r))) : W p l e R s m args below meth c H locs cells slots Q (F0 m pc la (.ref (mj_Bg G k) :: r)) := by
  obtain ⟨hx, hb, -, -, -, -, -, -, hT, hE, -, -⟩ := cx
  by_cases h8 : k < 8
  · rw [mj_Bg_ext h8]
    by_cases h7 : k < 7
    · have e1 := hW.2.2.2.2.1 k h7
      rw [e1.1] at kk
      obtain ⟨cell, g1, g2, g3, g4, g5, g6, g7⟩ := (hE.1 k h7).2
      exact W.alen hx hb (by rw [hS.2.1 _ (Array.getElem?_eq_some_iff.mp g1).1 g7]; exact g1) g2 g5 rfl rfl hd kk
    · have e7 : k = 7 := by omega
      subst e7
      have e1 := hW.2.2.2.2.2
      rw [e1.1] at kk
      refine va_slen hx hb hE.2.1 ?_ (fun q => by have := hE.2.2; unfold mj_A at q; omega) hS hd kk
      obtain ⟨scr, h1, -⟩ := hE.2.1
      exact (Array.getElem?_eq_some_iff.mp h1).1
  · have h9 := (hW.arr (k := k) (by omega) hk hk2).2
    have hK := hT.1
    by_cases e12 : (mj_K h k).1 = 12
    · rw [mj_cell12 e12] at h9
      exact va_alen hx hb hK (mj_one h9) 0 0 rfl rfl rfl hd kk
    · by_cases e13 : (mj_K h k).1 = 13
      · rw [mj_cell13 e13] at h9
        exact va_alen hx hb hK (mj_one h9) 0 1 rfl rfl rfl hd kk
      · by_cases e14 : (mj_K h k).1 = 14
        · rw [mj_cell14 e14] at h9
          exact va_alen hx hb hK (mj_one h9) 0 2 rfl rfl rfl hd kk
        · rw [mj_cellR (by omega)] at h9
          exact va_alen hx hb hK (mj_one h9) 0 ((mj_K h k).1 - 12) rfl (mj_tys_at (by omega) hk2).1 rfl hd kk
theorem mj_q_zald (cx : mj_Cx G mid p R s m args meth c) (hW : mj_WH G h H) {k : Nat} {i : Int32} (hk : (mj_K h k).1 = 14) (hi : mj_inb h k i = true) (hd : decode (mj_b mid) pc = .ok (.baload, 1))
    (kk : W p l e R s m args below meth c H locs cells slots Q (F0 m (pc + 1) la (.int (mj_I h k i.toNatClampNeg) :: r))) : W p l e R s m args below meth c H locs cells slots Q (F0 m pc la (.int i :: .ref (mj_Bg G k) :: r)) := by
  obtain ⟨hx, hb, -, -, -, -, -, -, hT, hE, -, -⟩ := cx
  have h8 : 8 ≤ k := Nat.not_lt.mp fun q => by have := hW.low q; omega
  have h9 := (hW.arr h8 (by omega) (by omega)).2
  rw [mj_cell14 hk] at h9
  exact va_zald hx hb hT.1 (mj_one h9) 0 2 rfl rfl (mj_inb_in hi) hd kk
theorem mj_q_lald (cx : mj_Cx G mid p R s m args meth c) (hW : mj_WH G h H) {k : Nat} {i : Int32} (hk : (mj_K h k).1 = 13) (hi : mj_inb h k i = true) (hd : decode (mj_b mid) pc = .ok (.laload, 1))
    (kk : W p l e R s m args below meth c H locs cells slots Q (F0 m (pc + 1) la (.long (mj_J h k i.toNatClampNeg) :: r))) : W p l e R s m args below meth c H locs cells slots Q (F0 m pc la (.int i :: .ref (mj_Bg G k) :: r)) := by
  obtain ⟨hx, hb, -, -, -, -, -, -, hT, hE, -, -⟩ := cx
  have h8 : 8 ≤ k := Nat.not_lt.mp fun q => by have := hW.low q; omega
  have h9 := (hW.arr h8 (by omega) (by omega)).2
  rw [mj_cell13 hk] at h9
  exact va_lald hx hb hT.1 (mj_one h9) 0 1 rfl rfl (mj_inb_in hi) hd kk
theorem mj_q_rald (cx : mj_Cx G mid p R s m args meth c) (hW : mj_WH G h H) {k : Nat} {i : Int32} (hk : 15 ≤ (mj_K h k).1) (hk2 : (mj_K h k).1 ≤ 18) (hi : mj_inb h k i = true) (hd : decode (mj_b mid) pc = .ok (.aaload, 1))
    (kk : W p l e R s m args below meth c H locs cells slots Q (F0 m (pc + 1) la (mj_rl (mj_Bg G) (va_rf (mj_R h k i.toNatClampNeg)) :: r))) : W p l e R s m args below meth c H locs cells slots Q (F0 m pc la (.int i :: .ref (mj_Bg G k) :: r)) := by
  obtain ⟨hx, hb, -, -, -, -, -, -, hT, hE, -, -⟩ := cx
  have h8 : 8 ≤ k := Nat.not_lt.mp fun q => by have := hW.low q; omega
  have h9 := (hW.arr h8 (by omega) (by omega)).2
  rw [mj_cellR hk] at h9
  rw [mj_rl_rf] at kk
  exact va_aldq hx hb hT.1 (mj_one h9) 0 ((mj_K h k).1 - 12) rfl (mj_tys_at hk hk2).1 (mj_inb_in hi) hd kk
theorem mj_A_of {k : Nat} (h8 : 8 ≤ k) : mj_A G (mj_Bg G k) := by
  unfold mj_A
  rw [mj_Bg8 h8]
  omega
end MJS
