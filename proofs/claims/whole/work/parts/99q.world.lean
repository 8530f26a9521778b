/-! THE MACHINE'S HEAP AND THE JVM'S: cell k of the machine (k at least 8) lies at base + (k - 8); cells below 8 are the seven static rows and the script -/
def mj_B (ext : Nat → Nat) (base : Nat) (k : Nat) : Nat := if k < 8 then ext k else base + (k - 8)
def mj_rl (B : Nat → Nat) : Value → Value
  | .ref k => .ref (B k)
  | v => v
theorem mj_rl_rf (B : Nat → Nat) (r : Option Nat) : mj_rl B (va_rf r) = va_rf (r.map B) := by cases r <;> rfl
theorem mj_rl_cat (B : Nat → Nat) (v : Value) : (mj_rl B v).category = v.category := by cases v <;> rfl
theorem mj_rl_words (B : Nat → Nat) (r : List Value) : ((r.map (mj_rl B)).map fun v => v.category).sum = mj_words r := by
  unfold mj_words
  rw [List.map_map]
  congr 1
  apply List.map_congr_left
  intro v _
  exact mj_rl_cat B v
def mj_fs (B : Nat → Nat) (h : mj_H) (kd k : Nat) : List Value := (List.range (mj_nf kd)).map (fun j => mj_rl B (mj_fv h kd k j))
def mj_cell (cy : Nat → ClassId) (B : Nat → Nat) (h : mj_H) (k : Nat) : va_E :=
  if (mj_K h k).1 < 12 then .inr ((mj_K h k).1, mj_fs B h (mj_K h k).1 k)
  else if (mj_K h k).1 = 12 then .inl (cy 12, (mj_K h k).2, .inl (mj_I h k))
  else if (mj_K h k).1 = 13 then .inl (cy 13, (mj_K h k).2, .inr (.inl (mj_J h k)))
  else if (mj_K h k).1 = 14 then .inl (cy 14, (mj_K h k).2, .inl (mj_I h k))
  else .inl (cy (mj_K h k).1, (mj_K h k).2, .inr (.inr (.inr (.inr (fun j => (mj_R h k j).map B)))))
/-- what is given: the tables' numbers, the array classes, where the static rows and the script lie, where the machine's cells begin, the script -/
abbrev mj_G : Type := va_G × (Nat → ClassId) × (Nat → Nat) × Nat × Nat × (Nat → Int32)
def mj_D (G : mj_G) : va_G := G.1
def mj_cy (G : mj_G) : Nat → ClassId := G.2.1
def mj_ext (G : mj_G) : Nat → Nat := G.2.2.1
def mj_base (G : mj_G) : Nat := G.2.2.2.1
def mj_len0 (G : mj_G) : Nat := G.2.2.2.2.1
def mj_xs (G : mj_G) : Nat → Int32 := G.2.2.2.2.2
def mj_Bg (G : mj_G) : Nat → Nat := mj_B (mj_ext G) (mj_base G)
def mj_A (G : mj_G) : Nat → Prop := fun q => mj_base G ≤ q
def mj_tys (cy : Nat → ClassId) : List (ClassId × FieldType) := [(cy 12, .int), (cy 13, .long), (cy 14, .boolean), (cy 15, .object RX3), (cy 16, .object RX4), (cy 17, .object RX6), (cy 18, .object RX9)]
def mj_TB (G : mj_G) (U : State) : Prop := va_K (mj_D G) vwCl (mj_tys (mj_cy G)) U ∧ (∀ w ∈ mj_nest, va_Nw w U) ∧ va_AO RX3 U ∧ va_AO RX4 U ∧ va_AO RX6 U ∧ va_AO RX9 U
def mj_EX (G : mj_G) (U : State) (H : Heap) : Prop :=
  (∀ k, k < 7 → va_Z (mj_sC k) (mj_sN k) "[I" (.ref (mj_ext G k)) (mj_A G) U H ∧ va_T .int (mj_ext G k) (mj_sL k) (fun j => .int (mj_sV k j)) (mj_A G) U H) ∧ va_X (mj_ext G 7) (mj_len0 G) (mj_xs G) U H ∧ mj_ext G 7 < mj_base G
def mj_WH (G : mj_G) (h : mj_H) (H : Heap) : Prop :=
  (∀ k, 8 ≤ k → k < h.1 → (mj_K h k).1 = 19 ∨ va_at (mj_D G) vwCl (mj_Bg G k, mj_cell (mj_cy G) (mj_Bg G) h k) H) ∧ H.size + 8 = mj_base G + h.1 ∧ 8 ≤ h.1 ∧ (∀ k, h.1 ≤ k → (mj_K h k).1 = 99) ∧
  (∀ k, k < 7 → mj_K h k = (12, mj_sL k) ∧ ∀ j, j < mj_sL k → mj_I h k j = mj_sV k j) ∧ mj_K h 7 = (12, mj_len0 G) ∧ ∀ j, j < mj_len0 G → mj_I h 7 j = mj_xs G j
theorem mj_Bg8 {G : mj_G} {k : Nat} (h : 8 ≤ k) : mj_Bg G k = mj_base G + (k - 8) := by
  unfold mj_Bg mj_B
  rw [if_neg (by omega)]
theorem mj_Bg_inj {G : mj_G} {k q : Nat} (h : 8 ≤ k) (h2 : 8 ≤ q) (e : mj_Bg G k = mj_Bg G q) : k = q := by
  rw [mj_Bg8 h, mj_Bg8 h2] at e
  omega
theorem mj_cell_congr {cy : Nat → ClassId} {B : Nat → Nat} {h h' : mj_H} {k : Nat} (e1 : mj_K h' k = mj_K h k) (e2 : mj_I h' k = mj_I h k) (e3 : mj_J h' k = mj_J h k) (e4 : mj_R h' k = mj_R h k) : mj_cell cy B h' k = mj_cell cy B h k := by
  unfold mj_cell mj_fs mj_fv
  rw [e1, e2, e3, e4]
theorem mj_WH.low {G : mj_G} {h : mj_H} {H : Heap} (w : mj_WH G h H) {k : Nat} (hk : k < 8) : (mj_K h k).1 = 12 := by
  by_cases h7 : k < 7
  · rw [(w.2.2.2.2.1 k h7).1]
  · have : k = 7 := by omega
    subst this
    rw [w.2.2.2.2.2.1]
theorem mj_WH.at {G : mj_G} {h : mj_H} {H : Heap} (w : mj_WH G h H) {k : Nat} (h8 : 8 ≤ k) (h1 : (mj_K h k).1 ≠ 19) (h2 : (mj_K h k).1 ≠ 99) : k < h.1 ∧ va_at (mj_D G) vwCl (mj_Bg G k, mj_cell (mj_cy G) (mj_Bg G) h k) H := by
  have hk : k < h.1 := Nat.not_le.mp fun q => h2 (w.2.2.2.1 k q)
  exact ⟨hk, (w.1 k h8 hk).resolve_left h1⟩
theorem mj_WH.obj {G : mj_G} {h : mj_H} {H : Heap} (w : mj_WH G h H) {k kd : Nat} (hk : (mj_K h k).1 = kd) (h12 : kd < 12) : 8 ≤ k ∧ k < h.1 ∧ va_at (mj_D G) vwCl (mj_Bg G k, .inr (kd, mj_fs (mj_Bg G) h kd k)) H := by
  have h8 : 8 ≤ k := Nat.not_lt.mp fun q => by have := w.low q; omega
  obtain ⟨h1, h2⟩ := w.at h8 (by omega) (by omega)
  refine ⟨h8, h1, ?_⟩
  unfold mj_cell at h2
  rw [if_pos (by omega), hk] at h2
  exact h2
theorem mj_WH.arr {G : mj_G} {h : mj_H} {H : Heap} (w : mj_WH G h H) {k : Nat} (h8 : 8 ≤ k) (hk : 12 ≤ (mj_K h k).1) (hk2 : (mj_K h k).1 ≤ 18) : k < h.1 ∧ va_at (mj_D G) vwCl (mj_Bg G k, mj_cell (mj_cy G) (mj_Bg G) h k) H := w.at h8 (by omega) (by omega)
theorem mj_cell12 {cy : Nat → ClassId} {B : Nat → Nat} {h : mj_H} {k : Nat} (e : (mj_K h k).1 = 12) : mj_cell cy B h k = .inl (cy 12, (mj_K h k).2, .inl (mj_I h k)) := by
  unfold mj_cell; rw [if_neg (by omega), if_pos e]
theorem mj_cell13 {cy : Nat → ClassId} {B : Nat → Nat} {h : mj_H} {k : Nat} (e : (mj_K h k).1 = 13) : mj_cell cy B h k = .inl (cy 13, (mj_K h k).2, .inr (.inl (mj_J h k))) := by
  unfold mj_cell; rw [if_neg (by omega), if_neg (by omega), if_pos e]
theorem mj_cell14 {cy : Nat → ClassId} {B : Nat → Nat} {h : mj_H} {k : Nat} (e : (mj_K h k).1 = 14) : mj_cell cy B h k = .inl (cy 14, (mj_K h k).2, .inl (mj_I h k)) := by
  unfold mj_cell; rw [if_neg (by omega), if_neg (by omega), if_neg (by omega), if_pos e]
theorem mj_cellR {cy : Nat → ClassId} {B : Nat → Nat} {h : mj_H} {k : Nat} (e : 15 ≤ (mj_K h k).1) : mj_cell cy B h k = .inl (cy (mj_K h k).1, (mj_K h k).2, .inr (.inr (.inr (.inr (fun j => (mj_R h k j).map B))))) := by
  unfold mj_cell; rw [if_neg (by omega), if_neg (by omega), if_neg (by omega), if_neg (by omega)]
theorem mj_one {D : va_G} {cl : List vw_C} {q : Nat × va_E} {H : Heap} (h : va_at D cl q H) : va_P D cl [q] H := by
  intro k x hk
  have hz : k < 1 := (List.getElem?_eq_some_iff.mp hk).1
  rw [show k = 0 by omega] at hk
  cases hk
  exact h
/-- one cell written, all others as they were -/
theorem mj_WH.upd {G : mj_G} {h h' : mj_H} {H H1 : Heap} {k : Nat} (w : mj_WH G h H) (h8 : 8 ≤ k) (e1 : h'.1 = h.1) (eK : mj_K h' = mj_K h) (eI : ∀ a, a ≠ k → mj_I h' a = mj_I h a) (eJ : ∀ a, a ≠ k → mj_J h' a = mj_J h a) (eR : ∀ a, a ≠ k → mj_R h' a = mj_R h a)
    (hz : H1.size = H.size) (ho : ∀ q, q ≠ mj_Bg G k → H1[q]? = H[q]?) (hn : va_at (mj_D G) vwCl (mj_Bg G k, mj_cell (mj_cy G) (mj_Bg G) h' k) H1) : mj_WH G h' H1 := by
  obtain ⟨w1, w2, w3, w4, w5, w6, w7⟩ := w
  refine ⟨fun q hq1 hq2 => ?_, by rw [hz, e1]; exact w2, by rw [e1]; exact w3, fun q hq => by rw [eK]; exact w4 q (by rw [← e1]; exact hq), fun q hq => ?_, by rw [eK]; exact w6, fun j hj => by rw [eI 7 (by omega)]; exact w7 j hj⟩
  · by_cases hqk : q = k
    · subst hqk
      exact Or.inr hn
    · rw [eK]
      rcases w1 q hq1 (by rw [← e1]; exact hq2) with hh | hh
      · exact Or.inl hh
      · refine Or.inr ?_
        rw [mj_cell_congr (h := h) (h' := h') (by rw [eK]) (eI q hqk) (eJ q hqk) (eR q hqk)]
        exact hh.kept (ho _ (fun z => hqk (mj_Bg_inj hq1 h8 z)))
  · rw [eK, eI q (by omega)]
    exact w5 q hq
/-- a new cell -/
theorem mj_WH.grow {G : mj_G} {h : mj_H} {H H1 : Heap} {kd len : Nat} (w : mj_WH G h H) (hz : H1.size = H.size + 1) (ho : ∀ q, q < H.size → H1[q]? = H[q]?) (hn : kd = 19 ∨ va_at (mj_D G) vwCl (mj_Bg G h.1, mj_cell (mj_cy G) (mj_Bg G) (mj_new h kd len) h.1) H1) : mj_WH G (mj_new h kd len) H1 := by
  obtain ⟨w1, w2, w3, w4, w5, w6, w7⟩ := w
  have eq : ∀ q, q ≠ h.1 → mj_K (mj_new h kd len) q = mj_K h q ∧ mj_I (mj_new h kd len) q = mj_I h q ∧ mj_J (mj_new h kd len) q = mj_J h q ∧ mj_R (mj_new h kd len) q = mj_R h q := by
    intro q hq
    simp [mj_new, mj_K, mj_I, mj_J, mj_R, hq]
  have es : (mj_K (mj_new h kd len) h.1).1 = kd := by simp [mj_new, mj_K]
  refine ⟨fun q hq1 hq2 => ?_, by show H1.size + 8 = mj_base G + (h.1 + 1); omega, by show 8 ≤ h.1 + 1; omega, fun q hq => ?_, fun q hq => ?_, by rw [(eq 7 (by omega)).1]; exact w6, fun j hj => by rw [(eq 7 (by omega)).2.1]; exact w7 j hj⟩
  · by_cases hqk : q = h.1
    · subst hqk
      rcases hn with h1 | h1
      · exact Or.inl (es.trans h1)
      · exact Or.inr h1
    · have hlt : q < h.1 := by have : q < h.1 + 1 := hq2; omega
      obtain ⟨a1, a2, a3, a4⟩ := eq q hqk
      rw [a1]
      rcases w1 q hq1 hlt with h1 | h1
      · exact Or.inl h1
      · refine Or.inr ?_
        rw [mj_cell_congr (h := h) a1 a2 a3 a4]
        exact h1.kept (ho _ h1.lt)
  · have hq' : h.1 + 1 ≤ q := hq
    rw [(eq q (by omega)).1]
    exact w4 q (by omega)
  · rw [(eq q (by omega)).1, (eq q (by omega)).2.1]
    exact w5 q hq
/-! locals -/
def mj_lv (B : Nat → Nat) (ls : List Value) : List (Nat × Value) := (List.range ls.length).filterMap fun i => match ls[i]? with
  | some v => if mj_kn v then some (i, mj_rl B v) else none
  | none => none
theorem mj_lv_mem {B : Nat → Nat} {ls : List Value} {q : Nat × Value} : q ∈ mj_lv B ls ↔ ∃ v, ls[q.1]? = some v ∧ mj_kn v = true ∧ q.2 = mj_rl B v := by
  unfold mj_lv
  rw [List.mem_filterMap]
  constructor
  · rintro ⟨i, hi, h⟩
    split at h
    · rename_i v hv
      split at h
      · rename_i hk
        cases h
        exact ⟨v, hv, hk, rfl⟩
      · cases h
    · cases h
  · rintro ⟨v, hv, hk, h2⟩
    refine ⟨q.1, List.mem_range.mpr (List.getElem?_eq_some_iff.mp hv).1, ?_⟩
    rw [hv]
    simp only [hk, if_true]
    rw [← h2]
def mj_L (G : mj_G) (la : Array Slot) (nL : Nat) (ls : List Value) : Prop := lv_has la nL (mj_lv (mj_Bg G) ls) ∧ ls.length = nL
theorem mj_L.get {G : mj_G} {la : Array Slot} {nL : Nat} {ls : List Value} (h : mj_L G la nL ls) {i : Nat} {v : Value} (hv : ls[i]? = some v) (hk : mj_kn v = true) : la[i]? = some (.val (mj_rl (mj_Bg G) v)) :=
  h.1.2.2 (i, mj_rl (mj_Bg G) v) (mj_lv_mem.mpr ⟨v, hv, hk, rfl⟩)
theorem mj_L.set {G : mj_G} {la la' : Array Slot} {nL : Nat} {ls : List Value} (h : mj_L G la nL ls) {i : Nat} {v : Value} (hi : i < ls.length) (h' : lv_has la' nL ((i, mj_rl (mj_Bg G) v) :: (mj_lv (mj_Bg G) ls).filter (fun q => !(q.1 == i) && !(q.1 + 1 == i && q.2.category == 2)))) : mj_L G la' nL (ls.set i v) := by
  refine ⟨⟨h'.1, h'.2.1, fun q hq => ?_⟩, by rw [List.length_set]; exact h.2⟩
  obtain ⟨w, hw, hk, he⟩ := mj_lv_mem.mp hq
  by_cases hqi : q.1 = i
  · rw [hqi, List.getElem?_set_self hi] at hw
    cases hw
    have := h'.2.2 (i, mj_rl (mj_Bg G) v) List.mem_cons_self
    rw [hqi, he]
    exact this
  · rw [List.getElem?_set_ne (fun z => hqi z.symm)] at hw
    refine h'.2.2 q (List.mem_cons_of_mem _ (List.mem_filter.mpr ⟨mj_lv_mem.mpr ⟨w, hw, hk, he⟩, ?_⟩))
    have hc : q.2.category = 1 := by
      rw [he, mj_rl_cat]
      cases w <;> first | rfl | cases hk
    simp [hqi, hc]
theorem mj_args_mem {B : Nat → Nat} : ∀ (vs : List Value) (o : Nat), (∀ v ∈ vs, mj_kn v = true) → ∀ (i : Nat) (v : Value), vs[i]? = some v → (o + i, mj_rl B v) ∈ lv_args o (vs.map (mj_rl B)) := by
  intro vs
  induction vs with
  | nil => intro o _ i v h; simp at h
  | cons a r ih =>
    intro o hk i v h
    have hc : ¬ (mj_rl B a).category = 2 := by
      rw [mj_rl_cat]
      have := hk a List.mem_cons_self
      cases a <;> simp [mj_kn, Value.category] at this ⊢
    rw [List.map_cons, lv_args, if_neg hc]
    cases i with
    | zero =>
      rw [List.getElem?_cons_zero] at h
      cases h
      exact List.mem_cons_self
    | succ i =>
      rw [List.getElem?_cons_succ] at h
      have := ih (o + 1) (fun v hv => hk v (List.mem_cons_of_mem _ hv)) i v h
      rw [show o + (i + 1) = o + 1 + i by omega]
      exact List.mem_cons_of_mem _ this
theorem mj_sl_len {B : Nat → Nat} : ∀ (vs : List Value), (∀ v ∈ vs, mj_kn v = true) → (lg_sl (vs.map (mj_rl B))).length = vs.length := by
  intro vs
  induction vs with
  | nil => intro _; rfl
  | cons a r ih =>
    intro hk
    have h1 := ih (fun v hv => hk v (List.mem_cons_of_mem _ hv))
    have h2 := hk a List.mem_cons_self
    unfold lg_sl at h1 ⊢
    rw [List.map_cons, List.flatMap_cons, List.length_append, h1, List.length_cons]
    cases a <;> first | (simp [mj_rl, Value.category]; omega) | cases h2
theorem mj_L.entry {G : mj_G} {vs : List Value} {n : Nat} (hn : vs.length ≤ n) (hk : ∀ v ∈ vs, mj_kn v = true) : mj_L G ((lg_sl (vs.map (mj_rl (mj_Bg G))) ++ List.replicate (n - (lg_sl (vs.map (mj_rl (mj_Bg G)))).length) Slot.unset).toArray) n (vs ++ List.replicate (n - vs.length) mj_unset) := by
  have h0 := lv_entry (vs.map (mj_rl (mj_Bg G))) (n := n) (by rw [mj_sl_len vs hk]; exact hn)
  refine ⟨⟨h0.1, h0.2.1, fun q hq => ?_⟩, by simp; omega⟩
  obtain ⟨w, hw, hkw, he⟩ := mj_lv_mem.mp hq
  by_cases hl : q.1 < vs.length
  · rw [List.getElem?_append_left hl] at hw
    have := mj_args_mem (B := mj_Bg G) vs 0 hk q.1 w hw
    rw [Nat.zero_add] at this
    have h3 := h0.2.2 _ this
    rw [he]
    exact h3
  · rw [List.getElem?_append_right (by omega)] at hw
    have := List.eq_of_mem_replicate (List.mem_of_getElem? hw)
    rw [this] at hkw
    cases hkw
