/-! THE START: the tables' numbers, the static rows, the script; the law's walk from its entry -/
theorem ws_inst : (List.range 12).all (fun k => mj_in (.instantiable (mj_kc k).1 (mj_nf k))) = true := by decide +kernel
theorem ws_D {s : State} {args : Array Value} (hts : ∀ w ∈ mj_tb, w.before args s = true) : ∃ D : va_G, ∀ (k : Nat) (q : vw_C), vwCl[k]? = some q → u_Kn s q.1 q.2.1 q.2.2 (D.1 k) (D.2 k) := by
  have hex : ∀ k, k < 12 → ∃ (cC : ClassId) (iS : Nat → Nat), u_Kn s (mj_kc k).1 (mj_kc k).2.1 (mj_kc k).2.2 cC iS := fun k hk => u_known (n := mj_nf k) hts (mj_lay_in hk) (hts _ (mj_in_tb (List.all_eq_true.mp ws_inst k (List.mem_range.mpr hk))))
  refine ⟨(fun k => if hk : k < 12 then Classical.choose (hex k hk) else 0, fun k => if hk : k < 12 then Classical.choose (Classical.choose_spec (hex k hk)) else fun _ => 0), fun k q hq => ?_⟩
  have hk : k < 12 := (List.getElem?_eq_some_iff.mp hq).1
  rw [mj_kc_at hk] at hq
  cases hq
  show u_Kn s (mj_kc k).1 (mj_kc k).2.1 (mj_kc k).2.2 (if hk : k < 12 then Classical.choose (hex k hk) else 0) (if hk : k < 12 then Classical.choose (Classical.choose_spec (hex k hk)) else fun _ => 0)
  rw [dif_pos hk, dif_pos hk]
  exact Classical.choose_spec (Classical.choose_spec (hex k hk))
theorem ws_ac {s : State} {args : Array Value} {ty : FieldType} (h : (Cond.arrayClass ty).before args s = true) : ∃ cA : ClassId, s.vm.findClass ("[" ++ ty.toString) = some cA ∧ ArrOfT s cA ty := by
  obtain ⟨cA, kA, comp, h1, h2, h3⟩ := Cond.arrayClass_spec h
  exact ⟨cA, h1, fun n z => ⟨fun k h => (by cases h), kA, h2, comp, h3⟩⟩
theorem ws_ao {s : State} {args : Array Value} {C : String} (h : (Cond.arrayOver (.object C)).before args s = true) : ∃ cA : ClassId, ArrOfT s cA (.object C) ∧ va_RA s cA (.object C) := by
  obtain ⟨comp, cA, kA, h1, -, h2, h3, h4⟩ := Cond.arrayOver_spec h
  exact ⟨cA, fun n z => ⟨fun k h => (by cases h), kA, h2, comp, h3⟩, kA, comp, h2, h3, h1, h4⟩
theorem ws_ao3 : Cond.arrayOver (.object RX3) ∈ lw_tbl := of_decide_eq_true (by decide +kernel)
theorem ws_ao4 : Cond.arrayOver (.object RX4) ∈ lw_tbl := of_decide_eq_true (by decide +kernel)
theorem ws_ao6 : Cond.arrayOver (.object RX6) ∈ lw_tbl := of_decide_eq_true (by decide +kernel)
theorem ws_ao9 : Cond.arrayOver (.object RX9) ∈ lw_tbl := of_decide_eq_true (by decide +kernel)
theorem ws_ai : Cond.arrayClass .int ∈ lw_tbl := of_decide_eq_true (by decide +kernel)
theorem ws_al : Cond.arrayClass .long ∈ lw_tbl := of_decide_eq_true (by decide +kernel)
theorem ws_az : Cond.arrayClass .boolean ∈ lw_tbl := of_decide_eq_true (by decide +kernel)
theorem ws_TB {s : State} {args : Array Value} (hts : ∀ w ∈ lw_tbl, w.before args s = true) : ∃ (D : va_G) (cy : Nat → ClassId), va_K D vwCl (mj_tys cy) s := by
  obtain ⟨D, hD⟩ := ws_D (s := s) (args := args) (fun w hw => hts w (List.mem_filter.mp hw).1)
  obtain ⟨c12, n12, a12⟩ := ws_ac (hts _ ws_ai)
  obtain ⟨c13, n13, a13⟩ := ws_ac (hts _ ws_al)
  obtain ⟨c14, n14, a14⟩ := ws_ac (hts _ ws_az)
  obtain ⟨c15, a15, r15⟩ := ws_ao (hts _ ws_ao3)
  obtain ⟨c16, a16, r16⟩ := ws_ao (hts _ ws_ao4)
  obtain ⟨c17, a17, r17⟩ := ws_ao (hts _ ws_ao6)
  obtain ⟨c18, a18, r18⟩ := ws_ao (hts _ ws_ao9)
  refine ⟨D, fun k => if k = 12 then c12 else if k = 13 then c13 else if k = 14 then c14 else if k = 15 then c15 else if k = 16 then c16 else if k = 17 then c17 else c18, hD, fun k q hq => ?_⟩
  match k, hq with
  | 0, hq => cases hq; exact ⟨a12, n12⟩
  | 1, hq => cases hq; exact ⟨a13, n13⟩
  | 2, hq => cases hq; exact ⟨a14, n14⟩
  | 3, hq => cases hq; exact ⟨a15, r15⟩
  | 4, hq => cases hq; exact ⟨a16, r16⟩
  | 5, hq => cases hq; exact ⟨a17, r17⟩
  | 6, hq => cases hq; exact ⟨a18, r18⟩
  | k + 7, hq => simp [mj_tys] at hq
def ws_F : List Cond := flatC (Jvm.Cond.and given_1 narrow_1)
def ws_t (k : Nat) : Term := .static (mj_sC k) (mj_sN k) "[I"
def ws_okS (k : Nat) : Bool := decide (Cond.arrayOf (ws_t k) .int ∈ ws_F) && decide (Cond.eq (.length (ws_t k)) (.int (Int32.ofNat (mj_sL k))) ∈ ws_F) && (List.range (mj_sL k)).all (fun j => decide (Cond.eq (.elem (ws_t k) (.int (Int32.ofNat j))) (.int (mj_sV k j)) ∈ ws_F)) && decide (Cond.laysStatic (mj_sC k) (mj_sN k) "[I" ∈ lw_tbl) && decide (Cond.initialized (mj_sC k) ∈ lw_tbl) && decide (mj_sL k < 2 ^ 31)
theorem ws_ok : (List.range 7).all ws_okS = true := by decide +kernel
theorem ws_stat {s : State} {args : Array Value} {A : Nat → Prop} (hts : ∀ w ∈ lw_tbl, w.before args s = true) (hF : ∀ w ∈ ws_F, w.before args s = true) (hA : ∀ a : Nat, a < s.heap.size → ¬ A a) {k : Nat} (hk : k < 7) : ∃ t : Nat, va_Z (mj_sC k) (mj_sN k) "[I" (.ref t) A s s.heap ∧ va_T .int t (mj_sL k) (fun j => .int (mj_sV k j)) A s s.heap := by
  have h := List.all_eq_true.mp ws_ok k (List.mem_range.mpr hk)
  simp only [ws_okS, Bool.and_eq_true, decide_eq_true_eq] at h
  obtain ⟨⟨⟨⟨⟨h1, h2⟩, h3⟩, h4⟩, h5⟩, h6⟩ := h
  obtain ⟨t, e1, e2⟩ := va_Tof (tm := ws_t k) (f := fun j => .int (mj_sV k j)) (A := A) h6 (hF _ h1) (va_eqt (hF _ h2)) (fun j hj => va_eqt (hF _ (of_decide_eq_true (List.all_eq_true.mp h3 j (List.mem_range.mpr hj))))) hA
  exact ⟨t, va_Zof (hts _ h4) (hts _ h5) e1 hA, e2⟩
theorem ws_u1 : Cond.isRef (.static Bundle.tN "UNASSIGNED_STACK" Bundle.steD) ∈ ws_F := of_decide_eq_true (by decide +kernel)
theorem ws_u2 : Cond.isRef (.static Bundle.tN "SUPPRESSED_SENTINEL" Bundle.listD) ∈ ws_F := of_decide_eq_true (by decide +kernel)
theorem ws_u3 : Cond.laysStatic Bundle.tN "UNASSIGNED_STACK" Bundle.steD ∈ lw_tbl := of_decide_eq_true (by decide +kernel)
theorem ws_u4 : Cond.laysStatic Bundle.tN "SUPPRESSED_SENTINEL" Bundle.listD ∈ lw_tbl := of_decide_eq_true (by decide +kernel)
theorem ws_u5 : Cond.initialized Bundle.tN ∈ lw_tbl := of_decide_eq_true (by decide +kernel)
/-- the machine's first heap: the static rows and the script -/
def ws_h (L : Nat) (xs : Nat → Int32) : mj_H := (8, 0, (fun k => if k < 7 then (12, mj_sL k) else if k = 7 then (12, L) else (99, 0)), (fun k j => if k < 7 then mj_sV k j else if k = 7 then xs j else 0), (fun _ _ => 0), (fun _ _ => none))
theorem ws_K {L : Nat} {xs : Nat → Int32} {k : Nat} (hk : k < 7) : mj_K (ws_h L xs) k = (12, mj_sL k) := if_pos hk
theorem ws_K7 {L : Nat} {xs : Nat → Int32} : mj_K (ws_h L xs) 7 = (12, L) := rfl
theorem ws_I {L : Nat} {xs : Nat → Int32} {k : Nat} (hk : k < 7) : mj_I (ws_h L xs) k = mj_sV k := by
  funext j
  exact if_pos hk
theorem ws_I7 {L : Nat} {xs : Nat → Int32} : mj_I (ws_h L xs) 7 = xs := rfl
theorem ws_ret {i : Instr} {st : List Value} (h : mj_ret (some .boolean) i st = some (some (.int 1))) : i = .ireturn ∧ st = [.int 1] := by
  unfold mj_ret at h
  split at h
  · split at h
    · cases h
    · cases h
  · split at h
    · rename_i q; cases q
    · split at h
      · cases h
        exact ⟨rfl, rfl⟩
      · cases h
    · cases h
  · split at h
    · split at h
      · cases h
      · cases h
    · split at h
      · cases h
      · cases h
    · cases h
  · cases h
theorem ws_b : mj_b 176 = code := if_pos rfl
theorem ws_r : mj_r 176 = some .boolean := rfl
theorem ws_mL : mj_maxL 176 = 7 := rfl
