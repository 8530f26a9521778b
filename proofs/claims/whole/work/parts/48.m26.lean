theorem f_171_0 : mj_fetch 171 0 = some (.aload_n 0, 0, 0) := by decide +kernel
theorem f_171_1 : mj_fetch 171 1 = some (.getfield 84, 11, 42) := by decide +kernel
theorem f_171_4 : mj_fetch 171 4 = some (.iload_n 1, 0, 0) := by decide +kernel
theorem f_171_5 : mj_fetch 171 5 = some (.iaload, 0, 0) := by decide +kernel
theorem f_171_6 : mj_fetch 171 6 = some (.aload_n 0, 0, 0) := by decide +kernel
theorem f_171_7 : mj_fetch 171 7 = some (.getfield 84, 11, 42) := by decide +kernel
theorem f_171_10 : mj_fetch 171 10 = some (.iload_n 2, 0, 0) := by decide +kernel
theorem f_171_11 : mj_fetch 171 11 = some (.iaload, 0, 0) := by decide +kernel
theorem f_171_12 : mj_fetch 171 12 = some (.if_icmp .eq 8, 0, 0) := by decide +kernel
theorem f_171_15 : mj_fetch 171 15 = some (.bipush 10, 0, 0) := by decide +kernel
theorem f_171_17 : mj_fetch 171 17 = some (.goto 4, 0, 0) := by decide +kernel
theorem f_171_20 : mj_fetch 171 20 = some (.iconst 0, 0, 0) := by decide +kernel
theorem f_171_21 : mj_fetch 171 21 = some (.istore_n 3, 0, 0) := by decide +kernel
theorem f_171_22 : mj_fetch 171 22 = some (.iconst 0, 0, 0) := by decide +kernel
theorem f_171_23 : mj_fetch 171 23 = some (.istore 4, 0, 0) := by decide +kernel
theorem f_171_25 : mj_fetch 171 25 = some (.iload 4, 0, 0) := by decide +kernel
theorem f_171_27 : mj_fetch 171 27 = some (.iconst 3, 0, 0) := by decide +kernel
theorem f_171_28 : mj_fetch 171 28 = some (.if_icmp .ge 43, 0, 0) := by decide +kernel
theorem f_171_31 : mj_fetch 171 31 = some (.iload_n 3, 0, 0) := by decide +kernel
theorem f_171_32 : mj_fetch 171 32 = some (.iconst 3, 0, 0) := by decide +kernel
theorem f_171_33 : mj_fetch 171 33 = some (.iload 4, 0, 0) := by decide +kernel
theorem f_171_35 : mj_fetch 171 35 = some (.isub, 0, 0) := by decide +kernel
theorem f_171_36 : mj_fetch 171 36 = some (.aload_n 0, 0, 0) := by decide +kernel
theorem f_171_37 : mj_fetch 171 37 = some (.getfield 87, 11, 43) := by decide +kernel
theorem f_171_40 : mj_fetch 171 40 = some (.iload_n 1, 0, 0) := by decide +kernel
theorem f_171_41 : mj_fetch 171 41 = some (.iaload, 0, 0) := by decide +kernel
theorem f_171_42 : mj_fetch 171 42 = some (.iload 4, 0, 0) := by decide +kernel
theorem f_171_44 : mj_fetch 171 44 = some (.invokestatic 137, 125, 0) := by decide +kernel
theorem f_171_47 : mj_fetch 171 47 = some (.aload_n 0, 0, 0) := by decide +kernel
theorem f_171_48 : mj_fetch 171 48 = some (.getfield 87, 11, 43) := by decide +kernel
theorem f_171_51 : mj_fetch 171 51 = some (.iload_n 2, 0, 0) := by decide +kernel
theorem f_171_52 : mj_fetch 171 52 = some (.iaload, 0, 0) := by decide +kernel
theorem f_171_53 : mj_fetch 171 53 = some (.iload 4, 0, 0) := by decide +kernel
theorem f_171_55 : mj_fetch 171 55 = some (.invokestatic 137, 125, 0) := by decide +kernel
theorem f_171_58 : mj_fetch 171 58 = some (.isub, 0, 0) := by decide +kernel
theorem f_171_59 : mj_fetch 171 59 = some (.invokestatic 246, 0, 4) := by decide +kernel
theorem f_171_62 : mj_fetch 171 62 = some (.imul, 0, 0) := by decide +kernel
theorem f_171_63 : mj_fetch 171 63 = some (.iadd, 0, 0) := by decide +kernel
theorem f_171_64 : mj_fetch 171 64 = some (.istore_n 3, 0, 0) := by decide +kernel
theorem f_171_65 : mj_fetch 171 65 = some (.iinc 4 1, 0, 0) := by decide +kernel
theorem f_171_68 : mj_fetch 171 68 = some (.goto (-43), 0, 0) := by decide +kernel
theorem f_171_71 : mj_fetch 171 71 = some (.iload_n 3, 0, 0) := by decide +kernel
theorem f_171_72 : mj_fetch 171 72 = some (.ireturn, 0, 0) := by decide +kernel
/-! THE CHEAPEST ORDER -/
def es (h : mj_H) (a : Nat) : Nat := (mj_I h 59 a).toNatClampNeg
def EI (h : mj_H) (a : Nat) : Prop := mj_I h 59 a = nI (es h a) ∧ es h a < 729
def chg (h : mj_H) (a b : Nat) : Nat := (if mj_I h 58 a = mj_I h 58 b then 0 else 10) + 3 * ad (mm_pt (es h a) 0 + 1) (mm_pt (es h b) 0 + 1) + 2 * ad (mm_pt (es h a) 1 + 1) (mm_pt (es h b) 1 + 1) + 1 * ad (mm_pt (es h a) 2 + 1) (mm_pt (es h b) 2 + 1)
/-- what a list of entries costs -/
def cst (c : Nat → Nat → Nat) : List Nat → Nat
  | [] => 0
  | [_] => 0
  | a :: b :: r => c a b + cst c (b :: r)
theorem cst_le (c : Nat → Nat → Nat) : ∀ (p r : List Nat), cst c p ≤ cst c (p ++ r)
  | [], _ => Nat.zero_le _
  | [_], _ => Nat.zero_le _
  | a :: b :: t, r => by
    show c a b + cst c (b :: t) ≤ c a b + cst c (b :: t ++ r)
    have := cst_le c (b :: t) r
    omega
theorem cst_bd {c : Nat → Nat → Nat} {m n : Nat} (hc : ∀ a b, a < n → b < n → c a b ≤ m) : ∀ (p : List Nat), (∀ x, x ∈ p → x < n) → cst c p ≤ m * p.length
  | [], _ => Nat.zero_le _
  | [_], _ => Nat.zero_le _
  | a :: b :: t, hp => by
    have h1 := cst_bd hc (b :: t) (fun x hx => hp x (List.mem_cons_of_mem _ hx))
    have h2 := hc a b (hp a (by simp)) (hp b (by simp))
    show c a b + cst c (b :: t) ≤ m * ((b :: t).length + 1)
    rw [Nat.mul_succ]
    omega
theorem cst_snoc0 {c : Nat → Nat → Nat} {p : List Nat} {i : Nat} (hp : p.length = 0) : cst c p + 0 = cst c (p ++ [i]) := by
  cases p with
  | nil => rfl
  | cons a r => exact absurd hp (by simp)
theorem cst_snoc {c : Nat → Nat → Nat} : ∀ {p : List Nat} {i : Nat}, ¬ p.length = 0 → cst c p + c (p.getD (p.length - 1) 0) i = cst c (p ++ [i])
  | [], _, h => absurd rfl h
  | [a], i, _ => by show 0 + c a i = c a i + 0; omega
  | a :: b :: t, i, _ => by
    have k := cst_snoc (c := c) (p := b :: t) (i := i) (by simp)
    show c a b + cst c (b :: t) + c ((b :: t).getD ((b :: t).length - 1) 0) i = c a b + cst c (b :: t ++ [i])
    omega
/-- not behind, letter by letter -/
def lx : List Nat → List Nat → Prop
  | [], _ => True
  | _ :: _, [] => False
  | a :: r, b :: t => a < b ∨ (a = b ∧ lx r t)
/-- truly ahead of all that begins so -/
def bf : List Nat → List Nat → Prop
  | a :: r, b :: t => a < b ∨ (a = b ∧ bf r t)
  | [], _ => False
  | _ :: _, [] => False
theorem lx_rf : ∀ l, lx l l
  | [] => trivial
  | a :: r => Or.inr ⟨rfl, lx_rf r⟩
theorem lx_anti : ∀ {a b : List Nat}, a.length = b.length → lx a b → lx b a → a = b
  | [], [], _, _, _ => rfl
  | [], _ :: _, h, _, _ => by simp at h
  | _ :: _, [], h, _, _ => by simp at h
  | a :: r, b :: t, h, h1, h2 => by
    have k1 : a < b ∨ (a = b ∧ lx r t) := h1
    have k2 : b < a ∨ (b = a ∧ lx t r) := h2
    have hl : r.length = t.length := by simpa using h
    rcases k1 with k1 | ⟨e1, k1⟩
    · rcases k2 with k2 | ⟨e, _⟩ <;> omega
    · rcases k2 with k2 | ⟨_, k2⟩
      · omega
      · rw [lx_anti hl k1 k2, e1]
theorem bf_app : ∀ {b p : List Nat} (r : List Nat), bf b p → bf b (p ++ r)
  | [], _, _, h => h.elim
  | _ :: _, [], _, h => h.elim
  | a :: s, b :: t, r, h => by
    rcases (show a < b ∨ (a = b ∧ bf s t) from h) with h | ⟨h1, h2⟩
    · exact Or.inl h
    · exact Or.inr ⟨h1, bf_app r h2⟩
theorem bf_lx : ∀ {b p : List Nat}, bf b p → lx b p
  | [], _, h => h.elim
  | _ :: _, [], h => h.elim
  | a :: s, b :: t, h => by
    rcases (show a < b ∨ (a = b ∧ bf s t) from h) with h | ⟨h1, h2⟩
    · exact Or.inl h
    · exact Or.inr ⟨h1, bf_lx h2⟩
theorem bf_pre {i j : Nat} (h : i < j) (r : List Nat) : ∀ p : List Nat, bf (p ++ i :: r) (p ++ [j])
  | [] => Or.inl h
  | a :: p => Or.inr ⟨rfl, bf_pre h r p⟩
/-- an order of all entries -/
def Pm (n : Nat) (l : List Nat) : Prop := l.length = n ∧ l.Nodup ∧ ∀ x, x ∈ l → x < n
def Dq (c : Nat → Nat → Nat) (best : Option (List Nat)) (l : List Nat) : Prop := ∃ b, best = some b ∧ (cst c b < cst c l ∨ (cst c b = cst c l ∧ lx b l))
/-- the cheapest order, the first of such -/
def OS (c : Nat → Nat → Nat) (n : Nat) (b : List Nat) : Prop := Pm n b ∧ ∀ l, Pm n l → Dq c (some b) l
theorem OS_one {c : Nat → Nat → Nat} {n : Nat} {a b : List Nat} (ha : OS c n a) (hb : OS c n b) : a = b := by
  obtain ⟨x, hx, h1⟩ := ha.2 b hb.1
  obtain ⟨y, hy, h2⟩ := hb.2 a ha.1
  cases hx
  cases hy
  exact lx_anti (ha.1.1.trans hb.1.1.symm) (by rcases h1 with h1 | h1; rcases h2 with h2 | h2; omega; omega; exact h1.2) (by rcases h2 with h2 | h2; rcases h1 with h1 | h1; omega; omega; exact h2.2)
theorem bit_at : ∀ {m i : Nat}, m < 256 → i < 8 → (nI m >>> (nI i &&& 31)) &&& nI 1 = if m.testBit i = true then 1 else 0 := by
  have k : ∀ m, m < 256 → ∀ i, i < 8 → (nI m >>> (nI i &&& 31)) &&& nI 1 = if m.testBit i = true then 1 else 0 := by decide +kernel
  exact fun {m i} hm hi => k m hm i hi
theorem bit_or : ∀ {m i : Nat}, m < 256 → i < 8 → nI m ||| (nI 1 <<< (nI i &&& 31)) = nI (m ||| 2 ^ i) := by
  have k : ∀ m, m < 256 → ∀ i, i < 8 → nI m ||| (nI 1 <<< (nI i &&& 31)) = nI (m ||| 2 ^ i) := by decide +kernel
  exact fun {m i} hm hi => k m hm i hi
theorem bit_lt : ∀ {m i : Nat}, m < 256 → i < 8 → m ||| 2 ^ i < 256 := by
  have k : ∀ m, m < 256 → ∀ i, i < 8 → m ||| 2 ^ i < 256 := by decide +kernel
  exact fun {m i} hm hi => k m hm i hi
/-- the mask of a list -/
def Mk (m : Nat) (p : List Nat) : Prop := m < 256 ∧ ∀ i, i < 8 → (m.testBit i = true ↔ i ∈ p)
theorem Mk.snoc {m i : Nat} {p : List Nat} (h : Mk m p) (hi : i < 8) : Mk (m ||| 2 ^ i) (p ++ [i]) := by
  refine ⟨bit_lt h.1 hi, fun j hj => ?_⟩
  rw [Nat.testBit_or, Nat.testBit_two_pow, Bool.or_eq_true, h.2 j hj, List.mem_append, List.mem_singleton, decide_eq_true_iff]
  constructor
  · rintro (q | q)
    · exact Or.inl q
    · exact Or.inr q.symm
  · rintro (q | q)
    · exact Or.inl q
    · exact Or.inr q.symm

set_option maxRecDepth 20000 in
theorem c_change {h : mj_H} (S : SM h) {a b : Nat} (ha : a < 8) (hb : b < 8) (hA : EI h a) (hB : EI h b) : mxc 1 171 [.ref 33, .int (nI a), .int (nI b)] h (fun r h' => r = some (.int (nI (chg h a b))) ∧ h' = h) := by
  have hA2 := hA.2
  have hB2 := hB.2
  have p0 := mm_pt_lt (es h a) 0 hA2
  have p1 := mm_pt_lt (es h a) 1 hA2
  have p2 := mm_pt_lt (es h a) 2 hA2
  have q0 := mm_pt_lt (es h b) 0 hB2
  have q1 := mm_pt_lt (es h b) 1 hB2
  have q2 := mm_pt_lt (es h b) 2 hB2
  show mx 1 171 0 [.ref 33, .int (nI a), .int (nI b), mj_unset, mj_unset] [] h _
  refine x_aload_n f_171_0 rfl ?_
  refine x_getR f_171_1 S.k33 (by decide) S.r42 ?_
  refine x_iload_n f_171_4 rfl ?_
  refine x_iald (j := a) f_171_5 S.k58 (by omega) (by decide) ?_
  refine x_aload_n f_171_6 rfl ?_
  refine x_getR f_171_7 S.k33 (by decide) S.r42 ?_
  refine x_iload_n f_171_10 rfl ?_
  refine x_iald (j := b) f_171_11 S.k58 (by omega) (by decide) ?_
  refine x_icmp_eq (t := 20) f_171_12 (by decide) (fun c_1 => ?_) (fun c_1 => ?_)
  · refine x_iconst (v := nI 0) f_171_20 (by decide) ?_
    refine x_istore_n (ls1 := [.ref 33, .int (nI a), .int (nI b), .int (nI 0), mj_unset]) f_171_21 (Nat.le_of_ble_eq_true rfl) rfl ?_
    refine x_iconst (v := nI 0) f_171_22 (by decide) ?_
    refine x_istore (ls1 := [.ref 33, .int (nI a), .int (nI b), .int (nI 0), .int (nI 0)]) f_171_23 (Nat.le_of_ble_eq_true rfl) rfl ?_
    refine x_iload f_171_25 rfl ?_
    refine x_iconst (v := nI 3) f_171_27 (by decide) ?_
    refine x_icmpN_ge (t := 71) f_171_28 (by decide) (by decide) (by decide) (fun c_2 => by omega) (fun c_2 => ?_)
    refine x_iload_n f_171_31 rfl ?_
    refine x_iconst (v := nI 3) f_171_32 (by decide) ?_
    refine x_iload f_171_33 rfl ?_
    refine x_isubN f_171_35 (by decide) ?_
    refine x_aload_n f_171_36 rfl ?_
    refine x_getR f_171_37 S.k33 (by decide) S.r43 ?_
    refine x_iload_n f_171_40 rfl ?_
    refine x_iald (j := a) f_171_41 S.k59 (by omega) (by decide) ?_
    refine x_topi (w := nI (es h a)) hA.1 ?_
    refine x_iload f_171_42 rfl ?_
    refine x_callSe f_171_44 (c_part _ _ _ (by omega) (by decide)) (by omega) rfl rfl rfl (Nat.le_of_ble_eq_true rfl) rfl ?_
    refine x_aload_n f_171_47 rfl ?_
    refine x_getR f_171_48 S.k33 (by decide) S.r43 ?_
    refine x_iload_n f_171_51 rfl ?_
    refine x_iald (j := b) f_171_52 S.k59 (by omega) (by decide) ?_
    refine x_topi (w := nI (es h b)) hB.1 ?_
    refine x_iload f_171_53 rfl ?_
    refine x_callSe f_171_55 (c_part _ _ _ (by omega) (by decide)) (by omega) rfl rfl rfl (Nat.le_of_ble_eq_true rfl) rfl ?_
    refine x_isub f_171_58 ?_
    refine x_abs f_171_59 (Nat.le_of_ble_eq_true rfl) ?_
    refine x_topi (w := nI (ad (mm_pt (es h a) 0 + 1) (mm_pt (es h b) 0 + 1))) (nI_abs (by omega) (by omega)) ?_
    refine x_imulN f_171_62 ?_
    refine x_iaddN f_171_63 ?_
    refine x_istore_n (ls1 := [.ref 33, .int (nI a), .int (nI b), .int (nI (0 + ((3 - 0) * (ad (mm_pt (es h a) 0 + 1) (mm_pt (es h b) 0 + 1))))), .int (nI 0)]) f_171_64 (Nat.le_of_ble_eq_true rfl) rfl ?_
    refine x_iinc (v := nI 1) (ls1 := [.ref 33, .int (nI a), .int (nI b), .int (nI (0 + ((3 - 0) * (ad (mm_pt (es h a) 0 + 1) (mm_pt (es h b) 0 + 1))))), .int (nI 1)]) f_171_65 rfl (by decide) rfl ?_
    refine x_goto (t := 25) f_171_68 (by decide) ?_
    refine x_iload f_171_25 rfl ?_
    refine x_iconst (v := nI 3) f_171_27 (by decide) ?_
    refine x_icmpN_ge (t := 71) f_171_28 (by decide) (by decide) (by decide) (fun c_3 => by omega) (fun c_3 => ?_)
    refine x_iload_n f_171_31 rfl ?_
    refine x_iconst (v := nI 3) f_171_32 (by decide) ?_
    refine x_iload f_171_33 rfl ?_
    refine x_isubN f_171_35 (by decide) ?_
    refine x_aload_n f_171_36 rfl ?_
    refine x_getR f_171_37 S.k33 (by decide) S.r43 ?_
    refine x_iload_n f_171_40 rfl ?_
    refine x_iald (j := a) f_171_41 S.k59 (by omega) (by decide) ?_
    refine x_topi (w := nI (es h a)) hA.1 ?_
    refine x_iload f_171_42 rfl ?_
    refine x_callSe f_171_44 (c_part _ _ _ (by omega) (by decide)) (by omega) rfl rfl rfl (Nat.le_of_ble_eq_true rfl) rfl ?_
    refine x_aload_n f_171_47 rfl ?_
    refine x_getR f_171_48 S.k33 (by decide) S.r43 ?_
    refine x_iload_n f_171_51 rfl ?_
    refine x_iald (j := b) f_171_52 S.k59 (by omega) (by decide) ?_
    refine x_topi (w := nI (es h b)) hB.1 ?_
    refine x_iload f_171_53 rfl ?_
    refine x_callSe f_171_55 (c_part _ _ _ (by omega) (by decide)) (by omega) rfl rfl rfl (Nat.le_of_ble_eq_true rfl) rfl ?_
    refine x_isub f_171_58 ?_
    refine x_abs f_171_59 (Nat.le_of_ble_eq_true rfl) ?_
    refine x_topi (w := nI (ad (mm_pt (es h a) 1 + 1) (mm_pt (es h b) 1 + 1))) (nI_abs (by omega) (by omega)) ?_
    refine x_imulN f_171_62 ?_
    refine x_iaddN f_171_63 ?_
    refine x_istore_n (ls1 := [.ref 33, .int (nI a), .int (nI b), .int (nI ((0 + ((3 - 0) * (ad (mm_pt (es h a) 0 + 1) (mm_pt (es h b) 0 + 1)))) + ((3 - 1) * (ad (mm_pt (es h a) 1 + 1) (mm_pt (es h b) 1 + 1))))), .int (nI 1)]) f_171_64 (Nat.le_of_ble_eq_true rfl) rfl ?_
    refine x_iinc (v := nI 2) (ls1 := [.ref 33, .int (nI a), .int (nI b), .int (nI ((0 + ((3 - 0) * (ad (mm_pt (es h a) 0 + 1) (mm_pt (es h b) 0 + 1)))) + ((3 - 1) * (ad (mm_pt (es h a) 1 + 1) (mm_pt (es h b) 1 + 1))))), .int (nI 2)]) f_171_65 rfl (by decide) rfl ?_
    refine x_goto (t := 25) f_171_68 (by decide) ?_
    refine x_iload f_171_25 rfl ?_
    refine x_iconst (v := nI 3) f_171_27 (by decide) ?_
    refine x_icmpN_ge (t := 71) f_171_28 (by decide) (by decide) (by decide) (fun c_4 => by omega) (fun c_4 => ?_)
    refine x_iload_n f_171_31 rfl ?_
    refine x_iconst (v := nI 3) f_171_32 (by decide) ?_
    refine x_iload f_171_33 rfl ?_
    refine x_isubN f_171_35 (by decide) ?_
    refine x_aload_n f_171_36 rfl ?_
    refine x_getR f_171_37 S.k33 (by decide) S.r43 ?_
    refine x_iload_n f_171_40 rfl ?_
    refine x_iald (j := a) f_171_41 S.k59 (by omega) (by decide) ?_
    refine x_topi (w := nI (es h a)) hA.1 ?_
    refine x_iload f_171_42 rfl ?_
    refine x_callSe f_171_44 (c_part _ _ _ (by omega) (by decide)) (by omega) rfl rfl rfl (Nat.le_of_ble_eq_true rfl) rfl ?_
    refine x_aload_n f_171_47 rfl ?_
    refine x_getR f_171_48 S.k33 (by decide) S.r43 ?_
    refine x_iload_n f_171_51 rfl ?_
    refine x_iald (j := b) f_171_52 S.k59 (by omega) (by decide) ?_
    refine x_topi (w := nI (es h b)) hB.1 ?_
    refine x_iload f_171_53 rfl ?_
    refine x_callSe f_171_55 (c_part _ _ _ (by omega) (by decide)) (by omega) rfl rfl rfl (Nat.le_of_ble_eq_true rfl) rfl ?_
    refine x_isub f_171_58 ?_
    refine x_abs f_171_59 (Nat.le_of_ble_eq_true rfl) ?_
    refine x_topi (w := nI (ad (mm_pt (es h a) 2 + 1) (mm_pt (es h b) 2 + 1))) (nI_abs (by omega) (by omega)) ?_
    refine x_imulN f_171_62 ?_
    refine x_iaddN f_171_63 ?_
    refine x_istore_n (ls1 := [.ref 33, .int (nI a), .int (nI b), .int (nI (((0 + ((3 - 0) * (ad (mm_pt (es h a) 0 + 1) (mm_pt (es h b) 0 + 1)))) + ((3 - 1) * (ad (mm_pt (es h a) 1 + 1) (mm_pt (es h b) 1 + 1)))) + ((3 - 2) * (ad (mm_pt (es h a) 2 + 1) (mm_pt (es h b) 2 + 1))))), .int (nI 2)]) f_171_64 (Nat.le_of_ble_eq_true rfl) rfl ?_
    refine x_iinc (v := nI 3) (ls1 := [.ref 33, .int (nI a), .int (nI b), .int (nI (((0 + ((3 - 0) * (ad (mm_pt (es h a) 0 + 1) (mm_pt (es h b) 0 + 1)))) + ((3 - 1) * (ad (mm_pt (es h a) 1 + 1) (mm_pt (es h b) 1 + 1)))) + ((3 - 2) * (ad (mm_pt (es h a) 2 + 1) (mm_pt (es h b) 2 + 1))))), .int (nI 3)]) f_171_65 rfl (by decide) rfl ?_
    refine x_goto (t := 25) f_171_68 (by decide) ?_
    refine x_iload f_171_25 rfl ?_
    refine x_iconst (v := nI 3) f_171_27 (by decide) ?_
    refine x_icmpN_ge (t := 71) f_171_28 (by decide) (by decide) (by decide) (fun c_5 => ?_) (fun c_5 => by omega)
    refine x_iload_n f_171_71 rfl ?_
    refine x_retI f_171_72 rfl ?_
    refine ⟨?_, rfl⟩
    unfold chg
    first | rw [if_pos c_1] | rw [if_neg c_1]
  · refine x_bipush (v := nI 10) f_171_15 (by decide) ?_
    refine x_goto (t := 21) f_171_17 (by decide) ?_
    refine x_istore_n (ls1 := [.ref 33, .int (nI a), .int (nI b), .int (nI 10), mj_unset]) f_171_21 (Nat.le_of_ble_eq_true rfl) rfl ?_
    refine x_iconst (v := nI 0) f_171_22 (by decide) ?_
    refine x_istore (ls1 := [.ref 33, .int (nI a), .int (nI b), .int (nI 10), .int (nI 0)]) f_171_23 (Nat.le_of_ble_eq_true rfl) rfl ?_
    refine x_iload f_171_25 rfl ?_
    refine x_iconst (v := nI 3) f_171_27 (by decide) ?_
    refine x_icmpN_ge (t := 71) f_171_28 (by decide) (by decide) (by decide) (fun c_6 => by omega) (fun c_6 => ?_)
    refine x_iload_n f_171_31 rfl ?_
    refine x_iconst (v := nI 3) f_171_32 (by decide) ?_
    refine x_iload f_171_33 rfl ?_
    refine x_isubN f_171_35 (by decide) ?_
    refine x_aload_n f_171_36 rfl ?_
    refine x_getR f_171_37 S.k33 (by decide) S.r43 ?_
    refine x_iload_n f_171_40 rfl ?_
    refine x_iald (j := a) f_171_41 S.k59 (by omega) (by decide) ?_
    refine x_topi (w := nI (es h a)) hA.1 ?_
    refine x_iload f_171_42 rfl ?_
    refine x_callSe f_171_44 (c_part _ _ _ (by omega) (by decide)) (by omega) rfl rfl rfl (Nat.le_of_ble_eq_true rfl) rfl ?_
    refine x_aload_n f_171_47 rfl ?_
    refine x_getR f_171_48 S.k33 (by decide) S.r43 ?_
    refine x_iload_n f_171_51 rfl ?_
    refine x_iald (j := b) f_171_52 S.k59 (by omega) (by decide) ?_
    refine x_topi (w := nI (es h b)) hB.1 ?_
    refine x_iload f_171_53 rfl ?_
    refine x_callSe f_171_55 (c_part _ _ _ (by omega) (by decide)) (by omega) rfl rfl rfl (Nat.le_of_ble_eq_true rfl) rfl ?_
    refine x_isub f_171_58 ?_
    refine x_abs f_171_59 (Nat.le_of_ble_eq_true rfl) ?_
    refine x_topi (w := nI (ad (mm_pt (es h a) 0 + 1) (mm_pt (es h b) 0 + 1))) (nI_abs (by omega) (by omega)) ?_
    refine x_imulN f_171_62 ?_
    refine x_iaddN f_171_63 ?_
    refine x_istore_n (ls1 := [.ref 33, .int (nI a), .int (nI b), .int (nI (10 + ((3 - 0) * (ad (mm_pt (es h a) 0 + 1) (mm_pt (es h b) 0 + 1))))), .int (nI 0)]) f_171_64 (Nat.le_of_ble_eq_true rfl) rfl ?_
    refine x_iinc (v := nI 1) (ls1 := [.ref 33, .int (nI a), .int (nI b), .int (nI (10 + ((3 - 0) * (ad (mm_pt (es h a) 0 + 1) (mm_pt (es h b) 0 + 1))))), .int (nI 1)]) f_171_65 rfl (by decide) rfl ?_
    refine x_goto (t := 25) f_171_68 (by decide) ?_
    refine x_iload f_171_25 rfl ?_
    refine x_iconst (v := nI 3) f_171_27 (by decide) ?_
    refine x_icmpN_ge (t := 71) f_171_28 (by decide) (by decide) (by decide) (fun c_7 => by omega) (fun c_7 => ?_)
    refine x_iload_n f_171_31 rfl ?_
    refine x_iconst (v := nI 3) f_171_32 (by decide) ?_
    refine x_iload f_171_33 rfl ?_
    refine x_isubN f_171_35 (by decide) ?_
    refine x_aload_n f_171_36 rfl ?_
    refine x_getR f_171_37 S.k33 (by decide) S.r43 ?_
    refine x_iload_n f_171_40 rfl ?_
    refine x_iald (j := a) f_171_41 S.k59 (by omega) (by decide) ?_
    refine x_topi (w := nI (es h a)) hA.1 ?_
    refine x_iload f_171_42 rfl ?_
    refine x_callSe f_171_44 (c_part _ _ _ (by omega) (by decide)) (by omega) rfl rfl rfl (Nat.le_of_ble_eq_true rfl) rfl ?_
    refine x_aload_n f_171_47 rfl ?_
    refine x_getR f_171_48 S.k33 (by decide) S.r43 ?_
    refine x_iload_n f_171_51 rfl ?_
    refine x_iald (j := b) f_171_52 S.k59 (by omega) (by decide) ?_
    refine x_topi (w := nI (es h b)) hB.1 ?_
    refine x_iload f_171_53 rfl ?_
    refine x_callSe f_171_55 (c_part _ _ _ (by omega) (by decide)) (by omega) rfl rfl rfl (Nat.le_of_ble_eq_true rfl) rfl ?_
    refine x_isub f_171_58 ?_
    refine x_abs f_171_59 (Nat.le_of_ble_eq_true rfl) ?_
    refine x_topi (w := nI (ad (mm_pt (es h a) 1 + 1) (mm_pt (es h b) 1 + 1))) (nI_abs (by omega) (by omega)) ?_
    refine x_imulN f_171_62 ?_
    refine x_iaddN f_171_63 ?_
    refine x_istore_n (ls1 := [.ref 33, .int (nI a), .int (nI b), .int (nI ((10 + ((3 - 0) * (ad (mm_pt (es h a) 0 + 1) (mm_pt (es h b) 0 + 1)))) + ((3 - 1) * (ad (mm_pt (es h a) 1 + 1) (mm_pt (es h b) 1 + 1))))), .int (nI 1)]) f_171_64 (Nat.le_of_ble_eq_true rfl) rfl ?_
    refine x_iinc (v := nI 2) (ls1 := [.ref 33, .int (nI a), .int (nI b), .int (nI ((10 + ((3 - 0) * (ad (mm_pt (es h a) 0 + 1) (mm_pt (es h b) 0 + 1)))) + ((3 - 1) * (ad (mm_pt (es h a) 1 + 1) (mm_pt (es h b) 1 + 1))))), .int (nI 2)]) f_171_65 rfl (by decide) rfl ?_
    refine x_goto (t := 25) f_171_68 (by decide) ?_
    refine x_iload f_171_25 rfl ?_
    refine x_iconst (v := nI 3) f_171_27 (by decide) ?_
    refine x_icmpN_ge (t := 71) f_171_28 (by decide) (by decide) (by decide) (fun c_8 => by omega) (fun c_8 => ?_)
    refine x_iload_n f_171_31 rfl ?_
    refine x_iconst (v := nI 3) f_171_32 (by decide) ?_
    refine x_iload f_171_33 rfl ?_
    refine x_isubN f_171_35 (by decide) ?_
    refine x_aload_n f_171_36 rfl ?_
    refine x_getR f_171_37 S.k33 (by decide) S.r43 ?_
    refine x_iload_n f_171_40 rfl ?_
    refine x_iald (j := a) f_171_41 S.k59 (by omega) (by decide) ?_
    refine x_topi (w := nI (es h a)) hA.1 ?_
    refine x_iload f_171_42 rfl ?_
    refine x_callSe f_171_44 (c_part _ _ _ (by omega) (by decide)) (by omega) rfl rfl rfl (Nat.le_of_ble_eq_true rfl) rfl ?_
    refine x_aload_n f_171_47 rfl ?_
    refine x_getR f_171_48 S.k33 (by decide) S.r43 ?_
    refine x_iload_n f_171_51 rfl ?_
    refine x_iald (j := b) f_171_52 S.k59 (by omega) (by decide) ?_
    refine x_topi (w := nI (es h b)) hB.1 ?_
    refine x_iload f_171_53 rfl ?_
    refine x_callSe f_171_55 (c_part _ _ _ (by omega) (by decide)) (by omega) rfl rfl rfl (Nat.le_of_ble_eq_true rfl) rfl ?_
    refine x_isub f_171_58 ?_
    refine x_abs f_171_59 (Nat.le_of_ble_eq_true rfl) ?_
    refine x_topi (w := nI (ad (mm_pt (es h a) 2 + 1) (mm_pt (es h b) 2 + 1))) (nI_abs (by omega) (by omega)) ?_
    refine x_imulN f_171_62 ?_
    refine x_iaddN f_171_63 ?_
    refine x_istore_n (ls1 := [.ref 33, .int (nI a), .int (nI b), .int (nI (((10 + ((3 - 0) * (ad (mm_pt (es h a) 0 + 1) (mm_pt (es h b) 0 + 1)))) + ((3 - 1) * (ad (mm_pt (es h a) 1 + 1) (mm_pt (es h b) 1 + 1)))) + ((3 - 2) * (ad (mm_pt (es h a) 2 + 1) (mm_pt (es h b) 2 + 1))))), .int (nI 2)]) f_171_64 (Nat.le_of_ble_eq_true rfl) rfl ?_
    refine x_iinc (v := nI 3) (ls1 := [.ref 33, .int (nI a), .int (nI b), .int (nI (((10 + ((3 - 0) * (ad (mm_pt (es h a) 0 + 1) (mm_pt (es h b) 0 + 1)))) + ((3 - 1) * (ad (mm_pt (es h a) 1 + 1) (mm_pt (es h b) 1 + 1)))) + ((3 - 2) * (ad (mm_pt (es h a) 2 + 1) (mm_pt (es h b) 2 + 1))))), .int (nI 3)]) f_171_65 rfl (by decide) rfl ?_
    refine x_goto (t := 25) f_171_68 (by decide) ?_
    refine x_iload f_171_25 rfl ?_
    refine x_iconst (v := nI 3) f_171_27 (by decide) ?_
    refine x_icmpN_ge (t := 71) f_171_28 (by decide) (by decide) (by decide) (fun c_9 => ?_) (fun c_9 => by omega)
    refine x_iload_n f_171_71 rfl ?_
    refine x_retI f_171_72 rfl ?_
    refine ⟨?_, rfl⟩
    unfold chg
    first | rw [if_pos c_1] | rw [if_neg c_1]
theorem chg_le {h : mj_H} {a b : Nat} (hA : EI h a) (hB : EI h b) : chg h a b ≤ 70 := by
  have p0 := mm_pt_lt (es h a) 0 hA.2
  have p1 := mm_pt_lt (es h a) 1 hA.2
  have p2 := mm_pt_lt (es h a) 2 hA.2
  have q0 := mm_pt_lt (es h b) 0 hB.2
  have q1 := mm_pt_lt (es h b) 1 hB.2
  have q2 := mm_pt_lt (es h b) 2 hB.2
  have a0 := ad_lt (show mm_pt (es h a) 0 + 1 ≤ 10 by omega) (show mm_pt (es h b) 0 + 1 ≤ 10 by omega)
  have a1 := ad_lt (show mm_pt (es h a) 1 + 1 ≤ 10 by omega) (show mm_pt (es h b) 1 + 1 ≤ 10 by omega)
  have a2 := ad_lt (show mm_pt (es h a) 2 + 1 ≤ 10 by omega) (show mm_pt (es h b) 2 + 1 ≤ 10 by omega)
  unfold chg
  split <;> omega

