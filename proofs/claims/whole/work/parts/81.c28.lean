/-! THE CHEAPEST ORDER, by sets -/
/-! THE CHEAPEST ORDER by what is done and what was last -/
def cl (c : Nat → Nat → Nat) : Option Nat → Nat → Nat
  | none, _ => 0
  | some a, x => c a x
def cs (c : Nat → Nat → Nat) : Option Nat → List Nat → Nat
  | _, [] => 0
  | la, x :: r => cl c la x + cs c (some x) r
theorem cst_cs (c : Nat → Nat → Nat) : ∀ (a : Nat) (r : List Nat), cst c (a :: r) = cs c (some a) r
  | _, [] => rfl
  | a, b :: r => by
    show c a b + cst c (b :: r) = c a b + cs c (some b) r
    rw [cst_cs c b r]
theorem cst_none (c : Nat → Nat → Nat) (l : List Nat) : cst c l = cs c none l := by
  cases l with
  | nil => rfl
  | cons a r => rw [cst_cs]; exact (Nat.zero_add _).symm
theorem cs_app (c : Nat → Nat → Nat) : ∀ (la : Option Nat) (p r : List Nat), cs c la (p ++ r) = cs c la p + cs c (p.getLast?.or la) r
  | la, [], r => by simp [cs]
  | la, x :: p, r => by
    show cl c la x + cs c (some x) (p ++ r) = cl c la x + cs c (some x) p + _
    rw [cs_app c (some x) p r, Nat.add_assoc]
    congr 3
    cases h : p.getLast? with
    | none =>
      have : p = [] := List.getLast?_eq_none_iff.mp h
      subst this
      rfl
    | some y =>
      rw [List.getLast?_cons, h]
      rfl
theorem cst_app (c : Nat → Nat → Nat) (p r : List Nat) : cst c (p ++ r) = cst c p + cs c p.getLast? r := by
  rw [cst_none, cst_none, cs_app]
  congr 2
  cases p.getLast? <;> rfl
def Cm (n m : Nat) (l : List Nat) : Prop := l.Nodup ∧ ∀ x, x ∈ l ↔ x < n ∧ ¬ m.testBit x = true
/-- the least sum of what is left -/
def RV (c : Nat → Nat → Nat) (n m : Nat) (la : Option Nat) (v : Nat) : Prop := (∃ l, Cm n m l ∧ cs c la l = v) ∧ ∀ l, Cm n m l → v ≤ cs c la l
/-- the lowest of those by which it is least -/
def Bx (n m : Nat) (f : Nat → Nat) : Option Nat → Prop
  | none => ∀ x, x < n → m.testBit x = true
  | some b => b < n ∧ ¬ m.testBit b = true ∧ (∀ x, x < n → ¬ m.testBit x = true → f b ≤ f x) ∧ ∀ x, x < b → ¬ m.testBit x = true → f b < f x
theorem bit_or_iff {m y x : Nat} : (m ||| 2 ^ y).testBit x = true ↔ m.testBit x = true ∨ x = y := by
  rw [Nat.testBit_or, Nat.testBit_two_pow, Bool.or_eq_true, decide_eq_true_iff]
  constructor
  · rintro (q | q)
    · exact Or.inl q
    · exact Or.inr q.symm
  · rintro (q | q)
    · exact Or.inl q
    · exact Or.inr q.symm
theorem Cm_cons {n m y : Nat} {r : List Nat} (h : Cm n m (y :: r)) : y < n ∧ ¬ m.testBit y = true ∧ Cm n (m ||| 2 ^ y) r := by
  obtain ⟨hn, hm⟩ := h
  rw [List.nodup_cons] at hn
  have hy := (hm y).mp (by simp)
  refine ⟨hy.1, hy.2, hn.2, fun x => ?_⟩
  have hx := hm x
  rw [List.mem_cons] at hx
  rw [bit_or_iff]
  constructor
  · intro q
    have k := hx.mp (Or.inr q)
    exact ⟨k.1, fun z => z.elim k.2 (fun e => hn.1 (by rw [← e]; exact q))⟩
  · rintro ⟨k1, k2⟩
    rcases hx.mpr ⟨k1, fun z => k2 (Or.inl z)⟩ with e | e
    · exact absurd (Or.inr e) k2
    · exact e
theorem Cm_mk {n m y : Nat} {r : List Nat} (hy : y < n) (hb : ¬ m.testBit y = true) (h : Cm n (m ||| 2 ^ y) r) : Cm n m (y :: r) := by
  obtain ⟨hn, hm⟩ := h
  refine ⟨List.nodup_cons.mpr ⟨fun q => ((hm y).mp q).2 (bit_or_iff.mpr (Or.inr rfl)), hn⟩, fun x => ?_⟩
  rw [List.mem_cons, hm x, bit_or_iff]
  constructor
  · rintro (e | ⟨k1, k2⟩)
    · rw [e]; exact ⟨hy, hb⟩
    · exact ⟨k1, fun z => k2 (Or.inl z)⟩
  · rintro ⟨k1, k2⟩
    by_cases e : x = y
    · exact Or.inl e
    · exact Or.inr ⟨k1, fun z => z.elim k2 e⟩
theorem RV_none {c : Nat → Nat → Nat} {n m : Nat} {la : Option Nat} (h : ∀ x, x < n → m.testBit x = true) : RV c n m la 0 :=
  ⟨⟨[], ⟨List.nodup_nil, fun x => ⟨fun q => absurd q (by simp), fun q => absurd (h x q.1) q.2⟩⟩, rfl⟩, fun _ _ => Nat.zero_le _⟩
theorem RV_some {c : Nat → Nat → Nat} {n m b : Nat} {la : Option Nat} {rv : Nat → Nat} (h : Bx n m (fun x => cl c la x + rv x) (some b)) (hr : ∀ x, x < n → ¬ m.testBit x = true → RV c n (m ||| 2 ^ x) (some x) (rv x)) : RV c n m la (cl c la b + rv b) := by
  obtain ⟨h1, h2, h3, _⟩ := h
  obtain ⟨⟨l, hl, hc⟩, _⟩ := hr b h1 h2
  refine ⟨⟨b :: l, Cm_mk h1 h2 hl, by show cl c la b + cs c (some b) l = _; rw [hc]⟩, fun l' hl' => ?_⟩
  cases l' with
  | nil => exact absurd ((hl'.2 b).mpr ⟨h1, h2⟩) (by simp)
  | cons y r =>
    obtain ⟨k1, k2, k3⟩ := Cm_cons hl'
    have q := (hr y k1 k2).2 r k3
    have q2 := h3 y k1 k2
    show _ ≤ cl c la y + cs c (some y) r
    dsimp only at q2
    omega
theorem bf_appL : ∀ {b p : List Nat} (r : List Nat), bf b p → bf (b ++ r) p
  | [], _, _, h => h.elim
  | _ :: _, [], _, h => h.elim
  | a :: s, b :: t, r, h => by
    rcases (show a < b ∨ (a = b ∧ bf s t) from h) with h | ⟨h1, h2⟩
    · exact Or.inl h
    · exact Or.inr ⟨h1, bf_appL r h2⟩
theorem bf_at {i j : Nat} (h : i < j) (t : List Nat) : ∀ p : List Nat, bf (p ++ [i]) (p ++ j :: t)
  | [] => Or.inl h
  | a :: p => Or.inr ⟨rfl, bf_at h t p⟩
/-- how far an order has been laid: it is cheapest, and nothing as cheap lies ahead of it -/
def Pl (c : Nat → Nat → Nat) (n : Nat) (V : Nat) (p : List Nat) (rest : Nat) : Prop := p.Nodup ∧ (∀ x, x ∈ p → x < n) ∧ cst c p + rest = V ∧ ∀ l, Pm n l → cst c l = V → bf p l ∨ p <+: l
theorem Pl_step {c : Nat → Nat → Nat} {n V m b rest : Nat} {p : List Nat} {rv : Nat → Nat} (h : Pl c n V p rest) (hlen : p.length < n) (hm : ∀ x, x < n → (m.testBit x = true ↔ x ∈ p)) (hb : Bx n m (fun x => cl c p.getLast? x + rv x) (some b)) (hr : ∀ x, x < n → ¬ m.testBit x = true → RV c n (m ||| 2 ^ x) (some x) (rv x)) (he : rest = cl c p.getLast? b + rv b) (hP : ∀ l, Pm n l → ∀ y t, l = p ++ y :: t → Cm n m (y :: t)) : Pl c n V (p ++ [b]) (rv b) := by
  obtain ⟨h1, h2, h3, h4⟩ := h
  have hbb := hb
  obtain ⟨b1, b2, b3, b4⟩ := hb
  have hbp : b ∉ p := fun q => b2 ((hm b b1).mpr q)
  refine ⟨?_, ?_, ?_, fun l hl hc => ?_⟩
  · rw [List.nodup_append]
    exact ⟨h1, by simp, fun x hx y hy e => hbp (by simp at hy; rw [← hy, ← e]; exact hx)⟩
  · intro x hx
    rw [List.mem_append, List.mem_singleton] at hx
    rcases hx with q | q
    · exact h2 x q
    · rw [q]; exact b1
  · rw [cst_app]
    show cst c p + (cl c p.getLast? b + 0) + rv b = V
    omega
  · rcases h4 l hl hc with q | ⟨t, q⟩
    · exact Or.inl (bf_appL [b] q)
    · cases t with
      | nil =>
        rw [List.append_nil] at q
        have := hl.1
        rw [← q] at this
        omega
      | cons y t =>
        have hC := hP l hl y t q.symm
        obtain ⟨k1, k2, k3⟩ := Cm_cons hC
        have e1 : cst c l = cst c p + (cl c p.getLast? y + cs c (some y) t) := by rw [← q, cst_app]; rfl
        have e2 := (hr y k1 k2).2 t k3
        have e3 := b3 y k1 k2
        dsimp only at e3
        rcases Nat.lt_trichotomy b y with z | z | z
        · left; rw [← q]; exact bf_at z t p
        · right; exact ⟨t, by rw [← q, z]; simp⟩
        · have e4 := b4 y z k2
          dsimp only at e4
          omega
theorem Pm_Cm {n m : Nat} {p : List Nat} (hn : ∀ x, x < n → (m.testBit x = true ↔ x ∈ p)) {l : List Nat} (hl : Pm n l) (hf : ∀ x, x < n → x ∈ l) {r : List Nat} (e : l = p ++ r) : Cm n m r := by
  have h2 := hl.2.1
  rw [e, List.nodup_append] at h2
  refine ⟨h2.2.1, fun x => ⟨fun q => ?_, fun q => ?_⟩⟩
  · have hx := hl.2.2 x (by rw [e]; exact List.mem_append_right _ q)
    exact ⟨hx, fun z => h2.2.2 x ((hn x hx).mp z) x q rfl⟩
  · have := hf x q.1
    rw [e, List.mem_append] at this
    rcases this with z | z
    · exact absurd ((hn x q.1).mpr z) q.2
    · exact z
theorem Pl_end {c : Nat → Nat → Nat} {n V : Nat} {p : List Nat} (h : Pl c n V p 0) (hlen : p.length = n) (hV : ∀ l, Pm n l → V ≤ cst c l) : OS c n p ∧ cst c p = V := by
  obtain ⟨h1, h2, h3, h4⟩ := h
  refine ⟨⟨⟨hlen, h1, h2⟩, fun l hl => ⟨p, rfl, ?_⟩⟩, by omega⟩
  have := hV l hl
  by_cases q : cst c l = V
  · right
    refine ⟨by omega, ?_⟩
    rcases h4 l hl q with z | ⟨t, z⟩
    · exact bf_lx z
    · have e := congrArg List.length z
      rw [List.length_append, hlen, hl.1] at e
      have : t = [] := List.eq_nil_of_length_eq_zero (by omega)
      rw [← z, this, List.append_nil]
      exact lx_rf p
  · left; omega
