/-! WHAT EVERY RUN KEEPS -/
/-- what every run keeps: kinds and lengths; rows of ints below cell 8 -/
def KP (h g : mj_H) : Prop := h.1 ≤ g.1 ∧ (∀ a, a < h.1 → mj_K g a = mj_K h a) ∧ ∀ a, a < 8 → (mj_K h a).1 = 12 → mj_I g a = mj_I h a
theorem KP.rf (h : mj_H) : KP h h := ⟨Nat.le_refl _, fun _ _ => rfl, fun _ _ _ => rfl⟩
theorem KP.trans {h g k : mj_H} (h8 : 8 ≤ h.1) (p : KP h g) (q : KP g k) : KP h k := ⟨Nat.le_trans p.1 q.1, fun a ha => (q.2.1 a (Nat.lt_of_lt_of_le ha p.1)).trans (p.2.1 a ha), fun a ha hk => (q.2.2 a ha (by rw [p.2.1 a (by omega)]; exact hk)).trans (p.2.2 a ha hk)⟩
theorem KP_new {h : mj_H} (h8 : 8 ≤ h.1) (k n : Nat) : KP h (mj_new h k n) := ⟨Nat.le_succ _, fun _ ha => mj_K_new (Nat.ne_of_lt ha), fun _ ha _ => mj_I_new (by omega)⟩
theorem KP_setR (h : mj_H) (q f : Nat) (y : Option Nat) : KP h (mj_setR h q f y) := KP.rf h
theorem KP_setJ (h : mj_H) (q f : Nat) (y : Int64) : KP h (mj_setJ h q f y) := KP.rf h
theorem KP_setI {h : mj_H} {q f : Nat} {y : Int32} (hq : 8 ≤ q ∨ (mj_K h q).1 ≠ 12) : KP h (mj_setI h q f y) := ⟨Nat.le_refl _, fun _ _ => rfl, fun a ha hk => mj_I_other (fun e => by subst e; rcases hq with z | z; omega; exact z hk)⟩
theorem KP_setW {h : mj_H} {q : Nat} {f : Nat → Int32} (hq : 8 ≤ q) : KP h (mj_setW h q f) := ⟨Nat.le_refl _, fun _ _ => rfl, fun a ha _ => funext fun i => if_neg (by omega)⟩
theorem putf_kp {h : mj_H} {a b : Nat} {st : List Value} {z : List Value × mj_H} (e : mj_putf h a b st = some z) : KP h z.2 := by
  unfold mj_putf at e
  split at e
  · split at e
    · rename_i hc
      cases e
      exact KP_setI (Or.inr (by have := hc.1; have := hc.2.1; omega))
    · cases e
  · split at e
    · cases e; exact KP_setR _ _ _ _
    · cases e
  · split at e
    · cases e; exact KP_setR _ _ _ _
    · cases e
  · cases e
theorem ast_kp {h : mj_H} {st : List Value} {z : List Value × mj_H} (e : mj_ast h st = some z) : KP h z.2 := by
  unfold mj_ast at e
  split at e
  · split at e
    · rename_i hc
      cases e
      exact KP_setI (Or.inl hc.1)
    · cases e
  · cases e
theorem zst_kp {h : mj_H} {st : List Value} {z : List Value × mj_H} (e : mj_zst h st = some z) : KP h z.2 := by
  unfold mj_zst at e
  split at e
  · split at e
    · rename_i hc
      cases e
      exact KP_setI (Or.inr (by have := hc.1; omega))
    · cases e
  · cases e
theorem lst_kp {h : mj_H} {st : List Value} {z : List Value × mj_H} (e : mj_lst h st = some z) : KP h z.2 := by
  unfold mj_lst at e
  split at e
  · split at e
    · cases e; exact KP_setJ _ _ _ _
    · cases e
  · cases e
theorem rst_kp {h : mj_H} {st : List Value} {z : List Value × mj_H} (e : mj_rst h st = some z) : KP h z.2 := by
  unfold mj_rst at e
  split at e
  · split at e
    · cases e; exact KP_setR _ _ _ _
    · cases e
  · cases e
theorem nwa_kp {h : mj_H} (h8 : 8 ≤ h.1) {kd : Nat} {st : List Value} {z : List Value × mj_H} (e : mj_nwa h kd st = some z) : KP h z.2 := by
  unfold mj_nwa at e
  split at e
  · split at e
    · cases e; exact KP_new h8 _ _
    · cases e
  · cases e
theorem cpy_kp {h : mj_H} {st : List Value} {z : List Value × mj_H} (e : mj_cpy h st = some z) : KP h z.2 := by
  unfold mj_cpy at e
  split at e
  · split at e
    · rename_i hc
      cases e
      exact KP_setW hc.2.1
    · cases e
  · cases e
theorem told_kp {h : mj_H} (h8 : 8 ≤ h.1) {st : List Value} {z : List Value × mj_H} (e : mj_told h st = some z) : KP h z.2 := by
  have T : ∀ {r : List Value}, mj_toldT h r = some z → KP h z.2 := fun q => by
    unfold mj_toldT at q
    cases q
    exact KP_new h8 _ _
  unfold mj_told at e
  split at e
  · split at e
    · split at e
      · split at e
        · split at e
          · split at e
            · unfold mj_toldQ at e
              split at e
              · exact T e
              · split at e
                · split at e
                  · split at e
                    · cases e; exact KP_setJ _ _ _ _
                    · cases e
                  · cases e
                · cases e
            · exact T e
          · cases e
        · cases e
      · exact T e
    · cases e
  · cases e
theorem step_kp {i : Instr} {a b pc : Nat} {ls st : List Value} {h : mj_H} {s : mj_S} (h8 : 8 ≤ h.1) (e : mj_step i a b pc ls st h = some s) : KP h s.2.2.2 := by
  unfold mj_step at e
  split at e
  all_goals first
    | (cases e; exact KP.rf h)
    | (simp only [Option.map_eq_some_iff] at e; obtain ⟨z, hz, rfl⟩ := e; first | exact putf_kp hz | exact ast_kp hz | exact zst_kp hz | exact lst_kp hz | exact rst_kp hz | exact nwa_kp h8 hz | exact KP.rf h)
    | (split at e <;> first | (cases e; exact KP.rf h) | (cases e; done) | (cases e; exact KP_new h8 _ _) | (split at e <;> first | (cases e; exact KP.rf h) | (cases e; done) | (simp only [Option.map_eq_some_iff] at e; obtain ⟨z, hz, rfl⟩ := e; exact KP.rf h)))
    | skip
  · split at e
    · split at e
      · split at e
        · cases e; exact KP.rf h
        · cases e
      · cases e
    · split at e
      · split at e
        · split at e
          · cases e; exact KP.rf h
          · cases e
        · cases e
      · split at e
        · split at e
          · split at e
            · cases e; exact KP.rf h
            · cases e
          · cases e
        · split at e
          · simp only [Option.map_eq_some_iff] at e
            obtain ⟨z, hz, rfl⟩ := e
            exact cpy_kp hz
          · split at e
            · simp only [Option.map_eq_some_iff] at e
              obtain ⟨z, hz, rfl⟩ := e
              exact told_kp h8 hz
            · cases e
  · cases e
theorem mj_keep : ∀ (n d mid pc : Nat) (ls st : List Value) (h : mj_H) (x : Option Value × mj_H), mj_run n d mid pc ls st h = some x → 8 ≤ h.1 → KP h x.2 := by
  intro n
  induction n with
  | zero => intro d mid pc ls st h x e; cases e
  | succ n ih =>
    intro d mid pc ls st h x e h8
    unfold mj_run at e
    split at e
    · cases e
    · rename_i i a b hf
      split at e
      · cases e; exact KP.rf h
      · split at e
        · rename_i as st' hc
          split at e
          · cases e
          · rename_i d0
            split at e
            · cases e
            · rename_i r1 h1 e1
              have k1 : KP h h1 := ih _ _ _ _ _ _ _ e1 h8
              exact k1.trans h8 (ih _ _ _ _ _ _ _ e (Nat.le_trans h8 k1.1))
        · split at e
          · cases e
          · rename_i p1 l1 s1 h1 e1
            have k1 : KP h h1 := step_kp h8 e1
            exact k1.trans h8 (ih _ _ _ _ _ _ _ e (Nat.le_trans h8 k1.1))
theorem mxc.keep {d mid : Nat} {as : List Value} {h : mj_H} {Q : Option Value → mj_H → Prop} (k : mxc d mid as h Q) (h8 : 8 ≤ h.1) : mxc d mid as h (fun r g => Q r g ∧ KP h g) := by
  obtain ⟨n, r, g, e, q⟩ := k
  exact ⟨n, r, g, e, q, mj_keep n _ _ _ _ _ _ _ e h8⟩
