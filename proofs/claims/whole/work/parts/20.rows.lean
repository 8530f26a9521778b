/-! ROWS OF THE SMALL MACHINE: a goal at an instruction out of the goal at the next -/
def mx (d mid pc : Nat) (ls st : List Value) (h : mj_H) (Q : Option Value → mj_H → Prop) : Prop := ∃ n r h', mj_run n d mid pc ls st h = some (r, h') ∧ Q r h'
theorem mj_run_le : ∀ (n m d d' mid pc : Nat) (ls st : List Value) (h : mj_H) (x : Option Value × mj_H), mj_run n d mid pc ls st h = some x → n ≤ m → d ≤ d' → mj_run m d' mid pc ls st h = some x := by
  intro n
  induction n with
  | zero => intro m d d' mid pc ls st h x e; cases e
  | succ n ih =>
    intro m d d' mid pc ls st h x e hm hd
    obtain ⟨m', rfl⟩ : ∃ m', m = m' + 1 := ⟨m - 1, by omega⟩
    unfold mj_run at e ⊢
    split at e
    · cases e
    · rename_i i a b hf
      try rw [hf]
      try dsimp only
      split at e
      · rename_i r hr
        try rw [hr]
        exact e
      · rename_i hr
        try rw [hr]
        try dsimp only
        split at e
        · rename_i as st' hc
          try rw [hc]
          try dsimp only
          split at e
          · cases e
          · rename_i d0
            obtain ⟨d1, rfl⟩ : ∃ d1, d' = d1 + 1 := ⟨d' - 1, by omega⟩
            split at e
            · cases e
            · rename_i r1 h1 e1
              show (match mj_run m' d1 a 0 (as ++ List.replicate (mj_maxL a - as.length) mj_unset) [] h with | none => none | some (r, h') => mj_run m' (d1 + 1) mid (pc + 3) ls (r.toList ++ st') h') = some x
              rw [ih m' d0 d1 _ _ _ _ _ _ e1 (by omega) (by omega)]
              exact ih m' _ _ _ _ _ _ _ _ e (by omega) (by omega)
        · rename_i hc
          try rw [hc]
          try dsimp only
          split at e
          · cases e
          · rename_i p1 l1 s1 h1 e1
            try rw [e1]
            exact ih m' _ _ _ _ _ _ _ _ e (by omega) (by omega)
section MXR
variable {d mid pc : Nat} {ls st : List Value} {h : mj_H} {Q Q' : Option Value → mj_H → Prop} {a b : Nat}
theorem mx.mono {d' : Nat} (k : mx d mid pc ls st h Q) (hd : d ≤ d') : mx d' mid pc ls st h Q := by
  obtain ⟨n, r, h', e, q⟩ := k
  exact ⟨n, r, h', mj_run_le n n d d' _ _ _ _ _ _ e (Nat.le_refl _) hd, q⟩
theorem mx.post (k : mx d mid pc ls st h Q) (hq : ∀ r h', Q r h' → Q' r h') : mx d mid pc ls st h Q' := by
  obtain ⟨n, r, h', e, q⟩ := k
  exact ⟨n, r, h', e, hq r h' q⟩
theorem mx_step {i : Instr} {pc' : Nat} {ls' st' : List Value} {h' : mj_H} (f : mj_fetch mid pc = some (i, a, b)) (hr : mj_ret (mj_r mid) i st = none) (hc : mj_call i a b st h = none) (hs : mj_step i a b pc ls st h = some (pc', ls', st', h')) (k : mx d mid pc' ls' st' h' Q) : mx d mid pc ls st h Q := by
  obtain ⟨n, r, h1, e, q⟩ := k
  refine ⟨n + 1, r, h1, ?_, q⟩
  unfold mj_run
  rw [f]; dsimp only
  rw [hr]; dsimp only
  rw [hc]; dsimp only
  rw [hs]
  exact e
theorem mx_ret {i : Instr} {r : Option Value} (f : mj_fetch mid pc = some (i, a, b)) (hr : mj_ret (mj_r mid) i st = some r) (q : Q r h) : mx d mid pc ls st h Q := by
  refine ⟨1, r, h, ?_, q⟩
  unfold mj_run
  rw [f]; dsimp only
  rw [hr]
theorem mx_call {i : Instr} {dc : Nat} {as st' : List Value} (f : mj_fetch mid pc = some (i, a, b)) (hr : mj_ret (mj_r mid) i st = none) (hc : mj_call i a b st h = some (as, st')) (hd : dc < d) (k : mx dc a 0 (as ++ List.replicate (mj_maxL a - as.length) mj_unset) [] h Q') (kk : ∀ r h', Q' r h' → mx d mid (pc + 3) ls (r.toList ++ st') h' Q) : mx d mid pc ls st h Q := by
  obtain ⟨n, r, h1, e, q⟩ := k
  obtain ⟨n2, r2, h2, e2, q2⟩ := kk r h1 q
  obtain ⟨d', rfl⟩ : ∃ d', d = d' + 1 := ⟨d - 1, by omega⟩
  refine ⟨n + n2 + 1, r2, h2, ?_, q2⟩
  unfold mj_run
  rw [f]; dsimp only
  rw [hr]; dsimp only
  rw [hc]; dsimp only
  rw [mj_run_le n (n + n2) dc d' _ _ _ _ _ _ e (by omega) (by omega)]
  exact mj_run_le n2 (n + n2) _ _ _ _ _ _ _ _ e2 (by omega) (Nat.le_refl _)
theorem mj_nocall {i : Instr} (hi : ∀ x, i ≠ .invokevirtual x ∧ i ≠ .invokespecial x ∧ i ≠ .invokestatic x) : mj_call i a b st h = none := by
  unfold mj_call
  split
  · split
    · exact absurd rfl (hi _).1
    · exact absurd rfl (hi _).2.1
    · exact absurd rfl (hi _).2.2
    · rfl
  · rfl

theorem x_iconst {n : Int} {v : Int32} (f : mj_fetch mid pc = some (.iconst n, a, b)) (hv : Int32.ofInt n = v) (k : mx d mid (pc + 1) ls (.int v :: st) h Q) : mx d mid pc ls st h Q := mx_step f rfl (mj_nocall fun _ => ⟨nofun, nofun, nofun⟩) (by rw [← hv]; rfl) k
theorem x_bipush {n : Int} {v : Int32} (f : mj_fetch mid pc = some (.bipush n, a, b)) (hv : (Int8.ofInt n).toInt32 = v) (k : mx d mid (pc + 2) ls (.int v :: st) h Q) : mx d mid pc ls st h Q := mx_step f rfl (mj_nocall fun _ => ⟨nofun, nofun, nofun⟩) (by rw [← hv]; rfl) k
theorem x_sipush {n : Int} {v : Int32} (f : mj_fetch mid pc = some (.sipush n, a, b)) (hv : (Int16.ofInt n).toInt32 = v) (k : mx d mid (pc + 3) ls (.int v :: st) h Q) : mx d mid pc ls st h Q := mx_step f rfl (mj_nocall fun _ => ⟨nofun, nofun, nofun⟩) (by rw [← hv]; rfl) k
theorem x_ldc {x : Nat} {v : Int32} (f : mj_fetch mid pc = some (.ldc x, a, b)) (hv : Int32.ofNat a = v) (k : mx d mid (pc + 2) ls (.int v :: st) h Q) : mx d mid pc ls st h Q := mx_step f rfl (mj_nocall fun _ => ⟨nofun, nofun, nofun⟩) (by rw [← hv]; rfl) k
theorem x_lconst {n : Fin 2} {v : Int64} (f : mj_fetch mid pc = some (.lconst n, a, b)) (hv : Int64.ofNat (n : Nat) = v) (k : mx d mid (pc + 1) ls (.long v :: st) h Q) : mx d mid pc ls st h Q := mx_step f rfl (mj_nocall fun _ => ⟨nofun, nofun, nofun⟩) (by rw [← hv]; rfl) k
theorem x_null  (f : mj_fetch mid pc = some (.aconst_null, a, b)) (k : mx d mid (pc + 1) ls (.null :: st) h Q) : mx d mid pc ls st h Q := mx_step f rfl (mj_nocall fun _ => ⟨nofun, nofun, nofun⟩) (by rfl) k
theorem x_iload_n {k : Fin 4} {x : Int32} (f : mj_fetch mid pc = some (.iload_n k, a, b)) (hl : ls[(k : Nat)]? = some (.int x)) (k : mx d mid (pc + 1) ls (.int x :: st) h Q) : mx d mid pc ls st h Q := mx_step f rfl (mj_nocall fun _ => ⟨nofun, nofun, nofun⟩) (by simp [mj_step, mj_load, hl]) k
theorem x_iload {k : Nat} {x : Int32} (f : mj_fetch mid pc = some (.iload k, a, b)) (hl : ls[(k : Nat)]? = some (.int x)) (k : mx d mid (pc + 2) ls (.int x :: st) h Q) : mx d mid pc ls st h Q := mx_step f rfl (mj_nocall fun _ => ⟨nofun, nofun, nofun⟩) (by simp [mj_step, mj_load, hl]) k
theorem x_aload_n {k : Fin 4} {x : Nat} (f : mj_fetch mid pc = some (.aload_n k, a, b)) (hl : ls[(k : Nat)]? = some (.ref x)) (k : mx d mid (pc + 1) ls (.ref x :: st) h Q) : mx d mid pc ls st h Q := mx_step f rfl (mj_nocall fun _ => ⟨nofun, nofun, nofun⟩) (by simp [mj_step, mj_load, hl]) k
theorem x_aload_nN {k : Fin 4} (f : mj_fetch mid pc = some (.aload_n k, a, b)) (hl : ls[(k : Nat)]? = some .null) (k : mx d mid (pc + 1) ls (.null :: st) h Q) : mx d mid pc ls st h Q := mx_step f rfl (mj_nocall fun _ => ⟨nofun, nofun, nofun⟩) (by simp [mj_step, mj_load, hl]) k
theorem x_aload {k : Nat} {x : Nat} (f : mj_fetch mid pc = some (.aload k, a, b)) (hl : ls[(k : Nat)]? = some (.ref x)) (k : mx d mid (pc + 2) ls (.ref x :: st) h Q) : mx d mid pc ls st h Q := mx_step f rfl (mj_nocall fun _ => ⟨nofun, nofun, nofun⟩) (by simp [mj_step, mj_load, hl]) k
theorem x_aloadN {k : Nat} (f : mj_fetch mid pc = some (.aload k, a, b)) (hl : ls[(k : Nat)]? = some .null) (k : mx d mid (pc + 2) ls (.null :: st) h Q) : mx d mid pc ls st h Q := mx_step f rfl (mj_nocall fun _ => ⟨nofun, nofun, nofun⟩) (by simp [mj_step, mj_load, hl]) k
theorem x_istore_n {k : Fin 4} {x : Int32} {ls1 : List Value} (f : mj_fetch mid pc = some (.istore_n k, a, b)) (hl : (k : Nat) < ls.length) (hs : ls.set (k : Nat) (.int x) = ls1) (k : mx d mid (pc + 1) ls1 st h Q) : mx d mid pc ls (.int x :: st) h Q := mx_step f rfl (mj_nocall fun _ => ⟨nofun, nofun, nofun⟩) (by simp [mj_step, hl, ← hs]) k
theorem x_istore {k : Nat} {x : Int32} {ls1 : List Value} (f : mj_fetch mid pc = some (.istore k, a, b)) (hl : (k : Nat) < ls.length) (hs : ls.set (k : Nat) (.int x) = ls1) (k : mx d mid (pc + 2) ls1 st h Q) : mx d mid pc ls (.int x :: st) h Q := mx_step f rfl (mj_nocall fun _ => ⟨nofun, nofun, nofun⟩) (by simp [mj_step, hl, ← hs]) k
theorem x_astore_n {k : Fin 4} {x : Nat} {ls1 : List Value} (f : mj_fetch mid pc = some (.astore_n k, a, b)) (hl : (k : Nat) < ls.length) (hs : ls.set (k : Nat) (.ref x) = ls1) (k : mx d mid (pc + 1) ls1 st h Q) : mx d mid pc ls (.ref x :: st) h Q := mx_step f rfl (mj_nocall fun _ => ⟨nofun, nofun, nofun⟩) (by simp [mj_step, hl, ← hs]) k
theorem x_astore_nN {k : Fin 4} {ls1 : List Value} (f : mj_fetch mid pc = some (.astore_n k, a, b)) (hl : (k : Nat) < ls.length) (hs : ls.set (k : Nat) .null = ls1) (k : mx d mid (pc + 1) ls1 st h Q) : mx d mid pc ls (.null :: st) h Q := mx_step f rfl (mj_nocall fun _ => ⟨nofun, nofun, nofun⟩) (by simp [mj_step, hl, ← hs]) k
theorem x_astore {k : Nat} {x : Nat} {ls1 : List Value} (f : mj_fetch mid pc = some (.astore k, a, b)) (hl : (k : Nat) < ls.length) (hs : ls.set (k : Nat) (.ref x) = ls1) (k : mx d mid (pc + 2) ls1 st h Q) : mx d mid pc ls (.ref x :: st) h Q := mx_step f rfl (mj_nocall fun _ => ⟨nofun, nofun, nofun⟩) (by simp [mj_step, hl, ← hs]) k
theorem x_astoreN {k : Nat} {ls1 : List Value} (f : mj_fetch mid pc = some (.astore k, a, b)) (hl : (k : Nat) < ls.length) (hs : ls.set (k : Nat) .null = ls1) (k : mx d mid (pc + 2) ls1 st h Q) : mx d mid pc ls (.null :: st) h Q := mx_step f rfl (mj_nocall fun _ => ⟨nofun, nofun, nofun⟩) (by simp [mj_step, hl, ← hs]) k
theorem x_iinc {k : Nat} {n : Int} {x v : Int32} {ls1 : List Value} (f : mj_fetch mid pc = some (.iinc k n, a, b)) (hl : ls[k]? = some (.int x)) (hv : x + Int32.ofInt n = v) (hs : ls.set k (.int v) = ls1) (k : mx d mid (pc + 3) ls1 st h Q) : mx d mid pc ls st h Q := mx_step f rfl (mj_nocall fun _ => ⟨nofun, nofun, nofun⟩) (by subst hv; simp [mj_step, hl, ← hs]) k
theorem x_iadd {x y : Int32} (f : mj_fetch mid pc = some (.iadd, a, b)) (k : mx d mid (pc + 1) ls (.int (x + y) :: st) h Q) : mx d mid pc ls (.int y :: .int x :: st) h Q := mx_step f rfl (mj_nocall fun _ => ⟨nofun, nofun, nofun⟩) (by rfl) k
theorem x_isub {x y : Int32} (f : mj_fetch mid pc = some (.isub, a, b)) (k : mx d mid (pc + 1) ls (.int (x - y) :: st) h Q) : mx d mid pc ls (.int y :: .int x :: st) h Q := mx_step f rfl (mj_nocall fun _ => ⟨nofun, nofun, nofun⟩) (by rfl) k
theorem x_imul {x y : Int32} (f : mj_fetch mid pc = some (.imul, a, b)) (k : mx d mid (pc + 1) ls (.int (x * y) :: st) h Q) : mx d mid pc ls (.int y :: .int x :: st) h Q := mx_step f rfl (mj_nocall fun _ => ⟨nofun, nofun, nofun⟩) (by rfl) k
theorem x_iand {x y : Int32} (f : mj_fetch mid pc = some (.iand, a, b)) (k : mx d mid (pc + 1) ls (.int (x &&& y) :: st) h Q) : mx d mid pc ls (.int y :: .int x :: st) h Q := mx_step f rfl (mj_nocall fun _ => ⟨nofun, nofun, nofun⟩) (by rfl) k
theorem x_ior {x y : Int32} (f : mj_fetch mid pc = some (.ior, a, b)) (k : mx d mid (pc + 1) ls (.int (x ||| y) :: st) h Q) : mx d mid pc ls (.int y :: .int x :: st) h Q := mx_step f rfl (mj_nocall fun _ => ⟨nofun, nofun, nofun⟩) (by rfl) k
theorem x_ishl {x y : Int32} (f : mj_fetch mid pc = some (.ishl, a, b)) (k : mx d mid (pc + 1) ls (.int (x <<< (y &&& 31)) :: st) h Q) : mx d mid pc ls (.int y :: .int x :: st) h Q := mx_step f rfl (mj_nocall fun _ => ⟨nofun, nofun, nofun⟩) (by rfl) k
theorem x_ishr {x y : Int32} (f : mj_fetch mid pc = some (.ishr, a, b)) (k : mx d mid (pc + 1) ls (.int (x >>> (y &&& 31)) :: st) h Q) : mx d mid pc ls (.int y :: .int x :: st) h Q := mx_step f rfl (mj_nocall fun _ => ⟨nofun, nofun, nofun⟩) (by rfl) k
theorem x_idiv {x y : Int32} (f : mj_fetch mid pc = some (.idiv, a, b)) (hne : ¬ y = 0) (k : mx d mid (pc + 1) ls (.int (x / y) :: st) h Q) : mx d mid pc ls (.int y :: .int x :: st) h Q := mx_step f rfl (mj_nocall fun _ => ⟨nofun, nofun, nofun⟩) (by simp [mj_step, mj_bin, hne]) k
theorem x_irem {x y : Int32} (f : mj_fetch mid pc = some (.irem, a, b)) (hne : ¬ y = 0) (k : mx d mid (pc + 1) ls (.int (x - x / y * y) :: st) h Q) : mx d mid pc ls (.int y :: .int x :: st) h Q := mx_step f rfl (mj_nocall fun _ => ⟨nofun, nofun, nofun⟩) (by simp [mj_step, mj_bin, hne]) k
theorem x_iaddN {x y : Nat} (f : mj_fetch mid pc = some (.iadd, a, b)) (k : mx d mid (pc + 1) ls (.int (nI (x + y)) :: st) h Q) : mx d mid pc ls (.int (nI y) :: .int (nI x) :: st) h Q := mx_step f rfl (mj_nocall fun _ => ⟨nofun, nofun, nofun⟩) (by rw [← nI_add]; rfl) k
theorem x_imulN {x y : Nat} (f : mj_fetch mid pc = some (.imul, a, b)) (k : mx d mid (pc + 1) ls (.int (nI (x * y)) :: st) h Q) : mx d mid pc ls (.int (nI y) :: .int (nI x) :: st) h Q := mx_step f rfl (mj_nocall fun _ => ⟨nofun, nofun, nofun⟩) (by rw [← pk_mul]; rfl) k
theorem x_isubN {x y : Nat} (f : mj_fetch mid pc = some (.isub, a, b)) (hle : y ≤ x) (k : mx d mid (pc + 1) ls (.int (nI (x - y)) :: st) h Q) : mx d mid pc ls (.int (nI y) :: .int (nI x) :: st) h Q := mx_step f rfl (mj_nocall fun _ => ⟨nofun, nofun, nofun⟩) (by rw [← pk_sub hle]; rfl) k
theorem x_idivN {x y : Nat} (f : mj_fetch mid pc = some (.idiv, a, b)) (hx : x < 2 ^ 31) (h0 : 0 < y) (hy : y < 2 ^ 31) (k : mx d mid (pc + 1) ls (.int (nI (x / y)) :: st) h Q) : mx d mid pc ls (.int (nI y) :: .int (nI x) :: st) h Q := mx_step f rfl (mj_nocall fun _ => ⟨nofun, nofun, nofun⟩) (by rw [← pk_div hx h0 hy]; simp [mj_step, mj_bin, nI_ne0 h0 hy]) k
theorem x_iremN {x y : Nat} (f : mj_fetch mid pc = some (.irem, a, b)) (hx : x < 2 ^ 31) (h0 : 0 < y) (hy : y < 2 ^ 31) (k : mx d mid (pc + 1) ls (.int (nI (x % y)) :: st) h Q) : mx d mid pc ls (.int (nI y) :: .int (nI x) :: st) h Q := mx_step f rfl (mj_nocall fun _ => ⟨nofun, nofun, nofun⟩) (by rw [← pk_rem hx h0 hy]; simp [mj_step, mj_bin, nI_ne0 h0 hy]) k
theorem x_land {x y : Int64} (f : mj_fetch mid pc = some (.land, a, b)) (k : mx d mid (pc + 1) ls (.long (x &&& y) :: st) h Q) : mx d mid pc ls (.long y :: .long x :: st) h Q := mx_step f rfl (mj_nocall fun _ => ⟨nofun, nofun, nofun⟩) (by rfl) k
theorem x_lor {x y : Int64} (f : mj_fetch mid pc = some (.lor, a, b)) (k : mx d mid (pc + 1) ls (.long (x ||| y) :: st) h Q) : mx d mid pc ls (.long y :: .long x :: st) h Q := mx_step f rfl (mj_nocall fun _ => ⟨nofun, nofun, nofun⟩) (by rfl) k
theorem x_lcmp {x y : Int64} (f : mj_fetch mid pc = some (.lcmp, a, b)) (k : mx d mid (pc + 1) ls (.int (lg_cmp x y) :: st) h Q) : mx d mid pc ls (.long y :: .long x :: st) h Q := mx_step f rfl (mj_nocall fun _ => ⟨nofun, nofun, nofun⟩) (by rfl) k
theorem x_lshl {x : Int64} {y : Int32} (f : mj_fetch mid pc = some (.lshl, a, b)) (k : mx d mid (pc + 1) ls (.long (x <<< (y.toInt64 &&& 63)) :: st) h Q) : mx d mid pc ls (.int y :: .long x :: st) h Q := mx_step f rfl (mj_nocall fun _ => ⟨nofun, nofun, nofun⟩) (by rfl) k
theorem x_lshr {x : Int64} {y : Int32} (f : mj_fetch mid pc = some (.lshr, a, b)) (k : mx d mid (pc + 1) ls (.long (x >>> (y.toInt64 &&& 63)) :: st) h Q) : mx d mid pc ls (.int y :: .long x :: st) h Q := mx_step f rfl (mj_nocall fun _ => ⟨nofun, nofun, nofun⟩) (by rfl) k
theorem x_i2l {x : Int32} (f : mj_fetch mid pc = some (.i2l, a, b)) (k : mx d mid (pc + 1) ls (.long x.toInt64 :: st) h Q) : mx d mid pc ls (.int x :: st) h Q := mx_step f rfl (mj_nocall fun _ => ⟨nofun, nofun, nofun⟩) (by rfl) k
theorem x_dup {v : Value} (f : mj_fetch mid pc = some (.dup, a, b)) (hv : v.category = 1) (k : mx d mid (pc + 1) ls (v :: v :: st) h Q) : mx d mid pc ls (v :: st) h Q := mx_step f rfl (mj_nocall fun _ => ⟨nofun, nofun, nofun⟩) (by simp [mj_step, hv]) k
theorem x_pop {v : Value} (f : mj_fetch mid pc = some (.pop, a, b)) (hv : v.category = 1) (k : mx d mid (pc + 1) ls st h Q) : mx d mid pc ls (v :: st) h Q := mx_step f rfl (mj_nocall fun _ => ⟨nofun, nofun, nofun⟩) (by simp [mj_step, hv]) k
theorem x_dup2 {v w : Value} (f : mj_fetch mid pc = some (.dup2, a, b)) (hv : v.category = 1) (hw : w.category = 1) (k : mx d mid (pc + 1) ls (v :: w :: v :: w :: st) h Q) : mx d mid pc ls (v :: w :: st) h Q := mx_step f rfl (mj_nocall fun _ => ⟨nofun, nofun, nofun⟩) (by simp [mj_step, hv, hw]) k
theorem x_goto {off : Int} {t : Nat} (f : mj_fetch mid pc = some (.goto off, a, b)) (ht : mj_tgt pc off = t) (k : mx d mid t ls st h Q) : mx d mid pc ls st h Q := mx_step f rfl (mj_nocall fun _ => ⟨nofun, nofun, nofun⟩) (by rw [← ht]; rfl) k
theorem x_icmp_eq {x y : Int32} {off : Int} {t : Nat} (f : mj_fetch mid pc = some (.if_icmp .eq off, a, b)) (ht : mj_tgt pc off = t) (kt : x = y → mx d mid t ls st h Q) (kf : ¬ x = y → mx d mid (pc + 3) ls st h Q) : mx d mid pc ls (.int y :: .int x :: st) h Q := by
  by_cases hc : x = y
  · refine mx_step f rfl (mj_nocall fun _ => ⟨nofun, nofun, nofun⟩) ?_ (kt hc)
    rw [← ht]; simp [mj_step, mj_icmp, hc]
  · refine mx_step f rfl (mj_nocall fun _ => ⟨nofun, nofun, nofun⟩) ?_ (kf hc)
    simp [mj_step, mj_icmp, hc]
theorem x_icmp_lt {x y : Int32} {off : Int} {t : Nat} (f : mj_fetch mid pc = some (.if_icmp .lt off, a, b)) (ht : mj_tgt pc off = t) (kt : x < y → mx d mid t ls st h Q) (kf : ¬ x < y → mx d mid (pc + 3) ls st h Q) : mx d mid pc ls (.int y :: .int x :: st) h Q := by
  by_cases hc : x < y
  · refine mx_step f rfl (mj_nocall fun _ => ⟨nofun, nofun, nofun⟩) ?_ (kt hc)
    rw [← ht]; simp [mj_step, mj_icmp, hc]
  · refine mx_step f rfl (mj_nocall fun _ => ⟨nofun, nofun, nofun⟩) ?_ (kf hc)
    simp [mj_step, mj_icmp, hc]
theorem x_icmp_ge {x y : Int32} {off : Int} {t : Nat} (f : mj_fetch mid pc = some (.if_icmp .ge off, a, b)) (ht : mj_tgt pc off = t) (kt : y ≤ x → mx d mid t ls st h Q) (kf : ¬ y ≤ x → mx d mid (pc + 3) ls st h Q) : mx d mid pc ls (.int y :: .int x :: st) h Q := by
  by_cases hc : y ≤ x
  · refine mx_step f rfl (mj_nocall fun _ => ⟨nofun, nofun, nofun⟩) ?_ (kt hc)
    rw [← ht]; simp [mj_step, mj_icmp, hc]
  · refine mx_step f rfl (mj_nocall fun _ => ⟨nofun, nofun, nofun⟩) ?_ (kf hc)
    simp [mj_step, mj_icmp, hc]
theorem x_icmp_gt {x y : Int32} {off : Int} {t : Nat} (f : mj_fetch mid pc = some (.if_icmp .gt off, a, b)) (ht : mj_tgt pc off = t) (kt : y < x → mx d mid t ls st h Q) (kf : ¬ y < x → mx d mid (pc + 3) ls st h Q) : mx d mid pc ls (.int y :: .int x :: st) h Q := by
  by_cases hc : y < x
  · refine mx_step f rfl (mj_nocall fun _ => ⟨nofun, nofun, nofun⟩) ?_ (kt hc)
    rw [← ht]; simp [mj_step, mj_icmp, hc]
  · refine mx_step f rfl (mj_nocall fun _ => ⟨nofun, nofun, nofun⟩) ?_ (kf hc)
    simp [mj_step, mj_icmp, hc]
theorem x_icmp_le {x y : Int32} {off : Int} {t : Nat} (f : mj_fetch mid pc = some (.if_icmp .le off, a, b)) (ht : mj_tgt pc off = t) (kt : x ≤ y → mx d mid t ls st h Q) (kf : ¬ x ≤ y → mx d mid (pc + 3) ls st h Q) : mx d mid pc ls (.int y :: .int x :: st) h Q := by
  by_cases hc : x ≤ y
  · refine mx_step f rfl (mj_nocall fun _ => ⟨nofun, nofun, nofun⟩) ?_ (kt hc)
    rw [← ht]; simp [mj_step, mj_icmp, hc]
  · refine mx_step f rfl (mj_nocall fun _ => ⟨nofun, nofun, nofun⟩) ?_ (kf hc)
    simp [mj_step, mj_icmp, hc]
theorem x_icmp_ne {x y : Int32} {off : Int} {t : Nat} (f : mj_fetch mid pc = some (.if_icmp .ne off, a, b)) (ht : mj_tgt pc off = t) (kt : ¬ x = y → mx d mid t ls st h Q) (kf : x = y → mx d mid (pc + 3) ls st h Q) : mx d mid pc ls (.int y :: .int x :: st) h Q := by
  by_cases hc : x = y
  · refine mx_step f rfl (mj_nocall fun _ => ⟨nofun, nofun, nofun⟩) ?_ (kf hc)
    simp [mj_step, mj_icmp, hc]
  · refine mx_step f rfl (mj_nocall fun _ => ⟨nofun, nofun, nofun⟩) ?_ (kt hc)
    rw [← ht]; simp [mj_step, mj_icmp, hc]
theorem x_if_eq {x : Int32} {off : Int} {t : Nat} (f : mj_fetch mid pc = some (.ifCond .eq off, a, b)) (ht : mj_tgt pc off = t) (kt : x = 0 → mx d mid t ls st h Q) (kf : ¬ x = 0 → mx d mid (pc + 3) ls st h Q) : mx d mid pc ls (.int x :: st) h Q := by
  by_cases hc : x = 0
  · refine mx_step f rfl (mj_nocall fun _ => ⟨nofun, nofun, nofun⟩) ?_ (kt hc)
    rw [← ht]; simp [mj_step, mj_icmp, hc]
  · refine mx_step f rfl (mj_nocall fun _ => ⟨nofun, nofun, nofun⟩) ?_ (kf hc)
    simp [mj_step, mj_icmp, hc]
theorem x_if_lt {x : Int32} {off : Int} {t : Nat} (f : mj_fetch mid pc = some (.ifCond .lt off, a, b)) (ht : mj_tgt pc off = t) (kt : x < 0 → mx d mid t ls st h Q) (kf : ¬ x < 0 → mx d mid (pc + 3) ls st h Q) : mx d mid pc ls (.int x :: st) h Q := by
  by_cases hc : x < 0
  · refine mx_step f rfl (mj_nocall fun _ => ⟨nofun, nofun, nofun⟩) ?_ (kt hc)
    rw [← ht]; simp [mj_step, mj_icmp, hc]
  · refine mx_step f rfl (mj_nocall fun _ => ⟨nofun, nofun, nofun⟩) ?_ (kf hc)
    simp [mj_step, mj_icmp, hc]
theorem x_if_ge {x : Int32} {off : Int} {t : Nat} (f : mj_fetch mid pc = some (.ifCond .ge off, a, b)) (ht : mj_tgt pc off = t) (kt : 0 ≤ x → mx d mid t ls st h Q) (kf : ¬ 0 ≤ x → mx d mid (pc + 3) ls st h Q) : mx d mid pc ls (.int x :: st) h Q := by
  by_cases hc : 0 ≤ x
  · refine mx_step f rfl (mj_nocall fun _ => ⟨nofun, nofun, nofun⟩) ?_ (kt hc)
    rw [← ht]; simp [mj_step, mj_icmp, hc]
  · refine mx_step f rfl (mj_nocall fun _ => ⟨nofun, nofun, nofun⟩) ?_ (kf hc)
    simp [mj_step, mj_icmp, hc]
theorem x_if_gt {x : Int32} {off : Int} {t : Nat} (f : mj_fetch mid pc = some (.ifCond .gt off, a, b)) (ht : mj_tgt pc off = t) (kt : 0 < x → mx d mid t ls st h Q) (kf : ¬ 0 < x → mx d mid (pc + 3) ls st h Q) : mx d mid pc ls (.int x :: st) h Q := by
  by_cases hc : 0 < x
  · refine mx_step f rfl (mj_nocall fun _ => ⟨nofun, nofun, nofun⟩) ?_ (kt hc)
    rw [← ht]; simp [mj_step, mj_icmp, hc]
  · refine mx_step f rfl (mj_nocall fun _ => ⟨nofun, nofun, nofun⟩) ?_ (kf hc)
    simp [mj_step, mj_icmp, hc]
theorem x_if_le {x : Int32} {off : Int} {t : Nat} (f : mj_fetch mid pc = some (.ifCond .le off, a, b)) (ht : mj_tgt pc off = t) (kt : x ≤ 0 → mx d mid t ls st h Q) (kf : ¬ x ≤ 0 → mx d mid (pc + 3) ls st h Q) : mx d mid pc ls (.int x :: st) h Q := by
  by_cases hc : x ≤ 0
  · refine mx_step f rfl (mj_nocall fun _ => ⟨nofun, nofun, nofun⟩) ?_ (kt hc)
    rw [← ht]; simp [mj_step, mj_icmp, hc]
  · refine mx_step f rfl (mj_nocall fun _ => ⟨nofun, nofun, nofun⟩) ?_ (kf hc)
    simp [mj_step, mj_icmp, hc]
theorem x_if_ne {x : Int32} {off : Int} {t : Nat} (f : mj_fetch mid pc = some (.ifCond .ne off, a, b)) (ht : mj_tgt pc off = t) (kt : ¬ x = 0 → mx d mid t ls st h Q) (kf : x = 0 → mx d mid (pc + 3) ls st h Q) : mx d mid pc ls (.int x :: st) h Q := by
  by_cases hc : x = 0
  · refine mx_step f rfl (mj_nocall fun _ => ⟨nofun, nofun, nofun⟩) ?_ (kf hc)
    simp [mj_step, mj_icmp, hc]
  · refine mx_step f rfl (mj_nocall fun _ => ⟨nofun, nofun, nofun⟩) ?_ (kt hc)
    rw [← ht]; simp [mj_step, mj_icmp, hc]
theorem x_icmpN_eq {x y : Nat} {off : Int} {t : Nat} (f : mj_fetch mid pc = some (.if_icmp .eq off, a, b)) (ht : mj_tgt pc off = t) (hx : x < 2 ^ 31) (hy : y < 2 ^ 31) (kt : x = y → mx d mid t ls st h Q) (kf : ¬ (x = y) → mx d mid (pc + 3) ls st h Q) : mx d mid pc ls (.int (nI y) :: .int (nI x) :: st) h Q := x_icmp_eq f ht (fun hc => kt ((nI_eq hx hy).mp hc)) (fun hc => kf (fun q => hc ((nI_eq hx hy).mpr q)))
theorem x_icmpN_lt {x y : Nat} {off : Int} {t : Nat} (f : mj_fetch mid pc = some (.if_icmp .lt off, a, b)) (ht : mj_tgt pc off = t) (hx : x < 2 ^ 31) (hy : y < 2 ^ 31) (kt : x < y → mx d mid t ls st h Q) (kf : ¬ (x < y) → mx d mid (pc + 3) ls st h Q) : mx d mid pc ls (.int (nI y) :: .int (nI x) :: st) h Q := x_icmp_lt f ht (fun hc => kt ((nI_ltI hx hy).mp hc)) (fun hc => kf (fun q => hc ((nI_ltI hx hy).mpr q)))
theorem x_icmpN_ge {x y : Nat} {off : Int} {t : Nat} (f : mj_fetch mid pc = some (.if_icmp .ge off, a, b)) (ht : mj_tgt pc off = t) (hx : x < 2 ^ 31) (hy : y < 2 ^ 31) (kt : y ≤ x → mx d mid t ls st h Q) (kf : ¬ (y ≤ x) → mx d mid (pc + 3) ls st h Q) : mx d mid pc ls (.int (nI y) :: .int (nI x) :: st) h Q := x_icmp_ge f ht (fun hc => kt ((nI_leI hy hx).mp hc)) (fun hc => kf (fun q => hc ((nI_leI hy hx).mpr q)))
theorem x_icmpN_gt {x y : Nat} {off : Int} {t : Nat} (f : mj_fetch mid pc = some (.if_icmp .gt off, a, b)) (ht : mj_tgt pc off = t) (hx : x < 2 ^ 31) (hy : y < 2 ^ 31) (kt : y < x → mx d mid t ls st h Q) (kf : ¬ (y < x) → mx d mid (pc + 3) ls st h Q) : mx d mid pc ls (.int (nI y) :: .int (nI x) :: st) h Q := x_icmp_gt f ht (fun hc => kt ((nI_ltI hy hx).mp hc)) (fun hc => kf (fun q => hc ((nI_ltI hy hx).mpr q)))
theorem x_icmpN_le {x y : Nat} {off : Int} {t : Nat} (f : mj_fetch mid pc = some (.if_icmp .le off, a, b)) (ht : mj_tgt pc off = t) (hx : x < 2 ^ 31) (hy : y < 2 ^ 31) (kt : x ≤ y → mx d mid t ls st h Q) (kf : ¬ (x ≤ y) → mx d mid (pc + 3) ls st h Q) : mx d mid pc ls (.int (nI y) :: .int (nI x) :: st) h Q := x_icmp_le f ht (fun hc => kt ((nI_leI hx hy).mp hc)) (fun hc => kf (fun q => hc ((nI_leI hx hy).mpr q)))
theorem x_icmpN_ne {x y : Nat} {off : Int} {t : Nat} (f : mj_fetch mid pc = some (.if_icmp .ne off, a, b)) (ht : mj_tgt pc off = t) (hx : x < 2 ^ 31) (hy : y < 2 ^ 31) (kt : ¬ x = y → mx d mid t ls st h Q) (kf : x = y → mx d mid (pc + 3) ls st h Q) : mx d mid pc ls (.int (nI y) :: .int (nI x) :: st) h Q := x_icmp_ne f ht (fun hc => kt (fun q => hc ((nI_eq hx hy).mpr q))) (fun hc => kf ((nI_eq hx hy).mp hc))
theorem x_ifnull {x : Nat} {off : Int} (f : mj_fetch mid pc = some (.ifnull off, a, b)) (k : mx d mid (pc + 3) ls st h Q) : mx d mid pc ls (.ref x :: st) h Q := mx_step f rfl (mj_nocall fun _ => ⟨nofun, nofun, nofun⟩) (by rfl) k
theorem x_ifnullN {off : Int} {t : Nat} (f : mj_fetch mid pc = some (.ifnull off, a, b)) (ht : mj_tgt pc off = t) (k : mx d mid t ls st h Q) : mx d mid pc ls (.null :: st) h Q := mx_step f rfl (mj_nocall fun _ => ⟨nofun, nofun, nofun⟩) (by rw [← ht]; rfl) k
theorem x_ifnonnull {x : Nat} {off : Int} {t : Nat} (f : mj_fetch mid pc = some (.ifnonnull off, a, b)) (ht : mj_tgt pc off = t) (k : mx d mid t ls st h Q) : mx d mid pc ls (.ref x :: st) h Q := mx_step f rfl (mj_nocall fun _ => ⟨nofun, nofun, nofun⟩) (by rw [← ht]; rfl) k
theorem x_ifnonnullN {off : Int} (f : mj_fetch mid pc = some (.ifnonnull off, a, b)) (k : mx d mid (pc + 3) ls st h Q) : mx d mid pc ls (.null :: st) h Q := mx_step f rfl (mj_nocall fun _ => ⟨nofun, nofun, nofun⟩) (by rfl) k
theorem x_acmp {x y : Nat} {off : Int} {t : Nat} (f : mj_fetch mid pc = some (.if_acmp .ne off, a, b)) (ht : mj_tgt pc off = t) (hx : 8 ≤ x) (hy : 8 ≤ y) (k : mx d mid (if x = y then pc + 3 else t) ls st h Q) : mx d mid pc ls (.ref y :: .ref x :: st) h Q := mx_step f rfl (mj_nocall fun _ => ⟨nofun, nofun, nofun⟩) (by rw [← ht]; simp [mj_step, hx, hy]) k
theorem x_acmpN {y : Nat} {off : Int} {t : Nat} (f : mj_fetch mid pc = some (.if_acmp .ne off, a, b)) (ht : mj_tgt pc off = t) (k : mx d mid t ls st h Q) : mx d mid pc ls (.ref y :: .null :: st) h Q := mx_step f rfl (mj_nocall fun _ => ⟨nofun, nofun, nofun⟩) (by rw [← ht]; rfl) k
theorem x_tsw {dflt lo hi : Int} {offs : Array Int} {x : Int32} {off : Int} {t : Nat} (f : mj_fetch mid pc = some (.tableswitch dflt lo hi offs, a, b)) (h1 : ¬ (x.toInt < lo ∨ hi < x.toInt)) (ho : offs[(x.toInt - lo).toNat]? = some off) (ht : mj_tgt pc off = t) (k : mx d mid t ls st h Q) : mx d mid pc ls (.int x :: st) h Q := mx_step f rfl (mj_nocall fun _ => ⟨nofun, nofun, nofun⟩) (by rw [← ht]; simp [mj_step, h1, ho]) k
theorem x_tswD {dflt lo hi : Int} {offs : Array Int} {x : Int32} {t : Nat} (f : mj_fetch mid pc = some (.tableswitch dflt lo hi offs, a, b)) (h1 : x.toInt < lo ∨ hi < x.toInt) (ht : mj_tgt pc dflt = t) (k : mx d mid t ls st h Q) : mx d mid pc ls (.int x :: st) h Q := mx_step f rfl (mj_nocall fun _ => ⟨nofun, nofun, nofun⟩) (by rw [← ht]; simp [mj_step, h1]) k
theorem x_getI {x q n : Nat} (f : mj_fetch mid pc = some (.getfield x, a, b)) (hK : mj_K h q = (a, n)) (hg : a < 12 ∧ b < mj_nf a ∧ mj_isR (mj_ty a b) = false) (k : mx d mid (pc + 3) ls (.int (mj_I h q b) :: st) h Q) : mx d mid pc ls (.ref q :: st) h Q := mx_step f rfl (mj_nocall fun _ => ⟨nofun, nofun, nofun⟩) (by simp [mj_step, mj_getf, mj_fv, hK, hg.1, hg.2.1, hg.2.2]) k
theorem x_getR {x q n y : Nat} (f : mj_fetch mid pc = some (.getfield x, a, b)) (hK : mj_K h q = (a, n)) (hg : a < 12 ∧ b < mj_nf a ∧ mj_isR (mj_ty a b) = true) (hR : mj_R h q b = some y) (k : mx d mid (pc + 3) ls (.ref y :: st) h Q) : mx d mid pc ls (.ref q :: st) h Q := mx_step f rfl (mj_nocall fun _ => ⟨nofun, nofun, nofun⟩) (by simp [mj_step, mj_getf, mj_fv, hK, hg.1, hg.2.1, hg.2.2, hR, va_rf]) k
theorem x_getN {x q n : Nat} (f : mj_fetch mid pc = some (.getfield x, a, b)) (hK : mj_K h q = (a, n)) (hg : a < 12 ∧ b < mj_nf a ∧ mj_isR (mj_ty a b) = true) (hR : mj_R h q b = none) (k : mx d mid (pc + 3) ls (.null :: st) h Q) : mx d mid pc ls (.ref q :: st) h Q := mx_step f rfl (mj_nocall fun _ => ⟨nofun, nofun, nofun⟩) (by simp [mj_step, mj_getf, mj_fv, hK, hg.1, hg.2.1, hg.2.2, hR, va_rf]) k
theorem x_putI {x q n : Nat} {v : Int32} (f : mj_fetch mid pc = some (.putfield x, a, b)) (hK : mj_K h q = (a, n)) (hg : a < 12 ∧ b < mj_nf a ∧ mj_ty a b = .int) (k : mx d mid (pc + 3) ls st (mj_setI h q b v) Q) : mx d mid pc ls (.int v :: .ref q :: st) h Q := mx_step f rfl (mj_nocall fun _ => ⟨nofun, nofun, nofun⟩) (by simp [mj_step, mj_putf, hK, hg.1, hg.2.1, hg.2.2]) k
theorem x_putZ {x q n : Nat} {v : Int32} (f : mj_fetch mid pc = some (.putfield x, a, b)) (hK : mj_K h q = (a, n)) (hg : a < 12 ∧ b < mj_nf a ∧ mj_ty a b = .boolean) (hv : v = 0 ∨ v = 1) (k : mx d mid (pc + 3) ls st (mj_setI h q b v) Q) : mx d mid pc ls (.int v :: .ref q :: st) h Q := mx_step f rfl (mj_nocall fun _ => ⟨nofun, nofun, nofun⟩) (by simp [mj_step, mj_putf, hK, hg.1, hg.2.1, hg.2.2, hv]) k
theorem x_putR {x q n y : Nat} (f : mj_fetch mid pc = some (.putfield x, a, b)) (hK : mj_K h q = (a, n)) (hg : a < 12 ∧ b < mj_nf a ∧ mj_isR (mj_ty a b) = true) (k : mx d mid (pc + 3) ls st (mj_setR h q b (some y)) Q) : mx d mid pc ls (.ref y :: .ref q :: st) h Q := mx_step f rfl (mj_nocall fun _ => ⟨nofun, nofun, nofun⟩) (by simp [mj_step, mj_putf, hK, hg.1, hg.2.1, hg.2.2]) k
theorem x_gets {x : Nat} (f : mj_fetch mid pc = some (.getstatic x, a, b)) (k : mx d mid (pc + 3) ls (.ref a :: st) h Q) : mx d mid pc ls st h Q := mx_step f rfl (mj_nocall fun _ => ⟨nofun, nofun, nofun⟩) (by rfl) k
theorem mj_inbN {h : mj_H} {q kd n j : Nat} (hK : mj_K h q = (kd, n)) (hj : j < n) (hn : n < 2 ^ 31) : mj_inb h q (nI j) = true := by
  unfold mj_inb
  rw [hK, nI_clamp (by omega)]
  have h0 : ¬ nI j < 0 := nI_pos (by omega)
  simp [h0, hj]
theorem x_iald {q n j : Nat} (f : mj_fetch mid pc = some (.iaload, a, b)) (hK : mj_K h q = (12, n)) (hj : j < n) (hn : n < 2 ^ 31) (k : mx d mid (pc + 1) ls (.int (mj_I h q j) :: st) h Q) : mx d mid pc ls (.int (nI j) :: .ref q :: st) h Q := mx_step f rfl (mj_nocall fun _ => ⟨nofun, nofun, nofun⟩) (by have hb1 : mj_inb h q (nI j) = true := mj_inbN hK hj hn; have hb2 : (nI j).toNatClampNeg = j := nI_clamp (by omega); simp [mj_step, mj_ald, hK, hb1, hb2]) k
theorem x_zald {q n j : Nat} (f : mj_fetch mid pc = some (.baload, a, b)) (hK : mj_K h q = (14, n)) (hj : j < n) (hn : n < 2 ^ 31) (k : mx d mid (pc + 1) ls (.int (mj_I h q j) :: st) h Q) : mx d mid pc ls (.int (nI j) :: .ref q :: st) h Q := mx_step f rfl (mj_nocall fun _ => ⟨nofun, nofun, nofun⟩) (by have hb1 : mj_inb h q (nI j) = true := mj_inbN hK hj hn; have hb2 : (nI j).toNatClampNeg = j := nI_clamp (by omega); simp [mj_step, mj_ald, hK, hb1, hb2]) k
theorem x_lald {q n j : Nat} (f : mj_fetch mid pc = some (.laload, a, b)) (hK : mj_K h q = (13, n)) (hj : j < n) (hn : n < 2 ^ 31) (k : mx d mid (pc + 1) ls (.long (mj_J h q j) :: st) h Q) : mx d mid pc ls (.int (nI j) :: .ref q :: st) h Q := mx_step f rfl (mj_nocall fun _ => ⟨nofun, nofun, nofun⟩) (by have hb1 : mj_inb h q (nI j) = true := mj_inbN hK hj hn; have hb2 : (nI j).toNatClampNeg = j := nI_clamp (by omega); simp [mj_step, mj_ald, hK, hb1, hb2]) k
theorem x_rald {q kd n j y : Nat} (f : mj_fetch mid pc = some (.aaload, a, b)) (hK : mj_K h q = (kd, n)) (hkd : 15 ≤ kd ∧ kd ≤ 18) (hj : j < n) (hn : n < 2 ^ 31) (hR : mj_R h q j = some y) (k : mx d mid (pc + 1) ls (.ref y :: st) h Q) : mx d mid pc ls (.int (nI j) :: .ref q :: st) h Q := mx_step f rfl (mj_nocall fun _ => ⟨nofun, nofun, nofun⟩) (by have hb1 : mj_inb h q (nI j) = true := mj_inbN hK hj hn; have hb2 : (nI j).toNatClampNeg = j := nI_clamp (by omega); simp [mj_step, mj_rld, hK, hb1, hb2, hkd.1, hkd.2, hR, va_rf]) k
theorem x_iast {q n j : Nat} {v : Int32} (f : mj_fetch mid pc = some (.iastore, a, b)) (hK : mj_K h q = (12, n)) (h8 : 8 ≤ q) (hj : j < n) (hn : n < 2 ^ 31) (k : mx d mid (pc + 1) ls st (mj_setI h q j v) Q) : mx d mid pc ls (.int v :: .int (nI j) :: .ref q :: st) h Q := mx_step f rfl (mj_nocall fun _ => ⟨nofun, nofun, nofun⟩) (by have hb1 : mj_inb h q (nI j) = true := mj_inbN hK hj hn; have hb2 : (nI j).toNatClampNeg = j := nI_clamp (by omega); simp [mj_step, mj_ast, hK, hb1, hb2, h8]) k
theorem x_zast {q n j : Nat} {v : Int32} (f : mj_fetch mid pc = some (.bastore, a, b)) (hK : mj_K h q = (14, n)) (hv : v = 0 ∨ v = 1) (hj : j < n) (hn : n < 2 ^ 31) (k : mx d mid (pc + 1) ls st (mj_setI h q j v) Q) : mx d mid pc ls (.int v :: .int (nI j) :: .ref q :: st) h Q := mx_step f rfl (mj_nocall fun _ => ⟨nofun, nofun, nofun⟩) (by have hb1 : mj_inb h q (nI j) = true := mj_inbN hK hj hn; have hb2 : (nI j).toNatClampNeg = j := nI_clamp (by omega); simp [mj_step, mj_zst, hK, hb1, hb2, hv]) k
theorem x_last {q n j : Nat} {v : Int64} (f : mj_fetch mid pc = some (.lastore, a, b)) (hK : mj_K h q = (13, n)) (hj : j < n) (hn : n < 2 ^ 31) (k : mx d mid (pc + 1) ls st (mj_setJ h q j v) Q) : mx d mid pc ls (.long v :: .int (nI j) :: .ref q :: st) h Q := mx_step f rfl (mj_nocall fun _ => ⟨nofun, nofun, nofun⟩) (by have hb1 : mj_inb h q (nI j) = true := mj_inbN hK hj hn; have hb2 : (nI j).toNatClampNeg = j := nI_clamp (by omega); simp [mj_step, mj_lst, hK, hb1, hb2]) k
theorem x_rast {q kd n j y m : Nat} (f : mj_fetch mid pc = some (.aastore, a, b)) (hK : mj_K h q = (kd, n)) (hkd : 15 ≤ kd ∧ kd ≤ 18) (hy : mj_K h y = (mj_elt kd, m)) (hj : j < n) (hn : n < 2 ^ 31) (k : mx d mid (pc + 1) ls st (mj_setR h q j (some y)) Q) : mx d mid pc ls (.ref y :: .int (nI j) :: .ref q :: st) h Q := mx_step f rfl (mj_nocall fun _ => ⟨nofun, nofun, nofun⟩) (by have hb1 : mj_inb h q (nI j) = true := mj_inbN hK hj hn; have hb2 : (nI j).toNatClampNeg = j := nI_clamp (by omega); simp [mj_step, mj_rst, hK, hb1, hb2, hkd.1, hkd.2, hy]) k
theorem x_alen {q kd n : Nat} (f : mj_fetch mid pc = some (.arraylength, a, b)) (hK : mj_K h q = (kd, n)) (hkd : 12 ≤ kd ∧ kd ≤ 18) (k : mx d mid (pc + 1) ls (.int (nI n) :: st) h Q) : mx d mid pc ls (.ref q :: st) h Q := mx_step f rfl (mj_nocall fun _ => ⟨nofun, nofun, nofun⟩) (by simp [mj_step, mj_alen, hK, hkd.1, hkd.2, nI]) k
theorem mj_nwaN {h : mj_H} {kd j : Nat} (hj : j ≤ 100000) {st : List Value} : mj_nwa h kd (.int (nI j) :: st) = some (.ref h.1 :: st, mj_new h kd j) := by
  have h1 : ¬ nI j < 0 := nI_pos (by omega)
  have h2 : (nI j).toNatClampNeg = j := nI_clamp (by omega)
  simp [mj_nwa, h1, h2, hj]
theorem x_newa {t : ArrayType} {j : Nat} (f : mj_fetch mid pc = some (.newarray t, a, b)) (hj : j ≤ 100000) (k : mx d mid (pc + 2) ls (.ref h.1 :: st) (mj_new h a j) Q) : mx d mid pc ls (.int (nI j) :: st) h Q := mx_step f rfl (mj_nocall fun _ => ⟨nofun, nofun, nofun⟩) (by simp [mj_step, mj_nwaN hj]) k
theorem x_newr {x j : Nat} (f : mj_fetch mid pc = some (.anewarray x, a, b)) (hj : j ≤ 100000) (k : mx d mid (pc + 3) ls (.ref h.1 :: st) (mj_new h a j) Q) : mx d mid pc ls (.int (nI j) :: st) h Q := mx_step f rfl (mj_nocall fun _ => ⟨nofun, nofun, nofun⟩) (by simp [mj_step, mj_nwaN hj]) k
theorem x_new {x n : Nat} (f : mj_fetch mid pc = some (.new x, a, b)) (h12 : a < 12) (hn : mj_nf a = n) (k : mx d mid (pc + 3) ls (.ref h.1 :: st) (mj_new h a n) Q) : mx d mid pc ls st h Q := mx_step f rfl (mj_nocall fun _ => ⟨nofun, nofun, nofun⟩) (by simp [mj_step, h12, hn]) k
theorem x_init {q : Nat} {x : Nat} (f : mj_fetch mid pc = some (.invokespecial x, a, 1)) (hw : mj_words st ≤ 8) (k : mx d mid (pc + 3) ls st h Q) : mx d mid pc ls (.ref q :: st) h Q := mx_step f rfl rfl (by simp [mj_step, hw]) k
theorem x_min {u v : Int32} {x : Nat} (f : mj_fetch mid pc = some (.invokestatic x, a, 2)) (hw : mj_words st ≤ 8) (k : mx d mid (pc + 3) ls (.int (if v < u then v else u) :: st) h Q) : mx d mid pc ls (.int v :: .int u :: st) h Q := mx_step f rfl rfl (by simp [mj_step, hw]) k
theorem x_max {u v : Int32} {x : Nat} (f : mj_fetch mid pc = some (.invokestatic x, a, 3)) (hw : mj_words st ≤ 8) (k : mx d mid (pc + 3) ls (.int (if u < v then v else u) :: st) h Q) : mx d mid pc ls (.int v :: .int u :: st) h Q := mx_step f rfl rfl (by simp [mj_step, hw]) k
theorem x_abs {u : Int32} {x : Nat} (f : mj_fetch mid pc = some (.invokestatic x, a, 4)) (hw : mj_words st ≤ 8) (k : mx d mid (pc + 3) ls (.int (if 0 ≤ u then u else 0 - u) :: st) h Q) : mx d mid pc ls (.int u :: st) h Q := mx_step f rfl rfl (by simp [mj_step, hw]) k
theorem x_cpy {n q y ny nq : Nat} {x : Nat} (f : mj_fetch mid pc = some (.invokestatic x, a, 5)) (hw : mj_words st ≤ 8) (hy : mj_K h y = (12, ny)) (hq : mj_K h q = (12, nq)) (h8 : 8 ≤ y ∧ 8 ≤ q) (hn1 : n ≤ ny) (hn2 : n ≤ nq) (hn3 : n < 2 ^ 31) (k : mx d mid (pc + 3) ls st (mj_setW h q (va_cpy (mj_I h y) (mj_I h q) 0 0 n)) Q) : mx d mid pc ls (.int (nI n) :: .int 0 :: .ref q :: .int 0 :: .ref y :: st) h Q := mx_step f rfl rfl (by have h1 : ¬ nI n < 0 := nI_pos hn3; have h2 : (nI n).toNatClampNeg = n := nI_clamp hn3; have h3 : (0 : Int32).toNatClampNeg = 0 := rfl; simp [mj_step, mj_cpy, hw, hy, hq, h8.1, h8.2, h1, h2, h3, hn1, hn2]) k
theorem x_retI {v : Int32} (f : mj_fetch mid pc = some (.ireturn, a, b)) (hr : mj_r mid = some .int) (q : Q (some (.int v)) h) : mx d mid pc ls [.int v] h Q := mx_ret f (by rw [hr]; rfl) q
theorem x_retZ {v : Int32} (f : mj_fetch mid pc = some (.ireturn, a, b)) (hr : mj_r mid = some .boolean) (hv : v = 0 ∨ v = 1) (q : Q (some (.int v)) h) : mx d mid pc ls [.int v] h Q := mx_ret f (by rw [hr]; simp [mj_ret, hv]) q
theorem x_retV (f : mj_fetch mid pc = some (.return_, a, b)) (hr : mj_r mid = none) (q : Q none h) : mx d mid pc ls [] h Q := mx_ret f (by rw [hr]; rfl) q
theorem x_retA {v : Nat} {t : FieldType} (f : mj_fetch mid pc = some (.areturn, a, b)) (hr : mj_r mid = some t) (ht : mj_isR t = true) (q : Q (some (.ref v)) h) : mx d mid pc ls [.ref v] h Q := mx_ret f (by rw [hr]; simp [mj_ret, ht]) q
theorem x_retN {t : FieldType} (f : mj_fetch mid pc = some (.areturn, a, b)) (hr : mj_r mid = some t) (ht : mj_isR t = true) (q : Q (some .null) h) : mx d mid pc ls [.null] h Q := mx_ret f (by rw [hr]; simp [mj_ret, ht]) q
/-- what a call of a method gives: it ends, its answer and its heap are as said -/
def mxc (d mid : Nat) (as : List Value) (h : mj_H) (Q : Option Value → mj_H → Prop) : Prop := mx d mid 0 (as ++ List.replicate (mj_maxL mid - as.length) mj_unset) [] h Q
theorem mxc.mono {d d' : Nat} {as : List Value} (k : mxc d mid as h Q) (hd : d ≤ d') : mxc d' mid as h Q := mx.mono k hd
theorem mxc.post {as : List Value} (k : mxc d mid as h Q) (hq : ∀ r h', Q r h' → Q' r h') : mxc d mid as h Q' := mx.post k hq
theorem x_callV {x q n dc : Nat} {as : List Value} {stk : List Value} (f : mj_fetch mid pc = some (.invokevirtual x, a, 0)) (k : mxc dc a (.ref q :: as) h Q') (hd : dc < d) (hK : mj_K h q = (mj_own a, n)) (hg : mj_own a < 12 ∧ mj_st a = false) (hstk : stk = as.reverse ++ .ref q :: st) (hn : mj_np a = as.length) (hw : mj_words st ≤ 8) (hk : as.all mj_kn = true) (kk : ∀ r h', Q' r h' → mx d mid (pc + 3) ls (r.toList ++ st) h' Q) : mx d mid pc ls stk h Q := by
  subst hstk
  refine mx_call (as := .ref q :: as) (st' := st) f rfl ?_ hd k kk
  have e1 : (as.reverse ++ .ref q :: st).drop (mj_np a) = .ref q :: st := by rw [hn, List.drop_left' (by simp)]
  have e2 : (as.reverse ++ .ref q :: st).take (mj_np a) = as.reverse := by rw [hn, List.take_left' (by simp)]
  unfold mj_call
  rw [if_pos rfl]
  dsimp only
  rw [e1, e2]
  simp [hK, hg.1, hg.2, hw]
  intro v hv
  exact List.all_eq_true.mp hk v hv
theorem x_callI {x q dc : Nat} {as : List Value} {stk : List Value} (f : mj_fetch mid pc = some (.invokespecial x, a, 0)) (k : mxc dc a (.ref q :: as) h Q') (hd : dc < d) (hg : mj_st a = false) (hstk : stk = as.reverse ++ .ref q :: st) (hn : mj_np a = as.length) (hw : mj_words st ≤ 8) (hk : as.all mj_kn = true) (kk : ∀ r h', Q' r h' → mx d mid (pc + 3) ls (r.toList ++ st) h' Q) : mx d mid pc ls stk h Q := by
  subst hstk
  refine mx_call (as := .ref q :: as) (st' := st) f rfl ?_ hd k kk
  have e1 : (as.reverse ++ .ref q :: st).drop (mj_np a) = .ref q :: st := by rw [hn, List.drop_left' (by simp)]
  have e2 : (as.reverse ++ .ref q :: st).take (mj_np a) = as.reverse := by rw [hn, List.take_left' (by simp)]
  unfold mj_call
  rw [if_pos rfl]
  dsimp only
  rw [e1, e2]
  simp [hg, hw]
  intro v hv
  exact List.all_eq_true.mp hk v hv
theorem x_callS {x dc : Nat} {as : List Value} {stk : List Value} (f : mj_fetch mid pc = some (.invokestatic x, a, 0)) (k : mxc dc a as h Q') (hd : dc < d) (hg : mj_st a = true) (hstk : stk = as.reverse ++ st) (hn : mj_np a = as.length) (hw : mj_words st ≤ 8) (hk : as.all mj_kn = true) (kk : ∀ r h', Q' r h' → mx d mid (pc + 3) ls (r.toList ++ st) h' Q) : mx d mid pc ls stk h Q := by
  subst hstk
  refine mx_call (as := as) (st' := st) f rfl ?_ hd k kk
  have e1 : (as.reverse ++ st).drop (mj_np a) = st := by rw [hn, List.drop_left' (by simp)]
  have e2 : (as.reverse ++ st).take (mj_np a) = as.reverse := by rw [hn, List.take_left' (by simp)]
  unfold mj_call
  rw [if_pos rfl]
  dsimp only
  rw [e1, e2]
  simp [hg, hw, hn]
  intro v hv
  exact List.all_eq_true.mp hk v hv
end MXR
