/-! A SMALL MACHINE over the program's instructions: numbered cells, total rows of ints, longs and references; one run of it is a run of the JVM (part 05). -/
def mj_own (mid : Nat) : Nat := mj_ownL.getD mid 0
def mj_maxL (mid : Nat) : Nat := mj_maxLL.getD mid 0
def mj_np (mid : Nat) : Nat := mj_npL.getD mid 0
def mj_st (mid : Nat) : Bool := mj_stL.getD mid false
def mj_y (mid : Nat) : MethodName := mj_yL.getD mid yL_law
def mj_bAt : Option Cond → ByteArray
  | some (.code _ b _ _) => b
  | _ => ⟨#[]⟩
def mj_b (mid : Nat) : ByteArray := if mid = 176 then code else mj_bAt lw_tbl[mj_bP.getD mid 9999]?
def mj_r (mid : Nat) : Option FieldType := mj_rL.getD mid none
def mj_cn (o : Nat) : String := mj_cnL.getD o ""
def mj_tyL : List (Nat → FieldType) := [tyX0, tyX1, tyX2, tyX3, tyX4, tyX5, tyX6, tyX7, tyX8, tyX9, tyX10, tyX11]
def mj_ty (kd : Nat) : Nat → FieldType := mj_tyL.getD kd tyX0
def mj_kc (kd : Nat) : vw_C := vwCl.getD kd (RX0, TX0, 0)
def mj_nf (kd : Nat) : Nat := (mj_kc kd).2.2
def mj_sL (k : Nat) : Nat := (mj_sVL.getD k []).length
def mj_sV (k j : Nat) : Int32 := (mj_sVL.getD k []).getD j 0
def mj_sC (k : Nat) : String := (mj_sCL.getD k ("", "")).1
def mj_sN (k : Nat) : String := (mj_sCL.getD k ("", "")).2
def mj_isR : FieldType → Bool
  | .object _ => true
  | .array _ => true
  | _ => false
def mj_look : List (Nat × Instr × Nat × Nat) → Nat → Option (Instr × Nat × Nat)
  | [], _ => none
  | e :: r, pc => bif Nat.beq e.1 pc then some e.2 else mj_look r pc
def mj_fetch (mid pc : Nat) : Option (Instr × Nat × Nat) := mj_look (mj_cds.getD mid []) pc
/-- the heap: next address, slots made so far, kind and length by address, ints, longs, references by address and place -/
abbrev mj_H : Type := Nat × Nat × (Nat → Nat × Nat) × (Nat → Nat → Int32) × (Nat → Nat → Int64) × (Nat → Nat → Option Nat)
def mj_K (h : mj_H) : Nat → Nat × Nat := h.2.2.1
def mj_I (h : mj_H) : Nat → Nat → Int32 := h.2.2.2.1
def mj_J (h : mj_H) : Nat → Nat → Int64 := h.2.2.2.2.1
def mj_R (h : mj_H) : Nat → Nat → Option Nat := h.2.2.2.2.2
def mj_u {α : Type} (f : Nat → Nat → α) (a j : Nat) (x : α) : Nat → Nat → α := fun b i => if b = a then (if i = j then x else f b i) else f b i
def mj_setI (h : mj_H) (a j : Nat) (x : Int32) : mj_H := (h.1, h.2.1, h.2.2.1, mj_u h.2.2.2.1 a j x, h.2.2.2.2.1, h.2.2.2.2.2)
def mj_setJ (h : mj_H) (a j : Nat) (x : Int64) : mj_H := (h.1, h.2.1, h.2.2.1, h.2.2.2.1, mj_u h.2.2.2.2.1 a j x, h.2.2.2.2.2)
def mj_setR (h : mj_H) (a j : Nat) (x : Option Nat) : mj_H := (h.1, h.2.1, h.2.2.1, h.2.2.2.1, h.2.2.2.2.1, mj_u h.2.2.2.2.2 a j x)
/-- a whole row of ints anew -/
def mj_setW (h : mj_H) (a : Nat) (f : Nat → Int32) : mj_H := (h.1, h.2.1, h.2.2.1, (fun b i => if b = a then f i else h.2.2.2.1 b i), h.2.2.2.2.1, h.2.2.2.2.2)
def mj_new (h : mj_H) (kd len : Nat) : mj_H := (h.1 + 1, h.2.1 + len, (fun b => if b = h.1 then (kd, len) else h.2.2.1 b), (fun b i => if b = h.1 then 0 else h.2.2.2.1 b i), (fun b i => if b = h.1 then 0 else h.2.2.2.2.1 b i), (fun b i => if b = h.1 then none else h.2.2.2.2.2 b i))
def mj_unset : Value := .float 0
abbrev mj_S : Type := Nat × List Value × List Value × mj_H
def mj_icmp : Instr → Int32 → Int32 → Bool
  | .if_icmp .eq _, x, y => decide (x = y)
  | .if_icmp .ne _, x, y => decide (¬ x = y)
  | .if_icmp .lt _, x, y => decide (x < y)
  | .if_icmp .ge _, x, y => decide (y ≤ x)
  | .if_icmp .gt _, x, y => decide (y < x)
  | .if_icmp .le _, x, y => decide (x ≤ y)
  | .ifCond .eq _, x, _ => decide (x = 0)
  | .ifCond .ne _, x, _ => decide (¬ x = 0)
  | .ifCond .lt _, x, _ => decide (x < 0)
  | .ifCond .ge _, x, _ => decide (0 ≤ x)
  | .ifCond .gt _, x, _ => decide (0 < x)
  | .ifCond .le _, x, _ => decide (x ≤ 0)
  | _, _, _ => false
def mj_tgt (pc : Nat) (off : Int) : Nat := ((pc : Int) + off).toNat
def mj_load (ls : List Value) (k : Nat) (isInt : Bool) : Option Value :=
  match ls[k]? with
  | some (.int x) => if isInt then some (.int x) else none
  | some (.ref q) => if isInt then none else some (.ref q)
  | some .null => if isInt then none else some .null
  | _ => none
def mj_bin (st : List Value) (f : Int32 → Int32 → Option Int32) : Option (List Value) :=
  match st with
  | .int y :: .int x :: r => (f x y).map (fun z => .int z :: r)
  | _ => none
def mj_lbin (st : List Value) (f : Int64 → Int64 → Value) : Option (List Value) :=
  match st with
  | .long y :: .long x :: r => some (f x y :: r)
  | _ => none
def mj_fv (h : mj_H) (kd a j : Nat) : Value := if mj_isR (mj_ty kd j) then va_rf (mj_R h a j) else .int (mj_I h a j)
def mj_words (r : List Value) : Nat := (r.map fun v => v.category).sum
def mj_inb (h : mj_H) (k : Nat) (i : Int32) : Bool := !(decide (i < 0) || decide ((mj_K h k).2 ≤ i.toNatClampNeg))
/-- the class whose objects an array of references holds -/
def mj_elt (kd : Nat) : Nat := if kd = 15 then 3 else if kd = 16 then 4 else if kd = 17 then 6 else 9
def mj_getf (h : mj_H) (a b : Nat) (st : List Value) : Option (List Value) :=
  match st with
  | .ref k :: r => if (mj_K h k).1 = a ∧ a < 12 ∧ b < mj_nf a then some (mj_fv h a k b :: r) else none
  | _ => none
def mj_putf (h : mj_H) (a b : Nat) (st : List Value) : Option (List Value × mj_H) :=
  match st with
  | .int x :: .ref k :: r => if (mj_K h k).1 = a ∧ a < 12 ∧ b < mj_nf a ∧ (mj_ty a b = .int ∨ (mj_ty a b = .boolean ∧ (x = 0 ∨ x = 1))) then some (r, mj_setI h k b x) else none
  | .ref v :: .ref k :: r => if (mj_K h k).1 = a ∧ a < 12 ∧ b < mj_nf a ∧ mj_isR (mj_ty a b) = true then some (r, mj_setR h k b (some v)) else none
  | .null :: .ref k :: r => if (mj_K h k).1 = a ∧ a < 12 ∧ b < mj_nf a ∧ mj_isR (mj_ty a b) = true then some (r, mj_setR h k b none) else none
  | _ => none
def mj_ald (h : mj_H) (kd : Nat) (st : List Value) : Option (List Value) :=
  match st with
  | .int i :: .ref k :: r => if (mj_K h k).1 = kd ∧ mj_inb h k i = true then some ((if kd = 13 then .long (mj_J h k i.toNatClampNeg) else .int (mj_I h k i.toNatClampNeg)) :: r) else none
  | _ => none
def mj_rld (h : mj_H) (st : List Value) : Option (List Value) :=
  match st with
  | .int i :: .ref k :: r => if 15 ≤ (mj_K h k).1 ∧ (mj_K h k).1 ≤ 18 ∧ mj_inb h k i = true then some (va_rf (mj_R h k i.toNatClampNeg) :: r) else none
  | _ => none
def mj_ast (h : mj_H) (st : List Value) : Option (List Value × mj_H) :=
  match st with
  | .int x :: .int i :: .ref k :: r => if 8 ≤ k ∧ (mj_K h k).1 = 12 ∧ mj_inb h k i = true then some (r, mj_setI h k i.toNatClampNeg x) else none
  | _ => none
def mj_zst (h : mj_H) (st : List Value) : Option (List Value × mj_H) :=
  match st with
  | .int x :: .int i :: .ref k :: r => if (mj_K h k).1 = 14 ∧ (x = 0 ∨ x = 1) ∧ mj_inb h k i = true then some (r, mj_setI h k i.toNatClampNeg x) else none
  | _ => none
def mj_lst (h : mj_H) (st : List Value) : Option (List Value × mj_H) :=
  match st with
  | .long x :: .int i :: .ref k :: r => if (mj_K h k).1 = 13 ∧ mj_inb h k i = true then some (r, mj_setJ h k i.toNatClampNeg x) else none
  | _ => none
def mj_rst (h : mj_H) (st : List Value) : Option (List Value × mj_H) :=
  match st with
  | .ref v :: .int i :: .ref k :: r => if 15 ≤ (mj_K h k).1 ∧ (mj_K h k).1 ≤ 18 ∧ (mj_K h v).1 = mj_elt (mj_K h k).1 ∧ mj_inb h k i = true then some (r, mj_setR h k i.toNatClampNeg (some v)) else none
  | _ => none
def mj_alen (h : mj_H) (st : List Value) : Option (List Value) :=
  match st with
  | .ref k :: r => if 12 ≤ (mj_K h k).1 ∧ (mj_K h k).1 ≤ 18 then some (.int (Int32.ofNat (mj_K h k).2) :: r) else none
  | _ => none
def mj_nwa (h : mj_H) (kd : Nat) (st : List Value) : Option (List Value × mj_H) :=
  match st with
  | .int n :: r => if ¬ n < 0 ∧ n.toNatClampNeg ≤ 100000 then some (.ref h.1 :: r, mj_new h kd n.toNatClampNeg) else none
  | _ => none
def mj_cpy (h : mj_H) (st : List Value) : Option (List Value × mj_H) :=
  match st with
  | .int n :: .int dp :: .ref q :: .int sp :: .ref k :: r => if 8 ≤ k ∧ 8 ≤ q ∧ (mj_K h k).1 = 12 ∧ (mj_K h q).1 = 12 ∧ ¬ sp < 0 ∧ ¬ dp < 0 ∧ ¬ n < 0 ∧ sp.toNatClampNeg + n.toNatClampNeg ≤ (mj_K h k).2 ∧ dp.toNatClampNeg + n.toNatClampNeg ≤ (mj_K h q).2 ∧ mj_words r ≤ 8 then some (r, mj_setW h q (va_cpy (mj_I h k) (mj_I h q) sp.toNatClampNeg dp.toNatClampNeg n.toNatClampNeg)) else none
  | _ => none
/-- what is told of a job, by the law's own method: thrown (a cell of no further use is made, and 1 answered), or the number put into the law's row (and 0 answered) -/
def mj_toldT (h : mj_H) (r : List Value) : Option (List Value × mj_H) := some (.int 1 :: r, mj_new h 19 6)
def mj_toldQ (h : mj_H) (o q : Nat) (w : Int32) (r : List Value) : Option (List Value × mj_H) :=
  if w < 0 ∨ 8 < w then mj_toldT h r
  else if (mj_K h q).1 = 3 then
    match mj_R h q 2 with
    | some mm => if (mj_K h mm).1 = 12 ∧ mj_inb h mm w = true then some (.int 0 :: r, mj_setJ h o 0 (mj_I h mm w.toNatClampNeg).toInt64) else none
    | none => none
  else none
def mj_told (h : mj_H) (st : List Value) : Option (List Value × mj_H) :=
  match st with
  | .ref o :: .int w :: .int j :: .ref x :: r =>
    if (mj_K h x).1 = 10 ∧ (mj_K h o).1 = 13 ∧ 1 ≤ (mj_K h o).2 ∧ mj_words r ≤ 8 then
      if ¬ j < 0 ∧ j < mj_I h x 11 then
        match mj_R h x 1 with
        | some jr => if (mj_K h jr).1 = 15 ∧ mj_inb h jr j = true then
            match mj_R h jr j.toNatClampNeg with
            | some q => mj_toldQ h o q w r
            | none => mj_toldT h r
          else none
        | none => none
      else mj_toldT h r
    else none
  | _ => none
def mj_step (i : Instr) (a b pc : Nat) (ls st : List Value) (h : mj_H) : Option mj_S :=
  match i with
  | .iconst n => some (pc + 1, ls, .int (Int32.ofInt n) :: st, h)
  | .bipush n => some (pc + 2, ls, .int (Int8.ofInt n).toInt32 :: st, h)
  | .sipush n => some (pc + 3, ls, .int (Int16.ofInt n).toInt32 :: st, h)
  | .ldc _ => some (pc + 2, ls, .int (Int32.ofNat a) :: st, h)
  | .lconst n => some (pc + 1, ls, .long (Int64.ofNat (n : Nat)) :: st, h)
  | .aconst_null => some (pc + 1, ls, .null :: st, h)
  | .iload_n k => (mj_load ls (k : Nat) true).map fun v => (pc + 1, ls, v :: st, h)
  | .iload k => (mj_load ls k true).map fun v => (pc + 2, ls, v :: st, h)
  | .aload_n k => (mj_load ls (k : Nat) false).map fun v => (pc + 1, ls, v :: st, h)
  | .aload k => (mj_load ls k false).map fun v => (pc + 2, ls, v :: st, h)
  | .istore_n k => match st with
    | .int x :: r => if (k : Nat) < ls.length then some (pc + 1, ls.set (k : Nat) (.int x), r, h) else none
    | _ => none
  | .istore k => match st with
    | .int x :: r => if k < ls.length then some (pc + 2, ls.set k (.int x), r, h) else none
    | _ => none
  | .astore_n k => match st with
    | .ref x :: r => if (k : Nat) < ls.length then some (pc + 1, ls.set (k : Nat) (.ref x), r, h) else none
    | .null :: r => if (k : Nat) < ls.length then some (pc + 1, ls.set (k : Nat) .null, r, h) else none
    | _ => none
  | .astore k => match st with
    | .ref x :: r => if k < ls.length then some (pc + 2, ls.set k (.ref x), r, h) else none
    | .null :: r => if k < ls.length then some (pc + 2, ls.set k .null, r, h) else none
    | _ => none
  | .iinc k n => match ls[k]? with
    | some (.int x) => some (pc + 3, ls.set k (.int (x + Int32.ofInt n)), st, h)
    | _ => none
  | .iadd => (mj_bin st fun x y => some (x + y)).map fun z => (pc + 1, ls, z, h)
  | .isub => (mj_bin st fun x y => some (x - y)).map fun z => (pc + 1, ls, z, h)
  | .imul => (mj_bin st fun x y => some (x * y)).map fun z => (pc + 1, ls, z, h)
  | .iand => (mj_bin st fun x y => some (x &&& y)).map fun z => (pc + 1, ls, z, h)
  | .ior => (mj_bin st fun x y => some (x ||| y)).map fun z => (pc + 1, ls, z, h)
  | .ishl => (mj_bin st fun x y => some (x <<< (y &&& 31))).map fun z => (pc + 1, ls, z, h)
  | .ishr => (mj_bin st fun x y => some (x >>> (y &&& 31))).map fun z => (pc + 1, ls, z, h)
  | .idiv => (mj_bin st fun x y => if y = 0 then none else some (x / y)).map fun z => (pc + 1, ls, z, h)
  | .irem => (mj_bin st fun x y => if y = 0 then none else some (x - x / y * y)).map fun z => (pc + 1, ls, z, h)
  | .land => (mj_lbin st fun x y => .long (x &&& y)).map fun z => (pc + 1, ls, z, h)
  | .lor => (mj_lbin st fun x y => .long (x ||| y)).map fun z => (pc + 1, ls, z, h)
  | .lcmp => (mj_lbin st fun x y => .int (lg_cmp x y)).map fun z => (pc + 1, ls, z, h)
  | .lshl => match st with
    | .int y :: .long x :: r => some (pc + 1, ls, .long (x <<< (y.toInt64 &&& 63)) :: r, h)
    | _ => none
  | .lshr => match st with
    | .int y :: .long x :: r => some (pc + 1, ls, .long (x >>> (y.toInt64 &&& 63)) :: r, h)
    | _ => none
  | .i2l => match st with
    | .int x :: r => some (pc + 1, ls, .long x.toInt64 :: r, h)
    | _ => none
  | .dup => match st with
    | v :: r => if v.category = 1 then some (pc + 1, ls, v :: v :: r, h) else none
    | _ => none
  | .pop => match st with
    | v :: r => if v.category = 1 then some (pc + 1, ls, r, h) else none
    | _ => none
  | .dup2 => match st with
    | v :: w :: r => if v.category = 1 ∧ w.category = 1 then some (pc + 1, ls, v :: w :: v :: w :: r, h) else none
    | _ => none
  | .goto off => some (mj_tgt pc off, ls, st, h)
  | .if_icmp c off => match st with
    | .int y :: .int x :: r => some (bif mj_icmp (.if_icmp c off) x y then mj_tgt pc off else pc + 3, ls, r, h)
    | _ => none
  | .ifCond c off => match st with
    | .int x :: r => some (bif mj_icmp (.ifCond c off) x 0 then mj_tgt pc off else pc + 3, ls, r, h)
    | _ => none
  | .ifnull off => match st with
    | .ref _ :: r => some (pc + 3, ls, r, h)
    | .null :: r => some (mj_tgt pc off, ls, r, h)
    | _ => none
  | .ifnonnull off => match st with
    | .ref _ :: r => some (mj_tgt pc off, ls, r, h)
    | .null :: r => some (pc + 3, ls, r, h)
    | _ => none
  | .if_acmp .ne off => match st with
    | .ref y :: .ref x :: r => if 8 ≤ x ∧ 8 ≤ y then some (if x = y then pc + 3 else mj_tgt pc off, ls, r, h) else none
    | .ref _ :: .null :: r => some (mj_tgt pc off, ls, r, h)
    | _ => none
  | .tableswitch dflt lo hi offs => match st with
    | .int x :: r => if x.toInt < lo ∨ hi < x.toInt then some (mj_tgt pc dflt, ls, r, h) else (offs[(x.toInt - lo).toNat]?).map fun off => (mj_tgt pc off, ls, r, h)
    | _ => none
  | .getfield _ => (mj_getf h a b st).map fun z => (pc + 3, ls, z, h)
  | .putfield _ => (mj_putf h a b st).map fun z => (pc + 3, ls, z.1, z.2)
  | .getstatic _ => some (pc + 3, ls, .ref a :: st, h)
  | .iaload => (mj_ald h 12 st).map fun z => (pc + 1, ls, z, h)
  | .baload => (mj_ald h 14 st).map fun z => (pc + 1, ls, z, h)
  | .laload => (mj_ald h 13 st).map fun z => (pc + 1, ls, z, h)
  | .aaload => (mj_rld h st).map fun z => (pc + 1, ls, z, h)
  | .iastore => (mj_ast h st).map fun z => (pc + 1, ls, z.1, z.2)
  | .bastore => (mj_zst h st).map fun z => (pc + 1, ls, z.1, z.2)
  | .lastore => (mj_lst h st).map fun z => (pc + 1, ls, z.1, z.2)
  | .aastore => (mj_rst h st).map fun z => (pc + 1, ls, z.1, z.2)
  | .arraylength => (mj_alen h st).map fun z => (pc + 1, ls, z, h)
  | .newarray _ => (mj_nwa h a st).map fun z => (pc + 2, ls, z.1, z.2)
  | .anewarray _ => (mj_nwa h a st).map fun z => (pc + 3, ls, z.1, z.2)
  | .new _ => if a < 12 then some (pc + 3, ls, .ref h.1 :: st, mj_new h a (mj_nf a)) else none
  | .invokespecial _ => match st with
    | .ref _ :: r => if b = 1 ∧ mj_words r ≤ 8 then some (pc + 3, ls, r, h) else none
    | _ => none
  | .invokestatic _ =>
    if b = 2 then match st with
      | .int y :: .int x :: r => if mj_words r ≤ 8 then some (pc + 3, ls, .int (if y < x then y else x) :: r, h) else none
      | _ => none
    else if b = 3 then match st with
      | .int y :: .int x :: r => if mj_words r ≤ 8 then some (pc + 3, ls, .int (if x < y then y else x) :: r, h) else none
      | _ => none
    else if b = 4 then match st with
      | .int x :: r => if mj_words r ≤ 8 then some (pc + 3, ls, .int (if 0 ≤ x then x else 0 - x) :: r, h) else none
      | _ => none
    else if b = 5 then (mj_cpy h st).map fun z => (pc + 3, ls, z.1, z.2)
    else if b = 6 then (mj_told h st).map fun z => (pc + 3, ls, z.1, z.2)
    else none
  | _ => none
/-- a return: what is answered -/
def mj_ret (rt : Option FieldType) (i : Instr) (st : List Value) : Option (Option Value) :=
  match i with
  | .return_ => match rt, st with
    | none, [] => some none
    | _, _ => none
  | .ireturn => match rt, st with
    | some .int, [.int v] => some (some (.int v))
    | some .boolean, [.int v] => if v = 0 ∨ v = 1 then some (some (.int v)) else none
    | _, _ => none
  | .areturn => match rt, st with
    | some t, [.ref v] => if mj_isR t then some (some (.ref v)) else none
    | some t, [.null] => if mj_isR t then some (some .null) else none
    | _, _ => none
  | _ => none
def mj_kn : Value → Bool
  | .int _ => true
  | .ref _ => true
  | .null => true
  | _ => false
/-- a call of a method of the program: its number, its arguments, the stack below -/
def mj_call (i : Instr) (a b : Nat) (st : List Value) (h : mj_H) : Option (List Value × List Value) :=
  if b = 0 then
    match i with
    | .invokevirtual _ => match st.drop (mj_np a) with
      | .ref k :: r => if (mj_K h k).1 = mj_own a ∧ mj_own a < 12 ∧ mj_words r ≤ 8 ∧ mj_st a = false ∧ (st.take (mj_np a)).all mj_kn = true then some (.ref k :: (st.take (mj_np a)).reverse, r) else none
      | _ => none
    | .invokespecial _ => match st.drop (mj_np a) with
      | .ref k :: r => if mj_words r ≤ 8 ∧ mj_st a = false ∧ (st.take (mj_np a)).all mj_kn = true then some (.ref k :: (st.take (mj_np a)).reverse, r) else none
      | _ => none
    | .invokestatic _ => if mj_np a ≤ st.length ∧ mj_words (st.drop (mj_np a)) ≤ 8 ∧ mj_st a = true ∧ (st.take (mj_np a)).all mj_kn = true then some ((st.take (mj_np a)).reverse, st.drop (mj_np a)) else none
    | _ => none
  else none
def mj_run : Nat → Nat → Nat → Nat → List Value → List Value → mj_H → Option (Option Value × mj_H)
  | 0, _, _, _, _, _, _ => none
  | n + 1, d, mid, pc, ls, st, h =>
    match mj_fetch mid pc with
    | none => none
    | some (i, a, b) =>
      match mj_ret (mj_r mid) i st with
      | some r => some (r, h)
      | none =>
        match mj_call i a b st h with
        | some (args, st') =>
          match d with
          | 0 => none
          | d' + 1 =>
            match mj_run n d' a 0 (args ++ List.replicate (mj_maxL a - args.length) mj_unset) [] h with
            | none => none
            | some (r, h') => mj_run n (d' + 1) mid (pc + 3) ls (r.toList ++ st') h'
        | none =>
          match mj_step i a b pc ls st h with
          | none => none
          | some (pc', ls', st', h') => mj_run n d mid pc' ls' st' h'
