/-! BITS; stuffs and jobs -/
def lbit (x : Int64) (k : Nat) : Bool := x.toBitVec.getLsbD k
theorem lb_k : ∀ k, k < 64 → ((nI k).toInt64 &&& 63).toBitVec.smod 64 = BitVec.ofNat 64 k := by decide +kernel
theorem lb_shr (x : Int64) {k : Nat} (hk : k < 64) : (x >>> ((nI k).toInt64 &&& 63)).toBitVec = x.toBitVec.sshiftRight k := by
  show x.toBitVec.sshiftRight' (((nI k).toInt64 &&& 63).toBitVec.smod 64) = _
  rw [lb_k k hk]
  simp [BitVec.sshiftRight', Nat.mod_eq_of_lt (show k < 18446744073709551616 by omega)]
theorem lb_and1 (x : BitVec 64) : x &&& 1#64 = 1#64 ↔ x.getLsbD 0 = true := by
  constructor
  · intro h
    have := congrArg (fun y => BitVec.getLsbD y 0) h
    simpa using this
  · intro h
    apply BitVec.eq_of_getLsbD_eq
    intro i hi
    rw [BitVec.getLsbD_and]
    by_cases h0 : i = 0
    · subst h0; simp [h]
    · simp [h0]
theorem lb_get (x : Int64) {k : Nat} (hk : k < 64) : (x >>> ((nI k).toInt64 &&& 63)) &&& 1 = 1 ↔ lbit x k = true := by
  rw [← Int64.toBitVec_inj]
  show (x >>> ((nI k).toInt64 &&& 63)).toBitVec &&& 1#64 = 1#64 ↔ _
  rw [lb_and1, lb_shr x hk, BitVec.getLsbD_sshiftRight]
  simp [lbit, hk]
theorem lb_or (x : Int64) {k q : Nat} (hk : k < 64) (hq : q < 64) : lbit (x ||| (1 <<< ((nI k).toInt64 &&& 63))) q = (lbit x q || decide (q = k)) := by
  show (x.toBitVec ||| (1#64 <<< (((nI k).toInt64 &&& 63).toBitVec.smod 64))).getLsbD q = _
  rw [lb_k k hk, BitVec.getLsbD_or]
  simp only [lbit]
  congr 1
  rw [show (1#64 <<< BitVec.ofNat 64 k) = BitVec.shiftLeft 1#64 (k % 2^64) from by simp [BitVec.shiftLeft_eq'] ]
  rw [Nat.mod_eq_of_lt (by omega)]
  rw [BitVec.shiftLeft_eq, BitVec.getLsbD_shiftLeft]
  rcases Nat.lt_trichotomy q k with e | e | e
  · simp [hq, e, Nat.ne_of_lt e]
  · subst e; simp [hq]
  · have e1 : ¬ q < k := by omega
    have e2 : ¬ q = k := by omega
    have e3 : ¬ q - k = 0 := by omega
    simp [hq, e1, e2, e3]
def ibit (x : Int32) (k : Nat) : Bool := x.toBitVec.getLsbD k
theorem ib_k : ∀ k, k < 32 → (nI k &&& 31).toBitVec.smod 32 = BitVec.ofNat 32 k := by decide +kernel
theorem ib_shr (x : Int32) {k : Nat} (hk : k < 32) : (x >>> (nI k &&& 31)).toBitVec = x.toBitVec.sshiftRight k := by
  show x.toBitVec.sshiftRight' ((nI k &&& 31).toBitVec.smod 32) = _
  rw [ib_k k hk]
  simp [BitVec.sshiftRight', Nat.mod_eq_of_lt (show k < 4294967296 by omega)]
theorem ib_and1 (x : BitVec 32) : x &&& 1#32 = 1#32 ↔ x.getLsbD 0 = true := by
  constructor
  · intro h
    have := congrArg (fun y => BitVec.getLsbD y 0) h
    simpa using this
  · intro h
    apply BitVec.eq_of_getLsbD_eq
    intro i hi
    rw [BitVec.getLsbD_and]
    by_cases h0 : i = 0
    · subst h0; simp [h]
    · simp [h0]
theorem ib_get (x : Int32) {k : Nat} (hk : k < 32) : (x >>> (nI k &&& 31)) &&& 1 = 1 ↔ ibit x k = true := by
  rw [← Int32.toBitVec_inj]
  show (x >>> (nI k &&& 31)).toBitVec &&& 1#32 = 1#32 ↔ _
  rw [ib_and1, ib_shr x hk, BitVec.getLsbD_sshiftRight]
  simp [ibit, hk]
theorem ib_or (x : Int32) {k q : Nat} (hk : k < 32) (hq : q < 32) : ibit (x ||| (1 <<< (nI k &&& 31))) q = (ibit x q || decide (q = k)) := by
  show (x.toBitVec ||| (1#32 <<< ((nI k &&& 31).toBitVec.smod 32))).getLsbD q = _
  rw [ib_k k hk, BitVec.getLsbD_or]
  simp only [ibit]
  congr 1
  rw [show (1#32 <<< BitVec.ofNat 32 k) = BitVec.shiftLeft 1#32 (k % 2^32) from by simp [BitVec.shiftLeft_eq'] ]
  rw [Nat.mod_eq_of_lt (by omega)]
  rw [BitVec.shiftLeft_eq, BitVec.getLsbD_shiftLeft]
  rcases Nat.lt_trichotomy q k with e | e | e
  · simp [hq, e, Nat.ne_of_lt e]
  · subst e; simp [hq]
  · have e1 : ¬ q < k := by omega
    have e2 : ¬ q = k := by omega
    have e3 : ¬ q - k = 0 := by omega
    simp [hq, e1, e2, e3]
theorem lg_cmp0 {x y : Int64} : lg_cmp x y = 0 ↔ x = y := by
  unfold lg_cmp
  by_cases h : x = y
  · subst h; simp
  · by_cases h2 : x > y <;> simp [h, h2]
/-- one bit of a row of longs is set -/
def lset (h : mj_H) (D z : Nat) : mj_H := mj_setJ h D (z / 64) (mj_J h D (z / 64) ||| (1 <<< ((nI (z % 64)).toInt64 &&& 63)))
def lb (h : mj_H) (D z : Nat) : Bool := lbit (mj_J h D (z / 64)) (z % 64)
theorem lb_set (h : mj_H) (D z q : Nat) : lb (lset h D z) D q = (lb h D q || decide (q = z)) := by
  unfold lb lset
  by_cases e : q / 64 = z / 64
  · rw [e, mj_J_at, lb_or _ (by omega) (by omega)]
    congr 1
    simp only [decide_eq_decide]
    omega
  · rw [mj_J_ne e]
    have : ¬ q = z := fun w => e (by rw [w])
    simp [this]
theorem lb_other {h : mj_H} {D E z q : Nat} (hn : E ≠ D) : lb (lset h D z) E q = lb h E q := by
  unfold lb lset
  rw [mj_J_other hn]
set_option maxRecDepth 20000 in
theorem k_isJudged {h : mj_H} {A D : Nat} (hA : mj_K h A = (3, 5)) (hR : mj_R h A 3 = some D) (hD : mj_K h D = (13, 12)) {z : Nat} (hz : z < 729) : mxc 0 33 [.ref A, .int (nI z)] h (fun r h' => r = some (.int (if lb h D z = true then 1 else 0)) ∧ h' = h) := by
  show mx 0 33 0 [.ref A, .int (nI z)] [] h _
  refine x_aload_n f_33_0 rfl ?_
  refine x_getR f_33_1 hA (by decide) hR ?_
  refine x_iload_n f_33_4 rfl ?_
  refine x_bipush (v := nI 64) f_33_5 (by decide) ?_
  refine x_idivN f_33_7 (by omega) (by decide) (by decide) ?_
  refine x_lald (j := (z / 64)) f_33_8 hD (by omega) (by decide) ?_
  refine x_iload_n f_33_9 rfl ?_
  refine x_bipush (v := nI 64) f_33_10 (by decide) ?_
  refine x_iremN f_33_12 (by omega) (by decide) (by decide) ?_
  refine x_lshr f_33_13 ?_
  refine x_lconst (v := 1) f_33_14 (by decide) ?_
  refine x_land f_33_15 ?_
  refine x_lconst (v := 1) f_33_16 (by decide) ?_
  refine x_lcmp f_33_17 ?_
  refine x_if_ne (t := 25) f_33_18 (by decide) (fun c_1 => ?_) (fun c_1 => ?_)
  · refine x_iconst (v := nI 0) f_33_25 (by decide) ?_
    refine x_retZ f_33_26 rfl (by decide) ?_
    exact ⟨mj_if0 (fun q => c_1 (lg_cmp0.mpr ((lb_get _ (by omega)).mpr q))), rfl⟩
  · refine x_iconst (v := nI 1) f_33_21 (by decide) ?_
    refine x_goto (t := 26) f_33_22 (by decide) ?_
    refine x_retZ f_33_26 rfl (by decide) ?_
    exact ⟨mj_if1 ((lb_get _ (by omega)).mp (lg_cmp0.mp c_1)), rfl⟩
set_option maxRecDepth 20000 in
theorem k_isFound {h : mj_H} {A D : Nat} (hA : mj_K h A = (3, 5)) (hR : mj_R h A 4 = some D) (hD : mj_K h D = (13, 12)) {z : Nat} (hz : z < 729) : mxc 0 34 [.ref A, .int (nI z)] h (fun r h' => r = some (.int (if lb h D z = true then 1 else 0)) ∧ h' = h) := by
  show mx 0 34 0 [.ref A, .int (nI z)] [] h _
  refine x_aload_n f_34_0 rfl ?_
  refine x_getR f_34_1 hA (by decide) hR ?_
  refine x_iload_n f_34_4 rfl ?_
  refine x_bipush (v := nI 64) f_34_5 (by decide) ?_
  refine x_idivN f_34_7 (by omega) (by decide) (by decide) ?_
  refine x_lald (j := (z / 64)) f_34_8 hD (by omega) (by decide) ?_
  refine x_iload_n f_34_9 rfl ?_
  refine x_bipush (v := nI 64) f_34_10 (by decide) ?_
  refine x_iremN f_34_12 (by omega) (by decide) (by decide) ?_
  refine x_lshr f_34_13 ?_
  refine x_lconst (v := 1) f_34_14 (by decide) ?_
  refine x_land f_34_15 ?_
  refine x_lconst (v := 1) f_34_16 (by decide) ?_
  refine x_lcmp f_34_17 ?_
  refine x_if_ne (t := 25) f_34_18 (by decide) (fun c_1 => ?_) (fun c_1 => ?_)
  · refine x_iconst (v := nI 0) f_34_25 (by decide) ?_
    refine x_retZ f_34_26 rfl (by decide) ?_
    exact ⟨mj_if0 (fun q => c_1 (lg_cmp0.mpr ((lb_get _ (by omega)).mpr q))), rfl⟩
  · refine x_iconst (v := nI 1) f_34_21 (by decide) ?_
    refine x_goto (t := 26) f_34_22 (by decide) ?_
    refine x_retZ f_34_26 rfl (by decide) ?_
    exact ⟨mj_if1 ((lb_get _ (by omega)).mp (lg_cmp0.mp c_1)), rfl⟩
set_option maxRecDepth 20000 in
theorem k_judge0 {h : mj_H} {A D F : Nat} (hA : mj_K h A = (3, 5)) (hRD : mj_R h A 3 = some D) (hD : mj_K h D = (13, 12)) (hRF : mj_R h A 4 = some F) (hF : mj_K h F = (13, 12)) {z : Nat} (hz : z < 729) : mxc 0 35 [.ref A, .int (nI z), .int (nI 0)] h (fun r h' => r = none ∧ h' = lset h D z) := by
  show mx 0 35 0 [.ref A, .int (nI z), .int (nI 0)] [] h _
  refine x_aload_n f_35_0 rfl ?_
  refine x_getR f_35_1 hA (by decide) hRD ?_
  refine x_iload_n f_35_4 rfl ?_
  refine x_bipush (v := nI 64) f_35_5 (by decide) ?_
  refine x_idivN f_35_7 (by omega) (by decide) (by decide) ?_
  refine x_dup2 f_35_8 rfl rfl ?_
  refine x_lald (j := (z / 64)) f_35_9 hD (by omega) (by decide) ?_
  refine x_lconst (v := 1) f_35_10 (by decide) ?_
  refine x_iload_n f_35_11 rfl ?_
  refine x_bipush (v := nI 64) f_35_12 (by decide) ?_
  refine x_iremN f_35_14 (by omega) (by decide) (by decide) ?_
  refine x_lshl f_35_15 ?_
  refine x_lor f_35_16 ?_
  refine x_last (j := (z / 64)) f_35_17 hD (by omega) (by decide) ?_
  refine x_iload_n f_35_18 rfl ?_
  refine x_ifN_eq (t := 40) f_35_19 (by decide) (by decide) (fun c_1 => ?_) (fun c_1 => by omega)
  refine x_retV f_35_40 rfl ?_
  exact ⟨rfl, rfl⟩
set_option maxRecDepth 20000 in
theorem k_judge1 {h : mj_H} {A D F : Nat} (hA : mj_K h A = (3, 5)) (hRD : mj_R h A 3 = some D) (hD : mj_K h D = (13, 12)) (hRF : mj_R h A 4 = some F) (hF : mj_K h F = (13, 12)) {z : Nat} (hz : z < 729) : mxc 0 35 [.ref A, .int (nI z), .int (nI 1)] h (fun r h' => r = none ∧ h' = lset (lset h D z) F z) := by
  show mx 0 35 0 [.ref A, .int (nI z), .int (nI 1)] [] h _
  refine x_aload_n f_35_0 rfl ?_
  refine x_getR f_35_1 hA (by decide) hRD ?_
  refine x_iload_n f_35_4 rfl ?_
  refine x_bipush (v := nI 64) f_35_5 (by decide) ?_
  refine x_idivN f_35_7 (by omega) (by decide) (by decide) ?_
  refine x_dup2 f_35_8 rfl rfl ?_
  refine x_lald (j := (z / 64)) f_35_9 hD (by omega) (by decide) ?_
  refine x_lconst (v := 1) f_35_10 (by decide) ?_
  refine x_iload_n f_35_11 rfl ?_
  refine x_bipush (v := nI 64) f_35_12 (by decide) ?_
  refine x_iremN f_35_14 (by omega) (by decide) (by decide) ?_
  refine x_lshl f_35_15 ?_
  refine x_lor f_35_16 ?_
  refine x_last (j := (z / 64)) f_35_17 hD (by omega) (by decide) ?_
  refine x_iload_n f_35_18 rfl ?_
  refine x_ifN_eq (t := 40) f_35_19 (by decide) (by decide) (fun c_1 => by omega) (fun c_1 => ?_)
  refine x_aload_n f_35_22 rfl ?_
  refine x_getR f_35_23 hA (by decide) hRF ?_
  refine x_iload_n f_35_26 rfl ?_
  refine x_bipush (v := nI 64) f_35_27 (by decide) ?_
  refine x_idivN f_35_29 (by omega) (by decide) (by decide) ?_
  refine x_dup2 f_35_30 rfl rfl ?_
  refine x_lald (j := (z / 64)) f_35_31 hF (by omega) (by decide) ?_
  refine x_lconst (v := 1) f_35_32 (by decide) ?_
  refine x_iload_n f_35_33 rfl ?_
  refine x_bipush (v := nI 64) f_35_34 (by decide) ?_
  refine x_iremN f_35_36 (by omega) (by decide) (by decide) ?_
  refine x_lshl f_35_37 ?_
  refine x_lor f_35_38 ?_
  refine x_last (j := (z / 64)) f_35_39 hF (by omega) (by decide) ?_
  refine x_retV f_35_40 rfl ?_
  exact ⟨rfl, rfl⟩
set_option maxRecDepth 20000 in
theorem k_joined0 (h : mj_H) (x y : Int32) : mxc 0 31 [.int (nI 0), .int x, .int y] h (fun r h' => r = some (.int (jn 0 x y)) ∧ h' = h) := by
  show mx 0 31 0 [.int (nI 0), .int x, .int y] [] h _
  refine x_iload_n f_31_0 rfl ?_
  refine x_tswD (t := 48) f_31_1 (by decide) (by decide) ?_
  refine x_iload_n f_31_48 rfl ?_
  refine x_iload_n f_31_49 rfl ?_
  refine x_iadd f_31_50 ?_
  refine x_iconst (v := nI 2) f_31_51 (by decide) ?_
  refine x_idiv f_31_52 (by decide) ?_
  refine x_retI f_31_53 rfl ?_
  exact ⟨rfl, rfl⟩
set_option maxRecDepth 20000 in
theorem k_joined1 (h : mj_H) (x y : Int32) : mxc 0 31 [.int (nI 1), .int x, .int y] h (fun r h' => r = some (.int (jn 1 x y)) ∧ h' = h) := by
  show mx 0 31 0 [.int (nI 1), .int x, .int y] [] h _
  refine x_iload_n f_31_0 rfl ?_
  refine x_tswD (t := 48) f_31_1 (by decide) (by decide) ?_
  refine x_iload_n f_31_48 rfl ?_
  refine x_iload_n f_31_49 rfl ?_
  refine x_iadd f_31_50 ?_
  refine x_iconst (v := nI 2) f_31_51 (by decide) ?_
  refine x_idiv f_31_52 (by decide) ?_
  refine x_retI f_31_53 rfl ?_
  exact ⟨rfl, rfl⟩
set_option maxRecDepth 20000 in
theorem k_joined2 (h : mj_H) (x y : Int32) : mxc 0 31 [.int (nI 2), .int x, .int y] h (fun r h' => r = some (.int (jn 2 x y)) ∧ h' = h) := by
  show mx 0 31 0 [.int (nI 2), .int x, .int y] [] h _
  refine x_iload_n f_31_0 rfl ?_
  refine x_tswD (t := 48) f_31_1 (by decide) (by decide) ?_
  refine x_iload_n f_31_48 rfl ?_
  refine x_iload_n f_31_49 rfl ?_
  refine x_iadd f_31_50 ?_
  refine x_iconst (v := nI 2) f_31_51 (by decide) ?_
  refine x_idiv f_31_52 (by decide) ?_
  refine x_retI f_31_53 rfl ?_
  exact ⟨rfl, rfl⟩
set_option maxRecDepth 20000 in
theorem k_joined3 (h : mj_H) (x y : Int32) : mxc 0 31 [.int (nI 3), .int x, .int y] h (fun r h' => r = some (.int (jn 3 x y)) ∧ h' = h) := by
  show mx 0 31 0 [.int (nI 3), .int x, .int y] [] h _
  refine x_iload_n f_31_0 rfl ?_
  refine x_tsw (t := 36) (off := 35) f_31_1 (by decide) (by decide) (by decide) ?_
  refine x_iload_n f_31_36 rfl ?_
  refine x_iload_n f_31_37 rfl ?_
  refine x_min f_31_38 (Nat.le_of_ble_eq_true rfl) ?_
  refine x_retI f_31_41 rfl ?_
  exact ⟨rfl, rfl⟩
set_option maxRecDepth 20000 in
theorem k_joined4 (h : mj_H) (x y : Int32) : mxc 0 31 [.int (nI 4), .int x, .int y] h (fun r h' => r = some (.int (jn 4 x y)) ∧ h' = h) := by
  show mx 0 31 0 [.int (nI 4), .int x, .int y] [] h _
  refine x_iload_n f_31_0 rfl ?_
  refine x_tsw (t := 48) (off := 47) f_31_1 (by decide) (by decide) (by decide) ?_
  refine x_iload_n f_31_48 rfl ?_
  refine x_iload_n f_31_49 rfl ?_
  refine x_iadd f_31_50 ?_
  refine x_iconst (v := nI 2) f_31_51 (by decide) ?_
  refine x_idiv f_31_52 (by decide) ?_
  refine x_retI f_31_53 rfl ?_
  exact ⟨rfl, rfl⟩
set_option maxRecDepth 20000 in
theorem k_joined5 (h : mj_H) (x y : Int32) : mxc 0 31 [.int (nI 5), .int x, .int y] h (fun r h' => r = some (.int (jn 5 x y)) ∧ h' = h) := by
  show mx 0 31 0 [.int (nI 5), .int x, .int y] [] h _
  refine x_iload_n f_31_0 rfl ?_
  refine x_tsw (t := 42) (off := 41) f_31_1 (by decide) (by decide) (by decide) ?_
  refine x_iload_n f_31_42 rfl ?_
  refine x_iload_n f_31_43 rfl ?_
  refine x_max f_31_44 (Nat.le_of_ble_eq_true rfl) ?_
  refine x_retI f_31_47 rfl ?_
  exact ⟨rfl, rfl⟩
set_option maxRecDepth 20000 in
theorem k_joined6 (h : mj_H) (x y : Int32) : mxc 0 31 [.int (nI 6), .int x, .int y] h (fun r h' => r = some (.int (jn 6 x y)) ∧ h' = h) := by
  show mx 0 31 0 [.int (nI 6), .int x, .int y] [] h _
  refine x_iload_n f_31_0 rfl ?_
  refine x_tsw (t := 42) (off := 41) f_31_1 (by decide) (by decide) (by decide) ?_
  refine x_iload_n f_31_42 rfl ?_
  refine x_iload_n f_31_43 rfl ?_
  refine x_max f_31_44 (Nat.le_of_ble_eq_true rfl) ?_
  refine x_retI f_31_47 rfl ?_
  exact ⟨rfl, rfl⟩
set_option maxRecDepth 20000 in
theorem k_joined7 (h : mj_H) (x y : Int32) : mxc 0 31 [.int (nI 7), .int x, .int y] h (fun r h' => r = some (.int (jn 7 x y)) ∧ h' = h) := by
  show mx 0 31 0 [.int (nI 7), .int x, .int y] [] h _
  refine x_iload_n f_31_0 rfl ?_
  refine x_tsw (t := 36) (off := 35) f_31_1 (by decide) (by decide) (by decide) ?_
  refine x_iload_n f_31_36 rfl ?_
  refine x_iload_n f_31_37 rfl ?_
  refine x_min f_31_38 (Nat.le_of_ble_eq_true rfl) ?_
  refine x_retI f_31_41 rfl ?_
  exact ⟨rfl, rfl⟩
set_option maxRecDepth 20000 in
theorem k_join {h : mj_H} {A U B G X Y : Nat} (hA : mj_K h A = (3, 5)) (hRU : mj_R h A 2 = some U) (hU : mj_K h U = (12, 9)) (hB : mj_K h B = (6, 2)) (hRB : mj_R h B 0 = some X) (hX : mj_K h X = (12, 8)) (hG : mj_K h G = (6, 2)) (hRG : mj_R h G 0 = some Y) (hY : mj_K h Y = (12, 8)) (h8 : 8 ≤ U) (hXU : X ≠ U) (hYU : Y ≠ U) (rings : Int32) : mxc 1 30 [.ref A, .ref B, .ref G, .int rings] h (fun r h' => r = none ∧ Rw h h' [U] ∧ (∀ i, i < 8 → mj_I h' U i = jn i (mj_I h X i) (mj_I h Y i)) ∧ mj_I h' U 8 = rings) := by
  show mx 1 30 0 [.ref A, .ref B, .ref G, .int rings, mj_unset] [] h _
  refine x_iconst (v := nI 0) f_30_0 (by decide) ?_
  refine x_istore (ls1 := [.ref A, .ref B, .ref G, .int rings, .int (nI 0)]) f_30_1 (Nat.le_of_ble_eq_true rfl) rfl ?_
  refine x_iload f_30_3 rfl ?_
  refine x_bipush (v := nI 8) f_30_5 (by decide) ?_
  refine x_icmpN_ge (t := 42) f_30_7 (by decide) (by decide) (by decide) (fun c_1 => by omega) (fun c_1 => ?_)
  refine x_aload_n f_30_10 rfl ?_
  refine x_getR f_30_11 hA (by decide) hRU ?_
  refine x_iload f_30_14 rfl ?_
  refine x_iload f_30_16 rfl ?_
  refine x_aload_n f_30_18 rfl ?_
  refine x_getR f_30_19 hB (by decide) hRB ?_
  refine x_iload f_30_22 rfl ?_
  refine x_iald (j := 0) f_30_24 hX (by omega) (by decide) ?_
  refine x_aload_n f_30_25 rfl ?_
  refine x_getR f_30_26 hG (by decide) hRG ?_
  refine x_iload f_30_29 rfl ?_
  refine x_iald (j := 0) f_30_31 hY (by omega) (by decide) ?_
  refine x_callSe f_30_32 (k_joined0 _ _ _) (by omega) rfl rfl rfl (Nat.le_of_ble_eq_true rfl) rfl ?_
  refine x_iast (j := 0) f_30_35 hU (by omega) (by omega) (by decide) ?_
  refine x_iinc (v := nI 1) (ls1 := [.ref A, .ref B, .ref G, .int rings, .int (nI 1)]) f_30_36 rfl (by decide) rfl ?_
  refine x_goto (t := 3) f_30_39 (by decide) ?_
  refine x_iload f_30_3 rfl ?_
  refine x_bipush (v := nI 8) f_30_5 (by decide) ?_
  refine x_icmpN_ge (t := 42) f_30_7 (by decide) (by decide) (by decide) (fun c_2 => by omega) (fun c_2 => ?_)
  refine x_aload_n f_30_10 rfl ?_
  refine x_getR f_30_11 hA (by decide) hRU ?_
  refine x_iload f_30_14 rfl ?_
  refine x_iload f_30_16 rfl ?_
  refine x_aload_n f_30_18 rfl ?_
  refine x_getR f_30_19 hB (by decide) hRB ?_
  refine x_iload f_30_22 rfl ?_
  refine x_iald (j := 1) f_30_24 hX (by omega) (by decide) ?_
  refine x_topi (w := mj_I h X 1) (congrFun (mj_I_other hXU) _) ?_
  refine x_aload_n f_30_25 rfl ?_
  refine x_getR f_30_26 hG (by decide) hRG ?_
  refine x_iload f_30_29 rfl ?_
  refine x_iald (j := 1) f_30_31 hY (by omega) (by decide) ?_
  refine x_topi (w := mj_I h Y 1) (congrFun (mj_I_other hYU) _) ?_
  refine x_callSe f_30_32 (k_joined1 _ _ _) (by omega) rfl rfl rfl (Nat.le_of_ble_eq_true rfl) rfl ?_
  refine x_iast (j := 1) f_30_35 hU (by omega) (by omega) (by decide) ?_
  refine x_iinc (v := nI 2) (ls1 := [.ref A, .ref B, .ref G, .int rings, .int (nI 2)]) f_30_36 rfl (by decide) rfl ?_
  refine x_goto (t := 3) f_30_39 (by decide) ?_
  refine x_iload f_30_3 rfl ?_
  refine x_bipush (v := nI 8) f_30_5 (by decide) ?_
  refine x_icmpN_ge (t := 42) f_30_7 (by decide) (by decide) (by decide) (fun c_3 => by omega) (fun c_3 => ?_)
  refine x_aload_n f_30_10 rfl ?_
  refine x_getR f_30_11 hA (by decide) hRU ?_
  refine x_iload f_30_14 rfl ?_
  refine x_iload f_30_16 rfl ?_
  refine x_aload_n f_30_18 rfl ?_
  refine x_getR f_30_19 hB (by decide) hRB ?_
  refine x_iload f_30_22 rfl ?_
  refine x_iald (j := 2) f_30_24 hX (by omega) (by decide) ?_
  refine x_topi (w := mj_I h X 2) ((congrFun (mj_I_other hXU) _).trans (congrFun (mj_I_other hXU) _)) ?_
  refine x_aload_n f_30_25 rfl ?_
  refine x_getR f_30_26 hG (by decide) hRG ?_
  refine x_iload f_30_29 rfl ?_
  refine x_iald (j := 2) f_30_31 hY (by omega) (by decide) ?_
  refine x_topi (w := mj_I h Y 2) ((congrFun (mj_I_other hYU) _).trans (congrFun (mj_I_other hYU) _)) ?_
  refine x_callSe f_30_32 (k_joined2 _ _ _) (by omega) rfl rfl rfl (Nat.le_of_ble_eq_true rfl) rfl ?_
  refine x_iast (j := 2) f_30_35 hU (by omega) (by omega) (by decide) ?_
  refine x_iinc (v := nI 3) (ls1 := [.ref A, .ref B, .ref G, .int rings, .int (nI 3)]) f_30_36 rfl (by decide) rfl ?_
  refine x_goto (t := 3) f_30_39 (by decide) ?_
  refine x_iload f_30_3 rfl ?_
  refine x_bipush (v := nI 8) f_30_5 (by decide) ?_
  refine x_icmpN_ge (t := 42) f_30_7 (by decide) (by decide) (by decide) (fun c_4 => by omega) (fun c_4 => ?_)
  refine x_aload_n f_30_10 rfl ?_
  refine x_getR f_30_11 hA (by decide) hRU ?_
  refine x_iload f_30_14 rfl ?_
  refine x_iload f_30_16 rfl ?_
  refine x_aload_n f_30_18 rfl ?_
  refine x_getR f_30_19 hB (by decide) hRB ?_
  refine x_iload f_30_22 rfl ?_
  refine x_iald (j := 3) f_30_24 hX (by omega) (by decide) ?_
  refine x_topi (w := mj_I h X 3) ((congrFun (mj_I_other hXU) _).trans ((congrFun (mj_I_other hXU) _).trans (congrFun (mj_I_other hXU) _))) ?_
  refine x_aload_n f_30_25 rfl ?_
  refine x_getR f_30_26 hG (by decide) hRG ?_
  refine x_iload f_30_29 rfl ?_
  refine x_iald (j := 3) f_30_31 hY (by omega) (by decide) ?_
  refine x_topi (w := mj_I h Y 3) ((congrFun (mj_I_other hYU) _).trans ((congrFun (mj_I_other hYU) _).trans (congrFun (mj_I_other hYU) _))) ?_
  refine x_callSe f_30_32 (k_joined3 _ _ _) (by omega) rfl rfl rfl (Nat.le_of_ble_eq_true rfl) rfl ?_
  refine x_iast (j := 3) f_30_35 hU (by omega) (by omega) (by decide) ?_
  refine x_iinc (v := nI 4) (ls1 := [.ref A, .ref B, .ref G, .int rings, .int (nI 4)]) f_30_36 rfl (by decide) rfl ?_
  refine x_goto (t := 3) f_30_39 (by decide) ?_
  refine x_iload f_30_3 rfl ?_
  refine x_bipush (v := nI 8) f_30_5 (by decide) ?_
  refine x_icmpN_ge (t := 42) f_30_7 (by decide) (by decide) (by decide) (fun c_5 => by omega) (fun c_5 => ?_)
  refine x_aload_n f_30_10 rfl ?_
  refine x_getR f_30_11 hA (by decide) hRU ?_
  refine x_iload f_30_14 rfl ?_
  refine x_iload f_30_16 rfl ?_
  refine x_aload_n f_30_18 rfl ?_
  refine x_getR f_30_19 hB (by decide) hRB ?_
  refine x_iload f_30_22 rfl ?_
  refine x_iald (j := 4) f_30_24 hX (by omega) (by decide) ?_
  refine x_topi (w := mj_I h X 4) ((congrFun (mj_I_other hXU) _).trans ((congrFun (mj_I_other hXU) _).trans ((congrFun (mj_I_other hXU) _).trans (congrFun (mj_I_other hXU) _)))) ?_
  refine x_aload_n f_30_25 rfl ?_
  refine x_getR f_30_26 hG (by decide) hRG ?_
  refine x_iload f_30_29 rfl ?_
  refine x_iald (j := 4) f_30_31 hY (by omega) (by decide) ?_
  refine x_topi (w := mj_I h Y 4) ((congrFun (mj_I_other hYU) _).trans ((congrFun (mj_I_other hYU) _).trans ((congrFun (mj_I_other hYU) _).trans (congrFun (mj_I_other hYU) _)))) ?_
  refine x_callSe f_30_32 (k_joined4 _ _ _) (by omega) rfl rfl rfl (Nat.le_of_ble_eq_true rfl) rfl ?_
  refine x_iast (j := 4) f_30_35 hU (by omega) (by omega) (by decide) ?_
  refine x_iinc (v := nI 5) (ls1 := [.ref A, .ref B, .ref G, .int rings, .int (nI 5)]) f_30_36 rfl (by decide) rfl ?_
  refine x_goto (t := 3) f_30_39 (by decide) ?_
  refine x_iload f_30_3 rfl ?_
  refine x_bipush (v := nI 8) f_30_5 (by decide) ?_
  refine x_icmpN_ge (t := 42) f_30_7 (by decide) (by decide) (by decide) (fun c_6 => by omega) (fun c_6 => ?_)
  refine x_aload_n f_30_10 rfl ?_
  refine x_getR f_30_11 hA (by decide) hRU ?_
  refine x_iload f_30_14 rfl ?_
  refine x_iload f_30_16 rfl ?_
  refine x_aload_n f_30_18 rfl ?_
  refine x_getR f_30_19 hB (by decide) hRB ?_
  refine x_iload f_30_22 rfl ?_
  refine x_iald (j := 5) f_30_24 hX (by omega) (by decide) ?_
  refine x_topi (w := mj_I h X 5) ((congrFun (mj_I_other hXU) _).trans ((congrFun (mj_I_other hXU) _).trans ((congrFun (mj_I_other hXU) _).trans ((congrFun (mj_I_other hXU) _).trans (congrFun (mj_I_other hXU) _))))) ?_
  refine x_aload_n f_30_25 rfl ?_
  refine x_getR f_30_26 hG (by decide) hRG ?_
  refine x_iload f_30_29 rfl ?_
  refine x_iald (j := 5) f_30_31 hY (by omega) (by decide) ?_
  refine x_topi (w := mj_I h Y 5) ((congrFun (mj_I_other hYU) _).trans ((congrFun (mj_I_other hYU) _).trans ((congrFun (mj_I_other hYU) _).trans ((congrFun (mj_I_other hYU) _).trans (congrFun (mj_I_other hYU) _))))) ?_
  refine x_callSe f_30_32 (k_joined5 _ _ _) (by omega) rfl rfl rfl (Nat.le_of_ble_eq_true rfl) rfl ?_
  refine x_iast (j := 5) f_30_35 hU (by omega) (by omega) (by decide) ?_
  refine x_iinc (v := nI 6) (ls1 := [.ref A, .ref B, .ref G, .int rings, .int (nI 6)]) f_30_36 rfl (by decide) rfl ?_
  refine x_goto (t := 3) f_30_39 (by decide) ?_
  refine x_iload f_30_3 rfl ?_
  refine x_bipush (v := nI 8) f_30_5 (by decide) ?_
  refine x_icmpN_ge (t := 42) f_30_7 (by decide) (by decide) (by decide) (fun c_7 => by omega) (fun c_7 => ?_)
  refine x_aload_n f_30_10 rfl ?_
  refine x_getR f_30_11 hA (by decide) hRU ?_
  refine x_iload f_30_14 rfl ?_
  refine x_iload f_30_16 rfl ?_
  refine x_aload_n f_30_18 rfl ?_
  refine x_getR f_30_19 hB (by decide) hRB ?_
  refine x_iload f_30_22 rfl ?_
  refine x_iald (j := 6) f_30_24 hX (by omega) (by decide) ?_
  refine x_topi (w := mj_I h X 6) ((congrFun (mj_I_other hXU) _).trans ((congrFun (mj_I_other hXU) _).trans ((congrFun (mj_I_other hXU) _).trans ((congrFun (mj_I_other hXU) _).trans ((congrFun (mj_I_other hXU) _).trans (congrFun (mj_I_other hXU) _)))))) ?_
  refine x_aload_n f_30_25 rfl ?_
  refine x_getR f_30_26 hG (by decide) hRG ?_
  refine x_iload f_30_29 rfl ?_
  refine x_iald (j := 6) f_30_31 hY (by omega) (by decide) ?_
  refine x_topi (w := mj_I h Y 6) ((congrFun (mj_I_other hYU) _).trans ((congrFun (mj_I_other hYU) _).trans ((congrFun (mj_I_other hYU) _).trans ((congrFun (mj_I_other hYU) _).trans ((congrFun (mj_I_other hYU) _).trans (congrFun (mj_I_other hYU) _)))))) ?_
  refine x_callSe f_30_32 (k_joined6 _ _ _) (by omega) rfl rfl rfl (Nat.le_of_ble_eq_true rfl) rfl ?_
  refine x_iast (j := 6) f_30_35 hU (by omega) (by omega) (by decide) ?_
  refine x_iinc (v := nI 7) (ls1 := [.ref A, .ref B, .ref G, .int rings, .int (nI 7)]) f_30_36 rfl (by decide) rfl ?_
  refine x_goto (t := 3) f_30_39 (by decide) ?_
  refine x_iload f_30_3 rfl ?_
  refine x_bipush (v := nI 8) f_30_5 (by decide) ?_
  refine x_icmpN_ge (t := 42) f_30_7 (by decide) (by decide) (by decide) (fun c_8 => by omega) (fun c_8 => ?_)
  refine x_aload_n f_30_10 rfl ?_
  refine x_getR f_30_11 hA (by decide) hRU ?_
  refine x_iload f_30_14 rfl ?_
  refine x_iload f_30_16 rfl ?_
  refine x_aload_n f_30_18 rfl ?_
  refine x_getR f_30_19 hB (by decide) hRB ?_
  refine x_iload f_30_22 rfl ?_
  refine x_iald (j := 7) f_30_24 hX (by omega) (by decide) ?_
  refine x_topi (w := mj_I h X 7) ((congrFun (mj_I_other hXU) _).trans ((congrFun (mj_I_other hXU) _).trans ((congrFun (mj_I_other hXU) _).trans ((congrFun (mj_I_other hXU) _).trans ((congrFun (mj_I_other hXU) _).trans ((congrFun (mj_I_other hXU) _).trans (congrFun (mj_I_other hXU) _))))))) ?_
  refine x_aload_n f_30_25 rfl ?_
  refine x_getR f_30_26 hG (by decide) hRG ?_
  refine x_iload f_30_29 rfl ?_
  refine x_iald (j := 7) f_30_31 hY (by omega) (by decide) ?_
  refine x_topi (w := mj_I h Y 7) ((congrFun (mj_I_other hYU) _).trans ((congrFun (mj_I_other hYU) _).trans ((congrFun (mj_I_other hYU) _).trans ((congrFun (mj_I_other hYU) _).trans ((congrFun (mj_I_other hYU) _).trans ((congrFun (mj_I_other hYU) _).trans (congrFun (mj_I_other hYU) _))))))) ?_
  refine x_callSe f_30_32 (k_joined7 _ _ _) (by omega) rfl rfl rfl (Nat.le_of_ble_eq_true rfl) rfl ?_
  refine x_iast (j := 7) f_30_35 hU (by omega) (by omega) (by decide) ?_
  refine x_iinc (v := nI 8) (ls1 := [.ref A, .ref B, .ref G, .int rings, .int (nI 8)]) f_30_36 rfl (by decide) rfl ?_
  refine x_goto (t := 3) f_30_39 (by decide) ?_
  refine x_iload f_30_3 rfl ?_
  refine x_bipush (v := nI 8) f_30_5 (by decide) ?_
  refine x_icmpN_ge (t := 42) f_30_7 (by decide) (by decide) (by decide) (fun c_9 => ?_) (fun c_9 => by omega)
  refine x_aload_n f_30_42 rfl ?_
  refine x_getR f_30_43 hA (by decide) hRU ?_
  refine x_bipush (v := nI 8) f_30_46 (by decide) ?_
  refine x_iload_n f_30_48 rfl ?_
  refine x_iast (j := 8) f_30_49 hU (by omega) (by omega) (by decide) ?_
  refine x_retV f_30_50 rfl ?_
  refine ⟨rfl, Rw.set (Rw.set (Rw.set (Rw.set (Rw.set (Rw.set (Rw.set (Rw.set (Rw.set (Rw.rf h _) (by simp)) (by simp)) (by simp)) (by simp)) (by simp)) (by simp)) (by simp)) (by simp)) (by simp), ?_, mj_I_at _ _ _ _⟩
  intro i hi
  have hc : i = 0 ∨ i = 1 ∨ i = 2 ∨ i = 3 ∨ i = 4 ∨ i = 5 ∨ i = 6 ∨ i = 7 := by omega
  rcases hc with rfl | rfl | rfl | rfl | rfl | rfl | rfl | rfl <;> simp [mj_I_set]
set_option maxRecDepth 20000 in
theorem k_has {h : mj_H} {A : Nat} (hA : mj_K h A = (3, 5)) (v : Int32) : mxc 0 32 [.ref A, .int v] h (fun r h' => r = some (.int (if mj_I h A 0 = v ∨ mj_I h A 1 = v then 1 else 0)) ∧ h' = h) := by
  show mx 0 32 0 [.ref A, .int v] [] h _
  refine x_aload_n f_32_0 rfl ?_
  refine x_getI f_32_1 hA (by decide) ?_
  refine x_iload_n f_32_4 rfl ?_
  refine x_icmp_eq (t := 16) f_32_5 (by decide) (fun c_1 => ?_) (fun c_1 => ?_)
  · refine x_iconst (v := nI 1) f_32_16 (by decide) ?_
    refine x_goto (t := 21) f_32_17 (by decide) ?_
    refine x_retZ f_32_21 rfl (by decide) ?_
    exact ⟨mj_if1 (Or.inl c_1), rfl⟩
  · refine x_aload_n f_32_8 rfl ?_
    refine x_getI f_32_9 hA (by decide) ?_
    refine x_iload_n f_32_12 rfl ?_
    refine x_icmp_ne (t := 20) f_32_13 (by decide) (fun c_2 => ?_) (fun c_2 => ?_)
    · refine x_iconst (v := nI 0) f_32_20 (by decide) ?_
      refine x_retZ f_32_21 rfl (by decide) ?_
      exact ⟨mj_if0 (fun q => q.elim c_1 c_2), rfl⟩
    · refine x_iconst (v := nI 1) f_32_16 (by decide) ?_
      refine x_goto (t := 21) f_32_17 (by decide) ?_
      refine x_retZ f_32_21 rfl (by decide) ?_
      exact ⟨mj_if1 (Or.inr c_2), rfl⟩
set_option maxRecDepth 20000 in
theorem k_isBarred {h : mj_H} {B : Nat} (hB : mj_K h B = (6, 2)) {z : Nat} (hz : z < 32) : mxc 0 50 [.ref B, .int (nI z)] h (fun r h' => r = some (.int (if ibit (mj_I h B 1) z = true then 1 else 0)) ∧ h' = h) := by
  show mx 0 50 0 [.ref B, .int (nI z)] [] h _
  refine x_aload_n f_50_0 rfl ?_
  refine x_getI f_50_1 hB (by decide) ?_
  refine x_iload_n f_50_4 rfl ?_
  refine x_ishr f_50_5 ?_
  refine x_iconst (v := nI 1) f_50_6 (by decide) ?_
  refine x_iand f_50_7 ?_
  refine x_iconst (v := nI 1) f_50_8 (by decide) ?_
  refine x_icmp_ne (t := 16) f_50_9 (by decide) (fun c_1 => ?_) (fun c_1 => ?_)
  · refine x_iconst (v := nI 0) f_50_16 (by decide) ?_
    refine x_retZ f_50_17 rfl (by decide) ?_
    exact ⟨mj_if0 (fun q => c_1 ((ib_get _ hz).mpr q)), rfl⟩
  · refine x_iconst (v := nI 1) f_50_12 (by decide) ?_
    refine x_goto (t := 17) f_50_13 (by decide) ?_
    refine x_retZ f_50_17 rfl (by decide) ?_
    exact ⟨mj_if1 ((ib_get _ hz).mp c_1), rfl⟩
set_option maxRecDepth 20000 in
theorem k_barFrom {h : mj_H} {B : Nat} (hB : mj_K h B = (6, 2)) (z : Nat) : mxc 0 51 [.ref B, .int (nI z)] h (fun r h' => r = none ∧ h' = mj_setI h B 1 (mj_I h B 1 ||| (1 <<< (nI z &&& 31)))) := by
  show mx 0 51 0 [.ref B, .int (nI z)] [] h _
  refine x_aload_n f_51_0 rfl ?_
  refine x_dup f_51_1 rfl ?_
  refine x_getI f_51_2 hB (by decide) ?_
  refine x_iconst (v := nI 1) f_51_5 (by decide) ?_
  refine x_iload_n f_51_6 rfl ?_
  refine x_ishl f_51_7 ?_
  refine x_ior f_51_8 ?_
  refine x_putI f_51_9 hB (by decide) ?_
  refine x_retV f_51_12 rfl ?_
  exact ⟨rfl, rfl⟩
