/-! ONE TICK, as the class reckons it -/
def tc_led (M : Nat → Int32) (rg : Nat) (w : Nat → Int32) (q : Nat) : Int32 := (w q - (if q + 1 < rg then w (q + 1) else nI 20)) * M 2 / nI 1000
def tc_tk (M : Nat → Int32) (rg : Nat) (w : Nat → Int32) (q : Nat) : Int32 := if q = 0 then nI 0 else tc_led M rg w (q - 1)
def tc_gn (M : Nat → Int32) (w : Nat → Int32) (work : Int32) (q : Nat) : Int32 := if w q < M 3 then work * nI (q + 1) / M 1 else work * nI (q + 1) / M 1 / nI 2
def tc_cap (x m : Int32) : Int32 := if x ≤ m then x else m
def tc_nx (M : Nat → Int32) (rg : Nat) (w : Nat → Int32) (work : Int32) (q : Nat) : Int32 := tc_cap (w q + tc_tk M rg w q - tc_led M rg w q + tc_gn M w work q) (nI 5000)
def tc_ot (M : Nat → Int32) (w o : Nat → Int32) (push : Int32) (q : Nat) : Int32 := if w q < M 3 then o q else tc_cap (o q + push * (w q - M 3 + nI 1) / M 4) (nI 100000)
def tc_up (is was x y : Int32) : Int32 := if is = was then y else if x ≤ y then y else x
def mv (ch : Nat → Bool) : Nat → Bool
  | 0 => false
  | r + 1 => mv ch r || ch r
def tc_ch (M : Nat → Int32) (rg : Nat) (w o : Nat → Int32) (work push : Int32) (q : Nat) : Bool := decide (¬ tc_ot M w o push q = o q) || decide (¬ tc_nx M rg w work q = w q)
theorem mj_I_if {h : mj_H} {a j q : Nat} {x y z : Int32} (e : x = y) (e2 : mj_I h a q = z) : mj_I (mj_setI h a j x) a q = if q = j then y else z := by
  rw [mj_I_set, if_pos rfl, e, e2]
/-- the rows of the bench -/
def cT (h : mj_H) : tk_R := (mj_I h 13, mj_I h 14, mj_I h 15, mj_I h 16)
def tc (M : Nat → Int32) (rg : Nat) (work push : Int32) (T : tk_R) : tk_R :=
  (fun q => if q < rg then tc_nx M rg T.1 work q else T.1 q, fun q => if q < rg then tc_up (tc_nx M rg T.1 work q) (T.1 q) (tc_nx M rg T.1 work q) (T.2.1 q) else T.2.1 q, fun q => if q < rg then tc_ot M T.1 T.2.2.1 push q else T.2.2.1 q,
   fun q => if q < rg then tc_up (tc_nx M rg T.1 work q) (T.1 q) (T.1 q - tc_nx M rg T.1 work q) (T.2.2.2 q) else T.2.2.2 q)

set_option maxRecDepth 20000 in
theorem ktick_c {g : mj_H} (C : SC g) {A rg r : Nat} (hr : r < 6) (M : Nat → Int32) (work push tkn was led is pk fl : Int32) (v13 v15 : Value) (P : Prop) {iP : Decidable P} (e13 : mj_I g 13 r = was) (e14 : mj_I g 14 r = pk) (e16 : mj_I g 16 r = fl) {Q : Option Value → mj_H → Prop}
  (K : ∀ g1, Rw g g1 [13, 14, 16] → (∀ q, mj_I g1 13 q = if q = r then is else mj_I g 13 q) → (∀ q, mj_I g1 14 q = if q = r then tc_up is was is pk else mj_I g 14 q) → (∀ q, mj_I g1 16 q = if q = r then tc_up is was (was - is) fl else mj_I g 16 q) → ∀ m : Int32, m = (if P ∨ ¬ is = was then 1 else 0) → mx 0 7 332 [.ref 12, .ref A, .int work, .int push, .int (nI rg), .int (M 2), .int (M 3), .int (M 1), .int (M 4), .int tkn, .int m, .int (nI r), .int was, v13, .int led, v15, .int is] [] g1 Q) :
  mx 0 7 245 [.ref 12, .ref A, .int work, .int push, .int (nI rg), .int (M 2), .int (M 3), .int (M 1), .int (M 4), .int tkn, .int (if P then 1 else 0), .int (nI r), .int was, v13, .int led, v15, .int is] [] g Q := by
  refine x_iload f_7_245 rfl ?_
  refine x_iload f_7_247 rfl ?_
  refine x_icmp_eq (t := 332) f_7_249 (by decide) (fun c_e => ?_) (fun c_e => ?_)
  · exact K g (Rw.rf _ _) (fun q => by by_cases hq : q = r <;> simp [hq, e13, c_e]) (fun q => by by_cases hq : q = r <;> simp [hq, e14, tc_up, c_e]) (fun q => by by_cases hq : q = r <;> simp [hq, e16, tc_up, c_e]) _ (by simp [c_e])
  · refine x_iconst (v := nI 1) f_7_252 (by decide) ?_
    refine x_istore (ls1 := [.ref 12, .ref A, .int work, .int push, .int (nI rg), .int (M 2), .int (M 3), .int (M 1), .int (M 4), .int tkn, .int (nI 1), .int (nI r), .int was, v13, .int led, v15, .int is]) f_7_253 (Nat.le_of_ble_eq_true rfl) rfl ?_
    refine x_aload_n f_7_255 rfl ?_
    refine x_getR f_7_256 C.k12 (by decide) C.r12_0 ?_
    refine x_iload f_7_259 rfl ?_
    refine x_iload f_7_261 rfl ?_
    refine x_iast (j := r) f_7_263 C.k13 (by decide) (by omega) (by decide) ?_
    refine x_aload_n f_7_264 rfl ?_
    refine x_getR f_7_265 C.k12 (by decide) C.r12_1 ?_
    refine x_iload f_7_268 rfl ?_
    have J_1 : ∀ jx : Int32, jx = (if is ≤ pk then pk else is) → mx 0 7 294 [.ref 12, .ref A, .int work, .int push, .int (nI rg), .int (M 2), .int (M 3), .int (M 1), .int (M 4), .int tkn, .int (nI 1), .int (nI r), .int was, v13, .int led, v15, .int is] [.int jx, .int (nI r), .ref 14] (mj_setI g 13 r is) Q := by
      intro jx hjx
      subst hjx
      refine x_iast (j := r) f_7_294 C.k14 (by decide) (by omega) (by decide) ?_
      refine x_aload_n f_7_295 rfl ?_
      refine x_getR f_7_296 C.k12 (by decide) C.r12_3 ?_
      refine x_iload f_7_299 rfl ?_
      have J_2 : ∀ jx : Int32, jx = (if was - is ≤ fl then fl else was - is) → mx 0 7 331 [.ref 12, .ref A, .int work, .int push, .int (nI rg), .int (M 2), .int (M 3), .int (M 1), .int (M 4), .int tkn, .int (nI 1), .int (nI r), .int was, v13, .int led, v15, .int is] [.int jx, .int (nI r), .ref 16] (mj_setI (mj_setI g 13 r is) 14 r (if is ≤ pk then pk else is)) Q := by
        intro jx hjx
        subst hjx
        refine x_iast (j := r) f_7_331 C.k16 (by decide) (by omega) (by decide) ?_
        refine K _ (((Rw.rf _ _).set (by decide)).set (by decide) |>.set (by decide)) (fun q => ?_) (fun q => ?_) (fun q => ?_) _ (if_pos (Or.inr c_e)).symm
        · exact (congrFun (mj_I_other (by decide)) q).trans ((congrFun (mj_I_other (by decide)) q).trans (mj_I_if rfl rfl))
        · exact (congrFun (mj_I_other (by decide)) q).trans (mj_I_if (if_neg c_e).symm (congrFun (mj_I_other (by decide)) q))
        · exact mj_I_if (if_neg c_e).symm ((congrFun (mj_I_other (by decide)) q).trans (congrFun (mj_I_other (by decide)) q))
      refine x_iload f_7_301 rfl ?_
      refine x_iload f_7_303 rfl ?_
      refine x_isub f_7_305 ?_
      refine x_aload_n f_7_306 rfl ?_
      refine x_getR f_7_307 C.k12 (by decide) C.r12_3 ?_
      refine x_iload f_7_310 rfl ?_
      refine x_iald (j := r) f_7_312 C.k16 (by omega) (by decide) ?_
      refine x_topi (w := fl) ((congrFun (mj_I_other (by decide)) _).trans ((congrFun (mj_I_other (by decide)) _).trans (e16))) ?_
      refine x_icmp_le (t := 324) f_7_313 (by decide) (fun c_1 => ?_) (fun c_1 => ?_)
      · refine x_aload_n f_7_324 rfl ?_
        refine x_getR f_7_325 C.k12 (by decide) C.r12_3 ?_
        refine x_iload f_7_328 rfl ?_
        refine x_iald (j := r) f_7_330 C.k16 (by omega) (by decide) ?_
        refine x_topi (w := fl) ((congrFun (mj_I_other (by decide)) _).trans ((congrFun (mj_I_other (by decide)) _).trans (e16))) ?_
        exact J_2 _ (if_pos c_1).symm
      · refine x_iload f_7_316 rfl ?_
        refine x_iload f_7_318 rfl ?_
        refine x_isub f_7_320 ?_
        refine x_goto (t := 331) f_7_321 (by decide) ?_
        exact J_2 _ (if_neg c_1).symm
    refine x_iload f_7_270 rfl ?_
    refine x_aload_n f_7_272 rfl ?_
    refine x_getR f_7_273 C.k12 (by decide) C.r12_1 ?_
    refine x_iload f_7_276 rfl ?_
    refine x_iald (j := r) f_7_278 C.k14 (by omega) (by decide) ?_
    refine x_topi (w := pk) ((congrFun (mj_I_other (by decide)) _).trans (e14)) ?_
    refine x_icmp_le (t := 287) f_7_279 (by decide) (fun c_2 => ?_) (fun c_2 => ?_)
    · refine x_aload_n f_7_287 rfl ?_
      refine x_getR f_7_288 C.k12 (by decide) C.r12_1 ?_
      refine x_iload f_7_291 rfl ?_
      refine x_iald (j := r) f_7_293 C.k14 (by omega) (by decide) ?_
      refine x_topi (w := pk) ((congrFun (mj_I_other (by decide)) _).trans (e14)) ?_
      exact J_1 _ (if_pos c_2).symm
    · refine x_iload f_7_282 rfl ?_
      refine x_goto (t := 294) f_7_284 (by decide) ?_
      exact J_1 _ (if_neg c_2).symm
set_option maxRecDepth 20000 in
theorem ktick_b {g : mj_H} (C : SC g) {A rg r : Nat} (hr : r < 6) (M : Nat → Int32) (h4 : ¬ M 4 = 0) (work push tkn was bes led gain ot : Int32) (v16 : Value) (P : Prop) {iP : Decidable P} (e15 : mj_I g 15 r = ot) {Q : Option Value → mj_H → Prop}
  (K : ∀ g1, Rw g g1 [15] → (∀ q, mj_I g1 15 q = if q = r then (if was < M 3 then ot else tc_cap (ot + push * (was - M 3 + nI 1) / M 4) (nI 100000)) else mj_I g 15 q) → ∀ gn : Int32, gn = (if was < M 3 then gain else gain / nI 2) → ∀ m : Int32, m = (if P ∨ ¬ (if was < M 3 then ot else tc_cap (ot + push * (was - M 3 + nI 1) / M 4) (nI 100000)) = ot then 1 else 0) → ∀ v16 : Value, mx 0 7 214 [.ref 12, .ref A, .int work, .int push, .int (nI rg), .int (M 2), .int (M 3), .int (M 1), .int (M 4), .int tkn, .int m, .int (nI r), .int was, .int bes, .int led, .int gn, v16] [] g1 Q) :
  mx 0 7 130 [.ref 12, .ref A, .int work, .int push, .int (nI rg), .int (M 2), .int (M 3), .int (M 1), .int (M 4), .int tkn, .int (if P then 1 else 0), .int (nI r), .int was, .int bes, .int led, .int gain, v16] [] g Q := by
  refine x_iload f_7_130 rfl ?_
  refine x_iload f_7_132 rfl ?_
  refine x_icmp_lt (t := 214) f_7_134 (by decide) (fun c_s => ?_) (fun c_s => ?_)
  · exact K g (Rw.rf _ _) (fun q => by by_cases hq : q = r <;> simp [hq, e15, c_s]) _ (if_pos c_s).symm _ (by simp [c_s]) _
  · refine x_iload f_7_137 rfl ?_
    refine x_iconst (v := nI 2) f_7_139 (by decide) ?_
    refine x_idiv f_7_140 (by decide) ?_
    refine x_istore (ls1 := [.ref 12, .ref A, .int work, .int push, .int (nI rg), .int (M 2), .int (M 3), .int (M 1), .int (M 4), .int tkn, .int (if P then 1 else 0), .int (nI r), .int was, .int bes, .int led, .int (gain / (nI 2)), v16]) f_7_141 (Nat.le_of_ble_eq_true rfl) rfl ?_
    refine x_aload_n f_7_143 rfl ?_
    refine x_getR f_7_144 C.k12 (by decide) C.r12_2 ?_
    refine x_iload f_7_147 rfl ?_
    refine x_iald (j := r) f_7_149 C.k15 (by omega) (by decide) ?_
    refine x_topi (w := ot) e15 ?_
    refine x_iload_n f_7_150 rfl ?_
    refine x_iload f_7_151 rfl ?_
    refine x_iload f_7_153 rfl ?_
    refine x_isub f_7_155 ?_
    refine x_iconst (v := nI 1) f_7_156 (by decide) ?_
    refine x_iadd f_7_157 ?_
    refine x_imul f_7_158 ?_
    refine x_iload f_7_159 rfl ?_
    refine x_idiv f_7_161 h4 ?_
    refine x_iadd f_7_162 ?_
    refine x_istore (ls1 := [.ref 12, .ref A, .int work, .int push, .int (nI rg), .int (M 2), .int (M 3), .int (M 1), .int (M 4), .int tkn, .int (if P then 1 else 0), .int (nI r), .int was, .int bes, .int led, .int (gain / (nI 2)), .int (ot + ((push * ((was - (M 3)) + (nI 1))) / (M 4)))]) f_7_163 (Nat.le_of_ble_eq_true rfl) rfl ?_
    have J_1 : ∀ jx : Int32, jx = (tc_cap (ot + ((push * ((was - (M 3)) + (nI 1))) / (M 4))) (nI 100000)) → mx 0 7 179 [.ref 12, .ref A, .int work, .int push, .int (nI rg), .int (M 2), .int (M 3), .int (M 1), .int (M 4), .int tkn, .int (if P then 1 else 0), .int (nI r), .int was, .int bes, .int led, .int (gain / (nI 2)), .int (ot + ((push * ((was - (M 3)) + (nI 1))) / (M 4)))] [.int jx] g Q := by
      intro jx hjx
      subst hjx
      refine x_istore (ls1 := [.ref 12, .ref A, .int work, .int push, .int (nI rg), .int (M 2), .int (M 3), .int (M 1), .int (M 4), .int tkn, .int (if P then 1 else 0), .int (nI r), .int was, .int bes, .int led, .int (gain / (nI 2)), .int (tc_cap (ot + ((push * ((was - (M 3)) + (nI 1))) / (M 4))) (nI 100000))]) f_7_179 (Nat.le_of_ble_eq_true rfl) rfl ?_
      have J_2 : ∀ jx : Int32, jx = (if P ∨ ¬ (tc_cap (ot + ((push * ((was - (M 3)) + (nI 1))) / (M 4))) (nI 100000)) = ot then 1 else 0) → mx 0 7 203 [.ref 12, .ref A, .int work, .int push, .int (nI rg), .int (M 2), .int (M 3), .int (M 1), .int (M 4), .int tkn, .int (if P then 1 else 0), .int (nI r), .int was, .int bes, .int led, .int (gain / (nI 2)), .int (tc_cap (ot + ((push * ((was - (M 3)) + (nI 1))) / (M 4))) (nI 100000))] [.int jx] g Q := by
        intro jx hjx
        subst hjx
        refine x_istore (ls1 := [.ref 12, .ref A, .int work, .int push, .int (nI rg), .int (M 2), .int (M 3), .int (M 1), .int (M 4), .int tkn, .int (if P ∨ ¬ (tc_cap (ot + ((push * ((was - (M 3)) + (nI 1))) / (M 4))) (nI 100000)) = ot then 1 else 0), .int (nI r), .int was, .int bes, .int led, .int (gain / (nI 2)), .int (tc_cap (ot + ((push * ((was - (M 3)) + (nI 1))) / (M 4))) (nI 100000))]) f_7_203 (Nat.le_of_ble_eq_true rfl) rfl ?_
        refine x_aload_n f_7_205 rfl ?_
        refine x_getR f_7_206 C.k12 (by decide) C.r12_2 ?_
        refine x_iload f_7_209 rfl ?_
        refine x_iload f_7_211 rfl ?_
        refine x_iast (j := r) f_7_213 C.k15 (by decide) (by omega) (by decide) ?_
        exact K _ ((Rw.rf _ _).set (by decide)) (fun q => by by_cases hq : q = r <;> simp [hq, mj_I_set, c_s]) _ (if_neg c_s).symm _ (by simp [c_s]) _
      refine x_iload f_7_181 rfl ?_
      refine x_ifB_ne (t := 198) f_7_183 (by decide) (fun c_P => ?_) (fun c_P => ?_)
      · refine x_iconst (v := nI 1) f_7_198 (by decide) ?_
        refine x_goto (t := 203) f_7_199 (by decide) ?_
        exact J_2 _ (if_pos (Or.inl c_P)).symm
      · refine x_iload f_7_186 rfl ?_
        refine x_aload_n f_7_188 rfl ?_
        refine x_getR f_7_189 C.k12 (by decide) C.r12_2 ?_
        refine x_iload f_7_192 rfl ?_
        refine x_iald (j := r) f_7_194 C.k15 (by omega) (by decide) ?_
        refine x_topi (w := ot) e15 ?_
        refine x_icmp_eq (t := 202) f_7_195 (by decide) (fun c_q => ?_) (fun c_q => ?_)
        · refine x_iconst (v := nI 0) f_7_202 (by decide) ?_
          exact J_2 _ (if_neg (fun q => q.elim c_P (fun z => z c_q))).symm
        · refine x_iconst (v := nI 1) f_7_198 (by decide) ?_
          refine x_goto (t := 203) f_7_199 (by decide) ?_
          exact J_2 _ (if_pos (Or.inr c_q)).symm
    refine x_iload f_7_165 rfl ?_
    refine x_ldc (v := nI 100000) f_7_167 (by decide) ?_
    refine x_icmp_le (t := 177) f_7_169 (by decide) (fun c_1 => ?_) (fun c_1 => ?_)
    · refine x_iload f_7_177 rfl ?_
      exact J_1 _ (if_pos c_1).symm
    · refine x_ldc (v := nI 100000) f_7_172 (by decide) ?_
      refine x_goto (t := 179) f_7_174 (by decide) ?_
      exact J_1 _ (if_neg c_1).symm
