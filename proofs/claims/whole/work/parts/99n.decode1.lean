/-! each row of the machine's code is what the bytes decode to, and what it names is among the tables' words -/
def mj_len : Instr → Nat
  | .bipush _ => 2 | .ldc _ => 2 | .iload _ => 2 | .aload _ => 2 | .istore _ => 2 | .astore _ => 2 | .newarray _ => 2
  | .sipush _ => 3 | .iinc _ _ => 3 | .goto _ => 3 | .if_icmp _ _ => 3 | .ifCond _ _ => 3 | .ifnull _ => 3 | .ifnonnull _ => 3 | .if_acmp _ _ => 3
  | .getfield _ => 3 | .putfield _ => 3 | .getstatic _ => 3 | .anewarray _ => 3 | .new _ => 3 | .invokespecial _ => 3 | .invokestatic _ => 3 | .invokevirtual _ => 3
  | _ => 1
def mj_isT : Instr → Bool
  | .tableswitch .. => true
  | _ => false
def mj_hasM (o x a : Nat) (nest : Nat) : Bool := mj_mls.any fun e => Nat.beq e.1 o && (Nat.beq e.2.1 x && (Nat.beq e.2.2.1 a && Nat.beq e.2.2.2.1 nest))
def mj_hasF (o x a b : Nat) (nest : Nat) : Bool := mj_fl.any fun e => Nat.beq e.1 o && (Nat.beq e.2.1 x && (Nat.beq e.2.2.1 a && (Nat.beq e.2.2.2.1 b && Nat.beq e.2.2.2.2 nest)))
def mj_hasS (o x a : Nat) (nest : Nat) : Bool := mj_sl.any fun e => Nat.beq e.1 o && (Nat.beq e.2.1 x && (Nat.beq e.2.2.1 a && Nat.beq e.2.2.2 nest))
def mj_hasC (l : List (Nat × Nat × Nat)) (o x a : Nat) : Bool := l.any fun e => Nat.beq e.1 o && (Nat.beq e.2.1 x && Nat.beq e.2.2 a)
def mj_fin (a b : Nat) : Bool := ((mj_kc a).2.1 b).2.2.2
def mj_okI (mid pc : Nat) (i : Instr) (a b : Nat) : Bool :=
  match i with
  | .getfield x => mj_hasF (mj_own mid) x a b 0 || mj_hasF (mj_own mid) x a b 1
  | .putfield x => (mj_hasF (mj_own mid) x a b 0 && (!mj_fin a b || ((mj_y mid).name == "<init>" && Nat.beq (mj_own mid) a))) || (mj_hasF (mj_own mid) x a b 1 && !mj_fin a b)
  | .getstatic x => Nat.blt a 7 && (mj_hasS (mj_own mid) x a 0 || mj_hasS (mj_own mid) x a 1)
  | .ldc x => mj_hasC mj_cst (mj_own mid) x a
  | .new x => mj_hasC mj_cls (mj_own mid) x a
  | .anewarray x => mj_hasC mj_cls (mj_own mid) x a && Nat.ble 15 a
  | .newarray .int => Nat.beq a 12
  | .newarray .long => Nat.beq a 13
  | .newarray .boolean => Nat.beq a 14
  | .newarray _ => false
  | .invokevirtual x => Nat.beq b 0 && (mj_hasM (mj_own mid) x a 0 || mj_hasM (mj_own mid) x a 1) && !((mj_y a).name == "<init>") && mj_mos.any (fun e => Nat.beq e.1 a)
  | .invokespecial x => if b = 0 then (mj_hasM (mj_own mid) x a 0 || mj_hasM (mj_own mid) x a 1) && (mj_y a).name == "<init>" && mj_mos.any (fun e => Nat.beq e.1 a) else Nat.beq b 1 && mj_hasM (mj_own mid) x 1001 0
  | .invokestatic x => if b = 0 then (mj_hasM (mj_own mid) x a 0 || mj_hasM (mj_own mid) x a 1) && mj_mos.any (fun e => Nat.beq e.1 a) else if b = 6 then Nat.beq mid 176 else mj_hasM (mj_own mid) x (1000 + b) 0
  | .goto off => decide (0 ≤ (pc : Int) + off)
  | .if_icmp _ off => decide (0 ≤ (pc : Int) + off)
  | .ifCond _ off => decide (0 ≤ (pc : Int) + off)
  | .ifnull off => decide (0 ≤ (pc : Int) + off)
  | .ifnonnull off => decide (0 ≤ (pc : Int) + off)
  | .if_acmp _ off => decide (0 ≤ (pc : Int) + off)
  | .tableswitch d _ _ offs => decide (0 ≤ (pc : Int) + d) && offs.toList.all (fun o => decide (0 ≤ (pc : Int) + o))
  | _ => true
def mj_okD (i : Instr) : Except DecodeError (Instr × Nat) → Bool
  | .ok (j, n) => decide (j = i) && (mj_isT i || Nat.beq n (mj_len i))
  | _ => false
def mj_okE (mid : Nat) (e : Nat × Instr × Nat × Nat) : Bool := mj_okD e.2.1 (decode (mj_b mid) e.1) && mj_okI mid e.1 e.2.1 e.2.2.1 e.2.2.2
theorem mj_tk {α : Type} {p : α → Bool} {l : List α} (n : Nat) (h1 : (l.take n).all p = true) (h2 : (l.drop n).all p = true) : l.all p = true := by
  rw [← List.take_append_drop n l, List.all_append, h1, h2]; rfl
set_option maxRecDepth 100000 in
theorem mj_e0 : mj_cd0.all (mj_okE 0) = true := by decide +kernel
set_option maxRecDepth 100000 in
theorem mj_e1 : mj_cd1.all (mj_okE 1) = true := by decide +kernel
set_option maxRecDepth 100000 in
theorem mj_e2 : mj_cd2.all (mj_okE 2) = true := by decide +kernel
set_option maxRecDepth 100000 in
theorem mj_e3 : mj_cd3.all (mj_okE 3) = true := by decide +kernel
set_option maxRecDepth 100000 in
theorem mj_e4_0 : (mj_cd4.take 60).all (mj_okE 4) = true := by decide +kernel
set_option maxRecDepth 100000 in
theorem mj_e4_1 : (mj_cd4.drop 60).all (mj_okE 4) = true := by decide +kernel
theorem mj_e4 : mj_cd4.all (mj_okE 4) = true := mj_tk 60 mj_e4_0 (mj_e4_1)
set_option maxRecDepth 100000 in
theorem mj_e5 : mj_cd5.all (mj_okE 5) = true := by decide +kernel
set_option maxRecDepth 100000 in
theorem mj_e6 : mj_cd6.all (mj_okE 6) = true := by decide +kernel
set_option maxRecDepth 100000 in
theorem mj_e7_0 : (mj_cd7.take 60).all (mj_okE 7) = true := by decide +kernel
set_option maxRecDepth 100000 in
theorem mj_e7_1 : ((mj_cd7.drop 60).take 60).all (mj_okE 7) = true := by decide +kernel
set_option maxRecDepth 100000 in
theorem mj_e7_2 : (((mj_cd7.drop 60).drop 60).take 60).all (mj_okE 7) = true := by decide +kernel
set_option maxRecDepth 100000 in
theorem mj_e7_3 : (((mj_cd7.drop 60).drop 60).drop 60).all (mj_okE 7) = true := by decide +kernel
theorem mj_e7 : mj_cd7.all (mj_okE 7) = true := mj_tk 60 mj_e7_0 (mj_tk 60 mj_e7_1 (mj_tk 60 mj_e7_2 (mj_e7_3)))
set_option maxRecDepth 100000 in
theorem mj_e8 : mj_cd8.all (mj_okE 8) = true := by decide +kernel
set_option maxRecDepth 100000 in
theorem mj_e9 : mj_cd9.all (mj_okE 9) = true := by decide +kernel
set_option maxRecDepth 100000 in
theorem mj_e10 : mj_cd10.all (mj_okE 10) = true := by decide +kernel
set_option maxRecDepth 100000 in
theorem mj_e11 : mj_cd11.all (mj_okE 11) = true := by decide +kernel
set_option maxRecDepth 100000 in
theorem mj_e12 : mj_cd12.all (mj_okE 12) = true := by decide +kernel
set_option maxRecDepth 100000 in
theorem mj_e13 : mj_cd13.all (mj_okE 13) = true := by decide +kernel
set_option maxRecDepth 100000 in
theorem mj_e14 : mj_cd14.all (mj_okE 14) = true := by decide +kernel
set_option maxRecDepth 100000 in
theorem mj_e15 : mj_cd15.all (mj_okE 15) = true := by decide +kernel
set_option maxRecDepth 100000 in
theorem mj_e16 : mj_cd16.all (mj_okE 16) = true := by decide +kernel
set_option maxRecDepth 100000 in
theorem mj_e17 : mj_cd17.all (mj_okE 17) = true := by decide +kernel
set_option maxRecDepth 100000 in
theorem mj_e18 : mj_cd18.all (mj_okE 18) = true := by decide +kernel
set_option maxRecDepth 100000 in
theorem mj_e19 : mj_cd19.all (mj_okE 19) = true := by decide +kernel
set_option maxRecDepth 100000 in
theorem mj_e20 : mj_cd20.all (mj_okE 20) = true := by decide +kernel
set_option maxRecDepth 100000 in
theorem mj_e21 : mj_cd21.all (mj_okE 21) = true := by decide +kernel
set_option maxRecDepth 100000 in
theorem mj_e22_0 : (mj_cd22.take 60).all (mj_okE 22) = true := by decide +kernel
set_option maxRecDepth 100000 in
theorem mj_e22_1 : (mj_cd22.drop 60).all (mj_okE 22) = true := by decide +kernel
theorem mj_e22 : mj_cd22.all (mj_okE 22) = true := mj_tk 60 mj_e22_0 (mj_e22_1)
set_option maxRecDepth 100000 in
theorem mj_e23 : mj_cd23.all (mj_okE 23) = true := by decide +kernel
set_option maxRecDepth 100000 in
theorem mj_e24 : mj_cd24.all (mj_okE 24) = true := by decide +kernel
set_option maxRecDepth 100000 in
theorem mj_e25 : mj_cd25.all (mj_okE 25) = true := by decide +kernel
set_option maxRecDepth 100000 in
theorem mj_e26 : mj_cd26.all (mj_okE 26) = true := by decide +kernel
set_option maxRecDepth 100000 in
theorem mj_e27 : mj_cd27.all (mj_okE 27) = true := by decide +kernel
set_option maxRecDepth 100000 in
theorem mj_e28 : mj_cd28.all (mj_okE 28) = true := by decide +kernel
set_option maxRecDepth 100000 in
theorem mj_e29 : mj_cd29.all (mj_okE 29) = true := by decide +kernel
set_option maxRecDepth 100000 in
theorem mj_e30 : mj_cd30.all (mj_okE 30) = true := by decide +kernel
set_option maxRecDepth 100000 in
theorem mj_e31 : mj_cd31.all (mj_okE 31) = true := by decide +kernel
set_option maxRecDepth 100000 in
theorem mj_e32 : mj_cd32.all (mj_okE 32) = true := by decide +kernel
set_option maxRecDepth 100000 in
theorem mj_e33 : mj_cd33.all (mj_okE 33) = true := by decide +kernel
set_option maxRecDepth 100000 in
theorem mj_e34 : mj_cd34.all (mj_okE 34) = true := by decide +kernel
set_option maxRecDepth 100000 in
theorem mj_e35 : mj_cd35.all (mj_okE 35) = true := by decide +kernel
set_option maxRecDepth 100000 in
theorem mj_e36 : mj_cd36.all (mj_okE 36) = true := by decide +kernel
set_option maxRecDepth 100000 in
theorem mj_e37 : mj_cd37.all (mj_okE 37) = true := by decide +kernel
set_option maxRecDepth 100000 in
theorem mj_e38_0 : (mj_cd38.take 60).all (mj_okE 38) = true := by decide +kernel
set_option maxRecDepth 100000 in
theorem mj_e38_1 : (mj_cd38.drop 60).all (mj_okE 38) = true := by decide +kernel
theorem mj_e38 : mj_cd38.all (mj_okE 38) = true := mj_tk 60 mj_e38_0 (mj_e38_1)
set_option maxRecDepth 100000 in
theorem mj_e39 : mj_cd39.all (mj_okE 39) = true := by decide +kernel
set_option maxRecDepth 100000 in
theorem mj_e40_0 : (mj_cd40.take 60).all (mj_okE 40) = true := by decide +kernel
set_option maxRecDepth 100000 in
theorem mj_e40_1 : (mj_cd40.drop 60).all (mj_okE 40) = true := by decide +kernel
theorem mj_e40 : mj_cd40.all (mj_okE 40) = true := mj_tk 60 mj_e40_0 (mj_e40_1)
set_option maxRecDepth 100000 in
theorem mj_e41 : mj_cd41.all (mj_okE 41) = true := by decide +kernel
set_option maxRecDepth 100000 in
theorem mj_e42 : mj_cd42.all (mj_okE 42) = true := by decide +kernel
set_option maxRecDepth 100000 in
theorem mj_e43_0 : (mj_cd43.take 60).all (mj_okE 43) = true := by decide +kernel
set_option maxRecDepth 100000 in
theorem mj_e43_1 : (mj_cd43.drop 60).all (mj_okE 43) = true := by decide +kernel
theorem mj_e43 : mj_cd43.all (mj_okE 43) = true := mj_tk 60 mj_e43_0 (mj_e43_1)
set_option maxRecDepth 100000 in
theorem mj_e44 : mj_cd44.all (mj_okE 44) = true := by decide +kernel
set_option maxRecDepth 100000 in
theorem mj_e45 : mj_cd45.all (mj_okE 45) = true := by decide +kernel
set_option maxRecDepth 100000 in
theorem mj_e46 : mj_cd46.all (mj_okE 46) = true := by decide +kernel
set_option maxRecDepth 100000 in
theorem mj_e47 : mj_cd47.all (mj_okE 47) = true := by decide +kernel
set_option maxRecDepth 100000 in
theorem mj_e48 : mj_cd48.all (mj_okE 48) = true := by decide +kernel
set_option maxRecDepth 100000 in
theorem mj_e49 : mj_cd49.all (mj_okE 49) = true := by decide +kernel
set_option maxRecDepth 100000 in
theorem mj_e50 : mj_cd50.all (mj_okE 50) = true := by decide +kernel
set_option maxRecDepth 100000 in
theorem mj_e51 : mj_cd51.all (mj_okE 51) = true := by decide +kernel
set_option maxRecDepth 100000 in
theorem mj_e52 : mj_cd52.all (mj_okE 52) = true := by decide +kernel
set_option maxRecDepth 100000 in
theorem mj_e53 : mj_cd53.all (mj_okE 53) = true := by decide +kernel
set_option maxRecDepth 100000 in
theorem mj_e54 : mj_cd54.all (mj_okE 54) = true := by decide +kernel
set_option maxRecDepth 100000 in
theorem mj_e55 : mj_cd55.all (mj_okE 55) = true := by decide +kernel
set_option maxRecDepth 100000 in
theorem mj_e56 : mj_cd56.all (mj_okE 56) = true := by decide +kernel
set_option maxRecDepth 100000 in
theorem mj_e57 : mj_cd57.all (mj_okE 57) = true := by decide +kernel
set_option maxRecDepth 100000 in
theorem mj_e58 : mj_cd58.all (mj_okE 58) = true := by decide +kernel
set_option maxRecDepth 100000 in
theorem mj_e59 : mj_cd59.all (mj_okE 59) = true := by decide +kernel
set_option maxRecDepth 100000 in
theorem mj_e60 : mj_cd60.all (mj_okE 60) = true := by decide +kernel
set_option maxRecDepth 100000 in
theorem mj_e61 : mj_cd61.all (mj_okE 61) = true := by decide +kernel
set_option maxRecDepth 100000 in
theorem mj_e62 : mj_cd62.all (mj_okE 62) = true := by decide +kernel
set_option maxRecDepth 100000 in
theorem mj_e63 : mj_cd63.all (mj_okE 63) = true := by decide +kernel
set_option maxRecDepth 100000 in
theorem mj_e64 : mj_cd64.all (mj_okE 64) = true := by decide +kernel
set_option maxRecDepth 100000 in
theorem mj_e65 : mj_cd65.all (mj_okE 65) = true := by decide +kernel
set_option maxRecDepth 100000 in
theorem mj_e66 : mj_cd66.all (mj_okE 66) = true := by decide +kernel
set_option maxRecDepth 100000 in
theorem mj_e67 : mj_cd67.all (mj_okE 67) = true := by decide +kernel
set_option maxRecDepth 100000 in
theorem mj_e68 : mj_cd68.all (mj_okE 68) = true := by decide +kernel
set_option maxRecDepth 100000 in
theorem mj_e69_0 : (mj_cd69.take 60).all (mj_okE 69) = true := by decide +kernel
set_option maxRecDepth 100000 in
theorem mj_e69_1 : (mj_cd69.drop 60).all (mj_okE 69) = true := by decide +kernel
theorem mj_e69 : mj_cd69.all (mj_okE 69) = true := mj_tk 60 mj_e69_0 (mj_e69_1)
set_option maxRecDepth 100000 in
theorem mj_e70 : mj_cd70.all (mj_okE 70) = true := by decide +kernel
set_option maxRecDepth 100000 in
theorem mj_e71 : mj_cd71.all (mj_okE 71) = true := by decide +kernel
set_option maxRecDepth 100000 in
theorem mj_e72 : mj_cd72.all (mj_okE 72) = true := by decide +kernel
set_option maxRecDepth 100000 in
theorem mj_e73 : mj_cd73.all (mj_okE 73) = true := by decide +kernel
set_option maxRecDepth 100000 in
theorem mj_e74 : mj_cd74.all (mj_okE 74) = true := by decide +kernel
set_option maxRecDepth 100000 in
theorem mj_e75 : mj_cd75.all (mj_okE 75) = true := by decide +kernel
set_option maxRecDepth 100000 in
theorem mj_e76 : mj_cd76.all (mj_okE 76) = true := by decide +kernel
set_option maxRecDepth 100000 in
theorem mj_e77 : mj_cd77.all (mj_okE 77) = true := by decide +kernel
set_option maxRecDepth 100000 in
theorem mj_e78_0 : (mj_cd78.take 60).all (mj_okE 78) = true := by decide +kernel
set_option maxRecDepth 100000 in
theorem mj_e78_1 : (mj_cd78.drop 60).all (mj_okE 78) = true := by decide +kernel
theorem mj_e78 : mj_cd78.all (mj_okE 78) = true := mj_tk 60 mj_e78_0 (mj_e78_1)
