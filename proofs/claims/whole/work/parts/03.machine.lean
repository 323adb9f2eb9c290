/-! A SMALL MACHINE of this claim's own: cells by number, ints and longs as plain functions of (cell, place), references in a list of shapes; its steps are the bytecode's. What it does, the Java machine does (part 04); all methods are then proved over it, by rewriting. -/
abbrev am_S : Type := List (Nat × Nat × (Nat → Nat))
abbrev am_I : Type := Nat → Nat → Int32
abbrev am_J : Type := Nat → Nat → Int64
abbrev am_L : Type := List (Option Value)
abbrev am_Q : Type := Option Value → am_S → am_I → am_J → Prop
def am_c0 : Nat × Nat × (Nat → Nat) := (99, 0, fun _ => 0)
def am_kd (S : am_S) (a : Nat) : Nat := (S.getD a am_c0).1
def am_ln (S : am_S) (a : Nat) : Nat := (S.getD a am_c0).2.1
def am_rf (S : am_S) (a k : Nat) : Nat := (S.getD a am_c0).2.2 k
def am_up {α : Type} (f : Nat → Nat → α) (a k : Nat) (x : α) : Nat → Nat → α := fun b j => if b = a ∧ j = k then x else f b j
def am_row {α : Type} (f : Nat → Nat → α) (a : Nat) (g : Nat → α) : Nat → Nat → α := fun b j => if b = a then g j else f b j
def am_sr (S : am_S) (a k r : Nat) : am_S := S.set a (am_kd S a, am_ln S a, fun j => if j = k then r else am_rf S a j)
/-- an index within -/
def am_ib (i : Int32) (n : Nat) : Prop := 0 ≤ i.toInt ∧ i.toInt < (n : Int)
def am_fty (ci k : Nat) : Nat := match am_tyX ci k with
  | .int => 0
  | .boolean => 1
  | .long => 2
  | _ => 3
def am_fl (w k : Nat) : Option (Nat × Nat) := (am_flds.find? (fun q => q.1 == w && q.2.1 == k)).map (fun q => (q.2.2.1, q.2.2.2.1))
def am_iv (w k : Nat) : Option (Nat × Nat) := (am_ivs.find? (fun q => q.1 == w && q.2.1 == k)).map (fun q => (q.2.2.1, q.2.2.2.1))
def am_ck (w k : Nat) : Option Nat := (am_cls.find? (fun q => q.1 == w && q.2.1 == k)).map (fun q => q.2.2.1)
def am_lc (w k : Nat) : Option Int64 := (am_lcs.find? (fun q => q.1 == w && q.2.1 == k)).map (fun q => q.2.2.1)
-- locals
def am_clr : Option Value → Option Value
  | some (.long _) => none
  | some (.double _) => none
  | o => o
def am_st1 (ls : am_L) (i : Nat) (v : Value) : am_L := match i with
  | 0 => ls.set 0 (some v)
  | j + 1 => (ls.modify j am_clr).set (j + 1) (some v)
def am_st2 (ls : am_L) (i : Nat) (v : Value) : am_L := (am_st1 ls i v).set (i + 1) none
def am_ld (ls : am_L) (i : Nat) : Option Value := ls.getD i none
def am_sl : List Value → am_L
  | [] => []
  | .long v :: t => some (.long v) :: none :: am_sl t
  | .double v :: t => some (.double v) :: none :: am_sl t
  | v :: t => some v :: am_sl t
def am_en (n : Nat) (as : List Value) : am_L := am_sl as ++ List.replicate (n - (am_sl as).length) none
def am_ct (st : List Value) : Nat := (st.map fun v => v.category).sum
def am_tg (pc : Nat) (off : Int) : Option Nat := if 0 ≤ (pc : Int) + off then some ((pc : Int) + off).toNat else none
def am_psh (r : Option Value) (st : List Value) : List Value := match r with
  | some v => v :: st
  | none => st
/-! steps that write no cell -/
abbrev am_N : Type := Nat × am_L × List Value
def am_ii (pc : Nat) (ls : am_L) (st : List Value) (f : Int32 → Int32 → Int32) : Option am_N := match st with
  | .int y :: .int x :: r => some (pc + 1, ls, .int (f x y) :: r)
  | _ => none
def am_ll (pc : Nat) (ls : am_L) (st : List Value) (f : Int64 → Int64 → Int64) : Option am_N := match st with
  | .long y :: .long x :: r => some (pc + 1, ls, .long (f x y) :: r)
  | _ => none
def am_lld (pc : Nat) (ls : am_L) (st : List Value) (f : Int64 → Int64 → Int64) : Option am_N := match st with
  | .long y :: .long x :: r => if y = 0 then none else some (pc + 1, ls, .long (f x y) :: r)
  | _ => none
def am_ldi (pc i : Nat) (ls : am_L) (st : List Value) : Option am_N := match am_ld ls i with
  | some (.int x) => some (pc, ls, .int x :: st)
  | _ => none
def am_ldl (pc i : Nat) (ls : am_L) (st : List Value) : Option am_N := match am_ld ls i with
  | some (.long x) => some (pc, ls, .long x :: st)
  | _ => none
def am_lda (pc i : Nat) (ls : am_L) (st : List Value) : Option am_N := match am_ld ls i with
  | some (.ref x) => some (pc, ls, .ref x :: st)
  | _ => none
def am_sti (pc i : Nat) (ls : am_L) (st : List Value) : Option am_N := match st with
  | .int x :: r => if i < ls.length then some (pc, am_st1 ls i (.int x), r) else none
  | _ => none
def am_sta (pc i : Nat) (ls : am_L) (st : List Value) : Option am_N := match st with
  | .ref x :: r => if i < ls.length then some (pc, am_st1 ls i (.ref x), r) else none
  | _ => none
def am_stl (pc i : Nat) (ls : am_L) (st : List Value) : Option am_N := match st with
  | .long x :: r => if i + 1 < ls.length then some (pc, am_st2 ls i (.long x), r) else none
  | _ => none
def am_br (pc : Nat) (off : Int) (ls : am_L) (r : List Value) (c : Prop) [Decidable c] : Option am_N := match am_tg pc off with
  | some t => some (if c then t else pc + 3, ls, r)
  | none => none
def am_if (pc : Nat) (off : Int) (ls : am_L) (r : List Value) (x y : Int32) : ClassFile.Cond → Option am_N
  | .eq => am_br pc off ls r (x = y)
  | .ne => am_br pc off ls r (x ≠ y)
  | .lt => am_br pc off ls r (x < y)
  | .ge => am_br pc off ls r (y ≤ x)
  | .gt => am_br pc off ls r (y < x)
  | .le => am_br pc off ls r (x ≤ y)
def am_gf (w pc k : Nat) (ls : am_L) (st : List Value) (S : am_S) (I : am_I) (J : am_J) : Option am_N := match st with
  | .ref a :: r => match am_fl w k with
    | some (ci, j) => if am_kd S a = ci ∧ a ≠ 0 then
        (match am_fty ci j with
        | 0 => some (pc + 3, ls, .int (I a j) :: r)
        | 1 => some (pc + 3, ls, .int (I a j) :: r)
        | 2 => some (pc + 3, ls, .long (J a j) :: r)
        | _ => if am_rf S a j = 0 then none else some (pc + 3, ls, .ref (am_rf S a j) :: r)) else none
    | none => none
  | _ => none
def am_al (pc : Nat) (ls : am_L) (st : List Value) (S : am_S) (I : am_I) (kd : Nat) : Option am_N := match st with
  | .int i :: .ref a :: r => if am_kd S a = kd ∧ 0 ≤ i.toInt ∧ i.toInt < (am_ln S a : Int) then some (pc + 1, ls, .int (I a i.toNatClampNeg) :: r) else none
  | _ => none
def am_jl (pc : Nat) (ls : am_L) (st : List Value) (S : am_S) (J : am_J) : Option am_N := match st with
  | .int i :: .ref a :: r => if am_kd S a = 23 ∧ 0 ≤ i.toInt ∧ i.toInt < (am_ln S a : Int) then some (pc + 1, ls, .long (J a i.toNatClampNeg) :: r) else none
  | _ => none
def am_ql (pc : Nat) (ls : am_L) (st : List Value) (S : am_S) : Option am_N := match st with
  | .int i :: .ref a :: r => if (am_kd S a = 24 ∨ am_kd S a = 25) ∧ (0 ≤ i.toInt ∧ i.toInt < (am_ln S a : Int)) ∧ am_rf S a i.toNatClampNeg ≠ 0 then some (pc + 1, ls, .ref (am_rf S a i.toNatClampNeg) :: r) else none
  | _ => none
def am_tsw (pc : Nat) (ls : am_L) (st : List Value) (df lo hi : Int) (os : Array Int) : Option am_N := match st with
  | .int x :: r => if x.toInt < lo ∨ hi < x.toInt then (match am_tg pc df with | some t => some (t, ls, r) | none => none)
      else (match os[(x.toInt - lo).toNat]? with | some o => (match am_tg pc o with | some t => some (t, ls, r) | none => none) | none => none)
  | _ => none
def am_pu (w pc : Nat) (ls : am_L) (st : List Value) (S : am_S) (I : am_I) (J : am_J) : Instr → Option am_N
  | .iconst n => some (pc + 1, ls, .int (Int32.ofInt n) :: st)
  | .bipush n => some (pc + 2, ls, .int (Int8.ofInt n).toInt32 :: st)
  | .sipush n => some (pc + 3, ls, .int (Int16.ofInt n).toInt32 :: st)
  | .lconst n => some (pc + 1, ls, .long (Int64.ofNat (n : Nat)) :: st)
  | .ldc2_w k => (match am_lc w k with | some v => some (pc + 3, ls, .long v :: st) | none => none)
  | .iload_n k => am_ldi (pc + 1) k ls st
  | .iload k => am_ldi (pc + 2) k ls st
  | .lload_n k => am_ldl (pc + 1) k ls st
  | .lload k => am_ldl (pc + 2) k ls st
  | .aload_n k => am_lda (pc + 1) k ls st
  | .aload k => am_lda (pc + 2) k ls st
  | .istore_n k => am_sti (pc + 1) k ls st
  | .istore k => am_sti (pc + 2) k ls st
  | .lstore_n k => am_stl (pc + 1) k ls st
  | .lstore k => am_stl (pc + 2) k ls st
  | .astore_n k => am_sta (pc + 1) k ls st
  | .astore k => am_sta (pc + 2) k ls st
  | .iinc k n => (match am_ld ls k with | some (.int x) => if k < ls.length then some (pc + 3, am_st1 ls k (.int (x + Int32.ofInt n)), st) else none | _ => none)
  | .iadd => am_ii pc ls st (fun x y => x + y)
  | .isub => am_ii pc ls st (fun x y => x - y)
  | .imul => am_ii pc ls st (fun x y => x * y)
  | .iand => am_ii pc ls st (fun x y => x &&& y)
  | .ior => am_ii pc ls st (fun x y => x ||| y)
  | .ixor => am_ii pc ls st (fun x y => x ^^^ y)
  | .ishl => am_ii pc ls st (fun x y => x <<< (y &&& 31))
  | .ishr => am_ii pc ls st (fun x y => x >>> (y &&& 31))
  | .iushr => am_ii pc ls st (fun x y => (x.toUInt32 >>> (y.toUInt32 &&& Int32.toUInt32 31)).toInt32)
  | .irem => (match st with | .int y :: .int x :: r => if y = 0 then none else some (pc + 1, ls, .int (x - x / y * y) :: r) | _ => none)
  | .ladd => am_ll pc ls st (fun x y => x + y)
  | .lsub => am_ll pc ls st (fun x y => x - y)
  | .lmul => am_ll pc ls st (fun x y => x * y)
  | .ldiv => am_lld pc ls st (fun x y => x / y)
  | .lrem => am_lld pc ls st (fun x y => x - x / y * y)
  | .lcmp => (match st with | .long y :: .long x :: r => some (pc + 1, ls, .int (lg_cmp x y) :: r) | _ => none)
  | .i2l => (match st with | .int x :: r => some (pc + 1, ls, .long x.toInt64 :: r) | _ => none)
  | .l2i => (match st with | .long x :: r => some (pc + 1, ls, .int x.toInt32 :: r) | _ => none)
  | .i2c => (match st with | .int x :: r => some (pc + 1, ls, .int (x.toUInt32 % 65536).toInt32 :: r) | _ => none)
  | .dup => (match st with | .int x :: r => some (pc + 1, ls, .int x :: .int x :: r) | .ref x :: r => some (pc + 1, ls, .ref x :: .ref x :: r) | _ => none)
  | .dup2 => (match st with | .int x :: .ref y :: r => some (pc + 1, ls, .int x :: .ref y :: .int x :: .ref y :: r) | _ => none)
  | .goto o => (match am_tg pc o with | some t => some (t, ls, st) | none => none)
  | .ifCond c o => (match st with | .int x :: r => am_if pc o ls r x 0 c | _ => none)
  | .if_icmp c o => (match st with | .int y :: .int x :: r => am_if pc o ls r x y c | _ => none)
  | .tableswitch df lo hi os => am_tsw pc ls st df lo hi os
  | .getfield k => am_gf w pc k ls st S I J
  | .iaload => am_al pc ls st S I 20
  | .baload => am_al pc ls st S I 21
  | .caload => am_al pc ls st S I 22
  | .laload => am_jl pc ls st S J
  | .aaload => am_ql pc ls st S
  | .arraylength => (match st with | .ref a :: r => if am_kd S a = 20 then some (pc + 1, ls, .int (Int32.ofNat (am_ln S a)) :: r) else none | _ => none)
  | .invokespecial k => (match st with | .ref _ :: r => if am_iv w k = some (5, 0) ∧ am_ct r ≤ 8 then some (pc + 3, ls, r) else none | _ => none)
  | .invokestatic k => (match st with | .int y :: .int x :: r => if am_iv w k = some (6, 0) ∧ am_ct r ≤ 8 then some (pc + 3, ls, .int (if x < y then y else x) :: r) else none | _ => none)
  | _ => none
/-! steps that write or make cells -/
abbrev am_M : Type := am_L × List Value × am_S × am_I × am_J
def am_as (ls : am_L) (st : List Value) (S : am_S) (I : am_I) (J : am_J) (kd : Nat) : Option am_M := match st with
  | .int x :: .int i :: .ref a :: r => if am_kd S a = kd ∧ a ≠ 0 ∧ (0 ≤ i.toInt ∧ i.toInt < (am_ln S a : Int)) then some (ls, r, S, am_up I a i.toNatClampNeg x, J) else none
  | _ => none
def am_isI (y : Nat) : Bool := decide ((am_y y).name = "<init>")
def am_fo (y ci j : Nat) : Bool := !(am_TX ci j).2.2.2 || (am_isI y && am_ow y == ci)
def am_pf (y w k : Nat) (ls : am_L) (st : List Value) (S : am_S) (I : am_I) (J : am_J) : Option am_M := match am_fl w k with
  | some (ci, j) => (match st with
    | .int x :: .ref a :: r => if am_fo y ci j = true ∧ am_kd S a = ci ∧ a ≠ 0 ∧ (am_fty ci j = 0 ∨ (am_fty ci j = 1 ∧ (x = 0 ∨ x = 1))) then some (ls, r, S, am_up I a j x, J) else none
    | .long x :: .ref a :: r => if am_fo y ci j = true ∧ am_kd S a = ci ∧ a ≠ 0 ∧ am_fty ci j = 2 then some (ls, r, S, I, am_up J a j x) else none
    | .ref v :: .ref a :: r => if am_fo y ci j = true ∧ am_kd S a = ci ∧ a ≠ 0 ∧ am_fty ci j = 3 ∧ v ≠ 0 ∧ v < S.length then some (ls, r, am_sr S a j v, I, J) else none
    | _ => none)
  | none => none
def am_mk (ls : am_L) (r : List Value) (S : am_S) (I : am_I) (J : am_J) (c : Nat × Nat × (Nat → Nat)) : am_M :=
  (ls, .ref S.length :: r, S ++ [c], am_row I S.length (fun _ => 0), am_row J S.length (fun _ => 0))
def am_atk : ArrayType → Nat
  | .int => 20
  | .boolean => 21
  | .char => 22
  | .long => 23
  | _ => 99
def am_me (y w : Nat) (ls : am_L) (st : List Value) (S : am_S) (I : am_I) (J : am_J) : Instr → Option am_M
  | .putfield k => am_pf y w k ls st S I J
  | .iastore => am_as ls st S I J 20
  | .bastore => (match st with | .int x :: r => if x = 0 ∨ x = 1 then am_as ls (.int x :: r) S I J 21 else none | _ => none)
  | .castore => (match st with | .int x :: r => if (x.toUInt32 % 65536).toInt32 = x then am_as ls (.int x :: r) S I J 22 else none | _ => none)
  | .lastore => (match st with
    | .long x :: .int i :: .ref a :: r => if am_kd S a = 23 ∧ a ≠ 0 ∧ (0 ≤ i.toInt ∧ i.toInt < (am_ln S a : Int)) then some (ls, r, S, I, am_up J a i.toNatClampNeg x) else none
    | _ => none)
  | .aastore => (match st with
    | .ref v :: .int i :: .ref a :: r => if am_kd S a = 24 ∧ a ≠ 0 ∧ (0 ≤ i.toInt ∧ i.toInt < (am_ln S a : Int)) ∧ am_kd S v = 6 ∧ v ≠ 0 then some (ls, r, am_sr S a i.toNatClampNeg v, I, J) else none
    | _ => none)
  | .new k => (match am_ck w k with | some ci => some (am_mk ls st S I J (ci, am_nf ci, fun _ => 0)) | none => none)
  | .newarray t => (match st with
    | .int n :: r => if am_atk t < 99 ∧ 0 ≤ n.toInt ∧ n.toInt < 10000 then some (am_mk ls r S I J (am_atk t, n.toNatClampNeg, fun _ => 0)) else none
    | _ => none)
  | .anewarray k => (match st with
    | .int n :: r => if am_ck w k = some 6 ∧ 0 ≤ n.toInt ∧ n.toInt < 10000 then some (am_mk ls r S I J (24, n.toNatClampNeg, fun _ => 0)) else none
    | _ => none)
  | .invokestatic k => (match st with
    | .int n :: .int dp :: .ref a :: .int sp :: .ref b :: r => if am_iv w k = some (7, 0) ∧ am_kd S a = 20 ∧ am_kd S b = 20 ∧ a ≠ 0 ∧ b ≠ 0 ∧ (0 ≤ n.toInt ∧ 0 ≤ dp.toInt ∧ 0 ≤ sp.toInt) ∧ sp.toInt + n.toInt ≤ (am_ln S b : Int) ∧ dp.toInt + n.toInt ≤ (am_ln S a : Int) ∧ am_ct r ≤ 8
        then some (ls, r, S, am_row I a (va_cpy (I b) (I a) sp.toNatClampNeg dp.toNatClampNeg n.toNatClampNeg), J) else none
    | _ => none)
  | _ => none
/-- new long[n][k]: the outer row first, then its rows -/
def am_grow (S : am_S) (n k : Nat) : am_S := S ++ (25, n, fun i => if i < n then S.length + 1 + i else 0) :: List.replicate n (23, k, fun _ => 0)
def am_clean {α : Type} (f : Nat → Nat → α) (a : Nat) (z : α) : Nat → Nat → α := fun b j => if a ≤ b then z else f b j
def am_gr (w : Nat) (ls : am_L) (st : List Value) (S : am_S) (I : am_I) (J : am_J) : Instr → Option am_M
  | .multianewarray k d => (match st with
    | .int m :: .int n :: r => if w = 7 ∧ k = 9 ∧ d = 2 ∧ (0 ≤ n.toInt ∧ n.toInt < 100) ∧ 0 ≤ m.toInt ∧ m.toInt < 100 then some (ls, .ref S.length :: r, am_grow S n.toNatClampNeg m.toNatClampNeg, am_clean I S.length 0, am_clean J S.length 0) else none
    | _ => none)
  | _ => none
/-! calls and returns -/
abbrev am_C3 : Type := Nat × List Value × List Value
def am_cv0 (w : Nat) (st : List Value) (S : am_S) : Instr → Option am_C3
  | .invokevirtual k => (match am_iv w k with
    | some (0, y) => (match st.drop (am_np y) with
      | .ref a :: r => if am_kd S a = am_ow y ∧ a ≠ 0 ∧ am_ct r ≤ 8 then some (y, .ref a :: (st.take (am_np y)).reverse, r) else none
      | _ => none)
    | _ => none)
  | .invokestatic k => (match am_iv w k with
    | some (1, y) => if am_np y ≤ st.length ∧ am_ct (st.drop (am_np y)) ≤ 8 then some (y, (st.take (am_np y)).reverse, st.drop (am_np y)) else none
    | some (4, y) => if am_np y ≤ st.length ∧ am_ct (st.drop (am_np y)) ≤ 8 then some (y, (st.take (am_np y)).reverse, st.drop (am_np y)) else none
    | _ => none)
  | .invokespecial k => (match am_iv w k with
    | some (2, y) => (match st.drop (am_np y) with
      | .ref a :: r => if am_ct r ≤ 8 then some (y, .ref a :: (st.take (am_np y)).reverse, r) else none
      | _ => none)
    | some (3, y) => (match st.drop (am_np y) with
      | .ref a :: r => if am_ct r ≤ 8 then some (y, .ref a :: (st.take (am_np y)).reverse, r) else none
      | _ => none)
    | _ => none)
  | _ => none
def am_re (y : Nat) (st : List Value) : Instr → Option (Option Value)
  | .ireturn => (match st, am_rt y with
    | [.int x], some .int => some (some (.int x))
    | [.int x], some .boolean => if x = 0 ∨ x = 1 then some (some (.int x)) else none
    | _, _ => none)
  | .lreturn => (match st, am_rt y with
    | [.long x], some .long => some (some (.long x))
    | _, _ => none)
  | .return_ => (match st, am_rt y with
    | [], none => some none
    | _, _ => none)
  | _ => none
def am_iln : Instr → Nat
  | .bipush _ | .iload _ | .lload _ | .aload _ | .istore _ | .lstore _ | .astore _ | .newarray _ => 2
  | .sipush _ | .ldc2_w _ | .iinc _ _ | .goto _ | .ifCond _ _ | .if_icmp _ _ | .getfield _ | .putfield _ | .new _ | .anewarray _ | .invokevirtual _ | .invokestatic _ | .invokespecial _ => 3
  | .multianewarray _ _ => 4
  | _ => 1
abbrev am_Z : Type := (Nat × am_M) ⊕ (Option Value ⊕ (Nat × am_C3))
/-- one instruction -/
def am_ex (y pc n : Nat) (ls : am_L) (st : List Value) (S : am_S) (I : am_I) (J : am_J) (i : Instr) : Option am_Z :=
  match am_pu (am_ow y) pc ls st S I J i with
  | some (pc', ls', st') => some (.inl (pc', ls', st', S, I, J))
  | none => match am_me y (am_ow y) ls st S I J i with
    | some m => some (.inl (pc + n, m))
    | none => match am_gr (am_ow y) ls st S I J i with
      | some m => some (.inl (pc + n, m))
      | none => match am_re y st i with
        | some r => some (.inr (.inl r))
        | none => match am_cv0 (am_ow y) st S i with
          | some c => some (.inr (.inr (pc + n, c)))
          | none => none
def am_isw : Instr → Bool
  | .tableswitch _ _ _ _ => true
  | _ => false
def am_step (y pc : Nat) (ls : am_L) (st : List Value) (S : am_S) (I : am_I) (J : am_J) : Option am_Z :=
  match decode (am_by y) pc with
  | .ok (i, n) => if am_isw i = true ∨ n = am_iln i then am_ex y pc n ls st S I J i else none
  | .error _ => none
abbrev am_Rel : Type := Nat → List Value → am_S → am_I → am_J → Option Value → am_S → am_I → am_J → Prop
def am_run (R : am_Rel) (y : Nat) : Nat → Nat → am_L → List Value → am_S → am_I → am_J → am_Q → Prop
  | 0, _, _, _, _, _, _, _ => False
  | n + 1, pc, ls, st, S, I, J, Q => match am_step y pc ls st S I J with
    | none => False
    | some (.inl (pc', ls', st', S', I', J')) => am_run R y n pc' ls' st' S' I' J' Q
    | some (.inr (.inl r)) => Q r S I J
    | some (.inr (.inr (pc', y', as, st'))) => ∃ r S1 I1 J1, R y' as S I J r S1 I1 J1 ∧ am_run R y n pc' ls (am_psh r st') S1 I1 J1 Q
def am_eq (r : Option Value) (S : am_S) (I : am_I) (J : am_J) : am_Q := fun r2 S2 I2 J2 => r2 = r ∧ S2 = S ∧ I2 = I ∧ J2 = J
def am_R : Nat → am_Rel
  | 0 => fun _ _ _ _ _ _ _ _ _ => False
  | d + 1 => fun y as S I J r S' I' J' => (am_sl as).length ≤ am_ml y ∧ ∃ n, am_run (am_R d) y n 0 (am_en (am_ml y) as) [] S I J (am_eq r S' I' J')
def am_T (d y pc : Nat) (ls : am_L) (st : List Value) (S : am_S) (I : am_I) (J : am_J) (Q : am_Q) : Prop := ∃ n, am_run (am_R d) y n pc ls st S I J Q
def am_C (d y : Nat) (as : List Value) (S : am_S) (I : am_I) (J : am_J) (Q : am_Q) : Prop := ∃ r S1 I1 J1, am_R d y as S I J r S1 I1 J1 ∧ Q r S1 I1 J1
def am_go (d y : Nat) (ls : am_L) (S : am_S) (I : am_I) (J : am_J) (Q : am_Q) : Option am_Z → Prop
  | none => False
  | some (.inl (pc', ls', st', S', I', J')) => am_T d y pc' ls' st' S' I' J' Q
  | some (.inr (.inl r)) => Q r S I J
  | some (.inr (.inr (pc', y', as, st'))) => am_C d y' as S I J (fun r S1 I1 J1 => am_T d y pc' ls (am_psh r st') S1 I1 J1 Q)
theorem am_T_un (d y pc : Nat) (ls : am_L) (st : List Value) (S : am_S) (I : am_I) (J : am_J) (Q : am_Q) : am_T d y pc ls st S I J Q = am_go d y ls S I J Q (am_step y pc ls st S I J) := by
  apply propext
  constructor
  · rintro ⟨n, h⟩
    cases n with
    | zero => exact h.elim
    | succ n =>
      unfold am_run at h
      cases hs : am_step y pc ls st S I J with
      | none => rw [hs] at h; exact h
      | some z =>
        rw [hs] at h
        match z, h with
        | .inl (pc', ls', st', S', I', J'), h => exact ⟨n, h⟩
        | .inr (.inl r), h => exact h
        | .inr (.inr (pc', y', as, st')), h =>
          obtain ⟨r, S1, I1, J1, h1, h2⟩ := h
          exact ⟨r, S1, I1, J1, h1, n, h2⟩
  · intro h
    cases hs : am_step y pc ls st S I J with
    | none => rw [hs] at h; exact h.elim
    | some z =>
      rw [hs] at h
      match z, hs, h with
      | .inl (pc', ls', st', S', I', J'), hs, ⟨n, h⟩ => exact ⟨n + 1, by unfold am_run; rw [hs]; exact h⟩
      | .inr (.inl r), hs, h => exact ⟨1, by unfold am_run; rw [hs]; exact h⟩
      | .inr (.inr (pc', y', as, st')), hs, ⟨r, S1, I1, J1, h1, n, h2⟩ => exact ⟨n + 1, by unfold am_run; rw [hs]; exact ⟨r, S1, I1, J1, h1, h2⟩⟩
theorem am_run_iff (R : am_Rel) (y : Nat) : ∀ (n pc : Nat) (ls : am_L) (st : List Value) (S : am_S) (I : am_I) (J : am_J) (Q : am_Q), am_run R y n pc ls st S I J Q ↔ ∃ r S1 I1 J1, am_run R y n pc ls st S I J (am_eq r S1 I1 J1) ∧ Q r S1 I1 J1 := by
  intro n
  induction n with
  | zero => intro pc ls st S I J Q; exact ⟨fun h => h.elim, fun ⟨_, _, _, _, h, _⟩ => h.elim⟩
  | succ n ih =>
    intro pc ls st S I J Q
    unfold am_run
    cases hs : am_step y pc ls st S I J with
    | none => exact ⟨fun h => h.elim, fun ⟨_, _, _, _, h, _⟩ => h.elim⟩
    | some z =>
      match z with
      | .inl (pc', ls', st', S', I', J') => exact ih pc' ls' st' S' I' J' Q
      | .inr (.inl r) =>
        constructor
        · intro h; exact ⟨r, S, I, J, ⟨rfl, rfl, rfl, rfl⟩, h⟩
        · rintro ⟨r1, S1, I1, J1, ⟨rfl, rfl, rfl, rfl⟩, h⟩; exact h
      | .inr (.inr (pc', y', as, st')) =>
        constructor
        · rintro ⟨r, S1, I1, J1, h1, h2⟩
          obtain ⟨r2, S2, I2, J2, h3, h4⟩ := (ih _ _ _ _ _ _ _).mp h2
          exact ⟨r2, S2, I2, J2, ⟨r, S1, I1, J1, h1, h3⟩, h4⟩
        · rintro ⟨r2, S2, I2, J2, ⟨r, S1, I1, J1, h1, h3⟩, h4⟩
          exact ⟨r, S1, I1, J1, h1, (ih _ _ _ _ _ _ _).mpr ⟨r2, S2, I2, J2, h3, h4⟩⟩
theorem am_C_un (d y : Nat) (as : List Value) (S : am_S) (I : am_I) (J : am_J) (Q : am_Q) (h : (am_sl as).length ≤ am_ml y) : am_C (d + 1) y as S I J Q = am_T d y 0 (am_en (am_ml y) as) [] S I J Q := by
  apply propext
  constructor
  · rintro ⟨r, S1, I1, J1, ⟨-, n, h1⟩, h2⟩
    exact ⟨n, (am_run_iff _ _ _ _ _ _ _ _ _ _).mpr ⟨r, S1, I1, J1, h1, h2⟩⟩
  · rintro ⟨n, h1⟩
    obtain ⟨r, S1, I1, J1, h2, h3⟩ := (am_run_iff _ _ _ _ _ _ _ _ _ _).mp h1
    exact ⟨r, S1, I1, J1, ⟨h, n, h2⟩, h3⟩
theorem am_T_mono {d y pc : Nat} {ls : am_L} {st : List Value} {S : am_S} {I : am_I} {J : am_J} {Q Q' : am_Q} (h : am_T d y pc ls st S I J Q) (hq : ∀ r S1 I1 J1, Q r S1 I1 J1 → Q' r S1 I1 J1) : am_T d y pc ls st S I J Q' := by
  obtain ⟨n, h⟩ := h
  obtain ⟨r, S1, I1, J1, h2, h3⟩ := (am_run_iff _ _ _ _ _ _ _ _ _ _).mp h
  exact ⟨n, (am_run_iff _ _ _ _ _ _ _ _ _ _).mpr ⟨r, S1, I1, J1, h2, hq _ _ _ _ h3⟩⟩
theorem am_C_mono {d y : Nat} {as : List Value} {S : am_S} {I : am_I} {J : am_J} {Q Q' : am_Q} (h : am_C d y as S I J Q) (hq : ∀ r S1 I1 J1, Q r S1 I1 J1 → Q' r S1 I1 J1) : am_C d y as S I J Q' := by
  obtain ⟨r, S1, I1, J1, h2, h3⟩ := h
  exact ⟨r, S1, I1, J1, h2, hq _ _ _ _ h3⟩
