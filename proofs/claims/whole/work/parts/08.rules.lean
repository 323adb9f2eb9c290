/-! the small machine's steps as equations: an instruction, a row -/
section TR
variable {d y pc n : Nat} {ls : am_L} {st : List Value} {S : am_S} {I : am_I} {J : am_J} {Q : am_Q} {x z v : Int32} {u w : Int64} {a b ci j k : Nat}
theorem tr_un {i : Instr} (hd : decode (am_by y) pc = .ok (i, n)) (hn : (am_isw i || n == am_iln i) = true) : am_T d y pc ls st S I J Q = am_go d y ls S I J Q (am_ex y pc n ls st S I J i) := by
  rw [am_T_un]
  congr 1
  unfold am_step
  rw [hd]
  show (if am_isw i = true ∨ n = am_iln i then _ else _) = _
  rw [if_pos (by simpa using hn)]
theorem tr_pu {i : Instr} {pc' : Nat} {ls' : am_L} {st' : List Value} (hd : decode (am_by y) pc = .ok (i, n)) (hn : (am_isw i || n == am_iln i) = true) (h : am_pu (am_ow y) pc ls st S I J i = some (pc', ls', st')) : am_T d y pc ls st S I J Q = am_T d y pc' ls' st' S I J Q := by
  rw [tr_un hd hn]; unfold am_ex; rw [h]; rfl
theorem tr_iconst {m : Int} (hd : decode (am_by y) pc = .ok (.iconst m, 1)) (hv : Int32.ofInt m = v) : am_T d y pc ls st S I J Q = am_T d y (pc + 1) ls (.int v :: st) S I J Q := tr_pu hd rfl (by subst hv; rfl)
theorem tr_bipush {m : Int} (hd : decode (am_by y) pc = .ok (.bipush m, 2)) (hv : (Int8.ofInt m).toInt32 = v) : am_T d y pc ls st S I J Q = am_T d y (pc + 2) ls (.int v :: st) S I J Q := tr_pu hd rfl (by subst hv; rfl)
theorem tr_sipush {m : Int} (hd : decode (am_by y) pc = .ok (.sipush m, 3)) (hv : (Int16.ofInt m).toInt32 = v) : am_T d y pc ls st S I J Q = am_T d y (pc + 3) ls (.int v :: st) S I J Q := tr_pu hd rfl (by subst hv; rfl)
theorem tr_lconst {m : Fin 2} (hd : decode (am_by y) pc = .ok (.lconst m, 1)) (hv : Int64.ofNat (m : Nat) = u) : am_T d y pc ls st S I J Q = am_T d y (pc + 1) ls (.long u :: st) S I J Q := tr_pu hd rfl (by subst hv; rfl)
theorem tr_ldc2 (hd : decode (am_by y) pc = .ok (.ldc2_w k, 3)) (hv : am_lc (am_ow y) k = some u) : am_T d y pc ls st S I J Q = am_T d y (pc + 3) ls (.long u :: st) S I J Q := tr_pu hd rfl (by simp only [am_pu, hv])
theorem tr_iload_n {m : Fin 4} (hd : decode (am_by y) pc = .ok (.iload_n m, 1)) (h : am_ld ls m = some (.int x)) : am_T d y pc ls st S I J Q = am_T d y (pc + 1) ls (.int x :: st) S I J Q := tr_pu hd rfl (by simp only [am_pu, am_ldi, h])
theorem tr_iload (hd : decode (am_by y) pc = .ok (.iload k, 2)) (h : am_ld ls k = some (.int x)) : am_T d y pc ls st S I J Q = am_T d y (pc + 2) ls (.int x :: st) S I J Q := tr_pu hd rfl (by simp only [am_pu, am_ldi, h])
theorem tr_lload_n {m : Fin 4} (hd : decode (am_by y) pc = .ok (.lload_n m, 1)) (h : am_ld ls m = some (.long u)) : am_T d y pc ls st S I J Q = am_T d y (pc + 1) ls (.long u :: st) S I J Q := tr_pu hd rfl (by simp only [am_pu, am_ldl, h])
theorem tr_lload (hd : decode (am_by y) pc = .ok (.lload k, 2)) (h : am_ld ls k = some (.long u)) : am_T d y pc ls st S I J Q = am_T d y (pc + 2) ls (.long u :: st) S I J Q := tr_pu hd rfl (by simp only [am_pu, am_ldl, h])
theorem tr_aload_n {m : Fin 4} (hd : decode (am_by y) pc = .ok (.aload_n m, 1)) (h : am_ld ls m = some (.ref a)) : am_T d y pc ls st S I J Q = am_T d y (pc + 1) ls (.ref a :: st) S I J Q := tr_pu hd rfl (by simp only [am_pu, am_lda, h])
theorem tr_aload (hd : decode (am_by y) pc = .ok (.aload k, 2)) (h : am_ld ls k = some (.ref a)) : am_T d y pc ls st S I J Q = am_T d y (pc + 2) ls (.ref a :: st) S I J Q := tr_pu hd rfl (by simp only [am_pu, am_lda, h])
theorem tr_istore_n {m : Fin 4} {ls' : am_L} (hd : decode (am_by y) pc = .ok (.istore_n m, 1)) (h : m < ls.length) (he : am_st1 ls m (.int x) = ls') : am_T d y pc ls (.int x :: st) S I J Q = am_T d y (pc + 1) ls' st S I J Q := tr_pu hd rfl (by subst he; simp [am_pu, am_sti, h])
theorem tr_istore {ls' : am_L} (hd : decode (am_by y) pc = .ok (.istore k, 2)) (h : k < ls.length) (he : am_st1 ls k (.int x) = ls') : am_T d y pc ls (.int x :: st) S I J Q = am_T d y (pc + 2) ls' st S I J Q := tr_pu hd rfl (by subst he; simp [am_pu, am_sti, h])
theorem tr_lstore_n {m : Fin 4} {ls' : am_L} (hd : decode (am_by y) pc = .ok (.lstore_n m, 1)) (h : m + 1 < ls.length) (he : am_st2 ls m (.long u) = ls') : am_T d y pc ls (.long u :: st) S I J Q = am_T d y (pc + 1) ls' st S I J Q := tr_pu hd rfl (by subst he; simp [am_pu, am_stl, h])
theorem tr_lstore {ls' : am_L} (hd : decode (am_by y) pc = .ok (.lstore k, 2)) (h : k + 1 < ls.length) (he : am_st2 ls k (.long u) = ls') : am_T d y pc ls (.long u :: st) S I J Q = am_T d y (pc + 2) ls' st S I J Q := tr_pu hd rfl (by subst he; simp [am_pu, am_stl, h])
theorem tr_astore_n {m : Fin 4} {ls' : am_L} (hd : decode (am_by y) pc = .ok (.astore_n m, 1)) (h : m < ls.length) (he : am_st1 ls m (.ref a) = ls') : am_T d y pc ls (.ref a :: st) S I J Q = am_T d y (pc + 1) ls' st S I J Q := tr_pu hd rfl (by subst he; simp [am_pu, am_sta, h])
theorem tr_astore {ls' : am_L} (hd : decode (am_by y) pc = .ok (.astore k, 2)) (h : k < ls.length) (he : am_st1 ls k (.ref a) = ls') : am_T d y pc ls (.ref a :: st) S I J Q = am_T d y (pc + 2) ls' st S I J Q := tr_pu hd rfl (by subst he; simp [am_pu, am_sta, h])
theorem tr_iinc {m : Int} {ls' : am_L} (hd : decode (am_by y) pc = .ok (.iinc k m, 3)) (h1 : am_ld ls k = some (.int x)) (h : k < ls.length) (hv : Int32.ofInt m = v) (he : am_st1 ls k (.int (x + v)) = ls') : am_T d y pc ls st S I J Q = am_T d y (pc + 3) ls' st S I J Q := tr_pu hd rfl (by subst he; subst hv; simp [am_pu, h, h1])
theorem tr_iadd (hd : decode (am_by y) pc = .ok (.iadd, 1)) : am_T d y pc ls (.int z :: .int x :: st) S I J Q = am_T d y (pc + 1) ls (.int (x + z) :: st) S I J Q := tr_pu hd rfl rfl
theorem tr_isub (hd : decode (am_by y) pc = .ok (.isub, 1)) : am_T d y pc ls (.int z :: .int x :: st) S I J Q = am_T d y (pc + 1) ls (.int (x - z) :: st) S I J Q := tr_pu hd rfl rfl
theorem tr_imul (hd : decode (am_by y) pc = .ok (.imul, 1)) : am_T d y pc ls (.int z :: .int x :: st) S I J Q = am_T d y (pc + 1) ls (.int (x * z) :: st) S I J Q := tr_pu hd rfl rfl
theorem tr_iand (hd : decode (am_by y) pc = .ok (.iand, 1)) : am_T d y pc ls (.int z :: .int x :: st) S I J Q = am_T d y (pc + 1) ls (.int (x &&& z) :: st) S I J Q := tr_pu hd rfl rfl
theorem tr_ior (hd : decode (am_by y) pc = .ok (.ior, 1)) : am_T d y pc ls (.int z :: .int x :: st) S I J Q = am_T d y (pc + 1) ls (.int (x ||| z) :: st) S I J Q := tr_pu hd rfl rfl
theorem tr_ixor (hd : decode (am_by y) pc = .ok (.ixor, 1)) : am_T d y pc ls (.int z :: .int x :: st) S I J Q = am_T d y (pc + 1) ls (.int (x ^^^ z) :: st) S I J Q := tr_pu hd rfl rfl
theorem tr_ishl (hd : decode (am_by y) pc = .ok (.ishl, 1)) : am_T d y pc ls (.int z :: .int x :: st) S I J Q = am_T d y (pc + 1) ls (.int (x <<< (z &&& 31)) :: st) S I J Q := tr_pu hd rfl rfl
theorem tr_ishr (hd : decode (am_by y) pc = .ok (.ishr, 1)) : am_T d y pc ls (.int z :: .int x :: st) S I J Q = am_T d y (pc + 1) ls (.int (x >>> (z &&& 31)) :: st) S I J Q := tr_pu hd rfl rfl
/-- an unsigned shift -/
def am_ush (x z : Int32) : Int32 := (x.toUInt32 >>> (z.toUInt32 &&& Int32.toUInt32 31)).toInt32
theorem tr_iushr (hd : decode (am_by y) pc = .ok (.iushr, 1)) : am_T d y pc ls (.int z :: .int x :: st) S I J Q = am_T d y (pc + 1) ls (.int (am_ush x z) :: st) S I J Q := tr_pu hd rfl rfl
theorem tr_ob {P : Prop} {pc' : Nat} {ls' : am_L} {st' : List Value} {i : Instr} (hd : decode (am_by y) pc = .ok (i, n)) (hn : (am_isw i || n == am_iln i) = true) (h : P → am_pu (am_ow y) pc ls st S I J i = some (pc', ls', st')) (h0 : ¬ P → am_ex y pc n ls st S I J i = none) : am_T d y pc ls st S I J Q = (P ∧ am_T d y pc' ls' st' S I J Q) := by
  by_cases g : P
  · rw [tr_pu hd hn (h g)]; simp [g]
  · rw [tr_un hd hn, h0 g]; simp [g, am_go]
theorem tr_irem (hd : decode (am_by y) pc = .ok (.irem, 1)) : am_T d y pc ls (.int z :: .int x :: st) S I J Q = (z ≠ 0 ∧ am_T d y (pc + 1) ls (.int (x - x / z * z) :: st) S I J Q) := by
  refine tr_ob hd rfl (fun h => ?_) (fun h => ?_)
  · simp only [am_pu, if_neg h]
  · simp only [am_ex, am_pu, if_pos (Decidable.not_not.mp h), am_me, am_gr, am_re, am_cv0]
theorem tr_ladd (hd : decode (am_by y) pc = .ok (.ladd, 1)) : am_T d y pc ls (.long w :: .long u :: st) S I J Q = am_T d y (pc + 1) ls (.long (u + w) :: st) S I J Q := tr_pu hd rfl rfl
theorem tr_lsub (hd : decode (am_by y) pc = .ok (.lsub, 1)) : am_T d y pc ls (.long w :: .long u :: st) S I J Q = am_T d y (pc + 1) ls (.long (u - w) :: st) S I J Q := tr_pu hd rfl rfl
theorem tr_lmul (hd : decode (am_by y) pc = .ok (.lmul, 1)) : am_T d y pc ls (.long w :: .long u :: st) S I J Q = am_T d y (pc + 1) ls (.long (u * w) :: st) S I J Q := tr_pu hd rfl rfl
theorem tr_ldiv (hd : decode (am_by y) pc = .ok (.ldiv, 1)) : am_T d y pc ls (.long w :: .long u :: st) S I J Q = (w ≠ 0 ∧ am_T d y (pc + 1) ls (.long (u / w) :: st) S I J Q) := by
  refine tr_ob hd rfl (fun h => ?_) (fun h => ?_)
  · simp only [am_pu, am_lld, if_neg h]
  · simp only [am_ex, am_pu, am_lld, if_pos (Decidable.not_not.mp h), am_me, am_gr, am_re, am_cv0]
theorem tr_lrem (hd : decode (am_by y) pc = .ok (.lrem, 1)) : am_T d y pc ls (.long w :: .long u :: st) S I J Q = (w ≠ 0 ∧ am_T d y (pc + 1) ls (.long (u - u / w * w) :: st) S I J Q) := by
  refine tr_ob hd rfl (fun h => ?_) (fun h => ?_)
  · simp only [am_pu, am_lld, if_neg h]
  · simp only [am_ex, am_pu, am_lld, if_pos (Decidable.not_not.mp h), am_me, am_gr, am_re, am_cv0]
theorem tr_lcmp (hd : decode (am_by y) pc = .ok (.lcmp, 1)) : am_T d y pc ls (.long w :: .long u :: st) S I J Q = am_T d y (pc + 1) ls (.int (lg_cmp u w) :: st) S I J Q := tr_pu hd rfl rfl
theorem tr_i2l (hd : decode (am_by y) pc = .ok (.i2l, 1)) : am_T d y pc ls (.int x :: st) S I J Q = am_T d y (pc + 1) ls (.long x.toInt64 :: st) S I J Q := tr_pu hd rfl rfl
theorem tr_l2i (hd : decode (am_by y) pc = .ok (.l2i, 1)) : am_T d y pc ls (.long u :: st) S I J Q = am_T d y (pc + 1) ls (.int u.toInt32 :: st) S I J Q := tr_pu hd rfl rfl
def am_i2c (x : Int32) : Int32 := (x.toUInt32 % 65536).toInt32
theorem tr_i2c (hd : decode (am_by y) pc = .ok (.i2c, 1)) : am_T d y pc ls (.int x :: st) S I J Q = am_T d y (pc + 1) ls (.int (am_i2c x) :: st) S I J Q := tr_pu hd rfl rfl
theorem tr_dupi (hd : decode (am_by y) pc = .ok (.dup, 1)) : am_T d y pc ls (.int x :: st) S I J Q = am_T d y (pc + 1) ls (.int x :: .int x :: st) S I J Q := tr_pu hd rfl rfl
theorem tr_dupa (hd : decode (am_by y) pc = .ok (.dup, 1)) : am_T d y pc ls (.ref a :: st) S I J Q = am_T d y (pc + 1) ls (.ref a :: .ref a :: st) S I J Q := tr_pu hd rfl rfl
theorem tr_dup2 (hd : decode (am_by y) pc = .ok (.dup2, 1)) : am_T d y pc ls (.int x :: .ref a :: st) S I J Q = am_T d y (pc + 1) ls (.int x :: .ref a :: .int x :: .ref a :: st) S I J Q := tr_pu hd rfl rfl
theorem tr_goto {o : Int} {t : Nat} (hd : decode (am_by y) pc = .ok (.goto o, 3)) (ht : am_tg pc o = some t) : am_T d y pc ls st S I J Q = am_T d y t ls st S I J Q := tr_pu hd rfl (by simp only [am_pu, ht])
theorem tr_if {P : Prop} [Decidable P] {t pc1 : Nat} {i : Instr} {st' : List Value} (hd : decode (am_by y) pc = .ok (i, n)) (hn : (am_isw i || n == am_iln i) = true) (h : am_pu (am_ow y) pc ls st S I J i = some (if P then t else pc1, ls, st')) : am_T d y pc ls st S I J Q = if P then am_T d y t ls st' S I J Q else am_T d y pc1 ls st' S I J Q := by
  rw [tr_pu hd hn h]
  by_cases g : P
  · rw [if_pos g, if_pos g]
  · rw [if_neg g, if_neg g]
theorem tr_ifeq {o : Int} {t : Nat} (hd : decode (am_by y) pc = .ok (.ifCond .eq o, 3)) (ht : am_tg pc o = some t) : am_T d y pc ls (.int x :: st) S I J Q = if x = 0 then am_T d y t ls st S I J Q else am_T d y (pc + 3) ls st S I J Q := tr_if hd rfl (by simp only [am_pu, am_if, am_br, ht])
theorem tr_ifne {o : Int} {t : Nat} (hd : decode (am_by y) pc = .ok (.ifCond .ne o, 3)) (ht : am_tg pc o = some t) : am_T d y pc ls (.int x :: st) S I J Q = if x = 0 then am_T d y (pc + 3) ls st S I J Q else am_T d y t ls st S I J Q := by
  rw [tr_if (P := x ≠ 0) (t := t) (pc1 := pc + 3) (st' := st) hd rfl (by simp only [am_pu, am_if, am_br, ht])]
  by_cases g : x = 0 <;> simp [g]
theorem tr_iflt {o : Int} {t : Nat} (hd : decode (am_by y) pc = .ok (.ifCond .lt o, 3)) (ht : am_tg pc o = some t) : am_T d y pc ls (.int x :: st) S I J Q = if x < 0 then am_T d y t ls st S I J Q else am_T d y (pc + 3) ls st S I J Q := tr_if hd rfl (by simp only [am_pu, am_if, am_br, ht])
theorem tr_ifge {o : Int} {t : Nat} (hd : decode (am_by y) pc = .ok (.ifCond .ge o, 3)) (ht : am_tg pc o = some t) : am_T d y pc ls (.int x :: st) S I J Q = if 0 ≤ x then am_T d y t ls st S I J Q else am_T d y (pc + 3) ls st S I J Q := tr_if hd rfl (by simp only [am_pu, am_if, am_br, ht])
theorem tr_ifgt {o : Int} {t : Nat} (hd : decode (am_by y) pc = .ok (.ifCond .gt o, 3)) (ht : am_tg pc o = some t) : am_T d y pc ls (.int x :: st) S I J Q = if 0 < x then am_T d y t ls st S I J Q else am_T d y (pc + 3) ls st S I J Q := tr_if hd rfl (by simp only [am_pu, am_if, am_br, ht])
theorem tr_ifle {o : Int} {t : Nat} (hd : decode (am_by y) pc = .ok (.ifCond .le o, 3)) (ht : am_tg pc o = some t) : am_T d y pc ls (.int x :: st) S I J Q = if x ≤ 0 then am_T d y t ls st S I J Q else am_T d y (pc + 3) ls st S I J Q := tr_if hd rfl (by simp only [am_pu, am_if, am_br, ht])
theorem tr_icmpeq {o : Int} {t : Nat} (hd : decode (am_by y) pc = .ok (.if_icmp .eq o, 3)) (ht : am_tg pc o = some t) : am_T d y pc ls (.int z :: .int x :: st) S I J Q = if x = z then am_T d y t ls st S I J Q else am_T d y (pc + 3) ls st S I J Q := tr_if hd rfl (by simp only [am_pu, am_if, am_br, ht])
theorem tr_icmpne {o : Int} {t : Nat} (hd : decode (am_by y) pc = .ok (.if_icmp .ne o, 3)) (ht : am_tg pc o = some t) : am_T d y pc ls (.int z :: .int x :: st) S I J Q = if x = z then am_T d y (pc + 3) ls st S I J Q else am_T d y t ls st S I J Q := by
  rw [tr_if (P := x ≠ z) (t := t) (pc1 := pc + 3) (st' := st) hd rfl (by simp only [am_pu, am_if, am_br, ht])]
  by_cases g : x = z <;> simp [g]
theorem tr_icmplt {o : Int} {t : Nat} (hd : decode (am_by y) pc = .ok (.if_icmp .lt o, 3)) (ht : am_tg pc o = some t) : am_T d y pc ls (.int z :: .int x :: st) S I J Q = if x < z then am_T d y t ls st S I J Q else am_T d y (pc + 3) ls st S I J Q := tr_if hd rfl (by simp only [am_pu, am_if, am_br, ht])
theorem tr_icmpge {o : Int} {t : Nat} (hd : decode (am_by y) pc = .ok (.if_icmp .ge o, 3)) (ht : am_tg pc o = some t) : am_T d y pc ls (.int z :: .int x :: st) S I J Q = if z ≤ x then am_T d y t ls st S I J Q else am_T d y (pc + 3) ls st S I J Q := tr_if hd rfl (by simp only [am_pu, am_if, am_br, ht])
theorem tr_icmpgt {o : Int} {t : Nat} (hd : decode (am_by y) pc = .ok (.if_icmp .gt o, 3)) (ht : am_tg pc o = some t) : am_T d y pc ls (.int z :: .int x :: st) S I J Q = if z < x then am_T d y t ls st S I J Q else am_T d y (pc + 3) ls st S I J Q := tr_if hd rfl (by simp only [am_pu, am_if, am_br, ht])
theorem tr_icmple {o : Int} {t : Nat} (hd : decode (am_by y) pc = .ok (.if_icmp .le o, 3)) (ht : am_tg pc o = some t) : am_T d y pc ls (.int z :: .int x :: st) S I J Q = if x ≤ z then am_T d y t ls st S I J Q else am_T d y (pc + 3) ls st S I J Q := tr_if hd rfl (by simp only [am_pu, am_if, am_br, ht])
/-- an object of a class; an array of a kind with an index within -/
def am_is (S : am_S) (a ci : Nat) : Prop := am_kd S a = ci ∧ a ≠ 0
def am_ix (S : am_S) (a kd : Nat) (i : Int32) : Prop := am_kd S a = kd ∧ 0 ≤ i.toInt ∧ i.toInt < (am_ln S a : Int)
def am_ixw (S : am_S) (a kd : Nat) (i : Int32) : Prop := am_kd S a = kd ∧ a ≠ 0 ∧ (0 ≤ i.toInt ∧ i.toInt < (am_ln S a : Int))
theorem tr_geti (hd : decode (am_by y) pc = .ok (.getfield k, 3)) (hf : am_fl (am_ow y) k = some (ci, j)) (ht : am_fty ci j = 0 ∨ am_fty ci j = 1) : am_T d y pc ls (.ref a :: st) S I J Q = (am_is S a ci ∧ am_T d y (pc + 3) ls (.int (I a j) :: st) S I J Q) := by
  refine tr_ob hd rfl (fun h => ?_) (fun h => ?_)
  · unfold am_is at h; rcases ht with e | e <;> simp only [am_pu, am_gf, hf, if_pos h, e]
  · unfold am_is at h; simp only [am_ex, am_pu, am_gf, hf, if_neg h, am_me, am_gr, am_re, am_cv0]
theorem tr_getl (hd : decode (am_by y) pc = .ok (.getfield k, 3)) (hf : am_fl (am_ow y) k = some (ci, j)) (ht : am_fty ci j = 2) : am_T d y pc ls (.ref a :: st) S I J Q = (am_is S a ci ∧ am_T d y (pc + 3) ls (.long (J a j) :: st) S I J Q) := by
  refine tr_ob hd rfl (fun h => ?_) (fun h => ?_)
  · unfold am_is at h; simp only [am_pu, am_gf, hf, if_pos h, ht]
  · unfold am_is at h; simp only [am_ex, am_pu, am_gf, hf, if_neg h, am_me, am_gr, am_re, am_cv0]
theorem tr_geta (hd : decode (am_by y) pc = .ok (.getfield k, 3)) (hf : am_fl (am_ow y) k = some (ci, j)) (ht : am_fty ci j = 3) : am_T d y pc ls (.ref a :: st) S I J Q = ((am_is S a ci ∧ am_rf S a j ≠ 0) ∧ am_T d y (pc + 3) ls (.ref (am_rf S a j) :: st) S I J Q) := by
  refine tr_ob hd rfl (fun h => ?_) (fun h => ?_)
  · unfold am_is at h; simp only [am_pu, am_gf, hf, if_pos h.1, ht, if_neg h.2]
  · unfold am_is at h
    by_cases g : am_kd S a = ci ∧ a ≠ 0
    · have g2 : am_rf S a j = 0 := Decidable.byContradiction fun q => h ⟨g, q⟩
      simp only [am_ex, am_pu, am_gf, hf, if_pos g, ht, if_pos g2, am_me, am_gr, am_re, am_cv0]
    · simp only [am_ex, am_pu, am_gf, hf, if_neg g, am_me, am_gr, am_re, am_cv0]
theorem tr_iald (hd : decode (am_by y) pc = .ok (.iaload, 1)) : am_T d y pc ls (.int x :: .ref a :: st) S I J Q = (am_ix S a 20 x ∧ am_T d y (pc + 1) ls (.int (I a x.toNatClampNeg) :: st) S I J Q) := by
  refine tr_ob hd rfl (fun h => ?_) (fun h => ?_)
  · unfold am_ix at h; simp only [am_pu, am_al, if_pos h]
  · unfold am_ix at h; simp only [am_ex, am_pu, am_al, if_neg h, am_me, am_gr, am_re, am_cv0]
theorem tr_bald (hd : decode (am_by y) pc = .ok (.baload, 1)) : am_T d y pc ls (.int x :: .ref a :: st) S I J Q = (am_ix S a 21 x ∧ am_T d y (pc + 1) ls (.int (I a x.toNatClampNeg) :: st) S I J Q) := by
  refine tr_ob hd rfl (fun h => ?_) (fun h => ?_)
  · unfold am_ix at h; simp only [am_pu, am_al, if_pos h]
  · unfold am_ix at h; simp only [am_ex, am_pu, am_al, if_neg h, am_me, am_gr, am_re, am_cv0]
theorem tr_cald (hd : decode (am_by y) pc = .ok (.caload, 1)) : am_T d y pc ls (.int x :: .ref a :: st) S I J Q = (am_ix S a 22 x ∧ am_T d y (pc + 1) ls (.int (I a x.toNatClampNeg) :: st) S I J Q) := by
  refine tr_ob hd rfl (fun h => ?_) (fun h => ?_)
  · unfold am_ix at h; simp only [am_pu, am_al, if_pos h]
  · unfold am_ix at h; simp only [am_ex, am_pu, am_al, if_neg h, am_me, am_gr, am_re, am_cv0]
theorem tr_lald (hd : decode (am_by y) pc = .ok (.laload, 1)) : am_T d y pc ls (.int x :: .ref a :: st) S I J Q = (am_ix S a 23 x ∧ am_T d y (pc + 1) ls (.long (J a x.toNatClampNeg) :: st) S I J Q) := by
  refine tr_ob hd rfl (fun h => ?_) (fun h => ?_)
  · unfold am_ix at h; simp only [am_pu, am_jl, if_pos h]
  · unfold am_ix at h; simp only [am_ex, am_pu, am_jl, if_neg h, am_me, am_gr, am_re, am_cv0]
/-- a row of references with an index within, and a reference there -/
def am_ixq (S : am_S) (a : Nat) (i : Int32) : Prop := (am_kd S a = 24 ∨ am_kd S a = 25) ∧ (0 ≤ i.toInt ∧ i.toInt < (am_ln S a : Int)) ∧ am_rf S a i.toNatClampNeg ≠ 0
theorem tr_aald (hd : decode (am_by y) pc = .ok (.aaload, 1)) : am_T d y pc ls (.int x :: .ref a :: st) S I J Q = (am_ixq S a x ∧ am_T d y (pc + 1) ls (.ref (am_rf S a x.toNatClampNeg) :: st) S I J Q) := by
  refine tr_ob hd rfl (fun h => ?_) (fun h => ?_)
  · unfold am_ixq at h; simp only [am_pu, am_ql, if_pos h]
  · unfold am_ixq at h; simp only [am_ex, am_pu, am_ql, if_neg h, am_me, am_gr, am_re, am_cv0]
theorem tr_alen (hd : decode (am_by y) pc = .ok (.arraylength, 1)) : am_T d y pc ls (.ref a :: st) S I J Q = (am_kd S a = 20 ∧ am_T d y (pc + 1) ls (.int (Int32.ofNat (am_ln S a)) :: st) S I J Q) := by
  refine tr_ob hd rfl (fun h => ?_) (fun h => ?_)
  · simp only [am_pu, if_pos h]
  · simp only [am_ex, am_pu, if_neg h, am_me, am_gr, am_re, am_cv0]
theorem tr_oinit (hd : decode (am_by y) pc = .ok (.invokespecial k, 3)) (hv : am_iv (am_ow y) k = some (5, 0)) (hc : am_ct st ≤ 8) : am_T d y pc ls (.ref a :: st) S I J Q = am_T d y (pc + 3) ls st S I J Q := tr_pu hd rfl (by simp [am_pu, hv, hc])
theorem tr_max (hd : decode (am_by y) pc = .ok (.invokestatic k, 3)) (hv : am_iv (am_ow y) k = some (6, 0)) (hc : am_ct st ≤ 8) : am_T d y pc ls (.int z :: .int x :: st) S I J Q = am_T d y (pc + 3) ls (.int (if x < z then z else x) :: st) S I J Q := tr_pu hd rfl (by simp [am_pu, hv, hc])
-- writes
theorem tr_me {P : Prop} {ls' : am_L} {st' : List Value} {S' : am_S} {I' : am_I} {J' : am_J} {i : Instr} (hd : decode (am_by y) pc = .ok (i, n)) (hn : (am_isw i || n == am_iln i) = true) (hp : am_pu (am_ow y) pc ls st S I J i = none) (h : P → am_me y (am_ow y) ls st S I J i = some (ls', st', S', I', J')) (h0 : ¬ P → am_ex y pc n ls st S I J i = none) : am_T d y pc ls st S I J Q = (P ∧ am_T d y (pc + n) ls' st' S' I' J' Q) := by
  by_cases g : P
  · rw [tr_un hd hn]; unfold am_ex; rw [hp, h g]; simp [g, am_go]
  · rw [tr_un hd hn, h0 g]; simp [g, am_go]
theorem tr_puti (hd : decode (am_by y) pc = .ok (.putfield k, 3)) (hf : am_fl (am_ow y) k = some (ci, j)) (ht : am_fty ci j = 0) (ho : am_fo y ci j = true) : am_T d y pc ls (.int x :: .ref a :: st) S I J Q = (am_is S a ci ∧ am_T d y (pc + 3) ls st S (am_up I a j x) J Q) := by
  refine tr_me hd rfl rfl (fun h => ?_) (fun h => ?_)
  · unfold am_is at h; simp [am_me, am_pf, hf, ht, ho, h]
  · unfold am_is at h; simp only [am_ex, am_pu, am_me, am_pf, hf]; rw [if_neg (fun q => h ⟨q.2.1, q.2.2.1⟩)]; rfl
theorem tr_putz (hd : decode (am_by y) pc = .ok (.putfield k, 3)) (hf : am_fl (am_ow y) k = some (ci, j)) (ht : am_fty ci j = 1) (ho : am_fo y ci j = true) : am_T d y pc ls (.int x :: .ref a :: st) S I J Q = ((am_is S a ci ∧ (x = 0 ∨ x = 1)) ∧ am_T d y (pc + 3) ls st S (am_up I a j x) J Q) := by
  refine tr_me hd rfl rfl (fun h => ?_) (fun h => ?_)
  · unfold am_is at h; simp [am_me, am_pf, hf, ht, ho, h]
  · unfold am_is at h; simp only [am_ex, am_pu, am_me, am_pf, hf]; rw [if_neg (fun q => h ⟨⟨q.2.1, q.2.2.1⟩, q.2.2.2.elim (fun e => by rw [ht] at e; cases e) (fun e => e.2)⟩)]; rfl
theorem tr_putl (hd : decode (am_by y) pc = .ok (.putfield k, 3)) (hf : am_fl (am_ow y) k = some (ci, j)) (ht : am_fty ci j = 2) (ho : am_fo y ci j = true) : am_T d y pc ls (.long u :: .ref a :: st) S I J Q = (am_is S a ci ∧ am_T d y (pc + 3) ls st S I (am_up J a j u) Q) := by
  refine tr_me hd rfl rfl (fun h => ?_) (fun h => ?_)
  · unfold am_is at h; simp [am_me, am_pf, hf, ht, ho, h]
  · unfold am_is at h; simp only [am_ex, am_pu, am_me, am_pf, hf]; rw [if_neg (fun q => h ⟨q.2.1, q.2.2.1⟩)]; rfl
theorem tr_puta (hd : decode (am_by y) pc = .ok (.putfield k, 3)) (hf : am_fl (am_ow y) k = some (ci, j)) (ht : am_fty ci j = 3) (ho : am_fo y ci j = true) : am_T d y pc ls (.ref b :: .ref a :: st) S I J Q = ((am_is S a ci ∧ b ≠ 0 ∧ b < S.length) ∧ am_T d y (pc + 3) ls st (am_sr S a j b) I J Q) := by
  refine tr_me hd rfl rfl (fun h => ?_) (fun h => ?_)
  · unfold am_is at h; simp [am_me, am_pf, hf, ht, ho, h]
  · unfold am_is at h; simp only [am_ex, am_pu, am_me, am_pf, hf]; rw [if_neg (fun q => h ⟨⟨q.2.1, q.2.2.1⟩, q.2.2.2.2⟩)]; rfl
theorem tr_iast (hd : decode (am_by y) pc = .ok (.iastore, 1)) : am_T d y pc ls (.int z :: .int x :: .ref a :: st) S I J Q = (am_ixw S a 20 x ∧ am_T d y (pc + 1) ls st S (am_up I a x.toNatClampNeg z) J Q) := by
  refine tr_me hd rfl rfl (fun h => ?_) (fun h => ?_)
  · unfold am_ixw at h; simp only [am_me, am_as, if_pos h]
  · unfold am_ixw at h; simp only [am_ex, am_pu, am_me, am_as, if_neg h, am_gr, am_re, am_cv0]
theorem tr_bast (hd : decode (am_by y) pc = .ok (.bastore, 1)) : am_T d y pc ls (.int z :: .int x :: .ref a :: st) S I J Q = ((am_ixw S a 21 x ∧ (z = 0 ∨ z = 1)) ∧ am_T d y (pc + 1) ls st S (am_up I a x.toNatClampNeg z) J Q) := by
  refine tr_me hd rfl rfl (fun h => ?_) (fun h => ?_)
  · unfold am_ixw at h; simp only [am_me, am_as, if_pos h.2, if_pos h.1]
  · unfold am_ixw at h
    by_cases g : z = 0 ∨ z = 1
    · simp only [am_ex, am_pu, am_me, am_as, if_pos g]; rw [if_neg (fun q => h ⟨q, g⟩)]; rfl
    · simp only [am_ex, am_pu, am_me, if_neg g, am_gr, am_re, am_cv0]
theorem tr_cast (hd : decode (am_by y) pc = .ok (.castore, 1)) : am_T d y pc ls (.int z :: .int x :: .ref a :: st) S I J Q = ((am_ixw S a 22 x ∧ am_i2c z = z) ∧ am_T d y (pc + 1) ls st S (am_up I a x.toNatClampNeg z) J Q) := by
  refine tr_me hd rfl rfl (fun h => ?_) (fun h => ?_)
  · unfold am_ixw am_i2c at h; simp only [am_me, am_as, if_pos h.2, if_pos h.1]
  · unfold am_ixw am_i2c at h
    by_cases g : (z.toUInt32 % 65536).toInt32 = z
    · simp only [am_ex, am_pu, am_me, am_as, if_pos g]; rw [if_neg (fun q => h ⟨q, g⟩)]; rfl
    · simp only [am_ex, am_pu, am_me, if_neg g, am_gr, am_re, am_cv0]
theorem tr_last (hd : decode (am_by y) pc = .ok (.lastore, 1)) : am_T d y pc ls (.long u :: .int x :: .ref a :: st) S I J Q = (am_ixw S a 23 x ∧ am_T d y (pc + 1) ls st S I (am_up J a x.toNatClampNeg u) Q) := by
  refine tr_me hd rfl rfl (fun h => ?_) (fun h => ?_)
  · unfold am_ixw at h; simp only [am_me, if_pos h]
  · unfold am_ixw at h; simp only [am_ex, am_pu, am_me, if_neg h, am_gr, am_re, am_cv0]
theorem tr_aast (hd : decode (am_by y) pc = .ok (.aastore, 1)) : am_T d y pc ls (.ref b :: .int x :: .ref a :: st) S I J Q = ((am_kd S a = 24 ∧ a ≠ 0 ∧ (0 ≤ x.toInt ∧ x.toInt < (am_ln S a : Int)) ∧ am_kd S b = 6 ∧ b ≠ 0) ∧ am_T d y (pc + 1) ls st (am_sr S a x.toNatClampNeg b) I J Q) := by
  refine tr_me hd rfl rfl (fun h => ?_) (fun h => ?_)
  · simp only [am_me, if_pos h]
  · simp only [am_ex, am_pu, am_me, if_neg h, am_gr, am_re, am_cv0]
theorem tr_new (hd : decode (am_by y) pc = .ok (.new k, 3)) (hf : am_ck (am_ow y) k = some ci) : am_T d y pc ls st S I J Q = am_T d y (pc + 3) ls (.ref S.length :: st) (S ++ [(ci, am_nf ci, fun _ => 0)]) (am_row I S.length (fun _ => 0)) (am_row J S.length (fun _ => 0)) Q := by
  rw [tr_un hd rfl]; simp only [am_ex, am_pu, am_me, hf]; rfl
theorem tr_newa {t : ArrayType} (hd : decode (am_by y) pc = .ok (.newarray t, 2)) (ht : am_atk t < 99) : am_T d y pc ls (.int x :: st) S I J Q = ((0 ≤ x.toInt ∧ x.toInt < 10000) ∧ am_T d y (pc + 2) ls (.ref S.length :: st) (S ++ [(am_atk t, x.toNatClampNeg, fun _ => 0)]) (am_row I S.length (fun _ => 0)) (am_row J S.length (fun _ => 0)) Q) := by
  refine tr_me hd rfl rfl (fun h => ?_) (fun h => ?_)
  · simp only [am_me, if_pos (And.intro ht h)]; rfl
  · simp only [am_ex, am_pu, am_me, if_neg (fun q : _ ∧ _ => h q.2), am_gr, am_re, am_cv0]
theorem tr_newq (hd : decode (am_by y) pc = .ok (.anewarray k, 3)) (hf : am_ck (am_ow y) k = some 6) : am_T d y pc ls (.int x :: st) S I J Q = ((0 ≤ x.toInt ∧ x.toInt < 10000) ∧ am_T d y (pc + 3) ls (.ref S.length :: st) (S ++ [(24, x.toNatClampNeg, fun _ => 0)]) (am_row I S.length (fun _ => 0)) (am_row J S.length (fun _ => 0)) Q) := by
  refine tr_me hd rfl rfl (fun h => ?_) (fun h => ?_)
  · simp only [am_me, if_pos (And.intro hf h)]; rfl
  · simp only [am_ex, am_pu, am_me, if_neg (fun q : _ ∧ _ => h q.2), am_gr, am_re, am_cv0]
theorem tr_grid (hd : decode (am_by y) pc = .ok (.multianewarray 9 2, 4)) (hw : am_ow y = 7) : am_T d y pc ls (.int z :: .int x :: st) S I J Q = (((0 ≤ x.toInt ∧ x.toInt < 100) ∧ 0 ≤ z.toInt ∧ z.toInt < 100) ∧ am_T d y (pc + 4) ls (.ref S.length :: st) (am_grow S x.toNatClampNeg z.toNatClampNeg) (am_clean I S.length 0) (am_clean J S.length 0) Q) := by
  by_cases g : (0 ≤ x.toInt ∧ x.toInt < 100) ∧ 0 ≤ z.toInt ∧ z.toInt < 100
  · have e : am_gr (am_ow y) ls (.int z :: .int x :: st) S I J (.multianewarray 9 2) = some (ls, .ref S.length :: st, am_grow S x.toNatClampNeg z.toNatClampNeg, am_clean I S.length 0, am_clean J S.length 0) := by
      simp [am_gr, hw, g]
    rw [tr_un hd rfl]; simp only [am_ex, am_pu, am_me, e]; simp [g, am_go]
  · have e : am_gr (am_ow y) ls (.int z :: .int x :: st) S I J (.multianewarray 9 2) = none := by
      simp only [am_gr]; rw [if_neg (fun q => g q.2.2.2)]
    rw [tr_un hd rfl]; simp only [am_ex, am_pu, am_me, e, am_re, am_cv0]; simp [g, am_go]
/-- copying within rows -/
def am_cpy (S : am_S) (a b : Nat) (sp dp m : Int32) : Prop := am_kd S a = 20 ∧ am_kd S b = 20 ∧ a ≠ 0 ∧ b ≠ 0 ∧ (0 ≤ m.toInt ∧ 0 ≤ dp.toInt ∧ 0 ≤ sp.toInt) ∧ sp.toInt + m.toInt ≤ (am_ln S b : Int) ∧ dp.toInt + m.toInt ≤ (am_ln S a : Int)
theorem tr_copy {sp dp m : Int32} (hd : decode (am_by y) pc = .ok (.invokestatic k, 3)) (hv : am_iv (am_ow y) k = some (7, 0)) (hc : am_ct st ≤ 8) : am_T d y pc ls (.int m :: .int dp :: .ref a :: .int sp :: .ref b :: st) S I J Q = (am_cpy S a b sp dp m ∧ am_T d y (pc + 3) ls st S (am_row I a (va_cpy (I b) (I a) sp.toNatClampNeg dp.toNatClampNeg m.toNatClampNeg)) J Q) := by
  have hp : am_pu (am_ow y) pc ls (.int m :: .int dp :: .ref a :: .int sp :: .ref b :: st) S I J (.invokestatic k) = none := by
    simp only [am_pu]; rw [if_neg (fun q => by rw [hv] at q; exact absurd q.1 (by simp))]
  refine tr_me hd rfl hp (fun h => ?_) (fun h => ?_)
  · obtain ⟨h1, h2, h3, h4, h5, h6, h7⟩ := h
    simp only [am_me]; rw [if_pos ⟨hv, h1, h2, h3, h4, h5, h6, h7, hc⟩]
  · have hm : am_me y (am_ow y) ls (.int m :: .int dp :: .ref a :: .int sp :: .ref b :: st) S I J (.invokestatic k) = none := by
      simp only [am_me]; rw [if_neg (fun q => h ⟨q.2.1, q.2.2.1, q.2.2.2.1, q.2.2.2.2.1, q.2.2.2.2.2.1, q.2.2.2.2.2.2.1, q.2.2.2.2.2.2.2.1⟩)]
    simp only [am_ex, hp, hm, am_gr, am_re, am_cv0, hv]
-- returns
theorem tr_re {i : Instr} {r : Option Value} (hd : decode (am_by y) pc = .ok (i, n)) (hn : (am_isw i || n == am_iln i) = true) (h : am_ex y pc n ls st S I J i = some (.inr (.inl r))) : am_T d y pc ls st S I J Q = Q r S I J := by rw [tr_un hd hn, h]; rfl
theorem tr_ireti (hd : decode (am_by y) pc = .ok (.ireturn, 1)) (hr : am_rt y = some .int) : am_T d y pc ls [.int x] S I J Q = Q (some (.int x)) S I J := tr_re hd rfl (by simp only [am_ex, am_pu, am_me, am_gr, am_re, hr])
theorem tr_iretz (hd : decode (am_by y) pc = .ok (.ireturn, 1)) (hr : am_rt y = some .boolean) : am_T d y pc ls [.int x] S I J Q = ((x = 0 ∨ x = 1) ∧ Q (some (.int x)) S I J) := by
  by_cases g : x = 0 ∨ x = 1
  · rw [tr_re (r := some (.int x)) hd rfl (by simp only [am_ex, am_pu, am_me, am_gr, am_re, hr, if_pos g])]; simp [g]
  · rw [tr_un hd rfl]; simp only [am_ex, am_pu, am_me, am_gr, am_re, hr, if_neg g, am_cv0]; simp [g, am_go]
theorem tr_lret (hd : decode (am_by y) pc = .ok (.lreturn, 1)) (hr : am_rt y = some .long) : am_T d y pc ls [.long u] S I J Q = Q (some (.long u)) S I J := tr_re hd rfl (by simp only [am_ex, am_pu, am_me, am_gr, am_re, hr])
theorem tr_vret (hd : decode (am_by y) pc = .ok (.return_, 1)) (hr : am_rt y = none) : am_T d y pc ls [] S I J Q = Q none S I J := tr_re hd rfl (by simp only [am_ex, am_pu, am_me, am_gr, am_re, hr])
-- calls
theorem tr_call {i : Instr} {y1 : Nat} {as st' : List Value} (hd : decode (am_by y) pc = .ok (i, n)) (hn : (am_isw i || n == am_iln i) = true) (h1 : am_pu (am_ow y) pc ls st S I J i = none) (h2 : am_me y (am_ow y) ls st S I J i = none) (h3 : am_gr (am_ow y) ls st S I J i = none) (h4 : am_re y st i = none) (h5 : am_cv0 (am_ow y) st S i = some (y1, as, st')) : am_T d y pc ls st S I J Q = am_C d y1 as S I J (fun r S1 I1 J1 => am_T d y (pc + n) ls (am_psh r st') S1 I1 J1 Q) := by
  rw [tr_un hd hn]; unfold am_ex; rw [h1, h2, h3, h4, h5]; rfl
theorem tr_virt {y1 : Nat} {as st' : List Value} (hd : decode (am_by y) pc = .ok (.invokevirtual k, 3)) (hv : am_iv (am_ow y) k = some (0, y1)) (hdr : st.drop (am_np y1) = .ref a :: st') (has : (st.take (am_np y1)).reverse = as) (hc : am_ct st' ≤ 8) (ho : am_ow y1 = ci) : am_T d y pc ls st S I J Q = (am_is S a ci ∧ am_C d y1 (.ref a :: as) S I J (fun r S1 I1 J1 => am_T d y (pc + 3) ls (am_psh r st') S1 I1 J1 Q)) := by
  subst ho
  by_cases g : am_is S a (am_ow y1)
  · rw [tr_call hd rfl rfl rfl rfl rfl (by unfold am_is at g; simp only [am_cv0, hv, hdr]; rw [if_pos ⟨g.1, g.2, hc⟩, has])]; simp [g]
  · have : am_cv0 (am_ow y) st S (.invokevirtual k) = none := by unfold am_is at g; simp only [am_cv0, hv, hdr]; rw [if_neg (fun q => g ⟨q.1, q.2.1⟩)]
    rw [tr_un hd rfl]; simp only [am_ex, am_pu, am_me, am_gr, am_re, this]; simp [g, am_go]
theorem tr_pu_no (hv : am_iv (am_ow y) k = some (b, j)) (hb : b ≠ 6 ∧ b ≠ 7) : am_pu (am_ow y) pc ls st S I J (.invokestatic k) = none ∧ am_me y (am_ow y) ls st S I J (.invokestatic k) = none := by
  constructor
  · simp only [am_pu]
    split
    · rw [if_neg (fun q => by rw [hv] at q; exact hb.1 (congrArg Prod.fst (Option.some.inj q.1)))]
    · rfl
  · simp only [am_me]
    split
    · rw [if_neg (fun q => by rw [hv] at q; exact hb.2 (congrArg Prod.fst (Option.some.inj q.1)))]
    · rfl
theorem tr_stat {y1 : Nat} {as st' : List Value} (hd : decode (am_by y) pc = .ok (.invokestatic k, 3)) (hv : am_iv (am_ow y) k = some (1, y1) ∨ am_iv (am_ow y) k = some (4, y1)) (hl : am_np y1 ≤ st.length) (hdr : st.drop (am_np y1) = st') (has : (st.take (am_np y1)).reverse = as) (hc : am_ct st' ≤ 8) : am_T d y pc ls st S I J Q = am_C d y1 as S I J (fun r S1 I1 J1 => am_T d y (pc + 3) ls (am_psh r st') S1 I1 J1 Q) := by
  subst hdr; subst has
  rcases hv with hv | hv
  · exact tr_call hd rfl (tr_pu_no hv (by decide)).1 (tr_pu_no (pc := pc) hv (by decide)).2 rfl rfl (by simp only [am_cv0, hv]; rw [if_pos ⟨hl, hc⟩])
  · exact tr_call hd rfl (tr_pu_no hv (by decide)).1 (tr_pu_no (pc := pc) hv (by decide)).2 rfl rfl (by simp only [am_cv0, hv]; rw [if_pos ⟨hl, hc⟩])
theorem tr_spec {y1 : Nat} {as st' : List Value} (hd : decode (am_by y) pc = .ok (.invokespecial k, 3)) (hv : am_iv (am_ow y) k = some (2, y1) ∨ am_iv (am_ow y) k = some (3, y1)) (hdr : st.drop (am_np y1) = .ref a :: st') (has : (st.take (am_np y1)).reverse = as) (hc : am_ct st' ≤ 8) : am_T d y pc ls st S I J Q = am_C d y1 (.ref a :: as) S I J (fun r S1 I1 J1 => am_T d y (pc + 3) ls (am_psh r st') S1 I1 J1 Q) := by
  have hno : am_pu (am_ow y) pc ls st S I J (.invokespecial k) = none := by
    simp only [am_pu]
    split
    · rw [if_neg (fun q => by rcases hv with hv | hv <;> (rw [hv] at q; exact absurd q.1 (by simp)))]
    · rfl
  subst has
  rcases hv with hv | hv
  · exact tr_call hd rfl hno rfl rfl rfl (by simp only [am_cv0, hv, hdr]; rw [if_pos hc])
  · exact tr_call hd rfl hno rfl rfl rfl (by simp only [am_cv0, hv, hdr]; rw [if_pos hc])
theorem tr_en {as : List Value} {ls' : am_L} (h : (am_sl as).length ≤ am_ml y) (he : am_en (am_ml y) as = ls') : am_C (d + 1) y as S I J Q = am_T d y 0 ls' [] S I J Q := by
  subst he; exact am_C_un d y as S I J Q h
end TR
