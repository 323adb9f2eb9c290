/-! sets as bits; what enters them; reduced costs -/
def bit (s : Int32) (v : Nat) : Int32 := (s >>> (nI v &&& 31)) &&& 1
theorem bit01 (s : Int32) (v : Nat) : bit s v = 0 ∨ bit s v = 1 := by
  unfold bit
  generalize s >>> (nI v &&& 31) = x
  have h : (x &&& 1).toBitVec = 0#32 ∨ (x &&& 1).toBitVec = 1#32 := by
    show x.toBitVec &&& 1#32 = 0#32 ∨ x.toBitVec &&& 1#32 = 1#32
    generalize x.toBitVec = y
    by_cases g : y.getLsbD 0 = true
    · right
      apply BitVec.eq_of_getLsbD_eq
      intro i hi
      rw [BitVec.getLsbD_and]
      by_cases e : i = 0
      · subst e; rw [g]; decide
      · have : (1#32).getLsbD i = false := by
          rw [BitVec.getLsbD_one]; simp [e]
        rw [this, Bool.and_false]
    · left
      apply BitVec.eq_of_getLsbD_eq
      intro i hi
      rw [BitVec.getLsbD_and]
      by_cases e : i = 0
      · subst e
        have g : y.getLsbD 0 = false := Bool.eq_false_iff.mpr g
        rw [g]; decide
      · have : (1#32).getLsbD i = false := by
          rw [BitVec.getLsbD_one]; simp [e]
        rw [this, Bool.and_false]; simp
  rcases h with h | h
  · left; exact Int32.toBitVec_inj.mp h
  · right; exact Int32.toBitVec_inj.mp h
abbrev ent (s : Int32) (t h : Nat) : Prop := bit s h = 1 ∧ bit s t = 0
def b32 (p : Prop) [Decidable p] : Int32 := if p then 1 else 0
theorem b32_T {p : Prop} [Decidable p] (h : p) : b32 p = 1 := if_pos h
theorem b32_F {p : Prop} [Decidable p] (h : ¬ p) : b32 p = 0 := if_neg h
theorem b32_01 (p : Prop) [Decidable p] : b32 p = 0 ∨ b32 p = 1 := by unfold b32; by_cases h : p <;> simp [h]
/-- a cost, less the duals of the groups that are entered -/
def redN (c : Int32) (set dual : Nat → Int32) (t h : Nat) : Nat → Int32
  | 0 => c
  | k + 1 => if ent (set k) t h then redN c set dual t h k - dual k else redN c set dual t h k
theorem redN_s (c : Int32) (set dual : Nat → Int32) (t h k : Nat) : redN c set dual t h (k + 1) = if ent (set k) t h then redN c set dual t h k - dual k else redN c set dual t h k := rfl
theorem redN_congr {c : Int32} {set dual set' dual' : Nat → Int32} {t h : Nat} : ∀ k, (∀ g, g < k → set g = set' g ∧ dual g = dual' g) → redN c set dual t h k = redN c set' dual' t h k := by
  intro k
  induction k with
  | zero => intro _; rfl
  | succ k ih =>
    intro hk
    unfold redN
    rw [ih (fun g hg => hk g (by omega)), (hk k (by omega)).1, (hk k (by omega)).2]
section RD
variable {d L : Nat} {I I' : am_I} {J J' : am_J} {Q : am_Q}
theorem c_bit (s : Int32) (v : Nat) (S : am_S) : am_C (d + 1) 109 [.int s, .int (nI v)] S I J Q = Q (some (.int (b32 (bit s v = 1)))) S I J := by
  rw [e109]
  simp only [r109_0, r109_1, r109_2, r109_3, r109_4, r109_5, r109_8, r109_9, r109_12, r109_13, true_and, and_true, true_or, or_true, if_true, if_false, ne_eq, not_false_eq_true, and_self, t10, am_psh, am_clr, not_true_eq_false, Nat.reduceEqDiff]
  rcases bit01 s v with h | h
  · rw [if_pos (show s >>> (nI v &&& 31) &&& 1 = 0 from h), b32_F (by rw [h]; decide)]
  · rw [if_neg (show ¬ s >>> (nI v &&& 31) &&& 1 = 0 from fun q => absurd (h.symm.trans q) (by decide)), b32_T h]
theorem c_enters {g a t h : Nat} {s : Int32} (hg : shG L g) (ha : a < 32) (h1 : I (g + 1) a = nI t) (h2 : I (g + 2) a = nI h) : am_C (d + 2) 18 [.ref g, .int (nI a), .int s] (cS L) I J Q = Q (some (.int (b32 (ent s t h)))) (cS L) I J := by
  obtain ⟨a1, ⟨a2, a3, a4, a5⟩, ⟨a6, a7, a8, a9⟩, ⟨a10, a11, a12, a13⟩⟩ := hg
  rw [e18]
  have x1 : am_ix (cS L) (g + 1) 20 (nI a) := ix_nI a6 a10 ha (by omega)
  have x2 : am_ix (cS L) (g + 2) 20 (nI a) := ix_nI a7 a11 ha (by omega)
  simp only [r18_0, r18_1, r18_2, r18_5, r18_6, r18_7, r18_10, r18_13, r18_14, r18_15, r18_18, r18_19, r18_20, r18_23, r18_26, r18_27, r18_30, r18_31, a1, a2, a3, x1, x2, n_cl (show a < 2 ^ 31 by omega), h1, h2, c_bit, true_and, and_true, true_or, or_true, if_true, if_false, ne_eq, not_false_eq_true, and_self, t10, am_psh, am_clr, not_true_eq_false, Nat.reduceEqDiff, Nat.add_eq_zero_iff, and_false]
  rcases bit01 s h with q | q
  · rw [b32_F (p := bit s h = 1) (by rw [q]; decide), b32_F (p := ent s t h) (fun z => absurd (q.symm.trans z.1) (by decide))]
    simp only [if_true, t01, true_and]
  · rcases bit01 s t with q2 | q2
    · rw [b32_T (p := bit s h = 1) q, b32_T (p := ent s t h) ⟨q, q2⟩, b32_F (p := bit s t = 1) (by rw [q2]; decide)]
      simp only [if_true, if_false, t10, t11, true_and, not_true_eq_false, not_false_eq_true]
    · rw [b32_T (p := bit s h = 1) q, b32_F (p := ent s t h) (fun z => absurd (q2.symm.trans z.2) (by decide)), b32_T (p := bit s t = 1) q2]
      simp only [if_true, if_false, t10, t01, true_and, not_true_eq_false, not_false_eq_true]
theorem c_isEnt {t h : Nat} {s : Int32} (S : am_S) : am_C (d + 1) 141 [.int s, .int (nI t), .int (nI h)] S I J Q = Q (some (.int (b32 (ent s t h)))) S I J := by
  rw [e141]
  simp only [r141_0, r141_1, r141_2, r141_3, r141_4, r141_5, r141_6, r141_9, r141_10, r141_11, r141_12, r141_13, r141_14, r141_17, r141_18, r141_21, r141_22, true_and, and_true, true_or, or_true, if_true, if_false, ne_eq, not_false_eq_true, and_self, t10, am_psh, am_clr, not_true_eq_false, Nat.reduceEqDiff]
  rcases bit01 s h with q | q
  · rw [b32_F (p := ent s t h) (fun z => absurd (q.symm.trans z.1) (by decide)), show s >>> (nI h &&& 31) &&& 1 = 0 from q, if_neg (by decide)]
  · rw [show s >>> (nI h &&& 31) &&& 1 = 1 from q, if_pos rfl]
    rcases bit01 s t with q2 | q2
    · rw [b32_T (p := ent s t h) ⟨q, q2⟩, show s >>> (nI t &&& 31) &&& 1 = 0 from q2, if_pos rfl]
    · rw [b32_F (p := ent s t h) (fun z => absurd (q2.symm.trans z.2) (by decide)), show s >>> (nI t &&& 31) &&& 1 = 1 from q2, if_neg (by decide)]
theorem redOf_loop {g q a t h k : Nat} (hg : shG L g) (hq : shR L q) (ha : a < 32) (h1 : I (g + 1) a = nI t) (h2 : I (g + 2) a = nI h) (hk : k ≤ 15) (hc : I q 1 = nI k) (c : Int32) :
    ∀ (n j : Nat), j + n = k → am_T (d + 2) 33 10 [some (.ref q), some (.ref g), some (.int (nI a)), some (.int (redN c (I (q + 1)) (I (q + 2)) t h j)), some (.int (nI j))] [] (cS L) I J Q = Q (some (.int (redN c (I (q + 1)) (I (q + 2)) t h k))) (cS L) I J := by
  obtain ⟨a1, ⟨a2, a3, a4, a5⟩, ⟨a6, a7, a8, a9⟩, ⟨a10, a11, a12, a13⟩⟩ := hq
  intro n
  induction n with
  | zero =>
    intro j hj
    have hj : j = k := by omega
    subst hj
    rw [r33_10]
    simp only [r33_12, r33_13, r33_16, r33_19, r33_50, r33_51, a1, true_and, hc]
    rw [if_pos (Int32.le_refl _)]
  | succ n ih =>
    intro j hj
    rw [r33_10]
    have x1 : am_ix (cS L) (q + 1) 20 (nI j) := ix_nI a6 a10 (by omega) (by omega)
    have x2 : am_ix (cS L) (q + 2) 20 (nI j) := ix_nI a7 a11 (by omega) (by omega)
    simp only [r33_12, r33_13, r33_16, r33_19, r33_20, r33_21, r33_22, r33_25, r33_27, r33_28, a1, a2, a3, true_and, hc, x1, x2, n_cl (show j < 2 ^ 31 by omega), hg.1, c_enters hg ha h1 h2, Nat.add_eq_zero_iff, and_false, true_and, and_true, true_or, or_true, if_true, if_false, ne_eq, not_false_eq_true, and_self, t10, am_psh, am_clr, not_true_eq_false, Nat.reduceEqDiff]
    rw [if_neg (nI_ge (show j < k by omega) (by omega))]
    have ih := ih (j + 1) (by omega)
    rw [redN_s] at ih
    by_cases e : ent (I (q + 1) j) t h
    · rw [if_pos e] at ih
      simp only [r33_31, r33_34, r33_35, r33_36, r33_39, r33_41, r33_42, r33_43, r33_44, r33_47, b32_T e, am_psh, t10, if_false, a1, a3, true_and, x2, n_cl (show j < 2 ^ 31 by omega), am_clr, nI_1, Nat.add_eq_zero_iff, and_false, true_and, and_true, true_or, or_true, if_true, if_false, ne_eq, not_false_eq_true, and_self, t10, am_psh, am_clr, not_true_eq_false, Nat.reduceEqDiff]
      exact ih
    · rw [if_neg e] at ih
      simp only [r33_31, r33_34, r33_35, r33_36, r33_39, r33_41, r33_42, r33_43, r33_44, r33_47, b32_F e, am_psh, if_true, am_clr, nI_1]
      exact ih
theorem c_redOf {g q a t h k : Nat} (hg : shG L g) (hq : shR L q) (ha : a < 32) (h1 : I (g + 1) a = nI t) (h2 : I (g + 2) a = nI h) (hk : k ≤ 15) (hc : I q 1 = nI k) : am_C (d + 3) 33 [.ref q, .ref g, .int (nI a)] (cS L) I J Q = Q (some (.int (redN (I (g + 3) a) (I (q + 1)) (I (q + 2)) t h k))) (cS L) I J := by
  have hg0 := hg
  obtain ⟨a1, ⟨a2, a3, a4, a5⟩, ⟨a6, a7, a8, a9⟩, ⟨a10, a11, a12, a13⟩⟩ := hg0
  rw [e33]
  have x1 : am_ix (cS L) (g + 3) 20 (nI a) := ix_nI a8 a12 ha (by omega)
  simp only [r33_0, r33_1, r33_4, r33_5, r33_6, r33_7, r33_8, a1, a4, x1, n_cl (show a < 2 ^ 31 by omega), am_clr, true_and, Nat.add_eq_zero_iff, and_false, true_and, and_true, true_or, or_true, if_true, if_false, ne_eq, not_false_eq_true, and_self, t10, am_psh, am_clr, not_true_eq_false, Nat.reduceEqDiff]
  exact redOf_loop hg hq ha h1 h2 hk hc (I (g + 3) a) k 0 (by omega)
theorem i_sub0 (x : Int32) : x - 0 = x := Int32.sub_zero x
theorem mred_loop {a t h k : Nat} (ha : a < 32) (h1 : I 162 (3 + a) = nI t) (h2 : I 162 (35 + a) = nI h) (hk : k ≤ 15) (hc : I 162 108 = nI k) (c : Int32) :
    ∀ (n j : Nat), j + n = k → am_T (d + 1) 153 12 [some (.ref 161), some (.int (nI a)), some (.int (redN c (shf (I 162) 109) (shf (I 162) 125) t h j)), some (.int (nI j))] [] (cS L) I J Q = Q (some (.int (redN c (shf (I 162) 109) (shf (I 162) 125) t h k))) (cS L) I J := by
  have y108 : am_ix (cS L) 162 20 108 := mx 108 (by omega)
  intro n
  induction n with
  | zero =>
    intro j hj
    have hj : j = k := by omega
    subst hj
    rw [r153_12]
    simp only [r153_13, r153_14, r153_17, r153_19, r153_20, r153_77, r153_78, s_1, s_2, s_3, s_8, s_16, s_18, s_23, s_24, s_33, s_38, s_41, s_161, f_1_0, f_1_1, f_1_4, f_1_5, f_1_8, f_1_9, f_1_10, f_1_11, f_1_12, f_1_13, f_2_0, f_2_1, f_3_3, f_3_4, f_3_5, f_3_6, f_8_2, f_8_3, f_8_4, f_8_5, f_16_2, f_18_3, f_18_4, f_18_5, f_18_6, f_23_0, f_23_1, f_23_2, f_23_3, f_23_4, f_24_2, f_24_3, f_24_4, f_24_5, f_33_3, f_33_4, f_33_5, f_33_6, f_38_1, f_38_2, f_41_0, f_161_0, f_161_1, f_161_3, f_161_7, f_161_12, f_161_13, f_161_14, f_161_15, f_161_16, f_161_17, f_161_18, f_161_19, f_161_21, f_161_22, f_161_25, true_and, and_true, true_or, or_true, if_true, if_false, ne_eq, not_false_eq_true, and_self, t10, am_psh, am_clr, not_true_eq_false, Nat.reduceEqDiff, y108, show (108 : Int32).toNatClampNeg = 108 from by decide, hc]
    rw [if_pos (Int32.le_refl _)]
  | succ n ih =>
    intro j hj
    rw [r153_12]
    simp only [r153_13, r153_14, r153_17, r153_19, r153_20, r153_23, r153_24, r153_25, r153_28, r153_30, r153_31, r153_32, r153_33, r153_34, r153_37, r153_38, r153_39, r153_40, r153_41, r153_42, r153_45, r153_47, r153_48, r153_49, r153_50, s_1, s_2, s_3, s_8, s_16, s_18, s_23, s_24, s_33, s_38, s_41, s_161, f_1_0, f_1_1, f_1_4, f_1_5, f_1_8, f_1_9, f_1_10, f_1_11, f_1_12, f_1_13, f_2_0, f_2_1, f_3_3, f_3_4, f_3_5, f_3_6, f_8_2, f_8_3, f_8_4, f_8_5, f_16_2, f_18_3, f_18_4, f_18_5, f_18_6, f_23_0, f_23_1, f_23_2, f_23_3, f_23_4, f_24_2, f_24_3, f_24_4, f_24_5, f_33_3, f_33_4, f_33_5, f_33_6, f_38_1, f_38_2, f_41_0, f_161_0, f_161_1, f_161_3, f_161_7, f_161_12, f_161_13, f_161_14, f_161_15, f_161_16, f_161_17, f_161_18, f_161_19, f_161_21, f_161_22, f_161_25, true_and, and_true, true_or, or_true, if_true, if_false, ne_eq, not_false_eq_true, and_self, t10, am_psh, am_clr, not_true_eq_false, Nat.reduceEqDiff, y108, show (108 : Int32).toNatClampNeg = 108 from by decide, hc, show (109 : Int32) + nI j = nI (109 + j) from nI_add 109 j, show (3 : Int32) + nI a = nI (3 + a) from nI_add 3 a, show (35 : Int32) + nI a = nI (35 + a) from nI_add 35 a, mx (L := L) (109 + j) (by omega), mx (L := L) (3 + a) (by omega), mx (L := L) (35 + a) (by omega), n_cl (show 109 + j < 2 ^ 31 by omega), n_cl (show 3 + a < 2 ^ 31 by omega), n_cl (show 35 + a < 2 ^ 31 by omega), h1, h2, c_isEnt]
    rw [if_neg (nI_ge (show j < k by omega) (by omega))]
    have ih := ih (j + 1) (by omega)
    rw [redN_s] at ih
    by_cases e : ent (I 162 (109 + j)) t h
    · rw [if_pos (show ent (shf (I 162) 109 j) t h from e)] at ih
      simp only [r153_53, r153_56, r153_57, r153_60, r153_62, r153_63, r153_64, r153_65, r153_68, r153_69, r153_70, r153_71, r153_74, s_1, s_2, s_3, s_8, s_16, s_18, s_23, s_24, s_33, s_38, s_41, s_161, f_1_0, f_1_1, f_1_4, f_1_5, f_1_8, f_1_9, f_1_10, f_1_11, f_1_12, f_1_13, f_2_0, f_2_1, f_3_3, f_3_4, f_3_5, f_3_6, f_8_2, f_8_3, f_8_4, f_8_5, f_16_2, f_18_3, f_18_4, f_18_5, f_18_6, f_23_0, f_23_1, f_23_2, f_23_3, f_23_4, f_24_2, f_24_3, f_24_4, f_24_5, f_33_3, f_33_4, f_33_5, f_33_6, f_38_1, f_38_2, f_41_0, f_161_0, f_161_1, f_161_3, f_161_7, f_161_12, f_161_13, f_161_14, f_161_15, f_161_16, f_161_17, f_161_18, f_161_19, f_161_21, f_161_22, f_161_25, true_and, and_true, true_or, or_true, if_true, if_false, ne_eq, not_false_eq_true, and_self, t10, am_psh, am_clr, not_true_eq_false, Nat.reduceEqDiff, b32_T e, show (125 : Int32) + nI j = nI (125 + j) from nI_add 125 j, mx (L := L) (125 + j) (by omega), n_cl (show 125 + j < 2 ^ 31 by omega), nI_1]
      exact ih
    · rw [if_neg (show ¬ ent (shf (I 162) 109 j) t h from e)] at ih
      simp only [r153_53, r153_56, r153_57, r153_60, r153_62, r153_63, r153_64, r153_65, r153_68, r153_69, r153_70, r153_71, r153_74, s_1, s_2, s_3, s_8, s_16, s_18, s_23, s_24, s_33, s_38, s_41, s_161, f_1_0, f_1_1, f_1_4, f_1_5, f_1_8, f_1_9, f_1_10, f_1_11, f_1_12, f_1_13, f_2_0, f_2_1, f_3_3, f_3_4, f_3_5, f_3_6, f_8_2, f_8_3, f_8_4, f_8_5, f_16_2, f_18_3, f_18_4, f_18_5, f_18_6, f_23_0, f_23_1, f_23_2, f_23_3, f_23_4, f_24_2, f_24_3, f_24_4, f_24_5, f_33_3, f_33_4, f_33_5, f_33_6, f_38_1, f_38_2, f_41_0, f_161_0, f_161_1, f_161_3, f_161_7, f_161_12, f_161_13, f_161_14, f_161_15, f_161_16, f_161_17, f_161_18, f_161_19, f_161_21, f_161_22, f_161_25, true_and, and_true, true_or, or_true, if_true, if_false, ne_eq, not_false_eq_true, and_self, t10, am_psh, am_clr, not_true_eq_false, Nat.reduceEqDiff, b32_F e, nI_1, i_sub0]
      exact ih
theorem c_mred {a t h k : Nat} (ha : a < 32) (h1 : I 162 (3 + a) = nI t) (h2 : I 162 (35 + a) = nI h) (hk : k ≤ 15) (hc : I 162 108 = nI k) : am_C (d + 2) 153 [.ref 161, .int (nI a)] (cS L) I J Q = Q (some (.int (redN (I 162 (67 + a)) (shf (I 162) 109) (shf (I 162) 125) t h k))) (cS L) I J := by
  rw [e153]
  simp only [r153_0, r153_1, r153_4, r153_6, r153_7, r153_8, r153_9, r153_10, r153_11, s_1, s_2, s_3, s_8, s_16, s_18, s_23, s_24, s_33, s_38, s_41, s_161, f_1_0, f_1_1, f_1_4, f_1_5, f_1_8, f_1_9, f_1_10, f_1_11, f_1_12, f_1_13, f_2_0, f_2_1, f_3_3, f_3_4, f_3_5, f_3_6, f_8_2, f_8_3, f_8_4, f_8_5, f_16_2, f_18_3, f_18_4, f_18_5, f_18_6, f_23_0, f_23_1, f_23_2, f_23_3, f_23_4, f_24_2, f_24_3, f_24_4, f_24_5, f_33_3, f_33_4, f_33_5, f_33_6, f_38_1, f_38_2, f_41_0, f_161_0, f_161_1, f_161_3, f_161_7, f_161_12, f_161_13, f_161_14, f_161_15, f_161_16, f_161_17, f_161_18, f_161_19, f_161_21, f_161_22, f_161_25, true_and, and_true, true_or, or_true, if_true, if_false, ne_eq, not_false_eq_true, and_self, t10, am_psh, am_clr, not_true_eq_false, Nat.reduceEqDiff, show (67 : Int32) + nI a = nI (67 + a) from nI_add 67 a, mx (L := L) (67 + a) (by omega), n_cl (show 67 + a < 2 ^ 31 by omega)]
  exact mred_loop ha h1 h2 hk hc (I 162 (67 + a)) k 0 (by omega)
/-- the class' record, behind a change: gone with 0, counted with 1 -/
theorem c_settle {z : Int32} (hz : z = 0 ∨ z = 1) (h : I 8 0 = 0 ∨ I 8 0 = 1) : ∃ I', (∀ Q, am_C (d + 1) 98 [.ref 1, .int z] (cS L) I J Q = Q none (cS L) I' J) ∧ (∀ b, b ≠ 1 → b ≠ 8 → I' b = I b) ∧ (∀ j, j ≠ 7 → I' 1 j = I 1 j) ∧ (∀ j, j ≠ 0 → I' 8 j = I 8 j) ∧ (I' 1 7 = if z = 0 then I 1 7 else I 1 7 + I 8 0) ∧ I' 8 0 = if z = 0 then 0 else I 8 0 := by
  rcases hz with rfl | rfl
  · obtain ⟨I', h1, h2, h3, h4⟩ := c_settle_F (d := d) (L := L) (J := J) h
    exact ⟨I', h1, fun b _ b2 => h3 b b2, fun j _ => by rw [h3 1 (by omega)], h4, by rw [h3 1 (by omega), if_pos rfl], by rw [if_pos rfl]; exact h2⟩
  · obtain ⟨I', h1, h2, h3, h4⟩ := c_settle_T (d := d) (L := L) (J := J) h
    exact ⟨I', h1, fun b b1 _ => h2 b b1, h3, fun j _ => by rw [h2 8 (by omega)], by rw [if_neg (by decide)]; exact h4, by rw [if_neg (by decide), h2 8 (by omega)]⟩
theorem c_judge {z : Int32} (hz : z = 0 ∨ z = 1) (h : I 162 107 = 0 ∨ I 162 107 = 1) : ∃ I', (∀ Q, am_C (d + 1) 117 [.ref 161, .int z] (cS L) I J Q = Q none (cS L) I' J) ∧ (∀ b, b ≠ 161 → b ≠ 162 → I' b = I b) ∧ (∀ j, j ≠ 6 → I' 161 j = I 161 j) ∧ (∀ j, j ≠ 107 → I' 162 j = I 162 j) ∧ (I' 161 6 = if z = 0 then I 161 6 else I 161 6 + I 162 107) ∧ I' 162 107 = if z = 0 then 0 else I 162 107 := by
  rcases hz with rfl | rfl
  · obtain ⟨I', h1, h2, h3, h4⟩ := c_judge_F (d := d) (L := L) (J := J) h
    exact ⟨I', h1, fun b _ b2 => h2 b b2, fun j _ => by rw [h2 161 (by omega)], h3, by rw [h2 161 (by omega), if_pos rfl], by rw [if_pos rfl]; exact h4⟩
  · obtain ⟨I', h1, h2, h3, h4⟩ := c_judge_T (d := d) (L := L) (J := J) h
    exact ⟨I', h1, fun b b1 _ => h2 b b1, h3, fun j _ => by rw [h2 162 (by omega)], by rw [if_neg (by decide)]; exact h4, by rw [if_neg (by decide), h2 162 (by omega)]⟩
end RD
