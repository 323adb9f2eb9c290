/-! save, restore, arc -/
section SV
variable {d L : Nat} {I I' : am_I} {J J' : am_J} {Q : am_Q}
theorem slx (k : Nat) (hk : k < 330) : am_ix (cS L) 164 20 (nI k) := ix_nI (k_164 L) (n_164 L) hk (by omega)
theorem slw (k : Nat) (hk : k < 330) : am_ixw (cS L) 164 20 (nI k) := ixw_nI (k_164 L) (by omega) (n_164 L) hk (by omega)
/-- a row, k places from o on taken over -/
def tko (w u : Nat → Int32) (o k : Nat) : Nat → Int32 := fun j => if o ≤ j ∧ j < o + k then u (j - o) else w j
theorem tko_0 (w u : Nat → Int32) (o : Nat) : tko w u o 0 = w := by funext j; unfold tko; rw [if_neg (by omega)]
theorem tko_s (w u : Nat → Int32) (o k : Nat) : (fun j => if j = o + k then u k else tko w u o k j) = tko w u o (k + 1) := by
  funext j
  unfold tko
  by_cases e : j = o + k
  · subst e; rw [if_pos rfl, if_pos (by omega), show o + k - o = k by omega]
  · by_cases g : o ≤ j ∧ j < o + k
    · rw [if_neg e, if_pos g, if_pos (by omega)]
    · rw [if_neg e, if_neg g, if_neg (by omega)]
theorem ms_1 {c : Nat} (hc : c < 2) : ∀ (n k : Nat), k + n = 165 → am_T d 183 14 [some (.ref 161), some (.int (nI c)), some (.int (nI k))] [] (cS L) (am_row I 164 (tko (I 164) (I 162) (165 * c) k)) J Q = am_T d 183 45 [some (.ref 161), some (.int (nI c)), some (.int (nI 165))] [] (cS L) (am_row I 164 (tko (I 164) (I 162) (165 * c) 165)) J Q := by
  intro n
  induction n with
  | zero =>
    intro k hk
    have hk : k = 165 := by omega
    subst hk
    rw [r183_14]
    simp only [r183_15, r183_18]
    rw [if_pos (by decide)]
  | succ n ih =>
    intro k hk
    rw [r183_14]
    simp only [r183_15, r183_18, r183_21, r183_22, r183_25, r183_28, r183_29, r183_30, r183_31, r183_32, r183_33, r183_36, r183_37, r183_38, r183_39, r183_42, s_1, s_2, s_3, s_8, s_16, s_18, s_23, s_24, s_33, s_38, s_41, s_161, f_1_0, f_1_1, f_1_4, f_1_5, f_1_8, f_1_9, f_1_10, f_1_11, f_1_12, f_1_13, f_2_0, f_2_1, f_3_3, f_3_4, f_3_5, f_3_6, f_8_2, f_8_3, f_8_4, f_8_5, f_16_2, f_18_3, f_18_4, f_18_5, f_18_6, f_23_0, f_23_1, f_23_2, f_23_3, f_23_4, f_24_2, f_24_3, f_24_4, f_24_5, f_33_3, f_33_4, f_33_5, f_33_6, f_38_1, f_38_2, f_41_0, f_161_0, f_161_1, f_161_3, f_161_7, f_161_12, f_161_13, f_161_14, f_161_15, f_161_16, f_161_17, f_161_18, f_161_19, f_161_21, f_161_22, f_161_25, true_and, and_true, true_or, or_true, if_true, if_false, ne_eq, not_false_eq_true, and_self, t10, am_psh, am_clr, not_true_eq_false, Nat.reduceEqDiff, (show ∀ h : Nat → Int32, am_row I 164 h 161 = I 161 from fun h => am_row_ne (by omega)), (show ∀ h : Nat → Int32, am_row I 164 h 162 = I 162 from fun h => am_row_ne (by omega))]
    rw [if_neg (show ¬ (165 : Int32) ≤ nI k from ge_lit (c := 165) rfl (by omega) (by omega)), show (165 : Int32) * nI c = nI (165 * c) from pk_mul 165 c, nI_add, nI_1, n_cl (by omega), n_cl (by omega), up_row, row_row, eq_true (mx k (by omega)), eq_true (slw (165 * c + k) (by omega)), true_and, true_and, am_row_eq, tko_s]
    exact ih (k + 1) (by omega)
theorem mr_1 {c : Nat} (hc : c < 2) : ∀ (n k : Nat), k + n = 165 → am_T d 184 28 [some (.ref 161), some (.int (nI c)), some (.int (nI k))] [] (cS L) (am_row I 162 (tk (I 162) (shf (I 164) (165 * c)) k)) J Q = am_T d 184 59 [some (.ref 161), some (.int (nI c)), some (.int (nI 165))] [] (cS L) (am_row I 162 (tk (I 162) (shf (I 164) (165 * c)) 165)) J Q := by
  intro n
  induction n with
  | zero =>
    intro k hk
    have hk : k = 165 := by omega
    subst hk
    rw [r184_28]
    simp only [r184_29, r184_32]
    rw [if_pos (by decide)]
  | succ n ih =>
    intro k hk
    rw [r184_28]
    simp only [r184_29, r184_32, r184_35, r184_36, r184_39, r184_40, r184_41, r184_44, r184_47, r184_48, r184_49, r184_50, r184_51, r184_52, r184_53, r184_56, s_1, s_2, s_3, s_8, s_16, s_18, s_23, s_24, s_33, s_38, s_41, s_161, f_1_0, f_1_1, f_1_4, f_1_5, f_1_8, f_1_9, f_1_10, f_1_11, f_1_12, f_1_13, f_2_0, f_2_1, f_3_3, f_3_4, f_3_5, f_3_6, f_8_2, f_8_3, f_8_4, f_8_5, f_16_2, f_18_3, f_18_4, f_18_5, f_18_6, f_23_0, f_23_1, f_23_2, f_23_3, f_23_4, f_24_2, f_24_3, f_24_4, f_24_5, f_33_3, f_33_4, f_33_5, f_33_6, f_38_1, f_38_2, f_41_0, f_161_0, f_161_1, f_161_3, f_161_7, f_161_12, f_161_13, f_161_14, f_161_15, f_161_16, f_161_17, f_161_18, f_161_19, f_161_21, f_161_22, f_161_25, true_and, and_true, true_or, or_true, if_true, if_false, ne_eq, not_false_eq_true, and_self, t10, am_psh, am_clr, not_true_eq_false, Nat.reduceEqDiff, (show ∀ h : Nat → Int32, am_row I 162 h 161 = I 161 from fun h => am_row_ne (by omega)), (show ∀ h : Nat → Int32, am_row I 162 h 164 = I 164 from fun h => am_row_ne (by omega))]
    rw [if_neg (show ¬ (165 : Int32) ≤ nI k from ge_lit (c := 165) rfl (by omega) (by omega)), show (165 : Int32) * nI c = nI (165 * c) from pk_mul 165 c, nI_add, nI_1, n_cl (by omega), n_cl (by omega), up_row, row_row, eq_true (slx (165 * c + k) (by omega)), eq_true (mw k (by omega)), true_and, true_and, am_row_eq]
    rw [show (fun j => if j = k then I 164 (165 * c + k) else tk (I 162) (shf (I 164) (165 * c)) k j) = tk (I 162) (shf (I 164) (165 * c)) (k + 1) from tk_s (I 162) (shf (I 164) (165 * c)) k]
    exact ih (k + 1) (by omega)
theorem bits0 (a b : Nat) (ha : a < 2) (hb : b < 2) : nI (a + 2 * b) ||| 1 <<< (nI 0 &&& 31) = nI (1 + 2 * b) := by
  match a, ha, b, hb with
  | 0, _, 0, _ => rfl
  | 0, _, 1, _ => rfl
  | 1, _, 0, _ => rfl
  | 1, _, 1, _ => rfl
theorem bits1 (a b : Nat) (ha : a < 2) (hb : b < 2) : nI (a + 2 * b) ||| 1 <<< (nI 1 &&& 31) = nI (a + 2 * 1) := by
  match a, ha, b, hb with
  | 0, _, 0, _ => rfl
  | 0, _, 1, _ => rfl
  | 1, _, 0, _ => rfl
  | 1, _, 1, _ => rfl
theorem bitr0 (a b : Nat) (ha : a < 2) (hb : b < 2) : (nI (a + 2 * b) >>> (nI 0 &&& 31)) &&& 1 = nI a := by
  match a, ha, b, hb with
  | 0, _, 0, _ => rfl
  | 0, _, 1, _ => rfl
  | 1, _, 0, _ => rfl
  | 1, _, 1, _ => rfl
theorem bitr1 (a b : Nat) (ha : a < 2) (hb : b < 2) : (nI (a + 2 * b) >>> (nI 1 &&& 31)) &&& 1 = nI b := by
  match a, ha, b, hb with
  | 0, _, 0, _ => rfl
  | 0, _, 1, _ => rfl
  | 1, _, 0, _ => rfl
  | 1, _, 1, _ => rfl
theorem slB_lt (o : Option St) : slB o < 2 := by
  cases o with
  | none => exact Nat.zero_lt_two
  | some s => exact Nat.one_lt_two
/-- the two slots, by number -/
def slN (s0 s1 : Option St) (j : Nat) : Option St := if j = 0 then s0 else s1
set_option maxHeartbeats 2000000 in
theorem op_save (x : Int32) : am_OK L Inv 95 183 [.int x] := by
  intro I J hI
  have hI0 := hI
  obtain ⟨s, hs, s0, s1, n, tx, hok, hx, hm, hl, hh, hsl, hru, htx⟩ := hI
  obtain ⟨hO, hhM, o, ho, hhX⟩ := xH_iff.mp hh
  rcases in_or_out x (n := 2) (by omega) with hv | ⟨v, hv, rfl⟩
  · refine ok_same hI0 (x := -103) (fun Q => ?_) (fun Q => ?_)
    · rw [e95]; simp only [r95_0, r95_1, r95_4, r95_5, r95_6, r95_9, r95_11, r95_12, r95_13, r95_16, r95_17, r95_18, r95_19, r95_22, r95_25, r95_26, r95_29, r95_30, r95_31, r95_32, r95_33, r95_36, r95_39, r95_42, s_1, s_2, s_3, s_8, s_16, s_18, s_23, s_24, s_33, s_38, s_41, s_161, f_1_0, f_1_1, f_1_4, f_1_5, f_1_8, f_1_9, f_1_10, f_1_11, f_1_12, f_1_13, f_2_0, f_2_1, f_3_3, f_3_4, f_3_5, f_3_6, f_8_2, f_8_3, f_8_4, f_8_5, f_16_2, f_18_3, f_18_4, f_18_5, f_18_6, f_23_0, f_23_1, f_23_2, f_23_3, f_23_4, f_24_2, f_24_3, f_24_4, f_24_5, f_33_3, f_33_4, f_33_5, f_33_6, f_38_1, f_38_2, f_41_0, f_161_0, f_161_1, f_161_3, f_161_7, f_161_12, f_161_13, f_161_14, f_161_15, f_161_16, f_161_17, f_161_18, f_161_19, f_161_21, f_161_22, f_161_25, true_and, and_true, true_or, or_true, if_true, if_false, ne_eq, not_false_eq_true, and_self, t10, am_psh, am_clr, not_true_eq_false, Nat.reduceEqDiff]
      by_cases g : x < 0
      · rw [if_pos g]
      · rw [if_neg g, if_neg (Int32.not_lt.mpr (show (2 : Int32) ≤ x from hv.resolve_left g))]
    · rw [e183]; simp only [r183_0, r183_1, r183_2, r183_3, r183_6, r183_9, r183_11, s_1, s_2, s_3, s_8, s_16, s_18, s_23, s_24, s_33, s_38, s_41, s_161, f_1_0, f_1_1, f_1_4, f_1_5, f_1_8, f_1_9, f_1_10, f_1_11, f_1_12, f_1_13, f_2_0, f_2_1, f_3_3, f_3_4, f_3_5, f_3_6, f_8_2, f_8_3, f_8_4, f_8_5, f_16_2, f_18_3, f_18_4, f_18_5, f_18_6, f_23_0, f_23_1, f_23_2, f_23_3, f_23_4, f_24_2, f_24_3, f_24_4, f_24_5, f_33_3, f_33_4, f_33_5, f_33_6, f_38_1, f_38_2, f_41_0, f_161_0, f_161_1, f_161_3, f_161_7, f_161_12, f_161_13, f_161_14, f_161_15, f_161_16, f_161_17, f_161_18, f_161_19, f_161_21, f_161_22, f_161_25, true_and, and_true, true_or, or_true, if_true, if_false, ne_eq, not_false_eq_true, and_self, t10, am_psh, am_clr, not_true_eq_false, Nat.reduceEqDiff, c_isIn]
      by_cases g : x < 0
      · rw [if_pos g]
      · rw [if_neg g, if_pos (show 1 < x from (sub1_lt (n := 2) (by omega)).mpr (hv.resolve_left g))]
  · obtain ⟨I1, h1, e1, q1⟩ := c_Sta_copy (d := 37) (L := L) (I := I) (J := J) (shS_l L hv) (shS_2 L) (by omega) (xS_01 hx)
    have f2 : ∀ b, b ≠ 15 → (b < 140 ∨ 161 ≤ b) → (am_up I1 15 v 1) b = I b := fun b b1 b2 => by rw [am_up_ne b1, e1 b (by omega)]
    have g162 : (am_up I1 15 v 1) 162 = I 162 := f2 162 (by omega) (by omega)
    have g161 : (am_up I1 15 v 1) 161 = I 161 := f2 161 (by omega) (by omega)
    have g164 : (am_up I1 15 v 1) 164 = I 164 := f2 164 (by omega) (by omega)
    have hfil : I 161 4 ||| 1 <<< (nI v &&& 31) = nI (slB (if v = 0 then some s else s0) + 2 * slB (if v = 0 then s1 else some s)) := by
      rw [hsl.2.2]
      match v, hv with
      | 0, _ => exact bits0 _ _ (slB_lt _) (slB_lt _)
      | 1, _ => exact bits1 _ _ (slB_lt _) (slB_lt _)
    refine ⟨.int (nI (gm s.1)), am_up I1 15 v 1, J, am_up (am_row (am_up I1 15 v 1) 164 (tko (I 164) (I 162) (165 * v) 165)) 161 4 (I 161 4 ||| 1 <<< (nI v &&& 31)), J, fun Q => ?_, f2 0 (by omega) (by omega), fun Q => ?_, by rw [am_up_ne (by omega), am_row_ne (by omega), f2 0 (by omega) (by omega)], ?_, _, rfl⟩
    · rw [e95]; simp only [r95_0, r95_1, r95_4, r95_5, r95_6, r95_9, r95_11, r95_12, r95_13, r95_16, r95_17, s_1, s_2, s_3, s_8, s_16, s_18, s_23, s_24, s_33, s_38, s_41, s_161, f_1_0, f_1_1, f_1_4, f_1_5, f_1_8, f_1_9, f_1_10, f_1_11, f_1_12, f_1_13, f_2_0, f_2_1, f_3_3, f_3_4, f_3_5, f_3_6, f_8_2, f_8_3, f_8_4, f_8_5, f_16_2, f_18_3, f_18_4, f_18_5, f_18_6, f_23_0, f_23_1, f_23_2, f_23_3, f_23_4, f_24_2, f_24_3, f_24_4, f_24_5, f_33_3, f_33_4, f_33_5, f_33_6, f_38_1, f_38_2, f_41_0, f_161_0, f_161_1, f_161_3, f_161_7, f_161_12, f_161_13, f_161_14, f_161_15, f_161_16, f_161_17, f_161_18, f_161_19, f_161_21, f_161_22, f_161_25, true_and, and_true, true_or, or_true, if_true, if_false, ne_eq, not_false_eq_true, and_self, t10, am_psh, am_clr, not_true_eq_false, Nat.reduceEqDiff]
      rw [if_neg (nI_pos (by omega)), if_pos (show nI v < 2 from nI_lt (b := 2) hv (by omega)), eq_true (ixq_14 (L := L) hv), true_and, n_cl (by omega), rf_14 hv]
      simp only [r95_18, r95_19, r95_22, s_1, s_2, s_3, s_8, s_16, s_18, s_23, s_24, s_33, s_38, s_41, s_161, f_1_0, f_1_1, f_1_4, f_1_5, f_1_8, f_1_9, f_1_10, f_1_11, f_1_12, f_1_13, f_2_0, f_2_1, f_3_3, f_3_4, f_3_5, f_3_6, f_8_2, f_8_3, f_8_4, f_8_5, f_16_2, f_18_3, f_18_4, f_18_5, f_18_6, f_23_0, f_23_1, f_23_2, f_23_3, f_23_4, f_24_2, f_24_3, f_24_4, f_24_5, f_33_3, f_33_4, f_33_5, f_33_6, f_38_1, f_38_2, f_41_0, f_161_0, f_161_1, f_161_3, f_161_7, f_161_12, f_161_13, f_161_14, f_161_15, f_161_16, f_161_17, f_161_18, f_161_19, f_161_21, f_161_22, f_161_25, true_and, and_true, true_or, or_true, if_true, if_false, ne_eq, not_false_eq_true, and_self, t10, am_psh, am_clr, not_true_eq_false, Nat.reduceEqDiff]
      rw [eq_true (shS_l L hv).1.1, true_and, h1]
      simp only [r95_25, r95_26, r95_29, r95_30, r95_31, r95_32, r95_33, r95_36, r95_39, r95_42, s_1, s_2, s_3, s_8, s_16, s_18, s_23, s_24, s_33, s_38, s_41, s_161, f_1_0, f_1_1, f_1_4, f_1_5, f_1_8, f_1_9, f_1_10, f_1_11, f_1_12, f_1_13, f_2_0, f_2_1, f_3_3, f_3_4, f_3_5, f_3_6, f_8_2, f_8_3, f_8_4, f_8_5, f_16_2, f_18_3, f_18_4, f_18_5, f_18_6, f_23_0, f_23_1, f_23_2, f_23_3, f_23_4, f_24_2, f_24_3, f_24_4, f_24_5, f_33_3, f_33_4, f_33_5, f_33_6, f_38_1, f_38_2, f_41_0, f_161_0, f_161_1, f_161_3, f_161_7, f_161_12, f_161_13, f_161_14, f_161_15, f_161_16, f_161_17, f_161_18, f_161_19, f_161_21, f_161_22, f_161_25, true_and, and_true, true_or, or_true, if_true, if_false, ne_eq, not_false_eq_true, and_self, t10, am_psh, am_clr, not_true_eq_false, Nat.reduceEqDiff, t11]
      rw [eq_true (show am_ixw (cS L) 15 21 (nI v) from ixw_nI (k_15 L) (by omega) (n_15 L) hv (by omega)), true_and, n_cl (by omega), f2 3 (by omega) (by omega), hx.1.1.2.2]
    · rw [e183]; simp only [r183_0, r183_1, r183_2, r183_3, r183_6, r183_9, r183_11, r183_12, r183_13, s_1, s_2, s_3, s_8, s_16, s_18, s_23, s_24, s_33, s_38, s_41, s_161, f_1_0, f_1_1, f_1_4, f_1_5, f_1_8, f_1_9, f_1_10, f_1_11, f_1_12, f_1_13, f_2_0, f_2_1, f_3_3, f_3_4, f_3_5, f_3_6, f_8_2, f_8_3, f_8_4, f_8_5, f_16_2, f_18_3, f_18_4, f_18_5, f_18_6, f_23_0, f_23_1, f_23_2, f_23_3, f_23_4, f_24_2, f_24_3, f_24_4, f_24_5, f_33_3, f_33_4, f_33_5, f_33_6, f_38_1, f_38_2, f_41_0, f_161_0, f_161_1, f_161_3, f_161_7, f_161_12, f_161_13, f_161_14, f_161_15, f_161_16, f_161_17, f_161_18, f_161_19, f_161_21, f_161_22, f_161_25, true_and, and_true, true_or, or_true, if_true, if_false, ne_eq, not_false_eq_true, and_self, t10, am_psh, am_clr, not_true_eq_false, Nat.reduceEqDiff, c_isIn]
      rw [if_neg (nI_pos (by omega)), if_neg (show ¬ 1 < nI v from fun q => absurd ((nI_ltI (a := 1) (by omega) (by omega)).mp q) (by omega))]
      have h := ms_1 (d := 39) (L := L) (J := J) (Q := Q) (I := am_up I1 15 v 1) hv 165 0 rfl
      rw [tko_0, row_id rfl] at h
      refine Eq.trans h ?_
      simp only [r183_45, r183_46, r183_47, r183_50, r183_51, r183_52, r183_53, r183_54, r183_57, r183_58, r183_61, r183_62, r183_63, s_1, s_2, s_3, s_8, s_16, s_18, s_23, s_24, s_33, s_38, s_41, s_161, f_1_0, f_1_1, f_1_4, f_1_5, f_1_8, f_1_9, f_1_10, f_1_11, f_1_12, f_1_13, f_2_0, f_2_1, f_3_3, f_3_4, f_3_5, f_3_6, f_8_2, f_8_3, f_8_4, f_8_5, f_16_2, f_18_3, f_18_4, f_18_5, f_18_6, f_23_0, f_23_1, f_23_2, f_23_3, f_23_4, f_24_2, f_24_3, f_24_4, f_24_5, f_33_3, f_33_4, f_33_5, f_33_6, f_38_1, f_38_2, f_41_0, f_161_0, f_161_1, f_161_3, f_161_7, f_161_12, f_161_13, f_161_14, f_161_15, f_161_16, f_161_17, f_161_18, f_161_19, f_161_21, f_161_22, f_161_25, true_and, and_true, true_or, or_true, if_true, if_false, ne_eq, not_false_eq_true, and_self, t10, am_psh, am_clr, not_true_eq_false, Nat.reduceEqDiff, am_row_ne (show 161 ≠ 164 by omega), am_row_ne (show 162 ≠ 164 by omega), (show ∀ (f : am_I) (y : Int32), am_up f 161 4 y 162 = f 162 from fun f y => am_up_ne (by omega)), show am_ix (cS L) 162 20 2 from mx 2 (by omega), show (2 : Int32).toNatClampNeg = 2 from by decide, g161, g162, g164]
      rw [hm.1.1.2.2]
    · have F : ∀ b, b ≠ 15 → b ≠ 161 → b ≠ 164 → (b < 140 ∨ 161 ≤ b) → (am_up (am_row (am_up I1 15 v 1) 164 (tko (I 164) (I 162) (165 * v) 165)) 161 4 (I 161 4 ||| 1 <<< (nI v &&& 31))) b = I b := fun b b1 b2 b3 b4 => by rw [am_up_ne b2, am_row_ne b3, f2 b b1 b4]
      have F1 : ∀ j, j ≠ 4 → (am_up (am_row (am_up I1 15 v 1) 164 (tko (I 164) (I 162) (165 * v) 165)) 161 4 (I 161 4 ||| 1 <<< (nI v &&& 31))) 161 j = I 161 j := fun j hj => by rw [up_ne _ _ (Or.inr hj), am_row_ne (by omega), g161]
      have FS : xSl (am_up (am_row (am_up I1 15 v 1) 164 (tko (I 164) (I 162) (165 * v) 165)) 161 4 (I 161 4 ||| 1 <<< (nI v &&& 31))) v (some s) := by
        refine ⟨by rw [am_up_ne (by omega), am_row_ne (by omega), up_self], hok, xS_congr (fun b b1 b2 => ?_) (fun b b1 b2 => ?_) (q1 s hok hx), ?_⟩
        · rw [am_up_ne (by omega), am_row_ne (by omega), am_up_ne (by omega)]
        · rw [am_up_ne (by omega), am_row_ne (by omega), am_up_ne (by omega)]
        · rw [am_up_ne (by omega), am_row_eq]
          refine mS_congr hok (fun j hj => ?_) hm
          unfold shf tko
          rw [if_pos (by omega), show 165 * v + j - 165 * v = j by omega]
      have FO : ∀ k o, k < 2 → k ≠ v → xSl I k o → xSl (am_up (am_row (am_up I1 15 v 1) 164 (tko (I 164) (I 162) (165 * v) 165)) 161 4 (I 161 4 ||| 1 <<< (nI v &&& 31))) k o := fun k o hk hne h => by
        have c15 : (am_up (am_row (am_up I1 15 v 1) 164 (tko (I 164) (I 162) (165 * v) 165)) 161 4 (I 161 4 ||| 1 <<< (nI v &&& 31))) 15 k = I 15 k := by
          rw [am_up_ne (by omega), am_row_ne (by omega), up_ne _ _ (Or.inr hne), e1 15 (by omega)]
        cases o with
        | none => show _ = _; rw [c15]; exact h
        | some s' =>
          obtain ⟨a1, a2, a3, a4⟩ := h
          refine ⟨by rw [c15]; exact a1, a2, xS_congr (fun b b1 b2 => ?_) (fun b b1 b2 => ?_) a3, ?_⟩
          · rw [am_up_ne (by omega), am_row_ne (by omega), am_up_ne (by omega), e1 b (by omega)]
          · rw [am_up_ne (by omega), am_row_ne (by omega), am_up_ne (by omega), e1 b (by omega)]
          · rw [am_up_ne (by omega), am_row_eq]
            refine mS_congr a2 (fun j hj => ?_) a4
            unfold shf tko
            rw [if_neg (by omega)]
      refine ⟨s, hs, if v = 0 then some s else s0, if v = 0 then s1 else some s, n, tx, hok, xS_congr (fun b b1 b2 => F b (by omega) (by omega) (by omega) (by omega)) (fun b b1 b2 => F b (by omega) (by omega) (by omega) (by omega)) hx, by rw [F 162 (by omega) (by omega) (by omega) (by omega)]; exact hm, ?_, xH_iff.mpr ⟨hO, hM_congr (F1 2 (by omega)) (F 163 (by omega) (by omega) (by omega) (by omega)) hhM, o, ho, hX_congr (by rw [F 1 (by omega) (by omega) (by omega) (by omega)]) (by rw [F 1 (by omega) (by omega) (by omega) (by omega)]) (fun b b1 b2 => F b (by omega) (by omega) (by omega) (by omega)) hhX⟩, ⟨?_, ?_, ?_⟩, ⟨?_, ?_⟩, xT_congr (by rw [F 16 (by omega) (by omega) (by omega) (by omega)]) (F 17 (by omega) (by omega) (by omega) (by omega)) (F 165 (by omega) (by omega) (by omega) (by omega)) (F1 8 (by omega)) htx⟩
      · unfold xL
        rw [F 33 (by omega) (by omega) (by omega) (by omega), F 34 (by omega) (by omega) (by omega) (by omega)]; exact hl
      · by_cases e : v = 0
        · rw [if_pos e]; exact e ▸ FS
        · rw [if_neg e]; exact FO 0 s0 (by omega) (by omega) hsl.1
      · by_cases e : v = 0
        · rw [if_pos e]; exact FO 1 s1 (by omega) (by omega) hsl.2.1
        · rw [if_neg e]
          have e1 : v = 1 := by omega
          exact e1 ▸ FS
      · rw [up_self]; exact hfil
      · rw [F 1 (by omega) (by omega) (by omega) (by omega), F1 5 (by omega)]; exact hru.1
      · rw [F 1 (by omega) (by omega) (by omega) (by omega), F1 6 (by omega)]; exact hru.2
set_option maxHeartbeats 2000000 in
theorem op_restore (x : Int32) : am_OK L Inv 96 184 [.int x] := by
  intro I J hI
  have hI0 := hI
  obtain ⟨s, hs, s0, s1, n, tx, hok, hx, hm, hl, hh, hsl, hru, htx⟩ := hI
  obtain ⟨hO, hhM, o, ho, hhX⟩ := xH_iff.mp hh
  rcases in_or_out x (n := 2) (by omega) with hv | ⟨v, hv, rfl⟩
  · refine ok_same hI0 (x := -103) (fun Q => ?_) (fun Q => ?_)
    · rw [e96]; simp only [r96_0, r96_1, r96_4, r96_5, r96_6, r96_9, r96_11, r96_12, r96_13, r96_16, r96_17, r96_18, r96_21, r96_23, r96_24, r96_25, r96_28, r96_29, r96_32, r96_33, r96_34, r96_37, r96_38, r96_39, r96_42, r96_43, r96_46, r96_49, r96_50, r96_53, r96_56, r96_59, s_1, s_2, s_3, s_8, s_16, s_18, s_23, s_24, s_33, s_38, s_41, s_161, f_1_0, f_1_1, f_1_4, f_1_5, f_1_8, f_1_9, f_1_10, f_1_11, f_1_12, f_1_13, f_2_0, f_2_1, f_3_3, f_3_4, f_3_5, f_3_6, f_8_2, f_8_3, f_8_4, f_8_5, f_16_2, f_18_3, f_18_4, f_18_5, f_18_6, f_23_0, f_23_1, f_23_2, f_23_3, f_23_4, f_24_2, f_24_3, f_24_4, f_24_5, f_33_3, f_33_4, f_33_5, f_33_6, f_38_1, f_38_2, f_41_0, f_161_0, f_161_1, f_161_3, f_161_7, f_161_12, f_161_13, f_161_14, f_161_15, f_161_16, f_161_17, f_161_18, f_161_19, f_161_21, f_161_22, f_161_25, true_and, and_true, true_or, or_true, if_true, if_false, ne_eq, not_false_eq_true, and_self, t10, am_psh, am_clr, not_true_eq_false, Nat.reduceEqDiff]
      by_cases g : x < 0
      · rw [if_pos g]
      · rw [if_neg g, if_neg (Int32.not_lt.mpr (show (2 : Int32) ≤ x from hv.resolve_left g))]
    · rw [e184]; simp only [r184_0, r184_1, r184_2, r184_3, r184_6, r184_9, r184_11, s_1, s_2, s_3, s_8, s_16, s_18, s_23, s_24, s_33, s_38, s_41, s_161, f_1_0, f_1_1, f_1_4, f_1_5, f_1_8, f_1_9, f_1_10, f_1_11, f_1_12, f_1_13, f_2_0, f_2_1, f_3_3, f_3_4, f_3_5, f_3_6, f_8_2, f_8_3, f_8_4, f_8_5, f_16_2, f_18_3, f_18_4, f_18_5, f_18_6, f_23_0, f_23_1, f_23_2, f_23_3, f_23_4, f_24_2, f_24_3, f_24_4, f_24_5, f_33_3, f_33_4, f_33_5, f_33_6, f_38_1, f_38_2, f_41_0, f_161_0, f_161_1, f_161_3, f_161_7, f_161_12, f_161_13, f_161_14, f_161_15, f_161_16, f_161_17, f_161_18, f_161_19, f_161_21, f_161_22, f_161_25, true_and, and_true, true_or, or_true, if_true, if_false, ne_eq, not_false_eq_true, and_self, t10, am_psh, am_clr, not_true_eq_false, Nat.reduceEqDiff, c_isIn]
      by_cases g : x < 0
      · rw [if_pos g]
      · rw [if_neg g, if_pos (show 1 < x from (sub1_lt (n := 2) (by omega)).mpr (hv.resolve_left g))]
  · have hxv : xSl I v (slN s0 s1 v) := by
      match v, hv with
      | 0, _ => exact hsl.1
      | 1, _ => exact hsl.2.1
    have hfv : I 161 4 >>> (nI v &&& 31) &&& 1 = nI (slB (slN s0 s1 v)) := by
      rw [hsl.2.2]
      match v, hv with
      | 0, _ => exact bitr0 _ _ (slB_lt _) (slB_lt _)
      | 1, _ => exact bitr1 _ _ (slB_lt _) (slB_lt _)
    have hb : am_ix (cS L) 15 21 (nI v) := ix_nI (k_15 L) (n_15 L) hv (by omega)
    have c1 : ¬ nI v < 0 := nI_pos (by omega)
    have c2 : nI v < 2 := nI_lt (b := 2) hv (by omega)
    have c3 : ¬ 1 < nI v := fun q => absurd ((nI_ltI (a := 1) (by omega) (by omega)).mp q) (by omega)
    cases hsN : slN s0 s1 v with
    | none =>
      rw [hsN] at hxv hfv
      have hxv : I 15 v = 0 := hxv
      have hfv : I 161 4 >>> (nI v &&& 31) &&& 1 = 0 := hfv
      refine ok_same hI0 (x := -105) (fun Q => ?_) (fun Q => ?_)
      · rw [e96]; simp only [r96_0, r96_1, r96_4, r96_5, r96_6, r96_9, r96_11, r96_12, r96_13, r96_16, r96_17, r96_18, r96_21, r96_23, r96_24, r96_25, r96_28, r96_29, r96_32, r96_33, r96_34, r96_37, r96_38, r96_39, r96_42, r96_43, r96_46, r96_49, r96_50, r96_53, r96_56, r96_59, s_1, s_2, s_3, s_8, s_16, s_18, s_23, s_24, s_33, s_38, s_41, s_161, f_1_0, f_1_1, f_1_4, f_1_5, f_1_8, f_1_9, f_1_10, f_1_11, f_1_12, f_1_13, f_2_0, f_2_1, f_3_3, f_3_4, f_3_5, f_3_6, f_8_2, f_8_3, f_8_4, f_8_5, f_16_2, f_18_3, f_18_4, f_18_5, f_18_6, f_23_0, f_23_1, f_23_2, f_23_3, f_23_4, f_24_2, f_24_3, f_24_4, f_24_5, f_33_3, f_33_4, f_33_5, f_33_6, f_38_1, f_38_2, f_41_0, f_161_0, f_161_1, f_161_3, f_161_7, f_161_12, f_161_13, f_161_14, f_161_15, f_161_16, f_161_17, f_161_18, f_161_19, f_161_21, f_161_22, f_161_25, true_and, and_true, true_or, or_true, if_true, if_false, ne_eq, not_false_eq_true, and_self, t10, am_psh, am_clr, not_true_eq_false, Nat.reduceEqDiff]
        rw [if_neg c1, if_pos c2, eq_true hb, true_and, n_cl (by omega), hxv, if_pos rfl]
      · rw [e184]; simp only [r184_0, r184_1, r184_2, r184_3, r184_6, r184_9, r184_11, r184_12, r184_13, r184_16, r184_17, r184_18, r184_19, r184_20, r184_23, r184_25, s_1, s_2, s_3, s_8, s_16, s_18, s_23, s_24, s_33, s_38, s_41, s_161, f_1_0, f_1_1, f_1_4, f_1_5, f_1_8, f_1_9, f_1_10, f_1_11, f_1_12, f_1_13, f_2_0, f_2_1, f_3_3, f_3_4, f_3_5, f_3_6, f_8_2, f_8_3, f_8_4, f_8_5, f_16_2, f_18_3, f_18_4, f_18_5, f_18_6, f_23_0, f_23_1, f_23_2, f_23_3, f_23_4, f_24_2, f_24_3, f_24_4, f_24_5, f_33_3, f_33_4, f_33_5, f_33_6, f_38_1, f_38_2, f_41_0, f_161_0, f_161_1, f_161_3, f_161_7, f_161_12, f_161_13, f_161_14, f_161_15, f_161_16, f_161_17, f_161_18, f_161_19, f_161_21, f_161_22, f_161_25, true_and, and_true, true_or, or_true, if_true, if_false, ne_eq, not_false_eq_true, and_self, t10, am_psh, am_clr, not_true_eq_false, Nat.reduceEqDiff, c_isIn]
        rw [if_neg c1, if_neg c3, hfv, if_pos rfl]
    | some s' =>
      rw [hsN] at hxv hfv
      obtain ⟨y1, hoks, hxs, hms⟩ := hxv
      have hfv : I 161 4 >>> (nI v &&& 31) &&& 1 = 1 := hfv
      obtain ⟨I1, h1, e1, q1⟩ := c_Sta_copy (d := 37) (L := L) (I := I) (J := J) (shS_2 L) (shS_l L hv) (by omega) (xS_01 hxs)
      have f1 : ∀ b, b ≠ 1 → b ≠ 33 → (b < 3 ∨ 13 ≤ b) → (am_up (am_up I1 1 3 0) 33 0 0) b = I b := fun b b1 b2 b3 => by rw [am_up_ne b2, am_up_ne b1, e1 b (by omega)]
      have f11 : (am_up (am_up I1 1 3 0) 33 0 0) 1 = am_up I 1 3 0 1 := by rw [am_up_ne (by omega), up_row, up_row, am_row_eq, am_row_eq, e1 1 (by omega)]
      have g161 : (am_up (am_up I1 1 3 0) 33 0 0) 161 = I 161 := f1 161 (by omega) (by omega) (by omega)
      have hxq := q1 s' hoks hxs
      refine ⟨.int (nI (gm s'.1)), am_up (am_up I1 1 3 0) 33 0 0, J, am_up (am_row (am_up (am_up I1 1 3 0) 33 0 0) 162 (tk (I 162) (shf (I 164) (165 * v)) 165)) 161 2 0, J, fun Q => ?_, f1 0 (by omega) (by omega) (by omega), fun Q => ?_, by rw [am_up_ne (by omega), am_row_ne (by omega), f1 0 (by omega) (by omega) (by omega)], ?_, _, rfl⟩
      · rw [e96]; simp only [r96_0, r96_1, r96_4, r96_5, r96_6, r96_9, r96_11, r96_12, r96_13, r96_16, r96_17, r96_18, r96_21, r96_23, r96_24, r96_25, r96_28, r96_29, r96_32, r96_33, s_1, s_2, s_3, s_8, s_16, s_18, s_23, s_24, s_33, s_38, s_41, s_161, f_1_0, f_1_1, f_1_4, f_1_5, f_1_8, f_1_9, f_1_10, f_1_11, f_1_12, f_1_13, f_2_0, f_2_1, f_3_3, f_3_4, f_3_5, f_3_6, f_8_2, f_8_3, f_8_4, f_8_5, f_16_2, f_18_3, f_18_4, f_18_5, f_18_6, f_23_0, f_23_1, f_23_2, f_23_3, f_23_4, f_24_2, f_24_3, f_24_4, f_24_5, f_33_3, f_33_4, f_33_5, f_33_6, f_38_1, f_38_2, f_41_0, f_161_0, f_161_1, f_161_3, f_161_7, f_161_12, f_161_13, f_161_14, f_161_15, f_161_16, f_161_17, f_161_18, f_161_19, f_161_21, f_161_22, f_161_25, true_and, and_true, true_or, or_true, if_true, if_false, ne_eq, not_false_eq_true, and_self, t10, am_psh, am_clr, not_true_eq_false, Nat.reduceEqDiff]
        rw [if_neg c1, if_pos c2, eq_true hb, true_and, n_cl (by omega), y1, if_neg (of_eq_false t10), eq_true (ixq_14 (L := L) hv), true_and, rf_14 hv]
        simp only [r96_34, s_1, s_2, s_3, s_8, s_16, s_18, s_23, s_24, s_33, s_38, s_41, s_161, f_1_0, f_1_1, f_1_4, f_1_5, f_1_8, f_1_9, f_1_10, f_1_11, f_1_12, f_1_13, f_2_0, f_2_1, f_3_3, f_3_4, f_3_5, f_3_6, f_8_2, f_8_3, f_8_4, f_8_5, f_16_2, f_18_3, f_18_4, f_18_5, f_18_6, f_23_0, f_23_1, f_23_2, f_23_3, f_23_4, f_24_2, f_24_3, f_24_4, f_24_5, f_33_3, f_33_4, f_33_5, f_33_6, f_38_1, f_38_2, f_41_0, f_161_0, f_161_1, f_161_3, f_161_7, f_161_12, f_161_13, f_161_14, f_161_15, f_161_16, f_161_17, f_161_18, f_161_19, f_161_21, f_161_22, f_161_25, true_and, and_true, true_or, or_true, if_true, if_false, ne_eq, not_false_eq_true, and_self, t10, am_psh, am_clr, not_true_eq_false, Nat.reduceEqDiff]
        rw [h1]
        simp only [r96_37, r96_38, r96_39, r96_42, r96_43, r96_46, r96_49, r96_50, r96_53, r96_56, r96_59, s_1, s_2, s_3, s_8, s_16, s_18, s_23, s_24, s_33, s_38, s_41, s_161, f_1_0, f_1_1, f_1_4, f_1_5, f_1_8, f_1_9, f_1_10, f_1_11, f_1_12, f_1_13, f_2_0, f_2_1, f_3_3, f_3_4, f_3_5, f_3_6, f_8_2, f_8_3, f_8_4, f_8_5, f_16_2, f_18_3, f_18_4, f_18_5, f_18_6, f_23_0, f_23_1, f_23_2, f_23_3, f_23_4, f_24_2, f_24_3, f_24_4, f_24_5, f_33_3, f_33_4, f_33_5, f_33_6, f_38_1, f_38_2, f_41_0, f_161_0, f_161_1, f_161_3, f_161_7, f_161_12, f_161_13, f_161_14, f_161_15, f_161_16, f_161_17, f_161_18, f_161_19, f_161_21, f_161_22, f_161_25, true_and, and_true, true_or, or_true, if_true, if_false, ne_eq, not_false_eq_true, and_self, t10, am_psh, am_clr, not_true_eq_false, Nat.reduceEqDiff, c_forget, am_up_ne (show 3 ≠ 33 by omega), am_up_ne (show 3 ≠ 1 by omega)]
        rw [hxq.1.1.2.2]
      · rw [e184]; simp only [r184_0, r184_1, r184_2, r184_3, r184_6, r184_9, r184_11, r184_12, r184_13, r184_16, r184_17, r184_18, r184_19, r184_20, r184_23, r184_25, r184_26, r184_27, s_1, s_2, s_3, s_8, s_16, s_18, s_23, s_24, s_33, s_38, s_41, s_161, f_1_0, f_1_1, f_1_4, f_1_5, f_1_8, f_1_9, f_1_10, f_1_11, f_1_12, f_1_13, f_2_0, f_2_1, f_3_3, f_3_4, f_3_5, f_3_6, f_8_2, f_8_3, f_8_4, f_8_5, f_16_2, f_18_3, f_18_4, f_18_5, f_18_6, f_23_0, f_23_1, f_23_2, f_23_3, f_23_4, f_24_2, f_24_3, f_24_4, f_24_5, f_33_3, f_33_4, f_33_5, f_33_6, f_38_1, f_38_2, f_41_0, f_161_0, f_161_1, f_161_3, f_161_7, f_161_12, f_161_13, f_161_14, f_161_15, f_161_16, f_161_17, f_161_18, f_161_19, f_161_21, f_161_22, f_161_25, true_and, and_true, true_or, or_true, if_true, if_false, ne_eq, not_false_eq_true, and_self, t10, am_psh, am_clr, not_true_eq_false, Nat.reduceEqDiff, c_isIn, g161]
        rw [if_neg c1, if_neg c3, hfv, if_neg (of_eq_false t10)]
        have h := mr_1 (d := 39) (L := L) (J := J) (Q := Q) (I := am_up (am_up I1 1 3 0) 33 0 0) hv 165 0 rfl
        rw [tk_0, row_id rfl] at h
        refine Eq.trans h ?_
        simp only [r184_59, r184_60, r184_61, r184_64, r184_65, r184_68, r184_69, r184_70, s_1, s_2, s_3, s_8, s_16, s_18, s_23, s_24, s_33, s_38, s_41, s_161, f_1_0, f_1_1, f_1_4, f_1_5, f_1_8, f_1_9, f_1_10, f_1_11, f_1_12, f_1_13, f_2_0, f_2_1, f_3_3, f_3_4, f_3_5, f_3_6, f_8_2, f_8_3, f_8_4, f_8_5, f_16_2, f_18_3, f_18_4, f_18_5, f_18_6, f_23_0, f_23_1, f_23_2, f_23_3, f_23_4, f_24_2, f_24_3, f_24_4, f_24_5, f_33_3, f_33_4, f_33_5, f_33_6, f_38_1, f_38_2, f_41_0, f_161_0, f_161_1, f_161_3, f_161_7, f_161_12, f_161_13, f_161_14, f_161_15, f_161_16, f_161_17, f_161_18, f_161_19, f_161_21, f_161_22, f_161_25, true_and, and_true, true_or, or_true, if_true, if_false, ne_eq, not_false_eq_true, and_self, t10, am_psh, am_clr, not_true_eq_false, Nat.reduceEqDiff, (show ∀ (f : am_I) (y : Int32), am_up f 161 2 y 162 = f 162 from fun f y => am_up_ne (by omega)), am_row_eq, show am_ix (cS L) 162 20 2 from mx 2 (by omega), show (2 : Int32).toNatClampNeg = 2 from by decide]
        rw [f1 162 (by omega) (by omega) (by omega), f1 164 (by omega) (by omega) (by omega), show tk (I 162) (shf (I 164) (165 * v)) 165 2 = nI (gm s'.1) from hms.1.1.2.2]
      · have F : ∀ b, b ≠ 161 → b ≠ 162 → (am_up (am_row (am_up (am_up I1 1 3 0) 33 0 0) 162 (tk (I 162) (shf (I 164) (165 * v)) 165)) 161 2 0) b = (am_up (am_up I1 1 3 0) 33 0 0) b := fun b b1 b2 => by rw [am_up_ne b1, am_row_ne b2]
        have F161 : ∀ j, j ≠ 2 → (am_up (am_row (am_up (am_up I1 1 3 0) 33 0 0) 162 (tk (I 162) (shf (I 164) (165 * v)) 165)) 161 2 0) 161 j = I 161 j := fun j hj => by rw [up_ne _ _ (Or.inr hj), am_row_ne (by omega), g161]
        refine Inv_of (I := I) (s' := s') (hs' := []) (s0 := s0) (s1 := s1) (n := n) (o := o) (tx := tx) hoks (xS_congr (fun b b1 b2 => ?_) (fun b b1 b2 => ?_) hxq) ?_ (Or.inl ?_) ⟨by decide, fun i s2 h => by cases h⟩ ⟨?_, fun i s2 h => by cases h⟩ ho ⟨?_, ?_, fun i s2 h => by cases h⟩ ⟨?_, ?_⟩ hsl htx (fun b hb => ?_) (F161 4 (by omega)) (F161 8 (by omega))
        · rw [F b (by omega) (by omega), am_up_ne (by omega), am_up_ne (by omega)]
        · rw [F b (by omega) (by omega), am_up_ne (by omega), am_up_ne (by omega)]
        · rw [am_up_ne (by omega), am_row_eq]
          refine mS_congr hoks (fun j hj => ?_) hms
          unfold tk; rw [if_pos hj]
        · rw [F 33 (by omega) (by omega), up_self]
        · rw [up_self]; rfl
        · rw [F 1 (by omega) (by omega), f11, up_ne _ _ (Or.inr (by omega))]; exact hhX.1
        · rw [F 1 (by omega) (by omega), f11, up_self]; rfl
        · rw [F 1 (by omega) (by omega), f11, up_ne _ _ (Or.inr (by omega)), F161 5 (by omega)]; exact hru.1
        · rw [F 1 (by omega) (by omega), f11, up_ne _ _ (Or.inr (by omega)), F161 6 (by omega)]; exact hru.2
        · rw [F b (by omega) (by omega), f1 b (by omega) (by omega) (by omega)]
theorem op_arc (x z : Int32) : am_OK L Inv 68 131 [.int x, .int z] := ok_read fun I J ⟨s, hs, s0, s1, n, tx, hok, hx, hm, _⟩ => by
  have hn := hok.1.1.2.2.2
  rcases in_or_out x (n := gm s.1) (by omega) with hv | ⟨v, hv, rfl⟩
  · refine ⟨-102, fun Q => ?_, fun Q => ?_⟩
    · rw [e68]; simp only [r68_0, r68_1, r68_4, r68_7, r68_8, r68_9, r68_10, r68_13, r68_16, r68_18, r68_19, r68_48, r68_49, r68_52, r68_53, r68_54, r68_55, r68_56, r68_59, r68_60, r68_61, r68_62, r68_63, r68_66, r68_67, r68_68, r68_69, r68_71, s_1, s_2, s_3, s_8, s_16, s_18, s_23, s_24, s_33, s_38, s_41, s_161, f_1_0, f_1_1, f_1_4, f_1_5, f_1_8, f_1_9, f_1_10, f_1_11, f_1_12, f_1_13, f_2_0, f_2_1, f_3_3, f_3_4, f_3_5, f_3_6, f_8_2, f_8_3, f_8_4, f_8_5, f_16_2, f_18_3, f_18_4, f_18_5, f_18_6, f_23_0, f_23_1, f_23_2, f_23_3, f_23_4, f_24_2, f_24_3, f_24_4, f_24_5, f_33_3, f_33_4, f_33_5, f_33_6, f_38_1, f_38_2, f_41_0, f_161_0, f_161_1, f_161_3, f_161_7, f_161_12, f_161_13, f_161_14, f_161_15, f_161_16, f_161_17, f_161_18, f_161_19, f_161_21, f_161_22, f_161_25, true_and, and_true, true_or, or_true, if_true, if_false, ne_eq, not_false_eq_true, and_self, t10, am_psh, am_clr, not_true_eq_false, Nat.reduceEqDiff]
      rw [c_hasArc_out hx.1.1.2.2 hv]; simp only [r68_0, r68_1, r68_4, r68_7, r68_8, r68_9, r68_10, r68_13, r68_16, r68_18, r68_19, r68_48, r68_49, r68_52, r68_53, r68_54, r68_55, r68_56, r68_59, r68_60, r68_61, r68_62, r68_63, r68_66, r68_67, r68_68, r68_69, r68_71, true_and, and_true, true_or, or_true, if_true, if_false, ne_eq, not_false_eq_true, and_self, t10, am_psh, am_clr, not_true_eq_false, Nat.reduceEqDiff]
    · rw [e131]; simp only [r131_0, r131_1, r131_2, r131_5, r131_8, r131_10, r131_11, r131_12, r131_15, r131_16, r131_19, r131_20, r131_21, r131_22, r131_23, r131_26, r131_27, r131_28, r131_31, r131_32, r131_35, r131_37, r131_38, r131_39, r131_40, r131_43, r131_44, r131_45, r131_48, r131_49, r131_52, r131_54, r131_55, r131_56, r131_57, r131_60, r131_62, s_1, s_2, s_3, s_8, s_16, s_18, s_23, s_24, s_33, s_38, s_41, s_161, f_1_0, f_1_1, f_1_4, f_1_5, f_1_8, f_1_9, f_1_10, f_1_11, f_1_12, f_1_13, f_2_0, f_2_1, f_3_3, f_3_4, f_3_5, f_3_6, f_8_2, f_8_3, f_8_4, f_8_5, f_16_2, f_18_3, f_18_4, f_18_5, f_18_6, f_23_0, f_23_1, f_23_2, f_23_3, f_23_4, f_24_2, f_24_3, f_24_4, f_24_5, f_33_3, f_33_4, f_33_5, f_33_6, f_38_1, f_38_2, f_41_0, f_161_0, f_161_1, f_161_3, f_161_7, f_161_12, f_161_13, f_161_14, f_161_15, f_161_16, f_161_17, f_161_18, f_161_19, f_161_21, f_161_22, f_161_25, true_and, and_true, true_or, or_true, if_true, if_false, ne_eq, not_false_eq_true, and_self, t10, am_psh, am_clr, not_true_eq_false, Nat.reduceEqDiff]
      rw [c_isArc_out hm.1.1.2.2 hn hv]; simp only [r131_0, r131_1, r131_2, r131_5, r131_8, r131_10, r131_11, r131_12, r131_15, r131_16, r131_19, r131_20, r131_21, r131_22, r131_23, r131_26, r131_27, r131_28, r131_31, r131_32, r131_35, r131_37, r131_38, r131_39, r131_40, r131_43, r131_44, r131_45, r131_48, r131_49, r131_52, r131_54, r131_55, r131_56, r131_57, r131_60, r131_62, true_and, and_true, true_or, or_true, if_true, if_false, ne_eq, not_false_eq_true, and_self, t10, am_psh, am_clr, not_true_eq_false, Nat.reduceEqDiff]
  · have x4 : am_ix (cS L) 4 20 (nI v) := ix_nI (k_4 L) (n_4 L) (by omega) (by omega)
    have x5 : am_ix (cS L) 5 20 (nI v) := ix_nI (k_5 L) (n_5 L) (by omega) (by omega)
    have x6 : am_ix (cS L) 6 20 (nI v) := ix_nI (k_6 L) (n_6 L) (by omega) (by omega)
    have cv : (nI v).toNatClampNeg = v := n_cl (by omega)
    obtain ⟨a1, a2, a3⟩ := hx.1.2.1 v hv
    obtain ⟨b1, b2, b3⟩ := hm.1.2.1 v hv
    have fx : ∀ (pc' : Nat), am_tsw 20 [some (.ref 1), some (.int (nI v)), some (.int z), some (.ref 3)] [.int z] 49 0 2 #[28, 35, 42] = some (pc', [some (.ref 1), some (.int (nI v)), some (.int z), some (.ref 3)], []) → ∀ Q : am_Q, am_C 40 68 [.ref 1, .int (nI v), .int z] (cS L) I J Q = am_T 39 68 pc' [some (.ref 1), some (.int (nI v)), some (.int z), some (.ref 3)] [] (cS L) I J Q := fun pc' h Q => by
      rw [e68]; simp only [r68_0, r68_1, r68_4, r68_7, r68_8, r68_9, r68_10, r68_13, r68_16, r68_18, r68_19, r68_48, r68_49, r68_52, r68_53, r68_54, r68_55, r68_56, r68_59, r68_60, r68_61, r68_62, r68_63, r68_66, r68_67, r68_68, r68_69, r68_71, s_1, s_2, s_3, s_8, s_16, s_18, s_23, s_24, s_33, s_38, s_41, s_161, f_1_0, f_1_1, f_1_4, f_1_5, f_1_8, f_1_9, f_1_10, f_1_11, f_1_12, f_1_13, f_2_0, f_2_1, f_3_3, f_3_4, f_3_5, f_3_6, f_8_2, f_8_3, f_8_4, f_8_5, f_16_2, f_18_3, f_18_4, f_18_5, f_18_6, f_23_0, f_23_1, f_23_2, f_23_3, f_23_4, f_24_2, f_24_3, f_24_4, f_24_5, f_33_3, f_33_4, f_33_5, f_33_6, f_38_1, f_38_2, f_41_0, f_161_0, f_161_1, f_161_3, f_161_7, f_161_12, f_161_13, f_161_14, f_161_15, f_161_16, f_161_17, f_161_18, f_161_19, f_161_21, f_161_22, f_161_25, true_and, and_true, true_or, or_true, if_true, if_false, ne_eq, not_false_eq_true, and_self, t10, am_psh, am_clr, not_true_eq_false, Nat.reduceEqDiff]
      rw [c_hasArc_in hx.1.1.2.2 hn hv]; simp only [r68_0, r68_1, r68_4, r68_7, r68_8, r68_9, r68_10, r68_13, r68_16, r68_18, r68_19, r68_48, r68_49, r68_52, r68_53, r68_54, r68_55, r68_56, r68_59, r68_60, r68_61, r68_62, r68_63, r68_66, r68_67, r68_68, r68_69, r68_71, true_and, and_true, true_or, or_true, if_true, if_false, ne_eq, not_false_eq_true, and_self, t10, am_psh, am_clr, not_true_eq_false, Nat.reduceEqDiff]
      exact tr_tsw (n := 28) (by decide +kernel) h
    have fm : ∀ Q : am_Q, am_C 40 131 [.ref 161, .int (nI v), .int z] (cS L) I J Q = Q (some (.int (if z = 0 then nI (gt s.1 v) else if z = 1 then nI (gh s.1 v) else if z = 2 then nI (gc s.1 v) else -103))) (cS L) I J := fun Q => by
      rw [e131]; simp only [r131_0, r131_1, r131_2, r131_5, r131_8, r131_10, r131_11, r131_12, r131_15, r131_16, r131_19, r131_20, r131_21, r131_22, r131_23, r131_26, r131_27, r131_28, r131_31, r131_32, r131_35, r131_37, r131_38, r131_39, r131_40, r131_43, r131_44, r131_45, r131_48, r131_49, r131_52, r131_54, r131_55, r131_56, r131_57, r131_60, r131_62, s_1, s_2, s_3, s_8, s_16, s_18, s_23, s_24, s_33, s_38, s_41, s_161, f_1_0, f_1_1, f_1_4, f_1_5, f_1_8, f_1_9, f_1_10, f_1_11, f_1_12, f_1_13, f_2_0, f_2_1, f_3_3, f_3_4, f_3_5, f_3_6, f_8_2, f_8_3, f_8_4, f_8_5, f_16_2, f_18_3, f_18_4, f_18_5, f_18_6, f_23_0, f_23_1, f_23_2, f_23_3, f_23_4, f_24_2, f_24_3, f_24_4, f_24_5, f_33_3, f_33_4, f_33_5, f_33_6, f_38_1, f_38_2, f_41_0, f_161_0, f_161_1, f_161_3, f_161_7, f_161_12, f_161_13, f_161_14, f_161_15, f_161_16, f_161_17, f_161_18, f_161_19, f_161_21, f_161_22, f_161_25, true_and, and_true, true_or, or_true, if_true, if_false, ne_eq, not_false_eq_true, and_self, t10, am_psh, am_clr, not_true_eq_false, Nat.reduceEqDiff]
      rw [c_isArc_in hm.1.1.2.2 hn hv]; simp only [r131_0, r131_1, r131_2, r131_5, r131_8, r131_10, r131_11, r131_12, r131_15, r131_16, r131_19, r131_20, r131_21, r131_22, r131_23, r131_26, r131_27, r131_28, r131_31, r131_32, r131_35, r131_37, r131_38, r131_39, r131_40, r131_43, r131_44, r131_45, r131_48, r131_49, r131_52, r131_54, r131_55, r131_56, r131_57, r131_60, r131_62, s_1, s_2, s_3, s_8, s_16, s_18, s_23, s_24, s_33, s_38, s_41, s_161, f_1_0, f_1_1, f_1_4, f_1_5, f_1_8, f_1_9, f_1_10, f_1_11, f_1_12, f_1_13, f_2_0, f_2_1, f_3_3, f_3_4, f_3_5, f_3_6, f_8_2, f_8_3, f_8_4, f_8_5, f_16_2, f_18_3, f_18_4, f_18_5, f_18_6, f_23_0, f_23_1, f_23_2, f_23_3, f_23_4, f_24_2, f_24_3, f_24_4, f_24_5, f_33_3, f_33_4, f_33_5, f_33_6, f_38_1, f_38_2, f_41_0, f_161_0, f_161_1, f_161_3, f_161_7, f_161_12, f_161_13, f_161_14, f_161_15, f_161_16, f_161_17, f_161_18, f_161_19, f_161_21, f_161_22, f_161_25, true_and, and_true, true_or, or_true, if_true, if_false, ne_eq, not_false_eq_true, and_self, t10, am_psh, am_clr, not_true_eq_false, Nat.reduceEqDiff, show (3 : Int32) + nI v = nI (3 + v) from nI_add 3 v, show (35 : Int32) + nI v = nI (35 + v) from nI_add 35 v, show (67 : Int32) + nI v = nI (67 + v) from nI_add 67 v, mx (L := L) (3 + v) (by omega), mx (L := L) (35 + v) (by omega), mx (L := L) (67 + v) (by omega), n_cl (show 3 + v < 2 ^ 31 by omega), n_cl (show 35 + v < 2 ^ 31 by omega), n_cl (show 67 + v < 2 ^ 31 by omega), b1, b2, b3]
      by_cases z0 : z = 0
      · simp only [z0, if_true]
      · by_cases z1 : z = 1
        · simp only [z1, t10, if_true, if_false]
        · by_cases z2 : z = 2
          · simp only [z2, if_true]; rfl
          · simp only [z0, z1, z2, if_false]
    by_cases z0 : z = 0
    · subst z0
      refine ⟨nI (gt s.1 v), fun Q => ?_, fun Q => by rw [fm, if_pos rfl]⟩
      rw [fx 48 (by rfl)]; simp only [r68_0, r68_1, r68_4, r68_7, r68_8, r68_9, r68_10, r68_13, r68_16, r68_18, r68_19, r68_48, r68_49, r68_52, r68_53, r68_54, r68_55, r68_56, r68_59, r68_60, r68_61, r68_62, r68_63, r68_66, r68_67, r68_68, r68_69, r68_71, s_1, s_2, s_3, s_8, s_16, s_18, s_23, s_24, s_33, s_38, s_41, s_161, f_1_0, f_1_1, f_1_4, f_1_5, f_1_8, f_1_9, f_1_10, f_1_11, f_1_12, f_1_13, f_2_0, f_2_1, f_3_3, f_3_4, f_3_5, f_3_6, f_8_2, f_8_3, f_8_4, f_8_5, f_16_2, f_18_3, f_18_4, f_18_5, f_18_6, f_23_0, f_23_1, f_23_2, f_23_3, f_23_4, f_24_2, f_24_3, f_24_4, f_24_5, f_33_3, f_33_4, f_33_5, f_33_6, f_38_1, f_38_2, f_41_0, f_161_0, f_161_1, f_161_3, f_161_7, f_161_12, f_161_13, f_161_14, f_161_15, f_161_16, f_161_17, f_161_18, f_161_19, f_161_21, f_161_22, f_161_25, true_and, and_true, true_or, or_true, if_true, if_false, ne_eq, not_false_eq_true, and_self, t10, am_psh, am_clr, not_true_eq_false, Nat.reduceEqDiff, x4, cv, a1]
    · by_cases z1 : z = 1
      · subst z1
        refine ⟨nI (gh s.1 v), fun Q => ?_, fun Q => by rw [fm, if_neg z0, if_pos rfl]⟩
        rw [fx 55 (by rfl)]; simp only [r68_0, r68_1, r68_4, r68_7, r68_8, r68_9, r68_10, r68_13, r68_16, r68_18, r68_19, r68_48, r68_49, r68_52, r68_53, r68_54, r68_55, r68_56, r68_59, r68_60, r68_61, r68_62, r68_63, r68_66, r68_67, r68_68, r68_69, r68_71, s_1, s_2, s_3, s_8, s_16, s_18, s_23, s_24, s_33, s_38, s_41, s_161, f_1_0, f_1_1, f_1_4, f_1_5, f_1_8, f_1_9, f_1_10, f_1_11, f_1_12, f_1_13, f_2_0, f_2_1, f_3_3, f_3_4, f_3_5, f_3_6, f_8_2, f_8_3, f_8_4, f_8_5, f_16_2, f_18_3, f_18_4, f_18_5, f_18_6, f_23_0, f_23_1, f_23_2, f_23_3, f_23_4, f_24_2, f_24_3, f_24_4, f_24_5, f_33_3, f_33_4, f_33_5, f_33_6, f_38_1, f_38_2, f_41_0, f_161_0, f_161_1, f_161_3, f_161_7, f_161_12, f_161_13, f_161_14, f_161_15, f_161_16, f_161_17, f_161_18, f_161_19, f_161_21, f_161_22, f_161_25, true_and, and_true, true_or, or_true, if_true, if_false, ne_eq, not_false_eq_true, and_self, t10, am_psh, am_clr, not_true_eq_false, Nat.reduceEqDiff, x5, cv, a2]
      · by_cases z2 : z = 2
        · subst z2
          refine ⟨nI (gc s.1 v), fun Q => ?_, fun Q => by rw [fm, if_neg z0, if_neg z1, if_pos rfl]⟩
          rw [fx 62 (by rfl)]; simp only [r68_0, r68_1, r68_4, r68_7, r68_8, r68_9, r68_10, r68_13, r68_16, r68_18, r68_19, r68_48, r68_49, r68_52, r68_53, r68_54, r68_55, r68_56, r68_59, r68_60, r68_61, r68_62, r68_63, r68_66, r68_67, r68_68, r68_69, r68_71, s_1, s_2, s_3, s_8, s_16, s_18, s_23, s_24, s_33, s_38, s_41, s_161, f_1_0, f_1_1, f_1_4, f_1_5, f_1_8, f_1_9, f_1_10, f_1_11, f_1_12, f_1_13, f_2_0, f_2_1, f_3_3, f_3_4, f_3_5, f_3_6, f_8_2, f_8_3, f_8_4, f_8_5, f_16_2, f_18_3, f_18_4, f_18_5, f_18_6, f_23_0, f_23_1, f_23_2, f_23_3, f_23_4, f_24_2, f_24_3, f_24_4, f_24_5, f_33_3, f_33_4, f_33_5, f_33_6, f_38_1, f_38_2, f_41_0, f_161_0, f_161_1, f_161_3, f_161_7, f_161_12, f_161_13, f_161_14, f_161_15, f_161_16, f_161_17, f_161_18, f_161_19, f_161_21, f_161_22, f_161_25, true_and, and_true, true_or, or_true, if_true, if_false, ne_eq, not_false_eq_true, and_self, t10, am_psh, am_clr, not_true_eq_false, Nat.reduceEqDiff, x6, cv, a3]
        · refine ⟨-103, fun Q => ?_, fun Q => by rw [fm, if_neg z0, if_neg z1, if_neg z2]⟩
          have hz : z.toInt < 0 ∨ 2 < z.toInt := by
            have n0 : z.toInt ≠ 0 := fun h => z0 (Int32.toInt_inj.mp (h.trans (by decide)))
            have n1 : z.toInt ≠ 1 := fun h => z1 (Int32.toInt_inj.mp (h.trans (by decide)))
            have n2 : z.toInt ≠ 2 := fun h => z2 (Int32.toInt_inj.mp (h.trans (by decide)))
            omega
          rw [fx 69 (by unfold am_tsw; simp only []; rw [if_pos hz]; rfl)]; simp only [r68_0, r68_1, r68_4, r68_7, r68_8, r68_9, r68_10, r68_13, r68_16, r68_18, r68_19, r68_48, r68_49, r68_52, r68_53, r68_54, r68_55, r68_56, r68_59, r68_60, r68_61, r68_62, r68_63, r68_66, r68_67, r68_68, r68_69, r68_71, s_1, s_2, s_3, s_8, s_16, s_18, s_23, s_24, s_33, s_38, s_41, s_161, f_1_0, f_1_1, f_1_4, f_1_5, f_1_8, f_1_9, f_1_10, f_1_11, f_1_12, f_1_13, f_2_0, f_2_1, f_3_3, f_3_4, f_3_5, f_3_6, f_8_2, f_8_3, f_8_4, f_8_5, f_16_2, f_18_3, f_18_4, f_18_5, f_18_6, f_23_0, f_23_1, f_23_2, f_23_3, f_23_4, f_24_2, f_24_3, f_24_4, f_24_5, f_33_3, f_33_4, f_33_5, f_33_6, f_38_1, f_38_2, f_41_0, f_161_0, f_161_1, f_161_3, f_161_7, f_161_12, f_161_13, f_161_14, f_161_15, f_161_16, f_161_17, f_161_18, f_161_19, f_161_21, f_161_22, f_161_25, true_and, and_true, true_or, or_true, if_true, if_false, ne_eq, not_false_eq_true, and_self, t10, am_psh, am_clr, not_true_eq_false, Nat.reduceEqDiff]
end SV
