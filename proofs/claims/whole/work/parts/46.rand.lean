/-! addRandom -/
def rnd (s : Nat) : Nat := (1103515245 * s + 12345) % 2147483648
def rhd (t h : Nat) : Nat := if t ≤ h then h + 1 else h
def rG1 (q : Gr × Nat) : Gr × Nat := (addA q.1 (rnd q.2 / 65536 % gn q.1) (rhd (rnd q.2 / 65536 % gn q.1) (rnd (rnd q.2) / 65536 % (gn q.1 - 1))) (rnd (rnd (rnd q.2)) / 65536 % 100), rnd (rnd (rnd q.2)))
def rG (q : Gr × Nat) : Nat → Gr × Nat
  | 0 => q
  | k + 1 => rG1 (rG q k)
theorem rnd_lt (s : Nat) : rnd s < 2147483648 := Nat.mod_lt _ (by omega)
theorem rG_gn (q : Gr × Nat) (k : Nat) : gn (rG q k).1 = gn q.1 := by
  induction k with
  | zero => rfl
  | succ k ih => exact ih
theorem rG_gm (q : Gr × Nat) (k : Nat) : gm (rG q k).1 = gm q.1 + k := by
  induction k with
  | zero => rfl
  | succ k ih => exact congrArg (· + 1) ih
theorem rG_s (q : Gr × Nat) (k : Nat) (h : q.2 < 2147483648) : (rG q k).2 < 2147483648 := by
  cases k with
  | zero => exact h
  | succ k => exact rnd_lt _
theorem rG_ok (q : Gr × Nat) (h : okG q.1) : ∀ k, gm q.1 + k ≤ 32 → okG (rG q k).1 := by
  intro k
  induction k with
  | zero => intro _; exact h
  | succ k ih =>
    intro hk
    have h1 := ih (by omega)
    have hn := h1.1.1
    have ht : rnd (rG q k).2 / 65536 % gn (rG q k).1 < gn (rG q k).1 := Nat.mod_lt _ (by omega)
    have hh : rnd (rnd (rG q k).2) / 65536 % (gn (rG q k).1 - 1) < gn (rG q k).1 - 1 := Nat.mod_lt _ (by omega)
    have hc : rnd (rnd (rnd (rG q k).2)) / 65536 % 100 < 100 := Nat.mod_lt _ (by omega)
    refine okG_add h1 (by rw [rG_gm]; omega) ht ?_ ?_ (by omega)
    · unfold rhd; split <;> omega
    · unfold rhd; split <;> omega
section RA
variable {d L : Nat} {I I' : am_I} {J J' : am_J} {Q : am_Q}
theorem nz64a : ((2147483648 : Int64) = 0) = False := eq_false (by decide)
theorem nz64b : ((65536 : Int64) = 0) = False := eq_false (by decide)
theorem l_rnd {s : Nat} (h : s < 2147483648) : (1103515245 : Int64) * lN s + 12345 - (1103515245 * lN s + 12345) / 2147483648 * 2147483648 = lN (rnd s) := by
  rw [show (1103515245 : Int64) = lN 1103515245 from rfl, show (12345 : Int64) = lN 12345 from rfl, show (2147483648 : Int64) = lN 2147483648 from rfl, lN_mul, lN_add, pk_lRem (by omega) (by omega) (by omega)]; rfl
theorem lN_nz {n : Nat} (h0 : 0 < n) (h : n < 2 ^ 63) : ¬ lN n = 0 := fun q => absurd ((pk_lEQ (b := 0) h (by omega)).mp q) (by omega)
theorem l_below {s n : Nat} (h : s < 2147483648) (h0 : 0 < n) (hn : n < 2 ^ 31) : (lN s / 65536 - lN s / 65536 / (nI n).toInt64 * (nI n).toInt64).toInt32 = nI (s / 65536 % n) := by
  rw [show (65536 : Int64) = lN 65536 from rfl, nI_l hn, pk_lDiv (by omega) (by omega) (by omega), pk_lRem (by omega) h0 (by omega), lN_i]
theorem c_next {s : Nat} (h : s < 2147483648) (S : am_S) : am_C (d + 1) 107 [.long (lN s)] S I J Q = Q (some (.long (lN (rnd s)))) S I J := by
  rw [e107]
  simp only [r107_0, r107_3, r107_4, r107_5, r107_8, r107_9, r107_12, r107_13, nz64a, ne_eq, not_false_eq_true, true_and, l_rnd h]
theorem c_below {s n : Nat} (h : s < 2147483648) (h0 : 0 < n) (hn : n < 2 ^ 31) (S : am_S) : am_C (d + 1) 108 [.int (nI n), .long (lN s)] S I J Q = Q (some (.int (nI (s / 65536 % n)))) S I J := by
  rw [e108]
  simp only [r108_0, r108_1, r108_2, r108_5, r108_6, r108_9, r108_10, r108_13, r108_14, r108_15, r108_16, r108_17, r108_18, nz64b, ne_eq, not_false_eq_true, true_and, l_below h h0 hn]
  rw [if_pos (show (1 : Int32) ≤ nI n from (nI_leI (a := 1) (by omega) hn).mpr h0), nI_l hn, eq_true (lN_nz h0 (by omega)), true_and]
theorem c_drawn {s n : Nat} (h : s < 2147483648) (h0 : 0 < n) (hn : n < 2 ^ 31) (hJ : J 161 9 = lN s) : am_C (d + 1) 126 [.ref 161, .int (nI n)] (cS L) I J Q = Q (some (.int (nI (rnd s / 65536 % n)))) (cS L) I (am_up J 161 9 (lN (rnd s))) := by
  rw [e126]
  simp only [r126_0, r126_1, r126_4, r126_5, r126_8, r126_9, r126_12, r126_13, r126_16, r126_17, r126_20, r126_21, r126_24, r126_27, r126_28, r126_29, r126_30, r126_31, r126_32, s_1, s_2, s_3, s_8, s_16, s_18, s_23, s_24, s_33, s_38, s_41, s_161, f_1_0, f_1_1, f_1_4, f_1_5, f_1_8, f_1_9, f_1_10, f_1_11, f_1_12, f_1_13, f_2_0, f_2_1, f_3_3, f_3_4, f_3_5, f_3_6, f_8_2, f_8_3, f_8_4, f_8_5, f_16_2, f_18_3, f_18_4, f_18_5, f_18_6, f_23_0, f_23_1, f_23_2, f_23_3, f_23_4, f_24_2, f_24_3, f_24_4, f_24_5, f_33_3, f_33_4, f_33_5, f_33_6, f_38_1, f_38_2, f_41_0, f_161_0, f_161_1, f_161_3, f_161_7, f_161_12, f_161_13, f_161_14, f_161_15, f_161_16, f_161_17, f_161_18, f_161_19, f_161_21, f_161_22, f_161_25, nz64a, nz64b, ne_eq, not_false_eq_true, true_and, hJ, l_rnd h, up_self, l_below (rnd_lt s) h0 hn]
  rw [nI_l hn, eq_true (lN_nz h0 (by omega)), true_and]
theorem nI_head {t h : Nat} (ht : t < 2 ^ 30) (hh : h < 2 ^ 30) : (if nI h < nI t then nI h else nI h + 1) = nI (rhd t h) := by
  unfold rhd
  by_cases e : t ≤ h
  · rw [if_neg (nI_nlt e (by omega)), if_pos e, nI_1]
  · rw [if_pos (nI_lt (by omega) (by omega)), if_neg e]
theorem ra_loop {q : Gr × Nat} {m : Nat} {x : Int32} (hok : okG q.1) (hq : q.2 < 2147483648) (hm : gm q.1 + m ≤ 32) : ∀ (n k : Nat) (I : am_I) (l6 l7 : Option Value), k + n = m → xG I 3 (rG q k).1 → ∃ I', (∀ Q, am_T (d + 1) 106 6 [some (.ref 3), some (.int (nI m)), some (.int x), some (.long (lN (rG q k).2)), none, some (.int (nI k)), l6, l7] [] (cS L) I J Q = Q none (cS L) I' J) ∧ (∀ b, (b < 3 ∨ 6 < b) → I' b = I b) ∧ xG I' 3 (rG q m).1 := by
  intro n
  induction n with
  | zero =>
    intro k I l6 l7 hk hx
    have hk : k = m := by omega
    subst hk
    refine ⟨I, fun Q => ?_, fun _ _ => rfl, hx⟩
    rw [r106_6]
    simp only [r106_8, r106_9, r106_79]
    rw [if_pos (Int32.le_refl _)]
  | succ n ih =>
    intro k I l6 l7 hk hx
    have hokk := rG_ok q hok k (by omega)
    have hs := rG_s q k hq
    have hn1 := hokk.1.1
    have hn2 := hokk.1.2.1
    have hgm : gm (rG q k).1 < 32 := by rw [rG_gm]; omega
    have hx2 : xG (gApp I 3 (gm (rG q k).1) (nI (rnd (rG q k).2 / 65536 % gn (rG q k).1)) (nI (rhd (rnd (rG q k).2 / 65536 % gn (rG q k).1) (rnd (rnd (rG q k).2) / 65536 % (gn (rG q k).1 - 1)))) (nI (rnd (rnd (rnd (rG q k).2)) / 65536 % 100))) 3 (rG q (k + 1)).1 := xG_app hx
    obtain ⟨I', h1, h2, h3⟩ := ih (k + 1) _ (some (.int (nI (rnd (rG q k).2 / 65536 % gn (rG q k).1)))) (some (.int (nI (rhd (rnd (rG q k).2 / 65536 % gn (rG q k).1) (rnd (rnd (rG q k).2) / 65536 % (gn (rG q k).1 - 1)))))) (by omega) hx2
    refine ⟨I', fun Q => ?_, fun b hb => by rw [h2 b hb, gApp_ne (by omega)], h3⟩
    have ht : rnd (rG q k).2 / 65536 % gn (rG q k).1 < gn (rG q k).1 := Nat.mod_lt _ (by omega)
    have hh : rnd (rnd (rG q k).2) / 65536 % (gn (rG q k).1 - 1) < gn (rG q k).1 - 1 := Nat.mod_lt _ (by omega)
    have h1Q := h1 Q
    rw [r106_6]
    simp only [r106_8, r106_9, r106_12, r106_13, r106_16, r106_17, r106_18, r106_21, r106_22, r106_25, r106_27, r106_28, r106_31, r106_32, r106_33, r106_36, r106_37, r106_38, r106_39, r106_42, r106_44, s_1, s_2, s_3, s_8, s_16, s_18, s_23, s_24, s_33, s_38, s_41, s_161, f_1_0, f_1_1, f_1_4, f_1_5, f_1_8, f_1_9, f_1_10, f_1_11, f_1_12, f_1_13, f_2_0, f_2_1, f_3_3, f_3_4, f_3_5, f_3_6, f_8_2, f_8_3, f_8_4, f_8_5, f_16_2, f_18_3, f_18_4, f_18_5, f_18_6, f_23_0, f_23_1, f_23_2, f_23_3, f_23_4, f_24_2, f_24_3, f_24_4, f_24_5, f_33_3, f_33_4, f_33_5, f_33_6, f_38_1, f_38_2, f_41_0, f_161_0, f_161_1, f_161_3, f_161_7, f_161_12, f_161_13, f_161_14, f_161_15, f_161_16, f_161_17, f_161_18, f_161_19, f_161_21, f_161_22, f_161_25, true_and, and_true, true_or, or_true, if_true, if_false, ne_eq, not_false_eq_true, and_self, t10, am_psh, am_clr, not_true_eq_false, Nat.reduceEqDiff, c_next hs, c_next (rnd_lt _), hx.1.1, nI_sub1 (show 0 < gn (rG q k).1 by omega), c_below (rnd_lt _) (show 0 < gn (rG q k).1 by omega) (show gn (rG q k).1 < 2 ^ 31 by omega), c_below (rnd_lt _) (show 0 < gn (rG q k).1 - 1 by omega) (show gn (rG q k).1 - 1 < 2 ^ 31 by omega)]
    rw [if_neg (nI_ge (show k < m by omega) (by omega))]
    have hd100 := fun (I0 : am_I) (J0 : am_J) (Q0 : am_Q) => c_below (d := d) (I := I0) (J := J0) (Q := Q0) (n := 100) (rnd_lt (rnd (rnd (rG q k).2))) (by omega) (by omega) (cS L)
    rw [show nI 100 = (100 : Int32) from rfl] at hd100
    by_cases e : rnd (rG q k).2 / 65536 % gn (rG q k).1 ≤ rnd (rnd (rG q k).2) / 65536 % (gn (rG q k).1 - 1)
    · simp only [r106_46, r106_48, r106_51, r106_54, r106_55, r106_58, r106_59, r106_60, r106_62, r106_64, r106_66, r106_67, s_1, s_2, s_3, s_8, s_16, s_18, s_23, s_24, s_33, s_38, s_41, s_161, f_1_0, f_1_1, f_1_4, f_1_5, f_1_8, f_1_9, f_1_10, f_1_11, f_1_12, f_1_13, f_2_0, f_2_1, f_3_3, f_3_4, f_3_5, f_3_6, f_8_2, f_8_3, f_8_4, f_8_5, f_16_2, f_18_3, f_18_4, f_18_5, f_18_6, f_23_0, f_23_1, f_23_2, f_23_3, f_23_4, f_24_2, f_24_3, f_24_4, f_24_5, f_33_3, f_33_4, f_33_5, f_33_6, f_38_1, f_38_2, f_41_0, f_161_0, f_161_1, f_161_3, f_161_7, f_161_12, f_161_13, f_161_14, f_161_15, f_161_16, f_161_17, f_161_18, f_161_19, f_161_21, f_161_22, f_161_25, true_and, and_true, true_or, or_true, if_true, if_false, ne_eq, not_false_eq_true, and_self, t10, am_psh, am_clr, not_true_eq_false, Nat.reduceEqDiff, c_next (rnd_lt _), nI_1]
      rw [if_neg (nI_nlt e (by omega)), hd100]
      simp only [r106_70, s_1, s_2, s_3, s_8, s_16, s_18, s_23, s_24, s_33, s_38, s_41, s_161, f_1_0, f_1_1, f_1_4, f_1_5, f_1_8, f_1_9, f_1_10, f_1_11, f_1_12, f_1_13, f_2_0, f_2_1, f_3_3, f_3_4, f_3_5, f_3_6, f_8_2, f_8_3, f_8_4, f_8_5, f_16_2, f_18_3, f_18_4, f_18_5, f_18_6, f_23_0, f_23_1, f_23_2, f_23_3, f_23_4, f_24_2, f_24_3, f_24_4, f_24_5, f_33_3, f_33_4, f_33_5, f_33_6, f_38_1, f_38_2, f_41_0, f_161_0, f_161_1, f_161_3, f_161_7, f_161_12, f_161_13, f_161_14, f_161_15, f_161_16, f_161_17, f_161_18, f_161_19, f_161_21, f_161_22, f_161_25, true_and, and_true, true_or, or_true, if_true, if_false, ne_eq, not_false_eq_true, and_self, t10, am_psh, am_clr, not_true_eq_false, Nat.reduceEqDiff]
      rw [c_Gra_append (shG_3 L) hgm hx.1.2.2]
      simp only [r106_73, r106_76, s_1, s_2, s_3, s_8, s_16, s_18, s_23, s_24, s_33, s_38, s_41, s_161, f_1_0, f_1_1, f_1_4, f_1_5, f_1_8, f_1_9, f_1_10, f_1_11, f_1_12, f_1_13, f_2_0, f_2_1, f_3_3, f_3_4, f_3_5, f_3_6, f_8_2, f_8_3, f_8_4, f_8_5, f_16_2, f_18_3, f_18_4, f_18_5, f_18_6, f_23_0, f_23_1, f_23_2, f_23_3, f_23_4, f_24_2, f_24_3, f_24_4, f_24_5, f_33_3, f_33_4, f_33_5, f_33_6, f_38_1, f_38_2, f_41_0, f_161_0, f_161_1, f_161_3, f_161_7, f_161_12, f_161_13, f_161_14, f_161_15, f_161_16, f_161_17, f_161_18, f_161_19, f_161_21, f_161_22, f_161_25, true_and, and_true, true_or, or_true, if_true, if_false, ne_eq, not_false_eq_true, and_self, t10, am_psh, am_clr, not_true_eq_false, Nat.reduceEqDiff, nI_1]
      rw [show rhd (rnd (rG q k).2 / 65536 % gn (rG q k).1) (rnd (rnd (rG q k).2) / 65536 % (gn (rG q k).1 - 1)) = rnd (rnd (rG q k).2) / 65536 % (gn (rG q k).1 - 1) + 1 from if_pos e] at h1Q
      exact h1Q
    · simp only [r106_46, r106_48, r106_51, r106_54, r106_55, r106_58, r106_59, r106_60, r106_62, r106_64, r106_66, r106_67, s_1, s_2, s_3, s_8, s_16, s_18, s_23, s_24, s_33, s_38, s_41, s_161, f_1_0, f_1_1, f_1_4, f_1_5, f_1_8, f_1_9, f_1_10, f_1_11, f_1_12, f_1_13, f_2_0, f_2_1, f_3_3, f_3_4, f_3_5, f_3_6, f_8_2, f_8_3, f_8_4, f_8_5, f_16_2, f_18_3, f_18_4, f_18_5, f_18_6, f_23_0, f_23_1, f_23_2, f_23_3, f_23_4, f_24_2, f_24_3, f_24_4, f_24_5, f_33_3, f_33_4, f_33_5, f_33_6, f_38_1, f_38_2, f_41_0, f_161_0, f_161_1, f_161_3, f_161_7, f_161_12, f_161_13, f_161_14, f_161_15, f_161_16, f_161_17, f_161_18, f_161_19, f_161_21, f_161_22, f_161_25, true_and, and_true, true_or, or_true, if_true, if_false, ne_eq, not_false_eq_true, and_self, t10, am_psh, am_clr, not_true_eq_false, Nat.reduceEqDiff, c_next (rnd_lt _), nI_1]
      rw [if_pos (nI_lt (by omega) (by omega)), hd100]
      simp only [r106_70, s_1, s_2, s_3, s_8, s_16, s_18, s_23, s_24, s_33, s_38, s_41, s_161, f_1_0, f_1_1, f_1_4, f_1_5, f_1_8, f_1_9, f_1_10, f_1_11, f_1_12, f_1_13, f_2_0, f_2_1, f_3_3, f_3_4, f_3_5, f_3_6, f_8_2, f_8_3, f_8_4, f_8_5, f_16_2, f_18_3, f_18_4, f_18_5, f_18_6, f_23_0, f_23_1, f_23_2, f_23_3, f_23_4, f_24_2, f_24_3, f_24_4, f_24_5, f_33_3, f_33_4, f_33_5, f_33_6, f_38_1, f_38_2, f_41_0, f_161_0, f_161_1, f_161_3, f_161_7, f_161_12, f_161_13, f_161_14, f_161_15, f_161_16, f_161_17, f_161_18, f_161_19, f_161_21, f_161_22, f_161_25, true_and, and_true, true_or, or_true, if_true, if_false, ne_eq, not_false_eq_true, and_self, t10, am_psh, am_clr, not_true_eq_false, Nat.reduceEqDiff]
      rw [c_Gra_append (shG_3 L) hgm hx.1.2.2]
      simp only [r106_73, r106_76, s_1, s_2, s_3, s_8, s_16, s_18, s_23, s_24, s_33, s_38, s_41, s_161, f_1_0, f_1_1, f_1_4, f_1_5, f_1_8, f_1_9, f_1_10, f_1_11, f_1_12, f_1_13, f_2_0, f_2_1, f_3_3, f_3_4, f_3_5, f_3_6, f_8_2, f_8_3, f_8_4, f_8_5, f_16_2, f_18_3, f_18_4, f_18_5, f_18_6, f_23_0, f_23_1, f_23_2, f_23_3, f_23_4, f_24_2, f_24_3, f_24_4, f_24_5, f_33_3, f_33_4, f_33_5, f_33_6, f_38_1, f_38_2, f_41_0, f_161_0, f_161_1, f_161_3, f_161_7, f_161_12, f_161_13, f_161_14, f_161_15, f_161_16, f_161_17, f_161_18, f_161_19, f_161_21, f_161_22, f_161_25, true_and, and_true, true_or, or_true, if_true, if_false, ne_eq, not_false_eq_true, and_self, t10, am_psh, am_clr, not_true_eq_false, Nat.reduceEqDiff, nI_1]
      rw [show rhd (rnd (rG q k).2 / 65536 % gn (rG q k).1) (rnd (rnd (rG q k).2) / 65536 % (gn (rG q k).1 - 1)) = rnd (rnd (rG q k).2) / 65536 % (gn (rG q k).1 - 1) from if_neg e] at h1Q
      exact h1Q
theorem rm_loop {q : Gr × Nat} {m : Nat} {x : Int32} (hok : okG q.1) (hq : q.2 < 2147483648) (hm : gm q.1 + m ≤ 32) : ∀ (n k : Nat) (I : am_I) (J : am_J) (l4 l5 : Option Value), k + n = m → mG (I 162) (rG q k).1 → J 161 9 = lN (rG q k).2 → ∃ I' J' l4' l5', (∀ Q, am_T (d + 1) 127 45 [some (.ref 161), some (.int (nI m)), some (.int x), some (.int (nI k)), l4, l5] [] (cS L) I J Q = am_T (d + 1) 127 110 [some (.ref 161), some (.int (nI m)), some (.int x), some (.int (nI m)), l4', l5'] [] (cS L) I' J' Q) ∧ (∀ b, b ≠ 162 → I' b = I b) ∧ (∀ j, 99 ≤ j → I' 162 j = I 162 j) ∧ mG (I' 162) (rG q m).1 := by
  intro n
  induction n with
  | zero =>
    intro k I J l4 l5 hk hx hJ
    have hk : k = m := by omega
    subst hk
    refine ⟨I, J, l4, l5, fun Q => ?_, fun _ _ => rfl, fun _ _ => rfl, hx⟩
    rw [r127_45]
    simp only [r127_46, r127_47]
    rw [if_pos (Int32.le_refl _)]
  | succ n ih =>
    intro k I J l4 l5 hk hx hJ
    have hokk := rG_ok q hok k (by omega)
    have hs := rG_s q k hq
    have hn1 := hokk.1.1
    have hn2 := hokk.1.2.1
    have hgm : gm (rG q k).1 < 32 := by rw [rG_gm]; omega
    have hx2 : mG (wApp (I 162) (gm (rG q k).1) (nI (rnd (rG q k).2 / 65536 % gn (rG q k).1)) (nI (rhd (rnd (rG q k).2 / 65536 % gn (rG q k).1) (rnd (rnd (rG q k).2) / 65536 % (gn (rG q k).1 - 1)))) (nI (rnd (rnd (rnd (rG q k).2)) / 65536 % 100))) (rG q (k + 1)).1 := mG_app hx hgm
    obtain ⟨I', J', l4', l5', h1, h2, h2', h3⟩ := ih (k + 1) (am_row I 162 (wApp (I 162) (gm (rG q k).1) (nI (rnd (rG q k).2 / 65536 % gn (rG q k).1)) (nI (rhd (rnd (rG q k).2 / 65536 % gn (rG q k).1) (rnd (rnd (rG q k).2) / 65536 % (gn (rG q k).1 - 1)))) (nI (rnd (rnd (rnd (rG q k).2)) / 65536 % 100)))) (am_up (am_up (am_up J 161 9 (lN (rnd (rG q k).2))) 161 9 (lN (rnd (rnd (rG q k).2)))) 161 9 (lN (rnd (rnd (rnd (rG q k).2))))) (some (.int (nI (rnd (rG q k).2 / 65536 % gn (rG q k).1)))) (some (.int (nI (rnd (rnd (rG q k).2) / 65536 % (gn (rG q k).1 - 1))))) (by omega) (by rw [am_row_eq]; exact hx2) (up_self _ _ _ _)
    refine ⟨I', J', l4', l5', fun Q => ?_, fun b hb => by rw [h2 b hb, am_row_ne hb], fun j hj => by rw [h2' j hj, am_row_eq, wApp_hi hj hgm], h3⟩
    have ht : rnd (rG q k).2 / 65536 % gn (rG q k).1 < gn (rG q k).1 := Nat.mod_lt _ (by omega)
    have hh : rnd (rnd (rG q k).2) / 65536 % (gn (rG q k).1 - 1) < gn (rG q k).1 - 1 := Nat.mod_lt _ (by omega)
    have h1Q := h1 Q
    rw [r127_45]
    simp only [r127_46, r127_47, r127_50, r127_51, r127_52, r127_55, r127_56, r127_57, s_1, s_2, s_3, s_8, s_16, s_18, s_23, s_24, s_33, s_38, s_41, s_161, f_1_0, f_1_1, f_1_4, f_1_5, f_1_8, f_1_9, f_1_10, f_1_11, f_1_12, f_1_13, f_2_0, f_2_1, f_3_3, f_3_4, f_3_5, f_3_6, f_8_2, f_8_3, f_8_4, f_8_5, f_16_2, f_18_3, f_18_4, f_18_5, f_18_6, f_23_0, f_23_1, f_23_2, f_23_3, f_23_4, f_24_2, f_24_3, f_24_4, f_24_5, f_33_3, f_33_4, f_33_5, f_33_6, f_38_1, f_38_2, f_41_0, f_161_0, f_161_1, f_161_3, f_161_7, f_161_12, f_161_13, f_161_14, f_161_15, f_161_16, f_161_17, f_161_18, f_161_19, f_161_21, f_161_22, f_161_25, true_and, and_true, true_or, or_true, if_true, if_false, ne_eq, not_false_eq_true, and_self, t10, am_psh, am_clr, not_true_eq_false, Nat.reduceEqDiff, show am_ix (cS L) 162 20 0 from mx 0 (by omega), show (0 : Int32).toNatClampNeg = 0 from by decide, hx.1.1]
    rw [if_neg (nI_ge (show k < m by omega) (by omega)), c_drawn hs (by omega) (by omega) hJ]
    simp only [r127_60, r127_62, r127_63, r127_64, r127_67, r127_68, r127_69, r127_70, r127_71, s_1, s_2, s_3, s_8, s_16, s_18, s_23, s_24, s_33, s_38, s_41, s_161, f_1_0, f_1_1, f_1_4, f_1_5, f_1_8, f_1_9, f_1_10, f_1_11, f_1_12, f_1_13, f_2_0, f_2_1, f_3_3, f_3_4, f_3_5, f_3_6, f_8_2, f_8_3, f_8_4, f_8_5, f_16_2, f_18_3, f_18_4, f_18_5, f_18_6, f_23_0, f_23_1, f_23_2, f_23_3, f_23_4, f_24_2, f_24_3, f_24_4, f_24_5, f_33_3, f_33_4, f_33_5, f_33_6, f_38_1, f_38_2, f_41_0, f_161_0, f_161_1, f_161_3, f_161_7, f_161_12, f_161_13, f_161_14, f_161_15, f_161_16, f_161_17, f_161_18, f_161_19, f_161_21, f_161_22, f_161_25, true_and, and_true, true_or, or_true, if_true, if_false, ne_eq, not_false_eq_true, and_self, t10, am_psh, am_clr, not_true_eq_false, Nat.reduceEqDiff, show am_ix (cS L) 162 20 0 from mx 0 (by omega), show (0 : Int32).toNatClampNeg = 0 from by decide, hx.1.1, nI_sub1 (show 0 < gn (rG q k).1 by omega)]
    rw [c_drawn (rnd_lt _) (by omega) (by omega) (up_self _ _ _ _)]
    simp only [r127_74, r127_76, r127_77, r127_79, r127_81, s_1, s_2, s_3, s_8, s_16, s_18, s_23, s_24, s_33, s_38, s_41, s_161, f_1_0, f_1_1, f_1_4, f_1_5, f_1_8, f_1_9, f_1_10, f_1_11, f_1_12, f_1_13, f_2_0, f_2_1, f_3_3, f_3_4, f_3_5, f_3_6, f_8_2, f_8_3, f_8_4, f_8_5, f_16_2, f_18_3, f_18_4, f_18_5, f_18_6, f_23_0, f_23_1, f_23_2, f_23_3, f_23_4, f_24_2, f_24_3, f_24_4, f_24_5, f_33_3, f_33_4, f_33_5, f_33_6, f_38_1, f_38_2, f_41_0, f_161_0, f_161_1, f_161_3, f_161_7, f_161_12, f_161_13, f_161_14, f_161_15, f_161_16, f_161_17, f_161_18, f_161_19, f_161_21, f_161_22, f_161_25, true_and, and_true, true_or, or_true, if_true, if_false, ne_eq, not_false_eq_true, and_self, t10, am_psh, am_clr, not_true_eq_false, Nat.reduceEqDiff]
    have hd100 := fun (I0 : am_I) (J0 : am_J) (Q0 : am_Q) (hJ0 : J0 161 9 = lN (rnd (rnd (rG q k).2))) => c_drawn (d := d) (L := L) (I := I0) (J := J0) (Q := Q0) (n := 100) (rnd_lt (rnd (rG q k).2)) (by omega) (by omega) hJ0
    rw [show nI 100 = (100 : Int32) from rfl] at hd100
    by_cases e : rnd (rG q k).2 / 65536 % gn (rG q k).1 ≤ rnd (rnd (rG q k).2) / 65536 % (gn (rG q k).1 - 1)
    · simp only [r127_83, s_1, s_2, s_3, s_8, s_16, s_18, s_23, s_24, s_33, s_38, s_41, s_161, f_1_0, f_1_1, f_1_4, f_1_5, f_1_8, f_1_9, f_1_10, f_1_11, f_1_12, f_1_13, f_2_0, f_2_1, f_3_3, f_3_4, f_3_5, f_3_6, f_8_2, f_8_3, f_8_4, f_8_5, f_16_2, f_18_3, f_18_4, f_18_5, f_18_6, f_23_0, f_23_1, f_23_2, f_23_3, f_23_4, f_24_2, f_24_3, f_24_4, f_24_5, f_33_3, f_33_4, f_33_5, f_33_6, f_38_1, f_38_2, f_41_0, f_161_0, f_161_1, f_161_3, f_161_7, f_161_12, f_161_13, f_161_14, f_161_15, f_161_16, f_161_17, f_161_18, f_161_19, f_161_21, f_161_22, f_161_25, true_and, and_true, true_or, or_true, if_true, if_false, ne_eq, not_false_eq_true, and_self, t10, am_psh, am_clr, not_true_eq_false, Nat.reduceEqDiff, nI_1]
      rw [if_neg (nI_nlt e (by omega))]
      simp only [r127_86, r127_88, r127_89, r127_90, r127_93, r127_95, r127_96, r127_98, s_1, s_2, s_3, s_8, s_16, s_18, s_23, s_24, s_33, s_38, s_41, s_161, f_1_0, f_1_1, f_1_4, f_1_5, f_1_8, f_1_9, f_1_10, f_1_11, f_1_12, f_1_13, f_2_0, f_2_1, f_3_3, f_3_4, f_3_5, f_3_6, f_8_2, f_8_3, f_8_4, f_8_5, f_16_2, f_18_3, f_18_4, f_18_5, f_18_6, f_23_0, f_23_1, f_23_2, f_23_3, f_23_4, f_24_2, f_24_3, f_24_4, f_24_5, f_33_3, f_33_4, f_33_5, f_33_6, f_38_1, f_38_2, f_41_0, f_161_0, f_161_1, f_161_3, f_161_7, f_161_12, f_161_13, f_161_14, f_161_15, f_161_16, f_161_17, f_161_18, f_161_19, f_161_21, f_161_22, f_161_25, true_and, and_true, true_or, or_true, if_true, if_false, ne_eq, not_false_eq_true, and_self, t10, am_psh, am_clr, not_true_eq_false, Nat.reduceEqDiff, nI_1]
      rw [hd100 _ _ _ (up_self _ _ _ _)]
      simp only [r127_101, s_1, s_2, s_3, s_8, s_16, s_18, s_23, s_24, s_33, s_38, s_41, s_161, f_1_0, f_1_1, f_1_4, f_1_5, f_1_8, f_1_9, f_1_10, f_1_11, f_1_12, f_1_13, f_2_0, f_2_1, f_3_3, f_3_4, f_3_5, f_3_6, f_8_2, f_8_3, f_8_4, f_8_5, f_16_2, f_18_3, f_18_4, f_18_5, f_18_6, f_23_0, f_23_1, f_23_2, f_23_3, f_23_4, f_24_2, f_24_3, f_24_4, f_24_5, f_33_3, f_33_4, f_33_5, f_33_6, f_38_1, f_38_2, f_41_0, f_161_0, f_161_1, f_161_3, f_161_7, f_161_12, f_161_13, f_161_14, f_161_15, f_161_16, f_161_17, f_161_18, f_161_19, f_161_21, f_161_22, f_161_25, true_and, and_true, true_or, or_true, if_true, if_false, ne_eq, not_false_eq_true, and_self, t10, am_psh, am_clr, not_true_eq_false, Nat.reduceEqDiff]
      rw [c_Mod_append hgm hx.1.2.2]
      simp only [r127_104, r127_107, s_1, s_2, s_3, s_8, s_16, s_18, s_23, s_24, s_33, s_38, s_41, s_161, f_1_0, f_1_1, f_1_4, f_1_5, f_1_8, f_1_9, f_1_10, f_1_11, f_1_12, f_1_13, f_2_0, f_2_1, f_3_3, f_3_4, f_3_5, f_3_6, f_8_2, f_8_3, f_8_4, f_8_5, f_16_2, f_18_3, f_18_4, f_18_5, f_18_6, f_23_0, f_23_1, f_23_2, f_23_3, f_23_4, f_24_2, f_24_3, f_24_4, f_24_5, f_33_3, f_33_4, f_33_5, f_33_6, f_38_1, f_38_2, f_41_0, f_161_0, f_161_1, f_161_3, f_161_7, f_161_12, f_161_13, f_161_14, f_161_15, f_161_16, f_161_17, f_161_18, f_161_19, f_161_21, f_161_22, f_161_25, true_and, and_true, true_or, or_true, if_true, if_false, ne_eq, not_false_eq_true, and_self, t10, am_psh, am_clr, not_true_eq_false, Nat.reduceEqDiff, nI_1]
      rw [show rhd (rnd (rG q k).2 / 65536 % gn (rG q k).1) (rnd (rnd (rG q k).2) / 65536 % (gn (rG q k).1 - 1)) = rnd (rnd (rG q k).2) / 65536 % (gn (rG q k).1 - 1) + 1 from if_pos e] at h1Q
      exact h1Q
    · simp only [r127_83, s_1, s_2, s_3, s_8, s_16, s_18, s_23, s_24, s_33, s_38, s_41, s_161, f_1_0, f_1_1, f_1_4, f_1_5, f_1_8, f_1_9, f_1_10, f_1_11, f_1_12, f_1_13, f_2_0, f_2_1, f_3_3, f_3_4, f_3_5, f_3_6, f_8_2, f_8_3, f_8_4, f_8_5, f_16_2, f_18_3, f_18_4, f_18_5, f_18_6, f_23_0, f_23_1, f_23_2, f_23_3, f_23_4, f_24_2, f_24_3, f_24_4, f_24_5, f_33_3, f_33_4, f_33_5, f_33_6, f_38_1, f_38_2, f_41_0, f_161_0, f_161_1, f_161_3, f_161_7, f_161_12, f_161_13, f_161_14, f_161_15, f_161_16, f_161_17, f_161_18, f_161_19, f_161_21, f_161_22, f_161_25, true_and, and_true, true_or, or_true, if_true, if_false, ne_eq, not_false_eq_true, and_self, t10, am_psh, am_clr, not_true_eq_false, Nat.reduceEqDiff, nI_1]
      rw [if_pos (nI_lt (by omega) (by omega))]
      simp only [r127_86, r127_88, r127_89, r127_90, r127_93, r127_95, r127_96, r127_98, s_1, s_2, s_3, s_8, s_16, s_18, s_23, s_24, s_33, s_38, s_41, s_161, f_1_0, f_1_1, f_1_4, f_1_5, f_1_8, f_1_9, f_1_10, f_1_11, f_1_12, f_1_13, f_2_0, f_2_1, f_3_3, f_3_4, f_3_5, f_3_6, f_8_2, f_8_3, f_8_4, f_8_5, f_16_2, f_18_3, f_18_4, f_18_5, f_18_6, f_23_0, f_23_1, f_23_2, f_23_3, f_23_4, f_24_2, f_24_3, f_24_4, f_24_5, f_33_3, f_33_4, f_33_5, f_33_6, f_38_1, f_38_2, f_41_0, f_161_0, f_161_1, f_161_3, f_161_7, f_161_12, f_161_13, f_161_14, f_161_15, f_161_16, f_161_17, f_161_18, f_161_19, f_161_21, f_161_22, f_161_25, true_and, and_true, true_or, or_true, if_true, if_false, ne_eq, not_false_eq_true, and_self, t10, am_psh, am_clr, not_true_eq_false, Nat.reduceEqDiff, nI_1]
      rw [hd100 _ _ _ (up_self _ _ _ _)]
      simp only [r127_101, s_1, s_2, s_3, s_8, s_16, s_18, s_23, s_24, s_33, s_38, s_41, s_161, f_1_0, f_1_1, f_1_4, f_1_5, f_1_8, f_1_9, f_1_10, f_1_11, f_1_12, f_1_13, f_2_0, f_2_1, f_3_3, f_3_4, f_3_5, f_3_6, f_8_2, f_8_3, f_8_4, f_8_5, f_16_2, f_18_3, f_18_4, f_18_5, f_18_6, f_23_0, f_23_1, f_23_2, f_23_3, f_23_4, f_24_2, f_24_3, f_24_4, f_24_5, f_33_3, f_33_4, f_33_5, f_33_6, f_38_1, f_38_2, f_41_0, f_161_0, f_161_1, f_161_3, f_161_7, f_161_12, f_161_13, f_161_14, f_161_15, f_161_16, f_161_17, f_161_18, f_161_19, f_161_21, f_161_22, f_161_25, true_and, and_true, true_or, or_true, if_true, if_false, ne_eq, not_false_eq_true, and_self, t10, am_psh, am_clr, not_true_eq_false, Nat.reduceEqDiff]
      rw [c_Mod_append hgm hx.1.2.2]
      simp only [r127_104, r127_107, s_1, s_2, s_3, s_8, s_16, s_18, s_23, s_24, s_33, s_38, s_41, s_161, f_1_0, f_1_1, f_1_4, f_1_5, f_1_8, f_1_9, f_1_10, f_1_11, f_1_12, f_1_13, f_2_0, f_2_1, f_3_3, f_3_4, f_3_5, f_3_6, f_8_2, f_8_3, f_8_4, f_8_5, f_16_2, f_18_3, f_18_4, f_18_5, f_18_6, f_23_0, f_23_1, f_23_2, f_23_3, f_23_4, f_24_2, f_24_3, f_24_4, f_24_5, f_33_3, f_33_4, f_33_5, f_33_6, f_38_1, f_38_2, f_41_0, f_161_0, f_161_1, f_161_3, f_161_7, f_161_12, f_161_13, f_161_14, f_161_15, f_161_16, f_161_17, f_161_18, f_161_19, f_161_21, f_161_22, f_161_25, true_and, and_true, true_or, or_true, if_true, if_false, ne_eq, not_false_eq_true, and_self, t10, am_psh, am_clr, not_true_eq_false, Nat.reduceEqDiff, nI_1]
      rw [show rhd (rnd (rG q k).2 / 65536 % gn (rG q k).1) (rnd (rnd (rG q k).2) / 65536 % (gn (rG q k).1 - 1)) = rnd (rnd (rG q k).2) / 65536 % (gn (rG q k).1 - 1) from if_neg e] at h1Q
      exact h1Q
set_option maxHeartbeats 4000000 in
theorem op_addRandom (x z : Int32) : am_OK L Inv 64 127 [.int x, .int z] := by
  intro I J hI
  have hI0 := hI
  obtain ⟨s, hs, s0, s1, n, tx, hok, hx, hm, hl, hh, hsl, hru, htx⟩ := hI
  obtain ⟨hO, hhM, o, ho, hhX⟩ := xH_iff.mp hh
  have hn := hok.1.1.2.1
  have hm32 := hok.1.1.2.2.2
  rcases rng x 1 8 (by omega) (by omega) with hv | ⟨m, hm1, hm2, rfl⟩
  · refine ok_same hI0 (x := -103) (fun Q => ?_) (fun Q => ?_)
    · rw [e64]; simp only [r64_0, r64_1, r64_2, r64_5, r64_6, r64_8, r64_11, r64_12, r64_15, r64_17, s_1, s_2, s_3, s_8, s_16, s_18, s_23, s_24, s_33, s_38, s_41, s_161, f_1_0, f_1_1, f_1_4, f_1_5, f_1_8, f_1_9, f_1_10, f_1_11, f_1_12, f_1_13, f_2_0, f_2_1, f_3_3, f_3_4, f_3_5, f_3_6, f_8_2, f_8_3, f_8_4, f_8_5, f_16_2, f_18_3, f_18_4, f_18_5, f_18_6, f_23_0, f_23_1, f_23_2, f_23_3, f_23_4, f_24_2, f_24_3, f_24_4, f_24_5, f_33_3, f_33_4, f_33_5, f_33_6, f_38_1, f_38_2, f_41_0, f_161_0, f_161_1, f_161_3, f_161_7, f_161_12, f_161_13, f_161_14, f_161_15, f_161_16, f_161_17, f_161_18, f_161_19, f_161_21, f_161_22, f_161_25, true_and, and_true, true_or, or_true, if_true, if_false, ne_eq, not_false_eq_true, and_self, t10, am_psh, am_clr, not_true_eq_false, Nat.reduceEqDiff]
      rcases hv with g | ⟨g1, g2⟩
      · rw [if_pos (show x < 1 from g)]
      · rw [if_neg (show ¬ x < 1 from g1), if_pos (show 8 < x from g2)]
    · rw [e127]; simp only [r127_0, r127_1, r127_2, r127_4, r127_7, r127_10, r127_11, r127_14, r127_16, s_1, s_2, s_3, s_8, s_16, s_18, s_23, s_24, s_33, s_38, s_41, s_161, f_1_0, f_1_1, f_1_4, f_1_5, f_1_8, f_1_9, f_1_10, f_1_11, f_1_12, f_1_13, f_2_0, f_2_1, f_3_3, f_3_4, f_3_5, f_3_6, f_8_2, f_8_3, f_8_4, f_8_5, f_16_2, f_18_3, f_18_4, f_18_5, f_18_6, f_23_0, f_23_1, f_23_2, f_23_3, f_23_4, f_24_2, f_24_3, f_24_4, f_24_5, f_33_3, f_33_4, f_33_5, f_33_6, f_38_1, f_38_2, f_41_0, f_161_0, f_161_1, f_161_3, f_161_7, f_161_12, f_161_13, f_161_14, f_161_15, f_161_16, f_161_17, f_161_18, f_161_19, f_161_21, f_161_22, f_161_25, true_and, and_true, true_or, or_true, if_true, if_false, ne_eq, not_false_eq_true, and_self, t10, am_psh, am_clr, not_true_eq_false, Nat.reduceEqDiff, c_isIn]
      rcases hv with g | ⟨g1, g2⟩
      · rw [if_pos (show x < 1 from g)]
      · rw [if_neg (show ¬ x < 1 from g1), if_pos (show 8 < x from g2)]
  have c1 : ¬ nI m < 1 := nlt_n (a := 1) (by omega) hm1
  have c2 : ¬ 8 < nI m := fun q => absurd ((nI_ltI (a := 8) (by omega) (by omega)).mp q) (by omega)
  by_cases hz : z < 0
  · refine ok_same hI0 (x := -103) (fun Q => ?_) (fun Q => ?_)
    · rw [e64]; simp only [r64_0, r64_1, r64_2, r64_5, r64_6, r64_8, r64_11, r64_12, r64_15, r64_17, s_1, s_2, s_3, s_8, s_16, s_18, s_23, s_24, s_33, s_38, s_41, s_161, f_1_0, f_1_1, f_1_4, f_1_5, f_1_8, f_1_9, f_1_10, f_1_11, f_1_12, f_1_13, f_2_0, f_2_1, f_3_3, f_3_4, f_3_5, f_3_6, f_8_2, f_8_3, f_8_4, f_8_5, f_16_2, f_18_3, f_18_4, f_18_5, f_18_6, f_23_0, f_23_1, f_23_2, f_23_3, f_23_4, f_24_2, f_24_3, f_24_4, f_24_5, f_33_3, f_33_4, f_33_5, f_33_6, f_38_1, f_38_2, f_41_0, f_161_0, f_161_1, f_161_3, f_161_7, f_161_12, f_161_13, f_161_14, f_161_15, f_161_16, f_161_17, f_161_18, f_161_19, f_161_21, f_161_22, f_161_25, true_and, and_true, true_or, or_true, if_true, if_false, ne_eq, not_false_eq_true, and_self, t10, am_psh, am_clr, not_true_eq_false, Nat.reduceEqDiff]
      rw [if_neg c1, if_neg c2, if_neg (Int32.not_le.mpr hz)]
    · rw [e127]; simp only [r127_0, r127_1, r127_2, r127_4, r127_7, r127_10, r127_11, r127_14, r127_16, s_1, s_2, s_3, s_8, s_16, s_18, s_23, s_24, s_33, s_38, s_41, s_161, f_1_0, f_1_1, f_1_4, f_1_5, f_1_8, f_1_9, f_1_10, f_1_11, f_1_12, f_1_13, f_2_0, f_2_1, f_3_3, f_3_4, f_3_5, f_3_6, f_8_2, f_8_3, f_8_4, f_8_5, f_16_2, f_18_3, f_18_4, f_18_5, f_18_6, f_23_0, f_23_1, f_23_2, f_23_3, f_23_4, f_24_2, f_24_3, f_24_4, f_24_5, f_33_3, f_33_4, f_33_5, f_33_6, f_38_1, f_38_2, f_41_0, f_161_0, f_161_1, f_161_3, f_161_7, f_161_12, f_161_13, f_161_14, f_161_15, f_161_16, f_161_17, f_161_18, f_161_19, f_161_21, f_161_22, f_161_25, true_and, and_true, true_or, or_true, if_true, if_false, ne_eq, not_false_eq_true, and_self, t10, am_psh, am_clr, not_true_eq_false, Nat.reduceEqDiff, c_isIn]
      rw [if_neg c1, if_neg c2, if_neg (Int32.not_le.mpr hz)]
  obtain ⟨k0, hk0, rfl⟩ := nI_of hz
  have c3 : (0 : Int32) ≤ nI k0 := nI_pos' hk0
  by_cases hmm : gm s.1 + m ≤ 32
  · obtain ⟨I1, o1, k1, k2, k3, k4, k5, k6, k7⟩ := c_keep (d := 35) (L := L) (J := J) hok hx ho hhX hO.1
    have e3 : ∀ b, 3 ≤ b → b ≤ 12 → I1 b = I b := fun b b1 b2 => k4 b (by omega) (by omega) (by omega)
    have hx1 : xS I1 3 8 s := xS_congr (fun b b1 b2 => e3 b (by omega) (by omega)) (fun b b1 b2 => e3 b (by omega) (by omega)) hx
    obtain ⟨I1a, hfX, hf1, hf2⟩ := ra_loop (d := 37) (L := L) (J := J) (q := (s.1, k0)) (m := m) (x := nI k0) hok.1 (show k0 < 2147483648 by omega) hmm m 0 I1 none none (by omega) hx1.1
    obtain ⟨I2, m1, m2, m3, m4⟩ := c_settle_F (d := 38) (L := L) (J := J) (I := I1a) (by rw [hf1 8 (by omega)]; exact xS_01 hx1)
    have f2 : ∀ b, b ≠ 1 → (b < 3 ∨ 6 < b) → b ≠ 8 → b ≠ 33 → (b < 52 ∨ 139 ≤ b) → I2 b = I b := fun b b1 b2 b3 b4 b5 => by rw [m3 b b3, hf1 b b2, k4 b b1 b4 b5]
    have g161 : I2 161 = I 161 := f2 161 (by omega) (by omega) (by omega) (by omega) (by omega)
    have g162 : I2 162 = I 162 := f2 162 (by omega) (by omega) (by omega) (by omega) (by omega)
    obtain ⟨I3, p1, p2, p3, p4⟩ := c_Mkeep (d := 38) (L := L) (J := J) (I := I2) (hs := hs) hok (by rw [g162]; exact hm) (hM_congr (by rw [g161]) (f2 163 (by omega) (by omega) (by omega) (by omega) (by omega)) hhM) hO
    have e162 : I3 162 = I 162 := by rw [p3 162 (by omega) (by omega), g162]
    obtain ⟨I3a, J3a, l4, l5, q1, q2, q2', q3⟩ := rm_loop (d := 38) (L := L) (q := (s.1, k0)) (m := m) (x := nI k0) hok.1 (show k0 < 2147483648 by omega) hmm m 0 I3 (am_up J 161 9 (lN k0)) none none (by omega) (by rw [e162]; exact hm.1) (up_self _ _ _ _)
    obtain ⟨I4, j1, j2, j3, j4⟩ := c_judge_F (d := 38) (L := L) (J := J3a) (I := I3a) (by rw [q2' 107 (by omega), e162]; exact mS_01 hm)
    have f4 : ∀ b, b ≠ 161 → b ≠ 162 → b ≠ 163 → I4 b = I2 b := fun b b1 b2 b3 => by rw [j2 b b2, q2 b b2, p3 b b1 b3]
    have f41 : I4 161 = I3 161 := by rw [j2 161 (by omega), q2 161 (by omega)]
    have f21 : I2 1 = I1 1 := by rw [m3 1 (by omega), hf1 1 (by omega)]
    have hgG : gm (rG (s.1, k0) m).1 = gm s.1 + m := rG_gm _ _
    have cle : nI (gm s.1) + nI m ≤ 32 := by rw [nI_add]; exact (nI_leI (b := 32) (by omega) (by omega)).mpr hmm
    refine ⟨.int (nI (gm s.1 + m)), I2, J, I4, J3a, fun Q => ?_, f2 0 (by omega) (by omega) (by omega) (by omega) (by omega), fun Q => ?_, by rw [f4 0 (by omega) (by omega) (by omega), f2 0 (by omega) (by omega) (by omega) (by omega) (by omega)], ?_, _, rfl⟩
    · rw [e64]; simp only [r64_0, r64_1, r64_2, r64_5, r64_6, r64_8, r64_11, r64_12, r64_15, r64_17, r64_18, r64_19, r64_22, r64_25, r64_28, r64_29, r64_30, r64_32, r64_35, r64_37, r64_38, r64_39, s_1, s_2, s_3, s_8, s_16, s_18, s_23, s_24, s_33, s_38, s_41, s_161, f_1_0, f_1_1, f_1_4, f_1_5, f_1_8, f_1_9, f_1_10, f_1_11, f_1_12, f_1_13, f_2_0, f_2_1, f_3_3, f_3_4, f_3_5, f_3_6, f_8_2, f_8_3, f_8_4, f_8_5, f_16_2, f_18_3, f_18_4, f_18_5, f_18_6, f_23_0, f_23_1, f_23_2, f_23_3, f_23_4, f_24_2, f_24_3, f_24_4, f_24_5, f_33_3, f_33_4, f_33_5, f_33_6, f_38_1, f_38_2, f_41_0, f_161_0, f_161_1, f_161_3, f_161_7, f_161_12, f_161_13, f_161_14, f_161_15, f_161_16, f_161_17, f_161_18, f_161_19, f_161_21, f_161_22, f_161_25, true_and, and_true, true_or, or_true, if_true, if_false, ne_eq, not_false_eq_true, and_self, t10, am_psh, am_clr, not_true_eq_false, Nat.reduceEqDiff, hx.1.1.2.2]
      rw [if_neg c1, if_neg c2, if_pos c3, if_pos cle, k1]
      simp only [r64_42, r64_43, r64_46, r64_49, r64_50, r64_51, s_1, s_2, s_3, s_8, s_16, s_18, s_23, s_24, s_33, s_38, s_41, s_161, f_1_0, f_1_1, f_1_4, f_1_5, f_1_8, f_1_9, f_1_10, f_1_11, f_1_12, f_1_13, f_2_0, f_2_1, f_3_3, f_3_4, f_3_5, f_3_6, f_8_2, f_8_3, f_8_4, f_8_5, f_16_2, f_18_3, f_18_4, f_18_5, f_18_6, f_23_0, f_23_1, f_23_2, f_23_3, f_23_4, f_24_2, f_24_3, f_24_4, f_24_5, f_33_3, f_33_4, f_33_5, f_33_6, f_38_1, f_38_2, f_41_0, f_161_0, f_161_1, f_161_3, f_161_7, f_161_12, f_161_13, f_161_14, f_161_15, f_161_16, f_161_17, f_161_18, f_161_19, f_161_21, f_161_22, f_161_25, true_and, and_true, true_or, or_true, if_true, if_false, ne_eq, not_false_eq_true, and_self, t10, am_psh, am_clr, not_true_eq_false, Nat.reduceEqDiff]
      rw [e106]
      simp only [r106_0, r106_1, r106_2, r106_3, r106_4, am_clr, nI_l hk0]
      have hQ := hfX (fun r S I J => am_T 39 64 54 [some (.ref 1), some (.int (nI m)), some (.int (nI k0))] (am_psh r []) S I J Q)
      refine Eq.trans hQ ?_
      simp only [r64_54, r64_55, r64_56, s_1, s_2, s_3, s_8, s_16, s_18, s_23, s_24, s_33, s_38, s_41, s_161, f_1_0, f_1_1, f_1_4, f_1_5, f_1_8, f_1_9, f_1_10, f_1_11, f_1_12, f_1_13, f_2_0, f_2_1, f_3_3, f_3_4, f_3_5, f_3_6, f_8_2, f_8_3, f_8_4, f_8_5, f_16_2, f_18_3, f_18_4, f_18_5, f_18_6, f_23_0, f_23_1, f_23_2, f_23_3, f_23_4, f_24_2, f_24_3, f_24_4, f_24_5, f_33_3, f_33_4, f_33_5, f_33_6, f_38_1, f_38_2, f_41_0, f_161_0, f_161_1, f_161_3, f_161_7, f_161_12, f_161_13, f_161_14, f_161_15, f_161_16, f_161_17, f_161_18, f_161_19, f_161_21, f_161_22, f_161_25, true_and, and_true, true_or, or_true, if_true, if_false, ne_eq, not_false_eq_true, and_self, t10, am_psh, am_clr, not_true_eq_false, Nat.reduceEqDiff]
      rw [m1]; simp only [r64_59, r64_60, r64_63, r64_66, r64_69, s_1, s_2, s_3, s_8, s_16, s_18, s_23, s_24, s_33, s_38, s_41, s_161, f_1_0, f_1_1, f_1_4, f_1_5, f_1_8, f_1_9, f_1_10, f_1_11, f_1_12, f_1_13, f_2_0, f_2_1, f_3_3, f_3_4, f_3_5, f_3_6, f_8_2, f_8_3, f_8_4, f_8_5, f_16_2, f_18_3, f_18_4, f_18_5, f_18_6, f_23_0, f_23_1, f_23_2, f_23_3, f_23_4, f_24_2, f_24_3, f_24_4, f_24_5, f_33_3, f_33_4, f_33_5, f_33_6, f_38_1, f_38_2, f_41_0, f_161_0, f_161_1, f_161_3, f_161_7, f_161_12, f_161_13, f_161_14, f_161_15, f_161_16, f_161_17, f_161_18, f_161_19, f_161_21, f_161_22, f_161_25, true_and, and_true, true_or, or_true, if_true, if_false, ne_eq, not_false_eq_true, and_self, t10, am_psh, am_clr, not_true_eq_false, Nat.reduceEqDiff]
      rw [m3 3 (by omega), hf2.1.2.2, hgG]
    · rw [e127]; simp only [r127_0, r127_1, r127_2, r127_4, r127_7, r127_10, r127_11, r127_14, r127_16, r127_17, r127_18, r127_21, r127_22, r127_23, r127_24, r127_25, r127_27, r127_30, r127_32, r127_33, r127_34, s_1, s_2, s_3, s_8, s_16, s_18, s_23, s_24, s_33, s_38, s_41, s_161, f_1_0, f_1_1, f_1_4, f_1_5, f_1_8, f_1_9, f_1_10, f_1_11, f_1_12, f_1_13, f_2_0, f_2_1, f_3_3, f_3_4, f_3_5, f_3_6, f_8_2, f_8_3, f_8_4, f_8_5, f_16_2, f_18_3, f_18_4, f_18_5, f_18_6, f_23_0, f_23_1, f_23_2, f_23_3, f_23_4, f_24_2, f_24_3, f_24_4, f_24_5, f_33_3, f_33_4, f_33_5, f_33_6, f_38_1, f_38_2, f_41_0, f_161_0, f_161_1, f_161_3, f_161_7, f_161_12, f_161_13, f_161_14, f_161_15, f_161_16, f_161_17, f_161_18, f_161_19, f_161_21, f_161_22, f_161_25, true_and, and_true, true_or, or_true, if_true, if_false, ne_eq, not_false_eq_true, and_self, t10, am_psh, am_clr, not_true_eq_false, Nat.reduceEqDiff, c_isIn, show am_ix (cS L) 162 20 2 from mx 2 (by omega), show (2 : Int32).toNatClampNeg = 2 from by decide, g162, hm.1.1.2.2]
      rw [if_neg c1, if_neg c2, if_pos c3, if_pos cle, p1]
      simp only [r127_37, r127_38, r127_39, r127_40, r127_43, r127_44, s_1, s_2, s_3, s_8, s_16, s_18, s_23, s_24, s_33, s_38, s_41, s_161, f_1_0, f_1_1, f_1_4, f_1_5, f_1_8, f_1_9, f_1_10, f_1_11, f_1_12, f_1_13, f_2_0, f_2_1, f_3_3, f_3_4, f_3_5, f_3_6, f_8_2, f_8_3, f_8_4, f_8_5, f_16_2, f_18_3, f_18_4, f_18_5, f_18_6, f_23_0, f_23_1, f_23_2, f_23_3, f_23_4, f_24_2, f_24_3, f_24_4, f_24_5, f_33_3, f_33_4, f_33_5, f_33_6, f_38_1, f_38_2, f_41_0, f_161_0, f_161_1, f_161_3, f_161_7, f_161_12, f_161_13, f_161_14, f_161_15, f_161_16, f_161_17, f_161_18, f_161_19, f_161_21, f_161_22, f_161_25, true_and, and_true, true_or, or_true, if_true, if_false, ne_eq, not_false_eq_true, and_self, t10, am_psh, am_clr, not_true_eq_false, Nat.reduceEqDiff, nI_l hk0]
      refine Eq.trans (q1 Q) ?_
      simp only [r127_110, r127_111, r127_112, s_1, s_2, s_3, s_8, s_16, s_18, s_23, s_24, s_33, s_38, s_41, s_161, f_1_0, f_1_1, f_1_4, f_1_5, f_1_8, f_1_9, f_1_10, f_1_11, f_1_12, f_1_13, f_2_0, f_2_1, f_3_3, f_3_4, f_3_5, f_3_6, f_8_2, f_8_3, f_8_4, f_8_5, f_16_2, f_18_3, f_18_4, f_18_5, f_18_6, f_23_0, f_23_1, f_23_2, f_23_3, f_23_4, f_24_2, f_24_3, f_24_4, f_24_5, f_33_3, f_33_4, f_33_5, f_33_6, f_38_1, f_38_2, f_41_0, f_161_0, f_161_1, f_161_3, f_161_7, f_161_12, f_161_13, f_161_14, f_161_15, f_161_16, f_161_17, f_161_18, f_161_19, f_161_21, f_161_22, f_161_25, true_and, and_true, true_or, or_true, if_true, if_false, ne_eq, not_false_eq_true, and_self, t10, am_psh, am_clr, not_true_eq_false, Nat.reduceEqDiff]
      rw [j1]; simp only [r127_115, r127_116, r127_119, r127_120, r127_121, s_1, s_2, s_3, s_8, s_16, s_18, s_23, s_24, s_33, s_38, s_41, s_161, f_1_0, f_1_1, f_1_4, f_1_5, f_1_8, f_1_9, f_1_10, f_1_11, f_1_12, f_1_13, f_2_0, f_2_1, f_3_3, f_3_4, f_3_5, f_3_6, f_8_2, f_8_3, f_8_4, f_8_5, f_16_2, f_18_3, f_18_4, f_18_5, f_18_6, f_23_0, f_23_1, f_23_2, f_23_3, f_23_4, f_24_2, f_24_3, f_24_4, f_24_5, f_33_3, f_33_4, f_33_5, f_33_6, f_38_1, f_38_2, f_41_0, f_161_0, f_161_1, f_161_3, f_161_7, f_161_12, f_161_13, f_161_14, f_161_15, f_161_16, f_161_17, f_161_18, f_161_19, f_161_21, f_161_22, f_161_25, true_and, and_true, true_or, or_true, if_true, if_false, ne_eq, not_false_eq_true, and_self, t10, am_psh, am_clr, not_true_eq_false, Nat.reduceEqDiff, show am_ix (cS L) 162 20 2 from mx 2 (by omega), show (2 : Int32).toNatClampNeg = 2 from by decide]
      rw [j3 2 (by omega), q3.1.2.2, hgG]
    · have xg : xG I4 3 (rG (s.1, k0) m).1 := xG_congr (fun b b1 b2 => by rw [f4 b (by omega) (by omega) (by omega), m3 b (by omega)]) hf2
      have mg : mG (I4 162) (rG (s.1, k0) m).1 := by
        obtain ⟨⟨y1, y2, y3⟩, y4, y5⟩ := q3
        refine ⟨⟨(j3 0 (by omega)).trans y1, (j3 1 (by omega)).trans y2, (j3 2 (by omega)).trans y3⟩, fun b hb => ?_, fun y hy => (j3 (99 + y) (by omega)).trans (y5 y hy)⟩
        have hb' : b < gm s.1 + m := by rw [hgG] at hb; exact hb
        rw [j3 (3 + b) (by omega), j3 (35 + b) (by omega), j3 (67 + b) (by omega)]; exact y4 b hb
      refine Inv_of (I := I) (s' := ((rG (s.1, k0) m).1, none)) (hs' := pushH hs s) (s0 := s0) (s1 := s1) (n := n) (o := o1) (tx := tx) ⟨rG_ok _ hok.1 m hmm, fun R hR => by cases hR⟩ ⟨xg, ?_⟩ ⟨mg, ?_⟩ (Or.inl ?_) (okH_push hO hok) (hM_congr (by rw [f41]) (by rw [j2 163 (by omega), q2 163 (by omega)]) p2) k2 (hX_congr (by rw [f4 1 (by omega) (by omega) (by omega), f21]) (by rw [f4 1 (by omega) (by omega) (by omega), f21]) (fun b b1 b2 => by rw [f4 b (by omega) (by omega) (by omega), m3 b (by omega), hf1 b (by omega)]) k3) ⟨?_, ?_⟩ hsl htx (fun b hb => ?_) ?_ ?_
      · show I4 8 0 = 0
        rw [f4 8 (by omega) (by omega) (by omega)]; exact m2
      · exact j4
      · rw [f4 33 (by omega) (by omega) (by omega), m3 33 (by omega), hf1 33 (by omega)]; exact k6
      · rw [f4 1 (by omega) (by omega) (by omega), f21, k5 6 (by omega) (by omega), f41, p4 5 (by omega), g161]; exact hru.1
      · rw [f4 1 (by omega) (by omega) (by omega), f21, k5 7 (by omega) (by omega), f41, p4 6 (by omega), g161]; exact hru.2
      · rw [f4 b (by omega) (by omega) (by omega), f2 b (by omega) (by omega) (by omega) (by omega) (by omega)]
      · rw [f41, p4 4 (by omega), g161]
      · rw [f41, p4 8 (by omega), g161]
  · have cle : ¬ nI (gm s.1) + nI m ≤ 32 := by rw [nI_add]; exact fun q => hmm ((nI_leI (b := 32) (by omega) (by omega)).mp q)
    refine ok_same hI0 (x := -104) (fun Q => ?_) (fun Q => ?_)
    · rw [e64]; simp only [r64_0, r64_1, r64_2, r64_5, r64_6, r64_8, r64_11, r64_12, r64_15, r64_17, r64_18, r64_19, r64_22, r64_25, r64_28, r64_29, r64_30, r64_32, r64_35, r64_37, s_1, s_2, s_3, s_8, s_16, s_18, s_23, s_24, s_33, s_38, s_41, s_161, f_1_0, f_1_1, f_1_4, f_1_5, f_1_8, f_1_9, f_1_10, f_1_11, f_1_12, f_1_13, f_2_0, f_2_1, f_3_3, f_3_4, f_3_5, f_3_6, f_8_2, f_8_3, f_8_4, f_8_5, f_16_2, f_18_3, f_18_4, f_18_5, f_18_6, f_23_0, f_23_1, f_23_2, f_23_3, f_23_4, f_24_2, f_24_3, f_24_4, f_24_5, f_33_3, f_33_4, f_33_5, f_33_6, f_38_1, f_38_2, f_41_0, f_161_0, f_161_1, f_161_3, f_161_7, f_161_12, f_161_13, f_161_14, f_161_15, f_161_16, f_161_17, f_161_18, f_161_19, f_161_21, f_161_22, f_161_25, true_and, and_true, true_or, or_true, if_true, if_false, ne_eq, not_false_eq_true, and_self, t10, am_psh, am_clr, not_true_eq_false, Nat.reduceEqDiff, hx.1.1.2.2]
      rw [if_neg c1, if_neg c2, if_pos c3, if_neg cle]
    · rw [e127]; simp only [r127_0, r127_1, r127_2, r127_4, r127_7, r127_10, r127_11, r127_14, r127_16, r127_17, r127_18, r127_21, r127_22, r127_23, r127_24, r127_25, r127_27, r127_30, r127_32, s_1, s_2, s_3, s_8, s_16, s_18, s_23, s_24, s_33, s_38, s_41, s_161, f_1_0, f_1_1, f_1_4, f_1_5, f_1_8, f_1_9, f_1_10, f_1_11, f_1_12, f_1_13, f_2_0, f_2_1, f_3_3, f_3_4, f_3_5, f_3_6, f_8_2, f_8_3, f_8_4, f_8_5, f_16_2, f_18_3, f_18_4, f_18_5, f_18_6, f_23_0, f_23_1, f_23_2, f_23_3, f_23_4, f_24_2, f_24_3, f_24_4, f_24_5, f_33_3, f_33_4, f_33_5, f_33_6, f_38_1, f_38_2, f_41_0, f_161_0, f_161_1, f_161_3, f_161_7, f_161_12, f_161_13, f_161_14, f_161_15, f_161_16, f_161_17, f_161_18, f_161_19, f_161_21, f_161_22, f_161_25, true_and, and_true, true_or, or_true, if_true, if_false, ne_eq, not_false_eq_true, and_self, t10, am_psh, am_clr, not_true_eq_false, Nat.reduceEqDiff, c_isIn, show am_ix (cS L) 162 20 2 from mx 2 (by omega), show (2 : Int32).toNatClampNeg = 2 from by decide, hm.1.1.2.2]
      rw [if_neg c1, if_neg c2, if_pos c3, if_neg cle]
end RA
