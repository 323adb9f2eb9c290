/-! the elimination -/
section DT
variable {d L : Nat} {I : am_I} {J J' : am_J} {Q : am_Q} {ok : Nat → Nat → Bool} {N : Nat} {tg : Nat → Nat → Nat}
theorem l_div {a b F q : Int} (hF : 0 < F) (hF2 : F ≤ 2097152) (h : a - b = q * F) (hq : -2097152 ≤ q ∧ q ≤ 2097152) : (Int64.ofInt a - Int64.ofInt b) / Int64.ofInt F = Int64.ofInt q := by
  have h1 : q * F ≤ 2097152 * 2097152 := Int.le_trans (Int.mul_le_mul_of_nonneg_right hq.2 (by omega)) (Int.mul_le_mul_of_nonneg_left hF2 (by omega))
  have h2 : -(2097152 * 2097152) ≤ q * F := by
    have a1 : -2097152 * F ≤ q * F := Int.mul_le_mul_of_nonneg_right hq.1 (by omega)
    have a2 : -2097152 * F = -(2097152 * F) := by omega
    have a3 : 2097152 * F ≤ 2097152 * 2097152 := Int.mul_le_mul_of_nonneg_left hF2 (by omega)
    omega
  have m1 : Int64.minValue.toInt = -9223372036854775808 := by decide
  have m2 : Int64.maxValue.toInt = 9223372036854775807 := by decide
  rw [← Int64.ofInt_sub, h, ← Int64.ofInt_tdiv (by omega) (by omega) (by omega) (by omega), Int.mul_tdiv_cancel _ (by omega)]
theorem l_ne {F : Int} (hF : 0 < F) (hF2 : F ≤ 2097152) : Int64.ofInt F ≠ 0 := by
  intro h
  have := congrArg Int64.toInt h
  rw [Int64.toInt_ofInt_of_le (by omega) (by omega)] at this
  have e : (0 : Int64).toInt = 0 := by decide
  omega
theorem l_cmp {u : Int64} : (lg_cmp u 0 = 0) = (u = 0) := by
  apply propext
  unfold lg_cmp
  constructor
  · intro h
    by_cases c : u > 0
    · rw [if_pos c] at h; exact absurd h (by decide)
    · rw [if_neg c] at h
      by_cases c2 : u = 0
      · exact c2
      · rw [if_neg c2] at h; exact absurd h (by decide)
  · intro h
    subst h
    decide
/-- what the rows hold behind k steps -/
def jM (ok : Nat → Nat → Bool) (N : Nat) (tg : Nat → Nat → Nat) (J : am_J) (k n : Nat) : Prop := ∀ i j, k ≤ i → i < n → k ≤ j → j < n → J (43 + i) j = Int64.ofInt (eM ok N tg k i j)
theorem el_in {n k i : Nat} (hn : n ≤ 8) (hd : ∀ v, dgC ok N v < 40) (hs : sumN (fun v => dgC ok N v + 1) n ≤ 42) (hF : eF ok N tg k ≠ 0) (hki : k + 1 ≤ i) (hi : i < n) (hJ : ∀ j, k ≤ j → j < n → J (43 + i) j = Int64.ofInt (eM ok N tg k i j) ∧ J (43 + k) j = Int64.ofInt (eM ok N tg k k j)) : ∀ (m j : Nat) (K : am_J), j + m = n → k + 1 ≤ j → (∀ b, b ≠ 43 + i → K b = J b) → (∀ c, K (43 + i) c = if k + 1 ≤ c ∧ c < j then Int64.ofInt (eM ok N tg (k + 1) i c) else J (43 + i) c) → ∃ J', (∀ Q, am_T d 56 23 [some (.ref 41), some (.int (nI k)), some (.int (nI n)), some (.long (Int64.ofInt (eF ok N tg k))), none, some (.int (nI i)), some (.int (nI j))] [] (cS L) I K Q = am_T d 56 86 [some (.ref 41), some (.int (nI k)), some (.int (nI n)), some (.long (Int64.ofInt (eF ok N tg k))), none, some (.int (nI i)), some (.int (nI n))] [] (cS L) I J' Q) ∧ (∀ b, b ≠ 43 + i → J' b = J b) ∧ ∀ c, J' (43 + i) c = if k + 1 ≤ c ∧ c < n then Int64.ofInt (eM ok N tg (k + 1) i c) else J (43 + i) c := by
  intro m
  induction m with
  | zero =>
    intro j K hj hkj hf h
    have : j = n := by omega
    subst this
    refine ⟨K, fun Q => ?_, hf, h⟩
    rw [r56_23]
    simp only [r56_25, r56_26]
    rw [if_pos (Int32.le_refl _)]
  | succ m ih =>
    intro j K hj hkj hf h
    have hFp : 0 < eF ok N tg k := by have := eF_nn (ok := ok) (N := N) (tg := tg) k; omega
    have hFs := (e_small (tg := tg) hd hs (show k ≤ n by omega)).2
    have hval : (Int64.ofInt (eM ok N tg k i j) * Int64.ofInt (eM ok N tg k k k) - Int64.ofInt (eM ok N tg k i k) * Int64.ofInt (eM ok N tg k k j)) / Int64.ofInt (eF ok N tg k) = Int64.ofInt (eM ok N tg (k + 1) i j) := by
      rw [← Int64.ofInt_mul, ← Int64.ofInt_mul]
      exact l_div hFp hFs (eM_s hF hki hkj) (eM_small hd hs hki hi)
    obtain ⟨J', k1, k2, k3⟩ := ih (j + 1) (am_up K (43 + i) j (Int64.ofInt (eM ok N tg (k + 1) i j))) (by omega) (by omega) (fun b hb => by rw [am_up_ne hb]; exact hf b hb) (fun c => by
      by_cases e : c = j
      · subst e; rw [up_self, if_pos (by omega)]
      · rw [up_ne _ _ (Or.inr e), h c]
        by_cases e2 : k + 1 ≤ c ∧ c < j
        · rw [if_pos e2, if_pos (by omega)]
        · rw [if_neg e2, if_neg (by omega)])
    refine ⟨J', fun Q => ?_, k2, k3⟩
    have e1 : K (43 + i) j = Int64.ofInt (eM ok N tg k i j) := by rw [h j, if_neg (by omega)]; exact (hJ j (by omega) (by omega)).1
    have e2 : K (43 + i) k = Int64.ofInt (eM ok N tg k i k) := by rw [h k, if_neg (by omega)]; exact (hJ k (by omega) (by omega)).1
    have e3 : K (43 + k) k = Int64.ofInt (eM ok N tg k k k) := by rw [hf (43 + k) (by omega)]; exact (hJ k (by omega) (by omega)).2
    have e4 : K (43 + k) j = Int64.ofInt (eM ok N tg k k j) := by rw [hf (43 + k) (by omega)]; exact (hJ j (by omega) (by omega)).2
    rw [r56_23]
    simp only [r56_25, r56_26, r56_29, r56_30, r56_33, r56_35, r56_36, r56_38, r56_39, r56_42, r56_44, r56_45, r56_47, r56_48, r56_49, r56_52, r56_53, r56_54, r56_55, r56_56, r56_57, r56_58, r56_61, r56_63, r56_64, r56_65, r56_66, r56_67, r56_70, r56_71, r56_72, r56_74, r56_75, r56_76, r56_77, r56_78, r56_79, r56_80, r56_83, s_1, s_2, s_3, s_8, s_16, s_18, s_23, s_24, s_33, s_38, s_41, s_161, f_1_0, f_1_1, f_1_4, f_1_5, f_1_8, f_1_9, f_1_10, f_1_11, f_1_12, f_1_13, f_2_0, f_2_1, f_3_3, f_3_4, f_3_5, f_3_6, f_8_2, f_8_3, f_8_4, f_8_5, f_16_2, f_18_3, f_18_4, f_18_5, f_18_6, f_23_0, f_23_1, f_23_2, f_23_3, f_23_4, f_24_2, f_24_3, f_24_4, f_24_5, f_33_3, f_33_4, f_33_5, f_33_6, f_38_1, f_38_2, f_41_0, f_161_0, f_161_1, f_161_3, f_161_7, f_161_12, f_161_13, f_161_14, f_161_15, f_161_16, f_161_17, f_161_18, f_161_19, f_161_21, f_161_22, f_161_25, true_and, and_true, true_or, or_true, if_true, if_false, ne_eq, not_false_eq_true, and_self, t10, am_psh, am_clr, not_true_eq_false, Nat.reduceEqDiff, q42 (L := L) i (by omega), q42 (L := L) k (by omega), n_cl (show i < 2 ^ 31 by omega), n_cl (show k < 2 ^ 31 by omega), n_cl (show j < 2 ^ 31 by omega), rf_42 (L := L) i (by omega), rf_42 (L := L) k (by omega), j4x (L := L) i j (by omega) (by omega), j4x (L := L) i k (by omega) (by omega), j4x (L := L) k k (by omega) (by omega), j4x (L := L) k j (by omega) (by omega), w4x (L := L) i j (by omega) (by omega), e1, e2, e3, e4, hval, l_ne hFp hFs, nI_1]
    rw [if_neg (nI_ge (show j < n by omega) (by omega))]
    exact k1 Q
theorem el_out {n k : Nat} (hn : n ≤ 8) (hd : ∀ v, dgC ok N v < 40) (hs : sumN (fun v => dgC ok N v + 1) n ≤ 42) (hF : eF ok N tg k ≠ 0) (hk : k < n) (hJ : jM ok N tg J k n) : ∀ (m i : Nat) (K : am_J) (l6 : Option Value), i + m = n → k + 1 ≤ i → (∀ b, ¬ (43 + k < b ∧ b < 43 + i) → K b = J b) → (∀ q c, k + 1 ≤ q → q < i → k + 1 ≤ c → c < n → K (43 + q) c = Int64.ofInt (eM ok N tg (k + 1) q c)) → ∃ J', (∀ Q, am_T d 56 12 [some (.ref 41), some (.int (nI k)), some (.int (nI n)), some (.long (Int64.ofInt (eF ok N tg k))), none, some (.int (nI i)), l6] [] (cS L) I K Q = Q none (cS L) I J') ∧ J' (43 + k) = J (43 + k) ∧ jM ok N tg J' (k + 1) n := by
  intro m
  induction m with
  | zero =>
    intro i K l6 hi hki hf h
    have : i = n := by omega
    subst this
    refine ⟨K, fun Q => ?_, hf _ (by omega), fun q c h1 h2 h3 h4 => h q c h1 h2 h3 h4⟩
    rw [r56_12]
    simp only [r56_14, r56_15, r56_92]
    rw [if_pos (Int32.le_refl _)]
  | succ m ih =>
    intro i K l6 hi hki hf h
    obtain ⟨J1, k1, k2, k3⟩ := el_in (d := d) (L := L) (I := I) (J := K) (tg := tg) hn hd hs hF hki (show i < n by omega) (fun j h1 h2 => ⟨by rw [hf (43 + i) (by omega)]; exact hJ i j (by omega) (by omega) h1 h2, by rw [hf (43 + k) (by omega)]; exact hJ k j (by omega) (by omega) h1 h2⟩) (n - (k + 1)) (k + 1) K (by omega) (Nat.le_refl _) (fun _ _ => rfl) (fun c => by rw [if_neg (by omega)])
    obtain ⟨J', q1, q2, q3⟩ := ih (i + 1) J1 (some (.int (nI n))) (by omega) (by omega) (fun b hb => by rw [k2 b (by omega)]; exact hf b (by omega)) (fun q c h1 h2 h3 h4 => by
      by_cases e : q = i
      · subst e; rw [k3 c, if_pos ⟨h3, h4⟩]
      · rw [k2 (43 + q) (by omega)]; exact h q c h1 (by omega) h3 h4)
    refine ⟨J', fun Q => ?_, q2, q3⟩
    rw [r56_12]
    simp only [r56_14, r56_15, r56_18, r56_19, r56_20, r56_21, s_1, s_2, s_3, s_8, s_16, s_18, s_23, s_24, s_33, s_38, s_41, s_161, f_1_0, f_1_1, f_1_4, f_1_5, f_1_8, f_1_9, f_1_10, f_1_11, f_1_12, f_1_13, f_2_0, f_2_1, f_3_3, f_3_4, f_3_5, f_3_6, f_8_2, f_8_3, f_8_4, f_8_5, f_16_2, f_18_3, f_18_4, f_18_5, f_18_6, f_23_0, f_23_1, f_23_2, f_23_3, f_23_4, f_24_2, f_24_3, f_24_4, f_24_5, f_33_3, f_33_4, f_33_5, f_33_6, f_38_1, f_38_2, f_41_0, f_161_0, f_161_1, f_161_3, f_161_7, f_161_12, f_161_13, f_161_14, f_161_15, f_161_16, f_161_17, f_161_18, f_161_19, f_161_21, f_161_22, f_161_25, true_and, and_true, true_or, or_true, if_true, if_false, ne_eq, not_false_eq_true, and_self, t10, am_psh, am_clr, not_true_eq_false, Nat.reduceEqDiff, nI_1]
    rw [if_neg (nI_ge (show i < n by omega) (by omega))]
    refine Eq.trans (k1 Q) ?_
    simp only [r56_86, r56_89, s_1, s_2, s_3, s_8, s_16, s_18, s_23, s_24, s_33, s_38, s_41, s_161, f_1_0, f_1_1, f_1_4, f_1_5, f_1_8, f_1_9, f_1_10, f_1_11, f_1_12, f_1_13, f_2_0, f_2_1, f_3_3, f_3_4, f_3_5, f_3_6, f_8_2, f_8_3, f_8_4, f_8_5, f_16_2, f_18_3, f_18_4, f_18_5, f_18_6, f_23_0, f_23_1, f_23_2, f_23_3, f_23_4, f_24_2, f_24_3, f_24_4, f_24_5, f_33_3, f_33_4, f_33_5, f_33_6, f_38_1, f_38_2, f_41_0, f_161_0, f_161_1, f_161_3, f_161_7, f_161_12, f_161_13, f_161_14, f_161_15, f_161_16, f_161_17, f_161_18, f_161_19, f_161_21, f_161_22, f_161_25, true_and, and_true, true_or, or_true, if_true, if_false, ne_eq, not_false_eq_true, and_self, t10, am_psh, am_clr, not_true_eq_false, Nat.reduceEqDiff, nI_1]
    exact q1 Q
theorem c_elim {n k : Nat} (hn : n ≤ 8) (hd : ∀ v, dgC ok N v < 40) (hs : sumN (fun v => dgC ok N v + 1) n ≤ 42) (hF : eF ok N tg k ≠ 0) (hk : k < n) (hJ : jM ok N tg J k n) : ∃ J', (∀ Q, am_C (d + 1) 56 [.ref 41, .int (nI k), .int (nI n), .long (Int64.ofInt (eF ok N tg k))] (cS L) I J Q = Q none (cS L) I J') ∧ J' (43 + k) = J (43 + k) ∧ jM ok N tg J' (k + 1) n := by
  have hFp : 0 < eF ok N tg k := by have := eF_nn (ok := ok) (N := N) (tg := tg) k; omega
  have hFs := (e_small (tg := tg) hd hs (show k ≤ n by omega)).2
  obtain ⟨J', k1, k2, k3⟩ := el_out (d := d) (L := L) (I := I) (J := J) (tg := tg) hn hd hs hF hk hJ (n - (k + 1)) (k + 1) J none (by omega) (Nat.le_refl _) (fun _ _ => rfl) (fun q c h1 h2 => by omega)
  refine ⟨J', fun Q => ?_, k2, k3⟩
  rw [e56]
  simp only [r56_0, r56_1, r56_2, r56_3, r56_6, r56_7, r56_8, r56_9, r56_10, s_1, s_2, s_3, s_8, s_16, s_18, s_23, s_24, s_33, s_38, s_41, s_161, f_1_0, f_1_1, f_1_4, f_1_5, f_1_8, f_1_9, f_1_10, f_1_11, f_1_12, f_1_13, f_2_0, f_2_1, f_3_3, f_3_4, f_3_5, f_3_6, f_8_2, f_8_3, f_8_4, f_8_5, f_16_2, f_18_3, f_18_4, f_18_5, f_18_6, f_23_0, f_23_1, f_23_2, f_23_3, f_23_4, f_24_2, f_24_3, f_24_4, f_24_5, f_33_3, f_33_4, f_33_5, f_33_6, f_38_1, f_38_2, f_41_0, f_161_0, f_161_1, f_161_3, f_161_7, f_161_12, f_161_13, f_161_14, f_161_15, f_161_16, f_161_17, f_161_18, f_161_19, f_161_21, f_161_22, f_161_25, true_and, and_true, true_or, or_true, if_true, if_false, ne_eq, not_false_eq_true, and_self, t10, am_psh, am_clr, not_true_eq_false, Nat.reduceEqDiff, l_cmp, l_ne hFp hFs, nI_1]
  exact k1 Q
theorem de_loop {n : Nat} (hn : n ≤ 8) (hd : ∀ v, dgC ok N v < 40) (hs : sumN (fun v => dgC ok N v + 1) n ≤ 42) : ∀ (m k : Nat) (K : am_J), k + m = n → eF ok N tg k ≠ 0 → jM ok N tg K k n → ∃ J', ∀ Q, am_T (d + 1) 55 5 [some (.ref 41), some (.int (nI n)), some (.long (Int64.ofInt (eF ok N tg k))), none, some (.int (nI k))] [] (cS L) I K Q = Q (some (.long (Int64.ofInt (eF ok N tg n)))) (cS L) I J' := by
  intro m
  induction m with
  | zero =>
    intro k K hk hF hJ
    have : k = n := by omega
    subst this
    refine ⟨K, fun Q => ?_⟩
    rw [r55_5]
    simp only [r55_7, r55_8, r55_53, r55_54]
    rw [if_pos (Int32.le_refl _)]
  | succ m ih =>
    intro k K hk hF hJ
    have hkn : k < n := by omega
    have ekk : K (43 + k) k = Int64.ofInt (eF ok N tg (k + 1)) := by rw [hJ k k (by omega) hkn (by omega) hkn, eM_kk]
    have hsm := e_small (tg := tg) hd hs (show k + 1 ≤ n by omega)
    by_cases e : eF ok N tg (k + 1) = 0
    · refine ⟨K, fun Q => ?_⟩
      rw [r55_5]
      simp only [r55_7, r55_8, r55_11, r55_12, r55_15, r55_17, r55_18, r55_20, r55_21, r55_22, r55_23, r55_26, r55_27, s_1, s_2, s_3, s_8, s_16, s_18, s_23, s_24, s_33, s_38, s_41, s_161, f_1_0, f_1_1, f_1_4, f_1_5, f_1_8, f_1_9, f_1_10, f_1_11, f_1_12, f_1_13, f_2_0, f_2_1, f_3_3, f_3_4, f_3_5, f_3_6, f_8_2, f_8_3, f_8_4, f_8_5, f_16_2, f_18_3, f_18_4, f_18_5, f_18_6, f_23_0, f_23_1, f_23_2, f_23_3, f_23_4, f_24_2, f_24_3, f_24_4, f_24_5, f_33_3, f_33_4, f_33_5, f_33_6, f_38_1, f_38_2, f_41_0, f_161_0, f_161_1, f_161_3, f_161_7, f_161_12, f_161_13, f_161_14, f_161_15, f_161_16, f_161_17, f_161_18, f_161_19, f_161_21, f_161_22, f_161_25, true_and, and_true, true_or, or_true, if_true, if_false, ne_eq, not_false_eq_true, and_self, t10, am_psh, am_clr, not_true_eq_false, Nat.reduceEqDiff, q42 (L := L) k (by omega), n_cl (show k < 2 ^ 31 by omega), rf_42 (L := L) k (by omega), j4x (L := L) k k (by omega) (by omega), ekk, l_cmp]
      rw [if_neg (nI_ge hkn (by omega)), if_pos (show Int64.ofInt (eF ok N tg (k + 1)) = 0 by rw [e]; rfl)]
      have hz := eF_z e (n - (k + 1))
      rw [show k + 1 + (n - (k + 1)) = n by omega] at hz
      rw [hz]; rfl
    · obtain ⟨J1, k1, k2, k3⟩ := c_elim (d := d) (L := L) (I := I) (J := K) (tg := tg) hn hd hs hF hkn hJ
      obtain ⟨J', q1⟩ := ih (k + 1) J1 (by omega) e k3
      refine ⟨J', fun Q => ?_⟩
      rw [r55_5]
      simp only [r55_7, r55_8, r55_11, r55_12, r55_15, r55_17, r55_18, r55_20, r55_21, r55_22, r55_23, r55_28, r55_29, r55_31, r55_32, r55_33, s_1, s_2, s_3, s_8, s_16, s_18, s_23, s_24, s_33, s_38, s_41, s_161, f_1_0, f_1_1, f_1_4, f_1_5, f_1_8, f_1_9, f_1_10, f_1_11, f_1_12, f_1_13, f_2_0, f_2_1, f_3_3, f_3_4, f_3_5, f_3_6, f_8_2, f_8_3, f_8_4, f_8_5, f_16_2, f_18_3, f_18_4, f_18_5, f_18_6, f_23_0, f_23_1, f_23_2, f_23_3, f_23_4, f_24_2, f_24_3, f_24_4, f_24_5, f_33_3, f_33_4, f_33_5, f_33_6, f_38_1, f_38_2, f_41_0, f_161_0, f_161_1, f_161_3, f_161_7, f_161_12, f_161_13, f_161_14, f_161_15, f_161_16, f_161_17, f_161_18, f_161_19, f_161_21, f_161_22, f_161_25, true_and, and_true, true_or, or_true, if_true, if_false, ne_eq, not_false_eq_true, and_self, t10, am_psh, am_clr, not_true_eq_false, Nat.reduceEqDiff, q42 (L := L) k (by omega), n_cl (show k < 2 ^ 31 by omega), rf_42 (L := L) k (by omega), j4x (L := L) k k (by omega) (by omega), ekk, l_cmp]
      rw [if_neg (nI_ge hkn (by omega)), if_neg (l_ne (by omega) hsm.2), k1]
      simp only [r55_36, r55_37, r55_40, r55_42, r55_43, r55_45, r55_46, r55_47, r55_50, s_1, s_2, s_3, s_8, s_16, s_18, s_23, s_24, s_33, s_38, s_41, s_161, f_1_0, f_1_1, f_1_4, f_1_5, f_1_8, f_1_9, f_1_10, f_1_11, f_1_12, f_1_13, f_2_0, f_2_1, f_3_3, f_3_4, f_3_5, f_3_6, f_8_2, f_8_3, f_8_4, f_8_5, f_16_2, f_18_3, f_18_4, f_18_5, f_18_6, f_23_0, f_23_1, f_23_2, f_23_3, f_23_4, f_24_2, f_24_3, f_24_4, f_24_5, f_33_3, f_33_4, f_33_5, f_33_6, f_38_1, f_38_2, f_41_0, f_161_0, f_161_1, f_161_3, f_161_7, f_161_12, f_161_13, f_161_14, f_161_15, f_161_16, f_161_17, f_161_18, f_161_19, f_161_21, f_161_22, f_161_25, true_and, and_true, true_or, or_true, if_true, if_false, ne_eq, not_false_eq_true, and_self, t10, am_psh, am_clr, not_true_eq_false, Nat.reduceEqDiff, q42 (L := L) k (by omega), n_cl (show k < 2 ^ 31 by omega), rf_42 (L := L) k (by omega), j4x (L := L) k k (by omega) (by omega), k2, ekk, nI_1]
      exact q1 Q
theorem c_det {n : Nat} (hn : n ≤ 8) (hd : ∀ v, dgC ok N v < 40) (hs : sumN (fun v => dgC ok N v + 1) n ≤ 42) (hJ : jM ok N tg J 0 n) : ∃ J', ∀ Q, am_C (d + 2) 55 [.ref 41, .int (nI n)] (cS L) I J Q = Q (some (.long (Int64.ofInt (eF ok N tg n)))) (cS L) I J' := by
  obtain ⟨J', h⟩ := de_loop (d := d) (L := L) (I := I) (tg := tg) hn hd hs n 0 J (by omega) (by rw [eF_0]; decide) hJ
  refine ⟨J', fun Q => ?_⟩
  rw [e55]
  simp only [r55_0, r55_1, r55_2, r55_3, s_1, s_2, s_3, s_8, s_16, s_18, s_23, s_24, s_33, s_38, s_41, s_161, f_1_0, f_1_1, f_1_4, f_1_5, f_1_8, f_1_9, f_1_10, f_1_11, f_1_12, f_1_13, f_2_0, f_2_1, f_3_3, f_3_4, f_3_5, f_3_6, f_8_2, f_8_3, f_8_4, f_8_5, f_16_2, f_18_3, f_18_4, f_18_5, f_18_6, f_23_0, f_23_1, f_23_2, f_23_3, f_23_4, f_24_2, f_24_3, f_24_4, f_24_5, f_33_3, f_33_4, f_33_5, f_33_6, f_38_1, f_38_2, f_41_0, f_161_0, f_161_1, f_161_3, f_161_7, f_161_12, f_161_13, f_161_14, f_161_15, f_161_16, f_161_17, f_161_18, f_161_19, f_161_21, f_161_22, f_161_25, true_and, and_true, true_or, or_true, if_true, if_false, ne_eq, not_false_eq_true, and_self, t10, am_psh, am_clr, not_true_eq_false, Nat.reduceEqDiff]
  have := h Q
  rw [eF_0] at this
  exact this
theorem c_countIn {G : Gr} {al : Nat → Bool} {x : Int32} (hG : okG G) (hx : xG I 3 G) (hal : ∀ a, a < gm G → al a = bt x a) : ∃ J', ∀ Q, am_C (d + 3) 53 [.ref 41, .ref 3, .int x] (cS L) I J Q = Q (some (.long (Int64.ofInt (eF (okv G al) 33 (tgv G) (gn G))))) (cS L) I J' := by
  have hgn := hG.1.2.1
  obtain ⟨J1, k1, k2⟩ := c_fill (d := d) (L := L) (I := I) (J := J) hG hx hal
  have hsum := okv_sum (G := G) (al := al)
  obtain ⟨J', h⟩ := c_det (d := d) (L := L) (I := I) (J := J1) (ok := okv G al) (N := 33) (tg := tgv G) hgn okv_dg (by omega) (fun i j _ hi _ hj => by rw [k2 i j (by omega) (by omega), fM_eM hG hi hj])
  refine ⟨J', fun Q => ?_⟩
  rw [e53]
  simp only [r53_0, r53_1, r53_2, r53_3, s_1, s_2, s_3, s_8, s_16, s_18, s_23, s_24, s_33, s_38, s_41, s_161, f_1_0, f_1_1, f_1_4, f_1_5, f_1_8, f_1_9, f_1_10, f_1_11, f_1_12, f_1_13, f_2_0, f_2_1, f_3_3, f_3_4, f_3_5, f_3_6, f_8_2, f_8_3, f_8_4, f_8_5, f_16_2, f_18_3, f_18_4, f_18_5, f_18_6, f_23_0, f_23_1, f_23_2, f_23_3, f_23_4, f_24_2, f_24_3, f_24_4, f_24_5, f_33_3, f_33_4, f_33_5, f_33_6, f_38_1, f_38_2, f_41_0, f_161_0, f_161_1, f_161_3, f_161_7, f_161_12, f_161_13, f_161_14, f_161_15, f_161_16, f_161_17, f_161_18, f_161_19, f_161_21, f_161_22, f_161_25, true_and, and_true, true_or, or_true, if_true, if_false, ne_eq, not_false_eq_true, and_self, t10, am_psh, am_clr, not_true_eq_false, Nat.reduceEqDiff]
  rw [k1]
  simp only [r53_6, r53_7, r53_8, r53_11, s_1, s_2, s_3, s_8, s_16, s_18, s_23, s_24, s_33, s_38, s_41, s_161, f_1_0, f_1_1, f_1_4, f_1_5, f_1_8, f_1_9, f_1_10, f_1_11, f_1_12, f_1_13, f_2_0, f_2_1, f_3_3, f_3_4, f_3_5, f_3_6, f_8_2, f_8_3, f_8_4, f_8_5, f_16_2, f_18_3, f_18_4, f_18_5, f_18_6, f_23_0, f_23_1, f_23_2, f_23_3, f_23_4, f_24_2, f_24_3, f_24_4, f_24_5, f_33_3, f_33_4, f_33_5, f_33_6, f_38_1, f_38_2, f_41_0, f_161_0, f_161_1, f_161_3, f_161_7, f_161_12, f_161_13, f_161_14, f_161_15, f_161_16, f_161_17, f_161_18, f_161_19, f_161_21, f_161_22, f_161_25, true_and, and_true, true_or, or_true, if_true, if_false, ne_eq, not_false_eq_true, and_self, t10, am_psh, am_clr, not_true_eq_false, Nat.reduceEqDiff, hx.1.1]
  rw [h]
  simp only [r53_14, s_1, s_2, s_3, s_8, s_16, s_18, s_23, s_24, s_33, s_38, s_41, s_161, f_1_0, f_1_1, f_1_4, f_1_5, f_1_8, f_1_9, f_1_10, f_1_11, f_1_12, f_1_13, f_2_0, f_2_1, f_3_3, f_3_4, f_3_5, f_3_6, f_8_2, f_8_3, f_8_4, f_8_5, f_16_2, f_18_3, f_18_4, f_18_5, f_18_6, f_23_0, f_23_1, f_23_2, f_23_3, f_23_4, f_24_2, f_24_3, f_24_4, f_24_5, f_33_3, f_33_4, f_33_5, f_33_6, f_38_1, f_38_2, f_41_0, f_161_0, f_161_1, f_161_3, f_161_7, f_161_12, f_161_13, f_161_14, f_161_15, f_161_16, f_161_17, f_161_18, f_161_19, f_161_21, f_161_22, f_161_25, true_and, and_true, true_or, or_true, if_true, if_false, ne_eq, not_false_eq_true, and_self, t10, am_psh, am_clr, not_true_eq_false, Nat.reduceEqDiff]
/-- only the model's scratch has changed -/
theorem Inv_go {I' : am_I} (hI : Inv I J) (h : goF I I') : Inv I' J' := Inv_scr hI (fun b b1 b2 b3 b4 b5 => h.1 b b2 (by omega) (by omega)) (by rw [h.1 16 (by omega) (by omega) (by omega)]) (fun j hj => h.2 j (by omega))
theorem op_arborescences : am_OKl L Inv 93 181 [] := by
  intro I J hI
  have hI0 := hI
  obtain ⟨⟨G, o⟩, hs, s0, s1, n, tx, hok, hx, hm, hl, hh, hsl, hru, htx⟩ := hI
  obtain ⟨J1, k1⟩ := c_countIn (d := 36) (L := L) (I := I) (J := J) (al := alT) (x := -1) hok.1 hx.1 (fun a _ => rfl)
  obtain ⟨I2, J2, q1, q2, q3⟩ := c_goThrough (d := 36) (L := L) (I := I) (J := J1) (o := none) hok.1 hm.1 (fun a h => by cases h)
  rw [enF_pair] at q3
  have hc := cnt_all (al := alT) hok.1 (fun a ha => b_m1 a (by have := hok.1.1.2.2.2; omega))
  refine ⟨Int64.ofInt (eF (okv G alT) 33 (tgv G) (gn G)), I, J1, I2, J2, fun Q => ?_, rfl, fun Q => ?_, q2.1 0 (by omega) (by omega) (by omega), Inv_go hI0 q2⟩
  · rw [e93]; simp only [r93_0, r93_1, r93_4, r93_5, r93_8, r93_11, r93_12, s_1, s_2, s_3, s_8, s_16, s_18, s_23, s_24, s_33, s_38, s_41, s_161, f_1_0, f_1_1, f_1_4, f_1_5, f_1_8, f_1_9, f_1_10, f_1_11, f_1_12, f_1_13, f_2_0, f_2_1, f_3_3, f_3_4, f_3_5, f_3_6, f_8_2, f_8_3, f_8_4, f_8_5, f_16_2, f_18_3, f_18_4, f_18_5, f_18_6, f_23_0, f_23_1, f_23_2, f_23_3, f_23_4, f_24_2, f_24_3, f_24_4, f_24_5, f_33_3, f_33_4, f_33_5, f_33_6, f_38_1, f_38_2, f_41_0, f_161_0, f_161_1, f_161_3, f_161_7, f_161_12, f_161_13, f_161_14, f_161_15, f_161_16, f_161_17, f_161_18, f_161_19, f_161_21, f_161_22, f_161_25, true_and, and_true, true_or, or_true, if_true, if_false, ne_eq, not_false_eq_true, and_self, t10, am_psh, am_clr, not_true_eq_false, Nat.reduceEqDiff]
    rw [k1]; simp only [r93_15, s_1, s_2, s_3, s_8, s_16, s_18, s_23, s_24, s_33, s_38, s_41, s_161, f_1_0, f_1_1, f_1_4, f_1_5, f_1_8, f_1_9, f_1_10, f_1_11, f_1_12, f_1_13, f_2_0, f_2_1, f_3_3, f_3_4, f_3_5, f_3_6, f_8_2, f_8_3, f_8_4, f_8_5, f_16_2, f_18_3, f_18_4, f_18_5, f_18_6, f_23_0, f_23_1, f_23_2, f_23_3, f_23_4, f_24_2, f_24_3, f_24_4, f_24_5, f_33_3, f_33_4, f_33_5, f_33_6, f_38_1, f_38_2, f_41_0, f_161_0, f_161_1, f_161_3, f_161_7, f_161_12, f_161_13, f_161_14, f_161_15, f_161_16, f_161_17, f_161_18, f_161_19, f_161_21, f_161_22, f_161_25, true_and, and_true, true_or, or_true, if_true, if_false, ne_eq, not_false_eq_true, and_self, t10, am_psh, am_clr, not_true_eq_false, Nat.reduceEqDiff]
  · rw [e181]; simp only [r181_0, r181_1, r181_3, s_1, s_2, s_3, s_8, s_16, s_18, s_23, s_24, s_33, s_38, s_41, s_161, f_1_0, f_1_1, f_1_4, f_1_5, f_1_8, f_1_9, f_1_10, f_1_11, f_1_12, f_1_13, f_2_0, f_2_1, f_3_3, f_3_4, f_3_5, f_3_6, f_8_2, f_8_3, f_8_4, f_8_5, f_16_2, f_18_3, f_18_4, f_18_5, f_18_6, f_23_0, f_23_1, f_23_2, f_23_3, f_23_4, f_24_2, f_24_3, f_24_4, f_24_5, f_33_3, f_33_4, f_33_5, f_33_6, f_38_1, f_38_2, f_41_0, f_161_0, f_161_1, f_161_3, f_161_7, f_161_12, f_161_13, f_161_14, f_161_15, f_161_16, f_161_17, f_161_18, f_161_19, f_161_21, f_161_22, f_161_25, true_and, and_true, true_or, or_true, if_true, if_false, ne_eq, not_false_eq_true, and_self, t10, am_psh, am_clr, not_true_eq_false, Nat.reduceEqDiff]
    have q1' := q1
    rw [show enc (-107) (none : Option Nat) = -107 from rfl] at q1'
    rw [q1']; simp only [r181_6, r181_7, r181_10, s_1, s_2, s_3, s_8, s_16, s_18, s_23, s_24, s_33, s_38, s_41, s_161, f_1_0, f_1_1, f_1_4, f_1_5, f_1_8, f_1_9, f_1_10, f_1_11, f_1_12, f_1_13, f_2_0, f_2_1, f_3_3, f_3_4, f_3_5, f_3_6, f_8_2, f_8_3, f_8_4, f_8_5, f_16_2, f_18_3, f_18_4, f_18_5, f_18_6, f_23_0, f_23_1, f_23_2, f_23_3, f_23_4, f_24_2, f_24_3, f_24_4, f_24_5, f_33_3, f_33_4, f_33_5, f_33_6, f_38_1, f_38_2, f_41_0, f_161_0, f_161_1, f_161_3, f_161_7, f_161_12, f_161_13, f_161_14, f_161_15, f_161_16, f_161_17, f_161_18, f_161_19, f_161_21, f_161_22, f_161_25, true_and, and_true, true_or, or_true, if_true, if_false, ne_eq, not_false_eq_true, and_self, t10, am_psh, am_clr, not_true_eq_false, Nat.reduceEqDiff]
    rw [q3.2, ← Int64.ofInt_eq_ofNat, hc]
theorem op_arborescencesWith (x : Int32) : am_OKl L Inv 94 182 [.int x] := by
  intro I J hI
  have hI0 := hI
  obtain ⟨⟨G, o⟩, hs, s0, s1, n, tx, hok, hx, hm, hl, hh, hsl, hru, htx⟩ := hI
  have hm32 : gm G ≤ 32 := hok.1.1.2.2.2
  rcases in_or_out x (n := gm G) (by omega) with hxo | ⟨v, hv, rfl⟩
  · refine ⟨-102, I, J, I, J, fun Q => ?_, rfl, fun Q => ?_, rfl, hI0⟩
    · rw [e94]; simp only [r94_0, r94_1, r94_4, r94_7, r94_8, r94_9, r94_10, s_1, s_2, s_3, s_8, s_16, s_18, s_23, s_24, s_33, s_38, s_41, s_161, f_1_0, f_1_1, f_1_4, f_1_5, f_1_8, f_1_9, f_1_10, f_1_11, f_1_12, f_1_13, f_2_0, f_2_1, f_3_3, f_3_4, f_3_5, f_3_6, f_8_2, f_8_3, f_8_4, f_8_5, f_16_2, f_18_3, f_18_4, f_18_5, f_18_6, f_23_0, f_23_1, f_23_2, f_23_3, f_23_4, f_24_2, f_24_3, f_24_4, f_24_5, f_33_3, f_33_4, f_33_5, f_33_6, f_38_1, f_38_2, f_41_0, f_161_0, f_161_1, f_161_3, f_161_7, f_161_12, f_161_13, f_161_14, f_161_15, f_161_16, f_161_17, f_161_18, f_161_19, f_161_21, f_161_22, f_161_25, true_and, and_true, true_or, or_true, if_true, if_false, ne_eq, not_false_eq_true, and_self, t10, am_psh, am_clr, not_true_eq_false, Nat.reduceEqDiff]
      rw [c_hasArc_out hx.1.1.2.2 hxo]; simp only [r94_13, r94_16, r94_19, true_and, and_true, true_or, or_true, if_true, if_false, ne_eq, not_false_eq_true, and_self, t10, am_psh, am_clr, not_true_eq_false, Nat.reduceEqDiff]
    · rw [e182]; simp only [r182_0, r182_1, r182_2, s_1, s_2, s_3, s_8, s_16, s_18, s_23, s_24, s_33, s_38, s_41, s_161, f_1_0, f_1_1, f_1_4, f_1_5, f_1_8, f_1_9, f_1_10, f_1_11, f_1_12, f_1_13, f_2_0, f_2_1, f_3_3, f_3_4, f_3_5, f_3_6, f_8_2, f_8_3, f_8_4, f_8_5, f_16_2, f_18_3, f_18_4, f_18_5, f_18_6, f_23_0, f_23_1, f_23_2, f_23_3, f_23_4, f_24_2, f_24_3, f_24_4, f_24_5, f_33_3, f_33_4, f_33_5, f_33_6, f_38_1, f_38_2, f_41_0, f_161_0, f_161_1, f_161_3, f_161_7, f_161_12, f_161_13, f_161_14, f_161_15, f_161_16, f_161_17, f_161_18, f_161_19, f_161_21, f_161_22, f_161_25, true_and, and_true, true_or, or_true, if_true, if_false, ne_eq, not_false_eq_true, and_self, t10, am_psh, am_clr, not_true_eq_false, Nat.reduceEqDiff]
      rw [c_isArc_out hm.1.1.2.2 hm32 hxo]; simp only [r182_5, r182_8, r182_11, true_and, and_true, true_or, or_true, if_true, if_false, ne_eq, not_false_eq_true, and_self, t10, am_psh, am_clr, not_true_eq_false, Nat.reduceEqDiff]
  have hgv : gh G v < gn G := (hok.1.2.1 v hv).2.1
  have hgn : gn G ≤ 8 := hok.1.1.2.1
  have hgr : gr G < gn G := hok.1.1.2.2.1
  have g5 : I 5 v = nI (gh G v) := (hx.1.2.1 v hv).2.1
  have runX : ∀ Q, am_C 40 94 [.ref 1, .int (nI v)] (cS L) I J Q = if gh G v = gr G then Q (some (.long 0)) (cS L) I J else am_T 39 94 35 [some (.ref 1), some (.int (nI v)), some (.ref 3)] [] (cS L) I J Q := fun Q => by
    rw [e94]; simp only [r94_0, r94_1, r94_4, r94_7, r94_8, r94_9, r94_10, s_1, s_2, s_3, s_8, s_16, s_18, s_23, s_24, s_33, s_38, s_41, s_161, f_1_0, f_1_1, f_1_4, f_1_5, f_1_8, f_1_9, f_1_10, f_1_11, f_1_12, f_1_13, f_2_0, f_2_1, f_3_3, f_3_4, f_3_5, f_3_6, f_8_2, f_8_3, f_8_4, f_8_5, f_16_2, f_18_3, f_18_4, f_18_5, f_18_6, f_23_0, f_23_1, f_23_2, f_23_3, f_23_4, f_24_2, f_24_3, f_24_4, f_24_5, f_33_3, f_33_4, f_33_5, f_33_6, f_38_1, f_38_2, f_41_0, f_161_0, f_161_1, f_161_3, f_161_7, f_161_12, f_161_13, f_161_14, f_161_15, f_161_16, f_161_17, f_161_18, f_161_19, f_161_21, f_161_22, f_161_25, true_and, and_true, true_or, or_true, if_true, if_false, ne_eq, not_false_eq_true, and_self, t10, am_psh, am_clr, not_true_eq_false, Nat.reduceEqDiff]
    rw [c_hasArc_in hx.1.1.2.2 hm32 hv]; simp only [r94_13, r94_16, r94_19, r94_20, r94_21, r94_24, r94_25, r94_26, r94_27, r94_30, r94_33, r94_34, s_1, s_2, s_3, s_8, s_16, s_18, s_23, s_24, s_33, s_38, s_41, s_161, f_1_0, f_1_1, f_1_4, f_1_5, f_1_8, f_1_9, f_1_10, f_1_11, f_1_12, f_1_13, f_2_0, f_2_1, f_3_3, f_3_4, f_3_5, f_3_6, f_8_2, f_8_3, f_8_4, f_8_5, f_16_2, f_18_3, f_18_4, f_18_5, f_18_6, f_23_0, f_23_1, f_23_2, f_23_3, f_23_4, f_24_2, f_24_3, f_24_4, f_24_5, f_33_3, f_33_4, f_33_5, f_33_6, f_38_1, f_38_2, f_41_0, f_161_0, f_161_1, f_161_3, f_161_7, f_161_12, f_161_13, f_161_14, f_161_15, f_161_16, f_161_17, f_161_18, f_161_19, f_161_21, f_161_22, f_161_25, true_and, and_true, true_or, or_true, if_true, if_false, ne_eq, not_false_eq_true, and_self, t10, am_psh, am_clr, not_true_eq_false, Nat.reduceEqDiff, ix5 (L := L) v (by omega), n_cl (show v < 2 ^ 31 by omega), g5, hx.1.1.2.1]
    by_cases e : gh G v = gr G
    · rw [if_pos e, if_pos (show nI (gh G v) = nI (gr G) by rw [e])]
    · rw [if_neg e, if_neg (show ¬ nI (gh G v) = nI (gr G) from fun q => e ((nI_eq (by omega) (by omega)).mp q))]
  have runM : ∀ (J J2 : am_J) (I2 : am_I), (∀ Q, am_C (36 + 3) 175 [.ref 161, .int (nI v)] (cS L) I J Q = Q none (cS L) I2 J2) → ∀ Q, am_C 40 182 [.ref 161, .int (nI v)] (cS L) I J Q = Q (some (.long (J2 161 24))) (cS L) I2 J2 := fun J J2 I2 h Q => by
    rw [e182]; simp only [r182_0, r182_1, r182_2, s_1, s_2, s_3, s_8, s_16, s_18, s_23, s_24, s_33, s_38, s_41, s_161, f_1_0, f_1_1, f_1_4, f_1_5, f_1_8, f_1_9, f_1_10, f_1_11, f_1_12, f_1_13, f_2_0, f_2_1, f_3_3, f_3_4, f_3_5, f_3_6, f_8_2, f_8_3, f_8_4, f_8_5, f_16_2, f_18_3, f_18_4, f_18_5, f_18_6, f_23_0, f_23_1, f_23_2, f_23_3, f_23_4, f_24_2, f_24_3, f_24_4, f_24_5, f_33_3, f_33_4, f_33_5, f_33_6, f_38_1, f_38_2, f_41_0, f_161_0, f_161_1, f_161_3, f_161_7, f_161_12, f_161_13, f_161_14, f_161_15, f_161_16, f_161_17, f_161_18, f_161_19, f_161_21, f_161_22, f_161_25, true_and, and_true, true_or, or_true, if_true, if_false, ne_eq, not_false_eq_true, and_self, t10, am_psh, am_clr, not_true_eq_false, Nat.reduceEqDiff]
    rw [c_isArc_in hm.1.1.2.2 hm32 hv]; simp only [r182_5, r182_8, r182_11, r182_12, r182_13, r182_14, s_1, s_2, s_3, s_8, s_16, s_18, s_23, s_24, s_33, s_38, s_41, s_161, f_1_0, f_1_1, f_1_4, f_1_5, f_1_8, f_1_9, f_1_10, f_1_11, f_1_12, f_1_13, f_2_0, f_2_1, f_3_3, f_3_4, f_3_5, f_3_6, f_8_2, f_8_3, f_8_4, f_8_5, f_16_2, f_18_3, f_18_4, f_18_5, f_18_6, f_23_0, f_23_1, f_23_2, f_23_3, f_23_4, f_24_2, f_24_3, f_24_4, f_24_5, f_33_3, f_33_4, f_33_5, f_33_6, f_38_1, f_38_2, f_41_0, f_161_0, f_161_1, f_161_3, f_161_7, f_161_12, f_161_13, f_161_14, f_161_15, f_161_16, f_161_17, f_161_18, f_161_19, f_161_21, f_161_22, f_161_25, true_and, and_true, true_or, or_true, if_true, if_false, ne_eq, not_false_eq_true, and_self, t10, am_psh, am_clr, not_true_eq_false, Nat.reduceEqDiff]
    rw [h]; simp only [r182_17, r182_18, r182_21, s_1, s_2, s_3, s_8, s_16, s_18, s_23, s_24, s_33, s_38, s_41, s_161, f_1_0, f_1_1, f_1_4, f_1_5, f_1_8, f_1_9, f_1_10, f_1_11, f_1_12, f_1_13, f_2_0, f_2_1, f_3_3, f_3_4, f_3_5, f_3_6, f_8_2, f_8_3, f_8_4, f_8_5, f_16_2, f_18_3, f_18_4, f_18_5, f_18_6, f_23_0, f_23_1, f_23_2, f_23_3, f_23_4, f_24_2, f_24_3, f_24_4, f_24_5, f_33_3, f_33_4, f_33_5, f_33_6, f_38_1, f_38_2, f_41_0, f_161_0, f_161_1, f_161_3, f_161_7, f_161_12, f_161_13, f_161_14, f_161_15, f_161_16, f_161_17, f_161_18, f_161_19, f_161_21, f_161_22, f_161_25, true_and, and_true, true_or, or_true, if_true, if_false, ne_eq, not_false_eq_true, and_self, t10, am_psh, am_clr, not_true_eq_false, Nat.reduceEqDiff]
  by_cases e : gh G v = gr G
  · obtain ⟨I2, J2, q1, q2, q3⟩ := c_goThrough (d := 36) (L := L) (I := I) (J := J) (o := some v) hok.1 hm.1 (fun a h => by cases h; omega)
    rw [enF_pair] at q3
    have hc := cnt_root hok.1 hv e
    refine ⟨0, I, J, I2, J2, fun Q => by rw [runX, if_pos e], rfl, fun Q => ?_, q2.1 0 (by omega) (by omega) (by omega), Inv_go hI0 q2⟩
    rw [runM J J2 I2 q1, q3.2, hc]; rfl
  · obtain ⟨J1, k1⟩ := c_countIn (d := 36) (L := L) (I := I) (J := J) (al := alR G v) (x := rvF G v (gm G)) hok.1 hx.1 (fun a ha => rv_al hm32 ha)
    obtain ⟨I2, J2, q1, q2, q3⟩ := c_goThrough (d := 36) (L := L) (I := I) (J := J1) (o := some v) hok.1 hm.1 (fun a h => by cases h; omega)
    rw [enF_pair] at q3
    have hc := cnt_with (al := alR G v) hok.1 hv e (fun _ _ => rfl)
    refine ⟨Int64.ofInt (eF (okv G (alR G v)) 33 (tgv G) (gn G)), I, J1, I2, J2, fun Q => ?_, rfl, fun Q => ?_, q2.1 0 (by omega) (by omega) (by omega), Inv_go hI0 q2⟩
    · rw [runX, if_neg e]
      simp only [r94_35, r94_36, r94_39, r94_40, r94_41, r94_42, s_1, s_2, s_3, s_8, s_16, s_18, s_23, s_24, s_33, s_38, s_41, s_161, f_1_0, f_1_1, f_1_4, f_1_5, f_1_8, f_1_9, f_1_10, f_1_11, f_1_12, f_1_13, f_2_0, f_2_1, f_3_3, f_3_4, f_3_5, f_3_6, f_8_2, f_8_3, f_8_4, f_8_5, f_16_2, f_18_3, f_18_4, f_18_5, f_18_6, f_23_0, f_23_1, f_23_2, f_23_3, f_23_4, f_24_2, f_24_3, f_24_4, f_24_5, f_33_3, f_33_4, f_33_5, f_33_6, f_38_1, f_38_2, f_41_0, f_161_0, f_161_1, f_161_3, f_161_7, f_161_12, f_161_13, f_161_14, f_161_15, f_161_16, f_161_17, f_161_18, f_161_19, f_161_21, f_161_22, f_161_25, true_and, and_true, true_or, or_true, if_true, if_false, ne_eq, not_false_eq_true, and_self, t10, am_psh, am_clr, not_true_eq_false, Nat.reduceEqDiff]
      rw [c_rivals hok.1 hx.1 hv]
      simp only [r94_45, s_1, s_2, s_3, s_8, s_16, s_18, s_23, s_24, s_33, s_38, s_41, s_161, f_1_0, f_1_1, f_1_4, f_1_5, f_1_8, f_1_9, f_1_10, f_1_11, f_1_12, f_1_13, f_2_0, f_2_1, f_3_3, f_3_4, f_3_5, f_3_6, f_8_2, f_8_3, f_8_4, f_8_5, f_16_2, f_18_3, f_18_4, f_18_5, f_18_6, f_23_0, f_23_1, f_23_2, f_23_3, f_23_4, f_24_2, f_24_3, f_24_4, f_24_5, f_33_3, f_33_4, f_33_5, f_33_6, f_38_1, f_38_2, f_41_0, f_161_0, f_161_1, f_161_3, f_161_7, f_161_12, f_161_13, f_161_14, f_161_15, f_161_16, f_161_17, f_161_18, f_161_19, f_161_21, f_161_22, f_161_25, true_and, and_true, true_or, or_true, if_true, if_false, ne_eq, not_false_eq_true, and_self, t10, am_psh, am_clr, not_true_eq_false, Nat.reduceEqDiff]
      rw [k1]
      simp only [r94_48, s_1, s_2, s_3, s_8, s_16, s_18, s_23, s_24, s_33, s_38, s_41, s_161, f_1_0, f_1_1, f_1_4, f_1_5, f_1_8, f_1_9, f_1_10, f_1_11, f_1_12, f_1_13, f_2_0, f_2_1, f_3_3, f_3_4, f_3_5, f_3_6, f_8_2, f_8_3, f_8_4, f_8_5, f_16_2, f_18_3, f_18_4, f_18_5, f_18_6, f_23_0, f_23_1, f_23_2, f_23_3, f_23_4, f_24_2, f_24_3, f_24_4, f_24_5, f_33_3, f_33_4, f_33_5, f_33_6, f_38_1, f_38_2, f_41_0, f_161_0, f_161_1, f_161_3, f_161_7, f_161_12, f_161_13, f_161_14, f_161_15, f_161_16, f_161_17, f_161_18, f_161_19, f_161_21, f_161_22, f_161_25, true_and, and_true, true_or, or_true, if_true, if_false, ne_eq, not_false_eq_true, and_self, t10, am_psh, am_clr, not_true_eq_false, Nat.reduceEqDiff]
    · rw [runM J1 J2 I2 q1, q3.2, ← Int64.ofInt_eq_ofNat, hc]
end DT
