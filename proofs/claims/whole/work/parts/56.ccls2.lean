/-! the class' contraction: unions, reading off, the whole -/
section CU
variable {d L : Nat} {I I' : am_I} {J : am_J} {Q : am_Q} {G : Gr} {pr : Nat → Int32} {al : Nat → Bool} {s : Cs} {g a : Nat}
/-- a new group at q's rows (the record's row itself, its sets, duals and wholes behind it) -/
theorem c_add {q k : Nat} {x : Int32} (hq : shR L q) (hk : k < 15) (hc : I q 1 = nI k) : am_C (d + 1) 29 [.ref q, .int x] (cS L) I J Q = Q none (cS L) (am_up (am_up (am_up (am_up I (q + 1) k x) (q + 2) k 0) (q + 3) k (-1)) q 1 (nI (k + 1))) J := by
  obtain ⟨a1, ⟨a2, a3, a4, a5⟩, ⟨a6, a7, a8, a9⟩, ⟨a10, a11, a12, a13⟩⟩ := hq
  have x1 : am_ixw (cS L) (q + 1) 20 (nI k) := ixw_nI a6 (by omega) a10 hk (by omega)
  have x2 : am_ixw (cS L) (q + 2) 20 (nI k) := ixw_nI a7 (by omega) a11 hk (by omega)
  have x3 : am_ixw (cS L) (q + 3) 20 (nI k) := ixw_nI a8 (by omega) a12 hk (by omega)
  have u1 : ∀ (K : am_I) j x, am_up K (q + 1) j x q = K q := fun K j x => am_up_ne (by omega)
  have u2 : ∀ (K : am_I) j x, am_up K (q + 2) j x q = K q := fun K j x => am_up_ne (by omega)
  have u3 : ∀ (K : am_I) j x, am_up K (q + 3) j x q = K q := fun K j x => am_up_ne (by omega)
  rw [e29]
  simp only [r29_0, r29_1, r29_4, r29_6, r29_9, r29_10, r29_11, r29_14, r29_15, r29_18, r29_19, r29_20, r29_21, r29_24, r29_25, r29_28, r29_29, r29_30, r29_31, r29_34, r29_35, r29_38, r29_39, r29_40, r29_41, r29_42, r29_45, r29_46, r29_47, r29_50, a1, a2, a3, a4, x1, x2, x3, u1, u2, u3, n_cl (show k < 2 ^ 31 by omega), hc, nI_1, Nat.add_eq_zero_iff, and_false, true_and, and_true, true_or, or_true, if_true, if_false, ne_eq, not_false_eq_true, and_self, t10, am_psh, am_clr, not_true_eq_false, Nat.reduceEqDiff]
  rw [if_pos (show nI k < 15 from (nI_ltI (b := 15) (by omega) (by omega)).mpr hk)]
theorem begin_loop (hG : okG G) : ∀ (n j : Nat) (I : am_I), j + n = gn G → I 24 1 = nI j → (∀ g, g < j → I 25 g = 1 <<< (nI g &&& 31) ∧ I 26 g = 0 ∧ I 27 g = -1) → ∃ I', (∀ Q, am_T (d + 1) 28 12 [some (.ref 24), some (.int (nI (gn G))), some (.int (nI j))] [] (cS L) I J Q = Q none (cS L) I' J) ∧ (∀ b, (b < 24 ∨ 27 < b) → I' b = I b) ∧ I' 24 0 = I 24 0 ∧ I' 24 1 = nI (gn G) ∧ ∀ g, g < gn G → I' 25 g = 1 <<< (nI g &&& 31) ∧ I' 26 g = 0 ∧ I' 27 g = -1 := by
  have hn := hG.1.2.1
  intro n
  induction n with
  | zero =>
    intro j I hj h1 h2
    have : j = gn G := by omega
    subst this
    refine ⟨I, fun Q => ?_, fun _ _ => rfl, rfl, h1, h2⟩
    rw [r28_12]
    simp only [r28_13, r28_14, r28_30]
    rw [if_pos (Int32.le_refl _)]
  | succ n ih =>
    intro j I hj h1 h2
    obtain ⟨I', k1, k2, k3, k4, k5⟩ := ih (j + 1) (am_up (am_up (am_up (am_up I (24 + 1) j (1 <<< (nI j &&& 31))) (24 + 2) j 0) (24 + 3) j (-1)) 24 1 (nI (j + 1))) (by omega) (up_self _ _ _ _) (fun g hg => by
      rw [am_up_ne (show 25 ≠ 24 by omega), am_up_ne (show 26 ≠ 24 by omega), am_up_ne (show 27 ≠ 24 by omega), am_up_ne (show 25 ≠ 24 + 3 by omega), am_up_ne (show 26 ≠ 24 + 3 by omega), am_up_ne (show 25 ≠ 24 + 2 by omega)]
      by_cases e : g = j
      · subst e
        exact ⟨up_self _ _ _ _, up_self _ _ _ _, up_self _ _ _ _⟩
      · refine ⟨(up_ne _ _ (Or.inr e)).trans (h2 g (by omega)).1, (up_ne _ _ (Or.inr e)).trans ?_, (up_ne _ _ (Or.inr e)).trans ?_⟩
        · rw [am_up_ne (by omega)]; exact (h2 g (by omega)).2.1
        · rw [am_up_ne (by omega), am_up_ne (by omega)]; exact (h2 g (by omega)).2.2)
    refine ⟨I', fun Q => ?_, fun b hb => by rw [k2 b hb, am_up_ne (by omega), am_up_ne (by omega), am_up_ne (by omega), am_up_ne (by omega)], by rw [k3, up_ne _ _ (Or.inr (by omega)), am_up_ne (by omega), am_up_ne (by omega), am_up_ne (by omega)], k4, k5⟩
    rw [r28_12]
    simp only [r28_13, r28_14, r28_17, r28_18, r28_19, r28_20, r28_21, s_1, s_2, s_3, s_8, s_16, s_18, s_23, s_24, s_33, s_38, s_41, s_161, f_1_0, f_1_1, f_1_4, f_1_5, f_1_8, f_1_9, f_1_10, f_1_11, f_1_12, f_1_13, f_2_0, f_2_1, f_3_3, f_3_4, f_3_5, f_3_6, f_8_2, f_8_3, f_8_4, f_8_5, f_16_2, f_18_3, f_18_4, f_18_5, f_18_6, f_23_0, f_23_1, f_23_2, f_23_3, f_23_4, f_24_2, f_24_3, f_24_4, f_24_5, f_33_3, f_33_4, f_33_5, f_33_6, f_38_1, f_38_2, f_41_0, f_161_0, f_161_1, f_161_3, f_161_7, f_161_12, f_161_13, f_161_14, f_161_15, f_161_16, f_161_17, f_161_18, f_161_19, f_161_21, f_161_22, f_161_25, true_and, and_true, true_or, or_true, if_true, if_false, ne_eq, not_false_eq_true, and_self, t10, am_psh, am_clr, not_true_eq_false, Nat.reduceEqDiff]
    rw [if_neg (nI_ge (show j < gn G by omega) (by omega)), c_add (shR_24 L) (by omega) h1]
    simp only [r28_24, r28_27, s_1, s_2, s_3, s_8, s_16, s_18, s_23, s_24, s_33, s_38, s_41, s_161, f_1_0, f_1_1, f_1_4, f_1_5, f_1_8, f_1_9, f_1_10, f_1_11, f_1_12, f_1_13, f_2_0, f_2_1, f_3_3, f_3_4, f_3_5, f_3_6, f_8_2, f_8_3, f_8_4, f_8_5, f_16_2, f_18_3, f_18_4, f_18_5, f_18_6, f_23_0, f_23_1, f_23_2, f_23_3, f_23_4, f_24_2, f_24_3, f_24_4, f_24_5, f_33_3, f_33_4, f_33_5, f_33_6, f_38_1, f_38_2, f_41_0, f_161_0, f_161_1, f_161_3, f_161_7, f_161_12, f_161_13, f_161_14, f_161_15, f_161_16, f_161_17, f_161_18, f_161_19, f_161_21, f_161_22, f_161_25, true_and, and_true, true_or, or_true, if_true, if_false, ne_eq, not_false_eq_true, and_self, t10, am_psh, am_clr, not_true_eq_false, Nat.reduceEqDiff, nI_1]
    exact k1 Q
theorem prep_1 {l : Option Value} {cb : Nat} (hG : okG G) : ∀ (n j : Nat) (I : am_I), j + n = gn G → xG I 3 G → (∀ v, v < j → I 31 v = nI v) → ∃ I', (∀ Q, am_T d 2 13 [some (.ref 23), some (.ref 3), some (.ref cb), some (.int (nI j))] [] (cS L) I J Q = am_T d 2 34 [some (.ref 23), some (.ref 3), some (.ref cb), some (.int (nI (gn G)))] [] (cS L) I' J Q) ∧ (∀ b, b ≠ 31 → I' b = I b) ∧ ∀ v, v < gn G → I' 31 v = nI v := by
  have hn := hG.1.2.1
  intro n
  induction n with
  | zero =>
    intro j I hj hx h2
    have : j = gn G := by omega
    subst this
    refine ⟨I, fun Q => ?_, fun _ _ => rfl, h2⟩
    rw [r2_13]
    simp only [r2_14, r2_15, r2_18, s_1, s_2, s_3, s_8, s_16, s_18, s_23, s_24, s_33, s_38, s_41, s_161, f_1_0, f_1_1, f_1_4, f_1_5, f_1_8, f_1_9, f_1_10, f_1_11, f_1_12, f_1_13, f_2_0, f_2_1, f_3_3, f_3_4, f_3_5, f_3_6, f_8_2, f_8_3, f_8_4, f_8_5, f_16_2, f_18_3, f_18_4, f_18_5, f_18_6, f_23_0, f_23_1, f_23_2, f_23_3, f_23_4, f_24_2, f_24_3, f_24_4, f_24_5, f_33_3, f_33_4, f_33_5, f_33_6, f_38_1, f_38_2, f_41_0, f_161_0, f_161_1, f_161_3, f_161_7, f_161_12, f_161_13, f_161_14, f_161_15, f_161_16, f_161_17, f_161_18, f_161_19, f_161_21, f_161_22, f_161_25, true_and, and_true, true_or, or_true, if_true, if_false, ne_eq, not_false_eq_true, and_self, t10, am_psh, am_clr, not_true_eq_false, Nat.reduceEqDiff, hx.1.1]
    rw [if_pos (Int32.le_refl _)]
  | succ n ih =>
    intro j I hj hx h2
    obtain ⟨I', k1, k2, k3⟩ := ih (j + 1) (am_up I 31 j (nI j)) (by omega) (xG_congr (fun b b1 b2 => am_up_ne (by omega)) hx) (fun v hv => by
      by_cases e : v = j
      · subst e; exact up_self _ _ _ _
      · exact (up_ne _ _ (Or.inr e)).trans (h2 v (by omega)))
    refine ⟨I', fun Q => ?_, fun b hb => by rw [k2 b hb, am_up_ne hb], k3⟩
    rw [r2_13]
    simp only [r2_14, r2_15, r2_18, r2_21, r2_22, r2_25, r2_26, r2_27, r2_28, r2_31, s_1, s_2, s_3, s_8, s_16, s_18, s_23, s_24, s_33, s_38, s_41, s_161, f_1_0, f_1_1, f_1_4, f_1_5, f_1_8, f_1_9, f_1_10, f_1_11, f_1_12, f_1_13, f_2_0, f_2_1, f_3_3, f_3_4, f_3_5, f_3_6, f_8_2, f_8_3, f_8_4, f_8_5, f_16_2, f_18_3, f_18_4, f_18_5, f_18_6, f_23_0, f_23_1, f_23_2, f_23_3, f_23_4, f_24_2, f_24_3, f_24_4, f_24_5, f_33_3, f_33_4, f_33_5, f_33_6, f_38_1, f_38_2, f_41_0, f_161_0, f_161_1, f_161_3, f_161_7, f_161_12, f_161_13, f_161_14, f_161_15, f_161_16, f_161_17, f_161_18, f_161_19, f_161_21, f_161_22, f_161_25, true_and, and_true, true_or, or_true, if_true, if_false, ne_eq, not_false_eq_true, and_self, t10, am_psh, am_clr, not_true_eq_false, Nat.reduceEqDiff, hx.1.1, iw31 (L := L) j (by omega), n_cl (show j < 2 ^ 31 by omega), nI_1]
    rw [if_neg (nI_ge (show j < gn G by omega) (by omega))]
    exact k1 Q
theorem prep_2 {cb : Nat} : ∀ (n j : Nat) (I : am_I), j + n = 15 → (∀ v, v < j → I 30 v = -1) → ∃ I', (∀ Q, am_T d 2 36 [some (.ref 23), some (.ref 3), some (.ref cb), some (.int (nI j))] [] (cS L) I J Q = am_T d 2 55 [some (.ref 23), some (.ref 3), some (.ref cb), some (.int (nI 15))] [] (cS L) I' J Q) ∧ (∀ b, b ≠ 30 → I' b = I b) ∧ ∀ v, v < 15 → I' 30 v = -1 := by
  intro n
  induction n with
  | zero =>
    intro j I hj h2
    have : j = 15 := by omega
    subst this
    refine ⟨I, fun Q => ?_, fun _ _ => rfl, h2⟩
    rw [r2_36]
    simp only [r2_37, r2_39]
    rw [if_pos (by decide)]
  | succ n ih =>
    intro j I hj h2
    obtain ⟨I', k1, k2, k3⟩ := ih (j + 1) (am_up I 30 j (-1)) (by omega) (fun v hv => by
      by_cases e : v = j
      · subst e; exact up_self _ _ _ _
      · exact (up_ne _ _ (Or.inr e)).trans (h2 v (by omega)))
    refine ⟨I', fun Q => ?_, fun b hb => by rw [k2 b hb, am_up_ne hb], k3⟩
    rw [r2_36]
    simp only [r2_37, r2_39, r2_42, r2_43, r2_46, r2_47, r2_48, r2_49, r2_52, s_1, s_2, s_3, s_8, s_16, s_18, s_23, s_24, s_33, s_38, s_41, s_161, f_1_0, f_1_1, f_1_4, f_1_5, f_1_8, f_1_9, f_1_10, f_1_11, f_1_12, f_1_13, f_2_0, f_2_1, f_3_3, f_3_4, f_3_5, f_3_6, f_8_2, f_8_3, f_8_4, f_8_5, f_16_2, f_18_3, f_18_4, f_18_5, f_18_6, f_23_0, f_23_1, f_23_2, f_23_3, f_23_4, f_24_2, f_24_3, f_24_4, f_24_5, f_33_3, f_33_4, f_33_5, f_33_6, f_38_1, f_38_2, f_41_0, f_161_0, f_161_1, f_161_3, f_161_7, f_161_12, f_161_13, f_161_14, f_161_15, f_161_16, f_161_17, f_161_18, f_161_19, f_161_21, f_161_22, f_161_25, true_and, and_true, true_or, or_true, if_true, if_false, ne_eq, not_false_eq_true, and_self, t10, am_psh, am_clr, not_true_eq_false, Nat.reduceEqDiff, iw30 (L := L) j (by omega), n_cl (show j < 2 ^ 31 by omega), nI_1]
    rw [if_neg (show ¬ (15 : Int32) ≤ nI j from ge_lit (c := 15) rfl (by omega) (by omega))]
    exact k1 Q
/-- a row of costs: the graph's own, or the priced ones -/
def isCo (cb : Nat) : Prop := cb = 6 ∨ cb = 40
theorem co_sh {cb : Nat} (h : isCo cb) : am_kd (cS L) cb = 20 ∧ am_ln (cS L) cb = 32 ∧ cb ≠ 0 := by
  rcases h with rfl | rfl
  · exact ⟨k_6 L, n_6 L, by omega⟩
  · exact ⟨k_40 L, n_40 L, by omega⟩
theorem c_prepare {cb : Nat} (hcb : isCo cb) (hG : okG G) (hx : xG I 3 G) (hp : ∀ a, a < gm G → I cb a = pr a) : ∃ I', (∀ Q, am_C (d + 3) 2 [.ref 23, .ref 3, .ref cb] (cS L) I J Q = Q none (cS L) I' J) ∧ (∀ b, (b < 24 ∨ (27 < b ∧ b ≠ 29 ∧ b ≠ 30 ∧ b ≠ 31)) → I' b = I b) ∧ xC I' G pr (con0 G) ∧ I' 24 0 = 0 := by
  have hn := hG.1.2.1
  have hm := hG.1.2.2.2
  have hcb2 : cb < 24 ∨ (27 < cb ∧ cb ≠ 29 ∧ cb ≠ 30 ∧ cb ≠ 31) := by rcases hcb with rfl | rfl <;> omega
  obtain ⟨I1, k1, k2, k2b, k3, k4⟩ := begin_loop (d := d) (L := L) (J := J) hG (gn G) 0 (am_up (am_up I 24 0 0) 24 1 0) (by omega) (up_self _ _ _ _) (fun g hg => absurd hg (Nat.not_lt_zero g))
  have f1 : ∀ b, (b < 24 ∨ 27 < b) → I1 b = I b := fun b hb => by rw [k2 b hb, am_up_ne (by omega), am_up_ne (by omega)]
  have hx1 : xG I1 3 G := xG_congr (fun b b1 b2 => f1 b (by omega)) hx
  obtain ⟨I2, m1, m2, m3⟩ := prep_1 (d := d + 2) (L := L) (J := J) (cb := cb) (l := none) hG (gn G) 0 I1 (by omega) hx1 (fun v hv => absurd hv (Nat.not_lt_zero v))
  obtain ⟨I3, q1, q2, q3⟩ := prep_2 (d := d + 2) (L := L) (J := J) (cb := cb) 15 0 I2 (by omega) (fun v hv => absurd hv (Nat.not_lt_zero v))
  have f3 : ∀ b, (b < 24 ∨ (27 < b ∧ b ≠ 30 ∧ b ≠ 31)) → I3 b = I b := fun b hb => by rw [q2 b (by omega), m2 b (by omega), f1 b (by omega)]
  obtain ⟨c1, c2, c3⟩ := co_sh (L := L) hcb
  have hcp : am_cpy (cS L) 29 cb 0 0 (nI (gm G)) := by
    refine ⟨k_29 L, c1, by omega, c3, ?_, ?_, ?_⟩
    · refine ⟨?_, by decide, by decide⟩
      rw [n_ti (by omega)]; omega
    · rw [n_ti (by omega), c2]; show (0 : Int) + _ ≤ _; omega
    · rw [n_ti (by omega), n_29]; show (0 : Int) + _ ≤ _; omega
  refine ⟨am_row I3 29 (va_cpy (I3 cb) (I3 29) 0 0 (gm G)), fun Q => ?_, fun b hb => by rw [am_row_ne (by omega), f3 b (by omega)], ⟨?_, fun g hg => ?_, fun g hg => ?_, fun v hv => ?_, fun a ha => ?_⟩, ?_⟩
  · rw [e2]
    simp only [r2_0, r2_1, r2_4, r2_5, r2_8, s_1, s_2, s_3, s_8, s_16, s_18, s_23, s_24, s_33, s_38, s_41, s_161, f_1_0, f_1_1, f_1_4, f_1_5, f_1_8, f_1_9, f_1_10, f_1_11, f_1_12, f_1_13, f_2_0, f_2_1, f_3_3, f_3_4, f_3_5, f_3_6, f_8_2, f_8_3, f_8_4, f_8_5, f_16_2, f_18_3, f_18_4, f_18_5, f_18_6, f_23_0, f_23_1, f_23_2, f_23_3, f_23_4, f_24_2, f_24_3, f_24_4, f_24_5, f_33_3, f_33_4, f_33_5, f_33_6, f_38_1, f_38_2, f_41_0, f_161_0, f_161_1, f_161_3, f_161_7, f_161_12, f_161_13, f_161_14, f_161_15, f_161_16, f_161_17, f_161_18, f_161_19, f_161_21, f_161_22, f_161_25, true_and, and_true, true_or, or_true, if_true, if_false, ne_eq, not_false_eq_true, and_self, t10, am_psh, am_clr, not_true_eq_false, Nat.reduceEqDiff, hx.1.1]
    rw [e28]
    simp only [r28_0, r28_1, r28_2, r28_5, r28_6, r28_7, r28_10, r28_11, s_1, s_2, s_3, s_8, s_16, s_18, s_23, s_24, s_33, s_38, s_41, s_161, f_1_0, f_1_1, f_1_4, f_1_5, f_1_8, f_1_9, f_1_10, f_1_11, f_1_12, f_1_13, f_2_0, f_2_1, f_3_3, f_3_4, f_3_5, f_3_6, f_8_2, f_8_3, f_8_4, f_8_5, f_16_2, f_18_3, f_18_4, f_18_5, f_18_6, f_23_0, f_23_1, f_23_2, f_23_3, f_23_4, f_24_2, f_24_3, f_24_4, f_24_5, f_33_3, f_33_4, f_33_5, f_33_6, f_38_1, f_38_2, f_41_0, f_161_0, f_161_1, f_161_3, f_161_7, f_161_12, f_161_13, f_161_14, f_161_15, f_161_16, f_161_17, f_161_18, f_161_19, f_161_21, f_161_22, f_161_25, true_and, and_true, true_or, or_true, if_true, if_false, ne_eq, not_false_eq_true, and_self, t10, am_psh, am_clr, not_true_eq_false, Nat.reduceEqDiff, t01]
    refine Eq.trans (k1 _) ?_
    simp only [r2_11, r2_12, s_1, s_2, s_3, s_8, s_16, s_18, s_23, s_24, s_33, s_38, s_41, s_161, f_1_0, f_1_1, f_1_4, f_1_5, f_1_8, f_1_9, f_1_10, f_1_11, f_1_12, f_1_13, f_2_0, f_2_1, f_3_3, f_3_4, f_3_5, f_3_6, f_8_2, f_8_3, f_8_4, f_8_5, f_16_2, f_18_3, f_18_4, f_18_5, f_18_6, f_23_0, f_23_1, f_23_2, f_23_3, f_23_4, f_24_2, f_24_3, f_24_4, f_24_5, f_33_3, f_33_4, f_33_5, f_33_6, f_38_1, f_38_2, f_41_0, f_161_0, f_161_1, f_161_3, f_161_7, f_161_12, f_161_13, f_161_14, f_161_15, f_161_16, f_161_17, f_161_18, f_161_19, f_161_21, f_161_22, f_161_25, true_and, and_true, true_or, or_true, if_true, if_false, ne_eq, not_false_eq_true, and_self, t10, am_psh, am_clr, not_true_eq_false, Nat.reduceEqDiff]
    refine Eq.trans (m1 _) ?_
    simp only [r2_34, r2_35, s_1, s_2, s_3, s_8, s_16, s_18, s_23, s_24, s_33, s_38, s_41, s_161, f_1_0, f_1_1, f_1_4, f_1_5, f_1_8, f_1_9, f_1_10, f_1_11, f_1_12, f_1_13, f_2_0, f_2_1, f_3_3, f_3_4, f_3_5, f_3_6, f_8_2, f_8_3, f_8_4, f_8_5, f_16_2, f_18_3, f_18_4, f_18_5, f_18_6, f_23_0, f_23_1, f_23_2, f_23_3, f_23_4, f_24_2, f_24_3, f_24_4, f_24_5, f_33_3, f_33_4, f_33_5, f_33_6, f_38_1, f_38_2, f_41_0, f_161_0, f_161_1, f_161_3, f_161_7, f_161_12, f_161_13, f_161_14, f_161_15, f_161_16, f_161_17, f_161_18, f_161_19, f_161_21, f_161_22, f_161_25, true_and, and_true, true_or, or_true, if_true, if_false, ne_eq, not_false_eq_true, and_self, t10, am_psh, am_clr, not_true_eq_false, Nat.reduceEqDiff]
    refine Eq.trans (q1 _) ?_
    simp only [r2_55, r2_56, r2_57, r2_58, r2_61, r2_62, r2_63, r2_66, r2_69, s_1, s_2, s_3, s_8, s_16, s_18, s_23, s_24, s_33, s_38, s_41, s_161, f_1_0, f_1_1, f_1_4, f_1_5, f_1_8, f_1_9, f_1_10, f_1_11, f_1_12, f_1_13, f_2_0, f_2_1, f_3_3, f_3_4, f_3_5, f_3_6, f_8_2, f_8_3, f_8_4, f_8_5, f_16_2, f_18_3, f_18_4, f_18_5, f_18_6, f_23_0, f_23_1, f_23_2, f_23_3, f_23_4, f_24_2, f_24_3, f_24_4, f_24_5, f_33_3, f_33_4, f_33_5, f_33_6, f_38_1, f_38_2, f_41_0, f_161_0, f_161_1, f_161_3, f_161_7, f_161_12, f_161_13, f_161_14, f_161_15, f_161_16, f_161_17, f_161_18, f_161_19, f_161_21, f_161_22, f_161_25, true_and, and_true, true_or, or_true, if_true, if_false, ne_eq, not_false_eq_true, and_self, t10, am_psh, am_clr, not_true_eq_false, Nat.reduceEqDiff, f3 3 (by omega), hx.1.2.2, hcp, n_cl (show gm G < 2 ^ 31 by omega), show (0 : Int32).toNatClampNeg = 0 from by decide]
  · rw [am_row_ne (by omega), q2 24 (by omega), m2 24 (by omega)]; exact k3
  · have hg : g < gn G := hg
    rw [am_row_ne (by omega), am_row_ne (by omega), am_row_ne (by omega), q2 25 (by omega), q2 26 (by omega), q2 27 (by omega), m2 25 (by omega), m2 26 (by omega), m2 27 (by omega)]
    exact k4 g hg
  · rw [am_row_ne (by omega), q3 g hg]
    show -1 = if g < gn G then enc (-1) none else -1
    split <;> rfl
  · rw [am_row_ne (by omega), q2 31 (by omega)]; exact m3 v hv
  · rw [am_row_eq, cpy_0 ha, f3 cb (by omega), hp a ha]
    show pr a = redN (pr a) _ (fun _ => 0) _ _ (gn G)
    have : ∀ k, redN (pr a) (vs (con0 G)) (fun _ => 0) (gt G a) (gh G a) k = pr a := by
      intro k
      induction k with
      | zero => rfl
      | succ k ih => rw [redN_s, ih, i_sub0]; split <;> rfl
    exact (this _).symm
  · rw [am_row_ne (by omega), q2 24 (by omega), m2 24 (by omega), k2b, up_ne _ _ (Or.inr (by omega)), up_self]
theorem unite_1 {J0 : Nat} {x3 : Int32} (hG : okG G) (hk : vk s ≤ 15) (hJn : J0 ≤ gn G) (hJ : cwk G s g J0 = g) (hmin : ∀ i, 1 ≤ i → i < J0 → ¬ cwk G s g i = g) (hw : ∀ i, cwk G s g i < vk s) (hsel : ∀ i, i < J0 → ∃ b, b < gm G ∧ vl s (cwk G s g i) = some b) (f : Nat → Int32) : ∀ (n i : Nat) (I : am_I), i + n = J0 → 0 < n → xG I 3 G → (∀ q, q < 15 → I 30 q = if q < vk s then enc (-1) (vl s q) else -1) → (∀ v, v < gn G → I 31 v = nI (vt s v)) → (∀ q, q < vk s → I 25 q = vs s q) → (∀ q, q < vk s → I 27 q = if inW (cwk G s g) q i = true then x3 else f q) → ∃ I' l6, (∀ Q, am_T (d + 1) 8 17 [some (.ref 23), some (.ref 3), some (.int (nI g)), some (.int x3), some (.int (orN (fun i => vs s (cwk G s g i)) i)), some (.int (nI (cwk G s g i))), some (.int (nI i))] [] (cS L) I J Q = am_T (d + 1) 8 76 [some (.ref 23), some (.ref 3), some (.int (nI g)), some (.int x3), some (.int (orN (fun i => vs s (cwk G s g i)) J0)), some (.int (nI g)), some (.int l6)] [] (cS L) I' J Q) ∧ (∀ b, b ≠ 27 → I' b = I b) ∧ ∀ q, q < vk s → I' 27 q = if inW (cwk G s g) q J0 = true then x3 else f q := by
  have hgn := hG.1.2.1
  have hm := hG.1.2.2.2
  have hg : g < vk s := hw 0
  intro n
  induction n with
  | zero => intro i I _ h; exact absurd h (Nat.not_lt_zero 0)
  | succ n ih =>
    intro i I hi _ hx h30 h31 h25 h27
    obtain ⟨b, hb, hl⟩ := hsel i (by omega)
    have hwi := hw i
    have hw1 := hw (i + 1)
    have ht := (hG.2.1 b hb).1
    have hnx : vt s (gt G b) = cwk G s g (i + 1) := (cnx_s hl).symm
    have e30 : I 30 (cwk G s g i) = nI b := by rw [h30 _ (by omega), if_pos hwi, hl]; rfl
    have gb : ∀ Q, am_C (d + 1) 6 [.ref 23, .ref 3, .int (nI (cwk G s g i))] (cS L) (am_up I 27 (cwk G s g i) x3) J Q = Q (some (.int (nI (cwk G s g (i + 1))))) (cS L) (am_up I 27 (cwk G s g i) x3) J := fun Q => by
      rw [e6]
      simp only [r6_0, r6_1, r6_4, r6_5, r6_8, r6_9, r6_12, r6_13, r6_14, r6_15, r6_16, s_1, s_2, s_3, s_8, s_16, s_18, s_23, s_24, s_33, s_38, s_41, s_161, f_1_0, f_1_1, f_1_4, f_1_5, f_1_8, f_1_9, f_1_10, f_1_11, f_1_12, f_1_13, f_2_0, f_2_1, f_3_3, f_3_4, f_3_5, f_3_6, f_8_2, f_8_3, f_8_4, f_8_5, f_16_2, f_18_3, f_18_4, f_18_5, f_18_6, f_23_0, f_23_1, f_23_2, f_23_3, f_23_4, f_24_2, f_24_3, f_24_4, f_24_5, f_33_3, f_33_4, f_33_5, f_33_6, f_38_1, f_38_2, f_41_0, f_161_0, f_161_1, f_161_3, f_161_7, f_161_12, f_161_13, f_161_14, f_161_15, f_161_16, f_161_17, f_161_18, f_161_19, f_161_21, f_161_22, f_161_25, true_and, and_true, true_or, or_true, if_true, if_false, ne_eq, not_false_eq_true, and_self, t10, am_psh, am_clr, not_true_eq_false, Nat.reduceEqDiff, am_up_ne (show 30 ≠ 27 by omega), am_up_ne (show 31 ≠ 27 by omega), am_up_ne (show 4 ≠ 27 by omega), ix30 (L := L) (cwk G s g i) (by omega), n_cl (show cwk G s g i < 2 ^ 31 by omega), e30, ix4 (L := L) b (by omega), n_cl (show b < 2 ^ 31 by omega), show I 4 b = nI (gt G b) from (hx.2.1 b hb).1, ix31 (L := L) (gt G b) (by omega), n_cl (show gt G b < 2 ^ 31 by omega), h31 _ ht, hnx]
    have h27' : ∀ q, q < vk s → am_up I 27 (cwk G s g i) x3 27 q = if inW (cwk G s g) q (i + 1) = true then x3 else f q := fun q hq => by
      by_cases e : cwk G s g i = q
      · rw [if_pos ((inW_iff (i + 1)).mpr ⟨i, by omega, e⟩), e, up_self]
      · rw [up_ne _ _ (Or.inr (Ne.symm e)), h27 q hq]
        have : inW (cwk G s g) q (i + 1) = inW (cwk G s g) q i := by
          show (inW (cwk G s g) q i || decide (cwk G s g i = q)) = _
          rw [decide_eq_false e, Bool.or_false]
        rw [this]
    have or_s : orN (fun i => vs s (cwk G s g i)) i ||| vs s (cwk G s g i) = orN (fun i => vs s (cwk G s g i)) (i + 1) := rfl
    by_cases e1 : i + 1 = J0
    · refine ⟨am_up I 27 (cwk G s g i) x3, nI i, fun Q => ?_, fun b hb => am_up_ne hb, by rw [← e1]; exact h27'⟩
      rw [r8_17]
      simp only [r8_19, r8_20, r8_23, r8_26, r8_28, r8_29, r8_32, r8_35, r8_37, r8_38, r8_39, r8_41, r8_42, r8_45, r8_48, r8_50, r8_51, r8_52, r8_53, r8_54, r8_56, s_1, s_2, s_3, s_8, s_16, s_18, s_23, s_24, s_33, s_38, s_41, s_161, f_1_0, f_1_1, f_1_4, f_1_5, f_1_8, f_1_9, f_1_10, f_1_11, f_1_12, f_1_13, f_2_0, f_2_1, f_3_3, f_3_4, f_3_5, f_3_6, f_8_2, f_8_3, f_8_4, f_8_5, f_16_2, f_18_3, f_18_4, f_18_5, f_18_6, f_23_0, f_23_1, f_23_2, f_23_3, f_23_4, f_24_2, f_24_3, f_24_4, f_24_5, f_33_3, f_33_4, f_33_5, f_33_6, f_38_1, f_38_2, f_41_0, f_161_0, f_161_1, f_161_3, f_161_7, f_161_12, f_161_13, f_161_14, f_161_15, f_161_16, f_161_17, f_161_18, f_161_19, f_161_21, f_161_22, f_161_25, true_and, and_true, true_or, or_true, if_true, if_false, ne_eq, not_false_eq_true, and_self, t10, am_psh, am_clr, not_true_eq_false, Nat.reduceEqDiff, hx.1.1, ix25 (L := L) (cwk G s g i) (by omega), iw27 (L := L) (cwk G s g i) (by omega), n_cl (show cwk G s g i < 2 ^ 31 by omega), h25 _ hwi, or_s]
      rw [if_neg (nI_ge (show i < gn G by omega) (by omega)), gb, e1, hJ]
      simp only [r8_59, r8_61, r8_63, r8_64, r8_67, r8_70, r8_73, s_1, s_2, s_3, s_8, s_16, s_18, s_23, s_24, s_33, s_38, s_41, s_161, f_1_0, f_1_1, f_1_4, f_1_5, f_1_8, f_1_9, f_1_10, f_1_11, f_1_12, f_1_13, f_2_0, f_2_1, f_3_3, f_3_4, f_3_5, f_3_6, f_8_2, f_8_3, f_8_4, f_8_5, f_16_2, f_18_3, f_18_4, f_18_5, f_18_6, f_23_0, f_23_1, f_23_2, f_23_3, f_23_4, f_24_2, f_24_3, f_24_4, f_24_5, f_33_3, f_33_4, f_33_5, f_33_6, f_38_1, f_38_2, f_41_0, f_161_0, f_161_1, f_161_3, f_161_7, f_161_12, f_161_13, f_161_14, f_161_15, f_161_16, f_161_17, f_161_18, f_161_19, f_161_21, f_161_22, f_161_25, true_and, and_true, true_or, or_true, if_true, if_false, ne_eq, not_false_eq_true, and_self, t10, am_psh, am_clr, not_true_eq_false, Nat.reduceEqDiff]
    · have e2 : ¬ cwk G s g (i + 1) = g := hmin (i + 1) (by omega) (by omega)
      obtain ⟨I', l6, k1, k2, k3⟩ := ih (i + 1) (am_up I 27 (cwk G s g i) x3) (by omega) (by omega) (xG_congr (fun b b1 b2 => am_up_ne (by omega)) hx) (fun q hq => by rw [am_up_ne (by omega)]; exact h30 q hq) (fun v hv => by rw [am_up_ne (by omega)]; exact h31 v hv) (fun q hq => by rw [am_up_ne (by omega)]; exact h25 q hq) h27'
      refine ⟨I', l6, fun Q => ?_, fun b hb => by rw [k2 b hb, am_up_ne hb], k3⟩
      rw [r8_17]
      simp only [r8_19, r8_20, r8_23, r8_26, r8_28, r8_29, r8_32, r8_35, r8_37, r8_38, r8_39, r8_41, r8_42, r8_45, r8_48, r8_50, r8_51, r8_52, r8_53, r8_54, r8_56, s_1, s_2, s_3, s_8, s_16, s_18, s_23, s_24, s_33, s_38, s_41, s_161, f_1_0, f_1_1, f_1_4, f_1_5, f_1_8, f_1_9, f_1_10, f_1_11, f_1_12, f_1_13, f_2_0, f_2_1, f_3_3, f_3_4, f_3_5, f_3_6, f_8_2, f_8_3, f_8_4, f_8_5, f_16_2, f_18_3, f_18_4, f_18_5, f_18_6, f_23_0, f_23_1, f_23_2, f_23_3, f_23_4, f_24_2, f_24_3, f_24_4, f_24_5, f_33_3, f_33_4, f_33_5, f_33_6, f_38_1, f_38_2, f_41_0, f_161_0, f_161_1, f_161_3, f_161_7, f_161_12, f_161_13, f_161_14, f_161_15, f_161_16, f_161_17, f_161_18, f_161_19, f_161_21, f_161_22, f_161_25, true_and, and_true, true_or, or_true, if_true, if_false, ne_eq, not_false_eq_true, and_self, t10, am_psh, am_clr, not_true_eq_false, Nat.reduceEqDiff, hx.1.1, ix25 (L := L) (cwk G s g i) (by omega), iw27 (L := L) (cwk G s g i) (by omega), n_cl (show cwk G s g i < 2 ^ 31 by omega), h25 _ hwi, or_s]
      rw [if_neg (nI_ge (show i < gn G by omega) (by omega)), gb]
      simp only [r8_59, r8_61, r8_63, r8_64, r8_67, r8_70, r8_73, s_1, s_2, s_3, s_8, s_16, s_18, s_23, s_24, s_33, s_38, s_41, s_161, f_1_0, f_1_1, f_1_4, f_1_5, f_1_8, f_1_9, f_1_10, f_1_11, f_1_12, f_1_13, f_2_0, f_2_1, f_3_3, f_3_4, f_3_5, f_3_6, f_8_2, f_8_3, f_8_4, f_8_5, f_16_2, f_18_3, f_18_4, f_18_5, f_18_6, f_23_0, f_23_1, f_23_2, f_23_3, f_23_4, f_24_2, f_24_3, f_24_4, f_24_5, f_33_3, f_33_4, f_33_5, f_33_6, f_38_1, f_38_2, f_41_0, f_161_0, f_161_1, f_161_3, f_161_7, f_161_12, f_161_13, f_161_14, f_161_15, f_161_16, f_161_17, f_161_18, f_161_19, f_161_21, f_161_22, f_161_25, true_and, and_true, true_or, or_true, if_true, if_false, ne_eq, not_false_eq_true, and_self, t10, am_psh, am_clr, not_true_eq_false, Nat.reduceEqDiff, nI_1]
      rw [if_neg (fun q => e2 ((nI_eq (by omega) (by omega)).mp q))]
      exact k1 Q
theorem unite_2 {nd x3 : Int32} {x5 : Int32} (hG : okG G) (f : Nat → Int32) : ∀ (n j : Nat) (I : am_I), j + n = gn G → I 3 0 = nI (gn G) → (∀ v, v < gn G → I 31 v = if v < j ∧ bit nd v = 1 then x3 else f v) → ∃ I', (∀ Q, am_T (d + 1) 8 88 [some (.ref 23), some (.ref 3), some (.int (nI g)), some (.int x3), some (.int nd), some (.int x5), some (.int (nI j))] [] (cS L) I J Q = Q none (cS L) I' J) ∧ (∀ b, b ≠ 31 → I' b = I b) ∧ ∀ v, v < gn G → I' 31 v = if bit nd v = 1 then x3 else f v := by
  have hn := hG.1.2.1
  intro n
  induction n with
  | zero =>
    intro j I hj h0 h2
    have : j = gn G := by omega
    subst this
    refine ⟨I, fun Q => ?_, fun _ _ => rfl, fun v hv => ?_⟩
    · rw [r8_88]
      simp only [r8_90, r8_91, r8_94, r8_121, s_1, s_2, s_3, s_8, s_16, s_18, s_23, s_24, s_33, s_38, s_41, s_161, f_1_0, f_1_1, f_1_4, f_1_5, f_1_8, f_1_9, f_1_10, f_1_11, f_1_12, f_1_13, f_2_0, f_2_1, f_3_3, f_3_4, f_3_5, f_3_6, f_8_2, f_8_3, f_8_4, f_8_5, f_16_2, f_18_3, f_18_4, f_18_5, f_18_6, f_23_0, f_23_1, f_23_2, f_23_3, f_23_4, f_24_2, f_24_3, f_24_4, f_24_5, f_33_3, f_33_4, f_33_5, f_33_6, f_38_1, f_38_2, f_41_0, f_161_0, f_161_1, f_161_3, f_161_7, f_161_12, f_161_13, f_161_14, f_161_15, f_161_16, f_161_17, f_161_18, f_161_19, f_161_21, f_161_22, f_161_25, true_and, and_true, true_or, or_true, if_true, if_false, ne_eq, not_false_eq_true, and_self, t10, am_psh, am_clr, not_true_eq_false, Nat.reduceEqDiff, h0]
      rw [if_pos (Int32.le_refl _)]
    · rw [h2 v hv]
      by_cases e : bit nd v = 1
      · rw [if_pos ⟨hv, e⟩, if_pos e]
      · rw [if_neg (fun q => e q.2), if_neg e]
  | succ n ih =>
    intro j I hj h0 h2
    by_cases e : bit nd j = 1
    · obtain ⟨I', k1, k2, k3⟩ := ih (j + 1) (am_up I 31 j x3) (by omega) (by rw [am_up_ne (by omega)]; exact h0) (fun v hv => by
        by_cases ev : v = j
        · subst ev; rw [up_self, if_pos ⟨by omega, e⟩]
        · rw [up_ne _ _ (Or.inr ev), h2 v hv]
          by_cases e2 : bit nd v = 1
          · by_cases e3 : v < j
            · rw [if_pos ⟨e3, e2⟩, if_pos ⟨by omega, e2⟩]
            · rw [if_neg (fun q => e3 q.1), if_neg (fun q => by have := q.1; omega)]
          · rw [if_neg (fun q => e2 q.2), if_neg (fun q => e2 q.2)])
      refine ⟨I', fun Q => ?_, fun b hb => by rw [k2 b hb, am_up_ne hb], k3⟩
      rw [r8_88]
      simp only [r8_90, r8_91, r8_94, r8_97, r8_99, r8_101, s_1, s_2, s_3, s_8, s_16, s_18, s_23, s_24, s_33, s_38, s_41, s_161, f_1_0, f_1_1, f_1_4, f_1_5, f_1_8, f_1_9, f_1_10, f_1_11, f_1_12, f_1_13, f_2_0, f_2_1, f_3_3, f_3_4, f_3_5, f_3_6, f_8_2, f_8_3, f_8_4, f_8_5, f_16_2, f_18_3, f_18_4, f_18_5, f_18_6, f_23_0, f_23_1, f_23_2, f_23_3, f_23_4, f_24_2, f_24_3, f_24_4, f_24_5, f_33_3, f_33_4, f_33_5, f_33_6, f_38_1, f_38_2, f_41_0, f_161_0, f_161_1, f_161_3, f_161_7, f_161_12, f_161_13, f_161_14, f_161_15, f_161_16, f_161_17, f_161_18, f_161_19, f_161_21, f_161_22, f_161_25, true_and, and_true, true_or, or_true, if_true, if_false, ne_eq, not_false_eq_true, and_self, t10, am_psh, am_clr, not_true_eq_false, Nat.reduceEqDiff, h0, c_bit, b32_T e, iw31 (L := L) j (by omega), n_cl (show j < 2 ^ 31 by omega)]
      rw [if_neg (nI_ge (show j < gn G by omega) (by omega))]
      simp only [r8_104, r8_107, r8_108, r8_111, r8_113, r8_114, r8_115, r8_118, s_1, s_2, s_3, s_8, s_16, s_18, s_23, s_24, s_33, s_38, s_41, s_161, f_1_0, f_1_1, f_1_4, f_1_5, f_1_8, f_1_9, f_1_10, f_1_11, f_1_12, f_1_13, f_2_0, f_2_1, f_3_3, f_3_4, f_3_5, f_3_6, f_8_2, f_8_3, f_8_4, f_8_5, f_16_2, f_18_3, f_18_4, f_18_5, f_18_6, f_23_0, f_23_1, f_23_2, f_23_3, f_23_4, f_24_2, f_24_3, f_24_4, f_24_5, f_33_3, f_33_4, f_33_5, f_33_6, f_38_1, f_38_2, f_41_0, f_161_0, f_161_1, f_161_3, f_161_7, f_161_12, f_161_13, f_161_14, f_161_15, f_161_16, f_161_17, f_161_18, f_161_19, f_161_21, f_161_22, f_161_25, true_and, and_true, true_or, or_true, if_true, if_false, ne_eq, not_false_eq_true, and_self, t10, am_psh, am_clr, not_true_eq_false, Nat.reduceEqDiff, iw31 (L := L) j (by omega), n_cl (show j < 2 ^ 31 by omega), nI_1]
      exact k1 Q
    · obtain ⟨I', k1, k2, k3⟩ := ih (j + 1) I (by omega) h0 (fun v hv => by
        rw [h2 v hv]
        by_cases e2 : bit nd v = 1
        · have : v ≠ j := fun q => e (by rw [← q]; exact e2)
          by_cases e3 : v < j
          · rw [if_pos ⟨e3, e2⟩, if_pos ⟨by omega, e2⟩]
          · rw [if_neg (fun q => e3 q.1), if_neg (fun q => by have := q.1; omega)]
        · rw [if_neg (fun q => e2 q.2), if_neg (fun q => e2 q.2)])
      refine ⟨I', fun Q => ?_, k2, k3⟩
      rw [r8_88]
      simp only [r8_90, r8_91, r8_94, r8_97, r8_99, r8_101, s_1, s_2, s_3, s_8, s_16, s_18, s_23, s_24, s_33, s_38, s_41, s_161, f_1_0, f_1_1, f_1_4, f_1_5, f_1_8, f_1_9, f_1_10, f_1_11, f_1_12, f_1_13, f_2_0, f_2_1, f_3_3, f_3_4, f_3_5, f_3_6, f_8_2, f_8_3, f_8_4, f_8_5, f_16_2, f_18_3, f_18_4, f_18_5, f_18_6, f_23_0, f_23_1, f_23_2, f_23_3, f_23_4, f_24_2, f_24_3, f_24_4, f_24_5, f_33_3, f_33_4, f_33_5, f_33_6, f_38_1, f_38_2, f_41_0, f_161_0, f_161_1, f_161_3, f_161_7, f_161_12, f_161_13, f_161_14, f_161_15, f_161_16, f_161_17, f_161_18, f_161_19, f_161_21, f_161_22, f_161_25, true_and, and_true, true_or, or_true, if_true, if_false, ne_eq, not_false_eq_true, and_self, t10, am_psh, am_clr, not_true_eq_false, Nat.reduceEqDiff, h0, c_bit, b32_F e]
      rw [if_neg (nI_ge (show j < gn G by omega) (by omega))]
      simp only [r8_104, r8_115, r8_118, s_1, s_2, s_3, s_8, s_16, s_18, s_23, s_24, s_33, s_38, s_41, s_161, f_1_0, f_1_1, f_1_4, f_1_5, f_1_8, f_1_9, f_1_10, f_1_11, f_1_12, f_1_13, f_2_0, f_2_1, f_3_3, f_3_4, f_3_5, f_3_6, f_8_2, f_8_3, f_8_4, f_8_5, f_16_2, f_18_3, f_18_4, f_18_5, f_18_6, f_23_0, f_23_1, f_23_2, f_23_3, f_23_4, f_24_2, f_24_3, f_24_4, f_24_5, f_33_3, f_33_4, f_33_5, f_33_6, f_38_1, f_38_2, f_41_0, f_161_0, f_161_1, f_161_3, f_161_7, f_161_12, f_161_13, f_161_14, f_161_15, f_161_16, f_161_17, f_161_18, f_161_19, f_161_21, f_161_22, f_161_25, true_and, and_true, true_or, or_true, if_true, if_false, ne_eq, not_false_eq_true, and_self, t10, am_psh, am_clr, not_true_eq_false, Nat.reduceEqDiff, nI_1]
      exact k1 Q
end CU
