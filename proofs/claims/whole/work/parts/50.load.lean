/-! parse; fault and load -/
section LD
variable {d L : Nat} {I I' : am_I} {J J' : am_J} {Q : am_Q} {n : Nat} {tx : Nat → Nat} {G : Gr}
theorem mp_loop : ∀ (f : Nat) (I : am_I) (G : Gr) (p : Nat) (l3 l4 l5 : Option Value), gm G + f = 33 → okU I n tx → p ≤ n → rdG I G → okG G → ∃ I', (∀ Q, am_T (d + 2) 138 50 [some (.ref 161), some (.int (nI (gn G))), some (.int (nI (gm G))), l3, l4, l5] [] (cS L) (mAt I p (-107)) J Q = Q (some (.int (sM (pL tx n f G p)))) (cS L) I' J) ∧ (∀ b, b ≠ 161 → b ≠ 166 → I' b = I b) ∧ (∀ j, j < 10 → I' 161 j = I 161 j) ∧ sN I' (pL tx n f G p) := by
  intro f
  induction f with
  | zero =>
    intro I G p l3 l4 l5 hf hT hp hr hG
    have := hG.1.2.2.2
    omega
  | succ f ih =>
    intro I G p l3 l4 l5 hf hT hp hr hG
    have hm := hG.1.2.2.2
    have hn3 := hT.2.1
    have a8 : mAt I p (-107) 161 8 = nI n := (mAt_j (by omega) (by omega)).trans hT.1
    unfold pL
    by_cases h1 : p < n
    · rw [if_pos h1]
      have c1 := nI_ge h1 (show n < 2 ^ 31 by omega)
      by_cases h2 : gm G = 32
      · rw [if_pos h2]
        obtain ⟨p', hw⟩ := bw_90 (d := d) (L := L) (J := J) (x1 := nI (gn G)) (x2 := nI (gm G)) (l3 := l3) (l4 := l4) (l5 := l5) (p := p + 1) (e := p) hT (by omega) (by omega)
        refine ⟨mAt I p' (nI p), fun Q => ?_, fun b b1 b2 => mAt_ne b1, fun j hj => mAt_j (by omega) (by omega), mAt_11⟩
        rw [r138_50]
        simp only [r138_51, r138_54, r138_56, r138_59, r138_60, r138_63, r138_64, r138_67, r138_70, r138_71, r138_73, r138_76, r138_77, r138_78, r138_81, r138_84, r138_85, r138_87, s_1, s_2, s_3, s_8, s_16, s_18, s_23, s_24, s_33, s_38, s_41, s_161, f_1_0, f_1_1, f_1_4, f_1_5, f_1_8, f_1_9, f_1_10, f_1_11, f_1_12, f_1_13, f_2_0, f_2_1, f_3_3, f_3_4, f_3_5, f_3_6, f_8_2, f_8_3, f_8_4, f_8_5, f_16_2, f_18_3, f_18_4, f_18_5, f_18_6, f_23_0, f_23_1, f_23_2, f_23_3, f_23_4, f_24_2, f_24_3, f_24_4, f_24_5, f_33_3, f_33_4, f_33_5, f_33_6, f_38_1, f_38_2, f_41_0, f_161_0, f_161_1, f_161_3, f_161_7, f_161_12, f_161_13, f_161_14, f_161_15, f_161_16, f_161_17, f_161_18, f_161_19, f_161_21, f_161_22, f_161_25, true_and, and_true, true_or, or_true, if_true, if_false, ne_eq, not_false_eq_true, and_self, t10, am_psh, am_clr, not_true_eq_false, Nat.reduceEqDiff, mAt_10, mAt_11, a8, mAt_w]
        rw [if_neg c1, if_pos (show nI (gm G) = 32 by rw [h2]; rfl), c_mSignW (by omega)]
        exact hw Q
      · rw [if_neg h2]
        have c2 : ¬ nI (gm G) = 32 := fun q => h2 ((nI_eq (b := 32) (by omega) (by omega)).mp q)
        have hA := mp_arc (d := d) (L := L) (J := J) (l3 := l3) (l4 := l4) (l5 := l5) hT h1 hG (by omega)
        cases h3 : pArc tx n (gn G) p with
        | inl e =>
          rw [h3] at hA
          obtain ⟨he, p', hA⟩ := hA
          refine ⟨mAt I p' (nI e), fun Q => ?_, fun b b1 b2 => mAt_ne b1, fun j hj => mAt_j (by omega) (by omega), mAt_11⟩
          rw [r138_50]
          simp only [r138_51, r138_54, r138_56, r138_59, r138_60, r138_63, r138_64, r138_67, r138_70, r138_71, r138_73, r138_76, r138_77, r138_78, r138_81, s_1, s_2, s_3, s_8, s_16, s_18, s_23, s_24, s_33, s_38, s_41, s_161, f_1_0, f_1_1, f_1_4, f_1_5, f_1_8, f_1_9, f_1_10, f_1_11, f_1_12, f_1_13, f_2_0, f_2_1, f_3_3, f_3_4, f_3_5, f_3_6, f_8_2, f_8_3, f_8_4, f_8_5, f_16_2, f_18_3, f_18_4, f_18_5, f_18_6, f_23_0, f_23_1, f_23_2, f_23_3, f_23_4, f_24_2, f_24_3, f_24_4, f_24_5, f_33_3, f_33_4, f_33_5, f_33_6, f_38_1, f_38_2, f_41_0, f_161_0, f_161_1, f_161_3, f_161_7, f_161_12, f_161_13, f_161_14, f_161_15, f_161_16, f_161_17, f_161_18, f_161_19, f_161_21, f_161_22, f_161_25, true_and, and_true, true_or, or_true, if_true, if_false, ne_eq, not_false_eq_true, and_self, t10, am_psh, am_clr, not_true_eq_false, Nat.reduceEqDiff, mAt_10, mAt_11, a8, mAt_w]
          rw [if_neg c1, if_neg c2]
          exact hA Q
        | inr q =>
          rw [h3] at hA
          obtain ⟨l3', l4', l5', hA⟩ := hA
          obtain ⟨q1, q2, q3, q4, q5, q6⟩ := pArc_ok h3 (by have := hG.1.1; omega)
          obtain ⟨I', k1, k2, k3, k4⟩ := ih _ (addA G q.1 q.2.1 q.2.2.1) q.2.2.2 l3' l4' l5' (show gm G + 1 + f = 33 by omega) (okU_congr (I := I) (by rw [am_up_ne (by omega), am_up_ne (by omega), am_up_ne (by omega)]) (by rw [am_up_ne (by omega), am_up_ne (by omega), am_up_ne (by omega)]) hT) q5 (rdG_add (t := q.1) (h := q.2.1) (c := q.2.2.1) hr) (okG_add hG (by omega) q1 q2 q3 q4)
          refine ⟨I', fun Q => ?_, fun b b1 b2 => by rw [k2 b b1 b2, am_up_ne b2, am_up_ne b2, am_up_ne b2], fun j hj => by rw [k3 j hj, am_up_ne (by omega), am_up_ne (by omega), am_up_ne (by omega)], k4⟩
          rw [r138_50]
          simp only [r138_51, r138_54, r138_56, r138_59, r138_60, r138_63, r138_64, r138_67, r138_70, r138_71, r138_73, r138_76, r138_77, r138_78, r138_81, s_1, s_2, s_3, s_8, s_16, s_18, s_23, s_24, s_33, s_38, s_41, s_161, f_1_0, f_1_1, f_1_4, f_1_5, f_1_8, f_1_9, f_1_10, f_1_11, f_1_12, f_1_13, f_2_0, f_2_1, f_3_3, f_3_4, f_3_5, f_3_6, f_8_2, f_8_3, f_8_4, f_8_5, f_16_2, f_18_3, f_18_4, f_18_5, f_18_6, f_23_0, f_23_1, f_23_2, f_23_3, f_23_4, f_24_2, f_24_3, f_24_4, f_24_5, f_33_3, f_33_4, f_33_5, f_33_6, f_38_1, f_38_2, f_41_0, f_161_0, f_161_1, f_161_3, f_161_7, f_161_12, f_161_13, f_161_14, f_161_15, f_161_16, f_161_17, f_161_18, f_161_19, f_161_21, f_161_22, f_161_25, true_and, and_true, true_or, or_true, if_true, if_false, ne_eq, not_false_eq_true, and_self, t10, am_psh, am_clr, not_true_eq_false, Nat.reduceEqDiff, mAt_10, mAt_11, a8, mAt_w]
          rw [if_neg c1, if_neg c2, hA]
          exact k1 Q
    · rw [if_neg h1]
      have hpn : p = n := by omega
      refine ⟨mAt I p (-107), fun Q => ?_, fun b b1 b2 => mAt_ne b1, fun j hj => mAt_j (by omega) (by omega), ?_⟩
      · rw [r138_50]
        simp only [r138_51, r138_54, r138_56, r138_59, r138_60, r138_63, r138_64, r138_67, r138_238, r138_239, r138_242, r138_244, r138_247, r138_248, r138_251, r138_252, s_1, s_2, s_3, s_8, s_16, s_18, s_23, s_24, s_33, s_38, s_41, s_161, f_1_0, f_1_1, f_1_4, f_1_5, f_1_8, f_1_9, f_1_10, f_1_11, f_1_12, f_1_13, f_2_0, f_2_1, f_3_3, f_3_4, f_3_5, f_3_6, f_8_2, f_8_3, f_8_4, f_8_5, f_16_2, f_18_3, f_18_4, f_18_5, f_18_6, f_23_0, f_23_1, f_23_2, f_23_3, f_23_4, f_24_2, f_24_3, f_24_4, f_24_5, f_33_3, f_33_4, f_33_5, f_33_6, f_38_1, f_38_2, f_41_0, f_161_0, f_161_1, f_161_3, f_161_7, f_161_12, f_161_13, f_161_14, f_161_15, f_161_16, f_161_17, f_161_18, f_161_19, f_161_21, f_161_22, f_161_25, true_and, and_true, true_or, or_true, if_true, if_false, ne_eq, not_false_eq_true, and_self, t10, am_psh, am_clr, not_true_eq_false, Nat.reduceEqDiff, mAt_10, mAt_11, a8, sM]
        rw [if_pos (nI_le (by omega) (by omega))]
      · show rdG _ _
        unfold rdG; rw [mAt_ne (by omega)]; exact hr
theorem c_parse (hT : okU I n tx) : ∃ I', (∀ Q, am_C (d + 3) 138 [.ref 161] (cS L) I J Q = Q (some (.int (sM (pAll tx n)))) (cS L) I' J) ∧ (∀ b, b ≠ 161 → b ≠ 166 → I' b = I b) ∧ (∀ j, j < 10 → I' 161 j = I 161 j) ∧ sN I' (pAll tx n) := by
  have hn3 := hT.2.1
  have e0 : am_up (am_up I 161 10 0) 161 11 (-107) = mAt I 0 (-107) := rfl
  have x0 : am_ixw (cS L) 166 20 0 := rw' 0 (by omega)
  have x1 : am_ixw (cS L) 166 20 1 := rw' 1 (by omega)
  have z0 : (0 : Int32).toNatClampNeg = 0 := by decide
  have z1 : (1 : Int32).toNatClampNeg = 1 := by decide
  have hU : ∀ k x, okU (am_up I 166 k x) n tx := fun k x => okU_congr (by rw [am_up_ne (by omega)]) (by rw [am_up_ne (by omega)]) hT
  have hfin : ∀ (e p : Nat) (x y : Int32), (∀ b, b ≠ 161 → b ≠ 166 → mAt (am_up (am_up I 166 0 x) 166 1 y) p (nI e) b = I b) ∧ (∀ j, j < 10 → mAt (am_up (am_up I 166 0 x) 166 1 y) p (nI e) 161 j = I 161 j) := fun e p x y => ⟨fun b b1 b2 => by rw [mAt_ne b1, am_up_ne b2, am_up_ne b2], fun j hj => by rw [mAt_j (by omega) (by omega), am_up_ne (by omega), am_up_ne (by omega)]⟩
  unfold pAll
  by_cases h1 : dgok tx n 2 8 0
  · rw [if_neg (fun z => z h1)]
    have b1 := h1.2.2
    have b1' := h1.2.1
    have en : nI (tx 0 - 48) - 1 = nI (tx 0 - 48 - 1) := nI_sub1 (by omega)
    by_cases h2 : sgok tx n 47 1
    · rw [if_neg (fun z => z h2)]
      by_cases h3 : dgok tx n 0 (tx 0 - 48 - 1) 2
      · rw [if_neg (fun z => z h3)]
        have b3 := h3.2.2
        have hokG := okG_0 (N := tx 0 - 48) (r := tx 2 - 48) (by omega) (by omega) (by omega)
        obtain ⟨I', k1, k2, k3, k4⟩ := mp_loop (d := d) (L := L) (J := J) (n := n) (tx := tx) 33 (am_up (am_up I 166 0 (nI (tx 0 - 48))) 166 1 (nI (tx 2 - 48))) (pG0 (tx 0 - 48) (tx 2 - 48)) 3 none none none (by rfl) (okU_congr (I := I) (by rw [am_up_ne (by omega), am_up_ne (by omega)]) (by rw [am_up_ne (by omega), am_up_ne (by omega)]) hT) h3.1 ⟨⟨by rw [up_ne _ _ (Or.inr (by omega)), up_self]; rfl, by rw [up_self]; rfl⟩, fun a ha => absurd ha (Nat.not_lt_zero a)⟩ hokG
        refine ⟨I', fun Q => ?_, fun b b1 b2 => by rw [k2 b b1 b2, am_up_ne b2, am_up_ne b2], fun j hj => by rw [k3 j hj, am_up_ne (by omega), am_up_ne (by omega)], k4⟩
        rw [e138]
        simp only [r138_0, r138_1, r138_2, r138_5, r138_6, r138_8, r138_11, r138_12, r138_13, r138_15, r138_16, s_1, s_2, s_3, s_8, s_16, s_18, s_23, s_24, s_33, s_38, s_41, s_161, f_1_0, f_1_1, f_1_4, f_1_5, f_1_8, f_1_9, f_1_10, f_1_11, f_1_12, f_1_13, f_2_0, f_2_1, f_3_3, f_3_4, f_3_5, f_3_6, f_8_2, f_8_3, f_8_4, f_8_5, f_16_2, f_18_3, f_18_4, f_18_5, f_18_6, f_23_0, f_23_1, f_23_2, f_23_3, f_23_4, f_24_2, f_24_3, f_24_4, f_24_5, f_33_3, f_33_4, f_33_5, f_33_6, f_38_1, f_38_2, f_41_0, f_161_0, f_161_1, f_161_3, f_161_7, f_161_12, f_161_13, f_161_14, f_161_15, f_161_16, f_161_17, f_161_18, f_161_19, f_161_21, f_161_22, f_161_25, true_and, and_true, true_or, or_true, if_true, if_false, ne_eq, not_false_eq_true, and_self, t10, am_psh, am_clr, not_true_eq_false, Nat.reduceEqDiff, e0]
        rw [c_mDigT (x := 2) (y := 8) (lo := 2) (hi := 8) hT (by omega) rfl rfl (by omega) (by omega) h1 (of_eq_false (n_ne_m1 (by omega)))]
        simp only [r138_19, r138_20, r138_21, r138_23, s_1, s_2, s_3, s_8, s_16, s_18, s_23, s_24, s_33, s_38, s_41, s_161, f_1_0, f_1_1, f_1_4, f_1_5, f_1_8, f_1_9, f_1_10, f_1_11, f_1_12, f_1_13, f_2_0, f_2_1, f_3_3, f_3_4, f_3_5, f_3_6, f_8_2, f_8_3, f_8_4, f_8_5, f_16_2, f_18_3, f_18_4, f_18_5, f_18_6, f_23_0, f_23_1, f_23_2, f_23_3, f_23_4, f_24_2, f_24_3, f_24_4, f_24_5, f_33_3, f_33_4, f_33_5, f_33_6, f_38_1, f_38_2, f_41_0, f_161_0, f_161_1, f_161_3, f_161_7, f_161_12, f_161_13, f_161_14, f_161_15, f_161_16, f_161_17, f_161_18, f_161_19, f_161_21, f_161_22, f_161_25, true_and, and_true, true_or, or_true, if_true, if_false, ne_eq, not_false_eq_true, and_self, t10, am_psh, am_clr, not_true_eq_false, Nat.reduceEqDiff]
        rw [c_mSign (x := 47) (c := 47) (p := 0 + 1) hT (by omega) rfl (by omega), if_pos (show sgok tx n 47 (0 + 1) from h2)]
        simp only [r138_26, r138_27, r138_30, r138_31, r138_32, r138_33, r138_34, r138_37, r138_38, r138_39, r138_40, r138_41, r138_42, r138_43, r138_44, s_1, s_2, s_3, s_8, s_16, s_18, s_23, s_24, s_33, s_38, s_41, s_161, f_1_0, f_1_1, f_1_4, f_1_5, f_1_8, f_1_9, f_1_10, f_1_11, f_1_12, f_1_13, f_2_0, f_2_1, f_3_3, f_3_4, f_3_5, f_3_6, f_8_2, f_8_3, f_8_4, f_8_5, f_16_2, f_18_3, f_18_4, f_18_5, f_18_6, f_23_0, f_23_1, f_23_2, f_23_3, f_23_4, f_24_2, f_24_3, f_24_4, f_24_5, f_33_3, f_33_4, f_33_5, f_33_6, f_38_1, f_38_2, f_41_0, f_161_0, f_161_1, f_161_3, f_161_7, f_161_12, f_161_13, f_161_14, f_161_15, f_161_16, f_161_17, f_161_18, f_161_19, f_161_21, f_161_22, f_161_25, true_and, and_true, true_or, or_true, if_true, if_false, ne_eq, not_false_eq_true, and_self, t10, am_psh, am_clr, not_true_eq_false, Nat.reduceEqDiff, x0, z0, mAt_b (show 166 ≠ 161 by omega), en]
        rw [c_mDigT (x := 0) (y := nI (tx 0 - 48 - 1)) (lo := 0) (hi := tx 0 - 48 - 1) (p := 0 + 1 + 1) (hU 0 (nI (tx 0 - 48))) (by omega) rfl rfl (by omega) (by omega) (show dgok tx n 0 (tx 0 - 48 - 1) (0 + 1 + 1) from h3) (of_eq_false (n_ne_m1 (show tx 2 - 48 < 2 ^ 31 by omega)))]
        simp only [r138_47, r138_48, r138_49, s_1, s_2, s_3, s_8, s_16, s_18, s_23, s_24, s_33, s_38, s_41, s_161, f_1_0, f_1_1, f_1_4, f_1_5, f_1_8, f_1_9, f_1_10, f_1_11, f_1_12, f_1_13, f_2_0, f_2_1, f_3_3, f_3_4, f_3_5, f_3_6, f_8_2, f_8_3, f_8_4, f_8_5, f_16_2, f_18_3, f_18_4, f_18_5, f_18_6, f_23_0, f_23_1, f_23_2, f_23_3, f_23_4, f_24_2, f_24_3, f_24_4, f_24_5, f_33_3, f_33_4, f_33_5, f_33_6, f_38_1, f_38_2, f_41_0, f_161_0, f_161_1, f_161_3, f_161_7, f_161_12, f_161_13, f_161_14, f_161_15, f_161_16, f_161_17, f_161_18, f_161_19, f_161_21, f_161_22, f_161_25, true_and, and_true, true_or, or_true, if_true, if_false, ne_eq, not_false_eq_true, and_self, t10, am_psh, am_clr, not_true_eq_false, Nat.reduceEqDiff, x1, z1, mAt_b (show 166 ≠ 161 by omega)]
        exact k1 Q
      · rw [if_pos h3]
        obtain ⟨v, hv⟩ := c_mDigF (d := d) (L := L) (J := J) (p := 0 + 1 + 1) (lo := 0) (hi := tx 0 - 48 - 1) (x := 0) (y := nI (tx 0 - 48 - 1)) (z := -1) (hU 0 (nI (tx 0 - 48))) (by omega) rfl rfl (by omega) (by omega) (Or.inl h3)
        refine ⟨mAt (am_up (am_up I 166 0 (nI (tx 0 - 48))) 166 1 v) (0 + 1 + 1 + 1) (nI 2), fun Q => ?_, (hfin _ _ _ _).1, (hfin _ _ _ _).2, mAt_11⟩
        rw [e138]
        simp only [r138_0, r138_1, r138_2, r138_5, r138_6, r138_8, r138_11, r138_12, r138_13, r138_15, r138_16, s_1, s_2, s_3, s_8, s_16, s_18, s_23, s_24, s_33, s_38, s_41, s_161, f_1_0, f_1_1, f_1_4, f_1_5, f_1_8, f_1_9, f_1_10, f_1_11, f_1_12, f_1_13, f_2_0, f_2_1, f_3_3, f_3_4, f_3_5, f_3_6, f_8_2, f_8_3, f_8_4, f_8_5, f_16_2, f_18_3, f_18_4, f_18_5, f_18_6, f_23_0, f_23_1, f_23_2, f_23_3, f_23_4, f_24_2, f_24_3, f_24_4, f_24_5, f_33_3, f_33_4, f_33_5, f_33_6, f_38_1, f_38_2, f_41_0, f_161_0, f_161_1, f_161_3, f_161_7, f_161_12, f_161_13, f_161_14, f_161_15, f_161_16, f_161_17, f_161_18, f_161_19, f_161_21, f_161_22, f_161_25, true_and, and_true, true_or, or_true, if_true, if_false, ne_eq, not_false_eq_true, and_self, t10, am_psh, am_clr, not_true_eq_false, Nat.reduceEqDiff, e0]
        rw [c_mDigT (x := 2) (y := 8) (lo := 2) (hi := 8) hT (by omega) rfl rfl (by omega) (by omega) h1 (of_eq_false (n_ne_m1 (by omega)))]
        simp only [r138_19, r138_20, r138_21, r138_23, s_1, s_2, s_3, s_8, s_16, s_18, s_23, s_24, s_33, s_38, s_41, s_161, f_1_0, f_1_1, f_1_4, f_1_5, f_1_8, f_1_9, f_1_10, f_1_11, f_1_12, f_1_13, f_2_0, f_2_1, f_3_3, f_3_4, f_3_5, f_3_6, f_8_2, f_8_3, f_8_4, f_8_5, f_16_2, f_18_3, f_18_4, f_18_5, f_18_6, f_23_0, f_23_1, f_23_2, f_23_3, f_23_4, f_24_2, f_24_3, f_24_4, f_24_5, f_33_3, f_33_4, f_33_5, f_33_6, f_38_1, f_38_2, f_41_0, f_161_0, f_161_1, f_161_3, f_161_7, f_161_12, f_161_13, f_161_14, f_161_15, f_161_16, f_161_17, f_161_18, f_161_19, f_161_21, f_161_22, f_161_25, true_and, and_true, true_or, or_true, if_true, if_false, ne_eq, not_false_eq_true, and_self, t10, am_psh, am_clr, not_true_eq_false, Nat.reduceEqDiff]
        rw [c_mSign (x := 47) (c := 47) (p := 0 + 1) hT (by omega) rfl (by omega), if_pos (show sgok tx n 47 (0 + 1) from h2)]
        simp only [r138_26, r138_27, r138_30, r138_31, r138_32, r138_33, r138_34, r138_37, r138_38, r138_39, r138_40, r138_41, r138_42, r138_43, r138_44, s_1, s_2, s_3, s_8, s_16, s_18, s_23, s_24, s_33, s_38, s_41, s_161, f_1_0, f_1_1, f_1_4, f_1_5, f_1_8, f_1_9, f_1_10, f_1_11, f_1_12, f_1_13, f_2_0, f_2_1, f_3_3, f_3_4, f_3_5, f_3_6, f_8_2, f_8_3, f_8_4, f_8_5, f_16_2, f_18_3, f_18_4, f_18_5, f_18_6, f_23_0, f_23_1, f_23_2, f_23_3, f_23_4, f_24_2, f_24_3, f_24_4, f_24_5, f_33_3, f_33_4, f_33_5, f_33_6, f_38_1, f_38_2, f_41_0, f_161_0, f_161_1, f_161_3, f_161_7, f_161_12, f_161_13, f_161_14, f_161_15, f_161_16, f_161_17, f_161_18, f_161_19, f_161_21, f_161_22, f_161_25, true_and, and_true, true_or, or_true, if_true, if_false, ne_eq, not_false_eq_true, and_self, t10, am_psh, am_clr, not_true_eq_false, Nat.reduceEqDiff, x0, z0, mAt_b (show 166 ≠ 161 by omega), en]
        rw [hv]
        simp only [r138_47, r138_48, r138_49, s_1, s_2, s_3, s_8, s_16, s_18, s_23, s_24, s_33, s_38, s_41, s_161, f_1_0, f_1_1, f_1_4, f_1_5, f_1_8, f_1_9, f_1_10, f_1_11, f_1_12, f_1_13, f_2_0, f_2_1, f_3_3, f_3_4, f_3_5, f_3_6, f_8_2, f_8_3, f_8_4, f_8_5, f_16_2, f_18_3, f_18_4, f_18_5, f_18_6, f_23_0, f_23_1, f_23_2, f_23_3, f_23_4, f_24_2, f_24_3, f_24_4, f_24_5, f_33_3, f_33_4, f_33_5, f_33_6, f_38_1, f_38_2, f_41_0, f_161_0, f_161_1, f_161_3, f_161_7, f_161_12, f_161_13, f_161_14, f_161_15, f_161_16, f_161_17, f_161_18, f_161_19, f_161_21, f_161_22, f_161_25, true_and, and_true, true_or, or_true, if_true, if_false, ne_eq, not_false_eq_true, and_self, t10, am_psh, am_clr, not_true_eq_false, Nat.reduceEqDiff, x1, z1, mAt_b (show 166 ≠ 161 by omega)]
        exact bw_50 (e := 2) (by omega)
    · rw [if_pos h2]
      obtain ⟨v, hv⟩ := c_mDigW (d := d) (L := L) (J := J) (p := 0 + 1 + 1) (e := 1) (x := 0) (y := nI (tx 0 - 48 - 1)) (z := -1) (hU 0 (nI (tx 0 - 48))) (by omega) (by omega)
      refine ⟨mAt (am_up (am_up I 166 0 (nI (tx 0 - 48))) 166 1 v) (0 + 1 + 1 + 1) (nI 1), fun Q => ?_, (hfin _ _ _ _).1, (hfin _ _ _ _).2, mAt_11⟩
      rw [e138]
      simp only [r138_0, r138_1, r138_2, r138_5, r138_6, r138_8, r138_11, r138_12, r138_13, r138_15, r138_16, s_1, s_2, s_3, s_8, s_16, s_18, s_23, s_24, s_33, s_38, s_41, s_161, f_1_0, f_1_1, f_1_4, f_1_5, f_1_8, f_1_9, f_1_10, f_1_11, f_1_12, f_1_13, f_2_0, f_2_1, f_3_3, f_3_4, f_3_5, f_3_6, f_8_2, f_8_3, f_8_4, f_8_5, f_16_2, f_18_3, f_18_4, f_18_5, f_18_6, f_23_0, f_23_1, f_23_2, f_23_3, f_23_4, f_24_2, f_24_3, f_24_4, f_24_5, f_33_3, f_33_4, f_33_5, f_33_6, f_38_1, f_38_2, f_41_0, f_161_0, f_161_1, f_161_3, f_161_7, f_161_12, f_161_13, f_161_14, f_161_15, f_161_16, f_161_17, f_161_18, f_161_19, f_161_21, f_161_22, f_161_25, true_and, and_true, true_or, or_true, if_true, if_false, ne_eq, not_false_eq_true, and_self, t10, am_psh, am_clr, not_true_eq_false, Nat.reduceEqDiff, e0]
      rw [c_mDigT (x := 2) (y := 8) (lo := 2) (hi := 8) hT (by omega) rfl rfl (by omega) (by omega) h1 (of_eq_false (n_ne_m1 (by omega)))]
      simp only [r138_19, r138_20, r138_21, r138_23, s_1, s_2, s_3, s_8, s_16, s_18, s_23, s_24, s_33, s_38, s_41, s_161, f_1_0, f_1_1, f_1_4, f_1_5, f_1_8, f_1_9, f_1_10, f_1_11, f_1_12, f_1_13, f_2_0, f_2_1, f_3_3, f_3_4, f_3_5, f_3_6, f_8_2, f_8_3, f_8_4, f_8_5, f_16_2, f_18_3, f_18_4, f_18_5, f_18_6, f_23_0, f_23_1, f_23_2, f_23_3, f_23_4, f_24_2, f_24_3, f_24_4, f_24_5, f_33_3, f_33_4, f_33_5, f_33_6, f_38_1, f_38_2, f_41_0, f_161_0, f_161_1, f_161_3, f_161_7, f_161_12, f_161_13, f_161_14, f_161_15, f_161_16, f_161_17, f_161_18, f_161_19, f_161_21, f_161_22, f_161_25, true_and, and_true, true_or, or_true, if_true, if_false, ne_eq, not_false_eq_true, and_self, t10, am_psh, am_clr, not_true_eq_false, Nat.reduceEqDiff]
      rw [c_mSign (x := 47) (c := 47) (p := 0 + 1) hT (by omega) rfl (by omega), if_neg (show ¬ sgok tx n 47 (0 + 1) from h2)]
      simp only [r138_26, r138_27, r138_30, r138_31, r138_32, r138_33, r138_34, r138_37, r138_38, r138_39, r138_40, r138_41, r138_42, r138_43, r138_44, s_1, s_2, s_3, s_8, s_16, s_18, s_23, s_24, s_33, s_38, s_41, s_161, f_1_0, f_1_1, f_1_4, f_1_5, f_1_8, f_1_9, f_1_10, f_1_11, f_1_12, f_1_13, f_2_0, f_2_1, f_3_3, f_3_4, f_3_5, f_3_6, f_8_2, f_8_3, f_8_4, f_8_5, f_16_2, f_18_3, f_18_4, f_18_5, f_18_6, f_23_0, f_23_1, f_23_2, f_23_3, f_23_4, f_24_2, f_24_3, f_24_4, f_24_5, f_33_3, f_33_4, f_33_5, f_33_6, f_38_1, f_38_2, f_41_0, f_161_0, f_161_1, f_161_3, f_161_7, f_161_12, f_161_13, f_161_14, f_161_15, f_161_16, f_161_17, f_161_18, f_161_19, f_161_21, f_161_22, f_161_25, true_and, and_true, true_or, or_true, if_true, if_false, ne_eq, not_false_eq_true, and_self, t10, am_psh, am_clr, not_true_eq_false, Nat.reduceEqDiff, x0, z0, mAt_b (show 166 ≠ 161 by omega), en]
      refine Eq.trans (hv _) ?_
      simp only [r138_47, r138_48, r138_49, s_1, s_2, s_3, s_8, s_16, s_18, s_23, s_24, s_33, s_38, s_41, s_161, f_1_0, f_1_1, f_1_4, f_1_5, f_1_8, f_1_9, f_1_10, f_1_11, f_1_12, f_1_13, f_2_0, f_2_1, f_3_3, f_3_4, f_3_5, f_3_6, f_8_2, f_8_3, f_8_4, f_8_5, f_16_2, f_18_3, f_18_4, f_18_5, f_18_6, f_23_0, f_23_1, f_23_2, f_23_3, f_23_4, f_24_2, f_24_3, f_24_4, f_24_5, f_33_3, f_33_4, f_33_5, f_33_6, f_38_1, f_38_2, f_41_0, f_161_0, f_161_1, f_161_3, f_161_7, f_161_12, f_161_13, f_161_14, f_161_15, f_161_16, f_161_17, f_161_18, f_161_19, f_161_21, f_161_22, f_161_25, true_and, and_true, true_or, or_true, if_true, if_false, ne_eq, not_false_eq_true, and_self, t10, am_psh, am_clr, not_true_eq_false, Nat.reduceEqDiff, x1, z1, mAt_b (show 166 ≠ 161 by omega)]
      exact bw_50 (e := 1) (by omega)
  · rw [if_pos h1]
    obtain ⟨u, hu⟩ := c_mDigF (d := d) (L := L) (J := J) (p := 0) (lo := 2) (hi := 8) (x := 2) (y := 8) (z := -1) hT (by omega) rfl rfl (by omega) (by omega) (Or.inl h1)
    obtain ⟨v, hv⟩ := c_mDigW (d := d) (L := L) (J := J) (p := 0 + 1 + 1) (e := 0) (x := 0) (y := u - 1) (z := -1) (hU 0 u) (by omega) (by omega)
    refine ⟨mAt (am_up (am_up I 166 0 u) 166 1 v) (0 + 1 + 1 + 1) (nI 0), fun Q => ?_, (hfin _ _ _ _).1, (hfin _ _ _ _).2, mAt_11⟩
    rw [e138]
    simp only [r138_0, r138_1, r138_2, r138_5, r138_6, r138_8, r138_11, r138_12, r138_13, r138_15, r138_16, s_1, s_2, s_3, s_8, s_16, s_18, s_23, s_24, s_33, s_38, s_41, s_161, f_1_0, f_1_1, f_1_4, f_1_5, f_1_8, f_1_9, f_1_10, f_1_11, f_1_12, f_1_13, f_2_0, f_2_1, f_3_3, f_3_4, f_3_5, f_3_6, f_8_2, f_8_3, f_8_4, f_8_5, f_16_2, f_18_3, f_18_4, f_18_5, f_18_6, f_23_0, f_23_1, f_23_2, f_23_3, f_23_4, f_24_2, f_24_3, f_24_4, f_24_5, f_33_3, f_33_4, f_33_5, f_33_6, f_38_1, f_38_2, f_41_0, f_161_0, f_161_1, f_161_3, f_161_7, f_161_12, f_161_13, f_161_14, f_161_15, f_161_16, f_161_17, f_161_18, f_161_19, f_161_21, f_161_22, f_161_25, true_and, and_true, true_or, or_true, if_true, if_false, ne_eq, not_false_eq_true, and_self, t10, am_psh, am_clr, not_true_eq_false, Nat.reduceEqDiff, e0]
    rw [hu]
    simp only [r138_19, r138_20, r138_21, r138_23, s_1, s_2, s_3, s_8, s_16, s_18, s_23, s_24, s_33, s_38, s_41, s_161, f_1_0, f_1_1, f_1_4, f_1_5, f_1_8, f_1_9, f_1_10, f_1_11, f_1_12, f_1_13, f_2_0, f_2_1, f_3_3, f_3_4, f_3_5, f_3_6, f_8_2, f_8_3, f_8_4, f_8_5, f_16_2, f_18_3, f_18_4, f_18_5, f_18_6, f_23_0, f_23_1, f_23_2, f_23_3, f_23_4, f_24_2, f_24_3, f_24_4, f_24_5, f_33_3, f_33_4, f_33_5, f_33_6, f_38_1, f_38_2, f_41_0, f_161_0, f_161_1, f_161_3, f_161_7, f_161_12, f_161_13, f_161_14, f_161_15, f_161_16, f_161_17, f_161_18, f_161_19, f_161_21, f_161_22, f_161_25, true_and, and_true, true_or, or_true, if_true, if_false, ne_eq, not_false_eq_true, and_self, t10, am_psh, am_clr, not_true_eq_false, Nat.reduceEqDiff]
    rw [c_mSignW (e := 0) (by omega)]
    simp only [r138_26, r138_27, r138_30, r138_31, r138_32, r138_33, r138_34, r138_37, r138_38, r138_39, r138_40, r138_41, r138_42, r138_43, r138_44, s_1, s_2, s_3, s_8, s_16, s_18, s_23, s_24, s_33, s_38, s_41, s_161, f_1_0, f_1_1, f_1_4, f_1_5, f_1_8, f_1_9, f_1_10, f_1_11, f_1_12, f_1_13, f_2_0, f_2_1, f_3_3, f_3_4, f_3_5, f_3_6, f_8_2, f_8_3, f_8_4, f_8_5, f_16_2, f_18_3, f_18_4, f_18_5, f_18_6, f_23_0, f_23_1, f_23_2, f_23_3, f_23_4, f_24_2, f_24_3, f_24_4, f_24_5, f_33_3, f_33_4, f_33_5, f_33_6, f_38_1, f_38_2, f_41_0, f_161_0, f_161_1, f_161_3, f_161_7, f_161_12, f_161_13, f_161_14, f_161_15, f_161_16, f_161_17, f_161_18, f_161_19, f_161_21, f_161_22, f_161_25, true_and, and_true, true_or, or_true, if_true, if_false, ne_eq, not_false_eq_true, and_self, t10, am_psh, am_clr, not_true_eq_false, Nat.reduceEqDiff, x0, z0, mAt_b (show 166 ≠ 161 by omega)]
    refine Eq.trans (hv _) ?_
    simp only [r138_47, r138_48, r138_49, s_1, s_2, s_3, s_8, s_16, s_18, s_23, s_24, s_33, s_38, s_41, s_161, f_1_0, f_1_1, f_1_4, f_1_5, f_1_8, f_1_9, f_1_10, f_1_11, f_1_12, f_1_13, f_2_0, f_2_1, f_3_3, f_3_4, f_3_5, f_3_6, f_8_2, f_8_3, f_8_4, f_8_5, f_16_2, f_18_3, f_18_4, f_18_5, f_18_6, f_23_0, f_23_1, f_23_2, f_23_3, f_23_4, f_24_2, f_24_3, f_24_4, f_24_5, f_33_3, f_33_4, f_33_5, f_33_6, f_38_1, f_38_2, f_41_0, f_161_0, f_161_1, f_161_3, f_161_7, f_161_12, f_161_13, f_161_14, f_161_15, f_161_16, f_161_17, f_161_18, f_161_19, f_161_21, f_161_22, f_161_25, true_and, and_true, true_or, or_true, if_true, if_false, ne_eq, not_false_eq_true, and_self, t10, am_psh, am_clr, not_true_eq_false, Nat.reduceEqDiff, x1, z1, mAt_b (show 166 ≠ 161 by omega)]
    exact bw_50 (e := 0) (by omega)
/-- the invariant again: a state, and all else as it was -/
theorem Inv_g {s' : St} {hs : List St} {s0 s1 : Option St} {n : Nat} {tx : Nat → Nat} (hok : okS s') (hx : xS I' 3 8 s') (hm : mS (I' 162) s') (hl : xL I' s'.1) (hru : I' 1 6 = I' 161 5 ∧ I' 1 7 = I' 161 6) (hh : xH I hs) (hsl : xSl I 0 s0 ∧ xSl I 1 s1 ∧ I 161 4 = nI (slB s0 + 2 * slB s1)) (htx : xT I n tx) (fr : ∀ b, (b = 15 ∨ b = 17 ∨ b = 163 ∨ b = 164 ∨ b = 165 ∨ (52 ≤ b ∧ b ≤ 160)) → I' b = I b) (f1 : I' 1 2 = I 1 2 ∧ I' 1 3 = I 1 3) (f16 : I' 16 0 = I 16 0) (f161 : I' 161 2 = I 161 2 ∧ I' 161 4 = I 161 4 ∧ I' 161 8 = I 161 8) : Inv I' J' := by
  obtain ⟨hO, hhM, o, ho, hhX⟩ := xH_iff.mp hh
  exact ⟨s', hs, s0, s1, n, tx, hok, hx, hm, hl, xH_iff.mpr ⟨hO, hM_congr f161.1 (fr 163 (by omega)) hhM, o, ho, hX_congr f1.1 f1.2 (fun b b1 b2 => fr b (by omega)) hhX⟩, ⟨xSl_congr (by omega) (fr 15 (by omega)) (fr 164 (by omega)) (fun b b1 b2 => fr b (by omega)) hsl.1, xSl_congr (by omega) (fr 15 (by omega)) (fr 164 (by omega)) (fun b b1 b2 => fr b (by omega)) hsl.2.1, f161.2.1.trans hsl.2.2⟩, hru, xT_congr f16 (fr 17 (by omega)) (fr 165 (by omega)) f161.2.2 htx⟩
theorem Inv_of2 {s' : St} {hs' : List St} {s0 s1 : Option St} {n o : Nat} {tx : Nat → Nat} (hok : okS s') (hx : xS I' 3 8 s') (hm : mS (I' 162) s') (hl : xL I' s'.1) (hO : okH hs') (hhM : hM I' hs') (ho : o < 8) (hhX : hX I' o hs') (hru : I' 1 6 = I' 161 5 ∧ I' 1 7 = I' 161 6)
    (hsl : xSl I 0 s0 ∧ xSl I 1 s1 ∧ I 161 4 = nI (slB s0 + 2 * slB s1)) (htx : xT I n tx) (fr : ∀ b, (b = 15 ∨ b = 17 ∨ b = 164 ∨ b = 165 ∨ (139 ≤ b ∧ b ≤ 160)) → I' b = I b) (f16 : I' 16 0 = I 16 0) (f4 : I' 161 4 = I 161 4) (f8 : I' 161 8 = I 161 8) : Inv I' J' := by
  refine ⟨s', hs', s0, s1, n, tx, hok, hx, hm, hl, xH_iff.mpr ⟨hO, hhM, o, ho, hhX⟩, ⟨xSl_congr (by omega) (fr 15 (by omega)) (fr 164 (by omega)) (fun b b1 b2 => fr b (by omega)) hsl.1, xSl_congr (by omega) (fr 15 (by omega)) (fr 164 (by omega)) (fun b b1 b2 => fr b (by omega)) hsl.2.1, f4.trans hsl.2.2⟩, hru, xT_congr f16 (fr 17 (by omega)) (fr 165 (by omega)) f8 htx⟩
/-- only scratch has changed -/
theorem Inv_scr (hI : Inv I J) (fr : ∀ b, b ≠ 16 → b ≠ 161 → ¬ (18 ≤ b ∧ b ≤ 32) → ¬ (35 ≤ b ∧ b ≤ 51) → b < 166 → I' b = I b) (f16 : I' 16 0 = I 16 0) (f161 : ∀ j, j < 9 → I' 161 j = I 161 j) : Inv I' J' := by
  obtain ⟨s, hs, s0, s1, n, tx, hok, hx, hm, hl, hh, hsl, hru, htx⟩ := hI
  have e1 : I' 1 = I 1 := fr 1 (by omega) (by omega) (by omega) (by omega) (by omega)
  refine Inv_g hok (xS_congr (fun b b1 b2 => fr b (by omega) (by omega) (by omega) (by omega) (by omega)) (fun b b1 b2 => fr b (by omega) (by omega) (by omega) (by omega) (by omega)) hx) (by rw [fr 162 (by omega) (by omega) (by omega) (by omega) (by omega)]; exact hm) ?_ ⟨by rw [e1, f161 5 (by omega)]; exact hru.1, by rw [e1, f161 6 (by omega)]; exact hru.2⟩ hh hsl htx (fun b hb => fr b (by omega) (by omega) (by omega) (by omega) (by omega)) ⟨by rw [e1], by rw [e1]⟩ f16 ⟨f161 2 (by omega), f161 4 (by omega), f161 8 (by omega)⟩
  unfold xL
  rw [fr 33 (by omega) (by omega) (by omega) (by omega) (by omega), fr 34 (by omega) (by omega) (by omega) (by omega) (by omega)]; exact hl
theorem xT_T (h : xT I n tx) : okT I n tx := ⟨h.1.1, h.1.2.2, fun i hi => ⟨(h.2 i hi).1, (h.2 i hi).2.2.2⟩⟩
theorem xT_U (h : xT I n tx) : okU I n tx := ⟨h.1.2.1, h.1.2.2, fun i hi => ⟨(h.2 i hi).2.1, (h.2 i hi).2.2.2⟩⟩
theorem pArc_e {p N e : Nat} (hp : p ≤ n) (h : pArc tx n N p = .inl e) : e ≤ n := by
  unfold pArc at h
  by_cases h1 : sgok tx n 44 p
  · rw [if_neg (fun z => z h1)] at h
    by_cases h2 : dgok tx n 0 (N - 1) (p + 1)
    · rw [if_neg (fun z => z h2)] at h
      by_cases h3 : sgok tx n 62 (p + 2)
      · rw [if_neg (fun z => z h3)] at h
        by_cases h4 : dgok tx n 0 (N - 1) (p + 3)
        · rw [if_neg (fun z => z h4)] at h
          have := h4.1
          by_cases h5 : tx (p + 3) = tx (p + 1)
          · rw [if_pos h5] at h; cases h; omega
          · rw [if_neg h5] at h
            by_cases h6 : sgok tx n 58 (p + 4)
            · rw [if_neg (fun z => z h6)] at h
              have := h6.1
              by_cases h7 : dgok tx n 0 9 (p + 5)
              · rw [if_neg (fun z => z h7)] at h
                by_cases h8 : dgok tx n 0 9 (p + 6)
                · rw [if_neg (fun z => z h8)] at h; cases h
                · rw [if_pos h8] at h; cases h
              · rw [if_pos h7] at h; cases h; omega
            · rw [if_pos h6] at h; cases h; omega
        · rw [if_pos h4] at h; cases h; have := h3.1; omega
      · rw [if_pos h3] at h; cases h; have := h2.1; omega
    · rw [if_pos h2] at h; cases h; have := h1.1; omega
  · rw [if_pos h1] at h; cases h; exact hp
theorem op_fault : am_OK L Inv 73 139 [] := by
  intro I J hI
  have hI0 := hI
  obtain ⟨s, hs, s0, s1, n, tx, hok, hx, hm, hl, hh, hsl, hru, htx⟩ := hI
  obtain ⟨I1, k1, k2, k3, k4⟩ := c_readInto (d := 35) (L := L) (J := J) (xT_T htx)
  have f17 : I1 161 = I 161 := k2 161 (by omega)
  obtain ⟨I2, m1, m2, m3, m4⟩ := c_parse (d := 36) (L := L) (J := J) (I := I1) (n := n) (tx := tx) (okU_congr (by rw [f17]) (k2 165 (by omega)) (xT_U htx))
  have hInv : Inv I2 J := Inv_scr hI0 (fun b b1 b2 b3 b4 b5 => by rw [m2 b b2 (by omega), k2 b (by omega)]) (by rw [m2 16 (by omega) (by omega), k3 0 (by omega)]) (fun j hj => by rw [m3 j (by omega), f17])
  cases hp : pAll tx n with
  | inl e =>
    rw [hp] at k1 k4 m1 m4
    refine ⟨.int (nI e), I1, J, I2, J, fun Q => ?_, k2 0 (by omega), fun Q => ?_, by rw [m2 0 (by omega) (by omega), k2 0 (by omega)], hInv, _, rfl⟩
    · rw [e73]; simp only [r73_0, r73_1, r73_4, r73_5, r73_8, r73_11, r73_14, r73_16, r73_19, r73_20, r73_23, r73_26, s_1, s_2, s_3, s_8, s_16, s_18, s_23, s_24, s_33, s_38, s_41, s_161, f_1_0, f_1_1, f_1_4, f_1_5, f_1_8, f_1_9, f_1_10, f_1_11, f_1_12, f_1_13, f_2_0, f_2_1, f_3_3, f_3_4, f_3_5, f_3_6, f_8_2, f_8_3, f_8_4, f_8_5, f_16_2, f_18_3, f_18_4, f_18_5, f_18_6, f_23_0, f_23_1, f_23_2, f_23_3, f_23_4, f_24_2, f_24_3, f_24_4, f_24_5, f_33_3, f_33_4, f_33_5, f_33_6, f_38_1, f_38_2, f_41_0, f_161_0, f_161_1, f_161_3, f_161_7, f_161_12, f_161_13, f_161_14, f_161_15, f_161_16, f_161_17, f_161_18, f_161_19, f_161_21, f_161_22, f_161_25, true_and, and_true, true_or, or_true, if_true, if_false, ne_eq, not_false_eq_true, and_self, t10, am_psh, am_clr, not_true_eq_false, Nat.reduceEqDiff]
      rw [k1]; simp only [r73_0, r73_1, r73_4, r73_5, r73_8, r73_11, r73_14, r73_16, r73_19, r73_20, r73_23, r73_26, s_1, s_2, s_3, s_8, s_16, s_18, s_23, s_24, s_33, s_38, s_41, s_161, f_1_0, f_1_1, f_1_4, f_1_5, f_1_8, f_1_9, f_1_10, f_1_11, f_1_12, f_1_13, f_2_0, f_2_1, f_3_3, f_3_4, f_3_5, f_3_6, f_8_2, f_8_3, f_8_4, f_8_5, f_16_2, f_18_3, f_18_4, f_18_5, f_18_6, f_23_0, f_23_1, f_23_2, f_23_3, f_23_4, f_24_2, f_24_3, f_24_4, f_24_5, f_33_3, f_33_4, f_33_5, f_33_6, f_38_1, f_38_2, f_41_0, f_161_0, f_161_1, f_161_3, f_161_7, f_161_12, f_161_13, f_161_14, f_161_15, f_161_16, f_161_17, f_161_18, f_161_19, f_161_21, f_161_22, f_161_25, true_and, and_true, true_or, or_true, if_true, if_false, ne_eq, not_false_eq_true, and_self, t10, am_psh, am_clr, not_true_eq_false, Nat.reduceEqDiff, sB]
      rw [show I1 16 1 = nI e from k4]
    · rw [e139]; simp only [r139_0, r139_1, r139_4, r139_5, r139_6, r139_9, r139_10, r139_13, r139_16, r139_18, s_1, s_2, s_3, s_8, s_16, s_18, s_23, s_24, s_33, s_38, s_41, s_161, f_1_0, f_1_1, f_1_4, f_1_5, f_1_8, f_1_9, f_1_10, f_1_11, f_1_12, f_1_13, f_2_0, f_2_1, f_3_3, f_3_4, f_3_5, f_3_6, f_8_2, f_8_3, f_8_4, f_8_5, f_16_2, f_18_3, f_18_4, f_18_5, f_18_6, f_23_0, f_23_1, f_23_2, f_23_3, f_23_4, f_24_2, f_24_3, f_24_4, f_24_5, f_33_3, f_33_4, f_33_5, f_33_6, f_38_1, f_38_2, f_41_0, f_161_0, f_161_1, f_161_3, f_161_7, f_161_12, f_161_13, f_161_14, f_161_15, f_161_16, f_161_17, f_161_18, f_161_19, f_161_21, f_161_22, f_161_25, true_and, and_true, true_or, or_true, if_true, if_false, ne_eq, not_false_eq_true, and_self, t10, am_psh, am_clr, not_true_eq_false, Nat.reduceEqDiff]
      rw [m1]; simp only [r139_0, r139_1, r139_4, r139_5, r139_6, r139_9, r139_10, r139_13, r139_16, r139_18, s_1, s_2, s_3, s_8, s_16, s_18, s_23, s_24, s_33, s_38, s_41, s_161, f_1_0, f_1_1, f_1_4, f_1_5, f_1_8, f_1_9, f_1_10, f_1_11, f_1_12, f_1_13, f_2_0, f_2_1, f_3_3, f_3_4, f_3_5, f_3_6, f_8_2, f_8_3, f_8_4, f_8_5, f_16_2, f_18_3, f_18_4, f_18_5, f_18_6, f_23_0, f_23_1, f_23_2, f_23_3, f_23_4, f_24_2, f_24_3, f_24_4, f_24_5, f_33_3, f_33_4, f_33_5, f_33_6, f_38_1, f_38_2, f_41_0, f_161_0, f_161_1, f_161_3, f_161_7, f_161_12, f_161_13, f_161_14, f_161_15, f_161_16, f_161_17, f_161_18, f_161_19, f_161_21, f_161_22, f_161_25, true_and, and_true, true_or, or_true, if_true, if_false, ne_eq, not_false_eq_true, and_self, t10, am_psh, am_clr, not_true_eq_false, Nat.reduceEqDiff, sM]
      rw [if_neg (by decide), show I2 161 11 = nI e from m4]
  | inr G =>
    rw [hp] at k1 k4 m1 m4
    have hG := pAll_ok hp
    refine ⟨.int (-107), I1, J, I2, J, fun Q => ?_, k2 0 (by omega), fun Q => ?_, by rw [m2 0 (by omega) (by omega), k2 0 (by omega)], hInv, _, rfl⟩
    · rw [e73]; simp only [r73_0, r73_1, r73_4, r73_5, r73_8, r73_11, r73_14, r73_16, r73_19, r73_20, r73_23, r73_26, s_1, s_2, s_3, s_8, s_16, s_18, s_23, s_24, s_33, s_38, s_41, s_161, f_1_0, f_1_1, f_1_4, f_1_5, f_1_8, f_1_9, f_1_10, f_1_11, f_1_12, f_1_13, f_2_0, f_2_1, f_3_3, f_3_4, f_3_5, f_3_6, f_8_2, f_8_3, f_8_4, f_8_5, f_16_2, f_18_3, f_18_4, f_18_5, f_18_6, f_23_0, f_23_1, f_23_2, f_23_3, f_23_4, f_24_2, f_24_3, f_24_4, f_24_5, f_33_3, f_33_4, f_33_5, f_33_6, f_38_1, f_38_2, f_41_0, f_161_0, f_161_1, f_161_3, f_161_7, f_161_12, f_161_13, f_161_14, f_161_15, f_161_16, f_161_17, f_161_18, f_161_19, f_161_21, f_161_22, f_161_25, true_and, and_true, true_or, or_true, if_true, if_false, ne_eq, not_false_eq_true, and_self, t10, am_psh, am_clr, not_true_eq_false, Nat.reduceEqDiff]
      rw [k1]; simp only [r73_0, r73_1, r73_4, r73_5, r73_8, r73_11, r73_14, r73_16, r73_19, r73_20, r73_23, r73_26, s_1, s_2, s_3, s_8, s_16, s_18, s_23, s_24, s_33, s_38, s_41, s_161, f_1_0, f_1_1, f_1_4, f_1_5, f_1_8, f_1_9, f_1_10, f_1_11, f_1_12, f_1_13, f_2_0, f_2_1, f_3_3, f_3_4, f_3_5, f_3_6, f_8_2, f_8_3, f_8_4, f_8_5, f_16_2, f_18_3, f_18_4, f_18_5, f_18_6, f_23_0, f_23_1, f_23_2, f_23_3, f_23_4, f_24_2, f_24_3, f_24_4, f_24_5, f_33_3, f_33_4, f_33_5, f_33_6, f_38_1, f_38_2, f_41_0, f_161_0, f_161_1, f_161_3, f_161_7, f_161_12, f_161_13, f_161_14, f_161_15, f_161_16, f_161_17, f_161_18, f_161_19, f_161_21, f_161_22, f_161_25, true_and, and_true, true_or, or_true, if_true, if_false, ne_eq, not_false_eq_true, and_self, t10, am_psh, am_clr, not_true_eq_false, Nat.reduceEqDiff, sB]
    · rw [e139]; simp only [r139_0, r139_1, r139_4, r139_5, r139_6, r139_9, r139_10, r139_13, r139_16, r139_18, s_1, s_2, s_3, s_8, s_16, s_18, s_23, s_24, s_33, s_38, s_41, s_161, f_1_0, f_1_1, f_1_4, f_1_5, f_1_8, f_1_9, f_1_10, f_1_11, f_1_12, f_1_13, f_2_0, f_2_1, f_3_3, f_3_4, f_3_5, f_3_6, f_8_2, f_8_3, f_8_4, f_8_5, f_16_2, f_18_3, f_18_4, f_18_5, f_18_6, f_23_0, f_23_1, f_23_2, f_23_3, f_23_4, f_24_2, f_24_3, f_24_4, f_24_5, f_33_3, f_33_4, f_33_5, f_33_6, f_38_1, f_38_2, f_41_0, f_161_0, f_161_1, f_161_3, f_161_7, f_161_12, f_161_13, f_161_14, f_161_15, f_161_16, f_161_17, f_161_18, f_161_19, f_161_21, f_161_22, f_161_25, true_and, and_true, true_or, or_true, if_true, if_false, ne_eq, not_false_eq_true, and_self, t10, am_psh, am_clr, not_true_eq_false, Nat.reduceEqDiff]
      rw [m1]; simp only [r139_0, r139_1, r139_4, r139_5, r139_6, r139_9, r139_10, r139_13, r139_16, r139_18, s_1, s_2, s_3, s_8, s_16, s_18, s_23, s_24, s_33, s_38, s_41, s_161, f_1_0, f_1_1, f_1_4, f_1_5, f_1_8, f_1_9, f_1_10, f_1_11, f_1_12, f_1_13, f_2_0, f_2_1, f_3_3, f_3_4, f_3_5, f_3_6, f_8_2, f_8_3, f_8_4, f_8_5, f_16_2, f_18_3, f_18_4, f_18_5, f_18_6, f_23_0, f_23_1, f_23_2, f_23_3, f_23_4, f_24_2, f_24_3, f_24_4, f_24_5, f_33_3, f_33_4, f_33_5, f_33_6, f_38_1, f_38_2, f_41_0, f_161_0, f_161_1, f_161_3, f_161_7, f_161_12, f_161_13, f_161_14, f_161_15, f_161_16, f_161_17, f_161_18, f_161_19, f_161_21, f_161_22, f_161_25, true_and, and_true, true_or, or_true, if_true, if_false, ne_eq, not_false_eq_true, and_self, t10, am_psh, am_clr, not_true_eq_false, Nat.reduceEqDiff, sM]
      rw [if_pos (nI_pos' (by have := hG.1.2.2.2; omega))]
def preG (G : Gr) (k : Nat) : Gr := (gn G, gr G, k, gt G, gh G, gc G, fun _ => 7)
theorem ml_loop {m : Nat} (hm : gm G = m) (hm2 : m ≤ 32) : ∀ (f k : Nat) (I : am_I), k + f = m → mG (I 162) (preG G k) → rdG I G → ∃ I', (∀ Q, am_T (d + 1) 140 34 [some (.ref 161), some (.int (nI m)), some (.int (nI k))] [] (cS L) I J Q = Q (some (.int (nI m))) (cS L) I' J) ∧ (∀ b, b ≠ 162 → I' b = I b) ∧ mG (I' 162) (preG G m) ∧ ∀ j, 99 ≤ j → I' 162 j = I 162 j := by
  intro f
  induction f with
  | zero =>
    intro k I hk hx hr
    have hk : k = m := by omega
    subst hk
    refine ⟨I, fun Q => ?_, fun _ _ => rfl, hx, fun _ _ => rfl⟩
    rw [r140_34]
    simp only [r140_35, r140_36, r140_79, r140_80]
    rw [if_pos (Int32.le_refl _)]
  | succ f ih =>
    intro k I hk hx hr
    obtain ⟨r1, r2, r3⟩ := hr.2 k (by omega)
    have hx' : mG (wApp (I 162) k (nI (gt G k)) (nI (gh G k)) (nI (gc G k))) (preG G (k + 1)) := by
      have h := mG_app (t := gt G k) (h := gh G k) (c := gc G k) hx (show gm (preG G k) < 32 from (show k < 32 by omega))
      obtain ⟨h1, h2, h3⟩ := h
      refine ⟨h1, fun a ha => ?_, h3⟩
      have := h2 a ha
      have e : ∀ (u : Nat → Nat), fset u k (u k) a = u a := fun u => by
        unfold fset; by_cases q : a = k
        · rw [if_pos q, q]
        · rw [if_neg q]
      have e1 : gt (addA (preG G k) (gt G k) (gh G k) (gc G k)) a = gt G a := e (gt G)
      have e2 : gh (addA (preG G k) (gt G k) (gh G k) (gc G k)) a = gh G a := e (gh G)
      have e3 : gc (addA (preG G k) (gt G k) (gh G k) (gc G k)) a = gc G a := e (gc G)
      rw [e1, e2, e3] at this
      exact this
    obtain ⟨I', k1, k2, k3, k4⟩ := ih (k + 1) (am_row I 162 (wApp (I 162) k (nI (gt G k)) (nI (gh G k)) (nI (gc G k)))) (by omega) (by rw [am_row_eq]; exact hx') (by unfold rdG; rw [am_row_ne (by omega)]; exact hr)
    refine ⟨I', fun Q => ?_, fun b hb => by rw [k2 b hb, am_row_ne hb], k3, fun j hj => by rw [k4 j hj, am_row_eq, wApp_hi hj (by omega)]⟩
    rw [r140_34]
    simp only [r140_35, r140_36, r140_39, r140_40, r140_41, r140_44, r140_45, r140_46, r140_47, r140_48, r140_49, r140_50, r140_51, r140_54, r140_55, r140_56, r140_57, r140_58, r140_59, r140_60, r140_61, r140_64, r140_65, r140_66, r140_67, r140_68, r140_69, r140_70, s_1, s_2, s_3, s_8, s_16, s_18, s_23, s_24, s_33, s_38, s_41, s_161, f_1_0, f_1_1, f_1_4, f_1_5, f_1_8, f_1_9, f_1_10, f_1_11, f_1_12, f_1_13, f_2_0, f_2_1, f_3_3, f_3_4, f_3_5, f_3_6, f_8_2, f_8_3, f_8_4, f_8_5, f_16_2, f_18_3, f_18_4, f_18_5, f_18_6, f_23_0, f_23_1, f_23_2, f_23_3, f_23_4, f_24_2, f_24_3, f_24_4, f_24_5, f_33_3, f_33_4, f_33_5, f_33_6, f_38_1, f_38_2, f_41_0, f_161_0, f_161_1, f_161_3, f_161_7, f_161_12, f_161_13, f_161_14, f_161_15, f_161_16, f_161_17, f_161_18, f_161_19, f_161_21, f_161_22, f_161_25, true_and, and_true, true_or, or_true, if_true, if_false, ne_eq, not_false_eq_true, and_self, t10, am_psh, am_clr, not_true_eq_false, Nat.reduceEqDiff, show (2 : Int32) + 3 * nI k = nI (2 + 3 * k) from rd_i 2 _, show (3 : Int32) + 3 * nI k = nI (3 + 3 * k) from rd_i 3 _, show (4 : Int32) + 3 * nI k = nI (4 + 3 * k) from rd_i 4 _, rx (L := L) (2 + 3 * k) (by omega), rx (L := L) (3 + 3 * k) (by omega), rx (L := L) (4 + 3 * k) (by omega), n_cl (show 2 + 3 * k < 2 ^ 31 by omega), n_cl (show 3 + 3 * k < 2 ^ 31 by omega), n_cl (show 4 + 3 * k < 2 ^ 31 by omega), r1, r2, r3]
    rw [if_neg (nI_ge (show k < m by omega) (by omega)), c_Mod_append (m := k) (by omega) hx.1.2.2]
    simp only [r140_73, r140_76, s_1, s_2, s_3, s_8, s_16, s_18, s_23, s_24, s_33, s_38, s_41, s_161, f_1_0, f_1_1, f_1_4, f_1_5, f_1_8, f_1_9, f_1_10, f_1_11, f_1_12, f_1_13, f_2_0, f_2_1, f_3_3, f_3_4, f_3_5, f_3_6, f_8_2, f_8_3, f_8_4, f_8_5, f_16_2, f_18_3, f_18_4, f_18_5, f_18_6, f_23_0, f_23_1, f_23_2, f_23_3, f_23_4, f_24_2, f_24_3, f_24_4, f_24_5, f_33_3, f_33_4, f_33_5, f_33_6, f_38_1, f_38_2, f_41_0, f_161_0, f_161_1, f_161_3, f_161_7, f_161_12, f_161_13, f_161_14, f_161_15, f_161_16, f_161_17, f_161_18, f_161_19, f_161_21, f_161_22, f_161_25, true_and, and_true, true_or, or_true, if_true, if_false, ne_eq, not_false_eq_true, and_self, t10, am_psh, am_clr, not_true_eq_false, Nat.reduceEqDiff, nI_1]
    exact k1 Q
theorem pL_lim {G' : Gr} : ∀ (f : Nat) (G : Gr) (p : Nat), gl G = (fun _ => 7) → pL tx n f G p = .inr G' → gl G' = fun _ => 7 := by
  intro f
  induction f with
  | zero => intro G p hG h; cases h; exact hG
  | succ f ih =>
    intro G p hG h
    unfold pL at h
    by_cases h1 : p < n
    · rw [if_pos h1] at h
      by_cases h2 : gm G = 32
      · rw [if_pos h2] at h; cases h
      · rw [if_neg h2] at h
        cases h3 : pArc tx n (gn G) p with
        | inl e => rw [h3] at h; cases h
        | inr q => rw [h3] at h; exact ih (addA G q.1 q.2.1 q.2.2.1) _ hG h
    · rw [if_neg h1] at h; cases h; exact hG
theorem pAll_lim {G' : Gr} (h : pAll tx n = .inr G') : gl G' = fun _ => 7 := by
  unfold pAll at h
  by_cases h1 : dgok tx n 2 8 0
  · rw [if_neg (fun z => z h1)] at h
    by_cases h2 : sgok tx n 47 1
    · rw [if_neg (fun z => z h2)] at h
      by_cases h3 : dgok tx n 0 (tx 0 - 48 - 1) 2
      · rw [if_neg (fun z => z h3)] at h
        exact pL_lim _ _ _ rfl h
      · rw [if_pos h3] at h; cases h
    · rw [if_pos h2] at h; cases h
  · rw [if_pos h1] at h; cases h
set_option maxHeartbeats 4000000 in
theorem op_load : am_OK L Inv 74 140 [] := by
  intro I J hI
  have hI0 := hI
  obtain ⟨s, hs, s0, s1, n, tx, hok, hx, hm, hl, hh, hsl, hru, htx⟩ := hI
  obtain ⟨hO, hhM, o, ho, hhX⟩ := xH_iff.mp hh
  obtain ⟨Ia, k1, k2, k3, k4⟩ := c_readInto (d := 35) (L := L) (J := J) (xT_T htx)
  have f17 : Ia 161 = I 161 := k2 161 (by omega)
  cases hp : pAll tx n with
  | inl e =>
    obtain ⟨I2, m1, m2, m3, m4⟩ := c_parse (d := 36) (L := L) (J := J) (I := Ia) (n := n) (tx := tx) (okU_congr (by rw [f17]) (k2 165 (by omega)) (xT_U htx))
    have hInv : Inv I2 J := Inv_scr hI0 (fun b b1 b2 b3 b4 b5 => by rw [m2 b b2 (by omega), k2 b (by omega)]) (by rw [m2 16 (by omega) (by omega), k3 0 (by omega)]) (fun j hj => by rw [m3 j (by omega), f17])
    rw [hp] at k1 k4 m1 m4
    refine ⟨.int (-105), Ia, J, I2, J, fun Q => ?_, k2 0 (by omega), fun Q => ?_, by rw [m2 0 (by omega) (by omega), k2 0 (by omega)], hInv, _, rfl⟩
    · rw [e74]; simp only [r74_0, r74_1, r74_4, r74_5, r74_8, s_1, s_2, s_3, s_8, s_16, s_18, s_23, s_24, s_33, s_38, s_41, s_161, f_1_0, f_1_1, f_1_4, f_1_5, f_1_8, f_1_9, f_1_10, f_1_11, f_1_12, f_1_13, f_2_0, f_2_1, f_3_3, f_3_4, f_3_5, f_3_6, f_8_2, f_8_3, f_8_4, f_8_5, f_16_2, f_18_3, f_18_4, f_18_5, f_18_6, f_23_0, f_23_1, f_23_2, f_23_3, f_23_4, f_24_2, f_24_3, f_24_4, f_24_5, f_33_3, f_33_4, f_33_5, f_33_6, f_38_1, f_38_2, f_41_0, f_161_0, f_161_1, f_161_3, f_161_7, f_161_12, f_161_13, f_161_14, f_161_15, f_161_16, f_161_17, f_161_18, f_161_19, f_161_21, f_161_22, f_161_25, true_and, and_true, true_or, or_true, if_true, if_false, ne_eq, not_false_eq_true, and_self, t10, am_psh, am_clr, not_true_eq_false, Nat.reduceEqDiff]
      rw [k1]; simp only [r74_11, r74_14, r74_16, s_1, s_2, s_3, s_8, s_16, s_18, s_23, s_24, s_33, s_38, s_41, s_161, f_1_0, f_1_1, f_1_4, f_1_5, f_1_8, f_1_9, f_1_10, f_1_11, f_1_12, f_1_13, f_2_0, f_2_1, f_3_3, f_3_4, f_3_5, f_3_6, f_8_2, f_8_3, f_8_4, f_8_5, f_16_2, f_18_3, f_18_4, f_18_5, f_18_6, f_23_0, f_23_1, f_23_2, f_23_3, f_23_4, f_24_2, f_24_3, f_24_4, f_24_5, f_33_3, f_33_4, f_33_5, f_33_6, f_38_1, f_38_2, f_41_0, f_161_0, f_161_1, f_161_3, f_161_7, f_161_12, f_161_13, f_161_14, f_161_15, f_161_16, f_161_17, f_161_18, f_161_19, f_161_21, f_161_22, f_161_25, true_and, and_true, true_or, or_true, if_true, if_false, ne_eq, not_false_eq_true, and_self, t10, am_psh, am_clr, not_true_eq_false, Nat.reduceEqDiff, sB]
    · rw [e140]; simp only [r140_0, r140_1, s_1, s_2, s_3, s_8, s_16, s_18, s_23, s_24, s_33, s_38, s_41, s_161, f_1_0, f_1_1, f_1_4, f_1_5, f_1_8, f_1_9, f_1_10, f_1_11, f_1_12, f_1_13, f_2_0, f_2_1, f_3_3, f_3_4, f_3_5, f_3_6, f_8_2, f_8_3, f_8_4, f_8_5, f_16_2, f_18_3, f_18_4, f_18_5, f_18_6, f_23_0, f_23_1, f_23_2, f_23_3, f_23_4, f_24_2, f_24_3, f_24_4, f_24_5, f_33_3, f_33_4, f_33_5, f_33_6, f_38_1, f_38_2, f_41_0, f_161_0, f_161_1, f_161_3, f_161_7, f_161_12, f_161_13, f_161_14, f_161_15, f_161_16, f_161_17, f_161_18, f_161_19, f_161_21, f_161_22, f_161_25, true_and, and_true, true_or, or_true, if_true, if_false, ne_eq, not_false_eq_true, and_self, t10, am_psh, am_clr, not_true_eq_false, Nat.reduceEqDiff]
      rw [m1]; simp only [r140_4, r140_5, r140_6, r140_9, r140_11, s_1, s_2, s_3, s_8, s_16, s_18, s_23, s_24, s_33, s_38, s_41, s_161, f_1_0, f_1_1, f_1_4, f_1_5, f_1_8, f_1_9, f_1_10, f_1_11, f_1_12, f_1_13, f_2_0, f_2_1, f_3_3, f_3_4, f_3_5, f_3_6, f_8_2, f_8_3, f_8_4, f_8_5, f_16_2, f_18_3, f_18_4, f_18_5, f_18_6, f_23_0, f_23_1, f_23_2, f_23_3, f_23_4, f_24_2, f_24_3, f_24_4, f_24_5, f_33_3, f_33_4, f_33_5, f_33_6, f_38_1, f_38_2, f_41_0, f_161_0, f_161_1, f_161_3, f_161_7, f_161_12, f_161_13, f_161_14, f_161_15, f_161_16, f_161_17, f_161_18, f_161_19, f_161_21, f_161_22, f_161_25, true_and, and_true, true_or, or_true, if_true, if_false, ne_eq, not_false_eq_true, and_self, t10, am_psh, am_clr, not_true_eq_false, Nat.reduceEqDiff, sM]
      rw [if_neg (by decide)]
  | inr G =>
    have hG := pAll_ok hp
    have hGl := pAll_lim hp
    have hGm := hG.1.2.2.2
    have hGn := hG.1.2.1
    rw [hp] at k1 k4
    have k4 : xG Ia 18 G := k4
    obtain ⟨I1, o1, g1, g2, g3, g4, g5, g6, g7⟩ := c_keep (d := 35) (L := L) (J := J) (I := Ia) hok (xS_congr (fun b b1 b2 => k2 b (by omega)) (fun b b1 b2 => k2 b (by omega)) hx) ho (hX_congr (by rw [k2 1 (by omega)]) (by rw [k2 1 (by omega)]) (fun b b1 b2 => k2 b (by omega)) hhX) hO.1
    obtain ⟨I1a, q1, q2, q3, q4, q5, q6, q7⟩ := c_Gra_copy (d := 38) (L := L) (I := I1) (J := J) (shG_3 L) (shG_18 L) (by omega)
    have i1 : ∀ b, 18 ≤ b → b ≤ 22 → I1 b = Ia b := fun b b1 b2 => g4 b (by omega) (by omega) (by omega)
    have xg1 : xG I1a 3 G := by
      obtain ⟨⟨y1, y2, y3⟩, y4, y5⟩ := k4
      refine ⟨⟨by rw [q3 0 (by omega), i1 18 (by omega) (by omega)]; exact y1, by rw [q3 1 (by omega), i1 18 (by omega) (by omega)]; exact y2, by rw [q3 2 (by omega), i1 18 (by omega) (by omega)]; exact y3⟩, fun a ha => ?_, fun v hv => by rw [q7 v hv, i1 (18 + 4) (by omega) (by omega)]; exact y5 v hv⟩
      rw [q4 a (by omega), q5 a (by omega), q6 a (by omega), i1 (18 + 1) (by omega) (by omega), i1 (18 + 2) (by omega) (by omega), i1 (18 + 3) (by omega) (by omega)]
      exact y4 a ha
    have e8 : I1a 8 = I 8 := by rw [q2 8 (by omega), g4 8 (by omega) (by omega) (by omega), k2 8 (by omega)]
    obtain ⟨I2, m1, m2, m3, m4⟩ := c_settle_F (d := 38) (L := L) (J := J) (I := I1a) (by rw [e8]; exact xS_01 hx)
    have f2 : ∀ b, b ≠ 1 → ¬ (3 ≤ b ∧ b ≤ 8) → b ≠ 16 → ¬ (18 ≤ b ∧ b ≤ 22) → b ≠ 33 → (b < 52 ∨ 139 ≤ b) → I2 b = I b := fun b b1 b2 b3 b4 b5 b6 => by rw [m3 b (by omega), q2 b (by omega), g4 b b1 b5 b6, k2 b (by omega)]
    have g161 : I2 161 = I 161 := f2 161 (by omega) (by omega) (by omega) (by omega) (by omega) (by omega)
    have g162 : I2 162 = I 162 := f2 162 (by omega) (by omega) (by omega) (by omega) (by omega) (by omega)
    obtain ⟨I3, n1, n2, n3, n4⟩ := c_parse (d := 36) (L := L) (J := J) (I := I2) (n := n) (tx := tx) (okU_congr (by rw [g161]) (f2 165 (by omega) (by omega) (by omega) (by omega) (by omega) (by omega)) (xT_U htx))
    rw [hp] at n1 n4
    have n4 : rdG I3 G := n4
    have e162 : I3 162 = I 162 := by rw [n2 162 (by omega) (by omega), g162]
    obtain ⟨I4, p1, p2, p3, p4⟩ := c_Mkeep (d := 38) (L := L) (J := J) (I := I3) (hs := hs) hok (by rw [e162]; exact hm) (hM_congr (by rw [n3 2 (by omega), g161]) (by rw [n2 163 (by omega) (by omega), f2 163 (by omega) (by omega) (by omega) (by omega) (by omega) (by omega)]) hhM) hO
    have r166 : I4 166 = I3 166 := p3 166 (by omega) (by omega)
    have hrd : rdG (am_row I4 162 (g_clr (I4 162) (nI (gn G)) (nI (gr G)))) G := by unfold rdG; rw [am_row_ne (by omega), r166]; exact n4
    obtain ⟨I5, u1, u2, u3, u4⟩ := ml_loop (d := 38) (L := L) (J := J) (G := G) (m := gm G) rfl hGm (gm G) 0 (am_row I4 162 (g_clr (I4 162) (nI (gn G)) (nI (gr G)))) (by omega) (by
      rw [am_row_eq]
      exact ⟨⟨rfl, rfl, rfl⟩, fun a ha => absurd ha (Nat.not_lt_zero a), fun v hv => by unfold g_clr; rw [if_pos (by omega)]; rfl⟩) hrd
    have f5 : ∀ b, b ≠ 161 → b ≠ 162 → b ≠ 163 → b ≠ 166 → I5 b = I2 b := fun b b1 b2 b3 b4 => by rw [u2 b b2, am_row_ne b2, p3 b b1 b3, n2 b b1 b4]
    have f51 : I5 161 = I4 161 := by rw [u2 161 (by omega), am_row_ne (by omega)]
    have f21 : I2 1 = I1 1 := by rw [m3 1 (by omega), q2 1 (by omega)]
    have hgG : preG G (gm G) = G := by
      obtain ⟨a1, a2, a3, a4, a5, a6, a7⟩ := G
      unfold preG
      have : a7 = fun _ => 7 := hGl
      subst this; rfl
    rw [hgG] at u3
    refine ⟨.int (nI (gm G)), I2, J, I5, J, fun Q => ?_, f2 0 (by omega) (by omega) (by omega) (by omega) (by omega) (by omega), fun Q => ?_, by rw [f5 0 (by omega) (by omega) (by omega) (by omega), f2 0 (by omega) (by omega) (by omega) (by omega) (by omega) (by omega)], ?_, _, rfl⟩
    · rw [e74]; simp only [r74_0, r74_1, r74_4, r74_5, r74_8, s_1, s_2, s_3, s_8, s_16, s_18, s_23, s_24, s_33, s_38, s_41, s_161, f_1_0, f_1_1, f_1_4, f_1_5, f_1_8, f_1_9, f_1_10, f_1_11, f_1_12, f_1_13, f_2_0, f_2_1, f_3_3, f_3_4, f_3_5, f_3_6, f_8_2, f_8_3, f_8_4, f_8_5, f_16_2, f_18_3, f_18_4, f_18_5, f_18_6, f_23_0, f_23_1, f_23_2, f_23_3, f_23_4, f_24_2, f_24_3, f_24_4, f_24_5, f_33_3, f_33_4, f_33_5, f_33_6, f_38_1, f_38_2, f_41_0, f_161_0, f_161_1, f_161_3, f_161_7, f_161_12, f_161_13, f_161_14, f_161_15, f_161_16, f_161_17, f_161_18, f_161_19, f_161_21, f_161_22, f_161_25, true_and, and_true, true_or, or_true, if_true, if_false, ne_eq, not_false_eq_true, and_self, t10, am_psh, am_clr, not_true_eq_false, Nat.reduceEqDiff]
      rw [k1]; simp only [r74_11, r74_14, r74_16, r74_17, r74_18, s_1, s_2, s_3, s_8, s_16, s_18, s_23, s_24, s_33, s_38, s_41, s_161, f_1_0, f_1_1, f_1_4, f_1_5, f_1_8, f_1_9, f_1_10, f_1_11, f_1_12, f_1_13, f_2_0, f_2_1, f_3_3, f_3_4, f_3_5, f_3_6, f_8_2, f_8_3, f_8_4, f_8_5, f_16_2, f_18_3, f_18_4, f_18_5, f_18_6, f_23_0, f_23_1, f_23_2, f_23_3, f_23_4, f_24_2, f_24_3, f_24_4, f_24_5, f_33_3, f_33_4, f_33_5, f_33_6, f_38_1, f_38_2, f_41_0, f_161_0, f_161_1, f_161_3, f_161_7, f_161_12, f_161_13, f_161_14, f_161_15, f_161_16, f_161_17, f_161_18, f_161_19, f_161_21, f_161_22, f_161_25, true_and, and_true, true_or, or_true, if_true, if_false, ne_eq, not_false_eq_true, and_self, t10, am_psh, am_clr, not_true_eq_false, Nat.reduceEqDiff, sB]
      rw [g1]; simp only [r74_21, r74_22, r74_25, r74_28, r74_29, r74_32, s_1, s_2, s_3, s_8, s_16, s_18, s_23, s_24, s_33, s_38, s_41, s_161, f_1_0, f_1_1, f_1_4, f_1_5, f_1_8, f_1_9, f_1_10, f_1_11, f_1_12, f_1_13, f_2_0, f_2_1, f_3_3, f_3_4, f_3_5, f_3_6, f_8_2, f_8_3, f_8_4, f_8_5, f_16_2, f_18_3, f_18_4, f_18_5, f_18_6, f_23_0, f_23_1, f_23_2, f_23_3, f_23_4, f_24_2, f_24_3, f_24_4, f_24_5, f_33_3, f_33_4, f_33_5, f_33_6, f_38_1, f_38_2, f_41_0, f_161_0, f_161_1, f_161_3, f_161_7, f_161_12, f_161_13, f_161_14, f_161_15, f_161_16, f_161_17, f_161_18, f_161_19, f_161_21, f_161_22, f_161_25, true_and, and_true, true_or, or_true, if_true, if_false, ne_eq, not_false_eq_true, and_self, t10, am_psh, am_clr, not_true_eq_false, Nat.reduceEqDiff]
      rw [q1]; simp only [r74_35, r74_36, r74_37, s_1, s_2, s_3, s_8, s_16, s_18, s_23, s_24, s_33, s_38, s_41, s_161, f_1_0, f_1_1, f_1_4, f_1_5, f_1_8, f_1_9, f_1_10, f_1_11, f_1_12, f_1_13, f_2_0, f_2_1, f_3_3, f_3_4, f_3_5, f_3_6, f_8_2, f_8_3, f_8_4, f_8_5, f_16_2, f_18_3, f_18_4, f_18_5, f_18_6, f_23_0, f_23_1, f_23_2, f_23_3, f_23_4, f_24_2, f_24_3, f_24_4, f_24_5, f_33_3, f_33_4, f_33_5, f_33_6, f_38_1, f_38_2, f_41_0, f_161_0, f_161_1, f_161_3, f_161_7, f_161_12, f_161_13, f_161_14, f_161_15, f_161_16, f_161_17, f_161_18, f_161_19, f_161_21, f_161_22, f_161_25, true_and, and_true, true_or, or_true, if_true, if_false, ne_eq, not_false_eq_true, and_self, t10, am_psh, am_clr, not_true_eq_false, Nat.reduceEqDiff]
      rw [m1]; simp only [r74_40, r74_41, r74_44, r74_47, r74_50, s_1, s_2, s_3, s_8, s_16, s_18, s_23, s_24, s_33, s_38, s_41, s_161, f_1_0, f_1_1, f_1_4, f_1_5, f_1_8, f_1_9, f_1_10, f_1_11, f_1_12, f_1_13, f_2_0, f_2_1, f_3_3, f_3_4, f_3_5, f_3_6, f_8_2, f_8_3, f_8_4, f_8_5, f_16_2, f_18_3, f_18_4, f_18_5, f_18_6, f_23_0, f_23_1, f_23_2, f_23_3, f_23_4, f_24_2, f_24_3, f_24_4, f_24_5, f_33_3, f_33_4, f_33_5, f_33_6, f_38_1, f_38_2, f_41_0, f_161_0, f_161_1, f_161_3, f_161_7, f_161_12, f_161_13, f_161_14, f_161_15, f_161_16, f_161_17, f_161_18, f_161_19, f_161_21, f_161_22, f_161_25, true_and, and_true, true_or, or_true, if_true, if_false, ne_eq, not_false_eq_true, and_self, t10, am_psh, am_clr, not_true_eq_false, Nat.reduceEqDiff]
      rw [m3 3 (by omega), xg1.1.2.2]
    · have y0 : am_ix (cS L) 166 20 0 := rx 0 (by omega)
      have y1 : am_ix (cS L) 166 20 1 := rx 1 (by omega)
      have y2 : I4 166 0 = nI (gn G) := by rw [r166]; exact n4.1.1
      have y3 : I4 166 1 = nI (gr G) := by rw [r166]; exact n4.1.2
      rw [e140]; simp only [r140_0, r140_1, s_1, s_2, s_3, s_8, s_16, s_18, s_23, s_24, s_33, s_38, s_41, s_161, f_1_0, f_1_1, f_1_4, f_1_5, f_1_8, f_1_9, f_1_10, f_1_11, f_1_12, f_1_13, f_2_0, f_2_1, f_3_3, f_3_4, f_3_5, f_3_6, f_8_2, f_8_3, f_8_4, f_8_5, f_16_2, f_18_3, f_18_4, f_18_5, f_18_6, f_23_0, f_23_1, f_23_2, f_23_3, f_23_4, f_24_2, f_24_3, f_24_4, f_24_5, f_33_3, f_33_4, f_33_5, f_33_6, f_38_1, f_38_2, f_41_0, f_161_0, f_161_1, f_161_3, f_161_7, f_161_12, f_161_13, f_161_14, f_161_15, f_161_16, f_161_17, f_161_18, f_161_19, f_161_21, f_161_22, f_161_25, true_and, and_true, true_or, or_true, if_true, if_false, ne_eq, not_false_eq_true, and_self, t10, am_psh, am_clr, not_true_eq_false, Nat.reduceEqDiff]
      rw [n1]; simp only [r140_4, r140_5, r140_6, r140_9, r140_11, r140_12, r140_13, s_1, s_2, s_3, s_8, s_16, s_18, s_23, s_24, s_33, s_38, s_41, s_161, f_1_0, f_1_1, f_1_4, f_1_5, f_1_8, f_1_9, f_1_10, f_1_11, f_1_12, f_1_13, f_2_0, f_2_1, f_3_3, f_3_4, f_3_5, f_3_6, f_8_2, f_8_3, f_8_4, f_8_5, f_16_2, f_18_3, f_18_4, f_18_5, f_18_6, f_23_0, f_23_1, f_23_2, f_23_3, f_23_4, f_24_2, f_24_3, f_24_4, f_24_5, f_33_3, f_33_4, f_33_5, f_33_6, f_38_1, f_38_2, f_41_0, f_161_0, f_161_1, f_161_3, f_161_7, f_161_12, f_161_13, f_161_14, f_161_15, f_161_16, f_161_17, f_161_18, f_161_19, f_161_21, f_161_22, f_161_25, true_and, and_true, true_or, or_true, if_true, if_false, ne_eq, not_false_eq_true, and_self, t10, am_psh, am_clr, not_true_eq_false, Nat.reduceEqDiff, sM]
      rw [if_pos (nI_pos' (by omega)), p1]
      simp only [r140_16, r140_17, r140_18, r140_21, r140_22, r140_23, r140_24, r140_27, r140_28, r140_29, s_1, s_2, s_3, s_8, s_16, s_18, s_23, s_24, s_33, s_38, s_41, s_161, f_1_0, f_1_1, f_1_4, f_1_5, f_1_8, f_1_9, f_1_10, f_1_11, f_1_12, f_1_13, f_2_0, f_2_1, f_3_3, f_3_4, f_3_5, f_3_6, f_8_2, f_8_3, f_8_4, f_8_5, f_16_2, f_18_3, f_18_4, f_18_5, f_18_6, f_23_0, f_23_1, f_23_2, f_23_3, f_23_4, f_24_2, f_24_3, f_24_4, f_24_5, f_33_3, f_33_4, f_33_5, f_33_6, f_38_1, f_38_2, f_41_0, f_161_0, f_161_1, f_161_3, f_161_7, f_161_12, f_161_13, f_161_14, f_161_15, f_161_16, f_161_17, f_161_18, f_161_19, f_161_21, f_161_22, f_161_25, true_and, and_true, true_or, or_true, if_true, if_false, ne_eq, not_false_eq_true, and_self, t10, am_psh, am_clr, not_true_eq_false, Nat.reduceEqDiff, y0, y1, show (0 : Int32).toNatClampNeg = 0 from by decide, show (1 : Int32).toNatClampNeg = 1 from by decide, y2, y3]
      rw [c_Mod_clear (q := 162) (of_eq_true (s_161 L)) (f_161_0 L) (k_162 L) (n_162 L) (by omega)]
      simp only [r140_32, r140_33, s_1, s_2, s_3, s_8, s_16, s_18, s_23, s_24, s_33, s_38, s_41, s_161, f_1_0, f_1_1, f_1_4, f_1_5, f_1_8, f_1_9, f_1_10, f_1_11, f_1_12, f_1_13, f_2_0, f_2_1, f_3_3, f_3_4, f_3_5, f_3_6, f_8_2, f_8_3, f_8_4, f_8_5, f_16_2, f_18_3, f_18_4, f_18_5, f_18_6, f_23_0, f_23_1, f_23_2, f_23_3, f_23_4, f_24_2, f_24_3, f_24_4, f_24_5, f_33_3, f_33_4, f_33_5, f_33_6, f_38_1, f_38_2, f_41_0, f_161_0, f_161_1, f_161_3, f_161_7, f_161_12, f_161_13, f_161_14, f_161_15, f_161_16, f_161_17, f_161_18, f_161_19, f_161_21, f_161_22, f_161_25, true_and, and_true, true_or, or_true, if_true, if_false, ne_eq, not_false_eq_true, and_self, t10, am_psh, am_clr, not_true_eq_false, Nat.reduceEqDiff]
      exact u1 Q
    · refine Inv_of2 (I := I) (s' := (G, none)) (hs' := pushH hs s) (s0 := s0) (s1 := s1) (n := n) (o := o1) (tx := tx) ⟨hG, fun R hR => by cases hR⟩ ⟨?_, ?_⟩ ⟨u3, ?_⟩ (Or.inl ?_) (okH_push hO hok) (hM_congr (by rw [f51]) (by rw [u2 163 (by omega), am_row_ne (by omega)]) p2) g2 (hX_congr (by rw [f5 1 (by omega) (by omega) (by omega) (by omega), f21]) (by rw [f5 1 (by omega) (by omega) (by omega) (by omega), f21]) (fun b b1 b2 => by rw [f5 b (by omega) (by omega) (by omega) (by omega), m3 b (by omega), q2 b (by omega)]) g3) ⟨?_, ?_⟩ hsl htx (fun b hb => ?_) ?_ ?_ ?_
      · exact xG_congr (fun b b1 b2 => by rw [f5 b (by omega) (by omega) (by omega) (by omega), m3 b (by omega)]) xg1
      · show I5 8 0 = 0
        rw [f5 8 (by omega) (by omega) (by omega) (by omega)]; exact m2
      · show I5 162 107 = 0
        rw [u4 107 (by omega), am_row_eq]; rfl
      · rw [f5 33 (by omega) (by omega) (by omega) (by omega), m3 33 (by omega), q2 33 (by omega)]; exact g6
      · rw [f5 1 (by omega) (by omega) (by omega) (by omega), f21, g5 6 (by omega) (by omega), k2 1 (by omega), f51, p4 5 (by omega), n3 5 (by omega), g161]; exact hru.1
      · rw [f5 1 (by omega) (by omega) (by omega) (by omega), f21, g5 7 (by omega) (by omega), k2 1 (by omega), f51, p4 6 (by omega), n3 6 (by omega), g161]; exact hru.2
      · rw [f5 b (by omega) (by omega) (by omega) (by omega), f2 b (by omega) (by omega) (by omega) (by omega) (by omega) (by omega)]
      · rw [f5 16 (by omega) (by omega) (by omega) (by omega), m3 16 (by omega), q2 16 (by omega), g4 16 (by omega) (by omega) (by omega), k3 0 (by omega)]
      · rw [f51, p4 4 (by omega), n3 4 (by omega), g161]
      · rw [f51, p4 8 (by omega), n3 8 (by omega), g161]
end LD
