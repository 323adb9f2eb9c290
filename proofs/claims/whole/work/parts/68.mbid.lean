/-! prices: the model -/
section MB
variable {d L : Nat} {I I' : am_I} {J : am_J} {Q : am_Q} {G : Gr} {p t : Nat → Nat} {st : Nat}
theorem mb_0 {x1 x2 : Int32} : ∀ (n j : Nat) (K : am_I) (l4 l5 l6 l7 : Option Value), j + n = 8 → (∀ b, b ≠ 176 → K b = I b) → (∀ v, v < j → K 176 v = 0) → ∃ I', (∀ Q, am_T d 178 2 [some (.ref 161), some (.int x1), some (.int x2), some (.int (nI j)), l4, l5, l6, l7] [] (cS L) K J Q = am_T d 178 21 [some (.ref 161), some (.int x1), some (.int x2), some (.int (nI 8)), l4, l5, l6, l7] [] (cS L) I' J Q) ∧ (∀ b, b ≠ 176 → I' b = I b) ∧ ∀ v, v < 8 → I' 176 v = 0 := by
  intro n
  induction n with
  | zero =>
    intro j K l4 l5 l6 l7 hj hf h
    have : j = 8 := by omega
    subst this
    refine ⟨K, fun Q => ?_, hf, h⟩
    rw [r178_2]
    simp only [r178_3, r178_5]
    rw [if_pos (by decide)]
  | succ n ih =>
    intro j K l4 l5 l6 l7 hj hf h
    obtain ⟨I', k1, k2, k3⟩ := ih (j + 1) (am_up K 176 j 0) l4 l5 l6 l7 (by omega) (fun b hb => by rw [am_up_ne hb]; exact hf b hb) (fun v hv => by
      by_cases e : v = j
      · subst e; rw [up_self]
      · rw [up_ne _ _ (Or.inr e)]; exact h v (by omega))
    refine ⟨I', fun Q => ?_, k2, k3⟩
    rw [r178_2]
    simp only [r178_3, r178_5, r178_8, r178_9, r178_12, r178_13, r178_14, r178_15, r178_18, s_1, s_2, s_3, s_8, s_16, s_18, s_23, s_24, s_33, s_38, s_41, s_161, f_1_0, f_1_1, f_1_4, f_1_5, f_1_8, f_1_9, f_1_10, f_1_11, f_1_12, f_1_13, f_2_0, f_2_1, f_3_3, f_3_4, f_3_5, f_3_6, f_8_2, f_8_3, f_8_4, f_8_5, f_16_2, f_18_3, f_18_4, f_18_5, f_18_6, f_23_0, f_23_1, f_23_2, f_23_3, f_23_4, f_24_2, f_24_3, f_24_4, f_24_5, f_33_3, f_33_4, f_33_5, f_33_6, f_38_1, f_38_2, f_41_0, f_161_0, f_161_1, f_161_3, f_161_7, f_161_12, f_161_13, f_161_14, f_161_15, f_161_16, f_161_17, f_161_18, f_161_19, f_161_21, f_161_22, f_161_25, true_and, and_true, true_or, or_true, if_true, if_false, ne_eq, not_false_eq_true, and_self, t10, am_psh, am_clr, not_true_eq_false, Nat.reduceEqDiff, iw176 (L := L) j (by omega), n_cl (show j < 2 ^ 31 by omega), nI_1]
    rw [if_neg (show ¬ (8 : Int32) ≤ nI j from ge_lit (c := 8) rfl (by omega) (by omega))]
    exact k1 Q
theorem mb_price {x1 x2 x3 : Int32} (hG : okG G) (hm : mG (I 162) G) (hp : ∀ v, v < 8 → I 176 v = nI (p v)) : ∀ (n j : Nat) (K : am_I) (l5 l6 l7 : Option Value), j + n = gm G → (∀ b, b ≠ 167 → K b = I b) → (∀ a, a < gm G → K 167 a = if a < j then prc G p a else coG G a) → ∃ I', (∀ Q, am_T d 178 35 [some (.ref 161), some (.int x1), some (.int x2), some (.int x3), some (.int (nI j)), l5, l6, l7] [] (cS L) K J Q = am_T d 178 76 [some (.ref 161), some (.int x1), some (.int x2), some (.int x3), some (.int (nI (gm G))), l5, l6, l7] [] (cS L) I' J Q) ∧ (∀ b, b ≠ 167 → I' b = I b) ∧ ∀ a, a < gm G → I' 167 a = prc G p a := by
  have hm32 := hG.1.2.2.2
  have hgn := hG.1.2.1
  have y2 : am_ix (cS L) 162 20 2 := mx 2 (by omega)
  intro n
  induction n with
  | zero =>
    intro j K l5 l6 l7 hj hf h
    have : j = gm G := by omega
    subst this
    refine ⟨K, fun Q => ?_, hf, fun a ha => by rw [h a ha, if_pos ha]⟩
    rw [r178_35]
    simp only [r178_37, r178_38, r178_41, r178_42, r178_43, s_1, s_2, s_3, s_8, s_16, s_18, s_23, s_24, s_33, s_38, s_41, s_161, f_1_0, f_1_1, f_1_4, f_1_5, f_1_8, f_1_9, f_1_10, f_1_11, f_1_12, f_1_13, f_2_0, f_2_1, f_3_3, f_3_4, f_3_5, f_3_6, f_8_2, f_8_3, f_8_4, f_8_5, f_16_2, f_18_3, f_18_4, f_18_5, f_18_6, f_23_0, f_23_1, f_23_2, f_23_3, f_23_4, f_24_2, f_24_3, f_24_4, f_24_5, f_33_3, f_33_4, f_33_5, f_33_6, f_38_1, f_38_2, f_41_0, f_161_0, f_161_1, f_161_3, f_161_7, f_161_12, f_161_13, f_161_14, f_161_15, f_161_16, f_161_17, f_161_18, f_161_19, f_161_21, f_161_22, f_161_25, true_and, and_true, true_or, or_true, if_true, if_false, ne_eq, not_false_eq_true, and_self, t10, am_psh, am_clr, not_true_eq_false, Nat.reduceEqDiff, y2, show (2 : Int32).toNatClampNeg = 2 from by decide, hf 162 (by omega), hm.1.2.2]
    rw [if_pos (Int32.le_refl _)]
  | succ n ih =>
    intro j K l5 l6 l7 hj hf h
    have hjm : j < gm G := by omega
    have b1 := (hG.2.1 j hjm).1
    obtain ⟨I', k1, k2, k3⟩ := ih (j + 1) (am_up K 167 j (prc G p j)) l5 l6 l7 (by omega) (fun b hb => by rw [am_up_ne hb]; exact hf b hb) (fun a ha => by
      by_cases e : a = j
      · subst e; rw [up_self, if_pos (by omega)]
      · rw [up_ne _ _ (Or.inr e), h a ha]
        by_cases e2 : a < j
        · rw [if_pos e2, if_pos (by omega)]
        · rw [if_neg e2, if_neg (by omega)])
    refine ⟨I', fun Q => ?_, k2, k3⟩
    have e6 : K 167 j = coG G j := by rw [h j hjm, if_neg (by omega)]
    have e4 : K 162 (3 + j) = nI (gt G j) := by rw [hf 162 (by omega)]; exact (hm.2.1 j hjm).1
    have e39 : K 176 (gt G j) = nI (p (gt G j)) := by rw [hf 176 (by omega)]; exact hp _ (by omega)
    rw [r178_35]
    simp only [r178_37, r178_38, r178_41, r178_42, r178_43, r178_46, r178_47, r178_50, r178_52, r178_53, r178_54, r178_55, r178_58, r178_59, r178_62, r178_63, r178_65, r178_66, r178_67, r178_68, r178_69, r178_70, r178_73, s_1, s_2, s_3, s_8, s_16, s_18, s_23, s_24, s_33, s_38, s_41, s_161, f_1_0, f_1_1, f_1_4, f_1_5, f_1_8, f_1_9, f_1_10, f_1_11, f_1_12, f_1_13, f_2_0, f_2_1, f_3_3, f_3_4, f_3_5, f_3_6, f_8_2, f_8_3, f_8_4, f_8_5, f_16_2, f_18_3, f_18_4, f_18_5, f_18_6, f_23_0, f_23_1, f_23_2, f_23_3, f_23_4, f_24_2, f_24_3, f_24_4, f_24_5, f_33_3, f_33_4, f_33_5, f_33_6, f_38_1, f_38_2, f_41_0, f_161_0, f_161_1, f_161_3, f_161_7, f_161_12, f_161_13, f_161_14, f_161_15, f_161_16, f_161_17, f_161_18, f_161_19, f_161_21, f_161_22, f_161_25, true_and, and_true, true_or, or_true, if_true, if_false, ne_eq, not_false_eq_true, and_self, t10, am_psh, am_clr, not_true_eq_false, Nat.reduceEqDiff, y2, show (2 : Int32).toNatClampNeg = 2 from by decide, show K 162 2 = nI (gm G) by rw [hf 162 (by omega)]; exact hm.1.2.2, show (3 : Int32) + nI j = nI (3 + j) from nI_add 3 j, mx (L := L) (3 + j) (by omega), n_cl (show 3 + j < 2 ^ 31 by omega), ix167 (L := L) j (by omega), iw167 (L := L) j (by omega), n_cl (show j < 2 ^ 31 by omega), e6, e4, ix176 (L := L) (gt G j) (by omega), n_cl (show gt G j < 2 ^ 31 by omega), e39, nI_1]
    rw [if_neg (nI_ge hjm (by omega))]
    exact k1 Q
theorem mb_bound {x1 x2 x3 : Int32} (hG : okG G) (hm : mG (I 162) G) (hp : ∀ v, v < 8 → I 176 v = nI (p v)) (c : Int32) (l6 l7 : Option Value) : ∀ (n j : Nat), j + n = gn G → ∀ Q, am_T d 178 94 [some (.ref 161), some (.int x1), some (.int x2), some (.int x3), some (.int (bnF c p (gl G) j)), some (.int (nI j)), l6, l7] [] (cS L) I J Q = am_T d 178 134 [some (.ref 161), some (.int x1), some (.int x2), some (.int x3), some (.int (bnF c p (gl G) (gn G))), some (.int (nI (gn G))), l6, l7] [] (cS L) I J Q := by
  have hgn := hG.1.2.1
  have y0 : am_ix (cS L) 162 20 0 := mx 0 (by omega)
  intro n
  induction n with
  | zero =>
    intro j hj Q
    have : j = gn G := by omega
    subst this
    rw [r178_94]
    simp only [r178_96, r178_97, r178_100, r178_101, r178_102, s_1, s_2, s_3, s_8, s_16, s_18, s_23, s_24, s_33, s_38, s_41, s_161, f_1_0, f_1_1, f_1_4, f_1_5, f_1_8, f_1_9, f_1_10, f_1_11, f_1_12, f_1_13, f_2_0, f_2_1, f_3_3, f_3_4, f_3_5, f_3_6, f_8_2, f_8_3, f_8_4, f_8_5, f_16_2, f_18_3, f_18_4, f_18_5, f_18_6, f_23_0, f_23_1, f_23_2, f_23_3, f_23_4, f_24_2, f_24_3, f_24_4, f_24_5, f_33_3, f_33_4, f_33_5, f_33_6, f_38_1, f_38_2, f_41_0, f_161_0, f_161_1, f_161_3, f_161_7, f_161_12, f_161_13, f_161_14, f_161_15, f_161_16, f_161_17, f_161_18, f_161_19, f_161_21, f_161_22, f_161_25, true_and, and_true, true_or, or_true, if_true, if_false, ne_eq, not_false_eq_true, and_self, t10, am_psh, am_clr, not_true_eq_false, Nat.reduceEqDiff, y0, show (0 : Int32).toNatClampNeg = 0 from by decide, hm.1.1]
    rw [if_pos (Int32.le_refl _)]
  | succ n ih =>
    intro j hj Q
    have e7 : I 162 (99 + j) = nI (gl G j) := hm.2.2 j (by omega)
    rw [r178_94]
    simp only [r178_96, r178_97, r178_100, r178_101, r178_102, r178_105, r178_107, r178_108, r178_111, r178_113, r178_114, r178_115, r178_118, r178_120, r178_122, r178_123, r178_124, r178_125, r178_126, r178_128, r178_131, s_1, s_2, s_3, s_8, s_16, s_18, s_23, s_24, s_33, s_38, s_41, s_161, f_1_0, f_1_1, f_1_4, f_1_5, f_1_8, f_1_9, f_1_10, f_1_11, f_1_12, f_1_13, f_2_0, f_2_1, f_3_3, f_3_4, f_3_5, f_3_6, f_8_2, f_8_3, f_8_4, f_8_5, f_16_2, f_18_3, f_18_4, f_18_5, f_18_6, f_23_0, f_23_1, f_23_2, f_23_3, f_23_4, f_24_2, f_24_3, f_24_4, f_24_5, f_33_3, f_33_4, f_33_5, f_33_6, f_38_1, f_38_2, f_41_0, f_161_0, f_161_1, f_161_3, f_161_7, f_161_12, f_161_13, f_161_14, f_161_15, f_161_16, f_161_17, f_161_18, f_161_19, f_161_21, f_161_22, f_161_25, true_and, and_true, true_or, or_true, if_true, if_false, ne_eq, not_false_eq_true, and_self, t10, am_psh, am_clr, not_true_eq_false, Nat.reduceEqDiff, y0, show (0 : Int32).toNatClampNeg = 0 from by decide, hm.1.1, show (99 : Int32) + nI j = nI (99 + j) from nI_add 99 j, mx (L := L) (99 + j) (by omega), n_cl (show 99 + j < 2 ^ 31 by omega), ix176 (L := L) j (by omega), n_cl (show j < 2 ^ 31 by omega), hp j (by omega), e7, nI_1]
    rw [if_neg (nI_ge (show j < gn G by omega) (by omega))]
    exact ih (j + 1) (by omega) Q
theorem mb_deg {x1 x2 x3 x4 : Int32} {u : Nat} (hG : okG G) (hm : mG (I 162) G) (hu : u < gn G) (ht : isT G t) (he : ∀ v, v < gn G → v ≠ gr G → I 173 v = nI (t v)) : ∀ (n j : Nat), j + n = gn G → ∀ Q, am_T d 178 180 [some (.ref 161), some (.int x1), some (.int x2), some (.int x3), some (.int x4), some (.int (nI u)), some (.int (nI (sumN (fun v => if v ≠ gr G ∧ gt G (t v) = u then 1 else 0) j))), some (.int (nI j))] [] (cS L) I J Q = am_T d 178 237 [some (.ref 161), some (.int x1), some (.int x2), some (.int x3), some (.int x4), some (.int (nI u)), some (.int (nI (degA G t u))), some (.int (nI (gn G)))] [] (cS L) I J Q := by
  have hgn := hG.1.2.1
  have hr := hG.1.2.2.1
  have hm32 := hG.1.2.2.2
  have y0 : am_ix (cS L) 162 20 0 := mx 0 (by omega)
  have y1 : am_ix (cS L) 162 20 1 := mx 1 (by omega)
  intro n
  induction n with
  | zero =>
    intro j hj Q
    have : j = gn G := by omega
    subst this
    rw [r178_180]
    simp only [r178_182, r178_183, r178_186, r178_187, r178_188, s_1, s_2, s_3, s_8, s_16, s_18, s_23, s_24, s_33, s_38, s_41, s_161, f_1_0, f_1_1, f_1_4, f_1_5, f_1_8, f_1_9, f_1_10, f_1_11, f_1_12, f_1_13, f_2_0, f_2_1, f_3_3, f_3_4, f_3_5, f_3_6, f_8_2, f_8_3, f_8_4, f_8_5, f_16_2, f_18_3, f_18_4, f_18_5, f_18_6, f_23_0, f_23_1, f_23_2, f_23_3, f_23_4, f_24_2, f_24_3, f_24_4, f_24_5, f_33_3, f_33_4, f_33_5, f_33_6, f_38_1, f_38_2, f_41_0, f_161_0, f_161_1, f_161_3, f_161_7, f_161_12, f_161_13, f_161_14, f_161_15, f_161_16, f_161_17, f_161_18, f_161_19, f_161_21, f_161_22, f_161_25, true_and, and_true, true_or, or_true, if_true, if_false, ne_eq, not_false_eq_true, and_self, t10, am_psh, am_clr, not_true_eq_false, Nat.reduceEqDiff, y0, show (0 : Int32).toNatClampNeg = 0 from by decide, hm.1.1]
    rw [if_pos (Int32.le_refl _)]
    rfl
  | succ n ih =>
    intro j hj Q
    rw [r178_180]
    have ih := ih (j + 1) (by omega) Q
    have es : sumN (fun v => if v ≠ gr G ∧ gt G (t v) = u then 1 else 0) (j + 1) = sumN (fun v => if v ≠ gr G ∧ gt G (t v) = u then 1 else 0) j + (if j ≠ gr G ∧ gt G (t j) = u then 1 else 0) := rfl
    rw [es] at ih
    by_cases e : j = gr G
    · simp only [r178_182, r178_183, r178_186, r178_187, r178_188, r178_191, r178_193, r178_195, r178_196, r178_199, r178_200, r178_201, r178_204, r178_205, r178_208, r178_209, r178_210, r178_213, r178_215, r178_216, r178_217, r178_218, r178_220, r178_223, r178_224, r178_227, r178_228, r178_229, r178_231, r178_234, s_1, s_2, s_3, s_8, s_16, s_18, s_23, s_24, s_33, s_38, s_41, s_161, f_1_0, f_1_1, f_1_4, f_1_5, f_1_8, f_1_9, f_1_10, f_1_11, f_1_12, f_1_13, f_2_0, f_2_1, f_3_3, f_3_4, f_3_5, f_3_6, f_8_2, f_8_3, f_8_4, f_8_5, f_16_2, f_18_3, f_18_4, f_18_5, f_18_6, f_23_0, f_23_1, f_23_2, f_23_3, f_23_4, f_24_2, f_24_3, f_24_4, f_24_5, f_33_3, f_33_4, f_33_5, f_33_6, f_38_1, f_38_2, f_41_0, f_161_0, f_161_1, f_161_3, f_161_7, f_161_12, f_161_13, f_161_14, f_161_15, f_161_16, f_161_17, f_161_18, f_161_19, f_161_21, f_161_22, f_161_25, true_and, and_true, true_or, or_true, if_true, if_false, ne_eq, not_false_eq_true, and_self, t10, am_psh, am_clr, not_true_eq_false, Nat.reduceEqDiff, y0, y1, show (0 : Int32).toNatClampNeg = 0 from by decide, show (1 : Int32).toNatClampNeg = 1 from by decide, hm.1.1, hm.1.2.1, nI_1, Int32.add_zero]
      rw [if_neg (nI_ge (show j < gn G by omega) (by omega)), if_pos (show nI j = nI (gr G) by rw [e])]
      rw [if_neg (fun q => q.1 e), Nat.add_zero] at ih
      exact ih
    · have ha := ht j (by omega) e
      have hta := (hG.2.1 (t j) ha).1
      have e3 : I 162 (3 + t j) = nI (gt G (t j)) := (hm.2.1 _ ha).1
      simp only [r178_182, r178_183, r178_186, r178_187, r178_188, r178_191, r178_193, r178_195, r178_196, r178_199, r178_200, r178_201, r178_204, r178_205, r178_208, r178_209, r178_210, r178_213, r178_215, r178_216, r178_217, r178_218, r178_220, r178_223, r178_224, r178_227, r178_228, r178_229, r178_231, r178_234, s_1, s_2, s_3, s_8, s_16, s_18, s_23, s_24, s_33, s_38, s_41, s_161, f_1_0, f_1_1, f_1_4, f_1_5, f_1_8, f_1_9, f_1_10, f_1_11, f_1_12, f_1_13, f_2_0, f_2_1, f_3_3, f_3_4, f_3_5, f_3_6, f_8_2, f_8_3, f_8_4, f_8_5, f_16_2, f_18_3, f_18_4, f_18_5, f_18_6, f_23_0, f_23_1, f_23_2, f_23_3, f_23_4, f_24_2, f_24_3, f_24_4, f_24_5, f_33_3, f_33_4, f_33_5, f_33_6, f_38_1, f_38_2, f_41_0, f_161_0, f_161_1, f_161_3, f_161_7, f_161_12, f_161_13, f_161_14, f_161_15, f_161_16, f_161_17, f_161_18, f_161_19, f_161_21, f_161_22, f_161_25, true_and, and_true, true_or, or_true, if_true, if_false, ne_eq, not_false_eq_true, and_self, t10, am_psh, am_clr, not_true_eq_false, Nat.reduceEqDiff, y0, y1, show (0 : Int32).toNatClampNeg = 0 from by decide, show (1 : Int32).toNatClampNeg = 1 from by decide, hm.1.1, hm.1.2.1, ix173 (L := L) j (by omega), n_cl (show j < 2 ^ 31 by omega), he j (by omega) e, show (3 : Int32) + nI (t j) = nI (3 + t j) from nI_add 3 _, mx (L := L) (3 + t j) (by omega), n_cl (show 3 + t j < 2 ^ 31 by omega), e3, nI_1, Int32.add_zero]
      rw [if_neg (nI_ge (show j < gn G by omega) (by omega)), if_neg (show ¬ nI j = nI (gr G) from fun q => e ((nI_eq (by omega) (by omega)).mp q))]
      by_cases e2 : gt G (t j) = u
      · rw [if_pos ⟨e, e2⟩] at ih
        rw [if_pos (show nI (gt G (t j)) = nI u by rw [e2])]
        exact ih
      · rw [if_neg (fun q => e2 q.2), Nat.add_zero] at ih
        rw [if_neg (show ¬ nI (gt G (t j)) = nI u from fun q => e2 ((nI_eq (by omega) (by omega)).mp q))]
        exact ih
theorem mb_ch {x1 x3 x4 : Int32} (hG : okG G) (hm : mG (I 162) G) (ht : isT G t) (he : ∀ v, v < gn G → v ≠ gr G → I 173 v = nI (t v)) (hp : ∀ v, v < 8 → I 176 v = nI (p v)) (hb : ∀ v, p v < 10000) (hs : st ≤ 20) : ∀ (n j : Nat) (K : am_I) (l6 l7 : Option Value), j + n = gn G → (∀ b, b ≠ 176 → K b = I b) → (∀ v, v < 8 → K 176 v = if v < j then nI (chP G t st p v) else I 176 v) → ∃ I' m6 m7, (∀ Q, am_T d 178 163 [some (.ref 161), some (.int x1), some (.int (nI st)), some (.int x3), some (.int x4), some (.int (nI j)), l6, l7] [] (cS L) K J Q = am_T d 178 324 [some (.ref 161), some (.int x1), some (.int (nI st)), some (.int x3), some (.int x4), some (.int (nI (gn G))), m6, m7] [] (cS L) I' J Q) ∧ (∀ b, b ≠ 176 → I' b = I b) ∧ ∀ v, v < 8 → I' 176 v = nI (chP G t st p v) := by
  have hgn := hG.1.2.1
  have y0 : am_ix (cS L) 162 20 0 := mx 0 (by omega)
  intro n
  induction n with
  | zero =>
    intro j K l6 l7 hj hf h
    have : j = gn G := by omega
    subst this
    refine ⟨K, l6, l7, fun Q => ?_, hf, fun v hv => ?_⟩
    · rw [r178_163]
      simp only [r178_165, r178_166, r178_169, r178_170, r178_171, s_1, s_2, s_3, s_8, s_16, s_18, s_23, s_24, s_33, s_38, s_41, s_161, f_1_0, f_1_1, f_1_4, f_1_5, f_1_8, f_1_9, f_1_10, f_1_11, f_1_12, f_1_13, f_2_0, f_2_1, f_3_3, f_3_4, f_3_5, f_3_6, f_8_2, f_8_3, f_8_4, f_8_5, f_16_2, f_18_3, f_18_4, f_18_5, f_18_6, f_23_0, f_23_1, f_23_2, f_23_3, f_23_4, f_24_2, f_24_3, f_24_4, f_24_5, f_33_3, f_33_4, f_33_5, f_33_6, f_38_1, f_38_2, f_41_0, f_161_0, f_161_1, f_161_3, f_161_7, f_161_12, f_161_13, f_161_14, f_161_15, f_161_16, f_161_17, f_161_18, f_161_19, f_161_21, f_161_22, f_161_25, true_and, and_true, true_or, or_true, if_true, if_false, ne_eq, not_false_eq_true, and_self, t10, am_psh, am_clr, not_true_eq_false, Nat.reduceEqDiff, y0, show (0 : Int32).toNatClampNeg = 0 from by decide, hf 162 (by omega), hm.1.1]
      rw [if_pos (Int32.le_refl _)]
    · rw [h v hv]
      by_cases e : v < gn G
      · rw [if_pos e]
      · rw [if_neg e, hp v hv]; unfold chP; rw [if_neg e]
  | succ n ih =>
    intro j K l6 l7 hj hf h
    have hjn : j < gn G := by omega
    have hK39 : K 176 j = nI (p j) := by rw [h j (by omega), if_neg (by omega), hp j (by omega)]
    have hK7 : K 162 (99 + j) = nI (gl G j) := by rw [hf 162 (by omega)]; exact hm.2.2 j (by omega)
    have hgl := hG.2.2 j (by omega)
    have hd := degA_le (G := G) (t := t) j
    have hbj := hb j
    have hmK : mG (K 162) G := by rw [hf 162 (by omega)]; exact hm
    have run : ∀ Q, am_T d 178 163 [some (.ref 161), some (.int x1), some (.int (nI st)), some (.int x3), some (.int x4), some (.int (nI j)), l6, l7] [] (cS L) K J Q = am_T d 178 237 [some (.ref 161), some (.int x1), some (.int (nI st)), some (.int x3), some (.int x4), some (.int (nI j)), some (.int (nI (degA G t j))), some (.int (nI (gn G)))] [] (cS L) K J Q := fun Q => by
      rw [r178_163]
      simp only [r178_165, r178_166, r178_169, r178_170, r178_171, r178_174, r178_175, r178_177, r178_178, s_1, s_2, s_3, s_8, s_16, s_18, s_23, s_24, s_33, s_38, s_41, s_161, f_1_0, f_1_1, f_1_4, f_1_5, f_1_8, f_1_9, f_1_10, f_1_11, f_1_12, f_1_13, f_2_0, f_2_1, f_3_3, f_3_4, f_3_5, f_3_6, f_8_2, f_8_3, f_8_4, f_8_5, f_16_2, f_18_3, f_18_4, f_18_5, f_18_6, f_23_0, f_23_1, f_23_2, f_23_3, f_23_4, f_24_2, f_24_3, f_24_4, f_24_5, f_33_3, f_33_4, f_33_5, f_33_6, f_38_1, f_38_2, f_41_0, f_161_0, f_161_1, f_161_3, f_161_7, f_161_12, f_161_13, f_161_14, f_161_15, f_161_16, f_161_17, f_161_18, f_161_19, f_161_21, f_161_22, f_161_25, true_and, and_true, true_or, or_true, if_true, if_false, ne_eq, not_false_eq_true, and_self, t10, am_psh, am_clr, not_true_eq_false, Nat.reduceEqDiff, y0, show (0 : Int32).toNatClampNeg = 0 from by decide, hmK.1.1]
      rw [if_neg (nI_ge hjn (by omega))]
      exact mb_deg hG hmK hjn ht (fun v hv hr => by rw [hf 173 (by omega)]; exact he v hv hr) (gn G) 0 (by omega) Q
    have fin : ∀ (x : Int32), (if 0 ≤ x then x else 0) = nI (chP G t st p j) → ∃ I' m6 m7, (∀ Q, am_T d 178 298 [some (.ref 161), some (.int x1), some (.int (nI st)), some (.int x3), some (.int x4), some (.int (nI j)), some (.int (nI (degA G t j))), some (.int (nI (gn G)))] [.int x] (cS L) K J Q = am_T d 178 324 [some (.ref 161), some (.int x1), some (.int (nI st)), some (.int x3), some (.int x4), some (.int (nI (gn G))), m6, m7] [] (cS L) I' J Q) ∧ (∀ b, b ≠ 176 → I' b = I b) ∧ ∀ v, v < 8 → I' 176 v = nI (chP G t st p v) := fun x hxx => by
      obtain ⟨I', m6, m7, k1, k2, k3⟩ := ih (j + 1) (am_up K 176 j (nI (chP G t st p j))) (some (.int (nI (degA G t j)))) (some (.int x)) (by omega) (fun b hb => by rw [am_up_ne hb]; exact hf b hb) (fun v hv => by
        by_cases e : v = j
        · subst e; rw [up_self, if_pos (by omega)]
        · rw [up_ne _ _ (Or.inr e), h v hv]
          by_cases e2 : v < j
          · rw [if_pos e2, if_pos (by omega)]
          · rw [if_neg e2, if_neg (by omega)])
      refine ⟨I', m6, m7, fun Q => ?_, k2, k3⟩
      rw [← k1 Q, ← hxx]
      simp only [r178_298, r178_300, r178_301, r178_304, r178_306, r178_308, r178_311, r178_312, r178_315, r178_317, r178_318, r178_321, s_1, s_2, s_3, s_8, s_16, s_18, s_23, s_24, s_33, s_38, s_41, s_161, f_1_0, f_1_1, f_1_4, f_1_5, f_1_8, f_1_9, f_1_10, f_1_11, f_1_12, f_1_13, f_2_0, f_2_1, f_3_3, f_3_4, f_3_5, f_3_6, f_8_2, f_8_3, f_8_4, f_8_5, f_16_2, f_18_3, f_18_4, f_18_5, f_18_6, f_23_0, f_23_1, f_23_2, f_23_3, f_23_4, f_24_2, f_24_3, f_24_4, f_24_5, f_33_3, f_33_4, f_33_5, f_33_6, f_38_1, f_38_2, f_41_0, f_161_0, f_161_1, f_161_3, f_161_7, f_161_12, f_161_13, f_161_14, f_161_15, f_161_16, f_161_17, f_161_18, f_161_19, f_161_21, f_161_22, f_161_25, true_and, and_true, true_or, or_true, if_true, if_false, ne_eq, not_false_eq_true, and_self, t10, am_psh, am_clr, not_true_eq_false, Nat.reduceEqDiff, iw176 (L := L) j (by omega), n_cl (show j < 2 ^ 31 by omega), nI_1]
      by_cases e : 0 ≤ x
      · rw [if_pos e, if_pos e]
      · rw [if_neg e, if_neg e]
    by_cases e1 : gl G j < degA G t j
    · obtain ⟨I', m6, m7, k1, k2, k3⟩ := fin (nI (p j) + nI st) (by
        rw [nI_add, if_pos (nI_pos' (by omega))]; unfold chP; rw [if_pos hjn, if_pos e1])
      refine ⟨I', m6, m7, fun Q => ?_, k2, k3⟩
      rw [run]
      simp only [r178_237, r178_239, r178_240, r178_243, r178_245, r178_247, r178_248, r178_249, r178_252, r178_253, r178_256, r178_258, r178_259, r178_260, r178_261, s_1, s_2, s_3, s_8, s_16, s_18, s_23, s_24, s_33, s_38, s_41, s_161, f_1_0, f_1_1, f_1_4, f_1_5, f_1_8, f_1_9, f_1_10, f_1_11, f_1_12, f_1_13, f_2_0, f_2_1, f_3_3, f_3_4, f_3_5, f_3_6, f_8_2, f_8_3, f_8_4, f_8_5, f_16_2, f_18_3, f_18_4, f_18_5, f_18_6, f_23_0, f_23_1, f_23_2, f_23_3, f_23_4, f_24_2, f_24_3, f_24_4, f_24_5, f_33_3, f_33_4, f_33_5, f_33_6, f_38_1, f_38_2, f_41_0, f_161_0, f_161_1, f_161_3, f_161_7, f_161_12, f_161_13, f_161_14, f_161_15, f_161_16, f_161_17, f_161_18, f_161_19, f_161_21, f_161_22, f_161_25, true_and, and_true, true_or, or_true, if_true, if_false, ne_eq, not_false_eq_true, and_self, t10, am_psh, am_clr, not_true_eq_false, Nat.reduceEqDiff, show (99 : Int32) + nI j = nI (99 + j) from nI_add 99 j, mx (L := L) (99 + j) (by omega), n_cl (show 99 + j < 2 ^ 31 by omega), ix176 (L := L) j (by omega), n_cl (show j < 2 ^ 31 by omega), hK7, hK39]
      rw [if_neg (nI_ge e1 (by omega))]
      exact k1 Q
    · by_cases e2 : degA G t j < gl G j
      · obtain ⟨I', m6, m7, k1, k2, k3⟩ := fin (nI (p j) - nI st) (by
          have e := sub_ti (show p j < 2 ^ 30 by omega) (show st < 2 ^ 30 by omega)
          unfold chP
          rw [if_pos hjn, if_neg e1, if_pos e2]
          by_cases g : st ≤ p j
          · rw [if_pos (by rw [Int32.le_iff_toInt_le, e]; show (0 : Int) ≤ _; omega)]; exact pk_sub g
          · rw [if_neg (by rw [Int32.le_iff_toInt_le, e]; show ¬ (0 : Int) ≤ _; omega), show p j - st = 0 by omega]; rfl)
        refine ⟨I', m6, m7, fun Q => ?_, k2, k3⟩
        rw [run]
        simp only [r178_237, r178_239, r178_240, r178_243, r178_245, r178_247, r178_248, r178_249, r178_264, r178_266, r178_267, r178_270, r178_272, r178_274, r178_275, r178_276, r178_279, r178_280, r178_283, r178_285, r178_286, r178_287, r178_288, s_1, s_2, s_3, s_8, s_16, s_18, s_23, s_24, s_33, s_38, s_41, s_161, f_1_0, f_1_1, f_1_4, f_1_5, f_1_8, f_1_9, f_1_10, f_1_11, f_1_12, f_1_13, f_2_0, f_2_1, f_3_3, f_3_4, f_3_5, f_3_6, f_8_2, f_8_3, f_8_4, f_8_5, f_16_2, f_18_3, f_18_4, f_18_5, f_18_6, f_23_0, f_23_1, f_23_2, f_23_3, f_23_4, f_24_2, f_24_3, f_24_4, f_24_5, f_33_3, f_33_4, f_33_5, f_33_6, f_38_1, f_38_2, f_41_0, f_161_0, f_161_1, f_161_3, f_161_7, f_161_12, f_161_13, f_161_14, f_161_15, f_161_16, f_161_17, f_161_18, f_161_19, f_161_21, f_161_22, f_161_25, true_and, and_true, true_or, or_true, if_true, if_false, ne_eq, not_false_eq_true, and_self, t10, am_psh, am_clr, not_true_eq_false, Nat.reduceEqDiff, show (99 : Int32) + nI j = nI (99 + j) from nI_add 99 j, mx (L := L) (99 + j) (by omega), n_cl (show 99 + j < 2 ^ 31 by omega), ix176 (L := L) j (by omega), n_cl (show j < 2 ^ 31 by omega), hK7, hK39]
        rw [if_pos (nI_le (by omega) (by omega)), if_neg (nI_ge e2 (by omega))]
        exact k1 Q
      · obtain ⟨I', m6, m7, k1, k2, k3⟩ := fin (nI (p j)) (by
          rw [if_pos (nI_pos' (by omega))]; unfold chP; rw [if_pos hjn, if_neg e1, if_neg e2])
        refine ⟨I', m6, m7, fun Q => ?_, k2, k3⟩
        rw [run]
        simp only [r178_237, r178_239, r178_240, r178_243, r178_245, r178_247, r178_248, r178_249, r178_264, r178_266, r178_267, r178_270, r178_272, r178_274, r178_275, r178_276, r178_291, r178_292, r178_295, r178_297, s_1, s_2, s_3, s_8, s_16, s_18, s_23, s_24, s_33, s_38, s_41, s_161, f_1_0, f_1_1, f_1_4, f_1_5, f_1_8, f_1_9, f_1_10, f_1_11, f_1_12, f_1_13, f_2_0, f_2_1, f_3_3, f_3_4, f_3_5, f_3_6, f_8_2, f_8_3, f_8_4, f_8_5, f_16_2, f_18_3, f_18_4, f_18_5, f_18_6, f_23_0, f_23_1, f_23_2, f_23_3, f_23_4, f_24_2, f_24_3, f_24_4, f_24_5, f_33_3, f_33_4, f_33_5, f_33_6, f_38_1, f_38_2, f_41_0, f_161_0, f_161_1, f_161_3, f_161_7, f_161_12, f_161_13, f_161_14, f_161_15, f_161_16, f_161_17, f_161_18, f_161_19, f_161_21, f_161_22, f_161_25, true_and, and_true, true_or, or_true, if_true, if_false, ne_eq, not_false_eq_true, and_self, t10, am_psh, am_clr, not_true_eq_false, Nat.reduceEqDiff, show (99 : Int32) + nI j = nI (99 + j) from nI_add 99 j, mx (L := L) (99 + j) (by omega), n_cl (show 99 + j < 2 ^ 31 by omega), ix176 (L := L) j (by omega), n_cl (show j < 2 ^ 31 by omega), hK7, hK39]
        rw [if_pos (nI_le (by omega) (by omega)), if_pos (nI_le (by omega) (by omega))]
        exact k1 Q
theorem alT_1 {a : Nat} (ha : a < 32) : b32 (alT a = true) = 1 := b32_T (b_m1 a ha)
theorem mb_loop {m : Nat} (hG : okG G) (hs : st ≤ 20) (hm20 : m ≤ 20) (hm : mG (I 162) G) : ∀ (n j : Nat) (K : am_I) (p : Nat → Nat) (l4 l5 l6 l7 : Option Value), j + n = m → (∀ b, b ≠ 161 → ¬ (167 ≤ b ∧ b ≤ 173) → b ≠ 176 → K b = I b) → (∀ q, q ≠ 20 → q ≠ 26 → K 161 q = I 161 q) → (∀ v, v < 8 → K 176 v = nI (p v)) → (∀ v, p v ≤ 20 * j) → ∃ I', (∀ Q, am_T (d + 4) 178 23 [some (.ref 161), some (.int (nI m)), some (.int (nI st)), some (.int (nI j)), l4, l5, l6, l7] [] (cS L) K J Q = Q (some (.int (oB (prF G st n j (K 161 26) p)))) (cS L) I' J) ∧ (∀ b, b ≠ 161 → ¬ (167 ≤ b ∧ b ≤ 173) → b ≠ 176 → I' b = I b) ∧ (∀ q, q ≠ 20 → q ≠ 26 → I' 161 q = I 161 q) ∧ ∀ q, prF G st n j (K 161 26) p = some q → I' 161 26 = q.1 ∧ ∀ v, v < 8 → I' 176 v = nI (q.2 v) := by
  have hgn := hG.1.2.1
  have hm32 := hG.1.2.2.2
  intro n
  induction n with
  | zero =>
    intro j K p l4 l5 l6 l7 hj hf hf1 hp hb
    have : j = m := by omega
    subst this
    refine ⟨K, fun Q => ?_, hf, hf1, fun q hq => by cases hq; exact ⟨rfl, hp⟩⟩
    rw [r178_23]
    simp only [r178_24, r178_25, r178_330, r178_331, s_1, s_2, s_3, s_8, s_16, s_18, s_23, s_24, s_33, s_38, s_41, s_161, f_1_0, f_1_1, f_1_4, f_1_5, f_1_8, f_1_9, f_1_10, f_1_11, f_1_12, f_1_13, f_2_0, f_2_1, f_3_3, f_3_4, f_3_5, f_3_6, f_8_2, f_8_3, f_8_4, f_8_5, f_16_2, f_18_3, f_18_4, f_18_5, f_18_6, f_23_0, f_23_1, f_23_2, f_23_3, f_23_4, f_24_2, f_24_3, f_24_4, f_24_5, f_33_3, f_33_4, f_33_5, f_33_6, f_38_1, f_38_2, f_41_0, f_161_0, f_161_1, f_161_3, f_161_7, f_161_12, f_161_13, f_161_14, f_161_15, f_161_16, f_161_17, f_161_18, f_161_19, f_161_21, f_161_22, f_161_25, true_and, and_true, true_or, or_true, if_true, if_false, ne_eq, not_false_eq_true, and_self, t10, am_psh, am_clr, not_true_eq_false, Nat.reduceEqDiff, t11]
    rw [if_pos (Int32.le_refl _)]
    rfl
  | succ n ih =>
    intro j K p l4 l5 l6 l7 hj hf hf1 hp hb
    have hmK : mG (K 162) G := by rw [hf 162 (by omega) (by omega) (by omega)]; exact hm
    obtain ⟨K0, u1, u2, u3⟩ := c_useAll (d := d + 3) (L := L) (J := J) (I := K) hG hmK
    have hm0 : mG (K0 162) G := by rw [u2 162 (by omega) (by omega)]; exact hmK
    have hp0 : ∀ v, v < 8 → K0 176 v = nI (p v) := fun v hv => by rw [u2 176 (by omega) (by omega)]; exact hp v hv
    obtain ⟨K1, s1, s2, s3⟩ := mb_price (d := d + 4) (L := L) (J := J) (I := K0) (p := p) (x1 := nI m) (x2 := nI st) (x3 := nI j) hG hm0 hp0 (gm G) 0 K0 l5 l6 l7 (by omega) (fun _ _ => rfl) (fun a ha => by rw [if_neg (Nat.not_lt_zero a)]; exact (u3 a ha).1)
    have hm1 : mG (K1 162) G := by rw [s2 162 (by omega)]; exact hm0
    obtain ⟨K2, k1, k2, k3, k4⟩ := c_contracts (d := d) (L := L) (J := J) (I := K1) (pr := prc G p) (al := alT) hG hm1 (fun a ha => ⟨s3 a ha, by rw [s2 168 (by omega), (u3 a ha).2]; exact (alT_1 (by omega)).symm⟩)
    have f2 : ∀ b, b ≠ 161 → ¬ (167 ≤ b ∧ b ≤ 173) → K2 b = K b := fun b b1 b2 => by rw [k2 b b1 (by omega), s2 b (by omega), u2 b (by omega) (by omega)]
    have f3 : ∀ q, q ≠ 20 → K2 161 q = K 161 q := fun q hq => by rw [k3 q hq, s2 161 (by omega), u2 161 (by omega) (by omega)]
    have run1 : ∀ Q, am_T (d + 4) 178 23 [some (.ref 161), some (.int (nI m)), some (.int (nI st)), some (.int (nI j)), l4, l5, l6, l7] [] (cS L) K J Q = am_T (d + 4) 178 80 [some (.ref 161), some (.int (nI m)), some (.int (nI st)), some (.int (nI j)), some (.int (nI (gm G))), l5, l6, l7] [.int (oB (conF G (prc G p) alT 15 (con0 G)))] (cS L) K2 J Q := fun Q => by
      rw [r178_23]
      simp only [r178_24, r178_25, r178_28, r178_29, s_1, s_2, s_3, s_8, s_16, s_18, s_23, s_24, s_33, s_38, s_41, s_161, f_1_0, f_1_1, f_1_4, f_1_5, f_1_8, f_1_9, f_1_10, f_1_11, f_1_12, f_1_13, f_2_0, f_2_1, f_3_3, f_3_4, f_3_5, f_3_6, f_8_2, f_8_3, f_8_4, f_8_5, f_16_2, f_18_3, f_18_4, f_18_5, f_18_6, f_23_0, f_23_1, f_23_2, f_23_3, f_23_4, f_24_2, f_24_3, f_24_4, f_24_5, f_33_3, f_33_4, f_33_5, f_33_6, f_38_1, f_38_2, f_41_0, f_161_0, f_161_1, f_161_3, f_161_7, f_161_12, f_161_13, f_161_14, f_161_15, f_161_16, f_161_17, f_161_18, f_161_19, f_161_21, f_161_22, f_161_25, true_and, and_true, true_or, or_true, if_true, if_false, ne_eq, not_false_eq_true, and_self, t10, am_psh, am_clr, not_true_eq_false, Nat.reduceEqDiff]
      rw [if_neg (nI_ge (show j < m by omega) (by omega)), u1]
      simp only [r178_32, r178_33, s_1, s_2, s_3, s_8, s_16, s_18, s_23, s_24, s_33, s_38, s_41, s_161, f_1_0, f_1_1, f_1_4, f_1_5, f_1_8, f_1_9, f_1_10, f_1_11, f_1_12, f_1_13, f_2_0, f_2_1, f_3_3, f_3_4, f_3_5, f_3_6, f_8_2, f_8_3, f_8_4, f_8_5, f_16_2, f_18_3, f_18_4, f_18_5, f_18_6, f_23_0, f_23_1, f_23_2, f_23_3, f_23_4, f_24_2, f_24_3, f_24_4, f_24_5, f_33_3, f_33_4, f_33_5, f_33_6, f_38_1, f_38_2, f_41_0, f_161_0, f_161_1, f_161_3, f_161_7, f_161_12, f_161_13, f_161_14, f_161_15, f_161_16, f_161_17, f_161_18, f_161_19, f_161_21, f_161_22, f_161_25, true_and, and_true, true_or, or_true, if_true, if_false, ne_eq, not_false_eq_true, and_self, t10, am_psh, am_clr, not_true_eq_false, Nat.reduceEqDiff]
      refine Eq.trans (s1 _) ?_
      simp only [r178_76, r178_77, s_1, s_2, s_3, s_8, s_16, s_18, s_23, s_24, s_33, s_38, s_41, s_161, f_1_0, f_1_1, f_1_4, f_1_5, f_1_8, f_1_9, f_1_10, f_1_11, f_1_12, f_1_13, f_2_0, f_2_1, f_3_3, f_3_4, f_3_5, f_3_6, f_8_2, f_8_3, f_8_4, f_8_5, f_16_2, f_18_3, f_18_4, f_18_5, f_18_6, f_23_0, f_23_1, f_23_2, f_23_3, f_23_4, f_24_2, f_24_3, f_24_4, f_24_5, f_33_3, f_33_4, f_33_5, f_33_6, f_38_1, f_38_2, f_41_0, f_161_0, f_161_1, f_161_3, f_161_7, f_161_12, f_161_13, f_161_14, f_161_15, f_161_16, f_161_17, f_161_18, f_161_19, f_161_21, f_161_22, f_161_25, true_and, and_true, true_or, or_true, if_true, if_false, ne_eq, not_false_eq_true, and_self, t10, am_psh, am_clr, not_true_eq_false, Nat.reduceEqDiff]
      rw [k1]
    unfold prF
    cases hc : conF G (prc G p) alT 15 (con0 G) with
    | none =>
      refine ⟨K2, fun Q => ?_, fun b b1 b2 b3 => by rw [f2 b b1 b2]; exact hf b b1 b2 b3, fun q q1 q2 => by rw [f3 q q1]; exact hf1 q q1 q2, fun q hq => by cases hq⟩
      rw [run1, hc]
      simp only [r178_80, r178_83, r178_84, s_1, s_2, s_3, s_8, s_16, s_18, s_23, s_24, s_33, s_38, s_41, s_161, f_1_0, f_1_1, f_1_4, f_1_5, f_1_8, f_1_9, f_1_10, f_1_11, f_1_12, f_1_13, f_2_0, f_2_1, f_3_3, f_3_4, f_3_5, f_3_6, f_8_2, f_8_3, f_8_4, f_8_5, f_16_2, f_18_3, f_18_4, f_18_5, f_18_6, f_23_0, f_23_1, f_23_2, f_23_3, f_23_4, f_24_2, f_24_3, f_24_4, f_24_5, f_33_3, f_33_4, f_33_5, f_33_6, f_38_1, f_38_2, f_41_0, f_161_0, f_161_1, f_161_3, f_161_7, f_161_12, f_161_13, f_161_14, f_161_15, f_161_16, f_161_17, f_161_18, f_161_19, f_161_21, f_161_22, f_161_25, true_and, and_true, true_or, or_true, if_true, if_false, ne_eq, not_false_eq_true, and_self, t10, am_psh, am_clr, not_true_eq_false, Nat.reduceEqDiff, oB, t01]
    | some s =>
      dsimp only
      rw [hc] at k4
      obtain ⟨h1, h2⟩ := conF_ok hG 15 _ _ (cOK_0 hG) hc
      have hT : isT G (prT G s) := okR_T (recOf_ok hG h1 h2)
      have hm2 : mG (K2 162) G := by rw [f2 162 (by omega) (by omega)]; exact hmK
      have hp2 : ∀ v, v < 8 → K2 176 v = nI (p v) := fun v hv => by rw [f2 176 (by omega) (by omega)]; exact hp v hv
      have hpc : ∀ a, a < gm G → K2 167 a = prc G p a := fun a ha => by rw [k2 167 (by omega) (by omega)]; exact s3 a ha
      have htree : ∀ v, v < gn G → v ≠ gr G → K2 173 v = nI (prT G s v) := fun v hv hr => by
        have := (mres_rec (R := recOf G s) hG hc k4).2 v hv
        rw [if_neg hr] at this
        exact this
      have h26 : K2 161 26 = K 161 26 := f3 26 (by omega)
      have hb3 : ∀ (b : Int32), ∃ K3 m6 m7, (∀ Q, am_T (d + 4) 178 163 [some (.ref 161), some (.int (nI m)), some (.int (nI st)), some (.int (nI j)), some (.int (prB G p s)), some (.int (nI 0)), l6, l7] [] (cS L) (am_up K2 161 26 b) J Q = am_T (d + 4) 178 324 [some (.ref 161), some (.int (nI m)), some (.int (nI st)), some (.int (nI j)), some (.int (prB G p s)), some (.int (nI (gn G))), m6, m7] [] (cS L) K3 J Q) ∧ (∀ c, c ≠ 176 → K3 c = am_up K2 161 26 b c) ∧ ∀ v, v < 8 → K3 176 v = nI (chP G (prT G s) st p v) := fun b => by
        exact mb_ch (d := d + 4) (L := L) (J := J) (I := am_up K2 161 26 b) (t := prT G s) (p := p) (st := st) hG (by rw [am_up_ne (by omega)]; exact hm2) hT (fun v hv hr => by rw [am_up_ne (by omega)]; exact htree v hv hr) (fun v hv => by rw [am_up_ne (by omega)]; exact hp2 v hv) (fun v => by have := hb v; omega) hs (gn G) 0 (am_up K2 161 26 b) l6 l7 (by omega) (fun _ _ => rfl) (fun v hv => by rw [if_neg (Nat.not_lt_zero v)])
      obtain ⟨K3, m6, m7, z1, z2, z3⟩ := hb3 (bdU j (K 161 26) (prB G p s))
      obtain ⟨I', v1, v2, v4, v3⟩ := ih (j + 1) K3 (chP G (prT G s) st p) (some (.int (prB G p s))) (some (.int (nI (gn G)))) m6 m7 (by omega) (fun b b1 b2 b3 => by rw [z2 b (by omega), am_up_ne (by omega), f2 b b1 b2]; exact hf b b1 b2 b3) (fun q q1 q2 => by rw [z2 161 (by omega), up_ne _ _ (Or.inr q2), f3 q q1]; exact hf1 q q1 q2) z3 (fun v => chP_le hb hs v)
      have e26 : K3 161 26 = bdU j (K 161 26) (prB G p s) := by rw [z2 161 (by omega), up_self]
      rw [e26] at v1 v3
      refine ⟨I', fun Q => ?_, v2, v4, v3⟩
      rw [run1, hc]
      simp only [r178_80, r178_83, r178_84, r178_85, r178_86, s_1, s_2, s_3, s_8, s_16, s_18, s_23, s_24, s_33, s_38, s_41, s_161, f_1_0, f_1_1, f_1_4, f_1_5, f_1_8, f_1_9, f_1_10, f_1_11, f_1_12, f_1_13, f_2_0, f_2_1, f_3_3, f_3_4, f_3_5, f_3_6, f_8_2, f_8_3, f_8_4, f_8_5, f_16_2, f_18_3, f_18_4, f_18_5, f_18_6, f_23_0, f_23_1, f_23_2, f_23_3, f_23_4, f_24_2, f_24_3, f_24_4, f_24_5, f_33_3, f_33_4, f_33_5, f_33_6, f_38_1, f_38_2, f_41_0, f_161_0, f_161_1, f_161_3, f_161_7, f_161_12, f_161_13, f_161_14, f_161_15, f_161_16, f_161_17, f_161_18, f_161_19, f_161_21, f_161_22, f_161_25, true_and, and_true, true_or, or_true, if_true, if_false, ne_eq, not_false_eq_true, and_self, t10, am_psh, am_clr, not_true_eq_false, Nat.reduceEqDiff, oB]
      rw [c_sum (pr := prc G p) (t := prT G s) hG hm2 hT htree hpc]
      simp only [r178_89, r178_91, r178_92, s_1, s_2, s_3, s_8, s_16, s_18, s_23, s_24, s_33, s_38, s_41, s_161, f_1_0, f_1_1, f_1_4, f_1_5, f_1_8, f_1_9, f_1_10, f_1_11, f_1_12, f_1_13, f_2_0, f_2_1, f_3_3, f_3_4, f_3_5, f_3_6, f_8_2, f_8_3, f_8_4, f_8_5, f_16_2, f_18_3, f_18_4, f_18_5, f_18_6, f_23_0, f_23_1, f_23_2, f_23_3, f_23_4, f_24_2, f_24_3, f_24_4, f_24_5, f_33_3, f_33_4, f_33_5, f_33_6, f_38_1, f_38_2, f_41_0, f_161_0, f_161_1, f_161_3, f_161_7, f_161_12, f_161_13, f_161_14, f_161_15, f_161_16, f_161_17, f_161_18, f_161_19, f_161_21, f_161_22, f_161_25, true_and, and_true, true_or, or_true, if_true, if_false, ne_eq, not_false_eq_true, and_self, t10, am_psh, am_clr, not_true_eq_false, Nat.reduceEqDiff]
      refine Eq.trans (mb_bound (d := d + 4) (p := p) (x1 := nI m) (x2 := nI st) (x3 := nI j) hG hm2 hp2 (tcost G (prc G p) (prT G s)) l6 l7 (gn G) 0 (by omega) Q) ?_
      simp only [r178_134, r178_135, r178_136, r178_139, r178_141, r178_142, r178_145, r178_148, r178_150, r178_153, r178_154, r178_157, r178_160, r178_161, s_1, s_2, s_3, s_8, s_16, s_18, s_23, s_24, s_33, s_38, s_41, s_161, f_1_0, f_1_1, f_1_4, f_1_5, f_1_8, f_1_9, f_1_10, f_1_11, f_1_12, f_1_13, f_2_0, f_2_1, f_3_3, f_3_4, f_3_5, f_3_6, f_8_2, f_8_3, f_8_4, f_8_5, f_16_2, f_18_3, f_18_4, f_18_5, f_18_6, f_23_0, f_23_1, f_23_2, f_23_3, f_23_4, f_24_2, f_24_3, f_24_4, f_24_5, f_33_3, f_33_4, f_33_5, f_33_6, f_38_1, f_38_2, f_41_0, f_161_0, f_161_1, f_161_3, f_161_7, f_161_12, f_161_13, f_161_14, f_161_15, f_161_16, f_161_17, f_161_18, f_161_19, f_161_21, f_161_22, f_161_25, true_and, and_true, true_or, or_true, if_true, if_false, ne_eq, not_false_eq_true, and_self, t10, am_psh, am_clr, not_true_eq_false, Nat.reduceEqDiff, h26]
      have fin : ∀ Q, am_T (d + 4) 178 324 [some (.ref 161), some (.int (nI m)), some (.int (nI st)), some (.int (nI j)), some (.int (prB G p s)), some (.int (nI (gn G))), m6, m7] [] (cS L) K3 J Q = Q (some (.int (oB (prF G st n (j + 1) (bdU j (K 161 26) (prB G p s)) (chP G (prT G s) st p))))) (cS L) I' J := fun Q => by
        simp only [r178_324, r178_327, s_1, s_2, s_3, s_8, s_16, s_18, s_23, s_24, s_33, s_38, s_41, s_161, f_1_0, f_1_1, f_1_4, f_1_5, f_1_8, f_1_9, f_1_10, f_1_11, f_1_12, f_1_13, f_2_0, f_2_1, f_3_3, f_3_4, f_3_5, f_3_6, f_8_2, f_8_3, f_8_4, f_8_5, f_16_2, f_18_3, f_18_4, f_18_5, f_18_6, f_23_0, f_23_1, f_23_2, f_23_3, f_23_4, f_24_2, f_24_3, f_24_4, f_24_5, f_33_3, f_33_4, f_33_5, f_33_6, f_38_1, f_38_2, f_41_0, f_161_0, f_161_1, f_161_3, f_161_7, f_161_12, f_161_13, f_161_14, f_161_15, f_161_16, f_161_17, f_161_18, f_161_19, f_161_21, f_161_22, f_161_25, true_and, and_true, true_or, or_true, if_true, if_false, ne_eq, not_false_eq_true, and_self, t10, am_psh, am_clr, not_true_eq_false, Nat.reduceEqDiff, nI_1]
        exact v1 Q
      unfold bdU at z1
      by_cases e0 : j = 0
      · rw [if_pos (show nI j = 0 by rw [e0]; rfl)]
        rw [if_pos (Or.inl e0)] at z1
        exact (z1 Q).trans (fin Q)
      · rw [if_neg (show ¬ nI j = 0 from nI_ne0 (by omega) (by omega))]
        by_cases e1 : K 161 26 < prB G p s
        · rw [if_pos (Or.inr e1)] at z1
          refine Eq.trans (if_neg (Int32.not_le.mpr e1)) ?_
          exact (z1 Q).trans (fin Q)
        · rw [if_neg (fun q => by rcases q with q | q; exact e0 q; exact e1 q)] at z1
          refine Eq.trans (if_pos (Int32.not_lt.mp e1)) ?_
          exact (z1 Q).trans (fin Q)
/-- bids, whole -/
theorem c_bids {m : Nat} (hG : okG G) (hs : st ≤ 20) (hm20 : m ≤ 20) (hm : mG (I 162) G) : ∃ I', (∀ Q, am_C (d + 5) 178 [.ref 161, .int (nI m), .int (nI st)] (cS L) I J Q = Q (some (.int (oB (prF G st m 0 (I 161 26) (fun _ => 0))))) (cS L) I' J) ∧ (∀ b, b ≠ 161 → ¬ (167 ≤ b ∧ b ≤ 173) → b ≠ 176 → I' b = I b) ∧ (∀ q, q ≠ 20 → q ≠ 26 → I' 161 q = I 161 q) ∧ ∀ q, prF G st m 0 (I 161 26) (fun _ => 0) = some q → I' 161 26 = q.1 ∧ ∀ v, v < 8 → I' 176 v = nI (q.2 v) := by
  obtain ⟨I1, k1, k2, k3⟩ := mb_0 (d := d + 4) (L := L) (J := J) (I := I) (x1 := nI m) (x2 := nI st) 8 0 I none none none none (by omega) (fun _ _ => rfl) (fun v hv => absurd hv (Nat.not_lt_zero v))
  obtain ⟨I', q1, q2, q4, q3⟩ := mb_loop (d := d) (L := L) (J := J) (I := I) (m := m) (st := st) hG hs hm20 hm m 0 I1 (fun _ => 0) none none none none (by omega) (fun b b1 b2 b3 => k2 b b3) (fun q q1 q2 => by rw [k2 161 (by omega)]) (fun v hv => k3 v hv) (fun v => by omega)
  rw [k2 161 (by omega)] at q1 q3
  refine ⟨I', fun Q => ?_, q2, q4, q3⟩
  rw [e178]
  simp only [r178_0, r178_1, s_1, s_2, s_3, s_8, s_16, s_18, s_23, s_24, s_33, s_38, s_41, s_161, f_1_0, f_1_1, f_1_4, f_1_5, f_1_8, f_1_9, f_1_10, f_1_11, f_1_12, f_1_13, f_2_0, f_2_1, f_3_3, f_3_4, f_3_5, f_3_6, f_8_2, f_8_3, f_8_4, f_8_5, f_16_2, f_18_3, f_18_4, f_18_5, f_18_6, f_23_0, f_23_1, f_23_2, f_23_3, f_23_4, f_24_2, f_24_3, f_24_4, f_24_5, f_33_3, f_33_4, f_33_5, f_33_6, f_38_1, f_38_2, f_41_0, f_161_0, f_161_1, f_161_3, f_161_7, f_161_12, f_161_13, f_161_14, f_161_15, f_161_16, f_161_17, f_161_18, f_161_19, f_161_21, f_161_22, f_161_25, true_and, and_true, true_or, or_true, if_true, if_false, ne_eq, not_false_eq_true, and_self, t10, am_psh, am_clr, not_true_eq_false, Nat.reduceEqDiff]
  refine Eq.trans (k1 Q) ?_
  simp only [r178_21, r178_22, s_1, s_2, s_3, s_8, s_16, s_18, s_23, s_24, s_33, s_38, s_41, s_161, f_1_0, f_1_1, f_1_4, f_1_5, f_1_8, f_1_9, f_1_10, f_1_11, f_1_12, f_1_13, f_2_0, f_2_1, f_3_3, f_3_4, f_3_5, f_3_6, f_8_2, f_8_3, f_8_4, f_8_5, f_16_2, f_18_3, f_18_4, f_18_5, f_18_6, f_23_0, f_23_1, f_23_2, f_23_3, f_23_4, f_24_2, f_24_3, f_24_4, f_24_5, f_33_3, f_33_4, f_33_5, f_33_6, f_38_1, f_38_2, f_41_0, f_161_0, f_161_1, f_161_3, f_161_7, f_161_12, f_161_13, f_161_14, f_161_15, f_161_16, f_161_17, f_161_18, f_161_19, f_161_21, f_161_22, f_161_25, true_and, and_true, true_or, or_true, if_true, if_false, ne_eq, not_false_eq_true, and_self, t10, am_psh, am_clr, not_true_eq_false, Nat.reduceEqDiff]
  exact q1 Q
theorem prF_b (n : Nat) (b b' : Int32) : prF G st (n + 1) 0 b p = prF G st (n + 1) 0 b' p := by
  unfold prF bdU
  simp only [true_or, if_true]
theorem in_120 {x : Int32} (h1 : ¬ x < 1) (h2 : ¬ 20 < x) : ∃ m, 1 ≤ m ∧ m ≤ 20 ∧ x = nI m := by
  rw [Int32.lt_iff_toInt_lt] at h1 h2
  have e1 : (1 : Int32).toInt = 1 := by decide
  have e2 : (20 : Int32).toInt = 20 := by decide
  have e0 : (0 : Int32).toInt = 0 := by decide
  obtain ⟨m, hm, rfl⟩ := nI_of (x := x) (by rw [Int32.lt_iff_toInt_lt]; omega)
  rw [n_ti hm] at h1 h2
  exact ⟨m, by omega, by omega, rfl⟩
theorem c_rounds (x y : Int32) (S : am_S) : am_C (d + 1) 105 [.int x, .int y] S I J Q = if x < 1 then Q (some (.int 0)) S I J else if 20 < x then Q (some (.int 0)) S I J else if y < 1 then Q (some (.int 0)) S I J else if 20 < y then Q (some (.int 0)) S I J else Q (some (.int 1)) S I J := by
  rw [e105]
  simp only [r105_0, r105_1, r105_2, r105_5, r105_6, r105_8, r105_11, r105_12, r105_13, r105_16, r105_17, r105_19, r105_22, r105_23, r105_26, r105_27, true_and, and_true, true_or, or_true, if_true, if_false, ne_eq, not_false_eq_true, and_self, t10, am_psh, am_clr, not_true_eq_false, Nat.reduceEqDiff]
/-- both have played: alike, and only scratch has changed -/
theorem both_play {m k : Nat} (hG : okG G) (hk : k ≤ 20) (hm1 : 1 ≤ m) (hm20 : m ≤ 20) (hI : Inv I J) (hx : xG I 3 G) (hm : mG (I 162) G) : ∃ (r : Option (Int32 × (Nat → Nat))) (I1 I2 : am_I), (∀ Q, am_C 39 46 [.ref 38, .ref 3, .ref 23, .int (nI m), .int (nI k)] (cS L) I J Q = Q (some (.int (oB r))) (cS L) I1 J) ∧ (∀ Q, am_C 39 178 [.ref 161, .int (nI m), .int (nI k)] (cS L) I1 J Q = Q (some (.int (oB r))) (cS L) I2 J) ∧ I1 0 = I 0 ∧ I2 0 = I 0 ∧ Inv I2 J ∧ I1 162 = I 162 ∧ (∀ q, r = some q → (I1 38 0 = q.1 ∧ ∀ v, v < 8 → I1 39 v = nI (q.2 v)) ∧ I2 161 26 = q.1 ∧ ∀ v, v < 8 → I2 176 v = nI (q.2 v)) := by
  obtain ⟨I1, k1, k2, k3⟩ := c_play (d := 34) (L := L) (J := J) (I := I) (m := m) (st := k) hG hk hm20 hx
  have e162 : I1 162 = I 162 := k2 162 (by omega) (by omega)
  obtain ⟨I2, m1, m2, m3, m4⟩ := c_bids (d := 34) (L := L) (J := J) (I := I1) (m := m) (st := k) hG hk hm20 (by rw [e162]; exact hm)
  have e : prF G k m 0 (I1 161 26) (fun _ => 0) = prF G k m 0 (I 38 0) (fun _ => 0) := by
    obtain ⟨m', rfl⟩ : ∃ m', m = m' + 1 := ⟨m - 1, by omega⟩
    exact prF_b _ _ _
  rw [e] at m1 m4
  refine ⟨_, I1, I2, k1, m1, k2 0 (by omega) (by omega), by rw [m2 0 (by omega) (by omega) (by omega), k2 0 (by omega) (by omega)], Inv_scr hI (fun b b1 b2 b3 b4 b5 => by rw [m2 b b2 (by omega) (by omega), k2 b (by omega) (by omega)]) (by rw [m2 16 (by omega) (by omega) (by omega), k2 16 (by omega) (by omega)]) (fun j hj => by rw [m3 j (by omega) (by omega), k2 161 (by omega) (by omega)]), e162, fun q hq => ⟨k3 q hq, m4 q hq⟩⟩
theorem op_priceBound (x y : Int32) : am_OK L Inv 91 179 [.int x, .int y] := by
  intro I J hI
  have hI0 := hI
  obtain ⟨⟨G, o⟩, hs, s0, s1, n, tx, hok, hx, hm, hl, hh, hsl, hru, htx⟩ := hI
  by_cases hbad : x < 1 ∨ 20 < x ∨ y < 1 ∨ 20 < y
  · refine ok_same hI0 (x := -103) (fun Q => ?_) (fun Q => ?_)
    · rw [e91]; simp only [r91_0, r91_1, r91_2, s_1, s_2, s_3, s_8, s_16, s_18, s_23, s_24, s_33, s_38, s_41, s_161, f_1_0, f_1_1, f_1_4, f_1_5, f_1_8, f_1_9, f_1_10, f_1_11, f_1_12, f_1_13, f_2_0, f_2_1, f_3_3, f_3_4, f_3_5, f_3_6, f_8_2, f_8_3, f_8_4, f_8_5, f_16_2, f_18_3, f_18_4, f_18_5, f_18_6, f_23_0, f_23_1, f_23_2, f_23_3, f_23_4, f_24_2, f_24_3, f_24_4, f_24_5, f_33_3, f_33_4, f_33_5, f_33_6, f_38_1, f_38_2, f_41_0, f_161_0, f_161_1, f_161_3, f_161_7, f_161_12, f_161_13, f_161_14, f_161_15, f_161_16, f_161_17, f_161_18, f_161_19, f_161_21, f_161_22, f_161_25, true_and, and_true, true_or, or_true, if_true, if_false, ne_eq, not_false_eq_true, and_self, t10, am_psh, am_clr, not_true_eq_false, Nat.reduceEqDiff]
      rw [c_rounds]; simp only [r91_5, r91_8, r91_10, s_1, s_2, s_3, s_8, s_16, s_18, s_23, s_24, s_33, s_38, s_41, s_161, f_1_0, f_1_1, f_1_4, f_1_5, f_1_8, f_1_9, f_1_10, f_1_11, f_1_12, f_1_13, f_2_0, f_2_1, f_3_3, f_3_4, f_3_5, f_3_6, f_8_2, f_8_3, f_8_4, f_8_5, f_16_2, f_18_3, f_18_4, f_18_5, f_18_6, f_23_0, f_23_1, f_23_2, f_23_3, f_23_4, f_24_2, f_24_3, f_24_4, f_24_5, f_33_3, f_33_4, f_33_5, f_33_6, f_38_1, f_38_2, f_41_0, f_161_0, f_161_1, f_161_3, f_161_7, f_161_12, f_161_13, f_161_14, f_161_15, f_161_16, f_161_17, f_161_18, f_161_19, f_161_21, f_161_22, f_161_25, true_and, and_true, true_or, or_true, if_true, if_false, ne_eq, not_false_eq_true, and_self, t10, am_psh, am_clr, not_true_eq_false, Nat.reduceEqDiff]
      by_cases c1 : x < 1
      · rw [if_pos c1]
      · by_cases c2 : 20 < x
        · rw [if_neg c1, if_pos c2]
        · by_cases c3 : y < 1
          · rw [if_neg c1, if_neg c2, if_pos c3]
          · rw [if_neg c1, if_neg c2, if_neg c3, if_pos (((hbad.resolve_left c1).resolve_left c2).resolve_left c3)]
    · rw [e179]; simp only [r179_0, r179_1, r179_2, r179_4, r179_7, r179_10, r179_11, r179_12, r179_14, r179_17, r179_20, r179_22, s_1, s_2, s_3, s_8, s_16, s_18, s_23, s_24, s_33, s_38, s_41, s_161, f_1_0, f_1_1, f_1_4, f_1_5, f_1_8, f_1_9, f_1_10, f_1_11, f_1_12, f_1_13, f_2_0, f_2_1, f_3_3, f_3_4, f_3_5, f_3_6, f_8_2, f_8_3, f_8_4, f_8_5, f_16_2, f_18_3, f_18_4, f_18_5, f_18_6, f_23_0, f_23_1, f_23_2, f_23_3, f_23_4, f_24_2, f_24_3, f_24_4, f_24_5, f_33_3, f_33_4, f_33_5, f_33_6, f_38_1, f_38_2, f_41_0, f_161_0, f_161_1, f_161_3, f_161_7, f_161_12, f_161_13, f_161_14, f_161_15, f_161_16, f_161_17, f_161_18, f_161_19, f_161_21, f_161_22, f_161_25, true_and, and_true, true_or, or_true, if_true, if_false, ne_eq, not_false_eq_true, and_self, t10, am_psh, am_clr, not_true_eq_false, Nat.reduceEqDiff, c_isIn]
      by_cases c1 : x < 1
      · rw [if_pos c1]
      · by_cases c2 : 20 < x
        · rw [if_neg c1, if_pos c2]
        · by_cases c3 : y < 1
          · rw [if_neg c1, if_neg c2, if_pos c3]
          · rw [if_neg c1, if_neg c2, if_neg c3, if_pos (((hbad.resolve_left c1).resolve_left c2).resolve_left c3)]
  have c1 : ¬ x < 1 := fun q => hbad (Or.inl q)
  have c2 : ¬ 20 < x := fun q => hbad (Or.inr (Or.inl q))
  have c3 : ¬ y < 1 := fun q => hbad (Or.inr (Or.inr (Or.inl q)))
  have c4 : ¬ 20 < y := fun q => hbad (Or.inr (Or.inr (Or.inr q)))
  obtain ⟨m, hm1, hm2, rfl⟩ := in_120 c1 c2
  obtain ⟨k, hk1, hk2, rfl⟩ := in_120 c3 c4
  obtain ⟨r, I1, I2, p1, p2, p3, p4, p5, p6, p7⟩ := both_play (L := L) hok.1 hk2 hm1 hm2 hI0 hx.1 hm.1
  refine ⟨.int (match r with | some q => q.1 | none => -106), I1, J, I2, J, fun Q => ?_, p3, fun Q => ?_, p4, p5, _, rfl⟩
  · rw [e91]; simp only [r91_0, r91_1, r91_2, s_1, s_2, s_3, s_8, s_16, s_18, s_23, s_24, s_33, s_38, s_41, s_161, f_1_0, f_1_1, f_1_4, f_1_5, f_1_8, f_1_9, f_1_10, f_1_11, f_1_12, f_1_13, f_2_0, f_2_1, f_3_3, f_3_4, f_3_5, f_3_6, f_8_2, f_8_3, f_8_4, f_8_5, f_16_2, f_18_3, f_18_4, f_18_5, f_18_6, f_23_0, f_23_1, f_23_2, f_23_3, f_23_4, f_24_2, f_24_3, f_24_4, f_24_5, f_33_3, f_33_4, f_33_5, f_33_6, f_38_1, f_38_2, f_41_0, f_161_0, f_161_1, f_161_3, f_161_7, f_161_12, f_161_13, f_161_14, f_161_15, f_161_16, f_161_17, f_161_18, f_161_19, f_161_21, f_161_22, f_161_25, true_and, and_true, true_or, or_true, if_true, if_false, ne_eq, not_false_eq_true, and_self, t10, am_psh, am_clr, not_true_eq_false, Nat.reduceEqDiff]
    rw [c_rounds, if_neg c1, if_neg c2, if_neg c3, if_neg c4]; simp only [r91_5, r91_8, r91_10, r91_11, r91_12, r91_15, r91_16, r91_19, r91_22, r91_23, r91_26, r91_27, r91_28, s_1, s_2, s_3, s_8, s_16, s_18, s_23, s_24, s_33, s_38, s_41, s_161, f_1_0, f_1_1, f_1_4, f_1_5, f_1_8, f_1_9, f_1_10, f_1_11, f_1_12, f_1_13, f_2_0, f_2_1, f_3_3, f_3_4, f_3_5, f_3_6, f_8_2, f_8_3, f_8_4, f_8_5, f_16_2, f_18_3, f_18_4, f_18_5, f_18_6, f_23_0, f_23_1, f_23_2, f_23_3, f_23_4, f_24_2, f_24_3, f_24_4, f_24_5, f_33_3, f_33_4, f_33_5, f_33_6, f_38_1, f_38_2, f_41_0, f_161_0, f_161_1, f_161_3, f_161_7, f_161_12, f_161_13, f_161_14, f_161_15, f_161_16, f_161_17, f_161_18, f_161_19, f_161_21, f_161_22, f_161_25, true_and, and_true, true_or, or_true, if_true, if_false, ne_eq, not_false_eq_true, and_self, t10, am_psh, am_clr, not_true_eq_false, Nat.reduceEqDiff]
    rw [p1]
    cases r with
    | none => simp only [r91_31, r91_34, r91_35, r91_38, r91_41, r91_44, r91_46, s_1, s_2, s_3, s_8, s_16, s_18, s_23, s_24, s_33, s_38, s_41, s_161, f_1_0, f_1_1, f_1_4, f_1_5, f_1_8, f_1_9, f_1_10, f_1_11, f_1_12, f_1_13, f_2_0, f_2_1, f_3_3, f_3_4, f_3_5, f_3_6, f_8_2, f_8_3, f_8_4, f_8_5, f_16_2, f_18_3, f_18_4, f_18_5, f_18_6, f_23_0, f_23_1, f_23_2, f_23_3, f_23_4, f_24_2, f_24_3, f_24_4, f_24_5, f_33_3, f_33_4, f_33_5, f_33_6, f_38_1, f_38_2, f_41_0, f_161_0, f_161_1, f_161_3, f_161_7, f_161_12, f_161_13, f_161_14, f_161_15, f_161_16, f_161_17, f_161_18, f_161_19, f_161_21, f_161_22, f_161_25, true_and, and_true, true_or, or_true, if_true, if_false, ne_eq, not_false_eq_true, and_self, t10, am_psh, am_clr, not_true_eq_false, Nat.reduceEqDiff, oB]
    | some q => simp only [r91_31, r91_34, r91_35, r91_38, r91_41, r91_44, r91_46, s_1, s_2, s_3, s_8, s_16, s_18, s_23, s_24, s_33, s_38, s_41, s_161, f_1_0, f_1_1, f_1_4, f_1_5, f_1_8, f_1_9, f_1_10, f_1_11, f_1_12, f_1_13, f_2_0, f_2_1, f_3_3, f_3_4, f_3_5, f_3_6, f_8_2, f_8_3, f_8_4, f_8_5, f_16_2, f_18_3, f_18_4, f_18_5, f_18_6, f_23_0, f_23_1, f_23_2, f_23_3, f_23_4, f_24_2, f_24_3, f_24_4, f_24_5, f_33_3, f_33_4, f_33_5, f_33_6, f_38_1, f_38_2, f_41_0, f_161_0, f_161_1, f_161_3, f_161_7, f_161_12, f_161_13, f_161_14, f_161_15, f_161_16, f_161_17, f_161_18, f_161_19, f_161_21, f_161_22, f_161_25, true_and, and_true, true_or, or_true, if_true, if_false, ne_eq, not_false_eq_true, and_self, t10, am_psh, am_clr, not_true_eq_false, Nat.reduceEqDiff, oB, (p7 q rfl).1.1]
  · rw [e179]; simp only [r179_0, r179_1, r179_2, r179_4, r179_7, r179_10, r179_11, r179_12, r179_14, r179_17, r179_20, r179_22, r179_23, r179_24, r179_25, r179_26, s_1, s_2, s_3, s_8, s_16, s_18, s_23, s_24, s_33, s_38, s_41, s_161, f_1_0, f_1_1, f_1_4, f_1_5, f_1_8, f_1_9, f_1_10, f_1_11, f_1_12, f_1_13, f_2_0, f_2_1, f_3_3, f_3_4, f_3_5, f_3_6, f_8_2, f_8_3, f_8_4, f_8_5, f_16_2, f_18_3, f_18_4, f_18_5, f_18_6, f_23_0, f_23_1, f_23_2, f_23_3, f_23_4, f_24_2, f_24_3, f_24_4, f_24_5, f_33_3, f_33_4, f_33_5, f_33_6, f_38_1, f_38_2, f_41_0, f_161_0, f_161_1, f_161_3, f_161_7, f_161_12, f_161_13, f_161_14, f_161_15, f_161_16, f_161_17, f_161_18, f_161_19, f_161_21, f_161_22, f_161_25, true_and, and_true, true_or, or_true, if_true, if_false, ne_eq, not_false_eq_true, and_self, t10, am_psh, am_clr, not_true_eq_false, Nat.reduceEqDiff, c_isIn]
    rw [if_neg c1, if_neg c2, if_neg c3, if_neg c4, p2]
    cases r with
    | none => simp only [r179_29, r179_32, r179_33, r179_36, r179_39, r179_41, s_1, s_2, s_3, s_8, s_16, s_18, s_23, s_24, s_33, s_38, s_41, s_161, f_1_0, f_1_1, f_1_4, f_1_5, f_1_8, f_1_9, f_1_10, f_1_11, f_1_12, f_1_13, f_2_0, f_2_1, f_3_3, f_3_4, f_3_5, f_3_6, f_8_2, f_8_3, f_8_4, f_8_5, f_16_2, f_18_3, f_18_4, f_18_5, f_18_6, f_23_0, f_23_1, f_23_2, f_23_3, f_23_4, f_24_2, f_24_3, f_24_4, f_24_5, f_33_3, f_33_4, f_33_5, f_33_6, f_38_1, f_38_2, f_41_0, f_161_0, f_161_1, f_161_3, f_161_7, f_161_12, f_161_13, f_161_14, f_161_15, f_161_16, f_161_17, f_161_18, f_161_19, f_161_21, f_161_22, f_161_25, true_and, and_true, true_or, or_true, if_true, if_false, ne_eq, not_false_eq_true, and_self, t10, am_psh, am_clr, not_true_eq_false, Nat.reduceEqDiff, oB]
    | some q => simp only [r179_29, r179_32, r179_33, r179_36, r179_39, r179_41, s_1, s_2, s_3, s_8, s_16, s_18, s_23, s_24, s_33, s_38, s_41, s_161, f_1_0, f_1_1, f_1_4, f_1_5, f_1_8, f_1_9, f_1_10, f_1_11, f_1_12, f_1_13, f_2_0, f_2_1, f_3_3, f_3_4, f_3_5, f_3_6, f_8_2, f_8_3, f_8_4, f_8_5, f_16_2, f_18_3, f_18_4, f_18_5, f_18_6, f_23_0, f_23_1, f_23_2, f_23_3, f_23_4, f_24_2, f_24_3, f_24_4, f_24_5, f_33_3, f_33_4, f_33_5, f_33_6, f_38_1, f_38_2, f_41_0, f_161_0, f_161_1, f_161_3, f_161_7, f_161_12, f_161_13, f_161_14, f_161_15, f_161_16, f_161_17, f_161_18, f_161_19, f_161_21, f_161_22, f_161_25, true_and, and_true, true_or, or_true, if_true, if_false, ne_eq, not_false_eq_true, and_self, t10, am_psh, am_clr, not_true_eq_false, Nat.reduceEqDiff, oB, (p7 q rfl).2.1]
theorem op_price (z x y : Int32) : am_OK L Inv 92 180 [.int z, .int x, .int y] := by
  intro I J hI
  have hI0 := hI
  obtain ⟨⟨G, o⟩, hs, s0, s1, n, tx, hok, hx, hm, hl, hh, hsl, hru, htx⟩ := hI
  have hgn : gn G ≤ 8 := hok.1.1.2.1
  rcases in_or_out z (n := gn G) (by omega) with hxo | ⟨v, hv, rfl⟩
  · refine ok_same hI0 (x := -101) (fun Q => ?_) (fun Q => ?_)
    · rw [e92]; simp only [r92_0, r92_1, r92_4, r92_7, r92_8, s_1, s_2, s_3, s_8, s_16, s_18, s_23, s_24, s_33, s_38, s_41, s_161, f_1_0, f_1_1, f_1_4, f_1_5, f_1_8, f_1_9, f_1_10, f_1_11, f_1_12, f_1_13, f_2_0, f_2_1, f_3_3, f_3_4, f_3_5, f_3_6, f_8_2, f_8_3, f_8_4, f_8_5, f_16_2, f_18_3, f_18_4, f_18_5, f_18_6, f_23_0, f_23_1, f_23_2, f_23_3, f_23_4, f_24_2, f_24_3, f_24_4, f_24_5, f_33_3, f_33_4, f_33_5, f_33_6, f_38_1, f_38_2, f_41_0, f_161_0, f_161_1, f_161_3, f_161_7, f_161_12, f_161_13, f_161_14, f_161_15, f_161_16, f_161_17, f_161_18, f_161_19, f_161_21, f_161_22, f_161_25, true_and, and_true, true_or, or_true, if_true, if_false, ne_eq, not_false_eq_true, and_self, t10, am_psh, am_clr, not_true_eq_false, Nat.reduceEqDiff]
      rw [c_hasNode_out hx.1.1.1 hxo]; simp only [r92_11, r92_14, r92_16, true_and, and_true, true_or, or_true, if_true, if_false, ne_eq, not_false_eq_true, and_self, t10, am_psh, am_clr, not_true_eq_false, Nat.reduceEqDiff]
    · rw [e180]; simp only [r180_0, r180_1, r180_2, s_1, s_2, s_3, s_8, s_16, s_18, s_23, s_24, s_33, s_38, s_41, s_161, f_1_0, f_1_1, f_1_4, f_1_5, f_1_8, f_1_9, f_1_10, f_1_11, f_1_12, f_1_13, f_2_0, f_2_1, f_3_3, f_3_4, f_3_5, f_3_6, f_8_2, f_8_3, f_8_4, f_8_5, f_16_2, f_18_3, f_18_4, f_18_5, f_18_6, f_23_0, f_23_1, f_23_2, f_23_3, f_23_4, f_24_2, f_24_3, f_24_4, f_24_5, f_33_3, f_33_4, f_33_5, f_33_6, f_38_1, f_38_2, f_41_0, f_161_0, f_161_1, f_161_3, f_161_7, f_161_12, f_161_13, f_161_14, f_161_15, f_161_16, f_161_17, f_161_18, f_161_19, f_161_21, f_161_22, f_161_25, true_and, and_true, true_or, or_true, if_true, if_false, ne_eq, not_false_eq_true, and_self, t10, am_psh, am_clr, not_true_eq_false, Nat.reduceEqDiff]
      rw [c_isNode_out hm.1.1.1 hgn hxo]; simp only [r180_5, r180_8, r180_10, true_and, and_true, true_or, or_true, if_true, if_false, ne_eq, not_false_eq_true, and_self, t10, am_psh, am_clr, not_true_eq_false, Nat.reduceEqDiff]
  by_cases hbad : x < 1 ∨ 20 < x ∨ y < 1 ∨ 20 < y
  · refine ok_same hI0 (x := -103) (fun Q => ?_) (fun Q => ?_)
    · rw [e92]; simp only [r92_0, r92_1, r92_4, r92_7, r92_8, s_1, s_2, s_3, s_8, s_16, s_18, s_23, s_24, s_33, s_38, s_41, s_161, f_1_0, f_1_1, f_1_4, f_1_5, f_1_8, f_1_9, f_1_10, f_1_11, f_1_12, f_1_13, f_2_0, f_2_1, f_3_3, f_3_4, f_3_5, f_3_6, f_8_2, f_8_3, f_8_4, f_8_5, f_16_2, f_18_3, f_18_4, f_18_5, f_18_6, f_23_0, f_23_1, f_23_2, f_23_3, f_23_4, f_24_2, f_24_3, f_24_4, f_24_5, f_33_3, f_33_4, f_33_5, f_33_6, f_38_1, f_38_2, f_41_0, f_161_0, f_161_1, f_161_3, f_161_7, f_161_12, f_161_13, f_161_14, f_161_15, f_161_16, f_161_17, f_161_18, f_161_19, f_161_21, f_161_22, f_161_25, true_and, and_true, true_or, or_true, if_true, if_false, ne_eq, not_false_eq_true, and_self, t10, am_psh, am_clr, not_true_eq_false, Nat.reduceEqDiff]
      rw [c_hasNode_in hx.1.1.1 hgn hv]; simp only [r92_11, r92_14, r92_16, r92_17, r92_18, r92_19, s_1, s_2, s_3, s_8, s_16, s_18, s_23, s_24, s_33, s_38, s_41, s_161, f_1_0, f_1_1, f_1_4, f_1_5, f_1_8, f_1_9, f_1_10, f_1_11, f_1_12, f_1_13, f_2_0, f_2_1, f_3_3, f_3_4, f_3_5, f_3_6, f_8_2, f_8_3, f_8_4, f_8_5, f_16_2, f_18_3, f_18_4, f_18_5, f_18_6, f_23_0, f_23_1, f_23_2, f_23_3, f_23_4, f_24_2, f_24_3, f_24_4, f_24_5, f_33_3, f_33_4, f_33_5, f_33_6, f_38_1, f_38_2, f_41_0, f_161_0, f_161_1, f_161_3, f_161_7, f_161_12, f_161_13, f_161_14, f_161_15, f_161_16, f_161_17, f_161_18, f_161_19, f_161_21, f_161_22, f_161_25, true_and, and_true, true_or, or_true, if_true, if_false, ne_eq, not_false_eq_true, and_self, t10, am_psh, am_clr, not_true_eq_false, Nat.reduceEqDiff]
      rw [c_rounds]; simp only [r92_22, r92_25, r92_27, s_1, s_2, s_3, s_8, s_16, s_18, s_23, s_24, s_33, s_38, s_41, s_161, f_1_0, f_1_1, f_1_4, f_1_5, f_1_8, f_1_9, f_1_10, f_1_11, f_1_12, f_1_13, f_2_0, f_2_1, f_3_3, f_3_4, f_3_5, f_3_6, f_8_2, f_8_3, f_8_4, f_8_5, f_16_2, f_18_3, f_18_4, f_18_5, f_18_6, f_23_0, f_23_1, f_23_2, f_23_3, f_23_4, f_24_2, f_24_3, f_24_4, f_24_5, f_33_3, f_33_4, f_33_5, f_33_6, f_38_1, f_38_2, f_41_0, f_161_0, f_161_1, f_161_3, f_161_7, f_161_12, f_161_13, f_161_14, f_161_15, f_161_16, f_161_17, f_161_18, f_161_19, f_161_21, f_161_22, f_161_25, true_and, and_true, true_or, or_true, if_true, if_false, ne_eq, not_false_eq_true, and_self, t10, am_psh, am_clr, not_true_eq_false, Nat.reduceEqDiff]
      by_cases c1 : x < 1
      · rw [if_pos c1]
      · by_cases c2 : 20 < x
        · rw [if_neg c1, if_pos c2]
        · by_cases c3 : y < 1
          · rw [if_neg c1, if_neg c2, if_pos c3]
          · rw [if_neg c1, if_neg c2, if_neg c3, if_pos (((hbad.resolve_left c1).resolve_left c2).resolve_left c3)]
    · rw [e180]; simp only [r180_0, r180_1, r180_2, s_1, s_2, s_3, s_8, s_16, s_18, s_23, s_24, s_33, s_38, s_41, s_161, f_1_0, f_1_1, f_1_4, f_1_5, f_1_8, f_1_9, f_1_10, f_1_11, f_1_12, f_1_13, f_2_0, f_2_1, f_3_3, f_3_4, f_3_5, f_3_6, f_8_2, f_8_3, f_8_4, f_8_5, f_16_2, f_18_3, f_18_4, f_18_5, f_18_6, f_23_0, f_23_1, f_23_2, f_23_3, f_23_4, f_24_2, f_24_3, f_24_4, f_24_5, f_33_3, f_33_4, f_33_5, f_33_6, f_38_1, f_38_2, f_41_0, f_161_0, f_161_1, f_161_3, f_161_7, f_161_12, f_161_13, f_161_14, f_161_15, f_161_16, f_161_17, f_161_18, f_161_19, f_161_21, f_161_22, f_161_25, true_and, and_true, true_or, or_true, if_true, if_false, ne_eq, not_false_eq_true, and_self, t10, am_psh, am_clr, not_true_eq_false, Nat.reduceEqDiff]
      rw [c_isNode_in hm.1.1.1 hgn hv]; simp only [r180_5, r180_8, r180_10, r180_11, r180_12, r180_13, r180_15, r180_18, r180_21, r180_22, r180_23, r180_25, r180_28, r180_31, r180_33, s_1, s_2, s_3, s_8, s_16, s_18, s_23, s_24, s_33, s_38, s_41, s_161, f_1_0, f_1_1, f_1_4, f_1_5, f_1_8, f_1_9, f_1_10, f_1_11, f_1_12, f_1_13, f_2_0, f_2_1, f_3_3, f_3_4, f_3_5, f_3_6, f_8_2, f_8_3, f_8_4, f_8_5, f_16_2, f_18_3, f_18_4, f_18_5, f_18_6, f_23_0, f_23_1, f_23_2, f_23_3, f_23_4, f_24_2, f_24_3, f_24_4, f_24_5, f_33_3, f_33_4, f_33_5, f_33_6, f_38_1, f_38_2, f_41_0, f_161_0, f_161_1, f_161_3, f_161_7, f_161_12, f_161_13, f_161_14, f_161_15, f_161_16, f_161_17, f_161_18, f_161_19, f_161_21, f_161_22, f_161_25, true_and, and_true, true_or, or_true, if_true, if_false, ne_eq, not_false_eq_true, and_self, t10, am_psh, am_clr, not_true_eq_false, Nat.reduceEqDiff, c_isIn]
      by_cases c1 : x < 1
      · rw [if_pos c1]
      · by_cases c2 : 20 < x
        · rw [if_neg c1, if_pos c2]
        · by_cases c3 : y < 1
          · rw [if_neg c1, if_neg c2, if_pos c3]
          · rw [if_neg c1, if_neg c2, if_neg c3, if_pos (((hbad.resolve_left c1).resolve_left c2).resolve_left c3)]
  have c1 : ¬ x < 1 := fun q => hbad (Or.inl q)
  have c2 : ¬ 20 < x := fun q => hbad (Or.inr (Or.inl q))
  have c3 : ¬ y < 1 := fun q => hbad (Or.inr (Or.inr (Or.inl q)))
  have c4 : ¬ 20 < y := fun q => hbad (Or.inr (Or.inr (Or.inr q)))
  obtain ⟨m, hm1, hm2, rfl⟩ := in_120 c1 c2
  obtain ⟨k, hk1, hk2, rfl⟩ := in_120 c3 c4
  obtain ⟨r, I1, I2, p1, p2, p3, p4, p5, p6, p7⟩ := both_play (L := L) hok.1 hk2 hm1 hm2 hI0 hx.1 hm.1
  refine ⟨.int (match r with | some q => nI (q.2 v) | none => -106), I1, J, I2, J, fun Q => ?_, p3, fun Q => ?_, p4, p5, _, rfl⟩
  · rw [e92]; simp only [r92_0, r92_1, r92_4, r92_7, r92_8, s_1, s_2, s_3, s_8, s_16, s_18, s_23, s_24, s_33, s_38, s_41, s_161, f_1_0, f_1_1, f_1_4, f_1_5, f_1_8, f_1_9, f_1_10, f_1_11, f_1_12, f_1_13, f_2_0, f_2_1, f_3_3, f_3_4, f_3_5, f_3_6, f_8_2, f_8_3, f_8_4, f_8_5, f_16_2, f_18_3, f_18_4, f_18_5, f_18_6, f_23_0, f_23_1, f_23_2, f_23_3, f_23_4, f_24_2, f_24_3, f_24_4, f_24_5, f_33_3, f_33_4, f_33_5, f_33_6, f_38_1, f_38_2, f_41_0, f_161_0, f_161_1, f_161_3, f_161_7, f_161_12, f_161_13, f_161_14, f_161_15, f_161_16, f_161_17, f_161_18, f_161_19, f_161_21, f_161_22, f_161_25, true_and, and_true, true_or, or_true, if_true, if_false, ne_eq, not_false_eq_true, and_self, t10, am_psh, am_clr, not_true_eq_false, Nat.reduceEqDiff]
    rw [c_hasNode_in hx.1.1.1 hgn hv]; simp only [r92_11, r92_14, r92_16, r92_17, r92_18, r92_19, s_1, s_2, s_3, s_8, s_16, s_18, s_23, s_24, s_33, s_38, s_41, s_161, f_1_0, f_1_1, f_1_4, f_1_5, f_1_8, f_1_9, f_1_10, f_1_11, f_1_12, f_1_13, f_2_0, f_2_1, f_3_3, f_3_4, f_3_5, f_3_6, f_8_2, f_8_3, f_8_4, f_8_5, f_16_2, f_18_3, f_18_4, f_18_5, f_18_6, f_23_0, f_23_1, f_23_2, f_23_3, f_23_4, f_24_2, f_24_3, f_24_4, f_24_5, f_33_3, f_33_4, f_33_5, f_33_6, f_38_1, f_38_2, f_41_0, f_161_0, f_161_1, f_161_3, f_161_7, f_161_12, f_161_13, f_161_14, f_161_15, f_161_16, f_161_17, f_161_18, f_161_19, f_161_21, f_161_22, f_161_25, true_and, and_true, true_or, or_true, if_true, if_false, ne_eq, not_false_eq_true, and_self, t10, am_psh, am_clr, not_true_eq_false, Nat.reduceEqDiff]
    rw [c_rounds, if_neg c1, if_neg c2, if_neg c3, if_neg c4]; simp only [r92_22, r92_25, r92_27, r92_28, r92_29, r92_32, r92_33, r92_36, r92_39, r92_40, r92_43, r92_44, r92_45, s_1, s_2, s_3, s_8, s_16, s_18, s_23, s_24, s_33, s_38, s_41, s_161, f_1_0, f_1_1, f_1_4, f_1_5, f_1_8, f_1_9, f_1_10, f_1_11, f_1_12, f_1_13, f_2_0, f_2_1, f_3_3, f_3_4, f_3_5, f_3_6, f_8_2, f_8_3, f_8_4, f_8_5, f_16_2, f_18_3, f_18_4, f_18_5, f_18_6, f_23_0, f_23_1, f_23_2, f_23_3, f_23_4, f_24_2, f_24_3, f_24_4, f_24_5, f_33_3, f_33_4, f_33_5, f_33_6, f_38_1, f_38_2, f_41_0, f_161_0, f_161_1, f_161_3, f_161_7, f_161_12, f_161_13, f_161_14, f_161_15, f_161_16, f_161_17, f_161_18, f_161_19, f_161_21, f_161_22, f_161_25, true_and, and_true, true_or, or_true, if_true, if_false, ne_eq, not_false_eq_true, and_self, t10, am_psh, am_clr, not_true_eq_false, Nat.reduceEqDiff]
    rw [p1]
    cases r with
    | none => simp only [r92_48, r92_51, r92_52, r92_55, r92_58, r92_59, r92_60, r92_63, r92_65, s_1, s_2, s_3, s_8, s_16, s_18, s_23, s_24, s_33, s_38, s_41, s_161, f_1_0, f_1_1, f_1_4, f_1_5, f_1_8, f_1_9, f_1_10, f_1_11, f_1_12, f_1_13, f_2_0, f_2_1, f_3_3, f_3_4, f_3_5, f_3_6, f_8_2, f_8_3, f_8_4, f_8_5, f_16_2, f_18_3, f_18_4, f_18_5, f_18_6, f_23_0, f_23_1, f_23_2, f_23_3, f_23_4, f_24_2, f_24_3, f_24_4, f_24_5, f_33_3, f_33_4, f_33_5, f_33_6, f_38_1, f_38_2, f_41_0, f_161_0, f_161_1, f_161_3, f_161_7, f_161_12, f_161_13, f_161_14, f_161_15, f_161_16, f_161_17, f_161_18, f_161_19, f_161_21, f_161_22, f_161_25, true_and, and_true, true_or, or_true, if_true, if_false, ne_eq, not_false_eq_true, and_self, t10, am_psh, am_clr, not_true_eq_false, Nat.reduceEqDiff, oB]
    | some q => simp only [r92_48, r92_51, r92_52, r92_55, r92_58, r92_59, r92_60, r92_63, r92_65, s_1, s_2, s_3, s_8, s_16, s_18, s_23, s_24, s_33, s_38, s_41, s_161, f_1_0, f_1_1, f_1_4, f_1_5, f_1_8, f_1_9, f_1_10, f_1_11, f_1_12, f_1_13, f_2_0, f_2_1, f_3_3, f_3_4, f_3_5, f_3_6, f_8_2, f_8_3, f_8_4, f_8_5, f_16_2, f_18_3, f_18_4, f_18_5, f_18_6, f_23_0, f_23_1, f_23_2, f_23_3, f_23_4, f_24_2, f_24_3, f_24_4, f_24_5, f_33_3, f_33_4, f_33_5, f_33_6, f_38_1, f_38_2, f_41_0, f_161_0, f_161_1, f_161_3, f_161_7, f_161_12, f_161_13, f_161_14, f_161_15, f_161_16, f_161_17, f_161_18, f_161_19, f_161_21, f_161_22, f_161_25, true_and, and_true, true_or, or_true, if_true, if_false, ne_eq, not_false_eq_true, and_self, t10, am_psh, am_clr, not_true_eq_false, Nat.reduceEqDiff, oB, ix39 (L := L) v (by omega), n_cl (show v < 2 ^ 31 by omega), (p7 q rfl).1.2 v (by omega)]
  · rw [e180]; simp only [r180_0, r180_1, r180_2, s_1, s_2, s_3, s_8, s_16, s_18, s_23, s_24, s_33, s_38, s_41, s_161, f_1_0, f_1_1, f_1_4, f_1_5, f_1_8, f_1_9, f_1_10, f_1_11, f_1_12, f_1_13, f_2_0, f_2_1, f_3_3, f_3_4, f_3_5, f_3_6, f_8_2, f_8_3, f_8_4, f_8_5, f_16_2, f_18_3, f_18_4, f_18_5, f_18_6, f_23_0, f_23_1, f_23_2, f_23_3, f_23_4, f_24_2, f_24_3, f_24_4, f_24_5, f_33_3, f_33_4, f_33_5, f_33_6, f_38_1, f_38_2, f_41_0, f_161_0, f_161_1, f_161_3, f_161_7, f_161_12, f_161_13, f_161_14, f_161_15, f_161_16, f_161_17, f_161_18, f_161_19, f_161_21, f_161_22, f_161_25, true_and, and_true, true_or, or_true, if_true, if_false, ne_eq, not_false_eq_true, and_self, t10, am_psh, am_clr, not_true_eq_false, Nat.reduceEqDiff]
    rw [c_isNode_in (by rw [p6]; exact hm.1.1.1) hgn hv]; simp only [r180_5, r180_8, r180_10, r180_11, r180_12, r180_13, r180_15, r180_18, r180_21, r180_22, r180_23, r180_25, r180_28, r180_31, r180_33, r180_34, r180_35, r180_36, r180_37, s_1, s_2, s_3, s_8, s_16, s_18, s_23, s_24, s_33, s_38, s_41, s_161, f_1_0, f_1_1, f_1_4, f_1_5, f_1_8, f_1_9, f_1_10, f_1_11, f_1_12, f_1_13, f_2_0, f_2_1, f_3_3, f_3_4, f_3_5, f_3_6, f_8_2, f_8_3, f_8_4, f_8_5, f_16_2, f_18_3, f_18_4, f_18_5, f_18_6, f_23_0, f_23_1, f_23_2, f_23_3, f_23_4, f_24_2, f_24_3, f_24_4, f_24_5, f_33_3, f_33_4, f_33_5, f_33_6, f_38_1, f_38_2, f_41_0, f_161_0, f_161_1, f_161_3, f_161_7, f_161_12, f_161_13, f_161_14, f_161_15, f_161_16, f_161_17, f_161_18, f_161_19, f_161_21, f_161_22, f_161_25, true_and, and_true, true_or, or_true, if_true, if_false, ne_eq, not_false_eq_true, and_self, t10, am_psh, am_clr, not_true_eq_false, Nat.reduceEqDiff, c_isIn]
    rw [if_neg c1, if_neg c2, if_neg c3, if_neg c4, p2]
    cases r with
    | none => simp only [r180_40, r180_43, r180_44, r180_47, r180_48, r180_49, r180_52, r180_54, s_1, s_2, s_3, s_8, s_16, s_18, s_23, s_24, s_33, s_38, s_41, s_161, f_1_0, f_1_1, f_1_4, f_1_5, f_1_8, f_1_9, f_1_10, f_1_11, f_1_12, f_1_13, f_2_0, f_2_1, f_3_3, f_3_4, f_3_5, f_3_6, f_8_2, f_8_3, f_8_4, f_8_5, f_16_2, f_18_3, f_18_4, f_18_5, f_18_6, f_23_0, f_23_1, f_23_2, f_23_3, f_23_4, f_24_2, f_24_3, f_24_4, f_24_5, f_33_3, f_33_4, f_33_5, f_33_6, f_38_1, f_38_2, f_41_0, f_161_0, f_161_1, f_161_3, f_161_7, f_161_12, f_161_13, f_161_14, f_161_15, f_161_16, f_161_17, f_161_18, f_161_19, f_161_21, f_161_22, f_161_25, true_and, and_true, true_or, or_true, if_true, if_false, ne_eq, not_false_eq_true, and_self, t10, am_psh, am_clr, not_true_eq_false, Nat.reduceEqDiff, oB]
    | some q => simp only [r180_40, r180_43, r180_44, r180_47, r180_48, r180_49, r180_52, r180_54, s_1, s_2, s_3, s_8, s_16, s_18, s_23, s_24, s_33, s_38, s_41, s_161, f_1_0, f_1_1, f_1_4, f_1_5, f_1_8, f_1_9, f_1_10, f_1_11, f_1_12, f_1_13, f_2_0, f_2_1, f_3_3, f_3_4, f_3_5, f_3_6, f_8_2, f_8_3, f_8_4, f_8_5, f_16_2, f_18_3, f_18_4, f_18_5, f_18_6, f_23_0, f_23_1, f_23_2, f_23_3, f_23_4, f_24_2, f_24_3, f_24_4, f_24_5, f_33_3, f_33_4, f_33_5, f_33_6, f_38_1, f_38_2, f_41_0, f_161_0, f_161_1, f_161_3, f_161_7, f_161_12, f_161_13, f_161_14, f_161_15, f_161_16, f_161_17, f_161_18, f_161_19, f_161_21, f_161_22, f_161_25, true_and, and_true, true_or, or_true, if_true, if_false, ne_eq, not_false_eq_true, and_self, t10, am_psh, am_clr, not_true_eq_false, Nat.reduceEqDiff, oB, ix176 (L := L) v (by omega), n_cl (show v < 2 ^ 31 by omega), (p7 q rfl).2.2 v (by omega)]
end MB
