/-! the record made anew: the model -/
section RM
variable {d L : Nat} {I I' : am_I} {J : am_J} {Q : am_Q} {G : Gr} {pr : Nat → Int32} {al : Nat → Bool} {s : Cs} {g a : Nat} {t : Nat → Nat}
theorem ua_loop (hG : okG G) (hm : mG (I 162) G) : ∀ (n j : Nat) (K : am_I), j + n = gm G → (∀ b, b ≠ 167 → b ≠ 168 → K b = I b) → (∀ a, a < j → K 167 a = coG G a ∧ K 168 a = 1) → ∃ I', (∀ Q, am_T d 150 2 [some (.ref 161), some (.int (nI j))] [] (cS L) K J Q = Q none (cS L) I' J) ∧ (∀ b, b ≠ 167 → b ≠ 168 → I' b = I b) ∧ ∀ a, a < gm G → I' 167 a = coG G a ∧ I' 168 a = 1 := by
  have hm32 := hG.1.2.2.2
  have y2 : am_ix (cS L) 162 20 2 := mx 2 (by omega)
  intro n
  induction n with
  | zero =>
    intro j K hj hf h
    have : j = gm G := by omega
    subst this
    refine ⟨K, fun Q => ?_, hf, h⟩
    rw [r150_2]
    simp only [r150_3, r150_4, r150_7, r150_8, r150_9, r150_40, s_1, s_2, s_3, s_8, s_16, s_18, s_23, s_24, s_33, s_38, s_41, s_161, f_1_0, f_1_1, f_1_4, f_1_5, f_1_8, f_1_9, f_1_10, f_1_11, f_1_12, f_1_13, f_2_0, f_2_1, f_3_3, f_3_4, f_3_5, f_3_6, f_8_2, f_8_3, f_8_4, f_8_5, f_16_2, f_18_3, f_18_4, f_18_5, f_18_6, f_23_0, f_23_1, f_23_2, f_23_3, f_23_4, f_24_2, f_24_3, f_24_4, f_24_5, f_33_3, f_33_4, f_33_5, f_33_6, f_38_1, f_38_2, f_41_0, f_161_0, f_161_1, f_161_3, f_161_7, f_161_12, f_161_13, f_161_14, f_161_15, f_161_16, f_161_17, f_161_18, f_161_19, f_161_21, f_161_22, f_161_25, true_and, and_true, true_or, or_true, if_true, if_false, ne_eq, not_false_eq_true, and_self, t10, am_psh, am_clr, not_true_eq_false, Nat.reduceEqDiff, y2, show (2 : Int32).toNatClampNeg = 2 from by decide, hf 162 (by omega) (by omega), hm.1.2.2]
    rw [if_pos (Int32.le_refl _)]
  | succ n ih =>
    intro j K hj hf h
    obtain ⟨I', k1, k2, k3⟩ := ih (j + 1) (am_up (am_up K 167 j (coG G j)) 168 j 1) (by omega) (fun b b1 b2 => by rw [am_up_ne b2, am_up_ne b1]; exact hf b b1 b2) (fun a ha => by
      rw [am_up_ne (show 167 ≠ 168 by omega)]
      by_cases e : a = j
      · subst e; rw [up_self, up_self]; exact ⟨rfl, rfl⟩
      · rw [up_ne _ _ (Or.inr e), up_ne _ _ (Or.inr e), am_up_ne (by omega)]; exact h a (by omega))
    refine ⟨I', fun Q => ?_, k2, k3⟩
    have hjm : j < gm G := by omega
    have e67 : K 162 (67 + j) = coG G j := by rw [hf 162 (by omega) (by omega)]; exact (hm.2.1 j hjm).2.2
    rw [r150_2]
    simp only [r150_3, r150_4, r150_7, r150_8, r150_9, r150_12, r150_13, r150_16, r150_17, r150_18, r150_21, r150_23, r150_24, r150_25, r150_26, r150_27, r150_28, r150_31, r150_32, r150_33, r150_34, r150_37, s_1, s_2, s_3, s_8, s_16, s_18, s_23, s_24, s_33, s_38, s_41, s_161, f_1_0, f_1_1, f_1_4, f_1_5, f_1_8, f_1_9, f_1_10, f_1_11, f_1_12, f_1_13, f_2_0, f_2_1, f_3_3, f_3_4, f_3_5, f_3_6, f_8_2, f_8_3, f_8_4, f_8_5, f_16_2, f_18_3, f_18_4, f_18_5, f_18_6, f_23_0, f_23_1, f_23_2, f_23_3, f_23_4, f_24_2, f_24_3, f_24_4, f_24_5, f_33_3, f_33_4, f_33_5, f_33_6, f_38_1, f_38_2, f_41_0, f_161_0, f_161_1, f_161_3, f_161_7, f_161_12, f_161_13, f_161_14, f_161_15, f_161_16, f_161_17, f_161_18, f_161_19, f_161_21, f_161_22, f_161_25, true_and, and_true, true_or, or_true, if_true, if_false, ne_eq, not_false_eq_true, and_self, t10, am_psh, am_clr, not_true_eq_false, Nat.reduceEqDiff, y2, show (2 : Int32).toNatClampNeg = 2 from by decide, hf 162 (by omega) (by omega), hm.1.2.2, iw167 (L := L) j (by omega), iw168 (L := L) j (by omega), n_cl (show j < 2 ^ 31 by omega), show (67 : Int32) + nI j = nI (67 + j) from nI_add 67 j, mx (L := L) (67 + j) (by omega), n_cl (show 67 + j < 2 ^ 31 by omega), nI_1, t11]
    rw [if_neg (nI_ge hjm (by omega))]
    have e67' : I 162 (67 + j) = coG G j := (hm.2.1 j hjm).2.2
    rw [e67']
    exact k1 Q
theorem c_useAll (hG : okG G) (hm : mG (I 162) G) : ∃ I', (∀ Q, am_C (d + 1) 150 [.ref 161] (cS L) I J Q = Q none (cS L) I' J) ∧ (∀ b, b ≠ 167 → b ≠ 168 → I' b = I b) ∧ ∀ a, a < gm G → I' 167 a = coG G a ∧ I' 168 a = 1 := by
  obtain ⟨I', k1, k2, k3⟩ := ua_loop (d := d) (L := L) (J := J) hG hm (gm G) 0 I (by omega) (fun _ _ _ => rfl) (fun a ha => absurd ha (Nat.not_lt_zero a))
  refine ⟨I', fun Q => ?_, k2, k3⟩
  rw [e150]
  simp only [r150_0, r150_1]
  exact k1 Q
theorem ms_loop (hG : okG G) (hm : mG (I 162) G) (ht : isT G t) (he : ∀ v, v < gn G → v ≠ gr G → I 173 v = nI (t v)) (hp : ∀ a, a < gm G → I 167 a = pr a) : ∀ (n j : Nat), j + n = gn G → am_T d 151 4 [some (.ref 161), some (.int (sI (fun v => if v = gr G then 0 else pr (t v)) j)), some (.int (nI j))] [] (cS L) I J Q = Q (some (.int (tcost G pr t))) (cS L) I J := by
  have hgn := hG.1.2.1
  have hr := hG.1.2.2.1
  have hm32 := hG.1.2.2.2
  have y0 : am_ix (cS L) 162 20 0 := mx 0 (by omega)
  have y1 : am_ix (cS L) 162 20 1 := mx 1 (by omega)
  intro n
  induction n with
  | zero =>
    intro j hj
    have : j = gn G := by omega
    subst this
    rw [r151_4]
    simp only [r151_5, r151_6, r151_9, r151_10, r151_11, r151_48, r151_49, s_1, s_2, s_3, s_8, s_16, s_18, s_23, s_24, s_33, s_38, s_41, s_161, f_1_0, f_1_1, f_1_4, f_1_5, f_1_8, f_1_9, f_1_10, f_1_11, f_1_12, f_1_13, f_2_0, f_2_1, f_3_3, f_3_4, f_3_5, f_3_6, f_8_2, f_8_3, f_8_4, f_8_5, f_16_2, f_18_3, f_18_4, f_18_5, f_18_6, f_23_0, f_23_1, f_23_2, f_23_3, f_23_4, f_24_2, f_24_3, f_24_4, f_24_5, f_33_3, f_33_4, f_33_5, f_33_6, f_38_1, f_38_2, f_41_0, f_161_0, f_161_1, f_161_3, f_161_7, f_161_12, f_161_13, f_161_14, f_161_15, f_161_16, f_161_17, f_161_18, f_161_19, f_161_21, f_161_22, f_161_25, true_and, and_true, true_or, or_true, if_true, if_false, ne_eq, not_false_eq_true, and_self, t10, am_psh, am_clr, not_true_eq_false, Nat.reduceEqDiff, y0, show (0 : Int32).toNatClampNeg = 0 from by decide, hm.1.1]
    rw [if_pos (Int32.le_refl _)]
    rfl
  | succ n ih =>
    intro j hj
    rw [r151_4]
    have ih := ih (j + 1) (by omega)
    rw [sI_s] at ih
    by_cases e : j = gr G
    · simp only [r151_5, r151_6, r151_9, r151_10, r151_11, r151_14, r151_15, r151_16, r151_17, r151_20, r151_21, r151_22, r151_25, r151_26, r151_29, r151_30, r151_33, r151_34, r151_37, r151_38, r151_39, r151_40, r151_41, r151_42, r151_45, s_1, s_2, s_3, s_8, s_16, s_18, s_23, s_24, s_33, s_38, s_41, s_161, f_1_0, f_1_1, f_1_4, f_1_5, f_1_8, f_1_9, f_1_10, f_1_11, f_1_12, f_1_13, f_2_0, f_2_1, f_3_3, f_3_4, f_3_5, f_3_6, f_8_2, f_8_3, f_8_4, f_8_5, f_16_2, f_18_3, f_18_4, f_18_5, f_18_6, f_23_0, f_23_1, f_23_2, f_23_3, f_23_4, f_24_2, f_24_3, f_24_4, f_24_5, f_33_3, f_33_4, f_33_5, f_33_6, f_38_1, f_38_2, f_41_0, f_161_0, f_161_1, f_161_3, f_161_7, f_161_12, f_161_13, f_161_14, f_161_15, f_161_16, f_161_17, f_161_18, f_161_19, f_161_21, f_161_22, f_161_25, true_and, and_true, true_or, or_true, if_true, if_false, ne_eq, not_false_eq_true, and_self, t10, am_psh, am_clr, not_true_eq_false, Nat.reduceEqDiff, y0, y1, show (0 : Int32).toNatClampNeg = 0 from by decide, show (1 : Int32).toNatClampNeg = 1 from by decide, hm.1.1, hm.1.2.1, nI_1]
      rw [if_neg (nI_ge (show j < gn G by omega) (by omega)), if_pos (show nI j = nI (gr G) by rw [e])]
      rw [if_pos e] at ih
      exact ih
    · have ha := ht j (by omega) e
      simp only [r151_5, r151_6, r151_9, r151_10, r151_11, r151_14, r151_15, r151_16, r151_17, r151_20, r151_21, r151_22, r151_25, r151_26, r151_29, r151_30, r151_33, r151_34, r151_37, r151_38, r151_39, r151_40, r151_41, r151_42, r151_45, s_1, s_2, s_3, s_8, s_16, s_18, s_23, s_24, s_33, s_38, s_41, s_161, f_1_0, f_1_1, f_1_4, f_1_5, f_1_8, f_1_9, f_1_10, f_1_11, f_1_12, f_1_13, f_2_0, f_2_1, f_3_3, f_3_4, f_3_5, f_3_6, f_8_2, f_8_3, f_8_4, f_8_5, f_16_2, f_18_3, f_18_4, f_18_5, f_18_6, f_23_0, f_23_1, f_23_2, f_23_3, f_23_4, f_24_2, f_24_3, f_24_4, f_24_5, f_33_3, f_33_4, f_33_5, f_33_6, f_38_1, f_38_2, f_41_0, f_161_0, f_161_1, f_161_3, f_161_7, f_161_12, f_161_13, f_161_14, f_161_15, f_161_16, f_161_17, f_161_18, f_161_19, f_161_21, f_161_22, f_161_25, true_and, and_true, true_or, or_true, if_true, if_false, ne_eq, not_false_eq_true, and_self, t10, am_psh, am_clr, not_true_eq_false, Nat.reduceEqDiff, y0, y1, show (0 : Int32).toNatClampNeg = 0 from by decide, show (1 : Int32).toNatClampNeg = 1 from by decide, hm.1.1, hm.1.2.1, ix173 (L := L) j (by omega), n_cl (show j < 2 ^ 31 by omega), he j (by omega) e, ix167 (L := L) (t j) (by omega), n_cl (show t j < 2 ^ 31 by omega), hp _ ha, nI_1]
      rw [if_neg (nI_ge (show j < gn G by omega) (by omega)), if_neg (fun q => e ((nI_eq (by omega) (by omega)).mp q))]
      rw [if_neg e] at ih
      exact ih
theorem c_sum (hG : okG G) (hm : mG (I 162) G) (ht : isT G t) (he : ∀ v, v < gn G → v ≠ gr G → I 173 v = nI (t v)) (hp : ∀ a, a < gm G → I 167 a = pr a) : am_C (d + 1) 151 [.ref 161] (cS L) I J Q = Q (some (.int (tcost G pr t))) (cS L) I J := by
  rw [e151]
  simp only [r151_0, r151_1, r151_2, r151_3]
  exact ms_loop hG hm ht he hp (gn G) 0 (by omega)
theorem mo_loop (hG : okG G) (hm : mG (I 162) G) (ht : isT G t) (he : ∀ v, v < gn G → I 162 (157 + v) = if v = gr G then -107 else nI (t v)) : ∀ (n j : Nat), j + n = gn G → am_T d 157 4 [some (.ref 161), some (.int (sI (fun v => if v = gr G then 0 else coG G (t v)) j)), some (.int (nI j))] [] (cS L) I J Q = Q (some (.int (tcost G (coG G) t))) (cS L) I J := by
  have hgn := hG.1.2.1
  have hr := hG.1.2.2.1
  have hm32 := hG.1.2.2.2
  have y0 : am_ix (cS L) 162 20 0 := mx 0 (by omega)
  have y1 : am_ix (cS L) 162 20 1 := mx 1 (by omega)
  intro n
  induction n with
  | zero =>
    intro j hj
    have : j = gn G := by omega
    subst this
    rw [r157_4]
    simp only [r157_5, r157_6, r157_9, r157_10, r157_11, r157_55, r157_56, s_1, s_2, s_3, s_8, s_16, s_18, s_23, s_24, s_33, s_38, s_41, s_161, f_1_0, f_1_1, f_1_4, f_1_5, f_1_8, f_1_9, f_1_10, f_1_11, f_1_12, f_1_13, f_2_0, f_2_1, f_3_3, f_3_4, f_3_5, f_3_6, f_8_2, f_8_3, f_8_4, f_8_5, f_16_2, f_18_3, f_18_4, f_18_5, f_18_6, f_23_0, f_23_1, f_23_2, f_23_3, f_23_4, f_24_2, f_24_3, f_24_4, f_24_5, f_33_3, f_33_4, f_33_5, f_33_6, f_38_1, f_38_2, f_41_0, f_161_0, f_161_1, f_161_3, f_161_7, f_161_12, f_161_13, f_161_14, f_161_15, f_161_16, f_161_17, f_161_18, f_161_19, f_161_21, f_161_22, f_161_25, true_and, and_true, true_or, or_true, if_true, if_false, ne_eq, not_false_eq_true, and_self, t10, am_psh, am_clr, not_true_eq_false, Nat.reduceEqDiff, y0, show (0 : Int32).toNatClampNeg = 0 from by decide, hm.1.1]
    rw [if_pos (Int32.le_refl _)]
    rfl
  | succ n ih =>
    intro j hj
    rw [r157_4]
    have ih := ih (j + 1) (by omega)
    rw [sI_s] at ih
    by_cases e : j = gr G
    · simp only [r157_5, r157_6, r157_9, r157_10, r157_11, r157_14, r157_15, r157_16, r157_17, r157_20, r157_21, r157_22, r157_25, r157_26, r157_29, r157_30, r157_33, r157_35, r157_36, r157_39, r157_42, r157_43, r157_44, r157_45, r157_46, r157_47, r157_48, r157_49, r157_52, s_1, s_2, s_3, s_8, s_16, s_18, s_23, s_24, s_33, s_38, s_41, s_161, f_1_0, f_1_1, f_1_4, f_1_5, f_1_8, f_1_9, f_1_10, f_1_11, f_1_12, f_1_13, f_2_0, f_2_1, f_3_3, f_3_4, f_3_5, f_3_6, f_8_2, f_8_3, f_8_4, f_8_5, f_16_2, f_18_3, f_18_4, f_18_5, f_18_6, f_23_0, f_23_1, f_23_2, f_23_3, f_23_4, f_24_2, f_24_3, f_24_4, f_24_5, f_33_3, f_33_4, f_33_5, f_33_6, f_38_1, f_38_2, f_41_0, f_161_0, f_161_1, f_161_3, f_161_7, f_161_12, f_161_13, f_161_14, f_161_15, f_161_16, f_161_17, f_161_18, f_161_19, f_161_21, f_161_22, f_161_25, true_and, and_true, true_or, or_true, if_true, if_false, ne_eq, not_false_eq_true, and_self, t10, am_psh, am_clr, not_true_eq_false, Nat.reduceEqDiff, y0, y1, show (0 : Int32).toNatClampNeg = 0 from by decide, show (1 : Int32).toNatClampNeg = 1 from by decide, hm.1.1, hm.1.2.1, nI_1]
      rw [if_neg (nI_ge (show j < gn G by omega) (by omega)), if_pos (show nI j = nI (gr G) by rw [e])]
      rw [if_pos e] at ih
      exact ih
    · have ha := ht j (by omega) e
      have e67 : I 162 (67 + t j) = coG G (t j) := (hm.2.1 _ ha).2.2
      simp only [r157_5, r157_6, r157_9, r157_10, r157_11, r157_14, r157_15, r157_16, r157_17, r157_20, r157_21, r157_22, r157_25, r157_26, r157_29, r157_30, r157_33, r157_35, r157_36, r157_39, r157_42, r157_43, r157_44, r157_45, r157_46, r157_47, r157_48, r157_49, r157_52, s_1, s_2, s_3, s_8, s_16, s_18, s_23, s_24, s_33, s_38, s_41, s_161, f_1_0, f_1_1, f_1_4, f_1_5, f_1_8, f_1_9, f_1_10, f_1_11, f_1_12, f_1_13, f_2_0, f_2_1, f_3_3, f_3_4, f_3_5, f_3_6, f_8_2, f_8_3, f_8_4, f_8_5, f_16_2, f_18_3, f_18_4, f_18_5, f_18_6, f_23_0, f_23_1, f_23_2, f_23_3, f_23_4, f_24_2, f_24_3, f_24_4, f_24_5, f_33_3, f_33_4, f_33_5, f_33_6, f_38_1, f_38_2, f_41_0, f_161_0, f_161_1, f_161_3, f_161_7, f_161_12, f_161_13, f_161_14, f_161_15, f_161_16, f_161_17, f_161_18, f_161_19, f_161_21, f_161_22, f_161_25, true_and, and_true, true_or, or_true, if_true, if_false, ne_eq, not_false_eq_true, and_self, t10, am_psh, am_clr, not_true_eq_false, Nat.reduceEqDiff, y0, y1, show (0 : Int32).toNatClampNeg = 0 from by decide, show (1 : Int32).toNatClampNeg = 1 from by decide, hm.1.1, hm.1.2.1, show (157 : Int32) + nI j = nI (157 + j) from nI_add 157 j, mx (L := L) (157 + j) (by omega), n_cl (show 157 + j < 2 ^ 31 by omega), he j (by omega), if_neg e, show (67 : Int32) + nI (t j) = nI (67 + t j) from nI_add 67 _, mx (L := L) (67 + t j) (by omega), n_cl (show 67 + t j < 2 ^ 31 by omega), e67, nI_1]
      rw [if_neg (nI_ge (show j < gn G by omega) (by omega)), if_neg (fun q => e ((nI_eq (by omega) (by omega)).mp q))]
      rw [if_neg e] at ih
      exact ih
theorem c_cor (hG : okG G) (hm : mG (I 162) G) (ht : isT G t) (he : ∀ v, v < gn G → I 162 (157 + v) = if v = gr G then -107 else nI (t v)) : am_C (d + 1) 157 [.ref 161] (cS L) I J Q = Q (some (.int (tcost G (coG G) t))) (cS L) I J := by
  rw [e157]
  simp only [r157_0, r157_1, r157_2, r157_3]
  exact mo_loop hG hm ht he (gn G) 0 (by omega)
theorem hr_1 (hk : vk s ≤ 15) (hs : mC I s) : ∀ (n j : Nat) (K : am_I), j + n = vk s → (∀ b, b ≠ 162 → K b = I b) → (∀ q, q < 109 → K 162 q = I 162 q) → (∀ q, q < j → K 162 (109 + q) = vs s q ∧ K 162 (125 + q) = vd s q ∧ K 162 (141 + q) = enc (-107) (vp s q)) → ∃ I', (∀ Q, am_T d 152 57 [some (.ref 161), some (.int (nI j))] [] (cS L) K J Q = am_T d 152 117 [some (.ref 161), some (.int (nI (vk s)))] [] (cS L) I' J Q) ∧ (∀ b, b ≠ 162 → I' b = I b) ∧ (∀ q, q < 109 → I' 162 q = I 162 q) ∧ ∀ q, q < vk s → I' 162 (109 + q) = vs s q ∧ I' 162 (125 + q) = vd s q ∧ I' 162 (141 + q) = enc (-107) (vp s q) := by
  intro n
  induction n with
  | zero =>
    intro j K hj hf hf2 h
    have : j = vk s := by omega
    subst this
    refine ⟨K, fun Q => ?_, hf, hf2, h⟩
    rw [r152_57]
    simp only [r152_58, r152_59, r152_62, s_1, s_2, s_3, s_8, s_16, s_18, s_23, s_24, s_33, s_38, s_41, s_161, f_1_0, f_1_1, f_1_4, f_1_5, f_1_8, f_1_9, f_1_10, f_1_11, f_1_12, f_1_13, f_2_0, f_2_1, f_3_3, f_3_4, f_3_5, f_3_6, f_8_2, f_8_3, f_8_4, f_8_5, f_16_2, f_18_3, f_18_4, f_18_5, f_18_6, f_23_0, f_23_1, f_23_2, f_23_3, f_23_4, f_24_2, f_24_3, f_24_4, f_24_5, f_33_3, f_33_4, f_33_5, f_33_6, f_38_1, f_38_2, f_41_0, f_161_0, f_161_1, f_161_3, f_161_7, f_161_12, f_161_13, f_161_14, f_161_15, f_161_16, f_161_17, f_161_18, f_161_19, f_161_21, f_161_22, f_161_25, true_and, and_true, true_or, or_true, if_true, if_false, ne_eq, not_false_eq_true, and_self, t10, am_psh, am_clr, not_true_eq_false, Nat.reduceEqDiff, hf 161 (by omega), hs.1]
    rw [if_pos (Int32.le_refl _)]
  | succ n ih =>
    intro j K hj hf hf2 h
    obtain ⟨s1, s2, s3, s4⟩ := hs.2 j (by omega)
    obtain ⟨I', k1, k2, k3, k4⟩ := ih (j + 1) (am_up (am_up (am_up K 162 (109 + j) (vs s j)) 162 (125 + j) (vd s j)) 162 (141 + j) (enc (-107) (vp s j))) (by omega) (fun b hb => by rw [am_up_ne hb, am_up_ne hb, am_up_ne hb]; exact hf b hb) (fun q hq => by rw [up_ne _ _ (Or.inr (by omega)), up_ne _ _ (Or.inr (by omega)), up_ne _ _ (Or.inr (by omega))]; exact hf2 q hq) (fun q hq => by
      by_cases e : q = j
      · subst e
        refine ⟨?_, ?_, up_self _ _ _ _⟩
        · rw [up_ne _ _ (Or.inr (by omega)), up_ne _ _ (Or.inr (by omega)), up_self]
        · rw [up_ne _ _ (Or.inr (by omega)), up_self]
      · obtain ⟨o1, o2, o3⟩ := h q (by omega)
        refine ⟨?_, ?_, ?_⟩
        · rw [up_ne _ _ (Or.inr (by omega)), up_ne _ _ (Or.inr (by omega)), up_ne _ _ (Or.inr (by omega))]; exact o1
        · rw [up_ne _ _ (Or.inr (by omega)), up_ne _ _ (Or.inr (by omega)), up_ne _ _ (Or.inr (by omega))]; exact o2
        · rw [up_ne _ _ (Or.inr (by omega)), up_ne _ _ (Or.inr (by omega)), up_ne _ _ (Or.inr (by omega))]; exact o3)
    refine ⟨I', fun Q => ?_, k2, k3, k4⟩
    rw [r152_57]
    simp only [r152_58, r152_59, r152_62, r152_65, r152_66, r152_69, r152_71, r152_72, r152_73, r152_74, r152_77, r152_78, r152_79, r152_80, r152_81, r152_84, r152_86, r152_87, r152_88, r152_89, r152_92, r152_93, r152_94, r152_95, r152_96, r152_99, r152_102, r152_103, r152_104, r152_105, r152_108, r152_109, r152_110, r152_111, r152_114, s_1, s_2, s_3, s_8, s_16, s_18, s_23, s_24, s_33, s_38, s_41, s_161, f_1_0, f_1_1, f_1_4, f_1_5, f_1_8, f_1_9, f_1_10, f_1_11, f_1_12, f_1_13, f_2_0, f_2_1, f_3_3, f_3_4, f_3_5, f_3_6, f_8_2, f_8_3, f_8_4, f_8_5, f_16_2, f_18_3, f_18_4, f_18_5, f_18_6, f_23_0, f_23_1, f_23_2, f_23_3, f_23_4, f_24_2, f_24_3, f_24_4, f_24_5, f_33_3, f_33_4, f_33_5, f_33_6, f_38_1, f_38_2, f_41_0, f_161_0, f_161_1, f_161_3, f_161_7, f_161_12, f_161_13, f_161_14, f_161_15, f_161_16, f_161_17, f_161_18, f_161_19, f_161_21, f_161_22, f_161_25, true_and, and_true, true_or, or_true, if_true, if_false, ne_eq, not_false_eq_true, and_self, t10, am_psh, am_clr, not_true_eq_false, Nat.reduceEqDiff, am_up_ne (show 161 ≠ 162 by omega), am_up_ne (show 169 ≠ 162 by omega), am_up_ne (show 170 ≠ 162 by omega), am_up_ne (show 171 ≠ 162 by omega), hf 161 (by omega), hf 169 (by omega), hf 170 (by omega), hf 171 (by omega), hs.1, s1, s2, s3, ix169 (L := L) j (by omega), ix170 (L := L) j (by omega), ix171 (L := L) j (by omega), n_cl (show j < 2 ^ 31 by omega), show (109 : Int32) + nI j = nI (109 + j) from nI_add 109 j, show (125 : Int32) + nI j = nI (125 + j) from nI_add 125 j, show (141 : Int32) + nI j = nI (141 + j) from nI_add 141 j, mw (L := L) (109 + j) (by omega), mw (L := L) (125 + j) (by omega), mw (L := L) (141 + j) (by omega), n_cl (show 109 + j < 2 ^ 31 by omega), n_cl (show 125 + j < 2 ^ 31 by omega), n_cl (show 141 + j < 2 ^ 31 by omega), nI_1]
    rw [if_neg (nI_ge (show j < vk s by omega) (by omega))]
    exact k1 Q
theorem hr_2 (hG : okG G) (hn : I 162 0 = nI (gn G)) (hr0 : I 162 1 = nI (gr G)) (he : ∀ v, v < gn G → v ≠ gr G → I 173 v = nI (t v)) : ∀ (n j : Nat) (K : am_I), j + n = gn G → (∀ b, b ≠ 162 → K b = I b) → (∀ q, q < 157 → K 162 q = I 162 q) → (∀ v, v < j → K 162 (157 + v) = if v = gr G then -107 else nI (t v)) → ∃ I', (∀ Q, am_T d 152 119 [some (.ref 161), some (.int (nI j))] [] (cS L) K J Q = Q (some (.int 1)) (cS L) I' J) ∧ (∀ b, b ≠ 162 → I' b = I b) ∧ (∀ q, q < 157 → I' 162 q = I 162 q) ∧ ∀ v, v < gn G → I' 162 (157 + v) = if v = gr G then -107 else nI (t v) := by
  have hgn := hG.1.2.1
  have hr := hG.1.2.2.1
  have y0 : am_ix (cS L) 162 20 0 := mx 0 (by omega)
  have y1 : am_ix (cS L) 162 20 1 := mx 1 (by omega)
  intro n
  induction n with
  | zero =>
    intro j K hj hf hf2 h
    have : j = gn G := by omega
    subst this
    refine ⟨K, fun Q => ?_, hf, hf2, h⟩
    rw [r152_119]
    simp only [r152_120, r152_121, r152_124, r152_125, r152_126, r152_166, r152_167, s_1, s_2, s_3, s_8, s_16, s_18, s_23, s_24, s_33, s_38, s_41, s_161, f_1_0, f_1_1, f_1_4, f_1_5, f_1_8, f_1_9, f_1_10, f_1_11, f_1_12, f_1_13, f_2_0, f_2_1, f_3_3, f_3_4, f_3_5, f_3_6, f_8_2, f_8_3, f_8_4, f_8_5, f_16_2, f_18_3, f_18_4, f_18_5, f_18_6, f_23_0, f_23_1, f_23_2, f_23_3, f_23_4, f_24_2, f_24_3, f_24_4, f_24_5, f_33_3, f_33_4, f_33_5, f_33_6, f_38_1, f_38_2, f_41_0, f_161_0, f_161_1, f_161_3, f_161_7, f_161_12, f_161_13, f_161_14, f_161_15, f_161_16, f_161_17, f_161_18, f_161_19, f_161_21, f_161_22, f_161_25, true_and, and_true, true_or, or_true, if_true, if_false, ne_eq, not_false_eq_true, and_self, t10, am_psh, am_clr, not_true_eq_false, Nat.reduceEqDiff, y0, show (0 : Int32).toNatClampNeg = 0 from by decide, hf2 0 (by omega), hn, t11]
    rw [if_pos (Int32.le_refl _)]
  | succ n ih =>
    intro j K hj hf hf2 h
    obtain ⟨I', k1, k2, k3, k4⟩ := ih (j + 1) (am_up K 162 (157 + j) (if j = gr G then -107 else nI (t j))) (by omega) (fun b hb => by rw [am_up_ne hb]; exact hf b hb) (fun q hq => by rw [up_ne _ _ (Or.inr (by omega))]; exact hf2 q hq) (fun v hv => by
      by_cases e : v = j
      · subst e; rw [up_self]
      · rw [up_ne _ _ (Or.inr (by omega))]; exact h v (by omega))
    refine ⟨I', fun Q => ?_, k2, k3, k4⟩
    rw [r152_119]
    by_cases e : j = gr G
    · simp only [r152_120, r152_121, r152_124, r152_125, r152_126, r152_129, r152_130, r152_133, r152_136, r152_137, r152_138, r152_139, r152_140, r152_143, r152_144, r152_145, r152_148, r152_150, r152_153, r152_154, r152_157, r152_158, r152_159, r152_160, r152_163, s_1, s_2, s_3, s_8, s_16, s_18, s_23, s_24, s_33, s_38, s_41, s_161, f_1_0, f_1_1, f_1_4, f_1_5, f_1_8, f_1_9, f_1_10, f_1_11, f_1_12, f_1_13, f_2_0, f_2_1, f_3_3, f_3_4, f_3_5, f_3_6, f_8_2, f_8_3, f_8_4, f_8_5, f_16_2, f_18_3, f_18_4, f_18_5, f_18_6, f_23_0, f_23_1, f_23_2, f_23_3, f_23_4, f_24_2, f_24_3, f_24_4, f_24_5, f_33_3, f_33_4, f_33_5, f_33_6, f_38_1, f_38_2, f_41_0, f_161_0, f_161_1, f_161_3, f_161_7, f_161_12, f_161_13, f_161_14, f_161_15, f_161_16, f_161_17, f_161_18, f_161_19, f_161_21, f_161_22, f_161_25, true_and, and_true, true_or, or_true, if_true, if_false, ne_eq, not_false_eq_true, and_self, t10, am_psh, am_clr, not_true_eq_false, Nat.reduceEqDiff, y0, y1, show (0 : Int32).toNatClampNeg = 0 from by decide, show (1 : Int32).toNatClampNeg = 1 from by decide, hf2 0 (by omega), hf2 1 (by omega), hn, hr0, show (157 : Int32) + nI j = nI (157 + j) from nI_add 157 j, mw (L := L) (157 + j) (by omega), n_cl (show 157 + j < 2 ^ 31 by omega), nI_1]
      rw [if_neg (nI_ge (show j < gn G by omega) (by omega)), if_pos (show nI j = nI (gr G) by rw [e])]
      have k1Q := k1 Q
      rw [if_pos e] at k1Q
      exact k1Q
    · simp only [r152_120, r152_121, r152_124, r152_125, r152_126, r152_129, r152_130, r152_133, r152_136, r152_137, r152_138, r152_139, r152_140, r152_143, r152_144, r152_145, r152_148, r152_150, r152_153, r152_154, r152_157, r152_158, r152_159, r152_160, r152_163, s_1, s_2, s_3, s_8, s_16, s_18, s_23, s_24, s_33, s_38, s_41, s_161, f_1_0, f_1_1, f_1_4, f_1_5, f_1_8, f_1_9, f_1_10, f_1_11, f_1_12, f_1_13, f_2_0, f_2_1, f_3_3, f_3_4, f_3_5, f_3_6, f_8_2, f_8_3, f_8_4, f_8_5, f_16_2, f_18_3, f_18_4, f_18_5, f_18_6, f_23_0, f_23_1, f_23_2, f_23_3, f_23_4, f_24_2, f_24_3, f_24_4, f_24_5, f_33_3, f_33_4, f_33_5, f_33_6, f_38_1, f_38_2, f_41_0, f_161_0, f_161_1, f_161_3, f_161_7, f_161_12, f_161_13, f_161_14, f_161_15, f_161_16, f_161_17, f_161_18, f_161_19, f_161_21, f_161_22, f_161_25, true_and, and_true, true_or, or_true, if_true, if_false, ne_eq, not_false_eq_true, and_self, t10, am_psh, am_clr, not_true_eq_false, Nat.reduceEqDiff, y0, y1, show (0 : Int32).toNatClampNeg = 0 from by decide, show (1 : Int32).toNatClampNeg = 1 from by decide, hf2 0 (by omega), hf2 1 (by omega), hn, hr0, show (157 : Int32) + nI j = nI (157 + j) from nI_add 157 j, mw (L := L) (157 + j) (by omega), n_cl (show 157 + j < 2 ^ 31 by omega), ix173 (L := L) j (by omega), n_cl (show j < 2 ^ 31 by omega), hf 173 (by omega), he j (by omega) e, nI_1]
      rw [if_neg (nI_ge (show j < gn G by omega) (by omega)), if_neg (fun q => e ((nI_eq (by omega) (by omega)).mp q))]
      have k1Q := k1 Q
      rw [if_neg e] at k1Q
      exact k1Q
def mPost (I I1 : am_I) (G : Gr) (o o' : Option Rc) : Prop := (∀ b, b ≠ 161 → b ≠ 162 → ¬ (167 ≤ b ∧ b ≤ 173) → I1 b = I b) ∧ (∀ j, j ≠ 5 → j ≠ 20 → I1 161 j = I 161 j) ∧ I1 161 5 = rnx o (I 161 5) ∧ mS (I1 162) (G, o')
theorem mG_c {w w' : Nat → Int32} (hm : gm G ≤ 32) (h : ∀ q, q < 107 → w' q = w q) (hx : mG w G) : mG w' G := by
  obtain ⟨⟨x1, x2, x3⟩, x4, x5⟩ := hx
  refine ⟨⟨(h 0 (by omega)).trans x1, (h 1 (by omega)).trans x2, (h 2 (by omega)).trans x3⟩, fun a ha => ?_, fun v hv => (h _ (by omega)).trans (x5 v hv)⟩
  rw [h (3 + a) (by omega), h (35 + a) (by omega), h (67 + a) (by omega)]; exact x4 a ha
theorem mres_rec {R : Rc} (hG : okG G) (hr : conF G pr al 15 (con0 G) = some s) (h : mRes I G (some s)) : mC I s ∧ ∀ v, v < gn G → I 173 v = if v = gr G then -107 else nI (rt (recOf G s) v) := by
  obtain ⟨h1, h2⟩ := conF_ok hG 15 _ _ (cOK_0 hG) hr
  obtain ⟨x1, x2⟩ := h
  exact ⟨x1, fun v hv => (x2 v (by have := h1.1; omega)).trans (ctr_enc hG h1 h2 hv)⟩
theorem c_has {o : Option Rc} (hok : okS (G, o)) (hx : mS (I 162) (G, o)) : ∃ I', (∀ Q, am_C (d + 5) 152 [.ref 161] (cS L) I J Q = Q (some (.int (oB (hrc G o)))) (cS L) I' J) ∧ mPost I I' G o (hrc G o) := by
  have y107 : am_ix (cS L) 162 20 107 := mx 107 (by omega)
  have w107 : am_ixw (cS L) 162 20 107 := mw 107 (by omega)
  have w108 : am_ixw (cS L) 162 20 108 := mw 108 (by omega)
  have z107 : (107 : Int32).toNatClampNeg = 107 := by decide
  have z108 : (108 : Int32).toNatClampNeg = 108 := by decide
  cases o with
  | some R =>
    refine ⟨I, fun Q => ?_, fun _ _ _ _ => rfl, fun _ _ _ => rfl, rfl, hx⟩
    rw [e152]
    simp only [r152_0, r152_1, r152_4, r152_6, r152_7, r152_8, r152_11, r152_12, s_1, s_2, s_3, s_8, s_16, s_18, s_23, s_24, s_33, s_38, s_41, s_161, f_1_0, f_1_1, f_1_4, f_1_5, f_1_8, f_1_9, f_1_10, f_1_11, f_1_12, f_1_13, f_2_0, f_2_1, f_3_3, f_3_4, f_3_5, f_3_6, f_8_2, f_8_3, f_8_4, f_8_5, f_16_2, f_18_3, f_18_4, f_18_5, f_18_6, f_23_0, f_23_1, f_23_2, f_23_3, f_23_4, f_24_2, f_24_3, f_24_4, f_24_5, f_33_3, f_33_4, f_33_5, f_33_6, f_38_1, f_38_2, f_41_0, f_161_0, f_161_1, f_161_3, f_161_7, f_161_12, f_161_13, f_161_14, f_161_15, f_161_16, f_161_17, f_161_18, f_161_19, f_161_21, f_161_22, f_161_25, true_and, and_true, true_or, or_true, if_true, if_false, ne_eq, not_false_eq_true, and_self, t10, am_psh, am_clr, not_true_eq_false, Nat.reduceEqDiff, y107, z107, show I 162 107 = 1 from hx.2.1]
    rfl
  | none =>
    have hG : okG G := hok.1
    have hm32 : gm G ≤ 32 := hG.1.2.2.2
    have hgn : gn G ≤ 8 := hG.1.2.1
    have h107 : I 162 107 = 0 := hx.2
    obtain ⟨I1, u1, u2, u3⟩ := c_useAll (d := d + 3) (L := L) (J := J) (I := am_up I 161 5 (I 161 5 + 1)) hG (by rw [am_up_ne (by omega)]; exact hx.1)
    have e162 : I1 162 = I 162 := by rw [u2 162 (by omega) (by omega), am_up_ne (by omega)]
    obtain ⟨I2, k1, k2, k3, k4⟩ := c_contracts (d := d) (L := L) (J := J) (I := I1) (pr := coG G) (al := alT) hG (by rw [e162]; exact hx.1) (fun a ha => ⟨(u3 a ha).1, by rw [(u3 a ha).2, b32_T (p := alT a = true) (b_m1 a (by omega))]⟩)
    have f2 : ∀ b, b ≠ 161 → ¬ (167 ≤ b ∧ b ≤ 173) → I2 b = I b := fun b b1 b2 => by rw [k2 b b1 (by omega), u2 b (by omega) (by omega), am_up_ne b1]
    have f21 : ∀ j, j ≠ 5 → j ≠ 20 → I2 161 j = I 161 j := fun j h1 h2 => by rw [k3 j h2, u2 161 (by omega) (by omega), up_ne _ _ (Or.inr h1)]
    have f25 : I2 161 5 = I 161 5 + 1 := by rw [k3 5 (by omega), u2 161 (by omega) (by omega), up_self]
    have f162 : I2 162 = I 162 := f2 162 (by omega) (by omega)
    have hrun : ∀ Q, am_C (d + 5) 152 [.ref 161] (cS L) I J Q = am_T (d + 4) 152 31 [some (.ref 161), none] [.int (oB (conF G (coG G) alT 15 (con0 G)))] (cS L) I2 J Q := fun Q => by
      rw [e152]
      simp only [r152_0, r152_1, r152_4, r152_6, r152_7, r152_8, r152_11, r152_12, r152_13, r152_14, r152_15, r152_18, r152_19, r152_20, r152_23, r152_24, s_1, s_2, s_3, s_8, s_16, s_18, s_23, s_24, s_33, s_38, s_41, s_161, f_1_0, f_1_1, f_1_4, f_1_5, f_1_8, f_1_9, f_1_10, f_1_11, f_1_12, f_1_13, f_2_0, f_2_1, f_3_3, f_3_4, f_3_5, f_3_6, f_8_2, f_8_3, f_8_4, f_8_5, f_16_2, f_18_3, f_18_4, f_18_5, f_18_6, f_23_0, f_23_1, f_23_2, f_23_3, f_23_4, f_24_2, f_24_3, f_24_4, f_24_5, f_33_3, f_33_4, f_33_5, f_33_6, f_38_1, f_38_2, f_41_0, f_161_0, f_161_1, f_161_3, f_161_7, f_161_12, f_161_13, f_161_14, f_161_15, f_161_16, f_161_17, f_161_18, f_161_19, f_161_21, f_161_22, f_161_25, true_and, and_true, true_or, or_true, if_true, if_false, ne_eq, not_false_eq_true, and_self, t10, am_psh, am_clr, not_true_eq_false, Nat.reduceEqDiff, y107, z107, h107]
      rw [if_neg (by decide), u1]
      simp only [r152_27, r152_28, s_1, s_2, s_3, s_8, s_16, s_18, s_23, s_24, s_33, s_38, s_41, s_161, f_1_0, f_1_1, f_1_4, f_1_5, f_1_8, f_1_9, f_1_10, f_1_11, f_1_12, f_1_13, f_2_0, f_2_1, f_3_3, f_3_4, f_3_5, f_3_6, f_8_2, f_8_3, f_8_4, f_8_5, f_16_2, f_18_3, f_18_4, f_18_5, f_18_6, f_23_0, f_23_1, f_23_2, f_23_3, f_23_4, f_24_2, f_24_3, f_24_4, f_24_5, f_33_3, f_33_4, f_33_5, f_33_6, f_38_1, f_38_2, f_41_0, f_161_0, f_161_1, f_161_3, f_161_7, f_161_12, f_161_13, f_161_14, f_161_15, f_161_16, f_161_17, f_161_18, f_161_19, f_161_21, f_161_22, f_161_25, true_and, and_true, true_or, or_true, if_true, if_false, ne_eq, not_false_eq_true, and_self, t10, am_psh, am_clr, not_true_eq_false, Nat.reduceEqDiff]
      rw [k1]
    cases hc : conF G (coG G) alT 15 (con0 G) with
    | none =>
      have hh : hrc G none = none := by show conR G (coG G) alT = none; unfold conR; rw [hc]; rfl
      rw [hh]
      refine ⟨I2, fun Q => ?_, fun b b1 b2 b3 => f2 b b1 b3, f21, f25, by rw [f162]; exact hx⟩
      rw [hrun, hc]
      simp only [r152_31, r152_34, r152_35, s_1, s_2, s_3, s_8, s_16, s_18, s_23, s_24, s_33, s_38, s_41, s_161, f_1_0, f_1_1, f_1_4, f_1_5, f_1_8, f_1_9, f_1_10, f_1_11, f_1_12, f_1_13, f_2_0, f_2_1, f_3_3, f_3_4, f_3_5, f_3_6, f_8_2, f_8_3, f_8_4, f_8_5, f_16_2, f_18_3, f_18_4, f_18_5, f_18_6, f_23_0, f_23_1, f_23_2, f_23_3, f_23_4, f_24_2, f_24_3, f_24_4, f_24_5, f_33_3, f_33_4, f_33_5, f_33_6, f_38_1, f_38_2, f_41_0, f_161_0, f_161_1, f_161_3, f_161_7, f_161_12, f_161_13, f_161_14, f_161_15, f_161_16, f_161_17, f_161_18, f_161_19, f_161_21, f_161_22, f_161_25, true_and, and_true, true_or, or_true, if_true, if_false, ne_eq, not_false_eq_true, and_self, t10, am_psh, am_clr, not_true_eq_false, Nat.reduceEqDiff, oB, t01]
    | some s' =>
      have hh : hrc G none = some (recOf G s') := by show conR G (coG G) alT = _; unfold conR; rw [hc]; rfl
      rw [hh]
      obtain ⟨r1, r2⟩ := mres_rec (R := recOf G s') hG hc (by rw [hc] at k4; exact k4)
      obtain ⟨h1, h2⟩ := conF_ok hG 15 _ _ (cOK_0 hG) hc
      have hk : vk s' < 2 * gn G := ck_le hG h1
      obtain ⟨I3, p1, p2, p3, p4⟩ := hr_1 (d := d + 4) (L := L) (J := J) (s := s') (I := am_up (am_up I2 162 107 1) 162 108 (nI (vk s'))) (by omega) (mC_congr (I := I2) (by rw [am_up_ne (by omega), am_up_ne (by omega)]) (fun b b1 b2 => by rw [am_up_ne (by omega), am_up_ne (by omega)]) r1) (vk s') 0 (am_up (am_up I2 162 107 1) 162 108 (nI (vk s'))) (by omega) (fun _ _ => rfl) (fun _ _ => rfl) (fun q hq => absurd hq (Nat.not_lt_zero q))
      have g3 : ∀ b, b ≠ 162 → I3 b = I2 b := fun b hb => by rw [p2 b hb, am_up_ne hb, am_up_ne hb]
      have q3 : ∀ q, q < 107 → I3 162 q = I 162 q := fun q hq => by rw [p3 q (by omega), up_ne _ _ (Or.inr (by omega)), up_ne _ _ (Or.inr (by omega)), f162]
      obtain ⟨I4, v1, v2, v3, v4⟩ := hr_2 (d := d + 4) (L := L) (J := J) (I := I3) (t := rt (recOf G s')) hG (by rw [q3 0 (by omega)]; exact hx.1.1.1) (by rw [q3 1 (by omega)]; exact hx.1.1.2.1) (fun v hv hr => by rw [g3 173 (by omega), r2 v hv, if_neg hr]) (gn G) 0 I3 (by omega) (fun _ _ => rfl) (fun _ _ => rfl) (fun v hv => absurd hv (Nat.not_lt_zero v))
      refine ⟨I4, fun Q => ?_, fun b b1 b2 b3 => by rw [v2 b b2, g3 b b2, f2 b b1 b3], fun j h1 h2 => by rw [v2 161 (by omega), g3 161 (by omega), f21 j h1 h2], by rw [v2 161 (by omega), g3 161 (by omega)]; exact f25, mG_c hm32 (fun q hq => by rw [v3 q (by omega), q3 q hq]) hx.1, ?_, ?_, fun g hg => ?_, fun v hv => v4 v hv⟩
      · rw [hrun, hc]
        simp only [r152_31, r152_34, r152_35, r152_36, r152_37, r152_40, r152_42, r152_43, r152_44, r152_45, r152_48, r152_50, r152_51, r152_54, r152_55, r152_56, s_1, s_2, s_3, s_8, s_16, s_18, s_23, s_24, s_33, s_38, s_41, s_161, f_1_0, f_1_1, f_1_4, f_1_5, f_1_8, f_1_9, f_1_10, f_1_11, f_1_12, f_1_13, f_2_0, f_2_1, f_3_3, f_3_4, f_3_5, f_3_6, f_8_2, f_8_3, f_8_4, f_8_5, f_16_2, f_18_3, f_18_4, f_18_5, f_18_6, f_23_0, f_23_1, f_23_2, f_23_3, f_23_4, f_24_2, f_24_3, f_24_4, f_24_5, f_33_3, f_33_4, f_33_5, f_33_6, f_38_1, f_38_2, f_41_0, f_161_0, f_161_1, f_161_3, f_161_7, f_161_12, f_161_13, f_161_14, f_161_15, f_161_16, f_161_17, f_161_18, f_161_19, f_161_21, f_161_22, f_161_25, true_and, and_true, true_or, or_true, if_true, if_false, ne_eq, not_false_eq_true, and_self, t10, am_psh, am_clr, not_true_eq_false, Nat.reduceEqDiff, oB, w107, w108, z107, z108, am_up_ne (show 161 ≠ 162 by omega), r1.1]
        refine Eq.trans (p1 Q) ?_
        simp only [r152_117, r152_118, s_1, s_2, s_3, s_8, s_16, s_18, s_23, s_24, s_33, s_38, s_41, s_161, f_1_0, f_1_1, f_1_4, f_1_5, f_1_8, f_1_9, f_1_10, f_1_11, f_1_12, f_1_13, f_2_0, f_2_1, f_3_3, f_3_4, f_3_5, f_3_6, f_8_2, f_8_3, f_8_4, f_8_5, f_16_2, f_18_3, f_18_4, f_18_5, f_18_6, f_23_0, f_23_1, f_23_2, f_23_3, f_23_4, f_24_2, f_24_3, f_24_4, f_24_5, f_33_3, f_33_4, f_33_5, f_33_6, f_38_1, f_38_2, f_41_0, f_161_0, f_161_1, f_161_3, f_161_7, f_161_12, f_161_13, f_161_14, f_161_15, f_161_16, f_161_17, f_161_18, f_161_19, f_161_21, f_161_22, f_161_25, true_and, and_true, true_or, or_true, if_true, if_false, ne_eq, not_false_eq_true, and_self, t10, am_psh, am_clr, not_true_eq_false, Nat.reduceEqDiff]
        exact v1 Q
      · rw [v3 107 (by omega), p3 107 (by omega), up_ne _ _ (Or.inr (by omega)), up_self]
      · rw [v3 108 (by omega), p3 108 (by omega), up_self]; rfl
      · have hg' : g < vk s' := hg
        rw [v3 (109 + g) (by omega), v3 (125 + g) (by omega), v3 (141 + g) (by omega)]; exact p4 g hg'
end RM
