/-! undo, save, restore -/
section UN
variable {d L : Nat} {I I' : am_I} {J J' : am_J} {Q : am_Q}
/-- a row, its first k places taken over from another -/
def tk (w u : Nat → Int32) (k : Nat) : Nat → Int32 := fun j => if j < k then u j else w j
theorem tk_0 (w u : Nat → Int32) : tk w u 0 = w := by funext j; unfold tk; rw [if_neg (by omega)]
theorem tk_s (w u : Nat → Int32) (k : Nat) : (fun j => if j = k then u k else tk w u k j) = tk w u (k + 1) := by
  funext j
  unfold tk
  by_cases e : j = k
  · subst e; rw [if_pos rfl, if_pos (by omega)]
  · by_cases g : j < k
    · rw [if_neg e, if_pos g, if_pos (by omega)]
    · rw [if_neg e, if_neg g, if_neg (by omega)]
theorem mu_1 {c : Nat} (hc : c < 8) (h2 : I 161 2 = nI c) : ∀ (n k : Nat), k + n = 165 → am_T d 133 22 [some (.ref 161), some (.int (nI k))] [] (cS L) (am_row I 162 (tk (I 162) (shf (I 163) (165 * c)) k)) J Q = am_T d 133 56 [some (.ref 161), some (.int (nI 165))] [] (cS L) (am_row I 162 (tk (I 162) (shf (I 163) (165 * c)) 165)) J Q := by
  intro n
  induction n with
  | zero =>
    intro k hk
    have hk : k = 165 := by omega
    subst hk
    rw [r133_22]
    simp only [r133_23, r133_26]
    rw [if_pos (by decide)]
  | succ n ih =>
    intro k hk
    rw [r133_22]
    simp only [r133_23, r133_26, r133_29, r133_30, r133_33, r133_34, r133_35, r133_38, r133_41, r133_42, r133_45, r133_46, r133_47, r133_48, r133_49, r133_50, r133_53, s_1, s_2, s_3, s_8, s_16, s_18, s_23, s_24, s_33, s_38, s_41, s_161, f_1_0, f_1_1, f_1_4, f_1_5, f_1_8, f_1_9, f_1_10, f_1_11, f_1_12, f_1_13, f_2_0, f_2_1, f_3_3, f_3_4, f_3_5, f_3_6, f_8_2, f_8_3, f_8_4, f_8_5, f_16_2, f_18_3, f_18_4, f_18_5, f_18_6, f_23_0, f_23_1, f_23_2, f_23_3, f_23_4, f_24_2, f_24_3, f_24_4, f_24_5, f_33_3, f_33_4, f_33_5, f_33_6, f_38_1, f_38_2, f_41_0, f_161_0, f_161_1, f_161_3, f_161_7, f_161_12, f_161_13, f_161_14, f_161_15, f_161_16, f_161_17, f_161_18, f_161_19, f_161_21, f_161_22, f_161_25, true_and, and_true, true_or, or_true, if_true, if_false, ne_eq, not_false_eq_true, and_self, t10, am_psh, am_clr, not_true_eq_false, Nat.reduceEqDiff, (show ∀ h : Nat → Int32, am_row I 162 h 161 = I 161 from fun h => am_row_ne (by omega)), (show ∀ h : Nat → Int32, am_row I 162 h 163 = I 163 from fun h => am_row_ne (by omega)), h2]
    rw [if_neg (show ¬ (165 : Int32) ≤ nI k from ge_lit (c := 165) rfl (by omega) (by omega)), show (165 : Int32) * nI c = nI (165 * c) from pk_mul 165 c, nI_add, nI_1, n_cl (by omega), n_cl (by omega), up_row, row_row, eq_true (px (165 * c + k) (by omega)), eq_true (mw k (by omega)), true_and, true_and, am_row_eq]
    rw [show (fun j => if j = k then I 163 (165 * c + k) else tk (I 162) (shf (I 163) (165 * c)) k j) = tk (I 162) (shf (I 163) (165 * c)) (k + 1) from tk_s (I 162) (shf (I 163) (165 * c)) k]
    exact ih (k + 1) (by omega)
theorem op_undo : am_OK L Inv 70 133 [] := by
  intro I J hI
  have hI0 := hI
  obtain ⟨s, hs, s0, s1, n, tx, hok, hx, hm, hl, hh, hsl, hru, htx⟩ := hI
  obtain ⟨hO, hhM, o, ho, hhX⟩ := xH_iff.mp hh
  by_cases hn : hs.length = 0
  · refine ok_same hI0 (x := -105) (fun Q => ?_) (fun Q => ?_)
    · rw [e70]; simp only [r70_0, r70_1, r70_4, r70_7, r70_9, r70_10, r70_11, r70_12, r70_15, r70_16, r70_17, r70_20, r70_21, r70_24, r70_25, r70_28, r70_29, r70_32, r70_33, r70_36, r70_37, r70_39, r70_40, r70_41, r70_44, r70_45, r70_48, r70_51, r70_52, r70_55, s_1, s_2, s_3, s_8, s_16, s_18, s_23, s_24, s_33, s_38, s_41, s_161, f_1_0, f_1_1, f_1_4, f_1_5, f_1_8, f_1_9, f_1_10, f_1_11, f_1_12, f_1_13, f_2_0, f_2_1, f_3_3, f_3_4, f_3_5, f_3_6, f_8_2, f_8_3, f_8_4, f_8_5, f_16_2, f_18_3, f_18_4, f_18_5, f_18_6, f_23_0, f_23_1, f_23_2, f_23_3, f_23_4, f_24_2, f_24_3, f_24_4, f_24_5, f_33_3, f_33_4, f_33_5, f_33_6, f_38_1, f_38_2, f_41_0, f_161_0, f_161_1, f_161_3, f_161_7, f_161_12, f_161_13, f_161_14, f_161_15, f_161_16, f_161_17, f_161_18, f_161_19, f_161_21, f_161_22, f_161_25, true_and, and_true, true_or, or_true, if_true, if_false, ne_eq, not_false_eq_true, and_self, t10, am_psh, am_clr, not_true_eq_false, Nat.reduceEqDiff, hhX.2.1, hn]
      rw [if_pos (show nI 0 = 0 from rfl)]
    · rw [e133]; simp only [r133_0, r133_1, r133_4, r133_7, r133_9, r133_10, r133_11, r133_12, r133_15, r133_16, r133_17, r133_20, r133_21, r133_23, r133_26, r133_29, r133_30, r133_33, r133_34, r133_35, r133_38, r133_41, r133_42, r133_45, r133_46, r133_47, r133_48, r133_49, r133_50, r133_53, r133_56, r133_57, r133_60, s_1, s_2, s_3, s_8, s_16, s_18, s_23, s_24, s_33, s_38, s_41, s_161, f_1_0, f_1_1, f_1_4, f_1_5, f_1_8, f_1_9, f_1_10, f_1_11, f_1_12, f_1_13, f_2_0, f_2_1, f_3_3, f_3_4, f_3_5, f_3_6, f_8_2, f_8_3, f_8_4, f_8_5, f_16_2, f_18_3, f_18_4, f_18_5, f_18_6, f_23_0, f_23_1, f_23_2, f_23_3, f_23_4, f_24_2, f_24_3, f_24_4, f_24_5, f_33_3, f_33_4, f_33_5, f_33_6, f_38_1, f_38_2, f_41_0, f_161_0, f_161_1, f_161_3, f_161_7, f_161_12, f_161_13, f_161_14, f_161_15, f_161_16, f_161_17, f_161_18, f_161_19, f_161_21, f_161_22, f_161_25, true_and, and_true, true_or, or_true, if_true, if_false, ne_eq, not_false_eq_true, and_self, t10, am_psh, am_clr, not_true_eq_false, Nat.reduceEqDiff, hhM.1, hn]
      rw [if_pos (show nI 0 = 0 from rfl)]
  · have h8 := hO.1
    obtain ⟨k, hk⟩ : ∃ k, hs.length = k + 1 := ⟨hs.length - 1, by omega⟩
    obtain ⟨s', hs'⟩ : ∃ s', hs[k]? = some s' := ⟨hs[k], List.getElem?_eq_getElem (by omega)⟩
    have hoks := hO.2 k s' hs'
    have hxs := hhX.2.2 k s' hs'
    have hms := hhM.2 k s' hs'
    have hi : (o + k) % 8 < 8 := Nat.mod_lt _ (by omega)
    have hxs2 : xS (am_up I 1 3 (nI k)) (kA o k + 1) (kA o k + 6) s' := xS_congr (fun b b1 b2 => am_up_ne (by unfold kA at b1; omega)) (fun b b1 b2 => am_up_ne (by unfold kA at b1; omega)) hxs
    obtain ⟨I1, h1, e1, q1⟩ := c_Sta_copy (d := 37) (L := L) (I := am_up I 1 3 (nI k)) (J := J) (shS_2 L) (shS_k L hi) (by omega) (xS_01 hxs2)
    have f1 : ∀ b, b ≠ 1 → b ≠ 33 → (b < 3 ∨ 13 ≤ b) → (am_up I1 33 0 0) b = I b := fun b b1 b2 b3 => by rw [am_up_ne b2, e1 b (by omega), am_up_ne b1]
    have f11 : (am_up I1 33 0 0) 1 = am_up I 1 3 (nI k) 1 := by rw [am_up_ne (by omega), e1 1 (by omega)]
    have nz : ¬ nI (k + 1) = 0 := fun q => absurd ((nI_eq (b := 0) (by omega) (by omega)).mp q) (by omega)
    have g161 : (am_up I1 33 0 0) 161 = I 161 := f1 161 (by omega) (by omega) (by omega)
    refine ⟨.int (nI k), am_up I1 33 0 0, J, am_row (am_up (am_up I1 33 0 0) 161 2 (nI k)) 162 (tk (I 162) (shf (I 163) (165 * k)) 165), J, fun Q => ?_, f1 0 (by omega) (by omega) (by omega), fun Q => ?_, by rw [am_row_ne (by omega), am_up_ne (by omega), f1 0 (by omega) (by omega) (by omega)], ?_, _, rfl⟩
    · rw [e70]; simp only [r70_0, r70_1, r70_4, r70_7, r70_9, r70_10, r70_11, r70_12, r70_15, r70_16, r70_17, r70_20, r70_21, r70_24, r70_25, r70_28, r70_29, r70_32, r70_33, r70_36, r70_37, r70_39, r70_40, s_1, s_2, s_3, s_8, s_16, s_18, s_23, s_24, s_33, s_38, s_41, s_161, f_1_0, f_1_1, f_1_4, f_1_5, f_1_8, f_1_9, f_1_10, f_1_11, f_1_12, f_1_13, f_2_0, f_2_1, f_3_3, f_3_4, f_3_5, f_3_6, f_8_2, f_8_3, f_8_4, f_8_5, f_16_2, f_18_3, f_18_4, f_18_5, f_18_6, f_23_0, f_23_1, f_23_2, f_23_3, f_23_4, f_24_2, f_24_3, f_24_4, f_24_5, f_33_3, f_33_4, f_33_5, f_33_6, f_38_1, f_38_2, f_41_0, f_161_0, f_161_1, f_161_3, f_161_7, f_161_12, f_161_13, f_161_14, f_161_15, f_161_16, f_161_17, f_161_18, f_161_19, f_161_21, f_161_22, f_161_25, true_and, and_true, true_or, or_true, if_true, if_false, ne_eq, not_false_eq_true, and_self, t10, am_psh, am_clr, not_true_eq_false, Nat.reduceEqDiff, hhX.2.1, hk, nI_pred, up_self]
      rw [if_neg nz, up_ne _ _ (Or.inr (by omega)), hhX.1, nI_add, rem8 (by omega)]
      simp only [eq_true (ixq_13 (L := L) hi), n_cl (show (o + k) % 8 < 2 ^ 31 by omega), rf_13 hi, show ((8 : Int32) = 0) = False from eq_false (by decide), not_false_eq_true, true_and, r70_41, s_1, s_2, s_3, s_8, s_16, s_18, s_23, s_24, s_33, s_38, s_41, s_161, f_1_0, f_1_1, f_1_4, f_1_5, f_1_8, f_1_9, f_1_10, f_1_11, f_1_12, f_1_13, f_2_0, f_2_1, f_3_3, f_3_4, f_3_5, f_3_6, f_8_2, f_8_3, f_8_4, f_8_5, f_16_2, f_18_3, f_18_4, f_18_5, f_18_6, f_23_0, f_23_1, f_23_2, f_23_3, f_23_4, f_24_2, f_24_3, f_24_4, f_24_5, f_33_3, f_33_4, f_33_5, f_33_6, f_38_1, f_38_2, f_41_0, f_161_0, f_161_1, f_161_3, f_161_7, f_161_12, f_161_13, f_161_14, f_161_15, f_161_16, f_161_17, f_161_18, f_161_19, f_161_21, f_161_22, f_161_25, true_and, and_true, true_or, or_true, if_true, if_false, ne_eq, not_false_eq_true, and_self, t10, am_psh, am_clr, not_true_eq_false, Nat.reduceEqDiff]
      rw [h1]
      simp only [r70_44, r70_45, r70_48, r70_51, r70_52, r70_55, s_1, s_2, s_3, s_8, s_16, s_18, s_23, s_24, s_33, s_38, s_41, s_161, f_1_0, f_1_1, f_1_4, f_1_5, f_1_8, f_1_9, f_1_10, f_1_11, f_1_12, f_1_13, f_2_0, f_2_1, f_3_3, f_3_4, f_3_5, f_3_6, f_8_2, f_8_3, f_8_4, f_8_5, f_16_2, f_18_3, f_18_4, f_18_5, f_18_6, f_23_0, f_23_1, f_23_2, f_23_3, f_23_4, f_24_2, f_24_3, f_24_4, f_24_5, f_33_3, f_33_4, f_33_5, f_33_6, f_38_1, f_38_2, f_41_0, f_161_0, f_161_1, f_161_3, f_161_7, f_161_12, f_161_13, f_161_14, f_161_15, f_161_16, f_161_17, f_161_18, f_161_19, f_161_21, f_161_22, f_161_25, true_and, and_true, true_or, or_true, if_true, if_false, ne_eq, not_false_eq_true, and_self, t10, am_psh, am_clr, not_true_eq_false, Nat.reduceEqDiff, c_forget, f11, up_self]
    · rw [e133]; simp only [r133_0, r133_1, r133_4, r133_7, r133_9, r133_10, r133_11, r133_12, r133_15, r133_16, r133_17, r133_20, r133_21, s_1, s_2, s_3, s_8, s_16, s_18, s_23, s_24, s_33, s_38, s_41, s_161, f_1_0, f_1_1, f_1_4, f_1_5, f_1_8, f_1_9, f_1_10, f_1_11, f_1_12, f_1_13, f_2_0, f_2_1, f_3_3, f_3_4, f_3_5, f_3_6, f_8_2, f_8_3, f_8_4, f_8_5, f_16_2, f_18_3, f_18_4, f_18_5, f_18_6, f_23_0, f_23_1, f_23_2, f_23_3, f_23_4, f_24_2, f_24_3, f_24_4, f_24_5, f_33_3, f_33_4, f_33_5, f_33_6, f_38_1, f_38_2, f_41_0, f_161_0, f_161_1, f_161_3, f_161_7, f_161_12, f_161_13, f_161_14, f_161_15, f_161_16, f_161_17, f_161_18, f_161_19, f_161_21, f_161_22, f_161_25, true_and, and_true, true_or, or_true, if_true, if_false, ne_eq, not_false_eq_true, and_self, t10, am_psh, am_clr, not_true_eq_false, Nat.reduceEqDiff, g161, hhM.1, hk, nI_pred]
      rw [if_neg nz]
      have h := mu_1 (d := 39) (L := L) (J := J) (Q := Q) (I := am_up (am_up I1 33 0 0) 161 2 (nI k)) (c := k) (by omega) (up_self _ _ _ _) 165 0 rfl
      rw [tk_0, row_id rfl] at h
      refine Eq.trans h ?_
      simp only [r133_56, r133_57, r133_60, s_1, s_2, s_3, s_8, s_16, s_18, s_23, s_24, s_33, s_38, s_41, s_161, f_1_0, f_1_1, f_1_4, f_1_5, f_1_8, f_1_9, f_1_10, f_1_11, f_1_12, f_1_13, f_2_0, f_2_1, f_3_3, f_3_4, f_3_5, f_3_6, f_8_2, f_8_3, f_8_4, f_8_5, f_16_2, f_18_3, f_18_4, f_18_5, f_18_6, f_23_0, f_23_1, f_23_2, f_23_3, f_23_4, f_24_2, f_24_3, f_24_4, f_24_5, f_33_3, f_33_4, f_33_5, f_33_6, f_38_1, f_38_2, f_41_0, f_161_0, f_161_1, f_161_3, f_161_7, f_161_12, f_161_13, f_161_14, f_161_15, f_161_16, f_161_17, f_161_18, f_161_19, f_161_21, f_161_22, f_161_25, true_and, and_true, true_or, or_true, if_true, if_false, ne_eq, not_false_eq_true, and_self, t10, am_psh, am_clr, not_true_eq_false, Nat.reduceEqDiff, am_row_ne (show 161 ≠ 162 by omega), up_self, am_up_ne (show 162 ≠ 161 by omega), am_up_ne (show 163 ≠ 161 by omega)]
      rw [f1 162 (by omega) (by omega) (by omega), f1 163 (by omega) (by omega) (by omega)]
    · have hdl : ∀ i s2, hs.dropLast[i]? = some s2 → hs[i]? = some s2 ∧ i < k := fun i s2 h => by
        have hi2 := (List.getElem?_eq_some_iff.mp h).1
        rw [List.length_dropLast] at hi2
        rw [List.getElem?_dropLast] at h
        rw [if_pos (by omega)] at h
        exact ⟨h, by omega⟩
      have hdl2 : hs.dropLast.length = k := by rw [List.length_dropLast]; omega
      have F : ∀ b, b ≠ 161 → b ≠ 162 → (am_row (am_up (am_up I1 33 0 0) 161 2 (nI k)) 162 (tk (I 162) (shf (I 163) (165 * k)) 165)) b = (am_up I1 33 0 0) b := fun b b1 b2 => by rw [am_row_ne b2, am_up_ne b1]
      have F161 : ∀ j, j ≠ 2 → (am_row (am_up (am_up I1 33 0 0) 161 2 (nI k)) 162 (tk (I 162) (shf (I 163) (165 * k)) 165)) 161 j = I 161 j := fun j hj => by rw [am_row_ne (by omega), up_ne _ _ (Or.inr hj), g161]
      refine Inv_of (I := I) (s' := s') (hs' := hs.dropLast) (s0 := s0) (s1 := s1) (n := n) (o := o) (tx := tx) hoks (xS_congr (fun b b1 b2 => ?_) (fun b b1 b2 => ?_) (q1 s' hoks hxs2)) ?_ (Or.inl ?_) ⟨by omega, fun i s2 h => hO.2 i s2 (hdl i s2 h).1⟩ ⟨?_, fun i s2 h => ?_⟩ ho ⟨?_, ?_, fun i s2 h => ?_⟩ ⟨?_, ?_⟩ hsl htx (fun b hb => ?_) (F161 4 (by omega)) (F161 8 (by omega))
      · rw [F b (by omega) (by omega), am_up_ne (by omega)]
      · rw [F b (by omega) (by omega), am_up_ne (by omega)]
      · rw [am_row_eq]
        refine mS_congr hoks (fun j hj => ?_) hms
        unfold tk; rw [if_pos hj]
      · rw [F 33 (by omega) (by omega), up_self]
      · rw [am_row_ne (by omega), up_self, hdl2]
      · rw [F 163 (by omega) (by omega), f1 163 (by omega) (by omega) (by omega)]; exact hhM.2 i s2 (hdl i s2 h).1
      · rw [F 1 (by omega) (by omega), f11, up_ne _ _ (Or.inr (by omega))]; exact hhX.1
      · rw [F 1 (by omega) (by omega), f11, up_self, hdl2]
      · refine xS_congr (fun b b1 b2 => ?_) (fun b b1 b2 => ?_) (hhX.2.2 i s2 (hdl i s2 h).1)
        · rw [F b (by unfold kA at b1 b2; omega) (by unfold kA at b1 b2; omega), f1 b (by unfold kA at b1 b2; omega) (by unfold kA at b1 b2; omega) (by unfold kA at b1 b2; omega)]
        · rw [F b (by unfold kA at b1 b2; omega) (by unfold kA at b1 b2; omega), f1 b (by unfold kA at b1 b2; omega) (by unfold kA at b1 b2; omega) (by unfold kA at b1 b2; omega)]
      · rw [F 1 (by omega) (by omega), f11, up_ne _ _ (Or.inr (by omega)), F161 5 (by omega)]; exact hru.1
      · rw [F 1 (by omega) (by omega), f11, up_ne _ _ (Or.inr (by omega)), F161 6 (by omega)]; exact hru.2
      · rw [F b (by omega) (by omega), f1 b (by omega) (by omega) (by omega)]
end UN
