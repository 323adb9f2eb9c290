/-! what is kept for undoing: the model -/
section MK
variable {d L : Nat} {I : am_I} {J : am_J} {Q : am_Q}
theorem px (k : Nat) (hk : k < 1320) : am_ix (cS L) 163 20 (nI k) := ix_nI (k_163 L) (n_163 L) hk (by omega)
theorem pw (k : Nat) (hk : k < 1320) : am_ixw (cS L) 163 20 (nI k) := ixw_nI (k_163 L) (by omega) (n_163 L) hk (by omega)
theorem ge_lit {c k : Nat} {x : Int32} (hx : x = nI c) (hc : c < 2 ^ 31) (hk : k < c) : ¬ x ≤ nI k := fun h => by subst hx; exact absurd ((nI_leI hc (by omega)).mp h) (by omega)
theorem mk_1 : ∀ (n k : Nat), k + n = 1155 → am_T d 116 11 [some (.ref 161), some (.int (nI k))] [] (cS L) (am_row I 163 (fun j => if j < k then I 163 (j + 165) else I 163 j)) J Q = am_T d 116 40 [some (.ref 161), some (.int (nI 1155))] [] (cS L) (am_row I 163 (fun j => if j < 1155 then I 163 (j + 165) else I 163 j)) J Q := by
  intro n
  induction n with
  | zero =>
    intro k hk
    have hk : k = 1155 := by omega
    subst hk
    rw [r116_11]
    simp only [r116_12, r116_15]
    rw [if_pos (by decide)]
  | succ n ih =>
    intro k hk
    rw [r116_11]
    simp only [r116_12, r116_15, r116_18, r116_19, r116_22, r116_23, r116_24, r116_27, r116_28, r116_31, r116_32, r116_33, r116_34, r116_37, s_1, s_2, s_3, s_8, s_16, s_18, s_23, s_24, s_33, s_38, s_41, s_161, f_1_0, f_1_1, f_1_4, f_1_5, f_1_8, f_1_9, f_1_10, f_1_11, f_1_12, f_1_13, f_2_0, f_2_1, f_3_3, f_3_4, f_3_5, f_3_6, f_8_2, f_8_3, f_8_4, f_8_5, f_16_2, f_18_3, f_18_4, f_18_5, f_18_6, f_23_0, f_23_1, f_23_2, f_23_3, f_23_4, f_24_2, f_24_3, f_24_4, f_24_5, f_33_3, f_33_4, f_33_5, f_33_6, f_38_1, f_38_2, f_41_0, f_161_0, f_161_1, f_161_3, f_161_7, f_161_12, f_161_13, f_161_14, f_161_15, f_161_16, f_161_17, f_161_18, f_161_19, f_161_21, f_161_22, f_161_25, true_and, and_true, true_or, or_true, if_true, if_false, ne_eq, not_false_eq_true, and_self, t10, am_psh, am_clr, not_true_eq_false, Nat.reduceEqDiff]
    rw [if_neg (show ¬ (1155 : Int32) ≤ nI k from ge_lit (c := 1155) rfl (by omega) (by omega)), show nI k + 165 = nI (k + 165) from nI_add k 165, nI_1, n_cl (by omega), n_cl (by omega), row_self, if_neg (by omega), up_row, row_row, eq_true (px (k + 165) (by omega)), eq_true (pw k (by omega)), true_and, true_and]
    have e : (fun j => if j = k then I 163 (k + 165) else am_row I 163 (fun j => if j < k then I 163 (j + 165) else I 163 j) 163 j) = (fun j => if j < k + 1 then I 163 (j + 165) else I 163 j) := by
      funext j
      rw [row_self]
      by_cases e : j = k
      · subst e; rw [if_pos rfl, if_pos (by omega)]
      · by_cases g : j < k
        · rw [if_neg e, if_pos g, if_pos (by omega)]
        · rw [if_neg e, if_neg g, if_neg (by omega)]
    rw [e]
    exact ih (k + 1) (by omega)
theorem mk_2 {c : Nat} (hc : c < 8) (h2 : I 161 2 = nI c) : ∀ (n k : Nat), k + n = 165 → am_T d 116 52 [some (.ref 161), some (.int (nI k))] [] (cS L) (am_row I 163 (fun j => if 165 * c ≤ j ∧ j < 165 * c + k then I 162 (j - 165 * c) else I 163 j)) J Q = am_T d 116 86 [some (.ref 161), some (.int (nI 165))] [] (cS L) (am_row I 163 (fun j => if 165 * c ≤ j ∧ j < 165 * c + 165 then I 162 (j - 165 * c) else I 163 j)) J Q := by
  intro n
  induction n with
  | zero =>
    intro k hk
    have hk : k = 165 := by omega
    subst hk
    rw [r116_52]
    simp only [r116_53, r116_56]
    rw [if_pos (by decide)]
  | succ n ih =>
    intro k hk
    rw [r116_52]
    simp only [r116_53, r116_56, r116_59, r116_60, r116_63, r116_66, r116_67, r116_70, r116_71, r116_72, r116_73, r116_74, r116_77, r116_78, r116_79, r116_80, r116_83, s_1, s_2, s_3, s_8, s_16, s_18, s_23, s_24, s_33, s_38, s_41, s_161, f_1_0, f_1_1, f_1_4, f_1_5, f_1_8, f_1_9, f_1_10, f_1_11, f_1_12, f_1_13, f_2_0, f_2_1, f_3_3, f_3_4, f_3_5, f_3_6, f_8_2, f_8_3, f_8_4, f_8_5, f_16_2, f_18_3, f_18_4, f_18_5, f_18_6, f_23_0, f_23_1, f_23_2, f_23_3, f_23_4, f_24_2, f_24_3, f_24_4, f_24_5, f_33_3, f_33_4, f_33_5, f_33_6, f_38_1, f_38_2, f_41_0, f_161_0, f_161_1, f_161_3, f_161_7, f_161_12, f_161_13, f_161_14, f_161_15, f_161_16, f_161_17, f_161_18, f_161_19, f_161_21, f_161_22, f_161_25, true_and, and_true, true_or, or_true, if_true, if_false, ne_eq, not_false_eq_true, and_self, t10, am_psh, am_clr, not_true_eq_false, Nat.reduceEqDiff, (show ∀ h : Nat → Int32, am_row I 163 h 161 = I 161 from fun h => am_row_ne (by omega)), (show ∀ h : Nat → Int32, am_row I 163 h 162 = I 162 from fun h => am_row_ne (by omega)), h2]
    rw [if_neg (show ¬ (165 : Int32) ≤ nI k from ge_lit (c := 165) rfl (by omega) (by omega)), show (165 : Int32) * nI c = nI (165 * c) from pk_mul 165 c, nI_add, nI_1, n_cl (by omega), n_cl (by omega), up_row, row_row, eq_true (mx k (by omega)), eq_true (pw (165 * c + k) (by omega)), true_and, true_and]
    have e : (fun j => if j = 165 * c + k then I 162 k else am_row I 163 (fun j => if 165 * c ≤ j ∧ j < 165 * c + k then I 162 (j - 165 * c) else I 163 j) 163 j) = (fun j => if 165 * c ≤ j ∧ j < 165 * c + (k + 1) then I 162 (j - 165 * c) else I 163 j) := by
      funext j
      rw [row_self]
      by_cases e : j = 165 * c + k
      · subst e; rw [if_pos rfl, if_pos (by omega), show 165 * c + k - 165 * c = k by omega]
      · by_cases g : 165 * c ≤ j ∧ j < 165 * c + k
        · rw [if_neg e, if_pos g, if_pos (by omega)]
        · rw [if_neg e, if_neg g, if_neg (by omega)]
    rw [e]
    exact ih (k + 1) (by omega)
theorem mk_3 {s : St} {hs : List St} (hok : okS s) (hm : mS (I 162) s) (hH : hM I hs) (hO : okH hs) (hl : hs.length < 8) (l1 : Option Value) :
    ∃ I', (∀ Q, am_T d 116 50 [some (.ref 161), l1] [] (cS L) I J Q = Q none (cS L) I' J) ∧ hM I' (hs ++ [s]) ∧ (∀ b, b ≠ 161 → b ≠ 163 → I' b = I b) ∧ ∀ j, j ≠ 2 → I' 161 j = I 161 j := by
  refine ⟨am_up (am_row I 163 (fun j => if 165 * hs.length ≤ j ∧ j < 165 * hs.length + 165 then I 162 (j - 165 * hs.length) else I 163 j)) 161 2 (nI (hs.length + 1)), fun Q => ?_, ⟨?_, fun i s' hi => ?_⟩, fun b b1 b2 => ?_, fun j hj => ?_⟩
  · simp only [r116_50, r116_51, am_clr]
    have h := mk_2 (d := d) (L := L) (J := J) (Q := Q) hl hH.1 165 0 rfl
    rw [row_id (by funext j; rw [if_neg (by omega)])] at h
    refine Eq.trans h ?_
    simp only [r116_86, r116_87, r116_88, r116_91, r116_92, r116_93, r116_96, s_1, s_2, s_3, s_8, s_16, s_18, s_23, s_24, s_33, s_38, s_41, s_161, f_1_0, f_1_1, f_1_4, f_1_5, f_1_8, f_1_9, f_1_10, f_1_11, f_1_12, f_1_13, f_2_0, f_2_1, f_3_3, f_3_4, f_3_5, f_3_6, f_8_2, f_8_3, f_8_4, f_8_5, f_16_2, f_18_3, f_18_4, f_18_5, f_18_6, f_23_0, f_23_1, f_23_2, f_23_3, f_23_4, f_24_2, f_24_3, f_24_4, f_24_5, f_33_3, f_33_4, f_33_5, f_33_6, f_38_1, f_38_2, f_41_0, f_161_0, f_161_1, f_161_3, f_161_7, f_161_12, f_161_13, f_161_14, f_161_15, f_161_16, f_161_17, f_161_18, f_161_19, f_161_21, f_161_22, f_161_25, true_and, and_true, true_or, or_true, if_true, if_false, ne_eq, not_false_eq_true, and_self, t10, am_psh, am_clr, not_true_eq_false, Nat.reduceEqDiff, (show ∀ h : Nat → Int32, am_row I 163 h 161 = I 161 from fun h => am_row_ne (by omega)), hH.1, nI_1]
  · rw [up_self, List.length_append]; rfl
  · rw [am_up_ne (by omega), am_row_eq]
    by_cases g : i < hs.length
    · rw [List.getElem?_append_left g] at hi
      refine mS_congr (hO.2 i s' hi) (fun j hj => ?_) (hH.2 i s' hi)
      unfold shf
      dsimp only
      rw [if_neg (by omega)]
    · rw [List.getElem?_append_right (by omega)] at hi
      have : i - hs.length < 1 := (List.getElem?_eq_some_iff.mp hi).1
      have hie : i = hs.length := by omega
      subst hie
      rw [Nat.sub_self] at hi
      cases hi
      refine mS_congr hok (fun j hj => ?_) hm
      unfold shf
      dsimp only
      rw [if_pos (by omega), show 165 * hs.length + j - 165 * hs.length = j by omega]
  · rw [am_up_ne b1, am_row_ne b2]
  · rw [up_ne _ _ (Or.inr hj), am_row_ne (by omega)]
theorem c_Mkeep {s : St} {hs : List St} (hok : okS s) (hm : mS (I 162) s) (hH : hM I hs) (hO : okH hs) :
    ∃ I', (∀ Q, am_C (d + 1) 116 [.ref 161] (cS L) I J Q = Q none (cS L) I' J) ∧ hM I' (pushH hs s) ∧ (∀ b, b ≠ 161 → b ≠ 163 → I' b = I b) ∧ ∀ j, j ≠ 2 → I' 161 j = I 161 j := by
  unfold pushH
  by_cases g : hs.length = 8
  · rw [if_pos g]
    have hlt : hs.tail.length = 7 := by rw [List.length_tail]; omega
    have hH1 : hM (am_up (am_row I 163 (fun j => if j < 1155 then I 163 (j + 165) else I 163 j)) 161 2 (nI 7)) hs.tail := by
      refine ⟨by rw [up_self, hlt], fun i s' hi => ?_⟩
      have hi7 : i < 7 := by have := (List.getElem?_eq_some_iff.mp hi).1; omega
      rw [List.getElem?_tail] at hi
      rw [am_up_ne (by omega), am_row_eq]
      refine mS_congr (hO.2 _ s' hi) (fun j hj => ?_) (hH.2 (i + 1) s' hi)
      unfold shf
      dsimp only
      rw [if_pos (by omega), show 165 * i + j + 165 = 165 * (i + 1) + j by omega]
    have hO1 : okH hs.tail := ⟨by omega, fun i s' hi => by rw [List.getElem?_tail] at hi; exact hO.2 _ s' hi⟩
    have hm1 : mS ((am_up (am_row I 163 (fun j => if j < 1155 then I 163 (j + 165) else I 163 j)) 161 2 (nI 7)) 162) s := by
      rw [am_up_ne (by omega), am_row_ne (by omega)]; exact hm
    obtain ⟨I', h1, h2, h3, h4⟩ := mk_3 (d := d) (L := L) (J := J) hok hm1 hH1 hO1 (by omega) (some (.int (nI 1155)))
    refine ⟨I', fun Q => ?_, h2, fun b b1 b2 => ?_, fun j hj => ?_⟩
    · rw [e116]
      simp only [r116_0, r116_1, r116_4, r116_6, r116_9, r116_10, s_1, s_2, s_3, s_8, s_16, s_18, s_23, s_24, s_33, s_38, s_41, s_161, f_1_0, f_1_1, f_1_4, f_1_5, f_1_8, f_1_9, f_1_10, f_1_11, f_1_12, f_1_13, f_2_0, f_2_1, f_3_3, f_3_4, f_3_5, f_3_6, f_8_2, f_8_3, f_8_4, f_8_5, f_16_2, f_18_3, f_18_4, f_18_5, f_18_6, f_23_0, f_23_1, f_23_2, f_23_3, f_23_4, f_24_2, f_24_3, f_24_4, f_24_5, f_33_3, f_33_4, f_33_5, f_33_6, f_38_1, f_38_2, f_41_0, f_161_0, f_161_1, f_161_3, f_161_7, f_161_12, f_161_13, f_161_14, f_161_15, f_161_16, f_161_17, f_161_18, f_161_19, f_161_21, f_161_22, f_161_25, true_and, and_true, true_or, or_true, if_true, if_false, ne_eq, not_false_eq_true, and_self, t10, am_psh, am_clr, not_true_eq_false, Nat.reduceEqDiff, am_clr]
      rw [hH.1, g, if_pos (show nI 8 = 8 from rfl)]
      have h := mk_1 (d := d) (L := L) (J := J) (Q := Q) (I := I) 1155 0 rfl
      rw [row_id (by funext j; rw [if_neg (by omega)])] at h
      refine Eq.trans h ?_
      simp only [r116_40, r116_41, r116_42, r116_45, r116_46, r116_47, s_1, s_2, s_3, s_8, s_16, s_18, s_23, s_24, s_33, s_38, s_41, s_161, f_1_0, f_1_1, f_1_4, f_1_5, f_1_8, f_1_9, f_1_10, f_1_11, f_1_12, f_1_13, f_2_0, f_2_1, f_3_3, f_3_4, f_3_5, f_3_6, f_8_2, f_8_3, f_8_4, f_8_5, f_16_2, f_18_3, f_18_4, f_18_5, f_18_6, f_23_0, f_23_1, f_23_2, f_23_3, f_23_4, f_24_2, f_24_3, f_24_4, f_24_5, f_33_3, f_33_4, f_33_5, f_33_6, f_38_1, f_38_2, f_41_0, f_161_0, f_161_1, f_161_3, f_161_7, f_161_12, f_161_13, f_161_14, f_161_15, f_161_16, f_161_17, f_161_18, f_161_19, f_161_21, f_161_22, f_161_25, true_and, and_true, true_or, or_true, if_true, if_false, ne_eq, not_false_eq_true, and_self, t10, am_psh, am_clr, not_true_eq_false, Nat.reduceEqDiff, (show ∀ h : Nat → Int32, am_row I 163 h 161 = I 161 from fun h => am_row_ne (by omega)), hH.1, g]
      rw [show nI 8 - 1 = nI 7 from rfl]
      exact h1 Q
    · rw [h3 b b1 b2, am_up_ne b1, am_row_ne b2]
    · rw [h4 j hj, up_ne _ _ (Or.inr hj), am_row_ne (by omega)]
  · rw [if_neg g]
    obtain ⟨I', h1, h2, h3, h4⟩ := mk_3 (d := d) (L := L) (J := J) hok hm hH hO (by have := hO.1; omega) none
    refine ⟨I', fun Q => ?_, h2, h3, h4⟩
    rw [e116]
    simp only [r116_0, r116_1, r116_4, r116_6, s_1, s_2, s_3, s_8, s_16, s_18, s_23, s_24, s_33, s_38, s_41, s_161, f_1_0, f_1_1, f_1_4, f_1_5, f_1_8, f_1_9, f_1_10, f_1_11, f_1_12, f_1_13, f_2_0, f_2_1, f_3_3, f_3_4, f_3_5, f_3_6, f_8_2, f_8_3, f_8_4, f_8_5, f_16_2, f_18_3, f_18_4, f_18_5, f_18_6, f_23_0, f_23_1, f_23_2, f_23_3, f_23_4, f_24_2, f_24_3, f_24_4, f_24_5, f_33_3, f_33_4, f_33_5, f_33_6, f_38_1, f_38_2, f_41_0, f_161_0, f_161_1, f_161_3, f_161_7, f_161_12, f_161_13, f_161_14, f_161_15, f_161_16, f_161_17, f_161_18, f_161_19, f_161_21, f_161_22, f_161_25, true_and, and_true, true_or, or_true, if_true, if_false, ne_eq, not_false_eq_true, and_self, t10, am_psh, am_clr, not_true_eq_false, Nat.reduceEqDiff]
    rw [hH.1, if_neg (fun q => g ((nI_eq (by have := hO.1; omega) (by omega)).mp (q.trans (show (8 : Int32) = nI 8 from rfl))))]
    exact h1 Q
/-- the class' record, behind a change -/
theorem c_settle_no {z : Int32} (h : I 8 0 = 0) : am_C (d + 1) 98 [.ref 1, .int z] (cS L) I J Q = Q none (cS L) I J := by
  rw [e98]; simp only [r98_0, r98_1, r98_4, r98_7, r98_10, r98_13, r98_14, r98_15, r98_18, r98_19, r98_20, r98_23, r98_24, r98_25, r98_28, r98_31, r98_32, r98_35, r98_38, r98_39, r98_42, s_1, s_2, s_3, s_8, s_16, s_18, s_23, s_24, s_33, s_38, s_41, s_161, f_1_0, f_1_1, f_1_4, f_1_5, f_1_8, f_1_9, f_1_10, f_1_11, f_1_12, f_1_13, f_2_0, f_2_1, f_3_3, f_3_4, f_3_5, f_3_6, f_8_2, f_8_3, f_8_4, f_8_5, f_16_2, f_18_3, f_18_4, f_18_5, f_18_6, f_23_0, f_23_1, f_23_2, f_23_3, f_23_4, f_24_2, f_24_3, f_24_4, f_24_5, f_33_3, f_33_4, f_33_5, f_33_6, f_38_1, f_38_2, f_41_0, f_161_0, f_161_1, f_161_3, f_161_7, f_161_12, f_161_13, f_161_14, f_161_15, f_161_16, f_161_17, f_161_18, f_161_19, f_161_21, f_161_22, f_161_25, true_and, and_true, true_or, or_true, if_true, if_false, ne_eq, not_false_eq_true, and_self, t10, am_psh, am_clr, not_true_eq_false, Nat.reduceEqDiff, h]
theorem c_settle_1 (h : I 8 0 = 1) : am_C (d + 1) 98 [.ref 1, .int 1] (cS L) I J Q = Q none (cS L) (am_up I 1 7 (I 1 7 + 1)) J := by
  rw [e98]; simp only [r98_0, r98_1, r98_4, r98_7, r98_10, r98_13, r98_14, r98_15, r98_18, r98_19, r98_20, r98_23, r98_24, r98_25, r98_28, r98_31, r98_32, r98_35, r98_38, r98_39, r98_42, s_1, s_2, s_3, s_8, s_16, s_18, s_23, s_24, s_33, s_38, s_41, s_161, f_1_0, f_1_1, f_1_4, f_1_5, f_1_8, f_1_9, f_1_10, f_1_11, f_1_12, f_1_13, f_2_0, f_2_1, f_3_3, f_3_4, f_3_5, f_3_6, f_8_2, f_8_3, f_8_4, f_8_5, f_16_2, f_18_3, f_18_4, f_18_5, f_18_6, f_23_0, f_23_1, f_23_2, f_23_3, f_23_4, f_24_2, f_24_3, f_24_4, f_24_5, f_33_3, f_33_4, f_33_5, f_33_6, f_38_1, f_38_2, f_41_0, f_161_0, f_161_1, f_161_3, f_161_7, f_161_12, f_161_13, f_161_14, f_161_15, f_161_16, f_161_17, f_161_18, f_161_19, f_161_21, f_161_22, f_161_25, true_and, and_true, true_or, or_true, if_true, if_false, ne_eq, not_false_eq_true, and_self, t10, am_psh, am_clr, not_true_eq_false, Nat.reduceEqDiff, h]
theorem c_settle_0 (h : I 8 0 = 1) : am_C (d + 1) 98 [.ref 1, .int 0] (cS L) I J Q = Q none (cS L) (am_up I 8 0 0) J := by
  rw [e98]; simp only [r98_0, r98_1, r98_4, r98_7, r98_10, r98_13, r98_14, r98_15, r98_18, r98_19, r98_20, r98_23, r98_24, r98_25, r98_28, r98_31, r98_32, r98_35, r98_38, r98_39, r98_42, s_1, s_2, s_3, s_8, s_16, s_18, s_23, s_24, s_33, s_38, s_41, s_161, f_1_0, f_1_1, f_1_4, f_1_5, f_1_8, f_1_9, f_1_10, f_1_11, f_1_12, f_1_13, f_2_0, f_2_1, f_3_3, f_3_4, f_3_5, f_3_6, f_8_2, f_8_3, f_8_4, f_8_5, f_16_2, f_18_3, f_18_4, f_18_5, f_18_6, f_23_0, f_23_1, f_23_2, f_23_3, f_23_4, f_24_2, f_24_3, f_24_4, f_24_5, f_33_3, f_33_4, f_33_5, f_33_6, f_38_1, f_38_2, f_41_0, f_161_0, f_161_1, f_161_3, f_161_7, f_161_12, f_161_13, f_161_14, f_161_15, f_161_16, f_161_17, f_161_18, f_161_19, f_161_21, f_161_22, f_161_25, true_and, and_true, true_or, or_true, if_true, if_false, ne_eq, not_false_eq_true, and_self, t10, am_psh, am_clr, not_true_eq_false, Nat.reduceEqDiff, h]
theorem c_judge_no {z : Int32} (h : I 162 107 = 0) : am_C (d + 1) 117 [.ref 161, .int z] (cS L) I J Q = Q none (cS L) I J := by
  rw [e117]; simp only [r117_0, r117_1, r117_4, r117_6, r117_7, r117_8, r117_11, r117_12, r117_13, r117_16, r117_17, r117_20, r117_21, r117_24, r117_25, r117_26, r117_29, r117_30, r117_33, r117_35, r117_36, r117_39, r117_40, r117_43, r117_44, r117_45, s_1, s_2, s_3, s_8, s_16, s_18, s_23, s_24, s_33, s_38, s_41, s_161, f_1_0, f_1_1, f_1_4, f_1_5, f_1_8, f_1_9, f_1_10, f_1_11, f_1_12, f_1_13, f_2_0, f_2_1, f_3_3, f_3_4, f_3_5, f_3_6, f_8_2, f_8_3, f_8_4, f_8_5, f_16_2, f_18_3, f_18_4, f_18_5, f_18_6, f_23_0, f_23_1, f_23_2, f_23_3, f_23_4, f_24_2, f_24_3, f_24_4, f_24_5, f_33_3, f_33_4, f_33_5, f_33_6, f_38_1, f_38_2, f_41_0, f_161_0, f_161_1, f_161_3, f_161_7, f_161_12, f_161_13, f_161_14, f_161_15, f_161_16, f_161_17, f_161_18, f_161_19, f_161_21, f_161_22, f_161_25, true_and, and_true, true_or, or_true, if_true, if_false, ne_eq, not_false_eq_true, and_self, t10, am_psh, am_clr, not_true_eq_false, Nat.reduceEqDiff, show am_ix (cS L) 162 20 107 from mx 107 (by omega), show (107 : Int32).toNatClampNeg = 107 from by decide, h, show ((0 : Int32) = 1) = False from eq_false (by decide)]
theorem c_judge_1 (h : I 162 107 = 1) : am_C (d + 1) 117 [.ref 161, .int 1] (cS L) I J Q = Q none (cS L) (am_up (am_up I 161 6 (I 161 6 + 1)) 162 107 1) J := by
  rw [e117]; simp only [r117_0, r117_1, r117_4, r117_6, r117_7, r117_8, r117_11, r117_12, r117_13, r117_16, r117_17, r117_20, r117_21, r117_24, r117_25, r117_26, r117_29, r117_30, r117_33, r117_35, r117_36, r117_39, r117_40, r117_43, r117_44, r117_45, s_1, s_2, s_3, s_8, s_16, s_18, s_23, s_24, s_33, s_38, s_41, s_161, f_1_0, f_1_1, f_1_4, f_1_5, f_1_8, f_1_9, f_1_10, f_1_11, f_1_12, f_1_13, f_2_0, f_2_1, f_3_3, f_3_4, f_3_5, f_3_6, f_8_2, f_8_3, f_8_4, f_8_5, f_16_2, f_18_3, f_18_4, f_18_5, f_18_6, f_23_0, f_23_1, f_23_2, f_23_3, f_23_4, f_24_2, f_24_3, f_24_4, f_24_5, f_33_3, f_33_4, f_33_5, f_33_6, f_38_1, f_38_2, f_41_0, f_161_0, f_161_1, f_161_3, f_161_7, f_161_12, f_161_13, f_161_14, f_161_15, f_161_16, f_161_17, f_161_18, f_161_19, f_161_21, f_161_22, f_161_25, true_and, and_true, true_or, or_true, if_true, if_false, ne_eq, not_false_eq_true, and_self, t10, am_psh, am_clr, not_true_eq_false, Nat.reduceEqDiff, show am_ix (cS L) 162 20 107 from mx 107 (by omega), show am_ixw (cS L) 162 20 107 from mw 107 (by omega), show (107 : Int32).toNatClampNeg = 107 from by decide, h]
theorem c_judge_0 (h : I 162 107 = 1) : am_C (d + 1) 117 [.ref 161, .int 0] (cS L) I J Q = Q none (cS L) (am_up (am_up I 161 6 (I 161 6 + 0)) 162 107 0) J := by
  rw [e117]; simp only [r117_0, r117_1, r117_4, r117_6, r117_7, r117_8, r117_11, r117_12, r117_13, r117_16, r117_17, r117_20, r117_21, r117_24, r117_25, r117_26, r117_29, r117_30, r117_33, r117_35, r117_36, r117_39, r117_40, r117_43, r117_44, r117_45, s_1, s_2, s_3, s_8, s_16, s_18, s_23, s_24, s_33, s_38, s_41, s_161, f_1_0, f_1_1, f_1_4, f_1_5, f_1_8, f_1_9, f_1_10, f_1_11, f_1_12, f_1_13, f_2_0, f_2_1, f_3_3, f_3_4, f_3_5, f_3_6, f_8_2, f_8_3, f_8_4, f_8_5, f_16_2, f_18_3, f_18_4, f_18_5, f_18_6, f_23_0, f_23_1, f_23_2, f_23_3, f_23_4, f_24_2, f_24_3, f_24_4, f_24_5, f_33_3, f_33_4, f_33_5, f_33_6, f_38_1, f_38_2, f_41_0, f_161_0, f_161_1, f_161_3, f_161_7, f_161_12, f_161_13, f_161_14, f_161_15, f_161_16, f_161_17, f_161_18, f_161_19, f_161_21, f_161_22, f_161_25, true_and, and_true, true_or, or_true, if_true, if_false, ne_eq, not_false_eq_true, and_self, t10, am_psh, am_clr, not_true_eq_false, Nat.reduceEqDiff, show am_ix (cS L) 162 20 107 from mx 107 (by omega), show am_ixw (cS L) 162 20 107 from mw 107 (by omega), show (107 : Int32).toNatClampNeg = 107 from by decide, h]
end MK
