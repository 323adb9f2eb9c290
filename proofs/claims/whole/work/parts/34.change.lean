/-! changes: what they have in common -/
section CG
variable {d L : Nat} {I I' : am_I} {J J' : am_J} {Q : am_Q}
theorem hX_congr {o : Nat} {hs : List St} (h1 : I' 1 2 = I 1 2) (h2 : I' 1 3 = I 1 3) (h3 : ∀ b, 52 ≤ b → b ≤ 138 → I' b = I b) (h : hX I o hs) : hX I' o hs := by
  refine ⟨h1.trans h.1, h2.trans h.2.1, fun i s hi => xS_congr (fun b b1 b2 => h3 b ?_ ?_) (fun b b1 b2 => h3 b ?_ ?_) (h.2.2 i s hi)⟩ <;> (unfold kA at b1 b2; omega)
theorem hM_congr {hs : List St} (h1 : I' 161 2 = I 161 2) (h2 : I' 163 = I 163) (h : hM I hs) : hM I' hs := ⟨h1.trans h.1, fun i s hi => by rw [h2]; exact h.2 i s hi⟩
theorem xSl_congr {j : Nat} {o : Option St} (hj : j < 2) (h1 : I' 15 = I 15) (h2 : I' 164 = I 164) (h3 : ∀ b, 139 ≤ b → b ≤ 160 → I' b = I b) (h : xSl I j o) : xSl I' j o := by
  cases o with
  | none => show I' 15 j = 0; rw [h1]; exact h
  | some s =>
    obtain ⟨a1, a2, a3, a4⟩ := h
    refine ⟨by rw [h1]; exact a1, a2, xS_congr (fun b b1 b2 => h3 b (by omega) (by omega)) (fun b b1 b2 => h3 b (by omega) (by omega)) a3, by rw [h2]; exact a4⟩
theorem xT_congr {n : Nat} {tx : Nat → Nat} (h1 : I' 16 0 = I 16 0) (h2 : I' 17 = I 17) (h3 : I' 165 = I 165) (h4 : I' 161 8 = I 161 8) (h : xT I n tx) : xT I' n tx := ⟨⟨h1.trans h.1.1, h4.trans h.1.2.1, h.1.2.2⟩, fun i hi => by rw [h2, h3]; exact h.2 i hi⟩
theorem Inv_of {s' : St} {hs' : List St} {s0 s1 : Option St} {n o : Nat} {tx : Nat → Nat} (hok : okS s') (hx : xS I' 3 8 s') (hm : mS (I' 162) s') (hl : xL I' s'.1) (hO : okH hs') (hhM : hM I' hs') (ho : o < 8) (hhX : hX I' o hs') (hru : I' 1 6 = I' 161 5 ∧ I' 1 7 = I' 161 6)
    (hsl : xSl I 0 s0 ∧ xSl I 1 s1 ∧ I 161 4 = nI (slB s0 + 2 * slB s1)) (htx : xT I n tx) (fr : ∀ b, (b = 15 ∨ b = 16 ∨ b = 17 ∨ b = 164 ∨ b = 165 ∨ (139 ≤ b ∧ b ≤ 160)) → I' b = I b) (f4 : I' 161 4 = I 161 4) (f8 : I' 161 8 = I 161 8) : Inv I' J' := by
  refine ⟨s', hs', s0, s1, n, tx, hok, hx, hm, hl, xH_iff.mpr ⟨hO, hhM, o, ho, hhX⟩, ⟨xSl_congr (by omega) (fr 15 (by omega)) (fr 164 (by omega)) (fun b b1 b2 => fr b (by omega)) hsl.1, xSl_congr (by omega) (fr 15 (by omega)) (fr 164 (by omega)) (fun b b1 b2 => fr b (by omega)) hsl.2.1, f4.trans hsl.2.2⟩, hru, xT_congr (by rw [fr 16 (by omega)]) (fr 17 (by omega)) (fr 165 (by omega)) f8 htx⟩
/-- the class' record goes, if there is one -/
theorem c_settle_F (h : I 8 0 = 0 ∨ I 8 0 = 1) : ∃ I', (∀ Q, am_C (d + 1) 98 [.ref 1, .int 0] (cS L) I J Q = Q none (cS L) I' J) ∧ I' 8 0 = 0 ∧ (∀ b, b ≠ 8 → I' b = I b) ∧ ∀ j, j ≠ 0 → I' 8 j = I 8 j := by
  rcases h with h | h
  · exact ⟨I, fun Q => c_settle_no h, h, fun _ _ => rfl, fun _ _ => rfl⟩
  · exact ⟨am_up I 8 0 0, fun Q => c_settle_0 h, up_self _ _ _ _, fun b hb => am_up_ne hb, fun j hj => up_ne _ _ (Or.inr hj)⟩
/-- .. and stays, and is counted -/
theorem c_settle_T (h : I 8 0 = 0 ∨ I 8 0 = 1) : ∃ I', (∀ Q, am_C (d + 1) 98 [.ref 1, .int 1] (cS L) I J Q = Q none (cS L) I' J) ∧ (∀ b, b ≠ 1 → I' b = I b) ∧ (∀ j, j ≠ 7 → I' 1 j = I 1 j) ∧ I' 1 7 = I 1 7 + I 8 0 := by
  rcases h with h | h
  · exact ⟨I, fun Q => c_settle_no h, fun _ _ => rfl, fun _ _ => rfl, by rw [h]; exact (Int32.add_zero _).symm⟩
  · exact ⟨am_up I 1 7 (I 1 7 + 1), fun Q => c_settle_1 h, fun b hb => am_up_ne hb, fun j hj => up_ne _ _ (Or.inr hj), by rw [up_self, h]⟩
theorem c_judge_F (h : I 162 107 = 0 ∨ I 162 107 = 1) : ∃ I', (∀ Q, am_C (d + 1) 117 [.ref 161, .int 0] (cS L) I J Q = Q none (cS L) I' J) ∧ (∀ b, b ≠ 162 → I' b = I b) ∧ (∀ j, j ≠ 107 → I' 162 j = I 162 j) ∧ I' 162 107 = 0 := by
  rcases h with h | h
  · exact ⟨I, fun Q => c_judge_no h, fun _ _ => rfl, fun _ _ => rfl, h⟩
  · refine ⟨am_up I 162 107 0, fun Q => ?_, fun b hb => am_up_ne hb, fun j hj => up_ne _ _ (Or.inr hj), up_self _ _ _ _⟩
    rw [c_judge_0 h]
    congr 2
    have e : am_up I 161 6 (I 161 6 + 0) = I := by
      rw [up_row]
      refine row_id ?_
      funext j
      by_cases g : j = 6
      · subst g; rw [if_pos rfl]; exact (Int32.add_zero _).symm
      · rw [if_neg g]
    rw [e]
theorem c_judge_T (h : I 162 107 = 0 ∨ I 162 107 = 1) : ∃ I', (∀ Q, am_C (d + 1) 117 [.ref 161, .int 1] (cS L) I J Q = Q none (cS L) I' J) ∧ (∀ b, b ≠ 161 → I' b = I b) ∧ (∀ j, j ≠ 6 → I' 161 j = I 161 j) ∧ I' 161 6 = I 161 6 + I 162 107 := by
  rcases h with h | h
  · exact ⟨I, fun Q => c_judge_no h, fun _ _ => rfl, fun _ _ => rfl, by rw [h]; exact (Int32.add_zero _).symm⟩
  · refine ⟨am_up I 161 6 (I 161 6 + 1), fun Q => ?_, fun b hb => am_up_ne hb, fun j hj => up_ne _ _ (Or.inr hj), by rw [up_self, h]⟩
    have e : am_up (am_up I 161 6 (I 161 6 + 1)) 162 107 1 = am_up I 161 6 (I 161 6 + 1) := by
      rw [up_row (am_up I 161 6 (I 161 6 + 1)) 162]
      refine row_id ?_
      funext j
      by_cases g : j = 107
      · subst g; rw [if_pos rfl, am_up_ne (by omega), h]
      · rw [if_neg g]
    rw [c_judge_1 h, e]
theorem mS_01 {w : Nat → Int32} {s : St} (h : mS w s) : w 107 = 0 ∨ w 107 = 1 := by
  obtain ⟨G, o⟩ := s
  cases o with
  | none => exact Or.inl h.2
  | some R => exact Or.inr h.2.1
/-- both refuse, alike -/
theorem ok_same {yx ym : Nat} {as : List Value} {I : am_I} {J : am_J} (hI : Inv I J) {x : Int32} (h1 : am_V L 40 yx (.ref 1 :: as) I J (.int x) I J) (h2 : am_V L 40 ym (.ref 161 :: as) I J (.int x) I J) : ∃ r I1 J1 I2 J2, am_V L 40 yx (.ref 1 :: as) I J r I1 J1 ∧ I1 0 = I 0 ∧ am_V L 40 ym (.ref 161 :: as) I1 J1 r I2 J2 ∧ I2 0 = I 0 ∧ Inv I2 J2 ∧ (∃ x, r = .int x) := ⟨.int x, I, J, I, J, h1, rfl, h2, rfl, hI, x, rfl⟩
theorem op_setRoot (x : Int32) : am_OK L Inv 62 124 [.int x] := by
  intro I J hI
  have hI0 := hI
  obtain ⟨s, hs, s0, s1, n, tx, hok, hx, hm, hl, hh, hsl, hru, htx⟩ := hI
  obtain ⟨hO, hhM, o, ho, hhX⟩ := xH_iff.mp hh
  have hn := hok.1.1.2.1
  rcases in_or_out x (n := gn s.1) (by omega) with hv | ⟨v, hv, rfl⟩
  · refine ok_same hI0 (x := -101) (fun Q => ?_) (fun Q => ?_)
    · rw [e62]; simp only [r62_0, r62_1, r62_4, r62_7, r62_8, r62_11, r62_14, r62_16, r62_17, r62_18, r62_21, r62_24, r62_27, r62_28, r62_29, r62_32, r62_33, r62_36, r62_39, r62_40, r62_43, r62_44, r62_45, r62_48, r62_49, s_1, s_2, s_3, s_8, s_16, s_18, s_23, s_24, s_33, s_38, s_41, s_161, f_1_0, f_1_1, f_1_4, f_1_5, f_1_8, f_1_9, f_1_10, f_1_11, f_1_12, f_1_13, f_2_0, f_2_1, f_3_3, f_3_4, f_3_5, f_3_6, f_8_2, f_8_3, f_8_4, f_8_5, f_16_2, f_18_3, f_18_4, f_18_5, f_18_6, f_23_0, f_23_1, f_23_2, f_23_3, f_23_4, f_24_2, f_24_3, f_24_4, f_24_5, f_33_3, f_33_4, f_33_5, f_33_6, f_38_1, f_38_2, f_41_0, f_161_0, f_161_1, f_161_3, f_161_7, f_161_12, f_161_13, f_161_14, f_161_15, f_161_16, f_161_17, f_161_18, f_161_19, f_161_21, f_161_22, f_161_25, true_and, and_true, true_or, or_true, if_true, if_false, ne_eq, not_false_eq_true, and_self, t10, am_psh, am_clr, not_true_eq_false, Nat.reduceEqDiff]
      rw [c_hasNode_out hx.1.1.1 hv]; simp only [r62_0, r62_1, r62_4, r62_7, r62_8, r62_11, r62_14, r62_16, r62_17, r62_18, r62_21, r62_24, r62_27, r62_28, r62_29, r62_32, r62_33, r62_36, r62_39, r62_40, r62_43, r62_44, r62_45, r62_48, r62_49, true_and, and_true, true_or, or_true, if_true, if_false, ne_eq, not_false_eq_true, and_self, t10, am_psh, am_clr, not_true_eq_false, Nat.reduceEqDiff]
    · rw [e124]; simp only [r124_0, r124_1, r124_2, r124_5, r124_8, r124_10, r124_11, r124_12, r124_15, r124_16, r124_19, r124_20, r124_21, r124_22, r124_23, r124_26, r124_27, r124_28, r124_29, r124_30, r124_31, r124_34, r124_35, s_1, s_2, s_3, s_8, s_16, s_18, s_23, s_24, s_33, s_38, s_41, s_161, f_1_0, f_1_1, f_1_4, f_1_5, f_1_8, f_1_9, f_1_10, f_1_11, f_1_12, f_1_13, f_2_0, f_2_1, f_3_3, f_3_4, f_3_5, f_3_6, f_8_2, f_8_3, f_8_4, f_8_5, f_16_2, f_18_3, f_18_4, f_18_5, f_18_6, f_23_0, f_23_1, f_23_2, f_23_3, f_23_4, f_24_2, f_24_3, f_24_4, f_24_5, f_33_3, f_33_4, f_33_5, f_33_6, f_38_1, f_38_2, f_41_0, f_161_0, f_161_1, f_161_3, f_161_7, f_161_12, f_161_13, f_161_14, f_161_15, f_161_16, f_161_17, f_161_18, f_161_19, f_161_21, f_161_22, f_161_25, true_and, and_true, true_or, or_true, if_true, if_false, ne_eq, not_false_eq_true, and_self, t10, am_psh, am_clr, not_true_eq_false, Nat.reduceEqDiff]
      rw [c_isNode_out hm.1.1.1 hn hv]; simp only [r124_0, r124_1, r124_2, r124_5, r124_8, r124_10, r124_11, r124_12, r124_15, r124_16, r124_19, r124_20, r124_21, r124_22, r124_23, r124_26, r124_27, r124_28, r124_29, r124_30, r124_31, r124_34, r124_35, true_and, and_true, true_or, or_true, if_true, if_false, ne_eq, not_false_eq_true, and_self, t10, am_psh, am_clr, not_true_eq_false, Nat.reduceEqDiff]
  · obtain ⟨I1, o1, k1, k2, k3, k4, k5, k6, k7⟩ := c_keep (d := 35) (L := L) (J := J) hok hx ho hhX hO.1
    have e3 : I1 3 = I 3 := k4 3 (by omega) (by omega) (by omega)
    have e8 : I1 8 = I 8 := k4 8 (by omega) (by omega) (by omega)
    obtain ⟨I2, m1, m2, m3, m4⟩ := c_settle_F (d := 38) (L := L) (J := J) (I := am_up I1 3 1 (nI v)) (by rw [am_up_ne (by omega), e8]; exact xS_01 hx)
    have f2 : ∀ b, b ≠ 1 → b ≠ 3 → b ≠ 8 → b ≠ 33 → (b < 52 ∨ 139 ≤ b) → I2 b = I b := fun b b1 b2 b3 b4 b5 => by rw [m3 b b3, am_up_ne b2, k4 b b1 b4 b5]
    have f21 : I2 1 = I1 1 := by rw [m3 1 (by omega), am_up_ne (by omega)]
    obtain ⟨I3, p1, p2, p3, p4⟩ := c_Mkeep (d := 38) (L := L) (J := J) (I := I2) (hs := hs) hok (by rw [f2 162 (by omega) (by omega) (by omega) (by omega) (by omega)]; exact hm) (hM_congr (by rw [f2 161 (by omega) (by omega) (by omega) (by omega) (by omega)]) (f2 163 (by omega) (by omega) (by omega) (by omega) (by omega)) hhM) hO
    have e162 : I3 162 = I 162 := by rw [p3 162 (by omega) (by omega), f2 162 (by omega) (by omega) (by omega) (by omega) (by omega)]
    obtain ⟨I4, j1, j2, j3, j4⟩ := c_judge_F (d := 38) (L := L) (J := J) (I := am_up I3 162 1 (nI v)) (by rw [up_ne _ _ (Or.inr (by omega)), e162]; exact mS_01 hm)
    have f4 : ∀ b, b ≠ 161 → b ≠ 162 → b ≠ 163 → I4 b = I2 b := fun b b1 b2 b3 => by rw [j2 b b2, am_up_ne b2, p3 b b1 b3]
    have f41 : I4 161 = I3 161 := by rw [j2 161 (by omega), am_up_ne (by omega)]
    refine ⟨.int (nI (gr s.1)), I2, J, I4, J, fun Q => ?_, f2 0 (by omega) (by omega) (by omega) (by omega) (by omega), fun Q => ?_, by rw [f4 0 (by omega) (by omega) (by omega), f2 0 (by omega) (by omega) (by omega) (by omega) (by omega)], ?_, _, rfl⟩
    · rw [e62]; simp only [r62_0, r62_1, r62_4, r62_7, r62_8, r62_11, r62_14, r62_16, r62_17, r62_18, r62_21, r62_24, r62_27, r62_28, r62_29, r62_32, r62_33, r62_36, r62_39, r62_40, r62_43, r62_44, r62_45, r62_48, r62_49, s_1, s_2, s_3, s_8, s_16, s_18, s_23, s_24, s_33, s_38, s_41, s_161, f_1_0, f_1_1, f_1_4, f_1_5, f_1_8, f_1_9, f_1_10, f_1_11, f_1_12, f_1_13, f_2_0, f_2_1, f_3_3, f_3_4, f_3_5, f_3_6, f_8_2, f_8_3, f_8_4, f_8_5, f_16_2, f_18_3, f_18_4, f_18_5, f_18_6, f_23_0, f_23_1, f_23_2, f_23_3, f_23_4, f_24_2, f_24_3, f_24_4, f_24_5, f_33_3, f_33_4, f_33_5, f_33_6, f_38_1, f_38_2, f_41_0, f_161_0, f_161_1, f_161_3, f_161_7, f_161_12, f_161_13, f_161_14, f_161_15, f_161_16, f_161_17, f_161_18, f_161_19, f_161_21, f_161_22, f_161_25, true_and, and_true, true_or, or_true, if_true, if_false, ne_eq, not_false_eq_true, and_self, t10, am_psh, am_clr, not_true_eq_false, Nat.reduceEqDiff]
      rw [c_hasNode_in hx.1.1.1 hn hv]; simp only [r62_0, r62_1, r62_4, r62_7, r62_8, r62_11, r62_14, r62_16, r62_17, r62_18, r62_21, r62_24, r62_27, r62_28, r62_29, r62_32, r62_33, r62_36, r62_39, r62_40, r62_43, r62_44, r62_45, r62_48, r62_49, s_1, s_2, s_3, s_8, s_16, s_18, s_23, s_24, s_33, s_38, s_41, s_161, f_1_0, f_1_1, f_1_4, f_1_5, f_1_8, f_1_9, f_1_10, f_1_11, f_1_12, f_1_13, f_2_0, f_2_1, f_3_3, f_3_4, f_3_5, f_3_6, f_8_2, f_8_3, f_8_4, f_8_5, f_16_2, f_18_3, f_18_4, f_18_5, f_18_6, f_23_0, f_23_1, f_23_2, f_23_3, f_23_4, f_24_2, f_24_3, f_24_4, f_24_5, f_33_3, f_33_4, f_33_5, f_33_6, f_38_1, f_38_2, f_41_0, f_161_0, f_161_1, f_161_3, f_161_7, f_161_12, f_161_13, f_161_14, f_161_15, f_161_16, f_161_17, f_161_18, f_161_19, f_161_21, f_161_22, f_161_25, true_and, and_true, true_or, or_true, if_true, if_false, ne_eq, not_false_eq_true, and_self, t10, am_psh, am_clr, not_true_eq_false, Nat.reduceEqDiff]
      rw [k1]; simp only [r62_0, r62_1, r62_4, r62_7, r62_8, r62_11, r62_14, r62_16, r62_17, r62_18, r62_21, r62_24, r62_27, r62_28, r62_29, r62_32, r62_33, r62_36, r62_39, r62_40, r62_43, r62_44, r62_45, r62_48, r62_49, s_1, s_2, s_3, s_8, s_16, s_18, s_23, s_24, s_33, s_38, s_41, s_161, f_1_0, f_1_1, f_1_4, f_1_5, f_1_8, f_1_9, f_1_10, f_1_11, f_1_12, f_1_13, f_2_0, f_2_1, f_3_3, f_3_4, f_3_5, f_3_6, f_8_2, f_8_3, f_8_4, f_8_5, f_16_2, f_18_3, f_18_4, f_18_5, f_18_6, f_23_0, f_23_1, f_23_2, f_23_3, f_23_4, f_24_2, f_24_3, f_24_4, f_24_5, f_33_3, f_33_4, f_33_5, f_33_6, f_38_1, f_38_2, f_41_0, f_161_0, f_161_1, f_161_3, f_161_7, f_161_12, f_161_13, f_161_14, f_161_15, f_161_16, f_161_17, f_161_18, f_161_19, f_161_21, f_161_22, f_161_25, true_and, and_true, true_or, or_true, if_true, if_false, ne_eq, not_false_eq_true, and_self, t10, am_psh, am_clr, not_true_eq_false, Nat.reduceEqDiff]
      rw [m1]; simp only [r62_0, r62_1, r62_4, r62_7, r62_8, r62_11, r62_14, r62_16, r62_17, r62_18, r62_21, r62_24, r62_27, r62_28, r62_29, r62_32, r62_33, r62_36, r62_39, r62_40, r62_43, r62_44, r62_45, r62_48, r62_49, s_1, s_2, s_3, s_8, s_16, s_18, s_23, s_24, s_33, s_38, s_41, s_161, f_1_0, f_1_1, f_1_4, f_1_5, f_1_8, f_1_9, f_1_10, f_1_11, f_1_12, f_1_13, f_2_0, f_2_1, f_3_3, f_3_4, f_3_5, f_3_6, f_8_2, f_8_3, f_8_4, f_8_5, f_16_2, f_18_3, f_18_4, f_18_5, f_18_6, f_23_0, f_23_1, f_23_2, f_23_3, f_23_4, f_24_2, f_24_3, f_24_4, f_24_5, f_33_3, f_33_4, f_33_5, f_33_6, f_38_1, f_38_2, f_41_0, f_161_0, f_161_1, f_161_3, f_161_7, f_161_12, f_161_13, f_161_14, f_161_15, f_161_16, f_161_17, f_161_18, f_161_19, f_161_21, f_161_22, f_161_25, true_and, and_true, true_or, or_true, if_true, if_false, ne_eq, not_false_eq_true, and_self, t10, am_psh, am_clr, not_true_eq_false, Nat.reduceEqDiff, am_clr]
      rw [hx.1.1.2.1]
    · rw [e124]; simp only [r124_0, r124_1, r124_2, r124_5, r124_8, r124_10, r124_11, r124_12, r124_15, r124_16, r124_19, r124_20, r124_21, r124_22, r124_23, r124_26, r124_27, r124_28, r124_29, r124_30, r124_31, r124_34, r124_35, s_1, s_2, s_3, s_8, s_16, s_18, s_23, s_24, s_33, s_38, s_41, s_161, f_1_0, f_1_1, f_1_4, f_1_5, f_1_8, f_1_9, f_1_10, f_1_11, f_1_12, f_1_13, f_2_0, f_2_1, f_3_3, f_3_4, f_3_5, f_3_6, f_8_2, f_8_3, f_8_4, f_8_5, f_16_2, f_18_3, f_18_4, f_18_5, f_18_6, f_23_0, f_23_1, f_23_2, f_23_3, f_23_4, f_24_2, f_24_3, f_24_4, f_24_5, f_33_3, f_33_4, f_33_5, f_33_6, f_38_1, f_38_2, f_41_0, f_161_0, f_161_1, f_161_3, f_161_7, f_161_12, f_161_13, f_161_14, f_161_15, f_161_16, f_161_17, f_161_18, f_161_19, f_161_21, f_161_22, f_161_25, true_and, and_true, true_or, or_true, if_true, if_false, ne_eq, not_false_eq_true, and_self, t10, am_psh, am_clr, not_true_eq_false, Nat.reduceEqDiff]
      rw [c_isNode_in (by rw [f2 162 (by omega) (by omega) (by omega) (by omega) (by omega)]; exact hm.1.1.1) hn hv]; simp only [r124_0, r124_1, r124_2, r124_5, r124_8, r124_10, r124_11, r124_12, r124_15, r124_16, r124_19, r124_20, r124_21, r124_22, r124_23, r124_26, r124_27, r124_28, r124_29, r124_30, r124_31, r124_34, r124_35, s_1, s_2, s_3, s_8, s_16, s_18, s_23, s_24, s_33, s_38, s_41, s_161, f_1_0, f_1_1, f_1_4, f_1_5, f_1_8, f_1_9, f_1_10, f_1_11, f_1_12, f_1_13, f_2_0, f_2_1, f_3_3, f_3_4, f_3_5, f_3_6, f_8_2, f_8_3, f_8_4, f_8_5, f_16_2, f_18_3, f_18_4, f_18_5, f_18_6, f_23_0, f_23_1, f_23_2, f_23_3, f_23_4, f_24_2, f_24_3, f_24_4, f_24_5, f_33_3, f_33_4, f_33_5, f_33_6, f_38_1, f_38_2, f_41_0, f_161_0, f_161_1, f_161_3, f_161_7, f_161_12, f_161_13, f_161_14, f_161_15, f_161_16, f_161_17, f_161_18, f_161_19, f_161_21, f_161_22, f_161_25, true_and, and_true, true_or, or_true, if_true, if_false, ne_eq, not_false_eq_true, and_self, t10, am_psh, am_clr, not_true_eq_false, Nat.reduceEqDiff]
      rw [p1]; simp only [r124_0, r124_1, r124_2, r124_5, r124_8, r124_10, r124_11, r124_12, r124_15, r124_16, r124_19, r124_20, r124_21, r124_22, r124_23, r124_26, r124_27, r124_28, r124_29, r124_30, r124_31, r124_34, r124_35, s_1, s_2, s_3, s_8, s_16, s_18, s_23, s_24, s_33, s_38, s_41, s_161, f_1_0, f_1_1, f_1_4, f_1_5, f_1_8, f_1_9, f_1_10, f_1_11, f_1_12, f_1_13, f_2_0, f_2_1, f_3_3, f_3_4, f_3_5, f_3_6, f_8_2, f_8_3, f_8_4, f_8_5, f_16_2, f_18_3, f_18_4, f_18_5, f_18_6, f_23_0, f_23_1, f_23_2, f_23_3, f_23_4, f_24_2, f_24_3, f_24_4, f_24_5, f_33_3, f_33_4, f_33_5, f_33_6, f_38_1, f_38_2, f_41_0, f_161_0, f_161_1, f_161_3, f_161_7, f_161_12, f_161_13, f_161_14, f_161_15, f_161_16, f_161_17, f_161_18, f_161_19, f_161_21, f_161_22, f_161_25, true_and, and_true, true_or, or_true, if_true, if_false, ne_eq, not_false_eq_true, and_self, t10, am_psh, am_clr, not_true_eq_false, Nat.reduceEqDiff, am_clr, show am_ix (cS L) 162 20 1 from mx 1 (by omega), show am_ixw (cS L) 162 20 1 from mw 1 (by omega), show (1 : Int32).toNatClampNeg = 1 from by decide]
      rw [j1]; simp only [r124_0, r124_1, r124_2, r124_5, r124_8, r124_10, r124_11, r124_12, r124_15, r124_16, r124_19, r124_20, r124_21, r124_22, r124_23, r124_26, r124_27, r124_28, r124_29, r124_30, r124_31, r124_34, r124_35, s_1, s_2, s_3, s_8, s_16, s_18, s_23, s_24, s_33, s_38, s_41, s_161, f_1_0, f_1_1, f_1_4, f_1_5, f_1_8, f_1_9, f_1_10, f_1_11, f_1_12, f_1_13, f_2_0, f_2_1, f_3_3, f_3_4, f_3_5, f_3_6, f_8_2, f_8_3, f_8_4, f_8_5, f_16_2, f_18_3, f_18_4, f_18_5, f_18_6, f_23_0, f_23_1, f_23_2, f_23_3, f_23_4, f_24_2, f_24_3, f_24_4, f_24_5, f_33_3, f_33_4, f_33_5, f_33_6, f_38_1, f_38_2, f_41_0, f_161_0, f_161_1, f_161_3, f_161_7, f_161_12, f_161_13, f_161_14, f_161_15, f_161_16, f_161_17, f_161_18, f_161_19, f_161_21, f_161_22, f_161_25, true_and, and_true, true_or, or_true, if_true, if_false, ne_eq, not_false_eq_true, and_self, t10, am_psh, am_clr, not_true_eq_false, Nat.reduceEqDiff]
      rw [e162, hm.1.1.2.1]
    · refine Inv_of (I := I) (s' := ((gn s.1, v, gm s.1, gt s.1, gh s.1, gc s.1, gl s.1), none)) (hs' := pushH hs s) (s0 := s0) (s1 := s1) (n := n) (o := o1) (tx := tx) ⟨⟨⟨hok.1.1.1, hn, hv, hok.1.1.2.2.2⟩, hok.1.2⟩, fun R hR => by cases hR⟩ ⟨⟨⟨?_, ?_, ?_⟩, ?_, ?_⟩, ?_⟩ ⟨⟨⟨?_, ?_, ?_⟩, ?_, ?_⟩, ?_⟩ (Or.inl ?_) (okH_push hO hok) (hM_congr (by rw [f41]) (by rw [j2 163 (by omega), am_up_ne (by omega)]) p2) k2 (hX_congr (by rw [f4 1 (by omega) (by omega) (by omega), f21]) (by rw [f4 1 (by omega) (by omega) (by omega), f21]) (fun b b1 b2 => by rw [f4 b (by omega) (by omega) (by omega), m3 b (by omega), am_up_ne (by omega)]) k3) ⟨?_, ?_⟩ hsl htx (fun b hb => ?_) ?_ ?_
      · rw [f4 3 (by omega) (by omega) (by omega), m3 3 (by omega), up_ne _ _ (Or.inr (by omega)), e3]; exact hx.1.1.1
      · rw [f4 3 (by omega) (by omega) (by omega), m3 3 (by omega), up_self]
      · rw [f4 3 (by omega) (by omega) (by omega), m3 3 (by omega), up_ne _ _ (Or.inr (by omega)), e3]; exact hx.1.1.2.2
      · intro a ha
        rw [f4 (3 + 1) (by omega) (by omega) (by omega), f4 (3 + 2) (by omega) (by omega) (by omega), f4 (3 + 3) (by omega) (by omega) (by omega), f2 (3 + 1) (by omega) (by omega) (by omega) (by omega) (by omega), f2 (3 + 2) (by omega) (by omega) (by omega) (by omega) (by omega), f2 (3 + 3) (by omega) (by omega) (by omega) (by omega) (by omega)]; exact hx.1.2.1 a ha
      · intro u hu
        rw [f4 (3 + 4) (by omega) (by omega) (by omega), f2 (3 + 4) (by omega) (by omega) (by omega) (by omega) (by omega)]; exact hx.1.2.2 u hu
      · show I4 8 0 = 0
        rw [f4 8 (by omega) (by omega) (by omega)]; exact m2
      · rw [j3 0 (by omega), up_ne _ _ (Or.inr (by omega)), e162]; exact hm.1.1.1
      · rw [j3 1 (by omega), up_self]
      · rw [j3 2 (by omega), up_ne _ _ (Or.inr (by omega)), e162]; exact hm.1.1.2.2
      · intro a ha
        have ha : a < gm s.1 := ha
        have := hok.1.1.2.2.2
        rw [j3 (3 + a) (by omega), j3 (35 + a) (by omega), j3 (67 + a) (by omega), up_ne _ _ (Or.inr (by omega)), up_ne _ _ (Or.inr (by omega)), up_ne _ _ (Or.inr (by omega)), e162]; exact hm.1.2.1 a ha
      · intro u hu
        rw [j3 (99 + u) (by omega), up_ne _ _ (Or.inr (by omega)), e162]; exact hm.1.2.2 u hu
      · exact j4
      · rw [f4 33 (by omega) (by omega) (by omega), m3 33 (by omega), am_up_ne (by omega)]; exact k6
      · rw [f4 1 (by omega) (by omega) (by omega), f21, k5 6 (by omega) (by omega), f41, p4 5 (by omega), f2 161 (by omega) (by omega) (by omega) (by omega) (by omega)]; exact hru.1
      · rw [f4 1 (by omega) (by omega) (by omega), f21, k5 7 (by omega) (by omega), f41, p4 6 (by omega), f2 161 (by omega) (by omega) (by omega) (by omega) (by omega)]; exact hru.2
      · rw [f4 b (by omega) (by omega) (by omega), f2 b (by omega) (by omega) (by omega) (by omega) (by omega)]
      · rw [f41, p4 4 (by omega), f2 161 (by omega) (by omega) (by omega) (by omega) (by omega)]
      · rw [f41, p4 8 (by omega), f2 161 (by omega) (by omega) (by omega) (by omega) (by omega)]
end CG
