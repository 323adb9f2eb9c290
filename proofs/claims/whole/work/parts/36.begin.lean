/-! begin; write, wipe, arc -/
section BG
variable {d L : Nat} {I I' : am_I} {J J' : am_J} {Q : am_Q}
theorem rng (x : Int32) (a b : Nat) (hb : b < 2 ^ 31) (hab : a ≤ b) : (x < nI a ∨ (¬ x < nI a ∧ nI b < x)) ∨ ∃ k, a ≤ k ∧ k ≤ b ∧ x = nI k := by
  by_cases h1 : x < nI a
  · exact Or.inl (Or.inl h1)
  · by_cases h2 : nI b < x
    · exact Or.inl (Or.inr ⟨h1, h2⟩)
    · refine Or.inr ?_
      have h1' : ¬ x.toInt < (nI a).toInt := fun q => h1 (Int32.lt_iff_toInt_lt.mpr q)
      have h2' : ¬ (nI b).toInt < x.toInt := fun q => h2 (Int32.lt_iff_toInt_lt.mpr q)
      rw [n_ti (by omega)] at h1' h2'
      have h0 : ¬ x < 0 := fun q => by
        have := Int32.lt_iff_toInt_lt.mp q
        have e : (0 : Int32).toInt = 0 := by decide
        omega
      obtain ⟨k, hk, rfl⟩ := nI_of h0
      rw [n_ti hk] at h1' h2'
      exact ⟨k, by omega, by omega, rfl⟩
theorem nle_of_lt {x y : Int32} (h : x < y) : ¬ y ≤ x := Int32.not_le.mpr h
theorem nlt_n {a k : Nat} (hk : k < 2 ^ 31) (h : a ≤ k) : ¬ nI k < nI a := nI_nlt h hk
set_option maxHeartbeats 2000000 in
theorem op_begin (x z : Int32) : am_OK L Inv 58 118 [.int x, .int z] := by
  intro I J hI
  have hI0 := hI
  obtain ⟨s, hs, s0, s1, n, tx, hok, hx, hm, hl, hh, hsl, hru, htx⟩ := hI
  obtain ⟨hO, hhM, o, ho, hhX⟩ := xH_iff.mp hh
  rcases rng x 2 8 (by omega) (by omega) with hv | ⟨v, hv1, hv2, rfl⟩
  · refine ok_same hI0 (x := -103) (fun Q => ?_) (fun Q => ?_)
    · rw [e58]; simp only [r58_0, r58_1, r58_2, r58_5, r58_6, r58_8, r58_11, r58_13, r58_14, r58_15, r58_18, r58_19, r58_20, r58_23, r58_25, r58_26, r58_27, r58_30, r58_33, r58_36, r58_37, r58_38, r58_41, r58_42, r58_45, r58_48, r58_49, r58_50, r58_53, r58_54, r58_55, r58_58, r58_59, s_1, s_2, s_3, s_8, s_16, s_18, s_23, s_24, s_33, s_38, s_41, s_161, f_1_0, f_1_1, f_1_4, f_1_5, f_1_8, f_1_9, f_1_10, f_1_11, f_1_12, f_1_13, f_2_0, f_2_1, f_3_3, f_3_4, f_3_5, f_3_6, f_8_2, f_8_3, f_8_4, f_8_5, f_16_2, f_18_3, f_18_4, f_18_5, f_18_6, f_23_0, f_23_1, f_23_2, f_23_3, f_23_4, f_24_2, f_24_3, f_24_4, f_24_5, f_33_3, f_33_4, f_33_5, f_33_6, f_38_1, f_38_2, f_41_0, f_161_0, f_161_1, f_161_3, f_161_7, f_161_12, f_161_13, f_161_14, f_161_15, f_161_16, f_161_17, f_161_18, f_161_19, f_161_21, f_161_22, f_161_25, true_and, and_true, true_or, or_true, if_true, if_false, ne_eq, not_false_eq_true, and_self, t10, am_psh, am_clr, not_true_eq_false, Nat.reduceEqDiff]
      rcases hv with g | ⟨g1, g2⟩
      · rw [if_pos (show x < 2 from g)]
      · rw [if_neg (show ¬ x < 2 from g1), if_neg (show ¬ x ≤ 8 from nle_of_lt g2)]
    · rw [e118]; simp only [r118_0, r118_1, r118_2, r118_4, r118_7, r118_10, r118_12, r118_13, r118_14, r118_15, r118_16, r118_17, r118_18, r118_21, r118_24, r118_26, r118_27, r118_28, r118_31, r118_32, r118_35, r118_36, r118_37, r118_38, r118_39, r118_40, r118_41, r118_44, r118_45, s_1, s_2, s_3, s_8, s_16, s_18, s_23, s_24, s_33, s_38, s_41, s_161, f_1_0, f_1_1, f_1_4, f_1_5, f_1_8, f_1_9, f_1_10, f_1_11, f_1_12, f_1_13, f_2_0, f_2_1, f_3_3, f_3_4, f_3_5, f_3_6, f_8_2, f_8_3, f_8_4, f_8_5, f_16_2, f_18_3, f_18_4, f_18_5, f_18_6, f_23_0, f_23_1, f_23_2, f_23_3, f_23_4, f_24_2, f_24_3, f_24_4, f_24_5, f_33_3, f_33_4, f_33_5, f_33_6, f_38_1, f_38_2, f_41_0, f_161_0, f_161_1, f_161_3, f_161_7, f_161_12, f_161_13, f_161_14, f_161_15, f_161_16, f_161_17, f_161_18, f_161_19, f_161_21, f_161_22, f_161_25, true_and, and_true, true_or, or_true, if_true, if_false, ne_eq, not_false_eq_true, and_self, t10, am_psh, am_clr, not_true_eq_false, Nat.reduceEqDiff, c_isIn]
      rcases hv with g | ⟨g1, g2⟩
      · rw [if_pos (show x < 2 from g)]
      · rw [if_neg (show ¬ x < 2 from g1), if_pos (show 8 < x from g2)]
  · have a1 : ¬ nI v < 2 := nlt_n (a := 2) (by omega) hv1
    have a2 : nI v ≤ 8 := (nI_leI (b := 8) (by omega) (by omega)).mpr hv2
    have a3 : ¬ 8 < nI v := Int32.not_lt.mpr a2
    rcases in_or_out z (n := v) (by omega) with hz | ⟨u, hu, rfl⟩
    · refine ok_same hI0 (x := -101) (fun Q => ?_) (fun Q => ?_)
      · rw [e58]; simp only [r58_0, r58_1, r58_2, r58_5, r58_6, r58_8, r58_11, r58_13, r58_14, r58_15, r58_18, r58_19, r58_20, r58_23, r58_25, r58_26, r58_27, r58_30, r58_33, r58_36, r58_37, r58_38, r58_41, r58_42, r58_45, r58_48, r58_49, r58_50, r58_53, r58_54, r58_55, r58_58, r58_59, s_1, s_2, s_3, s_8, s_16, s_18, s_23, s_24, s_33, s_38, s_41, s_161, f_1_0, f_1_1, f_1_4, f_1_5, f_1_8, f_1_9, f_1_10, f_1_11, f_1_12, f_1_13, f_2_0, f_2_1, f_3_3, f_3_4, f_3_5, f_3_6, f_8_2, f_8_3, f_8_4, f_8_5, f_16_2, f_18_3, f_18_4, f_18_5, f_18_6, f_23_0, f_23_1, f_23_2, f_23_3, f_23_4, f_24_2, f_24_3, f_24_4, f_24_5, f_33_3, f_33_4, f_33_5, f_33_6, f_38_1, f_38_2, f_41_0, f_161_0, f_161_1, f_161_3, f_161_7, f_161_12, f_161_13, f_161_14, f_161_15, f_161_16, f_161_17, f_161_18, f_161_19, f_161_21, f_161_22, f_161_25, true_and, and_true, true_or, or_true, if_true, if_false, ne_eq, not_false_eq_true, and_self, t10, am_psh, am_clr, not_true_eq_false, Nat.reduceEqDiff]
        rw [if_neg a1, if_pos a2]
        by_cases g : z < 0
        · rw [if_pos g]
        · rw [if_neg g, if_neg (Int32.not_lt.mpr (hz.resolve_left g))]
      · rw [e118]; simp only [r118_0, r118_1, r118_2, r118_4, r118_7, r118_10, r118_12, r118_13, r118_14, r118_15, r118_16, r118_17, r118_18, r118_21, r118_24, r118_26, r118_27, r118_28, r118_31, r118_32, r118_35, r118_36, r118_37, r118_38, r118_39, r118_40, r118_41, r118_44, r118_45, s_1, s_2, s_3, s_8, s_16, s_18, s_23, s_24, s_33, s_38, s_41, s_161, f_1_0, f_1_1, f_1_4, f_1_5, f_1_8, f_1_9, f_1_10, f_1_11, f_1_12, f_1_13, f_2_0, f_2_1, f_3_3, f_3_4, f_3_5, f_3_6, f_8_2, f_8_3, f_8_4, f_8_5, f_16_2, f_18_3, f_18_4, f_18_5, f_18_6, f_23_0, f_23_1, f_23_2, f_23_3, f_23_4, f_24_2, f_24_3, f_24_4, f_24_5, f_33_3, f_33_4, f_33_5, f_33_6, f_38_1, f_38_2, f_41_0, f_161_0, f_161_1, f_161_3, f_161_7, f_161_12, f_161_13, f_161_14, f_161_15, f_161_16, f_161_17, f_161_18, f_161_19, f_161_21, f_161_22, f_161_25, true_and, and_true, true_or, or_true, if_true, if_false, ne_eq, not_false_eq_true, and_self, t10, am_psh, am_clr, not_true_eq_false, Nat.reduceEqDiff, c_isIn]
        rw [if_neg a1, if_neg a3]
        by_cases g : z < 0
        · rw [if_pos g]
        · rw [if_neg g, if_pos ((sub1_lt (by omega)).mpr (hz.resolve_left g))]
    · obtain ⟨I1, o1, k1, k2, k3, k4, k5, k6, k7⟩ := c_keep (d := 35) (L := L) (J := J) hok hx ho hhX hO.1
      have e8 : I1 8 = I 8 := k4 8 (by omega) (by omega) (by omega)
      have hfil : ∀ b, b ≠ 3 → b ≠ 7 → am_fil (am_up (am_up (am_up I1 3 0 (nI v)) 3 1 (nI u)) 3 2 0) 7 8 7 b = I1 b := fun b b1 b2 => by
        unfold am_fil
        rw [am_row_ne b2, am_up_ne b1, am_up_ne b1, am_up_ne b1]
      obtain ⟨I2, m1, m2, m3, m4⟩ := c_settle_F (d := 38) (L := L) (J := J) (I := am_fil (am_up (am_up (am_up I1 3 0 (nI v)) 3 1 (nI u)) 3 2 0) 7 8 7) (by rw [hfil 8 (by omega) (by omega), e8]; exact xS_01 hx)
      have f2 : ∀ b, b ≠ 1 → b ≠ 3 → b ≠ 7 → b ≠ 8 → b ≠ 33 → (b < 52 ∨ 139 ≤ b) → I2 b = I b := fun b b1 b2 b3 b4 b5 b6 => by rw [m3 b b4, hfil b b2 b3, k4 b b1 b5 b6]
      have g161 : I2 161 = I 161 := f2 161 (by omega) (by omega) (by omega) (by omega) (by omega) (by omega)
      have g162 : I2 162 = I 162 := f2 162 (by omega) (by omega) (by omega) (by omega) (by omega) (by omega)
      have i3 : ∀ j, I2 3 j = am_up (am_up (am_up I1 3 0 (nI v)) 3 1 (nI u)) 3 2 0 3 j := fun j => by
        rw [m3 3 (by omega)]; unfold am_fil; rw [am_row_ne (by omega)]
      have i7 : ∀ j, j < 8 → I2 7 j = 7 := fun j hj => by
        rw [m3 7 (by omega)]; unfold am_fil; rw [am_row_eq, if_pos hj]
      obtain ⟨I3, p1, p2, p3, p4⟩ := c_Mkeep (d := 38) (L := L) (J := J) (I := I2) (hs := hs) hok (by rw [g162]; exact hm) (hM_congr (by rw [g161]) (f2 163 (by omega) (by omega) (by omega) (by omega) (by omega) (by omega)) hhM) hO
      have e162 : I3 162 = I 162 := by rw [p3 162 (by omega) (by omega), g162]
      have f4 : ∀ b, b ≠ 161 → b ≠ 162 → b ≠ 163 → (am_row I3 162 (g_clr (I3 162) (nI v) (nI u))) b = I2 b := fun b b1 b2 b3 => by rw [am_row_ne b2, p3 b b1 b3]
      have f41 : (am_row I3 162 (g_clr (I3 162) (nI v) (nI u))) 161 = I3 161 := am_row_ne (by omega)
      refine ⟨.int (nI (gn s.1)), I2, J, am_row I3 162 (g_clr (I3 162) (nI v) (nI u)), J, fun Q => ?_, f2 0 (by omega) (by omega) (by omega) (by omega) (by omega) (by omega), fun Q => ?_, by rw [f4 0 (by omega) (by omega) (by omega), f2 0 (by omega) (by omega) (by omega) (by omega) (by omega) (by omega)], ?_, _, rfl⟩
      · rw [e58]; simp only [r58_0, r58_1, r58_2, r58_5, r58_6, r58_8, r58_11, r58_13, r58_14, r58_15, r58_18, r58_19, r58_20, r58_23, r58_25, r58_26, r58_27, r58_30, r58_33, r58_36, r58_37, r58_38, r58_41, r58_42, r58_45, r58_48, r58_49, r58_50, r58_53, r58_54, r58_55, r58_58, r58_59, s_1, s_2, s_3, s_8, s_16, s_18, s_23, s_24, s_33, s_38, s_41, s_161, f_1_0, f_1_1, f_1_4, f_1_5, f_1_8, f_1_9, f_1_10, f_1_11, f_1_12, f_1_13, f_2_0, f_2_1, f_3_3, f_3_4, f_3_5, f_3_6, f_8_2, f_8_3, f_8_4, f_8_5, f_16_2, f_18_3, f_18_4, f_18_5, f_18_6, f_23_0, f_23_1, f_23_2, f_23_3, f_23_4, f_24_2, f_24_3, f_24_4, f_24_5, f_33_3, f_33_4, f_33_5, f_33_6, f_38_1, f_38_2, f_41_0, f_161_0, f_161_1, f_161_3, f_161_7, f_161_12, f_161_13, f_161_14, f_161_15, f_161_16, f_161_17, f_161_18, f_161_19, f_161_21, f_161_22, f_161_25, true_and, and_true, true_or, or_true, if_true, if_false, ne_eq, not_false_eq_true, and_self, t10, am_psh, am_clr, not_true_eq_false, Nat.reduceEqDiff]
        rw [if_neg a1, if_pos a2, if_neg (nI_pos (by omega)), if_pos (nI_lt hu (by omega)), k1]
        simp only [r58_0, r58_1, r58_2, r58_5, r58_6, r58_8, r58_11, r58_13, r58_14, r58_15, r58_18, r58_19, r58_20, r58_23, r58_25, r58_26, r58_27, r58_30, r58_33, r58_36, r58_37, r58_38, r58_41, r58_42, r58_45, r58_48, r58_49, r58_50, r58_53, r58_54, r58_55, r58_58, r58_59, s_1, s_2, s_3, s_8, s_16, s_18, s_23, s_24, s_33, s_38, s_41, s_161, f_1_0, f_1_1, f_1_4, f_1_5, f_1_8, f_1_9, f_1_10, f_1_11, f_1_12, f_1_13, f_2_0, f_2_1, f_3_3, f_3_4, f_3_5, f_3_6, f_8_2, f_8_3, f_8_4, f_8_5, f_16_2, f_18_3, f_18_4, f_18_5, f_18_6, f_23_0, f_23_1, f_23_2, f_23_3, f_23_4, f_24_2, f_24_3, f_24_4, f_24_5, f_33_3, f_33_4, f_33_5, f_33_6, f_38_1, f_38_2, f_41_0, f_161_0, f_161_1, f_161_3, f_161_7, f_161_12, f_161_13, f_161_14, f_161_15, f_161_16, f_161_17, f_161_18, f_161_19, f_161_21, f_161_22, f_161_25, true_and, and_true, true_or, or_true, if_true, if_false, ne_eq, not_false_eq_true, and_self, t10, am_psh, am_clr, not_true_eq_false, Nat.reduceEqDiff]
        rw [c_Gra_clear (q := 7) (of_eq_true (s_3 L)) (f_3_6 L) (k_7 L) (n_7 L) (by omega)]
        simp only [r58_0, r58_1, r58_2, r58_5, r58_6, r58_8, r58_11, r58_13, r58_14, r58_15, r58_18, r58_19, r58_20, r58_23, r58_25, r58_26, r58_27, r58_30, r58_33, r58_36, r58_37, r58_38, r58_41, r58_42, r58_45, r58_48, r58_49, r58_50, r58_53, r58_54, r58_55, r58_58, r58_59, s_1, s_2, s_3, s_8, s_16, s_18, s_23, s_24, s_33, s_38, s_41, s_161, f_1_0, f_1_1, f_1_4, f_1_5, f_1_8, f_1_9, f_1_10, f_1_11, f_1_12, f_1_13, f_2_0, f_2_1, f_3_3, f_3_4, f_3_5, f_3_6, f_8_2, f_8_3, f_8_4, f_8_5, f_16_2, f_18_3, f_18_4, f_18_5, f_18_6, f_23_0, f_23_1, f_23_2, f_23_3, f_23_4, f_24_2, f_24_3, f_24_4, f_24_5, f_33_3, f_33_4, f_33_5, f_33_6, f_38_1, f_38_2, f_41_0, f_161_0, f_161_1, f_161_3, f_161_7, f_161_12, f_161_13, f_161_14, f_161_15, f_161_16, f_161_17, f_161_18, f_161_19, f_161_21, f_161_22, f_161_25, true_and, and_true, true_or, or_true, if_true, if_false, ne_eq, not_false_eq_true, and_self, t10, am_psh, am_clr, not_true_eq_false, Nat.reduceEqDiff]
        rw [m1]
        simp only [r58_0, r58_1, r58_2, r58_5, r58_6, r58_8, r58_11, r58_13, r58_14, r58_15, r58_18, r58_19, r58_20, r58_23, r58_25, r58_26, r58_27, r58_30, r58_33, r58_36, r58_37, r58_38, r58_41, r58_42, r58_45, r58_48, r58_49, r58_50, r58_53, r58_54, r58_55, r58_58, r58_59, s_1, s_2, s_3, s_8, s_16, s_18, s_23, s_24, s_33, s_38, s_41, s_161, f_1_0, f_1_1, f_1_4, f_1_5, f_1_8, f_1_9, f_1_10, f_1_11, f_1_12, f_1_13, f_2_0, f_2_1, f_3_3, f_3_4, f_3_5, f_3_6, f_8_2, f_8_3, f_8_4, f_8_5, f_16_2, f_18_3, f_18_4, f_18_5, f_18_6, f_23_0, f_23_1, f_23_2, f_23_3, f_23_4, f_24_2, f_24_3, f_24_4, f_24_5, f_33_3, f_33_4, f_33_5, f_33_6, f_38_1, f_38_2, f_41_0, f_161_0, f_161_1, f_161_3, f_161_7, f_161_12, f_161_13, f_161_14, f_161_15, f_161_16, f_161_17, f_161_18, f_161_19, f_161_21, f_161_22, f_161_25, true_and, and_true, true_or, or_true, if_true, if_false, ne_eq, not_false_eq_true, and_self, t10, am_psh, am_clr, not_true_eq_false, Nat.reduceEqDiff]
        rw [hx.1.1.1]
      · rw [e118]; simp only [r118_0, r118_1, r118_2, r118_4, r118_7, r118_10, r118_12, r118_13, r118_14, r118_15, r118_16, r118_17, r118_18, r118_21, r118_24, r118_26, r118_27, r118_28, r118_31, r118_32, r118_35, r118_36, r118_37, r118_38, r118_39, r118_40, r118_41, r118_44, r118_45, s_1, s_2, s_3, s_8, s_16, s_18, s_23, s_24, s_33, s_38, s_41, s_161, f_1_0, f_1_1, f_1_4, f_1_5, f_1_8, f_1_9, f_1_10, f_1_11, f_1_12, f_1_13, f_2_0, f_2_1, f_3_3, f_3_4, f_3_5, f_3_6, f_8_2, f_8_3, f_8_4, f_8_5, f_16_2, f_18_3, f_18_4, f_18_5, f_18_6, f_23_0, f_23_1, f_23_2, f_23_3, f_23_4, f_24_2, f_24_3, f_24_4, f_24_5, f_33_3, f_33_4, f_33_5, f_33_6, f_38_1, f_38_2, f_41_0, f_161_0, f_161_1, f_161_3, f_161_7, f_161_12, f_161_13, f_161_14, f_161_15, f_161_16, f_161_17, f_161_18, f_161_19, f_161_21, f_161_22, f_161_25, true_and, and_true, true_or, or_true, if_true, if_false, ne_eq, not_false_eq_true, and_self, t10, am_psh, am_clr, not_true_eq_false, Nat.reduceEqDiff, c_isIn]
        rw [if_neg a1, if_neg a3, if_neg (nI_pos (by omega)), if_neg (fun q => absurd ((sub1_lt (by omega)).mp q) (nI_ge hu (by omega))), p1]
        simp only [r118_0, r118_1, r118_2, r118_4, r118_7, r118_10, r118_12, r118_13, r118_14, r118_15, r118_16, r118_17, r118_18, r118_21, r118_24, r118_26, r118_27, r118_28, r118_31, r118_32, r118_35, r118_36, r118_37, r118_38, r118_39, r118_40, r118_41, r118_44, r118_45, s_1, s_2, s_3, s_8, s_16, s_18, s_23, s_24, s_33, s_38, s_41, s_161, f_1_0, f_1_1, f_1_4, f_1_5, f_1_8, f_1_9, f_1_10, f_1_11, f_1_12, f_1_13, f_2_0, f_2_1, f_3_3, f_3_4, f_3_5, f_3_6, f_8_2, f_8_3, f_8_4, f_8_5, f_16_2, f_18_3, f_18_4, f_18_5, f_18_6, f_23_0, f_23_1, f_23_2, f_23_3, f_23_4, f_24_2, f_24_3, f_24_4, f_24_5, f_33_3, f_33_4, f_33_5, f_33_6, f_38_1, f_38_2, f_41_0, f_161_0, f_161_1, f_161_3, f_161_7, f_161_12, f_161_13, f_161_14, f_161_15, f_161_16, f_161_17, f_161_18, f_161_19, f_161_21, f_161_22, f_161_25, true_and, and_true, true_or, or_true, if_true, if_false, ne_eq, not_false_eq_true, and_self, t10, am_psh, am_clr, not_true_eq_false, Nat.reduceEqDiff, show am_ix (cS L) 162 20 0 from mx 0 (by omega), show (0 : Int32).toNatClampNeg = 0 from by decide]
        rw [c_Mod_clear (q := 162) (of_eq_true (s_161 L)) (f_161_0 L) (k_162 L) (n_162 L) (by omega)]
        simp only [r118_0, r118_1, r118_2, r118_4, r118_7, r118_10, r118_12, r118_13, r118_14, r118_15, r118_16, r118_17, r118_18, r118_21, r118_24, r118_26, r118_27, r118_28, r118_31, r118_32, r118_35, r118_36, r118_37, r118_38, r118_39, r118_40, r118_41, r118_44, r118_45, s_1, s_2, s_3, s_8, s_16, s_18, s_23, s_24, s_33, s_38, s_41, s_161, f_1_0, f_1_1, f_1_4, f_1_5, f_1_8, f_1_9, f_1_10, f_1_11, f_1_12, f_1_13, f_2_0, f_2_1, f_3_3, f_3_4, f_3_5, f_3_6, f_8_2, f_8_3, f_8_4, f_8_5, f_16_2, f_18_3, f_18_4, f_18_5, f_18_6, f_23_0, f_23_1, f_23_2, f_23_3, f_23_4, f_24_2, f_24_3, f_24_4, f_24_5, f_33_3, f_33_4, f_33_5, f_33_6, f_38_1, f_38_2, f_41_0, f_161_0, f_161_1, f_161_3, f_161_7, f_161_12, f_161_13, f_161_14, f_161_15, f_161_16, f_161_17, f_161_18, f_161_19, f_161_21, f_161_22, f_161_25, true_and, and_true, true_or, or_true, if_true, if_false, ne_eq, not_false_eq_true, and_self, t10, am_psh, am_clr, not_true_eq_false, Nat.reduceEqDiff]
        rw [e162, hm.1.1.1]
      · refine Inv_of (I := I) (s' := ((v, u, 0, fun _ => 0, fun _ => 0, fun _ => 0, fun _ => 7), none)) (hs' := pushH hs s) (s0 := s0) (s1 := s1) (n := n) (o := o1) (tx := tx) ⟨⟨⟨hv1, hv2, hu, Nat.zero_le 32⟩, fun a ha => absurd ha (Nat.not_lt_zero a), fun _ _ => Nat.le_refl 7⟩, fun R hR => by cases hR⟩ ⟨⟨⟨?_, ?_, ?_⟩, fun a ha => absurd ha (Nat.not_lt_zero a), ?_⟩, ?_⟩ ⟨⟨⟨?_, ?_, ?_⟩, fun a ha => absurd ha (Nat.not_lt_zero a), ?_⟩, ?_⟩ (Or.inl ?_) (okH_push hO hok) (hM_congr (by rw [f41]) (am_row_ne (by omega)) p2) k2 (hX_congr (by rw [f4 1 (by omega) (by omega) (by omega), m3 1 (by omega), hfil 1 (by omega) (by omega)]) (by rw [f4 1 (by omega) (by omega) (by omega), m3 1 (by omega), hfil 1 (by omega) (by omega)]) (fun b b1 b2 => by rw [f4 b (by omega) (by omega) (by omega), m3 b (by omega), hfil b (by omega) (by omega)]) k3) ⟨?_, ?_⟩ hsl htx (fun b hb => ?_) ?_ ?_
        · rw [f4 3 (by omega) (by omega) (by omega), i3, up_ne _ _ (Or.inr (by omega)), up_ne _ _ (Or.inr (by omega)), up_self]
        · rw [f4 3 (by omega) (by omega) (by omega), i3, up_ne _ _ (Or.inr (by omega)), up_self]
        · rw [f4 3 (by omega) (by omega) (by omega), i3, up_self]; rfl
        · intro y hy
          rw [f4 (3 + 4) (by omega) (by omega) (by omega), i7 y hy]; rfl
        · show (am_row I3 162 (g_clr (I3 162) (nI v) (nI u))) 8 0 = 0
          rw [f4 8 (by omega) (by omega) (by omega)]; exact m2
        · rw [am_row_eq]; rfl
        · rw [am_row_eq]; rfl
        · rw [am_row_eq]; rfl
        · intro y hy
          rw [am_row_eq]; unfold g_clr; rw [if_pos (by omega)]; rfl
        · show (am_row I3 162 (g_clr (I3 162) (nI v) (nI u))) 162 107 = 0
          rw [am_row_eq]; rfl
        · rw [f4 33 (by omega) (by omega) (by omega), m3 33 (by omega), hfil 33 (by omega) (by omega)]; exact k6
        · rw [f4 1 (by omega) (by omega) (by omega), m3 1 (by omega), hfil 1 (by omega) (by omega), k5 6 (by omega) (by omega), f41, p4 5 (by omega), g161]; exact hru.1
        · rw [f4 1 (by omega) (by omega) (by omega), m3 1 (by omega), hfil 1 (by omega) (by omega), k5 7 (by omega) (by omega), f41, p4 6 (by omega), g161]; exact hru.2
        · rw [f4 b (by omega) (by omega) (by omega), f2 b (by omega) (by omega) (by omega) (by omega) (by omega) (by omega)]
        · rw [f41, p4 4 (by omega), g161]
        · rw [f41, p4 8 (by omega), g161]
/-- nothing of the graph changes: the rest of the invariant -/
theorem Inv_tx {n' : Nat} {tx' : Nat → Nat} (hI : Inv I J) (fr : ∀ b, b ≠ 16 → b ≠ 17 → b ≠ 161 → b ≠ 165 → I' b = I b) (f16 : ∀ j, j ≠ 8 → I' 161 j = I 161 j) (htx : xT I' n' tx') : Inv I' J' := by
  obtain ⟨s, hs, s0, s1, n, tx, hok, hx, hm, hl, hh, hsl, hru, -⟩ := hI
  obtain ⟨hO, hhM, o, ho, hhX⟩ := xH_iff.mp hh
  refine ⟨s, hs, s0, s1, n', tx', hok, xS_congr (fun b b1 b2 => fr b (by omega) (by omega) (by omega) (by omega)) (fun b b1 b2 => fr b (by omega) (by omega) (by omega) (by omega)) hx, by rw [fr 162 (by omega) (by omega) (by omega) (by omega)]; exact hm, ?_, xH_iff.mpr ⟨hO, hM_congr (f16 2 (by omega)) (fr 163 (by omega) (by omega) (by omega) (by omega)) hhM, o, ho, hX_congr (by rw [fr 1 (by omega) (by omega) (by omega) (by omega)]) (by rw [fr 1 (by omega) (by omega) (by omega) (by omega)]) (fun b b1 b2 => fr b (by omega) (by omega) (by omega) (by omega)) hhX⟩, ⟨xSl_congr (by omega) (fr 15 (by omega) (by omega) (by omega) (by omega)) (fr 164 (by omega) (by omega) (by omega) (by omega)) (fun b b1 b2 => fr b (by omega) (by omega) (by omega) (by omega)) hsl.1, xSl_congr (by omega) (fr 15 (by omega) (by omega) (by omega) (by omega)) (fr 164 (by omega) (by omega) (by omega) (by omega)) (fun b b1 b2 => fr b (by omega) (by omega) (by omega) (by omega)) hsl.2.1, (f16 4 (by omega)).trans hsl.2.2⟩, ⟨?_, ?_⟩, htx⟩
  · unfold xL
    rw [fr 33 (by omega) (by omega) (by omega) (by omega), fr 34 (by omega) (by omega) (by omega) (by omega)]; exact hl
  · rw [fr 1 (by omega) (by omega) (by omega) (by omega), f16 5 (by omega)]; exact hru.1
  · rw [fr 1 (by omega) (by omega) (by omega) (by omega), f16 6 (by omega)]; exact hru.2
theorem op_wipe : am_OK L Inv 72 135 [] := by
  intro I J hI
  have hI0 := hI
  obtain ⟨s, hs, s0, s1, n, tx, hok, hx, hm, hl, hh, hsl, hru, htx⟩ := hI
  refine ⟨.int (nI n), am_up I 16 0 0, J, am_up (am_up I 16 0 0) 161 8 0, J, fun Q => ?_, am_up_ne (by omega), fun Q => ?_, by rw [am_up_ne (by omega), am_up_ne (by omega)], Inv_tx (n' := 0) (tx' := tx) hI0 (fun b b1 b2 b3 b4 => by rw [am_up_ne b3, am_up_ne b1]) (fun j hj => by rw [up_ne _ _ (Or.inr hj), am_up_ne (by omega)]) ⟨⟨by rw [am_up_ne (by omega), up_self]; rfl, by rw [up_self]; rfl, by omega⟩, fun i hi => absurd hi (Nat.not_lt_zero i)⟩, _, rfl⟩
  · rw [e72]; simp only [r72_0, r72_1, r72_4, r72_7, r72_8, r72_9, r72_12, r72_13, r72_16, r72_17, s_1, s_2, s_3, s_8, s_16, s_18, s_23, s_24, s_33, s_38, s_41, s_161, f_1_0, f_1_1, f_1_4, f_1_5, f_1_8, f_1_9, f_1_10, f_1_11, f_1_12, f_1_13, f_2_0, f_2_1, f_3_3, f_3_4, f_3_5, f_3_6, f_8_2, f_8_3, f_8_4, f_8_5, f_16_2, f_18_3, f_18_4, f_18_5, f_18_6, f_23_0, f_23_1, f_23_2, f_23_3, f_23_4, f_24_2, f_24_3, f_24_4, f_24_5, f_33_3, f_33_4, f_33_5, f_33_6, f_38_1, f_38_2, f_41_0, f_161_0, f_161_1, f_161_3, f_161_7, f_161_12, f_161_13, f_161_14, f_161_15, f_161_16, f_161_17, f_161_18, f_161_19, f_161_21, f_161_22, f_161_25, true_and, and_true, true_or, or_true, if_true, if_false, ne_eq, not_false_eq_true, and_self, t10, am_psh, am_clr, not_true_eq_false, Nat.reduceEqDiff, htx.1.1]
  · rw [e135]; simp only [r135_0, r135_1, r135_4, r135_5, r135_6, r135_7, r135_10, r135_11, s_1, s_2, s_3, s_8, s_16, s_18, s_23, s_24, s_33, s_38, s_41, s_161, f_1_0, f_1_1, f_1_4, f_1_5, f_1_8, f_1_9, f_1_10, f_1_11, f_1_12, f_1_13, f_2_0, f_2_1, f_3_3, f_3_4, f_3_5, f_3_6, f_8_2, f_8_3, f_8_4, f_8_5, f_16_2, f_18_3, f_18_4, f_18_5, f_18_6, f_23_0, f_23_1, f_23_2, f_23_3, f_23_4, f_24_2, f_24_3, f_24_4, f_24_5, f_33_3, f_33_4, f_33_5, f_33_6, f_38_1, f_38_2, f_41_0, f_161_0, f_161_1, f_161_3, f_161_7, f_161_12, f_161_13, f_161_14, f_161_15, f_161_16, f_161_17, f_161_18, f_161_19, f_161_21, f_161_22, f_161_25, true_and, and_true, true_or, or_true, if_true, if_false, ne_eq, not_false_eq_true, and_self, t10, am_psh, am_clr, not_true_eq_false, Nat.reduceEqDiff, am_up_ne (show 161 ≠ 16 by omega), htx.1.2.1]
theorem i2c_id {k : Nat} (h : k < 65536) : am_i2c (nI k) = nI k := by
  unfold am_i2c
  rw [pk_char, pk_tn (by omega), Nat.mod_eq_of_lt h]
theorem op_write (x : Int32) : am_OK L Inv 71 134 [.int x] := by
  intro I J hI
  have hI0 := hI
  obtain ⟨s, hs, s0, s1, n, tx, hok, hx, hm, hl, hh, hsl, hru, htx⟩ := hI
  obtain ⟨⟨t1, t2, t3⟩, t4⟩ := htx
  rcases rng x 32 126 (by omega) (by omega) with hv | ⟨v, hv1, hv2, rfl⟩
  · refine ok_same hI0 (x := -103) (fun Q => ?_) (fun Q => ?_)
    · rw [e71]; simp only [r71_0, r71_1, r71_3, r71_6, r71_7, r71_9, r71_12, r71_14, r71_15, r71_16, r71_19, r71_22, r71_25, r71_28, r71_30, r71_31, r71_32, r71_35, r71_36, r71_39, r71_40, r71_43, r71_46, s_1, s_2, s_3, s_8, s_16, s_18, s_23, s_24, s_33, s_38, s_41, s_161, f_1_0, f_1_1, f_1_4, f_1_5, f_1_8, f_1_9, f_1_10, f_1_11, f_1_12, f_1_13, f_2_0, f_2_1, f_3_3, f_3_4, f_3_5, f_3_6, f_8_2, f_8_3, f_8_4, f_8_5, f_16_2, f_18_3, f_18_4, f_18_5, f_18_6, f_23_0, f_23_1, f_23_2, f_23_3, f_23_4, f_24_2, f_24_3, f_24_4, f_24_5, f_33_3, f_33_4, f_33_5, f_33_6, f_38_1, f_38_2, f_41_0, f_161_0, f_161_1, f_161_3, f_161_7, f_161_12, f_161_13, f_161_14, f_161_15, f_161_16, f_161_17, f_161_18, f_161_19, f_161_21, f_161_22, f_161_25, true_and, and_true, true_or, or_true, if_true, if_false, ne_eq, not_false_eq_true, and_self, t10, am_psh, am_clr, not_true_eq_false, Nat.reduceEqDiff]
      rcases hv with g | ⟨g1, g2⟩
      · rw [if_pos (show x < 32 from g)]
      · rw [if_neg (show ¬ x < 32 from g1), if_neg (show ¬ x ≤ 126 from nle_of_lt g2)]
    · rw [e134]; simp only [r134_0, r134_1, r134_3, r134_5, r134_8, r134_11, r134_13, r134_14, r134_15, r134_18, r134_21, r134_24, r134_26, r134_27, r134_28, r134_31, r134_32, r134_35, r134_36, r134_37, r134_38, r134_39, r134_42, r134_43, r134_44, r134_47, r134_48, r134_51, s_1, s_2, s_3, s_8, s_16, s_18, s_23, s_24, s_33, s_38, s_41, s_161, f_1_0, f_1_1, f_1_4, f_1_5, f_1_8, f_1_9, f_1_10, f_1_11, f_1_12, f_1_13, f_2_0, f_2_1, f_3_3, f_3_4, f_3_5, f_3_6, f_8_2, f_8_3, f_8_4, f_8_5, f_16_2, f_18_3, f_18_4, f_18_5, f_18_6, f_23_0, f_23_1, f_23_2, f_23_3, f_23_4, f_24_2, f_24_3, f_24_4, f_24_5, f_33_3, f_33_4, f_33_5, f_33_6, f_38_1, f_38_2, f_41_0, f_161_0, f_161_1, f_161_3, f_161_7, f_161_12, f_161_13, f_161_14, f_161_15, f_161_16, f_161_17, f_161_18, f_161_19, f_161_21, f_161_22, f_161_25, true_and, and_true, true_or, or_true, if_true, if_false, ne_eq, not_false_eq_true, and_self, t10, am_psh, am_clr, not_true_eq_false, Nat.reduceEqDiff, c_isIn]
      rcases hv with g | ⟨g1, g2⟩
      · rw [if_pos (show x < 32 from g)]
      · rw [if_neg (show ¬ x < 32 from g1), if_pos (show 126 < x from g2)]
  · have a1 : ¬ nI v < 32 := nlt_n (a := 32) (by omega) hv1
    have a2 : nI v ≤ 126 := (nI_leI (b := 126) (by omega) (by omega)).mpr hv2
    have a3 : ¬ 126 < nI v := Int32.not_lt.mpr a2
    by_cases hn : n = 300
    · subst hn
      refine ok_same hI0 (x := -104) (fun Q => ?_) (fun Q => ?_)
      · rw [e71]; simp only [r71_0, r71_1, r71_3, r71_6, r71_7, r71_9, r71_12, r71_14, r71_15, r71_16, r71_19, r71_22, r71_25, r71_28, r71_30, r71_31, r71_32, r71_35, r71_36, r71_39, r71_40, r71_43, r71_46, s_1, s_2, s_3, s_8, s_16, s_18, s_23, s_24, s_33, s_38, s_41, s_161, f_1_0, f_1_1, f_1_4, f_1_5, f_1_8, f_1_9, f_1_10, f_1_11, f_1_12, f_1_13, f_2_0, f_2_1, f_3_3, f_3_4, f_3_5, f_3_6, f_8_2, f_8_3, f_8_4, f_8_5, f_16_2, f_18_3, f_18_4, f_18_5, f_18_6, f_23_0, f_23_1, f_23_2, f_23_3, f_23_4, f_24_2, f_24_3, f_24_4, f_24_5, f_33_3, f_33_4, f_33_5, f_33_6, f_38_1, f_38_2, f_41_0, f_161_0, f_161_1, f_161_3, f_161_7, f_161_12, f_161_13, f_161_14, f_161_15, f_161_16, f_161_17, f_161_18, f_161_19, f_161_21, f_161_22, f_161_25, true_and, and_true, true_or, or_true, if_true, if_false, ne_eq, not_false_eq_true, and_self, t10, am_psh, am_clr, not_true_eq_false, Nat.reduceEqDiff]
        rw [if_neg a1, if_pos a2, t1, if_neg (by decide)]
      · rw [e134]; simp only [r134_0, r134_1, r134_3, r134_5, r134_8, r134_11, r134_13, r134_14, r134_15, r134_18, r134_21, r134_24, r134_26, r134_27, r134_28, r134_31, r134_32, r134_35, r134_36, r134_37, r134_38, r134_39, r134_42, r134_43, r134_44, r134_47, r134_48, r134_51, s_1, s_2, s_3, s_8, s_16, s_18, s_23, s_24, s_33, s_38, s_41, s_161, f_1_0, f_1_1, f_1_4, f_1_5, f_1_8, f_1_9, f_1_10, f_1_11, f_1_12, f_1_13, f_2_0, f_2_1, f_3_3, f_3_4, f_3_5, f_3_6, f_8_2, f_8_3, f_8_4, f_8_5, f_16_2, f_18_3, f_18_4, f_18_5, f_18_6, f_23_0, f_23_1, f_23_2, f_23_3, f_23_4, f_24_2, f_24_3, f_24_4, f_24_5, f_33_3, f_33_4, f_33_5, f_33_6, f_38_1, f_38_2, f_41_0, f_161_0, f_161_1, f_161_3, f_161_7, f_161_12, f_161_13, f_161_14, f_161_15, f_161_16, f_161_17, f_161_18, f_161_19, f_161_21, f_161_22, f_161_25, true_and, and_true, true_or, or_true, if_true, if_false, ne_eq, not_false_eq_true, and_self, t10, am_psh, am_clr, not_true_eq_false, Nat.reduceEqDiff, c_isIn]
        rw [if_neg a1, if_neg a3, t2, if_pos (by decide)]
    · have b1 : ¬ (300 : Int32) ≤ nI n := ge_lit (c := 300) rfl (by omega) (by omega)
      have b2 : nI n < 300 := (nI_ltI (b := 300) (by omega) (by omega)).mpr (by omega)
      have b3 : ¬ nI n = 300 := fun q => hn ((nI_eq (b := 300) (by omega) (by omega)).mp q)
      refine ⟨.int (nI (n + 1)), am_up (am_up I 17 n (nI v)) 16 0 (nI (n + 1)), J, am_up (am_up (am_up (am_up I 17 n (nI v)) 16 0 (nI (n + 1))) 165 n (nI v)) 161 8 (nI (n + 1)), J, fun Q => ?_, by rw [am_up_ne (by omega), am_up_ne (by omega)], fun Q => ?_, by rw [am_up_ne (by omega), am_up_ne (by omega), am_up_ne (by omega), am_up_ne (by omega)], Inv_tx (n' := n + 1) (tx' := fun i => if i = n then v else tx i) hI0 (fun b b1 b2 b3 b4 => by rw [am_up_ne b3, am_up_ne b4, am_up_ne b1, am_up_ne b2]) (fun j hj => by rw [up_ne _ _ (Or.inr hj), am_up_ne (by omega), am_up_ne (by omega), am_up_ne (by omega)]) ⟨⟨by rw [am_up_ne (by omega), am_up_ne (by omega), up_self], by rw [up_self], by omega⟩, fun i hi => ?_⟩, _, rfl⟩
      · rw [e71]; simp only [r71_0, r71_1, r71_3, r71_6, r71_7, r71_9, r71_12, r71_14, r71_15, r71_16, r71_19, r71_22, r71_25, r71_28, r71_30, r71_31, r71_32, r71_35, r71_36, r71_39, r71_40, r71_43, r71_46, s_1, s_2, s_3, s_8, s_16, s_18, s_23, s_24, s_33, s_38, s_41, s_161, f_1_0, f_1_1, f_1_4, f_1_5, f_1_8, f_1_9, f_1_10, f_1_11, f_1_12, f_1_13, f_2_0, f_2_1, f_3_3, f_3_4, f_3_5, f_3_6, f_8_2, f_8_3, f_8_4, f_8_5, f_16_2, f_18_3, f_18_4, f_18_5, f_18_6, f_23_0, f_23_1, f_23_2, f_23_3, f_23_4, f_24_2, f_24_3, f_24_4, f_24_5, f_33_3, f_33_4, f_33_5, f_33_6, f_38_1, f_38_2, f_41_0, f_161_0, f_161_1, f_161_3, f_161_7, f_161_12, f_161_13, f_161_14, f_161_15, f_161_16, f_161_17, f_161_18, f_161_19, f_161_21, f_161_22, f_161_25, true_and, and_true, true_or, or_true, if_true, if_false, ne_eq, not_false_eq_true, and_self, t10, am_psh, am_clr, not_true_eq_false, Nat.reduceEqDiff]
        rw [if_neg a1, if_pos a2, t1, if_pos b2, e20]
        simp only [r20_0, r20_1, r20_4, r20_7, r20_10, r20_11, r20_14, r20_15, r20_18, r20_19, r20_20, r20_21, r20_22, r20_23, r20_26, r20_27, r20_28, r20_31, s_1, s_2, s_3, s_8, s_16, s_18, s_23, s_24, s_33, s_38, s_41, s_161, f_1_0, f_1_1, f_1_4, f_1_5, f_1_8, f_1_9, f_1_10, f_1_11, f_1_12, f_1_13, f_2_0, f_2_1, f_3_3, f_3_4, f_3_5, f_3_6, f_8_2, f_8_3, f_8_4, f_8_5, f_16_2, f_18_3, f_18_4, f_18_5, f_18_6, f_23_0, f_23_1, f_23_2, f_23_3, f_23_4, f_24_2, f_24_3, f_24_4, f_24_5, f_33_3, f_33_4, f_33_5, f_33_6, f_38_1, f_38_2, f_41_0, f_161_0, f_161_1, f_161_3, f_161_7, f_161_12, f_161_13, f_161_14, f_161_15, f_161_16, f_161_17, f_161_18, f_161_19, f_161_21, f_161_22, f_161_25, true_and, and_true, true_or, or_true, if_true, if_false, ne_eq, not_false_eq_true, and_self, t10, am_psh, am_clr, not_true_eq_false, Nat.reduceEqDiff, t1, i2c_id (show v < 65536 by omega), n_cl (show n < 2 ^ 31 by omega), (show ∀ x : Int32, am_up I 17 n x 16 = I 16 from fun x => am_up_ne (by omega)), nI_1]
        rw [if_neg b1, eq_true (show am_ixw (cS L) 17 22 (nI n) from ixw_nI (k_17 L) (by omega) (n_17 L) (by omega) (by omega)), true_and]
        simp only [r71_0, r71_1, r71_3, r71_6, r71_7, r71_9, r71_12, r71_14, r71_15, r71_16, r71_19, r71_22, r71_25, r71_28, r71_30, r71_31, r71_32, r71_35, r71_36, r71_39, r71_40, r71_43, r71_46, s_1, s_2, s_3, s_8, s_16, s_18, s_23, s_24, s_33, s_38, s_41, s_161, f_1_0, f_1_1, f_1_4, f_1_5, f_1_8, f_1_9, f_1_10, f_1_11, f_1_12, f_1_13, f_2_0, f_2_1, f_3_3, f_3_4, f_3_5, f_3_6, f_8_2, f_8_3, f_8_4, f_8_5, f_16_2, f_18_3, f_18_4, f_18_5, f_18_6, f_23_0, f_23_1, f_23_2, f_23_3, f_23_4, f_24_2, f_24_3, f_24_4, f_24_5, f_33_3, f_33_4, f_33_5, f_33_6, f_38_1, f_38_2, f_41_0, f_161_0, f_161_1, f_161_3, f_161_7, f_161_12, f_161_13, f_161_14, f_161_15, f_161_16, f_161_17, f_161_18, f_161_19, f_161_21, f_161_22, f_161_25, true_and, and_true, true_or, or_true, if_true, if_false, ne_eq, not_false_eq_true, and_self, t10, am_psh, am_clr, not_true_eq_false, Nat.reduceEqDiff, up_self]
      · rw [e134]; simp only [r134_0, r134_1, r134_3, r134_5, r134_8, r134_11, r134_13, r134_14, r134_15, r134_18, r134_21, r134_24, r134_26, r134_27, r134_28, r134_31, r134_32, r134_35, r134_36, r134_37, r134_38, r134_39, r134_42, r134_43, r134_44, r134_47, r134_48, r134_51, s_1, s_2, s_3, s_8, s_16, s_18, s_23, s_24, s_33, s_38, s_41, s_161, f_1_0, f_1_1, f_1_4, f_1_5, f_1_8, f_1_9, f_1_10, f_1_11, f_1_12, f_1_13, f_2_0, f_2_1, f_3_3, f_3_4, f_3_5, f_3_6, f_8_2, f_8_3, f_8_4, f_8_5, f_16_2, f_18_3, f_18_4, f_18_5, f_18_6, f_23_0, f_23_1, f_23_2, f_23_3, f_23_4, f_24_2, f_24_3, f_24_4, f_24_5, f_33_3, f_33_4, f_33_5, f_33_6, f_38_1, f_38_2, f_41_0, f_161_0, f_161_1, f_161_3, f_161_7, f_161_12, f_161_13, f_161_14, f_161_15, f_161_16, f_161_17, f_161_18, f_161_19, f_161_21, f_161_22, f_161_25, true_and, and_true, true_or, or_true, if_true, if_false, ne_eq, not_false_eq_true, and_self, t10, am_psh, am_clr, not_true_eq_false, Nat.reduceEqDiff, c_isIn]
        rw [if_neg a1, if_neg a3, am_up_ne (by omega), am_up_ne (by omega), t2, if_neg b3, eq_true (show am_ixw (cS L) 165 20 (nI n) from ixw_nI (k_165 L) (by omega) (n_165 L) (by omega) (by omega)), true_and, up_self, am_up_ne (by omega), am_up_ne (by omega), am_up_ne (by omega), t2, n_cl (by omega), nI_1]
      · have q17 : (am_up (am_up (am_up (am_up I 17 n (nI v)) 16 0 (nI (n + 1))) 165 n (nI v)) 161 8 (nI (n + 1))) 17 i = if i = n then nI v else I 17 i := by
          rw [am_up_ne (show 17 ≠ 161 by omega), am_up_ne (show 17 ≠ 165 by omega), am_up_ne (show 17 ≠ 16 by omega)]
          by_cases e : i = n
          · subst e; rw [up_self, if_pos rfl]
          · rw [up_ne _ _ (Or.inr e), if_neg e]
        have q165 : (am_up (am_up (am_up (am_up I 17 n (nI v)) 16 0 (nI (n + 1))) 165 n (nI v)) 161 8 (nI (n + 1))) 165 i = if i = n then nI v else I 165 i := by
          rw [am_up_ne (show 165 ≠ 161 by omega)]
          by_cases e : i = n
          · subst e; rw [up_self, if_pos rfl]
          · rw [up_ne _ _ (Or.inr e), if_neg e, am_up_ne (show 165 ≠ 16 by omega), am_up_ne (show 165 ≠ 17 by omega)]
        rw [q17, q165]
        by_cases e : i = n
        · simp only [if_pos e]; exact ⟨trivial, trivial, hv1, hv2⟩
        · simp only [if_neg e]; exact t4 i (by omega)
end BG
