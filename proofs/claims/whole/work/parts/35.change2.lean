/-! setLimit, begin -/
section CH
variable {d L : Nat} {I I' : am_I} {J J' : am_J} {Q : am_Q}
theorem xS_rec {g q : Nat} {s : St} {G' : Gr} (h : xS I g q s) (hG : xG I' g G') (hn : gn G' = gn s.1) (hr : gr G' = gr s.1) (hq : ∀ b, q ≤ b → b ≤ q + 4 → I' b = I b) : xS I' g q (G', s.2) := by
  obtain ⟨G, o⟩ := s
  refine ⟨hG, ?_⟩
  cases o with
  | none => show I' q 0 = 0; rw [hq q (by omega) (by omega)]; exact h.2
  | some R =>
    obtain ⟨y1, y2, y3, y4⟩ := h.2
    refine ⟨?_, ?_, fun k hk => ?_, fun v hv => ?_⟩
    · rw [hq q (by omega) (by omega)]; exact y1
    · rw [hq q (by omega) (by omega)]; exact y2
    · rw [hq (q + 1) (by omega) (by omega), hq (q + 2) (by omega) (by omega), hq (q + 3) (by omega) (by omega)]; exact y3 k hk
    · have hv : v < gn G' := hv
      rw [hq (q + 4) (by omega) (by omega), hr]; exact y4 v (by rw [hn] at hv; exact hv)
theorem mS_rec {w w' : Nat → Int32} {s : St} {G' : Gr} (hok : okS s) (h : mS w s) (hG : mG w' G') (hn : gn G' = gn s.1) (hr : gr G' = gr s.1) (hq : ∀ j, 107 ≤ j → j < 165 → w' j = w j) : mS w' (G', s.2) := by
  obtain ⟨G, o⟩ := s
  have n2 := hok.1.1.2.1
  refine ⟨hG, ?_⟩
  cases o with
  | none => show w' 107 = 0; rw [hq 107 (by omega) (by omega)]; exact h.2
  | some R =>
    obtain ⟨y1, y2, y3, y4⟩ := h.2
    obtain ⟨⟨m1, m2⟩, -⟩ := hok.2 R rfl
    refine ⟨?_, ?_, fun k hk => ?_, fun v hv => ?_⟩
    · rw [hq 107 (by omega) (by omega)]; exact y1
    · rw [hq 108 (by omega) (by omega)]; exact y2
    · rw [hq (109 + k) (by omega) (by omega), hq (125 + k) (by omega) (by omega), hq (141 + k) (by omega) (by omega)]; exact y3 k hk
    · have hv : v < gn G' := hv
      have hn : gn G' = gn G := hn
      rw [hq (157 + v) (by omega) (by omega), hr]; exact y4 v (by rw [hn] at hv; exact hv)
theorem okS_rec {s : St} {G' : Gr} (hok : okS s) (hG : okG G') (hn : gn G' = gn s.1) (hr : gr G' = gr s.1) (hm : gm G' = gm s.1) (hh : gh G' = gh s.1) : okS (G', s.2) := by
  refine ⟨hG, fun R hR => ?_⟩
  obtain ⟨a1, a2, a3⟩ := hok.2 R hR
  refine ⟨by rw [hn]; exact a1, a2, fun v hv hne => ?_⟩
  rw [hm, hh]
  exact a3 v (by rw [hn] at hv; exact hv) (by rw [hr] at hne; exact hne)
theorem rec_eq {s : St} {g q : Nat} {w : Nat → Int32} (hx : xS I g q s) (hm : mS w s) : I q 0 = w 107 := by
  obtain ⟨G, o⟩ := s
  cases o with
  | none => exact Eq.trans hx.2 hm.2.symm
  | some R => exact Eq.trans hx.2.1 hm.2.1.symm
theorem op_setLimit (x z : Int32) : am_OK L Inv 63 125 [.int x, .int z] := by
  intro I J hI
  have hI0 := hI
  obtain ⟨s, hs, s0, s1, n, tx, hok, hx, hm, hl, hh, hsl, hru, htx⟩ := hI
  obtain ⟨hO, hhM, o, ho, hhX⟩ := xH_iff.mp hh
  have hn := hok.1.1.2.1
  have hm32 := hok.1.1.2.2.2
  rcases in_or_out x (n := gn s.1) (by omega) with hv | ⟨v, hv, rfl⟩
  · refine ok_same hI0 (x := -101) (fun Q => ?_) (fun Q => ?_)
    · rw [e63]; simp only [r63_0, r63_1, r63_4, r63_7, r63_8, r63_11, r63_14, r63_16, r63_17, r63_18, r63_21, r63_22, r63_24, r63_27, r63_29, r63_30, r63_31, r63_34, r63_37, r63_40, r63_41, r63_42, r63_43, r63_44, r63_47, r63_48, r63_51, r63_54, r63_57, r63_58, r63_59, r63_60, r63_61, r63_62, r63_65, r63_66, s_1, s_2, s_3, s_8, s_16, s_18, s_23, s_24, s_33, s_38, s_41, s_161, f_1_0, f_1_1, f_1_4, f_1_5, f_1_8, f_1_9, f_1_10, f_1_11, f_1_12, f_1_13, f_2_0, f_2_1, f_3_3, f_3_4, f_3_5, f_3_6, f_8_2, f_8_3, f_8_4, f_8_5, f_16_2, f_18_3, f_18_4, f_18_5, f_18_6, f_23_0, f_23_1, f_23_2, f_23_3, f_23_4, f_24_2, f_24_3, f_24_4, f_24_5, f_33_3, f_33_4, f_33_5, f_33_6, f_38_1, f_38_2, f_41_0, f_161_0, f_161_1, f_161_3, f_161_7, f_161_12, f_161_13, f_161_14, f_161_15, f_161_16, f_161_17, f_161_18, f_161_19, f_161_21, f_161_22, f_161_25, true_and, and_true, true_or, or_true, if_true, if_false, ne_eq, not_false_eq_true, and_self, t10, am_psh, am_clr, not_true_eq_false, Nat.reduceEqDiff]
      rw [c_hasNode_out hx.1.1.1 hv]; simp only [r63_0, r63_1, r63_4, r63_7, r63_8, r63_11, r63_14, r63_16, r63_17, r63_18, r63_21, r63_22, r63_24, r63_27, r63_29, r63_30, r63_31, r63_34, r63_37, r63_40, r63_41, r63_42, r63_43, r63_44, r63_47, r63_48, r63_51, r63_54, r63_57, r63_58, r63_59, r63_60, r63_61, r63_62, r63_65, r63_66, true_and, and_true, true_or, or_true, if_true, if_false, ne_eq, not_false_eq_true, and_self, t10, am_psh, am_clr, not_true_eq_false, Nat.reduceEqDiff]
    · rw [e125]; simp only [r125_0, r125_1, r125_2, r125_5, r125_8, r125_10, r125_11, r125_12, r125_13, r125_15, r125_18, r125_21, r125_23, r125_24, r125_25, r125_28, r125_29, r125_32, r125_34, r125_35, r125_36, r125_37, r125_38, r125_39, r125_42, r125_44, r125_45, r125_46, r125_47, r125_48, r125_49, r125_50, r125_53, r125_54, s_1, s_2, s_3, s_8, s_16, s_18, s_23, s_24, s_33, s_38, s_41, s_161, f_1_0, f_1_1, f_1_4, f_1_5, f_1_8, f_1_9, f_1_10, f_1_11, f_1_12, f_1_13, f_2_0, f_2_1, f_3_3, f_3_4, f_3_5, f_3_6, f_8_2, f_8_3, f_8_4, f_8_5, f_16_2, f_18_3, f_18_4, f_18_5, f_18_6, f_23_0, f_23_1, f_23_2, f_23_3, f_23_4, f_24_2, f_24_3, f_24_4, f_24_5, f_33_3, f_33_4, f_33_5, f_33_6, f_38_1, f_38_2, f_41_0, f_161_0, f_161_1, f_161_3, f_161_7, f_161_12, f_161_13, f_161_14, f_161_15, f_161_16, f_161_17, f_161_18, f_161_19, f_161_21, f_161_22, f_161_25, true_and, and_true, true_or, or_true, if_true, if_false, ne_eq, not_false_eq_true, and_self, t10, am_psh, am_clr, not_true_eq_false, Nat.reduceEqDiff]
      rw [c_isNode_out hm.1.1.1 hn hv]; simp only [r125_0, r125_1, r125_2, r125_5, r125_8, r125_10, r125_11, r125_12, r125_13, r125_15, r125_18, r125_21, r125_23, r125_24, r125_25, r125_28, r125_29, r125_32, r125_34, r125_35, r125_36, r125_37, r125_38, r125_39, r125_42, r125_44, r125_45, r125_46, r125_47, r125_48, r125_49, r125_50, r125_53, r125_54, true_and, and_true, true_or, or_true, if_true, if_false, ne_eq, not_false_eq_true, and_self, t10, am_psh, am_clr, not_true_eq_false, Nat.reduceEqDiff]
  · rcases in_or_out z (n := 8) (by omega) with hz | ⟨u, hu, rfl⟩
    · refine ok_same hI0 (x := -103) (fun Q => ?_) (fun Q => ?_)
      · rw [e63]; simp only [r63_0, r63_1, r63_4, r63_7, r63_8, r63_11, r63_14, r63_16, r63_17, r63_18, r63_21, r63_22, r63_24, r63_27, r63_29, r63_30, r63_31, r63_34, r63_37, r63_40, r63_41, r63_42, r63_43, r63_44, r63_47, r63_48, r63_51, r63_54, r63_57, r63_58, r63_59, r63_60, r63_61, r63_62, r63_65, r63_66, s_1, s_2, s_3, s_8, s_16, s_18, s_23, s_24, s_33, s_38, s_41, s_161, f_1_0, f_1_1, f_1_4, f_1_5, f_1_8, f_1_9, f_1_10, f_1_11, f_1_12, f_1_13, f_2_0, f_2_1, f_3_3, f_3_4, f_3_5, f_3_6, f_8_2, f_8_3, f_8_4, f_8_5, f_16_2, f_18_3, f_18_4, f_18_5, f_18_6, f_23_0, f_23_1, f_23_2, f_23_3, f_23_4, f_24_2, f_24_3, f_24_4, f_24_5, f_33_3, f_33_4, f_33_5, f_33_6, f_38_1, f_38_2, f_41_0, f_161_0, f_161_1, f_161_3, f_161_7, f_161_12, f_161_13, f_161_14, f_161_15, f_161_16, f_161_17, f_161_18, f_161_19, f_161_21, f_161_22, f_161_25, true_and, and_true, true_or, or_true, if_true, if_false, ne_eq, not_false_eq_true, and_self, t10, am_psh, am_clr, not_true_eq_false, Nat.reduceEqDiff]
        rw [c_hasNode_in hx.1.1.1 hn hv]; simp only [r63_0, r63_1, r63_4, r63_7, r63_8, r63_11, r63_14, r63_16, r63_17, r63_18, r63_21, r63_22, r63_24, r63_27, r63_29, r63_30, r63_31, r63_34, r63_37, r63_40, r63_41, r63_42, r63_43, r63_44, r63_47, r63_48, r63_51, r63_54, r63_57, r63_58, r63_59, r63_60, r63_61, r63_62, r63_65, r63_66, s_1, s_2, s_3, s_8, s_16, s_18, s_23, s_24, s_33, s_38, s_41, s_161, f_1_0, f_1_1, f_1_4, f_1_5, f_1_8, f_1_9, f_1_10, f_1_11, f_1_12, f_1_13, f_2_0, f_2_1, f_3_3, f_3_4, f_3_5, f_3_6, f_8_2, f_8_3, f_8_4, f_8_5, f_16_2, f_18_3, f_18_4, f_18_5, f_18_6, f_23_0, f_23_1, f_23_2, f_23_3, f_23_4, f_24_2, f_24_3, f_24_4, f_24_5, f_33_3, f_33_4, f_33_5, f_33_6, f_38_1, f_38_2, f_41_0, f_161_0, f_161_1, f_161_3, f_161_7, f_161_12, f_161_13, f_161_14, f_161_15, f_161_16, f_161_17, f_161_18, f_161_19, f_161_21, f_161_22, f_161_25, true_and, and_true, true_or, or_true, if_true, if_false, ne_eq, not_false_eq_true, and_self, t10, am_psh, am_clr, not_true_eq_false, Nat.reduceEqDiff]
        by_cases g : z < 0
        · rw [if_pos g]
        · rw [if_neg g, if_neg (fun q => by
            have h1 := hz.resolve_left g
            have h2 := Int32.le_iff_toInt_le.mp h1
            have h3 := Int32.le_iff_toInt_le.mp q
            rw [n_ti (by omega)] at h2
            have h4 : (7 : Int32).toInt = 7 := by decide
            omega)]
      · rw [e125]; simp only [r125_0, r125_1, r125_2, r125_5, r125_8, r125_10, r125_11, r125_12, r125_13, r125_15, r125_18, r125_21, r125_23, r125_24, r125_25, r125_28, r125_29, r125_32, r125_34, r125_35, r125_36, r125_37, r125_38, r125_39, r125_42, r125_44, r125_45, r125_46, r125_47, r125_48, r125_49, r125_50, r125_53, r125_54, s_1, s_2, s_3, s_8, s_16, s_18, s_23, s_24, s_33, s_38, s_41, s_161, f_1_0, f_1_1, f_1_4, f_1_5, f_1_8, f_1_9, f_1_10, f_1_11, f_1_12, f_1_13, f_2_0, f_2_1, f_3_3, f_3_4, f_3_5, f_3_6, f_8_2, f_8_3, f_8_4, f_8_5, f_16_2, f_18_3, f_18_4, f_18_5, f_18_6, f_23_0, f_23_1, f_23_2, f_23_3, f_23_4, f_24_2, f_24_3, f_24_4, f_24_5, f_33_3, f_33_4, f_33_5, f_33_6, f_38_1, f_38_2, f_41_0, f_161_0, f_161_1, f_161_3, f_161_7, f_161_12, f_161_13, f_161_14, f_161_15, f_161_16, f_161_17, f_161_18, f_161_19, f_161_21, f_161_22, f_161_25, true_and, and_true, true_or, or_true, if_true, if_false, ne_eq, not_false_eq_true, and_self, t10, am_psh, am_clr, not_true_eq_false, Nat.reduceEqDiff]
        rw [c_isNode_in hm.1.1.1 hn hv]; simp only [r125_0, r125_1, r125_2, r125_5, r125_8, r125_10, r125_11, r125_12, r125_13, r125_15, r125_18, r125_21, r125_23, r125_24, r125_25, r125_28, r125_29, r125_32, r125_34, r125_35, r125_36, r125_37, r125_38, r125_39, r125_42, r125_44, r125_45, r125_46, r125_47, r125_48, r125_49, r125_50, r125_53, r125_54, s_1, s_2, s_3, s_8, s_16, s_18, s_23, s_24, s_33, s_38, s_41, s_161, f_1_0, f_1_1, f_1_4, f_1_5, f_1_8, f_1_9, f_1_10, f_1_11, f_1_12, f_1_13, f_2_0, f_2_1, f_3_3, f_3_4, f_3_5, f_3_6, f_8_2, f_8_3, f_8_4, f_8_5, f_16_2, f_18_3, f_18_4, f_18_5, f_18_6, f_23_0, f_23_1, f_23_2, f_23_3, f_23_4, f_24_2, f_24_3, f_24_4, f_24_5, f_33_3, f_33_4, f_33_5, f_33_6, f_38_1, f_38_2, f_41_0, f_161_0, f_161_1, f_161_3, f_161_7, f_161_12, f_161_13, f_161_14, f_161_15, f_161_16, f_161_17, f_161_18, f_161_19, f_161_21, f_161_22, f_161_25, true_and, and_true, true_or, or_true, if_true, if_false, ne_eq, not_false_eq_true, and_self, t10, am_psh, am_clr, not_true_eq_false, Nat.reduceEqDiff, c_isIn]
        by_cases g : z < 0
        · rw [if_pos g]
        · rw [if_neg g, if_pos (by
            have h1 := hz.resolve_left g
            have h2 := Int32.le_iff_toInt_le.mp h1
            rw [n_ti (by omega)] at h2
            refine Int32.lt_iff_toInt_lt.mpr ?_
            have h4 : (7 : Int32).toInt = 7 := by decide
            omega)]
    · obtain ⟨I1, o1, k1, k2, k3, k4, k5, k6, k7⟩ := c_keep (d := 35) (L := L) (J := J) hok hx ho hhX hO.1
      have e7 : I1 7 = I 7 := k4 7 (by omega) (by omega) (by omega)
      have e8 : I1 8 = I 8 := k4 8 (by omega) (by omega) (by omega)
      obtain ⟨I2, m1, m3, m4, m5⟩ := c_settle_T (d := 38) (L := L) (J := J) (I := am_up I1 7 v (nI u)) (by rw [am_up_ne (by omega), e8]; exact xS_01 hx)
      have f2 : ∀ b, b ≠ 1 → b ≠ 7 → b ≠ 33 → (b < 52 ∨ 139 ≤ b) → I2 b = I b := fun b b1 b2 b4 b5 => by rw [m3 b b1, am_up_ne b2, k4 b b1 b4 b5]
      have g161 : I2 161 = I 161 := f2 161 (by omega) (by omega) (by omega) (by omega)
      have g162 : I2 162 = I 162 := f2 162 (by omega) (by omega) (by omega) (by omega)
      obtain ⟨I3, p1, p2, p3, p4⟩ := c_Mkeep (d := 38) (L := L) (J := J) (I := I2) (hs := hs) hok (by rw [g162]; exact hm) (hM_congr (by rw [g161]) (f2 163 (by omega) (by omega) (by omega) (by omega)) hhM) hO
      have e162 : I3 162 = I 162 := by rw [p3 162 (by omega) (by omega), g162]
      obtain ⟨I4, j1, j2, j3, j4⟩ := c_judge_T (d := 38) (L := L) (J := J) (I := am_up I3 162 (99 + v) (nI u)) (by rw [up_ne _ _ (Or.inr (by omega)), e162]; exact mS_01 hm)
      have f4 : ∀ b, b ≠ 161 → b ≠ 162 → b ≠ 163 → I4 b = I2 b := fun b b1 b2 b3 => by rw [j2 b b1, am_up_ne b2, p3 b b1 b3]
      have w4 : ∀ j, j ≠ 99 + v → I4 162 j = I 162 j := fun j hj => by rw [j2 162 (by omega), up_ne _ _ (Or.inr hj), e162]
      have w41 : I4 162 (99 + v) = nI u := by rw [j2 162 (by omega), up_self]
      refine ⟨.int (nI (gl s.1 v)), I2, J, I4, J, fun Q => ?_, f2 0 (by omega) (by omega) (by omega) (by omega), fun Q => ?_, by rw [f4 0 (by omega) (by omega) (by omega), f2 0 (by omega) (by omega) (by omega) (by omega)], ?_, _, rfl⟩
      · rw [e63]; simp only [r63_0, r63_1, r63_4, r63_7, r63_8, r63_11, r63_14, r63_16, r63_17, r63_18, r63_21, r63_22, r63_24, r63_27, r63_29, r63_30, r63_31, r63_34, r63_37, r63_40, r63_41, r63_42, r63_43, r63_44, r63_47, r63_48, r63_51, r63_54, r63_57, r63_58, r63_59, r63_60, r63_61, r63_62, r63_65, r63_66, s_1, s_2, s_3, s_8, s_16, s_18, s_23, s_24, s_33, s_38, s_41, s_161, f_1_0, f_1_1, f_1_4, f_1_5, f_1_8, f_1_9, f_1_10, f_1_11, f_1_12, f_1_13, f_2_0, f_2_1, f_3_3, f_3_4, f_3_5, f_3_6, f_8_2, f_8_3, f_8_4, f_8_5, f_16_2, f_18_3, f_18_4, f_18_5, f_18_6, f_23_0, f_23_1, f_23_2, f_23_3, f_23_4, f_24_2, f_24_3, f_24_4, f_24_5, f_33_3, f_33_4, f_33_5, f_33_6, f_38_1, f_38_2, f_41_0, f_161_0, f_161_1, f_161_3, f_161_7, f_161_12, f_161_13, f_161_14, f_161_15, f_161_16, f_161_17, f_161_18, f_161_19, f_161_21, f_161_22, f_161_25, true_and, and_true, true_or, or_true, if_true, if_false, ne_eq, not_false_eq_true, and_self, t10, am_psh, am_clr, not_true_eq_false, Nat.reduceEqDiff]
        rw [c_hasNode_in hx.1.1.1 hn hv]; simp only [r63_0, r63_1, r63_4, r63_7, r63_8, r63_11, r63_14, r63_16, r63_17, r63_18, r63_21, r63_22, r63_24, r63_27, r63_29, r63_30, r63_31, r63_34, r63_37, r63_40, r63_41, r63_42, r63_43, r63_44, r63_47, r63_48, r63_51, r63_54, r63_57, r63_58, r63_59, r63_60, r63_61, r63_62, r63_65, r63_66, s_1, s_2, s_3, s_8, s_16, s_18, s_23, s_24, s_33, s_38, s_41, s_161, f_1_0, f_1_1, f_1_4, f_1_5, f_1_8, f_1_9, f_1_10, f_1_11, f_1_12, f_1_13, f_2_0, f_2_1, f_3_3, f_3_4, f_3_5, f_3_6, f_8_2, f_8_3, f_8_4, f_8_5, f_16_2, f_18_3, f_18_4, f_18_5, f_18_6, f_23_0, f_23_1, f_23_2, f_23_3, f_23_4, f_24_2, f_24_3, f_24_4, f_24_5, f_33_3, f_33_4, f_33_5, f_33_6, f_38_1, f_38_2, f_41_0, f_161_0, f_161_1, f_161_3, f_161_7, f_161_12, f_161_13, f_161_14, f_161_15, f_161_16, f_161_17, f_161_18, f_161_19, f_161_21, f_161_22, f_161_25, true_and, and_true, true_or, or_true, if_true, if_false, ne_eq, not_false_eq_true, and_self, t10, am_psh, am_clr, not_true_eq_false, Nat.reduceEqDiff]
        rw [if_neg (nI_pos (by omega)), if_pos (show nI u ≤ 7 from (nI_leI (b := 7) (by omega) (by omega)).mpr (by omega))]
        rw [eq_true (show am_ix (cS L) 7 20 (nI v) from ix_nI (k_7 L) (n_7 L) (by omega) (by omega)), true_and, k1]
        simp only [r63_0, r63_1, r63_4, r63_7, r63_8, r63_11, r63_14, r63_16, r63_17, r63_18, r63_21, r63_22, r63_24, r63_27, r63_29, r63_30, r63_31, r63_34, r63_37, r63_40, r63_41, r63_42, r63_43, r63_44, r63_47, r63_48, r63_51, r63_54, r63_57, r63_58, r63_59, r63_60, r63_61, r63_62, r63_65, r63_66, s_1, s_2, s_3, s_8, s_16, s_18, s_23, s_24, s_33, s_38, s_41, s_161, f_1_0, f_1_1, f_1_4, f_1_5, f_1_8, f_1_9, f_1_10, f_1_11, f_1_12, f_1_13, f_2_0, f_2_1, f_3_3, f_3_4, f_3_5, f_3_6, f_8_2, f_8_3, f_8_4, f_8_5, f_16_2, f_18_3, f_18_4, f_18_5, f_18_6, f_23_0, f_23_1, f_23_2, f_23_3, f_23_4, f_24_2, f_24_3, f_24_4, f_24_5, f_33_3, f_33_4, f_33_5, f_33_6, f_38_1, f_38_2, f_41_0, f_161_0, f_161_1, f_161_3, f_161_7, f_161_12, f_161_13, f_161_14, f_161_15, f_161_16, f_161_17, f_161_18, f_161_19, f_161_21, f_161_22, f_161_25, true_and, and_true, true_or, or_true, if_true, if_false, ne_eq, not_false_eq_true, and_self, t10, am_psh, am_clr, not_true_eq_false, Nat.reduceEqDiff]
        rw [eq_true (show am_ixw (cS L) 7 20 (nI v) from ixw_nI (k_7 L) (by omega) (n_7 L) (by omega) (by omega)), true_and, n_cl (by omega), m1]
        simp only [r63_0, r63_1, r63_4, r63_7, r63_8, r63_11, r63_14, r63_16, r63_17, r63_18, r63_21, r63_22, r63_24, r63_27, r63_29, r63_30, r63_31, r63_34, r63_37, r63_40, r63_41, r63_42, r63_43, r63_44, r63_47, r63_48, r63_51, r63_54, r63_57, r63_58, r63_59, r63_60, r63_61, r63_62, r63_65, r63_66, s_1, s_2, s_3, s_8, s_16, s_18, s_23, s_24, s_33, s_38, s_41, s_161, f_1_0, f_1_1, f_1_4, f_1_5, f_1_8, f_1_9, f_1_10, f_1_11, f_1_12, f_1_13, f_2_0, f_2_1, f_3_3, f_3_4, f_3_5, f_3_6, f_8_2, f_8_3, f_8_4, f_8_5, f_16_2, f_18_3, f_18_4, f_18_5, f_18_6, f_23_0, f_23_1, f_23_2, f_23_3, f_23_4, f_24_2, f_24_3, f_24_4, f_24_5, f_33_3, f_33_4, f_33_5, f_33_6, f_38_1, f_38_2, f_41_0, f_161_0, f_161_1, f_161_3, f_161_7, f_161_12, f_161_13, f_161_14, f_161_15, f_161_16, f_161_17, f_161_18, f_161_19, f_161_21, f_161_22, f_161_25, true_and, and_true, true_or, or_true, if_true, if_false, ne_eq, not_false_eq_true, and_self, t10, am_psh, am_clr, not_true_eq_false, Nat.reduceEqDiff]
        rw [hx.1.2.2 v (by omega)]
      · rw [e125]; simp only [r125_0, r125_1, r125_2, r125_5, r125_8, r125_10, r125_11, r125_12, r125_13, r125_15, r125_18, r125_21, r125_23, r125_24, r125_25, r125_28, r125_29, r125_32, r125_34, r125_35, r125_36, r125_37, r125_38, r125_39, r125_42, r125_44, r125_45, r125_46, r125_47, r125_48, r125_49, r125_50, r125_53, r125_54, s_1, s_2, s_3, s_8, s_16, s_18, s_23, s_24, s_33, s_38, s_41, s_161, f_1_0, f_1_1, f_1_4, f_1_5, f_1_8, f_1_9, f_1_10, f_1_11, f_1_12, f_1_13, f_2_0, f_2_1, f_3_3, f_3_4, f_3_5, f_3_6, f_8_2, f_8_3, f_8_4, f_8_5, f_16_2, f_18_3, f_18_4, f_18_5, f_18_6, f_23_0, f_23_1, f_23_2, f_23_3, f_23_4, f_24_2, f_24_3, f_24_4, f_24_5, f_33_3, f_33_4, f_33_5, f_33_6, f_38_1, f_38_2, f_41_0, f_161_0, f_161_1, f_161_3, f_161_7, f_161_12, f_161_13, f_161_14, f_161_15, f_161_16, f_161_17, f_161_18, f_161_19, f_161_21, f_161_22, f_161_25, true_and, and_true, true_or, or_true, if_true, if_false, ne_eq, not_false_eq_true, and_self, t10, am_psh, am_clr, not_true_eq_false, Nat.reduceEqDiff]
        rw [c_isNode_in (by rw [g162]; exact hm.1.1.1) hn hv]; simp only [r125_0, r125_1, r125_2, r125_5, r125_8, r125_10, r125_11, r125_12, r125_13, r125_15, r125_18, r125_21, r125_23, r125_24, r125_25, r125_28, r125_29, r125_32, r125_34, r125_35, r125_36, r125_37, r125_38, r125_39, r125_42, r125_44, r125_45, r125_46, r125_47, r125_48, r125_49, r125_50, r125_53, r125_54, s_1, s_2, s_3, s_8, s_16, s_18, s_23, s_24, s_33, s_38, s_41, s_161, f_1_0, f_1_1, f_1_4, f_1_5, f_1_8, f_1_9, f_1_10, f_1_11, f_1_12, f_1_13, f_2_0, f_2_1, f_3_3, f_3_4, f_3_5, f_3_6, f_8_2, f_8_3, f_8_4, f_8_5, f_16_2, f_18_3, f_18_4, f_18_5, f_18_6, f_23_0, f_23_1, f_23_2, f_23_3, f_23_4, f_24_2, f_24_3, f_24_4, f_24_5, f_33_3, f_33_4, f_33_5, f_33_6, f_38_1, f_38_2, f_41_0, f_161_0, f_161_1, f_161_3, f_161_7, f_161_12, f_161_13, f_161_14, f_161_15, f_161_16, f_161_17, f_161_18, f_161_19, f_161_21, f_161_22, f_161_25, true_and, and_true, true_or, or_true, if_true, if_false, ne_eq, not_false_eq_true, and_self, t10, am_psh, am_clr, not_true_eq_false, Nat.reduceEqDiff, c_isIn]
        rw [if_neg (nI_pos (by omega)), if_neg (show ¬ 7 < nI u from fun q => absurd ((nI_ltI (a := 7) (by omega) (by omega)).mp q) (by omega)), p1]
        simp only [r125_0, r125_1, r125_2, r125_5, r125_8, r125_10, r125_11, r125_12, r125_13, r125_15, r125_18, r125_21, r125_23, r125_24, r125_25, r125_28, r125_29, r125_32, r125_34, r125_35, r125_36, r125_37, r125_38, r125_39, r125_42, r125_44, r125_45, r125_46, r125_47, r125_48, r125_49, r125_50, r125_53, r125_54, s_1, s_2, s_3, s_8, s_16, s_18, s_23, s_24, s_33, s_38, s_41, s_161, f_1_0, f_1_1, f_1_4, f_1_5, f_1_8, f_1_9, f_1_10, f_1_11, f_1_12, f_1_13, f_2_0, f_2_1, f_3_3, f_3_4, f_3_5, f_3_6, f_8_2, f_8_3, f_8_4, f_8_5, f_16_2, f_18_3, f_18_4, f_18_5, f_18_6, f_23_0, f_23_1, f_23_2, f_23_3, f_23_4, f_24_2, f_24_3, f_24_4, f_24_5, f_33_3, f_33_4, f_33_5, f_33_6, f_38_1, f_38_2, f_41_0, f_161_0, f_161_1, f_161_3, f_161_7, f_161_12, f_161_13, f_161_14, f_161_15, f_161_16, f_161_17, f_161_18, f_161_19, f_161_21, f_161_22, f_161_25, true_and, and_true, true_or, or_true, if_true, if_false, ne_eq, not_false_eq_true, and_self, t10, am_psh, am_clr, not_true_eq_false, Nat.reduceEqDiff, show (99 : Int32) + nI v = nI (99 + v) from nI_add 99 v]
        rw [eq_true (mx (99 + v) (by omega)), eq_true (mw (99 + v) (by omega)), true_and, true_and, n_cl (by omega), j1]
        simp only [r125_0, r125_1, r125_2, r125_5, r125_8, r125_10, r125_11, r125_12, r125_13, r125_15, r125_18, r125_21, r125_23, r125_24, r125_25, r125_28, r125_29, r125_32, r125_34, r125_35, r125_36, r125_37, r125_38, r125_39, r125_42, r125_44, r125_45, r125_46, r125_47, r125_48, r125_49, r125_50, r125_53, r125_54, s_1, s_2, s_3, s_8, s_16, s_18, s_23, s_24, s_33, s_38, s_41, s_161, f_1_0, f_1_1, f_1_4, f_1_5, f_1_8, f_1_9, f_1_10, f_1_11, f_1_12, f_1_13, f_2_0, f_2_1, f_3_3, f_3_4, f_3_5, f_3_6, f_8_2, f_8_3, f_8_4, f_8_5, f_16_2, f_18_3, f_18_4, f_18_5, f_18_6, f_23_0, f_23_1, f_23_2, f_23_3, f_23_4, f_24_2, f_24_3, f_24_4, f_24_5, f_33_3, f_33_4, f_33_5, f_33_6, f_38_1, f_38_2, f_41_0, f_161_0, f_161_1, f_161_3, f_161_7, f_161_12, f_161_13, f_161_14, f_161_15, f_161_16, f_161_17, f_161_18, f_161_19, f_161_21, f_161_22, f_161_25, true_and, and_true, true_or, or_true, if_true, if_false, ne_eq, not_false_eq_true, and_self, t10, am_psh, am_clr, not_true_eq_false, Nat.reduceEqDiff]
        rw [e162, hm.1.2.2 v (by omega)]
      · have hgv : ∀ y, y < 8 → (if y = v then u else gl s.1 y) ≤ 7 := fun y hy => by
          by_cases e : y = v
          · rw [if_pos e]; omega
          · rw [if_neg e]; exact hok.1.2.2 y hy
        refine Inv_of (I := I) (s' := ((gn s.1, gr s.1, gm s.1, gt s.1, gh s.1, gc s.1, fun y => if y = v then u else gl s.1 y), s.2)) (hs' := pushH hs s) (s0 := s0) (s1 := s1) (n := n) (o := o1) (tx := tx) (okS_rec hok ⟨hok.1.1, hok.1.2.1, hgv⟩ rfl rfl rfl rfl) (xS_rec hx ⟨⟨?_, ?_, ?_⟩, ?_, ?_⟩ rfl rfl ?_) (mS_rec hok hm ⟨⟨?_, ?_, ?_⟩, ?_, ?_⟩ rfl rfl ?_) (Or.inl ?_) (okH_push hO hok) (hM_congr (by rw [j3 2 (by omega), am_up_ne (by omega)]) (by rw [j2 163 (by omega), am_up_ne (by omega)]) p2) k2 (hX_congr (by rw [f4 1 (by omega) (by omega) (by omega), m4 2 (by omega), am_up_ne (by omega)]) (by rw [f4 1 (by omega) (by omega) (by omega), m4 3 (by omega), am_up_ne (by omega)]) (fun b b1 b2 => by rw [f4 b (by omega) (by omega) (by omega), m3 b (by omega), am_up_ne (by omega)]) k3) ⟨?_, ?_⟩ hsl htx (fun b hb => ?_) ?_ ?_
        · rw [f4 3 (by omega) (by omega) (by omega), f2 3 (by omega) (by omega) (by omega) (by omega)]; exact hx.1.1.1
        · rw [f4 3 (by omega) (by omega) (by omega), f2 3 (by omega) (by omega) (by omega) (by omega)]; exact hx.1.1.2.1
        · rw [f4 3 (by omega) (by omega) (by omega), f2 3 (by omega) (by omega) (by omega) (by omega)]; exact hx.1.1.2.2
        · intro a ha
          rw [f4 (3 + 1) (by omega) (by omega) (by omega), f4 (3 + 2) (by omega) (by omega) (by omega), f4 (3 + 3) (by omega) (by omega) (by omega), f2 (3 + 1) (by omega) (by omega) (by omega) (by omega), f2 (3 + 2) (by omega) (by omega) (by omega) (by omega), f2 (3 + 3) (by omega) (by omega) (by omega) (by omega)]; exact hx.1.2.1 a ha
        · intro y hy
          rw [f4 (3 + 4) (by omega) (by omega) (by omega), m3 (3 + 4) (by omega)]
          show am_up I1 7 v (nI u) 7 y = nI (if y = v then u else gl s.1 y)
          by_cases e : y = v
          · subst e; rw [up_self, if_pos rfl]
          · rw [up_ne _ _ (Or.inr e), if_neg e, e7]; exact hx.1.2.2 y hy
        · intro b b1 b2
          rw [f4 b (by omega) (by omega) (by omega), f2 b (by omega) (by omega) (by omega) (by omega)]
        · rw [w4 0 (by omega)]; exact hm.1.1.1
        · rw [w4 1 (by omega)]; exact hm.1.1.2.1
        · rw [w4 2 (by omega)]; exact hm.1.1.2.2
        · intro a ha
          have ha : a < gm s.1 := ha
          rw [w4 (3 + a) (by omega), w4 (35 + a) (by omega), w4 (67 + a) (by omega)]; exact hm.1.2.1 a ha
        · intro y hy
          show I4 162 (99 + y) = nI (if y = v then u else gl s.1 y)
          by_cases e : y = v
          · subst e; rw [w41, if_pos rfl]
          · rw [w4 (99 + y) (by omega), if_neg e]; exact hm.1.2.2 y hy
        · intro j h1 h2
          exact w4 j (by omega)
        · rw [f4 33 (by omega) (by omega) (by omega), m3 33 (by omega), am_up_ne (by omega)]; exact k6
        · rw [f4 1 (by omega) (by omega) (by omega), m4 6 (by omega), am_up_ne (by omega), k5 6 (by omega) (by omega), j3 5 (by omega), am_up_ne (by omega), p4 5 (by omega), g161]; exact hru.1
        · rw [f4 1 (by omega) (by omega) (by omega), m5, j4, am_up_ne (by omega), am_up_ne (by omega), am_up_ne (by omega), k5 7 (by omega) (by omega), p4 6 (by omega), g161, e8, up_ne _ _ (Or.inr (by omega)), e162, hru.2, rec_eq hx hm]
        · rw [f4 b (by omega) (by omega) (by omega), f2 b (by omega) (by omega) (by omega) (by omega)]
        · rw [j3 4 (by omega), am_up_ne (by omega), p4 4 (by omega), g161]
        · rw [j3 8 (by omega), am_up_ne (by omega), p4 8 (by omega), g161]
end CH
