/-! setCost: the model, and both -/
section CP2
variable {d L : Nat} {I I' : am_I} {J J' : am_J} {Q : am_Q}
theorem mc_loop {G : Gr} {R : Rc} {a : Nat} {x y : Int32} (hok : okG G) (hR : okR G R) (hx : mG (I 162) G) (hr : mR (I 162) G R) (ha : a < gm G) :
    ∀ (n j : Nat), j + n = gm G → am_T (d + 2) 123 105 [some (.ref 161), some (.int (nI a)), some (.int x), some (.int y), some (.int (andN (fA G R a) j)), some (.int (nI j))] [] (cS L) I J Q = am_T (d + 2) 123 192 [some (.ref 161), some (.int (nI a)), some (.int x), some (.int y), some (.int (andN (fA G R a) (gm G))), some (.int (nI (gm G)))] [] (cS L) I J Q := by
  have hm := hok.1.2.2.2
  have hn := hok.1.2.1
  have hga : gh G a < gn G := (hok.2.1 a ha).2.1
  have x2 : am_ix (cS L) 162 20 2 := mx 2 (by omega)
  intro n
  induction n with
  | zero =>
    intro j hj
    have hj : j = gm G := by omega
    subst hj
    rw [r123_105]
    simp only [r123_107, r123_108, r123_111, r123_112, r123_113, r123_169, s_1, s_2, s_3, s_8, s_16, s_18, s_23, s_24, s_33, s_38, s_41, s_161, f_1_0, f_1_1, f_1_4, f_1_5, f_1_8, f_1_9, f_1_10, f_1_11, f_1_12, f_1_13, f_2_0, f_2_1, f_3_3, f_3_4, f_3_5, f_3_6, f_8_2, f_8_3, f_8_4, f_8_5, f_16_2, f_18_3, f_18_4, f_18_5, f_18_6, f_23_0, f_23_1, f_23_2, f_23_3, f_23_4, f_24_2, f_24_3, f_24_4, f_24_5, f_33_3, f_33_4, f_33_5, f_33_6, f_38_1, f_38_2, f_41_0, f_161_0, f_161_1, f_161_3, f_161_7, f_161_12, f_161_13, f_161_14, f_161_15, f_161_16, f_161_17, f_161_18, f_161_19, f_161_21, f_161_22, f_161_25, true_and, and_true, true_or, or_true, if_true, if_false, ne_eq, not_false_eq_true, and_self, t10, am_psh, am_clr, not_true_eq_false, Nat.reduceEqDiff, x2, show (2 : Int32).toNatClampNeg = 2 from by decide, hx.1.2.2]
    rw [if_pos (Int32.le_refl _)]
  | succ n ih =>
    intro j hj
    have hj2 : j < gm G := by omega
    obtain ⟨-, m2, -⟩ := hx.2.1 j hj2
    obtain ⟨-, q2, -⟩ := hx.2.1 a ha
    have hgj : gh G j < gn G := (hok.2.1 j hj2).2.1
    have ih := ih (j + 1) (by omega)
    rw [andN_s] at ih
    rw [r123_105]
    simp only [r123_107, r123_108, r123_111, r123_112, r123_113, r123_116, r123_118, r123_120, r123_121, r123_124, r123_125, r123_128, r123_130, r123_132, r123_133, r123_134, r123_135, r123_138, r123_140, r123_141, r123_142, r123_143, r123_146, r123_147, r123_149, s_1, s_2, s_3, s_8, s_16, s_18, s_23, s_24, s_33, s_38, s_41, s_161, f_1_0, f_1_1, f_1_4, f_1_5, f_1_8, f_1_9, f_1_10, f_1_11, f_1_12, f_1_13, f_2_0, f_2_1, f_3_3, f_3_4, f_3_5, f_3_6, f_8_2, f_8_3, f_8_4, f_8_5, f_16_2, f_18_3, f_18_4, f_18_5, f_18_6, f_23_0, f_23_1, f_23_2, f_23_3, f_23_4, f_24_2, f_24_3, f_24_4, f_24_5, f_33_3, f_33_4, f_33_5, f_33_6, f_38_1, f_38_2, f_41_0, f_161_0, f_161_1, f_161_3, f_161_7, f_161_12, f_161_13, f_161_14, f_161_15, f_161_16, f_161_17, f_161_18, f_161_19, f_161_21, f_161_22, f_161_25, true_and, and_true, true_or, or_true, if_true, if_false, ne_eq, not_false_eq_true, and_self, t10, am_psh, am_clr, not_true_eq_false, Nat.reduceEqDiff, x2, show (2 : Int32).toNatClampNeg = 2 from by decide, hx.1.2.2, show (35 : Int32) + nI j = nI (35 + j) from nI_add 35 j, show (35 : Int32) + nI a = nI (35 + a) from nI_add 35 a, mx (L := L) (35 + j) (by omega), mx (L := L) (35 + a) (by omega), n_cl (show 35 + j < 2 ^ 31 by omega), n_cl (show 35 + a < 2 ^ 31 by omega), m2, q2, red_m hok hR hx hr hj2]
    rw [if_neg (nI_ge hj2 (by omega))]
    by_cases e1 : j = a
    · rw [if_pos (by rw [e1])]
      simp only [r123_155, r123_156, r123_159, r123_160, r123_161, r123_163, r123_166, am_clr, nI_1]
      rw [show fA G R a j = 1 from b32_T (Or.inl e1)] at ih
      exact ih
    · rw [if_neg (fun q => e1 ((nI_eq (by omega) (by omega)).mp q))]
      by_cases e2 : gh G j = gh G a
      · rw [if_pos (by rw [e2])]
        by_cases e3 : rdx G R j < 0
        · simp only [r123_152, r123_155, r123_156, r123_159, r123_160, r123_161, r123_163, r123_166, true_and, and_true, true_or, or_true, if_true, if_false, ne_eq, not_false_eq_true, and_self, t10, am_psh, am_clr, not_true_eq_false, Nat.reduceEqDiff, nI_1]
          rw [if_pos e3]
          rw [show fA G R a j = 0 from b32_F (fun q => by rcases q with q | q | q; exact e1 q; exact q e2; exact q e3)] at ih
          exact ih
        · simp only [r123_152, r123_155, r123_156, r123_159, r123_160, r123_161, r123_163, r123_166, true_and, and_true, true_or, or_true, if_true, if_false, ne_eq, not_false_eq_true, and_self, t10, am_psh, am_clr, not_true_eq_false, Nat.reduceEqDiff, nI_1]
          rw [if_neg e3]
          rw [show fA G R a j = 1 from b32_T (Or.inr (Or.inr e3))] at ih
          exact ih
      · rw [if_neg (fun q => e2 ((nI_eq (by omega) (by omega)).mp q))]
        simp only [r123_155, r123_156, r123_159, r123_160, r123_161, r123_163, r123_166, am_clr, nI_1]
        rw [show fA G R a j = 1 from b32_T (Or.inr (Or.inl e2))] at ih
        exact ih
theorem mc_mid {G : Gr} {o : Option Rc} {a : Nat} {x y : Int32} (hok : okS (G, o)) (hm : mS (I 162) (G, o)) (ha : a < gm G) : ∃ I' l5, (∀ Q, am_T (d + 2) 123 48 [some (.ref 161), some (.int (nI a)), some (.int x), some (.int y), none, none] [] (cS L) I J Q = am_T (d + 2) 123 192 [some (.ref 161), some (.int (nI a)), some (.int x), some (.int y), some (.int (fC G o a (x - y)).1), l5] [] (cS L) I' J Q) ∧ (∀ b, b ≠ 162 → I' b = I b) ∧ mS (I' 162) (G, (fC G o a (x - y)).2) ∧ I' 162 107 = I 162 107 := by
  have hm32 : gm G ≤ 32 := hok.1.1.2.2.2
  have hn : gn G ≤ 8 := hok.1.1.2.1
  have x107 : am_ix (cS L) 162 20 107 := mx 107 (by omega)
  cases o with
  | none =>
    have h8 : I 162 107 = 0 := hm.2
    refine ⟨I, none, fun Q => ?_, fun _ _ => rfl, hm, rfl⟩
    simp only [r123_48, r123_49, r123_52, r123_54, r123_55, r123_56, r123_59, r123_60, r123_63, r123_64, r123_66, r123_68, r123_71, r123_72, r123_73, r123_76, r123_79, r123_80, r123_83, r123_85, r123_86, r123_89, r123_91, r123_92, r123_93, r123_94, r123_95, r123_96, r123_97, r123_98, r123_99, r123_100, r123_101, r123_102, r123_103, r123_172, r123_174, r123_177, r123_178, r123_179, s_1, s_2, s_3, s_8, s_16, s_18, s_23, s_24, s_33, s_38, s_41, s_161, f_1_0, f_1_1, f_1_4, f_1_5, f_1_8, f_1_9, f_1_10, f_1_11, f_1_12, f_1_13, f_2_0, f_2_1, f_3_3, f_3_4, f_3_5, f_3_6, f_8_2, f_8_3, f_8_4, f_8_5, f_16_2, f_18_3, f_18_4, f_18_5, f_18_6, f_23_0, f_23_1, f_23_2, f_23_3, f_23_4, f_24_2, f_24_3, f_24_4, f_24_5, f_33_3, f_33_4, f_33_5, f_33_6, f_38_1, f_38_2, f_41_0, f_161_0, f_161_1, f_161_3, f_161_7, f_161_12, f_161_13, f_161_14, f_161_15, f_161_16, f_161_17, f_161_18, f_161_19, f_161_21, f_161_22, f_161_25, true_and, and_true, true_or, or_true, if_true, if_false, ne_eq, not_false_eq_true, and_self, t10, am_psh, am_clr, not_true_eq_false, Nat.reduceEqDiff, x107, show (107 : Int32).toNatClampNeg = 107 from by decide, h8]
    rw [if_neg (by decide)]; rfl
  | some R =>
    have h8 : I 162 107 = 1 := hm.2.1
    have hR : okR G R := hok.2 R rfl
    have hT := fun Q => c_isInTree (d := d + 1) (L := L) (J := J) (Q := Q) (I := I) hok.1 hR hm.1.1.1 (fun v hv => hm.2.2.2.2 v hv) ha
    by_cases e : inTr G R a
    · have hga : gh G a < gn G := (hok.1.2.1 a ha).2.1
      have hk := hR.1.1
      have hk2 := hR.1.2
      obtain ⟨-, q2, -⟩ := hm.1.2.1 a ha
      have hd : I 162 (125 + gh G a) = rd R (gh G a) := (hm.2.2.2.1 (gh G a) (by omega)).2.1
      have hfC : fC G (some R) a (x - y) = (andN (fA G (setD R (gh G a) (x - y)) a) (gm G), some (setD R (gh G a) (x - y))) := if_pos e
      have w' : ∀ j, j ≠ 125 + gh G a → (am_up I 162 (125 + gh G a) (rd R (gh G a) + (x - y))) 162 j = I 162 j := fun j hj => up_ne _ _ (Or.inr hj)
      have hx' : mG ((am_up I 162 (125 + gh G a) (rd R (gh G a) + (x - y))) 162) G := by
        obtain ⟨⟨q1, q2, q3⟩, q4, q5⟩ := hm.1
        refine ⟨⟨(w' 0 (by omega)).trans q1, (w' 1 (by omega)).trans q2, (w' 2 (by omega)).trans q3⟩, fun b hb => ?_, fun y hy => (w' (99 + y) (by omega)).trans (q5 y hy)⟩
        have hb' : b < gm G := hb
        rw [w' (3 + b) (by omega), w' (35 + b) (by omega), w' (67 + b) (by omega)]; exact q4 b hb
      have hr' : mR ((am_up I 162 (125 + gh G a) (rd R (gh G a) + (x - y))) 162) G (setD R (gh G a) (x - y)) := by
        obtain ⟨y1, y2, y3, y4⟩ := hm.2
        refine ⟨by rw [w' 108 (by omega)]; exact y2, fun g hg => ?_, fun v hv => by rw [w' (157 + v) (by omega)]; exact y4 v hv⟩
        obtain ⟨u1, u2, u3⟩ := y3 g hg
        have hg : g < rk R := hg
        refine ⟨by rw [w' (109 + g) (by omega)]; exact u1, ?_, by rw [w' (141 + g) (by omega)]; exact u3⟩
        show _ = fset (rd R) (gh G a) (rd R (gh G a) + (x - y)) g
        by_cases eg : g = gh G a
        · rw [eg, up_self, fset_eq]
        · rw [w' (125 + g) (by omega), fset_ne _ _ eg]; exact u2
      rw [hfC]
      refine ⟨am_up I 162 (125 + gh G a) (rd R (gh G a) + (x - y)), some (.int (nI (gm G))), fun Q => ?_, fun b hb => am_up_ne hb, ⟨hx', by rw [w' 107 (by omega)]; exact h8, hr'⟩, w' 107 (by omega)⟩
      simp only [r123_48, r123_49, r123_52, r123_54, r123_55, r123_56, r123_59, r123_60, r123_63, r123_64, r123_66, r123_68, r123_71, r123_72, r123_73, s_1, s_2, s_3, s_8, s_16, s_18, s_23, s_24, s_33, s_38, s_41, s_161, f_1_0, f_1_1, f_1_4, f_1_5, f_1_8, f_1_9, f_1_10, f_1_11, f_1_12, f_1_13, f_2_0, f_2_1, f_3_3, f_3_4, f_3_5, f_3_6, f_8_2, f_8_3, f_8_4, f_8_5, f_16_2, f_18_3, f_18_4, f_18_5, f_18_6, f_23_0, f_23_1, f_23_2, f_23_3, f_23_4, f_24_2, f_24_3, f_24_4, f_24_5, f_33_3, f_33_4, f_33_5, f_33_6, f_38_1, f_38_2, f_41_0, f_161_0, f_161_1, f_161_3, f_161_7, f_161_12, f_161_13, f_161_14, f_161_15, f_161_16, f_161_17, f_161_18, f_161_19, f_161_21, f_161_22, f_161_25, true_and, and_true, true_or, or_true, if_true, if_false, ne_eq, not_false_eq_true, and_self, t10, am_psh, am_clr, not_true_eq_false, Nat.reduceEqDiff, x107, show (107 : Int32).toNatClampNeg = 107 from by decide, h8]
      rw [hT, b32_T (p := inTr G R a) e]
      simp only [r123_76, r123_79, r123_80, r123_83, r123_85, r123_86, r123_89, r123_91, r123_92, r123_93, r123_94, r123_95, r123_96, r123_97, r123_98, r123_99, r123_100, r123_101, r123_102, r123_103, s_1, s_2, s_3, s_8, s_16, s_18, s_23, s_24, s_33, s_38, s_41, s_161, f_1_0, f_1_1, f_1_4, f_1_5, f_1_8, f_1_9, f_1_10, f_1_11, f_1_12, f_1_13, f_2_0, f_2_1, f_3_3, f_3_4, f_3_5, f_3_6, f_8_2, f_8_3, f_8_4, f_8_5, f_16_2, f_18_3, f_18_4, f_18_5, f_18_6, f_23_0, f_23_1, f_23_2, f_23_3, f_23_4, f_24_2, f_24_3, f_24_4, f_24_5, f_33_3, f_33_4, f_33_5, f_33_6, f_38_1, f_38_2, f_41_0, f_161_0, f_161_1, f_161_3, f_161_7, f_161_12, f_161_13, f_161_14, f_161_15, f_161_16, f_161_17, f_161_18, f_161_19, f_161_21, f_161_22, f_161_25, true_and, and_true, true_or, or_true, if_true, if_false, ne_eq, not_false_eq_true, and_self, t10, am_psh, am_clr, not_true_eq_false, Nat.reduceEqDiff, show (35 : Int32) + nI a = nI (35 + a) from nI_add 35 a, mx (L := L) (35 + a) (by omega), n_cl (show 35 + a < 2 ^ 31 by omega), q2, show (125 : Int32) + nI (gh G a) = nI (125 + gh G a) from nI_add 125 (gh G a), mx (L := L) (125 + gh G a) (by omega), mw (L := L) (125 + gh G a) (by omega), n_cl (show 125 + gh G a < 2 ^ 31 by omega), hd]
      exact mc_loop (G := G) (R := setD R (gh G a) (x - y)) hok.1 hR hx' hr' ha (gm G) 0 (by omega)
    · have hfC : fC G (some R) a (x - y) = (b32 (¬ rdx G R a < 0), some R) := if_neg e
      rw [hfC]
      refine ⟨I, none, fun Q => ?_, fun _ _ => rfl, hm, rfl⟩
      simp only [r123_48, r123_49, r123_52, r123_54, r123_55, r123_56, r123_59, r123_60, r123_63, r123_64, r123_66, r123_68, r123_71, r123_72, r123_73, s_1, s_2, s_3, s_8, s_16, s_18, s_23, s_24, s_33, s_38, s_41, s_161, f_1_0, f_1_1, f_1_4, f_1_5, f_1_8, f_1_9, f_1_10, f_1_11, f_1_12, f_1_13, f_2_0, f_2_1, f_3_3, f_3_4, f_3_5, f_3_6, f_8_2, f_8_3, f_8_4, f_8_5, f_16_2, f_18_3, f_18_4, f_18_5, f_18_6, f_23_0, f_23_1, f_23_2, f_23_3, f_23_4, f_24_2, f_24_3, f_24_4, f_24_5, f_33_3, f_33_4, f_33_5, f_33_6, f_38_1, f_38_2, f_41_0, f_161_0, f_161_1, f_161_3, f_161_7, f_161_12, f_161_13, f_161_14, f_161_15, f_161_16, f_161_17, f_161_18, f_161_19, f_161_21, f_161_22, f_161_25, true_and, and_true, true_or, or_true, if_true, if_false, ne_eq, not_false_eq_true, and_self, t10, am_psh, am_clr, not_true_eq_false, Nat.reduceEqDiff, x107, show (107 : Int32).toNatClampNeg = 107 from by decide, h8]
      rw [hT, b32_F (p := inTr G R a) e]
      simp only [r123_76, r123_172, r123_174, r123_177, r123_178, r123_179, r123_182, r123_185, r123_186, r123_189, r123_190, s_1, s_2, s_3, s_8, s_16, s_18, s_23, s_24, s_33, s_38, s_41, s_161, f_1_0, f_1_1, f_1_4, f_1_5, f_1_8, f_1_9, f_1_10, f_1_11, f_1_12, f_1_13, f_2_0, f_2_1, f_3_3, f_3_4, f_3_5, f_3_6, f_8_2, f_8_3, f_8_4, f_8_5, f_16_2, f_18_3, f_18_4, f_18_5, f_18_6, f_23_0, f_23_1, f_23_2, f_23_3, f_23_4, f_24_2, f_24_3, f_24_4, f_24_5, f_33_3, f_33_4, f_33_5, f_33_6, f_38_1, f_38_2, f_41_0, f_161_0, f_161_1, f_161_3, f_161_7, f_161_12, f_161_13, f_161_14, f_161_15, f_161_16, f_161_17, f_161_18, f_161_19, f_161_21, f_161_22, f_161_25, true_and, and_true, true_or, or_true, if_true, if_false, ne_eq, not_false_eq_true, and_self, t10, am_psh, am_clr, not_true_eq_false, Nat.reduceEqDiff, red_m hok.1 hR hm.1 hm.2.2 ha]
      by_cases e3 : rdx G R a < 0
      · rw [if_pos e3, b32_F (fun q => q e3)]
      · rw [if_neg e3, b32_T e3]
set_option maxHeartbeats 4000000 in
theorem op_setCost (x z : Int32) : am_OK L Inv 61 123 [.int x, .int z] := by
  intro I J hI
  have hI0 := hI
  obtain ⟨s, hs, s0, s1, n, tx, hok, hx, hm, hl, hh, hsl, hru, htx⟩ := hI
  obtain ⟨hO, hhM, o, ho, hhX⟩ := xH_iff.mp hh
  have hn := hok.1.1.2.1
  have hm32 := hok.1.1.2.2.2
  rcases in_or_out x (n := gm s.1) (by omega) with hv | ⟨a, ha, rfl⟩
  · refine ok_same hI0 (x := -102) (fun Q => ?_) (fun Q => ?_)
    · rw [e61]; simp only [r61_0, r61_1, r61_4, r61_7, r61_8, r61_9, r61_10, r61_13, r61_16, r61_18, r61_19, r61_20, r61_23, r61_24, r61_26, r61_29, r61_31, r61_32, r61_33, r61_36, r61_37, r61_38, r61_40, r61_41, r61_44, r61_45, r61_48, r61_49, r61_50, r61_51, r61_52, r61_53, r61_56, r61_59, r61_60, r61_61, r61_62, r61_64, r61_65, r61_68, r61_71, r61_73, s_1, s_2, s_3, s_8, s_16, s_18, s_23, s_24, s_33, s_38, s_41, s_161, f_1_0, f_1_1, f_1_4, f_1_5, f_1_8, f_1_9, f_1_10, f_1_11, f_1_12, f_1_13, f_2_0, f_2_1, f_3_3, f_3_4, f_3_5, f_3_6, f_8_2, f_8_3, f_8_4, f_8_5, f_16_2, f_18_3, f_18_4, f_18_5, f_18_6, f_23_0, f_23_1, f_23_2, f_23_3, f_23_4, f_24_2, f_24_3, f_24_4, f_24_5, f_33_3, f_33_4, f_33_5, f_33_6, f_38_1, f_38_2, f_41_0, f_161_0, f_161_1, f_161_3, f_161_7, f_161_12, f_161_13, f_161_14, f_161_15, f_161_16, f_161_17, f_161_18, f_161_19, f_161_21, f_161_22, f_161_25, true_and, and_true, true_or, or_true, if_true, if_false, ne_eq, not_false_eq_true, and_self, t10, am_psh, am_clr, not_true_eq_false, Nat.reduceEqDiff]
      rw [c_hasArc_out hx.1.1.2.2 hv]; simp only [r61_0, r61_1, r61_4, r61_7, r61_8, r61_9, r61_10, r61_13, r61_16, r61_18, r61_19, r61_20, r61_23, r61_24, r61_26, r61_29, r61_31, r61_32, r61_33, r61_36, r61_37, r61_38, r61_40, r61_41, r61_44, r61_45, r61_48, r61_49, r61_50, r61_51, r61_52, r61_53, r61_56, r61_59, r61_60, r61_61, r61_62, r61_64, r61_65, r61_68, r61_71, r61_73, true_and, and_true, true_or, or_true, if_true, if_false, ne_eq, not_false_eq_true, and_self, t10, am_psh, am_clr, not_true_eq_false, Nat.reduceEqDiff]
    · rw [e123]; simp only [r123_0, r123_1, r123_2, r123_5, r123_8, r123_10, s_1, s_2, s_3, s_8, s_16, s_18, s_23, s_24, s_33, s_38, s_41, s_161, f_1_0, f_1_1, f_1_4, f_1_5, f_1_8, f_1_9, f_1_10, f_1_11, f_1_12, f_1_13, f_2_0, f_2_1, f_3_3, f_3_4, f_3_5, f_3_6, f_8_2, f_8_3, f_8_4, f_8_5, f_16_2, f_18_3, f_18_4, f_18_5, f_18_6, f_23_0, f_23_1, f_23_2, f_23_3, f_23_4, f_24_2, f_24_3, f_24_4, f_24_5, f_33_3, f_33_4, f_33_5, f_33_6, f_38_1, f_38_2, f_41_0, f_161_0, f_161_1, f_161_3, f_161_7, f_161_12, f_161_13, f_161_14, f_161_15, f_161_16, f_161_17, f_161_18, f_161_19, f_161_21, f_161_22, f_161_25, true_and, and_true, true_or, or_true, if_true, if_false, ne_eq, not_false_eq_true, and_self, t10, am_psh, am_clr, not_true_eq_false, Nat.reduceEqDiff]
      rw [c_isArc_out hm.1.1.2.2 hm32 hv]; simp only [r123_0, r123_1, r123_2, r123_5, r123_8, r123_10, true_and, and_true, true_or, or_true, if_true, if_false, ne_eq, not_false_eq_true, and_self, t10, am_psh, am_clr, not_true_eq_false, Nat.reduceEqDiff]
  rcases rng z 0 99 (by omega) (by omega) with hz | ⟨c, -, hc, rfl⟩
  · refine ok_same hI0 (x := -103) (fun Q => ?_) (fun Q => ?_)
    · rw [e61]; simp only [r61_0, r61_1, r61_4, r61_7, r61_8, r61_9, r61_10, r61_13, r61_16, r61_18, r61_19, r61_20, r61_23, r61_24, r61_26, r61_29, r61_31, r61_32, r61_33, r61_36, r61_37, r61_38, r61_40, r61_41, r61_44, r61_45, r61_48, r61_49, r61_50, r61_51, r61_52, r61_53, r61_56, r61_59, r61_60, r61_61, r61_62, r61_64, r61_65, r61_68, r61_71, r61_73, s_1, s_2, s_3, s_8, s_16, s_18, s_23, s_24, s_33, s_38, s_41, s_161, f_1_0, f_1_1, f_1_4, f_1_5, f_1_8, f_1_9, f_1_10, f_1_11, f_1_12, f_1_13, f_2_0, f_2_1, f_3_3, f_3_4, f_3_5, f_3_6, f_8_2, f_8_3, f_8_4, f_8_5, f_16_2, f_18_3, f_18_4, f_18_5, f_18_6, f_23_0, f_23_1, f_23_2, f_23_3, f_23_4, f_24_2, f_24_3, f_24_4, f_24_5, f_33_3, f_33_4, f_33_5, f_33_6, f_38_1, f_38_2, f_41_0, f_161_0, f_161_1, f_161_3, f_161_7, f_161_12, f_161_13, f_161_14, f_161_15, f_161_16, f_161_17, f_161_18, f_161_19, f_161_21, f_161_22, f_161_25, true_and, and_true, true_or, or_true, if_true, if_false, ne_eq, not_false_eq_true, and_self, t10, am_psh, am_clr, not_true_eq_false, Nat.reduceEqDiff]
      rw [c_hasArc_in hx.1.1.2.2 hm32 ha]; simp only [r61_13, r61_16, r61_18, r61_19, r61_20, r61_23, r61_24, r61_26, r61_29, r61_31, true_and, and_true, true_or, or_true, if_true, if_false, ne_eq, not_false_eq_true, and_self, t10, am_psh, am_clr, not_true_eq_false, Nat.reduceEqDiff]
      rcases hz with g | ⟨g1, g2⟩
      · rw [if_pos (show z < 0 from g)]
      · rw [if_neg (show ¬ z < 0 from g1), if_neg (show ¬ z ≤ 99 from nle_of_lt g2)]
    · rw [e123]; simp only [r123_0, r123_1, r123_2, r123_5, r123_8, r123_10, s_1, s_2, s_3, s_8, s_16, s_18, s_23, s_24, s_33, s_38, s_41, s_161, f_1_0, f_1_1, f_1_4, f_1_5, f_1_8, f_1_9, f_1_10, f_1_11, f_1_12, f_1_13, f_2_0, f_2_1, f_3_3, f_3_4, f_3_5, f_3_6, f_8_2, f_8_3, f_8_4, f_8_5, f_16_2, f_18_3, f_18_4, f_18_5, f_18_6, f_23_0, f_23_1, f_23_2, f_23_3, f_23_4, f_24_2, f_24_3, f_24_4, f_24_5, f_33_3, f_33_4, f_33_5, f_33_6, f_38_1, f_38_2, f_41_0, f_161_0, f_161_1, f_161_3, f_161_7, f_161_12, f_161_13, f_161_14, f_161_15, f_161_16, f_161_17, f_161_18, f_161_19, f_161_21, f_161_22, f_161_25, true_and, and_true, true_or, or_true, if_true, if_false, ne_eq, not_false_eq_true, and_self, t10, am_psh, am_clr, not_true_eq_false, Nat.reduceEqDiff]
      rw [c_isArc_in hm.1.1.2.2 hm32 ha]; simp only [r123_5, r123_8, r123_10, r123_11, r123_12, r123_13, r123_15, c_isIn, true_and, and_true, true_or, or_true, if_true, if_false, ne_eq, not_false_eq_true, and_self, t10, am_psh, am_clr, not_true_eq_false, Nat.reduceEqDiff]
      rcases hz with g | ⟨g1, g2⟩
      · rw [if_pos (show z < 0 from g)]; simp only [r123_18, r123_21, r123_23, true_and, and_true, true_or, or_true, if_true, if_false, ne_eq, not_false_eq_true, and_self, t10, am_psh, am_clr, not_true_eq_false, Nat.reduceEqDiff]
      · rw [if_neg (show ¬ z < 0 from g1), if_pos (show 99 < z from g2)]; simp only [r123_18, r123_21, r123_23, true_and, and_true, true_or, or_true, if_true, if_false, ne_eq, not_false_eq_true, and_self, t10, am_psh, am_clr, not_true_eq_false, Nat.reduceEqDiff]
  have b1 : ¬ nI c < 0 := nI_pos (by omega)
  have b2 : nI c ≤ 99 := (nI_leI (b := 99) (by omega) (by omega)).mpr hc
  have b3 : ¬ 99 < nI c := Int32.not_lt.mpr b2
  obtain ⟨I1, o1, k1, k2, k3, k4, k5, k6, k7⟩ := c_keep (d := 35) (L := L) (J := J) hok hx ho hhX hO.1
  have e3 : ∀ b, 3 ≤ b → b ≤ 12 → I1 b = I b := fun b b1 b2 => k4 b (by omega) (by omega) (by omega)
  have hx1 : xS I1 3 8 s := xS_congr (fun b b1 b2 => e3 b (by omega) (by omega)) (fun b b1 b2 => e3 b (by omega) (by omega)) hx
  have hokC : okS (setC s.1 a c, s.2) := okS_rec hok (okG_set hok.1 hc) rfl rfl rfl rfl
  have hxC : xS (am_up I1 6 a (nI c)) 3 8 (setC s.1 a c, s.2) := by
    refine xS_rec hx1 ⟨⟨?_, ?_, ?_⟩, fun b hb => ?_, fun v hv => ?_⟩ rfl rfl (fun b b1 b2 => am_up_ne (by omega))
    · rw [am_up_ne (by omega)]; exact hx1.1.1.1
    · rw [am_up_ne (by omega)]; exact hx1.1.1.2.1
    · rw [am_up_ne (by omega)]; exact hx1.1.1.2.2
    · obtain ⟨u1, u2, u3⟩ := hx1.1.2.1 b hb
      rw [am_up_ne (by omega), am_up_ne (by omega)]
      refine ⟨u1, u2, ?_⟩
      show am_up I1 6 a (nI c) 6 b = nI (fset (gc s.1) a c b)
      by_cases e : b = a
      · rw [e, up_self, fset_eq]
      · rw [up_ne _ _ (Or.inr e), fset_ne _ _ e]; exact u3
    · rw [am_up_ne (by omega)]; exact hx1.1.2.2 v hv
  obtain ⟨I1a, hfX, hf1, hf2⟩ := c_followCost (d := 35) (L := L) (I := am_up I1 6 a (nI c)) (J := J) (a := a) (x := nI c - nI (gc s.1 a)) hokC hxC ha
  have hr01 := fC_01 (setC s.1 a c) s.2 a (nI c - nI (gc s.1 a))
  have hok2 := fC_ok (a := a) (x := nI c - nI (gc s.1 a)) hokC
  obtain ⟨I2, m1, m2, m3, m4, m5, m6⟩ := c_settle (d := 38) (L := L) (J := J) (I := I1a) hr01 (xS_01 hf2)
  have f2 : ∀ b, b ≠ 1 → b ≠ 6 → b ≠ 8 → b ≠ 10 → b ≠ 33 → (b < 52 ∨ 139 ≤ b) → I2 b = I b := fun b b1 b2 b3 b3' b4 b5 => by rw [m2 b b1 b3, hf1 b b3', am_up_ne b2, k4 b b1 b4 b5]
  have g161 : I2 161 = I 161 := f2 161 (by omega) (by omega) (by omega) (by omega) (by omega) (by omega)
  have g162 : I2 162 = I 162 := f2 162 (by omega) (by omega) (by omega) (by omega) (by omega) (by omega)
  obtain ⟨I3, p1, p2, p3, p4⟩ := c_Mkeep (d := 38) (L := L) (J := J) (I := I2) (hs := hs) hok (by rw [g162]; exact hm) (hM_congr (by rw [g161]) (f2 163 (by omega) (by omega) (by omega) (by omega) (by omega) (by omega)) hhM) hO
  have e162 : I3 162 = I 162 := by rw [p3 162 (by omega) (by omega), g162]
  have hmC : mS ((am_up I3 162 (67 + a) (nI c)) 162) (setC s.1 a c, s.2) := by
    have w' : ∀ j, j ≠ 67 + a → (am_up I3 162 (67 + a) (nI c)) 162 j = I 162 j := fun j hj => by rw [up_ne _ _ (Or.inr hj), e162]
    obtain ⟨⟨q1, q2, q3⟩, q4, q5⟩ := hm.1
    refine mS_rec hok hm ⟨⟨(w' 0 (by omega)).trans q1, (w' 1 (by omega)).trans q2, (w' 2 (by omega)).trans q3⟩, fun b hb => ?_, fun y hy => (w' (99 + y) (by omega)).trans (q5 y hy)⟩ rfl rfl (fun j h1 h2 => w' j (by omega))
    have hb' : b < gm s.1 := hb
    obtain ⟨u1, u2, u3⟩ := q4 b hb
    refine ⟨(w' (3 + b) (by omega)).trans u1, (w' (35 + b) (by omega)).trans u2, ?_⟩
    show _ = nI (fset (gc s.1) a c b)
    by_cases e : b = a
    · rw [e, up_self, fset_eq]
    · rw [w' (67 + b) (by omega), fset_ne _ _ e]; exact u3
  obtain ⟨I3a, l5, hmX, hm1, hm2, hm3⟩ := mc_mid (d := 37) (L := L) (I := am_up I3 162 (67 + a) (nI c)) (J := J) (x := nI c) (y := nI (gc s.1 a)) hokC hmC ha
  obtain ⟨I4, j1, j2, j3, j4, j5, j6⟩ := c_judge (d := 38) (L := L) (J := J) (I := I3a) hr01 (mS_01 hm2)
  have f4 : ∀ b, b ≠ 161 → b ≠ 162 → b ≠ 163 → I4 b = I2 b := fun b b1 b2 b3 => by rw [j2 b b1 b2, hm1 b b2, am_up_ne b2, p3 b b1 b3]
  have c21 : ∀ j, j ≠ 7 → I2 1 j = I1 1 j := fun j hj => by rw [m3 j hj, hf1 1 (by omega), am_up_ne (by omega)]
  have a161 : ∀ j, I3a 161 j = I3 161 j := fun j => by rw [hm1 161 (by omega), am_up_ne (by omega)]
  have hgc : I 6 a = nI (gc s.1 a) := (hx.1.2.1 a ha).2.2
  refine ⟨.int (nI (gc s.1 a)), I2, J, I4, J, fun Q => ?_, f2 0 (by omega) (by omega) (by omega) (by omega) (by omega) (by omega), fun Q => ?_, by rw [f4 0 (by omega) (by omega) (by omega), f2 0 (by omega) (by omega) (by omega) (by omega) (by omega) (by omega)], ?_, _, rfl⟩
  · rw [e61]; simp only [r61_0, r61_1, r61_4, r61_7, r61_8, r61_9, r61_10, s_1, s_2, s_3, s_8, s_16, s_18, s_23, s_24, s_33, s_38, s_41, s_161, f_1_0, f_1_1, f_1_4, f_1_5, f_1_8, f_1_9, f_1_10, f_1_11, f_1_12, f_1_13, f_2_0, f_2_1, f_3_3, f_3_4, f_3_5, f_3_6, f_8_2, f_8_3, f_8_4, f_8_5, f_16_2, f_18_3, f_18_4, f_18_5, f_18_6, f_23_0, f_23_1, f_23_2, f_23_3, f_23_4, f_24_2, f_24_3, f_24_4, f_24_5, f_33_3, f_33_4, f_33_5, f_33_6, f_38_1, f_38_2, f_41_0, f_161_0, f_161_1, f_161_3, f_161_7, f_161_12, f_161_13, f_161_14, f_161_15, f_161_16, f_161_17, f_161_18, f_161_19, f_161_21, f_161_22, f_161_25, true_and, and_true, true_or, or_true, if_true, if_false, ne_eq, not_false_eq_true, and_self, t10, am_psh, am_clr, not_true_eq_false, Nat.reduceEqDiff]
    rw [c_hasArc_in hx.1.1.2.2 hm32 ha]; simp only [r61_13, r61_16, r61_18, r61_19, r61_20, r61_23, r61_24, r61_26, r61_29, r61_31, r61_32, r61_33, r61_36, r61_37, r61_38, r61_40, r61_41, s_1, s_2, s_3, s_8, s_16, s_18, s_23, s_24, s_33, s_38, s_41, s_161, f_1_0, f_1_1, f_1_4, f_1_5, f_1_8, f_1_9, f_1_10, f_1_11, f_1_12, f_1_13, f_2_0, f_2_1, f_3_3, f_3_4, f_3_5, f_3_6, f_8_2, f_8_3, f_8_4, f_8_5, f_16_2, f_18_3, f_18_4, f_18_5, f_18_6, f_23_0, f_23_1, f_23_2, f_23_3, f_23_4, f_24_2, f_24_3, f_24_4, f_24_5, f_33_3, f_33_4, f_33_5, f_33_6, f_38_1, f_38_2, f_41_0, f_161_0, f_161_1, f_161_3, f_161_7, f_161_12, f_161_13, f_161_14, f_161_15, f_161_16, f_161_17, f_161_18, f_161_19, f_161_21, f_161_22, f_161_25, true_and, and_true, true_or, or_true, if_true, if_false, ne_eq, not_false_eq_true, and_self, t10, am_psh, am_clr, not_true_eq_false, Nat.reduceEqDiff, show am_ix (cS L) 6 20 (nI a) from ix_nI (k_6 L) (n_6 L) (by omega) (by omega), n_cl (show a < 2 ^ 31 by omega), hgc]
    rw [if_neg b1, if_pos b2, k1]; simp only [r61_44, r61_45, r61_48, r61_49, r61_50, r61_51, r61_52, r61_53, r61_56, r61_59, r61_60, r61_61, r61_62, r61_64, r61_65, s_1, s_2, s_3, s_8, s_16, s_18, s_23, s_24, s_33, s_38, s_41, s_161, f_1_0, f_1_1, f_1_4, f_1_5, f_1_8, f_1_9, f_1_10, f_1_11, f_1_12, f_1_13, f_2_0, f_2_1, f_3_3, f_3_4, f_3_5, f_3_6, f_8_2, f_8_3, f_8_4, f_8_5, f_16_2, f_18_3, f_18_4, f_18_5, f_18_6, f_23_0, f_23_1, f_23_2, f_23_3, f_23_4, f_24_2, f_24_3, f_24_4, f_24_5, f_33_3, f_33_4, f_33_5, f_33_6, f_38_1, f_38_2, f_41_0, f_161_0, f_161_1, f_161_3, f_161_7, f_161_12, f_161_13, f_161_14, f_161_15, f_161_16, f_161_17, f_161_18, f_161_19, f_161_21, f_161_22, f_161_25, true_and, and_true, true_or, or_true, if_true, if_false, ne_eq, not_false_eq_true, and_self, t10, am_psh, am_clr, not_true_eq_false, Nat.reduceEqDiff, show am_ixw (cS L) 6 20 (nI a) from ixw_nI (k_6 L) (by omega) (n_6 L) (by omega) (by omega), n_cl (show a < 2 ^ 31 by omega)]
    rw [hfX]; simp only [r61_68, s_1, s_2, s_3, s_8, s_16, s_18, s_23, s_24, s_33, s_38, s_41, s_161, f_1_0, f_1_1, f_1_4, f_1_5, f_1_8, f_1_9, f_1_10, f_1_11, f_1_12, f_1_13, f_2_0, f_2_1, f_3_3, f_3_4, f_3_5, f_3_6, f_8_2, f_8_3, f_8_4, f_8_5, f_16_2, f_18_3, f_18_4, f_18_5, f_18_6, f_23_0, f_23_1, f_23_2, f_23_3, f_23_4, f_24_2, f_24_3, f_24_4, f_24_5, f_33_3, f_33_4, f_33_5, f_33_6, f_38_1, f_38_2, f_41_0, f_161_0, f_161_1, f_161_3, f_161_7, f_161_12, f_161_13, f_161_14, f_161_15, f_161_16, f_161_17, f_161_18, f_161_19, f_161_21, f_161_22, f_161_25, true_and, and_true, true_or, or_true, if_true, if_false, ne_eq, not_false_eq_true, and_self, t10, am_psh, am_clr, not_true_eq_false, Nat.reduceEqDiff]
    rw [m1]; simp only [r61_71, r61_73, s_1, s_2, s_3, s_8, s_16, s_18, s_23, s_24, s_33, s_38, s_41, s_161, f_1_0, f_1_1, f_1_4, f_1_5, f_1_8, f_1_9, f_1_10, f_1_11, f_1_12, f_1_13, f_2_0, f_2_1, f_3_3, f_3_4, f_3_5, f_3_6, f_8_2, f_8_3, f_8_4, f_8_5, f_16_2, f_18_3, f_18_4, f_18_5, f_18_6, f_23_0, f_23_1, f_23_2, f_23_3, f_23_4, f_24_2, f_24_3, f_24_4, f_24_5, f_33_3, f_33_4, f_33_5, f_33_6, f_38_1, f_38_2, f_41_0, f_161_0, f_161_1, f_161_3, f_161_7, f_161_12, f_161_13, f_161_14, f_161_15, f_161_16, f_161_17, f_161_18, f_161_19, f_161_21, f_161_22, f_161_25, true_and, and_true, true_or, or_true, if_true, if_false, ne_eq, not_false_eq_true, and_self, t10, am_psh, am_clr, not_true_eq_false, Nat.reduceEqDiff]
  · rw [e123]; simp only [r123_0, r123_1, r123_2, s_1, s_2, s_3, s_8, s_16, s_18, s_23, s_24, s_33, s_38, s_41, s_161, f_1_0, f_1_1, f_1_4, f_1_5, f_1_8, f_1_9, f_1_10, f_1_11, f_1_12, f_1_13, f_2_0, f_2_1, f_3_3, f_3_4, f_3_5, f_3_6, f_8_2, f_8_3, f_8_4, f_8_5, f_16_2, f_18_3, f_18_4, f_18_5, f_18_6, f_23_0, f_23_1, f_23_2, f_23_3, f_23_4, f_24_2, f_24_3, f_24_4, f_24_5, f_33_3, f_33_4, f_33_5, f_33_6, f_38_1, f_38_2, f_41_0, f_161_0, f_161_1, f_161_3, f_161_7, f_161_12, f_161_13, f_161_14, f_161_15, f_161_16, f_161_17, f_161_18, f_161_19, f_161_21, f_161_22, f_161_25, true_and, and_true, true_or, or_true, if_true, if_false, ne_eq, not_false_eq_true, and_self, t10, am_psh, am_clr, not_true_eq_false, Nat.reduceEqDiff]
    rw [c_isArc_in (by rw [g162]; exact hm.1.1.2.2) hm32 ha]; simp only [r123_5, r123_8, r123_10, r123_11, r123_12, r123_13, r123_15, s_1, s_2, s_3, s_8, s_16, s_18, s_23, s_24, s_33, s_38, s_41, s_161, f_1_0, f_1_1, f_1_4, f_1_5, f_1_8, f_1_9, f_1_10, f_1_11, f_1_12, f_1_13, f_2_0, f_2_1, f_3_3, f_3_4, f_3_5, f_3_6, f_8_2, f_8_3, f_8_4, f_8_5, f_16_2, f_18_3, f_18_4, f_18_5, f_18_6, f_23_0, f_23_1, f_23_2, f_23_3, f_23_4, f_24_2, f_24_3, f_24_4, f_24_5, f_33_3, f_33_4, f_33_5, f_33_6, f_38_1, f_38_2, f_41_0, f_161_0, f_161_1, f_161_3, f_161_7, f_161_12, f_161_13, f_161_14, f_161_15, f_161_16, f_161_17, f_161_18, f_161_19, f_161_21, f_161_22, f_161_25, true_and, and_true, true_or, or_true, if_true, if_false, ne_eq, not_false_eq_true, and_self, t10, am_psh, am_clr, not_true_eq_false, Nat.reduceEqDiff, c_isIn]
    rw [if_neg b1, if_neg b3]; simp only [r123_18, r123_21, r123_23, r123_24, r123_25, s_1, s_2, s_3, s_8, s_16, s_18, s_23, s_24, s_33, s_38, s_41, s_161, f_1_0, f_1_1, f_1_4, f_1_5, f_1_8, f_1_9, f_1_10, f_1_11, f_1_12, f_1_13, f_2_0, f_2_1, f_3_3, f_3_4, f_3_5, f_3_6, f_8_2, f_8_3, f_8_4, f_8_5, f_16_2, f_18_3, f_18_4, f_18_5, f_18_6, f_23_0, f_23_1, f_23_2, f_23_3, f_23_4, f_24_2, f_24_3, f_24_4, f_24_5, f_33_3, f_33_4, f_33_5, f_33_6, f_38_1, f_38_2, f_41_0, f_161_0, f_161_1, f_161_3, f_161_7, f_161_12, f_161_13, f_161_14, f_161_15, f_161_16, f_161_17, f_161_18, f_161_19, f_161_21, f_161_22, f_161_25, true_and, and_true, true_or, or_true, if_true, if_false, ne_eq, not_false_eq_true, and_self, t10, am_psh, am_clr, not_true_eq_false, Nat.reduceEqDiff]
    rw [p1]; simp only [r123_28, r123_29, r123_32, r123_34, r123_35, r123_36, r123_37, r123_38, r123_39, r123_42, r123_44, r123_45, r123_46, r123_47, s_1, s_2, s_3, s_8, s_16, s_18, s_23, s_24, s_33, s_38, s_41, s_161, f_1_0, f_1_1, f_1_4, f_1_5, f_1_8, f_1_9, f_1_10, f_1_11, f_1_12, f_1_13, f_2_0, f_2_1, f_3_3, f_3_4, f_3_5, f_3_6, f_8_2, f_8_3, f_8_4, f_8_5, f_16_2, f_18_3, f_18_4, f_18_5, f_18_6, f_23_0, f_23_1, f_23_2, f_23_3, f_23_4, f_24_2, f_24_3, f_24_4, f_24_5, f_33_3, f_33_4, f_33_5, f_33_6, f_38_1, f_38_2, f_41_0, f_161_0, f_161_1, f_161_3, f_161_7, f_161_12, f_161_13, f_161_14, f_161_15, f_161_16, f_161_17, f_161_18, f_161_19, f_161_21, f_161_22, f_161_25, true_and, and_true, true_or, or_true, if_true, if_false, ne_eq, not_false_eq_true, and_self, t10, am_psh, am_clr, not_true_eq_false, Nat.reduceEqDiff, show (67 : Int32) + nI a = nI (67 + a) from nI_add 67 a, mx (L := L) (67 + a) (by omega), mw (L := L) (67 + a) (by omega), n_cl (show 67 + a < 2 ^ 31 by omega), e162, (hm.1.2.1 a ha).2.2]
    rw [hmX]; simp only [r123_192, r123_193, r123_195, s_1, s_2, s_3, s_8, s_16, s_18, s_23, s_24, s_33, s_38, s_41, s_161, f_1_0, f_1_1, f_1_4, f_1_5, f_1_8, f_1_9, f_1_10, f_1_11, f_1_12, f_1_13, f_2_0, f_2_1, f_3_3, f_3_4, f_3_5, f_3_6, f_8_2, f_8_3, f_8_4, f_8_5, f_16_2, f_18_3, f_18_4, f_18_5, f_18_6, f_23_0, f_23_1, f_23_2, f_23_3, f_23_4, f_24_2, f_24_3, f_24_4, f_24_5, f_33_3, f_33_4, f_33_5, f_33_6, f_38_1, f_38_2, f_41_0, f_161_0, f_161_1, f_161_3, f_161_7, f_161_12, f_161_13, f_161_14, f_161_15, f_161_16, f_161_17, f_161_18, f_161_19, f_161_21, f_161_22, f_161_25, true_and, and_true, true_or, or_true, if_true, if_false, ne_eq, not_false_eq_true, and_self, t10, am_psh, am_clr, not_true_eq_false, Nat.reduceEqDiff]
    rw [j1]; simp only [r123_198, r123_199, s_1, s_2, s_3, s_8, s_16, s_18, s_23, s_24, s_33, s_38, s_41, s_161, f_1_0, f_1_1, f_1_4, f_1_5, f_1_8, f_1_9, f_1_10, f_1_11, f_1_12, f_1_13, f_2_0, f_2_1, f_3_3, f_3_4, f_3_5, f_3_6, f_8_2, f_8_3, f_8_4, f_8_5, f_16_2, f_18_3, f_18_4, f_18_5, f_18_6, f_23_0, f_23_1, f_23_2, f_23_3, f_23_4, f_24_2, f_24_3, f_24_4, f_24_5, f_33_3, f_33_4, f_33_5, f_33_6, f_38_1, f_38_2, f_41_0, f_161_0, f_161_1, f_161_3, f_161_7, f_161_12, f_161_13, f_161_14, f_161_15, f_161_16, f_161_17, f_161_18, f_161_19, f_161_21, f_161_22, f_161_25, true_and, and_true, true_or, or_true, if_true, if_false, ne_eq, not_false_eq_true, and_self, t10, am_psh, am_clr, not_true_eq_false, Nat.reduceEqDiff]
  · have xg : xG I4 3 (setC s.1 a c) := xG_congr (fun b b1 b2 => by rw [f4 b (by omega) (by omega) (by omega), m2 b (by omega) (by omega)]) hf2.1
    have mg : mG (I4 162) (setC s.1 a c) := by
      obtain ⟨⟨q1, q2, q3⟩, q4, q5⟩ := hm2.1
      refine ⟨⟨(j4 0 (by omega)).trans q1, (j4 1 (by omega)).trans q2, (j4 2 (by omega)).trans q3⟩, fun b hb => ?_, fun y hy => (j4 (99 + y) (by omega)).trans (q5 y hy)⟩
      have hb' : b < gm s.1 := hb
      rw [j4 (3 + b) (by omega), j4 (35 + b) (by omega), j4 (67 + b) (by omega)]; exact q4 b hb
    refine Inv_of (I := I) (s' := (setC s.1 a c, if (fC (setC s.1 a c) s.2 a (nI c - nI (gc s.1 a))).1 = 0 then none else (fC (setC s.1 a c) s.2 a (nI c - nI (gc s.1 a))).2)) (hs' := pushH hs s) (s0 := s0) (s1 := s1) (n := n) (o := o1) (tx := tx) ⟨hok2.1, fun R hR => ?_⟩ (xS_z hf2 xg rfl rfl ?_ ?_ ?_) (mS_z hok2 hm2 mg rfl rfl ?_ ?_) (Or.inl ?_) (okH_push hO hok) (hM_congr (by rw [j3 2 (by omega), a161]) (by rw [j2 163 (by omega) (by omega), hm1 163 (by omega), am_up_ne (by omega)]) p2) k2 (hX_congr (by rw [f4 1 (by omega) (by omega) (by omega), c21 2 (by omega)]) (by rw [f4 1 (by omega) (by omega) (by omega), c21 3 (by omega)]) (fun b b1 b2 => by rw [f4 b (by omega) (by omega) (by omega), m2 b (by omega) (by omega), hf1 b (by omega), am_up_ne (by omega)]) k3) ⟨?_, ?_⟩ hsl htx (fun b hb => ?_) ?_ ?_
    · by_cases e : (fC (setC s.1 a c) s.2 a (nI c - nI (gc s.1 a))).1 = 0
      · rw [if_pos e] at hR; cases hR
      · rw [if_neg e] at hR; exact hok2.2 R hR
    · rw [f4 8 (by omega) (by omega) (by omega), m6]
    · intro j hj; rw [f4 8 (by omega) (by omega) (by omega), m4 j hj]
    · intro b b1 b2; rw [f4 b (by omega) (by omega) (by omega), m2 b (by omega) (by omega)]
    · exact j6
    · intro j h1 h2; exact j4 j (by omega)
    · rw [f4 33 (by omega) (by omega) (by omega), m2 33 (by omega) (by omega), hf1 33 (by omega), am_up_ne (by omega)]; exact k6
    · rw [f4 1 (by omega) (by omega) (by omega), c21 6 (by omega), k5 6 (by omega) (by omega), j3 5 (by omega), a161, p4 5 (by omega), g161]; exact hru.1
    · have h8 : I1a 8 0 = I 8 0 := by rw [hf1 8 (by omega), am_up_ne (by omega), e3 8 (by omega) (by omega)]
      have h107 : I3a 162 107 = I 162 107 := by rw [hm3, up_ne _ _ (Or.inr (by omega)), e162]
      rw [f4 1 (by omega) (by omega) (by omega), m5, j5, hf1 1 (by omega), am_up_ne (by omega), k5 7 (by omega) (by omega), a161, p4 6 (by omega), g161, h8, h107, hru.2, rec_eq hx hm]
    · rw [f4 b (by omega) (by omega) (by omega), f2 b (by omega) (by omega) (by omega) (by omega) (by omega) (by omega)]
    · rw [j3 4 (by omega), a161, p4 4 (by omega), g161]
    · rw [j3 8 (by omega), a161, p4 8 (by omega), g161]
end CP2
