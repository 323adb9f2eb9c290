/-! addArc -/
def fset {α : Type} (f : Nat → α) (k : Nat) (x : α) : Nat → α := fun j => if j = k then x else f j
theorem fset_eq {α : Type} (f : Nat → α) (k : Nat) (x : α) : fset f k x k = x := if_pos rfl
theorem fset_ne {α : Type} (f : Nat → α) {k j : Nat} (x : α) (h : j ≠ k) : fset f k x j = f j := if_neg h
def gApp (I : am_I) (g m : Nat) (t h c : Int32) : am_I := am_up (am_up (am_up (am_up I (g + 1) m t) (g + 2) m h) (g + 3) m c) g 2 (nI (m + 1))
def wApp (w : Nat → Int32) (m : Nat) (t h c : Int32) : Nat → Int32 := fset (fset (fset (fset w (3 + m) t) (35 + m) h) (67 + m) c) 2 (nI (m + 1))
def addA (G : Gr) (t h c : Nat) : Gr := (gn G, gr G, gm G + 1, fset (gt G) (gm G) t, fset (gh G) (gm G) h, fset (gc G) (gm G) c, gl G)
theorem okG_add {G : Gr} {t h c : Nat} (hG : okG G) (hm : gm G < 32) (ht : t < gn G) (hh : h < gn G) (hth : t ≠ h) (hc : c ≤ 99) : okG (addA G t h c) := by
  obtain ⟨⟨a1, a2, a3, a4⟩, a5, a6⟩ := hG
  refine ⟨⟨a1, a2, a3, hm⟩, fun a ha => ?_, a6⟩
  have ha : a < gm G + 1 := ha
  show fset (gt G) (gm G) t a < gn G ∧ fset (gh G) (gm G) h a < gn G ∧ fset (gt G) (gm G) t a ≠ fset (gh G) (gm G) h a ∧ fset (gc G) (gm G) c a ≤ 99
  by_cases e : a = gm G
  · subst e; rw [fset_eq, fset_eq, fset_eq]; exact ⟨ht, hh, hth, hc⟩
  · rw [fset_ne _ _ e, fset_ne _ _ e, fset_ne _ _ e]; exact a5 a (by omega)
theorem okR_add {G : Gr} {R : Rc} {t h c : Nat} (hR : okR G R) : okR (addA G t h c) R := by
  obtain ⟨a1, a2, a3⟩ := hR
  refine ⟨a1, a2, fun v hv hne => ?_⟩
  obtain ⟨b1, b2⟩ := a3 v hv hne
  exact ⟨Nat.lt_succ_of_lt b1, (fset_ne _ _ (Nat.ne_of_lt b1)).trans b2⟩
section AD
variable {d L : Nat} {I I' : am_I} {J J' : am_J} {Q : am_Q}
theorem gApp_ne {g m b : Nat} {t h c : Int32} (h0 : b < g ∨ g + 3 < b) : gApp I g m t h c b = I b := by
  unfold gApp; rw [am_up_ne (by omega), am_up_ne (by omega), am_up_ne (by omega), am_up_ne (by omega)]
theorem xG_app {g : Nat} {G : Gr} {t h c : Nat} (hx : xG I g G) : xG (gApp I g (gm G) (nI t) (nI h) (nI c)) g (addA G t h c) := by
  obtain ⟨⟨a1, a2, a3⟩, a4, a5⟩ := hx
  refine ⟨⟨?_, ?_, ?_⟩, fun a ha => ?_, fun v hv => ?_⟩
  · unfold gApp; rw [up_ne _ _ (Or.inr (by omega)), am_up_ne (by omega), am_up_ne (by omega), am_up_ne (by omega)]; exact a1
  · unfold gApp; rw [up_ne _ _ (Or.inr (by omega)), am_up_ne (by omega), am_up_ne (by omega), am_up_ne (by omega)]; exact a2
  · unfold gApp; rw [up_self]; rfl
  · have ha : a < gm G + 1 := ha
    show _ = nI (fset (gt G) (gm G) t a) ∧ _ = nI (fset (gh G) (gm G) h a) ∧ _ = nI (fset (gc G) (gm G) c a)
    have e1 : gApp I g (gm G) (nI t) (nI h) (nI c) (g + 1) = am_up I (g + 1) (gm G) (nI t) (g + 1) := by unfold gApp; rw [am_up_ne (by omega), am_up_ne (by omega), am_up_ne (by omega)]
    have e2 : ∀ j, gApp I g (gm G) (nI t) (nI h) (nI c) (g + 2) j = if j = gm G then nI h else I (g + 2) j := fun j => by
      unfold gApp; rw [am_up_ne (by omega), am_up_ne (by omega), up_row, row_self, am_up_ne (by omega)]
    have e3 : ∀ j, gApp I g (gm G) (nI t) (nI h) (nI c) (g + 3) j = if j = gm G then nI c else I (g + 3) j := fun j => by
      unfold gApp; rw [am_up_ne (by omega), up_row, row_self, am_up_ne (by omega), am_up_ne (by omega)]
    rw [e1, e2, e3]
    by_cases e : a = gm G
    · subst e; rw [fset_eq, fset_eq, fset_eq, up_self, if_pos rfl, if_pos rfl]; exact ⟨rfl, rfl, rfl⟩
    · rw [fset_ne _ _ e, fset_ne _ _ e, fset_ne _ _ e, up_ne _ _ (Or.inr e), if_neg e, if_neg e]; exact a4 a (by omega)
  · rw [gApp_ne (by omega)]; exact a5 v hv
theorem wApp_hi {w : Nat → Int32} {m j : Nat} {t h c : Int32} (hj : 99 ≤ j) (hm : m < 32) : wApp w m t h c j = w j := by
  unfold wApp; rw [fset_ne _ _ (by omega), fset_ne _ _ (by omega), fset_ne _ _ (by omega), fset_ne _ _ (by omega)]
theorem mG_app {w : Nat → Int32} {G : Gr} {t h c : Nat} (hx : mG w G) (hm : gm G < 32) : mG (wApp w (gm G) (nI t) (nI h) (nI c)) (addA G t h c) := by
  obtain ⟨⟨a1, a2, a3⟩, a4, a5⟩ := hx
  refine ⟨⟨?_, ?_, ?_⟩, fun a ha => ?_, fun v hv => ?_⟩
  · unfold wApp; rw [fset_ne _ _ (by omega), fset_ne _ _ (by omega), fset_ne _ _ (by omega), fset_ne _ _ (by omega)]; exact a1
  · unfold wApp; rw [fset_ne _ _ (by omega), fset_ne _ _ (by omega), fset_ne _ _ (by omega), fset_ne _ _ (by omega)]; exact a2
  · unfold wApp; rw [fset_eq]; rfl
  · have ha : a < gm G + 1 := ha
    show _ = nI (fset (gt G) (gm G) t a) ∧ _ = nI (fset (gh G) (gm G) h a) ∧ _ = nI (fset (gc G) (gm G) c a)
    unfold wApp
    rw [fset_ne _ _ (show 3 + a ≠ 2 by omega), fset_ne _ _ (show 35 + a ≠ 2 by omega), fset_ne _ _ (show 67 + a ≠ 2 by omega), fset_ne _ _ (show 3 + a ≠ 67 + gm G by omega), fset_ne _ _ (show 35 + a ≠ 67 + gm G by omega), fset_ne _ _ (show 3 + a ≠ 35 + gm G by omega)]
    by_cases e : a = gm G
    · subst e; rw [fset_eq, fset_eq, fset_eq, fset_eq, fset_eq, fset_eq]; exact ⟨rfl, rfl, rfl⟩
    · rw [fset_ne _ _ e, fset_ne _ _ e, fset_ne _ _ e, fset_ne _ _ (show 3 + a ≠ 3 + gm G by omega), fset_ne _ _ (show 35 + a ≠ 35 + gm G by omega), fset_ne _ _ (show 67 + a ≠ 67 + gm G by omega), fset_ne _ _ (show 35 + a ≠ 3 + gm G by omega), fset_ne _ _ (show 67 + a ≠ 35 + gm G by omega), fset_ne _ _ (show 67 + a ≠ 3 + gm G by omega)]; exact a4 a (by omega)
  · rw [wApp_hi (by omega) hm]; exact a5 v hv
theorem c_Gra_append {g m : Nat} {t h c : Int32} (hg : shG L g) (hm : m < 32) (h2 : I g 2 = nI m) : am_C (d + 1) 15 [.ref g, .int t, .int h, .int c] (cS L) I J Q = Q none (cS L) (gApp I g m t h c) J := by
  obtain ⟨a1, ⟨a2, a3, a4, a5⟩, ⟨a6, a7, a8, a9⟩, ⟨a10, a11, a12, a13⟩⟩ := hg
  rw [e15]
  have x1 : am_ixw (cS L) (g + 1) 20 (nI m) := ixw_nI a6 (by omega) a10 hm (by omega)
  have x2 : am_ixw (cS L) (g + 2) 20 (nI m) := ixw_nI a7 (by omega) a11 hm (by omega)
  have x3 : am_ixw (cS L) (g + 3) 20 (nI m) := ixw_nI a8 (by omega) a12 hm (by omega)
  simp only [r15_0, r15_1, r15_4, r15_6, r15_9, r15_10, r15_11, r15_14, r15_15, r15_18, r15_19, r15_20, r15_21, r15_24, r15_25, r15_28, r15_29, r15_30, r15_31, r15_34, r15_35, r15_38, r15_39, r15_40, r15_41, r15_42, r15_45, r15_46, r15_47, r15_50, a1, a2, a3, a4, true_and, and_true, true_or, or_true, if_true, if_false, ne_eq, not_false_eq_true, and_self, t10, am_psh, am_clr, not_true_eq_false, Nat.reduceEqDiff, h2, (show ∀ (f : am_I) (k : Nat) (x : Int32), am_up f (g + 1) k x g = f g from fun f k x => am_up_ne (by omega)), (show ∀ (f : am_I) (k : Nat) (x : Int32), am_up f (g + 2) k x g = f g from fun f k x => am_up_ne (by omega)), (show ∀ (f : am_I) (k : Nat) (x : Int32), am_up f (g + 3) k x g = f g from fun f k x => am_up_ne (by omega)), x1, x2, x3, n_cl (show m < 2 ^ 31 by omega), nI_1, Nat.add_eq_zero_iff, and_false]
  rw [if_pos (show nI m < 32 from nI_lt (b := 32) hm (by omega))]
  rfl
theorem up_fset (f : am_I) (b k : Nat) (x : Int32) : am_up f b k x = am_row f b (fset (f b) k x) := up_row f b k x
theorem c_Mod_append {m : Nat} {t h c : Int32} (hm : m < 32) (h2 : I 162 2 = nI m) : am_C (d + 1) 119 [.ref 161, .int t, .int h, .int c] (cS L) I J Q = Q none (cS L) (am_row I 162 (wApp (I 162) m t h c)) J := by
  rw [e119]
  have q1 : ∀ x, am_up I 162 (3 + m) x 162 2 = nI m := fun x => by rw [up_ne _ _ (Or.inr (by omega)), h2]
  have q2 : ∀ x y, am_up (am_up I 162 (3 + m) x) 162 (35 + m) y 162 2 = nI m := fun x y => by rw [up_ne _ _ (Or.inr (by omega)), q1]
  have q3 : ∀ x y z, am_up (am_up (am_up I 162 (3 + m) x) 162 (35 + m) y) 162 (67 + m) z 162 2 = nI m := fun x y z => by rw [up_ne _ _ (Or.inr (by omega)), q2]
  simp only [r119_0, r119_1, r119_4, r119_5, r119_6, r119_9, r119_10, r119_11, r119_12, r119_13, r119_14, r119_15, r119_18, r119_20, r119_21, r119_24, r119_25, r119_26, r119_27, r119_28, r119_29, r119_30, r119_33, r119_35, r119_36, r119_39, r119_40, r119_41, r119_42, r119_43, r119_44, r119_45, r119_48, r119_49, r119_50, r119_51, r119_52, r119_53, r119_54, s_1, s_2, s_3, s_8, s_16, s_18, s_23, s_24, s_33, s_38, s_41, s_161, f_1_0, f_1_1, f_1_4, f_1_5, f_1_8, f_1_9, f_1_10, f_1_11, f_1_12, f_1_13, f_2_0, f_2_1, f_3_3, f_3_4, f_3_5, f_3_6, f_8_2, f_8_3, f_8_4, f_8_5, f_16_2, f_18_3, f_18_4, f_18_5, f_18_6, f_23_0, f_23_1, f_23_2, f_23_3, f_23_4, f_24_2, f_24_3, f_24_4, f_24_5, f_33_3, f_33_4, f_33_5, f_33_6, f_38_1, f_38_2, f_41_0, f_161_0, f_161_1, f_161_3, f_161_7, f_161_12, f_161_13, f_161_14, f_161_15, f_161_16, f_161_17, f_161_18, f_161_19, f_161_21, f_161_22, f_161_25, true_and, and_true, true_or, or_true, if_true, if_false, ne_eq, not_false_eq_true, and_self, t10, am_psh, am_clr, not_true_eq_false, Nat.reduceEqDiff, show am_ix (cS L) 162 20 2 from mx 2 (by omega), show am_ixw (cS L) 162 20 2 from mw 2 (by omega), show (2 : Int32).toNatClampNeg = 2 from by decide, h2, show (3 : Int32) + nI m = nI (3 + m) from nI_add 3 m, show (35 : Int32) + nI m = nI (35 + m) from nI_add 35 m, show (67 : Int32) + nI m = nI (67 + m) from nI_add 67 m, mw (L := L) (3 + m) (by omega), mw (L := L) (35 + m) (by omega), mw (L := L) (67 + m) (by omega), n_cl (show 3 + m < 2 ^ 31 by omega), n_cl (show 35 + m < 2 ^ 31 by omega), n_cl (show 67 + m < 2 ^ 31 by omega), q1, q2, q3, nI_1]
  simp only [up_fset, row_row, am_row_eq]
  rfl
theorem xS_z {s : St} {G' : Gr} {z : Int32} (h : xS I 3 8 s) (hG : xG I' 3 G') (hn : gn G' = gn s.1) (hr : gr G' = gr s.1) (h0 : I' 8 0 = if z = 0 then 0 else I 8 0) (h1 : ∀ j, j ≠ 0 → I' 8 j = I 8 j) (hq : ∀ b, 9 ≤ b → b ≤ 12 → I' b = I b) : xS I' 3 8 (G', if z = 0 then none else s.2) := by
  by_cases e : z = 0
  · rw [if_pos e]; rw [if_pos e] at h0; exact ⟨hG, h0⟩
  · rw [if_neg e]; rw [if_neg e] at h0
    refine xS_rec h hG hn hr (fun b b1 b2 => ?_)
    by_cases e8 : b = 8
    · subst e8
      funext j
      by_cases ej : j = 0
      · subst ej; exact h0
      · exact h1 j ej
    · exact hq b (by omega) (by omega)
theorem mS_z {w w' : Nat → Int32} {s : St} {G' : Gr} {z : Int32} (hok : okS s) (h : mS w s) (hG : mG w' G') (hn : gn G' = gn s.1) (hr : gr G' = gr s.1) (h0 : w' 107 = if z = 0 then 0 else w 107) (hq : ∀ j, 108 ≤ j → j < 165 → w' j = w j) : mS w' (G', if z = 0 then none else s.2) := by
  by_cases e : z = 0
  · rw [if_pos e]; rw [if_pos e] at h0; exact ⟨hG, h0⟩
  · rw [if_neg e]; rw [if_neg e] at h0
    refine mS_rec hok h hG hn hr (fun j b1 b2 => ?_)
    by_cases e8 : j = 107
    · subst e8; exact h0
    · exact hq j (by omega) b2
set_option maxHeartbeats 4000000 in
theorem op_addArc (x y z : Int32) : am_OK L Inv 59 120 [.int x, .int y, .int z] := by
  intro I J hI
  have hI0 := hI
  obtain ⟨s, hs, s0, s1, n, tx, hok, hx, hm, hl, hh, hsl, hru, htx⟩ := hI
  obtain ⟨hO, hhM, o, ho, hhX⟩ := xH_iff.mp hh
  have hn := hok.1.1.2.1
  have hm32 := hok.1.1.2.2.2
  rcases in_or_out x (n := gn s.1) (by omega) with hv | ⟨v, hv, rfl⟩
  · refine ok_same hI0 (x := -101) (fun Q => ?_) (fun Q => ?_)
    · rw [e59]; simp only [r59_0, r59_1, r59_4, r59_7, r59_9, r59_11, r59_12, r59_15, r59_18, r59_20, r59_21, r59_24, r59_27, r59_28, r59_29, r59_32, r59_34, r59_35, r59_36, r59_39, r59_40, r59_42, r59_45, r59_47, r59_48, r59_50, r59_53, r59_55, r59_58, r59_60, r59_61, r59_62, r59_65, r59_67, r59_70, r59_72, r59_74, r59_75, r59_76, r59_77, r59_80, r59_81, r59_82, r59_85, r59_88, r59_90, r59_92, r59_95, r59_98, r59_100, s_1, s_2, s_3, s_8, s_16, s_18, s_23, s_24, s_33, s_38, s_41, s_161, f_1_0, f_1_1, f_1_4, f_1_5, f_1_8, f_1_9, f_1_10, f_1_11, f_1_12, f_1_13, f_2_0, f_2_1, f_3_3, f_3_4, f_3_5, f_3_6, f_8_2, f_8_3, f_8_4, f_8_5, f_16_2, f_18_3, f_18_4, f_18_5, f_18_6, f_23_0, f_23_1, f_23_2, f_23_3, f_23_4, f_24_2, f_24_3, f_24_4, f_24_5, f_33_3, f_33_4, f_33_5, f_33_6, f_38_1, f_38_2, f_41_0, f_161_0, f_161_1, f_161_3, f_161_7, f_161_12, f_161_13, f_161_14, f_161_15, f_161_16, f_161_17, f_161_18, f_161_19, f_161_21, f_161_22, f_161_25, true_and, and_true, true_or, or_true, if_true, if_false, ne_eq, not_false_eq_true, and_self, t10, am_psh, am_clr, not_true_eq_false, Nat.reduceEqDiff]
      rw [c_hasNode_out hx.1.1.1 hv]; simp only [r59_0, r59_1, r59_4, r59_7, r59_9, r59_11, r59_12, r59_15, r59_18, r59_20, r59_21, r59_24, r59_27, r59_28, r59_29, r59_32, r59_34, r59_35, r59_36, r59_39, r59_40, r59_42, r59_45, r59_47, r59_48, r59_50, r59_53, r59_55, r59_58, r59_60, r59_61, r59_62, r59_65, r59_67, r59_70, r59_72, r59_74, r59_75, r59_76, r59_77, r59_80, r59_81, r59_82, r59_85, r59_88, r59_90, r59_92, r59_95, r59_98, r59_100, true_and, and_true, true_or, or_true, if_true, if_false, ne_eq, not_false_eq_true, and_self, t10, am_psh, am_clr, not_true_eq_false, Nat.reduceEqDiff]
    · rw [e120]; simp only [r120_0, r120_1, r120_2, r120_5, r120_8, r120_9, r120_10, r120_13, r120_16, r120_17, r120_18, r120_21, r120_23, r120_24, r120_25, r120_26, r120_28, r120_31, r120_34, r120_36, r120_37, r120_38, r120_41, r120_42, r120_43, r120_45, r120_48, r120_50, r120_51, r120_52, r120_55, r120_56, r120_57, r120_58, r120_59, r120_62, r120_63, r120_64, r120_67, r120_69, r120_70, r120_71, r120_74, r120_75, r120_76, r120_79, r120_80, r120_81, r120_82, r120_83, r120_86, r120_89, r120_90, r120_93, r120_94, r120_97, r120_98, r120_101, r120_102, r120_103, r120_104, r120_105, s_1, s_2, s_3, s_8, s_16, s_18, s_23, s_24, s_33, s_38, s_41, s_161, f_1_0, f_1_1, f_1_4, f_1_5, f_1_8, f_1_9, f_1_10, f_1_11, f_1_12, f_1_13, f_2_0, f_2_1, f_3_3, f_3_4, f_3_5, f_3_6, f_8_2, f_8_3, f_8_4, f_8_5, f_16_2, f_18_3, f_18_4, f_18_5, f_18_6, f_23_0, f_23_1, f_23_2, f_23_3, f_23_4, f_24_2, f_24_3, f_24_4, f_24_5, f_33_3, f_33_4, f_33_5, f_33_6, f_38_1, f_38_2, f_41_0, f_161_0, f_161_1, f_161_3, f_161_7, f_161_12, f_161_13, f_161_14, f_161_15, f_161_16, f_161_17, f_161_18, f_161_19, f_161_21, f_161_22, f_161_25, true_and, and_true, true_or, or_true, if_true, if_false, ne_eq, not_false_eq_true, and_self, t10, am_psh, am_clr, not_true_eq_false, Nat.reduceEqDiff]
      rw [c_isNode_out hm.1.1.1 hn hv]; simp only [r120_0, r120_1, r120_2, r120_5, r120_8, r120_9, r120_10, r120_13, r120_16, r120_17, r120_18, r120_21, r120_23, r120_24, r120_25, r120_26, r120_28, r120_31, r120_34, r120_36, r120_37, r120_38, r120_41, r120_42, r120_43, r120_45, r120_48, r120_50, r120_51, r120_52, r120_55, r120_56, r120_57, r120_58, r120_59, r120_62, r120_63, r120_64, r120_67, r120_69, r120_70, r120_71, r120_74, r120_75, r120_76, r120_79, r120_80, r120_81, r120_82, r120_83, r120_86, r120_89, r120_90, r120_93, r120_94, r120_97, r120_98, r120_101, r120_102, r120_103, r120_104, r120_105, true_and, and_true, true_or, or_true, if_true, if_false, ne_eq, not_false_eq_true, and_self, t10, am_psh, am_clr, not_true_eq_false, Nat.reduceEqDiff]
  rcases in_or_out y (n := gn s.1) (by omega) with hu | ⟨u, hu, rfl⟩
  · refine ok_same hI0 (x := -101) (fun Q => ?_) (fun Q => ?_)
    · rw [e59]; simp only [r59_0, r59_1, r59_4, r59_7, r59_9, r59_11, r59_12, r59_15, r59_18, r59_20, r59_21, r59_24, r59_27, r59_28, r59_29, r59_32, r59_34, r59_35, r59_36, r59_39, r59_40, r59_42, r59_45, r59_47, r59_48, r59_50, r59_53, r59_55, r59_58, r59_60, r59_61, r59_62, r59_65, r59_67, r59_70, r59_72, r59_74, r59_75, r59_76, r59_77, r59_80, r59_81, r59_82, r59_85, r59_88, r59_90, r59_92, r59_95, r59_98, r59_100, s_1, s_2, s_3, s_8, s_16, s_18, s_23, s_24, s_33, s_38, s_41, s_161, f_1_0, f_1_1, f_1_4, f_1_5, f_1_8, f_1_9, f_1_10, f_1_11, f_1_12, f_1_13, f_2_0, f_2_1, f_3_3, f_3_4, f_3_5, f_3_6, f_8_2, f_8_3, f_8_4, f_8_5, f_16_2, f_18_3, f_18_4, f_18_5, f_18_6, f_23_0, f_23_1, f_23_2, f_23_3, f_23_4, f_24_2, f_24_3, f_24_4, f_24_5, f_33_3, f_33_4, f_33_5, f_33_6, f_38_1, f_38_2, f_41_0, f_161_0, f_161_1, f_161_3, f_161_7, f_161_12, f_161_13, f_161_14, f_161_15, f_161_16, f_161_17, f_161_18, f_161_19, f_161_21, f_161_22, f_161_25, true_and, and_true, true_or, or_true, if_true, if_false, ne_eq, not_false_eq_true, and_self, t10, am_psh, am_clr, not_true_eq_false, Nat.reduceEqDiff]
      rw [c_hasNode_in hx.1.1.1 hn hv]; simp only [r59_0, r59_1, r59_4, r59_7, r59_9, r59_11, r59_12, r59_15, r59_18, r59_20, r59_21, r59_24, r59_27, r59_28, r59_29, r59_32, r59_34, r59_35, r59_36, r59_39, r59_40, r59_42, r59_45, r59_47, r59_48, r59_50, r59_53, r59_55, r59_58, r59_60, r59_61, r59_62, r59_65, r59_67, r59_70, r59_72, r59_74, r59_75, r59_76, r59_77, r59_80, r59_81, r59_82, r59_85, r59_88, r59_90, r59_92, r59_95, r59_98, r59_100, s_1, s_2, s_3, s_8, s_16, s_18, s_23, s_24, s_33, s_38, s_41, s_161, f_1_0, f_1_1, f_1_4, f_1_5, f_1_8, f_1_9, f_1_10, f_1_11, f_1_12, f_1_13, f_2_0, f_2_1, f_3_3, f_3_4, f_3_5, f_3_6, f_8_2, f_8_3, f_8_4, f_8_5, f_16_2, f_18_3, f_18_4, f_18_5, f_18_6, f_23_0, f_23_1, f_23_2, f_23_3, f_23_4, f_24_2, f_24_3, f_24_4, f_24_5, f_33_3, f_33_4, f_33_5, f_33_6, f_38_1, f_38_2, f_41_0, f_161_0, f_161_1, f_161_3, f_161_7, f_161_12, f_161_13, f_161_14, f_161_15, f_161_16, f_161_17, f_161_18, f_161_19, f_161_21, f_161_22, f_161_25, true_and, and_true, true_or, or_true, if_true, if_false, ne_eq, not_false_eq_true, and_self, t10, am_psh, am_clr, not_true_eq_false, Nat.reduceEqDiff]
      rw [c_hasNode_out hx.1.1.1 hu]; simp only [r59_0, r59_1, r59_4, r59_7, r59_9, r59_11, r59_12, r59_15, r59_18, r59_20, r59_21, r59_24, r59_27, r59_28, r59_29, r59_32, r59_34, r59_35, r59_36, r59_39, r59_40, r59_42, r59_45, r59_47, r59_48, r59_50, r59_53, r59_55, r59_58, r59_60, r59_61, r59_62, r59_65, r59_67, r59_70, r59_72, r59_74, r59_75, r59_76, r59_77, r59_80, r59_81, r59_82, r59_85, r59_88, r59_90, r59_92, r59_95, r59_98, r59_100, true_and, and_true, true_or, or_true, if_true, if_false, ne_eq, not_false_eq_true, and_self, t10, am_psh, am_clr, not_true_eq_false, Nat.reduceEqDiff]
    · rw [e120]; simp only [r120_0, r120_1, r120_2, r120_5, r120_8, r120_9, r120_10, r120_13, r120_16, r120_17, r120_18, r120_21, r120_23, r120_24, r120_25, r120_26, r120_28, r120_31, r120_34, r120_36, r120_37, r120_38, r120_41, r120_42, r120_43, r120_45, r120_48, r120_50, r120_51, r120_52, r120_55, r120_56, r120_57, r120_58, r120_59, r120_62, r120_63, r120_64, r120_67, r120_69, r120_70, r120_71, r120_74, r120_75, r120_76, r120_79, r120_80, r120_81, r120_82, r120_83, r120_86, r120_89, r120_90, r120_93, r120_94, r120_97, r120_98, r120_101, r120_102, r120_103, r120_104, r120_105, s_1, s_2, s_3, s_8, s_16, s_18, s_23, s_24, s_33, s_38, s_41, s_161, f_1_0, f_1_1, f_1_4, f_1_5, f_1_8, f_1_9, f_1_10, f_1_11, f_1_12, f_1_13, f_2_0, f_2_1, f_3_3, f_3_4, f_3_5, f_3_6, f_8_2, f_8_3, f_8_4, f_8_5, f_16_2, f_18_3, f_18_4, f_18_5, f_18_6, f_23_0, f_23_1, f_23_2, f_23_3, f_23_4, f_24_2, f_24_3, f_24_4, f_24_5, f_33_3, f_33_4, f_33_5, f_33_6, f_38_1, f_38_2, f_41_0, f_161_0, f_161_1, f_161_3, f_161_7, f_161_12, f_161_13, f_161_14, f_161_15, f_161_16, f_161_17, f_161_18, f_161_19, f_161_21, f_161_22, f_161_25, true_and, and_true, true_or, or_true, if_true, if_false, ne_eq, not_false_eq_true, and_self, t10, am_psh, am_clr, not_true_eq_false, Nat.reduceEqDiff]
      rw [c_isNode_in hm.1.1.1 hn hv]; simp only [r120_0, r120_1, r120_2, r120_5, r120_8, r120_9, r120_10, r120_13, r120_16, r120_17, r120_18, r120_21, r120_23, r120_24, r120_25, r120_26, r120_28, r120_31, r120_34, r120_36, r120_37, r120_38, r120_41, r120_42, r120_43, r120_45, r120_48, r120_50, r120_51, r120_52, r120_55, r120_56, r120_57, r120_58, r120_59, r120_62, r120_63, r120_64, r120_67, r120_69, r120_70, r120_71, r120_74, r120_75, r120_76, r120_79, r120_80, r120_81, r120_82, r120_83, r120_86, r120_89, r120_90, r120_93, r120_94, r120_97, r120_98, r120_101, r120_102, r120_103, r120_104, r120_105, s_1, s_2, s_3, s_8, s_16, s_18, s_23, s_24, s_33, s_38, s_41, s_161, f_1_0, f_1_1, f_1_4, f_1_5, f_1_8, f_1_9, f_1_10, f_1_11, f_1_12, f_1_13, f_2_0, f_2_1, f_3_3, f_3_4, f_3_5, f_3_6, f_8_2, f_8_3, f_8_4, f_8_5, f_16_2, f_18_3, f_18_4, f_18_5, f_18_6, f_23_0, f_23_1, f_23_2, f_23_3, f_23_4, f_24_2, f_24_3, f_24_4, f_24_5, f_33_3, f_33_4, f_33_5, f_33_6, f_38_1, f_38_2, f_41_0, f_161_0, f_161_1, f_161_3, f_161_7, f_161_12, f_161_13, f_161_14, f_161_15, f_161_16, f_161_17, f_161_18, f_161_19, f_161_21, f_161_22, f_161_25, true_and, and_true, true_or, or_true, if_true, if_false, ne_eq, not_false_eq_true, and_self, t10, am_psh, am_clr, not_true_eq_false, Nat.reduceEqDiff]
      rw [c_isNode_out hm.1.1.1 hn hu]; simp only [r120_0, r120_1, r120_2, r120_5, r120_8, r120_9, r120_10, r120_13, r120_16, r120_17, r120_18, r120_21, r120_23, r120_24, r120_25, r120_26, r120_28, r120_31, r120_34, r120_36, r120_37, r120_38, r120_41, r120_42, r120_43, r120_45, r120_48, r120_50, r120_51, r120_52, r120_55, r120_56, r120_57, r120_58, r120_59, r120_62, r120_63, r120_64, r120_67, r120_69, r120_70, r120_71, r120_74, r120_75, r120_76, r120_79, r120_80, r120_81, r120_82, r120_83, r120_86, r120_89, r120_90, r120_93, r120_94, r120_97, r120_98, r120_101, r120_102, r120_103, r120_104, r120_105, true_and, and_true, true_or, or_true, if_true, if_false, ne_eq, not_false_eq_true, and_self, t10, am_psh, am_clr, not_true_eq_false, Nat.reduceEqDiff]
  have pX : ∀ Q : am_Q, am_C 40 59 [.ref 1, .int (nI v), .int (nI u), .int z] (cS L) I J Q = if nI v = nI u then Q (some (.int (-101))) (cS L) I J else am_T 39 59 35 [some (.ref 1), some (.int (nI v)), some (.int (nI u)), some (.int z), some (.ref 3), none] [] (cS L) I J Q := fun Q => by
    rw [e59]; simp only [r59_0, r59_1, r59_4, r59_7, r59_9, r59_11, r59_12, r59_15, r59_18, r59_20, r59_21, r59_24, r59_27, r59_28, r59_29, r59_32, r59_34, s_1, s_2, s_3, s_8, s_16, s_18, s_23, s_24, s_33, s_38, s_41, s_161, f_1_0, f_1_1, f_1_4, f_1_5, f_1_8, f_1_9, f_1_10, f_1_11, f_1_12, f_1_13, f_2_0, f_2_1, f_3_3, f_3_4, f_3_5, f_3_6, f_8_2, f_8_3, f_8_4, f_8_5, f_16_2, f_18_3, f_18_4, f_18_5, f_18_6, f_23_0, f_23_1, f_23_2, f_23_3, f_23_4, f_24_2, f_24_3, f_24_4, f_24_5, f_33_3, f_33_4, f_33_5, f_33_6, f_38_1, f_38_2, f_41_0, f_161_0, f_161_1, f_161_3, f_161_7, f_161_12, f_161_13, f_161_14, f_161_15, f_161_16, f_161_17, f_161_18, f_161_19, f_161_21, f_161_22, f_161_25, true_and, and_true, true_or, or_true, if_true, if_false, ne_eq, not_false_eq_true, and_self, t10, am_psh, am_clr, not_true_eq_false, Nat.reduceEqDiff]
    rw [c_hasNode_in hx.1.1.1 hn hv]; simp only [r59_0, r59_1, r59_4, r59_7, r59_9, r59_11, r59_12, r59_15, r59_18, r59_20, r59_21, r59_24, r59_27, r59_28, r59_29, r59_32, r59_34, s_1, s_2, s_3, s_8, s_16, s_18, s_23, s_24, s_33, s_38, s_41, s_161, f_1_0, f_1_1, f_1_4, f_1_5, f_1_8, f_1_9, f_1_10, f_1_11, f_1_12, f_1_13, f_2_0, f_2_1, f_3_3, f_3_4, f_3_5, f_3_6, f_8_2, f_8_3, f_8_4, f_8_5, f_16_2, f_18_3, f_18_4, f_18_5, f_18_6, f_23_0, f_23_1, f_23_2, f_23_3, f_23_4, f_24_2, f_24_3, f_24_4, f_24_5, f_33_3, f_33_4, f_33_5, f_33_6, f_38_1, f_38_2, f_41_0, f_161_0, f_161_1, f_161_3, f_161_7, f_161_12, f_161_13, f_161_14, f_161_15, f_161_16, f_161_17, f_161_18, f_161_19, f_161_21, f_161_22, f_161_25, true_and, and_true, true_or, or_true, if_true, if_false, ne_eq, not_false_eq_true, and_self, t10, am_psh, am_clr, not_true_eq_false, Nat.reduceEqDiff]
    rw [c_hasNode_in hx.1.1.1 hn hu]; simp only [r59_0, r59_1, r59_4, r59_7, r59_9, r59_11, r59_12, r59_15, r59_18, r59_20, r59_21, r59_24, r59_27, r59_28, r59_29, r59_32, r59_34, s_1, s_2, s_3, s_8, s_16, s_18, s_23, s_24, s_33, s_38, s_41, s_161, f_1_0, f_1_1, f_1_4, f_1_5, f_1_8, f_1_9, f_1_10, f_1_11, f_1_12, f_1_13, f_2_0, f_2_1, f_3_3, f_3_4, f_3_5, f_3_6, f_8_2, f_8_3, f_8_4, f_8_5, f_16_2, f_18_3, f_18_4, f_18_5, f_18_6, f_23_0, f_23_1, f_23_2, f_23_3, f_23_4, f_24_2, f_24_3, f_24_4, f_24_5, f_33_3, f_33_4, f_33_5, f_33_6, f_38_1, f_38_2, f_41_0, f_161_0, f_161_1, f_161_3, f_161_7, f_161_12, f_161_13, f_161_14, f_161_15, f_161_16, f_161_17, f_161_18, f_161_19, f_161_21, f_161_22, f_161_25, true_and, and_true, true_or, or_true, if_true, if_false, ne_eq, not_false_eq_true, and_self, t10, am_psh, am_clr, not_true_eq_false, Nat.reduceEqDiff]
    by_cases e : nI v = nI u
    · simp only [e, if_true, ne_eq, not_true_eq_false, if_false]
    · simp only [e, if_true, ne_eq, not_false_eq_true, if_false]
  have pM : ∀ (I1 : am_I) (J1 : am_J), I1 162 = I 162 → ∀ Q : am_Q, am_C 40 120 [.ref 161, .int (nI v), .int (nI u), .int z] (cS L) I1 J1 Q = if nI v = nI u then Q (some (.int (-101))) (cS L) I1 J1 else am_T 39 120 24 [some (.ref 161), some (.int (nI v)), some (.int (nI u)), some (.int z)] [] (cS L) I1 J1 Q := fun I1 J1 h1 Q => by
    rw [e120]; simp only [r120_0, r120_1, r120_2, r120_5, r120_8, r120_9, r120_10, r120_13, r120_16, r120_17, r120_18, r120_21, r120_23, s_1, s_2, s_3, s_8, s_16, s_18, s_23, s_24, s_33, s_38, s_41, s_161, f_1_0, f_1_1, f_1_4, f_1_5, f_1_8, f_1_9, f_1_10, f_1_11, f_1_12, f_1_13, f_2_0, f_2_1, f_3_3, f_3_4, f_3_5, f_3_6, f_8_2, f_8_3, f_8_4, f_8_5, f_16_2, f_18_3, f_18_4, f_18_5, f_18_6, f_23_0, f_23_1, f_23_2, f_23_3, f_23_4, f_24_2, f_24_3, f_24_4, f_24_5, f_33_3, f_33_4, f_33_5, f_33_6, f_38_1, f_38_2, f_41_0, f_161_0, f_161_1, f_161_3, f_161_7, f_161_12, f_161_13, f_161_14, f_161_15, f_161_16, f_161_17, f_161_18, f_161_19, f_161_21, f_161_22, f_161_25, true_and, and_true, true_or, or_true, if_true, if_false, ne_eq, not_false_eq_true, and_self, t10, am_psh, am_clr, not_true_eq_false, Nat.reduceEqDiff]
    rw [c_isNode_in (by rw [h1]; exact hm.1.1.1) hn hv]; simp only [r120_0, r120_1, r120_2, r120_5, r120_8, r120_9, r120_10, r120_13, r120_16, r120_17, r120_18, r120_21, r120_23, s_1, s_2, s_3, s_8, s_16, s_18, s_23, s_24, s_33, s_38, s_41, s_161, f_1_0, f_1_1, f_1_4, f_1_5, f_1_8, f_1_9, f_1_10, f_1_11, f_1_12, f_1_13, f_2_0, f_2_1, f_3_3, f_3_4, f_3_5, f_3_6, f_8_2, f_8_3, f_8_4, f_8_5, f_16_2, f_18_3, f_18_4, f_18_5, f_18_6, f_23_0, f_23_1, f_23_2, f_23_3, f_23_4, f_24_2, f_24_3, f_24_4, f_24_5, f_33_3, f_33_4, f_33_5, f_33_6, f_38_1, f_38_2, f_41_0, f_161_0, f_161_1, f_161_3, f_161_7, f_161_12, f_161_13, f_161_14, f_161_15, f_161_16, f_161_17, f_161_18, f_161_19, f_161_21, f_161_22, f_161_25, true_and, and_true, true_or, or_true, if_true, if_false, ne_eq, not_false_eq_true, and_self, t10, am_psh, am_clr, not_true_eq_false, Nat.reduceEqDiff]
    rw [c_isNode_in (by rw [h1]; exact hm.1.1.1) hn hu]; simp only [r120_0, r120_1, r120_2, r120_5, r120_8, r120_9, r120_10, r120_13, r120_16, r120_17, r120_18, r120_21, r120_23, s_1, s_2, s_3, s_8, s_16, s_18, s_23, s_24, s_33, s_38, s_41, s_161, f_1_0, f_1_1, f_1_4, f_1_5, f_1_8, f_1_9, f_1_10, f_1_11, f_1_12, f_1_13, f_2_0, f_2_1, f_3_3, f_3_4, f_3_5, f_3_6, f_8_2, f_8_3, f_8_4, f_8_5, f_16_2, f_18_3, f_18_4, f_18_5, f_18_6, f_23_0, f_23_1, f_23_2, f_23_3, f_23_4, f_24_2, f_24_3, f_24_4, f_24_5, f_33_3, f_33_4, f_33_5, f_33_6, f_38_1, f_38_2, f_41_0, f_161_0, f_161_1, f_161_3, f_161_7, f_161_12, f_161_13, f_161_14, f_161_15, f_161_16, f_161_17, f_161_18, f_161_19, f_161_21, f_161_22, f_161_25, true_and, and_true, true_or, or_true, if_true, if_false, ne_eq, not_false_eq_true, and_self, t10, am_psh, am_clr, not_true_eq_false, Nat.reduceEqDiff]
    by_cases e : nI v = nI u
    · simp only [e, if_true, ne_eq, not_true_eq_false, if_false]
    · simp only [e, if_true, ne_eq, not_false_eq_true, if_false]
  by_cases hvu : v = u
  · refine ok_same hI0 (x := -101) (fun Q => ?_) (fun Q => ?_)
    · rw [pX, if_pos (by rw [hvu])]
    · rw [pM I J rfl, if_pos (by rw [hvu])]
  have hvu' : ¬ nI v = nI u := fun q => hvu ((nI_eq (by omega) (by omega)).mp q)
  rcases rng z 0 99 (by omega) (by omega) with hz | ⟨c, -, hc, rfl⟩
  · refine ok_same hI0 (x := -103) (fun Q => ?_) (fun Q => ?_)
    · rw [pX, if_neg hvu']; simp only [r59_35, r59_36, r59_39, r59_40, r59_42, r59_45, r59_47]
      rcases hz with g | ⟨g1, g2⟩
      · rw [if_pos (show z < 0 from g)]
      · rw [if_neg (show ¬ z < 0 from g1), if_neg (show ¬ z ≤ 99 from nle_of_lt g2)]
    · rw [pM I J rfl, if_neg hvu']; simp only [r120_24, r120_25, r120_26, r120_28, r120_31, r120_34, r120_36, c_isIn, am_psh]
      rcases hz with g | ⟨g1, g2⟩
      · rw [if_pos (show z < 0 from g)]; simp only [r120_24, r120_25, r120_26, r120_28, r120_31, r120_34, r120_36, true_and, and_true, true_or, or_true, if_true, if_false, ne_eq, not_false_eq_true, and_self, t10, am_psh, am_clr, not_true_eq_false, Nat.reduceEqDiff]
      · rw [if_neg (show ¬ z < 0 from g1), if_pos (show 99 < z from g2)]; simp only [r120_24, r120_25, r120_26, r120_28, r120_31, r120_34, r120_36, true_and, and_true, true_or, or_true, if_true, if_false, ne_eq, not_false_eq_true, and_self, t10, am_psh, am_clr, not_true_eq_false, Nat.reduceEqDiff]
  have b1 : ¬ nI c < 0 := nI_pos (by omega)
  have b2 : nI c ≤ 99 := (nI_leI (b := 99) (by omega) (by omega)).mpr hc
  have b3 : ¬ 99 < nI c := Int32.not_lt.mpr b2
  by_cases hmm : gm s.1 = 32
  · refine ok_same hI0 (x := -104) (fun Q => ?_) (fun Q => ?_)
    · rw [pX, if_neg hvu']; simp only [r59_35, r59_36, r59_39, r59_40, r59_42, r59_45, r59_47, r59_48, r59_50, r59_53, r59_55, r59_58, r59_60, s_1, s_2, s_3, s_8, s_16, s_18, s_23, s_24, s_33, s_38, s_41, s_161, f_1_0, f_1_1, f_1_4, f_1_5, f_1_8, f_1_9, f_1_10, f_1_11, f_1_12, f_1_13, f_2_0, f_2_1, f_3_3, f_3_4, f_3_5, f_3_6, f_8_2, f_8_3, f_8_4, f_8_5, f_16_2, f_18_3, f_18_4, f_18_5, f_18_6, f_23_0, f_23_1, f_23_2, f_23_3, f_23_4, f_24_2, f_24_3, f_24_4, f_24_5, f_33_3, f_33_4, f_33_5, f_33_6, f_38_1, f_38_2, f_41_0, f_161_0, f_161_1, f_161_3, f_161_7, f_161_12, f_161_13, f_161_14, f_161_15, f_161_16, f_161_17, f_161_18, f_161_19, f_161_21, f_161_22, f_161_25, true_and, and_true, true_or, or_true, if_true, if_false, ne_eq, not_false_eq_true, and_self, t10, am_psh, am_clr, not_true_eq_false, Nat.reduceEqDiff, hx.1.1.2.2, hmm]
      rw [if_neg b1, if_pos b2, if_neg (by decide)]
    · rw [pM I J rfl, if_neg hvu']; simp only [r120_24, r120_25, r120_26, r120_28, r120_31, r120_34, r120_36, r120_37, r120_38, r120_41, r120_42, r120_43, r120_45, r120_48, r120_50, c_isIn, s_1, s_2, s_3, s_8, s_16, s_18, s_23, s_24, s_33, s_38, s_41, s_161, f_1_0, f_1_1, f_1_4, f_1_5, f_1_8, f_1_9, f_1_10, f_1_11, f_1_12, f_1_13, f_2_0, f_2_1, f_3_3, f_3_4, f_3_5, f_3_6, f_8_2, f_8_3, f_8_4, f_8_5, f_16_2, f_18_3, f_18_4, f_18_5, f_18_6, f_23_0, f_23_1, f_23_2, f_23_3, f_23_4, f_24_2, f_24_3, f_24_4, f_24_5, f_33_3, f_33_4, f_33_5, f_33_6, f_38_1, f_38_2, f_41_0, f_161_0, f_161_1, f_161_3, f_161_7, f_161_12, f_161_13, f_161_14, f_161_15, f_161_16, f_161_17, f_161_18, f_161_19, f_161_21, f_161_22, f_161_25, true_and, and_true, true_or, or_true, if_true, if_false, ne_eq, not_false_eq_true, and_self, t10, am_psh, am_clr, not_true_eq_false, Nat.reduceEqDiff]
      rw [if_neg b1, if_neg b3]; simp only [r120_24, r120_25, r120_26, r120_28, r120_31, r120_34, r120_36, r120_37, r120_38, r120_41, r120_42, r120_43, r120_45, r120_48, r120_50, s_1, s_2, s_3, s_8, s_16, s_18, s_23, s_24, s_33, s_38, s_41, s_161, f_1_0, f_1_1, f_1_4, f_1_5, f_1_8, f_1_9, f_1_10, f_1_11, f_1_12, f_1_13, f_2_0, f_2_1, f_3_3, f_3_4, f_3_5, f_3_6, f_8_2, f_8_3, f_8_4, f_8_5, f_16_2, f_18_3, f_18_4, f_18_5, f_18_6, f_23_0, f_23_1, f_23_2, f_23_3, f_23_4, f_24_2, f_24_3, f_24_4, f_24_5, f_33_3, f_33_4, f_33_5, f_33_6, f_38_1, f_38_2, f_41_0, f_161_0, f_161_1, f_161_3, f_161_7, f_161_12, f_161_13, f_161_14, f_161_15, f_161_16, f_161_17, f_161_18, f_161_19, f_161_21, f_161_22, f_161_25, true_and, and_true, true_or, or_true, if_true, if_false, ne_eq, not_false_eq_true, and_self, t10, am_psh, am_clr, not_true_eq_false, Nat.reduceEqDiff, show am_ix (cS L) 162 20 2 from mx 2 (by omega), show (2 : Int32).toNatClampNeg = 2 from by decide, hm.1.1.2.2, hmm]
      rw [if_pos (by rfl)]
  have hm31 : gm s.1 < 32 := by omega
  obtain ⟨I1, o1, k1, k2, k3, k4, k5, k6, k7⟩ := c_keep (d := 35) (L := L) (J := J) hok hx ho hhX hO.1
  have e3 : ∀ b, 3 ≤ b → b ≤ 12 → I1 b = I b := fun b b1 b2 => k4 b (by omega) (by omega) (by omega)
  have hxG1 : xG I1 3 s.1 := by
    have := hx.1
    unfold xG at this ⊢
    rw [e3 3 (by omega) (by omega), e3 (3 + 1) (by omega) (by omega), e3 (3 + 2) (by omega) (by omega), e3 (3 + 3) (by omega) (by omega), e3 (3 + 4) (by omega) (by omega)]; exact this
  have hxA : xG (gApp I1 3 (gm s.1) (nI v) (nI u) (nI c)) 3 (addA s.1 v u c) := xG_app hxG1
  have a8 : ∀ b, 7 ≤ b → gApp I1 3 (gm s.1) (nI v) (nI u) (nI c) b = I1 b := fun b hb => gApp_ne (by omega)
  have hxg : xG (gApp I1 3 (gm s.1) (nI v) (nI u) (nI c)) 3 (addA s.1 v u c) := hxA
  have hA := hxA.2.1 (gm s.1) (Nat.lt_succ_self _)
  have hA1 : gApp I1 3 (gm s.1) (nI v) (nI u) (nI c) 4 (gm s.1) = nI v := hA.1.trans (by show nI (fset _ _ _ _) = _; rw [fset_eq])
  have hA2 : gApp I1 3 (gm s.1) (nI v) (nI u) (nI c) 5 (gm s.1) = nI u := hA.2.1.trans (by show nI (fset _ _ _ _) = _; rw [fset_eq])
  have hA3 : gApp I1 3 (gm s.1) (nI v) (nI u) (nI c) 6 (gm s.1) = nI c := hA.2.2.trans (by show nI (fset _ _ _ _) = _; rw [fset_eq])
  -- whether the record stays
  have hst : ∃ r : Int32, (r = 0 ∨ r = 1) ∧ (r ≠ 0 → ∃ R, s.2 = some R) ∧ (∀ Q : am_Q, am_C 39 34 [.ref 8, .ref 3, .int (nI (gm s.1))] (cS L) (gApp I1 3 (gm s.1) (nI v) (nI u) (nI c)) J Q = Q (some (.int r)) (cS L) (gApp I1 3 (gm s.1) (nI v) (nI u) (nI c)) J) ∧ ∀ (I3 : am_I) (J3 : am_J) (Q : am_Q) (ls : am_L), I3 162 = wApp (I 162) (gm s.1) (nI v) (nI u) (nI c) → am_T 39 120 63 (some (.ref 161) :: ls) [.ref 161] (cS L) I3 J3 Q = am_T 39 120 94 (some (.ref 161) :: ls) [.int r, .ref 161] (cS L) I3 J3 Q := by
    have hF : ∀ (I3 : am_I), I3 162 = wApp (I 162) (gm s.1) (nI v) (nI u) (nI c) → I3 162 107 = I 162 107 := fun I3 h => by rw [h, wApp_hi (by omega) hm31]
    obtain ⟨G, oR⟩ := s
    cases oR with
    | none =>
      have z8 : I 8 0 = 0 := hx.2
      have z107 : I 162 107 = 0 := hm.2
      refine ⟨0, Or.inl rfl, fun q => absurd rfl q, fun Q => ?_, fun I3 J3 Q ls h3 => ?_⟩
      · rw [e34]; simp only [r34_0, r34_1, r34_4, r34_7, r34_8, r34_9, r34_10, r34_13, r34_16, r34_17, r34_20, r34_21, s_1, s_2, s_3, s_8, s_16, s_18, s_23, s_24, s_33, s_38, s_41, s_161, f_1_0, f_1_1, f_1_4, f_1_5, f_1_8, f_1_9, f_1_10, f_1_11, f_1_12, f_1_13, f_2_0, f_2_1, f_3_3, f_3_4, f_3_5, f_3_6, f_8_2, f_8_3, f_8_4, f_8_5, f_16_2, f_18_3, f_18_4, f_18_5, f_18_6, f_23_0, f_23_1, f_23_2, f_23_3, f_23_4, f_24_2, f_24_3, f_24_4, f_24_5, f_33_3, f_33_4, f_33_5, f_33_6, f_38_1, f_38_2, f_41_0, f_161_0, f_161_1, f_161_3, f_161_7, f_161_12, f_161_13, f_161_14, f_161_15, f_161_16, f_161_17, f_161_18, f_161_19, f_161_21, f_161_22, f_161_25, true_and, and_true, true_or, or_true, if_true, if_false, ne_eq, not_false_eq_true, and_self, t10, am_psh, am_clr, not_true_eq_false, Nat.reduceEqDiff, a8 8 (by omega), e3 8 (by omega) (by omega), z8, t01]
      · simp only [r120_63, r120_64, r120_67, r120_69, r120_70, r120_71, r120_74, r120_75, r120_76, r120_79, r120_80, r120_81, r120_82, r120_83, r120_86, r120_89, r120_90, r120_93, s_1, s_2, s_3, s_8, s_16, s_18, s_23, s_24, s_33, s_38, s_41, s_161, f_1_0, f_1_1, f_1_4, f_1_5, f_1_8, f_1_9, f_1_10, f_1_11, f_1_12, f_1_13, f_2_0, f_2_1, f_3_3, f_3_4, f_3_5, f_3_6, f_8_2, f_8_3, f_8_4, f_8_5, f_16_2, f_18_3, f_18_4, f_18_5, f_18_6, f_23_0, f_23_1, f_23_2, f_23_3, f_23_4, f_24_2, f_24_3, f_24_4, f_24_5, f_33_3, f_33_4, f_33_5, f_33_6, f_38_1, f_38_2, f_41_0, f_161_0, f_161_1, f_161_3, f_161_7, f_161_12, f_161_13, f_161_14, f_161_15, f_161_16, f_161_17, f_161_18, f_161_19, f_161_21, f_161_22, f_161_25, true_and, and_true, true_or, or_true, if_true, if_false, ne_eq, not_false_eq_true, and_self, t10, am_psh, am_clr, not_true_eq_false, Nat.reduceEqDiff, show am_ix (cS L) 162 20 107 from mx 107 (by omega), show (107 : Int32).toNatClampNeg = 107 from by decide, hF I3 h3, z107]
        rw [if_neg (by decide)]
    | some R =>
      have z8 : I 8 0 = 1 := hx.2.1
      have z107 : I 162 107 = 1 := hm.2.1
      obtain ⟨⟨n1, n2⟩, -⟩ := hok.2 R rfl
      have hk8 : (gApp I1 3 (gm G) (nI v) (nI u) (nI c)) 8 1 = nI (rk R) := by rw [a8 8 (by omega), e3 8 (by omega) (by omega)]; exact hx.2.2.1
      have hr1 := fun Q => c_redOf (d := 35) (L := L) (J := J) (Q := Q) (shG_3 L) (shR_8 L) hm31 hA1 hA2 n2 hk8
      have E1 : redN (gApp I1 3 (gm G) (nI v) (nI u) (nI c) (3 + 3) (gm G)) (gApp I1 3 (gm G) (nI v) (nI u) (nI c) (8 + 1)) (gApp I1 3 (gm G) (nI v) (nI u) (nI c) (8 + 2)) v u (rk R) = redN (nI c) (rs R) (rd R) v u (rk R) := by
        rw [show gApp I1 3 (gm G) (nI v) (nI u) (nI c) (3 + 3) (gm G) = nI c from hA3]
        refine redN_congr _ (fun g hg => ?_)
        rw [a8 (8 + 1) (by omega), a8 (8 + 2) (by omega), e3 (8 + 1) (by omega) (by omega), e3 (8 + 2) (by omega) (by omega)]
        have := hx.2.2.2.1 g hg
        exact ⟨this.1, this.2.1⟩
      have hM : ∀ (I3 : am_I) (J3 : am_J) (Q : am_Q), I3 162 = wApp (I 162) (gm G) (nI v) (nI u) (nI c) → am_C 39 153 [.ref 161, .int (nI (gm G))] (cS L) I3 J3 Q = Q (some (.int (redN (nI c) (rs R) (rd R) v u (rk R)))) (cS L) I3 J3 := fun I3 J3 Q h3 => by
        have mA := (mG_app (t := v) (h := u) (c := c) hm.1 hm31).2.1 (gm G) (Nat.lt_succ_self _)
        have m1 : I3 162 (3 + gm G) = nI v := by rw [h3]; exact mA.1.trans (by show nI (fset _ _ _ _) = _; rw [fset_eq])
        have m2 : I3 162 (35 + gm G) = nI u := by rw [h3]; exact mA.2.1.trans (by show nI (fset _ _ _ _) = _; rw [fset_eq])
        have m3 : I3 162 (67 + gm G) = nI c := by rw [h3]; exact mA.2.2.trans (by show nI (fset _ _ _ _) = _; rw [fset_eq])
        rw [c_mred (d := 37) hm31 m1 m2 n2 (by rw [h3, wApp_hi (by omega) hm31]; exact hm.2.2.1), m3]
        congr 3
        refine redN_congr _ (fun g hg => ?_)
        unfold shf
        rw [h3, wApp_hi (by omega) hm31, wApp_hi (by omega) hm31]
        have := hm.2.2.2.1 g hg
        exact ⟨this.1, this.2.1⟩
      have hM2 : ∀ (I3 : am_I), I3 162 = wApp (I 162) (gm G) (nI v) (nI u) (nI c) → I3 162 2 - 1 = nI (gm G) := fun I3 h3 => by
        rw [h3]; unfold wApp; rw [fset_eq]; exact nI_pred _
      by_cases e : redN (nI c) (rs R) (rd R) v u (rk R) < 0
      · refine ⟨0, Or.inl rfl, fun q => absurd rfl q, fun Q => ?_, fun I3 J3 Q ls h3 => ?_⟩
        · rw [e34]; simp only [r34_0, r34_1, r34_4, r34_7, r34_8, r34_9, r34_10, r34_13, r34_16, r34_17, r34_20, r34_21, s_1, s_2, s_3, s_8, s_16, s_18, s_23, s_24, s_33, s_38, s_41, s_161, f_1_0, f_1_1, f_1_4, f_1_5, f_1_8, f_1_9, f_1_10, f_1_11, f_1_12, f_1_13, f_2_0, f_2_1, f_3_3, f_3_4, f_3_5, f_3_6, f_8_2, f_8_3, f_8_4, f_8_5, f_16_2, f_18_3, f_18_4, f_18_5, f_18_6, f_23_0, f_23_1, f_23_2, f_23_3, f_23_4, f_24_2, f_24_3, f_24_4, f_24_5, f_33_3, f_33_4, f_33_5, f_33_6, f_38_1, f_38_2, f_41_0, f_161_0, f_161_1, f_161_3, f_161_7, f_161_12, f_161_13, f_161_14, f_161_15, f_161_16, f_161_17, f_161_18, f_161_19, f_161_21, f_161_22, f_161_25, true_and, and_true, true_or, or_true, if_true, if_false, ne_eq, not_false_eq_true, and_self, t10, am_psh, am_clr, not_true_eq_false, Nat.reduceEqDiff, a8 8 (by omega), e3 8 (by omega) (by omega), z8, t01]
          rw [hr1, E1, if_pos e]
        · simp only [r120_63, r120_64, r120_67, r120_69, r120_70, r120_71, r120_74, r120_75, r120_76, r120_79, r120_80, r120_81, r120_82, r120_83, r120_86, r120_89, r120_90, r120_93, s_1, s_2, s_3, s_8, s_16, s_18, s_23, s_24, s_33, s_38, s_41, s_161, f_1_0, f_1_1, f_1_4, f_1_5, f_1_8, f_1_9, f_1_10, f_1_11, f_1_12, f_1_13, f_2_0, f_2_1, f_3_3, f_3_4, f_3_5, f_3_6, f_8_2, f_8_3, f_8_4, f_8_5, f_16_2, f_18_3, f_18_4, f_18_5, f_18_6, f_23_0, f_23_1, f_23_2, f_23_3, f_23_4, f_24_2, f_24_3, f_24_4, f_24_5, f_33_3, f_33_4, f_33_5, f_33_6, f_38_1, f_38_2, f_41_0, f_161_0, f_161_1, f_161_3, f_161_7, f_161_12, f_161_13, f_161_14, f_161_15, f_161_16, f_161_17, f_161_18, f_161_19, f_161_21, f_161_22, f_161_25, true_and, and_true, true_or, or_true, if_true, if_false, ne_eq, not_false_eq_true, and_self, t10, am_psh, am_clr, not_true_eq_false, Nat.reduceEqDiff, show am_ix (cS L) 162 20 107 from mx 107 (by omega), show am_ix (cS L) 162 20 2 from mx 2 (by omega), show (2 : Int32).toNatClampNeg = 2 from by decide, show (107 : Int32).toNatClampNeg = 107 from by decide, hF I3 h3, z107, hM2 I3 h3]
          rw [hM I3 J3 _ h3, if_pos e]
      · refine ⟨1, Or.inr rfl, fun _ => ⟨R, rfl⟩, fun Q => ?_, fun I3 J3 Q ls h3 => ?_⟩
        · rw [e34]; simp only [r34_0, r34_1, r34_4, r34_7, r34_8, r34_9, r34_10, r34_13, r34_16, r34_17, r34_20, r34_21, s_1, s_2, s_3, s_8, s_16, s_18, s_23, s_24, s_33, s_38, s_41, s_161, f_1_0, f_1_1, f_1_4, f_1_5, f_1_8, f_1_9, f_1_10, f_1_11, f_1_12, f_1_13, f_2_0, f_2_1, f_3_3, f_3_4, f_3_5, f_3_6, f_8_2, f_8_3, f_8_4, f_8_5, f_16_2, f_18_3, f_18_4, f_18_5, f_18_6, f_23_0, f_23_1, f_23_2, f_23_3, f_23_4, f_24_2, f_24_3, f_24_4, f_24_5, f_33_3, f_33_4, f_33_5, f_33_6, f_38_1, f_38_2, f_41_0, f_161_0, f_161_1, f_161_3, f_161_7, f_161_12, f_161_13, f_161_14, f_161_15, f_161_16, f_161_17, f_161_18, f_161_19, f_161_21, f_161_22, f_161_25, true_and, and_true, true_or, or_true, if_true, if_false, ne_eq, not_false_eq_true, and_self, t10, am_psh, am_clr, not_true_eq_false, Nat.reduceEqDiff, a8 8 (by omega), e3 8 (by omega) (by omega), z8, t11]
          rw [hr1, E1, if_neg e]
        · simp only [r120_63, r120_64, r120_67, r120_69, r120_70, r120_71, r120_74, r120_75, r120_76, r120_79, r120_80, r120_81, r120_82, r120_83, r120_86, r120_89, r120_90, r120_93, s_1, s_2, s_3, s_8, s_16, s_18, s_23, s_24, s_33, s_38, s_41, s_161, f_1_0, f_1_1, f_1_4, f_1_5, f_1_8, f_1_9, f_1_10, f_1_11, f_1_12, f_1_13, f_2_0, f_2_1, f_3_3, f_3_4, f_3_5, f_3_6, f_8_2, f_8_3, f_8_4, f_8_5, f_16_2, f_18_3, f_18_4, f_18_5, f_18_6, f_23_0, f_23_1, f_23_2, f_23_3, f_23_4, f_24_2, f_24_3, f_24_4, f_24_5, f_33_3, f_33_4, f_33_5, f_33_6, f_38_1, f_38_2, f_41_0, f_161_0, f_161_1, f_161_3, f_161_7, f_161_12, f_161_13, f_161_14, f_161_15, f_161_16, f_161_17, f_161_18, f_161_19, f_161_21, f_161_22, f_161_25, true_and, and_true, true_or, or_true, if_true, if_false, ne_eq, not_false_eq_true, and_self, t10, am_psh, am_clr, not_true_eq_false, Nat.reduceEqDiff, show am_ix (cS L) 162 20 107 from mx 107 (by omega), show am_ix (cS L) 162 20 2 from mx 2 (by omega), show (2 : Int32).toNatClampNeg = 2 from by decide, show (107 : Int32).toNatClampNeg = 107 from by decide, hF I3 h3, z107, hM2 I3 h3]
          rw [hM I3 J3 _ h3, if_neg e]
  obtain ⟨r, hr01, hrR, hrX, hrM⟩ := hst
  obtain ⟨I2, m1, m2, m3, m4, m5, m6⟩ := c_settle (d := 38) (L := L) (J := J) (I := gApp I1 3 (gm s.1) (nI v) (nI u) (nI c)) hr01 (by rw [a8 8 (by omega), e3 8 (by omega) (by omega)]; exact xS_01 hx)
  have f2 : ∀ b, b ≠ 1 → (b < 3 ∨ 6 < b) → b ≠ 8 → b ≠ 33 → (b < 52 ∨ 139 ≤ b) → I2 b = I b := fun b b1 b2 b3 b4 b5 => by rw [m2 b b1 b3, gApp_ne (by omega), k4 b b1 b4 b5]
  have g161 : I2 161 = I 161 := f2 161 (by omega) (by omega) (by omega) (by omega) (by omega)
  have g162 : I2 162 = I 162 := f2 162 (by omega) (by omega) (by omega) (by omega) (by omega)
  obtain ⟨I3, p1, p2, p3, p4⟩ := c_Mkeep (d := 38) (L := L) (J := J) (I := I2) (hs := hs) hok (by rw [g162]; exact hm) (hM_congr (by rw [g161]) (f2 163 (by omega) (by omega) (by omega) (by omega) (by omega)) hhM) hO
  have e162 : I3 162 = I 162 := by rw [p3 162 (by omega) (by omega), g162]
  have hB : (am_row I3 162 (wApp (I 162) (gm s.1) (nI v) (nI u) (nI c))) 162 = wApp (I 162) (gm s.1) (nI v) (nI u) (nI c) := am_row_eq
  obtain ⟨I4, j1, j2, j3, j4, j5, j6⟩ := c_judge (d := 38) (L := L) (J := J) (I := am_row I3 162 (wApp (I 162) (gm s.1) (nI v) (nI u) (nI c))) hr01 (by rw [hB, wApp_hi (by omega) hm31]; exact mS_01 hm)
  have f4 : ∀ b, b ≠ 161 → b ≠ 162 → b ≠ 163 → I4 b = I2 b := fun b b1 b2 b3 => by rw [j2 b b1 b2, am_row_ne b2, p3 b b1 b3]
  have w4 : ∀ j, j ≠ 107 → I4 162 j = wApp (I 162) (gm s.1) (nI v) (nI u) (nI c) j := fun j hj => by rw [j4 j hj, hB]
  have c21 : ∀ j, j ≠ 7 → I2 1 j = I1 1 j := fun j hj => by rw [m3 j hj, gApp_ne (by omega)]
  refine ⟨.int (nI (gm s.1)), I2, J, I4, J, fun Q => ?_, f2 0 (by omega) (by omega) (by omega) (by omega) (by omega), fun Q => ?_, by rw [f4 0 (by omega) (by omega) (by omega), f2 0 (by omega) (by omega) (by omega) (by omega) (by omega)], ?_, _, rfl⟩
  · rw [pX, if_neg hvu']; simp only [r59_35, r59_36, r59_39, r59_40, r59_42, r59_45, r59_47, r59_48, r59_50, r59_53, r59_55, r59_58, r59_60, r59_61, r59_62, s_1, s_2, s_3, s_8, s_16, s_18, s_23, s_24, s_33, s_38, s_41, s_161, f_1_0, f_1_1, f_1_4, f_1_5, f_1_8, f_1_9, f_1_10, f_1_11, f_1_12, f_1_13, f_2_0, f_2_1, f_3_3, f_3_4, f_3_5, f_3_6, f_8_2, f_8_3, f_8_4, f_8_5, f_16_2, f_18_3, f_18_4, f_18_5, f_18_6, f_23_0, f_23_1, f_23_2, f_23_3, f_23_4, f_24_2, f_24_3, f_24_4, f_24_5, f_33_3, f_33_4, f_33_5, f_33_6, f_38_1, f_38_2, f_41_0, f_161_0, f_161_1, f_161_3, f_161_7, f_161_12, f_161_13, f_161_14, f_161_15, f_161_16, f_161_17, f_161_18, f_161_19, f_161_21, f_161_22, f_161_25, true_and, and_true, true_or, or_true, if_true, if_false, ne_eq, not_false_eq_true, and_self, t10, am_psh, am_clr, not_true_eq_false, Nat.reduceEqDiff, hx.1.1.2.2]
    rw [if_neg b1, if_pos b2, if_pos (show nI (gm s.1) < 32 from nI_lt (b := 32) hm31 (by omega)), k1]
    simp only [r59_65, r59_67, r59_70, r59_72, r59_74, r59_75, r59_76, r59_77, s_1, s_2, s_3, s_8, s_16, s_18, s_23, s_24, s_33, s_38, s_41, s_161, f_1_0, f_1_1, f_1_4, f_1_5, f_1_8, f_1_9, f_1_10, f_1_11, f_1_12, f_1_13, f_2_0, f_2_1, f_3_3, f_3_4, f_3_5, f_3_6, f_8_2, f_8_3, f_8_4, f_8_5, f_16_2, f_18_3, f_18_4, f_18_5, f_18_6, f_23_0, f_23_1, f_23_2, f_23_3, f_23_4, f_24_2, f_24_3, f_24_4, f_24_5, f_33_3, f_33_4, f_33_5, f_33_6, f_38_1, f_38_2, f_41_0, f_161_0, f_161_1, f_161_3, f_161_7, f_161_12, f_161_13, f_161_14, f_161_15, f_161_16, f_161_17, f_161_18, f_161_19, f_161_21, f_161_22, f_161_25, true_and, and_true, true_or, or_true, if_true, if_false, ne_eq, not_false_eq_true, and_self, t10, am_psh, am_clr, not_true_eq_false, Nat.reduceEqDiff, hxG1.1.2.2]
    rw [c_Gra_append (shG_3 L) hm31 hxG1.1.2.2]
    simp only [r59_80, r59_81, r59_82, r59_85, r59_88, r59_90, r59_92, s_1, s_2, s_3, s_8, s_16, s_18, s_23, s_24, s_33, s_38, s_41, s_161, f_1_0, f_1_1, f_1_4, f_1_5, f_1_8, f_1_9, f_1_10, f_1_11, f_1_12, f_1_13, f_2_0, f_2_1, f_3_3, f_3_4, f_3_5, f_3_6, f_8_2, f_8_3, f_8_4, f_8_5, f_16_2, f_18_3, f_18_4, f_18_5, f_18_6, f_23_0, f_23_1, f_23_2, f_23_3, f_23_4, f_24_2, f_24_3, f_24_4, f_24_5, f_33_3, f_33_4, f_33_5, f_33_6, f_38_1, f_38_2, f_41_0, f_161_0, f_161_1, f_161_3, f_161_7, f_161_12, f_161_13, f_161_14, f_161_15, f_161_16, f_161_17, f_161_18, f_161_19, f_161_21, f_161_22, f_161_25, true_and, and_true, true_or, or_true, if_true, if_false, ne_eq, not_false_eq_true, and_self, t10, am_psh, am_clr, not_true_eq_false, Nat.reduceEqDiff]
    rw [hrX]
    simp only [r59_95, r59_98, r59_100, s_1, s_2, s_3, s_8, s_16, s_18, s_23, s_24, s_33, s_38, s_41, s_161, f_1_0, f_1_1, f_1_4, f_1_5, f_1_8, f_1_9, f_1_10, f_1_11, f_1_12, f_1_13, f_2_0, f_2_1, f_3_3, f_3_4, f_3_5, f_3_6, f_8_2, f_8_3, f_8_4, f_8_5, f_16_2, f_18_3, f_18_4, f_18_5, f_18_6, f_23_0, f_23_1, f_23_2, f_23_3, f_23_4, f_24_2, f_24_3, f_24_4, f_24_5, f_33_3, f_33_4, f_33_5, f_33_6, f_38_1, f_38_2, f_41_0, f_161_0, f_161_1, f_161_3, f_161_7, f_161_12, f_161_13, f_161_14, f_161_15, f_161_16, f_161_17, f_161_18, f_161_19, f_161_21, f_161_22, f_161_25, true_and, and_true, true_or, or_true, if_true, if_false, ne_eq, not_false_eq_true, and_self, t10, am_psh, am_clr, not_true_eq_false, Nat.reduceEqDiff]
    rw [m1]
    simp only [r59_95, r59_98, r59_100, s_1, s_2, s_3, s_8, s_16, s_18, s_23, s_24, s_33, s_38, s_41, s_161, f_1_0, f_1_1, f_1_4, f_1_5, f_1_8, f_1_9, f_1_10, f_1_11, f_1_12, f_1_13, f_2_0, f_2_1, f_3_3, f_3_4, f_3_5, f_3_6, f_8_2, f_8_3, f_8_4, f_8_5, f_16_2, f_18_3, f_18_4, f_18_5, f_18_6, f_23_0, f_23_1, f_23_2, f_23_3, f_23_4, f_24_2, f_24_3, f_24_4, f_24_5, f_33_3, f_33_4, f_33_5, f_33_6, f_38_1, f_38_2, f_41_0, f_161_0, f_161_1, f_161_3, f_161_7, f_161_12, f_161_13, f_161_14, f_161_15, f_161_16, f_161_17, f_161_18, f_161_19, f_161_21, f_161_22, f_161_25, true_and, and_true, true_or, or_true, if_true, if_false, ne_eq, not_false_eq_true, and_self, t10, am_psh, am_clr, not_true_eq_false, Nat.reduceEqDiff]
  · rw [pM I2 J g162, if_neg hvu']; simp only [r120_24, r120_25, r120_26, r120_28, r120_31, r120_34, r120_36, c_isIn, s_1, s_2, s_3, s_8, s_16, s_18, s_23, s_24, s_33, s_38, s_41, s_161, f_1_0, f_1_1, f_1_4, f_1_5, f_1_8, f_1_9, f_1_10, f_1_11, f_1_12, f_1_13, f_2_0, f_2_1, f_3_3, f_3_4, f_3_5, f_3_6, f_8_2, f_8_3, f_8_4, f_8_5, f_16_2, f_18_3, f_18_4, f_18_5, f_18_6, f_23_0, f_23_1, f_23_2, f_23_3, f_23_4, f_24_2, f_24_3, f_24_4, f_24_5, f_33_3, f_33_4, f_33_5, f_33_6, f_38_1, f_38_2, f_41_0, f_161_0, f_161_1, f_161_3, f_161_7, f_161_12, f_161_13, f_161_14, f_161_15, f_161_16, f_161_17, f_161_18, f_161_19, f_161_21, f_161_22, f_161_25, true_and, and_true, true_or, or_true, if_true, if_false, ne_eq, not_false_eq_true, and_self, t10, am_psh, am_clr, not_true_eq_false, Nat.reduceEqDiff]
    rw [if_neg b1, if_neg b3]
    simp only [r120_24, r120_25, r120_26, r120_28, r120_31, r120_34, r120_36, r120_37, r120_38, r120_41, r120_42, r120_43, r120_45, r120_48, r120_50, r120_51, r120_52, r120_55, r120_56, r120_57, r120_58, r120_59, r120_62, s_1, s_2, s_3, s_8, s_16, s_18, s_23, s_24, s_33, s_38, s_41, s_161, f_1_0, f_1_1, f_1_4, f_1_5, f_1_8, f_1_9, f_1_10, f_1_11, f_1_12, f_1_13, f_2_0, f_2_1, f_3_3, f_3_4, f_3_5, f_3_6, f_8_2, f_8_3, f_8_4, f_8_5, f_16_2, f_18_3, f_18_4, f_18_5, f_18_6, f_23_0, f_23_1, f_23_2, f_23_3, f_23_4, f_24_2, f_24_3, f_24_4, f_24_5, f_33_3, f_33_4, f_33_5, f_33_6, f_38_1, f_38_2, f_41_0, f_161_0, f_161_1, f_161_3, f_161_7, f_161_12, f_161_13, f_161_14, f_161_15, f_161_16, f_161_17, f_161_18, f_161_19, f_161_21, f_161_22, f_161_25, true_and, and_true, true_or, or_true, if_true, if_false, ne_eq, not_false_eq_true, and_self, t10, am_psh, am_clr, not_true_eq_false, Nat.reduceEqDiff, show am_ix (cS L) 162 20 2 from mx 2 (by omega), show (2 : Int32).toNatClampNeg = 2 from by decide, g162, hm.1.1.2.2]
    rw [if_neg (fun q => hmm ((nI_eq (b := 32) (by omega) (by omega)).mp q)), p1]
    simp only [r120_55, r120_56, r120_57, r120_58, r120_59, r120_62, s_1, s_2, s_3, s_8, s_16, s_18, s_23, s_24, s_33, s_38, s_41, s_161, f_1_0, f_1_1, f_1_4, f_1_5, f_1_8, f_1_9, f_1_10, f_1_11, f_1_12, f_1_13, f_2_0, f_2_1, f_3_3, f_3_4, f_3_5, f_3_6, f_8_2, f_8_3, f_8_4, f_8_5, f_16_2, f_18_3, f_18_4, f_18_5, f_18_6, f_23_0, f_23_1, f_23_2, f_23_3, f_23_4, f_24_2, f_24_3, f_24_4, f_24_5, f_33_3, f_33_4, f_33_5, f_33_6, f_38_1, f_38_2, f_41_0, f_161_0, f_161_1, f_161_3, f_161_7, f_161_12, f_161_13, f_161_14, f_161_15, f_161_16, f_161_17, f_161_18, f_161_19, f_161_21, f_161_22, f_161_25, true_and, and_true, true_or, or_true, if_true, if_false, ne_eq, not_false_eq_true, and_self, t10, am_psh, am_clr, not_true_eq_false, Nat.reduceEqDiff]
    rw [c_Mod_append hm31 (by rw [e162]; exact hm.1.1.2.2), e162]
    simp only [r120_62, true_and, and_true, true_or, or_true, if_true, if_false, ne_eq, not_false_eq_true, and_self, t10, am_psh, am_clr, not_true_eq_false, Nat.reduceEqDiff]
    rw [hrM (am_row I3 162 (wApp (I 162) (gm s.1) (nI v) (nI u) (nI c))) J Q _ hB]
    simp only [r120_94, s_1, s_2, s_3, s_8, s_16, s_18, s_23, s_24, s_33, s_38, s_41, s_161, f_1_0, f_1_1, f_1_4, f_1_5, f_1_8, f_1_9, f_1_10, f_1_11, f_1_12, f_1_13, f_2_0, f_2_1, f_3_3, f_3_4, f_3_5, f_3_6, f_8_2, f_8_3, f_8_4, f_8_5, f_16_2, f_18_3, f_18_4, f_18_5, f_18_6, f_23_0, f_23_1, f_23_2, f_23_3, f_23_4, f_24_2, f_24_3, f_24_4, f_24_5, f_33_3, f_33_4, f_33_5, f_33_6, f_38_1, f_38_2, f_41_0, f_161_0, f_161_1, f_161_3, f_161_7, f_161_12, f_161_13, f_161_14, f_161_15, f_161_16, f_161_17, f_161_18, f_161_19, f_161_21, f_161_22, f_161_25, true_and, and_true, true_or, or_true, if_true, if_false, ne_eq, not_false_eq_true, and_self, t10, am_psh, am_clr, not_true_eq_false, Nat.reduceEqDiff]
    rw [j1]
    simp only [r120_97, r120_98, r120_101, r120_102, r120_103, r120_104, r120_105, s_1, s_2, s_3, s_8, s_16, s_18, s_23, s_24, s_33, s_38, s_41, s_161, f_1_0, f_1_1, f_1_4, f_1_5, f_1_8, f_1_9, f_1_10, f_1_11, f_1_12, f_1_13, f_2_0, f_2_1, f_3_3, f_3_4, f_3_5, f_3_6, f_8_2, f_8_3, f_8_4, f_8_5, f_16_2, f_18_3, f_18_4, f_18_5, f_18_6, f_23_0, f_23_1, f_23_2, f_23_3, f_23_4, f_24_2, f_24_3, f_24_4, f_24_5, f_33_3, f_33_4, f_33_5, f_33_6, f_38_1, f_38_2, f_41_0, f_161_0, f_161_1, f_161_3, f_161_7, f_161_12, f_161_13, f_161_14, f_161_15, f_161_16, f_161_17, f_161_18, f_161_19, f_161_21, f_161_22, f_161_25, true_and, and_true, true_or, or_true, if_true, if_false, ne_eq, not_false_eq_true, and_self, t10, am_psh, am_clr, not_true_eq_false, Nat.reduceEqDiff, show am_ix (cS L) 162 20 2 from mx 2 (by omega), show (2 : Int32).toNatClampNeg = 2 from by decide]
    rw [w4 2 (by omega)]; unfold wApp; rw [fset_eq, nI_pred]
  · have xg : xG I4 3 (addA s.1 v u c) := by
      have h := hxA
      unfold xG at h ⊢
      rw [f4 3 (by omega) (by omega) (by omega), f4 (3 + 1) (by omega) (by omega) (by omega), f4 (3 + 2) (by omega) (by omega) (by omega), f4 (3 + 3) (by omega) (by omega) (by omega), f4 (3 + 4) (by omega) (by omega) (by omega), m2 3 (by omega) (by omega), m2 (3 + 1) (by omega) (by omega), m2 (3 + 2) (by omega) (by omega), m2 (3 + 3) (by omega) (by omega), m2 (3 + 4) (by omega) (by omega)]; exact h
    have mg : mG (I4 162) (addA s.1 v u c) := by
      have h := mG_app (t := v) (h := u) (c := c) hm.1 hm31
      obtain ⟨⟨q1, q2, q3⟩, q4, q5⟩ := h
      refine ⟨⟨(w4 0 (by omega)).trans q1, (w4 1 (by omega)).trans q2, (w4 2 (by omega)).trans q3⟩, fun a ha => ?_, fun y hy => (w4 (99 + y) (by omega)).trans (q5 y hy)⟩
      have ha' : a < gm s.1 + 1 := ha
      rw [w4 (3 + a) (by omega), w4 (35 + a) (by omega), w4 (67 + a) (by omega)]; exact q4 a ha
    refine Inv_of (I := I) (s' := (addA s.1 v u c, if r = 0 then none else s.2)) (hs' := pushH hs s) (s0 := s0) (s1 := s1) (n := n) (o := o1) (tx := tx) ⟨okG_add hok.1 hm31 hv hu hvu hc, fun R hR => ?_⟩ (xS_z hx xg rfl rfl ?_ ?_ ?_) (mS_z hok hm mg rfl rfl ?_ ?_) (Or.inl ?_) (okH_push hO hok) (hM_congr (by rw [j3 2 (by omega), am_row_ne (by omega)]) (by rw [j2 163 (by omega) (by omega), am_row_ne (by omega)]) p2) k2 (hX_congr (by rw [f4 1 (by omega) (by omega) (by omega), c21 2 (by omega)]) (by rw [f4 1 (by omega) (by omega) (by omega), c21 3 (by omega)]) (fun b b1 b2 => by rw [f4 b (by omega) (by omega) (by omega), m2 b (by omega) (by omega), gApp_ne (by omega)]) k3) ⟨?_, ?_⟩ hsl htx (fun b hb => ?_) ?_ ?_
    · by_cases e : r = 0
      · rw [if_pos e] at hR; cases hR
      · rw [if_neg e] at hR; exact okR_add (hok.2 R hR)
    · rw [f4 8 (by omega) (by omega) (by omega), m6, a8 8 (by omega), e3 8 (by omega) (by omega)]
    · intro j hj; rw [f4 8 (by omega) (by omega) (by omega), m4 j hj, a8 8 (by omega), e3 8 (by omega) (by omega)]
    · intro b b1 b2; rw [f4 b (by omega) (by omega) (by omega), m2 b (by omega) (by omega), a8 b (by omega), e3 b (by omega) (by omega)]
    · rw [j6, hB, wApp_hi (by omega) hm31]
    · intro j h1 h2; rw [w4 j (by omega), wApp_hi (by omega) hm31]
    · rw [f4 33 (by omega) (by omega) (by omega), m2 33 (by omega) (by omega), gApp_ne (by omega)]; exact k6
    · rw [f4 1 (by omega) (by omega) (by omega), c21 6 (by omega), k5 6 (by omega) (by omega), j3 5 (by omega), am_row_ne (by omega), p4 5 (by omega), g161]; exact hru.1
    · rw [f4 1 (by omega) (by omega) (by omega), m5, j5, gApp_ne (by omega), k5 7 (by omega) (by omega), am_row_ne (show 161 ≠ 162 by omega), p4 6 (by omega), g161, a8 8 (by omega), e3 8 (by omega) (by omega), hB, wApp_hi (by omega) hm31, hru.2, rec_eq hx hm]
    · rw [f4 b (by omega) (by omega) (by omega), f2 b (by omega) (by omega) (by omega) (by omega) (by omega)]
    · rw [j3 4 (by omega), am_row_ne (by omega), p4 4 (by omega), g161]
    · rw [j3 8 (by omega), am_row_ne (by omega), p4 8 (by omega), g161]
end AD
