/-! removeArc: both -/
section RO
variable {d L : Nat} {I I' : am_I} {J J' : am_J} {Q : am_Q}
theorem nI_sub1 {m : Nat} (h : 0 < m) : nI m - 1 = nI (m - 1) := by
  obtain ⟨k, rfl⟩ : ∃ k, m = k + 1 := ⟨m - 1, by omega⟩
  rw [nI_pred]; rfl
theorem xG_congr {g : Nat} {G : Gr} (h1 : ∀ b, g ≤ b → b ≤ g + 4 → I' b = I b) (h : xG I g G) : xG I' g G := by
  unfold xG at h ⊢
  rw [h1 g (by omega) (by omega), h1 (g + 1) (by omega) (by omega), h1 (g + 2) (by omega) (by omega), h1 (g + 3) (by omega) (by omega), h1 (g + 4) (by omega) (by omega)]; exact h
theorem xG_del {g a : Nat} {G : Gr} (hx : xG I g G) (ha : a < gm G) : xG (am_up (rows3 I (g + 1) (dl (I (g + 1)) a (gm G - 1)) (dl (I (g + 2)) a (gm G - 1)) (dl (I (g + 3)) a (gm G - 1))) g 2 (nI (gm G - 1))) g (delA G a) := by
  obtain ⟨⟨a1, a2, a3⟩, a4, a5⟩ := hx
  refine ⟨⟨?_, ?_, ?_⟩, fun b hb => ?_, fun v hv => ?_⟩
  · rw [up_ne _ _ (Or.inr (by omega)), rows3_ne (by omega)]; exact a1
  · rw [up_ne _ _ (Or.inr (by omega)), rows3_ne (by omega)]; exact a2
  · rw [up_self]; rfl
  · have hb : b < gm G - 1 := hb
    rw [am_up_ne (by omega), am_up_ne (by omega), am_up_ne (by omega), rows3_0, show g + 2 = g + 1 + 1 from rfl, rows3_1, show g + 3 = g + 1 + 2 from rfl, rows3_2]
    show dl (I (g + 1)) a (gm G - 1) b = nI (dl (gt G) a (gm G) b) ∧ dl (I (g + 2)) a (gm G - 1) b = nI (dl (gh G) a (gm G) b) ∧ dl (I (g + 3)) a (gm G - 1) b = nI (dl (gc G) a (gm G) b)
    unfold dl
    by_cases e : a ≤ b
    · rw [if_pos (by omega), if_pos (by omega), if_pos (by omega), if_pos (by omega), if_pos (by omega), if_pos (by omega)]; exact a4 (b + 1) (by omega)
    · rw [if_neg (by omega), if_neg (by omega), if_neg (by omega), if_neg (by omega), if_neg (by omega), if_neg (by omega)]; exact a4 b (by omega)
  · rw [am_up_ne (by omega), rows3_ne (by omega)]; exact a5 v hv
/-- the model's row behind a removal -/
def wDel (w : Nat → Int32) (a m : Nat) : Nat → Int32 := tw (dw (fset w 2 (nI (m - 1))) a (m - 1)) (nI a) 8
theorem wDel_at {w : Nat → Int32} {a m j : Nat} (hm : m ≤ 32) (h : (99 ≤ j ∧ j < 157) ∨ j < 2) : wDel w a m j = w j := by
  unfold wDel tw
  rw [if_neg (by omega), dw_at _ (by omega), fset_ne _ _ (by omega)]
theorem wDel_2 {w : Nat → Int32} {a m : Nat} : wDel w a m 2 = nI (m - 1) := by
  unfold wDel tw
  rw [if_neg (by omega), dw_at _ (by omega), fset_eq]
theorem wDel_tree {w : Nat → Int32} {a m v : Nat} (hm : m ≤ 32) (hv : v < 8) : wDel w a m (157 + v) = lw1 (nI a) (w (157 + v)) := by
  unfold wDel tw
  rw [if_pos (by omega), dw_at _ (by omega), fset_ne _ _ (by omega)]
theorem mG_del {w : Nat → Int32} {a : Nat} {G : Gr} (hx : mG w G) (hm : gm G ≤ 32) (ha : a < gm G) : mG (wDel w a (gm G)) (delA G a) := by
  obtain ⟨⟨a1, a2, a3⟩, a4, a5⟩ := hx
  refine ⟨⟨(wDel_at hm (by omega)).trans a1, (wDel_at hm (by omega)).trans a2, wDel_2⟩, fun b hb => ?_, fun v hv => (wDel_at hm (by omega)).trans (a5 v hv)⟩
  have hb : b < gm G - 1 := hb
  have key : ∀ o, o = 3 ∨ o = 35 ∨ o = 67 → wDel w a (gm G) (o + b) = dl (fun i => w (o + i)) a (gm G) b := fun o ho => by
    unfold wDel tw
    rw [if_neg (by omega)]
    unfold dw dl
    by_cases e : a ≤ b
    · rw [if_pos (by omega), if_pos (by omega), fset_ne _ _ (by omega)]; rfl
    · rw [if_neg (by omega), if_neg (by omega), fset_ne _ _ (by omega)]
  rw [key 3 (by omega), key 35 (by omega), key 67 (by omega)]
  show _ = nI (dl (gt G) a (gm G) b) ∧ _ = nI (dl (gh G) a (gm G) b) ∧ _ = nI (dl (gc G) a (gm G) b)
  unfold dl
  by_cases e : a ≤ b ∧ b < gm G
  · rw [if_pos e, if_pos e, if_pos e, if_pos e, if_pos e, if_pos e]; exact a4 (b + 1) (by omega)
  · rw [if_neg e, if_neg e, if_neg e, if_neg e, if_neg e, if_neg e]; exact a4 b (by omega)
set_option maxHeartbeats 4000000 in
theorem op_removeArc (x : Int32) : am_OK L Inv 60 122 [.int x] := by
  intro I J hI
  have hI0 := hI
  obtain ⟨s, hs, s0, s1, n, tx, hok, hx, hm, hl, hh, hsl, hru, htx⟩ := hI
  obtain ⟨hO, hhM, o, ho, hhX⟩ := xH_iff.mp hh
  have hn := hok.1.1.2.1
  have hm32 := hok.1.1.2.2.2
  rcases in_or_out x (n := gm s.1) (by omega) with hv | ⟨a, ha, rfl⟩
  · refine ok_same hI0 (x := -102) (fun Q => ?_) (fun Q => ?_)
    · rw [e60]; simp only [r60_0, r60_1, r60_4, r60_7, r60_8, r60_9, r60_10, r60_13, r60_16, r60_18, r60_19, r60_20, r60_23, r60_24, r60_25, r60_28, r60_31, r60_32, r60_33, r60_36, r60_39, r60_40, r60_41, r60_44, r60_45, r60_48, s_1, s_2, s_3, s_8, s_16, s_18, s_23, s_24, s_33, s_38, s_41, s_161, f_1_0, f_1_1, f_1_4, f_1_5, f_1_8, f_1_9, f_1_10, f_1_11, f_1_12, f_1_13, f_2_0, f_2_1, f_3_3, f_3_4, f_3_5, f_3_6, f_8_2, f_8_3, f_8_4, f_8_5, f_16_2, f_18_3, f_18_4, f_18_5, f_18_6, f_23_0, f_23_1, f_23_2, f_23_3, f_23_4, f_24_2, f_24_3, f_24_4, f_24_5, f_33_3, f_33_4, f_33_5, f_33_6, f_38_1, f_38_2, f_41_0, f_161_0, f_161_1, f_161_3, f_161_7, f_161_12, f_161_13, f_161_14, f_161_15, f_161_16, f_161_17, f_161_18, f_161_19, f_161_21, f_161_22, f_161_25, true_and, and_true, true_or, or_true, if_true, if_false, ne_eq, not_false_eq_true, and_self, t10, am_psh, am_clr, not_true_eq_false, Nat.reduceEqDiff]
      rw [c_hasArc_out hx.1.1.2.2 hv]; simp only [r60_0, r60_1, r60_4, r60_7, r60_8, r60_9, r60_10, r60_13, r60_16, r60_18, r60_19, r60_20, r60_23, r60_24, r60_25, r60_28, r60_31, r60_32, r60_33, r60_36, r60_39, r60_40, r60_41, r60_44, r60_45, r60_48, true_and, and_true, true_or, or_true, if_true, if_false, ne_eq, not_false_eq_true, and_self, t10, am_psh, am_clr, not_true_eq_false, Nat.reduceEqDiff]
    · rw [e122]; simp only [r122_0, r122_1, r122_2, r122_5, r122_8, r122_10, s_1, s_2, s_3, s_8, s_16, s_18, s_23, s_24, s_33, s_38, s_41, s_161, f_1_0, f_1_1, f_1_4, f_1_5, f_1_8, f_1_9, f_1_10, f_1_11, f_1_12, f_1_13, f_2_0, f_2_1, f_3_3, f_3_4, f_3_5, f_3_6, f_8_2, f_8_3, f_8_4, f_8_5, f_16_2, f_18_3, f_18_4, f_18_5, f_18_6, f_23_0, f_23_1, f_23_2, f_23_3, f_23_4, f_24_2, f_24_3, f_24_4, f_24_5, f_33_3, f_33_4, f_33_5, f_33_6, f_38_1, f_38_2, f_41_0, f_161_0, f_161_1, f_161_3, f_161_7, f_161_12, f_161_13, f_161_14, f_161_15, f_161_16, f_161_17, f_161_18, f_161_19, f_161_21, f_161_22, f_161_25, true_and, and_true, true_or, or_true, if_true, if_false, ne_eq, not_false_eq_true, and_self, t10, am_psh, am_clr, not_true_eq_false, Nat.reduceEqDiff]
      rw [c_isArc_out hm.1.1.2.2 hm32 hv]; simp only [r122_0, r122_1, r122_2, r122_5, r122_8, r122_10, true_and, and_true, true_or, or_true, if_true, if_false, ne_eq, not_false_eq_true, and_self, t10, am_psh, am_clr, not_true_eq_false, Nat.reduceEqDiff]
  obtain ⟨I1, o1, k1, k2, k3, k4, k5, k6, k7⟩ := c_keep (d := 35) (L := L) (J := J) hok hx ho hhX hO.1
  have e3 : ∀ b, 3 ≤ b → b ≤ 12 → I1 b = I b := fun b b1 b2 => k4 b (by omega) (by omega) (by omega)
  have hx1 : xS I1 3 8 s := xS_congr (fun b b1 b2 => e3 b (by omega) (by omega)) (fun b b1 b2 => e3 b (by omega) (by omega)) hx
  obtain ⟨r, I1a, hr01, hfX, hf1, hf2, hf3⟩ := c_followRem (d := 37) (L := L) (I := I1) (J := J) (a := a) hok hx1 ha
  obtain ⟨I1b, m1, m2, m3, m4, m5, m6⟩ := c_settle (d := 38) (L := L) (J := J) (I := I1a) hr01 (by rw [hf1 8 (by omega)]; exact xS_01 hx1)
  have hxb : xG I1b 3 s.1 := xG_congr (fun b b1 b2 => by rw [m2 b (by omega) (by omega), hf1 b (by omega)]) hx1.1
  have hdel := fun Q => c_Gra_delete (d := 38) (L := L) (J := J) (Q := Q) (shG_3 L) hm32 ha hxb.1.2.2
  have hxD := xG_del hxb ha
  generalize hI2 : am_up (rows3 I1b (3 + 1) (dl (I1b (3 + 1)) a (gm s.1 - 1)) (dl (I1b (3 + 2)) a (gm s.1 - 1)) (dl (I1b (3 + 3)) a (gm s.1 - 1))) 3 2 (nI (gm s.1 - 1)) = I2 at hdel hxD
  have f2b : ∀ b, (b < 3 ∨ 6 < b) → I2 b = I1b b := fun b hb => by rw [← hI2, am_up_ne (by omega), rows3_ne (by omega)]
  have f2 : ∀ b, b ≠ 1 → (b < 3 ∨ 6 < b) → b ≠ 8 → b ≠ 12 → b ≠ 33 → (b < 52 ∨ 139 ≤ b) → I2 b = I b := fun b b1 b2 b3 b3' b4 b5 => by rw [f2b b b2, m2 b b1 b3, hf1 b b3', k4 b b1 b4 b5]
  have g161 : I2 161 = I 161 := f2 161 (by omega) (by omega) (by omega) (by omega) (by omega) (by omega)
  have g162 : I2 162 = I 162 := f2 162 (by omega) (by omega) (by omega) (by omega) (by omega) (by omega)
  obtain ⟨I3, p1, p2, p3, p4⟩ := c_Mkeep (d := 38) (L := L) (J := J) (I := I2) (hs := hs) hok (by rw [g162]; exact hm) (hM_congr (by rw [g161]) (f2 163 (by omega) (by omega) (by omega) (by omega) (by omega) (by omega)) hhM) hO
  have e162 : I3 162 = I 162 := by rw [p3 162 (by omega) (by omega), g162]
  obtain ⟨I3a, j1, j2, j3, j4, j5, j6⟩ := c_judge (d := 38) (L := L) (J := J) (I := I3) hr01 (by rw [e162]; exact mS_01 hm)
  have w3 : ∀ j, j ≠ 107 → I3a 162 j = I 162 j := fun j hj => by rw [j4 j hj, e162]
  have fin : ∀ j, wDel (I3a 162) a (gm s.1) j = (am_row I3a 162 (wDel (I3a 162) a (gm s.1))) 162 j := fun j => by rw [am_row_eq]
  have f4 : ∀ b, b ≠ 161 → b ≠ 162 → b ≠ 163 → (am_row I3a 162 (wDel (I3a 162) a (gm s.1))) b = I2 b := fun b b1 b2 b3 => by rw [am_row_ne b2, j2 b b1 b2, p3 b b1 b3]
  have f41 : (am_row I3a 162 (wDel (I3a 162) a (gm s.1))) 161 = I3a 161 := am_row_ne (by omega)
  have c21 : ∀ j, j ≠ 7 → I2 1 j = I1 1 j := fun j hj => by rw [f2b 1 (by omega), m3 j hj, hf1 1 (by omega)]
  have mJ : ∀ Q : am_Q, am_T 39 122 16 [some (.ref 161), some (.int (nI a)), none] [.ref 161] (cS L) I3 J Q = am_T 39 122 40 [some (.ref 161), some (.int (nI a)), none] [.int r, .ref 161] (cS L) I3 J Q := fun Q => by
    have x107 : am_ix (cS L) 162 20 107 := mx 107 (by omega)
    obtain ⟨G, oR⟩ := s
    cases oR with
    | none =>
      have z107 : I 162 107 = 0 := hm.2
      have : r = 0 := hr01.resolve_right (fun q => by obtain ⟨R, h, -⟩ := hf2 q; cases h)
      subst this
      simp only [r122_16, r122_17, r122_20, r122_22, r122_23, r122_24, r122_27, r122_28, r122_29, r122_32, r122_35, r122_36, r122_39, s_1, s_2, s_3, s_8, s_16, s_18, s_23, s_24, s_33, s_38, s_41, s_161, f_1_0, f_1_1, f_1_4, f_1_5, f_1_8, f_1_9, f_1_10, f_1_11, f_1_12, f_1_13, f_2_0, f_2_1, f_3_3, f_3_4, f_3_5, f_3_6, f_8_2, f_8_3, f_8_4, f_8_5, f_16_2, f_18_3, f_18_4, f_18_5, f_18_6, f_23_0, f_23_1, f_23_2, f_23_3, f_23_4, f_24_2, f_24_3, f_24_4, f_24_5, f_33_3, f_33_4, f_33_5, f_33_6, f_38_1, f_38_2, f_41_0, f_161_0, f_161_1, f_161_3, f_161_7, f_161_12, f_161_13, f_161_14, f_161_15, f_161_16, f_161_17, f_161_18, f_161_19, f_161_21, f_161_22, f_161_25, true_and, and_true, true_or, or_true, if_true, if_false, ne_eq, not_false_eq_true, and_self, t10, am_psh, am_clr, not_true_eq_false, Nat.reduceEqDiff, x107, show (107 : Int32).toNatClampNeg = 107 from by decide, e162, z107]
      rw [if_neg (by decide)]
    | some R =>
      have z107 : I 162 107 = 1 := hm.2.1
      have hR := hok.2 R rfl
      have hT := fun Q => c_isInTree (d := 38) (L := L) (J := J) (Q := Q) (I := I3) hok.1 hR (by rw [e162]; exact hm.1.1.1) (fun v hv => by rw [e162]; exact hm.2.2.2.2 v hv) ha
      simp only [r122_16, r122_17, r122_20, r122_22, r122_23, r122_24, r122_27, r122_28, r122_29, s_1, s_2, s_3, s_8, s_16, s_18, s_23, s_24, s_33, s_38, s_41, s_161, f_1_0, f_1_1, f_1_4, f_1_5, f_1_8, f_1_9, f_1_10, f_1_11, f_1_12, f_1_13, f_2_0, f_2_1, f_3_3, f_3_4, f_3_5, f_3_6, f_8_2, f_8_3, f_8_4, f_8_5, f_16_2, f_18_3, f_18_4, f_18_5, f_18_6, f_23_0, f_23_1, f_23_2, f_23_3, f_23_4, f_24_2, f_24_3, f_24_4, f_24_5, f_33_3, f_33_4, f_33_5, f_33_6, f_38_1, f_38_2, f_41_0, f_161_0, f_161_1, f_161_3, f_161_7, f_161_12, f_161_13, f_161_14, f_161_15, f_161_16, f_161_17, f_161_18, f_161_19, f_161_21, f_161_22, f_161_25, true_and, and_true, true_or, or_true, if_true, if_false, ne_eq, not_false_eq_true, and_self, t10, am_psh, am_clr, not_true_eq_false, Nat.reduceEqDiff, x107, show (107 : Int32).toNatClampNeg = 107 from by decide, e162, z107]
      rw [hT]
      rcases hr01 with rfl | rfl
      · have e : inTr G R a := hf3 rfl R rfl
        rw [b32_T (p := inTr G R a) e]; simp only [r122_32, r122_35, r122_36, r122_39, true_and, and_true, true_or, or_true, if_true, if_false, ne_eq, not_false_eq_true, and_self, t10, am_psh, am_clr, not_true_eq_false, Nat.reduceEqDiff]
      · obtain ⟨R', h1, h2, -⟩ := hf2 rfl
        cases h1
        rw [b32_F (p := inTr G R a) h2]; simp only [r122_32, r122_35, r122_36, r122_39, true_and, and_true, true_or, or_true, if_true, if_false, ne_eq, not_false_eq_true, and_self, t10, am_psh, am_clr, not_true_eq_false, Nat.reduceEqDiff]
  refine ⟨.int (nI (gm s.1 - 1)), I2, J, am_row I3a 162 (wDel (I3a 162) a (gm s.1)), J, fun Q => ?_, f2 0 (by omega) (by omega) (by omega) (by omega) (by omega) (by omega), fun Q => ?_, by rw [f4 0 (by omega) (by omega) (by omega), f2 0 (by omega) (by omega) (by omega) (by omega) (by omega) (by omega)], ?_, _, rfl⟩
  · rw [e60]; simp only [r60_0, r60_1, r60_4, r60_7, r60_8, r60_9, r60_10, s_1, s_2, s_3, s_8, s_16, s_18, s_23, s_24, s_33, s_38, s_41, s_161, f_1_0, f_1_1, f_1_4, f_1_5, f_1_8, f_1_9, f_1_10, f_1_11, f_1_12, f_1_13, f_2_0, f_2_1, f_3_3, f_3_4, f_3_5, f_3_6, f_8_2, f_8_3, f_8_4, f_8_5, f_16_2, f_18_3, f_18_4, f_18_5, f_18_6, f_23_0, f_23_1, f_23_2, f_23_3, f_23_4, f_24_2, f_24_3, f_24_4, f_24_5, f_33_3, f_33_4, f_33_5, f_33_6, f_38_1, f_38_2, f_41_0, f_161_0, f_161_1, f_161_3, f_161_7, f_161_12, f_161_13, f_161_14, f_161_15, f_161_16, f_161_17, f_161_18, f_161_19, f_161_21, f_161_22, f_161_25, true_and, and_true, true_or, or_true, if_true, if_false, ne_eq, not_false_eq_true, and_self, t10, am_psh, am_clr, not_true_eq_false, Nat.reduceEqDiff]
    rw [c_hasArc_in hx.1.1.2.2 hm32 ha]; simp only [r60_13, r60_16, r60_18, r60_19, r60_20, s_1, s_2, s_3, s_8, s_16, s_18, s_23, s_24, s_33, s_38, s_41, s_161, f_1_0, f_1_1, f_1_4, f_1_5, f_1_8, f_1_9, f_1_10, f_1_11, f_1_12, f_1_13, f_2_0, f_2_1, f_3_3, f_3_4, f_3_5, f_3_6, f_8_2, f_8_3, f_8_4, f_8_5, f_16_2, f_18_3, f_18_4, f_18_5, f_18_6, f_23_0, f_23_1, f_23_2, f_23_3, f_23_4, f_24_2, f_24_3, f_24_4, f_24_5, f_33_3, f_33_4, f_33_5, f_33_6, f_38_1, f_38_2, f_41_0, f_161_0, f_161_1, f_161_3, f_161_7, f_161_12, f_161_13, f_161_14, f_161_15, f_161_16, f_161_17, f_161_18, f_161_19, f_161_21, f_161_22, f_161_25, true_and, and_true, true_or, or_true, if_true, if_false, ne_eq, not_false_eq_true, and_self, t10, am_psh, am_clr, not_true_eq_false, Nat.reduceEqDiff]
    rw [k1]; simp only [r60_23, r60_24, r60_25, r60_28, r60_31, r60_32, r60_33, s_1, s_2, s_3, s_8, s_16, s_18, s_23, s_24, s_33, s_38, s_41, s_161, f_1_0, f_1_1, f_1_4, f_1_5, f_1_8, f_1_9, f_1_10, f_1_11, f_1_12, f_1_13, f_2_0, f_2_1, f_3_3, f_3_4, f_3_5, f_3_6, f_8_2, f_8_3, f_8_4, f_8_5, f_16_2, f_18_3, f_18_4, f_18_5, f_18_6, f_23_0, f_23_1, f_23_2, f_23_3, f_23_4, f_24_2, f_24_3, f_24_4, f_24_5, f_33_3, f_33_4, f_33_5, f_33_6, f_38_1, f_38_2, f_41_0, f_161_0, f_161_1, f_161_3, f_161_7, f_161_12, f_161_13, f_161_14, f_161_15, f_161_16, f_161_17, f_161_18, f_161_19, f_161_21, f_161_22, f_161_25, true_and, and_true, true_or, or_true, if_true, if_false, ne_eq, not_false_eq_true, and_self, t10, am_psh, am_clr, not_true_eq_false, Nat.reduceEqDiff]
    rw [hfX]; simp only [r60_36, s_1, s_2, s_3, s_8, s_16, s_18, s_23, s_24, s_33, s_38, s_41, s_161, f_1_0, f_1_1, f_1_4, f_1_5, f_1_8, f_1_9, f_1_10, f_1_11, f_1_12, f_1_13, f_2_0, f_2_1, f_3_3, f_3_4, f_3_5, f_3_6, f_8_2, f_8_3, f_8_4, f_8_5, f_16_2, f_18_3, f_18_4, f_18_5, f_18_6, f_23_0, f_23_1, f_23_2, f_23_3, f_23_4, f_24_2, f_24_3, f_24_4, f_24_5, f_33_3, f_33_4, f_33_5, f_33_6, f_38_1, f_38_2, f_41_0, f_161_0, f_161_1, f_161_3, f_161_7, f_161_12, f_161_13, f_161_14, f_161_15, f_161_16, f_161_17, f_161_18, f_161_19, f_161_21, f_161_22, f_161_25, true_and, and_true, true_or, or_true, if_true, if_false, ne_eq, not_false_eq_true, and_self, t10, am_psh, am_clr, not_true_eq_false, Nat.reduceEqDiff]
    rw [m1]; simp only [r60_39, r60_40, r60_41, s_1, s_2, s_3, s_8, s_16, s_18, s_23, s_24, s_33, s_38, s_41, s_161, f_1_0, f_1_1, f_1_4, f_1_5, f_1_8, f_1_9, f_1_10, f_1_11, f_1_12, f_1_13, f_2_0, f_2_1, f_3_3, f_3_4, f_3_5, f_3_6, f_8_2, f_8_3, f_8_4, f_8_5, f_16_2, f_18_3, f_18_4, f_18_5, f_18_6, f_23_0, f_23_1, f_23_2, f_23_3, f_23_4, f_24_2, f_24_3, f_24_4, f_24_5, f_33_3, f_33_4, f_33_5, f_33_6, f_38_1, f_38_2, f_41_0, f_161_0, f_161_1, f_161_3, f_161_7, f_161_12, f_161_13, f_161_14, f_161_15, f_161_16, f_161_17, f_161_18, f_161_19, f_161_21, f_161_22, f_161_25, true_and, and_true, true_or, or_true, if_true, if_false, ne_eq, not_false_eq_true, and_self, t10, am_psh, am_clr, not_true_eq_false, Nat.reduceEqDiff]
    rw [hdel]; simp only [r60_44, r60_45, r60_48, s_1, s_2, s_3, s_8, s_16, s_18, s_23, s_24, s_33, s_38, s_41, s_161, f_1_0, f_1_1, f_1_4, f_1_5, f_1_8, f_1_9, f_1_10, f_1_11, f_1_12, f_1_13, f_2_0, f_2_1, f_3_3, f_3_4, f_3_5, f_3_6, f_8_2, f_8_3, f_8_4, f_8_5, f_16_2, f_18_3, f_18_4, f_18_5, f_18_6, f_23_0, f_23_1, f_23_2, f_23_3, f_23_4, f_24_2, f_24_3, f_24_4, f_24_5, f_33_3, f_33_4, f_33_5, f_33_6, f_38_1, f_38_2, f_41_0, f_161_0, f_161_1, f_161_3, f_161_7, f_161_12, f_161_13, f_161_14, f_161_15, f_161_16, f_161_17, f_161_18, f_161_19, f_161_21, f_161_22, f_161_25, true_and, and_true, true_or, or_true, if_true, if_false, ne_eq, not_false_eq_true, and_self, t10, am_psh, am_clr, not_true_eq_false, Nat.reduceEqDiff]
    rw [hxD.1.2.2]; rfl
  · rw [e122]; simp only [r122_0, r122_1, r122_2, s_1, s_2, s_3, s_8, s_16, s_18, s_23, s_24, s_33, s_38, s_41, s_161, f_1_0, f_1_1, f_1_4, f_1_5, f_1_8, f_1_9, f_1_10, f_1_11, f_1_12, f_1_13, f_2_0, f_2_1, f_3_3, f_3_4, f_3_5, f_3_6, f_8_2, f_8_3, f_8_4, f_8_5, f_16_2, f_18_3, f_18_4, f_18_5, f_18_6, f_23_0, f_23_1, f_23_2, f_23_3, f_23_4, f_24_2, f_24_3, f_24_4, f_24_5, f_33_3, f_33_4, f_33_5, f_33_6, f_38_1, f_38_2, f_41_0, f_161_0, f_161_1, f_161_3, f_161_7, f_161_12, f_161_13, f_161_14, f_161_15, f_161_16, f_161_17, f_161_18, f_161_19, f_161_21, f_161_22, f_161_25, true_and, and_true, true_or, or_true, if_true, if_false, ne_eq, not_false_eq_true, and_self, t10, am_psh, am_clr, not_true_eq_false, Nat.reduceEqDiff]
    rw [c_isArc_in (by rw [g162]; exact hm.1.1.2.2) hm32 ha]; simp only [r122_5, r122_8, r122_10, r122_11, r122_12, s_1, s_2, s_3, s_8, s_16, s_18, s_23, s_24, s_33, s_38, s_41, s_161, f_1_0, f_1_1, f_1_4, f_1_5, f_1_8, f_1_9, f_1_10, f_1_11, f_1_12, f_1_13, f_2_0, f_2_1, f_3_3, f_3_4, f_3_5, f_3_6, f_8_2, f_8_3, f_8_4, f_8_5, f_16_2, f_18_3, f_18_4, f_18_5, f_18_6, f_23_0, f_23_1, f_23_2, f_23_3, f_23_4, f_24_2, f_24_3, f_24_4, f_24_5, f_33_3, f_33_4, f_33_5, f_33_6, f_38_1, f_38_2, f_41_0, f_161_0, f_161_1, f_161_3, f_161_7, f_161_12, f_161_13, f_161_14, f_161_15, f_161_16, f_161_17, f_161_18, f_161_19, f_161_21, f_161_22, f_161_25, true_and, and_true, true_or, or_true, if_true, if_false, ne_eq, not_false_eq_true, and_self, t10, am_psh, am_clr, not_true_eq_false, Nat.reduceEqDiff]
    rw [p1]; simp only [r122_15, s_1, s_2, s_3, s_8, s_16, s_18, s_23, s_24, s_33, s_38, s_41, s_161, f_1_0, f_1_1, f_1_4, f_1_5, f_1_8, f_1_9, f_1_10, f_1_11, f_1_12, f_1_13, f_2_0, f_2_1, f_3_3, f_3_4, f_3_5, f_3_6, f_8_2, f_8_3, f_8_4, f_8_5, f_16_2, f_18_3, f_18_4, f_18_5, f_18_6, f_23_0, f_23_1, f_23_2, f_23_3, f_23_4, f_24_2, f_24_3, f_24_4, f_24_5, f_33_3, f_33_4, f_33_5, f_33_6, f_38_1, f_38_2, f_41_0, f_161_0, f_161_1, f_161_3, f_161_7, f_161_12, f_161_13, f_161_14, f_161_15, f_161_16, f_161_17, f_161_18, f_161_19, f_161_21, f_161_22, f_161_25, true_and, and_true, true_or, or_true, if_true, if_false, ne_eq, not_false_eq_true, and_self, t10, am_psh, am_clr, not_true_eq_false, Nat.reduceEqDiff]
    rw [mJ]; simp only [r122_40, s_1, s_2, s_3, s_8, s_16, s_18, s_23, s_24, s_33, s_38, s_41, s_161, f_1_0, f_1_1, f_1_4, f_1_5, f_1_8, f_1_9, f_1_10, f_1_11, f_1_12, f_1_13, f_2_0, f_2_1, f_3_3, f_3_4, f_3_5, f_3_6, f_8_2, f_8_3, f_8_4, f_8_5, f_16_2, f_18_3, f_18_4, f_18_5, f_18_6, f_23_0, f_23_1, f_23_2, f_23_3, f_23_4, f_24_2, f_24_3, f_24_4, f_24_5, f_33_3, f_33_4, f_33_5, f_33_6, f_38_1, f_38_2, f_41_0, f_161_0, f_161_1, f_161_3, f_161_7, f_161_12, f_161_13, f_161_14, f_161_15, f_161_16, f_161_17, f_161_18, f_161_19, f_161_21, f_161_22, f_161_25, true_and, and_true, true_or, or_true, if_true, if_false, ne_eq, not_false_eq_true, and_self, t10, am_psh, am_clr, not_true_eq_false, Nat.reduceEqDiff]
    rw [j1]; simp only [r122_43, r122_44, r122_47, r122_48, r122_49, r122_50, r122_51, r122_52, r122_53, r122_54, s_1, s_2, s_3, s_8, s_16, s_18, s_23, s_24, s_33, s_38, s_41, s_161, f_1_0, f_1_1, f_1_4, f_1_5, f_1_8, f_1_9, f_1_10, f_1_11, f_1_12, f_1_13, f_2_0, f_2_1, f_3_3, f_3_4, f_3_5, f_3_6, f_8_2, f_8_3, f_8_4, f_8_5, f_16_2, f_18_3, f_18_4, f_18_5, f_18_6, f_23_0, f_23_1, f_23_2, f_23_3, f_23_4, f_24_2, f_24_3, f_24_4, f_24_5, f_33_3, f_33_4, f_33_5, f_33_6, f_38_1, f_38_2, f_41_0, f_161_0, f_161_1, f_161_3, f_161_7, f_161_12, f_161_13, f_161_14, f_161_15, f_161_16, f_161_17, f_161_18, f_161_19, f_161_21, f_161_22, f_161_25, true_and, and_true, true_or, or_true, if_true, if_false, ne_eq, not_false_eq_true, and_self, t10, am_psh, am_clr, not_true_eq_false, Nat.reduceEqDiff, show am_ix (cS L) 162 20 2 from mx 2 (by omega), show am_ixw (cS L) 162 20 2 from mw 2 (by omega), show (2 : Int32).toNatClampNeg = 2 from by decide, w3 2 (by omega), hm.1.1.2.2, nI_sub1 (show 0 < gm s.1 by omega), up_fset]
    have h := md_loop (d := 39) (L := L) (J := J) (Q := Q) (I := am_row I3a 162 (fset (I3a 162) 2 (nI (gm s.1 - 1)))) (a := a) (m := gm s.1 - 1) (by omega) (by rw [am_row_eq, fset_eq]) (gm s.1 - 1 - a) a (by omega) (Nat.le_refl _)
    rw [am_row_eq, dw_0, row_row, row_row] at h
    rw [h]
    simp only [r122_129, r122_130, am_clr]
    have h2 := mt_loop (d := 39) (L := L) (J := J) (Q := Q) (I := am_row I3a 162 (dw (fset (I3a 162) 2 (nI (gm s.1 - 1))) a (gm s.1 - 1))) (x := nI a) 8 0 rfl
    rw [am_row_eq, tw_0, row_row, row_row, dw_at _ (by omega), fset_eq] at h2
    exact h2
  · have mg : mG (wDel (I3a 162) a (gm s.1)) (delA s.1 a) := by
      refine mG_del ?_ hm32 ha
      obtain ⟨⟨q1, q2, q3⟩, q4, q5⟩ := hm.1
      refine ⟨⟨(w3 0 (by omega)).trans q1, (w3 1 (by omega)).trans q2, (w3 2 (by omega)).trans q3⟩, fun b hb => ?_, fun y hy => (w3 (99 + y) (by omega)).trans (q5 y hy)⟩
      rw [w3 (3 + b) (by omega), w3 (35 + b) (by omega), w3 (67 + b) (by omega)]; exact q4 b hb
    have xg : xG (am_row I3a 162 (wDel (I3a 162) a (gm s.1))) 3 (delA s.1 a) := xG_congr (fun b b1 b2 => f4 b (by omega) (by omega) (by omega)) hxD
    have hS : ∃ o', (∀ R, o' = some R → okR (delA s.1 a) R) ∧ xS (am_row I3a 162 (wDel (I3a 162) a (gm s.1))) 3 8 (delA s.1 a, o') ∧ mS ((am_row I3a 162 (wDel (I3a 162) a (gm s.1))) 162) (delA s.1 a, o') := by
      rw [am_row_eq]
      rcases hr01 with rfl | rfl
      · refine ⟨none, fun R h => (by cases h), ⟨xg, ?_⟩, ⟨mg, ?_⟩⟩
        · show (am_row I3a 162 (wDel (I3a 162) a (gm s.1))) 8 0 = 0
          rw [f4 8 (by omega) (by omega) (by omega), f2b 8 (by omega), m6]; rfl
        · show wDel (I3a 162) a (gm s.1) 107 = 0
          rw [wDel_at hm32 (by omega), j6]; rfl
      · obtain ⟨R, hR1, hR2, hR3⟩ := hf2 rfl
        obtain ⟨G, oR⟩ := s
        have hR1 : oR = some R := hR1
        subst hR1
        have hR := hok.2 R rfl
        obtain ⟨y1, y2, y3, y4⟩ := hx.2
        obtain ⟨z1, z2, z3, z4⟩ := hm.2
        refine ⟨some (delR R a), fun R' h => by cases h; exact okR_del hR hR2 ha, ⟨xg, ?_, ?_, fun g hg => ?_, fun v hv => ?_⟩, ⟨mg, ?_, ?_, fun g hg => ?_, fun v hv => ?_⟩⟩
        · rw [f4 8 (by omega) (by omega) (by omega), f2b 8 (by omega), m6, if_neg (by decide), hf1 8 (by omega), e3 8 (by omega) (by omega)]; exact y1
        · rw [f4 8 (by omega) (by omega) (by omega), f2b 8 (by omega), m4 1 (by omega), hf1 8 (by omega), e3 8 (by omega) (by omega)]; exact y2
        · rw [f4 (8 + 1) (by omega) (by omega) (by omega), f4 (8 + 2) (by omega) (by omega) (by omega), f4 (8 + 3) (by omega) (by omega) (by omega), f2b (8 + 1) (by omega), f2b (8 + 2) (by omega), f2b (8 + 3) (by omega), m2 (8 + 1) (by omega) (by omega), m2 (8 + 2) (by omega) (by omega), m2 (8 + 3) (by omega) (by omega), hf1 (8 + 1) (by omega), hf1 (8 + 2) (by omega), hf1 (8 + 3) (by omega), e3 (8 + 1) (by omega) (by omega), e3 (8 + 2) (by omega) (by omega), e3 (8 + 3) (by omega) (by omega)]; exact y3 g hg
        · rw [f4 (8 + 4) (by omega) (by omega) (by omega), f2b (8 + 4) (by omega), m2 (8 + 4) (by omega) (by omega)]; exact hR3 v hv
        · rw [wDel_at hm32 (by omega), j6, if_neg (by decide), e162]; exact z1
        · rw [wDel_at hm32 (by omega), w3 108 (by omega)]; exact z2
        · have hg : g < rk R := hg
          have := hR.1.2
          rw [wDel_at hm32 (by omega), wDel_at hm32 (by omega), wDel_at hm32 (by omega), w3 (109 + g) (by omega), w3 (125 + g) (by omega), w3 (141 + g) (by omega)]; exact z3 g hg
        · have hv : v < gn G := hv
          have hn : gn G ≤ 8 := hn
          have ha : a < gm G := ha
          have hm32 : gm G ≤ 32 := hm32
          rw [wDel_tree hm32 (by omega), w3 (157 + v) (by omega), z4 v hv]
          unfold lw1
          show _ = if v = gr G then -107 else nI (if a < rt R v then rt R v - 1 else rt R v)
          by_cases ev : v = gr G
          · rw [if_pos ev, if_pos ev, if_neg (fun q => by
              rw [Int32.lt_iff_toInt_lt, n_ti (by omega), show (-107 : Int32).toInt = -107 from by decide] at q; omega)]; rfl
          · obtain ⟨r1, -⟩ := hR.2.2 v hv ev
            have r1 : rt R v < gm G := r1
            rw [if_neg ev, if_neg ev]
            by_cases g : a < rt R v
            · rw [if_pos (nI_lt g (by omega)), if_pos g, nI_sub1 (by omega)]
            · rw [if_neg (fun q => g ((nI_ltI (by omega) (by omega)).mp q)), if_neg g, i_sub0]
    obtain ⟨o', hS1, hS2, hS3⟩ := hS
    refine Inv_of (I := I) (s' := (delA s.1 a, o')) (hs' := pushH hs s) (s0 := s0) (s1 := s1) (n := n) (o := o1) (tx := tx) ⟨okG_del hok.1, hS1⟩ hS2 hS3 (Or.inl ?_) (okH_push hO hok) (hM_congr (by rw [f41, j3 2 (by omega)]) (by rw [am_row_ne (by omega), j2 163 (by omega) (by omega)]) p2) k2 (hX_congr (by rw [f4 1 (by omega) (by omega) (by omega), c21 2 (by omega)]) (by rw [f4 1 (by omega) (by omega) (by omega), c21 3 (by omega)]) (fun b b1 b2 => by rw [f4 b (by omega) (by omega) (by omega), f2b b (by omega), m2 b (by omega) (by omega), hf1 b (by omega)]) k3) ⟨?_, ?_⟩ hsl htx (fun b hb => ?_) ?_ ?_
    · rw [f4 33 (by omega) (by omega) (by omega), f2b 33 (by omega), m2 33 (by omega) (by omega), hf1 33 (by omega)]; exact k6
    · rw [f4 1 (by omega) (by omega) (by omega), c21 6 (by omega), k5 6 (by omega) (by omega), f41, j3 5 (by omega), p4 5 (by omega), g161]; exact hru.1
    · rw [f4 1 (by omega) (by omega) (by omega), f2b 1 (by omega), m5, f41, j5, hf1 1 (by omega), k5 7 (by omega) (by omega), p4 6 (by omega), g161, hf1 8 (by omega), e3 8 (by omega) (by omega), e162, hru.2, rec_eq hx hm]
    · rw [f4 b (by omega) (by omega) (by omega), f2 b (by omega) (by omega) (by omega) (by omega) (by omega) (by omega)]
    · rw [f41, j3 4 (by omega), p4 4 (by omega), g161]
    · rw [f41, j3 8 (by omega), p4 8 (by omega), g161]
end RO
