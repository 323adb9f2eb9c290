/-! the cheapest among some arcs: without one, with one -/
def amo (G : Gr) (al : Nat → Bool) : Int32 := match conR G (coG G) al with
  | none => -107
  | some R => tcost G (coG G) (rt R)
def alW (a : Nat) : Nat → Bool := fun b => decide (b ≠ a)
def alR (G : Gr) (a : Nat) : Nat → Bool := fun b => decide (b = a ∨ gh G b ≠ gh G a)
def amW (G : Gr) (a : Nat) : Int32 := if gh G a = gr G then -107 else amo G (alR G a)
section AL
variable {d L : Nat} {I I' : am_I} {J : am_J} {Q : am_Q} {G : Gr} {al : Nat → Bool} {a : Nat}
theorem bt_wo {x : Int32} {b : Nat} (ha : a < 32) (hb : b < 32) : bt (x &&& ((1 : Int32) <<< (nI a &&& 31) ^^^ -1)) b = (bt x b && decide (b ≠ a)) := by
  rw [b_and, b_xor, b_m1 b hb, b_shl a ha 1 hb, bt_1 (b - a) (by omega)]
  by_cases e : b = a
  · subst e
    simp
  · have : (decide (a ≤ b) && decide (b - a = 0)) = false := by
      rw [Bool.and_eq_false_iff, decide_eq_false_iff_not, decide_eq_false_iff_not]
      omega
    rw [this]
    simp [e]
theorem res_t {s : Cs} (hG : okG G) (hr : conF G (coG G) al 15 (con0 G) = some s) (h : xRes I G (some s)) : ∀ v, v < gn G → I (24 + 4) v = if v = gr G then -1 else nI (rt (recOf G s) v) := by
  obtain ⟨h1, h2⟩ := conF_ok hG 15 _ _ (cOK_0 hG) hr
  exact fun v hv => (h.2.2.2 v hv).trans (ctr_enc hG h1 h2 hv)
theorem amo_s {s : Cs} (h : conF G (coG G) al 15 (con0 G) = some s) : amo G al = tcost G (coG G) (rt (recOf G s)) := by
  unfold amo conR; rw [h]; rfl
theorem amo_n (h : conF G (coG G) al 15 (con0 G) = none) : amo G al = -107 := by
  unfold amo conR; rw [h]; rfl
theorem c_among {x : Int32} (hG : okG G) (hx : xG I 3 G) (hal : ∀ b, b < gm G → al b = bt x b) : ∃ I', (∀ Q, am_C (d + 5) 103 [.ref 1, .int x] (cS L) I J Q = Q (some (.int (amo G al))) (cS L) I' J) ∧ ∀ b, (b < 24 ∨ 32 < b) → I' b = I b := by
  obtain ⟨I1, k1, k2, k3, k4⟩ := c_contract (d := d) (L := L) (J := J) (I := I) (cb := 6) (x := x) (pr := coG G) (al := al) (Or.inl rfl) hG hx (co_x hx) hal
  refine ⟨I1, fun Q => ?_, k2⟩
  have hx1 : xG I1 3 G := xG_congr (fun b b1 b2 => k2 b (by omega)) hx
  rw [e103]
  simp only [r103_0, r103_1, r103_4, r103_7, r103_10, r103_11, r103_12, r103_15, r103_16, r103_19, r103_22, r103_23, r103_24, s_1, s_2, s_3, s_8, s_16, s_18, s_23, s_24, s_33, s_38, s_41, s_161, f_1_0, f_1_1, f_1_4, f_1_5, f_1_8, f_1_9, f_1_10, f_1_11, f_1_12, f_1_13, f_2_0, f_2_1, f_3_3, f_3_4, f_3_5, f_3_6, f_8_2, f_8_3, f_8_4, f_8_5, f_16_2, f_18_3, f_18_4, f_18_5, f_18_6, f_23_0, f_23_1, f_23_2, f_23_3, f_23_4, f_24_2, f_24_3, f_24_4, f_24_5, f_33_3, f_33_4, f_33_5, f_33_6, f_38_1, f_38_2, f_41_0, f_161_0, f_161_1, f_161_3, f_161_7, f_161_12, f_161_13, f_161_14, f_161_15, f_161_16, f_161_17, f_161_18, f_161_19, f_161_21, f_161_22, f_161_25, true_and, and_true, true_or, or_true, if_true, if_false, ne_eq, not_false_eq_true, and_self, t10, am_psh, am_clr, not_true_eq_false, Nat.reduceEqDiff]
  rw [k1]
  cases hc : conF G (coG G) al 15 (con0 G) with
  | none =>
    rw [amo_n hc]
    simp only [r103_27, r103_30, r103_32, s_1, s_2, s_3, s_8, s_16, s_18, s_23, s_24, s_33, s_38, s_41, s_161, f_1_0, f_1_1, f_1_4, f_1_5, f_1_8, f_1_9, f_1_10, f_1_11, f_1_12, f_1_13, f_2_0, f_2_1, f_3_3, f_3_4, f_3_5, f_3_6, f_8_2, f_8_3, f_8_4, f_8_5, f_16_2, f_18_3, f_18_4, f_18_5, f_18_6, f_23_0, f_23_1, f_23_2, f_23_3, f_23_4, f_24_2, f_24_3, f_24_4, f_24_5, f_33_3, f_33_4, f_33_5, f_33_6, f_38_1, f_38_2, f_41_0, f_161_0, f_161_1, f_161_3, f_161_7, f_161_12, f_161_13, f_161_14, f_161_15, f_161_16, f_161_17, f_161_18, f_161_19, f_161_21, f_161_22, f_161_25, true_and, and_true, true_or, or_true, if_true, if_false, ne_eq, not_false_eq_true, and_self, t10, am_psh, am_clr, not_true_eq_false, Nat.reduceEqDiff, oB]
  | some s =>
    rw [hc] at k3
    obtain ⟨h1, h2⟩ := conF_ok hG 15 _ _ (cOK_0 hG) hc
    rw [amo_s hc]
    simp only [r103_27, r103_30, r103_32, r103_33, r103_34, r103_37, r103_40, r103_41, r103_44, r103_47, r103_48, s_1, s_2, s_3, s_8, s_16, s_18, s_23, s_24, s_33, s_38, s_41, s_161, f_1_0, f_1_1, f_1_4, f_1_5, f_1_8, f_1_9, f_1_10, f_1_11, f_1_12, f_1_13, f_2_0, f_2_1, f_3_3, f_3_4, f_3_5, f_3_6, f_8_2, f_8_3, f_8_4, f_8_5, f_16_2, f_18_3, f_18_4, f_18_5, f_18_6, f_23_0, f_23_1, f_23_2, f_23_3, f_23_4, f_24_2, f_24_3, f_24_4, f_24_5, f_33_3, f_33_4, f_33_5, f_33_6, f_38_1, f_38_2, f_41_0, f_161_0, f_161_1, f_161_3, f_161_7, f_161_12, f_161_13, f_161_14, f_161_15, f_161_16, f_161_17, f_161_18, f_161_19, f_161_21, f_161_22, f_161_25, true_and, and_true, true_or, or_true, if_true, if_false, ne_eq, not_false_eq_true, and_self, t10, am_psh, am_clr, not_true_eq_false, Nat.reduceEqDiff, oB]
    rw [c_costBy (pr := coG G) (t := rt (recOf G s)) (shR_24 L) (Or.inl rfl) hG hx1.1.1 (okR_T (recOf_ok hG h1 h2)) (res_t hG hc k3) (co_x hx1)]
    simp only [r103_51, s_1, s_2, s_3, s_8, s_16, s_18, s_23, s_24, s_33, s_38, s_41, s_161, f_1_0, f_1_1, f_1_4, f_1_5, f_1_8, f_1_9, f_1_10, f_1_11, f_1_12, f_1_13, f_2_0, f_2_1, f_3_3, f_3_4, f_3_5, f_3_6, f_8_2, f_8_3, f_8_4, f_8_5, f_16_2, f_18_3, f_18_4, f_18_5, f_18_6, f_23_0, f_23_1, f_23_2, f_23_3, f_23_4, f_24_2, f_24_3, f_24_4, f_24_5, f_33_3, f_33_4, f_33_5, f_33_6, f_38_1, f_38_2, f_41_0, f_161_0, f_161_1, f_161_3, f_161_7, f_161_12, f_161_13, f_161_14, f_161_15, f_161_16, f_161_17, f_161_18, f_161_19, f_161_21, f_161_22, f_161_25, true_and, and_true, true_or, or_true, if_true, if_false, ne_eq, not_false_eq_true, and_self, t10, am_psh, am_clr, not_true_eq_false, Nat.reduceEqDiff]
theorem c_cwo (hG : okG G) (hx : xG I 3 G) (ha : a < gm G) : ∃ I', (∀ Q, am_C (d + 6) 101 [.ref 1, .int (nI a)] (cS L) I J Q = Q (some (.int (amo G (alW a)))) (cS L) I' J) ∧ ∀ b, (b < 24 ∨ 32 < b) → I' b = I b := by
  have hm32 := hG.1.2.2.2
  obtain ⟨I1, k1, k2⟩ := c_among (d := d) (L := L) (J := J) (I := I) (x := -1 &&& ((1 : Int32) <<< (nI a &&& 31) ^^^ -1)) (al := alW a) hG hx (fun b hb => by rw [bt_wo (by omega) (by omega), b_m1 b (by omega)]; rfl)
  refine ⟨I1, fun Q => ?_, k2⟩
  rw [e101]
  simp only [r101_0, r101_1, r101_2, r101_3, r101_4, r101_5, r101_6, r101_7, r101_8, s_1, s_2, s_3, s_8, s_16, s_18, s_23, s_24, s_33, s_38, s_41, s_161, f_1_0, f_1_1, f_1_4, f_1_5, f_1_8, f_1_9, f_1_10, f_1_11, f_1_12, f_1_13, f_2_0, f_2_1, f_3_3, f_3_4, f_3_5, f_3_6, f_8_2, f_8_3, f_8_4, f_8_5, f_16_2, f_18_3, f_18_4, f_18_5, f_18_6, f_23_0, f_23_1, f_23_2, f_23_3, f_23_4, f_24_2, f_24_3, f_24_4, f_24_5, f_33_3, f_33_4, f_33_5, f_33_6, f_38_1, f_38_2, f_41_0, f_161_0, f_161_1, f_161_3, f_161_7, f_161_12, f_161_13, f_161_14, f_161_15, f_161_16, f_161_17, f_161_18, f_161_19, f_161_21, f_161_22, f_161_25, true_and, and_true, true_or, or_true, if_true, if_false, ne_eq, not_false_eq_true, and_self, t10, am_psh, am_clr, not_true_eq_false, Nat.reduceEqDiff]
  rw [k1]
  simp only [r101_11, s_1, s_2, s_3, s_8, s_16, s_18, s_23, s_24, s_33, s_38, s_41, s_161, f_1_0, f_1_1, f_1_4, f_1_5, f_1_8, f_1_9, f_1_10, f_1_11, f_1_12, f_1_13, f_2_0, f_2_1, f_3_3, f_3_4, f_3_5, f_3_6, f_8_2, f_8_3, f_8_4, f_8_5, f_16_2, f_18_3, f_18_4, f_18_5, f_18_6, f_23_0, f_23_1, f_23_2, f_23_3, f_23_4, f_24_2, f_24_3, f_24_4, f_24_5, f_33_3, f_33_4, f_33_5, f_33_6, f_38_1, f_38_2, f_41_0, f_161_0, f_161_1, f_161_3, f_161_7, f_161_12, f_161_13, f_161_14, f_161_15, f_161_16, f_161_17, f_161_18, f_161_19, f_161_21, f_161_22, f_161_25, true_and, and_true, true_or, or_true, if_true, if_false, ne_eq, not_false_eq_true, and_self, t10, am_psh, am_clr, not_true_eq_false, Nat.reduceEqDiff]
def rvF (G : Gr) (a : Nat) : Nat → Int32
  | 0 => -1
  | j + 1 => if j ≠ a ∧ gh G j = gh G a then rvF G a j &&& ((1 : Int32) <<< (nI j &&& 31) ^^^ -1) else rvF G a j
theorem rv_bt {b : Nat} (hb : b < 32) : ∀ j, j ≤ 32 → bt (rvF G a j) b = (!decide (b < j ∧ b ≠ a ∧ gh G b = gh G a)) := by
  intro j
  induction j with
  | zero =>
    intro _
    show bt (-1) b = _
    rw [b_m1 b hb]; simp
  | succ j ih =>
    intro hj
    unfold rvF
    by_cases e : j ≠ a ∧ gh G j = gh G a
    · rw [if_pos e, bt_wo (by omega) hb, ih (by omega)]
      by_cases e2 : b = j
      · subst e2
        have : b < b + 1 ∧ b ≠ a ∧ gh G b = gh G a := ⟨by omega, e⟩
        simp [this]
      · have : (b < j + 1 ∧ b ≠ a ∧ gh G b = gh G a) ↔ (b < j ∧ b ≠ a ∧ gh G b = gh G a) := by
          constructor
          · rintro ⟨h1, h2⟩; exact ⟨by omega, h2⟩
          · rintro ⟨h1, h2⟩; exact ⟨by omega, h2⟩
        simp only [this]
        simp [e2]
    · rw [if_neg e, ih (by omega)]
      have : (b < j + 1 ∧ b ≠ a ∧ gh G b = gh G a) ↔ (b < j ∧ b ≠ a ∧ gh G b = gh G a) := by
        constructor
        · rintro ⟨h1, h2⟩
          refine ⟨?_, h2⟩
          by_cases e2 : b = j
          · rw [e2] at h2; exact absurd h2 e
          · omega
        · rintro ⟨h1, h2⟩; exact ⟨by omega, h2⟩
      simp only [this]
theorem rv_loop (hG : okG G) (hx : xG I 3 G) (ha : a < gm G) : ∀ (n j : Nat), j + n = gm G → am_T d 17 4 [some (.ref 3), some (.int (nI a)), some (.int (rvF G a j)), some (.int (nI j))] [] (cS L) I J Q = Q (some (.int (rvF G a (gm G)))) (cS L) I J := by
  have hm32 := hG.1.2.2.2
  have hgn := hG.1.2.1
  intro n
  induction n with
  | zero =>
    intro j hj
    have : j = gm G := by omega
    subst this
    rw [r17_4]
    simp only [r17_5, r17_6, r17_9, r17_46, r17_47, s_1, s_2, s_3, s_8, s_16, s_18, s_23, s_24, s_33, s_38, s_41, s_161, f_1_0, f_1_1, f_1_4, f_1_5, f_1_8, f_1_9, f_1_10, f_1_11, f_1_12, f_1_13, f_2_0, f_2_1, f_3_3, f_3_4, f_3_5, f_3_6, f_8_2, f_8_3, f_8_4, f_8_5, f_16_2, f_18_3, f_18_4, f_18_5, f_18_6, f_23_0, f_23_1, f_23_2, f_23_3, f_23_4, f_24_2, f_24_3, f_24_4, f_24_5, f_33_3, f_33_4, f_33_5, f_33_6, f_38_1, f_38_2, f_41_0, f_161_0, f_161_1, f_161_3, f_161_7, f_161_12, f_161_13, f_161_14, f_161_15, f_161_16, f_161_17, f_161_18, f_161_19, f_161_21, f_161_22, f_161_25, true_and, and_true, true_or, or_true, if_true, if_false, ne_eq, not_false_eq_true, and_self, t10, am_psh, am_clr, not_true_eq_false, Nat.reduceEqDiff, hx.1.2.2]
    rw [if_pos (Int32.le_refl _)]
  | succ n ih =>
    intro j hj
    have hjm : j < gm G := by omega
    have h5 : I 5 j = nI (gh G j) := (hx.2.1 j hjm).2.1
    have h5a : I 5 a = nI (gh G a) := (hx.2.1 a ha).2.1
    have b1 := (hG.2.1 j hjm).2.1
    have b2 := (hG.2.1 a ha).2.1
    rw [r17_4]
    have ih := ih (j + 1) (by omega)
    rw [show rvF G a (j + 1) = if j ≠ a ∧ gh G j = gh G a then rvF G a j &&& ((1 : Int32) <<< (nI j &&& 31) ^^^ -1) else rvF G a j from rfl] at ih
    simp only [r17_5, r17_6, r17_9, r17_12, r17_13, r17_14, r17_17, r17_18, r17_21, r17_22, r17_23, r17_24, r17_27, r17_28, r17_29, r17_32, r17_33, r17_34, r17_35, r17_36, r17_37, r17_38, r17_39, r17_40, r17_43, s_1, s_2, s_3, s_8, s_16, s_18, s_23, s_24, s_33, s_38, s_41, s_161, f_1_0, f_1_1, f_1_4, f_1_5, f_1_8, f_1_9, f_1_10, f_1_11, f_1_12, f_1_13, f_2_0, f_2_1, f_3_3, f_3_4, f_3_5, f_3_6, f_8_2, f_8_3, f_8_4, f_8_5, f_16_2, f_18_3, f_18_4, f_18_5, f_18_6, f_23_0, f_23_1, f_23_2, f_23_3, f_23_4, f_24_2, f_24_3, f_24_4, f_24_5, f_33_3, f_33_4, f_33_5, f_33_6, f_38_1, f_38_2, f_41_0, f_161_0, f_161_1, f_161_3, f_161_7, f_161_12, f_161_13, f_161_14, f_161_15, f_161_16, f_161_17, f_161_18, f_161_19, f_161_21, f_161_22, f_161_25, true_and, and_true, true_or, or_true, if_true, if_false, ne_eq, not_false_eq_true, and_self, t10, am_psh, am_clr, not_true_eq_false, Nat.reduceEqDiff, hx.1.2.2, ix5 (L := L) j (by omega), ix5 (L := L) a (by omega), n_cl (show j < 2 ^ 31 by omega), n_cl (show a < 2 ^ 31 by omega), h5, h5a, nI_1]
    rw [if_neg (nI_ge hjm (by omega))]
    by_cases e1 : j = a
    · rw [if_pos (show nI j = nI a by rw [e1])]
      rw [if_neg (fun q => q.1 e1)] at ih
      exact ih
    · rw [if_neg (show ¬ nI j = nI a from fun q => e1 ((nI_eq (by omega) (by omega)).mp q))]
      by_cases e2 : gh G j = gh G a
      · rw [if_pos (show nI (gh G j) = nI (gh G a) by rw [e2])]
        rw [if_pos ⟨e1, e2⟩] at ih
        exact ih
      · rw [if_neg (show ¬ nI (gh G j) = nI (gh G a) from fun q => e2 ((nI_eq (by omega) (by omega)).mp q))]
        rw [if_neg (fun q => e2 q.2)] at ih
        exact ih
theorem c_rivals (hG : okG G) (hx : xG I 3 G) (ha : a < gm G) : am_C (d + 1) 17 [.ref 3, .int (nI a)] (cS L) I J Q = Q (some (.int (rvF G a (gm G)))) (cS L) I J := by
  rw [e17]
  simp only [r17_0, r17_1, r17_2, r17_3]
  exact rv_loop hG hx ha (gm G) 0 (by omega)
theorem rv_al {b : Nat} (hm : gm G ≤ 32) (hb : b < gm G) : alR G a b = bt (rvF G a (gm G)) b := by
  rw [rv_bt (by omega) _ hm]
  unfold alR
  by_cases e1 : b = a
  · simp [e1]
  · by_cases e2 : gh G b = gh G a
    · simp [e1, e2, hb]
    · simp [e2]
theorem c_cwi (hG : okG G) (hx : xG I 3 G) (ha : a < gm G) : ∃ I', (∀ Q, am_C (d + 6) 102 [.ref 1, .int (nI a)] (cS L) I J Q = Q (some (.int (amW G a))) (cS L) I' J) ∧ ∀ b, (b < 24 ∨ 32 < b) → I' b = I b := by
  have hm32 := hG.1.2.2.2
  have hgn := hG.1.2.1
  have hgr := hG.1.2.2.1
  have b2 := (hG.2.1 a ha).2.1
  have h5a : I 5 a = nI (gh G a) := (hx.2.1 a ha).2.1
  unfold amW
  by_cases e : gh G a = gr G
  · refine ⟨I, fun Q => ?_, fun _ _ => rfl⟩
    rw [if_pos e, e102]
    simp only [r102_0, r102_1, r102_4, r102_7, r102_10, r102_11, r102_12, r102_13, r102_16, r102_19, r102_22, r102_25, r102_27, s_1, s_2, s_3, s_8, s_16, s_18, s_23, s_24, s_33, s_38, s_41, s_161, f_1_0, f_1_1, f_1_4, f_1_5, f_1_8, f_1_9, f_1_10, f_1_11, f_1_12, f_1_13, f_2_0, f_2_1, f_3_3, f_3_4, f_3_5, f_3_6, f_8_2, f_8_3, f_8_4, f_8_5, f_16_2, f_18_3, f_18_4, f_18_5, f_18_6, f_23_0, f_23_1, f_23_2, f_23_3, f_23_4, f_24_2, f_24_3, f_24_4, f_24_5, f_33_3, f_33_4, f_33_5, f_33_6, f_38_1, f_38_2, f_41_0, f_161_0, f_161_1, f_161_3, f_161_7, f_161_12, f_161_13, f_161_14, f_161_15, f_161_16, f_161_17, f_161_18, f_161_19, f_161_21, f_161_22, f_161_25, true_and, and_true, true_or, or_true, if_true, if_false, ne_eq, not_false_eq_true, and_self, t10, am_psh, am_clr, not_true_eq_false, Nat.reduceEqDiff, ix5 (L := L) a (by omega), n_cl (show a < 2 ^ 31 by omega), h5a, hx.1.2.1]
    rw [if_pos (show nI (gh G a) = nI (gr G) by rw [e])]
  · obtain ⟨I1, k1, k2⟩ := c_among (d := d) (L := L) (J := J) (I := I) (x := rvF G a (gm G)) (al := alR G a) hG hx (fun b hb => rv_al hm32 hb)
    refine ⟨I1, fun Q => ?_, k2⟩
    rw [if_neg e, e102]
    simp only [r102_0, r102_1, r102_4, r102_7, r102_10, r102_11, r102_12, r102_13, r102_16, r102_19, r102_22, r102_25, r102_27, r102_28, r102_29, r102_30, r102_33, r102_36, r102_37, s_1, s_2, s_3, s_8, s_16, s_18, s_23, s_24, s_33, s_38, s_41, s_161, f_1_0, f_1_1, f_1_4, f_1_5, f_1_8, f_1_9, f_1_10, f_1_11, f_1_12, f_1_13, f_2_0, f_2_1, f_3_3, f_3_4, f_3_5, f_3_6, f_8_2, f_8_3, f_8_4, f_8_5, f_16_2, f_18_3, f_18_4, f_18_5, f_18_6, f_23_0, f_23_1, f_23_2, f_23_3, f_23_4, f_24_2, f_24_3, f_24_4, f_24_5, f_33_3, f_33_4, f_33_5, f_33_6, f_38_1, f_38_2, f_41_0, f_161_0, f_161_1, f_161_3, f_161_7, f_161_12, f_161_13, f_161_14, f_161_15, f_161_16, f_161_17, f_161_18, f_161_19, f_161_21, f_161_22, f_161_25, true_and, and_true, true_or, or_true, if_true, if_false, ne_eq, not_false_eq_true, and_self, t10, am_psh, am_clr, not_true_eq_false, Nat.reduceEqDiff, ix5 (L := L) a (by omega), n_cl (show a < 2 ^ 31 by omega), h5a, hx.1.2.1]
    rw [if_neg (show ¬ nI (gh G a) = nI (gr G) from fun q => e ((nI_eq (by omega) (by omega)).mp q)), c_rivals hG hx ha]
    simp only [r102_40, s_1, s_2, s_3, s_8, s_16, s_18, s_23, s_24, s_33, s_38, s_41, s_161, f_1_0, f_1_1, f_1_4, f_1_5, f_1_8, f_1_9, f_1_10, f_1_11, f_1_12, f_1_13, f_2_0, f_2_1, f_3_3, f_3_4, f_3_5, f_3_6, f_8_2, f_8_3, f_8_4, f_8_5, f_16_2, f_18_3, f_18_4, f_18_5, f_18_6, f_23_0, f_23_1, f_23_2, f_23_3, f_23_4, f_24_2, f_24_3, f_24_4, f_24_5, f_33_3, f_33_4, f_33_5, f_33_6, f_38_1, f_38_2, f_41_0, f_161_0, f_161_1, f_161_3, f_161_7, f_161_12, f_161_13, f_161_14, f_161_15, f_161_16, f_161_17, f_161_18, f_161_19, f_161_21, f_161_22, f_161_25, true_and, and_true, true_or, or_true, if_true, if_false, ne_eq, not_false_eq_true, and_self, t10, am_psh, am_clr, not_true_eq_false, Nat.reduceEqDiff]
    rw [k1]
    simp only [r102_43, s_1, s_2, s_3, s_8, s_16, s_18, s_23, s_24, s_33, s_38, s_41, s_161, f_1_0, f_1_1, f_1_4, f_1_5, f_1_8, f_1_9, f_1_10, f_1_11, f_1_12, f_1_13, f_2_0, f_2_1, f_3_3, f_3_4, f_3_5, f_3_6, f_8_2, f_8_3, f_8_4, f_8_5, f_16_2, f_18_3, f_18_4, f_18_5, f_18_6, f_23_0, f_23_1, f_23_2, f_23_3, f_23_4, f_24_2, f_24_3, f_24_4, f_24_5, f_33_3, f_33_4, f_33_5, f_33_6, f_38_1, f_38_2, f_41_0, f_161_0, f_161_1, f_161_3, f_161_7, f_161_12, f_161_13, f_161_14, f_161_15, f_161_16, f_161_17, f_161_18, f_161_19, f_161_21, f_161_22, f_161_25, true_and, and_true, true_or, or_true, if_true, if_false, ne_eq, not_false_eq_true, and_self, t10, am_psh, am_clr, not_true_eq_false, Nat.reduceEqDiff]
-- the model
theorem c_mamo (hG : okG G) (hm : mG (I 162) G) (hp : mP I G (coG G) al) : ∃ I', (∀ Q, am_C (d + 4) 149 [.ref 161] (cS L) I J Q = Q (some (.int (oB (conF G (coG G) al 15 (con0 G))))) (cS L) I' J) ∧ (∀ b, b ≠ 161 → (b < 169 ∨ 173 < b) → I' b = I b) ∧ (∀ j, j ≠ 20 → I' 161 j = I 161 j) ∧ ∀ s, conF G (coG G) al 15 (con0 G) = some s → ∀ (d : Nat) Q, am_C (d + 1) 151 [.ref 161] (cS L) I' J Q = Q (some (.int (amo G al))) (cS L) I' J := by
  obtain ⟨I1, k1, k2, k3, k4⟩ := c_contracts (d := d) (L := L) (J := J) (I := I) (pr := coG G) (al := al) hG hm hp
  refine ⟨I1, k1, k2, k3, fun s hs d Q => ?_⟩
  rw [hs] at k4
  obtain ⟨h1, h2⟩ := conF_ok hG 15 _ _ (cOK_0 hG) hs
  obtain ⟨r1, r2⟩ := mres_rec (R := recOf G s) hG hs k4
  rw [amo_s hs]
  exact c_sum hG (by rw [k2 162 (by omega) (by omega)]; exact hm) (okR_T (recOf_ok hG h1 h2)) (fun v hv hr => by rw [r2 v hv, if_neg hr]) (fun b hb => by rw [k2 167 (by omega) (by omega)]; exact (hp b hb).1)
theorem c_mwo (hG : okG G) (hm : mG (I 162) G) (ha : a < gm G) : ∃ I', (∀ Q, am_C (d + 5) 164 [.ref 161, .int (nI a)] (cS L) I J Q = Q (some (.int (amo G (alW a)))) (cS L) I' J) ∧ (∀ b, b ≠ 161 → (b < 167 ∨ 173 < b) → I' b = I b) ∧ ∀ j, j ≠ 20 → I' 161 j = I 161 j := by
  have hm32 := hG.1.2.2.2
  obtain ⟨I1, u1, u2, u3⟩ := c_useAll (d := d + 3) (L := L) (J := J) (I := I) hG hm
  obtain ⟨I2, k1, k2, k3, k4⟩ := c_mamo (d := d) (L := L) (J := J) (I := am_up I1 168 a 0) (al := alW a) hG (by rw [am_up_ne (by omega), u2 162 (by omega) (by omega)]; exact hm) (fun b hb => by
    rw [am_up_ne (by omega)]
    refine ⟨(u3 b hb).1, ?_⟩
    by_cases e : b = a
    · rw [e, up_self, b32_F (show ¬ alW a a = true from fun q => (of_decide_eq_true q) rfl)]
    · rw [up_ne _ _ (Or.inr e), (u3 b hb).2, b32_T (show alW a b = true from decide_eq_true e)])
  refine ⟨I2, fun Q => ?_, fun b b1 b2 => by rw [k2 b b1 (by omega), am_up_ne (by omega), u2 b (by omega) (by omega)], fun j hj => by rw [k3 j hj, am_up_ne (by omega), u2 161 (by omega) (by omega)]⟩
  rw [e164]
  simp only [r164_0, r164_1, s_1, s_2, s_3, s_8, s_16, s_18, s_23, s_24, s_33, s_38, s_41, s_161, f_1_0, f_1_1, f_1_4, f_1_5, f_1_8, f_1_9, f_1_10, f_1_11, f_1_12, f_1_13, f_2_0, f_2_1, f_3_3, f_3_4, f_3_5, f_3_6, f_8_2, f_8_3, f_8_4, f_8_5, f_16_2, f_18_3, f_18_4, f_18_5, f_18_6, f_23_0, f_23_1, f_23_2, f_23_3, f_23_4, f_24_2, f_24_3, f_24_4, f_24_5, f_33_3, f_33_4, f_33_5, f_33_6, f_38_1, f_38_2, f_41_0, f_161_0, f_161_1, f_161_3, f_161_7, f_161_12, f_161_13, f_161_14, f_161_15, f_161_16, f_161_17, f_161_18, f_161_19, f_161_21, f_161_22, f_161_25, true_and, and_true, true_or, or_true, if_true, if_false, ne_eq, not_false_eq_true, and_self, t10, am_psh, am_clr, not_true_eq_false, Nat.reduceEqDiff]
  rw [u1]
  simp only [r164_4, r164_5, r164_8, r164_9, r164_10, r164_11, r164_12, s_1, s_2, s_3, s_8, s_16, s_18, s_23, s_24, s_33, s_38, s_41, s_161, f_1_0, f_1_1, f_1_4, f_1_5, f_1_8, f_1_9, f_1_10, f_1_11, f_1_12, f_1_13, f_2_0, f_2_1, f_3_3, f_3_4, f_3_5, f_3_6, f_8_2, f_8_3, f_8_4, f_8_5, f_16_2, f_18_3, f_18_4, f_18_5, f_18_6, f_23_0, f_23_1, f_23_2, f_23_3, f_23_4, f_24_2, f_24_3, f_24_4, f_24_5, f_33_3, f_33_4, f_33_5, f_33_6, f_38_1, f_38_2, f_41_0, f_161_0, f_161_1, f_161_3, f_161_7, f_161_12, f_161_13, f_161_14, f_161_15, f_161_16, f_161_17, f_161_18, f_161_19, f_161_21, f_161_22, f_161_25, true_and, and_true, true_or, or_true, if_true, if_false, ne_eq, not_false_eq_true, and_self, t10, am_psh, am_clr, not_true_eq_false, Nat.reduceEqDiff, iw168 (L := L) a (by omega), n_cl (show a < 2 ^ 31 by omega), t01]
  rw [k1]
  cases hc : conF G (coG G) (alW a) 15 (con0 G) with
  | none =>
    rw [amo_n hc]
    simp only [r164_15, r164_18, r164_19, r164_22, r164_25, r164_27, s_1, s_2, s_3, s_8, s_16, s_18, s_23, s_24, s_33, s_38, s_41, s_161, f_1_0, f_1_1, f_1_4, f_1_5, f_1_8, f_1_9, f_1_10, f_1_11, f_1_12, f_1_13, f_2_0, f_2_1, f_3_3, f_3_4, f_3_5, f_3_6, f_8_2, f_8_3, f_8_4, f_8_5, f_16_2, f_18_3, f_18_4, f_18_5, f_18_6, f_23_0, f_23_1, f_23_2, f_23_3, f_23_4, f_24_2, f_24_3, f_24_4, f_24_5, f_33_3, f_33_4, f_33_5, f_33_6, f_38_1, f_38_2, f_41_0, f_161_0, f_161_1, f_161_3, f_161_7, f_161_12, f_161_13, f_161_14, f_161_15, f_161_16, f_161_17, f_161_18, f_161_19, f_161_21, f_161_22, f_161_25, true_and, and_true, true_or, or_true, if_true, if_false, ne_eq, not_false_eq_true, and_self, t10, am_psh, am_clr, not_true_eq_false, Nat.reduceEqDiff, oB]
  | some s =>
    simp only [r164_15, r164_18, r164_19, s_1, s_2, s_3, s_8, s_16, s_18, s_23, s_24, s_33, s_38, s_41, s_161, f_1_0, f_1_1, f_1_4, f_1_5, f_1_8, f_1_9, f_1_10, f_1_11, f_1_12, f_1_13, f_2_0, f_2_1, f_3_3, f_3_4, f_3_5, f_3_6, f_8_2, f_8_3, f_8_4, f_8_5, f_16_2, f_18_3, f_18_4, f_18_5, f_18_6, f_23_0, f_23_1, f_23_2, f_23_3, f_23_4, f_24_2, f_24_3, f_24_4, f_24_5, f_33_3, f_33_4, f_33_5, f_33_6, f_38_1, f_38_2, f_41_0, f_161_0, f_161_1, f_161_3, f_161_7, f_161_12, f_161_13, f_161_14, f_161_15, f_161_16, f_161_17, f_161_18, f_161_19, f_161_21, f_161_22, f_161_25, true_and, and_true, true_or, or_true, if_true, if_false, ne_eq, not_false_eq_true, and_self, t10, am_psh, am_clr, not_true_eq_false, Nat.reduceEqDiff, oB]
    rw [k4 s hc]
    simp only [r164_22, r164_25, r164_27, s_1, s_2, s_3, s_8, s_16, s_18, s_23, s_24, s_33, s_38, s_41, s_161, f_1_0, f_1_1, f_1_4, f_1_5, f_1_8, f_1_9, f_1_10, f_1_11, f_1_12, f_1_13, f_2_0, f_2_1, f_3_3, f_3_4, f_3_5, f_3_6, f_8_2, f_8_3, f_8_4, f_8_5, f_16_2, f_18_3, f_18_4, f_18_5, f_18_6, f_23_0, f_23_1, f_23_2, f_23_3, f_23_4, f_24_2, f_24_3, f_24_4, f_24_5, f_33_3, f_33_4, f_33_5, f_33_6, f_38_1, f_38_2, f_41_0, f_161_0, f_161_1, f_161_3, f_161_7, f_161_12, f_161_13, f_161_14, f_161_15, f_161_16, f_161_17, f_161_18, f_161_19, f_161_21, f_161_22, f_161_25, true_and, and_true, true_or, or_true, if_true, if_false, ne_eq, not_false_eq_true, and_self, t10, am_psh, am_clr, not_true_eq_false, Nat.reduceEqDiff]
theorem wi_loop (hG : okG G) (hm : mG (I 162) G) (ha : a < gm G) : ∀ (n j : Nat) (K : am_I), j + n = gm G → (∀ b, b ≠ 168 → K b = I b) → (∀ b, b < j → K 168 b = b32 (alR G a b = true)) → ∃ I', (∀ Q, am_T d 165 6 [some (.ref 161), some (.int (nI a)), some (.int (nI j))] [] (cS L) K J Q = am_T d 165 59 [some (.ref 161), some (.int (nI a)), some (.int (nI (gm G)))] [] (cS L) I' J Q) ∧ (∀ b, b ≠ 168 → I' b = I b) ∧ ∀ b, b < gm G → I' 168 b = b32 (alR G a b = true) := by
  have hm32 := hG.1.2.2.2
  have hgn := hG.1.2.1
  have y2 : am_ix (cS L) 162 20 2 := mx 2 (by omega)
  intro n
  induction n with
  | zero =>
    intro j K hj hf h
    have : j = gm G := by omega
    subst this
    refine ⟨K, fun Q => ?_, hf, h⟩
    rw [r165_6]
    simp only [r165_7, r165_8, r165_11, r165_12, r165_13, s_1, s_2, s_3, s_8, s_16, s_18, s_23, s_24, s_33, s_38, s_41, s_161, f_1_0, f_1_1, f_1_4, f_1_5, f_1_8, f_1_9, f_1_10, f_1_11, f_1_12, f_1_13, f_2_0, f_2_1, f_3_3, f_3_4, f_3_5, f_3_6, f_8_2, f_8_3, f_8_4, f_8_5, f_16_2, f_18_3, f_18_4, f_18_5, f_18_6, f_23_0, f_23_1, f_23_2, f_23_3, f_23_4, f_24_2, f_24_3, f_24_4, f_24_5, f_33_3, f_33_4, f_33_5, f_33_6, f_38_1, f_38_2, f_41_0, f_161_0, f_161_1, f_161_3, f_161_7, f_161_12, f_161_13, f_161_14, f_161_15, f_161_16, f_161_17, f_161_18, f_161_19, f_161_21, f_161_22, f_161_25, true_and, and_true, true_or, or_true, if_true, if_false, ne_eq, not_false_eq_true, and_self, t10, am_psh, am_clr, not_true_eq_false, Nat.reduceEqDiff, y2, show (2 : Int32).toNatClampNeg = 2 from by decide, hf 162 (by omega), hm.1.2.2]
    rw [if_pos (Int32.le_refl _)]
  | succ n ih =>
    intro j K hj hf h
    have hjm : j < gm G := by omega
    have h5 : I 162 (35 + j) = nI (gh G j) := (hm.2.1 j hjm).2.1
    have h5a : I 162 (35 + a) = nI (gh G a) := (hm.2.1 a ha).2.1
    have b1 := (hG.2.1 j hjm).2.1
    have b2 := (hG.2.1 a ha).2.1
    obtain ⟨I', k1, k2, k3⟩ := ih (j + 1) (am_up K 168 j (b32 (alR G a j = true))) (by omega) (fun b hb => by rw [am_up_ne hb]; exact hf b hb) (fun b hb => by
      by_cases e : b = j
      · subst e; rw [up_self]
      · rw [up_ne _ _ (Or.inr e)]; exact h b (by omega))
    refine ⟨I', fun Q => ?_, k2, k3⟩
    have k1 := k1 Q
    rw [r165_6]
    simp only [r165_7, r165_8, r165_11, r165_12, r165_13, r165_16, r165_17, r165_20, r165_21, r165_22, r165_23, r165_26, r165_27, r165_30, r165_32, r165_33, r165_34, r165_35, r165_36, r165_39, r165_41, r165_42, r165_43, r165_44, r165_47, r165_48, r165_51, r165_52, r165_53, r165_56, s_1, s_2, s_3, s_8, s_16, s_18, s_23, s_24, s_33, s_38, s_41, s_161, f_1_0, f_1_1, f_1_4, f_1_5, f_1_8, f_1_9, f_1_10, f_1_11, f_1_12, f_1_13, f_2_0, f_2_1, f_3_3, f_3_4, f_3_5, f_3_6, f_8_2, f_8_3, f_8_4, f_8_5, f_16_2, f_18_3, f_18_4, f_18_5, f_18_6, f_23_0, f_23_1, f_23_2, f_23_3, f_23_4, f_24_2, f_24_3, f_24_4, f_24_5, f_33_3, f_33_4, f_33_5, f_33_6, f_38_1, f_38_2, f_41_0, f_161_0, f_161_1, f_161_3, f_161_7, f_161_12, f_161_13, f_161_14, f_161_15, f_161_16, f_161_17, f_161_18, f_161_19, f_161_21, f_161_22, f_161_25, true_and, and_true, true_or, or_true, if_true, if_false, ne_eq, not_false_eq_true, and_self, t10, am_psh, am_clr, not_true_eq_false, Nat.reduceEqDiff, y2, show (2 : Int32).toNatClampNeg = 2 from by decide, hf 162 (by omega), hm.1.2.2, show (35 : Int32) + nI j = nI (35 + j) from nI_add 35 j, show (35 : Int32) + nI a = nI (35 + a) from nI_add 35 a, mx (L := L) (35 + j) (by omega), mx (L := L) (35 + a) (by omega), n_cl (show 35 + j < 2 ^ 31 by omega), n_cl (show 35 + a < 2 ^ 31 by omega), h5, h5a, iw168 (L := L) j (by omega), n_cl (show j < 2 ^ 31 by omega), nI_1, t01, t11]
    rw [if_neg (nI_ge hjm (by omega))]
    by_cases e1 : j = a
    · rw [if_pos (show nI j = nI a by rw [e1])]
      rw [b32_T (show alR G a j = true from decide_eq_true (Or.inl e1))] at k1
      exact k1
    · rw [if_neg (show ¬ nI j = nI a from fun q => e1 ((nI_eq (by omega) (by omega)).mp q))]
      by_cases e2 : gh G j = gh G a
      · rw [if_pos (show nI (gh G j) = nI (gh G a) by rw [e2])]
        rw [b32_F (show ¬ alR G a j = true from fun q => by rcases of_decide_eq_true q with z | z; exact e1 z; exact z e2)] at k1
        exact k1
      · rw [if_neg (show ¬ nI (gh G j) = nI (gh G a) from fun q => e2 ((nI_eq (by omega) (by omega)).mp q))]
        rw [b32_T (show alR G a j = true from decide_eq_true (Or.inr e2))] at k1
        exact k1
theorem c_mwi (hG : okG G) (hm : mG (I 162) G) (ha : a < gm G) : ∃ I', (∀ Q, am_C (d + 5) 165 [.ref 161, .int (nI a)] (cS L) I J Q = Q (some (.int (amW G a))) (cS L) I' J) ∧ (∀ b, b ≠ 161 → (b < 167 ∨ 173 < b) → I' b = I b) ∧ ∀ j, j ≠ 20 → I' 161 j = I 161 j := by
  have hm32 := hG.1.2.2.2
  have hgn := hG.1.2.1
  have hgr := hG.1.2.2.1
  have b2 := (hG.2.1 a ha).2.1
  have y1 : am_ix (cS L) 162 20 1 := mx 1 (by omega)
  obtain ⟨I1, u1, u2, u3⟩ := c_useAll (d := d + 3) (L := L) (J := J) (I := I) hG hm
  obtain ⟨I2, w1, w2, w3⟩ := wi_loop (d := d + 4) (L := L) (J := J) (I := I1) hG (by rw [u2 162 (by omega) (by omega)]; exact hm) ha (gm G) 0 I1 (by omega) (fun _ _ => rfl) (fun b hb => absurd hb (Nat.not_lt_zero b))
  have f162 : I2 162 = I 162 := by rw [w2 162 (by omega), u2 162 (by omega) (by omega)]
  have h5a : I2 162 (35 + a) = nI (gh G a) := by rw [f162]; exact (hm.2.1 a ha).2.1
  have h1 : I2 162 1 = nI (gr G) := by rw [f162]; exact hm.1.2.1
  have run : ∀ Q, am_C (d + 5) 165 [.ref 161, .int (nI a)] (cS L) I J Q = if nI (gh G a) = nI (gr G) then am_T (d + 4) 165 91 [some (.ref 161), some (.int (nI a)), some (.int (nI (gm G)))] [] (cS L) I2 J Q else am_T (d + 4) 165 77 [some (.ref 161), some (.int (nI a)), some (.int (nI (gm G)))] [] (cS L) I2 J Q := fun Q => by
    rw [e165]
    simp only [r165_0, r165_1, s_1, s_2, s_3, s_8, s_16, s_18, s_23, s_24, s_33, s_38, s_41, s_161, f_1_0, f_1_1, f_1_4, f_1_5, f_1_8, f_1_9, f_1_10, f_1_11, f_1_12, f_1_13, f_2_0, f_2_1, f_3_3, f_3_4, f_3_5, f_3_6, f_8_2, f_8_3, f_8_4, f_8_5, f_16_2, f_18_3, f_18_4, f_18_5, f_18_6, f_23_0, f_23_1, f_23_2, f_23_3, f_23_4, f_24_2, f_24_3, f_24_4, f_24_5, f_33_3, f_33_4, f_33_5, f_33_6, f_38_1, f_38_2, f_41_0, f_161_0, f_161_1, f_161_3, f_161_7, f_161_12, f_161_13, f_161_14, f_161_15, f_161_16, f_161_17, f_161_18, f_161_19, f_161_21, f_161_22, f_161_25, true_and, and_true, true_or, or_true, if_true, if_false, ne_eq, not_false_eq_true, and_self, t10, am_psh, am_clr, not_true_eq_false, Nat.reduceEqDiff]
    rw [u1]
    simp only [r165_4, r165_5, s_1, s_2, s_3, s_8, s_16, s_18, s_23, s_24, s_33, s_38, s_41, s_161, f_1_0, f_1_1, f_1_4, f_1_5, f_1_8, f_1_9, f_1_10, f_1_11, f_1_12, f_1_13, f_2_0, f_2_1, f_3_3, f_3_4, f_3_5, f_3_6, f_8_2, f_8_3, f_8_4, f_8_5, f_16_2, f_18_3, f_18_4, f_18_5, f_18_6, f_23_0, f_23_1, f_23_2, f_23_3, f_23_4, f_24_2, f_24_3, f_24_4, f_24_5, f_33_3, f_33_4, f_33_5, f_33_6, f_38_1, f_38_2, f_41_0, f_161_0, f_161_1, f_161_3, f_161_7, f_161_12, f_161_13, f_161_14, f_161_15, f_161_16, f_161_17, f_161_18, f_161_19, f_161_21, f_161_22, f_161_25, true_and, and_true, true_or, or_true, if_true, if_false, ne_eq, not_false_eq_true, and_self, t10, am_psh, am_clr, not_true_eq_false, Nat.reduceEqDiff]
    refine Eq.trans (w1 Q) ?_
    simp only [r165_59, r165_60, r165_63, r165_65, r165_66, r165_67, r165_68, r165_69, r165_72, r165_73, r165_74, s_1, s_2, s_3, s_8, s_16, s_18, s_23, s_24, s_33, s_38, s_41, s_161, f_1_0, f_1_1, f_1_4, f_1_5, f_1_8, f_1_9, f_1_10, f_1_11, f_1_12, f_1_13, f_2_0, f_2_1, f_3_3, f_3_4, f_3_5, f_3_6, f_8_2, f_8_3, f_8_4, f_8_5, f_16_2, f_18_3, f_18_4, f_18_5, f_18_6, f_23_0, f_23_1, f_23_2, f_23_3, f_23_4, f_24_2, f_24_3, f_24_4, f_24_5, f_33_3, f_33_4, f_33_5, f_33_6, f_38_1, f_38_2, f_41_0, f_161_0, f_161_1, f_161_3, f_161_7, f_161_12, f_161_13, f_161_14, f_161_15, f_161_16, f_161_17, f_161_18, f_161_19, f_161_21, f_161_22, f_161_25, true_and, and_true, true_or, or_true, if_true, if_false, ne_eq, not_false_eq_true, and_self, t10, am_psh, am_clr, not_true_eq_false, Nat.reduceEqDiff, show (35 : Int32) + nI a = nI (35 + a) from nI_add 35 a, mx (L := L) (35 + a) (by omega), n_cl (show 35 + a < 2 ^ 31 by omega), h5a, y1, show (1 : Int32).toNatClampNeg = 1 from by decide, h1]
  unfold amW
  by_cases e : gh G a = gr G
  · refine ⟨I2, fun Q => ?_, fun b b1 b2 => by rw [w2 b (by omega), u2 b (by omega) (by omega)], fun j hj => by rw [w2 161 (by omega), u2 161 (by omega) (by omega)]⟩
    rw [run, if_pos (show nI (gh G a) = nI (gr G) by rw [e]), if_pos e]
    simp only [r165_91, r165_93, s_1, s_2, s_3, s_8, s_16, s_18, s_23, s_24, s_33, s_38, s_41, s_161, f_1_0, f_1_1, f_1_4, f_1_5, f_1_8, f_1_9, f_1_10, f_1_11, f_1_12, f_1_13, f_2_0, f_2_1, f_3_3, f_3_4, f_3_5, f_3_6, f_8_2, f_8_3, f_8_4, f_8_5, f_16_2, f_18_3, f_18_4, f_18_5, f_18_6, f_23_0, f_23_1, f_23_2, f_23_3, f_23_4, f_24_2, f_24_3, f_24_4, f_24_5, f_33_3, f_33_4, f_33_5, f_33_6, f_38_1, f_38_2, f_41_0, f_161_0, f_161_1, f_161_3, f_161_7, f_161_12, f_161_13, f_161_14, f_161_15, f_161_16, f_161_17, f_161_18, f_161_19, f_161_21, f_161_22, f_161_25, true_and, and_true, true_or, or_true, if_true, if_false, ne_eq, not_false_eq_true, and_self, t10, am_psh, am_clr, not_true_eq_false, Nat.reduceEqDiff]
  · obtain ⟨I3, k1, k2, k3, k4⟩ := c_mamo (d := d) (L := L) (J := J) (I := I2) (al := alR G a) hG (by rw [f162]; exact hm) (fun b hb => ⟨by rw [w2 167 (by omega)]; exact (u3 b hb).1, w3 b hb⟩)
    refine ⟨I3, fun Q => ?_, fun b b1 b2 => by rw [k2 b b1 (by omega), w2 b (by omega), u2 b (by omega) (by omega)], fun j hj => by rw [k3 j hj, w2 161 (by omega), u2 161 (by omega) (by omega)]⟩
    rw [run, if_neg (show ¬ nI (gh G a) = nI (gr G) from fun q => e ((nI_eq (by omega) (by omega)).mp q)), if_neg e]
    simp only [r165_77, r165_78, s_1, s_2, s_3, s_8, s_16, s_18, s_23, s_24, s_33, s_38, s_41, s_161, f_1_0, f_1_1, f_1_4, f_1_5, f_1_8, f_1_9, f_1_10, f_1_11, f_1_12, f_1_13, f_2_0, f_2_1, f_3_3, f_3_4, f_3_5, f_3_6, f_8_2, f_8_3, f_8_4, f_8_5, f_16_2, f_18_3, f_18_4, f_18_5, f_18_6, f_23_0, f_23_1, f_23_2, f_23_3, f_23_4, f_24_2, f_24_3, f_24_4, f_24_5, f_33_3, f_33_4, f_33_5, f_33_6, f_38_1, f_38_2, f_41_0, f_161_0, f_161_1, f_161_3, f_161_7, f_161_12, f_161_13, f_161_14, f_161_15, f_161_16, f_161_17, f_161_18, f_161_19, f_161_21, f_161_22, f_161_25, true_and, and_true, true_or, or_true, if_true, if_false, ne_eq, not_false_eq_true, and_self, t10, am_psh, am_clr, not_true_eq_false, Nat.reduceEqDiff]
    rw [k1]
    cases hc : conF G (coG G) (alR G a) 15 (con0 G) with
    | none =>
      rw [amo_n hc]
      simp only [r165_81, r165_84, r165_85, r165_88, r165_91, r165_93, s_1, s_2, s_3, s_8, s_16, s_18, s_23, s_24, s_33, s_38, s_41, s_161, f_1_0, f_1_1, f_1_4, f_1_5, f_1_8, f_1_9, f_1_10, f_1_11, f_1_12, f_1_13, f_2_0, f_2_1, f_3_3, f_3_4, f_3_5, f_3_6, f_8_2, f_8_3, f_8_4, f_8_5, f_16_2, f_18_3, f_18_4, f_18_5, f_18_6, f_23_0, f_23_1, f_23_2, f_23_3, f_23_4, f_24_2, f_24_3, f_24_4, f_24_5, f_33_3, f_33_4, f_33_5, f_33_6, f_38_1, f_38_2, f_41_0, f_161_0, f_161_1, f_161_3, f_161_7, f_161_12, f_161_13, f_161_14, f_161_15, f_161_16, f_161_17, f_161_18, f_161_19, f_161_21, f_161_22, f_161_25, true_and, and_true, true_or, or_true, if_true, if_false, ne_eq, not_false_eq_true, and_self, t10, am_psh, am_clr, not_true_eq_false, Nat.reduceEqDiff, oB]
    | some s =>
      simp only [r165_81, r165_84, r165_85, s_1, s_2, s_3, s_8, s_16, s_18, s_23, s_24, s_33, s_38, s_41, s_161, f_1_0, f_1_1, f_1_4, f_1_5, f_1_8, f_1_9, f_1_10, f_1_11, f_1_12, f_1_13, f_2_0, f_2_1, f_3_3, f_3_4, f_3_5, f_3_6, f_8_2, f_8_3, f_8_4, f_8_5, f_16_2, f_18_3, f_18_4, f_18_5, f_18_6, f_23_0, f_23_1, f_23_2, f_23_3, f_23_4, f_24_2, f_24_3, f_24_4, f_24_5, f_33_3, f_33_4, f_33_5, f_33_6, f_38_1, f_38_2, f_41_0, f_161_0, f_161_1, f_161_3, f_161_7, f_161_12, f_161_13, f_161_14, f_161_15, f_161_16, f_161_17, f_161_18, f_161_19, f_161_21, f_161_22, f_161_25, true_and, and_true, true_or, or_true, if_true, if_false, ne_eq, not_false_eq_true, and_self, t10, am_psh, am_clr, not_true_eq_false, Nat.reduceEqDiff, oB]
      rw [k4 s hc]
      simp only [r165_88, r165_91, r165_93, s_1, s_2, s_3, s_8, s_16, s_18, s_23, s_24, s_33, s_38, s_41, s_161, f_1_0, f_1_1, f_1_4, f_1_5, f_1_8, f_1_9, f_1_10, f_1_11, f_1_12, f_1_13, f_2_0, f_2_1, f_3_3, f_3_4, f_3_5, f_3_6, f_8_2, f_8_3, f_8_4, f_8_5, f_16_2, f_18_3, f_18_4, f_18_5, f_18_6, f_23_0, f_23_1, f_23_2, f_23_3, f_23_4, f_24_2, f_24_3, f_24_4, f_24_5, f_33_3, f_33_4, f_33_5, f_33_6, f_38_1, f_38_2, f_41_0, f_161_0, f_161_1, f_161_3, f_161_7, f_161_12, f_161_13, f_161_14, f_161_15, f_161_16, f_161_17, f_161_18, f_161_19, f_161_21, f_161_22, f_161_25, true_and, and_true, true_or, or_true, if_true, if_false, ne_eq, not_false_eq_true, and_self, t10, am_psh, am_clr, not_true_eq_false, Nat.reduceEqDiff]
end AL
