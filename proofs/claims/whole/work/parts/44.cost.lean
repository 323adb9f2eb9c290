/-! setCost -/
def rdx (G : Gr) (R : Rc) (b : Nat) : Int32 := redN (nI (gc G b)) (rs R) (rd R) (gt G b) (gh G b) (rk R)
def setC (G : Gr) (a c : Nat) : Gr := (gn G, gr G, gm G, gt G, gh G, fset (gc G) a c, gl G)
def setD (R : Rc) (h : Nat) (x : Int32) : Rc := (rk R, rs R, fset (rd R) h (rd R h + x), rp R, rt R)
def andN (f : Nat → Int32) : Nat → Int32
  | 0 => 1
  | k + 1 => andN f k &&& f k
theorem andN_s (f : Nat → Int32) (k : Nat) : andN f (k + 1) = andN f k &&& f k := rfl
theorem andN_01 {f : Nat → Int32} : ∀ k, (∀ v, f v = 0 ∨ f v = 1) → andN f k = 0 ∨ andN f k = 1 := by
  intro k
  induction k with
  | zero => intro _; exact Or.inr rfl
  | succ k ih =>
    intro h
    rw [andN_s]
    rcases ih h with q | q <;> rcases h k with p | p <;> rw [q, p] <;> decide
theorem andN_z {f : Nat → Int32} {j : Nat} (h01 : ∀ v, f v = 0 ∨ f v = 1) (h : andN f j = 0) : ∀ n, andN f (j + n) = 0 := by
  intro n
  induction n with
  | zero => exact h
  | succ n ih =>
    rw [show j + (n + 1) = (j + n) + 1 from rfl, andN_s, ih]
    rcases h01 (j + n) with p | p <;> rw [p] <;> decide
def fA (G : Gr) (R : Rc) (a : Nat) : Nat → Int32 := fun b => b32 (b = a ∨ gh G b ≠ gh G a ∨ ¬ rdx G R b < 0)
def fC (G : Gr) (o : Option Rc) (a : Nat) (x : Int32) : Int32 × Option Rc := match o with
  | none => (0, none)
  | some R => if inTr G R a then (andN (fA G (setD R (gh G a) x) a) (gm G), some (setD R (gh G a) x)) else (b32 (¬ rdx G R a < 0), some R)
theorem fC_01 (G : Gr) (o : Option Rc) (a : Nat) (x : Int32) : (fC G o a x).1 = 0 ∨ (fC G o a x).1 = 1 := by
  unfold fC
  cases o with
  | none => exact Or.inl rfl
  | some R =>
    dsimp only
    by_cases e : inTr G R a
    · rw [if_pos e]; exact andN_01 _ (fun v => b32_01 _)
    · rw [if_neg e]; exact b32_01 _
theorem fC_ok {G : Gr} {o : Option Rc} {a : Nat} {x : Int32} (hok : okS (G, o)) : okS (G, (fC G o a x).2) := by
  refine ⟨hok.1, fun R' hR' => ?_⟩
  unfold fC at hR'
  cases o with
  | none => cases hR'
  | some R =>
    have hR := hok.2 R rfl
    dsimp only at hR'
    by_cases e : inTr G R a
    · rw [if_pos e] at hR'; cases hR'; exact hR
    · rw [if_neg e] at hR'; cases hR'; exact hR
theorem okG_set {G : Gr} {a c : Nat} (hG : okG G) (hc : c ≤ 99) : okG (setC G a c) := by
  refine ⟨hG.1, fun b hb => ?_, hG.2.2⟩
  obtain ⟨h1, h2, h3, h4⟩ := hG.2.1 b hb
  refine ⟨h1, h2, h3, ?_⟩
  show fset (gc G) a c b ≤ 99
  by_cases e : b = a
  · subst e; rw [fset_eq]; exact hc
  · rw [fset_ne _ _ e]; exact h4
section CO
variable {d L : Nat} {I I' : am_I} {J J' : am_J} {Q : am_Q}
theorem red_x {G : Gr} {R : Rc} {b : Nat} (hok : okG G) (hR : okR G R) (hx : xG I 3 G) (hr : xR I 8 G R) (hb : b < gm G) : am_C (d + 3) 33 [.ref 8, .ref 3, .int (nI b)] (cS L) I J Q = Q (some (.int (rdx G R b))) (cS L) I J := by
  have hm := hok.1.2.2.2
  obtain ⟨h1, h2, h3⟩ := hx.2.1 b hb
  rw [c_redOf (shG_3 L) (shR_8 L) (show b < 32 by omega) h1 h2 hR.1.2 hr.1, h3]
  congr 3
  exact redN_congr _ (fun g hg => ⟨(hr.2.1 g hg).1, (hr.2.1 g hg).2.1⟩)
theorem red_m {G : Gr} {R : Rc} {b : Nat} (hok : okG G) (hR : okR G R) (hx : mG (I 162) G) (hr : mR (I 162) G R) (hb : b < gm G) : am_C (d + 2) 153 [.ref 161, .int (nI b)] (cS L) I J Q = Q (some (.int (rdx G R b))) (cS L) I J := by
  have hm := hok.1.2.2.2
  obtain ⟨h1, h2, h3⟩ := hx.2.1 b hb
  rw [c_mred (show b < 32 by omega) h1 h2 hR.1.2 hr.1, h3]
  congr 3
  exact redN_congr _ (fun g hg => ⟨(hr.2.1 g hg).1, (hr.2.1 g hg).2.1⟩)
theorem fc_loop {G : Gr} {R : Rc} {a : Nat} {x : Int32} (hok : okG G) (hR : okR G R) (hx : xG I 3 G) (hr : xR I 8 G R) (ha : a < gm G) :
    ∀ (n j : Nat), j + n = gm G → andN (fA G R a) j = 1 → am_T (d + 3) 36 55 [some (.ref 8), some (.ref 3), some (.int (nI a)), some (.int x), some (.int (nI (gh G a))), some (.int (nI j))] [] (cS L) I J Q = Q (some (.int (andN (fA G R a) (gm G)))) (cS L) I J := by
  have hm := hok.1.2.2.2
  have hn := hok.1.2.1
  have h01 : ∀ v, fA G R a v = 0 ∨ fA G R a v = 1 := fun v => b32_01 _
  have hga : gh G a < gn G := (hok.2.1 a ha).2.1
  intro n
  induction n with
  | zero =>
    intro j hj h1
    have hj : j = gm G := by omega
    subst hj
    rw [r36_55]
    simp only [r36_57, r36_58, r36_61, r36_100, r36_101, s_1, s_2, s_3, s_8, s_16, s_18, s_23, s_24, s_33, s_38, s_41, s_161, f_1_0, f_1_1, f_1_4, f_1_5, f_1_8, f_1_9, f_1_10, f_1_11, f_1_12, f_1_13, f_2_0, f_2_1, f_3_3, f_3_4, f_3_5, f_3_6, f_8_2, f_8_3, f_8_4, f_8_5, f_16_2, f_18_3, f_18_4, f_18_5, f_18_6, f_23_0, f_23_1, f_23_2, f_23_3, f_23_4, f_24_2, f_24_3, f_24_4, f_24_5, f_33_3, f_33_4, f_33_5, f_33_6, f_38_1, f_38_2, f_41_0, f_161_0, f_161_1, f_161_3, f_161_7, f_161_12, f_161_13, f_161_14, f_161_15, f_161_16, f_161_17, f_161_18, f_161_19, f_161_21, f_161_22, f_161_25, true_and, and_true, true_or, or_true, if_true, if_false, ne_eq, not_false_eq_true, and_self, t10, am_psh, am_clr, not_true_eq_false, Nat.reduceEqDiff, hx.1.2.2, t11]
    rw [if_pos (Int32.le_refl _), h1]
  | succ n ih =>
    intro j hj h1
    have hj2 : j < gm G := by omega
    have hx5 : I 5 j = nI (gh G j) := (hx.2.1 j hj2).2.1
    have hgj : gh G j < gn G := (hok.2.1 j hj2).2.1
    have ih := ih (j + 1) (by omega)
    rw [andN_s, h1] at ih
    rw [r36_55]
    simp only [r36_57, r36_58, r36_61, r36_64, r36_66, r36_67, r36_70, r36_71, r36_74, r36_76, r36_77, r36_79, r36_82, r36_83, r36_84, r36_86, s_1, s_2, s_3, s_8, s_16, s_18, s_23, s_24, s_33, s_38, s_41, s_161, f_1_0, f_1_1, f_1_4, f_1_5, f_1_8, f_1_9, f_1_10, f_1_11, f_1_12, f_1_13, f_2_0, f_2_1, f_3_3, f_3_4, f_3_5, f_3_6, f_8_2, f_8_3, f_8_4, f_8_5, f_16_2, f_18_3, f_18_4, f_18_5, f_18_6, f_23_0, f_23_1, f_23_2, f_23_3, f_23_4, f_24_2, f_24_3, f_24_4, f_24_5, f_33_3, f_33_4, f_33_5, f_33_6, f_38_1, f_38_2, f_41_0, f_161_0, f_161_1, f_161_3, f_161_7, f_161_12, f_161_13, f_161_14, f_161_15, f_161_16, f_161_17, f_161_18, f_161_19, f_161_21, f_161_22, f_161_25, true_and, and_true, true_or, or_true, if_true, if_false, ne_eq, not_false_eq_true, and_self, t10, am_psh, am_clr, not_true_eq_false, Nat.reduceEqDiff, hx.1.2.2, show am_ix (cS L) 5 20 (nI j) from ix_nI (k_5 L) (n_5 L) (by omega) (by omega), n_cl (show j < 2 ^ 31 by omega), hx5, red_x hok hR hx hr hj2]
    rw [if_neg (nI_ge hj2 (by omega))]
    by_cases e1 : j = a
    · rw [if_pos (by rw [e1])]
      simp only [r36_94, r36_97, am_clr, nI_1]
      exact ih (by unfold fA; rw [b32_T (Or.inl e1)]; rfl)
    · rw [if_neg (fun q => e1 ((nI_eq (by omega) (by omega)).mp q))]
      by_cases e2 : gh G j = gh G a
      · rw [if_pos (by rw [e2])]
        by_cases e3 : rdx G R j < 0
        · simp only [r36_89, r36_92, r36_93, true_and, and_true, true_or, or_true, if_true, if_false, ne_eq, not_false_eq_true, and_self, t10, am_psh, am_clr, not_true_eq_false, Nat.reduceEqDiff, t01]
          rw [if_neg (Int32.not_le.mpr e3)]
          congr 3
          refine (?_ : andN (fA G R a) (gm G) = 0).symm
          have hz : andN (fA G R a) (j + 1) = 0 := by
            rw [andN_s, h1, show fA G R a j = 0 from b32_F (fun q => by rcases q with q | q | q; exact e1 q; exact q e2; exact q e3)]; rfl
          have := andN_z h01 hz n
          rw [show j + 1 + n = gm G by omega] at this
          exact this
        · simp only [r36_89, r36_92, r36_93, r36_94, r36_97, true_and, and_true, true_or, or_true, if_true, if_false, ne_eq, not_false_eq_true, and_self, t10, am_psh, am_clr, not_true_eq_false, Nat.reduceEqDiff, nI_1]
          rw [if_pos (Int32.not_lt.mp e3)]
          exact ih (by unfold fA; rw [b32_T (Or.inr (Or.inr e3))]; rfl)
      · rw [if_neg (fun q => e2 ((nI_eq (by omega) (by omega)).mp q))]
        simp only [r36_94, r36_97, am_clr, nI_1]
        exact ih (by unfold fA; rw [b32_T (Or.inr (Or.inl e2))]; rfl)
theorem c_followCost {G : Gr} {o : Option Rc} {a : Nat} {x : Int32} (hok : okS (G, o)) (hx : xS I 3 8 (G, o)) (ha : a < gm G) : ∃ I', (∀ Q, am_C (d + 4) 36 [.ref 8, .ref 3, .int (nI a), .int x] (cS L) I J Q = Q (some (.int (fC G o a x).1)) (cS L) I' J) ∧ (∀ b, b ≠ 10 → I' b = I b) ∧ xS I' 3 8 (G, (fC G o a x).2) := by
  have hm : gm G ≤ 32 := hok.1.1.2.2.2
  have hn : gn G ≤ 8 := hok.1.1.2.1
  cases o with
  | none =>
    have h8 : I 8 0 = 0 := hx.2
    refine ⟨I, fun Q => ?_, fun _ _ => rfl, hx⟩
    rw [e36]; simp only [r36_0, r36_1, r36_4, r36_7, r36_8, s_1, s_2, s_3, s_8, s_16, s_18, s_23, s_24, s_33, s_38, s_41, s_161, f_1_0, f_1_1, f_1_4, f_1_5, f_1_8, f_1_9, f_1_10, f_1_11, f_1_12, f_1_13, f_2_0, f_2_1, f_3_3, f_3_4, f_3_5, f_3_6, f_8_2, f_8_3, f_8_4, f_8_5, f_16_2, f_18_3, f_18_4, f_18_5, f_18_6, f_23_0, f_23_1, f_23_2, f_23_3, f_23_4, f_24_2, f_24_3, f_24_4, f_24_5, f_33_3, f_33_4, f_33_5, f_33_6, f_38_1, f_38_2, f_41_0, f_161_0, f_161_1, f_161_3, f_161_7, f_161_12, f_161_13, f_161_14, f_161_15, f_161_16, f_161_17, f_161_18, f_161_19, f_161_21, f_161_22, f_161_25, true_and, and_true, true_or, or_true, if_true, if_false, ne_eq, not_false_eq_true, and_self, t10, am_psh, am_clr, not_true_eq_false, Nat.reduceEqDiff, h8, t01]; rfl
  | some R =>
    have h8 : I 8 0 = 1 := hx.2.1
    have hR : okR G R := hok.2 R rfl
    have hcon := fun Q => c_contains (d := d + 2) (L := L) (J := J) (Q := Q) hok.1 hR hx.1 hx.2.2 ha
    by_cases e : inTr G R a
    · have hga : gh G a < gn G := (hok.1.2.1 a ha).2.1
      have hk := hR.1.1
      have hk2 := hR.1.2
      have hx5 : I 5 a = nI (gh G a) := (hx.1.2.1 a ha).2.1
      have hd : I 10 (gh G a) = rd R (gh G a) := (hx.2.2.2.1 (gh G a) (by omega)).2.1
      have hfC : fC G (some R) a x = (andN (fA G (setD R (gh G a) x) a) (gm G), some (setD R (gh G a) x)) := if_pos e
      have hx' : xG (am_up I 10 (gh G a) (rd R (gh G a) + x)) 3 G := xG_congr (fun b b1 b2 => am_up_ne (by omega)) hx.1
      have hr' : xR (am_up I 10 (gh G a) (rd R (gh G a) + x)) 8 G (setD R (gh G a) x) := by
        obtain ⟨y1, y2, y3, y4⟩ := hx.2
        refine ⟨by rw [am_up_ne (by omega)]; exact y2, fun g hg => ?_, fun v hv => by rw [am_up_ne (by omega)]; exact y4 v hv⟩
        obtain ⟨u1, u2, u3⟩ := y3 g hg
        refine ⟨by rw [am_up_ne (by omega)]; exact u1, ?_, by rw [am_up_ne (by omega)]; exact u3⟩
        show am_up I 10 (gh G a) (rd R (gh G a) + x) 10 g = fset (rd R) (gh G a) (rd R (gh G a) + x) g
        by_cases eg : g = gh G a
        · rw [eg, up_self, fset_eq]
        · rw [up_ne _ _ (Or.inr eg), fset_ne _ _ eg]; exact u2
      rw [hfC]
      refine ⟨am_up I 10 (gh G a) (rd R (gh G a) + x), fun Q => ?_, fun b hb => am_up_ne hb, ⟨hx', by rw [am_up_ne (by omega)]; exact h8, hr'⟩⟩
      rw [e36]; simp only [r36_0, r36_1, r36_4, r36_7, r36_8, r36_9, r36_10, r36_11, r36_12, s_1, s_2, s_3, s_8, s_16, s_18, s_23, s_24, s_33, s_38, s_41, s_161, f_1_0, f_1_1, f_1_4, f_1_5, f_1_8, f_1_9, f_1_10, f_1_11, f_1_12, f_1_13, f_2_0, f_2_1, f_3_3, f_3_4, f_3_5, f_3_6, f_8_2, f_8_3, f_8_4, f_8_5, f_16_2, f_18_3, f_18_4, f_18_5, f_18_6, f_23_0, f_23_1, f_23_2, f_23_3, f_23_4, f_24_2, f_24_3, f_24_4, f_24_5, f_33_3, f_33_4, f_33_5, f_33_6, f_38_1, f_38_2, f_41_0, f_161_0, f_161_1, f_161_3, f_161_7, f_161_12, f_161_13, f_161_14, f_161_15, f_161_16, f_161_17, f_161_18, f_161_19, f_161_21, f_161_22, f_161_25, true_and, and_true, true_or, or_true, if_true, if_false, ne_eq, not_false_eq_true, and_self, t10, am_psh, am_clr, not_true_eq_false, Nat.reduceEqDiff, h8]
      rw [hcon, b32_T (p := inTr G R a) e]; simp only [r36_15, r36_18, r36_19, r36_20, r36_21, r36_24, r36_27, r36_28, r36_31, r36_32, r36_33, r36_34, r36_37, r36_38, r36_39, r36_41, r36_42, r36_45, r36_47, r36_48, r36_49, r36_50, r36_51, r36_52, r36_53, s_1, s_2, s_3, s_8, s_16, s_18, s_23, s_24, s_33, s_38, s_41, s_161, f_1_0, f_1_1, f_1_4, f_1_5, f_1_8, f_1_9, f_1_10, f_1_11, f_1_12, f_1_13, f_2_0, f_2_1, f_3_3, f_3_4, f_3_5, f_3_6, f_8_2, f_8_3, f_8_4, f_8_5, f_16_2, f_18_3, f_18_4, f_18_5, f_18_6, f_23_0, f_23_1, f_23_2, f_23_3, f_23_4, f_24_2, f_24_3, f_24_4, f_24_5, f_33_3, f_33_4, f_33_5, f_33_6, f_38_1, f_38_2, f_41_0, f_161_0, f_161_1, f_161_3, f_161_7, f_161_12, f_161_13, f_161_14, f_161_15, f_161_16, f_161_17, f_161_18, f_161_19, f_161_21, f_161_22, f_161_25, true_and, and_true, true_or, or_true, if_true, if_false, ne_eq, not_false_eq_true, and_self, t10, am_psh, am_clr, not_true_eq_false, Nat.reduceEqDiff, show am_ix (cS L) 5 20 (nI a) from ix_nI (k_5 L) (n_5 L) (by omega) (by omega), n_cl (show a < 2 ^ 31 by omega), hx5, show am_ix (cS L) 10 20 (nI (gh G a)) from ix_nI (k_10 L) (n_10 L) (by omega) (by omega), show am_ixw (cS L) 10 20 (nI (gh G a)) from ixw_nI (k_10 L) (by omega) (n_10 L) (by omega) (by omega), n_cl (show gh G a < 2 ^ 31 by omega), hd]
      exact fc_loop (G := G) (R := setD R (gh G a) x) hok.1 hR hx' hr' ha (gm G) 0 (by omega) rfl
    · have hfC : fC G (some R) a x = (b32 (¬ rdx G R a < 0), some R) := if_neg e
      rw [hfC]
      refine ⟨I, fun Q => ?_, fun _ _ => rfl, hx⟩
      rw [e36]; simp only [r36_0, r36_1, r36_4, r36_7, r36_8, r36_9, r36_10, r36_11, r36_12, s_1, s_2, s_3, s_8, s_16, s_18, s_23, s_24, s_33, s_38, s_41, s_161, f_1_0, f_1_1, f_1_4, f_1_5, f_1_8, f_1_9, f_1_10, f_1_11, f_1_12, f_1_13, f_2_0, f_2_1, f_3_3, f_3_4, f_3_5, f_3_6, f_8_2, f_8_3, f_8_4, f_8_5, f_16_2, f_18_3, f_18_4, f_18_5, f_18_6, f_23_0, f_23_1, f_23_2, f_23_3, f_23_4, f_24_2, f_24_3, f_24_4, f_24_5, f_33_3, f_33_4, f_33_5, f_33_6, f_38_1, f_38_2, f_41_0, f_161_0, f_161_1, f_161_3, f_161_7, f_161_12, f_161_13, f_161_14, f_161_15, f_161_16, f_161_17, f_161_18, f_161_19, f_161_21, f_161_22, f_161_25, true_and, and_true, true_or, or_true, if_true, if_false, ne_eq, not_false_eq_true, and_self, t10, am_psh, am_clr, not_true_eq_false, Nat.reduceEqDiff, h8]
      rw [hcon, b32_F (p := inTr G R a) e]; simp only [r36_15, r36_18, r36_19, r36_20, r36_21, r36_24, r36_27, r36_28, r36_31, r36_32, s_1, s_2, s_3, s_8, s_16, s_18, s_23, s_24, s_33, s_38, s_41, s_161, f_1_0, f_1_1, f_1_4, f_1_5, f_1_8, f_1_9, f_1_10, f_1_11, f_1_12, f_1_13, f_2_0, f_2_1, f_3_3, f_3_4, f_3_5, f_3_6, f_8_2, f_8_3, f_8_4, f_8_5, f_16_2, f_18_3, f_18_4, f_18_5, f_18_6, f_23_0, f_23_1, f_23_2, f_23_3, f_23_4, f_24_2, f_24_3, f_24_4, f_24_5, f_33_3, f_33_4, f_33_5, f_33_6, f_38_1, f_38_2, f_41_0, f_161_0, f_161_1, f_161_3, f_161_7, f_161_12, f_161_13, f_161_14, f_161_15, f_161_16, f_161_17, f_161_18, f_161_19, f_161_21, f_161_22, f_161_25, true_and, and_true, true_or, or_true, if_true, if_false, ne_eq, not_false_eq_true, and_self, t10, am_psh, am_clr, not_true_eq_false, Nat.reduceEqDiff, red_x hok.1 hR hx.1 hx.2.2 ha, t01, t11]
      by_cases e3 : rdx G R a < 0
      · rw [if_pos e3, b32_F (fun q => q e3)]
      · rw [if_neg e3, b32_T e3]
end CO
