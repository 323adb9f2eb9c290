/-! the class' search -/
def chT (G : Gr) (h : Nat) : Nat → Bool := fun u => decide (¬ (u < h ∧ u ≠ gr G))
def degP (G : Gr) (f : Nat → Nat) (h u : Nat) : Nat := sumN (fun v => if v ≠ gr G ∧ gt G (f v) = u then 1 else 0) h
def pAc (G : Gr) (h : Nat) (f : Nat → Nat) : Prop := ∀ u, u < gn G → ∃ k, chT G h (wkT (chT G h) (fun u => gt G (f u)) k u) = true
/-- where the walk from a node ends by the choices so far -/
def endP (G : Gr) (h : Nat) (f : Nat → Nat) (u : Nat) : Nat := wkT (chT G h) (fun u => gt G (f u)) (gn G) u
def xCh (G : Gr) (K : am_I) (h : Nat) (f : Nat → Nat) : Prop := ∀ u, u < 8 → K 35 u = if u < h ∧ u ≠ gr G then nI (f u) else -1
def xLf (G : Gr) (K : am_I) (h : Nat) (f : Nat → Nat) : Prop := ∀ u, u < gn G → K 36 u = nI (gl G u - degP G f h u)
def xBs (G : Gr) (K : am_I) (b : Option (Nat → Nat)) : Prop := match b with
  | none => K 33 1 = 0
  | some g => K 33 1 = 1 ∧ K 33 2 = nI (cosA G g) ∧ cosA G g ≤ 1000 ∧ ∀ v, v < gn G → v ≠ gr G → K 34 v = nI (g v)
def bt2 (G : Gr) (m : Nat) (b : Option (Nat → Nat)) : Prop := match b with
  | none => True
  | some g => m < cosA G g
def chF (I K : am_I) : Prop := (∀ b, ¬ (33 ≤ b ∧ b ≤ 36) → K b = I b) ∧ K 33 0 = I 33 0
section LS
variable {d L : Nat} {I K : am_I} {J : am_J} {Q : am_Q} {G : Gr} {f : Nat → Nat} {b : Option (Nat → Nat)} {r : Nat → Nat}
theorem chT_t {h u : Nat} : chT G h u = true ↔ ¬ (u < h ∧ u ≠ gr G) := by unfold chT; exact decide_eq_true_iff
theorem chT_f {h u : Nat} : chT G h u = false ↔ (u < h ∧ u ≠ gr G) := by
  unfold chT
  rw [decide_eq_false_iff_not]
  exact Decidable.not_not
theorem c_useful {m : Nat} (hb : xBs G K b) (hm : m < 2 ^ 31) : am_C (d + 1) 42 [.ref 33, .int (nI m)] (cS L) K J Q = Q (some (.int (bI (bt2 G m b)))) (cS L) K J := by
  rw [e42]
  cases b with
  | none =>
    simp only [r42_0, r42_1, r42_4, r42_7, r42_8, r42_9, r42_12, r42_15, r42_16, r42_19, r42_20, s_1, s_2, s_3, s_8, s_16, s_18, s_23, s_24, s_33, s_38, s_41, s_161, f_1_0, f_1_1, f_1_4, f_1_5, f_1_8, f_1_9, f_1_10, f_1_11, f_1_12, f_1_13, f_2_0, f_2_1, f_3_3, f_3_4, f_3_5, f_3_6, f_8_2, f_8_3, f_8_4, f_8_5, f_16_2, f_18_3, f_18_4, f_18_5, f_18_6, f_23_0, f_23_1, f_23_2, f_23_3, f_23_4, f_24_2, f_24_3, f_24_4, f_24_5, f_33_3, f_33_4, f_33_5, f_33_6, f_38_1, f_38_2, f_41_0, f_161_0, f_161_1, f_161_3, f_161_7, f_161_12, f_161_13, f_161_14, f_161_15, f_161_16, f_161_17, f_161_18, f_161_19, f_161_21, f_161_22, f_161_25, true_and, and_true, true_or, or_true, if_true, if_false, ne_eq, not_false_eq_true, and_self, t10, am_psh, am_clr, not_true_eq_false, Nat.reduceEqDiff, show K 33 1 = 0 from hb, t11]
    rw [bI_T (show bt2 G m none from trivial)]
  | some g =>
    obtain ⟨b1, b2, b3, -⟩ := hb
    simp only [r42_0, r42_1, r42_4, r42_7, r42_8, r42_9, r42_12, r42_15, r42_16, r42_19, r42_20, s_1, s_2, s_3, s_8, s_16, s_18, s_23, s_24, s_33, s_38, s_41, s_161, f_1_0, f_1_1, f_1_4, f_1_5, f_1_8, f_1_9, f_1_10, f_1_11, f_1_12, f_1_13, f_2_0, f_2_1, f_3_3, f_3_4, f_3_5, f_3_6, f_8_2, f_8_3, f_8_4, f_8_5, f_16_2, f_18_3, f_18_4, f_18_5, f_18_6, f_23_0, f_23_1, f_23_2, f_23_3, f_23_4, f_24_2, f_24_3, f_24_4, f_24_5, f_33_3, f_33_4, f_33_5, f_33_6, f_38_1, f_38_2, f_41_0, f_161_0, f_161_1, f_161_3, f_161_7, f_161_12, f_161_13, f_161_14, f_161_15, f_161_16, f_161_17, f_161_18, f_161_19, f_161_21, f_161_22, f_161_25, true_and, and_true, true_or, or_true, if_true, if_false, ne_eq, not_false_eq_true, and_self, t10, am_psh, am_clr, not_true_eq_false, Nat.reduceEqDiff, b1, b2, t11, t01]
    by_cases e : m < cosA G g
    · rw [if_neg (nI_ge e (by omega)), bI_T (show bt2 G m (some g) from e)]
    · rw [if_pos (nI_le (by omega) (by omega)), bI_F (show ¬ bt2 G m (some g) from e)]
theorem ct_loop {h a : Nat} (hG : okG G) (hx : xG K 3 G) (hO : goOK G h f) (hh : h ≤ gn G) (hC : xCh G K h f) : ∀ (n i u : Nat), i + n = gn G → u < gn G → ∃ m4, ∀ Q, am_T d 43 21 [some (.ref 33), some (.ref 3), some (.int (nI a)), some (.int (nI u)), some (.int (nI i))] [] (cS L) K J Q = am_T d 43 58 [some (.ref 33), some (.ref 3), some (.int (nI a)), some (.int (nI (wkT (chT G h) (fun u => gt G (f u)) n u))), m4] [] (cS L) K J Q := by
  have hgn := hG.1.2.1
  have hm32 := hG.1.2.2.2
  intro n
  induction n with
  | zero =>
    intro i u hi hu
    have : i = gn G := by omega
    subst this
    refine ⟨some (.int (nI (gn G))), fun Q => ?_⟩
    rw [r43_21]
    simp only [r43_23, r43_24, r43_27, s_1, s_2, s_3, s_8, s_16, s_18, s_23, s_24, s_33, s_38, s_41, s_161, f_1_0, f_1_1, f_1_4, f_1_5, f_1_8, f_1_9, f_1_10, f_1_11, f_1_12, f_1_13, f_2_0, f_2_1, f_3_3, f_3_4, f_3_5, f_3_6, f_8_2, f_8_3, f_8_4, f_8_5, f_16_2, f_18_3, f_18_4, f_18_5, f_18_6, f_23_0, f_23_1, f_23_2, f_23_3, f_23_4, f_24_2, f_24_3, f_24_4, f_24_5, f_33_3, f_33_4, f_33_5, f_33_6, f_38_1, f_38_2, f_41_0, f_161_0, f_161_1, f_161_3, f_161_7, f_161_12, f_161_13, f_161_14, f_161_15, f_161_16, f_161_17, f_161_18, f_161_19, f_161_21, f_161_22, f_161_25, true_and, and_true, true_or, or_true, if_true, if_false, ne_eq, not_false_eq_true, and_self, t10, am_psh, am_clr, not_true_eq_false, Nat.reduceEqDiff, hx.1.1]
    rw [if_pos (Int32.le_refl _)]
    rfl
  | succ n ih =>
    intro i u hi hu
    cases e : chT G h u with
    | true =>
      refine ⟨some (.int (nI i)), fun Q => ?_⟩
      rw [wkT_t e]
      rw [r43_21]
      simp only [r43_23, r43_24, r43_27, r43_30, r43_31, r43_34, r43_35, r43_36, r43_37, s_1, s_2, s_3, s_8, s_16, s_18, s_23, s_24, s_33, s_38, s_41, s_161, f_1_0, f_1_1, f_1_4, f_1_5, f_1_8, f_1_9, f_1_10, f_1_11, f_1_12, f_1_13, f_2_0, f_2_1, f_3_3, f_3_4, f_3_5, f_3_6, f_8_2, f_8_3, f_8_4, f_8_5, f_16_2, f_18_3, f_18_4, f_18_5, f_18_6, f_23_0, f_23_1, f_23_2, f_23_3, f_23_4, f_24_2, f_24_3, f_24_4, f_24_5, f_33_3, f_33_4, f_33_5, f_33_6, f_38_1, f_38_2, f_41_0, f_161_0, f_161_1, f_161_3, f_161_7, f_161_12, f_161_13, f_161_14, f_161_15, f_161_16, f_161_17, f_161_18, f_161_19, f_161_21, f_161_22, f_161_25, true_and, and_true, true_or, or_true, if_true, if_false, ne_eq, not_false_eq_true, and_self, t10, am_psh, am_clr, not_true_eq_false, Nat.reduceEqDiff, hx.1.1, ix35 (L := L) u (by omega), n_cl (show u < 2 ^ 31 by omega), hC u (by omega), if_neg (chT_t.mp e)]
      rw [if_neg (nI_ge (show i < gn G by omega) (by omega))]
    | false =>
      have hch := chT_f.mp e
      obtain ⟨ha, -⟩ := hO u hch.1 hch.2
      have hta := (hG.2.1 _ ha).1
      obtain ⟨m4, ih⟩ := ih (i + 1) (gt G (f u)) (by omega) hta
      refine ⟨m4, fun Q => ?_⟩
      have e4 : K 4 (f u) = nI (gt G (f u)) := (hx.2.1 _ ha).1
      have ew : wkT (chT G h) (fun u => gt G (f u)) (n + 1) u = wkT (chT G h) (fun u => gt G (f u)) n (gt G (f u)) := by
        show (if chT G h u = true then u else _) = _
        rw [if_neg (by rw [e]; decide)]
      rw [ew]
      rw [r43_21]
      simp only [r43_23, r43_24, r43_27, r43_30, r43_31, r43_34, r43_35, r43_36, r43_37, r43_40, r43_41, r43_44, r43_45, r43_48, r43_49, r43_50, r43_51, r43_52, r43_55, s_1, s_2, s_3, s_8, s_16, s_18, s_23, s_24, s_33, s_38, s_41, s_161, f_1_0, f_1_1, f_1_4, f_1_5, f_1_8, f_1_9, f_1_10, f_1_11, f_1_12, f_1_13, f_2_0, f_2_1, f_3_3, f_3_4, f_3_5, f_3_6, f_8_2, f_8_3, f_8_4, f_8_5, f_16_2, f_18_3, f_18_4, f_18_5, f_18_6, f_23_0, f_23_1, f_23_2, f_23_3, f_23_4, f_24_2, f_24_3, f_24_4, f_24_5, f_33_3, f_33_4, f_33_5, f_33_6, f_38_1, f_38_2, f_41_0, f_161_0, f_161_1, f_161_3, f_161_7, f_161_12, f_161_13, f_161_14, f_161_15, f_161_16, f_161_17, f_161_18, f_161_19, f_161_21, f_161_22, f_161_25, true_and, and_true, true_or, or_true, if_true, if_false, ne_eq, not_false_eq_true, and_self, t10, am_psh, am_clr, not_true_eq_false, Nat.reduceEqDiff, hx.1.1, ix35 (L := L) u (by omega), n_cl (show u < 2 ^ 31 by omega), hC u (by omega), if_pos hch, n_ne_m1 (show f u < 2 ^ 31 by omega), ix4 (L := L) (f u) (by omega), n_cl (show f u < 2 ^ 31 by omega), e4, nI_1]
      rw [if_neg (nI_ge (show i < gn G by omega) (by omega))]
      exact ih Q
theorem endP_lt {h u : Nat} (hG : okG G) (hO : goOK G h f) (hh : h ≤ gn G) (hu : u < gn G) : endP G h f u < gn G := wkT_lt (fun v hv hT => (hG.2.1 _ (hO v (chT_f.mp hT).1 (chT_f.mp hT).2).1).1) _ _ hu
theorem c_canTake {h a : Nat} (hG : okG G) (hx : xG K 3 G) (hO : goOK G h f) (hh : h ≤ gn G) (hC : xCh G K h f) (hL : xLf G K h f) (hd : ∀ u, u < gn G → degP G f h u ≤ gl G u) (ha : a < gm G) : am_C (d + 1) 43 [.ref 33, .ref 3, .int (nI a)] (cS L) K J Q = Q (some (.int (bI (degP G f h (gt G a) < gl G (gt G a) ∧ endP G h f (gt G a) ≠ gh G a)))) (cS L) K J := by
  have hgn := hG.1.2.1
  have hm32 := hG.1.2.2.2
  obtain ⟨t1, t2, -, -⟩ := hG.2.1 a ha
  have hgl := hG.2.2 (gt G a) (by omega)
  have e4 : K 4 a = nI (gt G a) := (hx.2.1 a ha).1
  have e5 : K 5 a = nI (gh G a) := (hx.2.1 a ha).2.1
  have e36 := hL (gt G a) t1
  have hdd := hd (gt G a) t1
  rw [e43]
  simp only [r43_0, r43_1, r43_4, r43_5, r43_6, r43_7, r43_8, r43_11, r43_12, r43_13, r43_16, r43_17, r43_18, r43_19, s_1, s_2, s_3, s_8, s_16, s_18, s_23, s_24, s_33, s_38, s_41, s_161, f_1_0, f_1_1, f_1_4, f_1_5, f_1_8, f_1_9, f_1_10, f_1_11, f_1_12, f_1_13, f_2_0, f_2_1, f_3_3, f_3_4, f_3_5, f_3_6, f_8_2, f_8_3, f_8_4, f_8_5, f_16_2, f_18_3, f_18_4, f_18_5, f_18_6, f_23_0, f_23_1, f_23_2, f_23_3, f_23_4, f_24_2, f_24_3, f_24_4, f_24_5, f_33_3, f_33_4, f_33_5, f_33_6, f_38_1, f_38_2, f_41_0, f_161_0, f_161_1, f_161_3, f_161_7, f_161_12, f_161_13, f_161_14, f_161_15, f_161_16, f_161_17, f_161_18, f_161_19, f_161_21, f_161_22, f_161_25, true_and, and_true, true_or, or_true, if_true, if_false, ne_eq, not_false_eq_true, and_self, t10, am_psh, am_clr, not_true_eq_false, Nat.reduceEqDiff, ix4 (L := L) a (by omega), n_cl (show a < 2 ^ 31 by omega), e4, ix36 (L := L) (gt G a) (by omega), n_cl (show gt G a < 2 ^ 31 by omega), e36, t01]
  by_cases e : degP G f h (gt G a) < gl G (gt G a)
  · rw [if_pos (show (0 : Int32) < nI (gl G (gt G a) - degP G f h (gt G a)) from (n_lt (a := 0) (by omega) (by omega)).mpr (by omega))]
    obtain ⟨m4, hl⟩ := ct_loop (d := d) (L := L) (J := J) (a := a) hG hx hO hh hC (gn G) 0 (gt G a) (by omega) t1
    refine Eq.trans (hl Q) ?_
    have hend := endP_lt hG hO hh t1
    have e0 : wkT (chT G h) (fun u => gt G (f u)) (gn G) (gt G a) = endP G h f (gt G a) := rfl
    rw [e0]
    simp only [r43_58, r43_59, r43_60, r43_63, r43_64, r43_65, r43_68, r43_69, r43_72, r43_73, s_1, s_2, s_3, s_8, s_16, s_18, s_23, s_24, s_33, s_38, s_41, s_161, f_1_0, f_1_1, f_1_4, f_1_5, f_1_8, f_1_9, f_1_10, f_1_11, f_1_12, f_1_13, f_2_0, f_2_1, f_3_3, f_3_4, f_3_5, f_3_6, f_8_2, f_8_3, f_8_4, f_8_5, f_16_2, f_18_3, f_18_4, f_18_5, f_18_6, f_23_0, f_23_1, f_23_2, f_23_3, f_23_4, f_24_2, f_24_3, f_24_4, f_24_5, f_33_3, f_33_4, f_33_5, f_33_6, f_38_1, f_38_2, f_41_0, f_161_0, f_161_1, f_161_3, f_161_7, f_161_12, f_161_13, f_161_14, f_161_15, f_161_16, f_161_17, f_161_18, f_161_19, f_161_21, f_161_22, f_161_25, true_and, and_true, true_or, or_true, if_true, if_false, ne_eq, not_false_eq_true, and_self, t10, am_psh, am_clr, not_true_eq_false, Nat.reduceEqDiff, ix5 (L := L) a (by omega), n_cl (show a < 2 ^ 31 by omega), e5, t11, t01]
    by_cases e2 : endP G h f (gt G a) = gh G a
    · rw [if_pos (show nI (endP G h f (gt G a)) = nI (gh G a) by rw [e2]), bI_F (fun q => q.2 e2)]
    · rw [if_neg (show ¬ nI (endP G h f (gt G a)) = nI (gh G a) from fun q => e2 ((nI_eq (by omega) (by omega)).mp q)), bI_T ⟨e, e2⟩]
  · rw [if_neg (show ¬ (0 : Int32) < nI (gl G (gt G a) - degP G f h (gt G a)) from fun q => by have := (n_lt (a := 0) (by omega) (by omega)).mp q; omega), bI_F (fun q => e q.1)]
theorem ta_loop (hG : okG G) (hx : xG K 3 G) (hO : goOK G (gn G) f) (hC : xCh G K (gn G) f) : ∀ (n j : Nat), j + n = gn G → ∀ Q, am_T d 44 4 [some (.ref 33), some (.ref 3), some (.int (nI (sumN (fun v => if v = gr G then 0 else gc G (f v)) j))), some (.int (nI j))] [] (cS L) K J Q = am_T d 44 42 [some (.ref 33), some (.ref 3), some (.int (nI (cosA G f))), some (.int (nI (gn G)))] [] (cS L) K J Q := by
  have hgn := hG.1.2.1
  have hm32 := hG.1.2.2.2
  intro n
  induction n with
  | zero =>
    intro j hj Q
    have : j = gn G := by omega
    subst this
    rw [r44_4]
    simp only [r44_5, r44_6, r44_9, s_1, s_2, s_3, s_8, s_16, s_18, s_23, s_24, s_33, s_38, s_41, s_161, f_1_0, f_1_1, f_1_4, f_1_5, f_1_8, f_1_9, f_1_10, f_1_11, f_1_12, f_1_13, f_2_0, f_2_1, f_3_3, f_3_4, f_3_5, f_3_6, f_8_2, f_8_3, f_8_4, f_8_5, f_16_2, f_18_3, f_18_4, f_18_5, f_18_6, f_23_0, f_23_1, f_23_2, f_23_3, f_23_4, f_24_2, f_24_3, f_24_4, f_24_5, f_33_3, f_33_4, f_33_5, f_33_6, f_38_1, f_38_2, f_41_0, f_161_0, f_161_1, f_161_3, f_161_7, f_161_12, f_161_13, f_161_14, f_161_15, f_161_16, f_161_17, f_161_18, f_161_19, f_161_21, f_161_22, f_161_25, true_and, and_true, true_or, or_true, if_true, if_false, ne_eq, not_false_eq_true, and_self, t10, am_psh, am_clr, not_true_eq_false, Nat.reduceEqDiff, hx.1.1]
    rw [if_pos (Int32.le_refl _)]
    rfl
  | succ n ih =>
    intro j hj Q
    have ih := ih (j + 1) (by omega) Q
    have es : sumN (fun v => if v = gr G then 0 else gc G (f v)) (j + 1) = sumN (fun v => if v = gr G then 0 else gc G (f v)) j + (if j = gr G then 0 else gc G (f j)) := rfl
    rw [es] at ih
    rw [r44_4]
    by_cases e : j = gr G
    · simp only [r44_5, r44_6, r44_9, r44_12, r44_13, r44_16, r44_17, r44_18, r44_19, r44_36, r44_39, s_1, s_2, s_3, s_8, s_16, s_18, s_23, s_24, s_33, s_38, s_41, s_161, f_1_0, f_1_1, f_1_4, f_1_5, f_1_8, f_1_9, f_1_10, f_1_11, f_1_12, f_1_13, f_2_0, f_2_1, f_3_3, f_3_4, f_3_5, f_3_6, f_8_2, f_8_3, f_8_4, f_8_5, f_16_2, f_18_3, f_18_4, f_18_5, f_18_6, f_23_0, f_23_1, f_23_2, f_23_3, f_23_4, f_24_2, f_24_3, f_24_4, f_24_5, f_33_3, f_33_4, f_33_5, f_33_6, f_38_1, f_38_2, f_41_0, f_161_0, f_161_1, f_161_3, f_161_7, f_161_12, f_161_13, f_161_14, f_161_15, f_161_16, f_161_17, f_161_18, f_161_19, f_161_21, f_161_22, f_161_25, true_and, and_true, true_or, or_true, if_true, if_false, ne_eq, not_false_eq_true, and_self, t10, am_psh, am_clr, not_true_eq_false, Nat.reduceEqDiff, hx.1.1, ix35 (L := L) j (by omega), n_cl (show j < 2 ^ 31 by omega), hC j (by omega), if_neg (show ¬ (j < gn G ∧ j ≠ gr G) from fun q => q.2 e), nI_1]
      rw [if_neg (nI_ge (show j < gn G by omega) (by omega))]
      rw [if_pos e, Nat.add_zero] at ih
      exact ih
    · have ha := (hO j (by omega) e).1
      have e6 : K 6 (f j) = nI (gc G (f j)) := (hx.2.1 _ ha).2.2
      simp only [r44_5, r44_6, r44_9, r44_12, r44_13, r44_16, r44_17, r44_18, r44_19, r44_22, r44_23, r44_24, r44_27, r44_28, r44_31, r44_32, r44_33, r44_34, r44_35, r44_36, r44_39, s_1, s_2, s_3, s_8, s_16, s_18, s_23, s_24, s_33, s_38, s_41, s_161, f_1_0, f_1_1, f_1_4, f_1_5, f_1_8, f_1_9, f_1_10, f_1_11, f_1_12, f_1_13, f_2_0, f_2_1, f_3_3, f_3_4, f_3_5, f_3_6, f_8_2, f_8_3, f_8_4, f_8_5, f_16_2, f_18_3, f_18_4, f_18_5, f_18_6, f_23_0, f_23_1, f_23_2, f_23_3, f_23_4, f_24_2, f_24_3, f_24_4, f_24_5, f_33_3, f_33_4, f_33_5, f_33_6, f_38_1, f_38_2, f_41_0, f_161_0, f_161_1, f_161_3, f_161_7, f_161_12, f_161_13, f_161_14, f_161_15, f_161_16, f_161_17, f_161_18, f_161_19, f_161_21, f_161_22, f_161_25, true_and, and_true, true_or, or_true, if_true, if_false, ne_eq, not_false_eq_true, and_self, t10, am_psh, am_clr, not_true_eq_false, Nat.reduceEqDiff, hx.1.1, ix35 (L := L) j (by omega), n_cl (show j < 2 ^ 31 by omega), hC j (by omega), if_pos (show j < gn G ∧ j ≠ gr G from ⟨by omega, e⟩), n_ne_m1 (show f j < 2 ^ 31 by omega), ix6 (L := L) (f j) (by omega), n_cl (show f j < 2 ^ 31 by omega), e6, nI_1, n_add]
      rw [if_neg (nI_ge (show j < gn G by omega) (by omega))]
      rw [if_neg e] at ih
      exact ih
theorem cp_34 : am_cpy (cS L) 34 35 0 0 8 := by
  refine ⟨k_34 L, k_35 L, by omega, by omega, ⟨by decide, by decide, by decide⟩, ?_, ?_⟩
  · rw [n_35]; decide
  · rw [n_34]; decide
/-- a whole choice, without a cycle and within the limits -/
theorem full_ar (hG : okG G) (hO : goOK G (gn G) f) (hA : pAc G (gn G) f) : isAr G f := by
  have hc : isCh G f := fun v hv hr => hO v hv hr
  have eT : ∀ u, u < gn G → chT G (gn G) u = rtT G u := fun u hu => by
    cases e : rtT G u with
    | true => exact chT_t.mpr (fun q => q.2 (rtT_t.mp e))
    | false => exact chT_f.mpr ⟨hu, fun q => by rw [rtT_t.mpr q] at e; cases e⟩
  have ew : ∀ (k u : Nat), u < gn G → wkT (chT G (gn G)) (fun u => gt G (f u)) k u = wkT (rtT G) (fun u => gt G (f u)) k u := by
    intro k
    induction k with
    | zero => intro u _; rfl
    | succ k ih =>
      intro u hu
      unfold wkT
      rw [eT u hu]
      cases e : rtT G u with
      | true => rw [if_pos rfl, if_pos rfl]
      | false => rw [if_neg (by decide), if_neg (by decide)]; exact ih _ (ch_nx hG hc u hu e)
  refine ⟨hc, fun v hv => ?_⟩
  obtain ⟨k, hk⟩ := hA v hv
  have hlt := wkT_lt (T := rtT G) (nx := fun u => gt G (f u)) (ch_nx hG hc) k v hv
  rw [ew k v hv, eT _ hlt] at hk
  refine upN_b hG hc hv (m := k) ?_
  rw [upN_wk]
  exact rtT_t.mp hk
theorem c_take (hG : okG G) (hx : xG K 3 G) (hO : goOK G (gn G) f) (hA : pAc G (gn G) f) (hd : ∀ u, u < gn G → degP G f (gn G) u ≤ gl G u) (hC : xCh G K (gn G) f) (hb : xBs G K b) : ∃ K', (∀ Q, am_C (d + 2) 44 [.ref 33, .ref 3] (cS L) K J Q = Q none (cS L) K' J) ∧ chF K K' ∧ K' 35 = K 35 ∧ K' 36 = K 36 ∧ xBs G K' (lfB G f b) := by
  have hgn := hG.1.2.1
  have hAr := full_ar hG hO hA
  have hcos := cosA_le hG hAr.1
  have run : ∀ Q, am_C (d + 2) 44 [.ref 33, .ref 3] (cS L) K J Q = am_T (d + 1) 44 47 [some (.ref 33), some (.ref 3), some (.int (nI (cosA G f))), some (.int (nI (gn G)))] [.int (bI (bt2 G (cosA G f) b))] (cS L) K J Q := fun Q => by
    rw [e44]
    simp only [r44_0, r44_1, r44_2, r44_3, s_1, s_2, s_3, s_8, s_16, s_18, s_23, s_24, s_33, s_38, s_41, s_161, f_1_0, f_1_1, f_1_4, f_1_5, f_1_8, f_1_9, f_1_10, f_1_11, f_1_12, f_1_13, f_2_0, f_2_1, f_3_3, f_3_4, f_3_5, f_3_6, f_8_2, f_8_3, f_8_4, f_8_5, f_16_2, f_18_3, f_18_4, f_18_5, f_18_6, f_23_0, f_23_1, f_23_2, f_23_3, f_23_4, f_24_2, f_24_3, f_24_4, f_24_5, f_33_3, f_33_4, f_33_5, f_33_6, f_38_1, f_38_2, f_41_0, f_161_0, f_161_1, f_161_3, f_161_7, f_161_12, f_161_13, f_161_14, f_161_15, f_161_16, f_161_17, f_161_18, f_161_19, f_161_21, f_161_22, f_161_25, true_and, and_true, true_or, or_true, if_true, if_false, ne_eq, not_false_eq_true, and_self, t10, am_psh, am_clr, not_true_eq_false, Nat.reduceEqDiff]
    refine Eq.trans (ta_loop hG hx hO hC (gn G) 0 (by omega) Q) ?_
    simp only [r44_42, r44_43, r44_44, s_1, s_2, s_3, s_8, s_16, s_18, s_23, s_24, s_33, s_38, s_41, s_161, f_1_0, f_1_1, f_1_4, f_1_5, f_1_8, f_1_9, f_1_10, f_1_11, f_1_12, f_1_13, f_2_0, f_2_1, f_3_3, f_3_4, f_3_5, f_3_6, f_8_2, f_8_3, f_8_4, f_8_5, f_16_2, f_18_3, f_18_4, f_18_5, f_18_6, f_23_0, f_23_1, f_23_2, f_23_3, f_23_4, f_24_2, f_24_3, f_24_4, f_24_5, f_33_3, f_33_4, f_33_5, f_33_6, f_38_1, f_38_2, f_41_0, f_161_0, f_161_1, f_161_3, f_161_7, f_161_12, f_161_13, f_161_14, f_161_15, f_161_16, f_161_17, f_161_18, f_161_19, f_161_21, f_161_22, f_161_25, true_and, and_true, true_or, or_true, if_true, if_false, ne_eq, not_false_eq_true, and_self, t10, am_psh, am_clr, not_true_eq_false, Nat.reduceEqDiff]
    rw [c_useful hb (by omega)]
  have eb : btr G f b ↔ bt2 G (cosA G f) b := by cases b <;> exact Iff.rfl
  by_cases e : bt2 G (cosA G f) b
  · refine ⟨am_row (am_up (am_up K 33 1 1) 33 2 (nI (cosA G f))) 34 (va_cpy (K 35) (K 34) 0 0 8), fun Q => ?_, ⟨fun c hc => by rw [am_row_ne (by omega), am_up_ne (by omega), am_up_ne (by omega)], by rw [am_row_ne (by omega), up_ne _ _ (Or.inr (by omega)), up_ne _ _ (Or.inr (by omega))]⟩, by rw [am_row_ne (by omega), am_up_ne (by omega), am_up_ne (by omega)], by rw [am_row_ne (by omega), am_up_ne (by omega), am_up_ne (by omega)], ?_⟩
    · rw [run, bI_T e]
      simp only [r44_47, r44_50, r44_51, r44_52, r44_55, r44_56, r44_57, r44_60, r44_61, r44_64, r44_65, r44_66, r44_69, r44_70, r44_72, r44_75, s_1, s_2, s_3, s_8, s_16, s_18, s_23, s_24, s_33, s_38, s_41, s_161, f_1_0, f_1_1, f_1_4, f_1_5, f_1_8, f_1_9, f_1_10, f_1_11, f_1_12, f_1_13, f_2_0, f_2_1, f_3_3, f_3_4, f_3_5, f_3_6, f_8_2, f_8_3, f_8_4, f_8_5, f_16_2, f_18_3, f_18_4, f_18_5, f_18_6, f_23_0, f_23_1, f_23_2, f_23_3, f_23_4, f_24_2, f_24_3, f_24_4, f_24_5, f_33_3, f_33_4, f_33_5, f_33_6, f_38_1, f_38_2, f_41_0, f_161_0, f_161_1, f_161_3, f_161_7, f_161_12, f_161_13, f_161_14, f_161_15, f_161_16, f_161_17, f_161_18, f_161_19, f_161_21, f_161_22, f_161_25, true_and, and_true, true_or, or_true, if_true, if_false, ne_eq, not_false_eq_true, and_self, t10, am_psh, am_clr, not_true_eq_false, Nat.reduceEqDiff, t11, cp_34 (L := L), show (0 : Int32).toNatClampNeg = 0 from by decide, show (8 : Int32).toNatClampNeg = 8 from by decide]
      have e35 : am_up (am_up K 33 1 1) 33 2 (nI (cosA G f)) 35 = K 35 := by rw [am_up_ne (by omega), am_up_ne (by omega)]
      have e34 : am_up (am_up K 33 1 1) 33 2 (nI (cosA G f)) 34 = K 34 := by rw [am_up_ne (by omega), am_up_ne (by omega)]
      rw [e35, e34]
    · have el : lfB G f b = some f := by unfold lfB; rw [if_pos (pD_T ⟨hAr, eb.mpr e, hd⟩)]
      rw [el]
      refine ⟨by rw [am_row_ne (by omega), up_ne _ _ (Or.inr (by omega)), up_self], by rw [am_row_ne (by omega), up_self], hcos, fun v hv hr => ?_⟩
      rw [am_row_eq, cpy_0 (show v < 8 by omega), hC v (by omega), if_pos ⟨hv, hr⟩]
  · refine ⟨K, fun Q => ?_, ⟨fun _ _ => rfl, rfl⟩, rfl, rfl, ?_⟩
    · rw [run, bI_F e]
      simp only [r44_47, r44_75, s_1, s_2, s_3, s_8, s_16, s_18, s_23, s_24, s_33, s_38, s_41, s_161, f_1_0, f_1_1, f_1_4, f_1_5, f_1_8, f_1_9, f_1_10, f_1_11, f_1_12, f_1_13, f_2_0, f_2_1, f_3_3, f_3_4, f_3_5, f_3_6, f_8_2, f_8_3, f_8_4, f_8_5, f_16_2, f_18_3, f_18_4, f_18_5, f_18_6, f_23_0, f_23_1, f_23_2, f_23_3, f_23_4, f_24_2, f_24_3, f_24_4, f_24_5, f_33_3, f_33_4, f_33_5, f_33_6, f_38_1, f_38_2, f_41_0, f_161_0, f_161_1, f_161_3, f_161_7, f_161_12, f_161_13, f_161_14, f_161_15, f_161_16, f_161_17, f_161_18, f_161_19, f_161_21, f_161_22, f_161_25, true_and, and_true, true_or, or_true, if_true, if_false, ne_eq, not_false_eq_true, and_self, t10, am_psh, am_clr, not_true_eq_false, Nat.reduceEqDiff]
    · have el : lfB G f b = b := by unfold lfB; rw [pD_F (fun q => e (eb.mp q.2.1))]; rfl
      rw [el]; exact hb
/-! one more choice -/
theorem degP_s {h a u : Nat} (hr : h ≠ gr G) : degP G (fset f h a) (h + 1) u = degP G f h u + (if gt G a = u then 1 else 0) := by
  show sumN (fun v => if v ≠ gr G ∧ gt G (fset f h a v) = u then 1 else 0) h + (if h ≠ gr G ∧ gt G (fset f h a h) = u then 1 else 0) = _
  rw [sumN_congr (g := fun v => if v ≠ gr G ∧ gt G (f v) = u then 1 else 0) h (fun i hi => by rw [fset_n _ _ (show i ≠ h by omega)]), fset_s]
  show degP G f h u + _ = _
  by_cases e : gt G a = u
  · rw [if_pos ⟨hr, e⟩, if_pos e]
  · rw [if_neg (fun q => e q.2), if_neg e]
theorem degP_r {h u : Nat} (hr : h = gr G) : degP G (fset f h 0) (h + 1) u = degP G f h u := by
  show sumN (fun v => if v ≠ gr G ∧ gt G (fset f h 0 v) = u then 1 else 0) h + (if h ≠ gr G ∧ gt G (fset f h 0 h) = u then 1 else 0) = _
  rw [sumN_congr (g := fun v => if v ≠ gr G ∧ gt G (f v) = u then 1 else 0) h (fun i hi => by rw [fset_n _ _ (show i ≠ h by omega)]), if_neg (fun q => q.1 hr)]
  rfl
theorem redS_s {h a : Nat} (hr : h ≠ gr G) : redS G r (fset f h a) (h + 1) = redS G r f h + r a := by
  show sumN (fun v => if v = gr G then 0 else r (fset f h a v)) h + (if h = gr G then 0 else r (fset f h a h)) = _
  rw [sumN_congr (g := fun v => if v = gr G then 0 else r (f v)) h (fun i hi => by rw [fset_n _ _ (show i ≠ h by omega)]), fset_s, if_neg hr]
  rfl
theorem redS_r {h : Nat} (hr : h = gr G) : redS G r (fset f h 0) (h + 1) = redS G r f h := by
  show sumN (fun v => if v = gr G then 0 else r (fset f h 0 v)) h + (if h = gr G then 0 else r (fset f h 0 h)) = _
  rw [sumN_congr (g := fun v => if v = gr G then 0 else r (f v)) h (fun i hi => by rw [fset_n _ _ (show i ≠ h by omega)]), if_pos hr]
  rfl
theorem redS_agr {h : Nat} {g : Nat → Nat} (hg : agr G h f g) : redS G r g h = redS G r f h := sumN_congr _ (fun v hv => by
  by_cases e : v = gr G
  · rw [if_pos e, if_pos e]
  · rw [if_neg e, if_neg e, hg v hv e])
theorem degP_agr {h u : Nat} {g : Nat → Nat} (hg : agr G h f g) : degP G g h u = degP G f h u := sumN_congr _ (fun v hv => by
  by_cases e : v = gr G
  · rw [if_neg (fun q => q.1 e), if_neg (fun q => q.1 e)]
  · rw [hg v hv e])
theorem degP_le {h u : Nat} (hh : h ≤ gn G) : degP G f h u ≤ degA G f u := by
  have := sumN_mono (g := fun v => if v ≠ gr G ∧ gt G (f v) = u then 1 else 0) h (gn G - h)
  rw [show h + (gn G - h) = gn G by omega] at this
  exact this
theorem redS_le {h : Nat} (hr : ∀ a, a < gm G → r a ≤ 99) (hO : goOK G h f) : redS G r f h ≤ 99 * h := by
  have := sumN_le (f := fun v => if v = gr G then 0 else r (f v)) (g := fun _ => 99) h (fun v hv => by
    show (if v = gr G then 0 else r (f v)) ≤ 99
    by_cases e : v = gr G
    · rw [if_pos e]; omega
    · rw [if_neg e]; exact hr _ (hO v hv e).1)
  rw [sumN_k] at this
  exact this
/-- walks by the choices so far, with other functions that agree -/
theorem wk_agr {h : Nat} {g : Nat → Nat} (hg : agr G h f g) : ∀ (k u : Nat), wkT (chT G h) (fun u => gt G (g u)) k u = wkT (chT G h) (fun u => gt G (f u)) k u := by
  intro k
  induction k with
  | zero => intro u; rfl
  | succ k ih =>
    intro u
    unfold wkT
    cases e : chT G h u with
    | true => rw [if_pos rfl, if_pos rfl]
    | false =>
      rw [if_neg (by decide), if_neg (by decide)]
      have := chT_f.mp e
      show wkT _ _ k (gt G (g u)) = wkT _ _ k (gt G (f u))
      rw [hg u this.1 this.2]; exact ih _
/-- a walk by fewer choices is one by more -/
theorem wk_more {T T' : Nat → Bool} {nx : Nat → Nat} (hT : ∀ u, T' u = true → T u = true) : ∀ (k u : Nat), ∃ k', wkT T' nx k' u = wkT T nx k u := by
  intro k
  induction k with
  | zero => intro u; exact ⟨0, rfl⟩
  | succ k ih =>
    intro u
    cases e : T u with
    | true => exact ⟨0, (wkT_t e _).symm⟩
    | false =>
      obtain ⟨k', hk⟩ := ih (nx u)
      refine ⟨k' + 1, ?_⟩
      have e' : T' u = false := by
        cases c : T' u with
        | false => rfl
        | true => rw [hT u c] at e; cases e
      show (if T' u = true then u else wkT T' nx k' (nx u)) = (if T u = true then u else wkT T nx k (nx u))
      rw [if_neg (by rw [e']; decide), if_neg (by rw [e]; decide)]; exact hk
theorem endP_T {h u : Nat} (hG : okG G) (hO : goOK G h f) (hh : h ≤ gn G) (hA : pAc G h f) (hu : u < gn G) : chT G h (endP G h f u) = true := by
  obtain ⟨m, hm⟩ := hA u hu
  obtain ⟨k, hk, hT⟩ := wkT_b (T := chT G h) (nx := fun u => gt G (f u)) (m := m) (n := gn G) (fun v hv hT => (hG.2.1 _ (hO v (chT_f.mp hT).1 (chT_f.mp hT).2).1).1) hu hm
  unfold endP
  rw [wkT_m hT (by omega)]
  exact hT
/-- a cycle closes: no arborescence -/
theorem cyc_no {h a : Nat} {g : Nat → Nat} (hG : okG G) (hh : h < gn G) (hr : h ≠ gr G) (ha : a < gm G) (hga : gh G a = h) (he : endP G h f (gt G a) = h) (hg : agr G (h + 1) (fset f h a) g) : ¬ isAr G g := by
  intro hAr
  have hgh : g h = a := by rw [hg h (by omega) hr, fset_s]
  have hg0 : agr G h f g := fun u hu hur => by rw [hg u (by omega) hur, fset_n _ _ (by omega)]
  obtain ⟨m, hm⟩ := wk_more (T := chT G h) (T' := rtT G) (nx := fun u => gt G (g u)) (fun u hu => chT_t.mpr (fun q => q.2 (rtT_t.mp hu))) (gn G) (gt G a)
  rw [wk_agr hg0] at hm
  have hm : wkT (rtT G) (fun u => gt G (g u)) m (gt G a) = h := hm.trans he
  have hrt : ¬ rtT G h = true := fun q => hr (rtT_t.mp q)
  have h1 : wkT (rtT G) (fun u => gt G (g u)) (m + 1) h = h := by
    show (if rtT G h = true then h else wkT (rtT G) (fun u => gt G (g u)) m (gt G (g h))) = h
    rw [if_neg hrt, hgh]; exact hm
  have hk : ∀ k, wkT (rtT G) (fun u => gt G (g u)) (k * (m + 1)) h = h := by
    intro k
    induction k with
    | zero => rw [Nat.zero_mul]; rfl
    | succ k ih => rw [Nat.succ_mul, wkT_add, ih]; exact h1
  have h2 := hAr.2 h hh
  rw [upN_wk] at h2
  have h3 := wkT_m (T := rtT G) (nx := fun u => gt G (g u)) (k := gn G) (v := h) (rtT_t.mpr h2) (k' := gn G * (m + 1)) (Nat.le_mul_of_pos_right _ (by omega))
  rw [hk, h2] at h3
  exact hr h3
/-- no cycle closes: the choices stay without one -/
theorem acy_s {h a : Nat} (hG : okG G) (hO : goOK G h f) (hh : h < gn G) (hr : h ≠ gr G) (hA : pAc G h f) (ha : a < gm G) (he : endP G h f (gt G a) ≠ h) : pAc G (h + 1) (fset f h a) := by
  have hT : ∀ u, chT G (h + 1) u = true → chT G h u = true := fun u hu => chT_t.mpr (fun q => chT_t.mp hu ⟨by omega, q.2⟩)
  have hT2 : ∀ u, chT G h u = true → u ≠ h → chT G (h + 1) u = true := fun u hu hne => chT_t.mpr (fun q => chT_t.mp hu ⟨by omega, q.2⟩)
  have hag : agr G h f (fset f h a) := fun u hu _ => fset_n _ _ (by omega)
  have key : ∀ u, u < gn G → endP G h f u ≠ h → ∃ k, chT G (h + 1) (wkT (chT G (h + 1)) (fun u => gt G (fset f h a u)) k u) = true := fun u hu hne => by
    obtain ⟨k, hk⟩ := wk_more (T := chT G h) (T' := chT G (h + 1)) (nx := fun u => gt G (fset f h a u)) hT (gn G) u
    rw [wk_agr hag] at hk
    refine ⟨k, ?_⟩
    rw [hk]
    exact hT2 _ (endP_T hG hO (by omega) hA hu) hne
  intro u hu
  by_cases e : endP G h f u = h
  · obtain ⟨k, hk⟩ := wk_more (T := chT G h) (T' := chT G (h + 1)) (nx := fun u => gt G (fset f h a u)) hT (gn G) u
    rw [wk_agr hag] at hk
    have hk : wkT (chT G (h + 1)) (fun u => gt G (fset f h a u)) k u = h := hk.trans e
    obtain ⟨k2, hk2⟩ := key (gt G a) (hG.2.1 a ha).1 he
    refine ⟨k + (1 + k2), ?_⟩
    rw [wkT_add, hk, wkT_add]
    have h1 : wkT (chT G (h + 1)) (fun u => gt G (fset f h a u)) 1 h = gt G a := by
      show (if chT G (h + 1) h = true then h else gt G (fset f h a h)) = gt G a
      rw [if_neg (fun q => chT_t.mp q ⟨by omega, hr⟩), fset_s]
    rw [h1]; exact hk2
  · exact key u hu e
theorem acy_r {h : Nat} (hr : h = gr G) (hA : pAc G h f) : pAc G (h + 1) (fset f h 0) := by
  have eT : chT G (h + 1) = chT G h := by
    funext u
    cases e : chT G h u with
    | true => exact chT_t.mpr (fun q => chT_t.mp e ⟨by have : u ≠ h := fun z => q.2 (z.trans hr); omega, q.2⟩)
    | false => exact chT_f.mpr ⟨by have := (chT_f.mp e).1; omega, (chT_f.mp e).2⟩
  intro u hu
  obtain ⟨k, hk⟩ := hA u hu
  refine ⟨k, ?_⟩
  rw [eT, wk_agr (f := f) (fun v hv _ => fset_n _ _ (by omega))]
  exact hk
end LS
