/-! the class' contraction -/
def xC (I : am_I) (G : Gr) (pr : Nat → Int32) (s : Cs) : Prop := I 24 1 = nI (vk s) ∧ (∀ g, g < vk s → I 25 g = vs s g ∧ I 26 g = vd s g ∧ I 27 g = enc (-1) (vp s g)) ∧ (∀ g, g < 15 → I 30 g = if g < vk s then enc (-1) (vl s g) else -1) ∧ (∀ v, v < gn G → I 31 v = nI (vt s v)) ∧ ∀ a, a < gm G → I 29 a = cred G pr s a
section CC
variable {d L : Nat} {I I' : am_I} {J : am_J} {Q : am_Q} {G : Gr} {pr : Nat → Int32} {al : Nat → Bool} {s : Cs} {g a : Nat}
theorem next_loop (hG : okG G) (hc : cOK G al s) (hx : xG I 3 G) (hs : xC I G pr s) : ∀ (n j : Nat), j + n = gn G → am_T d 3 2 [some (.ref 23), some (.ref 3), some (.int (nI j))] [] (cS L) I J Q = Q (some (.int (enc (-1) (nxF (cnP G s) (vt s) n j)))) (cS L) I J := by
  have hn := hG.1.2.1
  have hr := hG.1.2.2.1
  have hm := hG.1.2.2.2
  have hk := ck_le hG hc
  intro n
  induction n with
  | zero =>
    intro j hj
    have : j = gn G := by omega
    subst this
    rw [r3_2]
    simp only [r3_3, r3_4, r3_7, r3_46, r3_47, s_1, s_2, s_3, s_8, s_16, s_18, s_23, s_24, s_33, s_38, s_41, s_161, f_1_0, f_1_1, f_1_4, f_1_5, f_1_8, f_1_9, f_1_10, f_1_11, f_1_12, f_1_13, f_2_0, f_2_1, f_3_3, f_3_4, f_3_5, f_3_6, f_8_2, f_8_3, f_8_4, f_8_5, f_16_2, f_18_3, f_18_4, f_18_5, f_18_6, f_23_0, f_23_1, f_23_2, f_23_3, f_23_4, f_24_2, f_24_3, f_24_4, f_24_5, f_33_3, f_33_4, f_33_5, f_33_6, f_38_1, f_38_2, f_41_0, f_161_0, f_161_1, f_161_3, f_161_7, f_161_12, f_161_13, f_161_14, f_161_15, f_161_16, f_161_17, f_161_18, f_161_19, f_161_21, f_161_22, f_161_25, true_and, and_true, true_or, or_true, if_true, if_false, ne_eq, not_false_eq_true, and_self, t10, am_psh, am_clr, not_true_eq_false, Nat.reduceEqDiff, hx.1.1]
    rw [if_pos (Int32.le_refl _)]
    rfl
  | succ n ih =>
    intro j hj
    have ht := (hc.2.1 j (by have := hc.1; omega)).1
    have e30 : I 30 (vt s j) = enc (-1) (vl s (vt s j)) := by rw [hs.2.2.1 _ (by omega), if_pos ht]
    rw [r3_2]
    simp only [r3_3, r3_4, r3_7, r3_10, r3_11, r3_12, r3_15, r3_18, r3_19, r3_22, r3_23, r3_26, r3_27, r3_28, r3_29, r3_30, r3_33, r3_34, r3_37, r3_38, r3_39, r3_40, r3_43, s_1, s_2, s_3, s_8, s_16, s_18, s_23, s_24, s_33, s_38, s_41, s_161, f_1_0, f_1_1, f_1_4, f_1_5, f_1_8, f_1_9, f_1_10, f_1_11, f_1_12, f_1_13, f_2_0, f_2_1, f_3_3, f_3_4, f_3_5, f_3_6, f_8_2, f_8_3, f_8_4, f_8_5, f_16_2, f_18_3, f_18_4, f_18_5, f_18_6, f_23_0, f_23_1, f_23_2, f_23_3, f_23_4, f_24_2, f_24_3, f_24_4, f_24_5, f_33_3, f_33_4, f_33_5, f_33_6, f_38_1, f_38_2, f_41_0, f_161_0, f_161_1, f_161_3, f_161_7, f_161_12, f_161_13, f_161_14, f_161_15, f_161_16, f_161_17, f_161_18, f_161_19, f_161_21, f_161_22, f_161_25, true_and, and_true, true_or, or_true, if_true, if_false, ne_eq, not_false_eq_true, and_self, t10, am_psh, am_clr, not_true_eq_false, Nat.reduceEqDiff, hx.1.1, hx.1.2.1, ix31 (L := L) j (by omega), n_cl (show j < 2 ^ 31 by omega), hs.2.2.2.1 j (by omega), ix30 (L := L) (vt s j) (by omega), n_cl (show vt s j < 2 ^ 31 by omega), e30, nI_1]
    rw [if_neg (nI_ge (show j < gn G by omega) (by omega))]
    unfold nxF
    have key : (cnP G s j = true) ↔ (j ≠ gr G ∧ vl s (vt s j) = none) := cnP_iff
    by_cases e1 : j = gr G
    · rw [if_pos (by rw [e1]), if_neg (fun q => (key.mp q).1 e1)]
      exact ih (j + 1) (by omega)
    · rw [if_neg (fun q => e1 ((nI_eq (by omega) (by omega)).mp q))]
      by_cases e2 : vl s (vt s j) = none
      · rw [if_pos (key.mpr ⟨e1, e2⟩), if_pos (by rw [e2]; rfl)]
        rfl
      · rw [if_neg (fun q => e2 (key.mp q).2), if_neg (fun q => e2 ((enc_m1 (fun p hp => by have := (hc.2.2.2.2.2.2.2.1 _ p ht hp).1; omega)).mp q))]
        exact ih (j + 1) (by omega)
theorem c_next' (hG : okG G) (hc : cOK G al s) (hx : xG I 3 G) (hs : xC I G pr s) : am_C (d + 1) 3 [.ref 23, .ref 3] (cS L) I J Q = Q (some (.int (enc (-1) (cnext G s)))) (cS L) I J := by
  rw [e3]
  simp only [r3_0, r3_1]
  exact next_loop hG hc hx hs (gn G) 0 (by omega)
theorem cheap_loop {x : Int32} (hG : okG G) (hx : xG I 3 G) (hs : xC I G pr s) (hal : ∀ a, a < gm G → al a = bt x a) {st : Int32} (hst : st = vs s g) : ∀ (n j : Nat) (b : Option Nat), j + n = gm G → (∀ y, b = some y → y < gm G) → am_T (d + 2) 4 17 [some (.ref 23), some (.ref 3), some (.int (nI g)), some (.int x), some (.int st), some (.int (enc (-1) b)), some (.int (nI j))] [] (cS L) I J Q = Q (some (.int (enc (-1) (selF (caP G al s g) (cred G pr s) n j b)))) (cS L) I J := by
  have hn := hG.1.2.1
  have hm := hG.1.2.2.2
  subst hst
  intro n
  induction n with
  | zero =>
    intro j b hj hb
    have : j = gm G := by omega
    subst this
    rw [r4_17]
    simp only [r4_19, r4_20, r4_23, r4_79, r4_81, s_1, s_2, s_3, s_8, s_16, s_18, s_23, s_24, s_33, s_38, s_41, s_161, f_1_0, f_1_1, f_1_4, f_1_5, f_1_8, f_1_9, f_1_10, f_1_11, f_1_12, f_1_13, f_2_0, f_2_1, f_3_3, f_3_4, f_3_5, f_3_6, f_8_2, f_8_3, f_8_4, f_8_5, f_16_2, f_18_3, f_18_4, f_18_5, f_18_6, f_23_0, f_23_1, f_23_2, f_23_3, f_23_4, f_24_2, f_24_3, f_24_4, f_24_5, f_33_3, f_33_4, f_33_5, f_33_6, f_38_1, f_38_2, f_41_0, f_161_0, f_161_1, f_161_3, f_161_7, f_161_12, f_161_13, f_161_14, f_161_15, f_161_16, f_161_17, f_161_18, f_161_19, f_161_21, f_161_22, f_161_25, true_and, and_true, true_or, or_true, if_true, if_false, ne_eq, not_false_eq_true, and_self, t10, am_psh, am_clr, not_true_eq_false, Nat.reduceEqDiff, hx.1.2.2]
    rw [if_pos (Int32.le_refl _)]
    rfl
  | succ n ih =>
    intro j b hj hb
    have hjm : j < gm G := by omega
    rw [r4_17]
    simp only [r4_19, r4_20, r4_23, r4_26, r4_27, r4_29, s_1, s_2, s_3, s_8, s_16, s_18, s_23, s_24, s_33, s_38, s_41, s_161, f_1_0, f_1_1, f_1_4, f_1_5, f_1_8, f_1_9, f_1_10, f_1_11, f_1_12, f_1_13, f_2_0, f_2_1, f_3_3, f_3_4, f_3_5, f_3_6, f_8_2, f_8_3, f_8_4, f_8_5, f_16_2, f_18_3, f_18_4, f_18_5, f_18_6, f_23_0, f_23_1, f_23_2, f_23_3, f_23_4, f_24_2, f_24_3, f_24_4, f_24_5, f_33_3, f_33_4, f_33_5, f_33_6, f_38_1, f_38_2, f_41_0, f_161_0, f_161_1, f_161_3, f_161_7, f_161_12, f_161_13, f_161_14, f_161_15, f_161_16, f_161_17, f_161_18, f_161_19, f_161_21, f_161_22, f_161_25, true_and, and_true, true_or, or_true, if_true, if_false, ne_eq, not_false_eq_true, and_self, t10, am_psh, am_clr, not_true_eq_false, Nat.reduceEqDiff, hx.1.2.2]
    rw [if_neg (nI_ge hjm (by omega)), c_allow (show j < 32 by omega)]
    show _ = Q (some (.int (enc (-1) (selF (caP G al s g) (cred G pr s) n (j + 1) (if caP G al s g j = true ∧ selB (cred G pr s) j b = true then some j else b))))) (cS L) I J
    have key : caP G al s g j = true ↔ bt x j = true ∧ ent (vs s g) (gt G j) (gh G j) := by rw [caP_iff, hal j hjm]
    by_cases e1 : bt x j = true
    · rw [b32_T e1]
      simp only [r4_32, r4_35, r4_36, r4_38, r4_40, s_1, s_2, s_3, s_8, s_16, s_18, s_23, s_24, s_33, s_38, s_41, s_161, f_1_0, f_1_1, f_1_4, f_1_5, f_1_8, f_1_9, f_1_10, f_1_11, f_1_12, f_1_13, f_2_0, f_2_1, f_3_3, f_3_4, f_3_5, f_3_6, f_8_2, f_8_3, f_8_4, f_8_5, f_16_2, f_18_3, f_18_4, f_18_5, f_18_6, f_23_0, f_23_1, f_23_2, f_23_3, f_23_4, f_24_2, f_24_3, f_24_4, f_24_5, f_33_3, f_33_4, f_33_5, f_33_6, f_38_1, f_38_2, f_41_0, f_161_0, f_161_1, f_161_3, f_161_7, f_161_12, f_161_13, f_161_14, f_161_15, f_161_16, f_161_17, f_161_18, f_161_19, f_161_21, f_161_22, f_161_25, true_and, and_true, true_or, or_true, if_true, if_false, ne_eq, not_false_eq_true, and_self, t10, am_psh, am_clr, not_true_eq_false, Nat.reduceEqDiff]
      rw [c_enters (shG_3 L) (show j < 32 by omega) ((hx.2.1 j hjm).1) ((hx.2.1 j hjm).2.1)]
      by_cases e2 : ent (vs s g) (gt G j) (gh G j)
      · rw [b32_T e2]
        cases b with
        | none =>
          rw [if_pos ⟨key.mpr ⟨e1, e2⟩, rfl⟩]
          simp only [r4_43, r4_46, r4_48, r4_49, r4_52, r4_53, r4_56, r4_58, r4_59, r4_60, r4_63, r4_65, r4_66, r4_69, r4_71, r4_73, r4_76, s_1, s_2, s_3, s_8, s_16, s_18, s_23, s_24, s_33, s_38, s_41, s_161, f_1_0, f_1_1, f_1_4, f_1_5, f_1_8, f_1_9, f_1_10, f_1_11, f_1_12, f_1_13, f_2_0, f_2_1, f_3_3, f_3_4, f_3_5, f_3_6, f_8_2, f_8_3, f_8_4, f_8_5, f_16_2, f_18_3, f_18_4, f_18_5, f_18_6, f_23_0, f_23_1, f_23_2, f_23_3, f_23_4, f_24_2, f_24_3, f_24_4, f_24_5, f_33_3, f_33_4, f_33_5, f_33_6, f_38_1, f_38_2, f_41_0, f_161_0, f_161_1, f_161_3, f_161_7, f_161_12, f_161_13, f_161_14, f_161_15, f_161_16, f_161_17, f_161_18, f_161_19, f_161_21, f_161_22, f_161_25, true_and, and_true, true_or, or_true, if_true, if_false, ne_eq, not_false_eq_true, and_self, t10, am_psh, am_clr, not_true_eq_false, Nat.reduceEqDiff, enc, nI_1]
          exact ih (j + 1) (some j) (by omega) (fun y hy => by cases hy; exact hjm)
        | some y =>
          have hy := hb y rfl
          simp only [r4_43, r4_46, r4_48, r4_49, r4_52, r4_53, r4_56, r4_58, r4_59, r4_60, r4_63, r4_65, r4_66, r4_69, r4_71, r4_73, r4_76, s_1, s_2, s_3, s_8, s_16, s_18, s_23, s_24, s_33, s_38, s_41, s_161, f_1_0, f_1_1, f_1_4, f_1_5, f_1_8, f_1_9, f_1_10, f_1_11, f_1_12, f_1_13, f_2_0, f_2_1, f_3_3, f_3_4, f_3_5, f_3_6, f_8_2, f_8_3, f_8_4, f_8_5, f_16_2, f_18_3, f_18_4, f_18_5, f_18_6, f_23_0, f_23_1, f_23_2, f_23_3, f_23_4, f_24_2, f_24_3, f_24_4, f_24_5, f_33_3, f_33_4, f_33_5, f_33_6, f_38_1, f_38_2, f_41_0, f_161_0, f_161_1, f_161_3, f_161_7, f_161_12, f_161_13, f_161_14, f_161_15, f_161_16, f_161_17, f_161_18, f_161_19, f_161_21, f_161_22, f_161_25, true_and, and_true, true_or, or_true, if_true, if_false, ne_eq, not_false_eq_true, and_self, t10, am_psh, am_clr, not_true_eq_false, Nat.reduceEqDiff, enc, n_ne_m1 (show y < 2 ^ 31 by omega), ix29 (L := L) j (by omega), ix29 (L := L) y (by omega), n_cl (show j < 2 ^ 31 by omega), n_cl (show y < 2 ^ 31 by omega), hs.2.2.2.2 j hjm, hs.2.2.2.2 y hy, nI_1]
          by_cases e3 : cred G pr s j < cred G pr s y
          · rw [if_neg (Int32.not_le.mpr e3), if_pos ⟨key.mpr ⟨e1, e2⟩, decide_eq_true e3⟩]
            exact ih (j + 1) (some j) (by omega) (fun y hy => by cases hy; exact hjm)
          · rw [if_pos (Int32.not_lt.mp e3), if_neg (fun q => e3 (of_decide_eq_true q.2))]
            exact ih (j + 1) (some y) (by omega) hb
      · rw [b32_F e2, if_neg (fun q => e2 (key.mp q.1).2)]
        simp only [r4_43, r4_73, r4_76, s_1, s_2, s_3, s_8, s_16, s_18, s_23, s_24, s_33, s_38, s_41, s_161, f_1_0, f_1_1, f_1_4, f_1_5, f_1_8, f_1_9, f_1_10, f_1_11, f_1_12, f_1_13, f_2_0, f_2_1, f_3_3, f_3_4, f_3_5, f_3_6, f_8_2, f_8_3, f_8_4, f_8_5, f_16_2, f_18_3, f_18_4, f_18_5, f_18_6, f_23_0, f_23_1, f_23_2, f_23_3, f_23_4, f_24_2, f_24_3, f_24_4, f_24_5, f_33_3, f_33_4, f_33_5, f_33_6, f_38_1, f_38_2, f_41_0, f_161_0, f_161_1, f_161_3, f_161_7, f_161_12, f_161_13, f_161_14, f_161_15, f_161_16, f_161_17, f_161_18, f_161_19, f_161_21, f_161_22, f_161_25, true_and, and_true, true_or, or_true, if_true, if_false, ne_eq, not_false_eq_true, and_self, t10, am_psh, am_clr, not_true_eq_false, Nat.reduceEqDiff, nI_1]
        exact ih (j + 1) b (by omega) hb
    · rw [b32_F e1, if_neg (fun q => e1 (key.mp q.1).1)]
      simp only [r4_32, r4_73, r4_76, s_1, s_2, s_3, s_8, s_16, s_18, s_23, s_24, s_33, s_38, s_41, s_161, f_1_0, f_1_1, f_1_4, f_1_5, f_1_8, f_1_9, f_1_10, f_1_11, f_1_12, f_1_13, f_2_0, f_2_1, f_3_3, f_3_4, f_3_5, f_3_6, f_8_2, f_8_3, f_8_4, f_8_5, f_16_2, f_18_3, f_18_4, f_18_5, f_18_6, f_23_0, f_23_1, f_23_2, f_23_3, f_23_4, f_24_2, f_24_3, f_24_4, f_24_5, f_33_3, f_33_4, f_33_5, f_33_6, f_38_1, f_38_2, f_41_0, f_161_0, f_161_1, f_161_3, f_161_7, f_161_12, f_161_13, f_161_14, f_161_15, f_161_16, f_161_17, f_161_18, f_161_19, f_161_21, f_161_22, f_161_25, true_and, and_true, true_or, or_true, if_true, if_false, ne_eq, not_false_eq_true, and_self, t10, am_psh, am_clr, not_true_eq_false, Nat.reduceEqDiff, nI_1]
      exact ih (j + 1) b (by omega) hb
theorem c_cheap {x : Int32} (hG : okG G) (hk : vk s ≤ 15) (hg : g < vk s) (hx : xG I 3 G) (hs : xC I G pr s) (hal : ∀ a, a < gm G → al a = bt x a) : am_C (d + 3) 4 [.ref 23, .ref 3, .int (nI g), .int x] (cS L) I J Q = Q (some (.int (enc (-1) (csel G pr al s g)))) (cS L) I J := by
  rw [e4]
  simp only [r4_0, r4_1, r4_4, r4_7, r4_8, r4_9, r4_11, r4_12, r4_14, r4_15, s_1, s_2, s_3, s_8, s_16, s_18, s_23, s_24, s_33, s_38, s_41, s_161, f_1_0, f_1_1, f_1_4, f_1_5, f_1_8, f_1_9, f_1_10, f_1_11, f_1_12, f_1_13, f_2_0, f_2_1, f_3_3, f_3_4, f_3_5, f_3_6, f_8_2, f_8_3, f_8_4, f_8_5, f_16_2, f_18_3, f_18_4, f_18_5, f_18_6, f_23_0, f_23_1, f_23_2, f_23_3, f_23_4, f_24_2, f_24_3, f_24_4, f_24_5, f_33_3, f_33_4, f_33_5, f_33_6, f_38_1, f_38_2, f_41_0, f_161_0, f_161_1, f_161_3, f_161_7, f_161_12, f_161_13, f_161_14, f_161_15, f_161_16, f_161_17, f_161_18, f_161_19, f_161_21, f_161_22, f_161_25, true_and, and_true, true_or, or_true, if_true, if_false, ne_eq, not_false_eq_true, and_self, t10, am_psh, am_clr, not_true_eq_false, Nat.reduceEqDiff, ix25 (L := L) g (by omega), n_cl (show g < 2 ^ 31 by omega)]
  exact cheap_loop hG hx hs hal (hs.2.1 g hg).1 (gm G) 0 none (by omega) (fun y hy => by cases hy)
theorem dual_loop {v : Int32} (hG : okG G) {st : Int32} (f : Nat → Int32) : ∀ (n j : Nat) (I : am_I), j + n = gm G → xG I 3 G → (∀ a, a < gm G → I 29 a = if a < j ∧ ent st (gt G a) (gh G a) then f a - v else f a) → ∃ I', (∀ Q, am_T (d + 2) 5 37 [some (.ref 23), some (.ref 3), some (.int (nI g)), some (.int st), some (.int v), some (.int (nI j))] [] (cS L) I J Q = Q none (cS L) I' J) ∧ (∀ b, b ≠ 29 → I' b = I b) ∧ ∀ a, a < gm G → I' 29 a = if ent st (gt G a) (gh G a) then f a - v else f a := by
  have hn := hG.1.2.1
  have hm := hG.1.2.2.2
  intro n
  induction n with
  | zero =>
    intro j I hj hx hf
    have : j = gm G := by omega
    subst this
    refine ⟨I, fun Q => ?_, fun _ _ => rfl, fun a ha => ?_⟩
    · rw [r5_37]
      simp only [r5_39, r5_40, r5_43, r5_74, s_1, s_2, s_3, s_8, s_16, s_18, s_23, s_24, s_33, s_38, s_41, s_161, f_1_0, f_1_1, f_1_4, f_1_5, f_1_8, f_1_9, f_1_10, f_1_11, f_1_12, f_1_13, f_2_0, f_2_1, f_3_3, f_3_4, f_3_5, f_3_6, f_8_2, f_8_3, f_8_4, f_8_5, f_16_2, f_18_3, f_18_4, f_18_5, f_18_6, f_23_0, f_23_1, f_23_2, f_23_3, f_23_4, f_24_2, f_24_3, f_24_4, f_24_5, f_33_3, f_33_4, f_33_5, f_33_6, f_38_1, f_38_2, f_41_0, f_161_0, f_161_1, f_161_3, f_161_7, f_161_12, f_161_13, f_161_14, f_161_15, f_161_16, f_161_17, f_161_18, f_161_19, f_161_21, f_161_22, f_161_25, true_and, and_true, true_or, or_true, if_true, if_false, ne_eq, not_false_eq_true, and_self, t10, am_psh, am_clr, not_true_eq_false, Nat.reduceEqDiff, hx.1.2.2]
      rw [if_pos (Int32.le_refl _)]
    · rw [hf a ha]
      by_cases e : ent st (gt G a) (gh G a)
      · rw [if_pos ⟨ha, e⟩, if_pos e]
      · rw [if_neg (fun q => e q.2), if_neg e]
  | succ n ih =>
    intro j I hj hx hf
    have hjm : j < gm G := by omega
    by_cases e : ent st (gt G j) (gh G j)
    · obtain ⟨I', k1, k2, k3⟩ := ih (j + 1) (am_up I 29 j (f j - v)) (by omega) (xG_congr (fun b b1 b2 => am_up_ne (by omega)) hx) (fun a ha => by
        by_cases ea : a = j
        · subst ea; rw [up_self, if_pos ⟨by omega, e⟩]
        · rw [up_ne _ _ (Or.inr ea), hf a ha]
          by_cases e2 : ent st (gt G a) (gh G a)
          · by_cases e3 : a < j
            · rw [if_pos ⟨e3, e2⟩, if_pos ⟨by omega, e2⟩]
            · rw [if_neg (fun q => e3 q.1), if_neg (fun q => by have := q.1; omega)]
          · rw [if_neg (fun q => e2 q.2), if_neg (fun q => e2 q.2)])
      refine ⟨I', fun Q => ?_, fun b hb => by rw [k2 b hb, am_up_ne hb], k3⟩
      rw [r5_37]
      simp only [r5_39, r5_40, r5_43, r5_46, r5_47, r5_49, r5_50, s_1, s_2, s_3, s_8, s_16, s_18, s_23, s_24, s_33, s_38, s_41, s_161, f_1_0, f_1_1, f_1_4, f_1_5, f_1_8, f_1_9, f_1_10, f_1_11, f_1_12, f_1_13, f_2_0, f_2_1, f_3_3, f_3_4, f_3_5, f_3_6, f_8_2, f_8_3, f_8_4, f_8_5, f_16_2, f_18_3, f_18_4, f_18_5, f_18_6, f_23_0, f_23_1, f_23_2, f_23_3, f_23_4, f_24_2, f_24_3, f_24_4, f_24_5, f_33_3, f_33_4, f_33_5, f_33_6, f_38_1, f_38_2, f_41_0, f_161_0, f_161_1, f_161_3, f_161_7, f_161_12, f_161_13, f_161_14, f_161_15, f_161_16, f_161_17, f_161_18, f_161_19, f_161_21, f_161_22, f_161_25, true_and, and_true, true_or, or_true, if_true, if_false, ne_eq, not_false_eq_true, and_self, t10, am_psh, am_clr, not_true_eq_false, Nat.reduceEqDiff, hx.1.2.2]
      rw [if_neg (nI_ge hjm (by omega)), c_enters (shG_3 L) (show j < 32 by omega) ((hx.2.1 j hjm).1) ((hx.2.1 j hjm).2.1), b32_T e]
      simp only [r5_53, r5_56, r5_57, r5_60, r5_62, r5_63, r5_64, r5_66, r5_67, r5_68, r5_71, s_1, s_2, s_3, s_8, s_16, s_18, s_23, s_24, s_33, s_38, s_41, s_161, f_1_0, f_1_1, f_1_4, f_1_5, f_1_8, f_1_9, f_1_10, f_1_11, f_1_12, f_1_13, f_2_0, f_2_1, f_3_3, f_3_4, f_3_5, f_3_6, f_8_2, f_8_3, f_8_4, f_8_5, f_16_2, f_18_3, f_18_4, f_18_5, f_18_6, f_23_0, f_23_1, f_23_2, f_23_3, f_23_4, f_24_2, f_24_3, f_24_4, f_24_5, f_33_3, f_33_4, f_33_5, f_33_6, f_38_1, f_38_2, f_41_0, f_161_0, f_161_1, f_161_3, f_161_7, f_161_12, f_161_13, f_161_14, f_161_15, f_161_16, f_161_17, f_161_18, f_161_19, f_161_21, f_161_22, f_161_25, true_and, and_true, true_or, or_true, if_true, if_false, ne_eq, not_false_eq_true, and_self, t10, am_psh, am_clr, not_true_eq_false, Nat.reduceEqDiff, ix29 (L := L) j (by omega), iw29 (L := L) j (by omega), n_cl (show j < 2 ^ 31 by omega), hf j hjm, nI_1]
      rw [if_neg (show ¬ (j < j ∧ ent st (gt G j) (gh G j)) from fun q => by have := q.1; omega)]
      exact k1 Q
    · obtain ⟨I', k1, k2, k3⟩ := ih (j + 1) I (by omega) hx (fun a ha => by
        rw [hf a ha]
        by_cases e2 : ent st (gt G a) (gh G a)
        · have : a ≠ j := fun q => e (by rw [← q]; exact e2)
          by_cases e3 : a < j
          · rw [if_pos ⟨e3, e2⟩, if_pos ⟨by omega, e2⟩]
          · rw [if_neg (fun q => e3 q.1), if_neg (fun q => by have := q.1; omega)]
        · rw [if_neg (fun q => e2 q.2), if_neg (fun q => e2 q.2)])
      refine ⟨I', fun Q => ?_, k2, k3⟩
      rw [r5_37]
      simp only [r5_39, r5_40, r5_43, r5_46, r5_47, r5_49, r5_50, s_1, s_2, s_3, s_8, s_16, s_18, s_23, s_24, s_33, s_38, s_41, s_161, f_1_0, f_1_1, f_1_4, f_1_5, f_1_8, f_1_9, f_1_10, f_1_11, f_1_12, f_1_13, f_2_0, f_2_1, f_3_3, f_3_4, f_3_5, f_3_6, f_8_2, f_8_3, f_8_4, f_8_5, f_16_2, f_18_3, f_18_4, f_18_5, f_18_6, f_23_0, f_23_1, f_23_2, f_23_3, f_23_4, f_24_2, f_24_3, f_24_4, f_24_5, f_33_3, f_33_4, f_33_5, f_33_6, f_38_1, f_38_2, f_41_0, f_161_0, f_161_1, f_161_3, f_161_7, f_161_12, f_161_13, f_161_14, f_161_15, f_161_16, f_161_17, f_161_18, f_161_19, f_161_21, f_161_22, f_161_25, true_and, and_true, true_or, or_true, if_true, if_false, ne_eq, not_false_eq_true, and_self, t10, am_psh, am_clr, not_true_eq_false, Nat.reduceEqDiff, hx.1.2.2]
      rw [if_neg (nI_ge hjm (by omega)), c_enters (shG_3 L) (show j < 32 by omega) ((hx.2.1 j hjm).1) ((hx.2.1 j hjm).2.1), b32_F e]
      simp only [r5_53, r5_68, r5_71, s_1, s_2, s_3, s_8, s_16, s_18, s_23, s_24, s_33, s_38, s_41, s_161, f_1_0, f_1_1, f_1_4, f_1_5, f_1_8, f_1_9, f_1_10, f_1_11, f_1_12, f_1_13, f_2_0, f_2_1, f_3_3, f_3_4, f_3_5, f_3_6, f_8_2, f_8_3, f_8_4, f_8_5, f_16_2, f_18_3, f_18_4, f_18_5, f_18_6, f_23_0, f_23_1, f_23_2, f_23_3, f_23_4, f_24_2, f_24_3, f_24_4, f_24_5, f_33_3, f_33_4, f_33_5, f_33_6, f_38_1, f_38_2, f_41_0, f_161_0, f_161_1, f_161_3, f_161_7, f_161_12, f_161_13, f_161_14, f_161_15, f_161_16, f_161_17, f_161_18, f_161_19, f_161_21, f_161_22, f_161_25, true_and, and_true, true_or, or_true, if_true, if_false, ne_eq, not_false_eq_true, and_self, t10, am_psh, am_clr, not_true_eq_false, Nat.reduceEqDiff, nI_1]
      exact k1 Q
/-- the selected arc has been written: the dual value, and what is reduced by it -/
theorem c_setDual (hG : okG G) (hc : cOK G al s) (hn : cnext G s = some g) (hsl : csel G pr al s g = some a) (hx : xG I 3 G) (hs : xC I G pr s) : ∃ I', (∀ Q, am_C (d + 3) 5 [.ref 23, .ref 3, .int (nI g)] (cS L) (am_up I 30 g (nI a)) J Q = Q none (cS L) I' J) ∧ (∀ b, b ≠ 26 → b ≠ 29 → b ≠ 30 → I' b = I b) ∧ xC I' G pr (cpick G pr s g a) := by
  have hgn := hG.1.2.1
  have hm := hG.1.2.2.2
  have hk := ck_le hG hc
  obtain ⟨n1, n2, n3, n4⟩ := next_ok hG hc hn
  obtain ⟨a1, -⟩ := csel_some hsl
  have hd0 := (hc.2.2.2.2.2.2.2.2.1 g n1 n3).2
  obtain ⟨I', k1, k2, k3⟩ := dual_loop (d := d) (L := L) (J := J) (g := g) (v := cred G pr s a) hG (st := vs s g) (cred G pr s) (gm G) 0 (am_up (am_up I 30 g (nI a)) 26 g (cred G pr s a)) (by omega) (xG_congr (fun b b1 b2 => by rw [am_up_ne (by omega), am_up_ne (by omega)]) hx) (fun b hb => by rw [am_up_ne (by omega), am_up_ne (by omega), if_neg (fun q => absurd q.1 (Nat.not_lt_zero b))]; exact hs.2.2.2.2 b hb)
  refine ⟨I', fun Q => ?_, fun b b1 b2 b3 => by rw [k2 b b2, am_up_ne b1, am_up_ne b3], ?_⟩
  · rw [e5]
    simp only [r5_0, r5_1, r5_4, r5_7, r5_8, r5_9, r5_10, r5_11, r5_14, r5_15, r5_18, r5_19, r5_20, r5_21, r5_23, r5_24, r5_27, r5_30, r5_31, r5_33, r5_34, r5_35, s_1, s_2, s_3, s_8, s_16, s_18, s_23, s_24, s_33, s_38, s_41, s_161, f_1_0, f_1_1, f_1_4, f_1_5, f_1_8, f_1_9, f_1_10, f_1_11, f_1_12, f_1_13, f_2_0, f_2_1, f_3_3, f_3_4, f_3_5, f_3_6, f_8_2, f_8_3, f_8_4, f_8_5, f_16_2, f_18_3, f_18_4, f_18_5, f_18_6, f_23_0, f_23_1, f_23_2, f_23_3, f_23_4, f_24_2, f_24_3, f_24_4, f_24_5, f_33_3, f_33_4, f_33_5, f_33_6, f_38_1, f_38_2, f_41_0, f_161_0, f_161_1, f_161_3, f_161_7, f_161_12, f_161_13, f_161_14, f_161_15, f_161_16, f_161_17, f_161_18, f_161_19, f_161_21, f_161_22, f_161_25, true_and, and_true, true_or, or_true, if_true, if_false, ne_eq, not_false_eq_true, and_self, t10, am_psh, am_clr, not_true_eq_false, Nat.reduceEqDiff, ix25 (L := L) g (by omega), ix30 (L := L) g (by omega), iw26 (L := L) g (by omega), n_cl (show g < 2 ^ 31 by omega), up_self, ix29 (L := L) a (by omega), n_cl (show a < 2 ^ 31 by omega), am_up_ne (show 25 ≠ 30 by omega), am_up_ne (show 29 ≠ 30 by omega), hs.2.2.2.2 a a1, (hs.2.1 g n1).1]
    exact k1 Q
  · obtain ⟨s1, s2, s3, s4, s5⟩ := hs
    refine ⟨?_, fun q hq => ?_, fun q hq => ?_, fun v hv => ?_, fun b hb => ?_⟩
    · rw [k2 24 (by omega), am_up_ne (by omega), am_up_ne (by omega)]; exact s1
    · have hq : q < vk s := hq
      rw [k2 25 (by omega), k2 26 (by omega), k2 27 (by omega), am_up_ne (show 25 ≠ 26 by omega), am_up_ne (show 27 ≠ 26 by omega), am_up_ne (show 25 ≠ 30 by omega), am_up_ne (show 27 ≠ 30 by omega)]
      refine ⟨(s2 q hq).1, ?_, (s2 q hq).2.2⟩
      show _ = fset (vd s) g (cred G pr s a) q
      by_cases e : q = g
      · subst e; rw [up_self, fset_s]
      · rw [up_ne _ _ (Or.inr e), am_up_ne (by omega), fset_n _ _ e]; exact (s2 q hq).2.1
    · rw [k2 30 (by omega), am_up_ne (show 30 ≠ 26 by omega)]
      show _ = if q < vk s then enc (-1) (fset (vl s) g (some a) q) else -1
      by_cases e : q = g
      · subst e; rw [up_self, fset_s, if_pos n1]; rfl
      · rw [up_ne _ _ (Or.inr e), fset_n _ _ e]; exact s3 q hq
    · rw [k2 31 (by omega), am_up_ne (by omega), am_up_ne (by omega)]; exact s4 v hv
    · rw [k3 b hb, cred_pick n1 hd0]
theorem c_before {q : Nat} (hG : okG G) (hk : vk s ≤ 15) (hq : q < vk s) (hx : xG I 3 G) (hs : xC I G pr s) (hl : vl s q = some a) (ha : a < gm G) : am_C (d + 1) 6 [.ref 23, .ref 3, .int (nI q)] (cS L) I J Q = Q (some (.int (nI (vt s (gt G a))))) (cS L) I J := by
  have hn := hG.1.2.1
  have hm := hG.1.2.2.2
  have ht := (hG.2.1 a ha).1
  have e30 : I 30 q = nI a := by rw [hs.2.2.1 q (by omega), if_pos hq, hl]; rfl
  rw [e6]
  simp only [r6_0, r6_1, r6_4, r6_5, r6_8, r6_9, r6_12, r6_13, r6_14, r6_15, r6_16, s_1, s_2, s_3, s_8, s_16, s_18, s_23, s_24, s_33, s_38, s_41, s_161, f_1_0, f_1_1, f_1_4, f_1_5, f_1_8, f_1_9, f_1_10, f_1_11, f_1_12, f_1_13, f_2_0, f_2_1, f_3_3, f_3_4, f_3_5, f_3_6, f_8_2, f_8_3, f_8_4, f_8_5, f_16_2, f_18_3, f_18_4, f_18_5, f_18_6, f_23_0, f_23_1, f_23_2, f_23_3, f_23_4, f_24_2, f_24_3, f_24_4, f_24_5, f_33_3, f_33_4, f_33_5, f_33_6, f_38_1, f_38_2, f_41_0, f_161_0, f_161_1, f_161_3, f_161_7, f_161_12, f_161_13, f_161_14, f_161_15, f_161_16, f_161_17, f_161_18, f_161_19, f_161_21, f_161_22, f_161_25, true_and, and_true, true_or, or_true, if_true, if_false, ne_eq, not_false_eq_true, and_self, t10, am_psh, am_clr, not_true_eq_false, Nat.reduceEqDiff, ix30 (L := L) q (by omega), n_cl (show q < 2 ^ 31 by omega), e30, ix4 (L := L) a (by omega), n_cl (show a < 2 ^ 31 by omega), show I 4 a = nI (gt G a) from (hx.2.1 a ha).1, ix31 (L := L) (gt G a) (by omega), n_cl (show gt G a < 2 ^ 31 by omega), hs.2.2.2.1 _ ht]
theorem closes_loop {J0 : Nat} (hG : okG G) (hk : vk s ≤ 15) (hx : xG I 3 G) (hs : xC I G pr s) (hJn : J0 ≤ gn G) (hJ : cstp G s g J0 = true) (hmin : ∀ i, 1 ≤ i → i < J0 → cstp G s g i = false) (hw : ∀ i, cwk G s g i < vk s) (hsel : ∀ i, i < J0 → ∃ b, b < gm G ∧ vl s (cwk G s g i) = some b) (hle : ∀ q b, q < vk s → vl s q = some b → b < gm G) : ∀ (n i : Nat), i + n = J0 → 0 < n → am_T (d + 1) 7 5 [some (.ref 23), some (.ref 3), some (.int (nI g)), some (.int (nI (cwk G s g i))), some (.int (nI i))] [] (cS L) I J Q = Q (some (.int (b32 (cwk G s g J0 = g)))) (cS L) I J := by
  have hgn := hG.1.2.1
  have hm := hG.1.2.2.2
  have hg : g < vk s := hw 0
  intro n
  induction n with
  | zero => intro i _ h; exact absurd h (Nat.not_lt_zero 0)
  | succ n ih =>
    intro i hi _
    obtain ⟨b, hb, hl⟩ := hsel i (by omega)
    have hnx : vt s (gt G b) = cwk G s g (i + 1) := (cnx_s hl).symm
    have hw1 := hw (i + 1)
    have e30 : I 30 (cwk G s g (i + 1)) = enc (-1) (vl s (cwk G s g (i + 1))) := by rw [hs.2.2.1 _ (by omega), if_pos hw1]
    rw [r7_5]
    simp only [r7_7, r7_8, r7_11, r7_14, r7_15, r7_16, r7_17, s_1, s_2, s_3, s_8, s_16, s_18, s_23, s_24, s_33, s_38, s_41, s_161, f_1_0, f_1_1, f_1_4, f_1_5, f_1_8, f_1_9, f_1_10, f_1_11, f_1_12, f_1_13, f_2_0, f_2_1, f_3_3, f_3_4, f_3_5, f_3_6, f_8_2, f_8_3, f_8_4, f_8_5, f_16_2, f_18_3, f_18_4, f_18_5, f_18_6, f_23_0, f_23_1, f_23_2, f_23_3, f_23_4, f_24_2, f_24_3, f_24_4, f_24_5, f_33_3, f_33_4, f_33_5, f_33_6, f_38_1, f_38_2, f_41_0, f_161_0, f_161_1, f_161_3, f_161_7, f_161_12, f_161_13, f_161_14, f_161_15, f_161_16, f_161_17, f_161_18, f_161_19, f_161_21, f_161_22, f_161_25, true_and, and_true, true_or, or_true, if_true, if_false, ne_eq, not_false_eq_true, and_self, t10, am_psh, am_clr, not_true_eq_false, Nat.reduceEqDiff, hx.1.1]
    rw [if_neg (nI_ge (show i < gn G by omega) (by omega)), c_before hG hk (hw i) hx hs hl hb, hnx]
    simp only [r7_20, r7_21, r7_22, r7_23, r7_26, r7_27, r7_28, r7_29, r7_32, r7_33, r7_34, r7_35, r7_38, r7_39, r7_40, r7_43, s_1, s_2, s_3, s_8, s_16, s_18, s_23, s_24, s_33, s_38, s_41, s_161, f_1_0, f_1_1, f_1_4, f_1_5, f_1_8, f_1_9, f_1_10, f_1_11, f_1_12, f_1_13, f_2_0, f_2_1, f_3_3, f_3_4, f_3_5, f_3_6, f_8_2, f_8_3, f_8_4, f_8_5, f_16_2, f_18_3, f_18_4, f_18_5, f_18_6, f_23_0, f_23_1, f_23_2, f_23_3, f_23_4, f_24_2, f_24_3, f_24_4, f_24_5, f_33_3, f_33_4, f_33_5, f_33_6, f_38_1, f_38_2, f_41_0, f_161_0, f_161_1, f_161_3, f_161_7, f_161_12, f_161_13, f_161_14, f_161_15, f_161_16, f_161_17, f_161_18, f_161_19, f_161_21, f_161_22, f_161_25, true_and, and_true, true_or, or_true, if_true, if_false, ne_eq, not_false_eq_true, and_self, t10, am_psh, am_clr, not_true_eq_false, Nat.reduceEqDiff, ix30 (L := L) (cwk G s g (i + 1)) (by omega), n_cl (show cwk G s g (i + 1) < 2 ^ 31 by omega), e30, nI_1]
    by_cases e1 : cwk G s g (i + 1) = g
    · rw [if_pos (by rw [e1])]
      have : i + 1 = J0 := by
        rcases Nat.lt_or_ge (i + 1) J0 with h | h
        · have := hmin (i + 1) (by omega) h
          rw [cstp_iff.mpr (Or.inl e1)] at this; cases this
        · omega
      rw [this] at e1
      rw [b32_T e1]
    · rw [if_neg (fun q => e1 ((nI_eq (by omega) (by omega)).mp q))]
      by_cases e2 : vl s (cwk G s g (i + 1)) = none
      · rw [if_pos (by rw [e2]; rfl)]
        have : i + 1 = J0 := by
          rcases Nat.lt_or_ge (i + 1) J0 with h | h
          · have := hmin (i + 1) (by omega) h
            rw [cstp_iff.mpr (Or.inr e2)] at this; cases this
          · omega
        rw [this] at e1
        rw [b32_F e1]
      · rw [if_neg (fun q => e2 ((enc_m1 (fun p hp => by have := hle _ p hw1 hp; omega)).mp q))]
        have hlt : i + 1 < J0 := by
          rcases Nat.lt_or_ge (i + 1) J0 with h | h
          · exact h
          · have : i + 1 = J0 := by omega
            rw [← this] at hJ
            rcases cstp_iff.mp hJ with q | q
            · exact absurd q e1
            · exact absurd q e2
        exact ih (i + 1) (by omega) (by omega)
end CC
