/-! the class' contraction: a union whole, reading off, contract -/
section CV
variable {d L : Nat} {I I' : am_I} {J : am_J} {Q : am_Q} {G : Gr} {pr : Nat → Int32} {al : Nat → Bool} {s : Cs} {g a : Nat}
theorem c_unite {J0 : Nat} (hG : okG G) (hk : vk s < 15) (hx : xG I 3 G) (hs : xC I G pr s) (hJ1 : 1 ≤ J0) (hJn : J0 ≤ gn G) (hJ : cwk G s g J0 = g) (hmin : ∀ i, 1 ≤ i → i < J0 → ¬ cwk G s g i = g) (hw : ∀ i, cwk G s g i < vk s) (hsel : ∀ i, i < J0 → ∃ b, b < gm G ∧ vl s (cwk G s g i) = some b) (hbits : ∀ v, v < gn G → (bit (orN (fun i => vs s (cwk G s g i)) J0) v = 1 ↔ inW (cwk G s g) (vt s v) J0 = true)) (hkn : gn G ≤ vk s) : ∃ I', (∀ Q, am_C (d + 2) 8 [.ref 23, .ref 3, .int (nI g)] (cS L) I J Q = Q none (cS L) I' J) ∧ (∀ b, (b < 24 ∨ (27 < b ∧ b ≠ 31)) → I' b = I b) ∧ xC I' G pr (cuni G s g J0) ∧ I' 24 0 = I 24 0 := by
  obtain ⟨s1, s2, s3, s4, s5⟩ := hs
  obtain ⟨I1, l6, k1, k2, k3⟩ := unite_1 (d := d) (L := L) (J := J) (x3 := nI (vk s)) hG (by omega) hJn hJ hmin hw hsel (fun q => enc (-1) (vp s q)) J0 0 I (by omega) (by omega) hx s3 s4 (fun q hq => (s2 q hq).1) (fun q hq => by rw [if_neg (show ¬ inW (cwk G s g) q 0 = true from fun z => by cases z)]; exact (s2 q hq).2.2)
  generalize hnd : orN (fun i => vs s (cwk G s g i)) J0 = nd at *
  obtain ⟨I2, m1, m2, m3⟩ := unite_2 (d := d) (L := L) (J := J) (g := g) (nd := nd) (x3 := nI (vk s)) (x5 := nI g) hG (fun v => nI (vt s v)) (gn G) 0 (am_up (am_up (am_up (am_up I1 (24 + 1) (vk s) nd) (24 + 2) (vk s) 0) (24 + 3) (vk s) (-1)) 24 1 (nI (vk s + 1))) (by omega) (by rw [am_up_ne (by omega), am_up_ne (by omega), am_up_ne (by omega), am_up_ne (by omega), k2 3 (by omega)]; exact hx.1.1) (fun v hv => by rw [am_up_ne (by omega), am_up_ne (by omega), am_up_ne (by omega), am_up_ne (by omega), k2 31 (by omega), if_neg (fun q => absurd q.1 (Nat.not_lt_zero v))]; exact s4 v hv)
  refine ⟨I2, fun Q => ?_, fun b hb => by rw [m2 b (by omega), am_up_ne (by omega), am_up_ne (by omega), am_up_ne (by omega), am_up_ne (by omega), k2 b (by omega)], ⟨?_, fun q hq => ?_, fun q hq => ?_, fun v hv => ?_, fun b hb => ?_⟩, ?_⟩
  · rw [e8]
    simp only [r8_0, r8_1, r8_4, r8_7, r8_8, r8_9, r8_11, r8_12, r8_14, r8_15, s_1, s_2, s_3, s_8, s_16, s_18, s_23, s_24, s_33, s_38, s_41, s_161, f_1_0, f_1_1, f_1_4, f_1_5, f_1_8, f_1_9, f_1_10, f_1_11, f_1_12, f_1_13, f_2_0, f_2_1, f_3_3, f_3_4, f_3_5, f_3_6, f_8_2, f_8_3, f_8_4, f_8_5, f_16_2, f_18_3, f_18_4, f_18_5, f_18_6, f_23_0, f_23_1, f_23_2, f_23_3, f_23_4, f_24_2, f_24_3, f_24_4, f_24_5, f_33_3, f_33_4, f_33_5, f_33_6, f_38_1, f_38_2, f_41_0, f_161_0, f_161_1, f_161_3, f_161_7, f_161_12, f_161_13, f_161_14, f_161_15, f_161_16, f_161_17, f_161_18, f_161_19, f_161_21, f_161_22, f_161_25, true_and, and_true, true_or, or_true, if_true, if_false, ne_eq, not_false_eq_true, and_self, t10, am_psh, am_clr, not_true_eq_false, Nat.reduceEqDiff, s1]
    refine Eq.trans (k1 _) ?_
    simp only [r8_76, r8_77, r8_80, r8_82, s_1, s_2, s_3, s_8, s_16, s_18, s_23, s_24, s_33, s_38, s_41, s_161, f_1_0, f_1_1, f_1_4, f_1_5, f_1_8, f_1_9, f_1_10, f_1_11, f_1_12, f_1_13, f_2_0, f_2_1, f_3_3, f_3_4, f_3_5, f_3_6, f_8_2, f_8_3, f_8_4, f_8_5, f_16_2, f_18_3, f_18_4, f_18_5, f_18_6, f_23_0, f_23_1, f_23_2, f_23_3, f_23_4, f_24_2, f_24_3, f_24_4, f_24_5, f_33_3, f_33_4, f_33_5, f_33_6, f_38_1, f_38_2, f_41_0, f_161_0, f_161_1, f_161_3, f_161_7, f_161_12, f_161_13, f_161_14, f_161_15, f_161_16, f_161_17, f_161_18, f_161_19, f_161_21, f_161_22, f_161_25, true_and, and_true, true_or, or_true, if_true, if_false, ne_eq, not_false_eq_true, and_self, t10, am_psh, am_clr, not_true_eq_false, Nat.reduceEqDiff]
    rw [c_add (shR_24 L) hk (by rw [k2 24 (by omega)]; exact s1)]
    simp only [r8_85, r8_86, s_1, s_2, s_3, s_8, s_16, s_18, s_23, s_24, s_33, s_38, s_41, s_161, f_1_0, f_1_1, f_1_4, f_1_5, f_1_8, f_1_9, f_1_10, f_1_11, f_1_12, f_1_13, f_2_0, f_2_1, f_3_3, f_3_4, f_3_5, f_3_6, f_8_2, f_8_3, f_8_4, f_8_5, f_16_2, f_18_3, f_18_4, f_18_5, f_18_6, f_23_0, f_23_1, f_23_2, f_23_3, f_23_4, f_24_2, f_24_3, f_24_4, f_24_5, f_33_3, f_33_4, f_33_5, f_33_6, f_38_1, f_38_2, f_41_0, f_161_0, f_161_1, f_161_3, f_161_7, f_161_12, f_161_13, f_161_14, f_161_15, f_161_16, f_161_17, f_161_18, f_161_19, f_161_21, f_161_22, f_161_25, true_and, and_true, true_or, or_true, if_true, if_false, ne_eq, not_false_eq_true, and_self, t10, am_psh, am_clr, not_true_eq_false, Nat.reduceEqDiff]
    exact m1 _
  · rw [m2 24 (by omega), up_self]; rfl
  · have hq : q < vk s + 1 := hq
    rw [m2 25 (by omega), m2 26 (by omega), m2 27 (by omega)]
    have e1 : ∀ j, am_up (am_up (am_up (am_up I1 (24 + 1) (vk s) nd) (24 + 2) (vk s) 0) (24 + 3) (vk s) (-1)) 24 1 (nI (vk s + 1)) 25 j = am_up I1 25 (vk s) nd 25 j := fun j => by rw [am_up_ne (by omega), am_up_ne (by omega), am_up_ne (by omega)]
    have e2 : ∀ j, am_up (am_up (am_up (am_up I1 (24 + 1) (vk s) nd) (24 + 2) (vk s) 0) (24 + 3) (vk s) (-1)) 24 1 (nI (vk s + 1)) 26 j = am_up I1 26 (vk s) 0 26 j := fun j => by
      rw [am_up_ne (show 26 ≠ 24 by omega), am_up_ne (show 26 ≠ 24 + 3 by omega)]
      show am_up (am_up I1 25 (vk s) nd) 26 (vk s) 0 26 j = _
      by_cases e : j = vk s
      · subst e; rw [up_self, up_self]
      · rw [up_ne _ _ (Or.inr e), up_ne _ _ (Or.inr e), up_ne _ _ (Or.inr e)]
    have e3 : ∀ j, am_up (am_up (am_up (am_up I1 (24 + 1) (vk s) nd) (24 + 2) (vk s) 0) (24 + 3) (vk s) (-1)) 24 1 (nI (vk s + 1)) 27 j = am_up I1 27 (vk s) (-1) 27 j := fun j => by
      rw [am_up_ne (show 27 ≠ 24 by omega)]
      show am_up (am_up (am_up I1 25 (vk s) nd) 26 (vk s) 0) 27 (vk s) (-1) 27 j = _
      by_cases e : j = vk s
      · subst e; rw [up_self, up_self]
      · rw [up_ne _ _ (Or.inr e), up_ne _ _ (Or.inr e), up_ne _ _ (Or.inr e), up_ne _ _ (Or.inr e)]
    rw [e1, e2, e3]
    show _ = fset (vs s) (vk s) _ q ∧ _ = fset (vd s) (vk s) 0 q ∧ _ = enc (-1) (fset (fun q => if inW (cwk G s g) q J0 = true then some (vk s) else vp s q) (vk s) none q)
    by_cases e : q = vk s
    · subst e
      rw [up_self, up_self, up_self, fset_s, fset_s, fset_s]
      exact ⟨hnd.symm, rfl, rfl⟩
    · rw [up_ne _ _ (Or.inr e), up_ne _ _ (Or.inr e), up_ne _ _ (Or.inr e), fset_n _ _ e, fset_n _ _ e, fset_n _ _ e, k2 25 (by omega), k2 26 (by omega), k3 q (by omega)]
      refine ⟨(s2 q (by omega)).1, (s2 q (by omega)).2.1, ?_⟩
      split <;> rfl
  · rw [m2 30 (by omega), am_up_ne (by omega), am_up_ne (by omega), am_up_ne (by omega), am_up_ne (by omega), k2 30 (by omega), s3 q hq]
    show _ = if q < vk s + 1 then enc (-1) (fset (vl s) (vk s) none q) else -1
    by_cases e : q = vk s
    · subst e; rw [if_neg (by omega), if_pos (by omega), fset_s]; rfl
    · rw [fset_n _ _ e]
      by_cases e2 : q < vk s
      · rw [if_pos e2, if_pos (by omega)]
      · rw [if_neg e2, if_neg (by omega)]
  · rw [m3 v hv]
    show _ = nI (fset (fun q => if inW (cwk G s g) (vt s q) J0 = true then vk s else vt s q) (vk s) (vk s) v)
    rw [fset_n _ _ (by omega)]
    by_cases e : bit nd v = 1
    · rw [if_pos e, if_pos ((hbits v hv).mp e)]
    · rw [if_neg e, if_neg (fun q => e ((hbits v hv).mpr q))]
  · rw [m2 29 (by omega), am_up_ne (by omega), am_up_ne (by omega), am_up_ne (by omega), am_up_ne (by omega), k2 29 (by omega), cred_uni]; exact s5 b hb
  · rw [m2 24 (by omega), up_ne _ _ (Or.inr (by omega)), am_up_ne (by omega), am_up_ne (by omega), am_up_ne (by omega), k2 24 (by omega)]
theorem ro_loop (hG : okG G) (hc : cOK G al s) (hn : cnext G s = none) (hs : xC I G pr s) (hx : xG I 3 G) : ∀ (m : Nat) (K : am_I) (l3 l4 : Option Value), m ≤ vk s → (∀ b, b ≠ 32 → K b = I b) → (∀ q, m ≤ q → q < vk s → K 32 q = enc (-1) (ctr G s q)) → ∃ I' m3 m4, (∀ Q, am_T (d + 1) 9 10 [some (.ref 23), some (.ref 3), some (.int (nI m - 1)), l3, l4] [] (cS L) K J Q = am_T (d + 1) 9 95 [some (.ref 23), some (.ref 3), some (.int (-1)), m3, m4] [] (cS L) I' J Q) ∧ (∀ b, b ≠ 32 → I' b = I b) ∧ ∀ q, q < vk s → I' 32 q = enc (-1) (ctr G s q) := by
  have hgn := hG.1.2.1
  have hm32 := hG.1.2.2.2
  have hk := ck_le hG hc
  obtain ⟨s1, s2, s3, s4, s5⟩ := hs
  intro m
  induction m with
  | zero =>
    intro K l3 l4 _ hf h
    refine ⟨K, l3, l4, fun Q => ?_, hf, fun q hq => h q (by omega) hq⟩
    rw [r9_10]
    simp only [r9_11]
    rw [if_pos (by decide)]
    rfl
  | succ m ih =>
    intro K l3 l4 hm hf h
    have e25 : K 25 m = vs s m := by rw [hf 25 (by omega)]; exact (s2 m (by omega)).1
    have e27 : K 27 m = enc (-1) (vp s m) := by rw [hf 27 (by omega)]; exact (s2 m (by omega)).2.2
    have e30 : K 30 m = enc (-1) (vl s m) := by rw [hf 30 (by omega), s3 m (by omega), if_pos (by omega)]
    have e5 : K 5 = I 5 := hf 5 (by omega)
    have em : nI (m + 1) - 1 = nI m := nI_pred m
    have em2 : nI m + (-1) = nI m - 1 := (Int32.sub_eq_add_neg _ _).symm
    have c0 : ¬ nI m < 0 := nI_pos (by omega)
    have hce := ctr_eq hc (show m < vk s by omega)
    have wr : ∀ (x y : Int32), am_up (am_up K 32 m x) 32 m y = am_up K 32 m y := fun x y => by
      funext b j; unfold am_up
      by_cases e : b = 32 ∧ j = m
      · rw [if_pos e, if_pos e]
      · rw [if_neg e, if_neg e, if_neg e]
    have go : ∀ (x : Int32) (l3' l4' : Option Value), x = enc (-1) (ctr G s m) → ∃ I' l3 l4, (∀ Q, am_T (d + 1) 9 10 [some (.ref 23), some (.ref 3), some (.int (nI m - 1)), l3', l4'] [] (cS L) (am_up K 32 m x) J Q = am_T (d + 1) 9 95 [some (.ref 23), some (.ref 3), some (.int (-1)), l3, l4] [] (cS L) I' J Q) ∧ (∀ b, b ≠ 32 → I' b = I b) ∧ ∀ q, q < vk s → I' 32 q = enc (-1) (ctr G s q) := fun x l3' l4' hxx => by
      refine ih (am_up K 32 m x) l3' l4' (by omega) (fun b hb => by rw [am_up_ne hb]; exact hf b hb) (fun q q1 q2 => ?_)
      by_cases e : q = m
      · subst e; rw [up_self]; exact hxx
      · rw [up_ne _ _ (Or.inr e)]; exact h q (by omega) q2
    cases hp : vp s m with
    | none =>
      have hce' : ctr G s m = vl s m := by rw [hce]; unfold roE; rw [hp]
      obtain ⟨I', l3', l4', k1, k2, k3⟩ := go (enc (-1) (vl s m)) (some (.int (-1))) (some (.int (-1))) (by rw [hce'])
      refine ⟨I', l3', l4', fun Q => ?_, k2, k3⟩
      rw [em, r9_10]
      simp only [r9_11, r9_14, r9_15, r9_18, r9_19, r9_20, r9_23, r9_24, r9_25, r9_26, r9_27, r9_30, r9_33, r9_34, r9_35, r9_36, r9_37, r9_38, r9_41, r9_42, r9_45, r9_46, r9_49, r9_50, r9_51, r9_53, r9_55, r9_56, r9_89, r9_92, s_1, s_2, s_3, s_8, s_16, s_18, s_23, s_24, s_33, s_38, s_41, s_161, f_1_0, f_1_1, f_1_4, f_1_5, f_1_8, f_1_9, f_1_10, f_1_11, f_1_12, f_1_13, f_2_0, f_2_1, f_3_3, f_3_4, f_3_5, f_3_6, f_8_2, f_8_3, f_8_4, f_8_5, f_16_2, f_18_3, f_18_4, f_18_5, f_18_6, f_23_0, f_23_1, f_23_2, f_23_3, f_23_4, f_24_2, f_24_3, f_24_4, f_24_5, f_33_3, f_33_4, f_33_5, f_33_6, f_38_1, f_38_2, f_41_0, f_161_0, f_161_1, f_161_3, f_161_7, f_161_12, f_161_13, f_161_14, f_161_15, f_161_16, f_161_17, f_161_18, f_161_19, f_161_21, f_161_22, f_161_25, true_and, and_true, true_or, or_true, if_true, if_false, ne_eq, not_false_eq_true, and_self, t10, am_psh, am_clr, not_true_eq_false, Nat.reduceEqDiff, iw32 (L := L) m (by omega), ix30 (L := L) m (by omega), ix27 (L := L) m (by omega), n_cl (show m < 2 ^ 31 by omega), am_up_ne (show 27 ≠ 32 by omega), e30, e27, hp, enc, em2]
      rw [if_neg c0]
      exact k1 Q
    | some p =>
      obtain ⟨p1, p2, -⟩ := hc.2.2.2.1 m p (by omega) hp
      obtain ⟨b, b1, b2, b3, b4⟩ := ctr_some hG hc hn (vk s - p) p (by omega) p2 (par_ne_root hG hc (show m < vk s by omega) hp)
      have hb := (hG.2.1 b b2).2.1
      have e32 : am_up K 32 m (enc (-1) (vl s m)) 32 p = nI b := by rw [up_ne _ _ (Or.inr (by omega)), h p (by omega) p2, b1]; rfl
      have hce' : ctr G s m = if bit (vs s m) (gh G b) = 1 then some b else vl s m := by
        rw [hce]; unfold roE; rw [hp]
        show (match ctr G s p with | none => vl s m | some a => if bit (vs s m) (gh G a) = 1 then some a else vl s m) = _
        rw [b1]
      have e5b : K 5 b = nI (gh G b) := by rw [e5]; exact (hx.2.1 b b2).2.1
      by_cases e : bit (vs s m) (gh G b) = 1
      · obtain ⟨I', l3', l4', k1, k2, k3⟩ := go (nI b) (some (.int (nI p))) (some (.int (nI b))) (by rw [hce', if_pos e]; rfl)
        refine ⟨I', l3', l4', fun Q => ?_, k2, k3⟩
        rw [em, r9_10]
        simp only [r9_11, r9_14, r9_15, r9_18, r9_19, r9_20, r9_23, r9_24, r9_25, r9_26, r9_27, r9_30, r9_33, r9_34, r9_35, r9_36, r9_37, r9_38, r9_41, r9_42, r9_45, r9_46, r9_49, r9_50, r9_51, r9_53, r9_55, r9_56, r9_59, r9_60, r9_63, r9_66, r9_67, r9_68, r9_69, r9_72, r9_74, r9_75, s_1, s_2, s_3, s_8, s_16, s_18, s_23, s_24, s_33, s_38, s_41, s_161, f_1_0, f_1_1, f_1_4, f_1_5, f_1_8, f_1_9, f_1_10, f_1_11, f_1_12, f_1_13, f_2_0, f_2_1, f_3_3, f_3_4, f_3_5, f_3_6, f_8_2, f_8_3, f_8_4, f_8_5, f_16_2, f_18_3, f_18_4, f_18_5, f_18_6, f_23_0, f_23_1, f_23_2, f_23_3, f_23_4, f_24_2, f_24_3, f_24_4, f_24_5, f_33_3, f_33_4, f_33_5, f_33_6, f_38_1, f_38_2, f_41_0, f_161_0, f_161_1, f_161_3, f_161_7, f_161_12, f_161_13, f_161_14, f_161_15, f_161_16, f_161_17, f_161_18, f_161_19, f_161_21, f_161_22, f_161_25, true_and, and_true, true_or, or_true, if_true, if_false, ne_eq, not_false_eq_true, and_self, t10, am_psh, am_clr, not_true_eq_false, Nat.reduceEqDiff, iw32 (L := L) m (by omega), ix30 (L := L) m (by omega), ix27 (L := L) m (by omega), n_cl (show m < 2 ^ 31 by omega), am_up_ne (show 27 ≠ 32 by omega), am_up_ne (show 25 ≠ 32 by omega), am_up_ne (show 5 ≠ 32 by omega), e30, e27, hp, show enc (-1) (some p) = nI p from rfl, n_ne_m1 (show p < 2 ^ 31 by omega), ix32 (L := L) p (by omega), n_cl (show p < 2 ^ 31 by omega), e32, n_ne_m1 (show b < 2 ^ 31 by omega), ix25 (L := L) m (by omega), e25, ix5 (L := L) b (by omega), n_cl (show b < 2 ^ 31 by omega), e5b, c_bit, b32_T e]
        rw [if_neg c0]
        simp only [r9_78, r9_81, r9_82, r9_85, r9_86, r9_88, r9_89, r9_92, s_1, s_2, s_3, s_8, s_16, s_18, s_23, s_24, s_33, s_38, s_41, s_161, f_1_0, f_1_1, f_1_4, f_1_5, f_1_8, f_1_9, f_1_10, f_1_11, f_1_12, f_1_13, f_2_0, f_2_1, f_3_3, f_3_4, f_3_5, f_3_6, f_8_2, f_8_3, f_8_4, f_8_5, f_16_2, f_18_3, f_18_4, f_18_5, f_18_6, f_23_0, f_23_1, f_23_2, f_23_3, f_23_4, f_24_2, f_24_3, f_24_4, f_24_5, f_33_3, f_33_4, f_33_5, f_33_6, f_38_1, f_38_2, f_41_0, f_161_0, f_161_1, f_161_3, f_161_7, f_161_12, f_161_13, f_161_14, f_161_15, f_161_16, f_161_17, f_161_18, f_161_19, f_161_21, f_161_22, f_161_25, true_and, and_true, true_or, or_true, if_true, if_false, ne_eq, not_false_eq_true, and_self, t10, am_psh, am_clr, not_true_eq_false, Nat.reduceEqDiff, iw32 (L := L) m (by omega), n_cl (show m < 2 ^ 31 by omega), em2, wr]
        exact k1 Q
      · obtain ⟨I', l3', l4', k1, k2, k3⟩ := go (enc (-1) (vl s m)) (some (.int (nI p))) (some (.int (nI b))) (by rw [hce', if_neg e])
        refine ⟨I', l3', l4', fun Q => ?_, k2, k3⟩
        rw [em, r9_10]
        simp only [r9_11, r9_14, r9_15, r9_18, r9_19, r9_20, r9_23, r9_24, r9_25, r9_26, r9_27, r9_30, r9_33, r9_34, r9_35, r9_36, r9_37, r9_38, r9_41, r9_42, r9_45, r9_46, r9_49, r9_50, r9_51, r9_53, r9_55, r9_56, r9_59, r9_60, r9_63, r9_66, r9_67, r9_68, r9_69, r9_72, r9_74, r9_75, s_1, s_2, s_3, s_8, s_16, s_18, s_23, s_24, s_33, s_38, s_41, s_161, f_1_0, f_1_1, f_1_4, f_1_5, f_1_8, f_1_9, f_1_10, f_1_11, f_1_12, f_1_13, f_2_0, f_2_1, f_3_3, f_3_4, f_3_5, f_3_6, f_8_2, f_8_3, f_8_4, f_8_5, f_16_2, f_18_3, f_18_4, f_18_5, f_18_6, f_23_0, f_23_1, f_23_2, f_23_3, f_23_4, f_24_2, f_24_3, f_24_4, f_24_5, f_33_3, f_33_4, f_33_5, f_33_6, f_38_1, f_38_2, f_41_0, f_161_0, f_161_1, f_161_3, f_161_7, f_161_12, f_161_13, f_161_14, f_161_15, f_161_16, f_161_17, f_161_18, f_161_19, f_161_21, f_161_22, f_161_25, true_and, and_true, true_or, or_true, if_true, if_false, ne_eq, not_false_eq_true, and_self, t10, am_psh, am_clr, not_true_eq_false, Nat.reduceEqDiff, iw32 (L := L) m (by omega), ix30 (L := L) m (by omega), ix27 (L := L) m (by omega), n_cl (show m < 2 ^ 31 by omega), am_up_ne (show 27 ≠ 32 by omega), am_up_ne (show 25 ≠ 32 by omega), am_up_ne (show 5 ≠ 32 by omega), e30, e27, hp, show enc (-1) (some p) = nI p from rfl, n_ne_m1 (show p < 2 ^ 31 by omega), ix32 (L := L) p (by omega), n_cl (show p < 2 ^ 31 by omega), e32, n_ne_m1 (show b < 2 ^ 31 by omega), ix25 (L := L) m (by omega), e25, ix5 (L := L) b (by omega), n_cl (show b < 2 ^ 31 by omega), e5b, c_bit, b32_F e]
        rw [if_neg c0]
        simp only [r9_78, r9_89, r9_92, s_1, s_2, s_3, s_8, s_16, s_18, s_23, s_24, s_33, s_38, s_41, s_161, f_1_0, f_1_1, f_1_4, f_1_5, f_1_8, f_1_9, f_1_10, f_1_11, f_1_12, f_1_13, f_2_0, f_2_1, f_3_3, f_3_4, f_3_5, f_3_6, f_8_2, f_8_3, f_8_4, f_8_5, f_16_2, f_18_3, f_18_4, f_18_5, f_18_6, f_23_0, f_23_1, f_23_2, f_23_3, f_23_4, f_24_2, f_24_3, f_24_4, f_24_5, f_33_3, f_33_4, f_33_5, f_33_6, f_38_1, f_38_2, f_41_0, f_161_0, f_161_1, f_161_3, f_161_7, f_161_12, f_161_13, f_161_14, f_161_15, f_161_16, f_161_17, f_161_18, f_161_19, f_161_21, f_161_22, f_161_25, true_and, and_true, true_or, or_true, if_true, if_false, ne_eq, not_false_eq_true, and_self, t10, am_psh, am_clr, not_true_eq_false, Nat.reduceEqDiff, em2]
        exact k1 Q
theorem c_readOff (hG : okG G) (hc : cOK G al s) (hn : cnext G s = none) (hs : xC I G pr s) (hx : xG I 3 G) : ∃ I', (∀ Q, am_C (d + 2) 9 [.ref 23, .ref 3] (cS L) I J Q = Q none (cS L) I' J) ∧ (∀ b, b ≠ 28 → b ≠ 32 → I' b = I b) ∧ ∀ v, v < gn G → I' 28 v = enc (-1) (ctr G s v) := by
  have hgn := hG.1.2.1
  obtain ⟨I1, l3, l4, k1, k2, k3⟩ := ro_loop (d := d) (L := L) (J := J) hG hc hn hs hx (vk s) I none none (Nat.le_refl _) (fun _ _ => rfl) (fun q q1 q2 => by omega)
  have hcp : am_cpy (cS L) 28 32 0 0 (nI (gn G)) := by
    refine ⟨k_28 L, k_32 L, by omega, by omega, ?_, ?_, ?_⟩
    · refine ⟨?_, by decide, by decide⟩
      rw [n_ti (by omega)]; omega
    · rw [n_ti (by omega), n_32]; show (0 : Int) + _ ≤ _; omega
    · rw [n_ti (by omega), n_28]; show (0 : Int) + _ ≤ _; omega
  refine ⟨am_row I1 28 (va_cpy (I1 32) (I1 28) 0 0 (gn G)), fun Q => ?_, fun b b1 b2 => by rw [am_row_ne b1, k2 b b2], fun v hv => ?_⟩
  · rw [e9]
    simp only [r9_0, r9_1, r9_4, r9_7, r9_8, r9_9, s_1, s_2, s_3, s_8, s_16, s_18, s_23, s_24, s_33, s_38, s_41, s_161, f_1_0, f_1_1, f_1_4, f_1_5, f_1_8, f_1_9, f_1_10, f_1_11, f_1_12, f_1_13, f_2_0, f_2_1, f_3_3, f_3_4, f_3_5, f_3_6, f_8_2, f_8_3, f_8_4, f_8_5, f_16_2, f_18_3, f_18_4, f_18_5, f_18_6, f_23_0, f_23_1, f_23_2, f_23_3, f_23_4, f_24_2, f_24_3, f_24_4, f_24_5, f_33_3, f_33_4, f_33_5, f_33_6, f_38_1, f_38_2, f_41_0, f_161_0, f_161_1, f_161_3, f_161_7, f_161_12, f_161_13, f_161_14, f_161_15, f_161_16, f_161_17, f_161_18, f_161_19, f_161_21, f_161_22, f_161_25, true_and, and_true, true_or, or_true, if_true, if_false, ne_eq, not_false_eq_true, and_self, t10, am_psh, am_clr, not_true_eq_false, Nat.reduceEqDiff, hs.1]
    refine Eq.trans (k1 _) ?_
    simp only [r9_95, r9_96, r9_99, r9_100, r9_101, r9_104, r9_107, r9_108, r9_109, r9_112, r9_115, s_1, s_2, s_3, s_8, s_16, s_18, s_23, s_24, s_33, s_38, s_41, s_161, f_1_0, f_1_1, f_1_4, f_1_5, f_1_8, f_1_9, f_1_10, f_1_11, f_1_12, f_1_13, f_2_0, f_2_1, f_3_3, f_3_4, f_3_5, f_3_6, f_8_2, f_8_3, f_8_4, f_8_5, f_16_2, f_18_3, f_18_4, f_18_5, f_18_6, f_23_0, f_23_1, f_23_2, f_23_3, f_23_4, f_24_2, f_24_3, f_24_4, f_24_5, f_33_3, f_33_4, f_33_5, f_33_6, f_38_1, f_38_2, f_41_0, f_161_0, f_161_1, f_161_3, f_161_7, f_161_12, f_161_13, f_161_14, f_161_15, f_161_16, f_161_17, f_161_18, f_161_19, f_161_21, f_161_22, f_161_25, true_and, and_true, true_or, or_true, if_true, if_false, ne_eq, not_false_eq_true, and_self, t10, am_psh, am_clr, not_true_eq_false, Nat.reduceEqDiff, k2 3 (by omega), hx.1.1, hcp, n_cl (show gn G < 2 ^ 31 by omega), show (0 : Int32).toNatClampNeg = 0 from by decide]
  · rw [am_row_eq, cpy_0 hv, k3 v (by have := hc.1; omega)]
/-- what a contraction leaves: nothing of use, or the groups and the tree -/
def xRes (I' : am_I) (G : Gr) (r : Option Cs) : Prop := match r with
  | none => I' 24 0 = 0
  | some s => I' 24 0 = 1 ∧ I' 24 1 = nI (vk s) ∧ (∀ g, g < vk s → I' 25 g = vs s g ∧ I' 26 g = vd s g ∧ I' 27 g = enc (-1) (vp s g)) ∧ (∀ v, v < gn G → I' 28 v = enc (-1) (ctr G s v))
def oB {α : Type} (r : Option α) : Int32 := match r with
  | none => 0
  | some _ => 1
theorem con_loop {x : Int32} {cb : Nat} (hG : okG G) (hal : ∀ a, a < gm G → al a = bt x a) : ∀ (f i : Nat) (I : am_I) (s : Cs) (l5 : Option Value), i + f = 15 → cOK G al s → xG I 3 G → xC I G pr s → I 24 0 = 0 → ∃ I', (∀ Q, am_T (d + 3) 1 9 [some (.ref 23), some (.ref 3), some (.ref cb), some (.int x), some (.int (nI i)), l5] [] (cS L) I J Q = Q (some (.int (oB (conF G pr al f s)))) (cS L) I' J) ∧ (∀ b, (b < 24 ∨ 32 < b) → I' b = I b) ∧ xRes I' G (conF G pr al f s) ∧ ∀ s', conF G pr al f s = some s' → ∀ a, a < gm G → I' 29 a = cred G pr s' a := by
  have hgn := hG.1.2.1
  have hm32 := hG.1.2.2.2
  intro f
  induction f with
  | zero =>
    intro i I s l5 hi hc hx hs h0
    have : i = 15 := by omega
    subst this
    refine ⟨I, fun Q => ?_, fun _ _ => rfl, h0, fun s' h => by cases h⟩
    rw [r1_9]
    simp only [r1_11, r1_13, r1_102, r1_103, s_1, s_2, s_3, s_8, s_16, s_18, s_23, s_24, s_33, s_38, s_41, s_161, f_1_0, f_1_1, f_1_4, f_1_5, f_1_8, f_1_9, f_1_10, f_1_11, f_1_12, f_1_13, f_2_0, f_2_1, f_3_3, f_3_4, f_3_5, f_3_6, f_8_2, f_8_3, f_8_4, f_8_5, f_16_2, f_18_3, f_18_4, f_18_5, f_18_6, f_23_0, f_23_1, f_23_2, f_23_3, f_23_4, f_24_2, f_24_3, f_24_4, f_24_5, f_33_3, f_33_4, f_33_5, f_33_6, f_38_1, f_38_2, f_41_0, f_161_0, f_161_1, f_161_3, f_161_7, f_161_12, f_161_13, f_161_14, f_161_15, f_161_16, f_161_17, f_161_18, f_161_19, f_161_21, f_161_22, f_161_25, true_and, and_true, true_or, or_true, if_true, if_false, ne_eq, not_false_eq_true, and_self, t10, am_psh, am_clr, not_true_eq_false, Nat.reduceEqDiff]
    rw [if_pos (by decide)]
    rfl
  | succ f ih =>
    intro i I s l5 hi hc hx hs h0
    have hk := ck_le hG hc
    have ci : ¬ (15 : Int32) ≤ nI i := ge_lit (c := 15) rfl (by omega) (by omega)
    unfold conF
    cases hn : cnext G s with
    | none =>
      obtain ⟨I1, k1, k2, k3⟩ := c_readOff (d := d + 1) (L := L) (J := J) hG hc hn hs hx
      refine ⟨am_up I1 24 0 1, fun Q => ?_, fun b hb => by rw [am_up_ne (by omega), k2 b (by omega) (by omega)], ⟨up_self _ _ _ _, ?_, fun q hq => ?_, fun v hv => ?_⟩, fun s' h a ha => ?_⟩
      · rw [r1_9]
        simp only [r1_11, r1_13, r1_16, r1_17, r1_18, s_1, s_2, s_3, s_8, s_16, s_18, s_23, s_24, s_33, s_38, s_41, s_161, f_1_0, f_1_1, f_1_4, f_1_5, f_1_8, f_1_9, f_1_10, f_1_11, f_1_12, f_1_13, f_2_0, f_2_1, f_3_3, f_3_4, f_3_5, f_3_6, f_8_2, f_8_3, f_8_4, f_8_5, f_16_2, f_18_3, f_18_4, f_18_5, f_18_6, f_23_0, f_23_1, f_23_2, f_23_3, f_23_4, f_24_2, f_24_3, f_24_4, f_24_5, f_33_3, f_33_4, f_33_5, f_33_6, f_38_1, f_38_2, f_41_0, f_161_0, f_161_1, f_161_3, f_161_7, f_161_12, f_161_13, f_161_14, f_161_15, f_161_16, f_161_17, f_161_18, f_161_19, f_161_21, f_161_22, f_161_25, true_and, and_true, true_or, or_true, if_true, if_false, ne_eq, not_false_eq_true, and_self, t10, am_psh, am_clr, not_true_eq_false, Nat.reduceEqDiff]
        rw [if_neg ci, c_next' hG hc hx hs, hn]
        simp only [r1_21, r1_23, r1_25, r1_26, r1_29, r1_30, r1_31, s_1, s_2, s_3, s_8, s_16, s_18, s_23, s_24, s_33, s_38, s_41, s_161, f_1_0, f_1_1, f_1_4, f_1_5, f_1_8, f_1_9, f_1_10, f_1_11, f_1_12, f_1_13, f_2_0, f_2_1, f_3_3, f_3_4, f_3_5, f_3_6, f_8_2, f_8_3, f_8_4, f_8_5, f_16_2, f_18_3, f_18_4, f_18_5, f_18_6, f_23_0, f_23_1, f_23_2, f_23_3, f_23_4, f_24_2, f_24_3, f_24_4, f_24_5, f_33_3, f_33_4, f_33_5, f_33_6, f_38_1, f_38_2, f_41_0, f_161_0, f_161_1, f_161_3, f_161_7, f_161_12, f_161_13, f_161_14, f_161_15, f_161_16, f_161_17, f_161_18, f_161_19, f_161_21, f_161_22, f_161_25, true_and, and_true, true_or, or_true, if_true, if_false, ne_eq, not_false_eq_true, and_self, t10, am_psh, am_clr, not_true_eq_false, Nat.reduceEqDiff, enc]
        rw [k1]
        simp only [r1_34, r1_35, r1_38, r1_39, r1_42, r1_43, s_1, s_2, s_3, s_8, s_16, s_18, s_23, s_24, s_33, s_38, s_41, s_161, f_1_0, f_1_1, f_1_4, f_1_5, f_1_8, f_1_9, f_1_10, f_1_11, f_1_12, f_1_13, f_2_0, f_2_1, f_3_3, f_3_4, f_3_5, f_3_6, f_8_2, f_8_3, f_8_4, f_8_5, f_16_2, f_18_3, f_18_4, f_18_5, f_18_6, f_23_0, f_23_1, f_23_2, f_23_3, f_23_4, f_24_2, f_24_3, f_24_4, f_24_5, f_33_3, f_33_4, f_33_5, f_33_6, f_38_1, f_38_2, f_41_0, f_161_0, f_161_1, f_161_3, f_161_7, f_161_12, f_161_13, f_161_14, f_161_15, f_161_16, f_161_17, f_161_18, f_161_19, f_161_21, f_161_22, f_161_25, true_and, and_true, true_or, or_true, if_true, if_false, ne_eq, not_false_eq_true, and_self, t10, am_psh, am_clr, not_true_eq_false, Nat.reduceEqDiff, t11, oB]
      · rw [up_ne _ _ (Or.inr (by omega)), k2 24 (by omega) (by omega)]; exact hs.1
      · rw [am_up_ne (by omega), am_up_ne (by omega), am_up_ne (by omega), k2 25 (by omega) (by omega), k2 26 (by omega) (by omega), k2 27 (by omega) (by omega)]; exact hs.2.1 q hq
      · rw [am_up_ne (by omega)]; exact k3 v hv
      · cases h
        rw [am_up_ne (by omega), k2 29 (by omega) (by omega)]; exact hs.2.2.2.2 a ha
    | some g =>
      dsimp only
      obtain ⟨n1, n2, n3, n4⟩ := next_ok hG hc hn
      have cg := n_ne_m1 (show g < 2 ^ 31 by omega)
      cases hsl : csel G pr al s g with
      | none =>
        refine ⟨am_up I 30 g (-1), fun Q => ?_, fun b hb => am_up_ne (by omega), by show am_up I 30 g (-1) 24 0 = 0; rw [am_up_ne (by omega)]; exact h0, fun s' h => by cases h⟩
        rw [r1_9]
        simp only [r1_11, r1_13, r1_16, r1_17, r1_18, s_1, s_2, s_3, s_8, s_16, s_18, s_23, s_24, s_33, s_38, s_41, s_161, f_1_0, f_1_1, f_1_4, f_1_5, f_1_8, f_1_9, f_1_10, f_1_11, f_1_12, f_1_13, f_2_0, f_2_1, f_3_3, f_3_4, f_3_5, f_3_6, f_8_2, f_8_3, f_8_4, f_8_5, f_16_2, f_18_3, f_18_4, f_18_5, f_18_6, f_23_0, f_23_1, f_23_2, f_23_3, f_23_4, f_24_2, f_24_3, f_24_4, f_24_5, f_33_3, f_33_4, f_33_5, f_33_6, f_38_1, f_38_2, f_41_0, f_161_0, f_161_1, f_161_3, f_161_7, f_161_12, f_161_13, f_161_14, f_161_15, f_161_16, f_161_17, f_161_18, f_161_19, f_161_21, f_161_22, f_161_25, true_and, and_true, true_or, or_true, if_true, if_false, ne_eq, not_false_eq_true, and_self, t10, am_psh, am_clr, not_true_eq_false, Nat.reduceEqDiff]
        rw [if_neg ci, c_next' hG hc hx hs, hn]
        simp only [r1_21, r1_23, r1_25, r1_26, r1_29, r1_30, r1_31, r1_34, r1_35, r1_38, r1_39, r1_42, r1_43, r1_44, r1_45, r1_48, r1_50, r1_51, r1_52, r1_54, r1_55, s_1, s_2, s_3, s_8, s_16, s_18, s_23, s_24, s_33, s_38, s_41, s_161, f_1_0, f_1_1, f_1_4, f_1_5, f_1_8, f_1_9, f_1_10, f_1_11, f_1_12, f_1_13, f_2_0, f_2_1, f_3_3, f_3_4, f_3_5, f_3_6, f_8_2, f_8_3, f_8_4, f_8_5, f_16_2, f_18_3, f_18_4, f_18_5, f_18_6, f_23_0, f_23_1, f_23_2, f_23_3, f_23_4, f_24_2, f_24_3, f_24_4, f_24_5, f_33_3, f_33_4, f_33_5, f_33_6, f_38_1, f_38_2, f_41_0, f_161_0, f_161_1, f_161_3, f_161_7, f_161_12, f_161_13, f_161_14, f_161_15, f_161_16, f_161_17, f_161_18, f_161_19, f_161_21, f_161_22, f_161_25, true_and, and_true, true_or, or_true, if_true, if_false, ne_eq, not_false_eq_true, and_self, t10, am_psh, am_clr, not_true_eq_false, Nat.reduceEqDiff, show enc (-1) (some g) = nI g from rfl, cg]
        rw [c_cheap hG (by omega) n1 hx hs hal, hsl]
        simp only [r1_58, r1_59, r1_60, r1_63, r1_65, r1_66, r1_67, r1_70, r1_71, s_1, s_2, s_3, s_8, s_16, s_18, s_23, s_24, s_33, s_38, s_41, s_161, f_1_0, f_1_1, f_1_4, f_1_5, f_1_8, f_1_9, f_1_10, f_1_11, f_1_12, f_1_13, f_2_0, f_2_1, f_3_3, f_3_4, f_3_5, f_3_6, f_8_2, f_8_3, f_8_4, f_8_5, f_16_2, f_18_3, f_18_4, f_18_5, f_18_6, f_23_0, f_23_1, f_23_2, f_23_3, f_23_4, f_24_2, f_24_3, f_24_4, f_24_5, f_33_3, f_33_4, f_33_5, f_33_6, f_38_1, f_38_2, f_41_0, f_161_0, f_161_1, f_161_3, f_161_7, f_161_12, f_161_13, f_161_14, f_161_15, f_161_16, f_161_17, f_161_18, f_161_19, f_161_21, f_161_22, f_161_25, true_and, and_true, true_or, or_true, if_true, if_false, ne_eq, not_false_eq_true, and_self, t10, am_psh, am_clr, not_true_eq_false, Nat.reduceEqDiff, enc, iw30 (L := L) g (by omega), ix30 (L := L) g (by omega), n_cl (show g < 2 ^ 31 by omega), up_self, t01, oB]
      | some a =>
        obtain ⟨a1, -⟩ := csel_some hsl
        obtain ⟨⟨y1, y2⟩, y3, y4, y5, y6, y7⟩ := cyc hG hc hn hsl
        obtain ⟨I1, k1, k2, k3⟩ := c_setDual (d := d) (L := L) (J := J) hG hc hn hsl hx hs
        have hx1 : xG I1 3 G := xG_congr (fun b b1 b2 => k2 b (by omega) (by omega) (by omega)) hx
        have hclo := clo_ok hG hc hn hsl
        have hle : ∀ q b, q < vk (cpick G pr s g a) → vl (cpick G pr s g a) q = some b → b < gm G := fun q b hq h => by
          have h : fset (vl s) g (some a) q = some b := h
          by_cases e : q = g
          · rw [e, fset_s] at h; cases h; exact a1
          · rw [fset_n _ _ e] at h; exact (hc.2.2.2.2.2.2.2.1 q b hq h).1
        have hsel : ∀ i, i < ccy G (cpick G pr s g a) g → ∃ b, b < gm G ∧ vl (cpick G pr s g a) (cwk G (cpick G pr s g a) g i) = some b := fun i hi => by
          cases e : vl (cpick G pr s g a) (cwk G (cpick G pr s g a) g i) with
          | some b => exact ⟨b, hle _ b (y5 i).1 e, rfl⟩
          | none =>
            by_cases e0 : i = 0
            · subst e0
              have : fset (vl s) g (some a) g = none := e
              rw [fset_s] at this; cases this
            · have := y4 i (by omega) hi
              rw [cstp_iff.mpr (Or.inr e)] at this; cases this
        have hcl : ∀ Q, am_C (d + 3) 7 [.ref 23, .ref 3, .int (nI g)] (cS L) I1 J Q = Q (some (.int (b32 (cwk G (cpick G pr s g a) g (ccy G (cpick G pr s g a) g) = g)))) (cS L) I1 J := fun Q => by
          rw [e7]
          simp only [r7_0, r7_1, r7_2, r7_3, s_1, s_2, s_3, s_8, s_16, s_18, s_23, s_24, s_33, s_38, s_41, s_161, f_1_0, f_1_1, f_1_4, f_1_5, f_1_8, f_1_9, f_1_10, f_1_11, f_1_12, f_1_13, f_2_0, f_2_1, f_3_3, f_3_4, f_3_5, f_3_6, f_8_2, f_8_3, f_8_4, f_8_5, f_16_2, f_18_3, f_18_4, f_18_5, f_18_6, f_23_0, f_23_1, f_23_2, f_23_3, f_23_4, f_24_2, f_24_3, f_24_4, f_24_5, f_33_3, f_33_4, f_33_5, f_33_6, f_38_1, f_38_2, f_41_0, f_161_0, f_161_1, f_161_3, f_161_7, f_161_12, f_161_13, f_161_14, f_161_15, f_161_16, f_161_17, f_161_18, f_161_19, f_161_21, f_161_22, f_161_25, true_and, and_true, true_or, or_true, if_true, if_false, ne_eq, not_false_eq_true, and_self, t10, am_psh, am_clr, not_true_eq_false, Nat.reduceEqDiff]
          exact closes_loop (d := d + 1) (s := cpick G pr s g a) hG (show vk s ≤ 15 by omega) hx1 k3 y2 y3 y4 (fun i => (y5 i).1) hsel hle (ccy G (cpick G pr s g a) g) 0 (by omega) (by omega)
        have hgo : ∀ Q, am_T (d + 3) 1 9 [some (.ref 23), some (.ref 3), some (.ref cb), some (.int x), some (.int (nI i)), l5] [] (cS L) I J Q = am_T (d + 3) 1 86 [some (.ref 23), some (.ref 3), some (.ref cb), some (.int x), some (.int (nI i)), some (.int (nI g))] [.int (b32 (cwk G (cpick G pr s g a) g (ccy G (cpick G pr s g a) g) = g))] (cS L) I1 J Q := fun Q => by
          rw [r1_9]
          simp only [r1_11, r1_13, r1_16, r1_17, r1_18, s_1, s_2, s_3, s_8, s_16, s_18, s_23, s_24, s_33, s_38, s_41, s_161, f_1_0, f_1_1, f_1_4, f_1_5, f_1_8, f_1_9, f_1_10, f_1_11, f_1_12, f_1_13, f_2_0, f_2_1, f_3_3, f_3_4, f_3_5, f_3_6, f_8_2, f_8_3, f_8_4, f_8_5, f_16_2, f_18_3, f_18_4, f_18_5, f_18_6, f_23_0, f_23_1, f_23_2, f_23_3, f_23_4, f_24_2, f_24_3, f_24_4, f_24_5, f_33_3, f_33_4, f_33_5, f_33_6, f_38_1, f_38_2, f_41_0, f_161_0, f_161_1, f_161_3, f_161_7, f_161_12, f_161_13, f_161_14, f_161_15, f_161_16, f_161_17, f_161_18, f_161_19, f_161_21, f_161_22, f_161_25, true_and, and_true, true_or, or_true, if_true, if_false, ne_eq, not_false_eq_true, and_self, t10, am_psh, am_clr, not_true_eq_false, Nat.reduceEqDiff]
          rw [if_neg ci, c_next' hG hc hx hs, hn]
          simp only [r1_21, r1_23, r1_25, r1_26, r1_29, r1_30, r1_31, r1_34, r1_35, r1_38, r1_39, r1_42, r1_43, r1_44, r1_45, r1_48, r1_50, r1_51, r1_52, r1_54, r1_55, s_1, s_2, s_3, s_8, s_16, s_18, s_23, s_24, s_33, s_38, s_41, s_161, f_1_0, f_1_1, f_1_4, f_1_5, f_1_8, f_1_9, f_1_10, f_1_11, f_1_12, f_1_13, f_2_0, f_2_1, f_3_3, f_3_4, f_3_5, f_3_6, f_8_2, f_8_3, f_8_4, f_8_5, f_16_2, f_18_3, f_18_4, f_18_5, f_18_6, f_23_0, f_23_1, f_23_2, f_23_3, f_23_4, f_24_2, f_24_3, f_24_4, f_24_5, f_33_3, f_33_4, f_33_5, f_33_6, f_38_1, f_38_2, f_41_0, f_161_0, f_161_1, f_161_3, f_161_7, f_161_12, f_161_13, f_161_14, f_161_15, f_161_16, f_161_17, f_161_18, f_161_19, f_161_21, f_161_22, f_161_25, true_and, and_true, true_or, or_true, if_true, if_false, ne_eq, not_false_eq_true, and_self, t10, am_psh, am_clr, not_true_eq_false, Nat.reduceEqDiff, show enc (-1) (some g) = nI g from rfl, cg]
          rw [c_cheap hG (by omega) n1 hx hs hal, hsl]
          simp only [r1_58, r1_59, r1_60, r1_63, r1_65, r1_66, r1_67, r1_70, r1_71, r1_72, r1_73, r1_74, r1_76, s_1, s_2, s_3, s_8, s_16, s_18, s_23, s_24, s_33, s_38, s_41, s_161, f_1_0, f_1_1, f_1_4, f_1_5, f_1_8, f_1_9, f_1_10, f_1_11, f_1_12, f_1_13, f_2_0, f_2_1, f_3_3, f_3_4, f_3_5, f_3_6, f_8_2, f_8_3, f_8_4, f_8_5, f_16_2, f_18_3, f_18_4, f_18_5, f_18_6, f_23_0, f_23_1, f_23_2, f_23_3, f_23_4, f_24_2, f_24_3, f_24_4, f_24_5, f_33_3, f_33_4, f_33_5, f_33_6, f_38_1, f_38_2, f_41_0, f_161_0, f_161_1, f_161_3, f_161_7, f_161_12, f_161_13, f_161_14, f_161_15, f_161_16, f_161_17, f_161_18, f_161_19, f_161_21, f_161_22, f_161_25, true_and, and_true, true_or, or_true, if_true, if_false, ne_eq, not_false_eq_true, and_self, t10, am_psh, am_clr, not_true_eq_false, Nat.reduceEqDiff, show enc (-1) (some a) = nI a from rfl, iw30 (L := L) g (by omega), ix30 (L := L) g (by omega), n_cl (show g < 2 ^ 31 by omega), up_self, n_ne_m1 (show a < 2 ^ 31 by omega)]
          rw [k1]
          simp only [r1_79, r1_80, r1_81, r1_83, s_1, s_2, s_3, s_8, s_16, s_18, s_23, s_24, s_33, s_38, s_41, s_161, f_1_0, f_1_1, f_1_4, f_1_5, f_1_8, f_1_9, f_1_10, f_1_11, f_1_12, f_1_13, f_2_0, f_2_1, f_3_3, f_3_4, f_3_5, f_3_6, f_8_2, f_8_3, f_8_4, f_8_5, f_16_2, f_18_3, f_18_4, f_18_5, f_18_6, f_23_0, f_23_1, f_23_2, f_23_3, f_23_4, f_24_2, f_24_3, f_24_4, f_24_5, f_33_3, f_33_4, f_33_5, f_33_6, f_38_1, f_38_2, f_41_0, f_161_0, f_161_1, f_161_3, f_161_7, f_161_12, f_161_13, f_161_14, f_161_15, f_161_16, f_161_17, f_161_18, f_161_19, f_161_21, f_161_22, f_161_25, true_and, and_true, true_or, or_true, if_true, if_false, ne_eq, not_false_eq_true, and_self, t10, am_psh, am_clr, not_true_eq_false, Nat.reduceEqDiff]
          rw [hcl]
        by_cases e : cwk G (cpick G pr s g a) g (ccy G (cpick G pr s g a) g) = g
        · have hcc : cclo G (cpick G pr s g a) g = cuni G (cpick G pr s g a) g (ccy G (cpick G pr s g a) g) := if_pos e
          rw [hcc] at hclo
          have hk2 := ck_le hG hclo
          have hk3 : vk s + 1 < 2 * gn G := hk2
          obtain ⟨I2, m1, m2, m3, m4⟩ := c_unite (d := d + 1) (L := L) (J := J) (I := I1) (s := cpick G pr s g a) hG (show vk s < 15 by omega) hx1 k3 y1 y2 e (fun i h1 h2 q => by have := y4 i h1 h2; rw [cstp_iff.mpr (Or.inl q)] at this; cases this) (fun i => (y5 i).1) hsel (fun v hv => by
            rw [bit_orN (by omega), inW_iff]
            constructor
            · rintro ⟨i, hi, h⟩
              exact ⟨i, hi, ((hc.2.2.2.2.1 _ v (y5 i).1 (y5 i).2 (by omega)).mp h).2.symm⟩
            · rintro ⟨i, hi, h⟩
              exact ⟨i, hi, (hc.2.2.2.2.1 _ v (y5 i).1 (y5 i).2 (by omega)).mpr ⟨hv, h.symm⟩⟩) hc.1
          obtain ⟨I', q1, q2, q3, q4⟩ := ih (i + 1) I2 (cuni G (cpick G pr s g a) g (ccy G (cpick G pr s g a) g)) (some (.int (nI g))) (by omega) hclo (xG_congr (fun b b1 b2 => m2 b (by omega)) hx1) m3 (by rw [m4, k2 24 (by omega) (by omega) (by omega)]; exact h0)
          rw [← hcc] at q1 q3 q4
          refine ⟨I', fun Q => ?_, fun b hb => by rw [q2 b hb, m2 b (by omega), k2 b (by omega) (by omega) (by omega)], q3, q4⟩
          rw [hgo Q, b32_T e]
          simp only [r1_86, r1_89, r1_90, r1_91, r1_93, s_1, s_2, s_3, s_8, s_16, s_18, s_23, s_24, s_33, s_38, s_41, s_161, f_1_0, f_1_1, f_1_4, f_1_5, f_1_8, f_1_9, f_1_10, f_1_11, f_1_12, f_1_13, f_2_0, f_2_1, f_3_3, f_3_4, f_3_5, f_3_6, f_8_2, f_8_3, f_8_4, f_8_5, f_16_2, f_18_3, f_18_4, f_18_5, f_18_6, f_23_0, f_23_1, f_23_2, f_23_3, f_23_4, f_24_2, f_24_3, f_24_4, f_24_5, f_33_3, f_33_4, f_33_5, f_33_6, f_38_1, f_38_2, f_41_0, f_161_0, f_161_1, f_161_3, f_161_7, f_161_12, f_161_13, f_161_14, f_161_15, f_161_16, f_161_17, f_161_18, f_161_19, f_161_21, f_161_22, f_161_25, true_and, and_true, true_or, or_true, if_true, if_false, ne_eq, not_false_eq_true, and_self, t10, am_psh, am_clr, not_true_eq_false, Nat.reduceEqDiff]
          rw [m1]
          simp only [r1_96, r1_99, s_1, s_2, s_3, s_8, s_16, s_18, s_23, s_24, s_33, s_38, s_41, s_161, f_1_0, f_1_1, f_1_4, f_1_5, f_1_8, f_1_9, f_1_10, f_1_11, f_1_12, f_1_13, f_2_0, f_2_1, f_3_3, f_3_4, f_3_5, f_3_6, f_8_2, f_8_3, f_8_4, f_8_5, f_16_2, f_18_3, f_18_4, f_18_5, f_18_6, f_23_0, f_23_1, f_23_2, f_23_3, f_23_4, f_24_2, f_24_3, f_24_4, f_24_5, f_33_3, f_33_4, f_33_5, f_33_6, f_38_1, f_38_2, f_41_0, f_161_0, f_161_1, f_161_3, f_161_7, f_161_12, f_161_13, f_161_14, f_161_15, f_161_16, f_161_17, f_161_18, f_161_19, f_161_21, f_161_22, f_161_25, true_and, and_true, true_or, or_true, if_true, if_false, ne_eq, not_false_eq_true, and_self, t10, am_psh, am_clr, not_true_eq_false, Nat.reduceEqDiff, nI_1]
          exact q1 Q
        · have hcc : cclo G (cpick G pr s g a) g = cpick G pr s g a := if_neg e
          rw [hcc] at hclo
          obtain ⟨I', q1, q2, q3, q4⟩ := ih (i + 1) I1 (cpick G pr s g a) (some (.int (nI g))) (by omega) hclo hx1 k3 (by rw [k2 24 (by omega) (by omega) (by omega)]; exact h0)
          rw [← hcc] at q1 q3 q4
          refine ⟨I', fun Q => ?_, fun b hb => by rw [q2 b hb, k2 b (by omega) (by omega) (by omega)], q3, q4⟩
          rw [hgo Q, b32_F e]
          simp only [r1_86, r1_96, r1_99, s_1, s_2, s_3, s_8, s_16, s_18, s_23, s_24, s_33, s_38, s_41, s_161, f_1_0, f_1_1, f_1_4, f_1_5, f_1_8, f_1_9, f_1_10, f_1_11, f_1_12, f_1_13, f_2_0, f_2_1, f_3_3, f_3_4, f_3_5, f_3_6, f_8_2, f_8_3, f_8_4, f_8_5, f_16_2, f_18_3, f_18_4, f_18_5, f_18_6, f_23_0, f_23_1, f_23_2, f_23_3, f_23_4, f_24_2, f_24_3, f_24_4, f_24_5, f_33_3, f_33_4, f_33_5, f_33_6, f_38_1, f_38_2, f_41_0, f_161_0, f_161_1, f_161_3, f_161_7, f_161_12, f_161_13, f_161_14, f_161_15, f_161_16, f_161_17, f_161_18, f_161_19, f_161_21, f_161_22, f_161_25, true_and, and_true, true_or, or_true, if_true, if_false, ne_eq, not_false_eq_true, and_self, t10, am_psh, am_clr, not_true_eq_false, Nat.reduceEqDiff, nI_1]
          exact q1 Q
/-- contract, whole -/
theorem c_contract {x : Int32} {cb : Nat} (hcb : isCo cb) (hG : okG G) (hx : xG I 3 G) (hp : ∀ a, a < gm G → I cb a = pr a) (hal : ∀ a, a < gm G → al a = bt x a) : ∃ I', (∀ Q, am_C (d + 4) 1 [.ref 23, .ref 3, .ref cb, .int x] (cS L) I J Q = Q (some (.int (oB (conF G pr al 15 (con0 G))))) (cS L) I' J) ∧ (∀ b, (b < 24 ∨ 32 < b) → I' b = I b) ∧ xRes I' G (conF G pr al 15 (con0 G)) ∧ ∀ s', conF G pr al 15 (con0 G) = some s' → ∀ a, a < gm G → I' 29 a = cred G pr s' a := by
  obtain ⟨I1, k1, k2, k3, k4⟩ := c_prepare (d := d) (L := L) (J := J) hcb hG hx hp
  obtain ⟨I', q1, q2, q3, q4⟩ := con_loop (d := d) (L := L) (J := J) (x := x) (cb := cb) hG hal 15 0 I1 (con0 G) none (by omega) (cOK_0 hG) (xG_congr (fun b b1 b2 => k2 b (by omega)) hx) k3 k4
  refine ⟨I', fun Q => ?_, fun b hb => by rw [q2 b hb, k2 b (by omega)], q3, q4⟩
  rw [e1]
  simp only [r1_0, r1_1, r1_2, r1_3, s_1, s_2, s_3, s_8, s_16, s_18, s_23, s_24, s_33, s_38, s_41, s_161, f_1_0, f_1_1, f_1_4, f_1_5, f_1_8, f_1_9, f_1_10, f_1_11, f_1_12, f_1_13, f_2_0, f_2_1, f_3_3, f_3_4, f_3_5, f_3_6, f_8_2, f_8_3, f_8_4, f_8_5, f_16_2, f_18_3, f_18_4, f_18_5, f_18_6, f_23_0, f_23_1, f_23_2, f_23_3, f_23_4, f_24_2, f_24_3, f_24_4, f_24_5, f_33_3, f_33_4, f_33_5, f_33_6, f_38_1, f_38_2, f_41_0, f_161_0, f_161_1, f_161_3, f_161_7, f_161_12, f_161_13, f_161_14, f_161_15, f_161_16, f_161_17, f_161_18, f_161_19, f_161_21, f_161_22, f_161_25, true_and, and_true, true_or, or_true, if_true, if_false, ne_eq, not_false_eq_true, and_self, t10, am_psh, am_clr, not_true_eq_false, Nat.reduceEqDiff]
  rw [k1]
  simp only [r1_6, r1_7, s_1, s_2, s_3, s_8, s_16, s_18, s_23, s_24, s_33, s_38, s_41, s_161, f_1_0, f_1_1, f_1_4, f_1_5, f_1_8, f_1_9, f_1_10, f_1_11, f_1_12, f_1_13, f_2_0, f_2_1, f_3_3, f_3_4, f_3_5, f_3_6, f_8_2, f_8_3, f_8_4, f_8_5, f_16_2, f_18_3, f_18_4, f_18_5, f_18_6, f_23_0, f_23_1, f_23_2, f_23_3, f_23_4, f_24_2, f_24_3, f_24_4, f_24_5, f_33_3, f_33_4, f_33_5, f_33_6, f_38_1, f_38_2, f_41_0, f_161_0, f_161_1, f_161_3, f_161_7, f_161_12, f_161_13, f_161_14, f_161_15, f_161_16, f_161_17, f_161_18, f_161_19, f_161_21, f_161_22, f_161_25, true_and, and_true, true_or, or_true, if_true, if_false, ne_eq, not_false_eq_true, and_self, t10, am_psh, am_clr, not_true_eq_false, Nat.reduceEqDiff]
  exact q1 Q
end CV
