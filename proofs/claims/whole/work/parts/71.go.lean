/-! the model goes through all choices -/
def mB (G : Gr) (I : am_I) (b : Option (Nat → Nat)) : Prop := match b with
  | none => I 161 23 = -107
  | some h => I 161 23 = nI (cosA G h) ∧ cosA G h ≤ 1000 ∧ ∀ v, v < gn G → v ≠ gr G → I 175 v = nI (h v)
section GO
variable {d L : Nat} {I I' : am_I} {J J' : am_J} {Q : am_Q} {G : Gr} {f : Nat → Nat}
theorem cosA_le (hG : okG G) (hc : isCh G f) : cosA G f ≤ 1000 := by
  have hgn := hG.1.2.1
  have h := sumN_le (f := fun v => if v = gr G then 0 else gc G (f v)) (g := fun _ => 99) (gn G) (fun i hi => by
    show (if i = gr G then 0 else gc G (f i)) ≤ 99
    by_cases e : i = gr G
    · rw [if_pos e]; omega
    · rw [if_neg e]; exact (hG.2.1 _ (hc i hi e).1).2.2.2)
  have h3 : ∀ n, sumN (fun _ => 99) n = 99 * n := by
    intro n
    induction n with
    | zero => rfl
    | succ n ih => unfold sumN; rw [ih]; omega
  rw [h3] at h
  show sumN (fun v => if v = gr G then 0 else gc G (f v)) (gn G) ≤ 1000
  omega
theorem me_copy {x1 x2 x3 : Int32} : ∀ (n j : Nat) (K : am_I), j + n = 8 → (∀ b, b ≠ 175 → K b = I b) → (∀ v, v < j → K 175 v = I 174 v) → ∃ I', (∀ Q, am_T d 174 140 [some (.ref 161), some (.int x1), some (.int x2), some (.int x3), some (.int (nI j))] [] (cS L) K J Q = Q none (cS L) I' J) ∧ (∀ b, b ≠ 175 → I' b = I b) ∧ ∀ v, v < 8 → I' 175 v = I 174 v := by
  intro n
  induction n with
  | zero =>
    intro j K hj hf h
    have : j = 8 := by omega
    subst this
    refine ⟨K, fun Q => ?_, hf, h⟩
    rw [r174_140]
    simp only [r174_142, r174_144, r174_167]
    rw [if_pos (by decide)]
  | succ n ih =>
    intro j K hj hf h
    obtain ⟨I', k1, k2, k3⟩ := ih (j + 1) (am_up K 175 j (I 174 j)) (by omega) (fun b hb => by rw [am_up_ne hb]; exact hf b hb) (fun v hv => by
      by_cases e : v = j
      · subst e; rw [up_self]
      · rw [up_ne _ _ (Or.inr e)]; exact h v (by omega))
    refine ⟨I', fun Q => ?_, k2, k3⟩
    rw [r174_140]
    simp only [r174_142, r174_144, r174_147, r174_148, r174_151, r174_153, r174_154, r174_157, r174_159, r174_160, r174_161, r174_164, s_1, s_2, s_3, s_8, s_16, s_18, s_23, s_24, s_33, s_38, s_41, s_161, f_1_0, f_1_1, f_1_4, f_1_5, f_1_8, f_1_9, f_1_10, f_1_11, f_1_12, f_1_13, f_2_0, f_2_1, f_3_3, f_3_4, f_3_5, f_3_6, f_8_2, f_8_3, f_8_4, f_8_5, f_16_2, f_18_3, f_18_4, f_18_5, f_18_6, f_23_0, f_23_1, f_23_2, f_23_3, f_23_4, f_24_2, f_24_3, f_24_4, f_24_5, f_33_3, f_33_4, f_33_5, f_33_6, f_38_1, f_38_2, f_41_0, f_161_0, f_161_1, f_161_3, f_161_7, f_161_12, f_161_13, f_161_14, f_161_15, f_161_16, f_161_17, f_161_18, f_161_19, f_161_21, f_161_22, f_161_25, true_and, and_true, true_or, or_true, if_true, if_false, ne_eq, not_false_eq_true, and_self, t10, am_psh, am_clr, not_true_eq_false, Nat.reduceEqDiff, iw175 (L := L) j (by omega), ix174 (L := L) j (by omega), n_cl (show j < 2 ^ 31 by omega), nI_1, hf 174 (by omega)]
    rw [if_neg (show ¬ (8 : Int32) ≤ nI j from ge_lit (c := 8) rfl (by omega) (by omega))]
    exact k1 Q
theorem hasP_s {o : Option Nat} {j : Nat} (ho : ∀ a, o = some a → a < 2 ^ 31) (hj : j ≠ gr G) (hf : f j < 2 ^ 31) : (hasP G o f j ∨ nI (f j) = enc (-107) o) ↔ hasP G o f (j + 1) := by
  cases o with
  | none => exact ⟨fun _ => trivial, fun _ => Or.inl trivial⟩
  | some a =>
    have ha := ho a rfl
    show ((∃ v, v < j ∧ v ≠ gr G ∧ f v = a) ∨ nI (f j) = nI a) ↔ ∃ v, v < j + 1 ∧ v ≠ gr G ∧ f v = a
    rw [nI_eq hf ha]
    constructor
    · rintro (⟨v, h1, h2, h3⟩ | h)
      · exact ⟨v, by omega, h2, h3⟩
      · exact ⟨j, by omega, hj, h⟩
    · rintro ⟨v, h1, h2, h3⟩
      by_cases e : v = j
      · subst e; exact Or.inr h3
      · exact Or.inl ⟨v, by omega, h2, h3⟩
theorem hasP_r {o : Option Nat} {j : Nat} (hj : j = gr G) : hasP G o f j ↔ hasP G o f (j + 1) := by
  cases o with
  | none => exact Iff.rfl
  | some a =>
    constructor
    · rintro ⟨v, h1, h2, h3⟩; exact ⟨v, by omega, h2, h3⟩
    · rintro ⟨v, h1, h2, h3⟩; exact ⟨v, by omega, h2, h3⟩
theorem me_loop {o : Option Nat} (hG : okG G) (hm : mG (I 162) G) (hc : isCh G f) (hf : ∀ v, v < gn G → v ≠ gr G → I 174 v = nI (f v)) (ho : ∀ a, o = some a → a < 2 ^ 31) : ∀ (n j : Nat), j + n = gn G → ∀ Q, am_T d 174 25 [some (.ref 161), some (.int (enc (-107) o)), some (.int (bI (hasP G o f j))), some (.int (nI (sumN (fun v => if v = gr G then 0 else gc G (f v)) j))), some (.int (nI j))] [] (cS L) I J Q = am_T d 174 90 [some (.ref 161), some (.int (enc (-107) o)), some (.int (bI (hasP G o f (gn G)))), some (.int (nI (cosA G f))), some (.int (nI (gn G)))] [] (cS L) I J Q := by
  have hgn := hG.1.2.1
  have hr := hG.1.2.2.1
  have hm32 := hG.1.2.2.2
  have y0 : am_ix (cS L) 162 20 0 := mx 0 (by omega)
  have y1 : am_ix (cS L) 162 20 1 := mx 1 (by omega)
  have z0 : (0 : Int32).toNatClampNeg = 0 := by decide
  have z1 : (1 : Int32).toNatClampNeg = 1 := by decide
  intro n
  induction n with
  | zero =>
    intro j hj Q
    have : j = gn G := by omega
    subst this
    rw [r174_25]
    simp only [r174_27, r174_28, r174_31, r174_32, r174_33, s_1, s_2, s_3, s_8, s_16, s_18, s_23, s_24, s_33, s_38, s_41, s_161, f_1_0, f_1_1, f_1_4, f_1_5, f_1_8, f_1_9, f_1_10, f_1_11, f_1_12, f_1_13, f_2_0, f_2_1, f_3_3, f_3_4, f_3_5, f_3_6, f_8_2, f_8_3, f_8_4, f_8_5, f_16_2, f_18_3, f_18_4, f_18_5, f_18_6, f_23_0, f_23_1, f_23_2, f_23_3, f_23_4, f_24_2, f_24_3, f_24_4, f_24_5, f_33_3, f_33_4, f_33_5, f_33_6, f_38_1, f_38_2, f_41_0, f_161_0, f_161_1, f_161_3, f_161_7, f_161_12, f_161_13, f_161_14, f_161_15, f_161_16, f_161_17, f_161_18, f_161_19, f_161_21, f_161_22, f_161_25, true_and, and_true, true_or, or_true, if_true, if_false, ne_eq, not_false_eq_true, and_self, t10, am_psh, am_clr, not_true_eq_false, Nat.reduceEqDiff, y0, z0, hm.1.1]
    rw [if_pos (Int32.le_refl _)]
    rfl
  | succ n ih =>
    intro j hj Q
    rw [r174_25]
    have ih := ih (j + 1) (by omega) Q
    have es : sumN (fun v => if v = gr G then 0 else gc G (f v)) (j + 1) = sumN (fun v => if v = gr G then 0 else gc G (f v)) j + (if j = gr G then 0 else gc G (f j)) := rfl
    rw [es] at ih
    by_cases e : j = gr G
    · simp only [r174_27, r174_28, r174_31, r174_32, r174_33, r174_36, r174_38, r174_39, r174_42, r174_43, r174_44, r174_84, r174_87, s_1, s_2, s_3, s_8, s_16, s_18, s_23, s_24, s_33, s_38, s_41, s_161, f_1_0, f_1_1, f_1_4, f_1_5, f_1_8, f_1_9, f_1_10, f_1_11, f_1_12, f_1_13, f_2_0, f_2_1, f_3_3, f_3_4, f_3_5, f_3_6, f_8_2, f_8_3, f_8_4, f_8_5, f_16_2, f_18_3, f_18_4, f_18_5, f_18_6, f_23_0, f_23_1, f_23_2, f_23_3, f_23_4, f_24_2, f_24_3, f_24_4, f_24_5, f_33_3, f_33_4, f_33_5, f_33_6, f_38_1, f_38_2, f_41_0, f_161_0, f_161_1, f_161_3, f_161_7, f_161_12, f_161_13, f_161_14, f_161_15, f_161_16, f_161_17, f_161_18, f_161_19, f_161_21, f_161_22, f_161_25, true_and, and_true, true_or, or_true, if_true, if_false, ne_eq, not_false_eq_true, and_self, t10, am_psh, am_clr, not_true_eq_false, Nat.reduceEqDiff, y0, y1, z0, z1, hm.1.1, hm.1.2.1, nI_1]
      rw [if_neg (nI_ge (show j < gn G by omega) (by omega)), if_pos (show nI j = nI (gr G) by rw [e])]
      rw [if_pos e, Nat.add_zero] at ih
      rw [bI_c (hasP_r e)]
      exact ih
    · have ha := (hc j (by omega) e).1
      have e67 : I 162 (67 + f j) = nI (gc G (f j)) := (hm.2.1 _ ha).2.2
      simp only [r174_27, r174_28, r174_31, r174_32, r174_33, r174_36, r174_38, r174_39, r174_42, r174_43, r174_44, r174_47, r174_48, r174_49, r174_52, r174_54, r174_55, r174_56, r174_59, r174_60, r174_63, r174_64, r174_65, r174_66, r174_67, r174_68, r174_71, r174_73, r174_74, r174_77, r174_79, r174_80, r174_81, r174_82, r174_83, r174_84, r174_87, s_1, s_2, s_3, s_8, s_16, s_18, s_23, s_24, s_33, s_38, s_41, s_161, f_1_0, f_1_1, f_1_4, f_1_5, f_1_8, f_1_9, f_1_10, f_1_11, f_1_12, f_1_13, f_2_0, f_2_1, f_3_3, f_3_4, f_3_5, f_3_6, f_8_2, f_8_3, f_8_4, f_8_5, f_16_2, f_18_3, f_18_4, f_18_5, f_18_6, f_23_0, f_23_1, f_23_2, f_23_3, f_23_4, f_24_2, f_24_3, f_24_4, f_24_5, f_33_3, f_33_4, f_33_5, f_33_6, f_38_1, f_38_2, f_41_0, f_161_0, f_161_1, f_161_3, f_161_7, f_161_12, f_161_13, f_161_14, f_161_15, f_161_16, f_161_17, f_161_18, f_161_19, f_161_21, f_161_22, f_161_25, true_and, and_true, true_or, or_true, if_true, if_false, ne_eq, not_false_eq_true, and_self, t10, am_psh, am_clr, not_true_eq_false, Nat.reduceEqDiff, y0, y1, z0, z1, hm.1.1, hm.1.2.1, ix174 (L := L) j (by omega), n_cl (show j < 2 ^ 31 by omega), hf j (by omega) e, show (67 : Int32) + nI (f j) = nI (67 + f j) from nI_add 67 _, mx (L := L) (67 + f j) (by omega), n_cl (show 67 + f j < 2 ^ 31 by omega), e67, nI_1, n_add]
      rw [if_neg (nI_ge (show j < gn G by omega) (by omega)), if_neg (show ¬ nI j = nI (gr G) from fun q => e ((nI_eq (by omega) (by omega)).mp q))]
      rw [if_neg e, ← bI_c (hasP_s ho e (by omega)), ← bI_or] at ih
      by_cases e2 : nI (f j) = enc (-107) o
      · rw [if_pos e2]
        rw [bI_T e2] at ih
        exact ih
      · rw [if_neg e2]
        rw [bI_F e2] at ih
        exact ih
theorem c_meets {o : Option Nat} {b : Option (Nat → Nat)} {c : Nat} (hG : okG G) (hm : mG (I 162) G) (hc : isCh G f) (hf : ∀ v, v < gn G → v ≠ gr G → I 174 v = nI (f v)) (ho : ∀ a, o = some a → a < 2 ^ 31) (hb : mB G I b) (hJ : J 161 24 = Int64.ofNat c) : ∃ I' J', (∀ Q, am_C (d + 2) 174 [.ref 161, .int (enc (-107) o)] (cS L) I J Q = Q none (cS L) I' J') ∧ (∀ b, b ≠ 161 → b ≠ 175 → I' b = I b) ∧ (∀ j, j ≠ 23 → I' 161 j = I 161 j) ∧ mB G I' (lfB G f b) ∧ J' 161 24 = Int64.ofNat (lfC G o f c) := by
  have hgn := hG.1.2.1
  have hcos := cosA_le hG hc
  by_cases hA : isAr G f
  · -- an arborescence
    have run1 : ∀ Q, am_C (d + 2) 174 [.ref 161, .int (enc (-107) o)] (cS L) I J Q = am_T (d + 1) 174 90 [some (.ref 161), some (.int (enc (-107) o)), some (.int (bI (hasP G o f (gn G)))), some (.int (nI (cosA G f))), some (.int (nI (gn G)))] [] (cS L) I J Q := fun Q => by
      rw [e174]
      simp only [r174_0, r174_1, s_1, s_2, s_3, s_8, s_16, s_18, s_23, s_24, s_33, s_38, s_41, s_161, f_1_0, f_1_1, f_1_4, f_1_5, f_1_8, f_1_9, f_1_10, f_1_11, f_1_12, f_1_13, f_2_0, f_2_1, f_3_3, f_3_4, f_3_5, f_3_6, f_8_2, f_8_3, f_8_4, f_8_5, f_16_2, f_18_3, f_18_4, f_18_5, f_18_6, f_23_0, f_23_1, f_23_2, f_23_3, f_23_4, f_24_2, f_24_3, f_24_4, f_24_5, f_33_3, f_33_4, f_33_5, f_33_6, f_38_1, f_38_2, f_41_0, f_161_0, f_161_1, f_161_3, f_161_7, f_161_12, f_161_13, f_161_14, f_161_15, f_161_16, f_161_17, f_161_18, f_161_19, f_161_21, f_161_22, f_161_25, true_and, and_true, true_or, or_true, if_true, if_false, ne_eq, not_false_eq_true, and_self, t10, am_psh, am_clr, not_true_eq_false, Nat.reduceEqDiff]
      rw [c_isArb hG hm hc hf, bI_T hA]
      simp only [r174_4, r174_7, r174_8, r174_9, r174_11, r174_14, r174_15, r174_18, r174_19, r174_20, r174_21, r174_22, r174_23, s_1, s_2, s_3, s_8, s_16, s_18, s_23, s_24, s_33, s_38, s_41, s_161, f_1_0, f_1_1, f_1_4, f_1_5, f_1_8, f_1_9, f_1_10, f_1_11, f_1_12, f_1_13, f_2_0, f_2_1, f_3_3, f_3_4, f_3_5, f_3_6, f_8_2, f_8_3, f_8_4, f_8_5, f_16_2, f_18_3, f_18_4, f_18_5, f_18_6, f_23_0, f_23_1, f_23_2, f_23_3, f_23_4, f_24_2, f_24_3, f_24_4, f_24_5, f_33_3, f_33_4, f_33_5, f_33_6, f_38_1, f_38_2, f_41_0, f_161_0, f_161_1, f_161_3, f_161_7, f_161_12, f_161_13, f_161_14, f_161_15, f_161_16, f_161_17, f_161_18, f_161_19, f_161_21, f_161_22, f_161_25, true_and, and_true, true_or, or_true, if_true, if_false, ne_eq, not_false_eq_true, and_self, t10, am_psh, am_clr, not_true_eq_false, Nat.reduceEqDiff]
      have hl := me_loop (d := d + 1) (L := L) (J := J) hG hm hc hf ho (gn G) 0 (by omega) Q
      have h0 : bI (hasP G o f 0) = if enc (-107) o = -107 then 1 else 0 := by
        cases o with
        | none => rw [bI_T (show hasP G none f 0 from trivial)]; rfl
        | some a =>
          rw [bI_F (fun q => by obtain ⟨v, hv, _⟩ := q; omega)]
          show (0 : Int32) = if nI a = -107 then 1 else 0
          rw [if_neg (by rw [n_ne_none (ho a rfl)]; exact id)]
      rw [h0] at hl
      by_cases e : enc (-107) o = -107
      · rw [if_pos e]; rw [if_pos e] at hl; exact hl
      · rw [if_neg e]; rw [if_neg e] at hl; exact hl
    have run2 : ∃ J', J' 161 24 = Int64.ofNat (lfC G o f c) ∧ ∀ Q, am_C (d + 2) 174 [.ref 161, .int (enc (-107) o)] (cS L) I J Q = am_T (d + 1) 174 108 [some (.ref 161), some (.int (enc (-107) o)), some (.int (bI (hasP G o f (gn G)))), some (.int (nI (cosA G f))), some (.int (nI (gn G)))] [] (cS L) I J' Q := by
      by_cases hh : hasP G o f (gn G)
      · refine ⟨am_up J 161 24 (J 161 24 + 1), ?_, fun Q => ?_⟩
        · rw [up_self, hJ]; unfold lfC; rw [if_pos (pD_T ⟨hA, hh⟩), Int64.ofNat_add]; rfl
        · rw [run1, bI_T hh]
          simp only [r174_90, r174_91, r174_92, r174_95, r174_96, r174_99, r174_100, r174_103, r174_104, r174_105, s_1, s_2, s_3, s_8, s_16, s_18, s_23, s_24, s_33, s_38, s_41, s_161, f_1_0, f_1_1, f_1_4, f_1_5, f_1_8, f_1_9, f_1_10, f_1_11, f_1_12, f_1_13, f_2_0, f_2_1, f_3_3, f_3_4, f_3_5, f_3_6, f_8_2, f_8_3, f_8_4, f_8_5, f_16_2, f_18_3, f_18_4, f_18_5, f_18_6, f_23_0, f_23_1, f_23_2, f_23_3, f_23_4, f_24_2, f_24_3, f_24_4, f_24_5, f_33_3, f_33_4, f_33_5, f_33_6, f_38_1, f_38_2, f_41_0, f_161_0, f_161_1, f_161_3, f_161_7, f_161_12, f_161_13, f_161_14, f_161_15, f_161_16, f_161_17, f_161_18, f_161_19, f_161_21, f_161_22, f_161_25, true_and, and_true, true_or, or_true, if_true, if_false, ne_eq, not_false_eq_true, and_self, t10, am_psh, am_clr, not_true_eq_false, Nat.reduceEqDiff]
      · refine ⟨am_up J 161 24 (J 161 24 + 0), ?_, fun Q => ?_⟩
        · rw [up_self, hJ]; unfold lfC; rw [pD_F (fun q => hh q.2), Int64.add_zero]; rfl
        · rw [run1, bI_F hh]
          simp only [r174_90, r174_91, r174_92, r174_95, r174_96, r174_99, r174_100, r174_103, r174_104, r174_105, s_1, s_2, s_3, s_8, s_16, s_18, s_23, s_24, s_33, s_38, s_41, s_161, f_1_0, f_1_1, f_1_4, f_1_5, f_1_8, f_1_9, f_1_10, f_1_11, f_1_12, f_1_13, f_2_0, f_2_1, f_3_3, f_3_4, f_3_5, f_3_6, f_8_2, f_8_3, f_8_4, f_8_5, f_16_2, f_18_3, f_18_4, f_18_5, f_18_6, f_23_0, f_23_1, f_23_2, f_23_3, f_23_4, f_24_2, f_24_3, f_24_4, f_24_5, f_33_3, f_33_4, f_33_5, f_33_6, f_38_1, f_38_2, f_41_0, f_161_0, f_161_1, f_161_3, f_161_7, f_161_12, f_161_13, f_161_14, f_161_15, f_161_16, f_161_17, f_161_18, f_161_19, f_161_21, f_161_22, f_161_25, true_and, and_true, true_or, or_true, if_true, if_false, ne_eq, not_false_eq_true, and_self, t10, am_psh, am_clr, not_true_eq_false, Nat.reduceEqDiff]
    obtain ⟨J', hJ', run2⟩ := run2
    -- no better one
    have skip : ¬ (btr G f b ∧ lmP G f) → (∀ Q, am_T (d + 1) 174 108 [some (.ref 161), some (.int (enc (-107) o)), some (.int (bI (hasP G o f (gn G)))), some (.int (nI (cosA G f))), some (.int (nI (gn G)))] [] (cS L) I J' Q = Q none (cS L) I J') → ∃ I' J', (∀ Q, am_C (d + 2) 174 [.ref 161, .int (enc (-107) o)] (cS L) I J Q = Q none (cS L) I' J') ∧ (∀ b, b ≠ 161 → b ≠ 175 → I' b = I b) ∧ (∀ j, j ≠ 23 → I' 161 j = I 161 j) ∧ mB G I' (lfB G f b) ∧ J' 161 24 = Int64.ofNat (lfC G o f c) := fun hn h => by
      refine ⟨I, J', fun Q => by rw [run2, h], fun _ _ _ => rfl, fun _ _ => rfl, ?_, hJ'⟩
      unfold lfB
      rw [pD_F (fun q => hn q.2)]
      exact hb
    -- a better one, as far as cost goes
    have go : (∀ Q, am_T (d + 1) 174 108 [some (.ref 161), some (.int (enc (-107) o)), some (.int (bI (hasP G o f (gn G)))), some (.int (nI (cosA G f))), some (.int (nI (gn G)))] [] (cS L) I J' Q = am_T (d + 1) 174 125 [some (.ref 161), some (.int (enc (-107) o)), some (.int (bI (hasP G o f (gn G)))), some (.int (nI (cosA G f))), some (.int (nI (gn G)))] [] (cS L) I J' Q) → btr G f b → ∃ I' J', (∀ Q, am_C (d + 2) 174 [.ref 161, .int (enc (-107) o)] (cS L) I J Q = Q none (cS L) I' J') ∧ (∀ b, b ≠ 161 → b ≠ 175 → I' b = I b) ∧ (∀ j, j ≠ 23 → I' 161 j = I 161 j) ∧ mB G I' (lfB G f b) ∧ J' 161 24 = Int64.ofNat (lfC G o f c) := fun h hbt => by
      by_cases hl : lmP G f
      · obtain ⟨I', k1, k2, k3⟩ := me_copy (d := d + 1) (L := L) (J := J') (I := am_up I 161 23 (nI (cosA G f))) (x1 := enc (-107) o) (x2 := bI (hasP G o f (gn G))) (x3 := nI (cosA G f)) 8 0 _ (by omega) (fun _ _ => rfl) (fun v hv => absurd hv (Nat.not_lt_zero v))
        refine ⟨I', J', fun Q => ?_, fun b b1 b2 => by rw [k2 b b2, am_up_ne b1], fun j hj => by rw [k2 161 (by omega), up_ne _ _ (Or.inr hj)], ?_, hJ'⟩
        · rw [run2, h]
          simp only [r174_125, r174_126, s_1, s_2, s_3, s_8, s_16, s_18, s_23, s_24, s_33, s_38, s_41, s_161, f_1_0, f_1_1, f_1_4, f_1_5, f_1_8, f_1_9, f_1_10, f_1_11, f_1_12, f_1_13, f_2_0, f_2_1, f_3_3, f_3_4, f_3_5, f_3_6, f_8_2, f_8_3, f_8_4, f_8_5, f_16_2, f_18_3, f_18_4, f_18_5, f_18_6, f_23_0, f_23_1, f_23_2, f_23_3, f_23_4, f_24_2, f_24_3, f_24_4, f_24_5, f_33_3, f_33_4, f_33_5, f_33_6, f_38_1, f_38_2, f_41_0, f_161_0, f_161_1, f_161_3, f_161_7, f_161_12, f_161_13, f_161_14, f_161_15, f_161_16, f_161_17, f_161_18, f_161_19, f_161_21, f_161_22, f_161_25, true_and, and_true, true_or, or_true, if_true, if_false, ne_eq, not_false_eq_true, and_self, t10, am_psh, am_clr, not_true_eq_false, Nat.reduceEqDiff]
          rw [c_isLim hG hm hc hf, bI_T hl]
          simp only [r174_129, r174_132, r174_133, r174_134, r174_137, r174_138, s_1, s_2, s_3, s_8, s_16, s_18, s_23, s_24, s_33, s_38, s_41, s_161, f_1_0, f_1_1, f_1_4, f_1_5, f_1_8, f_1_9, f_1_10, f_1_11, f_1_12, f_1_13, f_2_0, f_2_1, f_3_3, f_3_4, f_3_5, f_3_6, f_8_2, f_8_3, f_8_4, f_8_5, f_16_2, f_18_3, f_18_4, f_18_5, f_18_6, f_23_0, f_23_1, f_23_2, f_23_3, f_23_4, f_24_2, f_24_3, f_24_4, f_24_5, f_33_3, f_33_4, f_33_5, f_33_6, f_38_1, f_38_2, f_41_0, f_161_0, f_161_1, f_161_3, f_161_7, f_161_12, f_161_13, f_161_14, f_161_15, f_161_16, f_161_17, f_161_18, f_161_19, f_161_21, f_161_22, f_161_25, true_and, and_true, true_or, or_true, if_true, if_false, ne_eq, not_false_eq_true, and_self, t10, am_psh, am_clr, not_true_eq_false, Nat.reduceEqDiff]
          exact k1 Q
        · unfold lfB
          rw [if_pos (pD_T ⟨hA, hbt, hl⟩)]
          refine ⟨by rw [k2 161 (by omega), up_self], hcos, fun v hv hr => ?_⟩
          rw [k3 v (by omega), am_up_ne (by omega)]; exact hf v hv hr
      · refine skip (fun q => hl q.2) (fun Q => ?_)
        rw [h]
        simp only [r174_125, r174_126, s_1, s_2, s_3, s_8, s_16, s_18, s_23, s_24, s_33, s_38, s_41, s_161, f_1_0, f_1_1, f_1_4, f_1_5, f_1_8, f_1_9, f_1_10, f_1_11, f_1_12, f_1_13, f_2_0, f_2_1, f_3_3, f_3_4, f_3_5, f_3_6, f_8_2, f_8_3, f_8_4, f_8_5, f_16_2, f_18_3, f_18_4, f_18_5, f_18_6, f_23_0, f_23_1, f_23_2, f_23_3, f_23_4, f_24_2, f_24_3, f_24_4, f_24_5, f_33_3, f_33_4, f_33_5, f_33_6, f_38_1, f_38_2, f_41_0, f_161_0, f_161_1, f_161_3, f_161_7, f_161_12, f_161_13, f_161_14, f_161_15, f_161_16, f_161_17, f_161_18, f_161_19, f_161_21, f_161_22, f_161_25, true_and, and_true, true_or, or_true, if_true, if_false, ne_eq, not_false_eq_true, and_self, t10, am_psh, am_clr, not_true_eq_false, Nat.reduceEqDiff]
        rw [c_isLim hG hm hc hf, bI_F hl]
        simp only [r174_129, r174_167, s_1, s_2, s_3, s_8, s_16, s_18, s_23, s_24, s_33, s_38, s_41, s_161, f_1_0, f_1_1, f_1_4, f_1_5, f_1_8, f_1_9, f_1_10, f_1_11, f_1_12, f_1_13, f_2_0, f_2_1, f_3_3, f_3_4, f_3_5, f_3_6, f_8_2, f_8_3, f_8_4, f_8_5, f_16_2, f_18_3, f_18_4, f_18_5, f_18_6, f_23_0, f_23_1, f_23_2, f_23_3, f_23_4, f_24_2, f_24_3, f_24_4, f_24_5, f_33_3, f_33_4, f_33_5, f_33_6, f_38_1, f_38_2, f_41_0, f_161_0, f_161_1, f_161_3, f_161_7, f_161_12, f_161_13, f_161_14, f_161_15, f_161_16, f_161_17, f_161_18, f_161_19, f_161_21, f_161_22, f_161_25, true_and, and_true, true_or, or_true, if_true, if_false, ne_eq, not_false_eq_true, and_self, t10, am_psh, am_clr, not_true_eq_false, Nat.reduceEqDiff]
    cases b with
    | none =>
      refine go (fun Q => ?_) trivial
      simp only [r174_108, r174_109, r174_112, r174_114, r174_117, r174_118, r174_119, r174_122, s_1, s_2, s_3, s_8, s_16, s_18, s_23, s_24, s_33, s_38, s_41, s_161, f_1_0, f_1_1, f_1_4, f_1_5, f_1_8, f_1_9, f_1_10, f_1_11, f_1_12, f_1_13, f_2_0, f_2_1, f_3_3, f_3_4, f_3_5, f_3_6, f_8_2, f_8_3, f_8_4, f_8_5, f_16_2, f_18_3, f_18_4, f_18_5, f_18_6, f_23_0, f_23_1, f_23_2, f_23_3, f_23_4, f_24_2, f_24_3, f_24_4, f_24_5, f_33_3, f_33_4, f_33_5, f_33_6, f_38_1, f_38_2, f_41_0, f_161_0, f_161_1, f_161_3, f_161_7, f_161_12, f_161_13, f_161_14, f_161_15, f_161_16, f_161_17, f_161_18, f_161_19, f_161_21, f_161_22, f_161_25, true_and, and_true, true_or, or_true, if_true, if_false, ne_eq, not_false_eq_true, and_self, t10, am_psh, am_clr, not_true_eq_false, Nat.reduceEqDiff, show I 161 23 = -107 from hb]
    | some h =>
      obtain ⟨b1, b2, b3⟩ := hb
      by_cases e : cosA G f < cosA G h
      · refine go (fun Q => ?_) e
        simp only [r174_108, r174_109, r174_112, r174_114, r174_117, r174_118, r174_119, r174_122, s_1, s_2, s_3, s_8, s_16, s_18, s_23, s_24, s_33, s_38, s_41, s_161, f_1_0, f_1_1, f_1_4, f_1_5, f_1_8, f_1_9, f_1_10, f_1_11, f_1_12, f_1_13, f_2_0, f_2_1, f_3_3, f_3_4, f_3_5, f_3_6, f_8_2, f_8_3, f_8_4, f_8_5, f_16_2, f_18_3, f_18_4, f_18_5, f_18_6, f_23_0, f_23_1, f_23_2, f_23_3, f_23_4, f_24_2, f_24_3, f_24_4, f_24_5, f_33_3, f_33_4, f_33_5, f_33_6, f_38_1, f_38_2, f_41_0, f_161_0, f_161_1, f_161_3, f_161_7, f_161_12, f_161_13, f_161_14, f_161_15, f_161_16, f_161_17, f_161_18, f_161_19, f_161_21, f_161_22, f_161_25, true_and, and_true, true_or, or_true, if_true, if_false, ne_eq, not_false_eq_true, and_self, t10, am_psh, am_clr, not_true_eq_false, Nat.reduceEqDiff, b1, n_ne_none (show cosA G h < 2 ^ 31 by omega)]
        rw [if_neg (nI_ge e (by omega))]
      · refine skip (fun q => e q.1) (fun Q => ?_)
        simp only [r174_108, r174_109, r174_112, r174_114, r174_117, r174_118, r174_119, r174_122, r174_167, s_1, s_2, s_3, s_8, s_16, s_18, s_23, s_24, s_33, s_38, s_41, s_161, f_1_0, f_1_1, f_1_4, f_1_5, f_1_8, f_1_9, f_1_10, f_1_11, f_1_12, f_1_13, f_2_0, f_2_1, f_3_3, f_3_4, f_3_5, f_3_6, f_8_2, f_8_3, f_8_4, f_8_5, f_16_2, f_18_3, f_18_4, f_18_5, f_18_6, f_23_0, f_23_1, f_23_2, f_23_3, f_23_4, f_24_2, f_24_3, f_24_4, f_24_5, f_33_3, f_33_4, f_33_5, f_33_6, f_38_1, f_38_2, f_41_0, f_161_0, f_161_1, f_161_3, f_161_7, f_161_12, f_161_13, f_161_14, f_161_15, f_161_16, f_161_17, f_161_18, f_161_19, f_161_21, f_161_22, f_161_25, true_and, and_true, true_or, or_true, if_true, if_false, ne_eq, not_false_eq_true, and_self, t10, am_psh, am_clr, not_true_eq_false, Nat.reduceEqDiff, b1, n_ne_none (show cosA G h < 2 ^ 31 by omega)]
        rw [if_pos (nI_le (by omega) (by omega))]
  · -- none
    refine ⟨I, J, fun Q => ?_, fun _ _ _ => rfl, fun _ _ => rfl, ?_, ?_⟩
    · rw [e174]
      simp only [r174_0, r174_1, s_1, s_2, s_3, s_8, s_16, s_18, s_23, s_24, s_33, s_38, s_41, s_161, f_1_0, f_1_1, f_1_4, f_1_5, f_1_8, f_1_9, f_1_10, f_1_11, f_1_12, f_1_13, f_2_0, f_2_1, f_3_3, f_3_4, f_3_5, f_3_6, f_8_2, f_8_3, f_8_4, f_8_5, f_16_2, f_18_3, f_18_4, f_18_5, f_18_6, f_23_0, f_23_1, f_23_2, f_23_3, f_23_4, f_24_2, f_24_3, f_24_4, f_24_5, f_33_3, f_33_4, f_33_5, f_33_6, f_38_1, f_38_2, f_41_0, f_161_0, f_161_1, f_161_3, f_161_7, f_161_12, f_161_13, f_161_14, f_161_15, f_161_16, f_161_17, f_161_18, f_161_19, f_161_21, f_161_22, f_161_25, true_and, and_true, true_or, or_true, if_true, if_false, ne_eq, not_false_eq_true, and_self, t10, am_psh, am_clr, not_true_eq_false, Nat.reduceEqDiff]
      rw [c_isArb hG hm hc hf, bI_F hA]
      simp only [r174_4, r174_7, s_1, s_2, s_3, s_8, s_16, s_18, s_23, s_24, s_33, s_38, s_41, s_161, f_1_0, f_1_1, f_1_4, f_1_5, f_1_8, f_1_9, f_1_10, f_1_11, f_1_12, f_1_13, f_2_0, f_2_1, f_3_3, f_3_4, f_3_5, f_3_6, f_8_2, f_8_3, f_8_4, f_8_5, f_16_2, f_18_3, f_18_4, f_18_5, f_18_6, f_23_0, f_23_1, f_23_2, f_23_3, f_23_4, f_24_2, f_24_3, f_24_4, f_24_5, f_33_3, f_33_4, f_33_5, f_33_6, f_38_1, f_38_2, f_41_0, f_161_0, f_161_1, f_161_3, f_161_7, f_161_12, f_161_13, f_161_14, f_161_15, f_161_16, f_161_17, f_161_18, f_161_19, f_161_21, f_161_22, f_161_25, true_and, and_true, true_or, or_true, if_true, if_false, ne_eq, not_false_eq_true, and_self, t10, am_psh, am_clr, not_true_eq_false, Nat.reduceEqDiff]
    · unfold lfB; rw [pD_F (fun q => hA q.1)]; exact hb
    · unfold lfC; rw [pD_F (fun q => hA q.1)]; exact hJ
/-- what stays while the choices are gone through -/
def goF (I K : am_I) : Prop := (∀ b, b ≠ 161 → b ≠ 174 → b ≠ 175 → K b = I b) ∧ ∀ j, j ≠ 23 → K 161 j = I 161 j
/-- the choices so far -/
def goC (K : am_I) (v : Nat) (f : Nat → Nat) : Prop := ∀ u, u < 8 → K 174 u = if u < v then nI (f u) else -1
def goOK (G : Gr) (v : Nat) (f : Nat → Nat) : Prop := ∀ u, u < v → u ≠ gr G → f u < gm G ∧ gh G (f u) = u
theorem goOK_s {v a : Nat} (h : goOK G v f) (ha : v ≠ gr G → a < gm G ∧ gh G a = v) : goOK G (v + 1) (fset f v a) := by
  intro u hu hr
  by_cases e : u = v
  · subst e; rw [fset_s]; exact ha hr
  · rw [fset_n _ _ e]; exact h u (by omega) hr
def goX (G : Gr) (K : am_I) (J : am_J) (x : Option (Nat → Nat) × Nat) : Prop := mB G K x.1 ∧ J 161 24 = Int64.ofNat x.2
theorem mB_c {b : Option (Nat → Nat)} (h1 : I' 161 23 = I 161 23) (h2 : I' 175 = I 175) (h : mB G I b) : mB G I' b := by
  cases b with
  | none => exact h1.trans h
  | some g => exact ⟨h1.trans h.1, h.2.1, fun v hv hr => by rw [h2]; exact h.2.2 v hv hr⟩
theorem goX_up {K : am_I} {v : Nat} {x : Int32} {y : Option (Nat → Nat) × Nat} (h : goX G K J y) : goX G (am_up K 174 v x) J y := ⟨mB_c (by rw [am_up_ne (by omega)]) (am_up_ne (by omega)) h.1, h.2⟩
theorem goF_up {K : am_I} {v : Nat} {x : Int32} (h : goF I K) : goF I (am_up K 174 v x) := ⟨fun b b1 b2 b3 => by rw [am_up_ne b2]; exact h.1 b b1 b2 b3, fun j hj => by rw [am_up_ne (by omega)]; exact h.2 j hj⟩
theorem nI_m1 (v : Nat) : nI (v + 1) + (-1) = nI v := by rw [← Int32.sub_eq_add_neg]; exact nI_pred v
theorem go_all {o : Option Nat} (hG : okG G) (hm : mG (I 162) G) (ho : ∀ a, o = some a → a < 2 ^ 31) : ∀ (n v : Nat) (f : Nat → Nat) (K : am_I) (J : am_J) (x : Option (Nat → Nat) × Nat) (l3 : Option Value), v + n = gn G → goF I K → goC K v f → goOK G v f → goX G K J x → ∃ (K' : am_I) (J' : am_J) (m3 : Option Value), (∀ Q, am_T (d + 2) 175 34 [some (.ref 161), some (.int (enc (-107) o)), some (.int (nI v)), l3] [] (cS L) K J Q = am_T (d + 2) 175 34 [some (.ref 161), some (.int (enc (-107) o)), some (.int (nI v + (-1))), m3] [] (cS L) K' J' Q) ∧ goF I K' ∧ goC K' v f ∧ goX G K' J' (enF G (lfX G o) n v f x) := by
  have hgn := hG.1.2.1
  have hgr := hG.1.2.2.1
  have hm32 := hG.1.2.2.2
  have y0 : am_ix (cS L) 162 20 0 := mx 0 (by omega)
  have y1 : am_ix (cS L) 162 20 1 := mx 1 (by omega)
  have z0 : (0 : Int32).toNatClampNeg = 0 := by decide
  have z1 : (1 : Int32).toNatClampNeg = 1 := by decide
  intro n
  induction n with
  | zero =>
    intro v f K J x l3 hv hF hC hO hX
    have hvn : v = gn G := by omega
    have e162 : K 162 = I 162 := hF.1 162 (by omega) (by omega) (by omega)
    obtain ⟨K', J', k1, k2, k3, k4, k5⟩ := c_meets (d := d) (L := L) (I := K) (J := J) (f := f) (o := o) (b := x.1) (c := x.2) hG (by rw [e162]; exact hm) (fun u hu hr => hO u (by omega) hr) (fun u hu hr => by rw [hC u (by omega), if_pos (by omega)]) ho hX.1 hX.2
    refine ⟨K', J', l3, fun Q => ?_, ⟨fun b b1 b2 b3 => by rw [k2 b b1 b3]; exact hF.1 b b1 b2 b3, fun j hj => by rw [k3 j hj]; exact hF.2 j hj⟩, fun u hu => by rw [k2 174 (by omega) (by omega)]; exact hC u hu, k4, k5⟩
    rw [r175_34]
    simp only [r175_35, r175_38, r175_39, r175_40, r175_43, r175_44, r175_45, r175_48, r175_49, r175_50, s_1, s_2, s_3, s_8, s_16, s_18, s_23, s_24, s_33, s_38, s_41, s_161, f_1_0, f_1_1, f_1_4, f_1_5, f_1_8, f_1_9, f_1_10, f_1_11, f_1_12, f_1_13, f_2_0, f_2_1, f_3_3, f_3_4, f_3_5, f_3_6, f_8_2, f_8_3, f_8_4, f_8_5, f_16_2, f_18_3, f_18_4, f_18_5, f_18_6, f_23_0, f_23_1, f_23_2, f_23_3, f_23_4, f_24_2, f_24_3, f_24_4, f_24_5, f_33_3, f_33_4, f_33_5, f_33_6, f_38_1, f_38_2, f_41_0, f_161_0, f_161_1, f_161_3, f_161_7, f_161_12, f_161_13, f_161_14, f_161_15, f_161_16, f_161_17, f_161_18, f_161_19, f_161_21, f_161_22, f_161_25, true_and, and_true, true_or, or_true, if_true, if_false, ne_eq, not_false_eq_true, and_self, t10, am_psh, am_clr, not_true_eq_false, Nat.reduceEqDiff, y0, z0, e162, hm.1.1]
    rw [if_neg (nI_pos (show v < 2 ^ 31 by omega)), if_pos (show nI v = nI (gn G) by rw [hvn]), k1]
    simp only [r175_53, r175_56, s_1, s_2, s_3, s_8, s_16, s_18, s_23, s_24, s_33, s_38, s_41, s_161, f_1_0, f_1_1, f_1_4, f_1_5, f_1_8, f_1_9, f_1_10, f_1_11, f_1_12, f_1_13, f_2_0, f_2_1, f_3_3, f_3_4, f_3_5, f_3_6, f_8_2, f_8_3, f_8_4, f_8_5, f_16_2, f_18_3, f_18_4, f_18_5, f_18_6, f_23_0, f_23_1, f_23_2, f_23_3, f_23_4, f_24_2, f_24_3, f_24_4, f_24_5, f_33_3, f_33_4, f_33_5, f_33_6, f_38_1, f_38_2, f_41_0, f_161_0, f_161_1, f_161_3, f_161_7, f_161_12, f_161_13, f_161_14, f_161_15, f_161_16, f_161_17, f_161_18, f_161_19, f_161_21, f_161_22, f_161_25, true_and, and_true, true_or, or_true, if_true, if_false, ne_eq, not_false_eq_true, and_self, t10, am_psh, am_clr, not_true_eq_false, Nat.reduceEqDiff]
  | succ n ih =>
    intro v f K J x l3 hv hF hC hO hX
    have hvn : v < gn G := by omega
    have e162 : K 162 = I 162 := hF.1 162 (by omega) (by omega) (by omega)
    -- to the root's test
    have run1 : ∀ (K : am_I) (J : am_J) (l3 : Option Value) (Q : am_Q), K 162 = I 162 → am_T (d + 2) 175 34 [some (.ref 161), some (.int (enc (-107) o)), some (.int (nI v)), l3] [] (cS L) K J Q = if v = gr G then am_T (d + 2) 175 69 [some (.ref 161), some (.int (enc (-107) o)), some (.int (nI v)), l3] [] (cS L) K J Q else am_T (d + 2) 175 110 [some (.ref 161), some (.int (enc (-107) o)), some (.int (nI v)), l3] [] (cS L) K J Q := fun K J l3 Q e162 => by
      rw [r175_34]
      simp only [r175_35, r175_38, r175_39, r175_40, r175_43, r175_44, r175_45, r175_59, r175_60, r175_61, r175_64, r175_65, r175_66, s_1, s_2, s_3, s_8, s_16, s_18, s_23, s_24, s_33, s_38, s_41, s_161, f_1_0, f_1_1, f_1_4, f_1_5, f_1_8, f_1_9, f_1_10, f_1_11, f_1_12, f_1_13, f_2_0, f_2_1, f_3_3, f_3_4, f_3_5, f_3_6, f_8_2, f_8_3, f_8_4, f_8_5, f_16_2, f_18_3, f_18_4, f_18_5, f_18_6, f_23_0, f_23_1, f_23_2, f_23_3, f_23_4, f_24_2, f_24_3, f_24_4, f_24_5, f_33_3, f_33_4, f_33_5, f_33_6, f_38_1, f_38_2, f_41_0, f_161_0, f_161_1, f_161_3, f_161_7, f_161_12, f_161_13, f_161_14, f_161_15, f_161_16, f_161_17, f_161_18, f_161_19, f_161_21, f_161_22, f_161_25, true_and, and_true, true_or, or_true, if_true, if_false, ne_eq, not_false_eq_true, and_self, t10, am_psh, am_clr, not_true_eq_false, Nat.reduceEqDiff, y0, z0, y1, z1, e162, hm.1.1, hm.1.2.1]
      rw [if_neg (nI_pos (show v < 2 ^ 31 by omega)), if_neg (show ¬ nI v = nI (gn G) from fun q => by have := (nI_eq (by omega) (by omega)).mp q; omega)]
      by_cases e : v = gr G
      · rw [if_pos e, if_pos (show nI v = nI (gr G) by rw [e])]
      · rw [if_neg e, if_neg (show ¬ nI v = nI (gr G) from fun q => e ((nI_eq (by omega) (by omega)).mp q))]
    by_cases e : v = gr G
    · -- the root
      have hKv : K 174 v = -1 := by rw [hC v (by omega), if_neg (by omega)]
      obtain ⟨K', J', m3, k1, k2, k3, k4⟩ := ih (v + 1) (fset f v 0) (am_up K 174 v 0) J x l3 (by omega) (goF_up hF) (fun u hu => by
        by_cases eu : u = v
        · subst eu; rw [up_self, if_pos (by omega), fset_s]; rfl
        · rw [up_ne _ _ (Or.inr eu), hC u hu, fset_n _ _ eu]
          by_cases e2 : u < v
          · rw [if_pos e2, if_pos (by omega)]
          · rw [if_neg e2, if_neg (by omega)]) (goOK_s hO (fun q => absurd e q)) (goX_up hX)
      have hKv' : K' 174 v = 0 := by rw [k3 v (by omega), if_pos (by omega), fset_s]; rfl
      refine ⟨am_up K' 174 v (-1), J', m3, fun Q => ?_, goF_up k2, fun u hu => ?_, ?_⟩
      · rw [run1 K J l3 Q e162, if_pos e]
        simp only [r175_69, r175_70, r175_73, r175_74, r175_75, r175_78, r175_79, r175_80, r175_81, r175_84, r175_85, r175_88, r175_89, r175_90, r175_91, r175_92, r175_95, r175_96, r175_97, r175_100, r175_101, r175_104, r175_105, r175_106, r175_107, s_1, s_2, s_3, s_8, s_16, s_18, s_23, s_24, s_33, s_38, s_41, s_161, f_1_0, f_1_1, f_1_4, f_1_5, f_1_8, f_1_9, f_1_10, f_1_11, f_1_12, f_1_13, f_2_0, f_2_1, f_3_3, f_3_4, f_3_5, f_3_6, f_8_2, f_8_3, f_8_4, f_8_5, f_16_2, f_18_3, f_18_4, f_18_5, f_18_6, f_23_0, f_23_1, f_23_2, f_23_3, f_23_4, f_24_2, f_24_3, f_24_4, f_24_5, f_33_3, f_33_4, f_33_5, f_33_6, f_38_1, f_38_2, f_41_0, f_161_0, f_161_1, f_161_3, f_161_7, f_161_12, f_161_13, f_161_14, f_161_15, f_161_16, f_161_17, f_161_18, f_161_19, f_161_21, f_161_22, f_161_25, true_and, and_true, true_or, or_true, if_true, if_false, ne_eq, not_false_eq_true, and_self, t10, am_psh, am_clr, not_true_eq_false, Nat.reduceEqDiff, ix174 (L := L) v (by omega), iw174 (L := L) v (by omega), n_cl (show v < 2 ^ 31 by omega), hKv, up_self, nI_1]
        refine Eq.trans (k1 Q) ?_
        rw [nI_m1, run1 K' J' m3 Q (k2.1 162 (by omega) (by omega) (by omega)), if_pos e]
        simp only [r175_69, r175_70, r175_73, r175_74, r175_75, r175_78, r175_79, r175_80, r175_81, r175_84, r175_85, r175_88, r175_89, r175_90, r175_91, r175_92, r175_95, r175_96, r175_97, r175_100, r175_101, r175_104, r175_105, r175_106, r175_107, s_1, s_2, s_3, s_8, s_16, s_18, s_23, s_24, s_33, s_38, s_41, s_161, f_1_0, f_1_1, f_1_4, f_1_5, f_1_8, f_1_9, f_1_10, f_1_11, f_1_12, f_1_13, f_2_0, f_2_1, f_3_3, f_3_4, f_3_5, f_3_6, f_8_2, f_8_3, f_8_4, f_8_5, f_16_2, f_18_3, f_18_4, f_18_5, f_18_6, f_23_0, f_23_1, f_23_2, f_23_3, f_23_4, f_24_2, f_24_3, f_24_4, f_24_5, f_33_3, f_33_4, f_33_5, f_33_6, f_38_1, f_38_2, f_41_0, f_161_0, f_161_1, f_161_3, f_161_7, f_161_12, f_161_13, f_161_14, f_161_15, f_161_16, f_161_17, f_161_18, f_161_19, f_161_21, f_161_22, f_161_25, true_and, and_true, true_or, or_true, if_true, if_false, ne_eq, not_false_eq_true, and_self, t10, am_psh, am_clr, not_true_eq_false, Nat.reduceEqDiff, ix174 (L := L) v (by omega), iw174 (L := L) v (by omega), n_cl (show v < 2 ^ 31 by omega), hKv', up_self, show ((0 : Int32) = -1) = False from eq_false (by decide), show ((-1 : Int32) = 0) = False from eq_false (by decide)]
      · by_cases eu : u = v
        · subst eu; rw [up_self, if_neg (by omega)]
        · rw [up_ne _ _ (Or.inr eu), k3 u hu, fset_n _ _ eu]
          by_cases e2 : u < v
          · rw [if_pos e2, if_pos (by omega)]
          · rw [if_neg e2, if_neg (by omega)]
      · unfold enF
        rw [if_pos e]
        exact goX_up k4
    · -- its arcs, one after the other
      have arcs : ∀ (k a : Nat) (K : am_I) (J : am_J) (x : Option (Nat → Nat) × Nat) (l3 : Option Value), a + k = gm G → goF I K → (∀ u, u < 8 → u ≠ v → K 174 u = if u < v then nI (f u) else -1) → K 174 v + 1 = nI a → goX G K J x → ∃ (K' : am_I) (J' : am_J) (m3 : Option Value), (∀ Q, am_T (d + 2) 175 34 [some (.ref 161), some (.int (enc (-107) o)), some (.int (nI v)), l3] [] (cS L) K J Q = am_T (d + 2) 175 34 [some (.ref 161), some (.int (enc (-107) o)), some (.int (nI v + (-1))), m3] [] (cS L) K' J' Q) ∧ goF I K' ∧ goC K' v f ∧ goX G K' J' (foA (hdP G v) (fun a y => enF G (lfX G o) n (v + 1) (fset f v a) y) k a x) := by
        intro k
        induction k using Nat.strongRecOn with
        | ind k ihk =>
          intro a K J x l3 ha hF hC hKv hX
          have e162 : K 162 = I 162 := hF.1 162 (by omega) (by omega) (by omega)
          have run2 : ∀ Q, am_T (d + 2) 175 34 [some (.ref 161), some (.int (enc (-107) o)), some (.int (nI v)), l3] [] (cS L) K J Q = am_T (d + 2) 175 121 [some (.ref 161), some (.int (enc (-107) o)), some (.int (nI v)), l3] [.int (enc (-107) (nxA G v k a))] (cS L) K J Q := fun Q => by
            rw [run1 K J l3 Q e162, if_neg e]
            simp only [r175_110, r175_111, r175_112, r175_113, r175_116, r175_117, r175_118, s_1, s_2, s_3, s_8, s_16, s_18, s_23, s_24, s_33, s_38, s_41, s_161, f_1_0, f_1_1, f_1_4, f_1_5, f_1_8, f_1_9, f_1_10, f_1_11, f_1_12, f_1_13, f_2_0, f_2_1, f_3_3, f_3_4, f_3_5, f_3_6, f_8_2, f_8_3, f_8_4, f_8_5, f_16_2, f_18_3, f_18_4, f_18_5, f_18_6, f_23_0, f_23_1, f_23_2, f_23_3, f_23_4, f_24_2, f_24_3, f_24_4, f_24_5, f_33_3, f_33_4, f_33_5, f_33_6, f_38_1, f_38_2, f_41_0, f_161_0, f_161_1, f_161_3, f_161_7, f_161_12, f_161_13, f_161_14, f_161_15, f_161_16, f_161_17, f_161_18, f_161_19, f_161_21, f_161_22, f_161_25, true_and, and_true, true_or, or_true, if_true, if_false, ne_eq, not_false_eq_true, and_self, t10, am_psh, am_clr, not_true_eq_false, Nat.reduceEqDiff, ix174 (L := L) v (by omega), n_cl (show v < 2 ^ 31 by omega)]
            rw [c_nextArc (a := a) hG (by rw [e162]; exact hm) (by omega) (by omega) hKv, show gm G - a = k by omega]
          cases hx : nxA G v k a with
          | none =>
            refine ⟨am_up K 174 v (-1), J, some (.int (-107)), fun Q => ?_, goF_up hF, fun u hu => ?_, ?_⟩
            · rw [run2, hx]
              simp only [r175_121, r175_122, r175_123, r175_126, r175_127, r175_128, r175_130, r175_133, r175_134, r175_137, r175_138, r175_139, r175_140, r175_141, r175_143, r175_146, r175_147, r175_150, r175_151, r175_152, r175_153, s_1, s_2, s_3, s_8, s_16, s_18, s_23, s_24, s_33, s_38, s_41, s_161, f_1_0, f_1_1, f_1_4, f_1_5, f_1_8, f_1_9, f_1_10, f_1_11, f_1_12, f_1_13, f_2_0, f_2_1, f_3_3, f_3_4, f_3_5, f_3_6, f_8_2, f_8_3, f_8_4, f_8_5, f_16_2, f_18_3, f_18_4, f_18_5, f_18_6, f_23_0, f_23_1, f_23_2, f_23_3, f_23_4, f_24_2, f_24_3, f_24_4, f_24_5, f_33_3, f_33_4, f_33_5, f_33_6, f_38_1, f_38_2, f_41_0, f_161_0, f_161_1, f_161_3, f_161_7, f_161_12, f_161_13, f_161_14, f_161_15, f_161_16, f_161_17, f_161_18, f_161_19, f_161_21, f_161_22, f_161_25, true_and, and_true, true_or, or_true, if_true, if_false, ne_eq, not_false_eq_true, and_self, t10, am_psh, am_clr, not_true_eq_false, Nat.reduceEqDiff, enc, iw174 (L := L) v (by omega), n_cl (show v < 2 ^ 31 by omega)]
            · by_cases eu : u = v
              · subst eu; rw [up_self, if_neg (by omega)]
              · rw [up_ne _ _ (Or.inr eu)]; exact hC u hu eu
            · rw [foA_n _ _ _ hx]; exact goX_up hX
          | some b =>
            obtain ⟨b1, b2, b3, b4⟩ := foA_s (g := fun a y => enF G (lfX G o) n (v + 1) (fset f v a) y) k a x hx
            obtain ⟨K1, J1, m3, k1, k2, k3, k4⟩ := ih (v + 1) (fset f v b) (am_up K 174 v (nI b)) J x (some (.int (nI b))) (by omega) (goF_up hF) (fun u hu => by
              by_cases eu : u = v
              · subst eu; rw [up_self, if_pos (by omega), fset_s]
              · rw [up_ne _ _ (Or.inr eu), hC u hu eu, fset_n _ _ eu]
                by_cases e2 : u < v
                · rw [if_pos e2, if_pos (by omega)]
                · rw [if_neg e2, if_neg (by omega)]) (goOK_s hO (fun _ => ⟨by omega, b3⟩)) (goX_up hX)
            obtain ⟨K2, J2, m3', q1, q2, q3, q4⟩ := ihk (a + k - b - 1) (by omega) (b + 1) K1 J1 _ m3 (by omega) k2 (fun u hu eu => by
              rw [k3 u hu, fset_n _ _ eu]
              by_cases e2 : u < v
              · rw [if_pos e2, if_pos (by omega)]
              · rw [if_neg e2, if_neg (by omega)]) (by rw [k3 v (by omega), if_pos (by omega), fset_s, nI_1]) k4
            refine ⟨K2, J2, m3', fun Q => ?_, q2, q3, by rw [b4]; exact q4⟩
            rw [run2, hx]
            simp only [r175_121, r175_122, r175_123, r175_126, r175_127, r175_128, r175_130, r175_133, r175_134, r175_137, r175_138, r175_139, r175_140, r175_141, r175_143, r175_146, r175_147, r175_150, r175_151, r175_152, r175_153, s_1, s_2, s_3, s_8, s_16, s_18, s_23, s_24, s_33, s_38, s_41, s_161, f_1_0, f_1_1, f_1_4, f_1_5, f_1_8, f_1_9, f_1_10, f_1_11, f_1_12, f_1_13, f_2_0, f_2_1, f_3_3, f_3_4, f_3_5, f_3_6, f_8_2, f_8_3, f_8_4, f_8_5, f_16_2, f_18_3, f_18_4, f_18_5, f_18_6, f_23_0, f_23_1, f_23_2, f_23_3, f_23_4, f_24_2, f_24_3, f_24_4, f_24_5, f_33_3, f_33_4, f_33_5, f_33_6, f_38_1, f_38_2, f_41_0, f_161_0, f_161_1, f_161_3, f_161_7, f_161_12, f_161_13, f_161_14, f_161_15, f_161_16, f_161_17, f_161_18, f_161_19, f_161_21, f_161_22, f_161_25, true_and, and_true, true_or, or_true, if_true, if_false, ne_eq, not_false_eq_true, and_self, t10, am_psh, am_clr, not_true_eq_false, Nat.reduceEqDiff, enc, iw174 (L := L) v (by omega), n_cl (show v < 2 ^ 31 by omega), n_ne_none (show b < 2 ^ 31 by omega), nI_1]
            refine Eq.trans (k1 Q) ?_
            rw [nI_m1]
            exact q1 Q
      unfold enF
      rw [if_neg e]
      exact arcs (gm G) 0 K J x l3 (by omega) hF (fun u hu _ => hC u hu) (by rw [hC v (by omega), if_neg (by omega)]; rfl) hX
theorem go_0 {x1 x2 : Int32} : ∀ (n j : Nat) (K : am_I), j + n = 8 → (∀ b, b ≠ 174 → K b = I b) → (∀ v, v < j → K 174 v = -1) → ∃ I', (∀ Q, am_T d 175 15 [some (.ref 161), some (.int x1), some (.int x2), some (.int (nI j))] [] (cS L) K J Q = am_T d 175 34 [some (.ref 161), some (.int x1), some (.int x2), some (.int (nI 8))] [] (cS L) I' J Q) ∧ (∀ b, b ≠ 174 → I' b = I b) ∧ ∀ v, v < 8 → I' 174 v = -1 := by
  intro n
  induction n with
  | zero =>
    intro j K hj hf h
    have : j = 8 := by omega
    subst this
    refine ⟨K, fun Q => ?_, hf, h⟩
    rw [r175_15]
    simp only [r175_16, r175_18]
    rw [if_pos (by decide)]
  | succ n ih =>
    intro j K hj hf h
    obtain ⟨I', k1, k2, k3⟩ := ih (j + 1) (am_up K 174 j (-1)) (by omega) (fun b hb => by rw [am_up_ne hb]; exact hf b hb) (fun v hv => by
      by_cases e : v = j
      · subst e; rw [up_self]
      · rw [up_ne _ _ (Or.inr e)]; exact h v (by omega))
    refine ⟨I', fun Q => ?_, k2, k3⟩
    rw [r175_15]
    simp only [r175_16, r175_18, r175_21, r175_22, r175_25, r175_26, r175_27, r175_28, r175_31, s_1, s_2, s_3, s_8, s_16, s_18, s_23, s_24, s_33, s_38, s_41, s_161, f_1_0, f_1_1, f_1_4, f_1_5, f_1_8, f_1_9, f_1_10, f_1_11, f_1_12, f_1_13, f_2_0, f_2_1, f_3_3, f_3_4, f_3_5, f_3_6, f_8_2, f_8_3, f_8_4, f_8_5, f_16_2, f_18_3, f_18_4, f_18_5, f_18_6, f_23_0, f_23_1, f_23_2, f_23_3, f_23_4, f_24_2, f_24_3, f_24_4, f_24_5, f_33_3, f_33_4, f_33_5, f_33_6, f_38_1, f_38_2, f_41_0, f_161_0, f_161_1, f_161_3, f_161_7, f_161_12, f_161_13, f_161_14, f_161_15, f_161_16, f_161_17, f_161_18, f_161_19, f_161_21, f_161_22, f_161_25, true_and, and_true, true_or, or_true, if_true, if_false, ne_eq, not_false_eq_true, and_self, t10, am_psh, am_clr, not_true_eq_false, Nat.reduceEqDiff, iw174 (L := L) j (by omega), n_cl (show j < 2 ^ 31 by omega), nI_1]
    rw [if_neg (show ¬ (8 : Int32) ≤ nI j from ge_lit (c := 8) rfl (by omega) (by omega))]
    exact k1 Q
/-- goThrough, whole -/
theorem c_goThrough {o : Option Nat} (hG : okG G) (hm : mG (I 162) G) (ho : ∀ a, o = some a → a < 2 ^ 31) : ∃ (I' : am_I) (J' : am_J), (∀ Q, am_C (d + 3) 175 [.ref 161, .int (enc (-107) o)] (cS L) I J Q = Q none (cS L) I' J') ∧ goF I I' ∧ goX G I' J' (enF G (lfX G o) (gn G) 0 f00 (none, 0)) := by
  obtain ⟨K, k1, k2, k3⟩ := go_0 (d := d + 2) (L := L) (J := am_up J 161 24 0) (I := am_up I 161 23 (-107)) (x1 := enc (-107) o) (x2 := 0) 8 0 _ (by omega) (fun _ _ => rfl) (fun v hv => absurd hv (Nat.not_lt_zero v))
  obtain ⟨I', J', m3, q1, q2, q3, q4⟩ := go_all (d := d) (L := L) (I := I) (o := o) hG hm ho (gn G) 0 f00 K (am_up J 161 24 0) (none, 0) (some (.int (nI 8))) (by omega) ⟨fun b b1 b2 b3 => by rw [k2 b b2, am_up_ne b1], fun j hj => by rw [k2 161 (by omega), up_ne _ _ (Or.inr hj)]⟩ (fun u hu => by rw [k3 u hu, if_neg (Nat.not_lt_zero u)]) (fun u hu => absurd hu (Nat.not_lt_zero u)) ⟨show K 161 23 = -107 by rw [k2 161 (by omega), up_self], up_self _ _ _ _⟩
  refine ⟨I', J', fun Q => ?_, q2, q4⟩
  rw [e175]
  simp only [r175_0, r175_1, r175_3, r175_6, r175_7, r175_8, r175_11, r175_12, r175_13, r175_14, s_1, s_2, s_3, s_8, s_16, s_18, s_23, s_24, s_33, s_38, s_41, s_161, f_1_0, f_1_1, f_1_4, f_1_5, f_1_8, f_1_9, f_1_10, f_1_11, f_1_12, f_1_13, f_2_0, f_2_1, f_3_3, f_3_4, f_3_5, f_3_6, f_8_2, f_8_3, f_8_4, f_8_5, f_16_2, f_18_3, f_18_4, f_18_5, f_18_6, f_23_0, f_23_1, f_23_2, f_23_3, f_23_4, f_24_2, f_24_3, f_24_4, f_24_5, f_33_3, f_33_4, f_33_5, f_33_6, f_38_1, f_38_2, f_41_0, f_161_0, f_161_1, f_161_3, f_161_7, f_161_12, f_161_13, f_161_14, f_161_15, f_161_16, f_161_17, f_161_18, f_161_19, f_161_21, f_161_22, f_161_25, true_and, and_true, true_or, or_true, if_true, if_false, ne_eq, not_false_eq_true, and_self, t10, am_psh, am_clr, not_true_eq_false, Nat.reduceEqDiff]
  refine Eq.trans (k1 Q) ?_
  refine Eq.trans (q1 Q) ?_
  rw [r175_34]
  simp only [r175_35, r175_156, s_1, s_2, s_3, s_8, s_16, s_18, s_23, s_24, s_33, s_38, s_41, s_161, f_1_0, f_1_1, f_1_4, f_1_5, f_1_8, f_1_9, f_1_10, f_1_11, f_1_12, f_1_13, f_2_0, f_2_1, f_3_3, f_3_4, f_3_5, f_3_6, f_8_2, f_8_3, f_8_4, f_8_5, f_16_2, f_18_3, f_18_4, f_18_5, f_18_6, f_23_0, f_23_1, f_23_2, f_23_3, f_23_4, f_24_2, f_24_3, f_24_4, f_24_5, f_33_3, f_33_4, f_33_5, f_33_6, f_38_1, f_38_2, f_41_0, f_161_0, f_161_1, f_161_3, f_161_7, f_161_12, f_161_13, f_161_14, f_161_15, f_161_16, f_161_17, f_161_18, f_161_19, f_161_21, f_161_22, f_161_25, true_and, and_true, true_or, or_true, if_true, if_false, ne_eq, not_false_eq_true, and_self, t10, am_psh, am_clr, not_true_eq_false, Nat.reduceEqDiff]
  rw [if_pos (by decide)]
end GO
