/-! the model's contraction: cycles, the whole -/
def newG (I : am_I) (k : Nat) (x : Int32) : am_I := am_up (am_up (am_up (am_up (am_up I 169 k x) 170 k 0) 171 k (-107)) 172 k (-107)) 161 20 (nI (k + 1))
section MD
variable {d L : Nat} {I I' : am_I} {J : am_J} {Q : am_Q} {G : Gr} {pr : Nat → Int32} {al : Nat → Bool} {s : Cs} {g a : Nat}
theorem newG_ne {k b : Nat} {x : Int32} (h : b ≠ 161 ∧ (b < 169 ∨ 172 < b)) : newG I k x b = I b := by
  unfold newG; rw [am_up_ne h.1, am_up_ne (by omega), am_up_ne (by omega), am_up_ne (by omega), am_up_ne (by omega)]
theorem newG_161 {k j : Nat} {x : Int32} (h : j ≠ 20) : newG I k x 161 j = I 161 j := by
  unfold newG; rw [up_ne _ _ (Or.inr h), am_up_ne (by omega), am_up_ne (by omega), am_up_ne (by omega), am_up_ne (by omega)]
theorem newG_20 {k : Nat} {x : Int32} : newG I k x 161 20 = nI (k + 1) := by unfold newG; rw [up_self]
theorem newG_o {k q : Nat} {x : Int32} (h : q ≠ k) : newG I k x 169 q = I 169 q ∧ newG I k x 170 q = I 170 q ∧ newG I k x 171 q = I 171 q ∧ newG I k x 172 q = I 172 q := by
  unfold newG
  refine ⟨?_, ?_, ?_, ?_⟩
  · rw [am_up_ne (by omega), am_up_ne (by omega), am_up_ne (by omega), am_up_ne (by omega), up_ne _ _ (Or.inr h)]
  · rw [am_up_ne (by omega), am_up_ne (by omega), am_up_ne (by omega), up_ne _ _ (Or.inr h), am_up_ne (by omega)]
  · rw [am_up_ne (by omega), am_up_ne (by omega), up_ne _ _ (Or.inr h), am_up_ne (by omega), am_up_ne (by omega)]
  · rw [am_up_ne (by omega), up_ne _ _ (Or.inr h), am_up_ne (by omega), am_up_ne (by omega), am_up_ne (by omega)]
theorem newG_k {k : Nat} {x : Int32} : newG I k x 169 k = x ∧ newG I k x 170 k = 0 ∧ newG I k x 171 k = -107 ∧ newG I k x 172 k = -107 := by
  unfold newG
  refine ⟨?_, ?_, ?_, ?_⟩
  · rw [am_up_ne (by omega), am_up_ne (by omega), am_up_ne (by omega), am_up_ne (by omega), up_self]
  · rw [am_up_ne (by omega), am_up_ne (by omega), am_up_ne (by omega), up_self]
  · rw [am_up_ne (by omega), am_up_ne (by omega), up_self]
  · rw [am_up_ne (by omega), up_self]
theorem c_newG {k : Nat} {x : Int32} (hk : k < 16) (hc : I 161 20 = nI k) : am_C (d + 1) 144 [.ref 161, .int x] (cS L) I J Q = Q (some (.int (nI k))) (cS L) (newG I k x) J := by
  rw [e144]
  simp only [r144_0, r144_1, r144_4, r144_5, r144_8, r144_9, r144_10, r144_11, r144_14, r144_15, r144_18, r144_19, r144_20, r144_21, r144_24, r144_25, r144_28, r144_30, r144_31, r144_32, r144_35, r144_36, r144_39, r144_41, r144_42, r144_43, r144_44, r144_47, r144_48, r144_49, r144_52, r144_53, r144_56, r144_57, r144_58, s_1, s_2, s_3, s_8, s_16, s_18, s_23, s_24, s_33, s_38, s_41, s_161, f_1_0, f_1_1, f_1_4, f_1_5, f_1_8, f_1_9, f_1_10, f_1_11, f_1_12, f_1_13, f_2_0, f_2_1, f_3_3, f_3_4, f_3_5, f_3_6, f_8_2, f_8_3, f_8_4, f_8_5, f_16_2, f_18_3, f_18_4, f_18_5, f_18_6, f_23_0, f_23_1, f_23_2, f_23_3, f_23_4, f_24_2, f_24_3, f_24_4, f_24_5, f_33_3, f_33_4, f_33_5, f_33_6, f_38_1, f_38_2, f_41_0, f_161_0, f_161_1, f_161_3, f_161_7, f_161_12, f_161_13, f_161_14, f_161_15, f_161_16, f_161_17, f_161_18, f_161_19, f_161_21, f_161_22, f_161_25, true_and, and_true, true_or, or_true, if_true, if_false, ne_eq, not_false_eq_true, and_self, t10, am_psh, am_clr, not_true_eq_false, Nat.reduceEqDiff, iw169 (L := L) k hk, iw170 (L := L) k hk, iw171 (L := L) k hk, iw172 (L := L) k hk, n_cl (show k < 2 ^ 31 by omega), hc, am_up_ne (show 161 ≠ 169 by omega), am_up_ne (show 161 ≠ 170 by omega), am_up_ne (show 161 ≠ 171 by omega), am_up_ne (show 161 ≠ 172 by omega), nI_1, up_self, nI_pred]
  rfl
section WK
variable {J0 : Nat} {l : Nat → Option Nat} {w : Nat → Nat}
theorem cl_walk (hG : okG G) (hc : cOK G al s) (hk : vk s ≤ 15) (hl : ∀ q b, q < vk s → l q = some b → b < gm G) (hm : mG (I 162) G) (h169 : ∀ q, q < vk s → I 169 q = vs s q) (h171 : ∀ q, q < vk s → I 171 q = enc (-107) (vp s q)) (h172 : ∀ q, q < vk s → I 172 q = enc (-107) (l q)) (hg : g < vk s) (hw : ∀ i, w i < vk s) (hJn : J0 ≤ gn G) (hst : ∀ i, 1 ≤ i → i < J0 → w i ≠ g ∧ ∃ b, l (w i) = some b ∧ vt s (gt G b) = w (i + 1)) : ∀ (n i : Nat), 1 ≤ i → i + n = J0 → am_T (d + 2) 148 16 [some (.ref 161), some (.int (nI g)), some (.int (nI (w i))), some (.int (orN (fun i => vs s (w i)) i)), some (.int (nI (i - 1))), none] [] (cS L) I J Q = am_T (d + 2) 148 16 [some (.ref 161), some (.int (nI g)), some (.int (nI (w J0))), some (.int (orN (fun i => vs s (w i)) J0)), some (.int (nI (J0 - 1))), none] [] (cS L) I J Q := by
  have hgn := hG.1.2.1
  intro n
  induction n with
  | zero =>
    intro i _ hi
    have : i = J0 := by omega
    subst this; rfl
  | succ n ih =>
    intro i hi1 hi
    obtain ⟨h1, b, h2, h3⟩ := hst i hi1 (by omega)
    have hwi := hw i
    rw [← ih (i + 1) (by omega) (by omega)]
    conv => lhs; rw [r148_16]
    simp only [r148_18, r148_20, r148_23, r148_24, r148_26, r148_29, r148_30, r148_31, r148_34, r148_35, r148_36, r148_39, r148_40, r148_41, r148_42, r148_43, r148_44, r148_45, s_1, s_2, s_3, s_8, s_16, s_18, s_23, s_24, s_33, s_38, s_41, s_161, f_1_0, f_1_1, f_1_4, f_1_5, f_1_8, f_1_9, f_1_10, f_1_11, f_1_12, f_1_13, f_2_0, f_2_1, f_3_3, f_3_4, f_3_5, f_3_6, f_8_2, f_8_3, f_8_4, f_8_5, f_16_2, f_18_3, f_18_4, f_18_5, f_18_6, f_23_0, f_23_1, f_23_2, f_23_3, f_23_4, f_24_2, f_24_3, f_24_4, f_24_5, f_33_3, f_33_4, f_33_5, f_33_6, f_38_1, f_38_2, f_41_0, f_161_0, f_161_1, f_161_3, f_161_7, f_161_12, f_161_13, f_161_14, f_161_15, f_161_16, f_161_17, f_161_18, f_161_19, f_161_21, f_161_22, f_161_25, true_and, and_true, true_or, or_true, if_true, if_false, ne_eq, not_false_eq_true, and_self, t10, am_psh, am_clr, not_true_eq_false, Nat.reduceEqDiff, n_ne_none (show w i < 2 ^ 31 by omega), ix169 (L := L) (w i) (by omega), n_cl (show w i < 2 ^ 31 by omega), h169 _ hwi]
    rw [if_neg (show ¬ (16 : Int32) ≤ nI (i - 1) from ge_lit (c := 16) rfl (by omega) (by omega)), if_neg (fun q => h1 ((nI_eq (by omega) (by omega)).mp q)), c_behind hG hc hk hl hwi hm h171 h172, h2]
    simp only [r148_48, r148_49, r148_52, s_1, s_2, s_3, s_8, s_16, s_18, s_23, s_24, s_33, s_38, s_41, s_161, f_1_0, f_1_1, f_1_4, f_1_5, f_1_8, f_1_9, f_1_10, f_1_11, f_1_12, f_1_13, f_2_0, f_2_1, f_3_3, f_3_4, f_3_5, f_3_6, f_8_2, f_8_3, f_8_4, f_8_5, f_16_2, f_18_3, f_18_4, f_18_5, f_18_6, f_23_0, f_23_1, f_23_2, f_23_3, f_23_4, f_24_2, f_24_3, f_24_4, f_24_5, f_33_3, f_33_4, f_33_5, f_33_6, f_38_1, f_38_2, f_41_0, f_161_0, f_161_1, f_161_3, f_161_7, f_161_12, f_161_13, f_161_14, f_161_15, f_161_16, f_161_17, f_161_18, f_161_19, f_161_21, f_161_22, f_161_25, true_and, and_true, true_or, or_true, if_true, if_false, ne_eq, not_false_eq_true, and_self, t10, am_psh, am_clr, not_true_eq_false, Nat.reduceEqDiff, nI_1, h3, Nat.sub_add_cancel hi1, Nat.add_sub_cancel]
    rfl
end WK
theorem mpar_loop {k : Nat} {nd : Int32} {x2 : Int32} (hk : k ≤ 15) (P : Nat → Bool) (hP : ∀ q, q < k → (P q = true ↔ I 171 q = -107 ∧ ¬ I 169 q &&& nd = 0)) : ∀ (n j : Nat) (K : am_I), j + n = k → (∀ b, b ≠ 171 → K b = I b) → (∀ q, q < 16 → K 171 q = if q < j ∧ P q = true then nI k else I 171 q) → ∃ I', (∀ Q, am_T (d + 2) 148 70 [some (.ref 161), some (.int (nI g)), some (.int x2), some (.int nd), some (.int (nI k)), some (.int (nI j))] [] (cS L) K J Q = Q none (cS L) I' J) ∧ (∀ b, b ≠ 171 → I' b = I b) ∧ ∀ q, q < 16 → I' 171 q = if q < k ∧ P q = true then nI k else I 171 q := by
  intro n
  induction n with
  | zero =>
    intro j K hj hf h
    have : j = k := by omega
    subst this
    refine ⟨K, fun Q => ?_, hf, h⟩
    rw [r148_70]
    simp only [r148_72, r148_74, r148_116, s_1, s_2, s_3, s_8, s_16, s_18, s_23, s_24, s_33, s_38, s_41, s_161, f_1_0, f_1_1, f_1_4, f_1_5, f_1_8, f_1_9, f_1_10, f_1_11, f_1_12, f_1_13, f_2_0, f_2_1, f_3_3, f_3_4, f_3_5, f_3_6, f_8_2, f_8_3, f_8_4, f_8_5, f_16_2, f_18_3, f_18_4, f_18_5, f_18_6, f_23_0, f_23_1, f_23_2, f_23_3, f_23_4, f_24_2, f_24_3, f_24_4, f_24_5, f_33_3, f_33_4, f_33_5, f_33_6, f_38_1, f_38_2, f_41_0, f_161_0, f_161_1, f_161_3, f_161_7, f_161_12, f_161_13, f_161_14, f_161_15, f_161_16, f_161_17, f_161_18, f_161_19, f_161_21, f_161_22, f_161_25, true_and, and_true, true_or, or_true, if_true, if_false, ne_eq, not_false_eq_true, and_self, t10, am_psh, am_clr, not_true_eq_false, Nat.reduceEqDiff]
    rw [if_pos (Int32.le_refl _)]
  | succ n ih =>
    intro j K hj hf h
    have hj1 : K 171 j = I 171 j := by rw [h j (by omega), if_neg (fun q => by have := q.1; omega)]
    have hj2 : K 169 = I 169 := hf 169 (by omega)
    by_cases e : P j = true
    · obtain ⟨p1, p2⟩ := (hP j (by omega)).mp e
      obtain ⟨I', k1, k2, k3⟩ := ih (j + 1) (am_up K 171 j (nI k)) (by omega) (fun b hb => by rw [am_up_ne hb]; exact hf b hb) (fun q hq => by
        by_cases eq : q = j
        · subst eq; rw [up_self, if_pos ⟨by omega, e⟩]
        · rw [up_ne _ _ (Or.inr eq), h q hq]
          by_cases e2 : P q = true
          · by_cases e3 : q < j
            · rw [if_pos ⟨e3, e2⟩, if_pos ⟨by omega, e2⟩]
            · rw [if_neg (fun z => e3 z.1), if_neg (fun z => by have := z.1; omega)]
          · rw [if_neg (fun z => e2 z.2), if_neg (fun z => e2 z.2)])
      refine ⟨I', fun Q => ?_, k2, k3⟩
      rw [r148_70]
      simp only [r148_72, r148_74, r148_77, r148_78, r148_81, r148_83, r148_84, r148_86, r148_89, r148_90, r148_93, r148_95, r148_96, r148_97, r148_98, r148_101, r148_102, r148_105, r148_107, r148_109, r148_110, r148_113, s_1, s_2, s_3, s_8, s_16, s_18, s_23, s_24, s_33, s_38, s_41, s_161, f_1_0, f_1_1, f_1_4, f_1_5, f_1_8, f_1_9, f_1_10, f_1_11, f_1_12, f_1_13, f_2_0, f_2_1, f_3_3, f_3_4, f_3_5, f_3_6, f_8_2, f_8_3, f_8_4, f_8_5, f_16_2, f_18_3, f_18_4, f_18_5, f_18_6, f_23_0, f_23_1, f_23_2, f_23_3, f_23_4, f_24_2, f_24_3, f_24_4, f_24_5, f_33_3, f_33_4, f_33_5, f_33_6, f_38_1, f_38_2, f_41_0, f_161_0, f_161_1, f_161_3, f_161_7, f_161_12, f_161_13, f_161_14, f_161_15, f_161_16, f_161_17, f_161_18, f_161_19, f_161_21, f_161_22, f_161_25, true_and, and_true, true_or, or_true, if_true, if_false, ne_eq, not_false_eq_true, and_self, t10, am_psh, am_clr, not_true_eq_false, Nat.reduceEqDiff, ix171 (L := L) j (by omega), iw171 (L := L) j (by omega), ix169 (L := L) j (by omega), n_cl (show j < 2 ^ 31 by omega), hj1, hj2, p1, nI_1]
      rw [if_neg (nI_ge (show j < k by omega) (by omega)), if_neg p2]
      exact k1 Q
    · obtain ⟨I', k1, k2, k3⟩ := ih (j + 1) K (by omega) hf (fun q hq => by
        rw [h q hq]
        by_cases e2 : P q = true
        · have : q ≠ j := fun z => e (by rw [← z]; exact e2)
          by_cases e3 : q < j
          · rw [if_pos ⟨e3, e2⟩, if_pos ⟨by omega, e2⟩]
          · rw [if_neg (fun z => e3 z.1), if_neg (fun z => by have := z.1; omega)]
        · rw [if_neg (fun z => e2 z.2), if_neg (fun z => e2 z.2)])
      refine ⟨I', fun Q => ?_, k2, k3⟩
      rw [r148_70]
      simp only [r148_72, r148_74, r148_77, r148_78, r148_81, r148_83, r148_84, r148_86, r148_89, r148_90, r148_93, r148_95, r148_96, r148_97, r148_98, r148_101, r148_102, r148_105, r148_107, r148_109, r148_110, r148_113, s_1, s_2, s_3, s_8, s_16, s_18, s_23, s_24, s_33, s_38, s_41, s_161, f_1_0, f_1_1, f_1_4, f_1_5, f_1_8, f_1_9, f_1_10, f_1_11, f_1_12, f_1_13, f_2_0, f_2_1, f_3_3, f_3_4, f_3_5, f_3_6, f_8_2, f_8_3, f_8_4, f_8_5, f_16_2, f_18_3, f_18_4, f_18_5, f_18_6, f_23_0, f_23_1, f_23_2, f_23_3, f_23_4, f_24_2, f_24_3, f_24_4, f_24_5, f_33_3, f_33_4, f_33_5, f_33_6, f_38_1, f_38_2, f_41_0, f_161_0, f_161_1, f_161_3, f_161_7, f_161_12, f_161_13, f_161_14, f_161_15, f_161_16, f_161_17, f_161_18, f_161_19, f_161_21, f_161_22, f_161_25, true_and, and_true, true_or, or_true, if_true, if_false, ne_eq, not_false_eq_true, and_self, t10, am_psh, am_clr, not_true_eq_false, Nat.reduceEqDiff, ix171 (L := L) j (by omega), iw171 (L := L) j (by omega), ix169 (L := L) j (by omega), n_cl (show j < 2 ^ 31 by omega), hj1, hj2, nI_1]
      rw [if_neg (nI_ge (show j < k by omega) (by omega))]
      by_cases p1 : I 171 j = -107
      · have p2 : I 169 j &&& nd = 0 := Decidable.byContradiction (fun z => e ((hP j (by omega)).mpr ⟨p1, z⟩))
        rw [if_pos p1, if_pos p2]; exact k1 Q
      · rw [if_neg p1]; exact k1 Q
/-- the model closes the cycle, if there is one -/
theorem c_close (hG : okG G) (hc : cOK G al s) (hn : cnext G s = some g) (hsl : csel G pr al s g = some a) (hm : mG (I 162) G) (hs : mC I (cpick G pr s g a)) : ∃ I', (∀ Q, am_C (d + 3) 148 [.ref 161, .int (nI g)] (cS L) I J Q = Q none (cS L) I' J) ∧ (∀ b, b ≠ 161 → (b < 169 ∨ 172 < b) → I' b = I b) ∧ (∀ j, j ≠ 20 → I' 161 j = I 161 j) ∧ mC I' (cclo G (cpick G pr s g a) g) := by
  have hgn := hG.1.2.1
  have hm32 := hG.1.2.2.2
  have hk := ck_le hG hc
  obtain ⟨n1, n2, n3, n4⟩ := next_ok hG hc hn
  obtain ⟨a1, -⟩ := csel_some hsl
  obtain ⟨⟨y1, y2⟩, y3, y4, y5, y6, y7⟩ := cyc hG hc hn hsl
  have hclo := clo_ok hG hc hn hsl
  have hle : ∀ q b, q < vk s → vl (cpick G pr s g a) q = some b → b < gm G := fun q b hq h => by
    have h : fset (vl s) g (some a) q = some b := h
    by_cases e : q = g
    · rw [e, fset_s] at h; cases h; exact a1
    · rw [fset_n _ _ e] at h; exact (hc.2.2.2.2.2.2.2.1 q b hq h).1
  generalize hJ : ccy G (cpick G pr s g a) g = J0 at *
  generalize hw : cwk G (cpick G pr s g a) g = w at *
  have w0 : w 0 = g := by rw [← hw]; rfl
  have hst0 : ∀ i, i < J0 → ∃ b, vl (cpick G pr s g a) (w i) = some b ∧ vt s (gt G b) = w (i + 1) := fun i hi => by
    cases e : vl (cpick G pr s g a) (w i) with
    | some b =>
      refine ⟨b, rfl, ?_⟩
      rw [← hw] at e ⊢
      exact (cnx_s e).symm
    | none =>
      by_cases e0 : i = 0
      · subst e0
        rw [w0] at e
        have : fset (vl s) g (some a) g = none := e
        rw [fset_s] at this; cases this
      · have := y4 i (by omega) hi
        rw [cstp_iff.mpr (Or.inr (by rw [hw]; exact e))] at this; cases this
  have hst : ∀ i, 1 ≤ i → i < J0 → w i ≠ g ∧ ∃ b, vl (cpick G pr s g a) (w i) = some b ∧ vt s (gt G b) = w (i + 1) := fun i h1 h2 => by
    refine ⟨fun z => ?_, hst0 i h2⟩
    have := y4 i h1 h2
    rw [cstp_iff.mpr (Or.inl (by rw [hw]; exact z))] at this; cases this
  have h169 : ∀ q, q < vk s → I 169 q = vs s q := fun q hq => (hs.2 q hq).1
  have h171 : ∀ q, q < vk s → I 171 q = enc (-107) (vp s q) := fun q hq => (hs.2 q hq).2.2.1
  have h172 : ∀ q, q < vk s → I 172 q = enc (-107) (vl (cpick G pr s g a) q) := fun q hq => (hs.2 q hq).2.2.2
  have hwk : ∀ i, w i < vk s := fun i => (y5 i).1
  have hor : orN (fun i => vs s (w i)) 1 = vs s g := by
    show (0 : Int32) ||| vs s (w 0) = _
    rw [w0]; exact Int32.zero_or
  have hstart : ∀ Q, am_C (d + 3) 148 [.ref 161, .int (nI g)] (cS L) I J Q = am_T (d + 2) 148 16 [some (.ref 161), some (.int (nI g)), some (.int (nI (w J0))), some (.int (orN (fun i => vs s (w i)) J0)), some (.int (nI (J0 - 1))), none] [] (cS L) I J Q := fun Q => by
    obtain ⟨b, hb1, hb2⟩ := hst0 0 (by omega)
    rw [w0] at hb1
    rw [← cl_walk hG hc (by omega) hle hm h169 h171 h172 n1 hwk y2 hst (J0 - 1) 1 (by omega) (by omega), hor, e148]
    simp only [r148_0, r148_1, r148_2, s_1, s_2, s_3, s_8, s_16, s_18, s_23, s_24, s_33, s_38, s_41, s_161, f_1_0, f_1_1, f_1_4, f_1_5, f_1_8, f_1_9, f_1_10, f_1_11, f_1_12, f_1_13, f_2_0, f_2_1, f_3_3, f_3_4, f_3_5, f_3_6, f_8_2, f_8_3, f_8_4, f_8_5, f_16_2, f_18_3, f_18_4, f_18_5, f_18_6, f_23_0, f_23_1, f_23_2, f_23_3, f_23_4, f_24_2, f_24_3, f_24_4, f_24_5, f_33_3, f_33_4, f_33_5, f_33_6, f_38_1, f_38_2, f_41_0, f_161_0, f_161_1, f_161_3, f_161_7, f_161_12, f_161_13, f_161_14, f_161_15, f_161_16, f_161_17, f_161_18, f_161_19, f_161_21, f_161_22, f_161_25, true_and, and_true, true_or, or_true, if_true, if_false, ne_eq, not_false_eq_true, and_self, t10, am_psh, am_clr, not_true_eq_false, Nat.reduceEqDiff]
    rw [c_behind hG hc (by omega) hle n1 hm h171 h172, hb1]
    simp only [r148_5, r148_6, r148_7, r148_10, r148_11, r148_12, r148_13, r148_14, s_1, s_2, s_3, s_8, s_16, s_18, s_23, s_24, s_33, s_38, s_41, s_161, f_1_0, f_1_1, f_1_4, f_1_5, f_1_8, f_1_9, f_1_10, f_1_11, f_1_12, f_1_13, f_2_0, f_2_1, f_3_3, f_3_4, f_3_5, f_3_6, f_8_2, f_8_3, f_8_4, f_8_5, f_16_2, f_18_3, f_18_4, f_18_5, f_18_6, f_23_0, f_23_1, f_23_2, f_23_3, f_23_4, f_24_2, f_24_3, f_24_4, f_24_5, f_33_3, f_33_4, f_33_5, f_33_6, f_38_1, f_38_2, f_41_0, f_161_0, f_161_1, f_161_3, f_161_7, f_161_12, f_161_13, f_161_14, f_161_15, f_161_16, f_161_17, f_161_18, f_161_19, f_161_21, f_161_22, f_161_25, true_and, and_true, true_or, or_true, if_true, if_false, ne_eq, not_false_eq_true, and_self, t10, am_psh, am_clr, not_true_eq_false, Nat.reduceEqDiff, ix169 (L := L) g (by omega), n_cl (show g < 2 ^ 31 by omega), h169 g n1, hb2]
    rfl
  have hwJ := hwk J0
  by_cases e : w J0 = g
  · have hcc : cclo G (cpick G pr s g a) g = cuni G (cpick G pr s g a) g J0 := by unfold cclo; rw [hJ, hw, if_pos e]
    rw [hcc] at hclo ⊢
    have hk3 : vk s + 1 < 2 * gn G := ck_le hG hclo
    have hPiff : ∀ q, q < vk s → (inW w q J0 = true ↔ newG I (vk s) (orN (fun i => vs s (w i)) J0) 171 q = -107 ∧ ¬ newG I (vk s) (orN (fun i => vs s (w i)) J0) 169 q &&& orN (fun i => vs s (w i)) J0 = 0) := fun q hq => by
      obtain ⟨o1, o2, o3, o4⟩ := newG_o (I := I) (k := vk s) (x := orN (fun i => vs s (w i)) J0) (show q ≠ vk s by omega)
      rw [o1, o3, h169 q hq, h171 q hq, and_ne0]
      have hen : (enc (-107) (vp s q) = -107) = (vp s q = none) := enc_none (fun p hp => by have := (hc.2.2.2.1 q p hq hp).2.1; omega)
      rw [hen]
      constructor
      · intro h
        obtain ⟨i, hi, rfl⟩ := (inW_iff J0).mp h
        refine ⟨(y5 i).2, ?_⟩
        obtain ⟨v, hv, hv2⟩ := hc.2.2.2.2.2.2.2.2.2.1 _ (y5 i).1 (y5 i).2
        have hb := (hc.2.2.2.2.1 _ v (y5 i).1 (y5 i).2 (by omega)).mpr ⟨hv, hv2⟩
        exact ⟨v, by omega, hb, (bit_orN (by omega) J0).mpr ⟨i, hi, hb⟩⟩
      · rintro ⟨h1, v, hv, h2, h3⟩
        obtain ⟨i, hi, h4⟩ := (bit_orN hv J0).mp h3
        have e1 := (hc.2.2.2.2.1 q v hq h1 hv).mp h2
        have e2 := (hc.2.2.2.2.1 _ v (y5 i).1 (y5 i).2 hv).mp h4
        exact (inW_iff J0).mpr ⟨i, hi, by rw [← e2.2, e1.2]⟩
    obtain ⟨I', k1, k2, k3⟩ := mpar_loop (d := d) (L := L) (J := J) (g := g) (I := newG I (vk s) (orN (fun i => vs s (w i)) J0)) (k := vk s) (nd := orN (fun i => vs s (w i)) J0) (x2 := nI g) (by omega) (fun q => inW w q J0) hPiff (vk s) 0 (newG I (vk s) (orN (fun i => vs s (w i)) J0)) (by omega) (fun _ _ => rfl) (fun q hq => by rw [if_neg (fun z => absurd z.1 (Nat.not_lt_zero q))])
    refine ⟨I', fun Q => ?_, fun b b1 b2 => by rw [k2 b (by omega), newG_ne ⟨b1, b2⟩], fun j hj => by rw [k2 161 (by omega), newG_161 hj], ⟨?_, fun q hq => ?_⟩⟩
    · rw [hstart, e, r148_16]
      simp only [r148_18, r148_20, r148_23, r148_24, r148_26, r148_29, r148_30, r148_31, r148_34, r148_35, r148_36, r148_39, r148_40, r148_41, r148_42, r148_43, r148_44, r148_45, r148_48, r148_49, r148_52, r148_55, r148_56, r148_57, r148_60, r148_61, r148_62, s_1, s_2, s_3, s_8, s_16, s_18, s_23, s_24, s_33, s_38, s_41, s_161, f_1_0, f_1_1, f_1_4, f_1_5, f_1_8, f_1_9, f_1_10, f_1_11, f_1_12, f_1_13, f_2_0, f_2_1, f_3_3, f_3_4, f_3_5, f_3_6, f_8_2, f_8_3, f_8_4, f_8_5, f_16_2, f_18_3, f_18_4, f_18_5, f_18_6, f_23_0, f_23_1, f_23_2, f_23_3, f_23_4, f_24_2, f_24_3, f_24_4, f_24_5, f_33_3, f_33_4, f_33_5, f_33_6, f_38_1, f_38_2, f_41_0, f_161_0, f_161_1, f_161_3, f_161_7, f_161_12, f_161_13, f_161_14, f_161_15, f_161_16, f_161_17, f_161_18, f_161_19, f_161_21, f_161_22, f_161_25, true_and, and_true, true_or, or_true, if_true, if_false, ne_eq, not_false_eq_true, and_self, t10, am_psh, am_clr, not_true_eq_false, Nat.reduceEqDiff, n_ne_none (show g < 2 ^ 31 by omega)]
      rw [if_neg (show ¬ (16 : Int32) ≤ nI (J0 - 1) from ge_lit (c := 16) rfl (by omega) (by omega)), c_newG (k := vk s) (show vk s < 16 by omega) hs.1]
      simp only [r148_65, r148_67, r148_68, s_1, s_2, s_3, s_8, s_16, s_18, s_23, s_24, s_33, s_38, s_41, s_161, f_1_0, f_1_1, f_1_4, f_1_5, f_1_8, f_1_9, f_1_10, f_1_11, f_1_12, f_1_13, f_2_0, f_2_1, f_3_3, f_3_4, f_3_5, f_3_6, f_8_2, f_8_3, f_8_4, f_8_5, f_16_2, f_18_3, f_18_4, f_18_5, f_18_6, f_23_0, f_23_1, f_23_2, f_23_3, f_23_4, f_24_2, f_24_3, f_24_4, f_24_5, f_33_3, f_33_4, f_33_5, f_33_6, f_38_1, f_38_2, f_41_0, f_161_0, f_161_1, f_161_3, f_161_7, f_161_12, f_161_13, f_161_14, f_161_15, f_161_16, f_161_17, f_161_18, f_161_19, f_161_21, f_161_22, f_161_25, true_and, and_true, true_or, or_true, if_true, if_false, ne_eq, not_false_eq_true, and_self, t10, am_psh, am_clr, not_true_eq_false, Nat.reduceEqDiff]
      exact k1 Q
    · rw [k2 161 (by omega), newG_20]; rfl
    · have hq : q < vk s + 1 := hq
      rw [k2 169 (by omega), k2 170 (by omega), k2 172 (by omega), k3 q (by omega)]
      show _ = fset (vs s) (vk s) (orN (fun i => vs s (cwk G (cpick G pr s g a) g i)) J0) q ∧ _ = fset (vd (cpick G pr s g a)) (vk s) 0 q ∧ _ = enc (-107) (fset (fun q => if inW (cwk G (cpick G pr s g a) g) q J0 = true then some (vk s) else vp s q) (vk s) none q) ∧ _ = enc (-107) (fset (vl (cpick G pr s g a)) (vk s) none q)
      rw [hw]
      by_cases eq : q = vk s
      · subst eq
        obtain ⟨o1, o2, o3, o4⟩ := newG_k (I := I) (k := vk s) (x := orN (fun i => vs s (w i)) J0)
        rw [fset_s, fset_s, fset_s, fset_s, if_neg (fun z => by have := z.1; omega), o1, o2, o3, o4]
        exact ⟨rfl, rfl, rfl, rfl⟩
      · obtain ⟨o1, o2, o3, o4⟩ := newG_o (I := I) (k := vk s) (x := orN (fun i => vs s (w i)) J0) eq
        rw [fset_n _ _ eq, fset_n _ _ eq, fset_n _ _ eq, fset_n _ _ eq, o1, o2, o3, o4]
        have hq' : q < vk s := by omega
        refine ⟨h169 q hq', (hs.2 q hq').2.1, ?_, h172 q hq'⟩
        by_cases e2 : inW w q J0 = true
        · rw [if_pos ⟨hq', e2⟩, if_pos e2]; rfl
        · rw [if_neg (fun z => e2 z.2), if_neg e2]; exact h171 q hq'
  · have hcc : cclo G (cpick G pr s g a) g = cpick G pr s g a := by unfold cclo; rw [hJ, hw, if_neg e]
    rw [hcc]
    have hl : vl (cpick G pr s g a) (w J0) = none := by
      have := cstp_iff.mp y3
      rw [hw] at this
      exact this.resolve_left e
    refine ⟨I, fun Q => ?_, fun _ _ _ => rfl, fun _ _ => rfl, hs⟩
    rw [hstart, r148_16]
    simp only [r148_18, r148_20, r148_23, r148_24, r148_26, r148_29, r148_30, r148_31, r148_34, r148_35, r148_36, r148_39, r148_40, r148_41, r148_42, r148_43, r148_44, r148_45, s_1, s_2, s_3, s_8, s_16, s_18, s_23, s_24, s_33, s_38, s_41, s_161, f_1_0, f_1_1, f_1_4, f_1_5, f_1_8, f_1_9, f_1_10, f_1_11, f_1_12, f_1_13, f_2_0, f_2_1, f_3_3, f_3_4, f_3_5, f_3_6, f_8_2, f_8_3, f_8_4, f_8_5, f_16_2, f_18_3, f_18_4, f_18_5, f_18_6, f_23_0, f_23_1, f_23_2, f_23_3, f_23_4, f_24_2, f_24_3, f_24_4, f_24_5, f_33_3, f_33_4, f_33_5, f_33_6, f_38_1, f_38_2, f_41_0, f_161_0, f_161_1, f_161_3, f_161_7, f_161_12, f_161_13, f_161_14, f_161_15, f_161_16, f_161_17, f_161_18, f_161_19, f_161_21, f_161_22, f_161_25, true_and, and_true, true_or, or_true, if_true, if_false, ne_eq, not_false_eq_true, and_self, t10, am_psh, am_clr, not_true_eq_false, Nat.reduceEqDiff, n_ne_none (show w J0 < 2 ^ 31 by omega), ix169 (L := L) (w J0) (by omega), n_cl (show w J0 < 2 ^ 31 by omega), h169 _ hwJ]
    rw [if_neg (show ¬ (16 : Int32) ≤ nI (J0 - 1) from ge_lit (c := 16) rfl (by omega) (by omega)), if_neg (fun q => e ((nI_eq (by omega) (by omega)).mp q)), c_behind hG hc (by omega) hle hwJ hm h171 h172, hl]
    simp only [r148_48, r148_49, r148_52, s_1, s_2, s_3, s_8, s_16, s_18, s_23, s_24, s_33, s_38, s_41, s_161, f_1_0, f_1_1, f_1_4, f_1_5, f_1_8, f_1_9, f_1_10, f_1_11, f_1_12, f_1_13, f_2_0, f_2_1, f_3_3, f_3_4, f_3_5, f_3_6, f_8_2, f_8_3, f_8_4, f_8_5, f_16_2, f_18_3, f_18_4, f_18_5, f_18_6, f_23_0, f_23_1, f_23_2, f_23_3, f_23_4, f_24_2, f_24_3, f_24_4, f_24_5, f_33_3, f_33_4, f_33_5, f_33_6, f_38_1, f_38_2, f_41_0, f_161_0, f_161_1, f_161_3, f_161_7, f_161_12, f_161_13, f_161_14, f_161_15, f_161_16, f_161_17, f_161_18, f_161_19, f_161_21, f_161_22, f_161_25, true_and, and_true, true_or, or_true, if_true, if_false, ne_eq, not_false_eq_true, and_self, t10, am_psh, am_clr, not_true_eq_false, Nat.reduceEqDiff, nI_1, Nat.sub_add_cancel y1]
    rw [r148_16]
    simp only [r148_18, r148_20, r148_23, r148_24, r148_26, r148_29, r148_30, r148_31, r148_34, r148_35, r148_36, r148_39, r148_40, r148_41, r148_42, r148_43, r148_44, r148_45, r148_48, r148_49, r148_52, r148_55, r148_56, r148_57, r148_116, s_1, s_2, s_3, s_8, s_16, s_18, s_23, s_24, s_33, s_38, s_41, s_161, f_1_0, f_1_1, f_1_4, f_1_5, f_1_8, f_1_9, f_1_10, f_1_11, f_1_12, f_1_13, f_2_0, f_2_1, f_3_3, f_3_4, f_3_5, f_3_6, f_8_2, f_8_3, f_8_4, f_8_5, f_16_2, f_18_3, f_18_4, f_18_5, f_18_6, f_23_0, f_23_1, f_23_2, f_23_3, f_23_4, f_24_2, f_24_3, f_24_4, f_24_5, f_33_3, f_33_4, f_33_5, f_33_6, f_38_1, f_38_2, f_41_0, f_161_0, f_161_1, f_161_3, f_161_7, f_161_12, f_161_13, f_161_14, f_161_15, f_161_16, f_161_17, f_161_18, f_161_19, f_161_21, f_161_22, f_161_25, true_and, and_true, true_or, or_true, if_true, if_false, ne_eq, not_false_eq_true, and_self, t10, am_psh, am_clr, not_true_eq_false, Nat.reduceEqDiff]
    rw [if_neg (show ¬ (16 : Int32) ≤ nI J0 from ge_lit (c := 16) rfl (by omega) (by omega)), if_neg (fun q => of_eq_false (n_ne_none (show g < 2 ^ 31 by omega)) q.symm)]
end MD
