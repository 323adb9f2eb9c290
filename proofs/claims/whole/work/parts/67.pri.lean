/-! prices: the class -/
def prc (G : Gr) (p : Nat → Nat) (a : Nat) : Int32 := coG G a + nI (p (gt G a))
def bnF (c : Int32) (p l : Nat → Nat) : Nat → Int32
  | 0 => c
  | k + 1 => bnF c p l k - nI (p k) * nI (l k)
def chP (G : Gr) (t : Nat → Nat) (st : Nat) (p : Nat → Nat) : Nat → Nat := fun v => if v < gn G then (if gl G v < degA G t v then p v + st else if degA G t v < gl G v then p v - st else p v) else p v
def bdU (j : Nat) (b x : Int32) : Int32 := if j = 0 ∨ b < x then x else b
def prT (G : Gr) (s : Cs) : Nat → Nat := rt (recOf G s)
def prB (G : Gr) (p : Nat → Nat) (s : Cs) : Int32 := bnF (tcost G (prc G p) (prT G s)) p (gl G) (gn G)
def prF (G : Gr) (st : Nat) : Nat → Nat → Int32 → (Nat → Nat) → Option (Int32 × (Nat → Nat))
  | 0, _, b, p => some (b, p)
  | n + 1, j, b, p => match conF G (prc G p) alT 15 (con0 G) with
    | none => none
    | some s => prF G st n (j + 1) (bdU j b (prB G p s)) (chP G (prT G s) st p)
section PR
variable {d L : Nat} {I I' : am_I} {J : am_J} {Q : am_Q} {G : Gr} {p t : Nat → Nat} {st : Nat}
theorem degA_le (u : Nat) : degA G t u ≤ gn G := by
  have h := sumN_le (f := fun v => if v ≠ gr G ∧ gt G (t v) = u then 1 else 0) (g := fun _ => 1) (gn G) (fun i hi => by show (if i ≠ gr G ∧ gt G (t i) = u then 1 else 0) ≤ 1; split <;> omega)
  have h3 : ∀ n, sumN (fun _ => 1) n = n := by
    intro n
    induction n with
    | zero => rfl
    | succ n ih => unfold sumN; rw [ih]
  rw [h3] at h
  exact h
theorem chP_le {n : Nat} (h : ∀ v, p v ≤ 20 * n) (hs : st ≤ 20) (v : Nat) : chP G t st p v ≤ 20 * (n + 1) := by
  have := h v
  unfold chP
  split
  · split
    · omega
    · split <;> omega
  · omega
theorem sub_ti {a b : Nat} (ha : a < 2 ^ 30) (hb : b < 2 ^ 30) : (nI a - nI b).toInt = (a : Int) - b := pk_sub_toInt (by omega) (by omega)
theorem sub_max {a b : Nat} (ha : a < 2 ^ 30) (hb : b < 2 ^ 30) : (if (0 : Int32) < nI a - nI b then nI a - nI b else 0) = nI (a - b) := by
  have e := sub_ti ha hb
  by_cases h : b < a
  · rw [if_pos (by rw [Int32.lt_iff_toInt_lt, e]; show (0 : Int) < _; omega)]
    exact pk_sub (by omega)
  · rw [if_neg (by rw [Int32.lt_iff_toInt_lt, e]; show ¬ (0 : Int) < _; omega), show a - b = 0 by omega]; rfl
theorem sp_loop (hG : okG G) (hx : xG I 3 G) (hp : ∀ v, v < 8 → I 39 v = nI (p v)) : ∀ (n j : Nat) (K : am_I), j + n = gm G → (∀ b, b ≠ 40 → K b = I b) → (∀ a, a < j → K 40 a = prc G p a) → ∃ I', (∀ Q, am_T d 47 2 [some (.ref 38), some (.ref 3), some (.int (nI j))] [] (cS L) K J Q = Q none (cS L) I' J) ∧ (∀ b, b ≠ 40 → I' b = I b) ∧ ∀ a, a < gm G → I' 40 a = prc G p a := by
  have hm32 := hG.1.2.2.2
  have hgn := hG.1.2.1
  intro n
  induction n with
  | zero =>
    intro j K hj hf h
    have : j = gm G := by omega
    subst this
    refine ⟨K, fun Q => ?_, hf, h⟩
    rw [r47_2]
    simp only [r47_3, r47_4, r47_7, r47_40, s_1, s_2, s_3, s_8, s_16, s_18, s_23, s_24, s_33, s_38, s_41, s_161, f_1_0, f_1_1, f_1_4, f_1_5, f_1_8, f_1_9, f_1_10, f_1_11, f_1_12, f_1_13, f_2_0, f_2_1, f_3_3, f_3_4, f_3_5, f_3_6, f_8_2, f_8_3, f_8_4, f_8_5, f_16_2, f_18_3, f_18_4, f_18_5, f_18_6, f_23_0, f_23_1, f_23_2, f_23_3, f_23_4, f_24_2, f_24_3, f_24_4, f_24_5, f_33_3, f_33_4, f_33_5, f_33_6, f_38_1, f_38_2, f_41_0, f_161_0, f_161_1, f_161_3, f_161_7, f_161_12, f_161_13, f_161_14, f_161_15, f_161_16, f_161_17, f_161_18, f_161_19, f_161_21, f_161_22, f_161_25, true_and, and_true, true_or, or_true, if_true, if_false, ne_eq, not_false_eq_true, and_self, t10, am_psh, am_clr, not_true_eq_false, Nat.reduceEqDiff, hf 3 (by omega), hx.1.2.2]
    rw [if_pos (Int32.le_refl _)]
  | succ n ih =>
    intro j K hj hf h
    have hjm : j < gm G := by omega
    have b1 := (hG.2.1 j hjm).1
    obtain ⟨I', k1, k2, k3⟩ := ih (j + 1) (am_up K 40 j (prc G p j)) (by omega) (fun b hb => by rw [am_up_ne hb]; exact hf b hb) (fun a ha => by
      by_cases e : a = j
      · subst e; rw [up_self]
      · rw [up_ne _ _ (Or.inr e)]; exact h a (by omega))
    refine ⟨I', fun Q => ?_, k2, k3⟩
    have e6 : K 6 j = coG G j := by rw [hf 6 (by omega)]; exact co_x hx j hjm
    have e4 : K 4 j = nI (gt G j) := by rw [hf 4 (by omega)]; exact (hx.2.1 j hjm).1
    have e39 : K 39 (gt G j) = nI (p (gt G j)) := by rw [hf 39 (by omega)]; exact hp _ (by omega)
    rw [r47_2]
    simp only [r47_3, r47_4, r47_7, r47_10, r47_11, r47_14, r47_15, r47_16, r47_19, r47_20, r47_21, r47_22, r47_25, r47_26, r47_29, r47_30, r47_31, r47_32, r47_33, r47_34, r47_37, s_1, s_2, s_3, s_8, s_16, s_18, s_23, s_24, s_33, s_38, s_41, s_161, f_1_0, f_1_1, f_1_4, f_1_5, f_1_8, f_1_9, f_1_10, f_1_11, f_1_12, f_1_13, f_2_0, f_2_1, f_3_3, f_3_4, f_3_5, f_3_6, f_8_2, f_8_3, f_8_4, f_8_5, f_16_2, f_18_3, f_18_4, f_18_5, f_18_6, f_23_0, f_23_1, f_23_2, f_23_3, f_23_4, f_24_2, f_24_3, f_24_4, f_24_5, f_33_3, f_33_4, f_33_5, f_33_6, f_38_1, f_38_2, f_41_0, f_161_0, f_161_1, f_161_3, f_161_7, f_161_12, f_161_13, f_161_14, f_161_15, f_161_16, f_161_17, f_161_18, f_161_19, f_161_21, f_161_22, f_161_25, true_and, and_true, true_or, or_true, if_true, if_false, ne_eq, not_false_eq_true, and_self, t10, am_psh, am_clr, not_true_eq_false, Nat.reduceEqDiff, hf 3 (by omega), hx.1.2.2, ix6 (L := L) j (by omega), ix4 (L := L) j (by omega), iw40 (L := L) j (by omega), n_cl (show j < 2 ^ 31 by omega), e6, e4, ix39 (L := L) (gt G j) (by omega), n_cl (show gt G j < 2 ^ 31 by omega), e39, nI_1]
    rw [if_neg (nI_ge hjm (by omega))]
    exact k1 Q
theorem bo_loop (hG : okG G) (hx : xG I 3 G) (hp : ∀ v, v < 8 → I 39 v = nI (p v)) (c : Int32) : ∀ (n j : Nat), j + n = gn G → am_T d 48 13 [some (.ref 38), some (.ref 3), some (.ref 24), some (.int (bnF c p (gl G) j)), some (.int (nI j))] [] (cS L) I J Q = Q (some (.int (bnF c p (gl G) (gn G)))) (cS L) I J := by
  have hgn := hG.1.2.1
  intro n
  induction n with
  | zero =>
    intro j hj
    have : j = gn G := by omega
    subst this
    rw [r48_13]
    simp only [r48_15, r48_16, r48_19, r48_46, r48_47, s_1, s_2, s_3, s_8, s_16, s_18, s_23, s_24, s_33, s_38, s_41, s_161, f_1_0, f_1_1, f_1_4, f_1_5, f_1_8, f_1_9, f_1_10, f_1_11, f_1_12, f_1_13, f_2_0, f_2_1, f_3_3, f_3_4, f_3_5, f_3_6, f_8_2, f_8_3, f_8_4, f_8_5, f_16_2, f_18_3, f_18_4, f_18_5, f_18_6, f_23_0, f_23_1, f_23_2, f_23_3, f_23_4, f_24_2, f_24_3, f_24_4, f_24_5, f_33_3, f_33_4, f_33_5, f_33_6, f_38_1, f_38_2, f_41_0, f_161_0, f_161_1, f_161_3, f_161_7, f_161_12, f_161_13, f_161_14, f_161_15, f_161_16, f_161_17, f_161_18, f_161_19, f_161_21, f_161_22, f_161_25, true_and, and_true, true_or, or_true, if_true, if_false, ne_eq, not_false_eq_true, and_self, t10, am_psh, am_clr, not_true_eq_false, Nat.reduceEqDiff, hx.1.1]
    rw [if_pos (Int32.le_refl _)]
  | succ n ih =>
    intro j hj
    have e7 : I 7 j = nI (gl G j) := hx.2.2 j (by omega)
    rw [r48_13]
    simp only [r48_15, r48_16, r48_19, r48_22, r48_23, r48_24, r48_27, r48_29, r48_30, r48_31, r48_34, r48_36, r48_37, r48_38, r48_39, r48_40, r48_43, s_1, s_2, s_3, s_8, s_16, s_18, s_23, s_24, s_33, s_38, s_41, s_161, f_1_0, f_1_1, f_1_4, f_1_5, f_1_8, f_1_9, f_1_10, f_1_11, f_1_12, f_1_13, f_2_0, f_2_1, f_3_3, f_3_4, f_3_5, f_3_6, f_8_2, f_8_3, f_8_4, f_8_5, f_16_2, f_18_3, f_18_4, f_18_5, f_18_6, f_23_0, f_23_1, f_23_2, f_23_3, f_23_4, f_24_2, f_24_3, f_24_4, f_24_5, f_33_3, f_33_4, f_33_5, f_33_6, f_38_1, f_38_2, f_41_0, f_161_0, f_161_1, f_161_3, f_161_7, f_161_12, f_161_13, f_161_14, f_161_15, f_161_16, f_161_17, f_161_18, f_161_19, f_161_21, f_161_22, f_161_25, true_and, and_true, true_or, or_true, if_true, if_false, ne_eq, not_false_eq_true, and_self, t10, am_psh, am_clr, not_true_eq_false, Nat.reduceEqDiff, hx.1.1, ix39 (L := L) j (by omega), ix7 (L := L) j (by omega), n_cl (show j < 2 ^ 31 by omega), hp j (by omega), e7, nI_1]
    rw [if_neg (nI_ge (show j < gn G by omega) (by omega))]
    exact ih (j + 1) (by omega)
theorem cp_loop (hG : okG G) (hx : xG I 3 G) (ht : isT G t) (he : ∀ v, v < gn G → I (24 + 4) v = if v = gr G then -1 else nI (t v)) (hp : ∀ v, v < 8 → I 39 v = nI (p v)) (hb : ∀ v, p v < 10000) (hs : st ≤ 20) : ∀ (n j : Nat) (K : am_I) (l5 : Option Value), j + n = gn G → (∀ b, b ≠ 39 → K b = I b) → (∀ v, v < 8 → K 39 v = if v < j then nI (chP G t st p v) else I 39 v) → ∃ I', (∀ Q, am_T (d + 1) 49 3 [some (.ref 38), some (.ref 3), some (.ref 24), some (.int (nI st)), some (.int (nI j)), l5] [] (cS L) K J Q = Q none (cS L) I' J) ∧ (∀ b, b ≠ 39 → I' b = I b) ∧ ∀ v, v < 8 → I' 39 v = nI (chP G t st p v) := by
  have hgn := hG.1.2.1
  intro n
  induction n with
  | zero =>
    intro j K l5 hj hf h
    have : j = gn G := by omega
    subst this
    refine ⟨K, fun Q => ?_, hf, fun v hv => ?_⟩
    · rw [r49_3]
      simp only [r49_5, r49_6, r49_9, r49_85, s_1, s_2, s_3, s_8, s_16, s_18, s_23, s_24, s_33, s_38, s_41, s_161, f_1_0, f_1_1, f_1_4, f_1_5, f_1_8, f_1_9, f_1_10, f_1_11, f_1_12, f_1_13, f_2_0, f_2_1, f_3_3, f_3_4, f_3_5, f_3_6, f_8_2, f_8_3, f_8_4, f_8_5, f_16_2, f_18_3, f_18_4, f_18_5, f_18_6, f_23_0, f_23_1, f_23_2, f_23_3, f_23_4, f_24_2, f_24_3, f_24_4, f_24_5, f_33_3, f_33_4, f_33_5, f_33_6, f_38_1, f_38_2, f_41_0, f_161_0, f_161_1, f_161_3, f_161_7, f_161_12, f_161_13, f_161_14, f_161_15, f_161_16, f_161_17, f_161_18, f_161_19, f_161_21, f_161_22, f_161_25, true_and, and_true, true_or, or_true, if_true, if_false, ne_eq, not_false_eq_true, and_self, t10, am_psh, am_clr, not_true_eq_false, Nat.reduceEqDiff, hf 3 (by omega), hx.1.1]
      rw [if_pos (Int32.le_refl _)]
    · rw [h v hv]
      by_cases e : v < gn G
      · rw [if_pos e]
      · rw [if_neg e, hp v hv]; unfold chP; rw [if_neg e]
  | succ n ih =>
    intro j K l5 hj hf h
    have hjn : j < gn G := by omega
    have hK39 : K 39 j = nI (p j) := by rw [h j (by omega), if_neg (by omega), hp j (by omega)]
    have hK7 : K 7 j = nI (gl G j) := by rw [hf 7 (by omega)]; exact hx.2.2 j (by omega)
    have hgl := hG.2.2 j (by omega)
    have hd := degA_le (G := G) (t := t) j
    have hbj := hb j
    have go : ∀ (x : Int32) (l5 : Option Value), x = nI (chP G t st p j) → ∃ I', (∀ Q, am_T (d + 1) 49 3 [some (.ref 38), some (.ref 3), some (.ref 24), some (.int (nI st)), some (.int (nI (j + 1))), l5] [] (cS L) (am_up K 39 j x) J Q = Q none (cS L) I' J) ∧ (∀ b, b ≠ 39 → I' b = I b) ∧ ∀ v, v < 8 → I' 39 v = nI (chP G t st p v) := fun x l5 hxx => ih (j + 1) (am_up K 39 j x) l5 (by omega) (fun b hb => by rw [am_up_ne hb]; exact hf b hb) (fun v hv => by
      by_cases e : v = j
      · subst e; rw [up_self, if_pos (by omega)]; exact hxx
      · rw [up_ne _ _ (Or.inr e), h v hv]
        by_cases e2 : v < j
        · rw [if_pos e2, if_pos (by omega)]
        · rw [if_neg e2, if_neg (by omega)])
    have run : ∀ Q, am_T (d + 1) 49 3 [some (.ref 38), some (.ref 3), some (.ref 24), some (.int (nI st)), some (.int (nI j)), l5] [] (cS L) K J Q = am_T (d + 1) 49 21 [some (.ref 38), some (.ref 3), some (.ref 24), some (.int (nI st)), some (.int (nI j)), some (.int (nI (degA G t j)))] [] (cS L) K J Q := fun Q => by
      rw [r49_3]
      simp only [r49_5, r49_6, r49_9, r49_12, r49_13, r49_14, r49_16, s_1, s_2, s_3, s_8, s_16, s_18, s_23, s_24, s_33, s_38, s_41, s_161, f_1_0, f_1_1, f_1_4, f_1_5, f_1_8, f_1_9, f_1_10, f_1_11, f_1_12, f_1_13, f_2_0, f_2_1, f_3_3, f_3_4, f_3_5, f_3_6, f_8_2, f_8_3, f_8_4, f_8_5, f_16_2, f_18_3, f_18_4, f_18_5, f_18_6, f_23_0, f_23_1, f_23_2, f_23_3, f_23_4, f_24_2, f_24_3, f_24_4, f_24_5, f_33_3, f_33_4, f_33_5, f_33_6, f_38_1, f_38_2, f_41_0, f_161_0, f_161_1, f_161_3, f_161_7, f_161_12, f_161_13, f_161_14, f_161_15, f_161_16, f_161_17, f_161_18, f_161_19, f_161_21, f_161_22, f_161_25, true_and, and_true, true_or, or_true, if_true, if_false, ne_eq, not_false_eq_true, and_self, t10, am_psh, am_clr, not_true_eq_false, Nat.reduceEqDiff, hf 3 (by omega), hx.1.1]
      rw [if_neg (nI_ge hjn (by omega)), c_arcsFrom (t := t) (shR_24 L) hG (xG_congr (fun b b1 b2 => hf b (by omega)) hx) hjn ht (fun v hv => by rw [hf (24 + 4) (by omega)]; exact he v hv)]
      simp only [r49_19, s_1, s_2, s_3, s_8, s_16, s_18, s_23, s_24, s_33, s_38, s_41, s_161, f_1_0, f_1_1, f_1_4, f_1_5, f_1_8, f_1_9, f_1_10, f_1_11, f_1_12, f_1_13, f_2_0, f_2_1, f_3_3, f_3_4, f_3_5, f_3_6, f_8_2, f_8_3, f_8_4, f_8_5, f_16_2, f_18_3, f_18_4, f_18_5, f_18_6, f_23_0, f_23_1, f_23_2, f_23_3, f_23_4, f_24_2, f_24_3, f_24_4, f_24_5, f_33_3, f_33_4, f_33_5, f_33_6, f_38_1, f_38_2, f_41_0, f_161_0, f_161_1, f_161_3, f_161_7, f_161_12, f_161_13, f_161_14, f_161_15, f_161_16, f_161_17, f_161_18, f_161_19, f_161_21, f_161_22, f_161_25, true_and, and_true, true_or, or_true, if_true, if_false, ne_eq, not_false_eq_true, and_self, t10, am_psh, am_clr, not_true_eq_false, Nat.reduceEqDiff]
    by_cases e1 : gl G j < degA G t j
    · obtain ⟨I', k1, k2, k3⟩ := go (nI (p j) + nI st) (some (.int (nI (degA G t j)))) (by unfold chP; rw [if_pos hjn, if_pos e1, nI_add])
      refine ⟨I', fun Q => ?_, k2, k3⟩
      rw [run]
      simp only [r49_21, r49_23, r49_24, r49_27, r49_29, r49_30, r49_33, r49_34, r49_37, r49_39, r49_40, r49_41, r49_42, r49_43, r49_44, r49_79, r49_82, s_1, s_2, s_3, s_8, s_16, s_18, s_23, s_24, s_33, s_38, s_41, s_161, f_1_0, f_1_1, f_1_4, f_1_5, f_1_8, f_1_9, f_1_10, f_1_11, f_1_12, f_1_13, f_2_0, f_2_1, f_3_3, f_3_4, f_3_5, f_3_6, f_8_2, f_8_3, f_8_4, f_8_5, f_16_2, f_18_3, f_18_4, f_18_5, f_18_6, f_23_0, f_23_1, f_23_2, f_23_3, f_23_4, f_24_2, f_24_3, f_24_4, f_24_5, f_33_3, f_33_4, f_33_5, f_33_6, f_38_1, f_38_2, f_41_0, f_161_0, f_161_1, f_161_3, f_161_7, f_161_12, f_161_13, f_161_14, f_161_15, f_161_16, f_161_17, f_161_18, f_161_19, f_161_21, f_161_22, f_161_25, true_and, and_true, true_or, or_true, if_true, if_false, ne_eq, not_false_eq_true, and_self, t10, am_psh, am_clr, not_true_eq_false, Nat.reduceEqDiff, ix7 (L := L) j (by omega), ix39 (L := L) j (by omega), iw39 (L := L) j (by omega), n_cl (show j < 2 ^ 31 by omega), hK7, hK39, nI_1]
      rw [if_neg (nI_ge e1 (by omega))]
      exact k1 Q
    · by_cases e2 : degA G t j < gl G j
      · obtain ⟨I', k1, k2, k3⟩ := go (nI (p j - st)) (some (.int (nI (degA G t j)))) (by unfold chP; rw [if_pos hjn, if_neg e1, if_pos e2])
        refine ⟨I', fun Q => ?_, k2, k3⟩
        rw [run]
        simp only [r49_21, r49_23, r49_24, r49_27, r49_29, r49_30, r49_47, r49_49, r49_50, r49_53, r49_55, r49_56, r49_59, r49_60, r49_63, r49_65, r49_66, r49_67, r49_70, r49_72, r49_73, r49_74, r49_75, r49_78, r49_79, r49_82, s_1, s_2, s_3, s_8, s_16, s_18, s_23, s_24, s_33, s_38, s_41, s_161, f_1_0, f_1_1, f_1_4, f_1_5, f_1_8, f_1_9, f_1_10, f_1_11, f_1_12, f_1_13, f_2_0, f_2_1, f_3_3, f_3_4, f_3_5, f_3_6, f_8_2, f_8_3, f_8_4, f_8_5, f_16_2, f_18_3, f_18_4, f_18_5, f_18_6, f_23_0, f_23_1, f_23_2, f_23_3, f_23_4, f_24_2, f_24_3, f_24_4, f_24_5, f_33_3, f_33_4, f_33_5, f_33_6, f_38_1, f_38_2, f_41_0, f_161_0, f_161_1, f_161_3, f_161_7, f_161_12, f_161_13, f_161_14, f_161_15, f_161_16, f_161_17, f_161_18, f_161_19, f_161_21, f_161_22, f_161_25, true_and, and_true, true_or, or_true, if_true, if_false, ne_eq, not_false_eq_true, and_self, t10, am_psh, am_clr, not_true_eq_false, Nat.reduceEqDiff, ix7 (L := L) j (by omega), ix39 (L := L) j (by omega), iw39 (L := L) j (by omega), n_cl (show j < 2 ^ 31 by omega), hK7, hK39, nI_1, sub_max (show p j < 2 ^ 30 by omega) (show st < 2 ^ 30 by omega)]
        rw [if_pos (nI_le (by omega) (by omega)), if_neg (nI_ge e2 (by omega))]
        exact k1 Q
      · obtain ⟨I', k1, k2, k3⟩ := ih (j + 1) K (some (.int (nI (degA G t j)))) (by omega) hf (fun v hv => by
          rw [h v hv]
          by_cases e : v = j
          · subst e; rw [if_neg (by omega), if_pos (by omega), hp v hv]; unfold chP; rw [if_pos hjn, if_neg e1, if_neg e2]
          · by_cases e3 : v < j
            · rw [if_pos e3, if_pos (by omega)]
            · rw [if_neg e3, if_neg (by omega)])
        refine ⟨I', fun Q => ?_, k2, k3⟩
        rw [run]
        simp only [r49_21, r49_23, r49_24, r49_27, r49_29, r49_30, r49_47, r49_49, r49_50, r49_53, r49_55, r49_56, r49_79, r49_82, s_1, s_2, s_3, s_8, s_16, s_18, s_23, s_24, s_33, s_38, s_41, s_161, f_1_0, f_1_1, f_1_4, f_1_5, f_1_8, f_1_9, f_1_10, f_1_11, f_1_12, f_1_13, f_2_0, f_2_1, f_3_3, f_3_4, f_3_5, f_3_6, f_8_2, f_8_3, f_8_4, f_8_5, f_16_2, f_18_3, f_18_4, f_18_5, f_18_6, f_23_0, f_23_1, f_23_2, f_23_3, f_23_4, f_24_2, f_24_3, f_24_4, f_24_5, f_33_3, f_33_4, f_33_5, f_33_6, f_38_1, f_38_2, f_41_0, f_161_0, f_161_1, f_161_3, f_161_7, f_161_12, f_161_13, f_161_14, f_161_15, f_161_16, f_161_17, f_161_18, f_161_19, f_161_21, f_161_22, f_161_25, true_and, and_true, true_or, or_true, if_true, if_false, ne_eq, not_false_eq_true, and_self, t10, am_psh, am_clr, not_true_eq_false, Nat.reduceEqDiff, ix7 (L := L) j (by omega), n_cl (show j < 2 ^ 31 by omega), hK7, nI_1]
        rw [if_pos (nI_le (by omega) (by omega)), if_pos (nI_le (by omega) (by omega))]
        exact k1 Q
theorem play_0 {x3 x4 : Int32} : ∀ (n j : Nat) (K : am_I) (l6 : Option Value), j + n = 8 → (∀ b, b ≠ 39 → K b = I b) → (∀ v, v < j → K 39 v = 0) → ∃ I', (∀ Q, am_T d 46 3 [some (.ref 38), some (.ref 3), some (.ref 23), some (.int x3), some (.int x4), some (.int (nI j)), l6] [] (cS L) K J Q = am_T d 46 24 [some (.ref 38), some (.ref 3), some (.ref 23), some (.int x3), some (.int x4), some (.int (nI 8)), l6] [] (cS L) I' J Q) ∧ (∀ b, b ≠ 39 → I' b = I b) ∧ ∀ v, v < 8 → I' 39 v = 0 := by
  intro n
  induction n with
  | zero =>
    intro j K l6 hj hf h
    have : j = 8 := by omega
    subst this
    refine ⟨K, fun Q => ?_, hf, h⟩
    rw [r46_3]
    simp only [r46_5, r46_7]
    rw [if_pos (by decide)]
  | succ n ih =>
    intro j K l6 hj hf h
    obtain ⟨I', k1, k2, k3⟩ := ih (j + 1) (am_up K 39 j 0) l6 (by omega) (fun b hb => by rw [am_up_ne hb]; exact hf b hb) (fun v hv => by
      by_cases e : v = j
      · subst e; rw [up_self]
      · rw [up_ne _ _ (Or.inr e)]; exact h v (by omega))
    refine ⟨I', fun Q => ?_, k2, k3⟩
    rw [r46_3]
    simp only [r46_5, r46_7, r46_10, r46_11, r46_14, r46_16, r46_17, r46_18, r46_21, s_1, s_2, s_3, s_8, s_16, s_18, s_23, s_24, s_33, s_38, s_41, s_161, f_1_0, f_1_1, f_1_4, f_1_5, f_1_8, f_1_9, f_1_10, f_1_11, f_1_12, f_1_13, f_2_0, f_2_1, f_3_3, f_3_4, f_3_5, f_3_6, f_8_2, f_8_3, f_8_4, f_8_5, f_16_2, f_18_3, f_18_4, f_18_5, f_18_6, f_23_0, f_23_1, f_23_2, f_23_3, f_23_4, f_24_2, f_24_3, f_24_4, f_24_5, f_33_3, f_33_4, f_33_5, f_33_6, f_38_1, f_38_2, f_41_0, f_161_0, f_161_1, f_161_3, f_161_7, f_161_12, f_161_13, f_161_14, f_161_15, f_161_16, f_161_17, f_161_18, f_161_19, f_161_21, f_161_22, f_161_25, true_and, and_true, true_or, or_true, if_true, if_false, ne_eq, not_false_eq_true, and_self, t10, am_psh, am_clr, not_true_eq_false, Nat.reduceEqDiff, iw39 (L := L) j (by omega), n_cl (show j < 2 ^ 31 by omega), nI_1]
    rw [if_neg (show ¬ (8 : Int32) ≤ nI j from ge_lit (c := 8) rfl (by omega) (by omega))]
    exact k1 Q
theorem play_loop {m : Nat} (hG : okG G) (hs : st ≤ 20) (hm : m ≤ 20) (hx : xG I 3 G) : ∀ (n j : Nat) (K : am_I) (p : Nat → Nat) (l6 : Option Value), j + n = m → (∀ b, ¬ (24 ≤ b ∧ b ≤ 32) → ¬ (38 ≤ b ∧ b ≤ 40) → K b = I b) → (∀ v, v < 8 → K 39 v = nI (p v)) → (∀ v, p v ≤ 20 * j) → ∃ I', (∀ Q, am_T (d + 4) 46 27 [some (.ref 38), some (.ref 3), some (.ref 23), some (.int (nI m)), some (.int (nI st)), some (.int (nI j)), l6] [] (cS L) K J Q = Q (some (.int (oB (prF G st n j (K 38 0) p)))) (cS L) I' J) ∧ (∀ b, ¬ (24 ≤ b ∧ b ≤ 32) → ¬ (38 ≤ b ∧ b ≤ 40) → I' b = I b) ∧ ∀ q, prF G st n j (K 38 0) p = some q → I' 38 0 = q.1 ∧ ∀ v, v < 8 → I' 39 v = nI (q.2 v) := by
  have hgn := hG.1.2.1
  have hm32 := hG.1.2.2.2
  intro n
  induction n with
  | zero =>
    intro j K p l6 hj hf hp hb
    have : j = m := by omega
    subst this
    refine ⟨K, fun Q => ?_, hf, fun q hq => by cases hq; exact ⟨rfl, hp⟩⟩
    rw [r46_27]
    simp only [r46_29, r46_30, r46_101, r46_102, s_1, s_2, s_3, s_8, s_16, s_18, s_23, s_24, s_33, s_38, s_41, s_161, f_1_0, f_1_1, f_1_4, f_1_5, f_1_8, f_1_9, f_1_10, f_1_11, f_1_12, f_1_13, f_2_0, f_2_1, f_3_3, f_3_4, f_3_5, f_3_6, f_8_2, f_8_3, f_8_4, f_8_5, f_16_2, f_18_3, f_18_4, f_18_5, f_18_6, f_23_0, f_23_1, f_23_2, f_23_3, f_23_4, f_24_2, f_24_3, f_24_4, f_24_5, f_33_3, f_33_4, f_33_5, f_33_6, f_38_1, f_38_2, f_41_0, f_161_0, f_161_1, f_161_3, f_161_7, f_161_12, f_161_13, f_161_14, f_161_15, f_161_16, f_161_17, f_161_18, f_161_19, f_161_21, f_161_22, f_161_25, true_and, and_true, true_or, or_true, if_true, if_false, ne_eq, not_false_eq_true, and_self, t10, am_psh, am_clr, not_true_eq_false, Nat.reduceEqDiff, t11]
    rw [if_pos (Int32.le_refl _)]
    rfl
  | succ n ih =>
    intro j K p l6 hj hf hp hb
    have hxK : xG K 3 G := xG_congr (fun b b1 b2 => hf b (by omega) (by omega)) hx
    obtain ⟨K1, s1, s2, s3⟩ := sp_loop (d := d + 3) (L := L) (J := J) (I := K) (p := p) hG hxK hp (gm G) 0 K (by omega) (fun _ _ => rfl) (fun a ha => absurd ha (Nat.not_lt_zero a))
    have hx1 : xG K1 3 G := xG_congr (fun b b1 b2 => s2 b (by omega)) hxK
    obtain ⟨K2, k1, k2, k3, k4⟩ := c_contract (d := d) (L := L) (J := J) (I := K1) (cb := 40) (x := -1) (pr := prc G p) (al := alT) (Or.inr rfl) hG hx1 s3 (fun a _ => rfl)
    have f2 : ∀ b, ¬ (24 ≤ b ∧ b ≤ 32) → b ≠ 40 → K2 b = K b := fun b b1 b2 => by rw [k2 b (by omega), s2 b b2]
    have run1 : ∀ Q, am_T (d + 4) 46 27 [some (.ref 38), some (.ref 3), some (.ref 23), some (.int (nI m)), some (.int (nI st)), some (.int (nI j)), l6] [] (cS L) K J Q = am_T (d + 4) 46 48 [some (.ref 38), some (.ref 3), some (.ref 23), some (.int (nI m)), some (.int (nI st)), some (.int (nI j)), l6] [.int (oB (conF G (prc G p) alT 15 (con0 G)))] (cS L) K2 J Q := fun Q => by
      rw [r46_27]
      simp only [r46_29, r46_30, r46_33, r46_34, r46_35, s_1, s_2, s_3, s_8, s_16, s_18, s_23, s_24, s_33, s_38, s_41, s_161, f_1_0, f_1_1, f_1_4, f_1_5, f_1_8, f_1_9, f_1_10, f_1_11, f_1_12, f_1_13, f_2_0, f_2_1, f_3_3, f_3_4, f_3_5, f_3_6, f_8_2, f_8_3, f_8_4, f_8_5, f_16_2, f_18_3, f_18_4, f_18_5, f_18_6, f_23_0, f_23_1, f_23_2, f_23_3, f_23_4, f_24_2, f_24_3, f_24_4, f_24_5, f_33_3, f_33_4, f_33_5, f_33_6, f_38_1, f_38_2, f_41_0, f_161_0, f_161_1, f_161_3, f_161_7, f_161_12, f_161_13, f_161_14, f_161_15, f_161_16, f_161_17, f_161_18, f_161_19, f_161_21, f_161_22, f_161_25, true_and, and_true, true_or, or_true, if_true, if_false, ne_eq, not_false_eq_true, and_self, t10, am_psh, am_clr, not_true_eq_false, Nat.reduceEqDiff]
      rw [if_neg (nI_ge (show j < m by omega) (by omega)), e47]
      simp only [r47_0, r47_1]
      refine Eq.trans (s1 _) ?_
      simp only [r46_38, r46_39, r46_40, r46_41, r46_44, r46_45, s_1, s_2, s_3, s_8, s_16, s_18, s_23, s_24, s_33, s_38, s_41, s_161, f_1_0, f_1_1, f_1_4, f_1_5, f_1_8, f_1_9, f_1_10, f_1_11, f_1_12, f_1_13, f_2_0, f_2_1, f_3_3, f_3_4, f_3_5, f_3_6, f_8_2, f_8_3, f_8_4, f_8_5, f_16_2, f_18_3, f_18_4, f_18_5, f_18_6, f_23_0, f_23_1, f_23_2, f_23_3, f_23_4, f_24_2, f_24_3, f_24_4, f_24_5, f_33_3, f_33_4, f_33_5, f_33_6, f_38_1, f_38_2, f_41_0, f_161_0, f_161_1, f_161_3, f_161_7, f_161_12, f_161_13, f_161_14, f_161_15, f_161_16, f_161_17, f_161_18, f_161_19, f_161_21, f_161_22, f_161_25, true_and, and_true, true_or, or_true, if_true, if_false, ne_eq, not_false_eq_true, and_self, t10, am_psh, am_clr, not_true_eq_false, Nat.reduceEqDiff]
      rw [k1]
    unfold prF
    cases hc : conF G (prc G p) alT 15 (con0 G) with
    | none =>
      refine ⟨K2, fun Q => ?_, fun b b1 b2 => by rw [f2 b b1 (by omega)]; exact hf b b1 b2, fun q hq => by cases hq⟩
      rw [run1, hc]
      simp only [r46_48, r46_51, r46_52, s_1, s_2, s_3, s_8, s_16, s_18, s_23, s_24, s_33, s_38, s_41, s_161, f_1_0, f_1_1, f_1_4, f_1_5, f_1_8, f_1_9, f_1_10, f_1_11, f_1_12, f_1_13, f_2_0, f_2_1, f_3_3, f_3_4, f_3_5, f_3_6, f_8_2, f_8_3, f_8_4, f_8_5, f_16_2, f_18_3, f_18_4, f_18_5, f_18_6, f_23_0, f_23_1, f_23_2, f_23_3, f_23_4, f_24_2, f_24_3, f_24_4, f_24_5, f_33_3, f_33_4, f_33_5, f_33_6, f_38_1, f_38_2, f_41_0, f_161_0, f_161_1, f_161_3, f_161_7, f_161_12, f_161_13, f_161_14, f_161_15, f_161_16, f_161_17, f_161_18, f_161_19, f_161_21, f_161_22, f_161_25, true_and, and_true, true_or, or_true, if_true, if_false, ne_eq, not_false_eq_true, and_self, t10, am_psh, am_clr, not_true_eq_false, Nat.reduceEqDiff, oB, t01]
    | some s =>
      dsimp only
      rw [hc] at k3
      obtain ⟨h1, h2⟩ := conF_ok hG 15 _ _ (cOK_0 hG) hc
      have hT : isT G (prT G s) := okR_T (recOf_ok hG h1 h2)
      have hx2 : xG K2 3 G := xG_congr (fun b b1 b2 => f2 b (by omega) (by omega)) hxK
      have hp2 : ∀ v, v < 8 → K2 39 v = nI (p v) := fun v hv => by rw [f2 39 (by omega) (by omega)]; exact hp v hv
      have hpc : ∀ a, a < gm G → K2 40 a = prc G p a := fun a ha => by rw [k2 40 (by omega)]; exact s3 a ha
      have htree : ∀ v, v < gn G → K2 (24 + 4) v = if v = gr G then -1 else nI (prT G s v) := fun v hv => (k3.2.2.2 v hv).trans (ctr_enc hG h1 h2 hv)
      have h38 : K2 38 = K 38 := f2 38 (by omega) (by omega)
      have hbd : ∀ Q, am_C (d + 4) 48 [.ref 38, .ref 3, .ref 24] (cS L) K2 J Q = Q (some (.int (prB G p s))) (cS L) K2 J := fun Q => by
        rw [e48]
        simp only [r48_0, r48_1, r48_2, r48_3, r48_6, s_1, s_2, s_3, s_8, s_16, s_18, s_23, s_24, s_33, s_38, s_41, s_161, f_1_0, f_1_1, f_1_4, f_1_5, f_1_8, f_1_9, f_1_10, f_1_11, f_1_12, f_1_13, f_2_0, f_2_1, f_3_3, f_3_4, f_3_5, f_3_6, f_8_2, f_8_3, f_8_4, f_8_5, f_16_2, f_18_3, f_18_4, f_18_5, f_18_6, f_23_0, f_23_1, f_23_2, f_23_3, f_23_4, f_24_2, f_24_3, f_24_4, f_24_5, f_33_3, f_33_4, f_33_5, f_33_6, f_38_1, f_38_2, f_41_0, f_161_0, f_161_1, f_161_3, f_161_7, f_161_12, f_161_13, f_161_14, f_161_15, f_161_16, f_161_17, f_161_18, f_161_19, f_161_21, f_161_22, f_161_25, true_and, and_true, true_or, or_true, if_true, if_false, ne_eq, not_false_eq_true, and_self, t10, am_psh, am_clr, not_true_eq_false, Nat.reduceEqDiff]
        rw [c_costBy (pr := prc G p) (t := prT G s) (shR_24 L) (Or.inr rfl) hG hx2.1.1 hT htree hpc]
        simp only [r48_9, r48_10, r48_11, s_1, s_2, s_3, s_8, s_16, s_18, s_23, s_24, s_33, s_38, s_41, s_161, f_1_0, f_1_1, f_1_4, f_1_5, f_1_8, f_1_9, f_1_10, f_1_11, f_1_12, f_1_13, f_2_0, f_2_1, f_3_3, f_3_4, f_3_5, f_3_6, f_8_2, f_8_3, f_8_4, f_8_5, f_16_2, f_18_3, f_18_4, f_18_5, f_18_6, f_23_0, f_23_1, f_23_2, f_23_3, f_23_4, f_24_2, f_24_3, f_24_4, f_24_5, f_33_3, f_33_4, f_33_5, f_33_6, f_38_1, f_38_2, f_41_0, f_161_0, f_161_1, f_161_3, f_161_7, f_161_12, f_161_13, f_161_14, f_161_15, f_161_16, f_161_17, f_161_18, f_161_19, f_161_21, f_161_22, f_161_25, true_and, and_true, true_or, or_true, if_true, if_false, ne_eq, not_false_eq_true, and_self, t10, am_psh, am_clr, not_true_eq_false, Nat.reduceEqDiff]
        exact bo_loop hG hx2 hp2 _ (gn G) 0 (by omega)
      have hb3 : ∀ (b : Int32), ∃ K3, (∀ Q, am_C (d + 4) 49 [.ref 38, .ref 3, .ref 24, .int (nI st)] (cS L) (am_up K2 38 0 b) J Q = Q none (cS L) K3 J) ∧ (∀ c, c ≠ 39 → K3 c = am_up K2 38 0 b c) ∧ ∀ v, v < 8 → K3 39 v = nI (chP G (prT G s) st p v) := fun b => by
        obtain ⟨K3, z1, z2, z3⟩ := cp_loop (d := d + 2) (L := L) (J := J) (I := am_up K2 38 0 b) (t := prT G s) (p := p) (st := st) hG (xG_congr (fun b b1 b2 => am_up_ne (by omega)) hx2) hT (fun v hv => by rw [am_up_ne (by omega)]; exact htree v hv) (fun v hv => by rw [am_up_ne (by omega)]; exact hp2 v hv) (fun v => by have := hb v; omega) hs (gn G) 0 (am_up K2 38 0 b) none (by omega) (fun _ _ => rfl) (fun v hv => by rw [if_neg (Nat.not_lt_zero v)])
        refine ⟨K3, fun Q => ?_, z2, z3⟩
        rw [e49]
        simp only [r49_0, r49_1, s_1, s_2, s_3, s_8, s_16, s_18, s_23, s_24, s_33, s_38, s_41, s_161, f_1_0, f_1_1, f_1_4, f_1_5, f_1_8, f_1_9, f_1_10, f_1_11, f_1_12, f_1_13, f_2_0, f_2_1, f_3_3, f_3_4, f_3_5, f_3_6, f_8_2, f_8_3, f_8_4, f_8_5, f_16_2, f_18_3, f_18_4, f_18_5, f_18_6, f_23_0, f_23_1, f_23_2, f_23_3, f_23_4, f_24_2, f_24_3, f_24_4, f_24_5, f_33_3, f_33_4, f_33_5, f_33_6, f_38_1, f_38_2, f_41_0, f_161_0, f_161_1, f_161_3, f_161_7, f_161_12, f_161_13, f_161_14, f_161_15, f_161_16, f_161_17, f_161_18, f_161_19, f_161_21, f_161_22, f_161_25, true_and, and_true, true_or, or_true, if_true, if_false, ne_eq, not_false_eq_true, and_self, t10, am_psh, am_clr, not_true_eq_false, Nat.reduceEqDiff]
        exact z1 Q
      have hup : am_up K2 38 0 (K2 38 0) = K2 := by
        funext b q
        unfold am_up
        by_cases e : b = 38 ∧ q = 0
        · rw [if_pos e, e.1, e.2]
        · rw [if_neg e]
      obtain ⟨K3, z1, z2, z3⟩ := hb3 (bdU j (K 38 0) (prB G p s))
      obtain ⟨I', v1, v2, v3⟩ := ih (j + 1) K3 (chP G (prT G s) st p) (some (.int (prB G p s))) (by omega) (fun b b1 b2 => by rw [z2 b (by omega), am_up_ne (by omega), f2 b b1 (by omega)]; exact hf b b1 b2) z3 (fun v => chP_le hb hs v)
      have e38 : K3 38 0 = bdU j (K 38 0) (prB G p s) := by rw [z2 38 (by omega), up_self]
      rw [e38] at v1 v3
      refine ⟨I', fun Q => ?_, v2, v3⟩
      rw [run1, hc]
      simp only [r46_48, r46_51, r46_52, r46_53, r46_54, r46_55, r46_56, r46_59, s_1, s_2, s_3, s_8, s_16, s_18, s_23, s_24, s_33, s_38, s_41, s_161, f_1_0, f_1_1, f_1_4, f_1_5, f_1_8, f_1_9, f_1_10, f_1_11, f_1_12, f_1_13, f_2_0, f_2_1, f_3_3, f_3_4, f_3_5, f_3_6, f_8_2, f_8_3, f_8_4, f_8_5, f_16_2, f_18_3, f_18_4, f_18_5, f_18_6, f_23_0, f_23_1, f_23_2, f_23_3, f_23_4, f_24_2, f_24_3, f_24_4, f_24_5, f_33_3, f_33_4, f_33_5, f_33_6, f_38_1, f_38_2, f_41_0, f_161_0, f_161_1, f_161_3, f_161_7, f_161_12, f_161_13, f_161_14, f_161_15, f_161_16, f_161_17, f_161_18, f_161_19, f_161_21, f_161_22, f_161_25, true_and, and_true, true_or, or_true, if_true, if_false, ne_eq, not_false_eq_true, and_self, t10, am_psh, am_clr, not_true_eq_false, Nat.reduceEqDiff, oB]
      rw [hbd]
      simp only [r46_62, r46_64, r46_66, r46_69, r46_71, r46_72, r46_75, r46_78, r46_79, r46_81, r46_84, r46_85, r46_86, r46_87, r46_90, r46_92, s_1, s_2, s_3, s_8, s_16, s_18, s_23, s_24, s_33, s_38, s_41, s_161, f_1_0, f_1_1, f_1_4, f_1_5, f_1_8, f_1_9, f_1_10, f_1_11, f_1_12, f_1_13, f_2_0, f_2_1, f_3_3, f_3_4, f_3_5, f_3_6, f_8_2, f_8_3, f_8_4, f_8_5, f_16_2, f_18_3, f_18_4, f_18_5, f_18_6, f_23_0, f_23_1, f_23_2, f_23_3, f_23_4, f_24_2, f_24_3, f_24_4, f_24_5, f_33_3, f_33_4, f_33_5, f_33_6, f_38_1, f_38_2, f_41_0, f_161_0, f_161_1, f_161_3, f_161_7, f_161_12, f_161_13, f_161_14, f_161_15, f_161_16, f_161_17, f_161_18, f_161_19, f_161_21, f_161_22, f_161_25, true_and, and_true, true_or, or_true, if_true, if_false, ne_eq, not_false_eq_true, and_self, t10, am_psh, am_clr, not_true_eq_false, Nat.reduceEqDiff, h38]
      have fin : ∀ Q, am_T (d + 4) 46 95 [some (.ref 38), some (.ref 3), some (.ref 23), some (.int (nI m)), some (.int (nI st)), some (.int (nI j)), some (.int (prB G p s))] [] (cS L) K3 J Q = Q (some (.int (oB (prF G st n (j + 1) (bdU j (K 38 0) (prB G p s)) (chP G (prT G s) st p))))) (cS L) I' J := fun Q => by
        simp only [r46_95, r46_98, s_1, s_2, s_3, s_8, s_16, s_18, s_23, s_24, s_33, s_38, s_41, s_161, f_1_0, f_1_1, f_1_4, f_1_5, f_1_8, f_1_9, f_1_10, f_1_11, f_1_12, f_1_13, f_2_0, f_2_1, f_3_3, f_3_4, f_3_5, f_3_6, f_8_2, f_8_3, f_8_4, f_8_5, f_16_2, f_18_3, f_18_4, f_18_5, f_18_6, f_23_0, f_23_1, f_23_2, f_23_3, f_23_4, f_24_2, f_24_3, f_24_4, f_24_5, f_33_3, f_33_4, f_33_5, f_33_6, f_38_1, f_38_2, f_41_0, f_161_0, f_161_1, f_161_3, f_161_7, f_161_12, f_161_13, f_161_14, f_161_15, f_161_16, f_161_17, f_161_18, f_161_19, f_161_21, f_161_22, f_161_25, true_and, and_true, true_or, or_true, if_true, if_false, ne_eq, not_false_eq_true, and_self, t10, am_psh, am_clr, not_true_eq_false, Nat.reduceEqDiff, nI_1]
        exact v1 Q
      unfold bdU at z1
      by_cases e0 : j = 0
      · rw [if_pos (show nI j = 0 by rw [e0]; rfl)]
        rw [if_pos (Or.inl e0)] at z1
        rw [z1]
        exact fin Q
      · rw [if_neg (show ¬ nI j = 0 from nI_ne0 (by omega) (by omega))]
        by_cases e1 : K 38 0 < prB G p s
        · rw [if_neg (Int32.not_le.mpr e1)]
          rw [if_pos (Or.inr e1)] at z1
          rw [z1]
          exact fin Q
        · rw [if_pos (Int32.not_lt.mp e1)]
          rw [if_neg (fun q => by rcases q with q | q; exact e0 q; exact e1 q), ← h38, hup] at z1
          rw [z1]
          exact fin Q
/-- play, whole -/
theorem c_play {m : Nat} (hG : okG G) (hs : st ≤ 20) (hm : m ≤ 20) (hx : xG I 3 G) : ∃ I', (∀ Q, am_C (d + 5) 46 [.ref 38, .ref 3, .ref 23, .int (nI m), .int (nI st)] (cS L) I J Q = Q (some (.int (oB (prF G st m 0 (I 38 0) (fun _ => 0))))) (cS L) I' J) ∧ (∀ b, ¬ (24 ≤ b ∧ b ≤ 32) → ¬ (38 ≤ b ∧ b ≤ 40) → I' b = I b) ∧ ∀ q, prF G st m 0 (I 38 0) (fun _ => 0) = some q → I' 38 0 = q.1 ∧ ∀ v, v < 8 → I' 39 v = nI (q.2 v) := by
  obtain ⟨I1, k1, k2, k3⟩ := play_0 (d := d + 4) (L := L) (J := J) (I := I) (x3 := nI m) (x4 := nI st) 8 0 I none (by omega) (fun _ _ => rfl) (fun v hv => absurd hv (Nat.not_lt_zero v))
  obtain ⟨I', q1, q2, q3⟩ := play_loop (d := d) (L := L) (J := J) (I := I) (m := m) (st := st) hG hs hm hx m 0 I1 (fun _ => 0) none (by omega) (fun b b1 b2 => k2 b (by omega)) (fun v hv => k3 v hv) (fun v => by omega)
  rw [k2 38 (by omega)] at q1 q3
  refine ⟨I', fun Q => ?_, q2, q3⟩
  rw [e46]
  simp only [r46_0, r46_1, s_1, s_2, s_3, s_8, s_16, s_18, s_23, s_24, s_33, s_38, s_41, s_161, f_1_0, f_1_1, f_1_4, f_1_5, f_1_8, f_1_9, f_1_10, f_1_11, f_1_12, f_1_13, f_2_0, f_2_1, f_3_3, f_3_4, f_3_5, f_3_6, f_8_2, f_8_3, f_8_4, f_8_5, f_16_2, f_18_3, f_18_4, f_18_5, f_18_6, f_23_0, f_23_1, f_23_2, f_23_3, f_23_4, f_24_2, f_24_3, f_24_4, f_24_5, f_33_3, f_33_4, f_33_5, f_33_6, f_38_1, f_38_2, f_41_0, f_161_0, f_161_1, f_161_3, f_161_7, f_161_12, f_161_13, f_161_14, f_161_15, f_161_16, f_161_17, f_161_18, f_161_19, f_161_21, f_161_22, f_161_25, true_and, and_true, true_or, or_true, if_true, if_false, ne_eq, not_false_eq_true, and_self, t10, am_psh, am_clr, not_true_eq_false, Nat.reduceEqDiff]
  refine Eq.trans (k1 Q) ?_
  simp only [r46_24, r46_25, s_1, s_2, s_3, s_8, s_16, s_18, s_23, s_24, s_33, s_38, s_41, s_161, f_1_0, f_1_1, f_1_4, f_1_5, f_1_8, f_1_9, f_1_10, f_1_11, f_1_12, f_1_13, f_2_0, f_2_1, f_3_3, f_3_4, f_3_5, f_3_6, f_8_2, f_8_3, f_8_4, f_8_5, f_16_2, f_18_3, f_18_4, f_18_5, f_18_6, f_23_0, f_23_1, f_23_2, f_23_3, f_23_4, f_24_2, f_24_3, f_24_4, f_24_5, f_33_3, f_33_4, f_33_5, f_33_6, f_38_1, f_38_2, f_41_0, f_161_0, f_161_1, f_161_3, f_161_7, f_161_12, f_161_13, f_161_14, f_161_15, f_161_16, f_161_17, f_161_18, f_161_19, f_161_21, f_161_22, f_161_25, true_and, and_true, true_or, or_true, if_true, if_false, ne_eq, not_false_eq_true, and_self, t10, am_psh, am_clr, not_true_eq_false, Nat.reduceEqDiff]
  exact q1 Q
end PR
