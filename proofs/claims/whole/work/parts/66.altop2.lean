/-! secondBest, necessary -/
def sbP (G : Gr) (R : Rc) (j : Nat) : Bool := decide (inTr G R j) && decide (amo G (alW j) ≠ -107)
def sbR (G : Gr) (j : Nat) : Int32 := amo G (alW j)
def lsM (r : Nat → Int32) (b : Option Nat) : Int32 := match b with
  | none => -107
  | some x => r x
def ncP (G : Gr) (R : Rc) (j : Nat) : Bool := decide (inTr G R j) && decide (amo G (alW j) = -107 ∨ tcost G (coG G) (rt R) < amo G (alW j))
def ncF (P : Nat → Bool) (k : Nat) : Nat → Nat → Nat → Option Nat
  | 0, _, _ => none
  | n + 1, j, c => if P j = true then (if c = k then some j else ncF P k n (j + 1) (c + 1)) else ncF P k n (j + 1) c
section SB
variable {d L : Nat} {I I1 I2 I' : am_I} {J J' : am_J} {Q : am_Q} {G : Gr} {R : Rc} {o o' : Option Rc}
theorem xR_congr {K : am_I} (h1 : ∀ b, 8 ≤ b → b ≤ 12 → K b = I b) (h : xR I 8 G R) : xR K 8 G R := by
  obtain ⟨x1, x2, x3⟩ := h
  refine ⟨by rw [h1 8 (by omega) (by omega)]; exact x1, fun g hg => ?_, fun v hv => by rw [h1 (8 + 4) (by omega) (by omega)]; exact x3 v hv⟩
  rw [h1 (8 + 1) (by omega) (by omega), h1 (8 + 2) (by omega) (by omega), h1 (8 + 3) (by omega) (by omega)]; exact x2 g hg
theorem sb_loop {x1 : Int32} (hG : okG G) (hR : okR G R) (hx : xG I 3 G) (hr : xR I 8 G R) : ∀ (n j : Nat) (K : am_I) (b : Option Nat) (l5 : Option Value), j + n = gm G → (∀ b, (b < 24 ∨ 32 < b) → K b = I b) → (∀ y, b = some y → y < gm G) → ∃ I' l5', (∀ Q, am_T (d + 6) 87 29 [some (.ref 1), some (.int x1), some (.int (enc (-1) b)), some (.int (lsV (sbR G) b)), some (.int (nI j)), l5] [] (cS L) K J Q = am_T (d + 6) 87 104 [some (.ref 1), some (.int x1), some (.int (enc (-1) (selF (sbP G R) (sbR G) n j b))), some (.int (lsV (sbR G) (selF (sbP G R) (sbR G) n j b))), some (.int (nI (gm G))), l5'] [] (cS L) I' J Q) ∧ ∀ b, (b < 24 ∨ 32 < b) → I' b = I b := by
  have hm32 := hG.1.2.2.2
  intro n
  induction n with
  | zero =>
    intro j K b l5 hj hf hb
    have : j = gm G := by omega
    subst this
    refine ⟨K, l5, fun Q => ?_, hf⟩
    rw [r87_29]
    simp only [r87_31, r87_32, r87_35, r87_38, r87_41, s_1, s_2, s_3, s_8, s_16, s_18, s_23, s_24, s_33, s_38, s_41, s_161, f_1_0, f_1_1, f_1_4, f_1_5, f_1_8, f_1_9, f_1_10, f_1_11, f_1_12, f_1_13, f_2_0, f_2_1, f_3_3, f_3_4, f_3_5, f_3_6, f_8_2, f_8_3, f_8_4, f_8_5, f_16_2, f_18_3, f_18_4, f_18_5, f_18_6, f_23_0, f_23_1, f_23_2, f_23_3, f_23_4, f_24_2, f_24_3, f_24_4, f_24_5, f_33_3, f_33_4, f_33_5, f_33_6, f_38_1, f_38_2, f_41_0, f_161_0, f_161_1, f_161_3, f_161_7, f_161_12, f_161_13, f_161_14, f_161_15, f_161_16, f_161_17, f_161_18, f_161_19, f_161_21, f_161_22, f_161_25, true_and, and_true, true_or, or_true, if_true, if_false, ne_eq, not_false_eq_true, and_self, t10, am_psh, am_clr, not_true_eq_false, Nat.reduceEqDiff, hf 3 (by omega), hx.1.2.2]
    rw [if_pos (Int32.le_refl _)]
    rfl
  | succ n ih =>
    intro j K b l5 hj hf hb
    have hjm : j < gm G := by omega
    have hxK : xG K 3 G := xG_congr (fun b b1 b2 => hf b (by omega)) hx
    have hrK : xR K 8 G R := xR_congr (fun b b1 b2 => hf b (by omega)) hr
    have run1 : ∀ Q, am_T (d + 6) 87 29 [some (.ref 1), some (.int x1), some (.int (enc (-1) b)), some (.int (lsV (sbR G) b)), some (.int (nI j)), l5] [] (cS L) K J Q = am_T (d + 6) 87 63 [some (.ref 1), some (.int x1), some (.int (enc (-1) b)), some (.int (lsV (sbR G) b)), some (.int (nI j)), l5] [.int (b32 (inTr G R j))] (cS L) K J Q := fun Q => by
      rw [r87_29]
      simp only [r87_31, r87_32, r87_35, r87_38, r87_41, r87_44, r87_45, r87_48, r87_51, r87_52, r87_55, r87_58, r87_60, s_1, s_2, s_3, s_8, s_16, s_18, s_23, s_24, s_33, s_38, s_41, s_161, f_1_0, f_1_1, f_1_4, f_1_5, f_1_8, f_1_9, f_1_10, f_1_11, f_1_12, f_1_13, f_2_0, f_2_1, f_3_3, f_3_4, f_3_5, f_3_6, f_8_2, f_8_3, f_8_4, f_8_5, f_16_2, f_18_3, f_18_4, f_18_5, f_18_6, f_23_0, f_23_1, f_23_2, f_23_3, f_23_4, f_24_2, f_24_3, f_24_4, f_24_5, f_33_3, f_33_4, f_33_5, f_33_6, f_38_1, f_38_2, f_41_0, f_161_0, f_161_1, f_161_3, f_161_7, f_161_12, f_161_13, f_161_14, f_161_15, f_161_16, f_161_17, f_161_18, f_161_19, f_161_21, f_161_22, f_161_25, true_and, and_true, true_or, or_true, if_true, if_false, ne_eq, not_false_eq_true, and_self, t10, am_psh, am_clr, not_true_eq_false, Nat.reduceEqDiff, hf 3 (by omega), hx.1.2.2]
      rw [if_neg (nI_ge hjm (by omega)), c_contains hG hR hxK hrK hjm]
    show ∃ I' l5', (∀ Q, _ = am_T (d + 6) 87 104 [some (.ref 1), some (.int x1), some (.int (enc (-1) (selF (sbP G R) (sbR G) n (j + 1) (if sbP G R j = true ∧ selB (sbR G) j b = true then some j else b)))), some (.int (lsV (sbR G) (selF (sbP G R) (sbR G) n (j + 1) (if sbP G R j = true ∧ selB (sbR G) j b = true then some j else b)))), some (.int (nI (gm G))), l5'] [] (cS L) I' J Q) ∧ _
    have keyP : sbP G R j = true ↔ inTr G R j ∧ amo G (alW j) ≠ -107 := by unfold sbP; rw [Bool.and_eq_true, decide_eq_true_eq, decide_eq_true_eq]
    by_cases e1 : inTr G R j
    · obtain ⟨K1, q1, q2⟩ := c_cwo (d := d) (L := L) (J := J) (I := K) hG hxK hjm
      have hf1 : ∀ b, (b < 24 ∨ 32 < b) → K1 b = I b := fun b hb => by rw [q2 b hb]; exact hf b hb
      have run2 : ∀ Q, am_T (d + 6) 87 63 [some (.ref 1), some (.int x1), some (.int (enc (-1) b)), some (.int (lsV (sbR G) b)), some (.int (nI j)), l5] [.int (b32 (inTr G R j))] (cS L) K J Q = am_T (d + 6) 87 74 [some (.ref 1), some (.int x1), some (.int (enc (-1) b)), some (.int (lsV (sbR G) b)), some (.int (nI j)), some (.int (amo G (alW j)))] [] (cS L) K1 J Q := fun Q => by
        rw [b32_T e1]
        simp only [r87_63, r87_66, r87_67, r87_69, s_1, s_2, s_3, s_8, s_16, s_18, s_23, s_24, s_33, s_38, s_41, s_161, f_1_0, f_1_1, f_1_4, f_1_5, f_1_8, f_1_9, f_1_10, f_1_11, f_1_12, f_1_13, f_2_0, f_2_1, f_3_3, f_3_4, f_3_5, f_3_6, f_8_2, f_8_3, f_8_4, f_8_5, f_16_2, f_18_3, f_18_4, f_18_5, f_18_6, f_23_0, f_23_1, f_23_2, f_23_3, f_23_4, f_24_2, f_24_3, f_24_4, f_24_5, f_33_3, f_33_4, f_33_5, f_33_6, f_38_1, f_38_2, f_41_0, f_161_0, f_161_1, f_161_3, f_161_7, f_161_12, f_161_13, f_161_14, f_161_15, f_161_16, f_161_17, f_161_18, f_161_19, f_161_21, f_161_22, f_161_25, true_and, and_true, true_or, or_true, if_true, if_false, ne_eq, not_false_eq_true, and_self, t10, am_psh, am_clr, not_true_eq_false, Nat.reduceEqDiff]
        rw [q1]; simp only [r87_72, s_1, s_2, s_3, s_8, s_16, s_18, s_23, s_24, s_33, s_38, s_41, s_161, f_1_0, f_1_1, f_1_4, f_1_5, f_1_8, f_1_9, f_1_10, f_1_11, f_1_12, f_1_13, f_2_0, f_2_1, f_3_3, f_3_4, f_3_5, f_3_6, f_8_2, f_8_3, f_8_4, f_8_5, f_16_2, f_18_3, f_18_4, f_18_5, f_18_6, f_23_0, f_23_1, f_23_2, f_23_3, f_23_4, f_24_2, f_24_3, f_24_4, f_24_5, f_33_3, f_33_4, f_33_5, f_33_6, f_38_1, f_38_2, f_41_0, f_161_0, f_161_1, f_161_3, f_161_7, f_161_12, f_161_13, f_161_14, f_161_15, f_161_16, f_161_17, f_161_18, f_161_19, f_161_21, f_161_22, f_161_25, true_and, and_true, true_or, or_true, if_true, if_false, ne_eq, not_false_eq_true, and_self, t10, am_psh, am_clr, not_true_eq_false, Nat.reduceEqDiff]
      by_cases e2 : amo G (alW j) = -107
      · rw [if_neg (fun q => (keyP.mp q.1).2 e2)]
        obtain ⟨I', l5', h, h2⟩ := ih (j + 1) K1 b (some (.int (amo G (alW j)))) (by omega) hf1 hb
        refine ⟨I', l5', fun Q => ?_, h2⟩
        rw [run1, run2]
        simp only [r87_74, r87_76, r87_78, r87_98, r87_101, s_1, s_2, s_3, s_8, s_16, s_18, s_23, s_24, s_33, s_38, s_41, s_161, f_1_0, f_1_1, f_1_4, f_1_5, f_1_8, f_1_9, f_1_10, f_1_11, f_1_12, f_1_13, f_2_0, f_2_1, f_3_3, f_3_4, f_3_5, f_3_6, f_8_2, f_8_3, f_8_4, f_8_5, f_16_2, f_18_3, f_18_4, f_18_5, f_18_6, f_23_0, f_23_1, f_23_2, f_23_3, f_23_4, f_24_2, f_24_3, f_24_4, f_24_5, f_33_3, f_33_4, f_33_5, f_33_6, f_38_1, f_38_2, f_41_0, f_161_0, f_161_1, f_161_3, f_161_7, f_161_12, f_161_13, f_161_14, f_161_15, f_161_16, f_161_17, f_161_18, f_161_19, f_161_21, f_161_22, f_161_25, true_and, and_true, true_or, or_true, if_true, if_false, ne_eq, not_false_eq_true, and_self, t10, am_psh, am_clr, not_true_eq_false, Nat.reduceEqDiff, nI_1]
        rw [if_pos e2]
        exact h Q
      · cases b with
        | none =>
          rw [if_pos ⟨keyP.mpr ⟨e1, e2⟩, rfl⟩]
          obtain ⟨I', l5', h, h2⟩ := ih (j + 1) K1 (some j) (some (.int (amo G (alW j)))) (by omega) hf1 (fun y hy => by cases hy; exact hjm)
          refine ⟨I', l5', fun Q => ?_, h2⟩
          rw [run1, run2]
          simp only [r87_74, r87_76, r87_78, r87_81, r87_82, r87_83, r87_86, r87_88, r87_89, r87_92, r87_94, r87_95, r87_97, r87_98, r87_101, s_1, s_2, s_3, s_8, s_16, s_18, s_23, s_24, s_33, s_38, s_41, s_161, f_1_0, f_1_1, f_1_4, f_1_5, f_1_8, f_1_9, f_1_10, f_1_11, f_1_12, f_1_13, f_2_0, f_2_1, f_3_3, f_3_4, f_3_5, f_3_6, f_8_2, f_8_3, f_8_4, f_8_5, f_16_2, f_18_3, f_18_4, f_18_5, f_18_6, f_23_0, f_23_1, f_23_2, f_23_3, f_23_4, f_24_2, f_24_3, f_24_4, f_24_5, f_33_3, f_33_4, f_33_5, f_33_6, f_38_1, f_38_2, f_41_0, f_161_0, f_161_1, f_161_3, f_161_7, f_161_12, f_161_13, f_161_14, f_161_15, f_161_16, f_161_17, f_161_18, f_161_19, f_161_21, f_161_22, f_161_25, true_and, and_true, true_or, or_true, if_true, if_false, ne_eq, not_false_eq_true, and_self, t10, am_psh, am_clr, not_true_eq_false, Nat.reduceEqDiff, show enc (-1) none = -1 from rfl, nI_1]
          rw [if_neg e2]
          exact h Q
        | some y =>
          have hy := hb y rfl
          by_cases e3 : amo G (alW j) < amo G (alW y)
          · rw [if_pos ⟨keyP.mpr ⟨e1, e2⟩, decide_eq_true e3⟩]
            obtain ⟨I', l5', h, h2⟩ := ih (j + 1) K1 (some j) (some (.int (amo G (alW j)))) (by omega) hf1 (fun y hy => by cases hy; exact hjm)
            refine ⟨I', l5', fun Q => ?_, h2⟩
            rw [run1, run2]
            simp only [r87_74, r87_76, r87_78, r87_81, r87_82, r87_83, r87_86, r87_88, r87_89, r87_92, r87_94, r87_95, r87_97, r87_98, r87_101, s_1, s_2, s_3, s_8, s_16, s_18, s_23, s_24, s_33, s_38, s_41, s_161, f_1_0, f_1_1, f_1_4, f_1_5, f_1_8, f_1_9, f_1_10, f_1_11, f_1_12, f_1_13, f_2_0, f_2_1, f_3_3, f_3_4, f_3_5, f_3_6, f_8_2, f_8_3, f_8_4, f_8_5, f_16_2, f_18_3, f_18_4, f_18_5, f_18_6, f_23_0, f_23_1, f_23_2, f_23_3, f_23_4, f_24_2, f_24_3, f_24_4, f_24_5, f_33_3, f_33_4, f_33_5, f_33_6, f_38_1, f_38_2, f_41_0, f_161_0, f_161_1, f_161_3, f_161_7, f_161_12, f_161_13, f_161_14, f_161_15, f_161_16, f_161_17, f_161_18, f_161_19, f_161_21, f_161_22, f_161_25, true_and, and_true, true_or, or_true, if_true, if_false, ne_eq, not_false_eq_true, and_self, t10, am_psh, am_clr, not_true_eq_false, Nat.reduceEqDiff, show enc (-1) (some y) = nI y from rfl, show lsV (sbR G) (some y) = amo G (alW y) from rfl, n_ne_m1 (show y < 2 ^ 31 by omega), nI_1]
            rw [if_neg e2, if_neg (Int32.not_le.mpr e3)]
            exact h Q
          · rw [if_neg (fun q => e3 (of_decide_eq_true q.2))]
            obtain ⟨I', l5', h, h2⟩ := ih (j + 1) K1 (some y) (some (.int (amo G (alW j)))) (by omega) hf1 hb
            refine ⟨I', l5', fun Q => ?_, h2⟩
            rw [run1, run2]
            simp only [r87_74, r87_76, r87_78, r87_81, r87_82, r87_83, r87_86, r87_88, r87_89, r87_92, r87_94, r87_95, r87_97, r87_98, r87_101, s_1, s_2, s_3, s_8, s_16, s_18, s_23, s_24, s_33, s_38, s_41, s_161, f_1_0, f_1_1, f_1_4, f_1_5, f_1_8, f_1_9, f_1_10, f_1_11, f_1_12, f_1_13, f_2_0, f_2_1, f_3_3, f_3_4, f_3_5, f_3_6, f_8_2, f_8_3, f_8_4, f_8_5, f_16_2, f_18_3, f_18_4, f_18_5, f_18_6, f_23_0, f_23_1, f_23_2, f_23_3, f_23_4, f_24_2, f_24_3, f_24_4, f_24_5, f_33_3, f_33_4, f_33_5, f_33_6, f_38_1, f_38_2, f_41_0, f_161_0, f_161_1, f_161_3, f_161_7, f_161_12, f_161_13, f_161_14, f_161_15, f_161_16, f_161_17, f_161_18, f_161_19, f_161_21, f_161_22, f_161_25, true_and, and_true, true_or, or_true, if_true, if_false, ne_eq, not_false_eq_true, and_self, t10, am_psh, am_clr, not_true_eq_false, Nat.reduceEqDiff, show enc (-1) (some y) = nI y from rfl, show lsV (sbR G) (some y) = amo G (alW y) from rfl, n_ne_m1 (show y < 2 ^ 31 by omega), nI_1]
            rw [if_neg e2, if_pos (Int32.not_lt.mp e3)]
            exact h Q
    · rw [if_neg (fun q => e1 (keyP.mp q.1).1)]
      obtain ⟨I', l5', h, h2⟩ := ih (j + 1) K b l5 (by omega) hf hb
      refine ⟨I', l5', fun Q => ?_, h2⟩
      rw [run1, b32_F e1]
      simp only [r87_63, r87_98, r87_101, s_1, s_2, s_3, s_8, s_16, s_18, s_23, s_24, s_33, s_38, s_41, s_161, f_1_0, f_1_1, f_1_4, f_1_5, f_1_8, f_1_9, f_1_10, f_1_11, f_1_12, f_1_13, f_2_0, f_2_1, f_3_3, f_3_4, f_3_5, f_3_6, f_8_2, f_8_3, f_8_4, f_8_5, f_16_2, f_18_3, f_18_4, f_18_5, f_18_6, f_23_0, f_23_1, f_23_2, f_23_3, f_23_4, f_24_2, f_24_3, f_24_4, f_24_5, f_33_3, f_33_4, f_33_5, f_33_6, f_38_1, f_38_2, f_41_0, f_161_0, f_161_1, f_161_3, f_161_7, f_161_12, f_161_13, f_161_14, f_161_15, f_161_16, f_161_17, f_161_18, f_161_19, f_161_21, f_161_22, f_161_25, true_and, and_true, true_or, or_true, if_true, if_false, ne_eq, not_false_eq_true, and_self, t10, am_psh, am_clr, not_true_eq_false, Nat.reduceEqDiff, nI_1]
      exact h Q
theorem sbm_loop {x1 : Int32} (hG : okG G) (hR : okR G R) (hx : mG (I 162) G) (hr : mR (I 162) G R) : ∀ (n j : Nat) (K : am_I) (b : Option Nat) (l5 : Option Value), j + n = gm G → (∀ b, b ≠ 161 → (b < 167 ∨ 173 < b) → K b = I b) → (∀ j, j ≠ 20 → K 161 j = I 161 j) → (∀ y, b = some y → y < gm G) → ∃ I' l5', (∀ Q, am_T (d + 5) 169 31 [some (.ref 161), some (.int x1), some (.int (enc (-107) b)), some (.int (lsM (sbR G) b)), some (.int (nI j)), l5] [] (cS L) K J Q = am_T (d + 5) 169 95 [some (.ref 161), some (.int x1), some (.int (enc (-107) (selF (sbP G R) (sbR G) n j b))), some (.int (lsM (sbR G) (selF (sbP G R) (sbR G) n j b))), some (.int (nI (gm G))), l5'] [] (cS L) I' J Q) ∧ (∀ b, b ≠ 161 → (b < 167 ∨ 173 < b) → I' b = I b) ∧ ∀ j, j ≠ 20 → I' 161 j = I 161 j := by
  have hm32 := hG.1.2.2.2
  have y2 : am_ix (cS L) 162 20 2 := mx 2 (by omega)
  intro n
  induction n with
  | zero =>
    intro j K b l5 hj hf hf1 hb
    have : j = gm G := by omega
    subst this
    refine ⟨K, l5, fun Q => ?_, hf, hf1⟩
    rw [r169_31]
    simp only [r169_33, r169_34, r169_37, r169_38, r169_39, s_1, s_2, s_3, s_8, s_16, s_18, s_23, s_24, s_33, s_38, s_41, s_161, f_1_0, f_1_1, f_1_4, f_1_5, f_1_8, f_1_9, f_1_10, f_1_11, f_1_12, f_1_13, f_2_0, f_2_1, f_3_3, f_3_4, f_3_5, f_3_6, f_8_2, f_8_3, f_8_4, f_8_5, f_16_2, f_18_3, f_18_4, f_18_5, f_18_6, f_23_0, f_23_1, f_23_2, f_23_3, f_23_4, f_24_2, f_24_3, f_24_4, f_24_5, f_33_3, f_33_4, f_33_5, f_33_6, f_38_1, f_38_2, f_41_0, f_161_0, f_161_1, f_161_3, f_161_7, f_161_12, f_161_13, f_161_14, f_161_15, f_161_16, f_161_17, f_161_18, f_161_19, f_161_21, f_161_22, f_161_25, true_and, and_true, true_or, or_true, if_true, if_false, ne_eq, not_false_eq_true, and_self, t10, am_psh, am_clr, not_true_eq_false, Nat.reduceEqDiff, y2, show (2 : Int32).toNatClampNeg = 2 from by decide, hf 162 (by omega) (by omega), hx.1.2.2]
    rw [if_pos (Int32.le_refl _)]
    rfl
  | succ n ih =>
    intro j K b l5 hj hf hf1 hb
    have hjm : j < gm G := by omega
    have e162 : K 162 = I 162 := hf 162 (by omega) (by omega)
    have run1 : ∀ Q, am_T (d + 5) 169 31 [some (.ref 161), some (.int x1), some (.int (enc (-107) b)), some (.int (lsM (sbR G) b)), some (.int (nI j)), l5] [] (cS L) K J Q = am_T (d + 5) 169 48 [some (.ref 161), some (.int x1), some (.int (enc (-107) b)), some (.int (lsM (sbR G) b)), some (.int (nI j)), l5] [.int (b32 (inTr G R j))] (cS L) K J Q := fun Q => by
      rw [r169_31]
      simp only [r169_33, r169_34, r169_37, r169_38, r169_39, r169_42, r169_43, r169_45, s_1, s_2, s_3, s_8, s_16, s_18, s_23, s_24, s_33, s_38, s_41, s_161, f_1_0, f_1_1, f_1_4, f_1_5, f_1_8, f_1_9, f_1_10, f_1_11, f_1_12, f_1_13, f_2_0, f_2_1, f_3_3, f_3_4, f_3_5, f_3_6, f_8_2, f_8_3, f_8_4, f_8_5, f_16_2, f_18_3, f_18_4, f_18_5, f_18_6, f_23_0, f_23_1, f_23_2, f_23_3, f_23_4, f_24_2, f_24_3, f_24_4, f_24_5, f_33_3, f_33_4, f_33_5, f_33_6, f_38_1, f_38_2, f_41_0, f_161_0, f_161_1, f_161_3, f_161_7, f_161_12, f_161_13, f_161_14, f_161_15, f_161_16, f_161_17, f_161_18, f_161_19, f_161_21, f_161_22, f_161_25, true_and, and_true, true_or, or_true, if_true, if_false, ne_eq, not_false_eq_true, and_self, t10, am_psh, am_clr, not_true_eq_false, Nat.reduceEqDiff, y2, show (2 : Int32).toNatClampNeg = 2 from by decide, hf 162 (by omega) (by omega), hx.1.2.2]
      rw [if_neg (nI_ge hjm (by omega)), mR_in hG hR (by rw [e162]; exact hx) (by rw [e162]; exact hr) hjm]
    show ∃ I' l5', (∀ Q, _ = am_T (d + 5) 169 95 [some (.ref 161), some (.int x1), some (.int (enc (-107) (selF (sbP G R) (sbR G) n (j + 1) (if sbP G R j = true ∧ selB (sbR G) j b = true then some j else b)))), some (.int (lsM (sbR G) (selF (sbP G R) (sbR G) n (j + 1) (if sbP G R j = true ∧ selB (sbR G) j b = true then some j else b)))), some (.int (nI (gm G))), l5'] [] (cS L) I' J Q) ∧ _
    have keyP : sbP G R j = true ↔ inTr G R j ∧ amo G (alW j) ≠ -107 := by unfold sbP; rw [Bool.and_eq_true, decide_eq_true_eq, decide_eq_true_eq]
    by_cases e1 : inTr G R j
    · obtain ⟨K1, q1, q2, q3⟩ := c_mwo (d := d) (L := L) (J := J) (I := K) hG (by rw [e162]; exact hx) hjm
      have hf2 : ∀ b, b ≠ 161 → (b < 167 ∨ 173 < b) → K1 b = I b := fun b b1 hb => by rw [q2 b b1 hb]; exact hf b b1 hb
      have hf3 : ∀ j, j ≠ 20 → K1 161 j = I 161 j := fun j hj => by rw [q3 j hj]; exact hf1 j hj
      have run2 : ∀ Q, am_T (d + 5) 169 48 [some (.ref 161), some (.int x1), some (.int (enc (-107) b)), some (.int (lsM (sbR G) b)), some (.int (nI j)), l5] [.int (b32 (inTr G R j))] (cS L) K J Q = am_T (d + 5) 169 64 [some (.ref 161), some (.int x1), some (.int (enc (-107) b)), some (.int (lsM (sbR G) b)), some (.int (nI j)), some (.int (amo G (alW j)))] [] (cS L) K1 J Q := fun Q => by
        rw [b32_T e1]
        simp only [r169_48, r169_51, r169_52, r169_54, s_1, s_2, s_3, s_8, s_16, s_18, s_23, s_24, s_33, s_38, s_41, s_161, f_1_0, f_1_1, f_1_4, f_1_5, f_1_8, f_1_9, f_1_10, f_1_11, f_1_12, f_1_13, f_2_0, f_2_1, f_3_3, f_3_4, f_3_5, f_3_6, f_8_2, f_8_3, f_8_4, f_8_5, f_16_2, f_18_3, f_18_4, f_18_5, f_18_6, f_23_0, f_23_1, f_23_2, f_23_3, f_23_4, f_24_2, f_24_3, f_24_4, f_24_5, f_33_3, f_33_4, f_33_5, f_33_6, f_38_1, f_38_2, f_41_0, f_161_0, f_161_1, f_161_3, f_161_7, f_161_12, f_161_13, f_161_14, f_161_15, f_161_16, f_161_17, f_161_18, f_161_19, f_161_21, f_161_22, f_161_25, true_and, and_true, true_or, or_true, if_true, if_false, ne_eq, not_false_eq_true, and_self, t10, am_psh, am_clr, not_true_eq_false, Nat.reduceEqDiff]
        rw [q1]; simp only [r169_57, r169_60, r169_62, s_1, s_2, s_3, s_8, s_16, s_18, s_23, s_24, s_33, s_38, s_41, s_161, f_1_0, f_1_1, f_1_4, f_1_5, f_1_8, f_1_9, f_1_10, f_1_11, f_1_12, f_1_13, f_2_0, f_2_1, f_3_3, f_3_4, f_3_5, f_3_6, f_8_2, f_8_3, f_8_4, f_8_5, f_16_2, f_18_3, f_18_4, f_18_5, f_18_6, f_23_0, f_23_1, f_23_2, f_23_3, f_23_4, f_24_2, f_24_3, f_24_4, f_24_5, f_33_3, f_33_4, f_33_5, f_33_6, f_38_1, f_38_2, f_41_0, f_161_0, f_161_1, f_161_3, f_161_7, f_161_12, f_161_13, f_161_14, f_161_15, f_161_16, f_161_17, f_161_18, f_161_19, f_161_21, f_161_22, f_161_25, true_and, and_true, true_or, or_true, if_true, if_false, ne_eq, not_false_eq_true, and_self, t10, am_psh, am_clr, not_true_eq_false, Nat.reduceEqDiff]
      by_cases e2 : amo G (alW j) = -107
      · rw [if_neg (fun q => (keyP.mp q.1).2 e2)]
        obtain ⟨I', l5', h, h2⟩ := ih (j + 1) K1 b (some (.int (amo G (alW j)))) (by omega) hf2 hf3 hb
        refine ⟨I', l5', fun Q => ?_, h2⟩
        rw [run1, run2]
        simp only [r169_64, r169_66, r169_68, r169_89, r169_92, s_1, s_2, s_3, s_8, s_16, s_18, s_23, s_24, s_33, s_38, s_41, s_161, f_1_0, f_1_1, f_1_4, f_1_5, f_1_8, f_1_9, f_1_10, f_1_11, f_1_12, f_1_13, f_2_0, f_2_1, f_3_3, f_3_4, f_3_5, f_3_6, f_8_2, f_8_3, f_8_4, f_8_5, f_16_2, f_18_3, f_18_4, f_18_5, f_18_6, f_23_0, f_23_1, f_23_2, f_23_3, f_23_4, f_24_2, f_24_3, f_24_4, f_24_5, f_33_3, f_33_4, f_33_5, f_33_6, f_38_1, f_38_2, f_41_0, f_161_0, f_161_1, f_161_3, f_161_7, f_161_12, f_161_13, f_161_14, f_161_15, f_161_16, f_161_17, f_161_18, f_161_19, f_161_21, f_161_22, f_161_25, true_and, and_true, true_or, or_true, if_true, if_false, ne_eq, not_false_eq_true, and_self, t10, am_psh, am_clr, not_true_eq_false, Nat.reduceEqDiff, nI_1]
        rw [if_pos e2]
        exact h Q
      · cases b with
        | none =>
          rw [if_pos ⟨keyP.mpr ⟨e1, e2⟩, rfl⟩]
          obtain ⟨I', l5', h, h2⟩ := ih (j + 1) K1 (some j) (some (.int (amo G (alW j)))) (by omega) hf2 hf3 (fun y hy => by cases hy; exact hjm)
          refine ⟨I', l5', fun Q => ?_, h2⟩
          rw [run1, run2]
          simp only [r169_64, r169_66, r169_68, r169_71, r169_72, r169_74, r169_77, r169_79, r169_80, r169_83, r169_85, r169_86, r169_88, r169_89, r169_92, s_1, s_2, s_3, s_8, s_16, s_18, s_23, s_24, s_33, s_38, s_41, s_161, f_1_0, f_1_1, f_1_4, f_1_5, f_1_8, f_1_9, f_1_10, f_1_11, f_1_12, f_1_13, f_2_0, f_2_1, f_3_3, f_3_4, f_3_5, f_3_6, f_8_2, f_8_3, f_8_4, f_8_5, f_16_2, f_18_3, f_18_4, f_18_5, f_18_6, f_23_0, f_23_1, f_23_2, f_23_3, f_23_4, f_24_2, f_24_3, f_24_4, f_24_5, f_33_3, f_33_4, f_33_5, f_33_6, f_38_1, f_38_2, f_41_0, f_161_0, f_161_1, f_161_3, f_161_7, f_161_12, f_161_13, f_161_14, f_161_15, f_161_16, f_161_17, f_161_18, f_161_19, f_161_21, f_161_22, f_161_25, true_and, and_true, true_or, or_true, if_true, if_false, ne_eq, not_false_eq_true, and_self, t10, am_psh, am_clr, not_true_eq_false, Nat.reduceEqDiff, show enc (-107) none = -107 from rfl, nI_1]
          rw [if_neg e2]
          exact h Q
        | some y =>
          have hy := hb y rfl
          by_cases e3 : amo G (alW j) < amo G (alW y)
          · rw [if_pos ⟨keyP.mpr ⟨e1, e2⟩, decide_eq_true e3⟩]
            obtain ⟨I', l5', h, h2⟩ := ih (j + 1) K1 (some j) (some (.int (amo G (alW j)))) (by omega) hf2 hf3 (fun y hy => by cases hy; exact hjm)
            refine ⟨I', l5', fun Q => ?_, h2⟩
            rw [run1, run2]
            simp only [r169_64, r169_66, r169_68, r169_71, r169_72, r169_74, r169_77, r169_79, r169_80, r169_83, r169_85, r169_86, r169_88, r169_89, r169_92, s_1, s_2, s_3, s_8, s_16, s_18, s_23, s_24, s_33, s_38, s_41, s_161, f_1_0, f_1_1, f_1_4, f_1_5, f_1_8, f_1_9, f_1_10, f_1_11, f_1_12, f_1_13, f_2_0, f_2_1, f_3_3, f_3_4, f_3_5, f_3_6, f_8_2, f_8_3, f_8_4, f_8_5, f_16_2, f_18_3, f_18_4, f_18_5, f_18_6, f_23_0, f_23_1, f_23_2, f_23_3, f_23_4, f_24_2, f_24_3, f_24_4, f_24_5, f_33_3, f_33_4, f_33_5, f_33_6, f_38_1, f_38_2, f_41_0, f_161_0, f_161_1, f_161_3, f_161_7, f_161_12, f_161_13, f_161_14, f_161_15, f_161_16, f_161_17, f_161_18, f_161_19, f_161_21, f_161_22, f_161_25, true_and, and_true, true_or, or_true, if_true, if_false, ne_eq, not_false_eq_true, and_self, t10, am_psh, am_clr, not_true_eq_false, Nat.reduceEqDiff, show enc (-107) (some y) = nI y from rfl, show lsM (sbR G) (some y) = amo G (alW y) from rfl, n_ne_none (show y < 2 ^ 31 by omega), nI_1]
            rw [if_neg e2, if_neg (Int32.not_le.mpr e3)]
            exact h Q
          · rw [if_neg (fun q => e3 (of_decide_eq_true q.2))]
            obtain ⟨I', l5', h, h2⟩ := ih (j + 1) K1 (some y) (some (.int (amo G (alW j)))) (by omega) hf2 hf3 hb
            refine ⟨I', l5', fun Q => ?_, h2⟩
            rw [run1, run2]
            simp only [r169_64, r169_66, r169_68, r169_71, r169_72, r169_74, r169_77, r169_79, r169_80, r169_83, r169_85, r169_86, r169_88, r169_89, r169_92, s_1, s_2, s_3, s_8, s_16, s_18, s_23, s_24, s_33, s_38, s_41, s_161, f_1_0, f_1_1, f_1_4, f_1_5, f_1_8, f_1_9, f_1_10, f_1_11, f_1_12, f_1_13, f_2_0, f_2_1, f_3_3, f_3_4, f_3_5, f_3_6, f_8_2, f_8_3, f_8_4, f_8_5, f_16_2, f_18_3, f_18_4, f_18_5, f_18_6, f_23_0, f_23_1, f_23_2, f_23_3, f_23_4, f_24_2, f_24_3, f_24_4, f_24_5, f_33_3, f_33_4, f_33_5, f_33_6, f_38_1, f_38_2, f_41_0, f_161_0, f_161_1, f_161_3, f_161_7, f_161_12, f_161_13, f_161_14, f_161_15, f_161_16, f_161_17, f_161_18, f_161_19, f_161_21, f_161_22, f_161_25, true_and, and_true, true_or, or_true, if_true, if_false, ne_eq, not_false_eq_true, and_self, t10, am_psh, am_clr, not_true_eq_false, Nat.reduceEqDiff, show enc (-107) (some y) = nI y from rfl, show lsM (sbR G) (some y) = amo G (alW y) from rfl, n_ne_none (show y < 2 ^ 31 by omega), nI_1]
            rw [if_neg e2, if_pos (Int32.not_lt.mp e3)]
            exact h Q
    · rw [if_neg (fun q => e1 (keyP.mp q.1).1)]
      obtain ⟨I', l5', h, h2⟩ := ih (j + 1) K b (some (.int (-107))) (by omega) hf hf1 hb
      refine ⟨I', l5', fun Q => ?_, h2⟩
      rw [run1, b32_F e1]
      simp only [r169_48, r169_60, r169_62, r169_64, r169_66, r169_68, r169_89, r169_92, s_1, s_2, s_3, s_8, s_16, s_18, s_23, s_24, s_33, s_38, s_41, s_161, f_1_0, f_1_1, f_1_4, f_1_5, f_1_8, f_1_9, f_1_10, f_1_11, f_1_12, f_1_13, f_2_0, f_2_1, f_3_3, f_3_4, f_3_5, f_3_6, f_8_2, f_8_3, f_8_4, f_8_5, f_16_2, f_18_3, f_18_4, f_18_5, f_18_6, f_23_0, f_23_1, f_23_2, f_23_3, f_23_4, f_24_2, f_24_3, f_24_4, f_24_5, f_33_3, f_33_4, f_33_5, f_33_6, f_38_1, f_38_2, f_41_0, f_161_0, f_161_1, f_161_3, f_161_7, f_161_12, f_161_13, f_161_14, f_161_15, f_161_16, f_161_17, f_161_18, f_161_19, f_161_21, f_161_22, f_161_25, true_and, and_true, true_or, or_true, if_true, if_false, ne_eq, not_false_eq_true, and_self, t10, am_psh, am_clr, not_true_eq_false, Nat.reduceEqDiff, nI_1]
      exact h Q
theorem op_secondBest (x : Int32) : am_OK L Inv 87 169 [.int x] := by
  intro I J hI
  have hI0 := hI
  obtain ⟨⟨G, o⟩, hs, s0, s1, n, tx, hok, hx, hm, hl, hh, hsl, hru, htx⟩ := hI
  have hm32 : gm G ≤ 32 := hok.1.1.2.2.2
  rcases rng x 0 1 (by omega) (by omega) with hz | ⟨k, hk1, hk2, rfl⟩
  · refine ok_same hI0 (x := -103) (fun Q => ?_) (fun Q => ?_)
    · rw [e87]; simp only [r87_0, r87_1, r87_4, r87_5, r87_6, r87_9, r87_11, s_1, s_2, s_3, s_8, s_16, s_18, s_23, s_24, s_33, s_38, s_41, s_161, f_1_0, f_1_1, f_1_4, f_1_5, f_1_8, f_1_9, f_1_10, f_1_11, f_1_12, f_1_13, f_2_0, f_2_1, f_3_3, f_3_4, f_3_5, f_3_6, f_8_2, f_8_3, f_8_4, f_8_5, f_16_2, f_18_3, f_18_4, f_18_5, f_18_6, f_23_0, f_23_1, f_23_2, f_23_3, f_23_4, f_24_2, f_24_3, f_24_4, f_24_5, f_33_3, f_33_4, f_33_5, f_33_6, f_38_1, f_38_2, f_41_0, f_161_0, f_161_1, f_161_3, f_161_7, f_161_12, f_161_13, f_161_14, f_161_15, f_161_16, f_161_17, f_161_18, f_161_19, f_161_21, f_161_22, f_161_25, true_and, and_true, true_or, or_true, if_true, if_false, ne_eq, not_false_eq_true, and_self, t10, am_psh, am_clr, not_true_eq_false, Nat.reduceEqDiff]
      rcases hz with q | ⟨q1, q2⟩
      · rw [if_pos (show x < 0 from q)]
      · rw [if_neg (show ¬ x < 0 from q1), if_neg (show ¬ x ≤ 1 from nle_of_lt q2)]
    · rw [e169]; simp only [r169_0, r169_1, r169_2, r169_3, r169_6, r169_9, r169_11, s_1, s_2, s_3, s_8, s_16, s_18, s_23, s_24, s_33, s_38, s_41, s_161, f_1_0, f_1_1, f_1_4, f_1_5, f_1_8, f_1_9, f_1_10, f_1_11, f_1_12, f_1_13, f_2_0, f_2_1, f_3_3, f_3_4, f_3_5, f_3_6, f_8_2, f_8_3, f_8_4, f_8_5, f_16_2, f_18_3, f_18_4, f_18_5, f_18_6, f_23_0, f_23_1, f_23_2, f_23_3, f_23_4, f_24_2, f_24_3, f_24_4, f_24_5, f_33_3, f_33_4, f_33_5, f_33_6, f_38_1, f_38_2, f_41_0, f_161_0, f_161_1, f_161_3, f_161_7, f_161_12, f_161_13, f_161_14, f_161_15, f_161_16, f_161_17, f_161_18, f_161_19, f_161_21, f_161_22, f_161_25, true_and, and_true, true_or, or_true, if_true, if_false, ne_eq, not_false_eq_true, and_self, t10, am_psh, am_clr, not_true_eq_false, Nat.reduceEqDiff, c_isIn]
      rcases hz with q | ⟨q1, q2⟩
      · rw [if_pos (show x < 0 from q)]
      · rw [if_neg (show ¬ x < 0 from q1), if_pos (show 1 < x from q2)]
  have z0 : ¬ nI k < 0 := nI_pos (by omega)
  have z2 : nI k ≤ 1 := (nI_leI (b := 1) (by omega) (by omega)).mpr hk2
  have z3 : ¬ 1 < nI k := Int32.not_lt.mpr z2
  obtain ⟨I1, k1, k2⟩ := c_have (d := 34) (L := L) (J := J) hok hx
  have hx1 := k2.2.2.2
  have runX : ∀ Q, am_C 40 87 [.ref 1, .int (nI k)] (cS L) I J Q = am_T 39 87 16 [some (.ref 1), some (.int (nI k)), none, none, none, none] [.int (oB (hrc G o))] (cS L) I1 J Q := fun Q => by
    rw [e87]; simp only [r87_0, r87_1, r87_4, r87_5, r87_6, r87_9, r87_11, r87_12, r87_13, s_1, s_2, s_3, s_8, s_16, s_18, s_23, s_24, s_33, s_38, s_41, s_161, f_1_0, f_1_1, f_1_4, f_1_5, f_1_8, f_1_9, f_1_10, f_1_11, f_1_12, f_1_13, f_2_0, f_2_1, f_3_3, f_3_4, f_3_5, f_3_6, f_8_2, f_8_3, f_8_4, f_8_5, f_16_2, f_18_3, f_18_4, f_18_5, f_18_6, f_23_0, f_23_1, f_23_2, f_23_3, f_23_4, f_24_2, f_24_3, f_24_4, f_24_5, f_33_3, f_33_4, f_33_5, f_33_6, f_38_1, f_38_2, f_41_0, f_161_0, f_161_1, f_161_3, f_161_7, f_161_12, f_161_13, f_161_14, f_161_15, f_161_16, f_161_17, f_161_18, f_161_19, f_161_21, f_161_22, f_161_25, true_and, and_true, true_or, or_true, if_true, if_false, ne_eq, not_false_eq_true, and_self, t10, am_psh, am_clr, not_true_eq_false, Nat.reduceEqDiff]
    rw [if_neg z0, if_pos z2, k1]
  have hok' := hrc_ok hok
  have runM : ∀ (I1 I2 : am_I), (∀ Q, am_C (34 + 5) 152 [.ref 161] (cS L) I1 J Q = Q (some (.int (oB (hrc G o)))) (cS L) I2 J) → ∀ Q, am_C 40 169 [.ref 161, .int (nI k)] (cS L) I1 J Q = am_T 39 169 16 [some (.ref 161), some (.int (nI k)), none, none, none, none] [.int (oB (hrc G o))] (cS L) I2 J Q := fun I1 I2 m1 Q => by
    rw [e169]; simp only [r169_0, r169_1, r169_2, r169_3, r169_6, r169_9, r169_11, r169_12, r169_13, s_1, s_2, s_3, s_8, s_16, s_18, s_23, s_24, s_33, s_38, s_41, s_161, f_1_0, f_1_1, f_1_4, f_1_5, f_1_8, f_1_9, f_1_10, f_1_11, f_1_12, f_1_13, f_2_0, f_2_1, f_3_3, f_3_4, f_3_5, f_3_6, f_8_2, f_8_3, f_8_4, f_8_5, f_16_2, f_18_3, f_18_4, f_18_5, f_18_6, f_23_0, f_23_1, f_23_2, f_23_3, f_23_4, f_24_2, f_24_3, f_24_4, f_24_5, f_33_3, f_33_4, f_33_5, f_33_6, f_38_1, f_38_2, f_41_0, f_161_0, f_161_1, f_161_3, f_161_7, f_161_12, f_161_13, f_161_14, f_161_15, f_161_16, f_161_17, f_161_18, f_161_19, f_161_21, f_161_22, f_161_25, true_and, and_true, true_or, or_true, if_true, if_false, ne_eq, not_false_eq_true, and_self, t10, am_psh, am_clr, not_true_eq_false, Nat.reduceEqDiff, c_isIn]
    rw [if_neg z0, if_neg z3, m1]
  cases ho : hrc G o with
  | none =>
    obtain ⟨I2, m1, m2⟩ := c_has (d := 34) (L := L) (J := J) (I := I1) hok (by rw [xP_162 k2]; exact hm)
    have hInv : Inv I2 J := Inv_rec hok' hl hh hsl hru htx k2 m2
    refine ⟨.int (-106), I1, J, I2, J, fun Q => ?_, xP_0 k2, fun Q => ?_, by rw [mP_0 m2, xP_0 k2], hInv, _, rfl⟩
    · rw [runX, ho]; simp only [r87_16, r87_19, r87_21, s_1, s_2, s_3, s_8, s_16, s_18, s_23, s_24, s_33, s_38, s_41, s_161, f_1_0, f_1_1, f_1_4, f_1_5, f_1_8, f_1_9, f_1_10, f_1_11, f_1_12, f_1_13, f_2_0, f_2_1, f_3_3, f_3_4, f_3_5, f_3_6, f_8_2, f_8_3, f_8_4, f_8_5, f_16_2, f_18_3, f_18_4, f_18_5, f_18_6, f_23_0, f_23_1, f_23_2, f_23_3, f_23_4, f_24_2, f_24_3, f_24_4, f_24_5, f_33_3, f_33_4, f_33_5, f_33_6, f_38_1, f_38_2, f_41_0, f_161_0, f_161_1, f_161_3, f_161_7, f_161_12, f_161_13, f_161_14, f_161_15, f_161_16, f_161_17, f_161_18, f_161_19, f_161_21, f_161_22, f_161_25, true_and, and_true, true_or, or_true, if_true, if_false, ne_eq, not_false_eq_true, and_self, t10, am_psh, am_clr, not_true_eq_false, Nat.reduceEqDiff, oB]
    · rw [runM I1 I2 m1, ho]; simp only [r169_16, r169_19, r169_21, s_1, s_2, s_3, s_8, s_16, s_18, s_23, s_24, s_33, s_38, s_41, s_161, f_1_0, f_1_1, f_1_4, f_1_5, f_1_8, f_1_9, f_1_10, f_1_11, f_1_12, f_1_13, f_2_0, f_2_1, f_3_3, f_3_4, f_3_5, f_3_6, f_8_2, f_8_3, f_8_4, f_8_5, f_16_2, f_18_3, f_18_4, f_18_5, f_18_6, f_23_0, f_23_1, f_23_2, f_23_3, f_23_4, f_24_2, f_24_3, f_24_4, f_24_5, f_33_3, f_33_4, f_33_5, f_33_6, f_38_1, f_38_2, f_41_0, f_161_0, f_161_1, f_161_3, f_161_7, f_161_12, f_161_13, f_161_14, f_161_15, f_161_16, f_161_17, f_161_18, f_161_19, f_161_21, f_161_22, f_161_25, true_and, and_true, true_or, or_true, if_true, if_false, ne_eq, not_false_eq_true, and_self, t10, am_psh, am_clr, not_true_eq_false, Nat.reduceEqDiff, oB]
  | some R =>
    rw [ho] at hx1 hok'
    have hR := hok'.2 R rfl
    obtain ⟨I1', l5, q1, q2⟩ := sb_loop (d := 33) (L := L) (J := J) (I := I1) (x1 := nI k) hok.1 hR hx1.1 hx1.2.2 (gm G) 0 I1 none none (by show 0 + gm G = gm G; omega) (fun _ _ => rfl) (fun y hy => by cases hy)
    have k2' := xPost_scr q2 k2
    obtain ⟨I2, m1, m2⟩ := c_has (d := 34) (L := L) (J := J) (I := I1') hok (by rw [xP_162 k2']; exact hm)
    have hm1 := m2.2.2.2
    rw [ho] at hm1
    obtain ⟨I2', l5', p1, p2, p3⟩ := sbm_loop (d := 34) (L := L) (J := J) (I := I2) (x1 := nI k) hok.1 hR hm1.1 hm1.2.2 (gm G) 0 I2 none none (by show 0 + gm G = gm G; omega) (fun _ _ _ => rfl) (fun _ _ => rfl) (fun y hy => by cases hy)
    have m2' := mPost_scr p2 p3 m2
    have hInv : Inv I2' J := Inv_rec (hrc_ok hok) hl hh hsl hru htx k2' m2'
    have hsome : ∀ y, selF (sbP G R) (sbR G) (gm G) 0 none = some y → y < gm G := fun y hy => by
      have := ((selF_ok (gm G) 0 none (fun x hx => by cases hx) (fun _ y hy => absurd hy (Nat.not_lt_zero y))).1 y hy).2.1
      omega
    generalize selF (sbP G R) (sbR G) (gm G) 0 none = r at *
    refine ⟨.int (if k = 0 then lsM (sbR G) r else enc (-107) r), I1', J, I2', J, fun Q => ?_, xP_0 k2', fun Q => ?_, by rw [mP_0 m2', xP_0 k2'], hInv, _, rfl⟩
    · rw [runX, ho]; simp only [r87_16, r87_19, r87_21, r87_22, r87_23, r87_24, r87_25, r87_26, r87_27, s_1, s_2, s_3, s_8, s_16, s_18, s_23, s_24, s_33, s_38, s_41, s_161, f_1_0, f_1_1, f_1_4, f_1_5, f_1_8, f_1_9, f_1_10, f_1_11, f_1_12, f_1_13, f_2_0, f_2_1, f_3_3, f_3_4, f_3_5, f_3_6, f_8_2, f_8_3, f_8_4, f_8_5, f_16_2, f_18_3, f_18_4, f_18_5, f_18_6, f_23_0, f_23_1, f_23_2, f_23_3, f_23_4, f_24_2, f_24_3, f_24_4, f_24_5, f_33_3, f_33_4, f_33_5, f_33_6, f_38_1, f_38_2, f_41_0, f_161_0, f_161_1, f_161_3, f_161_7, f_161_12, f_161_13, f_161_14, f_161_15, f_161_16, f_161_17, f_161_18, f_161_19, f_161_21, f_161_22, f_161_25, true_and, and_true, true_or, or_true, if_true, if_false, ne_eq, not_false_eq_true, and_self, t10, am_psh, am_clr, not_true_eq_false, Nat.reduceEqDiff, oB]
      refine Eq.trans (q1 Q) ?_
      simp only [r87_104, r87_105, r87_106, r87_109, r87_111, r87_112, r87_113, r87_116, r87_117, r87_120, r87_121, s_1, s_2, s_3, s_8, s_16, s_18, s_23, s_24, s_33, s_38, s_41, s_161, f_1_0, f_1_1, f_1_4, f_1_5, f_1_8, f_1_9, f_1_10, f_1_11, f_1_12, f_1_13, f_2_0, f_2_1, f_3_3, f_3_4, f_3_5, f_3_6, f_8_2, f_8_3, f_8_4, f_8_5, f_16_2, f_18_3, f_18_4, f_18_5, f_18_6, f_23_0, f_23_1, f_23_2, f_23_3, f_23_4, f_24_2, f_24_3, f_24_4, f_24_5, f_33_3, f_33_4, f_33_5, f_33_6, f_38_1, f_38_2, f_41_0, f_161_0, f_161_1, f_161_3, f_161_7, f_161_12, f_161_13, f_161_14, f_161_15, f_161_16, f_161_17, f_161_18, f_161_19, f_161_21, f_161_22, f_161_25, true_and, and_true, true_or, or_true, if_true, if_false, ne_eq, not_false_eq_true, and_self, t10, am_psh, am_clr, not_true_eq_false, Nat.reduceEqDiff]
      cases r with
      | none =>
        rw [if_pos (show enc (-1) none = -1 from rfl)]
        split <;> rfl
      | some y =>
        have hy := hsome y rfl
        rw [if_neg (show ¬ enc (-1) (some y) = -1 from of_eq_false (n_ne_m1 (by omega)))]
        have : k = 0 ∨ k = 1 := by omega
        rcases this with rfl | rfl
        · rw [if_pos (show nI 0 = 0 from rfl), if_pos rfl]; rfl
        · rw [if_neg (show ¬ nI 1 = 0 by decide), if_neg (by omega)]; rfl
    · rw [runM I1' I2 m1, ho]; simp only [r169_16, r169_19, r169_21, r169_22, r169_24, r169_25, r169_27, r169_28, r169_29, s_1, s_2, s_3, s_8, s_16, s_18, s_23, s_24, s_33, s_38, s_41, s_161, f_1_0, f_1_1, f_1_4, f_1_5, f_1_8, f_1_9, f_1_10, f_1_11, f_1_12, f_1_13, f_2_0, f_2_1, f_3_3, f_3_4, f_3_5, f_3_6, f_8_2, f_8_3, f_8_4, f_8_5, f_16_2, f_18_3, f_18_4, f_18_5, f_18_6, f_23_0, f_23_1, f_23_2, f_23_3, f_23_4, f_24_2, f_24_3, f_24_4, f_24_5, f_33_3, f_33_4, f_33_5, f_33_6, f_38_1, f_38_2, f_41_0, f_161_0, f_161_1, f_161_3, f_161_7, f_161_12, f_161_13, f_161_14, f_161_15, f_161_16, f_161_17, f_161_18, f_161_19, f_161_21, f_161_22, f_161_25, true_and, and_true, true_or, or_true, if_true, if_false, ne_eq, not_false_eq_true, and_self, t10, am_psh, am_clr, not_true_eq_false, Nat.reduceEqDiff, oB]
      refine Eq.trans (p1 Q) ?_
      simp only [r169_95, r169_96, r169_99, r169_100, r169_103, r169_104, s_1, s_2, s_3, s_8, s_16, s_18, s_23, s_24, s_33, s_38, s_41, s_161, f_1_0, f_1_1, f_1_4, f_1_5, f_1_8, f_1_9, f_1_10, f_1_11, f_1_12, f_1_13, f_2_0, f_2_1, f_3_3, f_3_4, f_3_5, f_3_6, f_8_2, f_8_3, f_8_4, f_8_5, f_16_2, f_18_3, f_18_4, f_18_5, f_18_6, f_23_0, f_23_1, f_23_2, f_23_3, f_23_4, f_24_2, f_24_3, f_24_4, f_24_5, f_33_3, f_33_4, f_33_5, f_33_6, f_38_1, f_38_2, f_41_0, f_161_0, f_161_1, f_161_3, f_161_7, f_161_12, f_161_13, f_161_14, f_161_15, f_161_16, f_161_17, f_161_18, f_161_19, f_161_21, f_161_22, f_161_25, true_and, and_true, true_or, or_true, if_true, if_false, ne_eq, not_false_eq_true, and_self, t10, am_psh, am_clr, not_true_eq_false, Nat.reduceEqDiff]
      have : k = 0 ∨ k = 1 := by omega
      rcases this with rfl | rfl
      · rw [if_pos (show nI 0 = 0 from rfl), if_pos rfl]
      · rw [if_neg (show ¬ nI 1 = 0 by decide), if_neg (by omega)]
theorem ncP_iff {j : Nat} : ncP G R j = true ↔ inTr G R j ∧ (amo G (alW j) = -107 ∨ tcost G (coG G) (rt R) < amo G (alW j)) := by unfold ncP; rw [Bool.and_eq_true, decide_eq_true_eq, decide_eq_true_eq]
theorem c_isNec {j : Nat} (hG : okG G) (hR : okR G R) (hx : xG I 3 G) (hr : xR I 8 G R) (hj : j < gm G) : ∃ I', (∀ Q, am_C (d + 7) 104 [.ref 1, .int (nI j)] (cS L) I J Q = Q (some (.int (b32 (ncP G R j = true)))) (cS L) I' J) ∧ ∀ b, (b < 24 ∨ 32 < b) → I' b = I b := by
  by_cases e1 : inTr G R j
  · obtain ⟨K1, q1, q2⟩ := c_cwo (d := d) (L := L) (J := J) (I := I) hG hx hj
    have hxK : xG K1 3 G := xG_congr (fun b b1 b2 => q2 b (by omega)) hx
    have hrK : xR K1 8 G R := xR_congr (fun b b1 b2 => q2 b (by omega)) hr
    refine ⟨K1, fun Q => ?_, q2⟩
    rw [e104]
    simp only [r104_0, r104_1, r104_4, r104_7, r104_8, r104_11, r104_14, r104_15, s_1, s_2, s_3, s_8, s_16, s_18, s_23, s_24, s_33, s_38, s_41, s_161, f_1_0, f_1_1, f_1_4, f_1_5, f_1_8, f_1_9, f_1_10, f_1_11, f_1_12, f_1_13, f_2_0, f_2_1, f_3_3, f_3_4, f_3_5, f_3_6, f_8_2, f_8_3, f_8_4, f_8_5, f_16_2, f_18_3, f_18_4, f_18_5, f_18_6, f_23_0, f_23_1, f_23_2, f_23_3, f_23_4, f_24_2, f_24_3, f_24_4, f_24_5, f_33_3, f_33_4, f_33_5, f_33_6, f_38_1, f_38_2, f_41_0, f_161_0, f_161_1, f_161_3, f_161_7, f_161_12, f_161_13, f_161_14, f_161_15, f_161_16, f_161_17, f_161_18, f_161_19, f_161_21, f_161_22, f_161_25, true_and, and_true, true_or, or_true, if_true, if_false, ne_eq, not_false_eq_true, and_self, t10, am_psh, am_clr, not_true_eq_false, Nat.reduceEqDiff]
    rw [c_contains hG hR hx hr hj, b32_T e1]
    simp only [r104_18, r104_21, r104_22, r104_23, r104_24, r104_25, s_1, s_2, s_3, s_8, s_16, s_18, s_23, s_24, s_33, s_38, s_41, s_161, f_1_0, f_1_1, f_1_4, f_1_5, f_1_8, f_1_9, f_1_10, f_1_11, f_1_12, f_1_13, f_2_0, f_2_1, f_3_3, f_3_4, f_3_5, f_3_6, f_8_2, f_8_3, f_8_4, f_8_5, f_16_2, f_18_3, f_18_4, f_18_5, f_18_6, f_23_0, f_23_1, f_23_2, f_23_3, f_23_4, f_24_2, f_24_3, f_24_4, f_24_5, f_33_3, f_33_4, f_33_5, f_33_6, f_38_1, f_38_2, f_41_0, f_161_0, f_161_1, f_161_3, f_161_7, f_161_12, f_161_13, f_161_14, f_161_15, f_161_16, f_161_17, f_161_18, f_161_19, f_161_21, f_161_22, f_161_25, true_and, and_true, true_or, or_true, if_true, if_false, ne_eq, not_false_eq_true, and_self, t10, am_psh, am_clr, not_true_eq_false, Nat.reduceEqDiff]
    rw [q1]
    simp only [r104_28, r104_29, r104_30, r104_32, r104_35, r104_36, r104_37, s_1, s_2, s_3, s_8, s_16, s_18, s_23, s_24, s_33, s_38, s_41, s_161, f_1_0, f_1_1, f_1_4, f_1_5, f_1_8, f_1_9, f_1_10, f_1_11, f_1_12, f_1_13, f_2_0, f_2_1, f_3_3, f_3_4, f_3_5, f_3_6, f_8_2, f_8_3, f_8_4, f_8_5, f_16_2, f_18_3, f_18_4, f_18_5, f_18_6, f_23_0, f_23_1, f_23_2, f_23_3, f_23_4, f_24_2, f_24_3, f_24_4, f_24_5, f_33_3, f_33_4, f_33_5, f_33_6, f_38_1, f_38_2, f_41_0, f_161_0, f_161_1, f_161_3, f_161_7, f_161_12, f_161_13, f_161_14, f_161_15, f_161_16, f_161_17, f_161_18, f_161_19, f_161_21, f_161_22, f_161_25, true_and, and_true, true_or, or_true, if_true, if_false, ne_eq, not_false_eq_true, and_self, t10, am_psh, am_clr, not_true_eq_false, Nat.reduceEqDiff]
    by_cases e2 : amo G (alW j) = -107
    · rw [if_pos e2, b32_T (ncP_iff.mpr ⟨e1, Or.inl e2⟩)]
      simp only [r104_43, r104_44, r104_47, r104_48, s_1, s_2, s_3, s_8, s_16, s_18, s_23, s_24, s_33, s_38, s_41, s_161, f_1_0, f_1_1, f_1_4, f_1_5, f_1_8, f_1_9, f_1_10, f_1_11, f_1_12, f_1_13, f_2_0, f_2_1, f_3_3, f_3_4, f_3_5, f_3_6, f_8_2, f_8_3, f_8_4, f_8_5, f_16_2, f_18_3, f_18_4, f_18_5, f_18_6, f_23_0, f_23_1, f_23_2, f_23_3, f_23_4, f_24_2, f_24_3, f_24_4, f_24_5, f_33_3, f_33_4, f_33_5, f_33_6, f_38_1, f_38_2, f_41_0, f_161_0, f_161_1, f_161_3, f_161_7, f_161_12, f_161_13, f_161_14, f_161_15, f_161_16, f_161_17, f_161_18, f_161_19, f_161_21, f_161_22, f_161_25, true_and, and_true, true_or, or_true, if_true, if_false, ne_eq, not_false_eq_true, and_self, t10, am_psh, am_clr, not_true_eq_false, Nat.reduceEqDiff, t11]
    · rw [if_neg e2, c_recCost hG hR hxK hrK]
      simp only [r104_40, r104_43, r104_44, r104_47, r104_48, s_1, s_2, s_3, s_8, s_16, s_18, s_23, s_24, s_33, s_38, s_41, s_161, f_1_0, f_1_1, f_1_4, f_1_5, f_1_8, f_1_9, f_1_10, f_1_11, f_1_12, f_1_13, f_2_0, f_2_1, f_3_3, f_3_4, f_3_5, f_3_6, f_8_2, f_8_3, f_8_4, f_8_5, f_16_2, f_18_3, f_18_4, f_18_5, f_18_6, f_23_0, f_23_1, f_23_2, f_23_3, f_23_4, f_24_2, f_24_3, f_24_4, f_24_5, f_33_3, f_33_4, f_33_5, f_33_6, f_38_1, f_38_2, f_41_0, f_161_0, f_161_1, f_161_3, f_161_7, f_161_12, f_161_13, f_161_14, f_161_15, f_161_16, f_161_17, f_161_18, f_161_19, f_161_21, f_161_22, f_161_25, true_and, and_true, true_or, or_true, if_true, if_false, ne_eq, not_false_eq_true, and_self, t10, am_psh, am_clr, not_true_eq_false, Nat.reduceEqDiff, t11, t01]
      by_cases e3 : tcost G (coG G) (rt R) < amo G (alW j)
      · rw [if_neg (Int32.not_le.mpr e3), b32_T (ncP_iff.mpr ⟨e1, Or.inr e3⟩)]
      · rw [if_pos (Int32.not_lt.mp e3), b32_F (fun q => by rcases (ncP_iff.mp q).2 with z | z; exact e2 z; exact e3 z)]
  · refine ⟨I, fun Q => ?_, fun _ _ => rfl⟩
    rw [e104]
    simp only [r104_0, r104_1, r104_4, r104_7, r104_8, r104_11, r104_14, r104_15, s_1, s_2, s_3, s_8, s_16, s_18, s_23, s_24, s_33, s_38, s_41, s_161, f_1_0, f_1_1, f_1_4, f_1_5, f_1_8, f_1_9, f_1_10, f_1_11, f_1_12, f_1_13, f_2_0, f_2_1, f_3_3, f_3_4, f_3_5, f_3_6, f_8_2, f_8_3, f_8_4, f_8_5, f_16_2, f_18_3, f_18_4, f_18_5, f_18_6, f_23_0, f_23_1, f_23_2, f_23_3, f_23_4, f_24_2, f_24_3, f_24_4, f_24_5, f_33_3, f_33_4, f_33_5, f_33_6, f_38_1, f_38_2, f_41_0, f_161_0, f_161_1, f_161_3, f_161_7, f_161_12, f_161_13, f_161_14, f_161_15, f_161_16, f_161_17, f_161_18, f_161_19, f_161_21, f_161_22, f_161_25, true_and, and_true, true_or, or_true, if_true, if_false, ne_eq, not_false_eq_true, and_self, t10, am_psh, am_clr, not_true_eq_false, Nat.reduceEqDiff]
    rw [c_contains hG hR hx hr hj, b32_F e1]
    simp only [r104_18, r104_21, r104_22, s_1, s_2, s_3, s_8, s_16, s_18, s_23, s_24, s_33, s_38, s_41, s_161, f_1_0, f_1_1, f_1_4, f_1_5, f_1_8, f_1_9, f_1_10, f_1_11, f_1_12, f_1_13, f_2_0, f_2_1, f_3_3, f_3_4, f_3_5, f_3_6, f_8_2, f_8_3, f_8_4, f_8_5, f_16_2, f_18_3, f_18_4, f_18_5, f_18_6, f_23_0, f_23_1, f_23_2, f_23_3, f_23_4, f_24_2, f_24_3, f_24_4, f_24_5, f_33_3, f_33_4, f_33_5, f_33_6, f_38_1, f_38_2, f_41_0, f_161_0, f_161_1, f_161_3, f_161_7, f_161_12, f_161_13, f_161_14, f_161_15, f_161_16, f_161_17, f_161_18, f_161_19, f_161_21, f_161_22, f_161_25, true_and, and_true, true_or, or_true, if_true, if_false, ne_eq, not_false_eq_true, and_self, t10, am_psh, am_clr, not_true_eq_false, Nat.reduceEqDiff, t01]
    rw [b32_F (fun q => e1 (ncP_iff.mp q).1)]
theorem nc_loop {k : Nat} (hk : k < 2 ^ 31) (hG : okG G) (hR : okR G R) (hx : xG I 3 G) (hr : xR I 8 G R) : ∀ (n j c : Nat) (K : am_I), j + n = gm G → c ≤ j → (∀ b, (b < 24 ∨ 32 < b) → K b = I b) → ∃ I', (∀ Q, am_T (d + 7) 88 21 [some (.ref 1), some (.int (nI k)), some (.int (nI c)), some (.int (nI j))] [] (cS L) K J Q = Q (some (.int (enc (-107) (ncF (ncP G R) k n j c)))) (cS L) I' J) ∧ ∀ b, (b < 24 ∨ 32 < b) → I' b = I b := by
  have hm32 := hG.1.2.2.2
  intro n
  induction n with
  | zero =>
    intro j c K hj hc hf
    have : j = gm G := by omega
    subst this
    refine ⟨K, fun Q => ?_, hf⟩
    rw [r88_21]
    simp only [r88_22, r88_23, r88_26, r88_29, r88_32, r88_59, r88_61, s_1, s_2, s_3, s_8, s_16, s_18, s_23, s_24, s_33, s_38, s_41, s_161, f_1_0, f_1_1, f_1_4, f_1_5, f_1_8, f_1_9, f_1_10, f_1_11, f_1_12, f_1_13, f_2_0, f_2_1, f_3_3, f_3_4, f_3_5, f_3_6, f_8_2, f_8_3, f_8_4, f_8_5, f_16_2, f_18_3, f_18_4, f_18_5, f_18_6, f_23_0, f_23_1, f_23_2, f_23_3, f_23_4, f_24_2, f_24_3, f_24_4, f_24_5, f_33_3, f_33_4, f_33_5, f_33_6, f_38_1, f_38_2, f_41_0, f_161_0, f_161_1, f_161_3, f_161_7, f_161_12, f_161_13, f_161_14, f_161_15, f_161_16, f_161_17, f_161_18, f_161_19, f_161_21, f_161_22, f_161_25, true_and, and_true, true_or, or_true, if_true, if_false, ne_eq, not_false_eq_true, and_self, t10, am_psh, am_clr, not_true_eq_false, Nat.reduceEqDiff, hf 3 (by omega), hx.1.2.2]
    rw [if_pos (Int32.le_refl _)]
    rfl
  | succ n ih =>
    intro j c K hj hc hf
    have hjm : j < gm G := by omega
    obtain ⟨K1, q1, q2⟩ := c_isNec (d := d) (L := L) (J := J) (I := K) hG hR (xG_congr (fun b b1 b2 => hf b (by omega)) hx) (xR_congr (fun b b1 b2 => hf b (by omega)) hr) hjm
    have hf1 : ∀ b, (b < 24 ∨ 32 < b) → K1 b = I b := fun b hb => by rw [q2 b hb]; exact hf b hb
    have run1 : ∀ Q, am_T (d + 7) 88 21 [some (.ref 1), some (.int (nI k)), some (.int (nI c)), some (.int (nI j))] [] (cS L) K J Q = am_T (d + 7) 88 40 [some (.ref 1), some (.int (nI k)), some (.int (nI c)), some (.int (nI j))] [.int (b32 (ncP G R j = true))] (cS L) K1 J Q := fun Q => by
      rw [r88_21]
      simp only [r88_22, r88_23, r88_26, r88_29, r88_32, r88_35, r88_36, r88_37, s_1, s_2, s_3, s_8, s_16, s_18, s_23, s_24, s_33, s_38, s_41, s_161, f_1_0, f_1_1, f_1_4, f_1_5, f_1_8, f_1_9, f_1_10, f_1_11, f_1_12, f_1_13, f_2_0, f_2_1, f_3_3, f_3_4, f_3_5, f_3_6, f_8_2, f_8_3, f_8_4, f_8_5, f_16_2, f_18_3, f_18_4, f_18_5, f_18_6, f_23_0, f_23_1, f_23_2, f_23_3, f_23_4, f_24_2, f_24_3, f_24_4, f_24_5, f_33_3, f_33_4, f_33_5, f_33_6, f_38_1, f_38_2, f_41_0, f_161_0, f_161_1, f_161_3, f_161_7, f_161_12, f_161_13, f_161_14, f_161_15, f_161_16, f_161_17, f_161_18, f_161_19, f_161_21, f_161_22, f_161_25, true_and, and_true, true_or, or_true, if_true, if_false, ne_eq, not_false_eq_true, and_self, t10, am_psh, am_clr, not_true_eq_false, Nat.reduceEqDiff, hf 3 (by omega), hx.1.2.2]
      rw [if_neg (nI_ge hjm (by omega)), q1]
    unfold ncF
    by_cases e1 : ncP G R j = true
    · rw [if_pos e1]
      by_cases e2 : c = k
      · rw [if_pos e2]
        refine ⟨K1, fun Q => ?_, hf1⟩
        rw [run1, b32_T e1]
        simp only [r88_40, r88_43, r88_44, r88_45, r88_48, r88_49, s_1, s_2, s_3, s_8, s_16, s_18, s_23, s_24, s_33, s_38, s_41, s_161, f_1_0, f_1_1, f_1_4, f_1_5, f_1_8, f_1_9, f_1_10, f_1_11, f_1_12, f_1_13, f_2_0, f_2_1, f_3_3, f_3_4, f_3_5, f_3_6, f_8_2, f_8_3, f_8_4, f_8_5, f_16_2, f_18_3, f_18_4, f_18_5, f_18_6, f_23_0, f_23_1, f_23_2, f_23_3, f_23_4, f_24_2, f_24_3, f_24_4, f_24_5, f_33_3, f_33_4, f_33_5, f_33_6, f_38_1, f_38_2, f_41_0, f_161_0, f_161_1, f_161_3, f_161_7, f_161_12, f_161_13, f_161_14, f_161_15, f_161_16, f_161_17, f_161_18, f_161_19, f_161_21, f_161_22, f_161_25, true_and, and_true, true_or, or_true, if_true, if_false, ne_eq, not_false_eq_true, and_self, t10, am_psh, am_clr, not_true_eq_false, Nat.reduceEqDiff]
        rw [if_pos (show nI c = nI k by rw [e2])]
        rfl
      · rw [if_neg e2]
        obtain ⟨I', h, h2⟩ := ih (j + 1) (c + 1) K1 (by omega) (by omega) hf1
        refine ⟨I', fun Q => ?_, h2⟩
        rw [run1, b32_T e1]
        simp only [r88_40, r88_43, r88_44, r88_45, r88_48, r88_49, r88_50, r88_53, r88_56, s_1, s_2, s_3, s_8, s_16, s_18, s_23, s_24, s_33, s_38, s_41, s_161, f_1_0, f_1_1, f_1_4, f_1_5, f_1_8, f_1_9, f_1_10, f_1_11, f_1_12, f_1_13, f_2_0, f_2_1, f_3_3, f_3_4, f_3_5, f_3_6, f_8_2, f_8_3, f_8_4, f_8_5, f_16_2, f_18_3, f_18_4, f_18_5, f_18_6, f_23_0, f_23_1, f_23_2, f_23_3, f_23_4, f_24_2, f_24_3, f_24_4, f_24_5, f_33_3, f_33_4, f_33_5, f_33_6, f_38_1, f_38_2, f_41_0, f_161_0, f_161_1, f_161_3, f_161_7, f_161_12, f_161_13, f_161_14, f_161_15, f_161_16, f_161_17, f_161_18, f_161_19, f_161_21, f_161_22, f_161_25, true_and, and_true, true_or, or_true, if_true, if_false, ne_eq, not_false_eq_true, and_self, t10, am_psh, am_clr, not_true_eq_false, Nat.reduceEqDiff, nI_1]
        rw [if_neg (show ¬ nI c = nI k from fun q => e2 ((nI_eq (by omega) hk).mp q))]
        exact h Q
    · rw [if_neg e1]
      obtain ⟨I', h, h2⟩ := ih (j + 1) c K1 (by omega) (by omega) hf1
      refine ⟨I', fun Q => ?_, h2⟩
      rw [run1, b32_F e1]
      simp only [r88_40, r88_53, r88_56, s_1, s_2, s_3, s_8, s_16, s_18, s_23, s_24, s_33, s_38, s_41, s_161, f_1_0, f_1_1, f_1_4, f_1_5, f_1_8, f_1_9, f_1_10, f_1_11, f_1_12, f_1_13, f_2_0, f_2_1, f_3_3, f_3_4, f_3_5, f_3_6, f_8_2, f_8_3, f_8_4, f_8_5, f_16_2, f_18_3, f_18_4, f_18_5, f_18_6, f_23_0, f_23_1, f_23_2, f_23_3, f_23_4, f_24_2, f_24_3, f_24_4, f_24_5, f_33_3, f_33_4, f_33_5, f_33_6, f_38_1, f_38_2, f_41_0, f_161_0, f_161_1, f_161_3, f_161_7, f_161_12, f_161_13, f_161_14, f_161_15, f_161_16, f_161_17, f_161_18, f_161_19, f_161_21, f_161_22, f_161_25, true_and, and_true, true_or, or_true, if_true, if_false, ne_eq, not_false_eq_true, and_self, t10, am_psh, am_clr, not_true_eq_false, Nat.reduceEqDiff, nI_1]
      exact h Q
theorem ncm_loop {k : Nat} (hk : k < 2 ^ 31) (hG : okG G) (hR : okR G R) (hx : mG (I 162) G) (hr : mR (I 162) G R) : ∀ (n j c : Nat) (K : am_I) (l4 : Option Value), j + n = gm G → c ≤ k → (∀ b, b ≠ 161 → (b < 167 ∨ 173 < b) → K b = I b) → (∀ j, j ≠ 20 → K 161 j = I 161 j) → ∃ I', (∀ Q, am_T (d + 5) 170 21 [some (.ref 161), some (.int (nI k)), some (.int (nI (k - c))), some (.int (nI j)), l4] [] (cS L) K J Q = Q (some (.int (enc (-107) (ncF (ncP G R) k n j c)))) (cS L) I' J) ∧ (∀ b, b ≠ 161 → (b < 167 ∨ 173 < b) → I' b = I b) ∧ ∀ j, j ≠ 20 → I' 161 j = I 161 j := by
  have hm32 := hG.1.2.2.2
  have y2 : am_ix (cS L) 162 20 2 := mx 2 (by omega)
  intro n
  induction n with
  | zero =>
    intro j c K l4 hj hc hf hf1
    have : j = gm G := by omega
    subst this
    refine ⟨K, fun Q => ?_, hf, hf1⟩
    rw [r170_21]
    simp only [r170_22, r170_23, r170_26, r170_27, r170_28, r170_77, r170_79, s_1, s_2, s_3, s_8, s_16, s_18, s_23, s_24, s_33, s_38, s_41, s_161, f_1_0, f_1_1, f_1_4, f_1_5, f_1_8, f_1_9, f_1_10, f_1_11, f_1_12, f_1_13, f_2_0, f_2_1, f_3_3, f_3_4, f_3_5, f_3_6, f_8_2, f_8_3, f_8_4, f_8_5, f_16_2, f_18_3, f_18_4, f_18_5, f_18_6, f_23_0, f_23_1, f_23_2, f_23_3, f_23_4, f_24_2, f_24_3, f_24_4, f_24_5, f_33_3, f_33_4, f_33_5, f_33_6, f_38_1, f_38_2, f_41_0, f_161_0, f_161_1, f_161_3, f_161_7, f_161_12, f_161_13, f_161_14, f_161_15, f_161_16, f_161_17, f_161_18, f_161_19, f_161_21, f_161_22, f_161_25, true_and, and_true, true_or, or_true, if_true, if_false, ne_eq, not_false_eq_true, and_self, t10, am_psh, am_clr, not_true_eq_false, Nat.reduceEqDiff, y2, show (2 : Int32).toNatClampNeg = 2 from by decide, hf 162 (by omega) (by omega), hx.1.2.2]
    rw [if_pos (Int32.le_refl _)]
    rfl
  | succ n ih =>
    intro j c K l4 hj hc hf hf1
    have hjm : j < gm G := by omega
    have e162 : K 162 = I 162 := hf 162 (by omega) (by omega)
    have run1 : ∀ Q, am_T (d + 5) 170 21 [some (.ref 161), some (.int (nI k)), some (.int (nI (k - c))), some (.int (nI j)), l4] [] (cS L) K J Q = am_T (d + 5) 170 36 [some (.ref 161), some (.int (nI k)), some (.int (nI (k - c))), some (.int (nI j)), l4] [.int (b32 (inTr G R j))] (cS L) K J Q := fun Q => by
      rw [r170_21]
      simp only [r170_22, r170_23, r170_26, r170_27, r170_28, r170_31, r170_32, r170_33, s_1, s_2, s_3, s_8, s_16, s_18, s_23, s_24, s_33, s_38, s_41, s_161, f_1_0, f_1_1, f_1_4, f_1_5, f_1_8, f_1_9, f_1_10, f_1_11, f_1_12, f_1_13, f_2_0, f_2_1, f_3_3, f_3_4, f_3_5, f_3_6, f_8_2, f_8_3, f_8_4, f_8_5, f_16_2, f_18_3, f_18_4, f_18_5, f_18_6, f_23_0, f_23_1, f_23_2, f_23_3, f_23_4, f_24_2, f_24_3, f_24_4, f_24_5, f_33_3, f_33_4, f_33_5, f_33_6, f_38_1, f_38_2, f_41_0, f_161_0, f_161_1, f_161_3, f_161_7, f_161_12, f_161_13, f_161_14, f_161_15, f_161_16, f_161_17, f_161_18, f_161_19, f_161_21, f_161_22, f_161_25, true_and, and_true, true_or, or_true, if_true, if_false, ne_eq, not_false_eq_true, and_self, t10, am_psh, am_clr, not_true_eq_false, Nat.reduceEqDiff, y2, show (2 : Int32).toNatClampNeg = 2 from by decide, hf 162 (by omega) (by omega), hx.1.2.2]
      rw [if_neg (nI_ge hjm (by omega)), mR_in hG hR (by rw [e162]; exact hx) (by rw [e162]; exact hr) hjm]
    unfold ncF
    by_cases e1 : inTr G R j
    · obtain ⟨K1, q1, q2, q3⟩ := c_mwo (d := d) (L := L) (J := J) (I := K) hG (by rw [e162]; exact hx) hjm
      have hf2 : ∀ b, b ≠ 161 → (b < 167 ∨ 173 < b) → K1 b = I b := fun b b1 hb => by rw [q2 b b1 hb]; exact hf b b1 hb
      have hf3 : ∀ j, j ≠ 20 → K1 161 j = I 161 j := fun j hj => by rw [q3 j hj]; exact hf1 j hj
      have e162' : K1 162 = I 162 := hf2 162 (by omega) (by omega)
      have run2 : ∀ Q, am_T (d + 5) 170 36 [some (.ref 161), some (.int (nI k)), some (.int (nI (k - c))), some (.int (nI j)), l4] [.int (b32 (inTr G R j))] (cS L) K J Q = if ncP G R j = true then am_T (d + 5) 170 62 [some (.ref 161), some (.int (nI k)), some (.int (nI (k - c))), some (.int (nI j)), some (.int (amo G (alW j)))] [] (cS L) K1 J Q else am_T (d + 5) 170 71 [some (.ref 161), some (.int (nI k)), some (.int (nI (k - c))), some (.int (nI j)), some (.int (amo G (alW j)))] [] (cS L) K1 J Q := fun Q => by
        rw [b32_T e1]
        simp only [r170_36, r170_39, r170_40, r170_41, s_1, s_2, s_3, s_8, s_16, s_18, s_23, s_24, s_33, s_38, s_41, s_161, f_1_0, f_1_1, f_1_4, f_1_5, f_1_8, f_1_9, f_1_10, f_1_11, f_1_12, f_1_13, f_2_0, f_2_1, f_3_3, f_3_4, f_3_5, f_3_6, f_8_2, f_8_3, f_8_4, f_8_5, f_16_2, f_18_3, f_18_4, f_18_5, f_18_6, f_23_0, f_23_1, f_23_2, f_23_3, f_23_4, f_24_2, f_24_3, f_24_4, f_24_5, f_33_3, f_33_4, f_33_5, f_33_6, f_38_1, f_38_2, f_41_0, f_161_0, f_161_1, f_161_3, f_161_7, f_161_12, f_161_13, f_161_14, f_161_15, f_161_16, f_161_17, f_161_18, f_161_19, f_161_21, f_161_22, f_161_25, true_and, and_true, true_or, or_true, if_true, if_false, ne_eq, not_false_eq_true, and_self, t10, am_psh, am_clr, not_true_eq_false, Nat.reduceEqDiff]
        rw [q1]; simp only [r170_44, r170_46, r170_48, r170_50, r170_53, r170_55, r170_56, s_1, s_2, s_3, s_8, s_16, s_18, s_23, s_24, s_33, s_38, s_41, s_161, f_1_0, f_1_1, f_1_4, f_1_5, f_1_8, f_1_9, f_1_10, f_1_11, f_1_12, f_1_13, f_2_0, f_2_1, f_3_3, f_3_4, f_3_5, f_3_6, f_8_2, f_8_3, f_8_4, f_8_5, f_16_2, f_18_3, f_18_4, f_18_5, f_18_6, f_23_0, f_23_1, f_23_2, f_23_3, f_23_4, f_24_2, f_24_3, f_24_4, f_24_5, f_33_3, f_33_4, f_33_5, f_33_6, f_38_1, f_38_2, f_41_0, f_161_0, f_161_1, f_161_3, f_161_7, f_161_12, f_161_13, f_161_14, f_161_15, f_161_16, f_161_17, f_161_18, f_161_19, f_161_21, f_161_22, f_161_25, true_and, and_true, true_or, or_true, if_true, if_false, ne_eq, not_false_eq_true, and_self, t10, am_psh, am_clr, not_true_eq_false, Nat.reduceEqDiff]
        by_cases e2 : amo G (alW j) = -107
        · rw [if_pos e2, if_pos (ncP_iff.mpr ⟨e1, Or.inl e2⟩)]
        · rw [if_neg e2, c_cor hG (by rw [e162']; exact hx) (okR_T hR) (by rw [e162']; exact hr.2.2)]
          simp only [r170_59, s_1, s_2, s_3, s_8, s_16, s_18, s_23, s_24, s_33, s_38, s_41, s_161, f_1_0, f_1_1, f_1_4, f_1_5, f_1_8, f_1_9, f_1_10, f_1_11, f_1_12, f_1_13, f_2_0, f_2_1, f_3_3, f_3_4, f_3_5, f_3_6, f_8_2, f_8_3, f_8_4, f_8_5, f_16_2, f_18_3, f_18_4, f_18_5, f_18_6, f_23_0, f_23_1, f_23_2, f_23_3, f_23_4, f_24_2, f_24_3, f_24_4, f_24_5, f_33_3, f_33_4, f_33_5, f_33_6, f_38_1, f_38_2, f_41_0, f_161_0, f_161_1, f_161_3, f_161_7, f_161_12, f_161_13, f_161_14, f_161_15, f_161_16, f_161_17, f_161_18, f_161_19, f_161_21, f_161_22, f_161_25, true_and, and_true, true_or, or_true, if_true, if_false, ne_eq, not_false_eq_true, and_self, t10, am_psh, am_clr, not_true_eq_false, Nat.reduceEqDiff]
          by_cases e3 : tcost G (coG G) (rt R) < amo G (alW j)
          · rw [if_neg (Int32.not_le.mpr e3), if_pos (ncP_iff.mpr ⟨e1, Or.inr e3⟩)]
          · rw [if_pos (Int32.not_lt.mp e3), if_neg (fun q => by rcases (ncP_iff.mp q).2 with z | z; exact e2 z; exact e3 z)]
      by_cases e2 : ncP G R j = true
      · rw [if_pos e2]
        by_cases e3 : c = k
        · rw [if_pos e3]
          refine ⟨K1, fun Q => ?_, hf2, hf3⟩
          rw [run1, run2, if_pos e2]
          simp only [r170_62, r170_63, r170_66, r170_67, s_1, s_2, s_3, s_8, s_16, s_18, s_23, s_24, s_33, s_38, s_41, s_161, f_1_0, f_1_1, f_1_4, f_1_5, f_1_8, f_1_9, f_1_10, f_1_11, f_1_12, f_1_13, f_2_0, f_2_1, f_3_3, f_3_4, f_3_5, f_3_6, f_8_2, f_8_3, f_8_4, f_8_5, f_16_2, f_18_3, f_18_4, f_18_5, f_18_6, f_23_0, f_23_1, f_23_2, f_23_3, f_23_4, f_24_2, f_24_3, f_24_4, f_24_5, f_33_3, f_33_4, f_33_5, f_33_6, f_38_1, f_38_2, f_41_0, f_161_0, f_161_1, f_161_3, f_161_7, f_161_12, f_161_13, f_161_14, f_161_15, f_161_16, f_161_17, f_161_18, f_161_19, f_161_21, f_161_22, f_161_25, true_and, and_true, true_or, or_true, if_true, if_false, ne_eq, not_false_eq_true, and_self, t10, am_psh, am_clr, not_true_eq_false, Nat.reduceEqDiff]
          rw [if_pos (show nI (k - c) = 0 by rw [e3, Nat.sub_self]; rfl)]
          rfl
        · rw [if_neg e3]
          obtain ⟨I', h, h2⟩ := ih (j + 1) (c + 1) K1 (some (.int (amo G (alW j)))) (by omega) (by omega) hf2 hf3
          refine ⟨I', fun Q => ?_, h2⟩
          rw [run1, run2, if_pos e2]
          simp only [r170_62, r170_63, r170_66, r170_67, r170_68, r170_71, r170_74, s_1, s_2, s_3, s_8, s_16, s_18, s_23, s_24, s_33, s_38, s_41, s_161, f_1_0, f_1_1, f_1_4, f_1_5, f_1_8, f_1_9, f_1_10, f_1_11, f_1_12, f_1_13, f_2_0, f_2_1, f_3_3, f_3_4, f_3_5, f_3_6, f_8_2, f_8_3, f_8_4, f_8_5, f_16_2, f_18_3, f_18_4, f_18_5, f_18_6, f_23_0, f_23_1, f_23_2, f_23_3, f_23_4, f_24_2, f_24_3, f_24_4, f_24_5, f_33_3, f_33_4, f_33_5, f_33_6, f_38_1, f_38_2, f_41_0, f_161_0, f_161_1, f_161_3, f_161_7, f_161_12, f_161_13, f_161_14, f_161_15, f_161_16, f_161_17, f_161_18, f_161_19, f_161_21, f_161_22, f_161_25, true_and, and_true, true_or, or_true, if_true, if_false, ne_eq, not_false_eq_true, and_self, t10, am_psh, am_clr, not_true_eq_false, Nat.reduceEqDiff, nI_1]
          rw [if_neg (show ¬ nI (k - c) = 0 from nI_ne0 (by omega) (by omega))]
          have : nI (k - c) + (-1) = nI (k - (c + 1)) := by
            rw [← Int32.sub_eq_add_neg, show k - c = (k - (c + 1)) + 1 by omega]; exact nI_pred _
          rw [this]
          exact h Q
      · rw [if_neg e2]
        obtain ⟨I', h, h2⟩ := ih (j + 1) c K1 (some (.int (amo G (alW j)))) (by omega) hc hf2 hf3
        refine ⟨I', fun Q => ?_, h2⟩
        rw [run1, run2, if_neg e2]
        simp only [r170_71, r170_74, s_1, s_2, s_3, s_8, s_16, s_18, s_23, s_24, s_33, s_38, s_41, s_161, f_1_0, f_1_1, f_1_4, f_1_5, f_1_8, f_1_9, f_1_10, f_1_11, f_1_12, f_1_13, f_2_0, f_2_1, f_3_3, f_3_4, f_3_5, f_3_6, f_8_2, f_8_3, f_8_4, f_8_5, f_16_2, f_18_3, f_18_4, f_18_5, f_18_6, f_23_0, f_23_1, f_23_2, f_23_3, f_23_4, f_24_2, f_24_3, f_24_4, f_24_5, f_33_3, f_33_4, f_33_5, f_33_6, f_38_1, f_38_2, f_41_0, f_161_0, f_161_1, f_161_3, f_161_7, f_161_12, f_161_13, f_161_14, f_161_15, f_161_16, f_161_17, f_161_18, f_161_19, f_161_21, f_161_22, f_161_25, true_and, and_true, true_or, or_true, if_true, if_false, ne_eq, not_false_eq_true, and_self, t10, am_psh, am_clr, not_true_eq_false, Nat.reduceEqDiff, nI_1]
        exact h Q
    · rw [if_neg (fun q => e1 (ncP_iff.mp q).1)]
      obtain ⟨I', h, h2⟩ := ih (j + 1) c K l4 (by omega) hc hf hf1
      refine ⟨I', fun Q => ?_, h2⟩
      rw [run1, b32_F e1]
      simp only [r170_36, r170_71, r170_74, s_1, s_2, s_3, s_8, s_16, s_18, s_23, s_24, s_33, s_38, s_41, s_161, f_1_0, f_1_1, f_1_4, f_1_5, f_1_8, f_1_9, f_1_10, f_1_11, f_1_12, f_1_13, f_2_0, f_2_1, f_3_3, f_3_4, f_3_5, f_3_6, f_8_2, f_8_3, f_8_4, f_8_5, f_16_2, f_18_3, f_18_4, f_18_5, f_18_6, f_23_0, f_23_1, f_23_2, f_23_3, f_23_4, f_24_2, f_24_3, f_24_4, f_24_5, f_33_3, f_33_4, f_33_5, f_33_6, f_38_1, f_38_2, f_41_0, f_161_0, f_161_1, f_161_3, f_161_7, f_161_12, f_161_13, f_161_14, f_161_15, f_161_16, f_161_17, f_161_18, f_161_19, f_161_21, f_161_22, f_161_25, true_and, and_true, true_or, or_true, if_true, if_false, ne_eq, not_false_eq_true, and_self, t10, am_psh, am_clr, not_true_eq_false, Nat.reduceEqDiff, nI_1]
      exact h Q
theorem op_necessary (x : Int32) : am_OK L Inv 88 170 [.int x] := by
  intro I J hI
  have hI0 := hI
  obtain ⟨⟨G, o⟩, hs, s0, s1, n, tx, hok, hx, hm, hl, hh, hsl, hru, htx⟩ := hI
  have hm32 : gm G ≤ 32 := hok.1.1.2.2.2
  by_cases hx0 : x < 0
  · refine ok_same hI0 (x := -103) (fun Q => ?_) (fun Q => ?_)
    · rw [e88]; simp only [r88_0, r88_1, r88_4, r88_6, s_1, s_2, s_3, s_8, s_16, s_18, s_23, s_24, s_33, s_38, s_41, s_161, f_1_0, f_1_1, f_1_4, f_1_5, f_1_8, f_1_9, f_1_10, f_1_11, f_1_12, f_1_13, f_2_0, f_2_1, f_3_3, f_3_4, f_3_5, f_3_6, f_8_2, f_8_3, f_8_4, f_8_5, f_16_2, f_18_3, f_18_4, f_18_5, f_18_6, f_23_0, f_23_1, f_23_2, f_23_3, f_23_4, f_24_2, f_24_3, f_24_4, f_24_5, f_33_3, f_33_4, f_33_5, f_33_6, f_38_1, f_38_2, f_41_0, f_161_0, f_161_1, f_161_3, f_161_7, f_161_12, f_161_13, f_161_14, f_161_15, f_161_16, f_161_17, f_161_18, f_161_19, f_161_21, f_161_22, f_161_25, true_and, and_true, true_or, or_true, if_true, if_false, ne_eq, not_false_eq_true, and_self, t10, am_psh, am_clr, not_true_eq_false, Nat.reduceEqDiff]
      rw [if_neg (Int32.not_le.mpr hx0)]
    · rw [e170]; simp only [r170_0, r170_1, r170_4, r170_6, s_1, s_2, s_3, s_8, s_16, s_18, s_23, s_24, s_33, s_38, s_41, s_161, f_1_0, f_1_1, f_1_4, f_1_5, f_1_8, f_1_9, f_1_10, f_1_11, f_1_12, f_1_13, f_2_0, f_2_1, f_3_3, f_3_4, f_3_5, f_3_6, f_8_2, f_8_3, f_8_4, f_8_5, f_16_2, f_18_3, f_18_4, f_18_5, f_18_6, f_23_0, f_23_1, f_23_2, f_23_3, f_23_4, f_24_2, f_24_3, f_24_4, f_24_5, f_33_3, f_33_4, f_33_5, f_33_6, f_38_1, f_38_2, f_41_0, f_161_0, f_161_1, f_161_3, f_161_7, f_161_12, f_161_13, f_161_14, f_161_15, f_161_16, f_161_17, f_161_18, f_161_19, f_161_21, f_161_22, f_161_25, true_and, and_true, true_or, or_true, if_true, if_false, ne_eq, not_false_eq_true, and_self, t10, am_psh, am_clr, not_true_eq_false, Nat.reduceEqDiff]
      rw [if_neg (Int32.not_le.mpr hx0)]
  obtain ⟨k, hk, rfl⟩ := nI_of hx0
  have z0 : (0 : Int32) ≤ nI k := nI_pos' hk
  obtain ⟨I1, k1, k2⟩ := c_have (d := 34) (L := L) (J := J) hok hx
  have hx1 := k2.2.2.2
  have runX : ∀ Q, am_C 40 88 [.ref 1, .int (nI k)] (cS L) I J Q = am_T 39 88 11 [some (.ref 1), some (.int (nI k)), none, none] [.int (oB (hrc G o))] (cS L) I1 J Q := fun Q => by
    rw [e88]; simp only [r88_0, r88_1, r88_4, r88_6, r88_7, r88_8, s_1, s_2, s_3, s_8, s_16, s_18, s_23, s_24, s_33, s_38, s_41, s_161, f_1_0, f_1_1, f_1_4, f_1_5, f_1_8, f_1_9, f_1_10, f_1_11, f_1_12, f_1_13, f_2_0, f_2_1, f_3_3, f_3_4, f_3_5, f_3_6, f_8_2, f_8_3, f_8_4, f_8_5, f_16_2, f_18_3, f_18_4, f_18_5, f_18_6, f_23_0, f_23_1, f_23_2, f_23_3, f_23_4, f_24_2, f_24_3, f_24_4, f_24_5, f_33_3, f_33_4, f_33_5, f_33_6, f_38_1, f_38_2, f_41_0, f_161_0, f_161_1, f_161_3, f_161_7, f_161_12, f_161_13, f_161_14, f_161_15, f_161_16, f_161_17, f_161_18, f_161_19, f_161_21, f_161_22, f_161_25, true_and, and_true, true_or, or_true, if_true, if_false, ne_eq, not_false_eq_true, and_self, t10, am_psh, am_clr, not_true_eq_false, Nat.reduceEqDiff]
    rw [if_pos z0, k1]
  have hok' := hrc_ok hok
  have runM : ∀ (I1 I2 : am_I), (∀ Q, am_C (34 + 5) 152 [.ref 161] (cS L) I1 J Q = Q (some (.int (oB (hrc G o)))) (cS L) I2 J) → ∀ Q, am_C 40 170 [.ref 161, .int (nI k)] (cS L) I1 J Q = am_T 39 170 11 [some (.ref 161), some (.int (nI k)), none, none, none] [.int (oB (hrc G o))] (cS L) I2 J Q := fun I1 I2 m1 Q => by
    rw [e170]; simp only [r170_0, r170_1, r170_4, r170_6, r170_7, r170_8, s_1, s_2, s_3, s_8, s_16, s_18, s_23, s_24, s_33, s_38, s_41, s_161, f_1_0, f_1_1, f_1_4, f_1_5, f_1_8, f_1_9, f_1_10, f_1_11, f_1_12, f_1_13, f_2_0, f_2_1, f_3_3, f_3_4, f_3_5, f_3_6, f_8_2, f_8_3, f_8_4, f_8_5, f_16_2, f_18_3, f_18_4, f_18_5, f_18_6, f_23_0, f_23_1, f_23_2, f_23_3, f_23_4, f_24_2, f_24_3, f_24_4, f_24_5, f_33_3, f_33_4, f_33_5, f_33_6, f_38_1, f_38_2, f_41_0, f_161_0, f_161_1, f_161_3, f_161_7, f_161_12, f_161_13, f_161_14, f_161_15, f_161_16, f_161_17, f_161_18, f_161_19, f_161_21, f_161_22, f_161_25, true_and, and_true, true_or, or_true, if_true, if_false, ne_eq, not_false_eq_true, and_self, t10, am_psh, am_clr, not_true_eq_false, Nat.reduceEqDiff]
    rw [if_pos z0, m1]
  cases ho : hrc G o with
  | none =>
    obtain ⟨I2, m1, m2⟩ := c_has (d := 34) (L := L) (J := J) (I := I1) hok (by rw [xP_162 k2]; exact hm)
    have hInv : Inv I2 J := Inv_rec hok' hl hh hsl hru htx k2 m2
    refine ⟨.int (-106), I1, J, I2, J, fun Q => ?_, xP_0 k2, fun Q => ?_, by rw [mP_0 m2, xP_0 k2], hInv, _, rfl⟩
    · rw [runX, ho]; simp only [r88_11, r88_14, r88_16, s_1, s_2, s_3, s_8, s_16, s_18, s_23, s_24, s_33, s_38, s_41, s_161, f_1_0, f_1_1, f_1_4, f_1_5, f_1_8, f_1_9, f_1_10, f_1_11, f_1_12, f_1_13, f_2_0, f_2_1, f_3_3, f_3_4, f_3_5, f_3_6, f_8_2, f_8_3, f_8_4, f_8_5, f_16_2, f_18_3, f_18_4, f_18_5, f_18_6, f_23_0, f_23_1, f_23_2, f_23_3, f_23_4, f_24_2, f_24_3, f_24_4, f_24_5, f_33_3, f_33_4, f_33_5, f_33_6, f_38_1, f_38_2, f_41_0, f_161_0, f_161_1, f_161_3, f_161_7, f_161_12, f_161_13, f_161_14, f_161_15, f_161_16, f_161_17, f_161_18, f_161_19, f_161_21, f_161_22, f_161_25, true_and, and_true, true_or, or_true, if_true, if_false, ne_eq, not_false_eq_true, and_self, t10, am_psh, am_clr, not_true_eq_false, Nat.reduceEqDiff, oB]
    · rw [runM I1 I2 m1, ho]; simp only [r170_11, r170_14, r170_16, s_1, s_2, s_3, s_8, s_16, s_18, s_23, s_24, s_33, s_38, s_41, s_161, f_1_0, f_1_1, f_1_4, f_1_5, f_1_8, f_1_9, f_1_10, f_1_11, f_1_12, f_1_13, f_2_0, f_2_1, f_3_3, f_3_4, f_3_5, f_3_6, f_8_2, f_8_3, f_8_4, f_8_5, f_16_2, f_18_3, f_18_4, f_18_5, f_18_6, f_23_0, f_23_1, f_23_2, f_23_3, f_23_4, f_24_2, f_24_3, f_24_4, f_24_5, f_33_3, f_33_4, f_33_5, f_33_6, f_38_1, f_38_2, f_41_0, f_161_0, f_161_1, f_161_3, f_161_7, f_161_12, f_161_13, f_161_14, f_161_15, f_161_16, f_161_17, f_161_18, f_161_19, f_161_21, f_161_22, f_161_25, true_and, and_true, true_or, or_true, if_true, if_false, ne_eq, not_false_eq_true, and_self, t10, am_psh, am_clr, not_true_eq_false, Nat.reduceEqDiff, oB]
  | some R =>
    rw [ho] at hx1 hok'
    have hR := hok'.2 R rfl
    obtain ⟨I1', q1, q2⟩ := nc_loop (d := 32) (L := L) (J := J) (I := I1) hk hok.1 hR hx1.1 hx1.2.2 (gm G) 0 0 I1 (by show 0 + gm G = gm G; omega) (by omega) (fun _ _ => rfl)
    have k2' := xPost_scr q2 k2
    obtain ⟨I2, m1, m2⟩ := c_has (d := 34) (L := L) (J := J) (I := I1') hok (by rw [xP_162 k2']; exact hm)
    have hm1 := m2.2.2.2
    rw [ho] at hm1
    obtain ⟨I2', p1, p2, p3⟩ := ncm_loop (d := 34) (L := L) (J := J) (I := I2) hk hok.1 hR hm1.1 hm1.2.2 (gm G) 0 0 I2 none (by show 0 + gm G = gm G; omega) (by omega) (fun _ _ _ => rfl) (fun _ _ => rfl)
    have m2' := mPost_scr p2 p3 m2
    have hInv : Inv I2' J := Inv_rec (hrc_ok hok) hl hh hsl hru htx k2' m2'
    refine ⟨.int (enc (-107) (ncF (ncP G R) k (gm G) 0 0)), I1', J, I2', J, fun Q => ?_, xP_0 k2', fun Q => ?_, by rw [mP_0 m2', xP_0 k2'], hInv, _, rfl⟩
    · rw [runX, ho]; simp only [r88_11, r88_14, r88_16, r88_17, r88_18, r88_19, r88_20, s_1, s_2, s_3, s_8, s_16, s_18, s_23, s_24, s_33, s_38, s_41, s_161, f_1_0, f_1_1, f_1_4, f_1_5, f_1_8, f_1_9, f_1_10, f_1_11, f_1_12, f_1_13, f_2_0, f_2_1, f_3_3, f_3_4, f_3_5, f_3_6, f_8_2, f_8_3, f_8_4, f_8_5, f_16_2, f_18_3, f_18_4, f_18_5, f_18_6, f_23_0, f_23_1, f_23_2, f_23_3, f_23_4, f_24_2, f_24_3, f_24_4, f_24_5, f_33_3, f_33_4, f_33_5, f_33_6, f_38_1, f_38_2, f_41_0, f_161_0, f_161_1, f_161_3, f_161_7, f_161_12, f_161_13, f_161_14, f_161_15, f_161_16, f_161_17, f_161_18, f_161_19, f_161_21, f_161_22, f_161_25, true_and, and_true, true_or, or_true, if_true, if_false, ne_eq, not_false_eq_true, and_self, t10, am_psh, am_clr, not_true_eq_false, Nat.reduceEqDiff, oB]
      exact q1 Q
    · rw [runM I1' I2 m1, ho]; simp only [r170_11, r170_14, r170_16, r170_17, r170_18, r170_19, r170_20, s_1, s_2, s_3, s_8, s_16, s_18, s_23, s_24, s_33, s_38, s_41, s_161, f_1_0, f_1_1, f_1_4, f_1_5, f_1_8, f_1_9, f_1_10, f_1_11, f_1_12, f_1_13, f_2_0, f_2_1, f_3_3, f_3_4, f_3_5, f_3_6, f_8_2, f_8_3, f_8_4, f_8_5, f_16_2, f_18_3, f_18_4, f_18_5, f_18_6, f_23_0, f_23_1, f_23_2, f_23_3, f_23_4, f_24_2, f_24_3, f_24_4, f_24_5, f_33_3, f_33_4, f_33_5, f_33_6, f_38_1, f_38_2, f_41_0, f_161_0, f_161_1, f_161_3, f_161_7, f_161_12, f_161_13, f_161_14, f_161_15, f_161_16, f_161_17, f_161_18, f_161_19, f_161_21, f_161_22, f_161_25, true_and, and_true, true_or, or_true, if_true, if_false, ne_eq, not_false_eq_true, and_self, t10, am_psh, am_clr, not_true_eq_false, Nat.reduceEqDiff, oB]
      exact p1 Q
end SB
