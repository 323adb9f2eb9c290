/-! removeArc: the record's tree, and both methods -/
section RN
variable {d L : Nat} {I I' : am_I} {J J' : am_J} {Q : am_Q}
/-- the class' tree, its first k places lowered -/
def ew (f : Nat → Int32) (x : Int32) (k : Nat) : Nat → Int32 := fun j => if j < k ∧ x < f j then f j - 1 else f j
theorem ew_0 (f : Nat → Int32) (x : Int32) : ew f x 0 = f := by funext j; unfold ew; rw [if_neg (by omega)]
theorem ew_at (f : Nat → Int32) (x : Int32) (k : Nat) : ew f x k k = f k := by unfold ew; rw [if_neg (by omega)]
theorem ew_s1 (f : Nat → Int32) {x : Int32} {k : Nat} (h : x < f k) : fset (ew f x k) k (f k - 1) = ew f x (k + 1) := by
  funext j
  unfold ew fset
  dsimp only
  by_cases e : j = k
  · subst e; rw [if_pos rfl, if_pos ⟨by omega, h⟩]
  · by_cases g : j < k ∧ x < f j
    · rw [if_neg e, if_pos g, if_pos ⟨by omega, g.2⟩]
    · rw [if_neg e, if_neg g, if_neg (fun q => g ⟨by omega, q.2⟩)]
theorem ew_s0 (f : Nat → Int32) {x : Int32} {k : Nat} (h : ¬ x < f k) : ew f x k = ew f x (k + 1) := by
  funext j
  unfold ew
  by_cases e : j = k
  · subst e; rw [if_neg (fun q => h q.2), if_neg (fun q => h q.2)]
  · by_cases g : j < k ∧ x < f j
    · rw [if_pos g, if_pos ⟨by omega, g.2⟩]
    · rw [if_neg g, if_neg (fun q => g ⟨by omega, q.2⟩)]
theorem fr_loop {a n : Nat} (hn : n ≤ 8) (h0 : I 3 0 = nI n) : ∀ (m k : Nat), k + m = n → am_T d 35 20 [some (.ref 8), some (.ref 3), some (.int (nI a)), some (.int (nI k))] [] (cS L) (am_row I 12 (ew (I 12) (nI a) k)) J Q = Q (some (.int 1)) (cS L) (am_row I 12 (ew (I 12) (nI a) n)) J := by
  have c3 : ∀ f, (am_row I 12 f) 3 = I 3 := fun f => am_row_ne (by omega)
  intro m
  induction m with
  | zero =>
    intro k hk
    have hk : k = n := by omega
    subst hk
    rw [r35_20]
    simp only [r35_21, r35_22, r35_25, r35_54, r35_55, s_1, s_2, s_3, s_8, s_16, s_18, s_23, s_24, s_33, s_38, s_41, s_161, f_1_0, f_1_1, f_1_4, f_1_5, f_1_8, f_1_9, f_1_10, f_1_11, f_1_12, f_1_13, f_2_0, f_2_1, f_3_3, f_3_4, f_3_5, f_3_6, f_8_2, f_8_3, f_8_4, f_8_5, f_16_2, f_18_3, f_18_4, f_18_5, f_18_6, f_23_0, f_23_1, f_23_2, f_23_3, f_23_4, f_24_2, f_24_3, f_24_4, f_24_5, f_33_3, f_33_4, f_33_5, f_33_6, f_38_1, f_38_2, f_41_0, f_161_0, f_161_1, f_161_3, f_161_7, f_161_12, f_161_13, f_161_14, f_161_15, f_161_16, f_161_17, f_161_18, f_161_19, f_161_21, f_161_22, f_161_25, true_and, and_true, true_or, or_true, if_true, if_false, ne_eq, not_false_eq_true, and_self, t10, am_psh, am_clr, not_true_eq_false, Nat.reduceEqDiff, c3, h0]
    rw [if_pos (Int32.le_refl _)]
  | succ m ih =>
    intro k hk
    rw [r35_20]
    have y1 : am_ix (cS L) 12 20 (nI k) := ix_nI (k_12 L) (n_12 L) (by omega) (by omega)
    have z1 : am_ixw (cS L) 12 20 (nI k) := ixw_nI (k_12 L) (by omega) (n_12 L) (by omega) (by omega)
    simp only [r35_21, r35_22, r35_25, r35_28, r35_29, r35_32, r35_33, r35_34, r35_35, r35_38, r35_39, r35_42, r35_43, r35_44, r35_45, r35_46, r35_47, r35_48, r35_51, s_1, s_2, s_3, s_8, s_16, s_18, s_23, s_24, s_33, s_38, s_41, s_161, f_1_0, f_1_1, f_1_4, f_1_5, f_1_8, f_1_9, f_1_10, f_1_11, f_1_12, f_1_13, f_2_0, f_2_1, f_3_3, f_3_4, f_3_5, f_3_6, f_8_2, f_8_3, f_8_4, f_8_5, f_16_2, f_18_3, f_18_4, f_18_5, f_18_6, f_23_0, f_23_1, f_23_2, f_23_3, f_23_4, f_24_2, f_24_3, f_24_4, f_24_5, f_33_3, f_33_4, f_33_5, f_33_6, f_38_1, f_38_2, f_41_0, f_161_0, f_161_1, f_161_3, f_161_7, f_161_12, f_161_13, f_161_14, f_161_15, f_161_16, f_161_17, f_161_18, f_161_19, f_161_21, f_161_22, f_161_25, true_and, and_true, true_or, or_true, if_true, if_false, ne_eq, not_false_eq_true, and_self, t10, am_psh, am_clr, not_true_eq_false, Nat.reduceEqDiff, c3, h0, y1, z1, n_cl (show k < 2 ^ 31 by omega), am_row_eq, ew_at, nI_1]
    rw [if_neg (nI_ge (show k < n by omega) (by omega))]
    have ih := ih (k + 1) (by omega)
    by_cases e : nI a < I 12 k
    · rw [if_neg (Int32.not_le.mpr e), up_fset, row_row, am_row_eq, ew_s1 _ e]
      exact ih
    · rw [if_pos (Int32.not_lt.mp e), ew_s0 _ e]
      exact ih
theorem c_followRem {s : St} {a : Nat} (hok : okS s) (hx : xS I 3 8 s) (ha : a < gm s.1) : ∃ r I', (r = 0 ∨ r = 1) ∧ (∀ Q, am_C (d + 2) 35 [.ref 8, .ref 3, .int (nI a)] (cS L) I J Q = Q (some (.int r)) (cS L) I' J) ∧ (∀ b, b ≠ 12 → I' b = I b) ∧ (r = 1 → ∃ R, s.2 = some R ∧ ¬ inTr s.1 R a ∧ ∀ v, v < gn s.1 → I' 12 v = if v = gr s.1 then -1 else nI (rt (delR R a) v)) ∧ (r = 0 → ∀ R, s.2 = some R → inTr s.1 R a) := by
  obtain ⟨G, o⟩ := s
  have hn : gn G ≤ 8 := hok.1.1.2.1
  have hm : gm G ≤ 32 := hok.1.1.2.2.2
  have ha : a < gm G := ha
  cases o with
  | none =>
    have h8 : I 8 0 = 0 := hx.2
    refine ⟨0, I, Or.inl rfl, fun Q => ?_, fun _ _ => rfl, fun q => absurd q (by decide), fun _ R h => by cases h⟩
    rw [e35]; simp only [r35_0, r35_1, r35_4, r35_7, r35_8, r35_9, r35_10, r35_13, r35_16, r35_17, r35_18, r35_19, s_1, s_2, s_3, s_8, s_16, s_18, s_23, s_24, s_33, s_38, s_41, s_161, f_1_0, f_1_1, f_1_4, f_1_5, f_1_8, f_1_9, f_1_10, f_1_11, f_1_12, f_1_13, f_2_0, f_2_1, f_3_3, f_3_4, f_3_5, f_3_6, f_8_2, f_8_3, f_8_4, f_8_5, f_16_2, f_18_3, f_18_4, f_18_5, f_18_6, f_23_0, f_23_1, f_23_2, f_23_3, f_23_4, f_24_2, f_24_3, f_24_4, f_24_5, f_33_3, f_33_4, f_33_5, f_33_6, f_38_1, f_38_2, f_41_0, f_161_0, f_161_1, f_161_3, f_161_7, f_161_12, f_161_13, f_161_14, f_161_15, f_161_16, f_161_17, f_161_18, f_161_19, f_161_21, f_161_22, f_161_25, true_and, and_true, true_or, or_true, if_true, if_false, ne_eq, not_false_eq_true, and_self, t10, am_psh, am_clr, not_true_eq_false, Nat.reduceEqDiff, h8, t01]
  | some R =>
    have h8 : I 8 0 = 1 := hx.2.1
    have hR := hok.2 R rfl
    have hcon := fun Q => c_contains (d := d) (L := L) (J := J) (Q := Q) hok.1 hR hx.1 hx.2.2 ha
    by_cases e : inTr G R a
    · refine ⟨0, I, Or.inl rfl, fun Q => ?_, fun _ _ => rfl, fun q => absurd q (by decide), fun _ R' h => by cases h; exact e⟩
      rw [e35]; simp only [r35_0, r35_1, r35_4, r35_7, r35_8, r35_9, r35_10, s_1, s_2, s_3, s_8, s_16, s_18, s_23, s_24, s_33, s_38, s_41, s_161, f_1_0, f_1_1, f_1_4, f_1_5, f_1_8, f_1_9, f_1_10, f_1_11, f_1_12, f_1_13, f_2_0, f_2_1, f_3_3, f_3_4, f_3_5, f_3_6, f_8_2, f_8_3, f_8_4, f_8_5, f_16_2, f_18_3, f_18_4, f_18_5, f_18_6, f_23_0, f_23_1, f_23_2, f_23_3, f_23_4, f_24_2, f_24_3, f_24_4, f_24_5, f_33_3, f_33_4, f_33_5, f_33_6, f_38_1, f_38_2, f_41_0, f_161_0, f_161_1, f_161_3, f_161_7, f_161_12, f_161_13, f_161_14, f_161_15, f_161_16, f_161_17, f_161_18, f_161_19, f_161_21, f_161_22, f_161_25, true_and, and_true, true_or, or_true, if_true, if_false, ne_eq, not_false_eq_true, and_self, t10, am_psh, am_clr, not_true_eq_false, Nat.reduceEqDiff, h8]
      rw [hcon, b32_T (p := inTr G R a) e]; simp only [r35_13, r35_16, r35_17, r35_18, r35_19, s_1, s_2, s_3, s_8, s_16, s_18, s_23, s_24, s_33, s_38, s_41, s_161, f_1_0, f_1_1, f_1_4, f_1_5, f_1_8, f_1_9, f_1_10, f_1_11, f_1_12, f_1_13, f_2_0, f_2_1, f_3_3, f_3_4, f_3_5, f_3_6, f_8_2, f_8_3, f_8_4, f_8_5, f_16_2, f_18_3, f_18_4, f_18_5, f_18_6, f_23_0, f_23_1, f_23_2, f_23_3, f_23_4, f_24_2, f_24_3, f_24_4, f_24_5, f_33_3, f_33_4, f_33_5, f_33_6, f_38_1, f_38_2, f_41_0, f_161_0, f_161_1, f_161_3, f_161_7, f_161_12, f_161_13, f_161_14, f_161_15, f_161_16, f_161_17, f_161_18, f_161_19, f_161_21, f_161_22, f_161_25, true_and, and_true, true_or, or_true, if_true, if_false, ne_eq, not_false_eq_true, and_self, t10, am_psh, am_clr, not_true_eq_false, Nat.reduceEqDiff, t01]
    · refine ⟨1, am_row I 12 (ew (I 12) (nI a) (gn G)), Or.inr rfl, fun Q => ?_, fun b hb => am_row_ne hb, fun _ => ⟨R, rfl, e, fun v hv => ?_⟩, fun q => absurd q (by decide)⟩
      · rw [e35]; simp only [r35_0, r35_1, r35_4, r35_7, r35_8, r35_9, r35_10, s_1, s_2, s_3, s_8, s_16, s_18, s_23, s_24, s_33, s_38, s_41, s_161, f_1_0, f_1_1, f_1_4, f_1_5, f_1_8, f_1_9, f_1_10, f_1_11, f_1_12, f_1_13, f_2_0, f_2_1, f_3_3, f_3_4, f_3_5, f_3_6, f_8_2, f_8_3, f_8_4, f_8_5, f_16_2, f_18_3, f_18_4, f_18_5, f_18_6, f_23_0, f_23_1, f_23_2, f_23_3, f_23_4, f_24_2, f_24_3, f_24_4, f_24_5, f_33_3, f_33_4, f_33_5, f_33_6, f_38_1, f_38_2, f_41_0, f_161_0, f_161_1, f_161_3, f_161_7, f_161_12, f_161_13, f_161_14, f_161_15, f_161_16, f_161_17, f_161_18, f_161_19, f_161_21, f_161_22, f_161_25, true_and, and_true, true_or, or_true, if_true, if_false, ne_eq, not_false_eq_true, and_self, t10, am_psh, am_clr, not_true_eq_false, Nat.reduceEqDiff, h8]
        rw [hcon, b32_F (p := inTr G R a) e]; simp only [r35_13, r35_16, r35_17, r35_18, r35_19, s_1, s_2, s_3, s_8, s_16, s_18, s_23, s_24, s_33, s_38, s_41, s_161, f_1_0, f_1_1, f_1_4, f_1_5, f_1_8, f_1_9, f_1_10, f_1_11, f_1_12, f_1_13, f_2_0, f_2_1, f_3_3, f_3_4, f_3_5, f_3_6, f_8_2, f_8_3, f_8_4, f_8_5, f_16_2, f_18_3, f_18_4, f_18_5, f_18_6, f_23_0, f_23_1, f_23_2, f_23_3, f_23_4, f_24_2, f_24_3, f_24_4, f_24_5, f_33_3, f_33_4, f_33_5, f_33_6, f_38_1, f_38_2, f_41_0, f_161_0, f_161_1, f_161_3, f_161_7, f_161_12, f_161_13, f_161_14, f_161_15, f_161_16, f_161_17, f_161_18, f_161_19, f_161_21, f_161_22, f_161_25, true_and, and_true, true_or, or_true, if_true, if_false, ne_eq, not_false_eq_true, and_self, t10, am_psh, am_clr, not_true_eq_false, Nat.reduceEqDiff]
        have h := fr_loop (d := d + 1) (L := L) (J := J) (Q := Q) (a := a) hn hx.1.1.1 (gn G) 0 (by omega)
        rw [ew_0, row_id rfl] at h
        exact h
      · have hv : v < gn G := hv
        have hv2 : I 12 v = if v = gr G then -1 else nI (rt R v) := hx.2.2.2.2 v hv
        rw [am_row_eq]
        unfold ew
        by_cases ev : v = gr G
        · rw [if_pos ev] at hv2
          rw [if_pos (show v = gr G from ev), hv2, if_neg (fun q => absurd q.2 (by
            rw [Int32.lt_iff_toInt_lt, n_ti (by omega), show (-1 : Int32).toInt = -1 from by decide]; omega))]
        · rw [if_neg ev] at hv2
          obtain ⟨r1, -⟩ := hR.2.2 v hv ev
          have r1 : rt R v < gm G := r1
          rw [if_neg (show ¬ v = gr G from ev), hv2]
          show _ = nI (if a < rt R v then rt R v - 1 else rt R v)
          by_cases g : a < rt R v
          · rw [if_pos ⟨hv, nI_lt g (by omega)⟩, if_pos g]
            obtain ⟨y, hy⟩ : ∃ y, rt R v = y + 1 := ⟨rt R v - 1, by omega⟩
            rw [hy, nI_pred]; rfl
          · rw [if_neg (fun q => g ((nI_ltI (by omega) (by omega)).mp q.2)), if_neg g]
/-- the model's three rows -/
def dw (w : Nat → Int32) (a k : Nat) : Nat → Int32 := fun j => if (3 + a ≤ j ∧ j < 3 + k) ∨ (35 + a ≤ j ∧ j < 35 + k) ∨ (67 + a ≤ j ∧ j < 67 + k) then w (j + 1) else w j
theorem dw_0 (w : Nat → Int32) (a : Nat) : dw w a a = w := by funext j; unfold dw; rw [if_neg (by omega)]
theorem dw_s (w : Nat → Int32) {a k : Nat} (h : a ≤ k) (hk : k < 31) : fset (fset (fset (dw w a k) (3 + k) (w (3 + k + 1))) (35 + k) (w (35 + k + 1))) (67 + k) (w (67 + k + 1)) = dw w a (k + 1) := by
  funext j
  unfold dw fset
  dsimp only
  by_cases e3 : j = 67 + k
  · subst e3; rw [if_pos rfl, if_pos (by omega)]
  · by_cases e2 : j = 35 + k
    · subst e2; rw [if_neg e3, if_pos rfl, if_pos (by omega)]
    · by_cases e1 : j = 3 + k
      · subst e1; rw [if_neg e3, if_neg e2, if_pos rfl, if_pos (by omega)]
      · rw [if_neg e3, if_neg e2, if_neg e1]
        by_cases g : (3 + a ≤ j ∧ j < 3 + k) ∨ (35 + a ≤ j ∧ j < 35 + k) ∨ (67 + a ≤ j ∧ j < 67 + k)
        · rw [if_pos g, if_pos (by omega)]
        · rw [if_neg g, if_neg (by omega)]
theorem dw_at (w : Nat → Int32) {a k j : Nat} (h : (3 + k ≤ j ∧ j < 35) ∨ (35 + k ≤ j ∧ j < 67) ∨ 67 + k ≤ j ∨ j < 3) : dw w a k j = w j := by unfold dw; rw [if_neg (by omega)]
theorem md_loop {a m : Nat} (hm : m ≤ 31) (hc : I 162 2 = nI m) : ∀ (n k : Nat), k + n = m → a ≤ k → am_T d 122 55 [some (.ref 161), some (.int (nI a)), some (.int (nI k))] [] (cS L) (am_row I 162 (dw (I 162) a k)) J Q = am_T d 122 129 [some (.ref 161), some (.int (nI a)), some (.int (nI m))] [] (cS L) (am_row I 162 (dw (I 162) a m)) J Q := by
  have x2 : am_ix (cS L) 162 20 2 := mx 2 (by omega)
  intro n
  induction n with
  | zero =>
    intro k hk hak
    have hk : k = m := by omega
    subst hk
    rw [r122_55]
    simp only [r122_56, r122_57, r122_60, r122_61, r122_62, s_1, s_2, s_3, s_8, s_16, s_18, s_23, s_24, s_33, s_38, s_41, s_161, f_1_0, f_1_1, f_1_4, f_1_5, f_1_8, f_1_9, f_1_10, f_1_11, f_1_12, f_1_13, f_2_0, f_2_1, f_3_3, f_3_4, f_3_5, f_3_6, f_8_2, f_8_3, f_8_4, f_8_5, f_16_2, f_18_3, f_18_4, f_18_5, f_18_6, f_23_0, f_23_1, f_23_2, f_23_3, f_23_4, f_24_2, f_24_3, f_24_4, f_24_5, f_33_3, f_33_4, f_33_5, f_33_6, f_38_1, f_38_2, f_41_0, f_161_0, f_161_1, f_161_3, f_161_7, f_161_12, f_161_13, f_161_14, f_161_15, f_161_16, f_161_17, f_161_18, f_161_19, f_161_21, f_161_22, f_161_25, true_and, and_true, true_or, or_true, if_true, if_false, ne_eq, not_false_eq_true, and_self, t10, am_psh, am_clr, not_true_eq_false, Nat.reduceEqDiff, x2, show (2 : Int32).toNatClampNeg = 2 from by decide, am_row_eq, dw_at (I 162) (a := a) (k := k) (j := 2) (by omega), hc]
    rw [if_pos (Int32.le_refl _)]
  | succ n ih =>
    intro k hk hak
    rw [r122_55]
    simp only [r122_56, r122_57, r122_60, r122_61, r122_62, r122_65, r122_66, r122_69, r122_70, r122_71, r122_72, r122_73, r122_76, r122_77, r122_78, r122_79, r122_80, r122_81, r122_82, r122_83, r122_84, r122_87, r122_89, r122_90, r122_91, r122_92, r122_95, r122_97, r122_98, r122_99, r122_100, r122_101, r122_102, r122_103, r122_104, r122_107, r122_109, r122_110, r122_111, r122_112, r122_115, r122_117, r122_118, r122_119, r122_120, r122_121, r122_122, r122_123, r122_126, s_1, s_2, s_3, s_8, s_16, s_18, s_23, s_24, s_33, s_38, s_41, s_161, f_1_0, f_1_1, f_1_4, f_1_5, f_1_8, f_1_9, f_1_10, f_1_11, f_1_12, f_1_13, f_2_0, f_2_1, f_3_3, f_3_4, f_3_5, f_3_6, f_8_2, f_8_3, f_8_4, f_8_5, f_16_2, f_18_3, f_18_4, f_18_5, f_18_6, f_23_0, f_23_1, f_23_2, f_23_3, f_23_4, f_24_2, f_24_3, f_24_4, f_24_5, f_33_3, f_33_4, f_33_5, f_33_6, f_38_1, f_38_2, f_41_0, f_161_0, f_161_1, f_161_3, f_161_7, f_161_12, f_161_13, f_161_14, f_161_15, f_161_16, f_161_17, f_161_18, f_161_19, f_161_21, f_161_22, f_161_25, true_and, and_true, true_or, or_true, if_true, if_false, ne_eq, not_false_eq_true, and_self, t10, am_psh, am_clr, not_true_eq_false, Nat.reduceEqDiff, x2, show (2 : Int32).toNatClampNeg = 2 from by decide, am_row_eq, dw_at (I 162) (a := a) (k := k) (j := 2) (by omega), hc, show (3 : Int32) + nI k = nI (3 + k) from nI_add 3 k, show (35 : Int32) + nI k = nI (35 + k) from nI_add 35 k, show (67 : Int32) + nI k = nI (67 + k) from nI_add 67 k, nI_1, mx (L := L) (3 + k + 1) (by omega), mx (L := L) (35 + k + 1) (by omega), mx (L := L) (67 + k + 1) (by omega), mw (L := L) (3 + k) (by omega), mw (L := L) (35 + k) (by omega), mw (L := L) (67 + k) (by omega), n_cl (show 3 + k < 2 ^ 31 by omega), n_cl (show 35 + k < 2 ^ 31 by omega), n_cl (show 67 + k < 2 ^ 31 by omega), n_cl (show 3 + k + 1 < 2 ^ 31 by omega), n_cl (show 35 + k + 1 < 2 ^ 31 by omega), n_cl (show 67 + k + 1 < 2 ^ 31 by omega), up_fset, row_row, am_row_eq]
    rw [if_neg (nI_ge (show k < m by omega) (by omega)), fset_ne _ _ (show 35 + k + 1 ≠ 3 + k by omega), fset_ne _ _ (show 67 + k + 1 ≠ 35 + k by omega), fset_ne _ _ (show 67 + k + 1 ≠ 3 + k by omega), dw_at (I 162) (a := a) (k := k) (j := 3 + k + 1) (by omega), dw_at (I 162) (a := a) (k := k) (j := 35 + k + 1) (by omega), dw_at (I 162) (a := a) (k := k) (j := 67 + k + 1) (by omega), dw_s _ hak (by omega)]
    exact ih (k + 1) (by omega) (by omega)
/-- the model's tree -/
def lw1 (a x : Int32) : Int32 := x - (if a < x then 1 else 0)
def tw (w : Nat → Int32) (x : Int32) (k : Nat) : Nat → Int32 := fun j => if 157 ≤ j ∧ j < 157 + k then lw1 x (w j) else w j
theorem tw_0 (w : Nat → Int32) (x : Int32) : tw w x 0 = w := by funext j; unfold tw; rw [if_neg (by omega)]
theorem tw_at (w : Nat → Int32) (x : Int32) (k : Nat) : tw w x k (157 + k) = w (157 + k) := by unfold tw; rw [if_neg (by omega)]
theorem tw_s (w : Nat → Int32) (x : Int32) (k : Nat) : fset (tw w x k) (157 + k) (lw1 x (w (157 + k))) = tw w x (k + 1) := by
  funext j
  unfold tw fset
  dsimp only
  by_cases e : j = 157 + k
  · subst e; rw [if_pos rfl, if_pos (by omega)]
  · by_cases g : 157 ≤ j ∧ j < 157 + k
    · rw [if_neg e, if_pos g, if_pos (by omega)]
    · rw [if_neg e, if_neg g, if_neg (by omega)]
theorem mt_loop {x : Int32} : ∀ (n k : Nat), k + n = 8 → am_T d 122 131 [some (.ref 161), some (.int x), some (.int (nI k))] [] (cS L) (am_row I 162 (tw (I 162) x k)) J Q = Q (some (.int (I 162 2))) (cS L) (am_row I 162 (tw (I 162) x 8)) J := by
  intro n
  induction n with
  | zero =>
    intro k hk
    have hk : k = 8 := by omega
    subst hk
    rw [r122_131]
    simp only [r122_132, r122_134, r122_175, r122_176, r122_179, r122_180, r122_181, s_1, s_2, s_3, s_8, s_16, s_18, s_23, s_24, s_33, s_38, s_41, s_161, f_1_0, f_1_1, f_1_4, f_1_5, f_1_8, f_1_9, f_1_10, f_1_11, f_1_12, f_1_13, f_2_0, f_2_1, f_3_3, f_3_4, f_3_5, f_3_6, f_8_2, f_8_3, f_8_4, f_8_5, f_16_2, f_18_3, f_18_4, f_18_5, f_18_6, f_23_0, f_23_1, f_23_2, f_23_3, f_23_4, f_24_2, f_24_3, f_24_4, f_24_5, f_33_3, f_33_4, f_33_5, f_33_6, f_38_1, f_38_2, f_41_0, f_161_0, f_161_1, f_161_3, f_161_7, f_161_12, f_161_13, f_161_14, f_161_15, f_161_16, f_161_17, f_161_18, f_161_19, f_161_21, f_161_22, f_161_25, true_and, and_true, true_or, or_true, if_true, if_false, ne_eq, not_false_eq_true, and_self, t10, am_psh, am_clr, not_true_eq_false, Nat.reduceEqDiff, show am_ix (cS L) 162 20 2 from mx 2 (by omega), show (2 : Int32).toNatClampNeg = 2 from by decide, am_row_eq]
    rw [if_pos (by decide), show tw (I 162) x 8 2 = I 162 2 from if_neg (by omega)]
  | succ n ih =>
    intro k hk
    rw [r122_131]
    simp only [r122_132, r122_134, r122_137, r122_138, r122_141, r122_144, r122_145, r122_146, r122_147, r122_148, r122_149, r122_152, r122_155, r122_156, r122_157, r122_158, s_1, s_2, s_3, s_8, s_16, s_18, s_23, s_24, s_33, s_38, s_41, s_161, f_1_0, f_1_1, f_1_4, f_1_5, f_1_8, f_1_9, f_1_10, f_1_11, f_1_12, f_1_13, f_2_0, f_2_1, f_3_3, f_3_4, f_3_5, f_3_6, f_8_2, f_8_3, f_8_4, f_8_5, f_16_2, f_18_3, f_18_4, f_18_5, f_18_6, f_23_0, f_23_1, f_23_2, f_23_3, f_23_4, f_24_2, f_24_3, f_24_4, f_24_5, f_33_3, f_33_4, f_33_5, f_33_6, f_38_1, f_38_2, f_41_0, f_161_0, f_161_1, f_161_3, f_161_7, f_161_12, f_161_13, f_161_14, f_161_15, f_161_16, f_161_17, f_161_18, f_161_19, f_161_21, f_161_22, f_161_25, true_and, and_true, true_or, or_true, if_true, if_false, ne_eq, not_false_eq_true, and_self, t10, am_psh, am_clr, not_true_eq_false, Nat.reduceEqDiff, show (157 : Int32) + nI k = nI (157 + k) from nI_add 157 k, mx (L := L) (157 + k) (by omega), n_cl (show 157 + k < 2 ^ 31 by omega), am_row_eq, tw_at]
    rw [if_neg (show ¬ (8 : Int32) ≤ nI k from ge_lit (c := 8) rfl (by omega) (by omega))]
    have ih := ih (k + 1) (by omega)
    rw [← tw_s] at ih
    by_cases e : x < I 162 (157 + k)
    · simp only [r122_159, r122_162, r122_163, r122_166, r122_167, r122_168, r122_169, r122_172, s_1, s_2, s_3, s_8, s_16, s_18, s_23, s_24, s_33, s_38, s_41, s_161, f_1_0, f_1_1, f_1_4, f_1_5, f_1_8, f_1_9, f_1_10, f_1_11, f_1_12, f_1_13, f_2_0, f_2_1, f_3_3, f_3_4, f_3_5, f_3_6, f_8_2, f_8_3, f_8_4, f_8_5, f_16_2, f_18_3, f_18_4, f_18_5, f_18_6, f_23_0, f_23_1, f_23_2, f_23_3, f_23_4, f_24_2, f_24_3, f_24_4, f_24_5, f_33_3, f_33_4, f_33_5, f_33_6, f_38_1, f_38_2, f_41_0, f_161_0, f_161_1, f_161_3, f_161_7, f_161_12, f_161_13, f_161_14, f_161_15, f_161_16, f_161_17, f_161_18, f_161_19, f_161_21, f_161_22, f_161_25, true_and, and_true, true_or, or_true, if_true, if_false, ne_eq, not_false_eq_true, and_self, t10, am_psh, am_clr, not_true_eq_false, Nat.reduceEqDiff, mw (L := L) (157 + k) (by omega), n_cl (show 157 + k < 2 ^ 31 by omega), up_fset, row_row, am_row_eq, nI_1]
      rw [if_neg (Int32.not_le.mpr e)]
      unfold lw1 at ih; rw [if_pos e] at ih
      exact ih
    · simp only [r122_159, r122_162, r122_163, r122_166, r122_167, r122_168, r122_169, r122_172, s_1, s_2, s_3, s_8, s_16, s_18, s_23, s_24, s_33, s_38, s_41, s_161, f_1_0, f_1_1, f_1_4, f_1_5, f_1_8, f_1_9, f_1_10, f_1_11, f_1_12, f_1_13, f_2_0, f_2_1, f_3_3, f_3_4, f_3_5, f_3_6, f_8_2, f_8_3, f_8_4, f_8_5, f_16_2, f_18_3, f_18_4, f_18_5, f_18_6, f_23_0, f_23_1, f_23_2, f_23_3, f_23_4, f_24_2, f_24_3, f_24_4, f_24_5, f_33_3, f_33_4, f_33_5, f_33_6, f_38_1, f_38_2, f_41_0, f_161_0, f_161_1, f_161_3, f_161_7, f_161_12, f_161_13, f_161_14, f_161_15, f_161_16, f_161_17, f_161_18, f_161_19, f_161_21, f_161_22, f_161_25, true_and, and_true, true_or, or_true, if_true, if_false, ne_eq, not_false_eq_true, and_self, t10, am_psh, am_clr, not_true_eq_false, Nat.reduceEqDiff, mw (L := L) (157 + k) (by omega), n_cl (show 157 + k < 2 ^ 31 by omega), up_fset, row_row, am_row_eq, nI_1]
      rw [if_pos (Int32.not_lt.mp e)]
      unfold lw1 at ih; rw [if_neg e] at ih
      exact ih
end RN
