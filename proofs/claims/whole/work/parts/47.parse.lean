/-! reading the text: what it says, and the class -/
abbrev dgok (tx : Nat → Nat) (n lo hi p : Nat) : Prop := p < n ∧ 48 + lo ≤ tx p ∧ tx p ≤ 48 + hi
abbrev sgok (tx : Nat → Nat) (n c p : Nat) : Prop := p < n ∧ tx p = c
/-- an arc: where it is wrong, or tail, head, cost and the place behind it -/
def pArc (tx : Nat → Nat) (n N p : Nat) : Sum Nat (Nat × Nat × Nat × Nat) :=
  if ¬ sgok tx n 44 p then .inl p
  else if ¬ dgok tx n 0 (N - 1) (p + 1) then .inl (p + 1)
  else if ¬ sgok tx n 62 (p + 2) then .inl (p + 2)
  else if ¬ dgok tx n 0 (N - 1) (p + 3) then .inl (p + 3)
  else if tx (p + 3) = tx (p + 1) then .inl (p + 3)
  else if ¬ sgok tx n 58 (p + 4) then .inl (p + 4)
  else if ¬ dgok tx n 0 9 (p + 5) then .inl (p + 5)
  else if ¬ dgok tx n 0 9 (p + 6) then .inr (tx (p + 1) - 48, tx (p + 3) - 48, tx (p + 5) - 48, p + 6)
  else .inr (tx (p + 1) - 48, tx (p + 3) - 48, 10 * (tx (p + 5) - 48) + (tx (p + 6) - 48), p + 7)
def pL (tx : Nat → Nat) (n : Nat) : Nat → Gr → Nat → Sum Nat Gr
  | 0, G, _ => .inr G
  | f + 1, G, p => if p < n then (if gm G = 32 then .inl p else match pArc tx n (gn G) p with
      | .inl e => .inl e
      | .inr q => pL tx n f (addA G q.1 q.2.1 q.2.2.1) q.2.2.2) else .inr G
def pG0 (N r : Nat) : Gr := (N, r, 0, fun _ => 0, fun _ => 0, fun _ => 0, fun _ => 7)
def pAll (tx : Nat → Nat) (n : Nat) : Sum Nat Gr :=
  if ¬ dgok tx n 2 8 0 then .inl 0
  else if ¬ sgok tx n 47 1 then .inl 1
  else if ¬ dgok tx n 0 (tx 0 - 48 - 1) 2 then .inl 2
  else pL tx n 33 (pG0 (tx 0 - 48) (tx 2 - 48)) 3
theorem pArc_ok {tx : Nat → Nat} {n N p : Nat} {q : Nat × Nat × Nat × Nat} (h : pArc tx n N p = .inr q) (hN : 0 < N) : q.1 < N ∧ q.2.1 < N ∧ q.1 ≠ q.2.1 ∧ q.2.2.1 ≤ 99 ∧ q.2.2.2 ≤ n ∧ p < q.2.2.2 := by
  unfold pArc at h
  by_cases h1 : sgok tx n 44 p
  · rw [if_neg (fun z => z h1)] at h
    by_cases h2 : dgok tx n 0 (N - 1) (p + 1)
    · rw [if_neg (fun z => z h2)] at h
      by_cases h3 : sgok tx n 62 (p + 2)
      · rw [if_neg (fun z => z h3)] at h
        by_cases h4 : dgok tx n 0 (N - 1) (p + 3)
        · rw [if_neg (fun z => z h4)] at h
          by_cases h5 : tx (p + 3) = tx (p + 1)
          · rw [if_pos h5] at h; cases h
          · rw [if_neg h5] at h
            by_cases h6 : sgok tx n 58 (p + 4)
            · rw [if_neg (fun z => z h6)] at h
              by_cases h7 : dgok tx n 0 9 (p + 5)
              · rw [if_neg (fun z => z h7)] at h
                by_cases h8 : dgok tx n 0 9 (p + 6)
                · rw [if_neg (fun z => z h8)] at h
                  cases h
                  obtain ⟨a1, a2, a3⟩ := h2
                  obtain ⟨b1, b2, b3⟩ := h4
                  obtain ⟨c1, c2, c3⟩ := h7
                  obtain ⟨e1, e2, e3⟩ := h8
                  dsimp only
                  omega
                · rw [if_pos h8] at h
                  cases h
                  obtain ⟨a1, a2, a3⟩ := h2
                  obtain ⟨b1, b2, b3⟩ := h4
                  obtain ⟨c1, c2, c3⟩ := h7
                  dsimp only
                  omega
              · rw [if_pos h7] at h; cases h
            · rw [if_pos h6] at h; cases h
        · rw [if_pos h4] at h; cases h
      · rw [if_pos h3] at h; cases h
    · rw [if_pos h2] at h; cases h
  · rw [if_pos h1] at h; cases h
theorem okG_0 {N r : Nat} (h1 : 2 ≤ N) (h2 : N ≤ 8) (h3 : r < N) : okG (pG0 N r) := ⟨⟨h1, h2, h3, Nat.zero_le 32⟩, fun a ha => absurd ha (Nat.not_lt_zero a), fun _ _ => Nat.le_refl 7⟩
theorem pL_ok {tx : Nat → Nat} {n : Nat} {G' : Gr} : ∀ (f : Nat) (G : Gr) (p : Nat), okG G → pL tx n f G p = .inr G' → okG G' := by
  intro f
  induction f with
  | zero => intro G p hG h; cases h; exact hG
  | succ f ih =>
    intro G p hG h
    unfold pL at h
    by_cases h1 : p < n
    · rw [if_pos h1] at h
      by_cases h2 : gm G = 32
      · rw [if_pos h2] at h; cases h
      · rw [if_neg h2] at h
        cases h3 : pArc tx n (gn G) p with
        | inl e => rw [h3] at h; cases h
        | inr q =>
          rw [h3] at h
          have hn := hG.1.1
          have hm := hG.1.2.2.2
          obtain ⟨q1, q2, q3, q4, q5, q6⟩ := pArc_ok h3 (by omega)
          exact ih _ _ (okG_add hG (by omega) q1 q2 q3 q4) h
    · rw [if_neg h1] at h; cases h; exact hG
theorem pAll_ok {tx : Nat → Nat} {n : Nat} {G' : Gr} (h : pAll tx n = .inr G') : okG G' := by
  unfold pAll at h
  by_cases h1 : dgok tx n 2 8 0
  · rw [if_neg (fun z => z h1)] at h
    by_cases h2 : sgok tx n 47 1
    · rw [if_neg (fun z => z h2)] at h
      by_cases h3 : dgok tx n 0 (tx 0 - 48 - 1) 2
      · rw [if_neg (fun z => z h3)] at h
        exact pL_ok _ _ _ (okG_0 (by omega) (by omega) (by omega)) h
      · rw [if_pos h3] at h; cases h
    · rw [if_pos h2] at h; cases h
  · rw [if_pos h1] at h; cases h
def setAt (I : am_I) (p : Nat) : am_I := am_up I 16 1 (nI p)
def okT (I : am_I) (n : Nat) (tx : Nat → Nat) : Prop := I 16 0 = nI n ∧ n ≤ 300 ∧ ∀ i, i < n → I 17 i = nI (tx i) ∧ tx i ≤ 126
section PX
variable {d L : Nat} {I I' : am_I} {J J' : am_J} {Q : am_Q} {n : Nat} {tx : Nat → Nat}
theorem setAt_ne {p b : Nat} (h : b ≠ 16) : setAt I p b = I b := am_up_ne h
theorem setAt_0 {p : Nat} : setAt I p 16 0 = I 16 0 := up_ne _ _ (Or.inr (by omega))
theorem setAt_1 {p : Nat} : setAt I p 16 1 = nI p := up_self _ _ _ _
theorem setAt_2 {p q : Nat} : am_up (setAt I p) 16 1 (nI q) = setAt I q := by
  funext b j
  unfold setAt am_up
  by_cases e : b = 16 ∧ j = 1
  · rw [if_pos e, if_pos e]
  · rw [if_neg e, if_neg e, if_neg e]
theorem gApp_at {p m : Nat} {t h c : Int32} : gApp (setAt I p) 18 m t h c = setAt (gApp I 18 m t h c) p := by
  funext b j
  by_cases e : b = 16
  · subst e
    rw [gApp_ne (by omega)]
    unfold setAt
    by_cases ej : j = 1
    · subst ej; rw [up_self, up_self]
    · rw [up_ne _ _ (Or.inr ej), up_ne _ _ (Or.inr ej), gApp_ne (by omega)]
  · rw [setAt_ne e]
    unfold gApp setAt am_up
    have : ∀ j, (if b = 16 ∧ j = 1 then nI p else I b j) = I b j := fun j => if_neg (fun q => e q.1)
    simp only [this]
theorem c_tDigit {x y : Int32} {p lo hi : Nat} (hT : okT I n tx) (hp : p ≤ n) (hx : x = nI lo) (hy : y = nI hi) (hl : lo ≤ 100) (hh : hi ≤ 100) : am_C (d + 1) 25 [.ref 16, .int x, .int y] (cS L) (setAt I p) J Q = if dgok tx n lo hi p then Q (some (.int (nI (tx p - 48)))) (cS L) (setAt I (p + 1)) J else Q (some (.int (-1))) (cS L) (setAt I p) J := by
  obtain ⟨t1, t2, t3⟩ := hT
  subst hx; subst hy
  rw [e25]
  by_cases e : p < n
  · obtain ⟨t4, t5⟩ := t3 p e
    have x17 : am_ix (cS L) 17 22 (nI p) := ix_nI (k_17 L) (n_17 L) (by omega) (by omega)
    simp only [r25_0, r25_1, r25_4, r25_5, r25_8, r25_11, r25_12, r25_15, r25_16, r25_19, r25_20, r25_22, r25_23, r25_24, r25_27, r25_28, r25_31, r25_32, r25_35, r25_36, r25_38, r25_39, r25_40, r25_43, r25_44, r25_45, r25_46, r25_49, r25_50, r25_53, r25_54, r25_56, r25_57, r25_58, r25_59, r25_60, r25_63, r25_64, r25_65, r25_68, r25_69, s_1, s_2, s_3, s_8, s_16, s_18, s_23, s_24, s_33, s_38, s_41, s_161, f_1_0, f_1_1, f_1_4, f_1_5, f_1_8, f_1_9, f_1_10, f_1_11, f_1_12, f_1_13, f_2_0, f_2_1, f_3_3, f_3_4, f_3_5, f_3_6, f_8_2, f_8_3, f_8_4, f_8_5, f_16_2, f_18_3, f_18_4, f_18_5, f_18_6, f_23_0, f_23_1, f_23_2, f_23_3, f_23_4, f_24_2, f_24_3, f_24_4, f_24_5, f_33_3, f_33_4, f_33_5, f_33_6, f_38_1, f_38_2, f_41_0, f_161_0, f_161_1, f_161_3, f_161_7, f_161_12, f_161_13, f_161_14, f_161_15, f_161_16, f_161_17, f_161_18, f_161_19, f_161_21, f_161_22, f_161_25, true_and, and_true, true_or, or_true, if_true, if_false, ne_eq, not_false_eq_true, and_self, t10, am_psh, am_clr, not_true_eq_false, Nat.reduceEqDiff, setAt_1, setAt_0, setAt_ne (show 17 ≠ 16 by omega), t1, x17, n_cl (show p < 2 ^ 31 by omega), t4, nI_1, setAt_2, show (48 : Int32) + nI lo = nI (48 + lo) from nI_add 48 lo, show (48 : Int32) + nI hi = nI (48 + hi) from nI_add 48 hi]
    rw [if_neg (nI_ge e (by omega))]
    by_cases e1 : tx p < 48 + lo
    · rw [if_pos (nI_lt e1 (by omega)), if_neg (fun q => by have := q.2.1; omega)]
    · rw [if_neg (nI_nlt (by omega) (by omega))]
      by_cases e2 : tx p ≤ 48 + hi
      · rw [if_pos (nI_le e2 (by omega)), if_pos ⟨e, by omega, e2⟩, show nI (tx p) - 48 = nI (tx p - 48) from pk_sub (b := 48) (by omega)]
      · rw [if_neg (nI_ge (by omega) (by omega)), if_neg (fun q => e2 q.2.2)]
  · have : p = n := by omega
    subst this
    simp only [r25_0, r25_1, r25_4, r25_5, r25_8, r25_11, r25_12, r25_15, r25_16, r25_19, r25_20, r25_22, r25_23, r25_24, r25_27, r25_28, r25_31, r25_32, r25_35, r25_36, r25_38, r25_39, r25_40, r25_43, r25_44, r25_45, r25_46, r25_49, r25_50, r25_53, r25_54, r25_56, r25_57, r25_58, r25_59, r25_60, r25_63, r25_64, r25_65, r25_68, r25_69, s_1, s_2, s_3, s_8, s_16, s_18, s_23, s_24, s_33, s_38, s_41, s_161, f_1_0, f_1_1, f_1_4, f_1_5, f_1_8, f_1_9, f_1_10, f_1_11, f_1_12, f_1_13, f_2_0, f_2_1, f_3_3, f_3_4, f_3_5, f_3_6, f_8_2, f_8_3, f_8_4, f_8_5, f_16_2, f_18_3, f_18_4, f_18_5, f_18_6, f_23_0, f_23_1, f_23_2, f_23_3, f_23_4, f_24_2, f_24_3, f_24_4, f_24_5, f_33_3, f_33_4, f_33_5, f_33_6, f_38_1, f_38_2, f_41_0, f_161_0, f_161_1, f_161_3, f_161_7, f_161_12, f_161_13, f_161_14, f_161_15, f_161_16, f_161_17, f_161_18, f_161_19, f_161_21, f_161_22, f_161_25, true_and, and_true, true_or, or_true, if_true, if_false, ne_eq, not_false_eq_true, and_self, t10, am_psh, am_clr, not_true_eq_false, Nat.reduceEqDiff, setAt_1, setAt_0, t1]
    rw [if_pos (Int32.le_refl _), if_neg (fun q => e q.1)]
theorem c_tSign {x : Int32} {p c : Nat} (hT : okT I n tx) (hp : p ≤ n) (hx : x = nI c) (hc : c ≤ 126) : am_C (d + 1) 24 [.ref 16, .int x] (cS L) (setAt I p) J Q = if sgok tx n c p then Q (some (.int 1)) (cS L) (setAt I (p + 1)) J else Q (some (.int 0)) (cS L) (setAt I p) J := by
  obtain ⟨t1, t2, t3⟩ := hT
  subst hx
  rw [e24]
  by_cases e : p < n
  · obtain ⟨t4, t5⟩ := t3 p e
    have x17 : am_ix (cS L) 17 22 (nI p) := ix_nI (k_17 L) (n_17 L) (by omega) (by omega)
    simp only [r24_0, r24_1, r24_4, r24_5, r24_8, r24_11, r24_12, r24_15, r24_16, r24_19, r24_20, r24_21, r24_24, r24_25, r24_26, r24_27, r24_28, r24_31, r24_32, r24_33, r24_36, r24_37, s_1, s_2, s_3, s_8, s_16, s_18, s_23, s_24, s_33, s_38, s_41, s_161, f_1_0, f_1_1, f_1_4, f_1_5, f_1_8, f_1_9, f_1_10, f_1_11, f_1_12, f_1_13, f_2_0, f_2_1, f_3_3, f_3_4, f_3_5, f_3_6, f_8_2, f_8_3, f_8_4, f_8_5, f_16_2, f_18_3, f_18_4, f_18_5, f_18_6, f_23_0, f_23_1, f_23_2, f_23_3, f_23_4, f_24_2, f_24_3, f_24_4, f_24_5, f_33_3, f_33_4, f_33_5, f_33_6, f_38_1, f_38_2, f_41_0, f_161_0, f_161_1, f_161_3, f_161_7, f_161_12, f_161_13, f_161_14, f_161_15, f_161_16, f_161_17, f_161_18, f_161_19, f_161_21, f_161_22, f_161_25, true_and, and_true, true_or, or_true, if_true, if_false, ne_eq, not_false_eq_true, and_self, t10, am_psh, am_clr, not_true_eq_false, Nat.reduceEqDiff, setAt_1, setAt_0, setAt_ne (show 17 ≠ 16 by omega), t1, x17, n_cl (show p < 2 ^ 31 by omega), t4, nI_1, setAt_2, t01, t11]
    rw [if_neg (nI_ge e (by omega))]
    by_cases e1 : tx p = c
    · rw [if_pos (by rw [e1]), if_pos ⟨e, e1⟩]
    · rw [if_neg (fun q => e1 ((nI_eq (by omega) (by omega)).mp q)), if_neg (fun q => e1 q.2)]
  · have : p = n := by omega
    subst this
    simp only [r24_0, r24_1, r24_4, r24_5, r24_8, r24_11, r24_12, r24_15, r24_16, r24_19, r24_20, r24_21, r24_24, r24_25, r24_26, r24_27, r24_28, r24_31, r24_32, r24_33, r24_36, r24_37, s_1, s_2, s_3, s_8, s_16, s_18, s_23, s_24, s_33, s_38, s_41, s_161, f_1_0, f_1_1, f_1_4, f_1_5, f_1_8, f_1_9, f_1_10, f_1_11, f_1_12, f_1_13, f_2_0, f_2_1, f_3_3, f_3_4, f_3_5, f_3_6, f_8_2, f_8_3, f_8_4, f_8_5, f_16_2, f_18_3, f_18_4, f_18_5, f_18_6, f_23_0, f_23_1, f_23_2, f_23_3, f_23_4, f_24_2, f_24_3, f_24_4, f_24_5, f_33_3, f_33_4, f_33_5, f_33_6, f_38_1, f_38_2, f_41_0, f_161_0, f_161_1, f_161_3, f_161_7, f_161_12, f_161_13, f_161_14, f_161_15, f_161_16, f_161_17, f_161_18, f_161_19, f_161_21, f_161_22, f_161_25, true_and, and_true, true_or, or_true, if_true, if_false, ne_eq, not_false_eq_true, and_self, t10, am_psh, am_clr, not_true_eq_false, Nat.reduceEqDiff, setAt_1, setAt_0, t1, t01]
    rw [if_pos (Int32.le_refl _), if_neg (fun q => e q.1)]
theorem c_tNum {p : Nat} (hT : okT I n tx) (hp : p ≤ n) : am_C (d + 2) 23 [.ref 16] (cS L) (setAt I p) J Q = if dgok tx n 0 9 p then (if dgok tx n 0 9 (p + 1) then Q (some (.int (nI (10 * (tx p - 48) + (tx (p + 1) - 48))))) (cS L) (setAt I (p + 2)) J else Q (some (.int (nI (tx p - 48)))) (cS L) (setAt I (p + 1)) J) else Q (some (.int (-1))) (cS L) (setAt I p) J := by
  rw [e23]
  simp only [r23_0, r23_1, r23_2, r23_4, s_1, s_2, s_3, s_8, s_16, s_18, s_23, s_24, s_33, s_38, s_41, s_161, f_1_0, f_1_1, f_1_4, f_1_5, f_1_8, f_1_9, f_1_10, f_1_11, f_1_12, f_1_13, f_2_0, f_2_1, f_3_3, f_3_4, f_3_5, f_3_6, f_8_2, f_8_3, f_8_4, f_8_5, f_16_2, f_18_3, f_18_4, f_18_5, f_18_6, f_23_0, f_23_1, f_23_2, f_23_3, f_23_4, f_24_2, f_24_3, f_24_4, f_24_5, f_33_3, f_33_4, f_33_5, f_33_6, f_38_1, f_38_2, f_41_0, f_161_0, f_161_1, f_161_3, f_161_7, f_161_12, f_161_13, f_161_14, f_161_15, f_161_16, f_161_17, f_161_18, f_161_19, f_161_21, f_161_22, f_161_25, true_and, and_true, true_or, or_true, if_true, if_false, ne_eq, not_false_eq_true, and_self, t10, am_psh, am_clr, not_true_eq_false, Nat.reduceEqDiff]
  rw [c_tDigit (x := 0) (y := 9) (lo := 0) (hi := 9) hT hp rfl rfl (by omega) (by omega)]
  by_cases e : dgok tx n 0 9 p
  · have e0 := e
    obtain ⟨e1, e2, e3⟩ := e0
    rw [if_pos e, if_pos e]
    simp only [r23_7, r23_8, r23_9, r23_10, r23_13, r23_14, r23_15, r23_16, r23_17, r23_19, s_1, s_2, s_3, s_8, s_16, s_18, s_23, s_24, s_33, s_38, s_41, s_161, f_1_0, f_1_1, f_1_4, f_1_5, f_1_8, f_1_9, f_1_10, f_1_11, f_1_12, f_1_13, f_2_0, f_2_1, f_3_3, f_3_4, f_3_5, f_3_6, f_8_2, f_8_3, f_8_4, f_8_5, f_16_2, f_18_3, f_18_4, f_18_5, f_18_6, f_23_0, f_23_1, f_23_2, f_23_3, f_23_4, f_24_2, f_24_3, f_24_4, f_24_5, f_33_3, f_33_4, f_33_5, f_33_6, f_38_1, f_38_2, f_41_0, f_161_0, f_161_1, f_161_3, f_161_7, f_161_12, f_161_13, f_161_14, f_161_15, f_161_16, f_161_17, f_161_18, f_161_19, f_161_21, f_161_22, f_161_25, true_and, and_true, true_or, or_true, if_true, if_false, ne_eq, not_false_eq_true, and_self, t10, am_psh, am_clr, not_true_eq_false, Nat.reduceEqDiff, n_ne_m1 (show tx p - 48 < 2 ^ 31 by omega)]
    rw [c_tDigit (x := 0) (y := 9) (lo := 0) (hi := 9) hT e1 rfl rfl (by omega) (by omega)]
    by_cases f : dgok tx n 0 9 (p + 1)
    · have f0 := f
      obtain ⟨f1, f2, f3⟩ := f0
      rw [if_pos f, if_pos f]
      simp only [r23_22, r23_23, r23_24, r23_25, r23_28, r23_29, r23_32, r23_34, r23_35, r23_36, r23_37, r23_38, s_1, s_2, s_3, s_8, s_16, s_18, s_23, s_24, s_33, s_38, s_41, s_161, f_1_0, f_1_1, f_1_4, f_1_5, f_1_8, f_1_9, f_1_10, f_1_11, f_1_12, f_1_13, f_2_0, f_2_1, f_3_3, f_3_4, f_3_5, f_3_6, f_8_2, f_8_3, f_8_4, f_8_5, f_16_2, f_18_3, f_18_4, f_18_5, f_18_6, f_23_0, f_23_1, f_23_2, f_23_3, f_23_4, f_24_2, f_24_3, f_24_4, f_24_5, f_33_3, f_33_4, f_33_5, f_33_6, f_38_1, f_38_2, f_41_0, f_161_0, f_161_1, f_161_3, f_161_7, f_161_12, f_161_13, f_161_14, f_161_15, f_161_16, f_161_17, f_161_18, f_161_19, f_161_21, f_161_22, f_161_25, true_and, and_true, true_or, or_true, if_true, if_false, ne_eq, not_false_eq_true, and_self, t10, am_psh, am_clr, not_true_eq_false, Nat.reduceEqDiff, n_ne_m1 (show tx (p + 1) - 48 < 2 ^ 31 by omega), show (10 : Int32) * nI (tx p - 48) = nI (10 * (tx p - 48)) from pk_mul 10 _, nI_add]
    · rw [if_neg f, if_neg f]
      simp only [r23_22, r23_23, r23_24, r23_25, r23_28, r23_29, r23_32, r23_34, r23_35, r23_36, r23_37, r23_38, s_1, s_2, s_3, s_8, s_16, s_18, s_23, s_24, s_33, s_38, s_41, s_161, f_1_0, f_1_1, f_1_4, f_1_5, f_1_8, f_1_9, f_1_10, f_1_11, f_1_12, f_1_13, f_2_0, f_2_1, f_3_3, f_3_4, f_3_5, f_3_6, f_8_2, f_8_3, f_8_4, f_8_5, f_16_2, f_18_3, f_18_4, f_18_5, f_18_6, f_23_0, f_23_1, f_23_2, f_23_3, f_23_4, f_24_2, f_24_3, f_24_4, f_24_5, f_33_3, f_33_4, f_33_5, f_33_6, f_38_1, f_38_2, f_41_0, f_161_0, f_161_1, f_161_3, f_161_7, f_161_12, f_161_13, f_161_14, f_161_15, f_161_16, f_161_17, f_161_18, f_161_19, f_161_21, f_161_22, f_161_25, true_and, and_true, true_or, or_true, if_true, if_false, ne_eq, not_false_eq_true, and_self, t10, am_psh, am_clr, not_true_eq_false, Nat.reduceEqDiff]
  · rw [if_neg e, if_neg e]
    simp only [r23_7, r23_8, r23_9, r23_10, r23_13, r23_14, r23_15, r23_16, r23_17, r23_19, s_1, s_2, s_3, s_8, s_16, s_18, s_23, s_24, s_33, s_38, s_41, s_161, f_1_0, f_1_1, f_1_4, f_1_5, f_1_8, f_1_9, f_1_10, f_1_11, f_1_12, f_1_13, f_2_0, f_2_1, f_3_3, f_3_4, f_3_5, f_3_6, f_8_2, f_8_3, f_8_4, f_8_5, f_16_2, f_18_3, f_18_4, f_18_5, f_18_6, f_23_0, f_23_1, f_23_2, f_23_3, f_23_4, f_24_2, f_24_3, f_24_4, f_24_5, f_33_3, f_33_4, f_33_5, f_33_6, f_38_1, f_38_2, f_41_0, f_161_0, f_161_1, f_161_3, f_161_7, f_161_12, f_161_13, f_161_14, f_161_15, f_161_16, f_161_17, f_161_18, f_161_19, f_161_21, f_161_22, f_161_25, true_and, and_true, true_or, or_true, if_true, if_false, ne_eq, not_false_eq_true, and_self, t10, am_psh, am_clr, not_true_eq_false, Nat.reduceEqDiff]
end PX
