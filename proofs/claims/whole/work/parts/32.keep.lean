/-! what is kept for undoing: the class -/
theorem xS_congr {I I' : am_I} {g q : Nat} {s : St} (h1 : ∀ b, g ≤ b → b ≤ g + 4 → I' b = I b) (h2 : ∀ b, q ≤ b → b ≤ q + 4 → I' b = I b) (h : xS I g q s) : xS I' g q s := by
  obtain ⟨G, o⟩ := s
  obtain ⟨⟨x1, x2, x3⟩, x4⟩ := h
  refine ⟨⟨?_, fun a ha => ?_, fun v hv => ?_⟩, ?_⟩
  · rw [h1 g (by omega) (by omega)]; exact x1
  · rw [h1 (g + 1) (by omega) (by omega), h1 (g + 2) (by omega) (by omega), h1 (g + 3) (by omega) (by omega)]; exact x2 a ha
  · rw [h1 (g + 4) (by omega) (by omega)]; exact x3 v hv
  · cases o with
    | none => show I' q 0 = 0; rw [h2 q (by omega) (by omega)]; exact x4
    | some R =>
      obtain ⟨y1, y2, y3, y4⟩ := x4
      refine ⟨?_, ?_, fun k hk => ?_, fun v hv => ?_⟩
      · rw [h2 q (by omega) (by omega)]; exact y1
      · rw [h2 q (by omega) (by omega)]; exact y2
      · rw [h2 (q + 1) (by omega) (by omega), h2 (q + 2) (by omega) (by omega), h2 (q + 3) (by omega) (by omega)]; exact y3 k hk
      · rw [h2 (q + 4) (by omega) (by omega)]; exact y4 v hv
theorem mS_congr {w w' : Nat → Int32} {s : St} (hs : okS s) (h1 : ∀ j, j < 165 → w' j = w j) (h : mS w s) : mS w' s := by
  obtain ⟨G, o⟩ := s
  obtain ⟨⟨x1, x2, x3⟩, x4⟩ := h
  obtain ⟨⟨⟨n1, n2, n3, n4⟩, -⟩, hR⟩ := hs
  refine ⟨⟨?_, fun a ha => ?_, fun v hv => ?_⟩, ?_⟩
  · rw [h1 0 (by omega), h1 1 (by omega), h1 2 (by omega)]; exact x1
  · have ha : a < gm G := ha
    rw [h1 (3 + a) (by omega), h1 (35 + a) (by omega), h1 (67 + a) (by omega)]; exact x2 a ha
  · rw [h1 (99 + v) (by omega)]; exact x3 v hv
  · cases o with
    | none => show w' 107 = 0; rw [h1 107 (by omega)]; exact x4
    | some R =>
      obtain ⟨y1, y2, y3, y4⟩ := x4
      obtain ⟨⟨m1, m2⟩, -⟩ := hR R rfl
      refine ⟨?_, ?_, fun k hk => ?_, fun v hv => ?_⟩
      · rw [h1 107 (by omega)]; exact y1
      · rw [h1 108 (by omega)]; exact y2
      · rw [h1 (109 + k) (by omega), h1 (125 + k) (by omega), h1 (141 + k) (by omega)]; exact y3 k hk
      · have hv : v < gn G := hv
        rw [h1 (157 + v) (by omega)]; exact y4 v hv
/-- the place of the i-th kept state -/
def kA (o i : Nat) : Nat := 51 + 11 * ((o + i) % 8)
def hX (I : am_I) (o : Nat) (hs : List St) : Prop := I 1 2 = nI o ∧ I 1 3 = nI hs.length ∧ ∀ (i : Nat) (s : St), hs[i]? = some s → xS I (kA o i + 1) (kA o i + 6) s
def hM (I : am_I) (hs : List St) : Prop := I 161 2 = nI hs.length ∧ ∀ (i : Nat) (s : St), hs[i]? = some s → mS (shf (I 163) (165 * i)) s
def okH (hs : List St) : Prop := hs.length ≤ 8 ∧ ∀ (i : Nat) (s : St), hs[i]? = some s → okS s
theorem xH_iff {I : am_I} {hs : List St} : xH I hs ↔ okH hs ∧ hM I hs ∧ ∃ o, o < 8 ∧ hX I o hs := by
  constructor
  · rintro ⟨o, h1, h2, h3, h4, h5, h6⟩
    exact ⟨⟨h5, fun i s h => (h6 i s h).1⟩, ⟨h4, fun i s h => (h6 i s h).2.2⟩, o, h1, h2, h3, fun i s h => (h6 i s h).2.1⟩
  · rintro ⟨⟨h5, a1⟩, ⟨h4, a2⟩, o, h1, h2, h3, a3⟩
    exact ⟨o, h1, h2, h3, h4, h5, fun i s h => ⟨a1 i s h, a3 i s h, a2 i s h⟩⟩
def pushH (hs : List St) (s : St) : List St := (if hs.length = 8 then hs.tail else hs) ++ [s]
theorem okH_push {hs : List St} {s : St} (h : okH hs) (h2 : okS s) : okH (pushH hs s) := by
  unfold pushH
  constructor
  · split
    · rw [List.length_append, List.length_tail]; simp; omega
    · rw [List.length_append]; simp; have := h.1; omega
  · intro i s' hi
    split at hi
    · by_cases g : i < hs.tail.length
      · rw [List.getElem?_append_left g, List.getElem?_tail] at hi; exact h.2 _ _ hi
      · rw [List.getElem?_append_right (by omega)] at hi
        have : i - hs.tail.length < 1 := (List.getElem?_eq_some_iff.mp hi).1
        rw [show i - hs.tail.length = 0 by omega] at hi
        cases hi; exact h2
    · by_cases g : i < hs.length
      · rw [List.getElem?_append_left g] at hi; exact h.2 _ _ hi
      · rw [List.getElem?_append_right (by omega)] at hi
        have : i - hs.length < 1 := (List.getElem?_eq_some_iff.mp hi).1
        rw [show i - hs.length = 0 by omega] at hi
        cases hi; exact h2
section KP
variable {d L : Nat} {I : am_I} {J : am_J} {Q : am_Q}
theorem rf_13 {i : Nat} (h : i < 8) : am_rf (cS L) 13 i = 51 + 11 * i := by
  match i, h with
  | 0, _ => rfl
  | 1, _ => rfl
  | 2, _ => rfl
  | 3, _ => rfl
  | 4, _ => rfl
  | 5, _ => rfl
  | 6, _ => rfl
  | 7, _ => rfl
theorem rf_14 {i : Nat} (h : i < 2) : am_rf (cS L) 14 i = 139 + 11 * i := by
  match i, h with
  | 0, _ => rfl
  | 1, _ => rfl
theorem ixq_13 {i : Nat} (h : i < 8) : am_ixq (cS L) 13 (nI i) := by
  refine ⟨Or.inl (k_13 L), ⟨by rw [n_ti (by omega)]; omega, by rw [n_ti (by omega), n_13]; omega⟩, ?_⟩
  rw [n_cl (by omega), rf_13 h]; omega
theorem ixq_14 {i : Nat} (h : i < 2) : am_ixq (cS L) 14 (nI i) := by
  refine ⟨Or.inl (k_14 L), ⟨by rw [n_ti (by omega)]; omega, by rw [n_ti (by omega), n_14]; omega⟩, ?_⟩
  rw [n_cl (by omega), rf_14 h]; omega
theorem c_forget : am_C (d + 1) 38 [.ref 33] (cS L) I J Q = Q none (cS L) (am_up I 33 0 0) J := by
  rw [e38]; simp only [r38_0, r38_1, r38_2, r38_5, s_1, s_2, s_3, s_8, s_16, s_18, s_23, s_24, s_33, s_38, s_41, s_161, f_1_0, f_1_1, f_1_4, f_1_5, f_1_8, f_1_9, f_1_10, f_1_11, f_1_12, f_1_13, f_2_0, f_2_1, f_3_3, f_3_4, f_3_5, f_3_6, f_8_2, f_8_3, f_8_4, f_8_5, f_16_2, f_18_3, f_18_4, f_18_5, f_18_6, f_23_0, f_23_1, f_23_2, f_23_3, f_23_4, f_24_2, f_24_3, f_24_4, f_24_5, f_33_3, f_33_4, f_33_5, f_33_6, f_38_1, f_38_2, f_41_0, f_161_0, f_161_1, f_161_3, f_161_7, f_161_12, f_161_13, f_161_14, f_161_15, f_161_16, f_161_17, f_161_18, f_161_19, f_161_21, f_161_22, f_161_25, true_and, and_true, true_or, or_true, if_true, if_false, ne_eq, not_false_eq_true, and_self, t10, am_psh, am_clr, not_true_eq_false, Nat.reduceEqDiff]
theorem rem8 {a : Nat} (ha : a < 2 ^ 31) : nI a - nI a / 8 * 8 = nI (a % 8) := pk_rem (d := 8) ha (by omega) (by omega)
theorem xS_01 {I : am_I} {g q : Nat} {s : St} (h : xS I g q s) : I q 0 = 0 ∨ I q 0 = 1 := by
  obtain ⟨G, o⟩ := s
  cases o with
  | none => exact Or.inl h.2
  | some R => exact Or.inr h.2.1
/-- the second half: with room, the present state goes behind the others -/
theorem kp_2 {s : St} {hs : List St} {o : Nat} (hok : okS s) (hx : xS I 3 8 s) (ho : o < 8) (hH : hX I o hs) (hl : hs.length < 8) :
    ∃ I', (∀ Q, am_T (d + 3) 97 32 [some (.ref 1)] [] (cS L) I J Q = Q none (cS L) I' J) ∧ hX I' o (hs ++ [s]) ∧ (∀ b, b ≠ 1 → b ≠ 33 → (b < 52 ∨ 139 ≤ b) → I' b = I b) ∧ (∀ j, j ≠ 3 → I' 1 j = I 1 j) ∧ I' 33 0 = 0 ∧ ∀ j, j ≠ 0 → I' 33 j = I 33 j := by
  have hi : (o + hs.length) % 8 < 8 := Nat.mod_lt _ (by omega)
  obtain ⟨I1, h1, e1, p1⟩ := c_Sta_copy (d := d + 1) (I := I) (J := J) (shS_k L hi) (shS_2 L) (by omega) (xS_01 hx)
  have e11 : I1 1 = I 1 := e1 1 (by omega)
  have e33 : I1 33 = I 33 := e1 33 (by omega)
  refine ⟨am_up (am_up I1 1 3 (nI (hs.length + 1))) 33 0 0, fun Q => ?_, ⟨?_, ?_, fun i s' hi' => ?_⟩, fun b hb1 hb2 hb3 => ?_, fun j hj => ?_, ?_, fun j hj => ?_⟩
  · simp only [r97_32, r97_33, r97_36, r97_37, r97_40, r97_41, r97_44, r97_45, r97_47, r97_48, r97_49, r97_50, s_1, s_2, s_3, s_8, s_16, s_18, s_23, s_24, s_33, s_38, s_41, s_161, f_1_0, f_1_1, f_1_4, f_1_5, f_1_8, f_1_9, f_1_10, f_1_11, f_1_12, f_1_13, f_2_0, f_2_1, f_3_3, f_3_4, f_3_5, f_3_6, f_8_2, f_8_3, f_8_4, f_8_5, f_16_2, f_18_3, f_18_4, f_18_5, f_18_6, f_23_0, f_23_1, f_23_2, f_23_3, f_23_4, f_24_2, f_24_3, f_24_4, f_24_5, f_33_3, f_33_4, f_33_5, f_33_6, f_38_1, f_38_2, f_41_0, f_161_0, f_161_1, f_161_3, f_161_7, f_161_12, f_161_13, f_161_14, f_161_15, f_161_16, f_161_17, f_161_18, f_161_19, f_161_21, f_161_22, f_161_25, true_and, and_true, true_or, or_true, if_true, if_false, ne_eq, not_false_eq_true, and_self, t10, am_psh, am_clr, not_true_eq_false, Nat.reduceEqDiff]
    rw [hH.1, hH.2.1, nI_add, rem8 (by omega)]
    simp only [eq_true (ixq_13 (L := L) hi), n_cl (show (o + hs.length) % 8 < 2 ^ 31 by omega), rf_13 hi, show ((8 : Int32) = 0) = False from eq_false (by decide), not_false_eq_true, true_and, r97_53]
    rw [eq_true (shS_k L hi).1.1, true_and, h1]
    simp only [r97_56, r97_57, r97_58, r97_61, r97_62, r97_63, r97_66, r97_67, r97_70, r97_73, s_1, s_2, s_3, s_8, s_16, s_18, s_23, s_24, s_33, s_38, s_41, s_161, f_1_0, f_1_1, f_1_4, f_1_5, f_1_8, f_1_9, f_1_10, f_1_11, f_1_12, f_1_13, f_2_0, f_2_1, f_3_3, f_3_4, f_3_5, f_3_6, f_8_2, f_8_3, f_8_4, f_8_5, f_16_2, f_18_3, f_18_4, f_18_5, f_18_6, f_23_0, f_23_1, f_23_2, f_23_3, f_23_4, f_24_2, f_24_3, f_24_4, f_24_5, f_33_3, f_33_4, f_33_5, f_33_6, f_38_1, f_38_2, f_41_0, f_161_0, f_161_1, f_161_3, f_161_7, f_161_12, f_161_13, f_161_14, f_161_15, f_161_16, f_161_17, f_161_18, f_161_19, f_161_21, f_161_22, f_161_25, true_and, and_true, true_or, or_true, if_true, if_false, ne_eq, not_false_eq_true, and_self, t10, am_psh, am_clr, not_true_eq_false, Nat.reduceEqDiff, c_forget, e11, hH.2.1, nI_1]
  · rw [am_up_ne (by omega), up_ne _ _ (Or.inr (by omega)), e11]; exact hH.1
  · rw [am_up_ne (by omega), up_self, List.length_append]; rfl
  · have hk : ∀ j, j < 8 → ∀ b, 52 ≤ b → (am_up (am_up I1 1 3 (nI (hs.length + 1))) 33 0 0) b = I1 b := fun j _ b hb => by rw [am_up_ne (by omega), am_up_ne (by omega)]
    by_cases g : i < hs.length
    · rw [List.getElem?_append_left g] at hi'
      have h3 := hH.2.2 i s' hi'
      have hi2 : (o + i) % 8 < 8 := Nat.mod_lt _ (by omega)
      have hd2 : (o + i) % 8 ≠ (o + hs.length) % 8 := by omega
      refine xS_congr (fun b b1 b2 => ?_) (fun b b1 b2 => ?_) h3
      · rw [hk 0 (by omega) b (by unfold kA at b1; omega), e1 b (by unfold kA at b1 b2; omega)]
      · rw [hk 0 (by omega) b (by unfold kA at b1; omega), e1 b (by unfold kA at b1 b2; omega)]
    · rw [List.getElem?_append_right (by omega)] at hi'
      have : i - hs.length < 1 := (List.getElem?_eq_some_iff.mp hi').1
      have hie : i = hs.length := by omega
      subst hie
      rw [Nat.sub_self] at hi'
      cases hi'
      refine xS_congr (fun b b1 b2 => ?_) (fun b b1 b2 => ?_) (p1 s hok hx)
      · exact hk 0 (by omega) b (by unfold kA at b1; omega)
      · exact hk 0 (by omega) b (by unfold kA at b1; omega)
  · rw [am_up_ne hb2, am_up_ne hb1, e1 b (by omega)]
  · rw [am_up_ne (by omega), up_ne _ _ (Or.inr hj), e11]
  · rw [up_self]
  · rw [up_ne _ _ (Or.inr hj), am_up_ne (by omega), e33]
theorem c_keep {s : St} {hs : List St} {o : Nat} (hok : okS s) (hx : xS I 3 8 s) (ho : o < 8) (hH : hX I o hs) (hl : hs.length ≤ 8) :
    ∃ I' o', (∀ Q, am_C (d + 4) 97 [.ref 1] (cS L) I J Q = Q none (cS L) I' J) ∧ o' < 8 ∧ hX I' o' (pushH hs s) ∧ (∀ b, b ≠ 1 → b ≠ 33 → (b < 52 ∨ 139 ≤ b) → I' b = I b) ∧ (∀ j, j ≠ 2 → j ≠ 3 → I' 1 j = I 1 j) ∧ I' 33 0 = 0 ∧ ∀ j, j ≠ 0 → I' 33 j = I 33 j := by
  unfold pushH
  by_cases g : hs.length = 8
  · rw [if_pos g]
    have hlt : hs.tail.length = 7 := by rw [List.length_tail]; omega
    have hH1 : hX (am_up (am_up I 1 2 (nI ((o + 1) % 8))) 1 3 (nI 7)) ((o + 1) % 8) hs.tail := by
      refine ⟨by rw [up_ne _ _ (Or.inr (by omega)), up_self], by rw [up_self, hlt], fun i s' hi => ?_⟩
      rw [List.getElem?_tail] at hi
      have h3 := hH.2.2 (i + 1) s' hi
      have ek : kA ((o + 1) % 8) i = kA o (i + 1) := by unfold kA; omega
      rw [ek]
      refine xS_congr (fun b b1 b2 => ?_) (fun b b1 b2 => ?_) h3
      · rw [am_up_ne (by unfold kA at b1; omega), am_up_ne (by unfold kA at b1; omega)]
      · rw [am_up_ne (by unfold kA at b1; omega), am_up_ne (by unfold kA at b1; omega)]
    obtain ⟨I', h1, h2, h3, h4, h5, h6⟩ := kp_2 (d := d) (L := L) (J := J) (I := am_up (am_up I 1 2 (nI ((o + 1) % 8))) 1 3 (nI 7)) hok (xS_congr (fun b b1 b2 => by rw [am_up_ne (by omega), am_up_ne (by omega)]) (fun b b1 b2 => by rw [am_up_ne (by omega), am_up_ne (by omega)]) hx) (Nat.mod_lt _ (by omega)) hH1 (by omega)
    refine ⟨I', (o + 1) % 8, fun Q => ?_, Nat.mod_lt _ (by omega), h2, fun b b1 b2 b3 => ?_, fun j j1 j2 => ?_, h5, fun j hj => ?_⟩
    · rw [e97]
      simp only [r97_0, r97_1, r97_4, r97_6, r97_9, r97_10, r97_11, r97_14, r97_15, r97_16, r97_18, r97_19, r97_22, r97_23, r97_24, r97_27, r97_28, r97_29, s_1, s_2, s_3, s_8, s_16, s_18, s_23, s_24, s_33, s_38, s_41, s_161, f_1_0, f_1_1, f_1_4, f_1_5, f_1_8, f_1_9, f_1_10, f_1_11, f_1_12, f_1_13, f_2_0, f_2_1, f_3_3, f_3_4, f_3_5, f_3_6, f_8_2, f_8_3, f_8_4, f_8_5, f_16_2, f_18_3, f_18_4, f_18_5, f_18_6, f_23_0, f_23_1, f_23_2, f_23_3, f_23_4, f_24_2, f_24_3, f_24_4, f_24_5, f_33_3, f_33_4, f_33_5, f_33_6, f_38_1, f_38_2, f_41_0, f_161_0, f_161_1, f_161_3, f_161_7, f_161_12, f_161_13, f_161_14, f_161_15, f_161_16, f_161_17, f_161_18, f_161_19, f_161_21, f_161_22, f_161_25, true_and, and_true, true_or, or_true, if_true, if_false, ne_eq, not_false_eq_true, and_self, t10, am_psh, am_clr, not_true_eq_false, Nat.reduceEqDiff]
      rw [hH.2.1, g, if_pos (show nI 8 = 8 from rfl), up_ne _ _ (Or.inr (by omega)), hH.2.1, hH.1, nI_1, rem8 (by omega), g]
      simp only [show ((8 : Int32) = 0) = False from eq_false (by decide), not_false_eq_true, true_and]
      exact h1 Q
    · rw [h3 b b1 b2 b3, am_up_ne b1, am_up_ne b1]
    · rw [h4 j j2, up_ne _ _ (Or.inr j2), up_ne _ _ (Or.inr j1)]
    · rw [h6 j hj, am_up_ne (by omega), am_up_ne (by omega)]
  · rw [if_neg g]
    obtain ⟨I', h1, h2, h3, h4, h5, h6⟩ := kp_2 (d := d) (L := L) (J := J) hok hx ho hH (by omega)
    refine ⟨I', o, fun Q => ?_, ho, h2, h3, fun j _ j2 => h4 j j2, h5, h6⟩
    rw [e97]
    simp only [r97_0, r97_1, r97_4, r97_6, s_1, s_2, s_3, s_8, s_16, s_18, s_23, s_24, s_33, s_38, s_41, s_161, f_1_0, f_1_1, f_1_4, f_1_5, f_1_8, f_1_9, f_1_10, f_1_11, f_1_12, f_1_13, f_2_0, f_2_1, f_3_3, f_3_4, f_3_5, f_3_6, f_8_2, f_8_3, f_8_4, f_8_5, f_16_2, f_18_3, f_18_4, f_18_5, f_18_6, f_23_0, f_23_1, f_23_2, f_23_3, f_23_4, f_24_2, f_24_3, f_24_4, f_24_5, f_33_3, f_33_4, f_33_5, f_33_6, f_38_1, f_38_2, f_41_0, f_161_0, f_161_1, f_161_3, f_161_7, f_161_12, f_161_13, f_161_14, f_161_15, f_161_16, f_161_17, f_161_18, f_161_19, f_161_21, f_161_22, f_161_25, true_and, and_true, true_or, or_true, if_true, if_false, ne_eq, not_false_eq_true, and_self, t10, am_psh, am_clr, not_true_eq_false, Nat.reduceEqDiff]
    rw [hH.2.1, if_neg (fun q => g ((nI_eq (by omega) (by omega)).mp (q.trans (show (8 : Int32) = nI 8 from rfl))))]
    exact h1 Q
end KP
