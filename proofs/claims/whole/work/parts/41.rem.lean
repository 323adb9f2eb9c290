/-! removeArc -/
abbrev inTr (G : Gr) (R : Rc) (a : Nat) : Prop := gh G a ≠ gr G ∧ rt R (gh G a) = a
/-- places from a to k - 1 take over from the next -/
def dl {α : Type} (f : Nat → α) (a k : Nat) : Nat → α := fun j => if a ≤ j ∧ j < k then f (j + 1) else f j
theorem dl_0 {α : Type} (f : Nat → α) (a : Nat) : dl f a a = f := by funext j; unfold dl; rw [if_neg (by omega)]
theorem dl_s {α : Type} (f : Nat → α) {a k : Nat} (h : a ≤ k) : fset (dl f a k) k (f (k + 1)) = dl f a (k + 1) := by
  funext j
  unfold dl fset
  dsimp only
  by_cases e : j = k
  · subst e; rw [if_pos rfl, if_pos (by omega)]
  · by_cases g : a ≤ j ∧ j < k
    · rw [if_neg e, if_pos g, if_pos (by omega)]
    · rw [if_neg e, if_neg g, if_neg (by omega)]
theorem dl_at {α : Type} (f : Nat → α) {a k j : Nat} (h : k ≤ j) : dl f a k j = f j := by unfold dl; rw [if_neg (by omega)]
def delA (G : Gr) (a : Nat) : Gr := (gn G, gr G, gm G - 1, dl (gt G) a (gm G), dl (gh G) a (gm G), dl (gc G) a (gm G), gl G)
def delR (R : Rc) (a : Nat) : Rc := (rk R, rs R, rd R, rp R, fun v => if a < rt R v then rt R v - 1 else rt R v)
theorem okG_del {G : Gr} {a : Nat} (hG : okG G) : okG (delA G a) := by
  obtain ⟨⟨a1, a2, a3, a4⟩, a5, a6⟩ := hG
  refine ⟨⟨a1, a2, a3, by show gm G - 1 ≤ 32; omega⟩, fun b hb => ?_, a6⟩
  have hb : b < gm G - 1 := hb
  show dl (gt G) a (gm G) b < gn G ∧ dl (gh G) a (gm G) b < gn G ∧ dl (gt G) a (gm G) b ≠ dl (gh G) a (gm G) b ∧ dl (gc G) a (gm G) b ≤ 99
  unfold dl
  by_cases e : a ≤ b ∧ b < gm G
  · rw [if_pos e, if_pos e, if_pos e]; exact a5 (b + 1) (by omega)
  · rw [if_neg e, if_neg e, if_neg e]; exact a5 b (by omega)
theorem okR_del {G : Gr} {R : Rc} {a : Nat} (hR : okR G R) (hn : ¬ inTr G R a) (ha : a < gm G) : okR (delA G a) (delR R a) := by
  obtain ⟨a1, a2, a3⟩ := hR
  refine ⟨a1, a2, fun v hv hne => ?_⟩
  obtain ⟨b1, b2⟩ := a3 v hv hne
  have hne : v ≠ gr G := hne
  have hra : rt R v ≠ a := fun e => hn (by
    have : gh G a = v := by rw [← e]; exact b2
    exact ⟨by rw [this]; exact hne, by rw [this]; exact e⟩)
  show (if a < rt R v then rt R v - 1 else rt R v) < gm G - 1 ∧ dl (gh G) a (gm G) (if a < rt R v then rt R v - 1 else rt R v) = v
  by_cases e : a < rt R v
  · rw [if_pos e]; unfold dl; rw [if_pos (by omega), show rt R v - 1 + 1 = rt R v by omega]; exact ⟨by omega, b2⟩
  · rw [if_neg e]; unfold dl; rw [if_neg (by omega)]; exact ⟨by omega, b2⟩
/-- three rows at once -/
def rows3 (I : am_I) (p : Nat) (f g h : Nat → Int32) : am_I := am_row (am_row (am_row I p f) (p + 1) g) (p + 2) h
section RM
variable {d L : Nat} {I I' : am_I} {J J' : am_J} {Q : am_Q}
theorem rows3_ne {p b : Nat} {f g h : Nat → Int32} (hb : b < p ∨ p + 2 < b) : rows3 I p f g h b = I b := by unfold rows3; rw [am_row_ne (by omega), am_row_ne (by omega), am_row_ne (by omega)]
theorem rows3_0 {p : Nat} {f g h : Nat → Int32} : rows3 I p f g h p = f := by unfold rows3; rw [am_row_ne (by omega), am_row_ne (by omega), am_row_eq]
theorem rows3_1 {p : Nat} {f g h : Nat → Int32} : rows3 I p f g h (p + 1) = g := by unfold rows3; rw [am_row_ne (by omega), am_row_eq]
theorem rows3_2 {p : Nat} {f g h : Nat → Int32} : rows3 I p f g h (p + 2) = h := by unfold rows3; rw [am_row_eq]
theorem rows3_u {p k : Nat} {f g h : Nat → Int32} (x y z : Int32) : am_up (am_up (am_up (rows3 I p f g h) p k x) (p + 1) k y) (p + 2) k z = rows3 I p (fset f k x) (fset g k y) (fset h k z) := by
  funext b j
  by_cases e0 : b = p
  · subst e0; rw [am_up_ne (by omega), am_up_ne (by omega), up_fset, am_row_eq, rows3_0, rows3_0]
  · by_cases e1 : b = p + 1
    · subst e1; rw [am_up_ne (by omega), up_fset, am_row_eq, am_up_ne (by omega), rows3_1, rows3_1]
    · by_cases e2 : b = p + 2
      · subst e2; rw [up_fset, am_row_eq, am_up_ne (by omega), am_up_ne (by omega), rows3_2, rows3_2]
      · rw [am_up_ne e2, am_up_ne e1, am_up_ne e0, rows3_ne (by omega), rows3_ne (by omega)]
theorem rows3_id {p : Nat} : rows3 I p (I p) (I (p + 1)) (I (p + 2)) = I := by
  unfold rows3
  rw [row_id (f := I) (a := p) rfl, row_id (f := I) (a := p + 1) rfl, row_id (f := I) (a := p + 2) rfl]
theorem c_contains {G : Gr} {R : Rc} {a : Nat} (hok : okG G) (hR : okR G R) (hx : xG I 3 G) (hr : xR I 8 G R) (ha : a < gm G) : am_C (d + 1) 30 [.ref 8, .ref 3, .int (nI a)] (cS L) I J Q = Q (some (.int (b32 (inTr G R a)))) (cS L) I J := by
  have hm := hok.1.2.2.2
  have hn := hok.1.2.1
  obtain ⟨-, hgh, -⟩ := hok.2.1 a ha
  have e1 : I 5 a = nI (gh G a) := (hx.2.1 a ha).2.1
  have e2 : I 12 (gh G a) = if gh G a = gr G then -1 else nI (rt R (gh G a)) := hr.2.2 (gh G a) hgh
  rw [e30]
  simp only [r30_0, r30_1, r30_4, r30_5, r30_8, r30_9, r30_10, r30_11, r30_12, r30_15, r30_16, r30_19, r30_20, s_1, s_2, s_3, s_8, s_16, s_18, s_23, s_24, s_33, s_38, s_41, s_161, f_1_0, f_1_1, f_1_4, f_1_5, f_1_8, f_1_9, f_1_10, f_1_11, f_1_12, f_1_13, f_2_0, f_2_1, f_3_3, f_3_4, f_3_5, f_3_6, f_8_2, f_8_3, f_8_4, f_8_5, f_16_2, f_18_3, f_18_4, f_18_5, f_18_6, f_23_0, f_23_1, f_23_2, f_23_3, f_23_4, f_24_2, f_24_3, f_24_4, f_24_5, f_33_3, f_33_4, f_33_5, f_33_6, f_38_1, f_38_2, f_41_0, f_161_0, f_161_1, f_161_3, f_161_7, f_161_12, f_161_13, f_161_14, f_161_15, f_161_16, f_161_17, f_161_18, f_161_19, f_161_21, f_161_22, f_161_25, true_and, and_true, true_or, or_true, if_true, if_false, ne_eq, not_false_eq_true, and_self, t10, am_psh, am_clr, not_true_eq_false, Nat.reduceEqDiff, show am_ix (cS L) 5 20 (nI a) from ix_nI (k_5 L) (n_5 L) (by omega) (by omega), n_cl (show a < 2 ^ 31 by omega), e1, show am_ix (cS L) 12 20 (nI (gh G a)) from ix_nI (k_12 L) (n_12 L) (by omega) (by omega), n_cl (show gh G a < 2 ^ 31 by omega), e2]
  by_cases e : gh G a = gr G
  · rw [if_pos e, if_neg (fun q => by have := n_ne_m1 (a := a) (by omega); rw [this.symm]; exact q.symm), b32_F (fun q => q.1 e)]
  · rw [if_neg e]
    obtain ⟨r1, -⟩ := hR.2.2 (gh G a) hgh e
    by_cases e2 : rt R (gh G a) = a
    · rw [b32_T (p := inTr G R a) ⟨e, e2⟩, if_pos (congrArg nI e2)]
    · rw [if_neg (fun q => e2 ((nI_eq (by omega) (by omega)).mp q)), b32_F (fun q => e2 q.2)]
def orN (f : Nat → Int32) : Nat → Int32
  | 0 => 0
  | k + 1 => orN f k ||| f k
theorem orN_s (f : Nat → Int32) (k : Nat) : orN f (k + 1) = orN f k ||| f k := rfl
theorem orN_0 {f : Nat → Int32} : ∀ k, (∀ v, v < k → f v = 0) → orN f k = 0 := by
  intro k
  induction k with
  | zero => intro _; rfl
  | succ k ih => intro h; rw [orN_s, ih (fun v hv => h v (by omega)), h k (by omega)]; rfl
theorem orN_01 {f : Nat → Int32} : ∀ k, (∀ v, v < k → f v = 0 ∨ f v = 1) → orN f k = 0 ∨ orN f k = 1 := by
  intro k
  induction k with
  | zero => intro _; exact Or.inl rfl
  | succ k ih =>
    intro h
    rw [orN_s]
    rcases ih (fun v hv => h v (by omega)) with q | q <;> rcases h k (by omega) with p | p <;> rw [q, p] <;> decide
theorem orN_1 {f : Nat → Int32} {v : Nat} : ∀ k, (∀ v, v < k → f v = 0 ∨ f v = 1) → v < k → f v = 1 → orN f k = 1 := by
  intro k
  induction k with
  | zero => intro _ h; omega
  | succ k ih =>
    intro h hv h1
    rw [orN_s]
    by_cases e : v = k
    · subst e; rw [h1]
      rcases orN_01 v (fun v hv => h v (by omega)) with q | q <;> rw [q] <;> decide
    · rw [ih (fun v hv => h v (by omega)) (by omega) h1]
      rcases h k (by omega) with p | p <;> rw [p] <;> decide
theorem inTree_loop {n : Nat} {x : Int32} (hn : n ≤ 8) (h0 : I 162 0 = nI n) : ∀ (m j : Nat), j + m = n → am_T d 121 4 [some (.ref 161), some (.int x), some (.int (orN (fun v => b32 (I 162 (157 + v) = x)) j)), some (.int (nI j))] [] (cS L) I J Q = Q (some (.int (orN (fun v => b32 (I 162 (157 + v) = x)) n))) (cS L) I J := by
  have hb : ∀ k, orN (fun v => b32 (I 162 (157 + v) = x)) k = 0 ∨ orN (fun v => b32 (I 162 (157 + v) = x)) k = 1 := fun k => orN_01 k (fun v _ => b32_01 _)
  intro m
  induction m with
  | zero =>
    intro j hj
    have hj : j = n := by omega
    subst hj
    rw [r121_4]
    simp only [r121_5, r121_6, r121_9, r121_10, r121_11, r121_42, r121_43, s_1, s_2, s_3, s_8, s_16, s_18, s_23, s_24, s_33, s_38, s_41, s_161, f_1_0, f_1_1, f_1_4, f_1_5, f_1_8, f_1_9, f_1_10, f_1_11, f_1_12, f_1_13, f_2_0, f_2_1, f_3_3, f_3_4, f_3_5, f_3_6, f_8_2, f_8_3, f_8_4, f_8_5, f_16_2, f_18_3, f_18_4, f_18_5, f_18_6, f_23_0, f_23_1, f_23_2, f_23_3, f_23_4, f_24_2, f_24_3, f_24_4, f_24_5, f_33_3, f_33_4, f_33_5, f_33_6, f_38_1, f_38_2, f_41_0, f_161_0, f_161_1, f_161_3, f_161_7, f_161_12, f_161_13, f_161_14, f_161_15, f_161_16, f_161_17, f_161_18, f_161_19, f_161_21, f_161_22, f_161_25, true_and, and_true, true_or, or_true, if_true, if_false, ne_eq, not_false_eq_true, and_self, t10, am_psh, am_clr, not_true_eq_false, Nat.reduceEqDiff, show am_ix (cS L) 162 20 0 from mx 0 (by omega), show (0 : Int32).toNatClampNeg = 0 from by decide, h0, hb]
    rw [if_pos (Int32.le_refl _)]
  | succ m ih =>
    intro j hj
    rw [r121_4]
    simp only [r121_5, r121_6, r121_9, r121_10, r121_11, r121_14, r121_15, r121_16, r121_19, r121_22, r121_23, r121_24, r121_25, s_1, s_2, s_3, s_8, s_16, s_18, s_23, s_24, s_33, s_38, s_41, s_161, f_1_0, f_1_1, f_1_4, f_1_5, f_1_8, f_1_9, f_1_10, f_1_11, f_1_12, f_1_13, f_2_0, f_2_1, f_3_3, f_3_4, f_3_5, f_3_6, f_8_2, f_8_3, f_8_4, f_8_5, f_16_2, f_18_3, f_18_4, f_18_5, f_18_6, f_23_0, f_23_1, f_23_2, f_23_3, f_23_4, f_24_2, f_24_3, f_24_4, f_24_5, f_33_3, f_33_4, f_33_5, f_33_6, f_38_1, f_38_2, f_41_0, f_161_0, f_161_1, f_161_3, f_161_7, f_161_12, f_161_13, f_161_14, f_161_15, f_161_16, f_161_17, f_161_18, f_161_19, f_161_21, f_161_22, f_161_25, true_and, and_true, true_or, or_true, if_true, if_false, ne_eq, not_false_eq_true, and_self, t10, am_psh, am_clr, not_true_eq_false, Nat.reduceEqDiff, show am_ix (cS L) 162 20 0 from mx 0 (by omega), show (0 : Int32).toNatClampNeg = 0 from by decide, h0, show (157 : Int32) + nI j = nI (157 + j) from nI_add 157 j, mx (L := L) (157 + j) (by omega), n_cl (show 157 + j < 2 ^ 31 by omega)]
    rw [if_neg (nI_ge (show j < n by omega) (by omega))]
    have ih := ih (j + 1) (by omega)
    rw [orN_s] at ih
    by_cases e : I 162 (157 + j) = x
    · rw [b32_T e] at ih
      simp only [r121_26, r121_29, r121_30, r121_33, r121_34, r121_35, r121_36, r121_39, e, if_true, am_clr, nI_1, ne_eq, not_true_eq_false, if_false]
      exact ih
    · rw [b32_F e] at ih
      simp only [r121_26, r121_29, r121_30, r121_33, r121_34, r121_35, r121_36, r121_39, e, if_false, am_clr, nI_1, ne_eq, not_false_eq_true, if_true]
      exact ih
theorem c_isInTree {G : Gr} {R : Rc} {a : Nat} (hok : okG G) (hR : okR G R) (h0 : I 162 0 = nI (gn G)) (hr : ∀ v, v < gn G → I 162 (157 + v) = if v = gr G then -107 else nI (rt R v)) (ha : a < gm G) : am_C (d + 1) 121 [.ref 161, .int (nI a)] (cS L) I J Q = Q (some (.int (b32 (inTr G R a)))) (cS L) I J := by
  have hm := hok.1.2.2.2
  have hn := hok.1.2.1
  rw [e121]
  simp only [r121_0, r121_1, r121_2, r121_3, am_clr]
  have h := inTree_loop (d := d) (L := L) (J := J) (Q := Q) (x := nI a) hn h0 (gn G) 0 (by omega)
  refine Eq.trans h ?_
  congr 3
  by_cases e : inTr G R a
  · rw [b32_T e]
    obtain ⟨-, hgh, -⟩ := hok.2.1 a ha
    refine orN_1 (v := gh G a) _ (fun v _ => b32_01 _) hgh (b32_T ?_)
    rw [hr (gh G a) hgh, if_neg e.1, e.2]
  · rw [b32_F e]
    refine orN_0 _ (fun v hv => b32_F (fun q => ?_))
    rw [hr v hv] at q
    by_cases ev : v = gr G
    · rw [if_pos ev] at q
      have := n_ne_none (a := a) (by omega)
      rw [← this]; exact q.symm
    · rw [if_neg ev] at q
      obtain ⟨r1, r2⟩ := hR.2.2 v hv ev
      have := (nI_eq (by omega) (by omega)).mp q
      exact e ⟨by rw [← this, r2]; exact ev, by rw [← this, r2]⟩
theorem c_del_loop {g a m : Nat} (hg : shG L g) (hm : m ≤ 32) (hc : I g 2 = nI m) : ∀ (n k : Nat), k + n + 1 = m → a ≤ k → am_T d 16 2 [some (.ref g), some (.int (nI a)), some (.int (nI k))] [] (cS L) (rows3 I (g + 1) (dl (I (g + 1)) a k) (dl (I (g + 2)) a k) (dl (I (g + 3)) a k)) J Q = Q none (cS L) (am_up (rows3 I (g + 1) (dl (I (g + 1)) a (m - 1)) (dl (I (g + 2)) a (m - 1)) (dl (I (g + 3)) a (m - 1))) g 2 (nI (m - 1))) J := by
  obtain ⟨a1, ⟨a2, a3, a4, a5⟩, ⟨a6, a7, a8, a9⟩, ⟨a10, a11, a12, a13⟩⟩ := hg
  have cg : ∀ f1 f2 f3, (rows3 I (g + 1) f1 f2 f3) g = I g := fun f1 f2 f3 => rows3_ne (by omega)
  intro n
  induction n with
  | zero =>
    intro k hk hak
    have hk : k = m - 1 := by omega
    subst hk
    rw [r16_2]
    simp only [r16_3, r16_4, r16_5, r16_6, r16_9, r16_60, r16_61, r16_62, r16_65, r16_66, r16_67, r16_70, a1, true_and, and_true, true_or, or_true, if_true, if_false, ne_eq, not_false_eq_true, and_self, t10, am_psh, am_clr, not_true_eq_false, Nat.reduceEqDiff, cg, hc, nI_1]
    rw [if_pos (show nI m ≤ nI (m - 1 + 1) from (nI_leI (by omega) (by omega)).mpr (by omega))]
    obtain ⟨m', rfl⟩ : ∃ m', m = m' + 1 := ⟨m - 1, by omega⟩
    rw [nI_pred]; rfl
  | succ n ih =>
    intro k hk hak
    rw [r16_2]
    have y1 : am_ix (cS L) (g + 1) 20 (nI (k + 1)) := ix_nI a6 a10 (by omega) (by omega)
    have y2 : am_ix (cS L) (g + 2) 20 (nI (k + 1)) := ix_nI a7 a11 (by omega) (by omega)
    have y3 : am_ix (cS L) (g + 3) 20 (nI (k + 1)) := ix_nI a8 a12 (by omega) (by omega)
    have z1 : am_ixw (cS L) (g + 1) 20 (nI k) := ixw_nI a6 (by omega) a10 (by omega) (by omega)
    have z2 : am_ixw (cS L) (g + 2) 20 (nI k) := ixw_nI a7 (by omega) a11 (by omega) (by omega)
    have z3 : am_ixw (cS L) (g + 3) 20 (nI k) := ixw_nI a8 (by omega) a12 (by omega) (by omega)
    simp only [r16_3, r16_4, r16_5, r16_6, r16_9, r16_12, r16_13, r16_16, r16_17, r16_18, r16_21, r16_22, r16_23, r16_24, r16_25, r16_26, r16_27, r16_30, r16_31, r16_32, r16_35, r16_36, r16_37, r16_38, r16_39, r16_40, r16_41, r16_44, r16_45, r16_46, r16_49, r16_50, r16_51, r16_52, r16_53, r16_54, r16_57, a1, a2, a3, a4, true_and, and_true, true_or, or_true, if_true, if_false, ne_eq, not_false_eq_true, and_self, t10, am_psh, am_clr, not_true_eq_false, Nat.reduceEqDiff, cg, hc, nI_1, y1, y2, y3, z1, z2, z3, n_cl (show k < 2 ^ 31 by omega), n_cl (show k + 1 < 2 ^ 31 by omega), Nat.add_eq_zero_iff, and_false, (show ∀ (f : am_I) (j : Nat) (x : Int32), am_up f (g + 1) j x (g + 2) = f (g + 2) from fun f j x => am_up_ne (by omega)), (show ∀ (f : am_I) (j : Nat) (x : Int32), am_up f (g + 1) j x (g + 3) = f (g + 3) from fun f j x => am_up_ne (by omega)), (show ∀ (f : am_I) (j : Nat) (x : Int32), am_up f (g + 2) j x (g + 3) = f (g + 3) from fun f j x => am_up_ne (by omega))]
    rw [if_neg (nI_ge (show k + 1 < m by omega) (by omega))]
    have r1 : (rows3 I (g + 1) (dl (I (g + 1)) a k) (dl (I (g + 2)) a k) (dl (I (g + 3)) a k)) (g + 1) (k + 1) = I (g + 1) (k + 1) := by rw [rows3_0]; exact dl_at _ (by omega)
    have r2 : (rows3 I (g + 1) (dl (I (g + 1)) a k) (dl (I (g + 2)) a k) (dl (I (g + 3)) a k)) (g + 2) (k + 1) = I (g + 2) (k + 1) := by rw [show g + 2 = g + 1 + 1 from rfl, rows3_1]; exact dl_at _ (by omega)
    have r3 : (rows3 I (g + 1) (dl (I (g + 1)) a k) (dl (I (g + 2)) a k) (dl (I (g + 3)) a k)) (g + 3) (k + 1) = I (g + 3) (k + 1) := by rw [show g + 3 = g + 1 + 2 from rfl, rows3_2]; exact dl_at _ (by omega)
    have hu := rows3_u (I := I) (p := g + 1) (k := k) (f := dl (I (g + 1)) a k) (g := dl (I (g + 2)) a k) (h := dl (I (g + 3)) a k) (I (g + 1) (k + 1)) (I (g + 2) (k + 1)) (I (g + 3) (k + 1))
    rw [dl_s _ hak, dl_s _ hak, dl_s _ hak] at hu
    rw [r1, r2, r3, show g + 3 = g + 1 + 2 from rfl, show g + 2 = g + 1 + 1 from rfl] at *
    rw [hu]
    exact ih (k + 1) (by omega) (by omega)
theorem c_Gra_delete {g a m : Nat} (hg : shG L g) (hm : m ≤ 32) (ha : a < m) (hc : I g 2 = nI m) : am_C (d + 1) 16 [.ref g, .int (nI a)] (cS L) I J Q = Q none (cS L) (am_up (rows3 I (g + 1) (dl (I (g + 1)) a (m - 1)) (dl (I (g + 2)) a (m - 1)) (dl (I (g + 3)) a (m - 1))) g 2 (nI (m - 1))) J := by
  rw [e16]
  simp only [r16_0, r16_1, am_clr]
  have h := c_del_loop (d := d) (a := a) (J := J) (Q := Q) hg hm hc (m - 1 - a) a (by omega) (Nat.le_refl _)
  rw [dl_0, dl_0, dl_0, rows3_id] at h
  exact h
end RM
