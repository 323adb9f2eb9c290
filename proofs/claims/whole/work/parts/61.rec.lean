/-! the record made anew, and what is read of it -/
def sI (f : Nat → Int32) : Nat → Int32
  | 0 => 0
  | k + 1 => sI f k + f k
theorem sI_s (f : Nat → Int32) (k : Nat) : sI f (k + 1) = sI f k + f k := rfl
def tcost (G : Gr) (pr : Nat → Int32) (t : Nat → Nat) : Int32 := sI (fun v => if v = gr G then 0 else pr (t v)) (gn G)
def coG (G : Gr) (a : Nat) : Int32 := nI (gc G a)
def isT (G : Gr) (t : Nat → Nat) : Prop := ∀ v, v < gn G → v ≠ gr G → t v < gm G
def alT : Nat → Bool := fun a => bt (-1) a
def recOf (G : Gr) (s : Cs) : Rc := (vk s, vs s, vd s, vp s, fun v => (ctr G s v).getD 0)
def conR (G : Gr) (pr : Nat → Int32) (al : Nat → Bool) : Option Rc := (conF G pr al 15 (con0 G)).map (recOf G)
def hrc (G : Gr) (o : Option Rc) : Option Rc := match o with
  | some R => some R
  | none => conR G (coG G) alT
def rnx (o : Option Rc) (x : Int32) : Int32 := match o with
  | some _ => x
  | none => x + 1
section RC
variable {d L : Nat} {I I' : am_I} {J : am_J} {Q : am_Q} {G : Gr} {pr : Nat → Int32} {al : Nat → Bool} {s : Cs} {g a : Nat} {t : Nat → Nat}
theorem conF_ok (hG : okG G) : ∀ (f : Nat) (s s' : Cs), cOK G al s → conF G pr al f s = some s' → cOK G al s' ∧ cnext G s' = none := by
  intro f
  induction f with
  | zero => intro s s' _ h; cases h
  | succ f ih =>
    intro s s' hc h
    unfold conF at h
    cases hn : cnext G s with
    | none => rw [hn] at h; cases h; exact ⟨hc, hn⟩
    | some g =>
      rw [hn] at h
      dsimp only at h
      cases hs : csel G pr al s g with
      | none => rw [hs] at h; cases h
      | some a =>
        rw [hs] at h
        exact ih _ _ (clo_ok hG hc hn hs) h
theorem recOf_ok (hG : okG G) (hc : cOK G al s) (hn : cnext G s = none) : okR G (recOf G s) := by
  have hk := ck_le hG hc
  have hgn := hG.1.2.1
  refine ⟨⟨hc.1, show vk s ≤ 15 by omega⟩, fun g p hg h => (hc.2.2.2.1 g p hg h).2.1, fun v hv hr => ?_⟩
  obtain ⟨a, h1, h2, h3, h4⟩ := ctr_node hG hc hn hv hr
  show (ctr G s v).getD 0 < gm G ∧ gh G ((ctr G s v).getD 0) = v
  rw [h1]; exact ⟨h2, h4⟩
theorem conR_ok {R : Rc} (hG : okG G) (h : conR G pr al = some R) : okR G R ∧ ∃ s, conF G pr al 15 (con0 G) = some s ∧ R = recOf G s ∧ cOK G al s ∧ cnext G s = none := by
  unfold conR at h
  cases e : conF G pr al 15 (con0 G) with
  | none => rw [e] at h; cases h
  | some s =>
    rw [e] at h
    have h : recOf G s = R := Option.some.inj h
    obtain ⟨h1, h2⟩ := conF_ok hG 15 _ _ (cOK_0 hG) e
    subst h
    exact ⟨recOf_ok hG h1 h2, s, rfl, rfl, h1, h2⟩
theorem okR_T {R : Rc} (h : okR G R) : isT G (rt R) := fun v hv hr => (h.2.2 v hv hr).1
theorem hrc_ok {o : Option Rc} (hok : okS (G, o)) : okS (G, hrc G o) := by
  refine ⟨hok.1, fun R hR => ?_⟩
  cases o with
  | some R' => exact hok.2 R hR
  | none => exact (conR_ok hok.1 hR).1
-- the class
theorem cb_loop {q cb : Nat} (hq : shR L q) (hcb : isCo cb) (hG : okG G) (hn : I 3 0 = nI (gn G)) (ht : isT G t) (he : ∀ v, v < gn G → I (q + 4) v = if v = gr G then -1 else nI (t v)) (hp : ∀ a, a < gm G → I cb a = pr a) : ∀ (n j : Nat), j + n = gn G → am_T d 31 5 [some (.ref q), some (.ref 3), some (.ref cb), some (.int (sI (fun v => if v = gr G then 0 else pr (t v)) j)), some (.int (nI j))] [] (cS L) I J Q = Q (some (.int (tcost G pr t))) (cS L) I J := by
  have hgn := hG.1.2.1
  have hm32 := hG.1.2.2.2
  obtain ⟨a1, ⟨a2, a3, a4, a5⟩, ⟨a6, a7, a8, a9⟩, ⟨a10, a11, a12, a13⟩⟩ := hq
  obtain ⟨c1, c2, c3⟩ := co_sh (L := L) hcb
  intro n
  induction n with
  | zero =>
    intro j hj
    have : j = gn G := by omega
    subst this
    rw [r31_5]
    simp only [r31_7, r31_8, r31_11, r31_43, r31_44, s_1, s_2, s_3, s_8, s_16, s_18, s_23, s_24, s_33, s_38, s_41, s_161, f_1_0, f_1_1, f_1_4, f_1_5, f_1_8, f_1_9, f_1_10, f_1_11, f_1_12, f_1_13, f_2_0, f_2_1, f_3_3, f_3_4, f_3_5, f_3_6, f_8_2, f_8_3, f_8_4, f_8_5, f_16_2, f_18_3, f_18_4, f_18_5, f_18_6, f_23_0, f_23_1, f_23_2, f_23_3, f_23_4, f_24_2, f_24_3, f_24_4, f_24_5, f_33_3, f_33_4, f_33_5, f_33_6, f_38_1, f_38_2, f_41_0, f_161_0, f_161_1, f_161_3, f_161_7, f_161_12, f_161_13, f_161_14, f_161_15, f_161_16, f_161_17, f_161_18, f_161_19, f_161_21, f_161_22, f_161_25, true_and, and_true, true_or, or_true, if_true, if_false, ne_eq, not_false_eq_true, and_self, t10, am_psh, am_clr, not_true_eq_false, Nat.reduceEqDiff, hn]
    rw [if_pos (Int32.le_refl _)]
    rfl
  | succ n ih =>
    intro j hj
    have x1 : am_ix (cS L) (q + 4) 20 (nI j) := ix_nI a9 a13 (by omega) (by omega)
    rw [r31_5]
    have ih := ih (j + 1) (by omega)
    rw [sI_s] at ih
    by_cases e : j = gr G
    · simp only [r31_7, r31_8, r31_11, r31_14, r31_15, r31_18, r31_20, r31_21, r31_22, r31_37, r31_40, s_1, s_2, s_3, s_8, s_16, s_18, s_23, s_24, s_33, s_38, s_41, s_161, f_1_0, f_1_1, f_1_4, f_1_5, f_1_8, f_1_9, f_1_10, f_1_11, f_1_12, f_1_13, f_2_0, f_2_1, f_3_3, f_3_4, f_3_5, f_3_6, f_8_2, f_8_3, f_8_4, f_8_5, f_16_2, f_18_3, f_18_4, f_18_5, f_18_6, f_23_0, f_23_1, f_23_2, f_23_3, f_23_4, f_24_2, f_24_3, f_24_4, f_24_5, f_33_3, f_33_4, f_33_5, f_33_6, f_38_1, f_38_2, f_41_0, f_161_0, f_161_1, f_161_3, f_161_7, f_161_12, f_161_13, f_161_14, f_161_15, f_161_16, f_161_17, f_161_18, f_161_19, f_161_21, f_161_22, f_161_25, true_and, and_true, true_or, or_true, if_true, if_false, ne_eq, not_false_eq_true, and_self, t10, am_psh, am_clr, not_true_eq_false, Nat.reduceEqDiff, a1, a5, x1, n_cl (show j < 2 ^ 31 by omega), hn, he j (by omega), if_pos e, nI_1, Nat.add_eq_zero_iff, and_false]
      rw [if_neg (nI_ge (show j < gn G by omega) (by omega))]
      rw [if_pos e, Int32.add_zero] at ih
      exact ih
    · have ha := ht j (by omega) e
      have x2 : am_ix (cS L) cb 20 (nI (t j)) := ix_nI c1 c2 (by omega) (by omega)
      simp only [r31_7, r31_8, r31_11, r31_14, r31_15, r31_18, r31_20, r31_21, r31_22, r31_25, r31_26, r31_27, r31_28, r31_31, r31_33, r31_34, r31_35, r31_36, r31_37, r31_40, s_1, s_2, s_3, s_8, s_16, s_18, s_23, s_24, s_33, s_38, s_41, s_161, f_1_0, f_1_1, f_1_4, f_1_5, f_1_8, f_1_9, f_1_10, f_1_11, f_1_12, f_1_13, f_2_0, f_2_1, f_3_3, f_3_4, f_3_5, f_3_6, f_8_2, f_8_3, f_8_4, f_8_5, f_16_2, f_18_3, f_18_4, f_18_5, f_18_6, f_23_0, f_23_1, f_23_2, f_23_3, f_23_4, f_24_2, f_24_3, f_24_4, f_24_5, f_33_3, f_33_4, f_33_5, f_33_6, f_38_1, f_38_2, f_41_0, f_161_0, f_161_1, f_161_3, f_161_7, f_161_12, f_161_13, f_161_14, f_161_15, f_161_16, f_161_17, f_161_18, f_161_19, f_161_21, f_161_22, f_161_25, true_and, and_true, true_or, or_true, if_true, if_false, ne_eq, not_false_eq_true, and_self, t10, am_psh, am_clr, not_true_eq_false, Nat.reduceEqDiff, a1, a5, x1, n_cl (show j < 2 ^ 31 by omega), hn, he j (by omega), if_neg e, n_ne_m1 (show t j < 2 ^ 31 by omega), x2, n_cl (show t j < 2 ^ 31 by omega), hp _ ha, nI_1, Nat.add_eq_zero_iff, and_false]
      rw [if_neg (nI_ge (show j < gn G by omega) (by omega))]
      rw [if_neg e] at ih
      exact ih
theorem c_costBy {q cb : Nat} (hq : shR L q) (hcb : isCo cb) (hG : okG G) (hn : I 3 0 = nI (gn G)) (ht : isT G t) (he : ∀ v, v < gn G → I (q + 4) v = if v = gr G then -1 else nI (t v)) (hp : ∀ a, a < gm G → I cb a = pr a) : am_C (d + 1) 31 [.ref q, .ref 3, .ref cb] (cS L) I J Q = Q (some (.int (tcost G pr t))) (cS L) I J := by
  rw [e31]
  simp only [r31_0, r31_1, r31_2, r31_3]
  exact cb_loop hq hcb hG hn ht he hp (gn G) 0 (by omega)
theorem af_loop {q u : Nat} (hq : shR L q) (hG : okG G) (hx : xG I 3 G) (hu : u < gn G) (ht : isT G t) (he : ∀ v, v < gn G → I (q + 4) v = if v = gr G then -1 else nI (t v)) : ∀ (n j : Nat), j + n = gn G → am_T d 32 5 [some (.ref q), some (.ref 3), some (.int (nI u)), some (.int (nI (sumN (fun v => if v ≠ gr G ∧ gt G (t v) = u then 1 else 0) j))), some (.int (nI j))] [] (cS L) I J Q = Q (some (.int (nI (degA G t u)))) (cS L) I J := by
  have hgn := hG.1.2.1
  have hm32 := hG.1.2.2.2
  obtain ⟨a1, ⟨a2, a3, a4, a5⟩, ⟨a6, a7, a8, a9⟩, ⟨a10, a11, a12, a13⟩⟩ := hq
  intro n
  induction n with
  | zero =>
    intro j hj
    have : j = gn G := by omega
    subst this
    rw [r32_5]
    simp only [r32_7, r32_8, r32_11, r32_50, r32_51, s_1, s_2, s_3, s_8, s_16, s_18, s_23, s_24, s_33, s_38, s_41, s_161, f_1_0, f_1_1, f_1_4, f_1_5, f_1_8, f_1_9, f_1_10, f_1_11, f_1_12, f_1_13, f_2_0, f_2_1, f_3_3, f_3_4, f_3_5, f_3_6, f_8_2, f_8_3, f_8_4, f_8_5, f_16_2, f_18_3, f_18_4, f_18_5, f_18_6, f_23_0, f_23_1, f_23_2, f_23_3, f_23_4, f_24_2, f_24_3, f_24_4, f_24_5, f_33_3, f_33_4, f_33_5, f_33_6, f_38_1, f_38_2, f_41_0, f_161_0, f_161_1, f_161_3, f_161_7, f_161_12, f_161_13, f_161_14, f_161_15, f_161_16, f_161_17, f_161_18, f_161_19, f_161_21, f_161_22, f_161_25, true_and, and_true, true_or, or_true, if_true, if_false, ne_eq, not_false_eq_true, and_self, t10, am_psh, am_clr, not_true_eq_false, Nat.reduceEqDiff, hx.1.1]
    rw [if_pos (Int32.le_refl _)]
    rfl
  | succ n ih =>
    intro j hj
    have x1 : am_ix (cS L) (q + 4) 20 (nI j) := ix_nI a9 a13 (by omega) (by omega)
    rw [r32_5]
    have ih := ih (j + 1) (by omega)
    have es : sumN (fun v => if v ≠ gr G ∧ gt G (t v) = u then 1 else 0) (j + 1) = sumN (fun v => if v ≠ gr G ∧ gt G (t v) = u then 1 else 0) j + (if j ≠ gr G ∧ gt G (t j) = u then 1 else 0) := rfl
    rw [es] at ih
    by_cases e : j = gr G
    · simp only [r32_7, r32_8, r32_11, r32_14, r32_15, r32_18, r32_20, r32_21, r32_22, r32_44, r32_47, s_1, s_2, s_3, s_8, s_16, s_18, s_23, s_24, s_33, s_38, s_41, s_161, f_1_0, f_1_1, f_1_4, f_1_5, f_1_8, f_1_9, f_1_10, f_1_11, f_1_12, f_1_13, f_2_0, f_2_1, f_3_3, f_3_4, f_3_5, f_3_6, f_8_2, f_8_3, f_8_4, f_8_5, f_16_2, f_18_3, f_18_4, f_18_5, f_18_6, f_23_0, f_23_1, f_23_2, f_23_3, f_23_4, f_24_2, f_24_3, f_24_4, f_24_5, f_33_3, f_33_4, f_33_5, f_33_6, f_38_1, f_38_2, f_41_0, f_161_0, f_161_1, f_161_3, f_161_7, f_161_12, f_161_13, f_161_14, f_161_15, f_161_16, f_161_17, f_161_18, f_161_19, f_161_21, f_161_22, f_161_25, true_and, and_true, true_or, or_true, if_true, if_false, ne_eq, not_false_eq_true, and_self, t10, am_psh, am_clr, not_true_eq_false, Nat.reduceEqDiff, a1, a5, x1, n_cl (show j < 2 ^ 31 by omega), hx.1.1, he j (by omega), if_pos e, nI_1, Nat.add_eq_zero_iff, and_false]
      rw [if_neg (nI_ge (show j < gn G by omega) (by omega))]
      rw [if_neg (fun q => q.1 e), Nat.add_zero] at ih
      exact ih
    · have ha := ht j (by omega) e
      have hta := (hG.2.1 (t j) ha).1
      have e4 : I 4 (t j) = nI (gt G (t j)) := (hx.2.1 _ ha).1
      simp only [r32_7, r32_8, r32_11, r32_14, r32_15, r32_18, r32_20, r32_21, r32_22, r32_25, r32_26, r32_29, r32_30, r32_33, r32_35, r32_36, r32_37, r32_38, r32_41, r32_44, r32_47, s_1, s_2, s_3, s_8, s_16, s_18, s_23, s_24, s_33, s_38, s_41, s_161, f_1_0, f_1_1, f_1_4, f_1_5, f_1_8, f_1_9, f_1_10, f_1_11, f_1_12, f_1_13, f_2_0, f_2_1, f_3_3, f_3_4, f_3_5, f_3_6, f_8_2, f_8_3, f_8_4, f_8_5, f_16_2, f_18_3, f_18_4, f_18_5, f_18_6, f_23_0, f_23_1, f_23_2, f_23_3, f_23_4, f_24_2, f_24_3, f_24_4, f_24_5, f_33_3, f_33_4, f_33_5, f_33_6, f_38_1, f_38_2, f_41_0, f_161_0, f_161_1, f_161_3, f_161_7, f_161_12, f_161_13, f_161_14, f_161_15, f_161_16, f_161_17, f_161_18, f_161_19, f_161_21, f_161_22, f_161_25, true_and, and_true, true_or, or_true, if_true, if_false, ne_eq, not_false_eq_true, and_self, t10, am_psh, am_clr, not_true_eq_false, Nat.reduceEqDiff, a1, a5, x1, n_cl (show j < 2 ^ 31 by omega), hx.1.1, he j (by omega), if_neg e, n_ne_m1 (show t j < 2 ^ 31 by omega), ix4 (L := L) (t j) (by omega), n_cl (show t j < 2 ^ 31 by omega), e4, nI_1, Nat.add_eq_zero_iff, and_false]
      rw [if_neg (nI_ge (show j < gn G by omega) (by omega))]
      by_cases e2 : gt G (t j) = u
      · rw [if_pos ⟨e, e2⟩] at ih
        rw [if_pos (show nI (gt G (t j)) = nI u by rw [e2])]
        exact ih
      · rw [if_neg (fun q => e2 q.2), Nat.add_zero] at ih
        rw [if_neg (fun q => e2 ((nI_eq (by omega) (by omega)).mp q))]
        exact ih
theorem c_arcsFrom {q u : Nat} (hq : shR L q) (hG : okG G) (hx : xG I 3 G) (hu : u < gn G) (ht : isT G t) (he : ∀ v, v < gn G → I (q + 4) v = if v = gr G then -1 else nI (t v)) : am_C (d + 1) 32 [.ref q, .ref 3, .int (nI u)] (cS L) I J Q = Q (some (.int (nI (degA G t u)))) (cS L) I J := by
  rw [e32]
  simp only [r32_0, r32_1, r32_2, r32_3]
  exact af_loop hq hG hx hu ht he (gn G) 0 (by omega)
theorem co_x (hx : xG I 3 G) : ∀ a, a < gm G → I 6 a = coG G a := fun a ha => (hx.2.1 a ha).2.2
/-- the tree of a result -/
theorem ctr_enc {z : Int32} (hG : okG G) (hc : cOK G al s) (hn : cnext G s = none) {v : Nat} (hv : v < gn G) : enc z (ctr G s v) = if v = gr G then z else nI (rt (recOf G s) v) := by
  by_cases e : v = gr G
  · rw [if_pos e, e, ctr_root hG hc]; rfl
  · obtain ⟨a, h1, -⟩ := ctr_node hG hc hn hv e
    rw [if_neg e]
    show enc z (ctr G s v) = nI ((ctr G s v).getD 0)
    rw [h1]; rfl
theorem res_rec {r : Option Cs} {R : Rc} (hG : okG G) (hr : conF G pr al 15 (con0 G) = r) (h : xRes I G r) (hR : r.map (recOf G) = some R) : I 24 0 = 1 ∧ xR I 24 G R := by
  cases r with
  | none => cases hR
  | some s =>
    have hR : recOf G s = R := Option.some.inj hR
    obtain ⟨h1, h2⟩ := conF_ok hG 15 _ _ (cOK_0 hG) hr
    obtain ⟨x1, x2, x3, x4⟩ := h
    subst hR
    exact ⟨x1, x2, x3, fun v hv => (x4 v hv).trans (ctr_enc hG h1 h2 hv)⟩
def xPost (I I1 : am_I) (G : Gr) (o o' : Option Rc) : Prop := (∀ b, b ≠ 1 → ¬ (8 ≤ b ∧ b ≤ 12) → ¬ (24 ≤ b ∧ b ≤ 32) → I1 b = I b) ∧ (∀ j, j ≠ 6 → I1 1 j = I 1 j) ∧ I1 1 6 = rnx o (I 1 6) ∧ xS I1 3 8 (G, o')
theorem oB_map {α β : Type} {f : α → β} (r : Option α) : oB (r.map f) = oB r := by cases r <;> rfl
theorem c_have {o : Option Rc} (hok : okS (G, o)) (hx : xS I 3 8 (G, o)) : ∃ I', (∀ Q, am_C (d + 5) 99 [.ref 1] (cS L) I J Q = Q (some (.int (oB (hrc G o)))) (cS L) I' J) ∧ xPost I I' G o (hrc G o) := by
  cases o with
  | some R =>
    refine ⟨I, fun Q => ?_, fun _ _ _ _ => rfl, fun _ _ => rfl, rfl, hx⟩
    rw [e99]
    simp only [r99_0, r99_1, r99_4, r99_7, r99_10, r99_13, r99_14, s_1, s_2, s_3, s_8, s_16, s_18, s_23, s_24, s_33, s_38, s_41, s_161, f_1_0, f_1_1, f_1_4, f_1_5, f_1_8, f_1_9, f_1_10, f_1_11, f_1_12, f_1_13, f_2_0, f_2_1, f_3_3, f_3_4, f_3_5, f_3_6, f_8_2, f_8_3, f_8_4, f_8_5, f_16_2, f_18_3, f_18_4, f_18_5, f_18_6, f_23_0, f_23_1, f_23_2, f_23_3, f_23_4, f_24_2, f_24_3, f_24_4, f_24_5, f_33_3, f_33_4, f_33_5, f_33_6, f_38_1, f_38_2, f_41_0, f_161_0, f_161_1, f_161_3, f_161_7, f_161_12, f_161_13, f_161_14, f_161_15, f_161_16, f_161_17, f_161_18, f_161_19, f_161_21, f_161_22, f_161_25, true_and, and_true, true_or, or_true, if_true, if_false, ne_eq, not_false_eq_true, and_self, t10, am_psh, am_clr, not_true_eq_false, Nat.reduceEqDiff, show I 8 0 = 1 from hx.2.1]
    rfl
  | none =>
    have hG := hok.1
    have h8 : I 8 0 = 0 := hx.2
    obtain ⟨I1, k1, k2, k3, k4⟩ := c_contract (d := d) (L := L) (J := J) (I := am_up I 1 6 (I 1 6 + 1)) (cb := 6) (x := -1) (pr := coG G) (al := alT) (Or.inl rfl) hG (xG_congr (fun b b1 b2 => am_up_ne (by omega)) hx.1) (fun a ha => by rw [am_up_ne (by omega)]; exact co_x hx.1 a ha) (fun a _ => rfl)
    have f1 : ∀ b, b ≠ 1 → ¬ (24 ≤ b ∧ b ≤ 32) → I1 b = I b := fun b b1 b2 => by rw [k2 b (by omega), am_up_ne b1]
    have f11 : ∀ j, j ≠ 6 → I1 1 j = I 1 j := fun j hj => by rw [k2 1 (by omega), up_ne _ _ (Or.inr hj)]
    have f16 : I1 1 6 = I 1 6 + 1 := by rw [k2 1 (by omega), up_self]
    have hx1 : xG I1 3 G := xG_congr (fun b b1 b2 => f1 b (by omega) (by omega)) hx.1
    have hrun : ∀ Q, am_C (d + 5) 99 [.ref 1] (cS L) I J Q = am_T (d + 4) 99 50 [some (.ref 1)] [.int (oB (conF G (coG G) alT 15 (con0 G)))] (cS L) I1 J Q := fun Q => by
      rw [e99]
      simp only [r99_0, r99_1, r99_4, r99_7, r99_10, r99_13, r99_14, r99_15, r99_16, r99_17, r99_20, r99_21, r99_22, r99_25, r99_26, r99_29, r99_30, r99_33, r99_36, r99_37, r99_40, r99_43, r99_46, r99_47, s_1, s_2, s_3, s_8, s_16, s_18, s_23, s_24, s_33, s_38, s_41, s_161, f_1_0, f_1_1, f_1_4, f_1_5, f_1_8, f_1_9, f_1_10, f_1_11, f_1_12, f_1_13, f_2_0, f_2_1, f_3_3, f_3_4, f_3_5, f_3_6, f_8_2, f_8_3, f_8_4, f_8_5, f_16_2, f_18_3, f_18_4, f_18_5, f_18_6, f_23_0, f_23_1, f_23_2, f_23_3, f_23_4, f_24_2, f_24_3, f_24_4, f_24_5, f_33_3, f_33_4, f_33_5, f_33_6, f_38_1, f_38_2, f_41_0, f_161_0, f_161_1, f_161_3, f_161_7, f_161_12, f_161_13, f_161_14, f_161_15, f_161_16, f_161_17, f_161_18, f_161_19, f_161_21, f_161_22, f_161_25, true_and, and_true, true_or, or_true, if_true, if_false, ne_eq, not_false_eq_true, and_self, t10, am_psh, am_clr, not_true_eq_false, Nat.reduceEqDiff, h8]
      rw [k1]
    cases hc : conF G (coG G) alT 15 (con0 G) with
    | none =>
      have hh : hrc G none = none := by show conR G (coG G) alT = none; unfold conR; rw [hc]; rfl
      rw [hh]
      refine ⟨I1, fun Q => ?_, fun b b1 b2 b3 => f1 b b1 b3, f11, f16, hx1, ?_⟩
      · rw [hrun, hc]
        simp only [r99_50, r99_53, r99_54, s_1, s_2, s_3, s_8, s_16, s_18, s_23, s_24, s_33, s_38, s_41, s_161, f_1_0, f_1_1, f_1_4, f_1_5, f_1_8, f_1_9, f_1_10, f_1_11, f_1_12, f_1_13, f_2_0, f_2_1, f_3_3, f_3_4, f_3_5, f_3_6, f_8_2, f_8_3, f_8_4, f_8_5, f_16_2, f_18_3, f_18_4, f_18_5, f_18_6, f_23_0, f_23_1, f_23_2, f_23_3, f_23_4, f_24_2, f_24_3, f_24_4, f_24_5, f_33_3, f_33_4, f_33_5, f_33_6, f_38_1, f_38_2, f_41_0, f_161_0, f_161_1, f_161_3, f_161_7, f_161_12, f_161_13, f_161_14, f_161_15, f_161_16, f_161_17, f_161_18, f_161_19, f_161_21, f_161_22, f_161_25, true_and, and_true, true_or, or_true, if_true, if_false, ne_eq, not_false_eq_true, and_self, t10, am_psh, am_clr, not_true_eq_false, Nat.reduceEqDiff, oB, t01]
      · show I1 8 0 = 0
        rw [f1 8 (by omega) (by omega)]; exact h8
    | some s' =>
      have hh : hrc G none = some (recOf G s') := by show conR G (coG G) alT = _; unfold conR; rw [hc]; rfl
      rw [hh]
      obtain ⟨r1, r2⟩ := res_rec (R := recOf G s') hG hc (by rw [hc] at k3; exact k3) rfl
      obtain ⟨h1, h2⟩ := conF_ok hG 15 _ _ (cOK_0 hG) hc
      have hk : vk s' < 2 * gn G := ck_le hG h1
      have hgn : gn G ≤ 8 := hG.1.2.1
      obtain ⟨I2, m1, m2, m3, m4, m5, m6, m7⟩ := c_Grp_copy (d := d + 3) (L := L) (J := J) (I := I1) (shR_8 L) (shR_24 L) (by omega) (Or.inr r1)
      refine ⟨I2, fun Q => ?_, fun b b1 b2 b3 => by rw [m2 b (by omega), f1 b b1 b3], fun j hj => by rw [m2 1 (by omega), f11 j hj], by rw [m2 1 (by omega)]; exact f16, xG_congr (fun b b1 b2 => m2 b (by omega)) hx1, ?_⟩
      · rw [hrun, hc]
        simp only [r99_50, r99_53, r99_54, r99_55, r99_56, r99_59, r99_62, r99_63, r99_66, r99_69, s_1, s_2, s_3, s_8, s_16, s_18, s_23, s_24, s_33, s_38, s_41, s_161, f_1_0, f_1_1, f_1_4, f_1_5, f_1_8, f_1_9, f_1_10, f_1_11, f_1_12, f_1_13, f_2_0, f_2_1, f_3_3, f_3_4, f_3_5, f_3_6, f_8_2, f_8_3, f_8_4, f_8_5, f_16_2, f_18_3, f_18_4, f_18_5, f_18_6, f_23_0, f_23_1, f_23_2, f_23_3, f_23_4, f_24_2, f_24_3, f_24_4, f_24_5, f_33_3, f_33_4, f_33_5, f_33_6, f_38_1, f_38_2, f_41_0, f_161_0, f_161_1, f_161_3, f_161_7, f_161_12, f_161_13, f_161_14, f_161_15, f_161_16, f_161_17, f_161_18, f_161_19, f_161_21, f_161_22, f_161_25, true_and, and_true, true_or, or_true, if_true, if_false, ne_eq, not_false_eq_true, and_self, t10, am_psh, am_clr, not_true_eq_false, Nat.reduceEqDiff, oB]
        rw [m1]
        simp only [r99_72, r99_73, s_1, s_2, s_3, s_8, s_16, s_18, s_23, s_24, s_33, s_38, s_41, s_161, f_1_0, f_1_1, f_1_4, f_1_5, f_1_8, f_1_9, f_1_10, f_1_11, f_1_12, f_1_13, f_2_0, f_2_1, f_3_3, f_3_4, f_3_5, f_3_6, f_8_2, f_8_3, f_8_4, f_8_5, f_16_2, f_18_3, f_18_4, f_18_5, f_18_6, f_23_0, f_23_1, f_23_2, f_23_3, f_23_4, f_24_2, f_24_3, f_24_4, f_24_5, f_33_3, f_33_4, f_33_5, f_33_6, f_38_1, f_38_2, f_41_0, f_161_0, f_161_1, f_161_3, f_161_7, f_161_12, f_161_13, f_161_14, f_161_15, f_161_16, f_161_17, f_161_18, f_161_19, f_161_21, f_161_22, f_161_25, true_and, and_true, true_or, or_true, if_true, if_false, ne_eq, not_false_eq_true, and_self, t10, am_psh, am_clr, not_true_eq_false, Nat.reduceEqDiff, t11]
      · refine ⟨by rw [m3 0 (by omega)]; exact r1, by rw [m3 1 (by omega)]; exact r2.1, fun g hg => ?_, fun v hv => by rw [m7 v (by have : v < gn G := hv; omega)]; exact r2.2.2 v hv⟩
        have hg' : g < vk s' := hg
        rw [m4 g (by omega), m5 g (by omega), m6 g (by omega)]; exact r2.2.1 g hg
end RC
