/-! going through all choices: as a function; the model's pieces -/
noncomputable def pD (p : Prop) : Bool := @decide p (Classical.propDecidable p)
theorem pD_t {p : Prop} : pD p = true ↔ p := by unfold pD; exact @decide_eq_true_iff p (Classical.propDecidable p)
theorem pD_T {p : Prop} (h : p) : pD p = true := pD_t.mpr h
theorem pD_F {p : Prop} (h : ¬ p) : pD p = false := by
  cases e : pD p with
  | false => rfl
  | true => exact absurd (pD_t.mp e) h
noncomputable def bI (p : Prop) : Int32 := if pD p = true then 1 else 0
theorem bI_T {p : Prop} (h : p) : bI p = 1 := by unfold bI; rw [pD_T h]; rfl
theorem bI_F {p : Prop} (h : ¬ p) : bI p = 0 := by unfold bI; rw [pD_F h]; rfl
theorem bI_or (p q : Prop) : bI p ||| bI q = bI (p ∨ q) := by
  by_cases h : p
  · by_cases g : q
    · rw [bI_T h, bI_T g, bI_T (Or.inl h)]; decide
    · rw [bI_T h, bI_F g, bI_T (Or.inl h)]; decide
  · by_cases g : q
    · rw [bI_F h, bI_T g, bI_T (Or.inr g)]; decide
    · rw [bI_F h, bI_F g, bI_F (fun z => z.elim h g)]; decide
theorem bI_c {p q : Prop} (h : p ↔ q) : bI p = bI q := by rw [propext h]
theorem bI_01 (p : Prop) : (bI p = 0 ∨ bI p = 1) = True := eq_true (by
  by_cases h : p
  · exact Or.inr (bI_T h)
  · exact Or.inl (bI_F h))
def foA {α : Type} (P : Nat → Bool) (g : Nat → α → α) : Nat → Nat → α → α
  | 0, _, x => x
  | n + 1, a, x => foA P g n (a + 1) (if P a = true then g a x else x)
def nxA (G : Gr) (v : Nat) : Nat → Nat → Option Nat
  | 0, _ => none
  | n + 1, a => if gh G a = v then some a else nxA G v n (a + 1)
def hdP (G : Gr) (v : Nat) : Nat → Bool := fun a => decide (gh G a = v)
def enF {α : Type} (G : Gr) (leaf : (Nat → Nat) → α → α) : Nat → Nat → (Nat → Nat) → α → α
  | 0, _, f, x => leaf f x
  | n + 1, v, f, x => if v = gr G then enF G leaf n (v + 1) (fset f v 0) x else foA (hdP G v) (fun a y => enF G leaf n (v + 1) (fset f v a) y) (gm G) 0 x
theorem foA_n {α : Type} {G : Gr} {v : Nat} {g : Nat → α → α} : ∀ (n a : Nat) (x : α), nxA G v n a = none → foA (hdP G v) g n a x = x := by
  intro n
  induction n with
  | zero => intro a x _; rfl
  | succ n ih =>
    intro a x h
    unfold nxA at h
    by_cases e : gh G a = v
    · rw [if_pos e] at h; cases h
    · rw [if_neg e] at h
      unfold foA hdP
      rw [if_neg (by rw [decide_eq_true_iff]; exact e)]
      exact ih _ _ h
theorem foA_s {α : Type} {G : Gr} {v b : Nat} {g : Nat → α → α} : ∀ (n a : Nat) (x : α), nxA G v n a = some b → a ≤ b ∧ b < a + n ∧ gh G b = v ∧ foA (hdP G v) g n a x = foA (hdP G v) g (a + n - b - 1) (b + 1) (g b x) := by
  intro n
  induction n with
  | zero => intro a x h; cases h
  | succ n ih =>
    intro a x h
    unfold nxA at h
    by_cases e : gh G a = v
    · rw [if_pos e] at h
      have hab : b = a := (Option.some.inj h).symm
      rw [hab]
      refine ⟨Nat.le_refl _, by omega, e, ?_⟩
      rw [show a + (n + 1) - a - 1 = n by omega]
      show foA (hdP G v) g n (a + 1) (if hdP G v a = true then g a x else x) = _
      rw [if_pos (show hdP G v a = true from decide_eq_true e)]
    · rw [if_neg e] at h
      obtain ⟨h1, h2, h3, h4⟩ := ih (a + 1) x h
      refine ⟨by omega, by omega, h3, ?_⟩
      show foA (hdP G v) g n (a + 1) (if hdP G v a = true then g a x else x) = _
      rw [if_neg (show ¬ hdP G v a = true from fun q => e (of_decide_eq_true q)), h4, show a + 1 + n - b - 1 = a + (n + 1) - b - 1 by omega]
def arP (G : Gr) (f : Nat → Nat) : Prop := ∀ v, v < gn G → upN G f (gn G) v = gr G
def lmP (G : Gr) (f : Nat → Nat) : Prop := ∀ u, u < gn G → degA G f u ≤ gl G u
def btr (G : Gr) (f : Nat → Nat) (b : Option (Nat → Nat)) : Prop := match b with
  | none => True
  | some h => cosA G f < cosA G h
def hasP (G : Gr) (o : Option Nat) (f : Nat → Nat) (k : Nat) : Prop := match o with
  | none => True
  | some a => ∃ v, v < k ∧ v ≠ gr G ∧ f v = a
noncomputable def lfB (G : Gr) (f : Nat → Nat) (b : Option (Nat → Nat)) : Option (Nat → Nat) := if pD (isAr G f ∧ btr G f b ∧ lmP G f) = true then some f else b
noncomputable def lfC (G : Gr) (o : Option Nat) (f : Nat → Nat) (c : Nat) : Nat := if pD (isAr G f ∧ hasP G o f (gn G)) = true then c + 1 else c
noncomputable def lfX (G : Gr) (o : Option Nat) (f : Nat → Nat) (x : Option (Nat → Nat) × Nat) : Option (Nat → Nat) × Nat := (lfB G f x.1, lfC G o f x.2)
theorem foA_pair {α β : Type} {P : Nat → Bool} {g : Nat → α → α} {h : Nat → β → β} {k : Nat → α × β → α × β} (hk : ∀ a x, k a x = (g a x.1, h a x.2)) : ∀ (n a : Nat) (x : α × β), foA P k n a x = (foA P g n a x.1, foA P h n a x.2) := by
  intro n
  induction n with
  | zero => intro a x; rfl
  | succ n ih =>
    intro a x
    unfold foA
    rw [ih]
    by_cases e : P a = true
    · rw [if_pos e, if_pos e, if_pos e, hk]
    · rw [if_neg e, if_neg e, if_neg e]
theorem enF_pair {G : Gr} {o : Option Nat} : ∀ (n v : Nat) (f : Nat → Nat) (x : Option (Nat → Nat) × Nat), enF G (lfX G o) n v f x = (enF G (lfB G) n v f x.1, enF G (lfC G o) n v f x.2) := by
  intro n
  induction n with
  | zero => intro v f x; rfl
  | succ n ih =>
    intro v f x
    unfold enF
    by_cases e : v = gr G
    · rw [if_pos e, if_pos e, if_pos e, ih]
    · rw [if_neg e, if_neg e, if_neg e]
      exact foA_pair (g := fun a y => enF G (lfB G) n (v + 1) (fset f v a) y) (h := fun a y => enF G (lfC G o) n (v + 1) (fset f v a) y) (fun a y => ih _ _ _) _ _ _
section EN
variable {d L : Nat} {I I' : am_I} {J J' : am_J} {Q : am_Q} {G : Gr} {f : Nat → Nat}
theorem upN_lt (hG : okG G) (hc : isCh G f) : ∀ (k v : Nat), v < gn G → upN G f k v < gn G := by
  intro k
  induction k with
  | zero => intro v hv; exact hv
  | succ k ih =>
    intro v hv
    unfold upN
    by_cases e : v = gr G
    · rw [if_pos e]; exact hv
    · rw [if_neg e]; exact ih _ (hG.2.1 _ (hc v hv e).1).1
theorem ia_in {x1 : Int32} (hG : okG G) (hm : mG (I 162) G) (hc : isCh G f) (hf : ∀ v, v < gn G → v ≠ gr G → I 174 v = nI (f v)) : ∀ (n j u : Nat), j + n = gn G → u < gn G → ∃ l3, ∀ Q, am_T d 172 16 [some (.ref 161), some (.int x1), some (.int (nI u)), some (.int (nI j))] [] (cS L) I J Q = am_T d 172 56 [some (.ref 161), some (.int x1), some (.int (nI (upN G f n u))), l3] [] (cS L) I J Q := by
  have hgn := hG.1.2.1
  have hgr := hG.1.2.2.1
  have hm32 := hG.1.2.2.2
  have y0 : am_ix (cS L) 162 20 0 := mx 0 (by omega)
  have y1 : am_ix (cS L) 162 20 1 := mx 1 (by omega)
  have z0 : (0 : Int32).toNatClampNeg = 0 := by decide
  have z1 : (1 : Int32).toNatClampNeg = 1 := by decide
  intro n
  induction n with
  | zero =>
    intro j u hj hu
    have : j = gn G := by omega
    subst this
    refine ⟨some (.int (nI (gn G))), fun Q => ?_⟩
    rw [r172_16]
    simp only [r172_17, r172_18, r172_21, r172_22, r172_23, s_1, s_2, s_3, s_8, s_16, s_18, s_23, s_24, s_33, s_38, s_41, s_161, f_1_0, f_1_1, f_1_4, f_1_5, f_1_8, f_1_9, f_1_10, f_1_11, f_1_12, f_1_13, f_2_0, f_2_1, f_3_3, f_3_4, f_3_5, f_3_6, f_8_2, f_8_3, f_8_4, f_8_5, f_16_2, f_18_3, f_18_4, f_18_5, f_18_6, f_23_0, f_23_1, f_23_2, f_23_3, f_23_4, f_24_2, f_24_3, f_24_4, f_24_5, f_33_3, f_33_4, f_33_5, f_33_6, f_38_1, f_38_2, f_41_0, f_161_0, f_161_1, f_161_3, f_161_7, f_161_12, f_161_13, f_161_14, f_161_15, f_161_16, f_161_17, f_161_18, f_161_19, f_161_21, f_161_22, f_161_25, true_and, and_true, true_or, or_true, if_true, if_false, ne_eq, not_false_eq_true, and_self, t10, am_psh, am_clr, not_true_eq_false, Nat.reduceEqDiff, y0, z0, hm.1.1]
    rw [if_pos (Int32.le_refl _)]
    rfl
  | succ n ih =>
    intro j u hj hu
    by_cases e : u = gr G
    · refine ⟨some (.int (nI j)), fun Q => ?_⟩
      rw [r172_16]
      simp only [r172_17, r172_18, r172_21, r172_22, r172_23, r172_26, r172_27, r172_28, r172_31, r172_32, r172_33, s_1, s_2, s_3, s_8, s_16, s_18, s_23, s_24, s_33, s_38, s_41, s_161, f_1_0, f_1_1, f_1_4, f_1_5, f_1_8, f_1_9, f_1_10, f_1_11, f_1_12, f_1_13, f_2_0, f_2_1, f_3_3, f_3_4, f_3_5, f_3_6, f_8_2, f_8_3, f_8_4, f_8_5, f_16_2, f_18_3, f_18_4, f_18_5, f_18_6, f_23_0, f_23_1, f_23_2, f_23_3, f_23_4, f_24_2, f_24_3, f_24_4, f_24_5, f_33_3, f_33_4, f_33_5, f_33_6, f_38_1, f_38_2, f_41_0, f_161_0, f_161_1, f_161_3, f_161_7, f_161_12, f_161_13, f_161_14, f_161_15, f_161_16, f_161_17, f_161_18, f_161_19, f_161_21, f_161_22, f_161_25, true_and, and_true, true_or, or_true, if_true, if_false, ne_eq, not_false_eq_true, and_self, t10, am_psh, am_clr, not_true_eq_false, Nat.reduceEqDiff, y0, z0, y1, z1, hm.1.1, hm.1.2.1]
      rw [if_neg (nI_ge (show j < gn G by omega) (by omega)), if_pos (show nI u = nI (gr G) by rw [e])]
      unfold upN
      rw [if_pos e]
    · have ha := (hc u hu e).1
      have hta := (hG.2.1 _ ha).1
      obtain ⟨l3, ih⟩ := ih (j + 1) (gt G (f u)) (by omega) hta
      refine ⟨l3, fun Q => ?_⟩
      have e3 : I 162 (3 + f u) = nI (gt G (f u)) := (hm.2.1 _ ha).1
      rw [r172_16]
      simp only [r172_17, r172_18, r172_21, r172_22, r172_23, r172_26, r172_27, r172_28, r172_31, r172_32, r172_33, r172_36, r172_37, r172_40, r172_41, r172_42, r172_45, r172_46, r172_47, r172_48, r172_49, r172_50, r172_53, s_1, s_2, s_3, s_8, s_16, s_18, s_23, s_24, s_33, s_38, s_41, s_161, f_1_0, f_1_1, f_1_4, f_1_5, f_1_8, f_1_9, f_1_10, f_1_11, f_1_12, f_1_13, f_2_0, f_2_1, f_3_3, f_3_4, f_3_5, f_3_6, f_8_2, f_8_3, f_8_4, f_8_5, f_16_2, f_18_3, f_18_4, f_18_5, f_18_6, f_23_0, f_23_1, f_23_2, f_23_3, f_23_4, f_24_2, f_24_3, f_24_4, f_24_5, f_33_3, f_33_4, f_33_5, f_33_6, f_38_1, f_38_2, f_41_0, f_161_0, f_161_1, f_161_3, f_161_7, f_161_12, f_161_13, f_161_14, f_161_15, f_161_16, f_161_17, f_161_18, f_161_19, f_161_21, f_161_22, f_161_25, true_and, and_true, true_or, or_true, if_true, if_false, ne_eq, not_false_eq_true, and_self, t10, am_psh, am_clr, not_true_eq_false, Nat.reduceEqDiff, y0, z0, y1, z1, hm.1.1, hm.1.2.1, ix174 (L := L) u (by omega), n_cl (show u < 2 ^ 31 by omega), hf u hu e, show (3 : Int32) + nI (f u) = nI (3 + f u) from nI_add 3 _, mx (L := L) (3 + f u) (by omega), n_cl (show 3 + f u < 2 ^ 31 by omega), e3, nI_1]
      rw [if_neg (nI_ge (show j < gn G by omega) (by omega)), if_neg (show ¬ nI u = nI (gr G) from fun q => e ((nI_eq (by omega) (by omega)).mp q))]
      unfold upN
      rw [if_neg e]
      exact ih Q
theorem ia_out (hG : okG G) (hm : mG (I 162) G) (hc : isCh G f) (hf : ∀ v, v < gn G → v ≠ gr G → I 174 v = nI (f v)) : ∀ (n j : Nat) (l2 l3 : Option Value), j + n = gn G → am_T d 172 2 [some (.ref 161), some (.int (nI j)), l2, l3] [] (cS L) I J Q = Q (some (.int (bI (∀ v, j ≤ v → v < gn G → upN G f (gn G) v = gr G)))) (cS L) I J := by
  have hgn := hG.1.2.1
  have hgr := hG.1.2.2.1
  have y0 : am_ix (cS L) 162 20 0 := mx 0 (by omega)
  have y1 : am_ix (cS L) 162 20 1 := mx 1 (by omega)
  have z0 : (0 : Int32).toNatClampNeg = 0 := by decide
  have z1 : (1 : Int32).toNatClampNeg = 1 := by decide
  intro n
  induction n with
  | zero =>
    intro j l2 l3 hj
    have : j = gn G := by omega
    subst this
    rw [r172_2, bI_T (fun v h1 h2 => by omega)]
    simp only [r172_3, r172_4, r172_7, r172_8, r172_9, r172_74, r172_75, s_1, s_2, s_3, s_8, s_16, s_18, s_23, s_24, s_33, s_38, s_41, s_161, f_1_0, f_1_1, f_1_4, f_1_5, f_1_8, f_1_9, f_1_10, f_1_11, f_1_12, f_1_13, f_2_0, f_2_1, f_3_3, f_3_4, f_3_5, f_3_6, f_8_2, f_8_3, f_8_4, f_8_5, f_16_2, f_18_3, f_18_4, f_18_5, f_18_6, f_23_0, f_23_1, f_23_2, f_23_3, f_23_4, f_24_2, f_24_3, f_24_4, f_24_5, f_33_3, f_33_4, f_33_5, f_33_6, f_38_1, f_38_2, f_41_0, f_161_0, f_161_1, f_161_3, f_161_7, f_161_12, f_161_13, f_161_14, f_161_15, f_161_16, f_161_17, f_161_18, f_161_19, f_161_21, f_161_22, f_161_25, true_and, and_true, true_or, or_true, if_true, if_false, ne_eq, not_false_eq_true, and_self, t10, am_psh, am_clr, not_true_eq_false, Nat.reduceEqDiff, y0, z0, hm.1.1, t11]
    rw [if_pos (Int32.le_refl _)]
  | succ n ih =>
    intro j l2 l3 hj
    obtain ⟨m3, h⟩ := ia_in (d := d) (L := L) (J := J) (x1 := nI j) hG hm hc hf (gn G) 0 j (by omega) (by omega)
    rw [r172_2]
    simp only [r172_3, r172_4, r172_7, r172_8, r172_9, r172_12, r172_13, r172_14, r172_15, s_1, s_2, s_3, s_8, s_16, s_18, s_23, s_24, s_33, s_38, s_41, s_161, f_1_0, f_1_1, f_1_4, f_1_5, f_1_8, f_1_9, f_1_10, f_1_11, f_1_12, f_1_13, f_2_0, f_2_1, f_3_3, f_3_4, f_3_5, f_3_6, f_8_2, f_8_3, f_8_4, f_8_5, f_16_2, f_18_3, f_18_4, f_18_5, f_18_6, f_23_0, f_23_1, f_23_2, f_23_3, f_23_4, f_24_2, f_24_3, f_24_4, f_24_5, f_33_3, f_33_4, f_33_5, f_33_6, f_38_1, f_38_2, f_41_0, f_161_0, f_161_1, f_161_3, f_161_7, f_161_12, f_161_13, f_161_14, f_161_15, f_161_16, f_161_17, f_161_18, f_161_19, f_161_21, f_161_22, f_161_25, true_and, and_true, true_or, or_true, if_true, if_false, ne_eq, not_false_eq_true, and_self, t10, am_psh, am_clr, not_true_eq_false, Nat.reduceEqDiff, y0, z0, hm.1.1]
    rw [if_neg (nI_ge (show j < gn G by omega) (by omega))]
    refine Eq.trans (h Q) ?_
    have hu := upN_lt hG hc (gn G) j (by omega)
    simp only [r172_56, r172_57, r172_58, r172_61, r172_62, r172_63, r172_66, r172_67, r172_68, r172_71, s_1, s_2, s_3, s_8, s_16, s_18, s_23, s_24, s_33, s_38, s_41, s_161, f_1_0, f_1_1, f_1_4, f_1_5, f_1_8, f_1_9, f_1_10, f_1_11, f_1_12, f_1_13, f_2_0, f_2_1, f_3_3, f_3_4, f_3_5, f_3_6, f_8_2, f_8_3, f_8_4, f_8_5, f_16_2, f_18_3, f_18_4, f_18_5, f_18_6, f_23_0, f_23_1, f_23_2, f_23_3, f_23_4, f_24_2, f_24_3, f_24_4, f_24_5, f_33_3, f_33_4, f_33_5, f_33_6, f_38_1, f_38_2, f_41_0, f_161_0, f_161_1, f_161_3, f_161_7, f_161_12, f_161_13, f_161_14, f_161_15, f_161_16, f_161_17, f_161_18, f_161_19, f_161_21, f_161_22, f_161_25, true_and, and_true, true_or, or_true, if_true, if_false, ne_eq, not_false_eq_true, and_self, t10, am_psh, am_clr, not_true_eq_false, Nat.reduceEqDiff, y1, z1, hm.1.2.1, nI_1, t01]
    by_cases e : upN G f (gn G) j = gr G
    · rw [if_pos (show nI (upN G f (gn G) j) = nI (gr G) by rw [e])]
      rw [ih (j + 1) _ _ (by omega)]
      rw [bI_c (q := ∀ v, j ≤ v → v < gn G → upN G f (gn G) v = gr G) ⟨fun h v h1 h2 => by
        by_cases ev : v = j
        · rw [ev]; exact e
        · exact h v (by omega) h2, fun h v h1 h2 => h v (by omega) h2⟩]
    · rw [if_neg (show ¬ nI (upN G f (gn G) j) = nI (gr G) from fun q => e ((nI_eq (by omega) (by omega)).mp q)), bI_F (fun q => e (q j (Nat.le_refl j) (by omega)))]
theorem c_isArb (hG : okG G) (hm : mG (I 162) G) (hc : isCh G f) (hf : ∀ v, v < gn G → v ≠ gr G → I 174 v = nI (f v)) : am_C (d + 1) 172 [.ref 161] (cS L) I J Q = Q (some (.int (bI (isAr G f)))) (cS L) I J := by
  rw [e172]
  simp only [r172_0, r172_1, s_1, s_2, s_3, s_8, s_16, s_18, s_23, s_24, s_33, s_38, s_41, s_161, f_1_0, f_1_1, f_1_4, f_1_5, f_1_8, f_1_9, f_1_10, f_1_11, f_1_12, f_1_13, f_2_0, f_2_1, f_3_3, f_3_4, f_3_5, f_3_6, f_8_2, f_8_3, f_8_4, f_8_5, f_16_2, f_18_3, f_18_4, f_18_5, f_18_6, f_23_0, f_23_1, f_23_2, f_23_3, f_23_4, f_24_2, f_24_3, f_24_4, f_24_5, f_33_3, f_33_4, f_33_5, f_33_6, f_38_1, f_38_2, f_41_0, f_161_0, f_161_1, f_161_3, f_161_7, f_161_12, f_161_13, f_161_14, f_161_15, f_161_16, f_161_17, f_161_18, f_161_19, f_161_21, f_161_22, f_161_25, true_and, and_true, true_or, or_true, if_true, if_false, ne_eq, not_false_eq_true, and_self, t10, am_psh, am_clr, not_true_eq_false, Nat.reduceEqDiff]
  refine Eq.trans (ia_out hG hm hc hf (gn G) 0 none none (by omega)) ?_
  rw [bI_c (q := isAr G f) ⟨fun h => ⟨hc, fun v hv => h v (by omega) hv⟩, fun h v _ hv => h.2 v hv⟩]
theorem il_in {u : Nat} (hG : okG G) (hm : mG (I 162) G) (hu : u < gn G) (hc : isCh G f) (he : ∀ v, v < gn G → v ≠ gr G → I 174 v = nI (f v)) : ∀ (n j : Nat), j + n = gn G → ∀ Q, am_T d 173 16 [some (.ref 161), some (.int (nI u)), some (.int (nI (sumN (fun v => if v ≠ gr G ∧ gt G (f v) = u then 1 else 0) j))), some (.int (nI j))] [] (cS L) I J Q = am_T d 173 67 [some (.ref 161), some (.int (nI u)), some (.int (nI (degA G f u))), some (.int (nI (gn G)))] [] (cS L) I J Q := by
  have hgn := hG.1.2.1
  have hr := hG.1.2.2.1
  have hm32 := hG.1.2.2.2
  have y0 : am_ix (cS L) 162 20 0 := mx 0 (by omega)
  have y1 : am_ix (cS L) 162 20 1 := mx 1 (by omega)
  intro n
  induction n with
  | zero =>
    intro j hj Q
    have : j = gn G := by omega
    subst this
    rw [r173_16]
    simp only [r173_17, r173_18, r173_21, r173_22, r173_23, s_1, s_2, s_3, s_8, s_16, s_18, s_23, s_24, s_33, s_38, s_41, s_161, f_1_0, f_1_1, f_1_4, f_1_5, f_1_8, f_1_9, f_1_10, f_1_11, f_1_12, f_1_13, f_2_0, f_2_1, f_3_3, f_3_4, f_3_5, f_3_6, f_8_2, f_8_3, f_8_4, f_8_5, f_16_2, f_18_3, f_18_4, f_18_5, f_18_6, f_23_0, f_23_1, f_23_2, f_23_3, f_23_4, f_24_2, f_24_3, f_24_4, f_24_5, f_33_3, f_33_4, f_33_5, f_33_6, f_38_1, f_38_2, f_41_0, f_161_0, f_161_1, f_161_3, f_161_7, f_161_12, f_161_13, f_161_14, f_161_15, f_161_16, f_161_17, f_161_18, f_161_19, f_161_21, f_161_22, f_161_25, true_and, and_true, true_or, or_true, if_true, if_false, ne_eq, not_false_eq_true, and_self, t10, am_psh, am_clr, not_true_eq_false, Nat.reduceEqDiff, y0, show (0 : Int32).toNatClampNeg = 0 from by decide, hm.1.1]
    rw [if_pos (Int32.le_refl _)]
    rfl
  | succ n ih =>
    intro j hj Q
    rw [r173_16]
    have ih := ih (j + 1) (by omega) Q
    have es : sumN (fun v => if v ≠ gr G ∧ gt G (f v) = u then 1 else 0) (j + 1) = sumN (fun v => if v ≠ gr G ∧ gt G (f v) = u then 1 else 0) j + (if j ≠ gr G ∧ gt G (f j) = u then 1 else 0) := rfl
    rw [es] at ih
    by_cases e : j = gr G
    · simp only [r173_17, r173_18, r173_21, r173_22, r173_23, r173_26, r173_27, r173_28, r173_29, r173_32, r173_33, r173_34, r173_37, r173_38, r173_41, r173_42, r173_43, r173_46, r173_47, r173_48, r173_49, r173_50, r173_51, r173_54, r173_55, r173_58, r173_59, r173_60, r173_61, r173_64, s_1, s_2, s_3, s_8, s_16, s_18, s_23, s_24, s_33, s_38, s_41, s_161, f_1_0, f_1_1, f_1_4, f_1_5, f_1_8, f_1_9, f_1_10, f_1_11, f_1_12, f_1_13, f_2_0, f_2_1, f_3_3, f_3_4, f_3_5, f_3_6, f_8_2, f_8_3, f_8_4, f_8_5, f_16_2, f_18_3, f_18_4, f_18_5, f_18_6, f_23_0, f_23_1, f_23_2, f_23_3, f_23_4, f_24_2, f_24_3, f_24_4, f_24_5, f_33_3, f_33_4, f_33_5, f_33_6, f_38_1, f_38_2, f_41_0, f_161_0, f_161_1, f_161_3, f_161_7, f_161_12, f_161_13, f_161_14, f_161_15, f_161_16, f_161_17, f_161_18, f_161_19, f_161_21, f_161_22, f_161_25, true_and, and_true, true_or, or_true, if_true, if_false, ne_eq, not_false_eq_true, and_self, t10, am_psh, am_clr, not_true_eq_false, Nat.reduceEqDiff, y0, y1, show (0 : Int32).toNatClampNeg = 0 from by decide, show (1 : Int32).toNatClampNeg = 1 from by decide, hm.1.1, hm.1.2.1, nI_1, Int32.add_zero]
      rw [if_neg (nI_ge (show j < gn G by omega) (by omega)), if_pos (show nI j = nI (gr G) by rw [e])]
      rw [if_neg (fun q => q.1 e), Nat.add_zero] at ih
      exact ih
    · have ha := (hc j (by omega) e).1
      have hta := (hG.2.1 (f j) ha).1
      have e3 : I 162 (3 + f j) = nI (gt G (f j)) := (hm.2.1 _ ha).1
      simp only [r173_17, r173_18, r173_21, r173_22, r173_23, r173_26, r173_27, r173_28, r173_29, r173_32, r173_33, r173_34, r173_37, r173_38, r173_41, r173_42, r173_43, r173_46, r173_47, r173_48, r173_49, r173_50, r173_51, r173_54, r173_55, r173_58, r173_59, r173_60, r173_61, r173_64, s_1, s_2, s_3, s_8, s_16, s_18, s_23, s_24, s_33, s_38, s_41, s_161, f_1_0, f_1_1, f_1_4, f_1_5, f_1_8, f_1_9, f_1_10, f_1_11, f_1_12, f_1_13, f_2_0, f_2_1, f_3_3, f_3_4, f_3_5, f_3_6, f_8_2, f_8_3, f_8_4, f_8_5, f_16_2, f_18_3, f_18_4, f_18_5, f_18_6, f_23_0, f_23_1, f_23_2, f_23_3, f_23_4, f_24_2, f_24_3, f_24_4, f_24_5, f_33_3, f_33_4, f_33_5, f_33_6, f_38_1, f_38_2, f_41_0, f_161_0, f_161_1, f_161_3, f_161_7, f_161_12, f_161_13, f_161_14, f_161_15, f_161_16, f_161_17, f_161_18, f_161_19, f_161_21, f_161_22, f_161_25, true_and, and_true, true_or, or_true, if_true, if_false, ne_eq, not_false_eq_true, and_self, t10, am_psh, am_clr, not_true_eq_false, Nat.reduceEqDiff, y0, y1, show (0 : Int32).toNatClampNeg = 0 from by decide, show (1 : Int32).toNatClampNeg = 1 from by decide, hm.1.1, hm.1.2.1, ix174 (L := L) j (by omega), n_cl (show j < 2 ^ 31 by omega), he j (by omega) e, show (3 : Int32) + nI (f j) = nI (3 + f j) from nI_add 3 _, mx (L := L) (3 + f j) (by omega), n_cl (show 3 + f j < 2 ^ 31 by omega), e3, nI_1, Int32.add_zero]
      rw [if_neg (nI_ge (show j < gn G by omega) (by omega)), if_neg (show ¬ nI j = nI (gr G) from fun q => e ((nI_eq (by omega) (by omega)).mp q))]
      by_cases e2 : gt G (f j) = u
      · rw [if_pos ⟨e, e2⟩] at ih
        rw [if_pos (show nI (gt G (f j)) = nI u by rw [e2])]
        exact ih
      · rw [if_neg (fun q => e2 q.2), Nat.add_zero] at ih
        rw [if_neg (show ¬ nI (gt G (f j)) = nI u from fun q => e2 ((nI_eq (by omega) (by omega)).mp q))]
        exact ih
theorem il_out (hG : okG G) (hm : mG (I 162) G) (hc : isCh G f) (he : ∀ v, v < gn G → v ≠ gr G → I 174 v = nI (f v)) : ∀ (n j : Nat) (l2 l3 : Option Value), j + n = gn G → am_T d 173 2 [some (.ref 161), some (.int (nI j)), l2, l3] [] (cS L) I J Q = Q (some (.int (bI (∀ u, j ≤ u → u < gn G → degA G f u ≤ gl G u)))) (cS L) I J := by
  have hgn := hG.1.2.1
  have y0 : am_ix (cS L) 162 20 0 := mx 0 (by omega)
  have z0 : (0 : Int32).toNatClampNeg = 0 := by decide
  intro n
  induction n with
  | zero =>
    intro j l2 l3 hj
    have : j = gn G := by omega
    subst this
    rw [r173_2, bI_T (fun v h1 h2 => by omega)]
    simp only [r173_3, r173_4, r173_7, r173_8, r173_9, r173_88, r173_89, s_1, s_2, s_3, s_8, s_16, s_18, s_23, s_24, s_33, s_38, s_41, s_161, f_1_0, f_1_1, f_1_4, f_1_5, f_1_8, f_1_9, f_1_10, f_1_11, f_1_12, f_1_13, f_2_0, f_2_1, f_3_3, f_3_4, f_3_5, f_3_6, f_8_2, f_8_3, f_8_4, f_8_5, f_16_2, f_18_3, f_18_4, f_18_5, f_18_6, f_23_0, f_23_1, f_23_2, f_23_3, f_23_4, f_24_2, f_24_3, f_24_4, f_24_5, f_33_3, f_33_4, f_33_5, f_33_6, f_38_1, f_38_2, f_41_0, f_161_0, f_161_1, f_161_3, f_161_7, f_161_12, f_161_13, f_161_14, f_161_15, f_161_16, f_161_17, f_161_18, f_161_19, f_161_21, f_161_22, f_161_25, true_and, and_true, true_or, or_true, if_true, if_false, ne_eq, not_false_eq_true, and_self, t10, am_psh, am_clr, not_true_eq_false, Nat.reduceEqDiff, y0, z0, hm.1.1, t11]
    rw [if_pos (Int32.le_refl _)]
  | succ n ih =>
    intro j l2 l3 hj
    have h := il_in (d := d) (L := L) (J := J) (u := j) hG hm (by omega) hc he (gn G) 0 (by omega)
    have hd := degA_le (G := G) (t := f) j
    have hgl := hG.2.2 j (by omega)
    have e99 : I 162 (99 + j) = nI (gl G j) := hm.2.2 j (by omega)
    rw [r173_2]
    simp only [r173_3, r173_4, r173_7, r173_8, r173_9, r173_12, r173_13, r173_14, r173_15, s_1, s_2, s_3, s_8, s_16, s_18, s_23, s_24, s_33, s_38, s_41, s_161, f_1_0, f_1_1, f_1_4, f_1_5, f_1_8, f_1_9, f_1_10, f_1_11, f_1_12, f_1_13, f_2_0, f_2_1, f_3_3, f_3_4, f_3_5, f_3_6, f_8_2, f_8_3, f_8_4, f_8_5, f_16_2, f_18_3, f_18_4, f_18_5, f_18_6, f_23_0, f_23_1, f_23_2, f_23_3, f_23_4, f_24_2, f_24_3, f_24_4, f_24_5, f_33_3, f_33_4, f_33_5, f_33_6, f_38_1, f_38_2, f_41_0, f_161_0, f_161_1, f_161_3, f_161_7, f_161_12, f_161_13, f_161_14, f_161_15, f_161_16, f_161_17, f_161_18, f_161_19, f_161_21, f_161_22, f_161_25, true_and, and_true, true_or, or_true, if_true, if_false, ne_eq, not_false_eq_true, and_self, t10, am_psh, am_clr, not_true_eq_false, Nat.reduceEqDiff, y0, z0, hm.1.1]
    rw [if_neg (nI_ge (show j < gn G by omega) (by omega))]
    refine Eq.trans (h Q) ?_
    simp only [r173_67, r173_68, r173_69, r173_72, r173_74, r173_75, r173_76, r173_77, r173_80, r173_81, r173_82, r173_85, s_1, s_2, s_3, s_8, s_16, s_18, s_23, s_24, s_33, s_38, s_41, s_161, f_1_0, f_1_1, f_1_4, f_1_5, f_1_8, f_1_9, f_1_10, f_1_11, f_1_12, f_1_13, f_2_0, f_2_1, f_3_3, f_3_4, f_3_5, f_3_6, f_8_2, f_8_3, f_8_4, f_8_5, f_16_2, f_18_3, f_18_4, f_18_5, f_18_6, f_23_0, f_23_1, f_23_2, f_23_3, f_23_4, f_24_2, f_24_3, f_24_4, f_24_5, f_33_3, f_33_4, f_33_5, f_33_6, f_38_1, f_38_2, f_41_0, f_161_0, f_161_1, f_161_3, f_161_7, f_161_12, f_161_13, f_161_14, f_161_15, f_161_16, f_161_17, f_161_18, f_161_19, f_161_21, f_161_22, f_161_25, true_and, and_true, true_or, or_true, if_true, if_false, ne_eq, not_false_eq_true, and_self, t10, am_psh, am_clr, not_true_eq_false, Nat.reduceEqDiff, show (99 : Int32) + nI j = nI (99 + j) from nI_add 99 j, mx (L := L) (99 + j) (by omega), n_cl (show 99 + j < 2 ^ 31 by omega), e99, nI_1, t01]
    by_cases e : degA G f j ≤ gl G j
    · rw [if_pos (nI_le e (by omega))]
      rw [ih (j + 1) _ _ (by omega)]
      rw [bI_c (q := ∀ u, j ≤ u → u < gn G → degA G f u ≤ gl G u) ⟨fun h v h1 h2 => by
        by_cases ev : v = j
        · rw [ev]; exact e
        · exact h v (by omega) h2, fun h v h1 h2 => h v (by omega) h2⟩]
    · rw [if_neg (nI_ge (by omega) (by omega)), bI_F (fun q => e (q j (Nat.le_refl j) (by omega)))]
theorem c_isLim (hG : okG G) (hm : mG (I 162) G) (hc : isCh G f) (hf : ∀ v, v < gn G → v ≠ gr G → I 174 v = nI (f v)) : am_C (d + 1) 173 [.ref 161] (cS L) I J Q = Q (some (.int (bI (lmP G f)))) (cS L) I J := by
  rw [e173]
  simp only [r173_0, r173_1, s_1, s_2, s_3, s_8, s_16, s_18, s_23, s_24, s_33, s_38, s_41, s_161, f_1_0, f_1_1, f_1_4, f_1_5, f_1_8, f_1_9, f_1_10, f_1_11, f_1_12, f_1_13, f_2_0, f_2_1, f_3_3, f_3_4, f_3_5, f_3_6, f_8_2, f_8_3, f_8_4, f_8_5, f_16_2, f_18_3, f_18_4, f_18_5, f_18_6, f_23_0, f_23_1, f_23_2, f_23_3, f_23_4, f_24_2, f_24_3, f_24_4, f_24_5, f_33_3, f_33_4, f_33_5, f_33_6, f_38_1, f_38_2, f_41_0, f_161_0, f_161_1, f_161_3, f_161_7, f_161_12, f_161_13, f_161_14, f_161_15, f_161_16, f_161_17, f_161_18, f_161_19, f_161_21, f_161_22, f_161_25, true_and, and_true, true_or, or_true, if_true, if_false, ne_eq, not_false_eq_true, and_self, t10, am_psh, am_clr, not_true_eq_false, Nat.reduceEqDiff]
  refine Eq.trans (il_out hG hm hc hf (gn G) 0 none none (by omega)) ?_
  rw [bI_c (q := lmP G f) ⟨fun h v hv => h v (by omega) hv, fun h v _ hv => h v hv⟩]
theorem na_loop {v : Nat} {x2 : Int32} (hG : okG G) (hm : mG (I 162) G) (hv : v < 8) : ∀ (n a : Nat), a + n = gm G → am_T d 171 4 [some (.ref 161), some (.int (nI v)), some (.int x2), some (.int (nI a))] [] (cS L) I J Q = Q (some (.int (enc (-107) (nxA G v n a)))) (cS L) I J := by
  have hgn := hG.1.2.1
  have hm32 := hG.1.2.2.2
  have y2 : am_ix (cS L) 162 20 2 := mx 2 (by omega)
  have z2 : (2 : Int32).toNatClampNeg = 2 := by decide
  intro n
  induction n with
  | zero =>
    intro a ha
    have : a = gm G := by omega
    subst this
    rw [r171_4]
    simp only [r171_5, r171_6, r171_9, r171_10, r171_11, r171_35, r171_37, s_1, s_2, s_3, s_8, s_16, s_18, s_23, s_24, s_33, s_38, s_41, s_161, f_1_0, f_1_1, f_1_4, f_1_5, f_1_8, f_1_9, f_1_10, f_1_11, f_1_12, f_1_13, f_2_0, f_2_1, f_3_3, f_3_4, f_3_5, f_3_6, f_8_2, f_8_3, f_8_4, f_8_5, f_16_2, f_18_3, f_18_4, f_18_5, f_18_6, f_23_0, f_23_1, f_23_2, f_23_3, f_23_4, f_24_2, f_24_3, f_24_4, f_24_5, f_33_3, f_33_4, f_33_5, f_33_6, f_38_1, f_38_2, f_41_0, f_161_0, f_161_1, f_161_3, f_161_7, f_161_12, f_161_13, f_161_14, f_161_15, f_161_16, f_161_17, f_161_18, f_161_19, f_161_21, f_161_22, f_161_25, true_and, and_true, true_or, or_true, if_true, if_false, ne_eq, not_false_eq_true, and_self, t10, am_psh, am_clr, not_true_eq_false, Nat.reduceEqDiff, y2, z2, hm.1.2.2]
    rw [if_pos (Int32.le_refl _)]
    rfl
  | succ n ih =>
    intro a ha
    have hh := (hG.2.1 a (by omega)).2.1
    have e35 : I 162 (35 + a) = nI (gh G a) := (hm.2.1 a (by omega)).2.1
    rw [r171_4]
    simp only [r171_5, r171_6, r171_9, r171_10, r171_11, r171_14, r171_15, r171_18, r171_20, r171_21, r171_22, r171_23, r171_24, r171_27, r171_28, r171_29, r171_32, s_1, s_2, s_3, s_8, s_16, s_18, s_23, s_24, s_33, s_38, s_41, s_161, f_1_0, f_1_1, f_1_4, f_1_5, f_1_8, f_1_9, f_1_10, f_1_11, f_1_12, f_1_13, f_2_0, f_2_1, f_3_3, f_3_4, f_3_5, f_3_6, f_8_2, f_8_3, f_8_4, f_8_5, f_16_2, f_18_3, f_18_4, f_18_5, f_18_6, f_23_0, f_23_1, f_23_2, f_23_3, f_23_4, f_24_2, f_24_3, f_24_4, f_24_5, f_33_3, f_33_4, f_33_5, f_33_6, f_38_1, f_38_2, f_41_0, f_161_0, f_161_1, f_161_3, f_161_7, f_161_12, f_161_13, f_161_14, f_161_15, f_161_16, f_161_17, f_161_18, f_161_19, f_161_21, f_161_22, f_161_25, true_and, and_true, true_or, or_true, if_true, if_false, ne_eq, not_false_eq_true, and_self, t10, am_psh, am_clr, not_true_eq_false, Nat.reduceEqDiff, y2, z2, hm.1.2.2, show (35 : Int32) + nI a = nI (35 + a) from nI_add 35 a, mx (L := L) (35 + a) (by omega), n_cl (show 35 + a < 2 ^ 31 by omega), e35, nI_1]
    rw [if_neg (nI_ge (show a < gm G by omega) (by omega))]
    unfold nxA
    by_cases e : gh G a = v
    · rw [if_pos e, if_pos (show nI (gh G a) = nI v by rw [e])]; rfl
    · rw [if_neg e, if_neg (show ¬ nI (gh G a) = nI v from fun q => e ((nI_eq (by omega) (by omega)).mp q))]
      exact ih (a + 1) (by omega)
theorem c_nextArc {v a : Nat} {x : Int32} (hG : okG G) (hm : mG (I 162) G) (hv : v < 8) (ha : a ≤ gm G) (hx : x + 1 = nI a) : am_C (d + 1) 171 [.ref 161, .int (nI v), .int x] (cS L) I J Q = Q (some (.int (enc (-107) (nxA G v (gm G - a) a)))) (cS L) I J := by
  rw [e171]
  simp only [r171_0, r171_1, r171_2, r171_3, s_1, s_2, s_3, s_8, s_16, s_18, s_23, s_24, s_33, s_38, s_41, s_161, f_1_0, f_1_1, f_1_4, f_1_5, f_1_8, f_1_9, f_1_10, f_1_11, f_1_12, f_1_13, f_2_0, f_2_1, f_3_3, f_3_4, f_3_5, f_3_6, f_8_2, f_8_3, f_8_4, f_8_5, f_16_2, f_18_3, f_18_4, f_18_5, f_18_6, f_23_0, f_23_1, f_23_2, f_23_3, f_23_4, f_24_2, f_24_3, f_24_4, f_24_5, f_33_3, f_33_4, f_33_5, f_33_6, f_38_1, f_38_2, f_41_0, f_161_0, f_161_1, f_161_3, f_161_7, f_161_12, f_161_13, f_161_14, f_161_15, f_161_16, f_161_17, f_161_18, f_161_19, f_161_21, f_161_22, f_161_25, true_and, and_true, true_or, or_true, if_true, if_false, ne_eq, not_false_eq_true, and_self, t10, am_psh, am_clr, not_true_eq_false, Nat.reduceEqDiff, hx]
  exact na_loop hG hm hv _ _ (by omega)
end EN
