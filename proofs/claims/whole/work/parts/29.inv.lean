/-! THE INVARIANT: what both objects hold, by one abstract state -/
/-- a graph: nodes, root, arcs; tails, heads, costs; limits -/
abbrev Gr : Type := Nat × Nat × Nat × (Nat → Nat) × (Nat → Nat) × (Nat → Nat) × (Nat → Nat)
abbrev gn (G : Gr) : Nat := G.1
abbrev gr (G : Gr) : Nat := G.2.1
abbrev gm (G : Gr) : Nat := G.2.2.1
abbrev gt (G : Gr) : Nat → Nat := G.2.2.2.1
abbrev gh (G : Gr) : Nat → Nat := G.2.2.2.2.1
abbrev gc (G : Gr) : Nat → Nat := G.2.2.2.2.2.1
abbrev gl (G : Gr) : Nat → Nat := G.2.2.2.2.2.2
/-- a record: groups, sets, duals, wholes, tree -/
abbrev Rc : Type := Nat × (Nat → Int32) × (Nat → Int32) × (Nat → Option Nat) × (Nat → Nat)
abbrev rk (R : Rc) : Nat := R.1
abbrev rs (R : Rc) : Nat → Int32 := R.2.1
abbrev rd (R : Rc) : Nat → Int32 := R.2.2.1
abbrev rp (R : Rc) : Nat → Option Nat := R.2.2.2.1
abbrev rt (R : Rc) : Nat → Nat := R.2.2.2.2
abbrev St : Type := Gr × Option Rc
def okG (G : Gr) : Prop := (2 ≤ gn G ∧ gn G ≤ 8 ∧ gr G < gn G ∧ gm G ≤ 32) ∧ (∀ a, a < gm G → gt G a < gn G ∧ gh G a < gn G ∧ gt G a ≠ gh G a ∧ gc G a ≤ 99) ∧ ∀ v, v < 8 → gl G v ≤ 7
def okR (G : Gr) (R : Rc) : Prop := (gn G ≤ rk R ∧ rk R ≤ 15) ∧ (∀ g p, g < rk R → rp R g = some p → p < rk R) ∧ ∀ v, v < gn G → v ≠ gr G → rt R v < gm G ∧ gh G (rt R v) = v
def enc (z : Int32) (o : Option Nat) : Int32 := match o with
  | some p => nI p
  | none => z
/-- the class' graph at cell g, its rows behind it -/
def xG (I : am_I) (g : Nat) (G : Gr) : Prop := (I g 0 = nI (gn G) ∧ I g 1 = nI (gr G) ∧ I g 2 = nI (gm G)) ∧ (∀ a, a < gm G → I (g + 1) a = nI (gt G a) ∧ I (g + 2) a = nI (gh G a) ∧ I (g + 3) a = nI (gc G a)) ∧ ∀ v, v < 8 → I (g + 4) v = nI (gl G v)
/-- the model's row -/
def mG (w : Nat → Int32) (G : Gr) : Prop := (w 0 = nI (gn G) ∧ w 1 = nI (gr G) ∧ w 2 = nI (gm G)) ∧ (∀ a, a < gm G → w (3 + a) = nI (gt G a) ∧ w (35 + a) = nI (gh G a) ∧ w (67 + a) = nI (gc G a)) ∧ ∀ v, v < 8 → w (99 + v) = nI (gl G v)
def xR (I : am_I) (q : Nat) (G : Gr) (R : Rc) : Prop := I q 1 = nI (rk R) ∧ (∀ g, g < rk R → I (q + 1) g = rs R g ∧ I (q + 2) g = rd R g ∧ I (q + 3) g = enc (-1) (rp R g)) ∧ ∀ v, v < gn G → I (q + 4) v = if v = gr G then -1 else nI (rt R v)
def mR (w : Nat → Int32) (G : Gr) (R : Rc) : Prop := w 108 = nI (rk R) ∧ (∀ g, g < rk R → w (109 + g) = rs R g ∧ w (125 + g) = rd R g ∧ w (141 + g) = enc (-107) (rp R g)) ∧ ∀ v, v < gn G → w (157 + v) = if v = gr G then -107 else nI (rt R v)
def okS (s : St) : Prop := okG s.1 ∧ ∀ R, s.2 = some R → okR s.1 R
/-- the class' state: its graph at g, its groups at q -/
def xS (I : am_I) (g q : Nat) (s : St) : Prop := xG I g s.1 ∧ match s.2 with
  | none => I q 0 = 0
  | some R => I q 0 = 1 ∧ xR I q s.1 R
def mS (w : Nat → Int32) (s : St) : Prop := mG w s.1 ∧ match s.2 with
  | none => w 107 = 0
  | some R => w 107 = 1 ∧ mR w s.1 R
/-- a row from a place on -/
def shf (w : Nat → Int32) (o : Nat) : Nat → Int32 := fun j => w (o + j)
/-- the choices of arcs for the nodes but the root: heads as they must be -/
def isCh (G : Gr) (f : Nat → Nat) : Prop := ∀ v, v < gn G → v ≠ gr G → f v < gm G ∧ gh G (f v) = v
/-- k steps up from a node, the root stays -/
def upN (G : Gr) (f : Nat → Nat) : Nat → Nat → Nat
  | 0, v => v
  | k + 1, v => if v = gr G then v else upN G f k (gt G (f v))
/-- an arborescence -/
def isAr (G : Gr) (f : Nat → Nat) : Prop := isCh G f ∧ ∀ v, v < gn G → upN G f (gn G) v = gr G
def sumN (f : Nat → Nat) : Nat → Nat
  | 0 => 0
  | k + 1 => sumN f k + f k
def cosA (G : Gr) (f : Nat → Nat) : Nat := sumN (fun v => if v = gr G then 0 else gc G (f v)) (gn G)
def degA (G : Gr) (f : Nat → Nat) (u : Nat) : Nat := sumN (fun v => if v ≠ gr G ∧ gt G (f v) = u then 1 else 0) (gn G)
def isLm (G : Gr) (f : Nat → Nat) : Prop := isAr G f ∧ ∀ u, u < gn G → degA G f u ≤ gl G u
/-- of two choices the first one that differs decides -/
def lexL (G : Gr) (f f' : Nat → Nat) : Prop := ∃ v, v < gn G ∧ v ≠ gr G ∧ f v < f' v ∧ ∀ u, u < v → u ≠ gr G → f u = f' u
def sameA (G : Gr) (f f' : Nat → Nat) : Prop := ∀ v, v < gn G → v ≠ gr G → f v = f' v
/-- the best limited arborescence: cheapest, then first -/
def isBest (G : Gr) (f : Nat → Nat) : Prop := isLm G f ∧ ∀ f', isLm G f' → cosA G f < cosA G f' ∨ (cosA G f = cosA G f' ∧ (sameA G f f' ∨ lexL G f f'))
/-- what the class remembers of it -/
def xL (I : am_I) (G : Gr) : Prop := I 33 0 = 0 ∨ (I 33 0 = 1 ∧ ((I 33 1 = 0 ∧ ∀ f, ¬ isLm G f) ∨ (I 33 1 = 1 ∧ ∃ f, isBest G f ∧ I 33 2 = nI (cosA G f) ∧ ∀ v, v < gn G → v ≠ gr G → I 34 v = nI (f v))))
/-- all that is kept, oldest first -/
def xH (I : am_I) (hs : List St) : Prop := ∃ o, o < 8 ∧ I 1 2 = nI o ∧ I 1 3 = nI hs.length ∧ I 161 2 = nI hs.length ∧ hs.length ≤ 8 ∧ ∀ i s, hs[i]? = some s → okS s ∧ xS I (51 + 11 * ((o + i) % 8) + 1) (51 + 11 * ((o + i) % 8) + 6) s ∧ mS (shf (I 163) (165 * i)) s
def xSl (I : am_I) (j : Nat) (o : Option St) : Prop := match o with
  | none => I 15 j = 0
  | some s => I 15 j = 1 ∧ okS s ∧ xS I (139 + 11 * j + 1) (139 + 11 * j + 6) s ∧ mS (shf (I 164) (165 * j)) s
def slB (o : Option St) : Nat := match o with
  | none => 0
  | some _ => 1
def xT (I : am_I) (n : Nat) (tx : Nat → Nat) : Prop := (I 16 0 = nI n ∧ I 161 8 = nI n ∧ n ≤ 300) ∧ ∀ i, i < n → I 17 i = nI (tx i) ∧ I 165 i = nI (tx i) ∧ 32 ≤ tx i ∧ tx i ≤ 126
def Inv (I : am_I) (_ : am_J) : Prop := ∃ (s : St) (hs : List St) (s0 s1 : Option St) (n : Nat) (tx : Nat → Nat), okS s ∧ xS I 3 8 s ∧ mS (I 162) s ∧ xL I s.1 ∧ xH I hs ∧ (xSl I 0 s0 ∧ xSl I 1 s1 ∧ I 161 4 = nI (slB s0 + 2 * slB s1)) ∧ (I 1 6 = I 161 5 ∧ I 1 7 = I 161 6) ∧ xT I n tx
theorem row3 (f : am_I) {a b : Nat} (x : Int32) (k : Nat) (h : b ≠ a) : am_up f a k x b = f b := am_up_ne h
theorem gGra_ne (I : am_I) {n b : Nat} (h : b ≠ n ∧ b ≠ n + 4) : g_Gra I n b = I b := by
  unfold g_Gra am_fil
  funext j
  rw [row_ne _ _ _ h.2, up_ne _ _ (Or.inl h.1), up_ne _ _ (Or.inl h.1), up_ne _ _ (Or.inl h.1)]
theorem cI_ne (xs : Nat → Int32) {b : Nat} (hb : b ≠ 162) (hn : b ≠ 0) (h1 : b ≠ 3 ∧ b ≠ 7 ∧ b ≠ 18 ∧ b ≠ 22) (h2 : b < 50 ∨ 160 < b) : cI xs b = fun _ => 0 := by
  unfold cI cI3 cI2 cI1
  rw [am_row_ne hb, gGra_ne _ (by omega), gGra_ne _ (by omega), gGra_ne _ (by omega), gGra_ne _ (by omega), gGra_ne _ (by omega), gGra_ne _ (by omega), gGra_ne _ (by omega), gGra_ne _ (by omega), gGra_ne _ (by omega), gGra_ne _ (by omega), gGra_ne _ (by omega), gGra_ne _ (by omega)]
  funext j
  unfold am_I0
  rw [if_neg hn]
theorem cI_3 (xs : Nat → Int32) (j : Nat) : cI xs 3 j = if j = 0 then 5 else 0 := by
  unfold cI cI3 cI2 cI1
  rw [am_row_ne (by omega), gGra_ne _ (by omega), gGra_ne _ (by omega), gGra_ne _ (by omega), gGra_ne _ (by omega), gGra_ne _ (by omega), gGra_ne _ (by omega), gGra_ne _ (by omega), gGra_ne _ (by omega), gGra_ne _ (by omega), gGra_ne _ (by omega), gGra_ne _ (by omega)]
  unfold g_Gra am_fil am_up am_row am_I0
  by_cases h0 : j = 0
  · subst h0; simp
  · by_cases h1 : j = 1
    · subst h1; simp
    · by_cases h2 : j = 2
      · subst h2; simp
      · simp [h0, h1, h2]
theorem cI_7 (xs : Nat → Int32) (j : Nat) (hj : j < 8) : cI xs 7 j = 7 := by
  unfold cI cI3 cI2 cI1
  rw [am_row_ne (by omega), gGra_ne _ (by omega), gGra_ne _ (by omega), gGra_ne _ (by omega), gGra_ne _ (by omega), gGra_ne _ (by omega), gGra_ne _ (by omega), gGra_ne _ (by omega), gGra_ne _ (by omega), gGra_ne _ (by omega), gGra_ne _ (by omega), gGra_ne _ (by omega)]
  unfold g_Gra am_fil
  rw [row_self, if_pos hj]
/-- both objects, new -/
theorem Inv_0 (xs : Nat → Int32) : Inv (cI xs) am_J0 := by
  have z : ∀ b, b ≠ 162 → b ≠ 0 → (b ≠ 3 ∧ b ≠ 7 ∧ b ≠ 18 ∧ b ≠ 22) → (b < 50 ∨ 160 < b) → ∀ j, cI xs b j = 0 := fun b h1 h2 h3 h4 j => by rw [cI_ne xs h1 h2 h3 h4]
  have w : cI xs 162 = g_clr (fun _ => 0) 5 0 := by unfold cI; rw [am_row_eq]
  refine ⟨((5, 0, 0, fun _ => 0, fun _ => 0, fun _ => 0, fun _ => 7), none), [], none, none, 0, fun _ => 0, ⟨⟨by decide, fun a h => absurd h (Nat.not_lt_zero a), fun v _ => Nat.le_refl 7⟩, fun R h => by cases h⟩, ⟨⟨⟨cI_3 xs 0, cI_3 xs 1, cI_3 xs 2⟩, fun a h => absurd h (Nat.not_lt_zero a), fun v hv => cI_7 xs v hv⟩, z 8 (by omega) (by omega) (by omega) (by omega) 0⟩, ?_, Or.inl (z 33 (by omega) (by omega) (by omega) (by omega) 0), ⟨0, by omega, z 1 (by omega) (by omega) (by omega) (by omega) 2, z 1 (by omega) (by omega) (by omega) (by omega) 3, z 161 (by omega) (by omega) (by omega) (by omega) 2, by decide, fun i s h => by cases h⟩, ⟨z 15 (by omega) (by omega) (by omega) (by omega) 0, z 15 (by omega) (by omega) (by omega) (by omega) 1, z 161 (by omega) (by omega) (by omega) (by omega) 4⟩, ⟨by rw [z 1 (by omega) (by omega) (by omega) (by omega) 6, z 161 (by omega) (by omega) (by omega) (by omega) 5], by rw [z 1 (by omega) (by omega) (by omega) (by omega) 7, z 161 (by omega) (by omega) (by omega) (by omega) 6]⟩, ⟨⟨z 16 (by omega) (by omega) (by omega) (by omega) 0, z 161 (by omega) (by omega) (by omega) (by omega) 8, by omega⟩, fun i h => absurd h (Nat.not_lt_zero i)⟩⟩
  refine ⟨⟨⟨by rw [w]; rfl, by rw [w]; rfl, by rw [w]; rfl⟩, fun a h => absurd h (Nat.not_lt_zero a), fun v hv => ?_⟩, by rw [w]; rfl⟩
  rw [w]
  unfold g_clr
  rw [if_pos (by omega)]; rfl
