/-! the best limited arborescence: what going through all choices gives; what may be left out -/
section BE
variable {G : Gr} {f g h : Nat → Nat}
theorem up_same (hs : sameA G f g) (hG : okG G) (hc : isCh G f) : ∀ (k v : Nat), v < gn G → upN G f k v = upN G g k v := by
  intro k
  induction k with
  | zero => intro v _; rfl
  | succ k ih =>
    intro v hv
    unfold upN
    by_cases e : v = gr G
    · rw [if_pos e, if_pos e]
    · rw [if_neg e, if_neg e, ← hs v hv e]; exact ih _ (hG.2.1 _ (hc v hv e).1).1
theorem same_ch (hs : sameA G f g) (hc : isCh G f) : isCh G g := fun v hv hr => by rw [← hs v hv hr]; exact hc v hv hr
theorem same_cos (hs : sameA G f g) : cosA G f = cosA G g := sumN_congr _ (fun v hv => by
  by_cases e : v = gr G
  · rw [if_pos e, if_pos e]
  · rw [if_neg e, if_neg e, hs v hv e])
theorem same_deg (hs : sameA G f g) (u : Nat) : degA G f u = degA G g u := sumN_congr _ (fun v hv => by
  by_cases e : v = gr G
  · rw [if_neg (fun q => q.1 e), if_neg (fun q => q.1 e)]
  · rw [hs v hv e])
theorem same_sym (hs : sameA G f g) : sameA G g f := fun v hv hr => (hs v hv hr).symm
theorem same_lm (hG : okG G) (hs : sameA G f g) (h : isLm G f) : isLm G g := ⟨⟨same_ch hs h.1.1, fun v hv => by rw [← up_same hs hG h.1.1 _ v hv]; exact h.1.2 v hv⟩, fun u hu => by rw [← same_deg hs u]; exact h.2 u hu⟩
/-- agrees with the first choices -/
def agr (G : Gr) (v : Nat) (f g : Nat → Nat) : Prop := ∀ u, u < v → u ≠ gr G → g u = f u
/-- the best of what was seen, the first of the best -/
def bstI (G : Gr) (X : (Nat → Nat) → Prop) (b : Option (Nat → Nat)) : Prop := (∀ g, X g → isLm G g → ∃ h, b = some h ∧ (cosA G h < cosA G g ∨ (cosA G h = cosA G g ∧ (sameA G h g ∨ lexL G h g)))) ∧ ∀ h, b = some h → isLm G h ∧ X h
theorem bstI_c {X Y : (Nat → Nat) → Prop} {b : Option (Nat → Nat)} (h1 : ∀ g, isCh G g → (X g ↔ Y g)) (hb : bstI G X b) : bstI G Y b := ⟨fun g hg hl => hb.1 g ((h1 g hl.1.1).mpr hg) hl, fun h hh => ⟨(hb.2 h hh).1, (h1 h (hb.2 h hh).1.1.1).mp (hb.2 h hh).2⟩⟩
theorem en_best (hG : okG G) : ∀ (n v : Nat) (f : Nat → Nat) (b : Option (Nat → Nat)) (X : (Nat → Nat) → Prop), v + n = gn G → goOK G v f → bstI G X b → (∀ x g, X x → agr G v f g → isCh G g → lexL G x g) → bstI G (fun g => X g ∨ agr G v f g) (enF G (lfB G) n v f b) := by
  intro n
  induction n with
  | zero =>
    intro v f b X hv hO hb hX
    have hvn : v = gn G := by omega
    subst hvn
    show bstI G _ (lfB G f b)
    have hch : isCh G f := fun u hu hr => hO u hu hr
    by_cases c : isAr G f ∧ btr G f b ∧ lmP G f
    · have e : lfB G f b = some f := by unfold lfB; rw [if_pos (pD_T c)]
      rw [e]
      refine ⟨fun g hg hl => ⟨f, rfl, ?_⟩, fun h hh => ?_⟩
      · rcases hg with hg | hg
        · obtain ⟨h, h1, h2⟩ := hb.1 g hg hl
          have hbt := c.2.1
          rw [h1] at hbt
          have hbt : cosA G f < cosA G h := hbt
          left
          rcases h2 with h2 | h2
          · omega
          · omega
        · have hs : sameA G f g := fun u hu hr => (hg u hu hr).symm
          exact Or.inr ⟨same_cos hs, Or.inl hs⟩
      · have : f = h := Option.some.inj hh
        rw [← this]
        exact ⟨⟨c.1, c.2.2⟩, Or.inr (fun _ _ _ => rfl)⟩
    · have e : lfB G f b = b := by unfold lfB; rw [pD_F c]; rfl
      rw [e]
      refine ⟨fun g hg hl => ?_, fun h hh => ⟨(hb.2 h hh).1, Or.inl (hb.2 h hh).2⟩⟩
      rcases hg with hg | hg
      · exact hb.1 g hg hl
      · have hs : sameA G g f := fun u hu hr => hg u hu hr
        have hlf := same_lm hG hs hl
        cases hb0 : b with
        | none => exact absurd ⟨hlf.1, by rw [hb0]; trivial, hlf.2⟩ c
        | some h =>
          refine ⟨h, rfl, ?_⟩
          have hnb : ¬ cosA G f < cosA G h := fun q => c ⟨hlf.1, by rw [hb0]; exact q, hlf.2⟩
          have ec := same_cos hs
          have hlx := hX h g (hb.2 h hb0).2 hg hl.1.1
          by_cases e2 : cosA G h < cosA G g
          · exact Or.inl e2
          · exact Or.inr ⟨by omega, Or.inr hlx⟩
  | succ n ih =>
    intro v f b X hv hO hb hX
    unfold enF
    by_cases e : v = gr G
    · rw [if_pos e]
      have ha : ∀ g, agr G (v + 1) (fset f v 0) g ↔ agr G v f g := fun g => by
        constructor
        · intro h u hu hr
          rw [h u (by omega) hr, fset_n _ _ (by omega)]
        · intro h u hu hr
          rw [fset_n _ _ (fun q => hr (q.trans e))]
          exact h u (by
            have : u ≠ v := fun q => hr (q.trans e)
            omega) hr
      refine bstI_c (fun g _ => by rw [ha g]) (ih (v + 1) (fset f v 0) b X (by omega) (goOK_s hO (fun q => absurd e q)) hb (fun x g hx hg => hX x g hx ((ha g).mp hg)))
    · rw [if_neg e]
      have arcs : ∀ (k a : Nat) (b : Option (Nat → Nat)), a + k = gm G → bstI G (fun g => X g ∨ (agr G v f g ∧ g v < a)) b → bstI G (fun g => X g ∨ agr G v f g) (foA (hdP G v) (fun a y => enF G (lfB G) n (v + 1) (fset f v a) y) k a b) := by
        intro k
        induction k with
        | zero =>
          intro a b ha hb
          refine bstI_c (fun g hg => ⟨fun q => q.imp id (fun z => z.1), fun q => q.imp id (fun z => ⟨z, ?_⟩)⟩) hb
          have := (hg v (by omega) e).1
          omega
        | succ k ihk =>
          intro a b ha hb
          unfold foA
          refine ihk (a + 1) _ (by omega) ?_
          by_cases c : gh G a = v
          · rw [if_pos (show hdP G v a = true from decide_eq_true c)]
            have hagr : ∀ g, agr G (v + 1) (fset f v a) g ↔ agr G v f g ∧ g v = a := fun g => by
              constructor
              · intro h
                exact ⟨fun u hu hr => by rw [h u (by omega) hr, fset_n _ _ (by omega)], by rw [h v (by omega) e, fset_s]⟩
              · intro h u hu hr
                by_cases eu : u = v
                · subst eu; rw [fset_s]; exact h.2
                · rw [fset_n _ _ eu]; exact h.1 u (by omega) hr
            refine bstI_c (fun g _ => ?_) (ih (v + 1) (fset f v a) b (fun g => X g ∨ (agr G v f g ∧ g v < a)) (by omega) (goOK_s hO (fun _ => ⟨by omega, c⟩)) hb (fun x g hx hg hch => ?_))
            · rw [hagr g]
              constructor
              · rintro ((q | q) | q)
                · exact Or.inl q
                · exact Or.inr ⟨q.1, by omega⟩
                · exact Or.inr ⟨q.1, by omega⟩
              · rintro (q | q)
                · exact Or.inl (Or.inl q)
                · by_cases ev : g v = a
                  · exact Or.inr ⟨q.1, ev⟩
                  · exact Or.inl (Or.inr ⟨q.1, by omega⟩)
            · have hg2 := (hagr g).mp hg
              rcases hx with hx | hx
              · exact hX x g hx hg2.1 hch
              · exact ⟨v, by omega, e, by omega, fun u hu hr => by rw [hx.1 u hu hr, hg2.1 u hu hr]⟩
          · rw [if_neg (show ¬ hdP G v a = true from fun q => c (of_decide_eq_true q))]
            refine bstI_c (fun g hg => ⟨fun q => q.imp id (fun z => ⟨z.1, by omega⟩), fun q => q.imp id (fun z => ⟨z.1, ?_⟩)⟩) hb
            have h1 := (hg v (by omega) e).2
            have : g v ≠ a := fun q => c (by rw [← q]; exact h1)
            omega
      refine arcs (gm G) 0 b (by omega) (bstI_c (fun g _ => ⟨fun q => Or.inl q, fun q => q.elim id (fun z => absurd z.2 (Nat.not_lt_zero _))⟩) hb)
noncomputable def bstF (G : Gr) : Option (Nat → Nat) := enF G (lfB G) (gn G) 0 f00 none
theorem bst_all (hG : okG G) : bstI G (fun _ => True) (bstF G) :=
  bstI_c (fun g _ => ⟨fun _ => trivial, fun _ => Or.inr (fun u hu => absurd hu (Nat.not_lt_zero u))⟩) (en_best hG (gn G) 0 f00 none (fun _ => False) (by omega) (fun u hu => absurd hu (Nat.not_lt_zero u)) ⟨fun g hg => hg.elim, fun h hh => by cases hh⟩ (fun x g hx => hx.elim))
theorem bst_none (hG : okG G) (h : bstF G = none) : ∀ g, ¬ isLm G g := fun g hg => by
  obtain ⟨h', h1, -⟩ := (bst_all hG).1 g trivial hg
  rw [h] at h1; cases h1
theorem bst_some (hG : okG G) {h : Nat → Nat} (hh : bstF G = some h) : isBest G h := by
  refine ⟨((bst_all hG).2 h hh).1, fun g hg => ?_⟩
  obtain ⟨h', h1, h2⟩ := (bst_all hG).1 g trivial hg
  rw [hh] at h1
  have : h = h' := Option.some.inj h1
  rw [this]; exact h2
theorem bst_u (h1 : isBest G f) (h2 : isBest G g) : cosA G f = cosA G g ∧ sameA G f g := by
  have a1 := h1.2 g h2.1
  have a2 := h2.2 f h1.1
  rcases a1 with a1 | ⟨e1, a1⟩
  · rcases a2 with a2 | ⟨e2, a2⟩ <;> omega
  · refine ⟨e1, ?_⟩
    rcases a1 with a1 | ⟨v, v1, v2, v3, v4⟩
    · exact a1
    · rcases a2 with a2 | ⟨e2, a2⟩
      · omega
      · rcases a2 with a2 | ⟨w, w1, w2, w3, w4⟩
        · exact same_sym a2
        · exfalso
          rcases Nat.lt_trichotomy v w with q | q | q
          · have := w4 v q v2; omega
          · subst q; omega
          · have := v4 w q w2; omega
/-- nothing better below: it may be left out -/
theorem en_skip : ∀ (n v : Nat) (f : Nat → Nat) (b : Option (Nat → Nat)), v + n = gn G → goOK G v f → (∀ g, agr G v f g → ¬ (isAr G g ∧ btr G g b ∧ lmP G g)) → enF G (lfB G) n v f b = b := by
  intro n
  induction n with
  | zero =>
    intro v f b _ _ h
    show lfB G f b = b
    unfold lfB
    rw [pD_F (h f (fun _ _ _ => rfl))]; rfl
  | succ n ih =>
    intro v f b hv hO h
    unfold enF
    by_cases e : v = gr G
    · rw [if_pos e]
      exact ih (v + 1) (fset f v 0) b (by omega) (goOK_s hO (fun q => absurd e q)) (fun g hg => h g (fun u hu hr => by rw [hg u (by omega) hr, fset_n _ _ (by omega)]))
    · rw [if_neg e]
      have arcs : ∀ (k a : Nat), a + k ≤ gm G → foA (hdP G v) (fun a y => enF G (lfB G) n (v + 1) (fset f v a) y) k a b = b := by
        intro k
        induction k with
        | zero => intro a _; rfl
        | succ k ihk =>
          intro a ha
          unfold foA
          by_cases c : gh G a = v
          · rw [if_pos (show hdP G v a = true from decide_eq_true c), ih (v + 1) (fset f v a) b (by omega) (goOK_s hO (fun _ => ⟨by omega, c⟩)) (fun g hg => h g (fun u hu hr => by rw [hg u (by omega) hr, fset_n _ _ (by omega)]))]
            exact ihk (a + 1) (by omega)
          · rw [if_neg (show ¬ hdP G v a = true from fun q => c (of_decide_eq_true q))]
            exact ihk (a + 1) (by omega)
      exact arcs (gm G) 0 (by omega)
end BE
