/-! THE CONTRACTION, as a function: groups; sets; duals; wholes; selected arcs; the group on top of each group -/
abbrev Cs : Type := Nat × (Nat → Int32) × (Nat → Int32) × (Nat → Option Nat) × (Nat → Option Nat) × (Nat → Nat)
abbrev vk (s : Cs) : Nat := s.1
abbrev vs (s : Cs) : Nat → Int32 := s.2.1
abbrev vd (s : Cs) : Nat → Int32 := s.2.2.1
abbrev vp (s : Cs) : Nat → Option Nat := s.2.2.2.1
abbrev vl (s : Cs) : Nat → Option Nat := s.2.2.2.2.1
abbrev vt (s : Cs) : Nat → Nat := s.2.2.2.2.2
def con0 (G : Gr) : Cs := (gn G, fun v => 1 <<< (nI v &&& 31), fun _ => 0, fun _ => none, fun _ => none, fun v => v)
def cred (G : Gr) (pr : Nat → Int32) (s : Cs) (a : Nat) : Int32 := redN (pr a) (vs s) (vd s) (gt G a) (gh G a) (vk s)
def nxF (P : Nat → Bool) (f : Nat → Nat) : Nat → Nat → Option Nat
  | 0, _ => none
  | n + 1, j => if P j = true then some (f j) else nxF P f n (j + 1)
def cnP (G : Gr) (s : Cs) (v : Nat) : Bool := decide (v ≠ gr G) && (vl s (vt s v)).isNone
def cnext (G : Gr) (s : Cs) : Option Nat := nxF (cnP G s) (vt s) (gn G) 0
def selB (r : Nat → Int32) (j : Nat) (b : Option Nat) : Bool := match b with
  | none => true
  | some x => decide (r j < r x)
def selF (P : Nat → Bool) (r : Nat → Int32) : Nat → Nat → Option Nat → Option Nat
  | 0, _, b => b
  | n + 1, j, b => selF P r n (j + 1) (if P j = true ∧ selB r j b = true then some j else b)
def caP (G : Gr) (al : Nat → Bool) (s : Cs) (g a : Nat) : Bool := al a && decide (ent (vs s g) (gt G a) (gh G a))
def csel (G : Gr) (pr : Nat → Int32) (al : Nat → Bool) (s : Cs) (g : Nat) : Option Nat := selF (caP G al s g) (cred G pr s) (gm G) 0 none
def cpick (G : Gr) (pr : Nat → Int32) (s : Cs) (g a : Nat) : Cs := (vk s, vs s, fset (vd s) g (cred G pr s a), vp s, fset (vl s) g (some a), vt s)
def cnx (G : Gr) (s : Cs) (q : Nat) : Nat := match vl s q with
  | some a => vt s (gt G a)
  | none => q
def cwk (G : Gr) (s : Cs) (q : Nat) : Nat → Nat
  | 0 => q
  | i + 1 => cnx G s (cwk G s q i)
def cstp (G : Gr) (s : Cs) (g j : Nat) : Bool := decide (cwk G s g j = g) || (vl s (cwk G s g j)).isNone
def lsF (P : Nat → Bool) : Nat → Nat → Nat
  | 0, j => j
  | n + 1, j => if P j = true then j else lsF P n (j + 1)
def ccy (G : Gr) (s : Cs) (g : Nat) : Nat := lsF (cstp G s g) (gn G) 1
def inW (f : Nat → Nat) (q : Nat) : Nat → Bool
  | 0 => false
  | j + 1 => inW f q j || decide (f j = q)
def cuni (G : Gr) (s : Cs) (g j : Nat) : Cs := (vk s + 1, fset (vs s) (vk s) (orN (fun i => vs s (cwk G s g i)) j), fset (vd s) (vk s) 0, fset (fun q => if inW (cwk G s g) q j = true then some (vk s) else vp s q) (vk s) none, fset (vl s) (vk s) none, fset (fun q => if inW (cwk G s g) (vt s q) j = true then vk s else vt s q) (vk s) (vk s))
def cclo (G : Gr) (s : Cs) (g : Nat) : Cs := if cwk G s g (ccy G s g) = g then cuni G s g (ccy G s g) else s
def conF (G : Gr) (pr : Nat → Int32) (al : Nat → Bool) : Nat → Cs → Option Cs
  | 0, _ => none
  | f + 1, s => match cnext G s with
    | none => some s
    | some g => match csel G pr al s g with
      | none => none
      | some a => conF G pr al f (cclo G (cpick G pr s g a) g)
/-- a walk that ends at a group without a selected arc -/
def crch (G : Gr) (s : Cs) : Nat → Nat → Prop
  | 0, q => vl s q = none
  | j + 1, q => vl s q = none ∨ ∃ a, vl s q = some a ∧ crch G s j (vt s (gt G a))
def cOK (G : Gr) (al : Nat → Bool) (s : Cs) : Prop :=
  gn G ≤ vk s
  ∧ (∀ g, g < vk s → vt s g < vk s ∧ vp s (vt s g) = none)
  ∧ (∀ g, g < vk s → vp s g = none → vt s g = g)
  ∧ (∀ g p, g < vk s → vp s g = some p → g < p ∧ p < vk s ∧ vt s g = vt s p)
  ∧ (∀ g v, g < vk s → vp s g = none → v < 32 → (bit (vs s g) v = 1 ↔ v < gn G ∧ vt s v = g))
  ∧ (∀ v u, v < gn G → u < 32 → (bit (vs s v) u = 1 ↔ u = v))
  ∧ (vt s (gr G) = gr G ∧ vl s (gr G) = none)
  ∧ (∀ g a, g < vk s → vl s g = some a → a < gm G ∧ al a = true ∧ bit (vs s g) (gh G a) = 1 ∧ bit (vs s g) (gt G a) = 0)
  ∧ (∀ g, g < vk s → vl s g = none → vp s g = none ∧ vd s g = 0)
  ∧ (∀ g, g < vk s → vp s g = none → ∃ v, v < gn G ∧ vt s v = g)
  ∧ (∀ g, g < vk s → vp s g = none → ∃ j, crch G s j g)
  ∧ vk s + sumN (fun g => if vp s g = none then 1 else 0) (vk s) ≤ 2 * gn G
def cntS (s : Cs) : Nat := sumN (fun g => if vl s g = none then 0 else 1) (vk s)
section CN
variable {G : Gr} {al : Nat → Bool} {pr : Nat → Int32} {s : Cs} {g a : Nat}
theorem inW_iff {f : Nat → Nat} {q : Nat} : ∀ j, inW f q j = true ↔ ∃ i, i < j ∧ f i = q := by
  intro j
  induction j with
  | zero => exact ⟨fun h => (by cases h), fun ⟨i, hi, _⟩ => absurd hi (Nat.not_lt_zero i)⟩
  | succ j ih =>
    unfold inW
    rw [Bool.or_eq_true, ih, decide_eq_true_eq]
    constructor
    · rintro (⟨i, hi, h⟩ | h)
      · exact ⟨i, by omega, h⟩
      · exact ⟨j, by omega, h⟩
    · rintro ⟨i, hi, h⟩
      by_cases e : i = j
      · subst e; exact Or.inr h
      · exact Or.inl ⟨i, by omega, h⟩
theorem nxF_some {P : Nat → Bool} {f : Nat → Nat} {x : Nat} : ∀ n j, nxF P f n j = some x → ∃ v, j ≤ v ∧ v < j + n ∧ P v = true ∧ x = f v := by
  intro n
  induction n with
  | zero => intro j h; cases h
  | succ n ih =>
    intro j h
    unfold nxF at h
    by_cases e : P j = true
    · rw [if_pos e] at h; cases h; exact ⟨j, by omega, by omega, e, rfl⟩
    · rw [if_neg e] at h
      obtain ⟨v, h1, h2, h3⟩ := ih _ h
      exact ⟨v, by omega, by omega, h3⟩
theorem nxF_none {P : Nat → Bool} {f : Nat → Nat} : ∀ n j, nxF P f n j = none → ∀ v, j ≤ v → v < j + n → P v = false := by
  intro n
  induction n with
  | zero => intro j h v h1 h2; omega
  | succ n ih =>
    intro j h v h1 h2
    unfold nxF at h
    by_cases e : P j = true
    · rw [if_pos e] at h; cases h
    · rw [if_neg e] at h
      by_cases ev : v = j
      · subst ev; exact Bool.eq_false_iff.mpr e
      · exact ih _ h v (by omega) (by omega)
theorem cnP_iff {v : Nat} : cnP G s v = true ↔ v ≠ gr G ∧ vl s (vt s v) = none := by
  unfold cnP
  rw [Bool.and_eq_true, decide_eq_true_eq, Option.isNone_iff_eq_none]
theorem cnext_some (h : cnext G s = some g) : ∃ v, v < gn G ∧ v ≠ gr G ∧ vt s v = g ∧ vl s g = none := by
  obtain ⟨v, -, h2, h3, rfl⟩ := nxF_some _ _ h
  obtain ⟨h4, h5⟩ := cnP_iff.mp h3
  exact ⟨v, by omega, h4, rfl, h5⟩
theorem cnext_none (h : cnext G s = none) : ∀ v, v < gn G → v ≠ gr G → ∃ a, vl s (vt s v) = some a := by
  intro v hv hr
  have := nxF_none _ _ h v (by omega) (by omega)
  cases e : vl s (vt s v) with
  | some a => exact ⟨a, rfl⟩
  | none => rw [cnP_iff.mpr ⟨hr, e⟩] at this; cases this
/-- what the selection gives: an arc of the kind, none of the kind is cheaper -/
theorem selF_ok {P : Nat → Bool} {r : Nat → Int32} : ∀ n j b, (∀ x, b = some x → P x = true ∧ x < j ∧ ∀ y, y < j → P y = true → ¬ r y < r x) → (b = none → ∀ y, y < j → P y = false) →
    (∀ x, selF P r n j b = some x → P x = true ∧ x < j + n ∧ ∀ y, y < j + n → P y = true → ¬ r y < r x) ∧ (selF P r n j b = none → ∀ y, y < j + n → P y = false) := by
  intro n
  induction n with
  | zero => intro j b h1 h2; exact ⟨h1, h2⟩
  | succ n ih =>
    intro j b h1 h2
    unfold selF
    have e : j + (n + 1) = j + 1 + n := by omega
    rw [e]
    refine ih (j + 1) _ (fun x hx => ?_) (fun hx y hy => ?_)
    · by_cases c : P j = true ∧ selB r j b = true
      · rw [if_pos c] at hx; cases hx
        refine ⟨c.1, by omega, fun y hy hP => ?_⟩
        by_cases ey : y = j
        · subst ey; exact Int32.lt_irrefl
        · cases b with
          | none => rw [h2 rfl y (by omega)] at hP; cases hP
          | some z =>
            have h3 := (h1 z rfl).2.2 y (by omega) hP
            have h4 : r j < r z := of_decide_eq_true c.2
            exact fun q => h3 (Int32.lt_trans q h4)
      · rw [if_neg c] at hx
        obtain ⟨a1, a2, a3⟩ := h1 x hx
        refine ⟨a1, by omega, fun y hy hP => ?_⟩
        by_cases ey : y = j
        · subst ey
          intro q
          refine c ⟨hP, ?_⟩
          rw [hx]; exact decide_eq_true q
        · exact a3 y (by omega) hP
    · by_cases c : P j = true ∧ selB r j b = true
      · rw [if_pos c] at hx; cases hx
      · rw [if_neg c] at hx
        by_cases ey : y = j
        · subst ey
          refine Bool.eq_false_iff.mpr (fun q => c ⟨q, ?_⟩)
          rw [hx]; rfl
        · exact h2 hx y (by omega)
theorem caP_iff : caP G al s g a = true ↔ al a = true ∧ bit (vs s g) (gh G a) = 1 ∧ bit (vs s g) (gt G a) = 0 := by
  unfold caP
  rw [Bool.and_eq_true, decide_eq_true_eq]
theorem csel_some (h : csel G pr al s g = some a) : a < gm G ∧ al a = true ∧ bit (vs s g) (gh G a) = 1 ∧ bit (vs s g) (gt G a) = 0 ∧ ∀ b, b < gm G → al b = true → ent (vs s g) (gt G b) (gh G b) → ¬ cred G pr s b < cred G pr s a := by
  obtain ⟨h1, h2, h3⟩ := (selF_ok (gm G) 0 none (fun x hx => by cases hx) (fun _ y hy => absurd hy (Nat.not_lt_zero y))).1 a h
  obtain ⟨h4, h5, h6⟩ := caP_iff.mp h1
  exact ⟨by omega, h4, h5, h6, fun b hb hab he => h3 b (by omega) (caP_iff.mpr ⟨hab, he.1, he.2⟩)⟩
theorem csel_none (h : csel G pr al s g = none) : ∀ b, b < gm G → al b = true → ¬ ent (vs s g) (gt G b) (gh G b) := by
  intro b hb hab he
  have := (selF_ok (gm G) 0 none (fun x hx => by cases hx) (fun _ y hy => absurd hy (Nat.not_lt_zero y))).2 h b (by omega)
  rw [caP_iff.mpr ⟨hab, he.1, he.2⟩] at this; cases this
theorem lsF_eq {P : Nat → Bool} {J : Nat} : ∀ n j, j ≤ J → J < j + n → P J = true → (∀ i, j ≤ i → i < J → P i = false) → lsF P n j = J := by
  intro n
  induction n with
  | zero => intro j h1 h2; omega
  | succ n ih =>
    intro j h1 h2 h3 h4
    unfold lsF
    by_cases e : j = J
    · subst e; rw [if_pos h3]
    · rw [if_neg (by rw [h4 j (by omega) (by omega)]; decide)]
      exact ih (j + 1) (by omega) (by omega) h3 (fun i hi => h4 i (by omega))
theorem cwk_sh (q i : Nat) : cwk G s q (i + 1) = cwk G s (cnx G s q) i := by
  induction i with
  | zero => rfl
  | succ i ih =>
    show cnx G s (cwk G s q (i + 1)) = cnx G s (cwk G s (cnx G s q) i)
    rw [ih]
theorem cwk_ad (q i j : Nat) : cwk G s q (i + j) = cwk G s (cwk G s q i) j := by
  induction j with
  | zero => rfl
  | succ j ih =>
    show cnx G s (cwk G s q (i + j)) = cnx G s (cwk G s (cwk G s q i) j)
    rw [ih]
theorem cnx_s {q b : Nat} (h : vl s q = some b) : cnx G s q = vt s (gt G b) := by unfold cnx; rw [h]
theorem cwk_rch : ∀ (J q : Nat), (∀ i, i < J → ∃ b, vl s (cwk G s q i) = some b) → vl s (cwk G s q J) = none → crch G s J q := by
  intro J
  induction J with
  | zero => intro q _ h; exact h
  | succ J ih =>
    intro q h1 h2
    obtain ⟨b, hb⟩ := h1 0 (by omega)
    have hb : vl s q = some b := hb
    refine Or.inr ⟨b, hb, ?_⟩
    rw [← cnx_s (G := G) hb]
    refine ih _ (fun i hi => ?_) ?_
    · rw [← cwk_sh]; exact h1 (i + 1) (by omega)
    · rw [← cwk_sh]; exact h2
/-- the next group: a node's, on top, without a selected arc, not the root's -/
theorem next_ok (hG : okG G) (hc : cOK G al s) (h : cnext G s = some g) : g < vk s ∧ vp s g = none ∧ vl s g = none ∧ g ≠ gr G := by
  obtain ⟨v, h1, h2, h3, h4⟩ := cnext_some h
  obtain ⟨c1, c2, c3, c4, c5, c6, c7, -⟩ := hc
  have h5 := c2 v (by omega)
  rw [h3] at h5
  refine ⟨h5.1, h5.2, h4, fun e => ?_⟩
  have hn := hG.1.2.1
  have := (c6 (gr G) v hG.1.2.2.1 (by omega)).mp ((c5 (gr G) v (by omega) (by rw [← e]; exact h5.2) (by omega)).mpr ⟨h1, by rw [h3, e]⟩)
  exact h2 this
/-- the walk from the group that has just selected: it ends soon -/
theorem cyc (hG : okG G) (hc : cOK G al s) (hn : cnext G s = some g) (hs : csel G pr al s g = some a) :
    (1 ≤ ccy G (cpick G pr s g a) g ∧ ccy G (cpick G pr s g a) g ≤ gn G) ∧ cstp G (cpick G pr s g a) g (ccy G (cpick G pr s g a) g) = true
    ∧ (∀ i, 1 ≤ i → i < ccy G (cpick G pr s g a) g → cstp G (cpick G pr s g a) g i = false)
    ∧ (∀ i, cwk G (cpick G pr s g a) g i < vk s ∧ vp s (cwk G (cpick G pr s g a) g i) = none)
    ∧ cwk G (cpick G pr s g a) g 1 ≠ g
    ∧ (∀ i j, i < ccy G (cpick G pr s g a) g → j < ccy G (cpick G pr s g a) g → cwk G (cpick G pr s g a) g i = cwk G (cpick G pr s g a) g j → i = j) := by
  obtain ⟨n1, n2, n3, n4⟩ := next_ok hG hc hn
  obtain ⟨a1, a2, a3, a4, a5⟩ := csel_some hs
  obtain ⟨c1, c2, c3, c4, c5, c6, c7, c8, c9, c10, c11, c12⟩ := hc
  have hgn := hG.1.2.1
  generalize hs1 : cpick G pr s g a = s1
  have vl1 : ∀ q, vl s1 q = if q = g then some a else vl s q := fun q => by rw [← hs1]; rfl
  have vt1 : vt s1 = vt s := by rw [← hs1]; rfl
  have hta : gt G a < gn G := (hG.2.1 a a1).1
  have top : ∀ i, cwk G s1 g i < vk s ∧ vp s (cwk G s1 g i) = none := by
    intro i
    induction i with
    | zero => exact ⟨n1, n2⟩
    | succ i ih =>
      show cnx G s1 (cwk G s1 g i) < vk s ∧ vp s (cnx G s1 (cwk G s1 g i)) = none
      unfold cnx
      cases e : vl s1 (cwk G s1 g i) with
      | none => exact ih
      | some b =>
        have hb : b < gm G := by
          rw [vl1] at e
          by_cases q : cwk G s1 g i = g
          · rw [if_pos q] at e; cases e; exact a1
          · rw [if_neg q] at e; exact (c8 _ _ ih.1 e).1
        show vt s1 (gt G b) < vk s ∧ vp s (vt s1 (gt G b)) = none
        rw [vt1]
        have := (hG.2.1 b hb).1
        exact c2 _ (by omega)
  have hg1 : vl s1 g = some a := by rw [vl1, if_pos rfl]
  have w1 : cwk G s1 g 1 = vt s (gt G a) := by
    show cnx G s1 g = _
    rw [cnx_s hg1, vt1]
  have w1g : cwk G s1 g 1 ≠ g := by
    rw [w1]
    intro e
    have := (c5 g (gt G a) n1 n2 (by omega)).mpr ⟨hta, e⟩
    rw [a4] at this
    exact absurd this (by decide)
  -- it ends
  have ends : ∀ (j0 q : Nat), q < vk s → vp s q = none → crch G s j0 q → ∃ j, cwk G s1 q j = g ∨ vl s1 (cwk G s1 q j) = none := by
    intro j0
    induction j0 with
    | zero =>
      intro q _ _ hq
      refine ⟨0, ?_⟩
      show q = g ∨ vl s1 q = none
      by_cases e : q = g
      · exact Or.inl e
      · right; rw [vl1, if_neg e]; exact hq
    | succ j0 ih =>
      intro q hq hp hr
      by_cases e : q = g
      · exact ⟨0, Or.inl e⟩
      · rcases hr with hr | ⟨b, hb, hr⟩
        · refine ⟨0, Or.inr ?_⟩
          show vl s1 q = none
          rw [vl1, if_neg e]; exact hr
        · have hbm := (c8 q b hq hb).1
          have htb := (hG.2.1 b hbm).1
          obtain ⟨t1, t2⟩ := c2 (gt G b) (by omega)
          obtain ⟨j, hj⟩ := ih _ t1 t2 hr
          refine ⟨j + 1, ?_⟩
          have : cnx G s1 q = vt s (gt G b) := by rw [cnx_s (show vl s1 q = some b by rw [vl1, if_neg e]; exact hb), vt1]
          rw [cwk_sh, this]; exact hj
  obtain ⟨t1, t2⟩ := c2 (gt G a) (by omega)
  obtain ⟨j0, hj0⟩ := c11 _ t1 t2
  obtain ⟨j1, hj1⟩ := ends j0 _ t1 t2 hj0
  have st_iff : ∀ i, cstp G s1 g i = true ↔ (cwk G s1 g i = g ∨ vl s1 (cwk G s1 g i) = none) := fun i => by
    unfold cstp; rw [Bool.or_eq_true, decide_eq_true_eq, Option.isNone_iff_eq_none]
  have hj2 : 1 ≤ j1 + 1 ∧ cstp G s1 g (j1 + 1) = true := by
    refine ⟨by omega, (st_iff _).mpr ?_⟩
    have : cnx G s1 g = vt s (gt G a) := by rw [cnx_s hg1, vt1]
    rw [cwk_sh, this]; exact hj1
  obtain ⟨J, -, ⟨hJ1, hJ2⟩, hJ3⟩ := lst (P := fun j => 1 ≤ j ∧ cstp G s1 g j = true) (j1 + 1) hj2
  have hmin : ∀ i, 1 ≤ i → i < J → cstp G s1 g i = false := fun i h1 h2 => Bool.eq_false_iff.mpr (fun q => hJ3 i h2 ⟨h1, q⟩)
  have dist' : ∀ i j, i < j → j < J → cwk G s1 g i ≠ cwk G s1 g j := by
    intro i j hij hj e
    have h1 := cwk_ad (G := G) (s := s1) g i (J - j)
    have h2 := cwk_ad (G := G) (s := s1) g j (J - j)
    rw [e, ← h2, show j + (J - j) = J by omega] at h1
    have h3 := (st_iff J).mp hJ2
    rw [← h1] at h3
    have h4 := (st_iff _).mpr h3
    rw [hmin (i + (J - j)) (by omega) (by omega)] at h4
    cases h4
  have dist : ∀ i j, i < J → j < J → cwk G s1 g i = cwk G s1 g j → i = j := by
    intro i j hi hj e
    rcases Nat.lt_trichotomy i j with h | h | h
    · exact absurd e (dist' i j h hj)
    · exact h
    · exact absurd e.symm (dist' j i h hi)
  have hrep : ∀ i, ∃ v, v < gn G ∧ vt s v = cwk G s1 g i := fun i => c10 _ (top i).1 (top i).2
  obtain ⟨rep, hrep⟩ := Classical.skolem.mp hrep
  have hJn : J ≤ gn G := pg_le (gn G) J rep (fun i _ => (hrep i).1) (fun i j hi hj e => dist i j hi hj (by rw [← (hrep i).2, ← (hrep j).2, e]))
  have hJe : ccy G s1 g = J := lsF_eq (gn G) 1 hJ1 (by omega) hJ2 hmin
  rw [hJe]
  exact ⟨⟨hJ1, hJn⟩, hJ2, hmin, top, w1g, dist⟩
end CN
