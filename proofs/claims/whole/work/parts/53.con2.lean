/-! a step of the contraction keeps what holds -/
section CM
variable {G : Gr} {al : Nat → Bool} {pr : Nat → Int32} {s : Cs} {g a : Nat}
theorem cOK_0 (hG : okG G) : cOK G al (con0 G) := by
  have hgn := hG.1.2.1
  refine ⟨Nat.le_refl _, fun g hg => ⟨hg, rfl⟩, fun g _ _ => rfl, fun g p _ h => (by cases h), fun g v hg _ hv => ?_, fun v u hv hu => bit_one (show v < 32 by omega) hu, ⟨rfl, rfl⟩, fun g a _ h => (by cases h), fun _ _ _ => ⟨rfl, rfl⟩, fun g hg _ => ⟨g, hg, rfl⟩, fun g _ _ => ⟨0, rfl⟩, ?_⟩
  · have hg : g < gn G := hg
    have h := bit_one (u := g) (v := v) (by omega) hv
    refine h.trans ⟨fun e => ?_, fun e => e.2⟩
    subst e; exact ⟨hg, rfl⟩
  · have : ∀ n, sumN (fun _ => if (none : Option Nat) = none then 1 else 0) n = n := by
      intro n
      induction n with
      | zero => rfl
      | succ n ih => unfold sumN; rw [ih, if_pos rfl]
    show gn G + sumN (fun _ => if (none : Option Nat) = none then 1 else 0) (gn G) ≤ _
    rw [this]; omega
theorem fset_s {α : Type} (f : Nat → α) (k : Nat) (x : α) : fset f k x k = x := if_pos rfl
theorem fset_n {α : Type} (f : Nat → α) {k j : Nat} (x : α) (h : j ≠ k) : fset f k x j = f j := if_neg h
theorem cstp_iff {i : Nat} : cstp G s g i = true ↔ (cwk G s g i = g ∨ vl s (cwk G s g i) = none) := by
  unfold cstp; rw [Bool.or_eq_true, decide_eq_true_eq, Option.isNone_iff_eq_none]
/-- no cycle: the selected arc, and that is all -/
theorem pick_ok (hG : okG G) (hc : cOK G al s) (hn : cnext G s = some g) (hs : csel G pr al s g = some a) (hne : ¬ cwk G (cpick G pr s g a) g (ccy G (cpick G pr s g a) g) = g) : cOK G al (cpick G pr s g a) := by
  obtain ⟨⟨y1, y2⟩, y3, y4, y5, y6, y7⟩ := cyc hG hc hn hs
  obtain ⟨n1, n2, n3, n4⟩ := next_ok hG hc hn
  obtain ⟨a1, a2, a3, a4, a5⟩ := csel_some hs
  obtain ⟨c1, c2, c3, c4, c5, c6, c7, c8, c9, c10, c11, c12⟩ := hc
  have vl1 : ∀ q, vl (cpick G pr s g a) q = if q = g then some a else vl s q := fun q => rfl
  generalize ccy G (cpick G pr s g a) g = J at *
  have hgr : crch G (cpick G pr s g a) J g := by
    refine cwk_rch J g (fun i hi => ?_) ((cstp_iff.mp y3).resolve_left hne)
    cases e : vl (cpick G pr s g a) (cwk G (cpick G pr s g a) g i) with
    | some b => exact ⟨b, rfl⟩
    | none =>
      by_cases e0 : i = 0
      · subst e0
        have : vl (cpick G pr s g a) g = none := e
        rw [vl1, if_pos rfl] at this; cases this
      · have := y4 i (by omega) hi
        rw [cstp_iff.mpr (Or.inr e)] at this; cases this
  refine ⟨c1, c2, c3, c4, c5, c6, ⟨c7.1, ?_⟩, fun q b hq h => ?_, fun q hq h => ?_, c10, fun q hq hp => ?_, c12⟩
  · rw [vl1, if_neg (Ne.symm n4)]; exact c7.2
  · rw [vl1] at h
    by_cases e : q = g
    · rw [if_pos e] at h; cases h; subst e; exact ⟨a1, a2, a3, a4⟩
    · rw [if_neg e] at h; exact c8 q b hq h
  · rw [vl1] at h
    by_cases e : q = g
    · rw [if_pos e] at h; cases h
    · rw [if_neg e] at h
      obtain ⟨z1, z2⟩ := c9 q hq h
      refine ⟨z1, ?_⟩
      show fset (vd s) g (cred G pr s a) q = 0
      rw [fset_n _ _ e]; exact z2
  · obtain ⟨j0, hj0⟩ := c11 q hq hp
    have : ∀ (j0 q : Nat), q < vk s → crch G s j0 q → ∃ j, crch G (cpick G pr s g a) j q := by
      intro j0
      induction j0 with
      | zero =>
        intro q _ h
        by_cases e : q = g
        · subst e; exact ⟨J, hgr⟩
        · refine ⟨0, ?_⟩
          show vl (cpick G pr s g a) q = none
          rw [vl1, if_neg e]; exact h
      | succ j0 ih =>
        intro q hq h
        by_cases e : q = g
        · subst e; exact ⟨J, hgr⟩
        · rcases h with h | ⟨b, hb, h⟩
          · refine ⟨0, ?_⟩
            show vl (cpick G pr s g a) q = none
            rw [vl1, if_neg e]; exact h
          · have hbm := (c8 q b hq hb).1
            have htb := (hG.2.1 b hbm).1
            obtain ⟨j, hj⟩ := ih _ (c2 (gt G b) (by omega)).1 h
            refine ⟨j + 1, Or.inr ⟨b, ?_, hj⟩⟩
            rw [vl1, if_neg e]; exact hb
    exact this j0 q hq hj0
/-- a cycle: its groups become parts of a new one -/
theorem uni_ok (hG : okG G) (hc : cOK G al s) (hn : cnext G s = some g) (hs : csel G pr al s g = some a) (hne : cwk G (cpick G pr s g a) g (ccy G (cpick G pr s g a) g) = g) : cOK G al (cuni G (cpick G pr s g a) g (ccy G (cpick G pr s g a) g)) := by
  obtain ⟨⟨y1, y2⟩, y3, y4, y5, y6, y7⟩ := cyc hG hc hn hs
  obtain ⟨n1, n2, n3, n4⟩ := next_ok hG hc hn
  obtain ⟨a1, a2, a3, a4, a5⟩ := csel_some hs
  obtain ⟨c1, c2, c3, c4, c5, c6, c7, c8, c9, c10, c11, c12⟩ := hc
  have hgn := hG.1.2.1
  have hgr := hG.1.2.2.1
  generalize hJ : ccy G (cpick G pr s g a) g = J at *
  generalize hw : cwk G (cpick G pr s g a) g = w at *
  have w0 : w 0 = g := by rw [← hw]; rfl
  have vl1 : ∀ q, vl (cpick G pr s g a) q = if q = g then some a else vl s q := fun q => rfl
  have hJ2 : 2 ≤ J := by
    rcases Nat.lt_or_ge J 2 with h | h
    · have : J = 1 := by omega
      subst this; exact absurd hne y6
    · exact h
  -- members of the cycle have selected arcs
  have wsel : ∀ q, inW w q J = true → vl (cpick G pr s g a) q ≠ none := by
    intro q hq e
    obtain ⟨i, hi, rfl⟩ := (inW_iff J).mp hq
    by_cases e0 : i = 0
    · subst e0; rw [w0, vl1, if_pos rfl] at e; cases e
    · have := y4 i (by omega) hi
      rw [cstp_iff.mpr (Or.inr (by rw [hw]; exact e))] at this; cases this
  have wtop : ∀ q, inW w q J = true → q < vk s ∧ vp s q = none := by
    intro q hq
    obtain ⟨i, hi, rfl⟩ := (inW_iff J).mp hq
    exact y5 i
  have gW : inW w g J = true := (inW_iff J).mpr ⟨0, by omega, w0⟩
  generalize hs2 : cuni G (cpick G pr s g a) g J = s2
  have k2 : vk s2 = vk s + 1 := by rw [← hs2]; rfl
  have vs2 : ∀ q, vs s2 q = if q = vk s then orN (fun i => vs s (w i)) J else vs s q := fun q => by rw [← hs2, ← hw]; rfl
  have vd2 : ∀ q, vd s2 q = if q = vk s then 0 else fset (vd s) g (cred G pr s a) q := fun q => by rw [← hs2]; rfl
  have vp2 : ∀ q, vp s2 q = if q = vk s then none else if inW w q J = true then some (vk s) else vp s q := fun q => by rw [← hs2, ← hw]; rfl
  have vl2 : ∀ q, vl s2 q = if q = vk s then none else vl (cpick G pr s g a) q := fun q => by rw [← hs2]; rfl
  have vt2 : ∀ q, vt s2 q = if q = vk s then vk s else if inW w (vt s q) J = true then vk s else vt s q := fun q => by rw [← hs2, ← hw]; rfl
  have vtk : vt s2 (vk s) = vk s := by rw [vt2, if_pos rfl]
  have vpk : vp s2 (vk s) = none := by rw [vp2, if_pos rfl]
  have rootW : ¬ inW w (gr G) J = true := fun q => wsel _ q (by rw [vl1, if_neg (Ne.symm n4)]; exact c7.2)
  have bits : ∀ v, v < 32 → (bit (orN (fun i => vs s (w i)) J) v = 1 ↔ v < gn G ∧ inW w (vt s v) J = true) := by
    intro v hv
    rw [bit_orN hv, inW_iff]
    constructor
    · rintro ⟨i, hi, h⟩
      have := (c5 (w i) v (y5 i).1 (y5 i).2 hv).mp h
      exact ⟨this.1, i, hi, this.2.symm⟩
    · rintro ⟨h1, i, hi, h⟩
      exact ⟨i, hi, (c5 (w i) v (y5 i).1 (y5 i).2 hv).mpr ⟨h1, h.symm⟩⟩
  refine ⟨by rw [k2]; omega, fun q hq => ?_, fun q hq h => ?_, fun q p hq h => ?_, fun q v hq h hv => ?_, fun v u hv hu => ?_, ⟨?_, ?_⟩, fun q b hq h => ?_, fun q hq h => ?_, fun q hq h => ?_, fun q hq hp => ?_, ?_⟩
  · rw [k2] at hq
    by_cases e : q = vk s
    · subst e; rw [vtk, k2]; exact ⟨by omega, vpk⟩
    · rw [vt2, if_neg e]
      by_cases e2 : inW w (vt s q) J = true
      · rw [if_pos e2, k2]; exact ⟨by omega, vpk⟩
      · have := c2 q (by omega)
        rw [if_neg e2, k2, vp2, if_neg (by omega), if_neg e2]; exact ⟨by omega, this.2⟩
  · rw [k2] at hq
    by_cases e : q = vk s
    · subst e; exact vtk
    · rw [vp2, if_neg e] at h
      by_cases e2 : inW w q J = true
      · rw [if_pos e2] at h; cases h
      · rw [if_neg e2] at h
        have := c3 q (by omega) h
        rw [vt2, if_neg e, this, if_neg e2]
  · rw [k2] at hq
    by_cases e : q = vk s
    · subst e; rw [vpk] at h; cases h
    · rw [vp2, if_neg e] at h
      by_cases e2 : inW w q J = true
      · rw [if_pos e2] at h; cases h
        refine ⟨by omega, by rw [k2]; omega, ?_⟩
        have := c3 q (by omega) (wtop q e2).2
        rw [vtk, vt2, if_neg e, this, if_pos e2]
      · rw [if_neg e2] at h
        obtain ⟨z1, z2, z3⟩ := c4 q p (by omega) h
        refine ⟨z1, by rw [k2]; omega, ?_⟩
        rw [vt2 q, if_neg e, vt2 p, if_neg (show ¬ p = vk s by omega), z3]
  · rw [k2] at hq
    by_cases e : q = vk s
    · subst e
      rw [vs2, if_pos rfl, bits v hv]
      refine and_congr_right (fun hvn => ?_)
      rw [vt2, if_neg (by omega)]
      by_cases e2 : inW w (vt s v) J = true
      · rw [if_pos e2]; exact ⟨fun _ => rfl, fun _ => e2⟩
      · rw [if_neg e2]
        have := (c2 v (by omega)).1
        exact ⟨fun z => absurd z e2, fun z => by omega⟩
    · rw [vp2, if_neg e] at h
      by_cases e2 : inW w q J = true
      · rw [if_pos e2] at h; cases h
      · rw [if_neg e2] at h
        rw [vs2, if_neg e, c5 q v (by omega) h hv]
        refine and_congr_right (fun hvn => ?_)
        rw [vt2, if_neg (by omega)]
        by_cases e3 : inW w (vt s v) J = true
        · rw [if_pos e3]
          exact ⟨fun z => by rw [z] at e3; exact absurd e3 e2, fun z => by omega⟩
        · rw [if_neg e3]
  · rw [vs2, if_neg (by omega)]; exact c6 v u hv hu
  · rw [vt2, if_neg (by omega), c7.1, if_neg rootW]
  · rw [vl2, if_neg (by omega), vl1, if_neg (Ne.symm n4)]; exact c7.2
  · rw [k2] at hq
    by_cases e : q = vk s
    · subst e; rw [vl2, if_pos rfl] at h; cases h
    · rw [vl2, if_neg e, vl1] at h
      rw [vs2, if_neg e]
      by_cases e2 : q = g
      · rw [if_pos e2] at h; cases h; subst e2; exact ⟨a1, a2, a3, a4⟩
      · rw [if_neg e2] at h; exact c8 q b (by omega) h
  · rw [k2] at hq
    by_cases e : q = vk s
    · subst e; exact ⟨vpk, by rw [vd2, if_pos rfl]⟩
    · rw [vl2, if_neg e] at h
      have e2 : ¬ inW w q J = true := fun z => wsel q z h
      rw [vl1] at h
      by_cases e3 : q = g
      · rw [if_pos e3] at h; cases h
      · rw [if_neg e3] at h
        obtain ⟨z1, z2⟩ := c9 q (by omega) h
        rw [vp2, if_neg e, if_neg e2, vd2, if_neg e, fset_n _ _ e3]
        exact ⟨z1, z2⟩
  · rw [k2] at hq
    by_cases e : q = vk s
    · subst e
      obtain ⟨v, z1, z2⟩ := c10 g n1 n2
      refine ⟨v, z1, ?_⟩
      rw [vt2, if_neg (by omega), z2, if_pos gW]
    · rw [vp2, if_neg e] at h
      by_cases e2 : inW w q J = true
      · rw [if_pos e2] at h; cases h
      · rw [if_neg e2] at h
        obtain ⟨v, z1, z2⟩ := c10 q (by omega) h
        refine ⟨v, z1, ?_⟩
        rw [vt2, if_neg (by omega), z2, if_neg e2]
  · rw [k2] at hq
    have hk0 : vl s2 (vk s) = none := by rw [vl2, if_pos rfl]
    by_cases e : q = vk s
    · subst e; exact ⟨0, hk0⟩
    · rw [vp2, if_neg e] at hp
      by_cases e2 : inW w q J = true
      · rw [if_pos e2] at hp; cases hp
      · rw [if_neg e2] at hp
        obtain ⟨j0, hj0⟩ := c11 q (by omega) hp
        have : ∀ (j0 q : Nat), q < vk s → ¬ inW w q J = true → crch G s j0 q → ∃ j, crch G s2 j q := by
          intro j0
          induction j0 with
          | zero =>
            intro q hq hW h
            refine ⟨0, ?_⟩
            show vl s2 q = none
            rw [vl2, if_neg (by omega), vl1, if_neg (fun z => hW (by rw [z]; exact gW))]; exact h
          | succ j0 ih =>
            intro q hq hW h
            have e3 : vl s2 q = vl s q := by rw [vl2, if_neg (by omega), vl1, if_neg (fun z => hW (by rw [z]; exact gW))]
            rcases h with h | ⟨b, hb, h⟩
            · exact ⟨0, by show vl s2 q = none; rw [e3]; exact h⟩
            · have hbm := (c8 q b hq hb).1
              have htb := (hG.2.1 b hbm).1
              by_cases e4 : inW w (vt s (gt G b)) J = true
              · refine ⟨1, Or.inr ⟨b, by rw [e3]; exact hb, ?_⟩⟩
                show vl s2 (vt s2 (gt G b)) = none
                rw [vt2, if_neg (by omega), if_pos e4]; exact hk0
              · obtain ⟨j, hj⟩ := ih _ (c2 (gt G b) (by omega)).1 e4 h
                refine ⟨j + 1, Or.inr ⟨b, by rw [e3]; exact hb, ?_⟩⟩
                rw [vt2, if_neg (by omega), if_neg e4]; exact hj
        exact this j0 q (by omega) e2 hj0
  · rw [k2]
    have vp2' : ∀ i, i < vk s → vp s2 i = if inW w i J = true then some (vk s) else vp s i := fun i hi => by rw [vp2 i, if_neg (show ¬ i = vk s by omega)]
    have fW : ∀ i, i < vk s → inW w i J = true → (if vp s2 i = none then 1 else 0) = 0 := fun i hi h => by rw [vp2' i hi, if_pos h, if_neg (fun z => by cases z)]
    have fN : ∀ i, i < vk s → ¬ inW w i J = true → (if vp s2 i = none then 1 else 0) = (if vp s i = none then 1 else 0) := fun i hi h => by rw [vp2' i hi, if_neg h]
    have fT : ∀ i, (if vp s (w i) = none then 1 else 0) = 1 := fun i => if_pos (y5 i).2
    have h1 := sumN_2 (f := fun q => if vp s2 q = none then 1 else 0) (g := fun q => if vp s q = none then 1 else 0) (a := w 0) (b := w 1) (vk s) (fun i hi => by
      by_cases e2 : inW w i J = true
      · show (if vp s2 i = none then 1 else 0) ≤ (if vp s i = none then 1 else 0)
        rw [fW i hi e2]; exact Nat.zero_le _
      · show (if vp s2 i = none then 1 else 0) ≤ (if vp s i = none then 1 else 0)
        rw [fN i hi e2]; exact Nat.le_refl _) (y5 0).1 (y5 1).1 (fun z => y6 (by rw [← z]; exact w0)) (by
      show (if vp s2 (w 0) = none then 1 else 0) + 1 ≤ (if vp s (w 0) = none then 1 else 0)
      rw [fW _ (y5 0).1 ((inW_iff J).mpr ⟨0, by omega, rfl⟩), fT 0]; exact Nat.le_refl _) (by
      show (if vp s2 (w 1) = none then 1 else 0) + 1 ≤ (if vp s (w 1) = none then 1 else 0)
      rw [fW _ (y5 1).1 ((inW_iff J).mpr ⟨1, by omega, rfl⟩), fT 1]; exact Nat.le_refl _)
    have h2 : sumN (fun q => if vp s2 q = none then 1 else 0) (vk s + 1) = sumN (fun q => if vp s2 q = none then 1 else 0) (vk s) + 1 := by
      show _ + (if vp s2 (vk s) = none then 1 else 0) = _
      rw [if_pos vpk]
    omega
theorem clo_ok (hG : okG G) (hc : cOK G al s) (hn : cnext G s = some g) (hs : csel G pr al s g = some a) : cOK G al (cclo G (cpick G pr s g a) g) := by
  unfold cclo
  by_cases e : cwk G (cpick G pr s g a) g (ccy G (cpick G pr s g a) g) = g
  · rw [if_pos e]; exact uni_ok hG hc hn hs e
  · rw [if_neg e]; exact pick_ok hG hc hn hs e
theorem ck_le (hG : okG G) (hc : cOK G al s) : vk s < 2 * gn G := by
  obtain ⟨c1, c2, c3, c4, c5, c6, c7, c8, c9, c10, c11, c12⟩ := hc
  have hr := hG.1.2.2.1
  have h1 : vp s (gr G) = none := by
    have := (c2 (gr G) (by omega)).2
    rw [c7.1] at this; exact this
  have h2 := sumN_1 (f := fun _ => 0) (g := fun q => if vp s q = none then 1 else 0) (a := gr G) (vk s) (fun i hi => Nat.zero_le _) (by omega) (by show 0 + 1 ≤ (if vp s (gr G) = none then 1 else 0); rw [if_pos h1]; exact Nat.le_refl _)
  omega
/-- the number of selected arcs -/
theorem cnt_le (hG : okG G) (hc : cOK G al s) (hn : cnext G s = some g) : cntS s + 2 ≤ vk s := by
  obtain ⟨n1, n2, n3, n4⟩ := next_ok hG hc hn
  obtain ⟨c1, c2, c3, c4, c5, c6, c7, c8, c9, c10, c11, c12⟩ := hc
  have hr := hG.1.2.2.1
  have h2 := sumN_2 (f := fun q => if vl s q = none then 0 else 1) (g := fun _ => 1) (a := g) (b := gr G) (vk s) (fun i hi => by show (if vl s i = none then 0 else 1) ≤ 1; split <;> omega) n1 (by omega) n4 (by show (if vl s g = none then 0 else 1) + 1 ≤ 1; rw [if_pos n3]; exact Nat.le_refl _) (by show (if vl s (gr G) = none then 0 else 1) + 1 ≤ 1; rw [if_pos c7.2]; exact Nat.le_refl _)
  have h3 : ∀ n, sumN (fun _ => 1) n = n := by
    intro n
    induction n with
    | zero => rfl
    | succ n ih => unfold sumN; rw [ih]
  rw [h3] at h2
  exact h2
theorem cnt_pick (hn : g < vk s) (hl : vl s g = none) : cntS (cpick G pr s g a) = cntS s + 1 := by
  refine sumN_up (a := g) (vk s) (fun i hi hne => ?_) hn ?_
  · show (if fset (vl s) g (some a) i = none then 0 else 1) = _
    rw [fset_n _ _ hne]
  · show (if fset (vl s) g (some a) g = none then 0 else 1) = (if vl s g = none then 0 else 1) + 1
    rw [fset_s, hl, if_neg (fun z => by cases z), if_pos rfl]
theorem cnt_uni {j : Nat} : cntS (cuni G s g j) = cntS s := by
  show sumN (fun q => if fset (vl s) (vk s) none q = none then 0 else 1) (vk s + 1) = _
  show sumN (fun q => if fset (vl s) (vk s) none q = none then 0 else 1) (vk s) + (if fset (vl s) (vk s) none (vk s) = none then 0 else 1) = _
  rw [fset_s, if_pos rfl]
  exact sumN_congr _ (fun i hi => by rw [fset_n _ _ (by omega)])
theorem cnt_clo (hn : g < vk s) (hl : vl s g = none) : cntS (cclo G (cpick G pr s g a) g) = cntS s + 1 := by
  unfold cclo
  split
  · rw [cnt_uni, cnt_pick hn hl]
  · exact cnt_pick hn hl
end CM
