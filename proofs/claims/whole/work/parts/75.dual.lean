/-! what the contraction's numbers say: reduced costs, duals, the tree -/
def cD (G : Gr) (s : Cs) : Prop := ∃ (D r : Nat → Nat),
  (∀ g, g < vk s → vd s g = nI (D g) ∧ D g ≤ 99)
  ∧ (∀ a, a < gm G → cred G (coG G) s a = nI (r a) ∧ r a + sumN (fun g => if ent (vs s g) (gt G a) (gh G a) then D g else 0) (vk s) = gc G a)
  ∧ (∀ g a, g < vk s → vl s g = some a → r a = 0)
  ∧ (∀ g p v, g < vk s → vp s g = some p → v < 32 → bit (vs s g) v = 1 → bit (vs s p) v = 1)
  ∧ (∀ g p a, g < vk s → vp s g = some p → vl s g = some a → bit (vs s p) (gt G a) = 1)
  ∧ (∀ g v, g < vk s → v < gn G → bit (vs s g) v = 1 → v = g ∨ ∃ q, q < vk s ∧ vp s q = some g ∧ bit (vs s q) v = 1)
section DU
variable {G : Gr} {al : Nat → Bool} {s : Cs} {g a : Nat} {f : Nat → Nat}
theorem redN_0 {c : Int32} {set : Nat → Int32} {t h : Nat} : ∀ k, redN c set (fun _ => 0) t h k = c := by
  intro k
  induction k with
  | zero => rfl
  | succ k ih =>
    rw [redN_s, ih]
    by_cases e : ent (set k) t h
    · rw [if_pos e, Int32.sub_zero]
    · rw [if_neg e]
theorem cD_0 (hG : okG G) : cD G (con0 G) := by
  have hc := cOK_0 (al := alT) hG
  have hgn := hG.1.2.1
  refine ⟨fun _ => 0, gc G, fun g _ => ⟨rfl, Nat.zero_le _⟩, fun a _ => ⟨redN_0 _, ?_⟩, fun g a _ h => (by cases h), fun g p v _ h => (by cases h), fun g p a _ h => (by cases h), fun g v hg hv h => Or.inl ?_⟩
  · have : sumN (fun g => if ent (vs (con0 G) g) (gt G a) (gh G a) then 0 else 0) (vk (con0 G)) = sumN (fun _ => 0) (vk (con0 G)) := sumN_congr _ (fun i _ => by
      by_cases e : ent (vs (con0 G) i) (gt G a) (gh G a)
      · rw [if_pos e]
      · rw [if_neg e])
    rw [this, sumN_zero, Nat.add_zero]
  · exact (hc.2.2.2.2.2.1 g v hg (by omega)).mp h
/-- the nodes of a group are under its top -/
theorem in_top (hc : cOK G al s) (hD : cD G s) : ∀ g v, g < vk s → v < gn G → bit (vs s g) v = 1 → vt s v = vt s g := by
  obtain ⟨D, r, d1, d2, d3, d4, d5, d6⟩ := hD
  intro g
  induction g using Nat.strongRecOn with
  | ind g ih =>
    intro v hg hv h
    rcases d6 g v hg hv h with e | ⟨q, q1, q2, q3⟩
    · rw [e]
    · obtain ⟨c1, c2, c3⟩ := hc.2.2.2.1 q g q1 q2
      rw [ih q c1 v q1 hv q3, c3]
theorem cD_pick (hG : okG G) (hc : cOK G al s) (hD : cD G s) (hal : ∀ a, a < gm G → al a = true) (hn : cnext G s = some g) (hs : csel G (coG G) al s g = some a) : cD G (cpick G (coG G) s g a) := by
  have htop := in_top hc hD
  obtain ⟨D, r, d1, d2, d3, d4, d5, d6⟩ := hD
  obtain ⟨n1, n2, n3, n4⟩ := next_ok hG hc hn
  obtain ⟨a1, a2, a3, a4, a5⟩ := csel_some hs
  have hgn := hG.1.2.1
  obtain ⟨c1, c2, c3, c4, c5, c6, c7, c8, c9, -⟩ := hc
  have hd0 : vd s g = 0 := (c9 g n1 n3).2
  have hra : r a ≤ 99 := by have := (d2 a a1).2; have := (hG.2.1 a a1).2.2.2; omega
  have hD0 : D g = 0 := by
    have h1 := (d1 g n1).1
    rw [hd0] at h1
    exact ((nI_eq (a := 0) (b := D g) (by omega) (by have := (d1 g n1).2; omega)).mp h1).symm
  have hrb : ∀ b, b < gm G → r b ≤ 99 := fun b hb => by have := (d2 b hb).2; have := (hG.2.1 b hb).2.2.2; omega
  have hmin : ∀ b, b < gm G → ent (vs s g) (gt G b) (gh G b) → r a ≤ r b := fun b hb he => by
    have h1 := a5 b hb (hal b hb) he
    rw [(d2 b hb).1, (d2 a a1).1] at h1
    have := hrb b hb
    rw [n_lt (by omega) (by omega)] at h1
    omega
  refine ⟨fun q => if q = g then r a else D q, fun b => if ent (vs s g) (gt G b) (gh G b) then r b - r a else r b, fun q hq => ?_, fun b hb => ?_, fun q b hq h => ?_, d4, fun q p b hq h1 h2 => ?_, d6⟩
  · show fset (vd s) g (cred G (coG G) s a) q = nI (if q = g then r a else D q) ∧ (if q = g then r a else D q) ≤ 99
    by_cases e : q = g
    · rw [if_pos e, e, fset_s]; exact ⟨(d2 a a1).1, hra⟩
    · rw [if_neg e, fset_n _ _ e]; exact d1 q hq
  · constructor
    · show cred G (coG G) (cpick G (coG G) s g a) b = nI (if ent (vs s g) (gt G b) (gh G b) then r b - r a else r b)
      rw [cred_pick n1 hd0]
      by_cases e : ent (vs s g) (gt G b) (gh G b)
      · rw [if_pos e, if_pos e, (d2 b hb).1, (d2 a a1).1]
        exact pk_sub (hmin b hb e)
      · rw [if_neg e, if_neg e]; exact (d2 b hb).1
    · have h2 := (d2 b hb).2
      show (if ent (vs s g) (gt G b) (gh G b) then r b - r a else r b) + sumN (fun q => if ent (vs s q) (gt G b) (gh G b) then (if q = g then r a else D q) else 0) (vk s) = gc G b
      have hsum : sumN (fun q => if ent (vs s q) (gt G b) (gh G b) then (if q = g then r a else D q) else 0) (vk s) = sumN (fun q => if ent (vs s q) (gt G b) (gh G b) then D q else 0) (vk s) + (if ent (vs s g) (gt G b) (gh G b) then r a else 0) := by
        have key : ∀ k, g < k → sumN (fun q => if ent (vs s q) (gt G b) (gh G b) then (if q = g then r a else D q) else 0) k = sumN (fun q => if ent (vs s q) (gt G b) (gh G b) then D q else 0) k + (if ent (vs s g) (gt G b) (gh G b) then r a else 0) := by
          intro k
          induction k with
          | zero => intro h; omega
          | succ k ih =>
            intro h
            unfold sumN
            by_cases e : k = g
            · subst e
              rw [sumN_congr (g := fun q => if ent (vs s q) (gt G b) (gh G b) then D q else 0) k (fun i hi => by rw [if_neg (show ¬ i = k by omega)]), if_pos rfl, hD0]
              by_cases e2 : ent (vs s k) (gt G b) (gh G b)
              · rw [if_pos e2, if_pos e2]; omega
              · rw [if_neg e2, if_neg e2]
            · rw [ih (by omega), if_neg e]; omega
        exact key _ n1
      rw [hsum]
      by_cases e : ent (vs s g) (gt G b) (gh G b)
      · rw [if_pos e, if_pos e]; have := hmin b hb e; omega
      · rw [if_neg e, if_neg e]; omega
  · have h : fset (vl s) g (some a) q = some b := h
    have hq : q < vk s := hq
    show (if ent (vs s g) (gt G b) (gh G b) then r b - r a else r b) = 0
    by_cases e : q = g
    · rw [e, fset_s] at h
      have hab : a = b := Option.some.inj h
      rw [← hab, if_pos ⟨a3, a4⟩]; omega
    · rw [fset_n _ _ e] at h
      obtain ⟨b1, b2, b3, b4⟩ := c8 q b hq h
      have hh := (hG.2.1 b b1).2.1
      have ht := (hG.2.1 b b1).1
      rw [if_neg (fun he => ?_)]
      · exact d3 q b hq h
      · have e1 : vt s (gh G b) = g := ((c5 g (gh G b) n1 n2 (by omega)).mp he.1).2
        cases hp : vp s q with
        | none =>
          have := ((c5 q (gh G b) hq hp (by omega)).mp b3).2
          exact e (this.symm.trans e1)
        | some p =>
          obtain ⟨p1, p2, p3⟩ := c4 q p hq hp
          have t1 := htop p (gh G b) p2 hh (d4 q p _ hq hp (by omega) b3)
          have t2 := htop p (gt G b) p2 ht (d5 q p b hq hp h)
          have : bit (vs s g) (gt G b) = 1 := (c5 g (gt G b) n1 n2 (by omega)).mpr ⟨ht, by rw [t2, ← t1]; exact e1⟩
          rw [he.2] at this
          exact absurd this (by decide)
  · have h2 : fset (vl s) g (some a) q = some b := h2
    have h1 : vp s q = some p := h1
    by_cases e : q = g
    · rw [e, n2] at h1; cases h1
    · rw [fset_n _ _ e] at h2; exact d5 q p b hq h1 h2
theorem cD_uni (hG : okG G) (hc : cOK G al s) (hD : cD G (cpick G (coG G) s g a)) (hn : cnext G s = some g) (hs : csel G (coG G) al s g = some a) (hne : cwk G (cpick G (coG G) s g a) g (ccy G (cpick G (coG G) s g a) g) = g) : cD G (cuni G (cpick G (coG G) s g a) g (ccy G (cpick G (coG G) s g a) g)) := by
  obtain ⟨⟨y1, y2⟩, y3, y4, y5, y6, y7⟩ := cyc hG hc hn hs
  obtain ⟨n1, n2, n3, n4⟩ := next_ok hG hc hn
  obtain ⟨a1, a2, a3, a4, a5⟩ := csel_some hs
  obtain ⟨D, r, d1, d2, d3, d4, d5, d6⟩ := hD
  obtain ⟨c1, c2, c3, c4, c5, c6, c7, c8, c9, c10, c11, c12⟩ := hc
  have hgn := hG.1.2.1
  have hsw : ∀ i, cnx G (cpick G (coG G) s g a) (cwk G (cpick G (coG G) s g a) g i) = cwk G (cpick G (coG G) s g a) g (i + 1) := fun i => rfl
  generalize hJ : ccy G (cpick G (coG G) s g a) g = J at *
  generalize hs1 : cpick G (coG G) s g a = s1 at *
  have k1 : vk s1 = vk s := by rw [← hs1]; rfl
  have vs1 : vs s1 = vs s := by rw [← hs1]; rfl
  have vp1 : vp s1 = vp s := by rw [← hs1]; rfl
  have vt1 : vt s1 = vt s := by rw [← hs1]; rfl
  have vl1 : ∀ q, vl s1 q = if q = g then some a else vl s q := fun q => by rw [← hs1]; rfl
  generalize hs2 : cuni G s1 g J = s2
  have k2 : vk s2 = vk s1 + 1 := by rw [← hs2]; rfl
  have vs2 : ∀ q, vs s2 q = if q = vk s1 then orN (fun i => vs s1 (cwk G s1 g i)) J else vs s1 q := fun q => by rw [← hs2]; rfl
  have vd2 : ∀ q, vd s2 q = if q = vk s1 then 0 else vd s1 q := fun q => by rw [← hs2]; rfl
  have vp2 : ∀ q, vp s2 q = if q = vk s1 then none else if inW (cwk G s1 g) q J = true then some (vk s1) else vp s1 q := fun q => by rw [← hs2]; rfl
  have vl2 : ∀ q, vl s2 q = if q = vk s1 then none else vl s1 q := fun q => by rw [← hs2]; rfl
  have wtop : ∀ q, inW (cwk G s1 g) q J = true → q < vk s1 ∧ vp s1 q = none := by
    intro q hq
    obtain ⟨i, hi, rfl⟩ := (inW_iff J).mp hq
    rw [k1, vp1]; exact y5 i
  have hlt : ∀ q p, q < vk s1 → vp s1 q = some p → p < vk s1 := fun q p hq h => by rw [k1] at hq ⊢; rw [vp1] at h; exact (c4 q p hq h).2.1
  refine ⟨fun q => if q = vk s1 then 0 else D q, r, fun q hq => ?_, fun b hb => ?_, fun q b hq h => ?_, fun q p v hq h hv hb => ?_, fun q p b hq h1 h2 => ?_, fun q v hq hv hb => ?_⟩
  · show vd s2 q = nI (if q = vk s1 then 0 else D q) ∧ (if q = vk s1 then 0 else D q) ≤ 99
    rw [vd2]
    by_cases e : q = vk s1
    · rw [if_pos e, if_pos e]; exact ⟨rfl, Nat.zero_le _⟩
    · rw [if_neg e, if_neg e]; exact d1 q (by omega)
  · constructor
    · have h1 := (d2 b hb).1
      have h2 := cred_uni (G := G) (pr := coG G) (s := s1) (g := g) (b := b) (j := J)
      rw [hs2] at h2
      rw [h2]; exact h1
    · have h2 := (d2 b hb).2
      rw [k2]
      show r b + (sumN (fun q => if ent (vs s2 q) (gt G b) (gh G b) then (if q = vk s1 then 0 else D q) else 0) (vk s1) + (if ent (vs s2 (vk s1)) (gt G b) (gh G b) then (if vk s1 = vk s1 then 0 else D (vk s1)) else 0)) = gc G b
      rw [sumN_congr (g := fun q => if ent (vs s1 q) (gt G b) (gh G b) then D q else 0) (vk s1) (fun i hi => by rw [vs2 i, if_neg (show ¬ i = vk s1 by omega), if_neg (show ¬ i = vk s1 by omega)]), if_pos (show vk s1 = vk s1 from rfl)]
      by_cases e : ent (vs s2 (vk s1)) (gt G b) (gh G b)
      · rw [if_pos e]; omega
      · rw [if_neg e]; omega
  · rw [vl2] at h
    by_cases e : q = vk s1
    · rw [if_pos e] at h; cases h
    · rw [if_neg e] at h; exact d3 q b (by omega) h
  · rw [vp2] at h
    by_cases e : q = vk s1
    · rw [if_pos e] at h; cases h
    · rw [if_neg e] at h
      rw [vs2, if_neg e] at hb
      by_cases e2 : inW (cwk G s1 g) q J = true
      · rw [if_pos e2] at h
        have hp : p = vk s1 := (Option.some.inj h).symm
        rw [hp, vs2, if_pos rfl, bit_orN hv]
        obtain ⟨i, hi, hq2⟩ := (inW_iff J).mp e2
        exact ⟨i, hi, by show bit (vs s1 (cwk G s1 g i)) v = 1; rw [hq2]; exact hb⟩
      · rw [if_neg e2] at h
        have := hlt q p (by omega) h
        rw [vs2, if_neg (by omega)]
        exact d4 q p v (by omega) h hv hb
  · rw [vp2] at h1
    rw [vl2] at h2
    by_cases e : q = vk s1
    · rw [if_pos e] at h1; cases h1
    · rw [if_neg e] at h1 h2
      by_cases e2 : inW (cwk G s1 g) q J = true
      · rw [if_pos e2] at h1
        have hp : p = vk s1 := (Option.some.inj h1).symm
        have hbm : b < gm G := by
          rw [vl1] at h2
          by_cases eg : q = g
          · rw [if_pos eg] at h2; have : a = b := Option.some.inj h2; omega
          · rw [if_neg eg] at h2; exact (c8 q b (by omega) h2).1
        have ht := (hG.2.1 b hbm).1
        rw [hp, vs2, if_pos rfl, bit_orN (by omega)]
        obtain ⟨i, hi, hq2⟩ := (inW_iff J).mp e2
        -- the next group of the cycle has the tail
        have hnx : cwk G s1 g (i + 1) = vt s (gt G b) := by
          rw [← hsw i, hq2, cnx_s h2, vt1]
        have hin : ∀ q', q' = vt s (gt G b) → bit (vs s1 q') (gt G b) = 1 := fun q' hq' => by
          rw [vs1, hq']
          have t := c2 (gt G b) (by omega)
          exact (c5 _ _ t.1 t.2 (by omega)).mpr ⟨ht, rfl⟩
        by_cases ei : i + 1 = J
        · refine ⟨0, by omega, hin _ ?_⟩
          show g = _
          rw [← hne, ← ei]; exact hnx
        · exact ⟨i + 1, by omega, hin _ hnx⟩
      · rw [if_neg e2] at h1
        have := hlt q p (by omega) h1
        rw [vs2, if_neg (by omega)]
        exact d5 q p b (by omega) h1 h2
  · rw [vs2] at hb
    by_cases e : q = vk s1
    · rw [if_pos e, bit_orN (by omega)] at hb
      obtain ⟨i, hi, hb⟩ := hb
      have hw := y5 i
      refine Or.inr ⟨cwk G s1 g i, by rw [k2, k1]; omega, ?_, ?_⟩
      · rw [vp2, if_neg (by rw [k1]; omega), if_pos ((inW_iff J).mpr ⟨i, hi, rfl⟩), e]
      · rw [vs2, if_neg (by rw [k1]; omega)]; exact hb
    · rw [if_neg e] at hb
      rcases d6 q v (by omega) hv hb with h | ⟨q', h1, h2, h3⟩
      · exact Or.inl h
      · refine Or.inr ⟨q', by omega, ?_, ?_⟩
        · rw [vp2, if_neg (by omega), if_neg (fun z => by rw [(wtop q' z).2] at h2; cases h2)]; exact h2
        · rw [vs2, if_neg (by omega)]; exact h3
theorem cD_clo (hG : okG G) (hc : cOK G al s) (hD : cD G s) (hal : ∀ a, a < gm G → al a = true) (hn : cnext G s = some g) (hs : csel G (coG G) al s g = some a) : cD G (cclo G (cpick G (coG G) s g a) g) := by
  have h := cD_pick hG hc hD hal hn hs
  unfold cclo
  by_cases e : cwk G (cpick G (coG G) s g a) g (ccy G (cpick G (coG G) s g a) g) = g
  · rw [if_pos e]; exact cD_uni hG hc h hn hs e
  · rw [if_neg e]; exact h
theorem conF_D (hG : okG G) (hal : ∀ a, a < gm G → al a = true) : ∀ (n : Nat) (s s' : Cs), cOK G al s → cD G s → conF G (coG G) al n s = some s' → cD G s' := by
  intro n
  induction n with
  | zero => intro s s' _ _ h; cases h
  | succ n ih =>
    intro s s' hc hD h
    unfold conF at h
    cases hn : cnext G s with
    | none =>
      rw [hn] at h
      have : s = s' := Option.some.inj h
      rw [← this]; exact hD
    | some g =>
      rw [hn] at h
      cases hs : csel G (coG G) al s g with
      | none => simp only [hs] at h; cases h
      | some a =>
        simp only [hs] at h
        exact ih _ _ (clo_ok hG hc hn hs) (cD_clo hG hc hD hal hn hs) h
/-- the root is in its own group alone -/
theorem root_in (hG : okG G) (hc : cOK G al s) (hD : cD G s) : ∀ g, g < vk s → bit (vs s g) (gr G) = 1 → g = gr G := by
  obtain ⟨D, r, d1, d2, d3, d4, d5, d6⟩ := hD
  have hgr := hG.1.2.2.1
  have hpr : vp s (gr G) = none := by
    have := (hc.2.1 (gr G) (by have := hc.1; omega)).2
    rw [hc.2.2.2.2.2.2.1.1] at this; exact this
  intro g
  induction g using Nat.strongRecOn with
  | ind g ih =>
    intro hg h
    rcases d6 g (gr G) hg hgr h with e | ⟨q, q1, q2, q3⟩
    · exact e.symm
    · have := ih q (hc.2.2.2.1 q g q1 q2).1 q1 q3
      rw [this, hpr] at q2; cases q2
/-- an arborescence enters every group of nodes without the root -/
theorem ar_enter (hG : okG G) (hf : isAr G f) {S : Int32} (hr : ¬ bit S (gr G) = 1) : ∀ (k v : Nat), v < gn G → bit S v = 1 → upN G f k v = gr G → ∃ u, u < gn G ∧ u ≠ gr G ∧ ent S (gt G (f u)) (gh G (f u)) := by
  intro k
  induction k with
  | zero => intro v _ hb h; have h : v = gr G := h; rw [h] at hb; exact absurd hb hr
  | succ k ih =>
    intro v hv hb h
    unfold upN at h
    by_cases e : v = gr G
    · rw [e] at hb; exact absurd hb hr
    · rw [if_neg e] at h
      have hc := hf.1 v hv e
      by_cases e2 : bit S (gt G (f v)) = 1
      · exact ih _ (hG.2.1 _ hc.1).1 e2 h
      · exact ⟨v, hv, e, by rw [hc.2]; exact hb, bit_0.mpr e2⟩
theorem nx_no (hG : okG G) (hc : cOK G al s) (hD : cD G s) (hal : ∀ a, a < gm G → al a = true) (hn : cnext G s = some g) (hs : csel G (coG G) al s g = none) : ¬ isAr G f := by
  intro hf
  obtain ⟨n1, n2, n3, n4⟩ := next_ok hG hc hn
  have hgn := hG.1.2.1
  have hri := root_in hG hc hD g n1
  obtain ⟨v, hv, hvt⟩ := hc.2.2.2.2.2.2.2.2.2.1 g n1 n2
  have hb : bit (vs s g) v = 1 := (hc.2.2.2.2.1 g v n1 n2 (by omega)).mpr ⟨hv, hvt⟩
  obtain ⟨u, u1, u2, u3⟩ := ar_enter hG hf (fun q => n4 (hri q)) (gn G) v hv hb (hf.2 v hv)
  exact csel_none hs (f u) (hf.1 u u1 u2).1 (hal _ (hf.1 u u1 u2).1) u3
/-- where the contraction fails there is no arborescence -/
theorem conF_no (hG : okG G) (hal : ∀ a, a < gm G → al a = true) : ∀ (n : Nat) (s : Cs), cntS s + n = 15 → cOK G al s → cD G s → conF G (coG G) al n s = none → ¬ isAr G f := by
  intro n
  induction n with
  | zero =>
    intro s hcn hc hD _
    exfalso
    have h1 := ck_le hG hc
    have hgn := hG.1.2.1
    have hgr := hG.1.2.2.1
    have h2 := sumN_1 (f := fun q => if vl s q = none then 0 else 1) (g := fun _ => 1) (a := gr G) (vk s) (fun i hi => by show (if vl s i = none then 0 else 1) ≤ 1; split <;> omega) (by have := hc.1; omega) (by show (if vl s (gr G) = none then 0 else 1) + 1 ≤ 1; rw [if_pos hc.2.2.2.2.2.2.1.2]; exact Nat.le_refl _)
    rw [sumN_k] at h2
    have h3 : cntS s + 1 ≤ 1 * vk s := h2
    omega
  | succ n ih =>
    intro s hcn hc hD h
    unfold conF at h
    cases hn : cnext G s with
    | none => rw [hn] at h; cases h
    | some g =>
      rw [hn] at h
      cases hs : csel G (coG G) al s g with
      | none => exact nx_no hG hc hD hal hn hs
      | some a =>
        simp only [hs] at h
        obtain ⟨n1, n2, n3, n4⟩ := next_ok hG hc hn
        exact ih _ (by rw [cnt_clo n1 n3]; omega) (clo_ok hG hc hn hs) (cD_clo hG hc hD hal hn hs) h
/-- the arc read off for a group is the selected one of some group -/
theorem ctr_sel (hc : cOK G al s) : ∀ (m g : Nat), g + m = vk s → g < vk s → ∀ a, ctr G s g = some a → ∃ q, q < vk s ∧ vl s q = some a := by
  intro m
  induction m using Nat.strongRecOn with
  | ind m ih =>
    intro g hm hg a h
    rw [ctr_eq hc hg] at h
    unfold roE at h
    cases hp : vp s g with
    | none => rw [hp] at h; exact ⟨g, hg, h⟩
    | some p =>
      rw [hp] at h
      obtain ⟨p1, p2, -⟩ := hc.2.2.2.1 g p hg hp
      cases hq : ctr G s p with
      | none => simp only [hq] at h; exact ⟨g, hg, h⟩
      | some b =>
        simp only [hq] at h
        by_cases e : bit (vs s g) (gh G b) = 1
        · rw [if_pos e] at h
          have hab : b = a := Option.some.inj h
          exact ih (vk s - p) (by omega) p (by omega) p2 a (by rw [← hab]; exact hq)
        · rw [if_neg e] at h; exact ⟨g, hg, h⟩
/-- within a group the tree's arcs stay in it, but for the one read off for it -/
theorem tree_in (hc : cOK G al s) (hD : cD G s) (hm : ∀ a, a < gm G → gt G a < 32) (hs : ∀ q b, q < vk s → vl s q = some b → b < gm G) : ∀ g v, g < vk s → v < gn G → bit (vs s g) v = 1 → ∀ a, ctr G s v = some a → ctr G s g = some a ∨ bit (vs s g) (gt G a) = 1 := by
  obtain ⟨D, r, d1, d2, d3, d4, d5, d6⟩ := hD
  intro g
  induction g using Nat.strongRecOn with
  | ind g ih =>
    intro v hg hv hb a ha
    rcases d6 g v hg hv hb with e | ⟨q, q1, q2, q3⟩
    · left; rw [← e]; exact ha
    · obtain ⟨c1, c2, -⟩ := hc.2.2.2.1 q g q1 q2
      rcases ih q c1 v q1 hv q3 a ha with h | h
      · have ha2 := h
        rw [ctr_eq hc q1] at h
        unfold roE at h
        rw [q2] at h
        have sel : vl s q = some a → ctr G s g = some a ∨ bit (vs s g) (gt G a) = 1 := fun z => Or.inr (d5 q g a q1 q2 z)
        cases hp : ctr G s g with
        | none => simp only [hp] at h; rw [hp] at sel; exact sel h
        | some b =>
          simp only [hp] at h
          rw [hp] at sel
          by_cases e : bit (vs s q) (gh G b) = 1
          · rw [if_pos e] at h; exact Or.inl h
          · rw [if_neg e] at h; exact sel h
      · obtain ⟨q', hq', hl'⟩ := ctr_sel hc (vk s - v) v (by have := hc.1; omega) (by have := hc.1; omega) a ha
        exact Or.inr (d4 q g _ q1 q2 (hm a (hs q' a hq' hl')) h)
end DU
/-! weak duality -/
section WD
variable {G : Gr} {s : Cs} {f t : Nat → Nat}
theorem sumN_mulr (c : Nat) (g : Nat → Nat) : ∀ n, sumN (fun v => g v * c) n = sumN g n * c := by
  intro n
  induction n with
  | zero => exact (Nat.zero_mul c).symm
  | succ n ih => unfold sumN; rw [ih, Nat.add_mul]
theorem sumN_pos {g : Nat → Nat} {u : Nat} : ∀ n, u < n → g u ≤ sumN g n := by
  intro n
  induction n with
  | zero => intro h; omega
  | succ n ih =>
    intro h
    unfold sumN
    by_cases e : u = n
    · subst e; omega
    · have := ih (by omega); omega
/-- at most one place counts -/
theorem sumN_le1 {P : Nat → Prop} [DecidablePred P] : ∀ n, (∀ u v, u < n → v < n → P u → P v → u = v) → sumN (fun v => if P v then 1 else 0) n ≤ 1 := by
  intro n
  induction n with
  | zero => intro _; exact Nat.zero_le 1
  | succ n ih =>
    intro h
    unfold sumN
    by_cases e : P n
    · rw [if_pos e, sumN_congr (g := fun _ => 0) n (fun i hi => if_neg (fun q => by have := h i n (by omega) (by omega) q e; omega)), sumN_zero]
      exact Nat.le_refl _
    · rw [if_neg e]
      have := ih (fun u v hu hv => h u v (by omega) (by omega))
      omega
/-- how often a choice enters a group -/
def entN (G : Gr) (f : Nat → Nat) (S : Int32) : Nat := sumN (fun v => if v ≠ gr G ∧ ent S (gt G (f v)) (gh G (f v)) then 1 else 0) (gn G)
/-- the reduced costs of the first choices -/
def redS (G : Gr) (r : Nat → Nat) (f : Nat → Nat) (k : Nat) : Nat := sumN (fun v => if v = gr G then 0 else r (f v)) k
theorem cos_split {D r : Nat → Nat} {K : Nat} {set : Nat → Int32} (hr : ∀ a, a < gm G → r a + sumN (fun g => if ent (set g) (gt G a) (gh G a) then D g else 0) K = gc G a) (hc : isCh G f) : cosA G f = redS G r f (gn G) + sumN (fun g => entN G f (set g) * D g) K := by
  have key : ∀ n, n ≤ gn G → sumN (fun v => if v = gr G then 0 else gc G (f v)) n = sumN (fun v => if v = gr G then 0 else r (f v)) n + sumN (fun g => sumN (fun v => if v ≠ gr G ∧ ent (set g) (gt G (f v)) (gh G (f v)) then 1 else 0) n * D g) K := by
    intro n
    induction n with
    | zero =>
      intro _
      show 0 = 0 + sumN (fun g => 0 * D g) K
      rw [sumN_congr (g := fun _ => 0) K (fun i _ => Nat.zero_mul _), sumN_zero]
    | succ n ih =>
      intro hn
      have ih := ih (by omega)
      show sumN (fun v => if v = gr G then 0 else gc G (f v)) n + (if n = gr G then 0 else gc G (f n)) = (sumN (fun v => if v = gr G then 0 else r (f v)) n + (if n = gr G then 0 else r (f n))) + sumN (fun g => (sumN (fun v => if v ≠ gr G ∧ ent (set g) (gt G (f v)) (gh G (f v)) then 1 else 0) n + (if n ≠ gr G ∧ ent (set g) (gt G (f n)) (gh G (f n)) then 1 else 0)) * D g) K
      have e1 : sumN (fun g => (sumN (fun v => if v ≠ gr G ∧ ent (set g) (gt G (f v)) (gh G (f v)) then 1 else 0) n + (if n ≠ gr G ∧ ent (set g) (gt G (f n)) (gh G (f n)) then 1 else 0)) * D g) K = sumN (fun g => sumN (fun v => if v ≠ gr G ∧ ent (set g) (gt G (f v)) (gh G (f v)) then 1 else 0) n * D g) K + sumN (fun g => (if n ≠ gr G ∧ ent (set g) (gt G (f n)) (gh G (f n)) then 1 else 0) * D g) K := by
        rw [← sumN_add]
        exact sumN_congr _ (fun i _ => Nat.add_mul _ _ _)
      rw [e1, ih]
      by_cases e : n = gr G
      · rw [if_pos e, if_pos e, sumN_congr (f := fun g => (if n ≠ gr G ∧ ent (set g) (gt G (f n)) (gh G (f n)) then 1 else 0) * D g) (g := fun _ => 0) K (fun i _ => by rw [if_neg (fun q => q.1 e), Nat.zero_mul]), sumN_zero]
        omega
      · have h := hr (f n) (hc n (by omega) e).1
        rw [if_neg e, if_neg e, sumN_congr (f := fun g => (if n ≠ gr G ∧ ent (set g) (gt G (f n)) (gh G (f n)) then 1 else 0) * D g) (g := fun g => if ent (set g) (gt G (f n)) (gh G (f n)) then D g else 0) K (fun i _ => by
          by_cases e2 : ent (set i) (gt G (f n)) (gh G (f n))
          · rw [if_pos ⟨e, e2⟩, if_pos e2, Nat.one_mul]
          · rw [if_neg (fun q => e2 q.2), if_neg e2, Nat.zero_mul])]
        omega
  exact key (gn G) (Nat.le_refl _)
/-- the contraction's tree, and what it bounds -/
theorem wd_all (hG : okG G) (hs : conF G (coG G) alT 15 (con0 G) = some s) : ∃ r : Nat → Nat, (∀ a, a < gm G → cred G (coG G) s a = nI (r a) ∧ r a ≤ 99) ∧ ∀ f, isAr G f → ∀ k, k ≤ gn G → cosA G (rt (recOf G s)) + redS G r f k ≤ cosA G f := by
  have hgn := hG.1.2.1
  have hm32 := hG.1.2.2.2
  have hal : ∀ a, a < gm G → alT a = true := fun a ha => b_m1 a (by omega)
  obtain ⟨hc, hn⟩ := conF_ok hG 15 _ _ (cOK_0 hG) hs
  have hD := conF_D hG hal 15 _ _ (cOK_0 hG) (cD_0 hG) hs
  have hri := root_in hG hc hD
  have hti := tree_in hc hD (fun a ha => by have := (hG.2.1 a ha).1; omega) (fun q b hq h => (hc.2.2.2.2.2.2.2.1 q b hq h).1)
  have hct := fun v (hv : v < gn G) (hr : v ≠ gr G) => ctr_node hG hc hn hv hr
  have hR := recOf_ok hG hc hn
  have hch : isCh G (rt (recOf G s)) := fun v hv hr => hR.2.2 v hv hr
  have hrt : ∀ v, v < gn G → v ≠ gr G → ctr G s v = some (rt (recOf G s) v) := fun v hv hr => by
    obtain ⟨a, h1, -⟩ := hct v hv hr
    show _ = some ((ctr G s v).getD 0)
    rw [h1]; rfl
  obtain ⟨D, r, d1, d2, d3, d4, d5, d6⟩ := hD
  refine ⟨r, fun a ha => ⟨(d2 a ha).1, by have := (d2 a ha).2; have := (hG.2.1 a ha).2.2.2; omega⟩, fun f hf k hk => ?_⟩
  -- the tree
  have h0 : redS G r (rt (recOf G s)) (gn G) = 0 := by
    unfold redS
    rw [sumN_congr (g := fun _ => 0) (gn G) (fun v hv => by
      by_cases e : v = gr G
      · rw [if_pos e]
      · rw [if_neg e]
        obtain ⟨q, hq, hl⟩ := ctr_sel hc (vk s - v) v (by have := hc.1; omega) (by have := hc.1; omega) _ (hrt v hv e)
        exact d3 q _ hq hl), sumN_zero]
  have ht1 : ∀ g, g < vk s → entN G (rt (recOf G s)) (vs s g) ≤ 1 := fun g hg => by
    refine sumN_le1 (gn G) (fun u v hu hv h1 h2 => ?_)
    have key : ∀ u, u < gn G → (u ≠ gr G ∧ ent (vs s g) (gt G (rt (recOf G s) u)) (gh G (rt (recOf G s) u))) → ctr G s g = some (rt (recOf G s) u) := fun u hu h => by
      have hb : bit (vs s g) u = 1 := by have := h.2.1; rwa [(hch u hu h.1).2] at this
      rcases hti g u hg hu hb _ (hrt u hu h.1) with q | q
      · exact q
      · rw [h.2.2] at q; exact absurd q (by decide)
    have e : rt (recOf G s) u = rt (recOf G s) v := Option.some.inj ((key u hu h1).symm.trans (key v hv h2))
    have e1 := (hch u hu h1.1).2
    rw [e, (hch v hv h2.1).2] at e1
    exact e1.symm
  have e1 := cos_split (f := rt (recOf G s)) (fun a ha => (d2 a ha).2) hch
  have e2 := cos_split (f := f) (fun a ha => (d2 a ha).2) hf.1
  have le1 : sumN (fun g => entN G (rt (recOf G s)) (vs s g) * D g) (vk s) ≤ sumN (fun g => entN G f (vs s g) * D g) (vk s) := by
    refine sumN_le (vk s) (fun g hg => ?_)
    show entN G (rt (recOf G s)) (vs s g) * D g ≤ entN G f (vs s g) * D g
    by_cases e : D g = 0
    · rw [e, Nat.mul_zero, Nat.mul_zero]; exact Nat.le_refl 0
    · -- the group has a selected arc, so it has a node, and the root is not in it
      have hl : vl s g ≠ none := fun z => by
        have h1 := (hc.2.2.2.2.2.2.2.2.1 g hg z).2
        rw [(d1 g hg).1] at h1
        exact e ((nI_eq (b := 0) (by have := (d1 g hg).2; omega) (by omega)).mp h1)
      have hgr : g ≠ gr G := fun z => hl (by rw [z]; exact hc.2.2.2.2.2.2.1.2)
      cases hla : vl s g with
      | none => exact absurd hla hl
      | some a =>
        obtain ⟨a1, a2, a3, a4⟩ := hc.2.2.2.2.2.2.2.1 g a hg hla
        have hh := (hG.2.1 a a1).2.1
        obtain ⟨u, u1, u2, u3⟩ := ar_enter hG hf (fun q => hgr (hri g hg q)) (gn G) (gh G a) hh a3 (hf.2 _ hh)
        have h2 : 1 ≤ entN G f (vs s g) := by
          have := sumN_pos (g := fun v => if v ≠ gr G ∧ ent (vs s g) (gt G (f v)) (gh G (f v)) then 1 else 0) (u := u) (gn G) u1
          rw [if_pos ⟨u2, u3⟩] at this
          exact this
        exact Nat.mul_le_mul_right _ (Nat.le_trans (ht1 g hg) h2)
  have le2 : redS G r f k ≤ redS G r f (gn G) := by
    have := sumN_mono (g := fun v => if v = gr G then 0 else r (f v)) k (gn G - k)
    rw [show k + (gn G - k) = gn G by omega] at this
    exact this
  omega
theorem tc_cos (hG : okG G) : tcost G (coG G) t = nI (cosA G t) := by
  have key : ∀ n, sI (fun v => if v = gr G then 0 else coG G (t v)) n = nI (sumN (fun v => if v = gr G then 0 else gc G (t v)) n) := by
    intro n
    induction n with
    | zero => rfl
    | succ n ih =>
      rw [sI_s, ih]
      show nI _ + (if n = gr G then 0 else coG G (t n)) = nI (sumN (fun v => if v = gr G then 0 else gc G (t v)) n + (if n = gr G then 0 else gc G (t n)))
      rw [← nI_add]
      by_cases e : n = gr G
      · rw [if_pos e, if_pos e]; rfl
      · rw [if_neg e, if_neg e]; rfl
  exact key (gn G)
end WD
