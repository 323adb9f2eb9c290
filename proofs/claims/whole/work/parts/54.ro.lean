/-! indexes within, cell by cell; encodings -/
section IX
variable {L : Nat}
theorem ix4 (g : Nat) (h : g < 32) : am_ix (cS L) 4 20 (nI g) := ix_nI (k_4 L) (n_4 L) h (by omega)
theorem iw4 (g : Nat) (h : g < 32) : am_ixw (cS L) 4 20 (nI g) := ixw_nI (k_4 L) (by omega) (n_4 L) h (by omega)
theorem ix5 (g : Nat) (h : g < 32) : am_ix (cS L) 5 20 (nI g) := ix_nI (k_5 L) (n_5 L) h (by omega)
theorem iw5 (g : Nat) (h : g < 32) : am_ixw (cS L) 5 20 (nI g) := ixw_nI (k_5 L) (by omega) (n_5 L) h (by omega)
theorem ix6 (g : Nat) (h : g < 32) : am_ix (cS L) 6 20 (nI g) := ix_nI (k_6 L) (n_6 L) h (by omega)
theorem iw6 (g : Nat) (h : g < 32) : am_ixw (cS L) 6 20 (nI g) := ixw_nI (k_6 L) (by omega) (n_6 L) h (by omega)
theorem ix7 (g : Nat) (h : g < 8) : am_ix (cS L) 7 20 (nI g) := ix_nI (k_7 L) (n_7 L) h (by omega)
theorem iw7 (g : Nat) (h : g < 8) : am_ixw (cS L) 7 20 (nI g) := ixw_nI (k_7 L) (by omega) (n_7 L) h (by omega)
theorem ix9 (g : Nat) (h : g < 15) : am_ix (cS L) 9 20 (nI g) := ix_nI (k_9 L) (n_9 L) h (by omega)
theorem iw9 (g : Nat) (h : g < 15) : am_ixw (cS L) 9 20 (nI g) := ixw_nI (k_9 L) (by omega) (n_9 L) h (by omega)
theorem ix10 (g : Nat) (h : g < 15) : am_ix (cS L) 10 20 (nI g) := ix_nI (k_10 L) (n_10 L) h (by omega)
theorem iw10 (g : Nat) (h : g < 15) : am_ixw (cS L) 10 20 (nI g) := ixw_nI (k_10 L) (by omega) (n_10 L) h (by omega)
theorem ix11 (g : Nat) (h : g < 15) : am_ix (cS L) 11 20 (nI g) := ix_nI (k_11 L) (n_11 L) h (by omega)
theorem iw11 (g : Nat) (h : g < 15) : am_ixw (cS L) 11 20 (nI g) := ixw_nI (k_11 L) (by omega) (n_11 L) h (by omega)
theorem ix12 (g : Nat) (h : g < 8) : am_ix (cS L) 12 20 (nI g) := ix_nI (k_12 L) (n_12 L) h (by omega)
theorem iw12 (g : Nat) (h : g < 8) : am_ixw (cS L) 12 20 (nI g) := ixw_nI (k_12 L) (by omega) (n_12 L) h (by omega)
theorem ix25 (g : Nat) (h : g < 15) : am_ix (cS L) 25 20 (nI g) := ix_nI (k_25 L) (n_25 L) h (by omega)
theorem iw25 (g : Nat) (h : g < 15) : am_ixw (cS L) 25 20 (nI g) := ixw_nI (k_25 L) (by omega) (n_25 L) h (by omega)
theorem ix26 (g : Nat) (h : g < 15) : am_ix (cS L) 26 20 (nI g) := ix_nI (k_26 L) (n_26 L) h (by omega)
theorem iw26 (g : Nat) (h : g < 15) : am_ixw (cS L) 26 20 (nI g) := ixw_nI (k_26 L) (by omega) (n_26 L) h (by omega)
theorem ix27 (g : Nat) (h : g < 15) : am_ix (cS L) 27 20 (nI g) := ix_nI (k_27 L) (n_27 L) h (by omega)
theorem iw27 (g : Nat) (h : g < 15) : am_ixw (cS L) 27 20 (nI g) := ixw_nI (k_27 L) (by omega) (n_27 L) h (by omega)
theorem ix28 (g : Nat) (h : g < 8) : am_ix (cS L) 28 20 (nI g) := ix_nI (k_28 L) (n_28 L) h (by omega)
theorem iw28 (g : Nat) (h : g < 8) : am_ixw (cS L) 28 20 (nI g) := ixw_nI (k_28 L) (by omega) (n_28 L) h (by omega)
theorem ix29 (g : Nat) (h : g < 32) : am_ix (cS L) 29 20 (nI g) := ix_nI (k_29 L) (n_29 L) h (by omega)
theorem iw29 (g : Nat) (h : g < 32) : am_ixw (cS L) 29 20 (nI g) := ixw_nI (k_29 L) (by omega) (n_29 L) h (by omega)
theorem ix30 (g : Nat) (h : g < 15) : am_ix (cS L) 30 20 (nI g) := ix_nI (k_30 L) (n_30 L) h (by omega)
theorem iw30 (g : Nat) (h : g < 15) : am_ixw (cS L) 30 20 (nI g) := ixw_nI (k_30 L) (by omega) (n_30 L) h (by omega)
theorem ix31 (g : Nat) (h : g < 8) : am_ix (cS L) 31 20 (nI g) := ix_nI (k_31 L) (n_31 L) h (by omega)
theorem iw31 (g : Nat) (h : g < 8) : am_ixw (cS L) 31 20 (nI g) := ixw_nI (k_31 L) (by omega) (n_31 L) h (by omega)
theorem ix32 (g : Nat) (h : g < 15) : am_ix (cS L) 32 20 (nI g) := ix_nI (k_32 L) (n_32 L) h (by omega)
theorem iw32 (g : Nat) (h : g < 15) : am_ixw (cS L) 32 20 (nI g) := ixw_nI (k_32 L) (by omega) (n_32 L) h (by omega)
theorem ix34 (g : Nat) (h : g < 8) : am_ix (cS L) 34 20 (nI g) := ix_nI (k_34 L) (n_34 L) h (by omega)
theorem iw34 (g : Nat) (h : g < 8) : am_ixw (cS L) 34 20 (nI g) := ixw_nI (k_34 L) (by omega) (n_34 L) h (by omega)
theorem ix35 (g : Nat) (h : g < 8) : am_ix (cS L) 35 20 (nI g) := ix_nI (k_35 L) (n_35 L) h (by omega)
theorem iw35 (g : Nat) (h : g < 8) : am_ixw (cS L) 35 20 (nI g) := ixw_nI (k_35 L) (by omega) (n_35 L) h (by omega)
theorem ix36 (g : Nat) (h : g < 8) : am_ix (cS L) 36 20 (nI g) := ix_nI (k_36 L) (n_36 L) h (by omega)
theorem iw36 (g : Nat) (h : g < 8) : am_ixw (cS L) 36 20 (nI g) := ixw_nI (k_36 L) (by omega) (n_36 L) h (by omega)
theorem ix37 (g : Nat) (h : g < 32) : am_ix (cS L) 37 20 (nI g) := ix_nI (k_37 L) (n_37 L) h (by omega)
theorem iw37 (g : Nat) (h : g < 32) : am_ixw (cS L) 37 20 (nI g) := ixw_nI (k_37 L) (by omega) (n_37 L) h (by omega)
theorem ix39 (g : Nat) (h : g < 8) : am_ix (cS L) 39 20 (nI g) := ix_nI (k_39 L) (n_39 L) h (by omega)
theorem iw39 (g : Nat) (h : g < 8) : am_ixw (cS L) 39 20 (nI g) := ixw_nI (k_39 L) (by omega) (n_39 L) h (by omega)
theorem ix40 (g : Nat) (h : g < 32) : am_ix (cS L) 40 20 (nI g) := ix_nI (k_40 L) (n_40 L) h (by omega)
theorem iw40 (g : Nat) (h : g < 32) : am_ixw (cS L) 40 20 (nI g) := ixw_nI (k_40 L) (by omega) (n_40 L) h (by omega)
theorem ix167 (g : Nat) (h : g < 32) : am_ix (cS L) 167 20 (nI g) := ix_nI (k_167 L) (n_167 L) h (by omega)
theorem iw167 (g : Nat) (h : g < 32) : am_ixw (cS L) 167 20 (nI g) := ixw_nI (k_167 L) (by omega) (n_167 L) h (by omega)
theorem ix169 (g : Nat) (h : g < 16) : am_ix (cS L) 169 20 (nI g) := ix_nI (k_169 L) (n_169 L) h (by omega)
theorem iw169 (g : Nat) (h : g < 16) : am_ixw (cS L) 169 20 (nI g) := ixw_nI (k_169 L) (by omega) (n_169 L) h (by omega)
theorem ix170 (g : Nat) (h : g < 16) : am_ix (cS L) 170 20 (nI g) := ix_nI (k_170 L) (n_170 L) h (by omega)
theorem iw170 (g : Nat) (h : g < 16) : am_ixw (cS L) 170 20 (nI g) := ixw_nI (k_170 L) (by omega) (n_170 L) h (by omega)
theorem ix171 (g : Nat) (h : g < 16) : am_ix (cS L) 171 20 (nI g) := ix_nI (k_171 L) (n_171 L) h (by omega)
theorem iw171 (g : Nat) (h : g < 16) : am_ixw (cS L) 171 20 (nI g) := ixw_nI (k_171 L) (by omega) (n_171 L) h (by omega)
theorem ix172 (g : Nat) (h : g < 16) : am_ix (cS L) 172 20 (nI g) := ix_nI (k_172 L) (n_172 L) h (by omega)
theorem iw172 (g : Nat) (h : g < 16) : am_ixw (cS L) 172 20 (nI g) := ixw_nI (k_172 L) (by omega) (n_172 L) h (by omega)
theorem ix173 (g : Nat) (h : g < 16) : am_ix (cS L) 173 20 (nI g) := ix_nI (k_173 L) (n_173 L) h (by omega)
theorem iw173 (g : Nat) (h : g < 16) : am_ixw (cS L) 173 20 (nI g) := ixw_nI (k_173 L) (by omega) (n_173 L) h (by omega)
theorem ix174 (g : Nat) (h : g < 8) : am_ix (cS L) 174 20 (nI g) := ix_nI (k_174 L) (n_174 L) h (by omega)
theorem iw174 (g : Nat) (h : g < 8) : am_ixw (cS L) 174 20 (nI g) := ixw_nI (k_174 L) (by omega) (n_174 L) h (by omega)
theorem ix175 (g : Nat) (h : g < 8) : am_ix (cS L) 175 20 (nI g) := ix_nI (k_175 L) (n_175 L) h (by omega)
theorem iw175 (g : Nat) (h : g < 8) : am_ixw (cS L) 175 20 (nI g) := ixw_nI (k_175 L) (by omega) (n_175 L) h (by omega)
theorem ix176 (g : Nat) (h : g < 8) : am_ix (cS L) 176 20 (nI g) := ix_nI (k_176 L) (n_176 L) h (by omega)
theorem iw176 (g : Nat) (h : g < 8) : am_ixw (cS L) 176 20 (nI g) := ixw_nI (k_176 L) (by omega) (n_176 L) h (by omega)
theorem ix168 (g : Nat) (h : g < 32) : am_ix (cS L) 168 21 (nI g) := ix_nI (k_168 L) (n_168 L) h (by omega)
theorem iw168 (g : Nat) (h : g < 32) : am_ixw (cS L) 168 21 (nI g) := ixw_nI (k_168 L) (by omega) (n_168 L) h (by omega)
end IX
theorem enc_m1 {o : Option Nat} (h : ∀ p, o = some p → p < 2 ^ 31) : (enc (-1) o = -1) = (o = none) := by
  cases o with
  | none => exact propext ⟨fun _ => rfl, fun _ => rfl⟩
  | some p => exact propext ⟨fun q => absurd q (of_eq_false (n_ne_m1 (h p rfl))), fun q => by cases q⟩
theorem enc_none {o : Option Nat} (h : ∀ p, o = some p → p < 2 ^ 31) : (enc (-107) o = -107) = (o = none) := by
  cases o with
  | none => exact propext ⟨fun _ => rfl, fun _ => rfl⟩
  | some p => exact propext ⟨fun q => absurd q (of_eq_false (n_ne_none (h p rfl))), fun q => by cases q⟩
theorem ush_bt {x : Int32} {a : Nat} (ha : a < 32) : am_ush x (nI a) &&& 1 = 0 ↔ bt x a = false := by
  have key : bt (am_ush x (nI a) &&& 1) 0 = bt x a := by
    unfold am_ush
    rw [b_and, b_ushr a ha, bt_1 0 (by omega)]
    simp
  constructor
  · intro h
    rw [← key, h, b_0]
  · intro h
    refine b_ext (fun i hi => ?_)
    rw [b_0]
    by_cases e : i = 0
    · subst e; rw [key, h]
    · rw [b_and, bt_1 i hi, decide_eq_false e, Bool.and_false]
section AW
variable {d : Nat} {I : am_I} {J : am_J} {Q : am_Q}
theorem c_allow {x : Int32} {a : Nat} (ha : a < 32) (S : am_S) : am_C (d + 1) 110 [.int x, .int (nI a)] S I J Q = Q (some (.int (b32 (bt x a = true)))) S I J := by
  rw [e110]
  simp only [r110_0, r110_1, r110_2, r110_3, r110_4, r110_5, r110_8, r110_9, r110_12, r110_13, true_and, and_true, true_or, or_true, if_true, if_false, ne_eq, not_false_eq_true, and_self, t10, am_psh, am_clr, not_true_eq_false, Nat.reduceEqDiff]
  by_cases h : bt x a = true
  · rw [if_neg (fun q => by rw [(ush_bt ha).mp q] at h; cases h), b32_T h]
  · rw [if_pos ((ush_bt ha).mpr (Bool.eq_false_iff.mpr h)), b32_F h]
end AW
/-! reading off -/
def roE (G : Gr) (s : Cs) (E : Nat → Option Nat) (g : Nat) : Option Nat := match vp s g with
  | none => vl s g
  | some p => match E p with
    | none => vl s g
    | some a => if bit (vs s g) (gh G a) = 1 then some a else vl s g
def roF (G : Gr) (s : Cs) : Nat → Nat → Option Nat
  | 0 => fun _ => none
  | i + 1 => fset (roF G s i) (vk s - 1 - i) (roE G s (roF G s i) (vk s - 1 - i))
def ctr (G : Gr) (s : Cs) : Nat → Option Nat := roF G s (vk s)
section RO
variable {G : Gr} {al : Nat → Bool} {pr : Nat → Int32} {s : Cs} {g a : Nat}
theorem roF_st (hg : g < vk s) : ∀ n i, i + n = vk s → vk s - 1 - g < i → roF G s i g = ctr G s g := by
  intro n
  induction n with
  | zero => intro i hi _; rw [show i = vk s by omega]; rfl
  | succ n ih =>
    intro i hi h
    rw [← ih (i + 1) (by omega) (by omega)]
    show _ = fset (roF G s i) (vk s - 1 - i) _ g
    rw [fset_n _ _ (by omega)]
theorem ctr_eq (hc : cOK G al s) (hg : g < vk s) : ctr G s g = roE G s (ctr G s) g := by
  rw [← roF_st hg (vk s - (vk s - 1 - g + 1)) (vk s - 1 - g + 1) (by omega) (by omega)]
  show fset (roF G s (vk s - 1 - g)) (vk s - 1 - (vk s - 1 - g)) _ g = _
  rw [show vk s - 1 - (vk s - 1 - g) = g by omega, fset_s]
  unfold roE
  cases h : vp s g with
  | none => rfl
  | some p =>
    obtain ⟨h1, h2, -⟩ := hc.2.2.2.1 g p hg h
    show (match roF G s (vk s - 1 - g) p with | none => vl s g | some a => _) = (match ctr G s p with | none => vl s g | some a => _)
    rw [roF_st h2 (vk s - (vk s - 1 - g)) (vk s - 1 - g) (by omega) (by omega)]
theorem top_root (hG : okG G) (hc : cOK G al s) (hg : g < vk s) (h : vt s g = gr G) : g = gr G ∨ gn G ≤ g := by
  obtain ⟨c1, c2, c3, c4, c5, c6, c7, -⟩ := hc
  have hn := hG.1.2.1
  have hr := hG.1.2.2.1
  rcases Nat.lt_or_ge g (gn G) with e | e
  · left
    have h1 := (c2 (gr G) (by omega)).2
    rw [c7.1] at h1
    exact (c6 (gr G) g hr (by omega)).mp ((c5 (gr G) g (by omega) h1 (by omega)).mpr ⟨e, h⟩)
  · exact Or.inr e
/-- the root is no whole -/
theorem par_ne_root (hG : okG G) (hc : cOK G al s) {p : Nat} (hg : g < vk s) (h : vp s g = some p) : p ≠ gr G := by
  intro e
  have hr := hG.1.2.2.1
  obtain ⟨h1, h2, h3⟩ := hc.2.2.2.1 g p hg h
  have h4 : vt s g = gr G := by rw [h3, e]; exact hc.2.2.2.2.2.2.1.1
  rcases top_root hG hc hg h4 with q | q <;> omega
/-- at the end each group but the root's has a selected arc -/
theorem end_sel (hc : cOK G al s) (hn : cnext G s = none) (hg : g < vk s) (hr : g ≠ gr G) : ∃ a, vl s g = some a := by
  obtain ⟨c1, c2, c3, c4, c5, c6, c7, c8, c9, c10, -⟩ := hc
  cases e : vl s g with
  | some a => exact ⟨a, rfl⟩
  | none =>
    obtain ⟨h1, -⟩ := c9 g hg e
    obtain ⟨v, hv, h2⟩ := c10 g hg h1
    by_cases e2 : v = gr G
    · rw [e2, c7.1] at h2; exact absurd h2.symm hr
    · obtain ⟨a, ha⟩ := cnext_none hn v hv e2
      rw [h2, e] at ha; cases ha
theorem ctr_some (hG : okG G) (hc : cOK G al s) (hn : cnext G s = none) : ∀ (m g : Nat), g + m = vk s → g < vk s → g ≠ gr G → ∃ a, ctr G s g = some a ∧ a < gm G ∧ al a = true ∧ bit (vs s g) (gh G a) = 1 := by
  intro m
  induction m using Nat.strongRecOn with
  | ind m ih =>
    intro g hm hg hr
    obtain ⟨b, hb⟩ := end_sel hc hn hg hr
    obtain ⟨b1, b2, b3, b4⟩ := hc.2.2.2.2.2.2.2.1 g b hg hb
    rw [ctr_eq hc hg]
    unfold roE
    cases h : vp s g with
    | none => exact ⟨b, hb, b1, b2, b3⟩
    | some p =>
      obtain ⟨h1, h2, -⟩ := hc.2.2.2.1 g p hg h
      obtain ⟨a, a1, a2, a3, a4⟩ := ih (vk s - p) (by omega) p (by omega) h2 (par_ne_root hG hc hg h)
      show ∃ a, (match ctr G s p with | none => vl s g | some a => if bit (vs s g) (gh G a) = 1 then some a else vl s g) = some a ∧ _
      rw [a1]
      by_cases e : bit (vs s g) (gh G a) = 1
      · exact ⟨a, if_pos e, a2, a3, e⟩
      · exact ⟨b, (if_neg e).trans hb, b1, b2, b3⟩
theorem ctr_root (hG : okG G) (hc : cOK G al s) : ctr G s (gr G) = none := by
  have hr := hG.1.2.2.1
  have h1 := (hc.2.1 (gr G) (by have := hc.1; omega)).2
  rw [hc.2.2.2.2.2.2.1.1] at h1
  rw [ctr_eq hc (by have := hc.1; omega)]
  unfold roE
  rw [h1]
  exact hc.2.2.2.2.2.2.1.2
theorem ctr_node (hG : okG G) (hc : cOK G al s) (hn : cnext G s = none) {v : Nat} (hv : v < gn G) (hr : v ≠ gr G) : ∃ a, ctr G s v = some a ∧ a < gm G ∧ al a = true ∧ gh G a = v := by
  have hgn := hG.1.2.1
  obtain ⟨a, h1, h2, h3, h4⟩ := ctr_some hG hc hn (vk s - v) v (by have := hc.1; omega) (by have := hc.1; omega) hr
  have := (hG.2.1 a h2).2.1
  exact ⟨a, h1, h2, h3, (hc.2.2.2.2.2.1 v (gh G a) hv (by omega)).mp h4⟩
theorem i_subc (x y z : Int32) : x - y - z = x - z - y := by
  rw [Int32.sub_eq_add_neg, Int32.sub_eq_add_neg, Int32.sub_eq_add_neg, Int32.sub_eq_add_neg, Int32.add_assoc, Int32.add_comm (-y), ← Int32.add_assoc]
theorem redN_set {c x : Int32} {set dual : Nat → Int32} {t h : Nat} : ∀ k, g < k → dual g = 0 → redN c set (fset dual g x) t h k = if ent (set g) t h then redN c set dual t h k - x else redN c set dual t h k := by
  intro k
  induction k with
  | zero => intro h; exact absurd h (Nat.not_lt_zero g)
  | succ k ih =>
    intro hk hd
    rw [redN_s, redN_s]
    by_cases e : g = k
    · subst e
      rw [redN_congr (set' := set) (dual' := dual) g (fun q hq => ⟨rfl, fset_n _ _ (by omega)⟩), fset_s, hd, i_sub0]
      by_cases e2 : ent (set g) t h
      · rw [if_pos e2, if_pos e2, if_pos e2]
      · rw [if_neg e2, if_neg e2, if_neg e2]
    · rw [ih (by omega) hd, fset_n _ _ (Ne.symm e)]
      by_cases e2 : ent (set g) t h
      · rw [if_pos e2, if_pos e2]
        by_cases e3 : ent (set k) t h
        · rw [if_pos e3, if_pos e3, i_subc]
        · rw [if_neg e3, if_neg e3]
      · rw [if_neg e2, if_neg e2]
theorem cred_pick {b : Nat} (hg : g < vk s) (hd : vd s g = 0) : cred G pr (cpick G pr s g a) b = if ent (vs s g) (gt G b) (gh G b) then cred G pr s b - cred G pr s a else cred G pr s b := redN_set (vk s) hg hd
theorem cred_uni {b j : Nat} : cred G pr (cuni G s g j) b = cred G pr s b := by
  show redN _ (fset (vs s) (vk s) _) (fset (vd s) (vk s) 0) _ _ (vk s + 1) = _
  rw [redN_s, fset_s (vd s), i_sub0]
  rw [redN_congr (set' := vs s) (dual' := vd s) (vk s) (fun q hq => ⟨fset_n _ _ (by omega), fset_n _ _ (by omega)⟩)]
  split <;> rfl
end RO
