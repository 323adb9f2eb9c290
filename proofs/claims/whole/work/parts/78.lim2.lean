/-! the class' search, whole; limitedCost, limitedArc -/
def stC (G : Gr) (I K : am_I) (h : Nat) (f : Nat → Nat) (b : Option (Nat → Nat)) : Prop := chF I K ∧ xCh G K h f ∧ xLf G K h f ∧ xBs G K b
section LC
variable {d L : Nat} {I K : am_I} {J : am_J} {Q : am_Q} {G : Gr} {f : Nat → Nat} {b : Option (Nat → Nat)} {r : Nat → Nat}
theorem xBs_c {K' : am_I} (h1 : ∀ j, j ≠ 0 → K' 33 j = K 33 j) (h2 : K' 34 = K 34) (h : xBs G K b) : xBs G K' b := by
  cases b with
  | none => exact (h1 1 (by omega)).trans h
  | some g => exact ⟨(h1 1 (by omega)).trans h.1, (h1 2 (by omega)).trans h.2.1, h.2.2.1, fun v hv hr => by rw [h2]; exact h.2.2.2 v hv hr⟩
theorem n_m1 {m : Nat} (h : 1 ≤ m) : nI m - 1 = nI (m - 1) := by
  have := nI_pred (m - 1)
  rw [show m - 1 + 1 = m by omega] at this
  exact this
theorem ch_all (hG : okG G) (hx : xG I 3 G) (hr : ∀ a, a < gm G → I 37 a = nI (r a) ∧ r a ≤ 99) {C : Nat} (hC : C ≤ 1000) (hwd : ∀ f, isAr G f → ∀ k, k ≤ gn G → C + redS G r f k ≤ cosA G f) : ∀ (n D h : Nat) (f : Nat → Nat) (K : am_I) (b : Option (Nat → Nat)), n + 2 ≤ D → h + n = gn G → goOK G h f → pAc G h f → (∀ u, u < gn G → degP G f h u ≤ gl G u) → stC G I K h f b → ∃ K', (∀ Q, am_C (D + 1) 41 [.ref 33, .ref 3, .int (nI h), .int (nI (C + redS G r f h))] (cS L) K J Q = Q none (cS L) K' J) ∧ stC G I K' h f (enF G (lfB G) n h f b) := by
  have hgn := hG.1.2.1
  have hgr := hG.1.2.2.1
  have hm32 := hG.1.2.2.2
  intro n
  induction n with
  | zero =>
    intro D h f K b hD hh hO hA hdg hs
    obtain ⟨D0, rfl⟩ : ∃ D0, D = D0 + 2 := ⟨D - 2, by omega⟩
    have hn : h = gn G := by omega
    subst hn
    obtain ⟨hF, hCh, hLf, hBs⟩ := hs
    have hxK : xG K 3 G := xG_congr (fun b b1 b2 => hF.1 b (by omega)) hx
    obtain ⟨K', k1, k2, k3, k4, k5⟩ := c_take (d := D0) (L := L) (J := J) hG hxK hO hA hdg hCh hBs
    refine ⟨K', fun Q => ?_, ⟨fun b hb => by rw [k2.1 b hb]; exact hF.1 b hb, by rw [k2.2]; exact hF.2⟩, fun u hu => by rw [k3]; exact hCh u hu, fun u hu => by rw [k4]; exact hLf u hu, k5⟩
    rw [e41]
    simp only [r41_0, r41_1, r41_2, r41_5, r41_8, r41_9, r41_10, s_1, s_2, s_3, s_8, s_16, s_18, s_23, s_24, s_33, s_38, s_41, s_161, f_1_0, f_1_1, f_1_4, f_1_5, f_1_8, f_1_9, f_1_10, f_1_11, f_1_12, f_1_13, f_2_0, f_2_1, f_3_3, f_3_4, f_3_5, f_3_6, f_8_2, f_8_3, f_8_4, f_8_5, f_16_2, f_18_3, f_18_4, f_18_5, f_18_6, f_23_0, f_23_1, f_23_2, f_23_3, f_23_4, f_24_2, f_24_3, f_24_4, f_24_5, f_33_3, f_33_4, f_33_5, f_33_6, f_38_1, f_38_2, f_41_0, f_161_0, f_161_1, f_161_3, f_161_7, f_161_12, f_161_13, f_161_14, f_161_15, f_161_16, f_161_17, f_161_18, f_161_19, f_161_21, f_161_22, f_161_25, true_and, and_true, true_or, or_true, if_true, if_false, ne_eq, not_false_eq_true, and_self, t10, am_psh, am_clr, not_true_eq_false, Nat.reduceEqDiff, hxK.1.1]
    rw [if_neg Int32.lt_irrefl, k1]
    simp only [r41_13, s_1, s_2, s_3, s_8, s_16, s_18, s_23, s_24, s_33, s_38, s_41, s_161, f_1_0, f_1_1, f_1_4, f_1_5, f_1_8, f_1_9, f_1_10, f_1_11, f_1_12, f_1_13, f_2_0, f_2_1, f_3_3, f_3_4, f_3_5, f_3_6, f_8_2, f_8_3, f_8_4, f_8_5, f_16_2, f_18_3, f_18_4, f_18_5, f_18_6, f_23_0, f_23_1, f_23_2, f_23_3, f_23_4, f_24_2, f_24_3, f_24_4, f_24_5, f_33_3, f_33_4, f_33_5, f_33_6, f_38_1, f_38_2, f_41_0, f_161_0, f_161_1, f_161_3, f_161_7, f_161_12, f_161_13, f_161_14, f_161_15, f_161_16, f_161_17, f_161_18, f_161_19, f_161_21, f_161_22, f_161_25, true_and, and_true, true_or, or_true, if_true, if_false, ne_eq, not_false_eq_true, and_self, t10, am_psh, am_clr, not_true_eq_false, Nat.reduceEqDiff]
  | succ n ih =>
    intro D h f K b hD hh hO hA hdg hs
    obtain ⟨D1, rfl⟩ : ∃ D1, D = D1 + 1 := ⟨D - 1, by omega⟩
    have hhn : h < gn G := by omega
    have hxK0 : ∀ K, chF I K → xG K 3 G := fun K hF => xG_congr (fun b b1 b2 => hF.1 b (by omega)) hx
    by_cases e : h = gr G
    · -- the root
      obtain ⟨hF, hCh, hLf, hBs⟩ := hs
      have hxK := hxK0 K hF
      have hc1 : ∀ (K : am_I), xCh G K (h + 1) (fset f h 0) ↔ xCh G K h f := fun K => by
        constructor
        · intro q u hu
          rw [q u hu]
          by_cases c : u < h ∧ u ≠ gr G
          · rw [if_pos c, if_pos ⟨by omega, c.2⟩, fset_n _ _ (by omega)]
          · rw [if_neg c, if_neg (fun z => c ⟨by have : u ≠ h := fun w => z.2 (w.trans e); omega, z.2⟩)]
        · intro q u hu
          rw [q u hu]
          by_cases c : u < h ∧ u ≠ gr G
          · rw [if_pos c, if_pos ⟨by omega, c.2⟩, fset_n _ _ (by omega)]
          · rw [if_neg c, if_neg (fun z => c ⟨by have : u ≠ h := fun w => z.2 (w.trans e); omega, z.2⟩)]
      have hc2 : ∀ (K : am_I), xLf G K (h + 1) (fset f h 0) ↔ xLf G K h f := fun K => by
        unfold xLf
        simp only [degP_r e]
      obtain ⟨K', k1, k2, k3, k4, k5⟩ := ih D1 (h + 1) (fset f h 0) K b (by omega) (by omega) (goOK_s hO (fun q => absurd e q)) (acy_r e hA) (fun u hu => by rw [degP_r e]; exact hdg u hu) ⟨hF, (hc1 K).mpr hCh, (hc2 K).mpr hLf, hBs⟩
      rw [redS_r e] at k1
      refine ⟨K', fun Q => ?_, k2, (hc1 K').mp k3, (hc2 K').mp k4, ?_⟩
      · rw [e41]
        simp only [r41_0, r41_1, r41_2, r41_5, r41_14, r41_15, r41_16, r41_19, r41_22, r41_23, r41_24, r41_25, r41_26, r41_27, r41_28, s_1, s_2, s_3, s_8, s_16, s_18, s_23, s_24, s_33, s_38, s_41, s_161, f_1_0, f_1_1, f_1_4, f_1_5, f_1_8, f_1_9, f_1_10, f_1_11, f_1_12, f_1_13, f_2_0, f_2_1, f_3_3, f_3_4, f_3_5, f_3_6, f_8_2, f_8_3, f_8_4, f_8_5, f_16_2, f_18_3, f_18_4, f_18_5, f_18_6, f_23_0, f_23_1, f_23_2, f_23_3, f_23_4, f_24_2, f_24_3, f_24_4, f_24_5, f_33_3, f_33_4, f_33_5, f_33_6, f_38_1, f_38_2, f_41_0, f_161_0, f_161_1, f_161_3, f_161_7, f_161_12, f_161_13, f_161_14, f_161_15, f_161_16, f_161_17, f_161_18, f_161_19, f_161_21, f_161_22, f_161_25, true_and, and_true, true_or, or_true, if_true, if_false, ne_eq, not_false_eq_true, and_self, t10, am_psh, am_clr, not_true_eq_false, Nat.reduceEqDiff, hxK.1.1, hxK.1.2.1, nI_1]
        rw [if_pos ((n_lt (by omega) (by omega)).mpr hhn), if_pos (show nI h = nI (gr G) by rw [e]), k1]
        simp only [r41_31, s_1, s_2, s_3, s_8, s_16, s_18, s_23, s_24, s_33, s_38, s_41, s_161, f_1_0, f_1_1, f_1_4, f_1_5, f_1_8, f_1_9, f_1_10, f_1_11, f_1_12, f_1_13, f_2_0, f_2_1, f_3_3, f_3_4, f_3_5, f_3_6, f_8_2, f_8_3, f_8_4, f_8_5, f_16_2, f_18_3, f_18_4, f_18_5, f_18_6, f_23_0, f_23_1, f_23_2, f_23_3, f_23_4, f_24_2, f_24_3, f_24_4, f_24_5, f_33_3, f_33_4, f_33_5, f_33_6, f_38_1, f_38_2, f_41_0, f_161_0, f_161_1, f_161_3, f_161_7, f_161_12, f_161_13, f_161_14, f_161_15, f_161_16, f_161_17, f_161_18, f_161_19, f_161_21, f_161_22, f_161_25, true_and, and_true, true_or, or_true, if_true, if_false, ne_eq, not_false_eq_true, and_self, t10, am_psh, am_clr, not_true_eq_false, Nat.reduceEqDiff]
      · unfold enF; rw [if_pos e]; exact k5
    · -- its arcs
      have hbd : redS G r f h ≤ 99 * h := redS_le (fun a ha => (hr a ha).2) hO
      have arcs : ∀ (k a : Nat) (K : am_I) (b : Option (Nat → Nat)) (l5 : Option Value), a + k = gm G → stC G I K h f b → ∃ K', (∀ Q, am_T (D1 + 1) 41 35 [some (.ref 33), some (.ref 3), some (.int (nI h)), some (.int (nI (C + redS G r f h))), some (.int (nI a)), l5] [] (cS L) K J Q = Q none (cS L) K' J) ∧ stC G I K' h f (foA (hdP G h) (fun a y => enF G (lfB G) n (h + 1) (fset f h a) y) k a b) := by
        intro k
        induction k with
        | zero =>
          intro a K b l5 ha hs
          have : a = gm G := by omega
          subst this
          have hxK := hxK0 K hs.1
          refine ⟨K, fun Q => ?_, hs⟩
          rw [r41_35]
          simp only [r41_37, r41_38, r41_41, r41_150, s_1, s_2, s_3, s_8, s_16, s_18, s_23, s_24, s_33, s_38, s_41, s_161, f_1_0, f_1_1, f_1_4, f_1_5, f_1_8, f_1_9, f_1_10, f_1_11, f_1_12, f_1_13, f_2_0, f_2_1, f_3_3, f_3_4, f_3_5, f_3_6, f_8_2, f_8_3, f_8_4, f_8_5, f_16_2, f_18_3, f_18_4, f_18_5, f_18_6, f_23_0, f_23_1, f_23_2, f_23_3, f_23_4, f_24_2, f_24_3, f_24_4, f_24_5, f_33_3, f_33_4, f_33_5, f_33_6, f_38_1, f_38_2, f_41_0, f_161_0, f_161_1, f_161_3, f_161_7, f_161_12, f_161_13, f_161_14, f_161_15, f_161_16, f_161_17, f_161_18, f_161_19, f_161_21, f_161_22, f_161_25, true_and, and_true, true_or, or_true, if_true, if_false, ne_eq, not_false_eq_true, and_self, t10, am_psh, am_clr, not_true_eq_false, Nat.reduceEqDiff, hxK.1.2.2]
          rw [if_pos (Int32.le_refl _)]
        | succ k ihk =>
          intro a K b l5 ha hs
          have ham : a < gm G := by omega
          have hxK := hxK0 K hs.1
          obtain ⟨t1, t2, t3, -⟩ := hG.2.1 a ham
          have e5 : K 5 a = nI (gh G a) := (hxK.2.1 a ham).2.1
          have e4 : K 4 a = nI (gt G a) := (hxK.2.1 a ham).1
          have e37 : K 37 a = nI (r a) := by rw [hs.1.1 37 (by omega)]; exact (hr a ham).1
          have hra := (hr a ham).2
          -- to the next arc
          have next : ∀ (K : am_I) (b : Option (Nat → Nat)) (l5 : Option Value), stC G I K h f b → ∃ K', (∀ Q, am_T (D1 + 1) 41 144 [some (.ref 33), some (.ref 3), some (.int (nI h)), some (.int (nI (C + redS G r f h))), some (.int (nI a)), l5] [] (cS L) K J Q = Q none (cS L) K' J) ∧ stC G I K' h f (foA (hdP G h) (fun a y => enF G (lfB G) n (h + 1) (fset f h a) y) k (a + 1) b) := fun K b l5 hs => by
            obtain ⟨K', k1, k2⟩ := ihk (a + 1) K b l5 (by omega) hs
            refine ⟨K', fun Q => ?_, k2⟩
            simp only [r41_144, r41_147, s_1, s_2, s_3, s_8, s_16, s_18, s_23, s_24, s_33, s_38, s_41, s_161, f_1_0, f_1_1, f_1_4, f_1_5, f_1_8, f_1_9, f_1_10, f_1_11, f_1_12, f_1_13, f_2_0, f_2_1, f_3_3, f_3_4, f_3_5, f_3_6, f_8_2, f_8_3, f_8_4, f_8_5, f_16_2, f_18_3, f_18_4, f_18_5, f_18_6, f_23_0, f_23_1, f_23_2, f_23_3, f_23_4, f_24_2, f_24_3, f_24_4, f_24_5, f_33_3, f_33_4, f_33_5, f_33_6, f_38_1, f_38_2, f_41_0, f_161_0, f_161_1, f_161_3, f_161_7, f_161_12, f_161_13, f_161_14, f_161_15, f_161_16, f_161_17, f_161_18, f_161_19, f_161_21, f_161_22, f_161_25, true_and, and_true, true_or, or_true, if_true, if_false, ne_eq, not_false_eq_true, and_self, t10, am_psh, am_clr, not_true_eq_false, Nat.reduceEqDiff, nI_1]
            exact k1 Q
          have run1 : ∀ Q, am_T (D1 + 1) 41 35 [some (.ref 33), some (.ref 3), some (.int (nI h)), some (.int (nI (C + redS G r f h))), some (.int (nI a)), l5] [] (cS L) K J Q = if gh G a = h then am_T (D1 + 1) 41 55 [some (.ref 33), some (.ref 3), some (.int (nI h)), some (.int (nI (C + redS G r f h))), some (.int (nI a)), l5] [] (cS L) K J Q else am_T (D1 + 1) 41 144 [some (.ref 33), some (.ref 3), some (.int (nI h)), some (.int (nI (C + redS G r f h))), some (.int (nI a)), l5] [] (cS L) K J Q := fun Q => by
            rw [r41_35]
            simp only [r41_37, r41_38, r41_41, r41_44, r41_45, r41_48, r41_50, r41_51, r41_52, s_1, s_2, s_3, s_8, s_16, s_18, s_23, s_24, s_33, s_38, s_41, s_161, f_1_0, f_1_1, f_1_4, f_1_5, f_1_8, f_1_9, f_1_10, f_1_11, f_1_12, f_1_13, f_2_0, f_2_1, f_3_3, f_3_4, f_3_5, f_3_6, f_8_2, f_8_3, f_8_4, f_8_5, f_16_2, f_18_3, f_18_4, f_18_5, f_18_6, f_23_0, f_23_1, f_23_2, f_23_3, f_23_4, f_24_2, f_24_3, f_24_4, f_24_5, f_33_3, f_33_4, f_33_5, f_33_6, f_38_1, f_38_2, f_41_0, f_161_0, f_161_1, f_161_3, f_161_7, f_161_12, f_161_13, f_161_14, f_161_15, f_161_16, f_161_17, f_161_18, f_161_19, f_161_21, f_161_22, f_161_25, true_and, and_true, true_or, or_true, if_true, if_false, ne_eq, not_false_eq_true, and_self, t10, am_psh, am_clr, not_true_eq_false, Nat.reduceEqDiff, hxK.1.2.2, ix5 (L := L) a (by omega), n_cl (show a < 2 ^ 31 by omega), e5]
            rw [if_neg (nI_ge ham (by omega))]
            by_cases c : gh G a = h
            · rw [if_pos c, if_pos (show nI (gh G a) = nI h by rw [c])]
            · rw [if_neg c, if_neg (show ¬ nI (gh G a) = nI h from fun q => c ((nI_eq (by omega) (by omega)).mp q))]
          have fo : foA (hdP G h) (fun a y => enF G (lfB G) n (h + 1) (fset f h a) y) (k + 1) a b = foA (hdP G h) (fun a y => enF G (lfB G) n (h + 1) (fset f h a) y) k (a + 1) (if hdP G h a = true then enF G (lfB G) n (h + 1) (fset f h a) b else b) := rfl
          rw [fo]
          by_cases c : gh G a = h
          · rw [if_pos (show hdP G h a = true from decide_eq_true c)]
            have hO' : goOK G (h + 1) (fset f h a) := goOK_s hO (fun _ => ⟨ham, c⟩)
            -- left out
            have skip : (∀ g, agr G (h + 1) (fset f h a) g → ¬ (isAr G g ∧ btr G g b ∧ lmP G g)) → (∀ Q, am_T (D1 + 1) 41 55 [some (.ref 33), some (.ref 3), some (.int (nI h)), some (.int (nI (C + redS G r f h))), some (.int (nI a)), l5] [] (cS L) K J Q = am_T (D1 + 1) 41 144 [some (.ref 33), some (.ref 3), some (.int (nI h)), some (.int (nI (C + redS G r f h))), some (.int (nI a)), l5] [] (cS L) K J Q) → ∃ K', (∀ Q, am_T (D1 + 1) 41 35 [some (.ref 33), some (.ref 3), some (.int (nI h)), some (.int (nI (C + redS G r f h))), some (.int (nI a)), l5] [] (cS L) K J Q = Q none (cS L) K' J) ∧ stC G I K' h f (foA (hdP G h) (fun a y => enF G (lfB G) n (h + 1) (fset f h a) y) k (a + 1) (enF G (lfB G) n (h + 1) (fset f h a) b)) := fun h1 h2 => by
              rw [en_skip n (h + 1) (fset f h a) b (by omega) hO' h1]
              obtain ⟨K', k1, k2⟩ := next K b l5 hs
              exact ⟨K', fun Q => by rw [run1, if_pos c, h2]; exact k1 Q, k2⟩
            have run2 : ∀ Q, am_T (D1 + 1) 41 55 [some (.ref 33), some (.ref 3), some (.int (nI h)), some (.int (nI (C + redS G r f h))), some (.int (nI a)), l5] [] (cS L) K J Q = am_T (D1 + 1) 41 68 [some (.ref 33), some (.ref 3), some (.int (nI h)), some (.int (nI (C + redS G r f h))), some (.int (nI a)), l5] [.int (bI (bt2 G (C + redS G r f h + r a) b))] (cS L) K J Q := fun Q => by
              simp only [r41_55, r41_56, r41_57, r41_58, r41_61, r41_63, r41_64, r41_65, s_1, s_2, s_3, s_8, s_16, s_18, s_23, s_24, s_33, s_38, s_41, s_161, f_1_0, f_1_1, f_1_4, f_1_5, f_1_8, f_1_9, f_1_10, f_1_11, f_1_12, f_1_13, f_2_0, f_2_1, f_3_3, f_3_4, f_3_5, f_3_6, f_8_2, f_8_3, f_8_4, f_8_5, f_16_2, f_18_3, f_18_4, f_18_5, f_18_6, f_23_0, f_23_1, f_23_2, f_23_3, f_23_4, f_24_2, f_24_3, f_24_4, f_24_5, f_33_3, f_33_4, f_33_5, f_33_6, f_38_1, f_38_2, f_41_0, f_161_0, f_161_1, f_161_3, f_161_7, f_161_12, f_161_13, f_161_14, f_161_15, f_161_16, f_161_17, f_161_18, f_161_19, f_161_21, f_161_22, f_161_25, true_and, and_true, true_or, or_true, if_true, if_false, ne_eq, not_false_eq_true, and_self, t10, am_psh, am_clr, not_true_eq_false, Nat.reduceEqDiff, ix37 (L := L) a (by omega), n_cl (show a < 2 ^ 31 by omega), e37, n_add]
              rw [c_useful hs.2.2.2 (by omega)]
            by_cases c1 : bt2 G (C + redS G r f h + r a) b
            · have run3 : ∀ Q, am_T (D1 + 1) 41 55 [some (.ref 33), some (.ref 3), some (.int (nI h)), some (.int (nI (C + redS G r f h))), some (.int (nI a)), l5] [] (cS L) K J Q = am_T (D1 + 1) 41 78 [some (.ref 33), some (.ref 3), some (.int (nI h)), some (.int (nI (C + redS G r f h))), some (.int (nI a)), l5] [.int (bI (degP G f h (gt G a) < gl G (gt G a) ∧ endP G h f (gt G a) ≠ gh G a))] (cS L) K J Q := fun Q => by
                rw [run2, bI_T c1]
                simp only [r41_68, r41_71, r41_72, r41_73, r41_75, s_1, s_2, s_3, s_8, s_16, s_18, s_23, s_24, s_33, s_38, s_41, s_161, f_1_0, f_1_1, f_1_4, f_1_5, f_1_8, f_1_9, f_1_10, f_1_11, f_1_12, f_1_13, f_2_0, f_2_1, f_3_3, f_3_4, f_3_5, f_3_6, f_8_2, f_8_3, f_8_4, f_8_5, f_16_2, f_18_3, f_18_4, f_18_5, f_18_6, f_23_0, f_23_1, f_23_2, f_23_3, f_23_4, f_24_2, f_24_3, f_24_4, f_24_5, f_33_3, f_33_4, f_33_5, f_33_6, f_38_1, f_38_2, f_41_0, f_161_0, f_161_1, f_161_3, f_161_7, f_161_12, f_161_13, f_161_14, f_161_15, f_161_16, f_161_17, f_161_18, f_161_19, f_161_21, f_161_22, f_161_25, true_and, and_true, true_or, or_true, if_true, if_false, ne_eq, not_false_eq_true, and_self, t10, am_psh, am_clr, not_true_eq_false, Nat.reduceEqDiff]
                rw [c_canTake hG hxK hO (by omega) hs.2.1 hs.2.2.1 hdg ham]
              by_cases c2 : degP G f h (gt G a) < gl G (gt G a) ∧ endP G h f (gt G a) ≠ gh G a
              · -- taken
                obtain ⟨hF, hCh, hLf, hBs⟩ := hs
                have e36 := hLf (gt G a) t1
                have hgl := hG.2.2 (gt G a) (by omega)
                obtain ⟨K3, k1, k2, k3, k4, k5⟩ := ih D1 (h + 1) (fset f h a) (am_up (am_up K 35 h (nI a)) 36 (gt G a) (nI (gl G (gt G a) - degP G f h (gt G a)) - 1)) b (by omega) (by omega) hO' (acy_s hG hO hhn e hA ham (fun z => c2.2 (z.trans c.symm))) (fun u hu => by
                  rw [degP_s e]
                  by_cases eu : gt G a = u
                  · rw [if_pos eu, ← eu]; omega
                  · rw [if_neg eu]; exact hdg u hu) ⟨⟨fun b hb => by rw [am_up_ne (by omega), am_up_ne (by omega)]; exact hF.1 b hb, by rw [am_up_ne (by omega), am_up_ne (by omega)]; exact hF.2⟩, fun u hu => by
                  rw [am_up_ne (by omega)]
                  by_cases eu : u = h
                  · subst eu; rw [up_self, if_pos ⟨by omega, e⟩, fset_s]
                  · rw [up_ne _ _ (Or.inr eu), hCh u hu, fset_n _ _ eu]
                    by_cases c3 : u < h ∧ u ≠ gr G
                    · rw [if_pos c3, if_pos ⟨by omega, c3.2⟩]
                    · rw [if_neg c3, if_neg (fun z => c3 ⟨by omega, z.2⟩)], fun u hu => by
                  rw [degP_s e]
                  by_cases eu : u = gt G a
                  · subst eu; rw [up_self, if_pos rfl, n_m1 (by omega)]; congr 1
                  · rw [up_ne _ _ (Or.inr eu), am_up_ne (by omega), hLf u hu, if_neg (fun z => eu z.symm), Nat.add_zero], xBs_c (fun j _ => by rw [am_up_ne (by omega), am_up_ne (by omega)]) (by rw [am_up_ne (by omega), am_up_ne (by omega)]) hBs⟩
                rw [redS_s e, ← Nat.add_assoc] at k1
                have e36' : K3 36 (gt G a) = nI (gl G (gt G a) - (degP G f h (gt G a) + 1)) := by rw [k4 (gt G a) t1, degP_s e, if_pos rfl]
                have hs4 : stC G I (am_up (am_up K3 36 (gt G a) (nI (gl G (gt G a) - (degP G f h (gt G a) + 1)) + 1)) 35 h (-1)) h f (enF G (lfB G) n (h + 1) (fset f h a) b) := by
                  refine ⟨⟨fun b hb => by rw [am_up_ne (by omega), am_up_ne (by omega)]; exact k2.1 b hb, by rw [am_up_ne (by omega), am_up_ne (by omega)]; exact k2.2⟩, fun u hu => ?_, fun u hu => ?_, xBs_c (fun j _ => by rw [am_up_ne (by omega), am_up_ne (by omega)]) (by rw [am_up_ne (by omega), am_up_ne (by omega)]) k5⟩
                  · by_cases eu : u = h
                    · subst eu; rw [up_self, if_neg (fun z => by omega)]
                    · rw [up_ne _ _ (Or.inr eu), am_up_ne (by omega), k3 u hu, fset_n _ _ eu]
                      by_cases c3 : u < h ∧ u ≠ gr G
                      · rw [if_pos c3, if_pos ⟨by omega, c3.2⟩]
                      · rw [if_neg c3, if_neg (fun z => c3 ⟨by omega, z.2⟩)]
                  · rw [am_up_ne (by omega)]
                    by_cases eu : u = gt G a
                    · subst eu; rw [up_self, nI_1]; congr 1; omega
                    · rw [up_ne _ _ (Or.inr eu), k4 u hu, degP_s e, if_neg (fun z => eu z.symm), Nat.add_zero]
                obtain ⟨K', q1, q2⟩ := next _ _ (some (.int (nI (gt G a)))) hs4
                refine ⟨K', fun Q => ?_, q2⟩
                rw [run1, if_pos c, run3, bI_T c2]
                have e36b : (am_up K 35 h (nI a)) 36 (gt G a) = nI (gl G (gt G a) - degP G f h (gt G a)) := by rw [am_up_ne (by omega)]; exact e36
                have e37b : ∀ (x y : Int32) (q : Nat), (am_up (am_up K 35 h x) 36 q y) 37 a = nI (r a) := fun x y q => by rw [am_up_ne (by omega), am_up_ne (by omega)]; exact e37
                simp only [r41_78, r41_81, r41_82, r41_85, r41_87, r41_88, r41_90, r41_91, r41_94, r41_95, r41_97, r41_98, r41_99, r41_102, r41_104, r41_105, r41_106, r41_107, r41_108, r41_109, r41_110, r41_111, r41_112, r41_113, r41_114, r41_115, r41_116, r41_119, r41_121, r41_122, r41_123, s_1, s_2, s_3, s_8, s_16, s_18, s_23, s_24, s_33, s_38, s_41, s_161, f_1_0, f_1_1, f_1_4, f_1_5, f_1_8, f_1_9, f_1_10, f_1_11, f_1_12, f_1_13, f_2_0, f_2_1, f_3_3, f_3_4, f_3_5, f_3_6, f_8_2, f_8_3, f_8_4, f_8_5, f_16_2, f_18_3, f_18_4, f_18_5, f_18_6, f_23_0, f_23_1, f_23_2, f_23_3, f_23_4, f_24_2, f_24_3, f_24_4, f_24_5, f_33_3, f_33_4, f_33_5, f_33_6, f_38_1, f_38_2, f_41_0, f_161_0, f_161_1, f_161_3, f_161_7, f_161_12, f_161_13, f_161_14, f_161_15, f_161_16, f_161_17, f_161_18, f_161_19, f_161_21, f_161_22, f_161_25, true_and, and_true, true_or, or_true, if_true, if_false, ne_eq, not_false_eq_true, and_self, t10, am_psh, am_clr, not_true_eq_false, Nat.reduceEqDiff, ix4 (L := L) a (by omega), n_cl (show a < 2 ^ 31 by omega), e4, iw35 (L := L) h (by omega), n_cl (show h < 2 ^ 31 by omega), ix36 (L := L) (gt G a) (by omega), iw36 (L := L) (gt G a) (by omega), n_cl (show gt G a < 2 ^ 31 by omega), e36b, ix37 (L := L) a (by omega), e37b, nI_1, n_add]
                rw [k1]
                simp only [r41_126, r41_127, r41_130, r41_132, r41_133, r41_134, r41_135, r41_136, r41_137, r41_138, r41_141, r41_142, r41_143, s_1, s_2, s_3, s_8, s_16, s_18, s_23, s_24, s_33, s_38, s_41, s_161, f_1_0, f_1_1, f_1_4, f_1_5, f_1_8, f_1_9, f_1_10, f_1_11, f_1_12, f_1_13, f_2_0, f_2_1, f_3_3, f_3_4, f_3_5, f_3_6, f_8_2, f_8_3, f_8_4, f_8_5, f_16_2, f_18_3, f_18_4, f_18_5, f_18_6, f_23_0, f_23_1, f_23_2, f_23_3, f_23_4, f_24_2, f_24_3, f_24_4, f_24_5, f_33_3, f_33_4, f_33_5, f_33_6, f_38_1, f_38_2, f_41_0, f_161_0, f_161_1, f_161_3, f_161_7, f_161_12, f_161_13, f_161_14, f_161_15, f_161_16, f_161_17, f_161_18, f_161_19, f_161_21, f_161_22, f_161_25, true_and, and_true, true_or, or_true, if_true, if_false, ne_eq, not_false_eq_true, and_self, t10, am_psh, am_clr, not_true_eq_false, Nat.reduceEqDiff, iw35 (L := L) h (by omega), n_cl (show h < 2 ^ 31 by omega), ix36 (L := L) (gt G a) (by omega), iw36 (L := L) (gt G a) (by omega), n_cl (show gt G a < 2 ^ 31 by omega), e36']
                exact q1 Q
              · refine skip (fun g hg hgg => ?_) (fun Q => ?_)
                · by_cases c3 : degP G f h (gt G a) < gl G (gt G a)
                  · have c4 : endP G h f (gt G a) = h := Classical.byContradiction (fun z => c2 ⟨c3, by rw [c]; exact z⟩)
                    exact cyc_no hG hhn e ham c c4 hg hgg.1
                  · have h1 := hgg.2.2 (gt G a) t1
                    have h2 := degP_le (G := G) (f := g) (u := gt G a) (show h + 1 ≤ gn G by omega)
                    rw [degP_agr hg, degP_s e, if_pos rfl] at h2
                    omega
                · rw [run3, bI_F c2]
                  simp only [r41_78, s_1, s_2, s_3, s_8, s_16, s_18, s_23, s_24, s_33, s_38, s_41, s_161, f_1_0, f_1_1, f_1_4, f_1_5, f_1_8, f_1_9, f_1_10, f_1_11, f_1_12, f_1_13, f_2_0, f_2_1, f_3_3, f_3_4, f_3_5, f_3_6, f_8_2, f_8_3, f_8_4, f_8_5, f_16_2, f_18_3, f_18_4, f_18_5, f_18_6, f_23_0, f_23_1, f_23_2, f_23_3, f_23_4, f_24_2, f_24_3, f_24_4, f_24_5, f_33_3, f_33_4, f_33_5, f_33_6, f_38_1, f_38_2, f_41_0, f_161_0, f_161_1, f_161_3, f_161_7, f_161_12, f_161_13, f_161_14, f_161_15, f_161_16, f_161_17, f_161_18, f_161_19, f_161_21, f_161_22, f_161_25, true_and, and_true, true_or, or_true, if_true, if_false, ne_eq, not_false_eq_true, and_self, t10, am_psh, am_clr, not_true_eq_false, Nat.reduceEqDiff]
            · refine skip (fun g hg hgg => ?_) (fun Q => ?_)
              · have h1 := hwd g hgg.1 (h + 1) (by omega)
                rw [redS_agr hg, redS_s e] at h1
                cases b with
                | none => exact c1 trivial
                | some g0 =>
                  have h2 : cosA G g < cosA G g0 := hgg.2.1
                  exact c1 (show C + redS G r f h + r a < cosA G g0 by omega)
              · rw [run2, bI_F c1]
                simp only [r41_68, s_1, s_2, s_3, s_8, s_16, s_18, s_23, s_24, s_33, s_38, s_41, s_161, f_1_0, f_1_1, f_1_4, f_1_5, f_1_8, f_1_9, f_1_10, f_1_11, f_1_12, f_1_13, f_2_0, f_2_1, f_3_3, f_3_4, f_3_5, f_3_6, f_8_2, f_8_3, f_8_4, f_8_5, f_16_2, f_18_3, f_18_4, f_18_5, f_18_6, f_23_0, f_23_1, f_23_2, f_23_3, f_23_4, f_24_2, f_24_3, f_24_4, f_24_5, f_33_3, f_33_4, f_33_5, f_33_6, f_38_1, f_38_2, f_41_0, f_161_0, f_161_1, f_161_3, f_161_7, f_161_12, f_161_13, f_161_14, f_161_15, f_161_16, f_161_17, f_161_18, f_161_19, f_161_21, f_161_22, f_161_25, true_and, and_true, true_or, or_true, if_true, if_false, ne_eq, not_false_eq_true, and_self, t10, am_psh, am_clr, not_true_eq_false, Nat.reduceEqDiff]
          · rw [if_neg (show ¬ hdP G h a = true from fun q => c (of_decide_eq_true q))]
            obtain ⟨K', k1, k2⟩ := next K b l5 hs
            exact ⟨K', fun Q => by rw [run1, if_neg c]; exact k1 Q, k2⟩
      obtain ⟨K', k1, k2⟩ := arcs (gm G) 0 K b none (by omega) hs
      have hxK := hxK0 K hs.1
      refine ⟨K', fun Q => ?_, by unfold enF; rw [if_neg e]; exact k2⟩
      rw [e41]
      simp only [r41_0, r41_1, r41_2, r41_5, r41_14, r41_15, r41_16, r41_19, r41_32, r41_33, s_1, s_2, s_3, s_8, s_16, s_18, s_23, s_24, s_33, s_38, s_41, s_161, f_1_0, f_1_1, f_1_4, f_1_5, f_1_8, f_1_9, f_1_10, f_1_11, f_1_12, f_1_13, f_2_0, f_2_1, f_3_3, f_3_4, f_3_5, f_3_6, f_8_2, f_8_3, f_8_4, f_8_5, f_16_2, f_18_3, f_18_4, f_18_5, f_18_6, f_23_0, f_23_1, f_23_2, f_23_3, f_23_4, f_24_2, f_24_3, f_24_4, f_24_5, f_33_3, f_33_4, f_33_5, f_33_6, f_38_1, f_38_2, f_41_0, f_161_0, f_161_1, f_161_3, f_161_7, f_161_12, f_161_13, f_161_14, f_161_15, f_161_16, f_161_17, f_161_18, f_161_19, f_161_21, f_161_22, f_161_25, true_and, and_true, true_or, or_true, if_true, if_false, ne_eq, not_false_eq_true, and_self, t10, am_psh, am_clr, not_true_eq_false, Nat.reduceEqDiff, hxK.1.1, hxK.1.2.1]
      rw [if_pos ((n_lt (by omega) (by omega)).mpr hhn), if_neg (show ¬ nI h = nI (gr G) from fun q => e ((nI_eq (by omega) (by omega)).mp q))]
      exact k1 Q
theorem lp_loop : ∀ (n j : Nat) (K : am_I), j + n = 8 → (∀ b, b ≠ 35 → K b = I b) → (∀ v, v < j → K 35 v = -1) → ∃ I', (∀ Q, am_T d 40 29 [some (.ref 33), some (.ref 3), some (.ref 29), some (.int (nI j))] [] (cS L) K J Q = Q none (cS L) I' J) ∧ (∀ b, b ≠ 35 → I' b = I b) ∧ ∀ v, v < 8 → I' 35 v = -1 := by
  intro n
  induction n with
  | zero =>
    intro j K hj hf h
    have : j = 8 := by omega
    subst this
    refine ⟨K, fun Q => ?_, hf, h⟩
    rw [r40_29]
    simp only [r40_30, r40_32, r40_48]
    rw [if_pos (by decide)]
  | succ n ih =>
    intro j K hj hf h
    obtain ⟨I', k1, k2, k3⟩ := ih (j + 1) (am_up K 35 j (-1)) (by omega) (fun b hb => by rw [am_up_ne hb]; exact hf b hb) (fun v hv => by
      by_cases e : v = j
      · subst e; rw [up_self]
      · rw [up_ne _ _ (Or.inr e)]; exact h v (by omega))
    refine ⟨I', fun Q => ?_, k2, k3⟩
    rw [r40_29]
    simp only [r40_30, r40_32, r40_35, r40_36, r40_39, r40_40, r40_41, r40_42, r40_45, s_1, s_2, s_3, s_8, s_16, s_18, s_23, s_24, s_33, s_38, s_41, s_161, f_1_0, f_1_1, f_1_4, f_1_5, f_1_8, f_1_9, f_1_10, f_1_11, f_1_12, f_1_13, f_2_0, f_2_1, f_3_3, f_3_4, f_3_5, f_3_6, f_8_2, f_8_3, f_8_4, f_8_5, f_16_2, f_18_3, f_18_4, f_18_5, f_18_6, f_23_0, f_23_1, f_23_2, f_23_3, f_23_4, f_24_2, f_24_3, f_24_4, f_24_5, f_33_3, f_33_4, f_33_5, f_33_6, f_38_1, f_38_2, f_41_0, f_161_0, f_161_1, f_161_3, f_161_7, f_161_12, f_161_13, f_161_14, f_161_15, f_161_16, f_161_17, f_161_18, f_161_19, f_161_21, f_161_22, f_161_25, true_and, and_true, true_or, or_true, if_true, if_false, ne_eq, not_false_eq_true, and_self, t10, am_psh, am_clr, not_true_eq_false, Nat.reduceEqDiff, iw35 (L := L) j (by omega), n_cl (show j < 2 ^ 31 by omega), nI_1]
    rw [if_neg (show ¬ (8 : Int32) ≤ nI j from ge_lit (c := 8) rfl (by omega) (by omega))]
    exact k1 Q
theorem cp_37 : am_cpy (cS L) 37 29 0 0 32 := by
  refine ⟨k_37 L, k_29 L, by omega, by omega, ⟨by decide, by decide, by decide⟩, ?_, ?_⟩
  · rw [n_29]; decide
  · rw [n_37]; decide
theorem cp_36 : am_cpy (cS L) 36 7 0 0 8 := by
  refine ⟨k_36 L, k_7 L, by omega, by omega, ⟨by decide, by decide, by decide⟩, ?_, ?_⟩
  · rw [n_7]; decide
  · rw [n_36]; decide
theorem c_Lprep : ∃ I', (∀ Q, am_C (d + 1) 40 [.ref 33, .ref 3, .ref 29] (cS L) I J Q = Q none (cS L) I' J) ∧ (∀ b, ¬ (35 ≤ b ∧ b ≤ 37) → I' b = I b) ∧ (∀ v, v < 8 → I' 35 v = -1) ∧ (∀ v, v < 8 → I' 36 v = I 7 v) ∧ ∀ a, a < 32 → I' 37 a = I 29 a := by
  obtain ⟨I', k1, k2, k3⟩ := lp_loop (d := d) (L := L) (J := J) (I := am_row (am_row I 37 (va_cpy (I 29) (I 37) 0 0 32)) 36 (va_cpy (I 7) (I 36) 0 0 8)) 8 0 _ (by omega) (fun _ _ => rfl) (fun v hv => absurd hv (Nat.not_lt_zero v))
  refine ⟨I', fun Q => ?_, fun b hb => by rw [k2 b (by omega), am_row_ne (by omega), am_row_ne (by omega)], k3, fun v hv => by rw [k2 36 (by omega), am_row_eq, cpy_0 hv], fun a ha => by rw [k2 37 (by omega), am_row_ne (by omega), am_row_eq, cpy_0 ha]⟩
  rw [e40]
  simp only [r40_0, r40_1, r40_2, r40_3, r40_6, r40_7, r40_9, r40_12, r40_13, r40_16, r40_17, r40_18, r40_21, r40_22, r40_24, r40_27, r40_28, s_1, s_2, s_3, s_8, s_16, s_18, s_23, s_24, s_33, s_38, s_41, s_161, f_1_0, f_1_1, f_1_4, f_1_5, f_1_8, f_1_9, f_1_10, f_1_11, f_1_12, f_1_13, f_2_0, f_2_1, f_3_3, f_3_4, f_3_5, f_3_6, f_8_2, f_8_3, f_8_4, f_8_5, f_16_2, f_18_3, f_18_4, f_18_5, f_18_6, f_23_0, f_23_1, f_23_2, f_23_3, f_23_4, f_24_2, f_24_3, f_24_4, f_24_5, f_33_3, f_33_4, f_33_5, f_33_6, f_38_1, f_38_2, f_41_0, f_161_0, f_161_1, f_161_3, f_161_7, f_161_12, f_161_13, f_161_14, f_161_15, f_161_16, f_161_17, f_161_18, f_161_19, f_161_21, f_161_22, f_161_25, true_and, and_true, true_or, or_true, if_true, if_false, ne_eq, not_false_eq_true, and_self, t10, am_psh, am_clr, not_true_eq_false, Nat.reduceEqDiff, cp_37 (L := L), cp_36 (L := L), show (0 : Int32).toNatClampNeg = 0 from by decide, show (8 : Int32).toNatClampNeg = 8 from by decide, show (32 : Int32).toNatClampNeg = 32 from by decide]
  have e7 : am_row I 37 (va_cpy (I 29) (I 37) 0 0 32) 7 = I 7 := am_row_ne (by omega)
  have e36 : am_row I 37 (va_cpy (I 29) (I 37) 0 0 32) 36 = I 36 := am_row_ne (by omega)
  rw [e7, e36]
  exact k1 Q
/-- what is known then -/
def limR (G : Gr) (I : am_I) : Prop := ∀ g, bstF G = some g → I 33 2 = nI (cosA G g) ∧ cosA G g ≤ 1000 ∧ ∀ v, v < gn G → v ≠ gr G → I 34 v = nI (g v)
theorem xL_of (hG : okG G) (h0 : I 33 0 = 1) (h : xBs G I (bstF G)) : xL I G ∧ limR G I ∧ I 33 1 = oB (bstF G) := by
  cases hb : bstF G with
  | none =>
    rw [hb] at h
    exact ⟨Or.inr ⟨h0, Or.inl ⟨h, bst_none hG hb⟩⟩, fun g hg => (by rw [hb] at hg; cases hg), h⟩
  | some g =>
    rw [hb] at h
    obtain ⟨h1, h2, h3, h4⟩ := h
    refine ⟨Or.inr ⟨h0, Or.inr ⟨h1, g, bst_some hG hb, h2, h4⟩⟩, fun g' hg' => ?_, h1⟩
    rw [hb] at hg'
    have : g = g' := Option.some.inj hg'
    rw [← this]; exact ⟨h2, h3, h4⟩
theorem c_find (hG : okG G) (hx : xG I 3 G) (hL : xL I G) : ∃ I', (∀ Q, am_C 39 39 [.ref 33, .ref 3, .ref 23] (cS L) I J Q = Q (some (.int (oB (bstF G)))) (cS L) I' J) ∧ (∀ b, ¬ (24 ≤ b ∧ b ≤ 37) → I' b = I b) ∧ xL I' G ∧ limR G I' := by
  have hgn := hG.1.2.1
  have hm32 := hG.1.2.2.2
  have ob : ∀ (o : Option (Nat → Nat)), (oB o = 0 ∨ oB o = 1) = True := fun o => eq_true (by cases o; exact Or.inl rfl; exact Or.inr rfl)
  rcases hL with h0 | ⟨h0, hk⟩
  · -- it must be found
    obtain ⟨I1, k1, k2, k3, k4⟩ := c_contract (d := 34) (L := L) (J := J) (I := am_up I 33 1 0) (cb := 6) (x := -1) (pr := coG G) (al := alT) (Or.inl rfl) hG (xG_congr (fun b b1 b2 => am_up_ne (by omega)) hx) (fun a ha => by rw [am_up_ne (by omega)]; exact co_x hx a ha) (fun a _ => rfl)
    have f1 : ∀ b, ¬ (24 ≤ b ∧ b ≤ 33) → I1 b = I b := fun b hb => by rw [k2 b (by omega), am_up_ne (by omega)]
    have run1 : ∀ Q, am_C 39 39 [.ref 33, .ref 3, .ref 23] (cS L) I J Q = am_T 38 39 22 [some (.ref 33), some (.ref 3), some (.ref 23)] [.int (oB (conF G (coG G) alT 15 (con0 G)))] (cS L) I1 J Q := fun Q => by
      rw [e39]
      simp only [r39_0, r39_1, r39_4, r39_7, r39_8, r39_9, r39_12, r39_13, r39_14, r39_15, r39_18, r39_19, s_1, s_2, s_3, s_8, s_16, s_18, s_23, s_24, s_33, s_38, s_41, s_161, f_1_0, f_1_1, f_1_4, f_1_5, f_1_8, f_1_9, f_1_10, f_1_11, f_1_12, f_1_13, f_2_0, f_2_1, f_3_3, f_3_4, f_3_5, f_3_6, f_8_2, f_8_3, f_8_4, f_8_5, f_16_2, f_18_3, f_18_4, f_18_5, f_18_6, f_23_0, f_23_1, f_23_2, f_23_3, f_23_4, f_24_2, f_24_3, f_24_4, f_24_5, f_33_3, f_33_4, f_33_5, f_33_6, f_38_1, f_38_2, f_41_0, f_161_0, f_161_1, f_161_3, f_161_7, f_161_12, f_161_13, f_161_14, f_161_15, f_161_16, f_161_17, f_161_18, f_161_19, f_161_21, f_161_22, f_161_25, true_and, and_true, true_or, or_true, if_true, if_false, ne_eq, not_false_eq_true, and_self, t10, am_psh, am_clr, not_true_eq_false, Nat.reduceEqDiff, h0, t01]
      rw [k1]
    have h331 : I1 33 1 = 0 := by rw [k2 33 (by omega), up_self]
    cases hc : conF G (coG G) alT 15 (con0 G) with
    | none =>
      have hno : bstF G = none := by
        cases hb : bstF G with
        | none => rfl
        | some g => exact absurd (bst_some hG hb).1.1 (conF_no hG (fun a ha => b_m1 a (by omega)) 15 _ (by rw [cntS_0]) (cOK_0 hG) (cD_0 hG) hc)
      obtain ⟨x1, x2, x3⟩ := xL_of (I := am_up I1 33 0 1) hG (up_self _ _ _ _) (by rw [hno]; show am_up I1 33 0 1 33 1 = 0; rw [up_ne _ _ (Or.inr (by omega))]; exact h331)
      refine ⟨am_up I1 33 0 1, fun Q => ?_, fun b hb => by rw [am_up_ne (by omega), f1 b (by omega)], x1, x2⟩
      rw [run1, hc, show oB (none : Option Cs) = 0 from rfl]
      simp only [r39_22, r39_52, r39_53, r39_54, r39_57, r39_58, r39_61, s_1, s_2, s_3, s_8, s_16, s_18, s_23, s_24, s_33, s_38, s_41, s_161, f_1_0, f_1_1, f_1_4, f_1_5, f_1_8, f_1_9, f_1_10, f_1_11, f_1_12, f_1_13, f_2_0, f_2_1, f_3_3, f_3_4, f_3_5, f_3_6, f_8_2, f_8_3, f_8_4, f_8_5, f_16_2, f_18_3, f_18_4, f_18_5, f_18_6, f_23_0, f_23_1, f_23_2, f_23_3, f_23_4, f_24_2, f_24_3, f_24_4, f_24_5, f_33_3, f_33_4, f_33_5, f_33_6, f_38_1, f_38_2, f_41_0, f_161_0, f_161_1, f_161_3, f_161_7, f_161_12, f_161_13, f_161_14, f_161_15, f_161_16, f_161_17, f_161_18, f_161_19, f_161_21, f_161_22, f_161_25, true_and, and_true, true_or, or_true, if_true, if_false, ne_eq, not_false_eq_true, and_self, t10, am_psh, am_clr, not_true_eq_false, Nat.reduceEqDiff, t11, x3, ob]
    | some s =>
      rw [hc] at k3 k4
      obtain ⟨s1, s2⟩ := conF_ok hG 15 _ _ (cOK_0 hG) hc
      obtain ⟨r, r1, r2⟩ := wd_all hG hc
      have hT : isT G (rt (recOf G s)) := okR_T (recOf_ok hG s1 s2)
      have hch : isCh G (rt (recOf G s)) := fun v hv hr => (recOf_ok hG s1 s2).2.2 v hv hr
      have hcos := cosA_le hG hch
      obtain ⟨I2, p1, p2, p3, p4, p5⟩ := c_Lprep (d := 37) (L := L) (I := I1) (J := J)
      have f2 : ∀ b, ¬ (24 ≤ b ∧ b ≤ 37) → I2 b = I b := fun b hb => by rw [p2 b (by omega), f1 b (by omega)]
      have hx2 : xG I2 3 G := xG_congr (fun b b1 b2 => f2 b (by omega)) hx
      have hcb : ∀ Q, am_C (37 + 1) 31 [.ref 24, .ref 3, .ref 6] (cS L) I2 J Q = Q (some (.int (nI (cosA G (rt (recOf G s)))))) (cS L) I2 J := fun Q => by
        rw [c_costBy (pr := coG G) (t := rt (recOf G s)) (shR_24 L) (Or.inl rfl) hG hx2.1.1 hT (fun v hv => by rw [p2 (24 + 4) (by omega)]; exact res_t hG hc k3 v hv) (fun a ha => co_x hx2 a ha), tc_cos hG]
      obtain ⟨I3, q1, q2, q3, q4, q5⟩ := ch_all (L := L) (J := J) (I := I2) (r := r) (C := cosA G (rt (recOf G s))) hG hx2 (fun a ha => ⟨by rw [p5 a (by omega), k4 s rfl a ha]; exact (r1 a ha).1, (r1 a ha).2⟩) hcos r2 (gn G) 37 0 f00 I2 none (by omega) (by omega) (fun u hu => absurd hu (Nat.not_lt_zero u)) (fun u _ => ⟨0, chT_t.mpr (fun q => absurd q.1 (Nat.not_lt_zero _))⟩) (fun u _ => Nat.zero_le _) ⟨⟨fun _ _ => rfl, rfl⟩, fun u hu => by rw [p3 u hu, if_neg (fun q => absurd q.1 (Nat.not_lt_zero _))], fun u hu => by
        rw [p4 u (by omega), f1 7 (by omega)]
        show I 7 u = nI (gl G u - 0)
        exact hx.2.2 u (by omega), by show I2 33 1 = 0; rw [p2 33 (by omega)]; exact h331⟩
      have q1' : ∀ Q, am_C (37 + 1) 41 [.ref 33, .ref 3, .int 0, .int (nI (cosA G (rt (recOf G s))))] (cS L) I2 J Q = Q none (cS L) I3 J := q1
      obtain ⟨x1, x2, x3⟩ := xL_of (I := am_up I3 33 0 1) hG (up_self _ _ _ _) (xBs_c (fun j hj => up_ne _ _ (Or.inr hj)) (am_up_ne (by omega)) q5)
      refine ⟨am_up I3 33 0 1, fun Q => ?_, fun b hb => by rw [am_up_ne (by omega), q2.1 b (by omega), f2 b hb], x1, x2⟩
      rw [run1, hc, show oB (some s) = 1 from rfl]
      simp only [r39_22, r39_25, r39_26, r39_27, r39_28, r39_31, s_1, s_2, s_3, s_8, s_16, s_18, s_23, s_24, s_33, s_38, s_41, s_161, f_1_0, f_1_1, f_1_4, f_1_5, f_1_8, f_1_9, f_1_10, f_1_11, f_1_12, f_1_13, f_2_0, f_2_1, f_3_3, f_3_4, f_3_5, f_3_6, f_8_2, f_8_3, f_8_4, f_8_5, f_16_2, f_18_3, f_18_4, f_18_5, f_18_6, f_23_0, f_23_1, f_23_2, f_23_3, f_23_4, f_24_2, f_24_3, f_24_4, f_24_5, f_33_3, f_33_4, f_33_5, f_33_6, f_38_1, f_38_2, f_41_0, f_161_0, f_161_1, f_161_3, f_161_7, f_161_12, f_161_13, f_161_14, f_161_15, f_161_16, f_161_17, f_161_18, f_161_19, f_161_21, f_161_22, f_161_25, true_and, and_true, true_or, or_true, if_true, if_false, ne_eq, not_false_eq_true, and_self, t10, am_psh, am_clr, not_true_eq_false, Nat.reduceEqDiff]
      rw [p1]
      simp only [r39_34, r39_35, r39_36, r39_37, r39_38, r39_41, r39_42, r39_43, r39_46, s_1, s_2, s_3, s_8, s_16, s_18, s_23, s_24, s_33, s_38, s_41, s_161, f_1_0, f_1_1, f_1_4, f_1_5, f_1_8, f_1_9, f_1_10, f_1_11, f_1_12, f_1_13, f_2_0, f_2_1, f_3_3, f_3_4, f_3_5, f_3_6, f_8_2, f_8_3, f_8_4, f_8_5, f_16_2, f_18_3, f_18_4, f_18_5, f_18_6, f_23_0, f_23_1, f_23_2, f_23_3, f_23_4, f_24_2, f_24_3, f_24_4, f_24_5, f_33_3, f_33_4, f_33_5, f_33_6, f_38_1, f_38_2, f_41_0, f_161_0, f_161_1, f_161_3, f_161_7, f_161_12, f_161_13, f_161_14, f_161_15, f_161_16, f_161_17, f_161_18, f_161_19, f_161_21, f_161_22, f_161_25, true_and, and_true, true_or, or_true, if_true, if_false, ne_eq, not_false_eq_true, and_self, t10, am_psh, am_clr, not_true_eq_false, Nat.reduceEqDiff]
      rw [hcb]
      simp only [r39_49, s_1, s_2, s_3, s_8, s_16, s_18, s_23, s_24, s_33, s_38, s_41, s_161, f_1_0, f_1_1, f_1_4, f_1_5, f_1_8, f_1_9, f_1_10, f_1_11, f_1_12, f_1_13, f_2_0, f_2_1, f_3_3, f_3_4, f_3_5, f_3_6, f_8_2, f_8_3, f_8_4, f_8_5, f_16_2, f_18_3, f_18_4, f_18_5, f_18_6, f_23_0, f_23_1, f_23_2, f_23_3, f_23_4, f_24_2, f_24_3, f_24_4, f_24_5, f_33_3, f_33_4, f_33_5, f_33_6, f_38_1, f_38_2, f_41_0, f_161_0, f_161_1, f_161_3, f_161_7, f_161_12, f_161_13, f_161_14, f_161_15, f_161_16, f_161_17, f_161_18, f_161_19, f_161_21, f_161_22, f_161_25, true_and, and_true, true_or, or_true, if_true, if_false, ne_eq, not_false_eq_true, and_self, t10, am_psh, am_clr, not_true_eq_false, Nat.reduceEqDiff]
      rw [q1']
      simp only [r39_52, r39_53, r39_54, r39_57, r39_58, r39_61, s_1, s_2, s_3, s_8, s_16, s_18, s_23, s_24, s_33, s_38, s_41, s_161, f_1_0, f_1_1, f_1_4, f_1_5, f_1_8, f_1_9, f_1_10, f_1_11, f_1_12, f_1_13, f_2_0, f_2_1, f_3_3, f_3_4, f_3_5, f_3_6, f_8_2, f_8_3, f_8_4, f_8_5, f_16_2, f_18_3, f_18_4, f_18_5, f_18_6, f_23_0, f_23_1, f_23_2, f_23_3, f_23_4, f_24_2, f_24_3, f_24_4, f_24_5, f_33_3, f_33_4, f_33_5, f_33_6, f_38_1, f_38_2, f_41_0, f_161_0, f_161_1, f_161_3, f_161_7, f_161_12, f_161_13, f_161_14, f_161_15, f_161_16, f_161_17, f_161_18, f_161_19, f_161_21, f_161_22, f_161_25, true_and, and_true, true_or, or_true, if_true, if_false, ne_eq, not_false_eq_true, and_self, t10, am_psh, am_clr, not_true_eq_false, Nat.reduceEqDiff, t11, x3, ob]
  · -- it is known
    have key : I 33 1 = oB (bstF G) ∧ limR G I := by
      rcases hk with ⟨h1, h2⟩ | ⟨h1, g, h2, h3, h4⟩
      · cases hb : bstF G with
        | none => exact ⟨h1, fun g hg => (by rw [hb] at hg; cases hg)⟩
        | some g => exact absurd (bst_some hG hb).1 (h2 g)
      · cases hb : bstF G with
        | none => exact absurd h2.1 (bst_none hG hb g)
        | some g' =>
          obtain ⟨u1, u2⟩ := bst_u h2 (bst_some hG hb)
          refine ⟨h1, fun g'' hg => ?_⟩
          rw [hb] at hg
          have : g' = g'' := Option.some.inj hg
          rw [← this]
          exact ⟨by rw [h3, u1], cosA_le hG (bst_some hG hb).1.1.1, fun v hv hr => by rw [h4 v hv hr, u2 v hv hr]⟩
    refine ⟨I, fun Q => ?_, fun _ _ => rfl, Or.inr ⟨h0, hk⟩, key.2⟩
    rw [e39]
    simp only [r39_0, r39_1, r39_4, r39_57, r39_58, r39_61, s_1, s_2, s_3, s_8, s_16, s_18, s_23, s_24, s_33, s_38, s_41, s_161, f_1_0, f_1_1, f_1_4, f_1_5, f_1_8, f_1_9, f_1_10, f_1_11, f_1_12, f_1_13, f_2_0, f_2_1, f_3_3, f_3_4, f_3_5, f_3_6, f_8_2, f_8_3, f_8_4, f_8_5, f_16_2, f_18_3, f_18_4, f_18_5, f_18_6, f_23_0, f_23_1, f_23_2, f_23_3, f_23_4, f_24_2, f_24_3, f_24_4, f_24_5, f_33_3, f_33_4, f_33_5, f_33_6, f_38_1, f_38_2, f_41_0, f_161_0, f_161_1, f_161_3, f_161_7, f_161_12, f_161_13, f_161_14, f_161_15, f_161_16, f_161_17, f_161_18, f_161_19, f_161_21, f_161_22, f_161_25, true_and, and_true, true_or, or_true, if_true, if_false, ne_eq, not_false_eq_true, and_self, t10, am_psh, am_clr, not_true_eq_false, Nat.reduceEqDiff, h0, key.1, ob]
/-- both have searched -/
theorem both_lim (hG : okG G) {o : Option Rc} (hok : okS (G, o)) {hs : List St} {s0 s1 : Option St} {n : Nat} {tx : Nat → Nat} (hx : xS I 3 8 (G, o)) (hm : mS (I 162) (G, o)) (hl : xL I G) (hh : xH I hs) (hsl : xSl I 0 s0 ∧ xSl I 1 s1 ∧ I 161 4 = nI (slB s0 + 2 * slB s1)) (hru : I 1 6 = I 161 5 ∧ I 1 7 = I 161 6) (htx : xT I n tx) : ∃ (I1 I2 : am_I) (J2 : am_J), (∀ Q, am_C 39 39 [.ref 33, .ref 3, .ref 23] (cS L) I J Q = Q (some (.int (oB (bstF G)))) (cS L) I1 J) ∧ (∀ Q, am_C 39 175 [.ref 161, .int (-107)] (cS L) I1 J Q = Q none (cS L) I2 J2) ∧ I1 0 = I 0 ∧ I2 0 = I 0 ∧ Inv I2 J2 ∧ I1 3 = I 3 ∧ I1 162 = I 162 ∧ I2 162 = I 162 ∧ limR G I1 ∧ mB G I2 (bstF G) := by
  obtain ⟨I1, k1, k2, k3, k4⟩ := c_find (L := L) (J := J) hG hx.1 hl
  have e162 : I1 162 = I 162 := k2 162 (by omega)
  obtain ⟨I2, J2, q1, q2, q3⟩ := c_goThrough (d := 36) (L := L) (I := I1) (J := J) (o := none) hG (by rw [e162]; exact hm.1) (fun a h => by cases h)
  rw [enF_pair] at q3
  have f : ∀ b, ¬ (24 ≤ b ∧ b ≤ 37) → b ≠ 161 → b ≠ 174 → b ≠ 175 → I2 b = I b := fun b b1 b2 b3 b4 => by rw [q2.1 b b2 b3 b4, k2 b b1]
  have f161 : ∀ j, j ≠ 23 → I2 161 j = I 161 j := fun j hj => by rw [q2.2 j hj, k2 161 (by omega)]
  refine ⟨I1, I2, J2, k1, q1, k2 0 (by omega), f 0 (by omega) (by omega) (by omega) (by omega), ?_, k2 3 (by omega), e162, f 162 (by omega) (by omega) (by omega) (by omega), k4, q3.1⟩
  refine Inv_g (I := I) (s' := (G, o)) hok (xS_congr (fun b b1 b2 => f b (by omega) (by omega) (by omega) (by omega)) (fun b b1 b2 => f b (by omega) (by omega) (by omega) (by omega)) hx) (by rw [f 162 (by omega) (by omega) (by omega) (by omega)]; exact hm) ?_ ⟨by rw [f 1 (by omega) (by omega) (by omega) (by omega), f161 5 (by omega)]; exact hru.1, by rw [f 1 (by omega) (by omega) (by omega) (by omega), f161 6 (by omega)]; exact hru.2⟩ hh hsl htx (fun b hb => f b (by omega) (by omega) (by omega) (by omega)) ⟨by rw [f 1 (by omega) (by omega) (by omega) (by omega)], by rw [f 1 (by omega) (by omega) (by omega) (by omega)]⟩ (by rw [f 16 (by omega) (by omega) (by omega) (by omega)]) ⟨f161 2 (by omega), f161 4 (by omega), f161 8 (by omega)⟩
  show xL I2 G
  unfold xL
  rw [q2.1 33 (by omega) (by omega) (by omega), q2.1 34 (by omega) (by omega) (by omega)]
  exact k3
theorem op_limitedCost : am_OK L Inv 89 176 [] := by
  intro I J hI
  obtain ⟨⟨G, o⟩, hs, s0, s1, n, tx, hok, hx, hm, hl, hh, hsl, hru, htx⟩ := hI
  obtain ⟨I1, I2, J2, p1, p2, p3, p4, p5, p6, p7, p8, p9, p10⟩ := both_lim (L := L) (J := J) hok.1 hok hx hm hl hh hsl hru htx
  refine ⟨.int (match bstF G with | some g => nI (cosA G g) | none => -106), I1, J, I2, J2, fun Q => ?_, p3, fun Q => ?_, p4, p5, _, rfl⟩
  · rw [e89]; simp only [r89_0, r89_1, r89_4, r89_5, r89_8, r89_11, r89_12, r89_15, s_1, s_2, s_3, s_8, s_16, s_18, s_23, s_24, s_33, s_38, s_41, s_161, f_1_0, f_1_1, f_1_4, f_1_5, f_1_8, f_1_9, f_1_10, f_1_11, f_1_12, f_1_13, f_2_0, f_2_1, f_3_3, f_3_4, f_3_5, f_3_6, f_8_2, f_8_3, f_8_4, f_8_5, f_16_2, f_18_3, f_18_4, f_18_5, f_18_6, f_23_0, f_23_1, f_23_2, f_23_3, f_23_4, f_24_2, f_24_3, f_24_4, f_24_5, f_33_3, f_33_4, f_33_5, f_33_6, f_38_1, f_38_2, f_41_0, f_161_0, f_161_1, f_161_3, f_161_7, f_161_12, f_161_13, f_161_14, f_161_15, f_161_16, f_161_17, f_161_18, f_161_19, f_161_21, f_161_22, f_161_25, true_and, and_true, true_or, or_true, if_true, if_false, ne_eq, not_false_eq_true, and_self, t10, am_psh, am_clr, not_true_eq_false, Nat.reduceEqDiff]
    rw [p1]
    cases hb : bstF G with
    | none => simp only [r89_18, r89_21, r89_22, r89_25, r89_28, r89_31, r89_33, s_1, s_2, s_3, s_8, s_16, s_18, s_23, s_24, s_33, s_38, s_41, s_161, f_1_0, f_1_1, f_1_4, f_1_5, f_1_8, f_1_9, f_1_10, f_1_11, f_1_12, f_1_13, f_2_0, f_2_1, f_3_3, f_3_4, f_3_5, f_3_6, f_8_2, f_8_3, f_8_4, f_8_5, f_16_2, f_18_3, f_18_4, f_18_5, f_18_6, f_23_0, f_23_1, f_23_2, f_23_3, f_23_4, f_24_2, f_24_3, f_24_4, f_24_5, f_33_3, f_33_4, f_33_5, f_33_6, f_38_1, f_38_2, f_41_0, f_161_0, f_161_1, f_161_3, f_161_7, f_161_12, f_161_13, f_161_14, f_161_15, f_161_16, f_161_17, f_161_18, f_161_19, f_161_21, f_161_22, f_161_25, true_and, and_true, true_or, or_true, if_true, if_false, ne_eq, not_false_eq_true, and_self, t10, am_psh, am_clr, not_true_eq_false, Nat.reduceEqDiff, oB]
    | some g => simp only [r89_18, r89_21, r89_22, r89_25, r89_28, r89_31, r89_33, s_1, s_2, s_3, s_8, s_16, s_18, s_23, s_24, s_33, s_38, s_41, s_161, f_1_0, f_1_1, f_1_4, f_1_5, f_1_8, f_1_9, f_1_10, f_1_11, f_1_12, f_1_13, f_2_0, f_2_1, f_3_3, f_3_4, f_3_5, f_3_6, f_8_2, f_8_3, f_8_4, f_8_5, f_16_2, f_18_3, f_18_4, f_18_5, f_18_6, f_23_0, f_23_1, f_23_2, f_23_3, f_23_4, f_24_2, f_24_3, f_24_4, f_24_5, f_33_3, f_33_4, f_33_5, f_33_6, f_38_1, f_38_2, f_41_0, f_161_0, f_161_1, f_161_3, f_161_7, f_161_12, f_161_13, f_161_14, f_161_15, f_161_16, f_161_17, f_161_18, f_161_19, f_161_21, f_161_22, f_161_25, true_and, and_true, true_or, or_true, if_true, if_false, ne_eq, not_false_eq_true, and_self, t10, am_psh, am_clr, not_true_eq_false, Nat.reduceEqDiff, oB, (p9 g hb).1]
  · rw [e176]; simp only [r176_0, r176_1, r176_3, s_1, s_2, s_3, s_8, s_16, s_18, s_23, s_24, s_33, s_38, s_41, s_161, f_1_0, f_1_1, f_1_4, f_1_5, f_1_8, f_1_9, f_1_10, f_1_11, f_1_12, f_1_13, f_2_0, f_2_1, f_3_3, f_3_4, f_3_5, f_3_6, f_8_2, f_8_3, f_8_4, f_8_5, f_16_2, f_18_3, f_18_4, f_18_5, f_18_6, f_23_0, f_23_1, f_23_2, f_23_3, f_23_4, f_24_2, f_24_3, f_24_4, f_24_5, f_33_3, f_33_4, f_33_5, f_33_6, f_38_1, f_38_2, f_41_0, f_161_0, f_161_1, f_161_3, f_161_7, f_161_12, f_161_13, f_161_14, f_161_15, f_161_16, f_161_17, f_161_18, f_161_19, f_161_21, f_161_22, f_161_25, true_and, and_true, true_or, or_true, if_true, if_false, ne_eq, not_false_eq_true, and_self, t10, am_psh, am_clr, not_true_eq_false, Nat.reduceEqDiff]
    rw [p2]
    cases hb : bstF G with
    | none =>
      rw [hb] at p10
      simp only [r176_6, r176_7, r176_10, r176_12, r176_15, r176_17, r176_20, r176_21, r176_24, s_1, s_2, s_3, s_8, s_16, s_18, s_23, s_24, s_33, s_38, s_41, s_161, f_1_0, f_1_1, f_1_4, f_1_5, f_1_8, f_1_9, f_1_10, f_1_11, f_1_12, f_1_13, f_2_0, f_2_1, f_3_3, f_3_4, f_3_5, f_3_6, f_8_2, f_8_3, f_8_4, f_8_5, f_16_2, f_18_3, f_18_4, f_18_5, f_18_6, f_23_0, f_23_1, f_23_2, f_23_3, f_23_4, f_24_2, f_24_3, f_24_4, f_24_5, f_33_3, f_33_4, f_33_5, f_33_6, f_38_1, f_38_2, f_41_0, f_161_0, f_161_1, f_161_3, f_161_7, f_161_12, f_161_13, f_161_14, f_161_15, f_161_16, f_161_17, f_161_18, f_161_19, f_161_21, f_161_22, f_161_25, true_and, and_true, true_or, or_true, if_true, if_false, ne_eq, not_false_eq_true, and_self, t10, am_psh, am_clr, not_true_eq_false, Nat.reduceEqDiff, show I2 161 23 = -107 from p10]
    | some g =>
      rw [hb] at p10
      simp only [r176_6, r176_7, r176_10, r176_12, r176_15, r176_17, r176_20, r176_21, r176_24, s_1, s_2, s_3, s_8, s_16, s_18, s_23, s_24, s_33, s_38, s_41, s_161, f_1_0, f_1_1, f_1_4, f_1_5, f_1_8, f_1_9, f_1_10, f_1_11, f_1_12, f_1_13, f_2_0, f_2_1, f_3_3, f_3_4, f_3_5, f_3_6, f_8_2, f_8_3, f_8_4, f_8_5, f_16_2, f_18_3, f_18_4, f_18_5, f_18_6, f_23_0, f_23_1, f_23_2, f_23_3, f_23_4, f_24_2, f_24_3, f_24_4, f_24_5, f_33_3, f_33_4, f_33_5, f_33_6, f_38_1, f_38_2, f_41_0, f_161_0, f_161_1, f_161_3, f_161_7, f_161_12, f_161_13, f_161_14, f_161_15, f_161_16, f_161_17, f_161_18, f_161_19, f_161_21, f_161_22, f_161_25, true_and, and_true, true_or, or_true, if_true, if_false, ne_eq, not_false_eq_true, and_self, t10, am_psh, am_clr, not_true_eq_false, Nat.reduceEqDiff, p10.1, n_ne_none (show cosA G g < 2 ^ 31 by have z : cosA G g ≤ 1000 := p10.2.1; omega)]
theorem op_limitedArc (x : Int32) : am_OK L Inv 90 177 [.int x] := by
  intro I J hI
  have hI0 := hI
  obtain ⟨⟨G, o⟩, hs, s0, s1, n, tx, hok, hx, hm, hl, hh, hsl, hru, htx⟩ := hI
  have hgn : gn G ≤ 8 := hok.1.1.2.1
  have hgr : gr G < gn G := hok.1.1.2.2.1
  rcases in_or_out x (n := gn G) (by omega) with hxo | ⟨v, hv, rfl⟩
  · refine ok_same hI0 (x := -101) (fun Q => ?_) (fun Q => ?_)
    · rw [e90]; simp only [r90_0, r90_1, r90_4, r90_7, r90_8, s_1, s_2, s_3, s_8, s_16, s_18, s_23, s_24, s_33, s_38, s_41, s_161, f_1_0, f_1_1, f_1_4, f_1_5, f_1_8, f_1_9, f_1_10, f_1_11, f_1_12, f_1_13, f_2_0, f_2_1, f_3_3, f_3_4, f_3_5, f_3_6, f_8_2, f_8_3, f_8_4, f_8_5, f_16_2, f_18_3, f_18_4, f_18_5, f_18_6, f_23_0, f_23_1, f_23_2, f_23_3, f_23_4, f_24_2, f_24_3, f_24_4, f_24_5, f_33_3, f_33_4, f_33_5, f_33_6, f_38_1, f_38_2, f_41_0, f_161_0, f_161_1, f_161_3, f_161_7, f_161_12, f_161_13, f_161_14, f_161_15, f_161_16, f_161_17, f_161_18, f_161_19, f_161_21, f_161_22, f_161_25, true_and, and_true, true_or, or_true, if_true, if_false, ne_eq, not_false_eq_true, and_self, t10, am_psh, am_clr, not_true_eq_false, Nat.reduceEqDiff]
      rw [c_hasNode_out hx.1.1.1 hxo]; simp only [r90_11, r90_14, r90_16, true_and, and_true, true_or, or_true, if_true, if_false, ne_eq, not_false_eq_true, and_self, t10, am_psh, am_clr, not_true_eq_false, Nat.reduceEqDiff]
    · rw [e177]; simp only [r177_0, r177_1, r177_2, s_1, s_2, s_3, s_8, s_16, s_18, s_23, s_24, s_33, s_38, s_41, s_161, f_1_0, f_1_1, f_1_4, f_1_5, f_1_8, f_1_9, f_1_10, f_1_11, f_1_12, f_1_13, f_2_0, f_2_1, f_3_3, f_3_4, f_3_5, f_3_6, f_8_2, f_8_3, f_8_4, f_8_5, f_16_2, f_18_3, f_18_4, f_18_5, f_18_6, f_23_0, f_23_1, f_23_2, f_23_3, f_23_4, f_24_2, f_24_3, f_24_4, f_24_5, f_33_3, f_33_4, f_33_5, f_33_6, f_38_1, f_38_2, f_41_0, f_161_0, f_161_1, f_161_3, f_161_7, f_161_12, f_161_13, f_161_14, f_161_15, f_161_16, f_161_17, f_161_18, f_161_19, f_161_21, f_161_22, f_161_25, true_and, and_true, true_or, or_true, if_true, if_false, ne_eq, not_false_eq_true, and_self, t10, am_psh, am_clr, not_true_eq_false, Nat.reduceEqDiff]
      rw [c_isNode_out hm.1.1.1 hgn hxo]; simp only [r177_5, r177_8, r177_10, true_and, and_true, true_or, or_true, if_true, if_false, ne_eq, not_false_eq_true, and_self, t10, am_psh, am_clr, not_true_eq_false, Nat.reduceEqDiff]
  obtain ⟨I1, I2, J2, p1, p2, p3, p4, p5, p6, p7, p8, p9, p10⟩ := both_lim (L := L) (J := J) hok.1 hok hx hm hl hh hsl hru htx
  have y1 : am_ix (cS L) 162 20 1 := mx 1 (by omega)
  have z1 : (1 : Int32).toNatClampNeg = 1 := by decide
  have er : I1 3 1 = nI (gr G) := by rw [p6]; exact hx.1.1.2.1
  have em : I2 162 1 = nI (gr G) := by rw [p8]; exact hm.1.1.2.1
  refine ⟨.int (match bstF G with | some g => if v = gr G then -107 else nI (g v) | none => -106), I1, J, I2, J2, fun Q => ?_, p3, fun Q => ?_, p4, p5, _, rfl⟩
  · rw [e90]; simp only [r90_0, r90_1, r90_4, r90_7, r90_8, s_1, s_2, s_3, s_8, s_16, s_18, s_23, s_24, s_33, s_38, s_41, s_161, f_1_0, f_1_1, f_1_4, f_1_5, f_1_8, f_1_9, f_1_10, f_1_11, f_1_12, f_1_13, f_2_0, f_2_1, f_3_3, f_3_4, f_3_5, f_3_6, f_8_2, f_8_3, f_8_4, f_8_5, f_16_2, f_18_3, f_18_4, f_18_5, f_18_6, f_23_0, f_23_1, f_23_2, f_23_3, f_23_4, f_24_2, f_24_3, f_24_4, f_24_5, f_33_3, f_33_4, f_33_5, f_33_6, f_38_1, f_38_2, f_41_0, f_161_0, f_161_1, f_161_3, f_161_7, f_161_12, f_161_13, f_161_14, f_161_15, f_161_16, f_161_17, f_161_18, f_161_19, f_161_21, f_161_22, f_161_25, true_and, and_true, true_or, or_true, if_true, if_false, ne_eq, not_false_eq_true, and_self, t10, am_psh, am_clr, not_true_eq_false, Nat.reduceEqDiff]
    rw [c_hasNode_in hx.1.1.1 hgn hv]; simp only [r90_11, r90_14, r90_16, r90_17, r90_18, r90_21, r90_22, r90_25, r90_28, r90_29, r90_32, s_1, s_2, s_3, s_8, s_16, s_18, s_23, s_24, s_33, s_38, s_41, s_161, f_1_0, f_1_1, f_1_4, f_1_5, f_1_8, f_1_9, f_1_10, f_1_11, f_1_12, f_1_13, f_2_0, f_2_1, f_3_3, f_3_4, f_3_5, f_3_6, f_8_2, f_8_3, f_8_4, f_8_5, f_16_2, f_18_3, f_18_4, f_18_5, f_18_6, f_23_0, f_23_1, f_23_2, f_23_3, f_23_4, f_24_2, f_24_3, f_24_4, f_24_5, f_33_3, f_33_4, f_33_5, f_33_6, f_38_1, f_38_2, f_41_0, f_161_0, f_161_1, f_161_3, f_161_7, f_161_12, f_161_13, f_161_14, f_161_15, f_161_16, f_161_17, f_161_18, f_161_19, f_161_21, f_161_22, f_161_25, true_and, and_true, true_or, or_true, if_true, if_false, ne_eq, not_false_eq_true, and_self, t10, am_psh, am_clr, not_true_eq_false, Nat.reduceEqDiff]
    rw [p1]
    cases hb : bstF G with
    | none => simp only [r90_35, r90_38, r90_40, s_1, s_2, s_3, s_8, s_16, s_18, s_23, s_24, s_33, s_38, s_41, s_161, f_1_0, f_1_1, f_1_4, f_1_5, f_1_8, f_1_9, f_1_10, f_1_11, f_1_12, f_1_13, f_2_0, f_2_1, f_3_3, f_3_4, f_3_5, f_3_6, f_8_2, f_8_3, f_8_4, f_8_5, f_16_2, f_18_3, f_18_4, f_18_5, f_18_6, f_23_0, f_23_1, f_23_2, f_23_3, f_23_4, f_24_2, f_24_3, f_24_4, f_24_5, f_33_3, f_33_4, f_33_5, f_33_6, f_38_1, f_38_2, f_41_0, f_161_0, f_161_1, f_161_3, f_161_7, f_161_12, f_161_13, f_161_14, f_161_15, f_161_16, f_161_17, f_161_18, f_161_19, f_161_21, f_161_22, f_161_25, true_and, and_true, true_or, or_true, if_true, if_false, ne_eq, not_false_eq_true, and_self, t10, am_psh, am_clr, not_true_eq_false, Nat.reduceEqDiff, oB]
    | some g =>
      simp only [r90_35, r90_41, r90_42, r90_43, r90_46, r90_49, r90_52, r90_55, r90_57, r90_60, r90_61, r90_64, r90_67, r90_68, r90_69, s_1, s_2, s_3, s_8, s_16, s_18, s_23, s_24, s_33, s_38, s_41, s_161, f_1_0, f_1_1, f_1_4, f_1_5, f_1_8, f_1_9, f_1_10, f_1_11, f_1_12, f_1_13, f_2_0, f_2_1, f_3_3, f_3_4, f_3_5, f_3_6, f_8_2, f_8_3, f_8_4, f_8_5, f_16_2, f_18_3, f_18_4, f_18_5, f_18_6, f_23_0, f_23_1, f_23_2, f_23_3, f_23_4, f_24_2, f_24_3, f_24_4, f_24_5, f_33_3, f_33_4, f_33_5, f_33_6, f_38_1, f_38_2, f_41_0, f_161_0, f_161_1, f_161_3, f_161_7, f_161_12, f_161_13, f_161_14, f_161_15, f_161_16, f_161_17, f_161_18, f_161_19, f_161_21, f_161_22, f_161_25, true_and, and_true, true_or, or_true, if_true, if_false, ne_eq, not_false_eq_true, and_self, t10, am_psh, am_clr, not_true_eq_false, Nat.reduceEqDiff, oB, er, ix34 (L := L) v (by omega), n_cl (show v < 2 ^ 31 by omega)]
      by_cases e : v = gr G
      · rw [if_pos e, if_pos (show nI v = nI (gr G) by rw [e])]
      · rw [if_neg e, if_neg (show ¬ nI v = nI (gr G) from fun q => e ((nI_eq (by omega) (by omega)).mp q)), (p9 g hb).2.2 v hv e]
  · rw [e177]; simp only [r177_0, r177_1, r177_2, s_1, s_2, s_3, s_8, s_16, s_18, s_23, s_24, s_33, s_38, s_41, s_161, f_1_0, f_1_1, f_1_4, f_1_5, f_1_8, f_1_9, f_1_10, f_1_11, f_1_12, f_1_13, f_2_0, f_2_1, f_3_3, f_3_4, f_3_5, f_3_6, f_8_2, f_8_3, f_8_4, f_8_5, f_16_2, f_18_3, f_18_4, f_18_5, f_18_6, f_23_0, f_23_1, f_23_2, f_23_3, f_23_4, f_24_2, f_24_3, f_24_4, f_24_5, f_33_3, f_33_4, f_33_5, f_33_6, f_38_1, f_38_2, f_41_0, f_161_0, f_161_1, f_161_3, f_161_7, f_161_12, f_161_13, f_161_14, f_161_15, f_161_16, f_161_17, f_161_18, f_161_19, f_161_21, f_161_22, f_161_25, true_and, and_true, true_or, or_true, if_true, if_false, ne_eq, not_false_eq_true, and_self, t10, am_psh, am_clr, not_true_eq_false, Nat.reduceEqDiff]
    rw [c_isNode_in (by rw [p7]; exact hm.1.1.1) hgn hv]; simp only [r177_5, r177_8, r177_10, r177_11, r177_12, r177_14, s_1, s_2, s_3, s_8, s_16, s_18, s_23, s_24, s_33, s_38, s_41, s_161, f_1_0, f_1_1, f_1_4, f_1_5, f_1_8, f_1_9, f_1_10, f_1_11, f_1_12, f_1_13, f_2_0, f_2_1, f_3_3, f_3_4, f_3_5, f_3_6, f_8_2, f_8_3, f_8_4, f_8_5, f_16_2, f_18_3, f_18_4, f_18_5, f_18_6, f_23_0, f_23_1, f_23_2, f_23_3, f_23_4, f_24_2, f_24_3, f_24_4, f_24_5, f_33_3, f_33_4, f_33_5, f_33_6, f_38_1, f_38_2, f_41_0, f_161_0, f_161_1, f_161_3, f_161_7, f_161_12, f_161_13, f_161_14, f_161_15, f_161_16, f_161_17, f_161_18, f_161_19, f_161_21, f_161_22, f_161_25, true_and, and_true, true_or, or_true, if_true, if_false, ne_eq, not_false_eq_true, and_self, t10, am_psh, am_clr, not_true_eq_false, Nat.reduceEqDiff]
    rw [p2]
    cases hb : bstF G with
    | none =>
      rw [hb] at p10
      simp only [r177_17, r177_18, r177_21, r177_23, r177_26, r177_28, s_1, s_2, s_3, s_8, s_16, s_18, s_23, s_24, s_33, s_38, s_41, s_161, f_1_0, f_1_1, f_1_4, f_1_5, f_1_8, f_1_9, f_1_10, f_1_11, f_1_12, f_1_13, f_2_0, f_2_1, f_3_3, f_3_4, f_3_5, f_3_6, f_8_2, f_8_3, f_8_4, f_8_5, f_16_2, f_18_3, f_18_4, f_18_5, f_18_6, f_23_0, f_23_1, f_23_2, f_23_3, f_23_4, f_24_2, f_24_3, f_24_4, f_24_5, f_33_3, f_33_4, f_33_5, f_33_6, f_38_1, f_38_2, f_41_0, f_161_0, f_161_1, f_161_3, f_161_7, f_161_12, f_161_13, f_161_14, f_161_15, f_161_16, f_161_17, f_161_18, f_161_19, f_161_21, f_161_22, f_161_25, true_and, and_true, true_or, or_true, if_true, if_false, ne_eq, not_false_eq_true, and_self, t10, am_psh, am_clr, not_true_eq_false, Nat.reduceEqDiff, show I2 161 23 = -107 from p10]
    | some g =>
      rw [hb] at p10
      simp only [r177_17, r177_18, r177_21, r177_23, r177_29, r177_30, r177_31, r177_34, r177_35, r177_36, r177_39, r177_41, r177_44, r177_45, r177_48, r177_49, r177_50, s_1, s_2, s_3, s_8, s_16, s_18, s_23, s_24, s_33, s_38, s_41, s_161, f_1_0, f_1_1, f_1_4, f_1_5, f_1_8, f_1_9, f_1_10, f_1_11, f_1_12, f_1_13, f_2_0, f_2_1, f_3_3, f_3_4, f_3_5, f_3_6, f_8_2, f_8_3, f_8_4, f_8_5, f_16_2, f_18_3, f_18_4, f_18_5, f_18_6, f_23_0, f_23_1, f_23_2, f_23_3, f_23_4, f_24_2, f_24_3, f_24_4, f_24_5, f_33_3, f_33_4, f_33_5, f_33_6, f_38_1, f_38_2, f_41_0, f_161_0, f_161_1, f_161_3, f_161_7, f_161_12, f_161_13, f_161_14, f_161_15, f_161_16, f_161_17, f_161_18, f_161_19, f_161_21, f_161_22, f_161_25, true_and, and_true, true_or, or_true, if_true, if_false, ne_eq, not_false_eq_true, and_self, t10, am_psh, am_clr, not_true_eq_false, Nat.reduceEqDiff, p10.1, n_ne_none (show cosA G g < 2 ^ 31 by have z : cosA G g ≤ 1000 := p10.2.1; omega), y1, z1, em, ix175 (L := L) v (by omega), n_cl (show v < 2 ^ 31 by omega)]
      by_cases e : v = gr G
      · rw [if_pos e, if_pos (show nI v = nI (gr G) by rw [e])]
      · rw [if_neg e, if_neg (show ¬ nI v = nI (gr G) from fun q => e ((nI_eq (by omega) (by omega)).mp q)), p10.2.2 v hv e]
end LC
