/-! the model's contraction, whole -/
section ME
variable {d L : Nat} {I I' : am_I} {J : am_J} {Q : am_Q} {G : Gr} {pr : Nat → Int32} {al : Nat → Bool} {s : Cs} {g a : Nat}
theorem mini_loop (hG : okG G) : ∀ (n j : Nat) (K : am_I) (l2 l3 l4 : Option Value), j + n = gn G → (∀ b, b ≠ 161 → (b < 169 ∨ 172 < b) → K b = I b) → (∀ j, j ≠ 20 → K 161 j = I 161 j) → I 162 0 = nI (gn G) → K 161 20 = nI j → (∀ q, q < j → K 169 q = 1 <<< (nI q &&& 31) ∧ K 170 q = 0 ∧ K 171 q = -107 ∧ K 172 q = -107) → ∃ I' l2', (∀ Q, am_T (d + 1) 149 7 [some (.ref 161), some (.int (nI j)), l2, l3, l4] [] (cS L) K J Q = am_T (d + 1) 149 31 [some (.ref 161), some (.int (nI (gn G))), l2', l3, l4] [] (cS L) I' J Q) ∧ (∀ b, b ≠ 161 → (b < 169 ∨ 172 < b) → I' b = I b) ∧ (∀ j, j ≠ 20 → I' 161 j = I 161 j) ∧ mC I' (con0 G) := by
  have hgn := hG.1.2.1
  have y0 : am_ix (cS L) 162 20 0 := mx 0 (by omega)
  intro n
  induction n with
  | zero =>
    intro j K l2 l3 l4 hj hf hf2 h0 h20 h
    have : j = gn G := by omega
    subst this
    refine ⟨K, l2, fun Q => ?_, hf, hf2, h20, h⟩
    rw [r149_7]
    simp only [r149_8, r149_9, r149_12, r149_13, r149_14, s_1, s_2, s_3, s_8, s_16, s_18, s_23, s_24, s_33, s_38, s_41, s_161, f_1_0, f_1_1, f_1_4, f_1_5, f_1_8, f_1_9, f_1_10, f_1_11, f_1_12, f_1_13, f_2_0, f_2_1, f_3_3, f_3_4, f_3_5, f_3_6, f_8_2, f_8_3, f_8_4, f_8_5, f_16_2, f_18_3, f_18_4, f_18_5, f_18_6, f_23_0, f_23_1, f_23_2, f_23_3, f_23_4, f_24_2, f_24_3, f_24_4, f_24_5, f_33_3, f_33_4, f_33_5, f_33_6, f_38_1, f_38_2, f_41_0, f_161_0, f_161_1, f_161_3, f_161_7, f_161_12, f_161_13, f_161_14, f_161_15, f_161_16, f_161_17, f_161_18, f_161_19, f_161_21, f_161_22, f_161_25, true_and, and_true, true_or, or_true, if_true, if_false, ne_eq, not_false_eq_true, and_self, t10, am_psh, am_clr, not_true_eq_false, Nat.reduceEqDiff, y0, show (0 : Int32).toNatClampNeg = 0 from by decide, hf 162 (by omega) (by omega), h0]
    rw [if_pos (Int32.le_refl _)]
  | succ n ih =>
    intro j K l2 l3 l4 hj hf hf2 h0 h20 h
    obtain ⟨I', l2', k1, k2, k3, k4⟩ := ih (j + 1) (newG K j (1 <<< (nI j &&& 31))) (some (.int (nI j))) l3 l4 (by omega) (fun b b1 b2 => by rw [newG_ne ⟨b1, b2⟩]; exact hf b b1 b2) (fun q hq => by rw [newG_161 hq]; exact hf2 q hq) h0 newG_20 (fun q hq => by
      by_cases e : q = j
      · subst e; exact newG_k
      · obtain ⟨o1, o2, o3, o4⟩ := newG_o (I := K) (k := j) (x := 1 <<< (nI j &&& 31)) e
        rw [o1, o2, o3, o4]; exact h q (by omega))
    refine ⟨I', l2', fun Q => ?_, k2, k3, k4⟩
    rw [r149_7]
    simp only [r149_8, r149_9, r149_12, r149_13, r149_14, r149_17, r149_18, r149_19, r149_20, r149_21, s_1, s_2, s_3, s_8, s_16, s_18, s_23, s_24, s_33, s_38, s_41, s_161, f_1_0, f_1_1, f_1_4, f_1_5, f_1_8, f_1_9, f_1_10, f_1_11, f_1_12, f_1_13, f_2_0, f_2_1, f_3_3, f_3_4, f_3_5, f_3_6, f_8_2, f_8_3, f_8_4, f_8_5, f_16_2, f_18_3, f_18_4, f_18_5, f_18_6, f_23_0, f_23_1, f_23_2, f_23_3, f_23_4, f_24_2, f_24_3, f_24_4, f_24_5, f_33_3, f_33_4, f_33_5, f_33_6, f_38_1, f_38_2, f_41_0, f_161_0, f_161_1, f_161_3, f_161_7, f_161_12, f_161_13, f_161_14, f_161_15, f_161_16, f_161_17, f_161_18, f_161_19, f_161_21, f_161_22, f_161_25, true_and, and_true, true_or, or_true, if_true, if_false, ne_eq, not_false_eq_true, and_self, t10, am_psh, am_clr, not_true_eq_false, Nat.reduceEqDiff, y0, show (0 : Int32).toNatClampNeg = 0 from by decide, hf 162 (by omega) (by omega), h0]
    rw [if_neg (nI_ge (show j < gn G by omega) (by omega)), c_newG (show j < 16 by omega) h20]
    simp only [r149_24, r149_25, r149_28, s_1, s_2, s_3, s_8, s_16, s_18, s_23, s_24, s_33, s_38, s_41, s_161, f_1_0, f_1_1, f_1_4, f_1_5, f_1_8, f_1_9, f_1_10, f_1_11, f_1_12, f_1_13, f_2_0, f_2_1, f_3_3, f_3_4, f_3_5, f_3_6, f_8_2, f_8_3, f_8_4, f_8_5, f_16_2, f_18_3, f_18_4, f_18_5, f_18_6, f_23_0, f_23_1, f_23_2, f_23_3, f_23_4, f_24_2, f_24_3, f_24_4, f_24_5, f_33_3, f_33_4, f_33_5, f_33_6, f_38_1, f_38_2, f_41_0, f_161_0, f_161_1, f_161_3, f_161_7, f_161_12, f_161_13, f_161_14, f_161_15, f_161_16, f_161_17, f_161_18, f_161_19, f_161_21, f_161_22, f_161_25, true_and, and_true, true_or, or_true, if_true, if_false, ne_eq, not_false_eq_true, and_self, t10, am_psh, am_clr, not_true_eq_false, Nat.reduceEqDiff, nI_1]
    exact k1 Q
theorem mro_loop {x1 : Int32} (hG : okG G) (hc : cOK G al s) (hn : cnext G s = none) (hs : mC I s) (hm : mG (I 162) G) : ∀ (m : Nat) (K : am_I) (l3 l4 : Option Value), m ≤ vk s → (∀ b, b ≠ 173 → K b = I b) → (∀ q, m ≤ q → q < vk s → K 173 q = enc (-107) (ctr G s q)) → ∃ I', (∀ Q, am_T (d + 3) 149 72 [some (.ref 161), some (.int x1), some (.int (nI m - 1)), l3, l4] [] (cS L) K J Q = Q (some (.int 1)) (cS L) I' J) ∧ (∀ b, b ≠ 173 → I' b = I b) ∧ ∀ q, q < vk s → I' 173 q = enc (-107) (ctr G s q) := by
  have hgn := hG.1.2.1
  have hm32 := hG.1.2.2.2
  have hk := ck_le hG hc
  intro m
  induction m with
  | zero =>
    intro K l3 l4 _ hf h
    refine ⟨K, fun Q => ?_, hf, fun q hq => h q (by omega) hq⟩
    rw [r149_72]
    simp only [r149_73, r149_155, r149_156, s_1, s_2, s_3, s_8, s_16, s_18, s_23, s_24, s_33, s_38, s_41, s_161, f_1_0, f_1_1, f_1_4, f_1_5, f_1_8, f_1_9, f_1_10, f_1_11, f_1_12, f_1_13, f_2_0, f_2_1, f_3_3, f_3_4, f_3_5, f_3_6, f_8_2, f_8_3, f_8_4, f_8_5, f_16_2, f_18_3, f_18_4, f_18_5, f_18_6, f_23_0, f_23_1, f_23_2, f_23_3, f_23_4, f_24_2, f_24_3, f_24_4, f_24_5, f_33_3, f_33_4, f_33_5, f_33_6, f_38_1, f_38_2, f_41_0, f_161_0, f_161_1, f_161_3, f_161_7, f_161_12, f_161_13, f_161_14, f_161_15, f_161_16, f_161_17, f_161_18, f_161_19, f_161_21, f_161_22, f_161_25, true_and, and_true, true_or, or_true, if_true, if_false, ne_eq, not_false_eq_true, and_self, t10, am_psh, am_clr, not_true_eq_false, Nat.reduceEqDiff, t11]
    rw [if_pos (by decide)]
  | succ m ih =>
    intro K l3 l4 hm1 hf h
    obtain ⟨s1, s2, s3, s4⟩ := hs.2 m (by omega)
    have e169 : K 169 m = vs s m := by rw [hf 169 (by omega)]; exact s1
    have e171 : K 171 m = enc (-107) (vp s m) := by rw [hf 171 (by omega)]; exact s3
    have e172 : K 172 m = enc (-107) (vl s m) := by rw [hf 172 (by omega)]; exact s4
    have em : nI (m + 1) - 1 = nI m := nI_pred m
    have em2 : nI m + (-1) = nI m - 1 := (Int32.sub_eq_add_neg _ _).symm
    have c0 : ¬ nI m < 0 := nI_pos (by omega)
    have hce := ctr_eq hc (show m < vk s by omega)
    have go : ∀ (x : Int32) (l3' l4' : Option Value), x = enc (-107) (ctr G s m) → ∃ I', (∀ Q, am_T (d + 3) 149 72 [some (.ref 161), some (.int x1), some (.int (nI m - 1)), l3', l4'] [] (cS L) (am_up K 173 m x) J Q = Q (some (.int 1)) (cS L) I' J) ∧ (∀ b, b ≠ 173 → I' b = I b) ∧ ∀ q, q < vk s → I' 173 q = enc (-107) (ctr G s q) := fun x l3' l4' hxx => by
      refine ih (am_up K 173 m x) l3' l4' (by omega) (fun b hb => by rw [am_up_ne hb]; exact hf b hb) (fun q q1 q2 => ?_)
      by_cases e : q = m
      · subst e; rw [up_self]; exact hxx
      · rw [up_ne _ _ (Or.inr e)]; exact h q (by omega) q2
    cases hp : vp s m with
    | none =>
      have hce' : ctr G s m = vl s m := by rw [hce]; unfold roE; rw [hp]
      obtain ⟨I', k1, k2, k3⟩ := go (enc (-107) (vl s m)) (some (.int (-107))) (some (.int 0)) (by rw [hce'])
      refine ⟨I', fun Q => ?_, k2, k3⟩
      rw [em, r149_72]
      simp only [r149_73, r149_76, r149_77, r149_80, r149_81, r149_82, r149_83, r149_84, r149_86, r149_89, r149_90, r149_93, r149_94, r149_95, r149_96, r149_99, r149_101, r149_102, r149_105, r149_106, r149_107, r149_108, r149_109, r149_110, r149_111, r149_112, r149_113, r149_116, r149_117, r149_120, r149_121, r149_123, r149_124, r149_127, r149_128, r149_130, r149_133, r149_134, r149_137, r149_138, r149_139, r149_142, r149_143, r149_146, r149_147, r149_148, r149_149, r149_152, s_1, s_2, s_3, s_8, s_16, s_18, s_23, s_24, s_33, s_38, s_41, s_161, f_1_0, f_1_1, f_1_4, f_1_5, f_1_8, f_1_9, f_1_10, f_1_11, f_1_12, f_1_13, f_2_0, f_2_1, f_3_3, f_3_4, f_3_5, f_3_6, f_8_2, f_8_3, f_8_4, f_8_5, f_16_2, f_18_3, f_18_4, f_18_5, f_18_6, f_23_0, f_23_1, f_23_2, f_23_3, f_23_4, f_24_2, f_24_3, f_24_4, f_24_5, f_33_3, f_33_4, f_33_5, f_33_6, f_38_1, f_38_2, f_41_0, f_161_0, f_161_1, f_161_3, f_161_7, f_161_12, f_161_13, f_161_14, f_161_15, f_161_16, f_161_17, f_161_18, f_161_19, f_161_21, f_161_22, f_161_25, true_and, and_true, true_or, or_true, if_true, if_false, ne_eq, not_false_eq_true, and_self, t10, am_psh, am_clr, not_true_eq_false, Nat.reduceEqDiff, iw173 (L := L) m (by omega), ix171 (L := L) m (by omega), ix172 (L := L) m (by omega), n_cl (show m < 2 ^ 31 by omega), e171, e172, hp, show enc (-107) none = -107 from rfl, em2]
      rw [if_neg c0]
      exact k1 Q
    | some p =>
      obtain ⟨p1, p2, -⟩ := hc.2.2.2.1 m p (by omega) hp
      obtain ⟨b, b1, b2, b3, b4⟩ := ctr_some hG hc hn (vk s - p) p (by omega) p2 (par_ne_root hG hc (show m < vk s by omega) hp)
      have hb := (hG.2.1 b b2).2.1
      have e173 : K 173 p = nI b := by rw [h p (by omega) p2, b1]; rfl
      have hce' : ctr G s m = if bit (vs s m) (gh G b) = 1 then some b else vl s m := by
        rw [hce]; unfold roE; rw [hp]
        show (match ctr G s p with | none => vl s m | some a => if bit (vs s m) (gh G a) = 1 then some a else vl s m) = _
        rw [b1]
      have e35 : K 162 (35 + b) = nI (gh G b) := by rw [hf 162 (by omega)]; exact (hm.2.1 b b2).2.1
      by_cases e : bit (vs s m) (gh G b) = 1
      · obtain ⟨I', k1, k2, k3⟩ := go (nI b) (some (.int (nI p))) (some (.int 1)) (by rw [hce', if_pos e]; rfl)
        refine ⟨I', fun Q => ?_, k2, k3⟩
        rw [em, r149_72]
        simp only [r149_73, r149_76, r149_77, r149_80, r149_81, r149_82, r149_83, r149_84, r149_86, r149_89, r149_90, r149_93, r149_94, r149_95, r149_96, r149_99, r149_101, r149_102, r149_105, r149_106, r149_107, r149_108, r149_109, r149_110, r149_111, r149_112, r149_113, r149_116, r149_117, r149_120, r149_121, r149_123, r149_124, r149_127, r149_128, r149_130, r149_133, r149_134, r149_137, r149_138, r149_139, r149_142, r149_143, r149_146, r149_147, r149_148, r149_149, r149_152, s_1, s_2, s_3, s_8, s_16, s_18, s_23, s_24, s_33, s_38, s_41, s_161, f_1_0, f_1_1, f_1_4, f_1_5, f_1_8, f_1_9, f_1_10, f_1_11, f_1_12, f_1_13, f_2_0, f_2_1, f_3_3, f_3_4, f_3_5, f_3_6, f_8_2, f_8_3, f_8_4, f_8_5, f_16_2, f_18_3, f_18_4, f_18_5, f_18_6, f_23_0, f_23_1, f_23_2, f_23_3, f_23_4, f_24_2, f_24_3, f_24_4, f_24_5, f_33_3, f_33_4, f_33_5, f_33_6, f_38_1, f_38_2, f_41_0, f_161_0, f_161_1, f_161_3, f_161_7, f_161_12, f_161_13, f_161_14, f_161_15, f_161_16, f_161_17, f_161_18, f_161_19, f_161_21, f_161_22, f_161_25, true_and, and_true, true_or, or_true, if_true, if_false, ne_eq, not_false_eq_true, and_self, t10, am_psh, am_clr, not_true_eq_false, Nat.reduceEqDiff, iw173 (L := L) m (by omega), ix171 (L := L) m (by omega), n_cl (show m < 2 ^ 31 by omega), e171, hp, show enc (-107) (some p) = nI p from rfl, n_ne_none (show p < 2 ^ 31 by omega), ix169 (L := L) m (by omega), e169, ix173 (L := L) p (by omega), n_cl (show p < 2 ^ 31 by omega), e173, show (35 : Int32) + nI b = nI (35 + b) from nI_add 35 b, mx (L := L) (35 + b) (by omega), n_cl (show 35 + b < 2 ^ 31 by omega), e35, show vs s m >>> (nI (gh G b) &&& 31) &&& 1 = 1 from e, em2]
        rw [if_neg c0]
        exact k1 Q
      · obtain ⟨I', k1, k2, k3⟩ := go (enc (-107) (vl s m)) (some (.int (nI p))) (some (.int 0)) (by rw [hce', if_neg e])
        refine ⟨I', fun Q => ?_, k2, k3⟩
        rw [em, r149_72]
        simp only [r149_73, r149_76, r149_77, r149_80, r149_81, r149_82, r149_83, r149_84, r149_86, r149_89, r149_90, r149_93, r149_94, r149_95, r149_96, r149_99, r149_101, r149_102, r149_105, r149_106, r149_107, r149_108, r149_109, r149_110, r149_111, r149_112, r149_113, r149_116, r149_117, r149_120, r149_121, r149_123, r149_124, r149_127, r149_128, r149_130, r149_133, r149_134, r149_137, r149_138, r149_139, r149_142, r149_143, r149_146, r149_147, r149_148, r149_149, r149_152, s_1, s_2, s_3, s_8, s_16, s_18, s_23, s_24, s_33, s_38, s_41, s_161, f_1_0, f_1_1, f_1_4, f_1_5, f_1_8, f_1_9, f_1_10, f_1_11, f_1_12, f_1_13, f_2_0, f_2_1, f_3_3, f_3_4, f_3_5, f_3_6, f_8_2, f_8_3, f_8_4, f_8_5, f_16_2, f_18_3, f_18_4, f_18_5, f_18_6, f_23_0, f_23_1, f_23_2, f_23_3, f_23_4, f_24_2, f_24_3, f_24_4, f_24_5, f_33_3, f_33_4, f_33_5, f_33_6, f_38_1, f_38_2, f_41_0, f_161_0, f_161_1, f_161_3, f_161_7, f_161_12, f_161_13, f_161_14, f_161_15, f_161_16, f_161_17, f_161_18, f_161_19, f_161_21, f_161_22, f_161_25, true_and, and_true, true_or, or_true, if_true, if_false, ne_eq, not_false_eq_true, and_self, t10, am_psh, am_clr, not_true_eq_false, Nat.reduceEqDiff, iw173 (L := L) m (by omega), ix171 (L := L) m (by omega), ix172 (L := L) m (by omega), n_cl (show m < 2 ^ 31 by omega), e171, e172, hp, show enc (-107) (some p) = nI p from rfl, n_ne_none (show p < 2 ^ 31 by omega), ix169 (L := L) m (by omega), e169, ix173 (L := L) p (by omega), n_cl (show p < 2 ^ 31 by omega), e173, show (35 : Int32) + nI b = nI (35 + b) from nI_add 35 b, mx (L := L) (35 + b) (by omega), n_cl (show 35 + b < 2 ^ 31 by omega), e35, em2]
        rw [if_neg c0, if_neg (show ¬ vs s m >>> (nI (gh G b) &&& 31) &&& 1 = 1 from e)]
        exact k1 Q
def mRes (I' : am_I) (G : Gr) (r : Option Cs) : Prop := match r with
  | none => True
  | some s => mC I' s ∧ ∀ q, q < vk s → I' 173 q = enc (-107) (ctr G s q)
theorem mcon_loop (hG : okG G) : ∀ (f : Nat) (I : am_I) (s : Cs) (l2 l3 l4 : Option Value), cntS s + f = 15 → cOK G al s → mG (I 162) G → mP I G pr al → mC I s → ∃ I', (∀ Q, am_T (d + 3) 149 36 [some (.ref 161), some (.int (enc (-107) (cnext G s))), l2, l3, l4] [] (cS L) I J Q = Q (some (.int (oB (conF G pr al f s)))) (cS L) I' J) ∧ (∀ b, b ≠ 161 → (b < 169 ∨ 173 < b) → I' b = I b) ∧ (∀ j, j ≠ 20 → I' 161 j = I 161 j) ∧ mRes I' G (conF G pr al f s) := by
  have hgn := hG.1.2.1
  have hm32 := hG.1.2.2.2
  intro f
  induction f with
  | zero =>
    intro I s l2 l3 l4 hf hc hm hp hs
    exfalso
    have hk := ck_le hG hc
    have : cntS s ≤ vk s := by
      have h1 := sumN_le (f := fun q => if vl s q = none then 0 else 1) (g := fun _ => 1) (vk s) (fun i hi => by show (if vl s i = none then 0 else 1) ≤ 1; split <;> omega)
      have h3 : ∀ n, sumN (fun _ => 1) n = n := by
        intro n
        induction n with
        | zero => rfl
        | succ n ih => unfold sumN; rw [ih]
      rw [h3] at h1
      exact h1
    have hr := hG.1.2.2.1
    have h2 := sumN_1 (f := fun q => if vl s q = none then 0 else 1) (g := fun _ => 1) (a := gr G) (vk s) (fun i hi => by show (if vl s i = none then 0 else 1) ≤ 1; split <;> omega) (by have := hc.1; omega) (by show (if vl s (gr G) = none then 0 else 1) + 1 ≤ 1; rw [if_pos hc.2.2.2.2.2.2.1.2]; exact Nat.le_refl _)
    have h3 : ∀ n, sumN (fun _ => 1) n = n := by
      intro n
      induction n with
      | zero => rfl
      | succ n ih => unfold sumN; rw [ih]
    rw [h3] at h2
    have h4 : cntS s + 1 ≤ vk s := h2
    omega
  | succ f ih =>
    intro I s l2 l3 l4 hf hc hm hp hs
    have hk := ck_le hG hc
    unfold conF
    cases hn : cnext G s with
    | none =>
      obtain ⟨I', k1, k2, k3⟩ := mro_loop (d := d) (L := L) (J := J) (x1 := -107) hG hc hn hs hm (vk s) I l3 l4 (Nat.le_refl _) (fun _ _ => rfl) (fun q q1 q2 => by omega)
      refine ⟨I', fun Q => ?_, fun b b1 b2 => k2 b (by omega), fun j hj => by rw [k2 161 (by omega)], mC_congr (by rw [k2 161 (by omega)]) (fun b b1 b2 => k2 b (by omega)) hs, k3⟩
      rw [r149_36]
      simp only [r149_37, r149_39, r149_65, r149_66, r149_69, r149_70, r149_71, s_1, s_2, s_3, s_8, s_16, s_18, s_23, s_24, s_33, s_38, s_41, s_161, f_1_0, f_1_1, f_1_4, f_1_5, f_1_8, f_1_9, f_1_10, f_1_11, f_1_12, f_1_13, f_2_0, f_2_1, f_3_3, f_3_4, f_3_5, f_3_6, f_8_2, f_8_3, f_8_4, f_8_5, f_16_2, f_18_3, f_18_4, f_18_5, f_18_6, f_23_0, f_23_1, f_23_2, f_23_3, f_23_4, f_24_2, f_24_3, f_24_4, f_24_5, f_33_3, f_33_4, f_33_5, f_33_6, f_38_1, f_38_2, f_41_0, f_161_0, f_161_1, f_161_3, f_161_7, f_161_12, f_161_13, f_161_14, f_161_15, f_161_16, f_161_17, f_161_18, f_161_19, f_161_21, f_161_22, f_161_25, true_and, and_true, true_or, or_true, if_true, if_false, ne_eq, not_false_eq_true, and_self, t10, am_psh, am_clr, not_true_eq_false, Nat.reduceEqDiff, show enc (-107) none = -107 from rfl, hs.1]
      exact k1 Q
    | some g =>
      dsimp only
      obtain ⟨n1, n2, n3, n4⟩ := next_ok hG hc hn
      have cg := n_ne_none (show g < 2 ^ 31 by omega)
      have hse := fun Q => c_selects (d := d) (L := L) (J := J) (Q := Q) hG (show vk s ≤ 15 by omega) n1 hm hs hp
      cases hsl : csel G pr al s g with
      | none =>
        rw [hsl] at hse
        refine ⟨am_up (am_up I 172 g (enc (-107) none)) 170 g (lsV (cred G pr s) none), fun Q => ?_, fun b b1 b2 => by rw [am_up_ne (by omega), am_up_ne (by omega)], fun j hj => by rw [am_up_ne (by omega), am_up_ne (by omega)], trivial⟩
        rw [r149_36]
        simp only [r149_37, r149_39, r149_42, r149_43, r149_44, s_1, s_2, s_3, s_8, s_16, s_18, s_23, s_24, s_33, s_38, s_41, s_161, f_1_0, f_1_1, f_1_4, f_1_5, f_1_8, f_1_9, f_1_10, f_1_11, f_1_12, f_1_13, f_2_0, f_2_1, f_3_3, f_3_4, f_3_5, f_3_6, f_8_2, f_8_3, f_8_4, f_8_5, f_16_2, f_18_3, f_18_4, f_18_5, f_18_6, f_23_0, f_23_1, f_23_2, f_23_3, f_23_4, f_24_2, f_24_3, f_24_4, f_24_5, f_33_3, f_33_4, f_33_5, f_33_6, f_38_1, f_38_2, f_41_0, f_161_0, f_161_1, f_161_3, f_161_7, f_161_12, f_161_13, f_161_14, f_161_15, f_161_16, f_161_17, f_161_18, f_161_19, f_161_21, f_161_22, f_161_25, true_and, and_true, true_or, or_true, if_true, if_false, ne_eq, not_false_eq_true, and_self, t10, am_psh, am_clr, not_true_eq_false, Nat.reduceEqDiff, show enc (-107) (some g) = nI g from rfl, cg]
        rw [hse]
        simp only [r149_47, r149_50, r149_51, s_1, s_2, s_3, s_8, s_16, s_18, s_23, s_24, s_33, s_38, s_41, s_161, f_1_0, f_1_1, f_1_4, f_1_5, f_1_8, f_1_9, f_1_10, f_1_11, f_1_12, f_1_13, f_2_0, f_2_1, f_3_3, f_3_4, f_3_5, f_3_6, f_8_2, f_8_3, f_8_4, f_8_5, f_16_2, f_18_3, f_18_4, f_18_5, f_18_6, f_23_0, f_23_1, f_23_2, f_23_3, f_23_4, f_24_2, f_24_3, f_24_4, f_24_5, f_33_3, f_33_4, f_33_5, f_33_6, f_38_1, f_38_2, f_41_0, f_161_0, f_161_1, f_161_3, f_161_7, f_161_12, f_161_13, f_161_14, f_161_15, f_161_16, f_161_17, f_161_18, f_161_19, f_161_21, f_161_22, f_161_25, true_and, and_true, true_or, or_true, if_true, if_false, ne_eq, not_false_eq_true, and_self, t10, am_psh, am_clr, not_true_eq_false, Nat.reduceEqDiff, oB, t01]
      | some a =>
        rw [hsl] at hse
        obtain ⟨a1, -⟩ := csel_some hsl
        have hs1 : mC (am_up (am_up I 172 g (enc (-107) (some a))) 170 g (lsV (cred G pr s) (some a))) (cpick G pr s g a) := by
          refine ⟨by rw [am_up_ne (by omega), am_up_ne (by omega)]; exact hs.1, fun q hq => ?_⟩
          have hq : q < vk s := hq
          obtain ⟨s1, s2, s3, s4⟩ := hs.2 q hq
          show _ = vs s q ∧ _ = fset (vd s) g (cred G pr s a) q ∧ _ = enc (-107) (vp s q) ∧ _ = enc (-107) (fset (vl s) g (some a) q)
          rw [am_up_ne (show 169 ≠ 170 by omega), am_up_ne (show 169 ≠ 172 by omega), am_up_ne (show 171 ≠ 170 by omega), am_up_ne (show 171 ≠ 172 by omega), am_up_ne (show 172 ≠ 170 by omega)]
          refine ⟨s1, ?_, s3, ?_⟩
          · by_cases e : q = g
            · subst e; rw [up_self, fset_s]; rfl
            · rw [up_ne _ _ (Or.inr e), am_up_ne (by omega), fset_n _ _ e]; exact s2
          · by_cases e : q = g
            · subst e; rw [up_self, fset_s]
            · rw [up_ne _ _ (Or.inr e), fset_n _ _ e]; exact s4
        have f1 : ∀ b, b ≠ 170 → b ≠ 172 → am_up (am_up I 172 g (enc (-107) (some a))) 170 g (lsV (cred G pr s) (some a)) b = I b := fun b b1 b2 => by rw [am_up_ne b1, am_up_ne b2]
        obtain ⟨I2, m1, m2, m3, m4⟩ := c_close (d := d) (L := L) (J := J) (I := am_up (am_up I 172 g (enc (-107) (some a))) 170 g (lsV (cred G pr s) (some a))) hG hc hn hsl (by rw [f1 162 (by omega) (by omega)]; exact hm) hs1
        have hclo := clo_ok hG hc hn hsl
        have f2 : ∀ b, b ≠ 161 → (b < 169 ∨ 172 < b) → I2 b = I b := fun b b1 b2 => by rw [m2 b b1 b2, f1 b (by omega) (by omega)]
        have hm2 : mG (I2 162) G := by rw [f2 162 (by omega) (by omega)]; exact hm
        have hp2 : mP I2 G pr al := fun b hb => by rw [f2 167 (by omega) (by omega), f2 168 (by omega) (by omega)]; exact hp b hb
        obtain ⟨I', q1, q2, q3, q4⟩ := ih I2 (cclo G (cpick G pr s g a) g) l2 l3 l4 (by rw [cnt_clo n1 n3]; omega) hclo hm2 hp2 m4
        refine ⟨I', fun Q => ?_, fun b b1 b2 => by rw [q2 b b1 b2, f2 b b1 (by omega)], fun j hj => by rw [q3 j hj, m3 j hj, f1 161 (by omega) (by omega)], q4⟩
        rw [r149_36]
        simp only [r149_37, r149_39, r149_42, r149_43, r149_44, s_1, s_2, s_3, s_8, s_16, s_18, s_23, s_24, s_33, s_38, s_41, s_161, f_1_0, f_1_1, f_1_4, f_1_5, f_1_8, f_1_9, f_1_10, f_1_11, f_1_12, f_1_13, f_2_0, f_2_1, f_3_3, f_3_4, f_3_5, f_3_6, f_8_2, f_8_3, f_8_4, f_8_5, f_16_2, f_18_3, f_18_4, f_18_5, f_18_6, f_23_0, f_23_1, f_23_2, f_23_3, f_23_4, f_24_2, f_24_3, f_24_4, f_24_5, f_33_3, f_33_4, f_33_5, f_33_6, f_38_1, f_38_2, f_41_0, f_161_0, f_161_1, f_161_3, f_161_7, f_161_12, f_161_13, f_161_14, f_161_15, f_161_16, f_161_17, f_161_18, f_161_19, f_161_21, f_161_22, f_161_25, true_and, and_true, true_or, or_true, if_true, if_false, ne_eq, not_false_eq_true, and_self, t10, am_psh, am_clr, not_true_eq_false, Nat.reduceEqDiff, show enc (-107) (some g) = nI g from rfl, cg]
        rw [hse]
        simp only [r149_47, r149_50, r149_51, r149_52, r149_53, r149_54, s_1, s_2, s_3, s_8, s_16, s_18, s_23, s_24, s_33, s_38, s_41, s_161, f_1_0, f_1_1, f_1_4, f_1_5, f_1_8, f_1_9, f_1_10, f_1_11, f_1_12, f_1_13, f_2_0, f_2_1, f_3_3, f_3_4, f_3_5, f_3_6, f_8_2, f_8_3, f_8_4, f_8_5, f_16_2, f_18_3, f_18_4, f_18_5, f_18_6, f_23_0, f_23_1, f_23_2, f_23_3, f_23_4, f_24_2, f_24_3, f_24_4, f_24_5, f_33_3, f_33_4, f_33_5, f_33_6, f_38_1, f_38_2, f_41_0, f_161_0, f_161_1, f_161_3, f_161_7, f_161_12, f_161_13, f_161_14, f_161_15, f_161_16, f_161_17, f_161_18, f_161_19, f_161_21, f_161_22, f_161_25, true_and, and_true, true_or, or_true, if_true, if_false, ne_eq, not_false_eq_true, and_self, t10, am_psh, am_clr, not_true_eq_false, Nat.reduceEqDiff, oB]
        rw [m1]
        simp only [r149_57, r149_58, s_1, s_2, s_3, s_8, s_16, s_18, s_23, s_24, s_33, s_38, s_41, s_161, f_1_0, f_1_1, f_1_4, f_1_5, f_1_8, f_1_9, f_1_10, f_1_11, f_1_12, f_1_13, f_2_0, f_2_1, f_3_3, f_3_4, f_3_5, f_3_6, f_8_2, f_8_3, f_8_4, f_8_5, f_16_2, f_18_3, f_18_4, f_18_5, f_18_6, f_23_0, f_23_1, f_23_2, f_23_3, f_23_4, f_24_2, f_24_3, f_24_4, f_24_5, f_33_3, f_33_4, f_33_5, f_33_6, f_38_1, f_38_2, f_41_0, f_161_0, f_161_1, f_161_3, f_161_7, f_161_12, f_161_13, f_161_14, f_161_15, f_161_16, f_161_17, f_161_18, f_161_19, f_161_21, f_161_22, f_161_25, true_and, and_true, true_or, or_true, if_true, if_false, ne_eq, not_false_eq_true, and_self, t10, am_psh, am_clr, not_true_eq_false, Nat.reduceEqDiff]
        rw [c_mnext hG hclo hm2 m4]
        simp only [r149_61, r149_62, s_1, s_2, s_3, s_8, s_16, s_18, s_23, s_24, s_33, s_38, s_41, s_161, f_1_0, f_1_1, f_1_4, f_1_5, f_1_8, f_1_9, f_1_10, f_1_11, f_1_12, f_1_13, f_2_0, f_2_1, f_3_3, f_3_4, f_3_5, f_3_6, f_8_2, f_8_3, f_8_4, f_8_5, f_16_2, f_18_3, f_18_4, f_18_5, f_18_6, f_23_0, f_23_1, f_23_2, f_23_3, f_23_4, f_24_2, f_24_3, f_24_4, f_24_5, f_33_3, f_33_4, f_33_5, f_33_6, f_38_1, f_38_2, f_41_0, f_161_0, f_161_1, f_161_3, f_161_7, f_161_12, f_161_13, f_161_14, f_161_15, f_161_16, f_161_17, f_161_18, f_161_19, f_161_21, f_161_22, f_161_25, true_and, and_true, true_or, or_true, if_true, if_false, ne_eq, not_false_eq_true, and_self, t10, am_psh, am_clr, not_true_eq_false, Nat.reduceEqDiff]
        exact q1 Q
theorem cntS_0 : cntS (con0 G) = 0 := by
  show sumN (fun _ => if (none : Option Nat) = none then 0 else 1) (gn G) = 0
  have : ∀ n, sumN (fun _ => if (none : Option Nat) = none then 0 else 1) n = 0 := by
    intro n
    induction n with
    | zero => rfl
    | succ n ih => unfold sumN; rw [ih, if_pos rfl]
  exact this _
/-- the model's contracts, whole -/
theorem c_contracts (hG : okG G) (hm : mG (I 162) G) (hp : mP I G pr al) : ∃ I', (∀ Q, am_C (d + 4) 149 [.ref 161] (cS L) I J Q = Q (some (.int (oB (conF G pr al 15 (con0 G))))) (cS L) I' J) ∧ (∀ b, b ≠ 161 → (b < 169 ∨ 173 < b) → I' b = I b) ∧ (∀ j, j ≠ 20 → I' 161 j = I 161 j) ∧ mRes I' G (conF G pr al 15 (con0 G)) := by
  obtain ⟨I1, l2, k1, k2, k3, k4⟩ := mini_loop (d := d + 2) (L := L) (J := J) (I := I) hG (gn G) 0 (am_up I 161 20 0) none none none (by omega) (fun b b1 b2 => am_up_ne b1) (fun j hj => up_ne _ _ (Or.inr hj)) hm.1.1 (up_self _ _ _ _) (fun q hq => absurd hq (Nat.not_lt_zero q))
  have hm1 : mG (I1 162) G := by rw [k2 162 (by omega) (by omega)]; exact hm
  have hp1 : mP I1 G pr al := fun b hb => by rw [k2 167 (by omega) (by omega), k2 168 (by omega) (by omega)]; exact hp b hb
  obtain ⟨I', q1, q2, q3, q4⟩ := mcon_loop (d := d) (L := L) (J := J) hG 15 I1 (con0 G) l2 none none (by rw [cntS_0]) (cOK_0 (al := al) hG) hm1 hp1 k4
  refine ⟨I', fun Q => ?_, fun b b1 b2 => by rw [q2 b b1 b2, k2 b b1 (by omega)], fun j hj => by rw [q3 j hj, k3 j hj], q4⟩
  rw [e149]
  simp only [r149_0, r149_1, r149_2, r149_5, r149_6, s_1, s_2, s_3, s_8, s_16, s_18, s_23, s_24, s_33, s_38, s_41, s_161, f_1_0, f_1_1, f_1_4, f_1_5, f_1_8, f_1_9, f_1_10, f_1_11, f_1_12, f_1_13, f_2_0, f_2_1, f_3_3, f_3_4, f_3_5, f_3_6, f_8_2, f_8_3, f_8_4, f_8_5, f_16_2, f_18_3, f_18_4, f_18_5, f_18_6, f_23_0, f_23_1, f_23_2, f_23_3, f_23_4, f_24_2, f_24_3, f_24_4, f_24_5, f_33_3, f_33_4, f_33_5, f_33_6, f_38_1, f_38_2, f_41_0, f_161_0, f_161_1, f_161_3, f_161_7, f_161_12, f_161_13, f_161_14, f_161_15, f_161_16, f_161_17, f_161_18, f_161_19, f_161_21, f_161_22, f_161_25, true_and, and_true, true_or, or_true, if_true, if_false, ne_eq, not_false_eq_true, and_self, t10, am_psh, am_clr, not_true_eq_false, Nat.reduceEqDiff]
  refine Eq.trans (k1 Q) ?_
  simp only [r149_31, r149_32, s_1, s_2, s_3, s_8, s_16, s_18, s_23, s_24, s_33, s_38, s_41, s_161, f_1_0, f_1_1, f_1_4, f_1_5, f_1_8, f_1_9, f_1_10, f_1_11, f_1_12, f_1_13, f_2_0, f_2_1, f_3_3, f_3_4, f_3_5, f_3_6, f_8_2, f_8_3, f_8_4, f_8_5, f_16_2, f_18_3, f_18_4, f_18_5, f_18_6, f_23_0, f_23_1, f_23_2, f_23_3, f_23_4, f_24_2, f_24_3, f_24_4, f_24_5, f_33_3, f_33_4, f_33_5, f_33_6, f_38_1, f_38_2, f_41_0, f_161_0, f_161_1, f_161_3, f_161_7, f_161_12, f_161_13, f_161_14, f_161_15, f_161_16, f_161_17, f_161_18, f_161_19, f_161_21, f_161_22, f_161_25, true_and, and_true, true_or, or_true, if_true, if_false, ne_eq, not_false_eq_true, and_self, t10, am_psh, am_clr, not_true_eq_false, Nat.reduceEqDiff]
  rw [c_mnext hG (cOK_0 (al := al) hG) hm1 k4]
  simp only [r149_35, s_1, s_2, s_3, s_8, s_16, s_18, s_23, s_24, s_33, s_38, s_41, s_161, f_1_0, f_1_1, f_1_4, f_1_5, f_1_8, f_1_9, f_1_10, f_1_11, f_1_12, f_1_13, f_2_0, f_2_1, f_3_3, f_3_4, f_3_5, f_3_6, f_8_2, f_8_3, f_8_4, f_8_5, f_16_2, f_18_3, f_18_4, f_18_5, f_18_6, f_23_0, f_23_1, f_23_2, f_23_3, f_23_4, f_24_2, f_24_3, f_24_4, f_24_5, f_33_3, f_33_4, f_33_5, f_33_6, f_38_1, f_38_2, f_41_0, f_161_0, f_161_1, f_161_3, f_161_7, f_161_12, f_161_13, f_161_14, f_161_15, f_161_16, f_161_17, f_161_18, f_161_19, f_161_21, f_161_22, f_161_25, true_and, and_true, true_or, or_true, if_true, if_false, ne_eq, not_false_eq_true, and_self, t10, am_psh, am_clr, not_true_eq_false, Nat.reduceEqDiff]
  exact q1 Q
end ME
