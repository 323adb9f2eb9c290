/-! the model's contraction -/
def mC (I : am_I) (s : Cs) : Prop := I 161 20 = nI (vk s) ∧ ∀ g, g < vk s → I 169 g = vs s g ∧ I 170 g = vd s g ∧ I 171 g = enc (-107) (vp s g) ∧ I 172 g = enc (-107) (vl s g)
def mP (I : am_I) (G : Gr) (pr : Nat → Int32) (al : Nat → Bool) : Prop := ∀ a, a < gm G → I 167 a = pr a ∧ I 168 a = b32 (al a = true)
section MC
variable {d L : Nat} {I I' : am_I} {J : am_J} {Q : am_Q} {G : Gr} {pr : Nat → Int32} {al : Nat → Bool} {s : Cs} {g a : Nat}
theorem mC_congr (h1 : I' 161 20 = I 161 20) (h2 : ∀ b, 169 ≤ b → b ≤ 172 → I' b = I b) (h : mC I s) : mC I' s := ⟨h1.trans h.1, fun g hg => by rw [h2 169 (by omega) (by omega), h2 170 (by omega) (by omega), h2 171 (by omega) (by omega), h2 172 (by omega) (by omega)]; exact h.2 g hg⟩
theorem top_loop (hc : cOK G al s) (hk : vk s ≤ 15) {x : Int32} (h171 : ∀ g, g < vk s → I 171 g = enc (-107) (vp s g)) : ∀ (m g : Nat), g + m = vk s → g < vk s → am_T d 143 2 [some (.ref 161), some (.int x), some (.int (nI g))] [] (cS L) I J Q = Q (some (.int (nI (vt s g)))) (cS L) I J := by
  intro m
  induction m using Nat.strongRecOn with
  | ind m ih =>
    intro g hm hg
    rw [r143_2]
    simp only [r143_3, r143_6, r143_7, r143_8, r143_10, r143_13, r143_14, r143_17, r143_18, r143_19, r143_20, r143_23, r143_24, s_1, s_2, s_3, s_8, s_16, s_18, s_23, s_24, s_33, s_38, s_41, s_161, f_1_0, f_1_1, f_1_4, f_1_5, f_1_8, f_1_9, f_1_10, f_1_11, f_1_12, f_1_13, f_2_0, f_2_1, f_3_3, f_3_4, f_3_5, f_3_6, f_8_2, f_8_3, f_8_4, f_8_5, f_16_2, f_18_3, f_18_4, f_18_5, f_18_6, f_23_0, f_23_1, f_23_2, f_23_3, f_23_4, f_24_2, f_24_3, f_24_4, f_24_5, f_33_3, f_33_4, f_33_5, f_33_6, f_38_1, f_38_2, f_41_0, f_161_0, f_161_1, f_161_3, f_161_7, f_161_12, f_161_13, f_161_14, f_161_15, f_161_16, f_161_17, f_161_18, f_161_19, f_161_21, f_161_22, f_161_25, true_and, and_true, true_or, or_true, if_true, if_false, ne_eq, not_false_eq_true, and_self, t10, am_psh, am_clr, not_true_eq_false, Nat.reduceEqDiff, ix171 (L := L) g (by omega), n_cl (show g < 2 ^ 31 by omega), h171 g hg]
    cases h : vp s g with
    | none =>
      rw [if_pos (show enc (-107) none = -107 from rfl), hc.2.2.1 g hg h]
    | some p =>
      obtain ⟨h1, h2, h3⟩ := hc.2.2.2.1 g p hg h
      rw [if_neg (show ¬ enc (-107) (some p) = -107 from of_eq_false (n_ne_none (show p < 2 ^ 31 by omega))), h3]
      exact ih (vk s - p) (by omega) p (by omega) h2
theorem c_top (hc : cOK G al s) (hk : vk s ≤ 15) (h171 : ∀ g, g < vk s → I 171 g = enc (-107) (vp s g)) (hg : g < vk s) : am_C (d + 1) 143 [.ref 161, .int (nI g)] (cS L) I J Q = Q (some (.int (nI (vt s g)))) (cS L) I J := by
  rw [e143]
  simp only [r143_0, r143_1]
  exact top_loop hc hk h171 (vk s - g) g (by omega) hg
theorem low_loop (ha : a < 32) {k t h : Nat} (h1 : I 162 (3 + a) = nI t) (h2 : I 162 (35 + a) = nI h) (hk : k ≤ 15) (hc : I 161 20 = nI k) (c : Int32) :
    ∀ (n j : Nat), j + n = k → am_T (d + 1) 142 9 [some (.ref 161), some (.int (nI a)), some (.int (redN c (I 169) (I 170) t h j)), some (.int (nI j))] [] (cS L) I J Q = Q (some (.int (redN c (I 169) (I 170) t h k))) (cS L) I J := by
  intro n
  induction n with
  | zero =>
    intro j hj
    have hj : j = k := by omega
    subst hj
    rw [r142_9]
    simp only [r142_10, r142_11, r142_14, r142_65, r142_66, s_1, s_2, s_3, s_8, s_16, s_18, s_23, s_24, s_33, s_38, s_41, s_161, f_1_0, f_1_1, f_1_4, f_1_5, f_1_8, f_1_9, f_1_10, f_1_11, f_1_12, f_1_13, f_2_0, f_2_1, f_3_3, f_3_4, f_3_5, f_3_6, f_8_2, f_8_3, f_8_4, f_8_5, f_16_2, f_18_3, f_18_4, f_18_5, f_18_6, f_23_0, f_23_1, f_23_2, f_23_3, f_23_4, f_24_2, f_24_3, f_24_4, f_24_5, f_33_3, f_33_4, f_33_5, f_33_6, f_38_1, f_38_2, f_41_0, f_161_0, f_161_1, f_161_3, f_161_7, f_161_12, f_161_13, f_161_14, f_161_15, f_161_16, f_161_17, f_161_18, f_161_19, f_161_21, f_161_22, f_161_25, true_and, and_true, true_or, or_true, if_true, if_false, ne_eq, not_false_eq_true, and_self, t10, am_psh, am_clr, not_true_eq_false, Nat.reduceEqDiff, hc]
    rw [if_pos (Int32.le_refl _)]
  | succ n ih =>
    intro j hj
    rw [r142_9]
    simp only [r142_10, r142_11, r142_14, r142_17, r142_18, r142_19, r142_22, r142_23, r142_24, r142_25, r142_28, r142_29, r142_30, r142_31, r142_32, r142_33, r142_36, r142_38, r142_39, r142_40, r142_41, s_1, s_2, s_3, s_8, s_16, s_18, s_23, s_24, s_33, s_38, s_41, s_161, f_1_0, f_1_1, f_1_4, f_1_5, f_1_8, f_1_9, f_1_10, f_1_11, f_1_12, f_1_13, f_2_0, f_2_1, f_3_3, f_3_4, f_3_5, f_3_6, f_8_2, f_8_3, f_8_4, f_8_5, f_16_2, f_18_3, f_18_4, f_18_5, f_18_6, f_23_0, f_23_1, f_23_2, f_23_3, f_23_4, f_24_2, f_24_3, f_24_4, f_24_5, f_33_3, f_33_4, f_33_5, f_33_6, f_38_1, f_38_2, f_41_0, f_161_0, f_161_1, f_161_3, f_161_7, f_161_12, f_161_13, f_161_14, f_161_15, f_161_16, f_161_17, f_161_18, f_161_19, f_161_21, f_161_22, f_161_25, true_and, and_true, true_or, or_true, if_true, if_false, ne_eq, not_false_eq_true, and_self, t10, am_psh, am_clr, not_true_eq_false, Nat.reduceEqDiff, hc, ix169 (L := L) j (by omega), n_cl (show j < 2 ^ 31 by omega), show (3 : Int32) + nI a = nI (3 + a) from nI_add 3 a, show (35 : Int32) + nI a = nI (35 + a) from nI_add 35 a, mx (L := L) (3 + a) (by omega), mx (L := L) (35 + a) (by omega), n_cl (show 3 + a < 2 ^ 31 by omega), n_cl (show 35 + a < 2 ^ 31 by omega), h1, h2, c_isEnt]
    rw [if_neg (nI_ge (show j < k by omega) (by omega))]
    have ih := ih (j + 1) (by omega)
    rw [redN_s] at ih
    by_cases e : ent (I 169 j) t h
    · rw [if_pos e] at ih
      simp only [r142_44, r142_47, r142_48, r142_51, r142_52, r142_53, r142_56, r142_57, r142_58, r142_59, r142_62, s_1, s_2, s_3, s_8, s_16, s_18, s_23, s_24, s_33, s_38, s_41, s_161, f_1_0, f_1_1, f_1_4, f_1_5, f_1_8, f_1_9, f_1_10, f_1_11, f_1_12, f_1_13, f_2_0, f_2_1, f_3_3, f_3_4, f_3_5, f_3_6, f_8_2, f_8_3, f_8_4, f_8_5, f_16_2, f_18_3, f_18_4, f_18_5, f_18_6, f_23_0, f_23_1, f_23_2, f_23_3, f_23_4, f_24_2, f_24_3, f_24_4, f_24_5, f_33_3, f_33_4, f_33_5, f_33_6, f_38_1, f_38_2, f_41_0, f_161_0, f_161_1, f_161_3, f_161_7, f_161_12, f_161_13, f_161_14, f_161_15, f_161_16, f_161_17, f_161_18, f_161_19, f_161_21, f_161_22, f_161_25, true_and, and_true, true_or, or_true, if_true, if_false, ne_eq, not_false_eq_true, and_self, t10, am_psh, am_clr, not_true_eq_false, Nat.reduceEqDiff, b32_T e, ix170 (L := L) j (by omega), n_cl (show j < 2 ^ 31 by omega), nI_1]
      exact ih
    · rw [if_neg e] at ih
      simp only [r142_44, r142_47, r142_48, r142_51, r142_52, r142_53, r142_56, r142_57, r142_58, r142_59, r142_62, s_1, s_2, s_3, s_8, s_16, s_18, s_23, s_24, s_33, s_38, s_41, s_161, f_1_0, f_1_1, f_1_4, f_1_5, f_1_8, f_1_9, f_1_10, f_1_11, f_1_12, f_1_13, f_2_0, f_2_1, f_3_3, f_3_4, f_3_5, f_3_6, f_8_2, f_8_3, f_8_4, f_8_5, f_16_2, f_18_3, f_18_4, f_18_5, f_18_6, f_23_0, f_23_1, f_23_2, f_23_3, f_23_4, f_24_2, f_24_3, f_24_4, f_24_5, f_33_3, f_33_4, f_33_5, f_33_6, f_38_1, f_38_2, f_41_0, f_161_0, f_161_1, f_161_3, f_161_7, f_161_12, f_161_13, f_161_14, f_161_15, f_161_16, f_161_17, f_161_18, f_161_19, f_161_21, f_161_22, f_161_25, true_and, and_true, true_or, or_true, if_true, if_false, ne_eq, not_false_eq_true, and_self, t10, am_psh, am_clr, not_true_eq_false, Nat.reduceEqDiff, b32_F e, nI_1, i_sub0]
      exact ih
theorem c_low (hG : okG G) (hk : vk s ≤ 15) (hm : mG (I 162) G) (hs : mC I s) (hp : mP I G pr al) (ha : a < gm G) : am_C (d + 2) 142 [.ref 161, .int (nI a)] (cS L) I J Q = Q (some (.int (cred G pr s a))) (cS L) I J := by
  have hm32 := hG.1.2.2.2
  have e : cred G pr s a = redN (pr a) (I 169) (I 170) (gt G a) (gh G a) (vk s) := redN_congr (vk s) (fun q hq => ⟨(hs.2 q hq).1.symm, (hs.2 q hq).2.1.symm⟩)
  rw [e142, e]
  simp only [r142_0, r142_1, r142_4, r142_5, r142_6, r142_7, r142_8, s_1, s_2, s_3, s_8, s_16, s_18, s_23, s_24, s_33, s_38, s_41, s_161, f_1_0, f_1_1, f_1_4, f_1_5, f_1_8, f_1_9, f_1_10, f_1_11, f_1_12, f_1_13, f_2_0, f_2_1, f_3_3, f_3_4, f_3_5, f_3_6, f_8_2, f_8_3, f_8_4, f_8_5, f_16_2, f_18_3, f_18_4, f_18_5, f_18_6, f_23_0, f_23_1, f_23_2, f_23_3, f_23_4, f_24_2, f_24_3, f_24_4, f_24_5, f_33_3, f_33_4, f_33_5, f_33_6, f_38_1, f_38_2, f_41_0, f_161_0, f_161_1, f_161_3, f_161_7, f_161_12, f_161_13, f_161_14, f_161_15, f_161_16, f_161_17, f_161_18, f_161_19, f_161_21, f_161_22, f_161_25, true_and, and_true, true_or, or_true, if_true, if_false, ne_eq, not_false_eq_true, and_self, t10, am_psh, am_clr, not_true_eq_false, Nat.reduceEqDiff, ix167 (L := L) a (by omega), n_cl (show a < 2 ^ 31 by omega), (hp a ha).1]
  exact low_loop (show a < 32 by omega) (hm.2.1 a ha).1 (hm.2.1 a ha).2.1 hk hs.1 (pr a) (vk s) 0 (by omega)
theorem mnext_loop (hG : okG G) (hc : cOK G al s) (hm : mG (I 162) G) (hs : mC I s) : ∀ (n j : Nat) (l2 : Option Value), j + n = gn G → am_T (d + 1) 145 2 [some (.ref 161), some (.int (nI j)), l2] [] (cS L) I J Q = Q (some (.int (enc (-107) (nxF (cnP G s) (vt s) n j)))) (cS L) I J := by
  have hn := hG.1.2.1
  have hr := hG.1.2.2.1
  have hm32 := hG.1.2.2.2
  have hk := ck_le hG hc
  have y0 : am_ix (cS L) 162 20 0 := mx 0 (by omega)
  have y1 : am_ix (cS L) 162 20 1 := mx 1 (by omega)
  intro n
  induction n with
  | zero =>
    intro j l2 hj
    have : j = gn G := by omega
    subst this
    rw [r145_2]
    simp only [r145_3, r145_4, r145_7, r145_8, r145_9, r145_55, r145_57, s_1, s_2, s_3, s_8, s_16, s_18, s_23, s_24, s_33, s_38, s_41, s_161, f_1_0, f_1_1, f_1_4, f_1_5, f_1_8, f_1_9, f_1_10, f_1_11, f_1_12, f_1_13, f_2_0, f_2_1, f_3_3, f_3_4, f_3_5, f_3_6, f_8_2, f_8_3, f_8_4, f_8_5, f_16_2, f_18_3, f_18_4, f_18_5, f_18_6, f_23_0, f_23_1, f_23_2, f_23_3, f_23_4, f_24_2, f_24_3, f_24_4, f_24_5, f_33_3, f_33_4, f_33_5, f_33_6, f_38_1, f_38_2, f_41_0, f_161_0, f_161_1, f_161_3, f_161_7, f_161_12, f_161_13, f_161_14, f_161_15, f_161_16, f_161_17, f_161_18, f_161_19, f_161_21, f_161_22, f_161_25, true_and, and_true, true_or, or_true, if_true, if_false, ne_eq, not_false_eq_true, and_self, t10, am_psh, am_clr, not_true_eq_false, Nat.reduceEqDiff, y0, show (0 : Int32).toNatClampNeg = 0 from by decide, hm.1.1]
    rw [if_pos (Int32.le_refl _)]
    rfl
  | succ n ih =>
    intro j l2 hj
    have hjk : j < vk s := by have := hc.1; omega
    obtain ⟨ht, htp⟩ := hc.2.1 j hjk
    have hbit : bit (vs s (vt s j)) (gr G) = 1 ↔ j = gr G := by
      rw [hc.2.2.2.2.1 _ (gr G) ht htp (by omega), hc.2.2.2.2.2.2.1.1]
      constructor
      · intro h
        rcases top_root hG hc hjk h.2.symm with q | q
        · exact q
        · omega
      · intro h; rw [h, hc.2.2.2.2.2.2.1.1]; exact ⟨hr, rfl⟩
    rw [r145_2]
    simp only [r145_3, r145_4, r145_7, r145_8, r145_9, r145_12, r145_13, r145_14, s_1, s_2, s_3, s_8, s_16, s_18, s_23, s_24, s_33, s_38, s_41, s_161, f_1_0, f_1_1, f_1_4, f_1_5, f_1_8, f_1_9, f_1_10, f_1_11, f_1_12, f_1_13, f_2_0, f_2_1, f_3_3, f_3_4, f_3_5, f_3_6, f_8_2, f_8_3, f_8_4, f_8_5, f_16_2, f_18_3, f_18_4, f_18_5, f_18_6, f_23_0, f_23_1, f_23_2, f_23_3, f_23_4, f_24_2, f_24_3, f_24_4, f_24_5, f_33_3, f_33_4, f_33_5, f_33_6, f_38_1, f_38_2, f_41_0, f_161_0, f_161_1, f_161_3, f_161_7, f_161_12, f_161_13, f_161_14, f_161_15, f_161_16, f_161_17, f_161_18, f_161_19, f_161_21, f_161_22, f_161_25, true_and, and_true, true_or, or_true, if_true, if_false, ne_eq, not_false_eq_true, and_self, t10, am_psh, am_clr, not_true_eq_false, Nat.reduceEqDiff, y0, show (0 : Int32).toNatClampNeg = 0 from by decide, hm.1.1]
    rw [if_neg (nI_ge (show j < gn G by omega) (by omega)), c_top hc (by omega) (fun q hq => (hs.2 q hq).2.2.1) hjk]
    simp only [r145_17, r145_18, r145_19, r145_22, r145_23, r145_24, r145_26, r145_29, r145_30, r145_33, r145_34, r145_35, r145_36, r145_39, r145_40, r145_41, r145_42, r145_43, r145_44, r145_47, r145_48, r145_49, r145_52, s_1, s_2, s_3, s_8, s_16, s_18, s_23, s_24, s_33, s_38, s_41, s_161, f_1_0, f_1_1, f_1_4, f_1_5, f_1_8, f_1_9, f_1_10, f_1_11, f_1_12, f_1_13, f_2_0, f_2_1, f_3_3, f_3_4, f_3_5, f_3_6, f_8_2, f_8_3, f_8_4, f_8_5, f_16_2, f_18_3, f_18_4, f_18_5, f_18_6, f_23_0, f_23_1, f_23_2, f_23_3, f_23_4, f_24_2, f_24_3, f_24_4, f_24_5, f_33_3, f_33_4, f_33_5, f_33_6, f_38_1, f_38_2, f_41_0, f_161_0, f_161_1, f_161_3, f_161_7, f_161_12, f_161_13, f_161_14, f_161_15, f_161_16, f_161_17, f_161_18, f_161_19, f_161_21, f_161_22, f_161_25, true_and, and_true, true_or, or_true, if_true, if_false, ne_eq, not_false_eq_true, and_self, t10, am_psh, am_clr, not_true_eq_false, Nat.reduceEqDiff, y1, show (1 : Int32).toNatClampNeg = 1 from by decide, hm.1.2.1, ix172 (L := L) (vt s j) (by omega), ix169 (L := L) (vt s j) (by omega), n_cl (show vt s j < 2 ^ 31 by omega), (hs.2 _ ht).2.2.2, (hs.2 _ ht).1, nI_1]
    unfold nxF
    have key : (cnP G s j = true) ↔ (j ≠ gr G ∧ vl s (vt s j) = none) := cnP_iff
    by_cases e2 : vl s (vt s j) = none
    · rw [if_pos (show enc (-107) (vl s (vt s j)) = -107 by rw [e2]; rfl)]
      by_cases e1 : j = gr G
      · rw [if_neg (fun q => (key.mp q).1 e1), if_neg (show ¬ vs s (vt s j) >>> (nI (gr G) &&& 31) &&& 1 = 0 from fun q => by have h1 := hbit.mpr e1; exact absurd (h1.symm.trans q) (by decide))]
        exact ih (j + 1) _ (by omega)
      · rw [if_pos (key.mpr ⟨e1, e2⟩), if_pos (show vs s (vt s j) >>> (nI (gr G) &&& 31) &&& 1 = 0 from bit_0.mpr (fun q => e1 (hbit.mp q)))]
        rfl
    · rw [if_neg (fun q => e2 (key.mp q).2), if_neg (fun q => e2 ((enc_none (fun p hp => by have := (hc.2.2.2.2.2.2.2.1 _ p ht hp).1; omega)).mp q))]
      exact ih (j + 1) _ (by omega)
theorem c_mnext (hG : okG G) (hc : cOK G al s) (hm : mG (I 162) G) (hs : mC I s) : am_C (d + 2) 145 [.ref 161] (cS L) I J Q = Q (some (.int (enc (-107) (cnext G s)))) (cS L) I J := by
  rw [e145]
  simp only [r145_0, r145_1]
  exact mnext_loop hG hc hm hs (gn G) 0 _ (by omega)
def lsV (r : Nat → Int32) (b : Option Nat) : Int32 := match b with
  | none => 0
  | some x => r x
theorem msel_loop (hG : okG G) (hk : vk s ≤ 15) (hg : g < vk s) (hm : mG (I 162) G) (hs : mC I s) (hp : mP I G pr al) : ∀ (n j : Nat) (b : Option Nat) (l5 : Option Value), j + n = gm G → (∀ y, b = some y → y < gm G) → ∃ l5', ∀ Q, am_T (d + 2) 146 8 [some (.ref 161), some (.int (nI g)), some (.int (enc (-107) b)), some (.int (lsV (cred G pr s) b)), some (.int (nI j)), l5] [] (cS L) I J Q = am_T (d + 2) 146 92 [some (.ref 161), some (.int (nI g)), some (.int (enc (-107) (selF (caP G al s g) (cred G pr s) n j b))), some (.int (lsV (cred G pr s) (selF (caP G al s g) (cred G pr s) n j b))), some (.int (nI (gm G))), l5'] [] (cS L) I J Q := by
  have hm32 := hG.1.2.2.2
  have y2 : am_ix (cS L) 162 20 2 := mx 2 (by omega)
  intro n
  induction n with
  | zero =>
    intro j b l5 hj hb
    have : j = gm G := by omega
    subst this
    refine ⟨l5, fun Q => ?_⟩
    rw [r146_8]
    simp only [r146_10, r146_11, r146_14, r146_15, r146_16, s_1, s_2, s_3, s_8, s_16, s_18, s_23, s_24, s_33, s_38, s_41, s_161, f_1_0, f_1_1, f_1_4, f_1_5, f_1_8, f_1_9, f_1_10, f_1_11, f_1_12, f_1_13, f_2_0, f_2_1, f_3_3, f_3_4, f_3_5, f_3_6, f_8_2, f_8_3, f_8_4, f_8_5, f_16_2, f_18_3, f_18_4, f_18_5, f_18_6, f_23_0, f_23_1, f_23_2, f_23_3, f_23_4, f_24_2, f_24_3, f_24_4, f_24_5, f_33_3, f_33_4, f_33_5, f_33_6, f_38_1, f_38_2, f_41_0, f_161_0, f_161_1, f_161_3, f_161_7, f_161_12, f_161_13, f_161_14, f_161_15, f_161_16, f_161_17, f_161_18, f_161_19, f_161_21, f_161_22, f_161_25, true_and, and_true, true_or, or_true, if_true, if_false, ne_eq, not_false_eq_true, and_self, t10, am_psh, am_clr, not_true_eq_false, Nat.reduceEqDiff, y2, show (2 : Int32).toNatClampNeg = 2 from by decide, hm.1.2.2]
    rw [if_pos (Int32.le_refl _)]
    rfl
  | succ n ih =>
    intro j b l5 hj hb
    have hjm : j < gm G := by omega
    obtain ⟨m1, m2, -⟩ := hm.2.1 j hjm
    obtain ⟨p1, p2⟩ := hp j hjm
    show ∃ l5', ∀ Q, _ = am_T (d + 2) 146 92 [some (.ref 161), some (.int (nI g)), some (.int (enc (-107) (selF (caP G al s g) (cred G pr s) n (j + 1) (if caP G al s g j = true ∧ selB (cred G pr s) j b = true then some j else b)))), some (.int (lsV (cred G pr s) (selF (caP G al s g) (cred G pr s) n (j + 1) (if caP G al s g j = true ∧ selB (cred G pr s) j b = true then some j else b)))), some (.int (nI (gm G))), l5'] [] (cS L) I J Q
    have hd : ∀ Q, am_T (d + 2) 146 8 [some (.ref 161), some (.int (nI g)), some (.int (enc (-107) b)), some (.int (lsV (cred G pr s) b)), some (.int (nI j)), l5] [] (cS L) I J Q = am_T (d + 2) 146 26 [some (.ref 161), some (.int (nI g)), some (.int (enc (-107) b)), some (.int (lsV (cred G pr s) b)), some (.int (nI j)), l5] [.int (b32 (al j = true))] (cS L) I J Q := fun Q => by
      rw [r146_8]
      simp only [r146_10, r146_11, r146_14, r146_15, r146_16, r146_19, r146_20, r146_23, r146_25, s_1, s_2, s_3, s_8, s_16, s_18, s_23, s_24, s_33, s_38, s_41, s_161, f_1_0, f_1_1, f_1_4, f_1_5, f_1_8, f_1_9, f_1_10, f_1_11, f_1_12, f_1_13, f_2_0, f_2_1, f_3_3, f_3_4, f_3_5, f_3_6, f_8_2, f_8_3, f_8_4, f_8_5, f_16_2, f_18_3, f_18_4, f_18_5, f_18_6, f_23_0, f_23_1, f_23_2, f_23_3, f_23_4, f_24_2, f_24_3, f_24_4, f_24_5, f_33_3, f_33_4, f_33_5, f_33_6, f_38_1, f_38_2, f_41_0, f_161_0, f_161_1, f_161_3, f_161_7, f_161_12, f_161_13, f_161_14, f_161_15, f_161_16, f_161_17, f_161_18, f_161_19, f_161_21, f_161_22, f_161_25, true_and, and_true, true_or, or_true, if_true, if_false, ne_eq, not_false_eq_true, and_self, t10, am_psh, am_clr, not_true_eq_false, Nat.reduceEqDiff, y2, show (2 : Int32).toNatClampNeg = 2 from by decide, hm.1.2.2, ix168 (L := L) j (by omega), n_cl (show j < 2 ^ 31 by omega), p2]
      rw [if_neg (nI_ge hjm (by omega))]
    by_cases e1 : al j = true
    · have hd2 : ∀ Q, am_T (d + 2) 146 26 [some (.ref 161), some (.int (nI g)), some (.int (enc (-107) b)), some (.int (lsV (cred G pr s) b)), some (.int (nI j)), l5] [.int (b32 (al j = true))] (cS L) I J Q = am_T (d + 2) 146 57 [some (.ref 161), some (.int (nI g)), some (.int (enc (-107) b)), some (.int (lsV (cred G pr s) b)), some (.int (nI j)), l5] [.int (b32 (ent (vs s g) (gt G j) (gh G j)))] (cS L) I J Q := fun Q => by
        rw [b32_T e1]
        simp only [r146_26, r146_29, r146_30, r146_33, r146_34, r146_35, r146_36, r146_39, r146_40, r146_42, r146_43, r146_44, r146_45, r146_48, r146_50, r146_52, r146_53, r146_54, s_1, s_2, s_3, s_8, s_16, s_18, s_23, s_24, s_33, s_38, s_41, s_161, f_1_0, f_1_1, f_1_4, f_1_5, f_1_8, f_1_9, f_1_10, f_1_11, f_1_12, f_1_13, f_2_0, f_2_1, f_3_3, f_3_4, f_3_5, f_3_6, f_8_2, f_8_3, f_8_4, f_8_5, f_16_2, f_18_3, f_18_4, f_18_5, f_18_6, f_23_0, f_23_1, f_23_2, f_23_3, f_23_4, f_24_2, f_24_3, f_24_4, f_24_5, f_33_3, f_33_4, f_33_5, f_33_6, f_38_1, f_38_2, f_41_0, f_161_0, f_161_1, f_161_3, f_161_7, f_161_12, f_161_13, f_161_14, f_161_15, f_161_16, f_161_17, f_161_18, f_161_19, f_161_21, f_161_22, f_161_25, true_and, and_true, true_or, or_true, if_true, if_false, ne_eq, not_false_eq_true, and_self, t10, am_psh, am_clr, not_true_eq_false, Nat.reduceEqDiff, ix169 (L := L) g (by omega), n_cl (show g < 2 ^ 31 by omega), (hs.2 g hg).1, show (3 : Int32) + nI j = nI (3 + j) from nI_add 3 j, show (35 : Int32) + nI j = nI (35 + j) from nI_add 35 j, mx (L := L) (3 + j) (by omega), mx (L := L) (35 + j) (by omega), n_cl (show 3 + j < 2 ^ 31 by omega), n_cl (show 35 + j < 2 ^ 31 by omega), m1, m2, c_isEnt]
      by_cases e2 : ent (vs s g) (gt G j) (gh G j)
      · have key : caP G al s g j = true := caP_iff.mpr ⟨e1, e2.1, e2.2⟩
        cases b with
        | none =>
          rw [if_pos ⟨key, rfl⟩]
          obtain ⟨l5', h⟩ := ih (j + 1) (some j) (some (.int (cred G pr s j))) (by omega) (fun y hy => by cases hy; exact hjm)
          refine ⟨l5', fun Q => ?_⟩
          rw [hd, hd2, b32_T e2]
          simp only [r146_57, r146_60, r146_61, r146_63, s_1, s_2, s_3, s_8, s_16, s_18, s_23, s_24, s_33, s_38, s_41, s_161, f_1_0, f_1_1, f_1_4, f_1_5, f_1_8, f_1_9, f_1_10, f_1_11, f_1_12, f_1_13, f_2_0, f_2_1, f_3_3, f_3_4, f_3_5, f_3_6, f_8_2, f_8_3, f_8_4, f_8_5, f_16_2, f_18_3, f_18_4, f_18_5, f_18_6, f_23_0, f_23_1, f_23_2, f_23_3, f_23_4, f_24_2, f_24_3, f_24_4, f_24_5, f_33_3, f_33_4, f_33_5, f_33_6, f_38_1, f_38_2, f_41_0, f_161_0, f_161_1, f_161_3, f_161_7, f_161_12, f_161_13, f_161_14, f_161_15, f_161_16, f_161_17, f_161_18, f_161_19, f_161_21, f_161_22, f_161_25, true_and, and_true, true_or, or_true, if_true, if_false, ne_eq, not_false_eq_true, and_self, t10, am_psh, am_clr, not_true_eq_false, Nat.reduceEqDiff]
          rw [c_low hG hk hm hs hp hjm]
          simp only [r146_66, r146_68, r146_69, r146_71, r146_74, r146_76, r146_77, r146_80, r146_82, r146_83, r146_85, r146_86, r146_89, s_1, s_2, s_3, s_8, s_16, s_18, s_23, s_24, s_33, s_38, s_41, s_161, f_1_0, f_1_1, f_1_4, f_1_5, f_1_8, f_1_9, f_1_10, f_1_11, f_1_12, f_1_13, f_2_0, f_2_1, f_3_3, f_3_4, f_3_5, f_3_6, f_8_2, f_8_3, f_8_4, f_8_5, f_16_2, f_18_3, f_18_4, f_18_5, f_18_6, f_23_0, f_23_1, f_23_2, f_23_3, f_23_4, f_24_2, f_24_3, f_24_4, f_24_5, f_33_3, f_33_4, f_33_5, f_33_6, f_38_1, f_38_2, f_41_0, f_161_0, f_161_1, f_161_3, f_161_7, f_161_12, f_161_13, f_161_14, f_161_15, f_161_16, f_161_17, f_161_18, f_161_19, f_161_21, f_161_22, f_161_25, true_and, and_true, true_or, or_true, if_true, if_false, ne_eq, not_false_eq_true, and_self, t10, am_psh, am_clr, not_true_eq_false, Nat.reduceEqDiff, show enc (-107) none = -107 from rfl, nI_1]
          exact h Q
        | some y =>
          have hy := hb y rfl
          by_cases e3 : cred G pr s j < cred G pr s y
          · rw [if_pos ⟨key, decide_eq_true e3⟩]
            obtain ⟨l5', h⟩ := ih (j + 1) (some j) (some (.int (cred G pr s j))) (by omega) (fun y hy => by cases hy; exact hjm)
            refine ⟨l5', fun Q => ?_⟩
            rw [hd, hd2, b32_T e2]
            simp only [r146_57, r146_60, r146_61, r146_63, s_1, s_2, s_3, s_8, s_16, s_18, s_23, s_24, s_33, s_38, s_41, s_161, f_1_0, f_1_1, f_1_4, f_1_5, f_1_8, f_1_9, f_1_10, f_1_11, f_1_12, f_1_13, f_2_0, f_2_1, f_3_3, f_3_4, f_3_5, f_3_6, f_8_2, f_8_3, f_8_4, f_8_5, f_16_2, f_18_3, f_18_4, f_18_5, f_18_6, f_23_0, f_23_1, f_23_2, f_23_3, f_23_4, f_24_2, f_24_3, f_24_4, f_24_5, f_33_3, f_33_4, f_33_5, f_33_6, f_38_1, f_38_2, f_41_0, f_161_0, f_161_1, f_161_3, f_161_7, f_161_12, f_161_13, f_161_14, f_161_15, f_161_16, f_161_17, f_161_18, f_161_19, f_161_21, f_161_22, f_161_25, true_and, and_true, true_or, or_true, if_true, if_false, ne_eq, not_false_eq_true, and_self, t10, am_psh, am_clr, not_true_eq_false, Nat.reduceEqDiff]
            rw [c_low hG hk hm hs hp hjm]
            simp only [r146_66, r146_68, r146_69, r146_71, r146_74, r146_76, r146_77, r146_80, r146_82, r146_83, r146_85, r146_86, r146_89, s_1, s_2, s_3, s_8, s_16, s_18, s_23, s_24, s_33, s_38, s_41, s_161, f_1_0, f_1_1, f_1_4, f_1_5, f_1_8, f_1_9, f_1_10, f_1_11, f_1_12, f_1_13, f_2_0, f_2_1, f_3_3, f_3_4, f_3_5, f_3_6, f_8_2, f_8_3, f_8_4, f_8_5, f_16_2, f_18_3, f_18_4, f_18_5, f_18_6, f_23_0, f_23_1, f_23_2, f_23_3, f_23_4, f_24_2, f_24_3, f_24_4, f_24_5, f_33_3, f_33_4, f_33_5, f_33_6, f_38_1, f_38_2, f_41_0, f_161_0, f_161_1, f_161_3, f_161_7, f_161_12, f_161_13, f_161_14, f_161_15, f_161_16, f_161_17, f_161_18, f_161_19, f_161_21, f_161_22, f_161_25, true_and, and_true, true_or, or_true, if_true, if_false, ne_eq, not_false_eq_true, and_self, t10, am_psh, am_clr, not_true_eq_false, Nat.reduceEqDiff, show enc (-107) (some y) = nI y from rfl, show lsV (cred G pr s) (some y) = cred G pr s y from rfl, n_ne_none (show y < 2 ^ 31 by omega), nI_1]
            rw [if_neg (Int32.not_le.mpr e3)]
            exact h Q
          · rw [if_neg (fun q => e3 (of_decide_eq_true q.2))]
            obtain ⟨l5', h⟩ := ih (j + 1) (some y) (some (.int (cred G pr s j))) (by omega) hb
            refine ⟨l5', fun Q => ?_⟩
            rw [hd, hd2, b32_T e2]
            simp only [r146_57, r146_60, r146_61, r146_63, s_1, s_2, s_3, s_8, s_16, s_18, s_23, s_24, s_33, s_38, s_41, s_161, f_1_0, f_1_1, f_1_4, f_1_5, f_1_8, f_1_9, f_1_10, f_1_11, f_1_12, f_1_13, f_2_0, f_2_1, f_3_3, f_3_4, f_3_5, f_3_6, f_8_2, f_8_3, f_8_4, f_8_5, f_16_2, f_18_3, f_18_4, f_18_5, f_18_6, f_23_0, f_23_1, f_23_2, f_23_3, f_23_4, f_24_2, f_24_3, f_24_4, f_24_5, f_33_3, f_33_4, f_33_5, f_33_6, f_38_1, f_38_2, f_41_0, f_161_0, f_161_1, f_161_3, f_161_7, f_161_12, f_161_13, f_161_14, f_161_15, f_161_16, f_161_17, f_161_18, f_161_19, f_161_21, f_161_22, f_161_25, true_and, and_true, true_or, or_true, if_true, if_false, ne_eq, not_false_eq_true, and_self, t10, am_psh, am_clr, not_true_eq_false, Nat.reduceEqDiff]
            rw [c_low hG hk hm hs hp hjm]
            simp only [r146_66, r146_68, r146_69, r146_71, r146_74, r146_76, r146_77, r146_80, r146_82, r146_83, r146_85, r146_86, r146_89, s_1, s_2, s_3, s_8, s_16, s_18, s_23, s_24, s_33, s_38, s_41, s_161, f_1_0, f_1_1, f_1_4, f_1_5, f_1_8, f_1_9, f_1_10, f_1_11, f_1_12, f_1_13, f_2_0, f_2_1, f_3_3, f_3_4, f_3_5, f_3_6, f_8_2, f_8_3, f_8_4, f_8_5, f_16_2, f_18_3, f_18_4, f_18_5, f_18_6, f_23_0, f_23_1, f_23_2, f_23_3, f_23_4, f_24_2, f_24_3, f_24_4, f_24_5, f_33_3, f_33_4, f_33_5, f_33_6, f_38_1, f_38_2, f_41_0, f_161_0, f_161_1, f_161_3, f_161_7, f_161_12, f_161_13, f_161_14, f_161_15, f_161_16, f_161_17, f_161_18, f_161_19, f_161_21, f_161_22, f_161_25, true_and, and_true, true_or, or_true, if_true, if_false, ne_eq, not_false_eq_true, and_self, t10, am_psh, am_clr, not_true_eq_false, Nat.reduceEqDiff, show enc (-107) (some y) = nI y from rfl, show lsV (cred G pr s) (some y) = cred G pr s y from rfl, n_ne_none (show y < 2 ^ 31 by omega), nI_1]
            rw [if_pos (Int32.not_lt.mp e3)]
            exact h Q
      · rw [if_neg (fun q => e2 (caP_iff.mp q.1).2)]
        obtain ⟨l5', h⟩ := ih (j + 1) b l5 (by omega) hb
        refine ⟨l5', fun Q => ?_⟩
        rw [hd, hd2, b32_F e2]
        simp only [r146_57, r146_86, r146_89, s_1, s_2, s_3, s_8, s_16, s_18, s_23, s_24, s_33, s_38, s_41, s_161, f_1_0, f_1_1, f_1_4, f_1_5, f_1_8, f_1_9, f_1_10, f_1_11, f_1_12, f_1_13, f_2_0, f_2_1, f_3_3, f_3_4, f_3_5, f_3_6, f_8_2, f_8_3, f_8_4, f_8_5, f_16_2, f_18_3, f_18_4, f_18_5, f_18_6, f_23_0, f_23_1, f_23_2, f_23_3, f_23_4, f_24_2, f_24_3, f_24_4, f_24_5, f_33_3, f_33_4, f_33_5, f_33_6, f_38_1, f_38_2, f_41_0, f_161_0, f_161_1, f_161_3, f_161_7, f_161_12, f_161_13, f_161_14, f_161_15, f_161_16, f_161_17, f_161_18, f_161_19, f_161_21, f_161_22, f_161_25, true_and, and_true, true_or, or_true, if_true, if_false, ne_eq, not_false_eq_true, and_self, t10, am_psh, am_clr, not_true_eq_false, Nat.reduceEqDiff, nI_1]
        exact h Q
    · rw [if_neg (fun q => e1 (caP_iff.mp q.1).1)]
      obtain ⟨l5', h⟩ := ih (j + 1) b l5 (by omega) hb
      refine ⟨l5', fun Q => ?_⟩
      rw [hd, b32_F e1]
      simp only [r146_26, r146_86, r146_89, s_1, s_2, s_3, s_8, s_16, s_18, s_23, s_24, s_33, s_38, s_41, s_161, f_1_0, f_1_1, f_1_4, f_1_5, f_1_8, f_1_9, f_1_10, f_1_11, f_1_12, f_1_13, f_2_0, f_2_1, f_3_3, f_3_4, f_3_5, f_3_6, f_8_2, f_8_3, f_8_4, f_8_5, f_16_2, f_18_3, f_18_4, f_18_5, f_18_6, f_23_0, f_23_1, f_23_2, f_23_3, f_23_4, f_24_2, f_24_3, f_24_4, f_24_5, f_33_3, f_33_4, f_33_5, f_33_6, f_38_1, f_38_2, f_41_0, f_161_0, f_161_1, f_161_3, f_161_7, f_161_12, f_161_13, f_161_14, f_161_15, f_161_16, f_161_17, f_161_18, f_161_19, f_161_21, f_161_22, f_161_25, true_and, and_true, true_or, or_true, if_true, if_false, ne_eq, not_false_eq_true, and_self, t10, am_psh, am_clr, not_true_eq_false, Nat.reduceEqDiff, nI_1]
      exact h Q
theorem c_selects (hG : okG G) (hk : vk s ≤ 15) (hg : g < vk s) (hm : mG (I 162) G) (hs : mC I s) (hp : mP I G pr al) : am_C (d + 3) 146 [.ref 161, .int (nI g)] (cS L) I J Q = Q (some (.int (oB (csel G pr al s g)))) (cS L) (am_up (am_up I 172 g (enc (-107) (csel G pr al s g))) 170 g (lsV (cred G pr s) (csel G pr al s g))) J := by
  have hm32 := hG.1.2.2.2
  obtain ⟨l5, h⟩ := msel_loop (d := d) (L := L) (J := J) hG hk hg hm hs hp (gm G) 0 none none (by omega) (fun y hy => by cases hy)
  rw [e146]
  simp only [r146_0, r146_2, r146_3, r146_4, r146_5, r146_6, s_1, s_2, s_3, s_8, s_16, s_18, s_23, s_24, s_33, s_38, s_41, s_161, f_1_0, f_1_1, f_1_4, f_1_5, f_1_8, f_1_9, f_1_10, f_1_11, f_1_12, f_1_13, f_2_0, f_2_1, f_3_3, f_3_4, f_3_5, f_3_6, f_8_2, f_8_3, f_8_4, f_8_5, f_16_2, f_18_3, f_18_4, f_18_5, f_18_6, f_23_0, f_23_1, f_23_2, f_23_3, f_23_4, f_24_2, f_24_3, f_24_4, f_24_5, f_33_3, f_33_4, f_33_5, f_33_6, f_38_1, f_38_2, f_41_0, f_161_0, f_161_1, f_161_3, f_161_7, f_161_12, f_161_13, f_161_14, f_161_15, f_161_16, f_161_17, f_161_18, f_161_19, f_161_21, f_161_22, f_161_25, true_and, and_true, true_or, or_true, if_true, if_false, ne_eq, not_false_eq_true, and_self, t10, am_psh, am_clr, not_true_eq_false, Nat.reduceEqDiff]
  refine Eq.trans (h Q) ?_
  change am_T _ _ _ [_, _, some (.int (enc (-107) (csel G pr al s g))), some (.int (lsV (cred G pr s) (csel G pr al s g))), _, _] _ _ _ _ _ = _
  simp only [r146_92, r146_93, r146_96, r146_97, r146_98, r146_99, r146_100, r146_103, r146_104, r146_105, r146_106, r146_107, r146_109, r146_112, r146_113, r146_116, r146_117, s_1, s_2, s_3, s_8, s_16, s_18, s_23, s_24, s_33, s_38, s_41, s_161, f_1_0, f_1_1, f_1_4, f_1_5, f_1_8, f_1_9, f_1_10, f_1_11, f_1_12, f_1_13, f_2_0, f_2_1, f_3_3, f_3_4, f_3_5, f_3_6, f_8_2, f_8_3, f_8_4, f_8_5, f_16_2, f_18_3, f_18_4, f_18_5, f_18_6, f_23_0, f_23_1, f_23_2, f_23_3, f_23_4, f_24_2, f_24_3, f_24_4, f_24_5, f_33_3, f_33_4, f_33_5, f_33_6, f_38_1, f_38_2, f_41_0, f_161_0, f_161_1, f_161_3, f_161_7, f_161_12, f_161_13, f_161_14, f_161_15, f_161_16, f_161_17, f_161_18, f_161_19, f_161_21, f_161_22, f_161_25, true_and, and_true, true_or, or_true, if_true, if_false, ne_eq, not_false_eq_true, and_self, t10, am_psh, am_clr, not_true_eq_false, Nat.reduceEqDiff, iw172 (L := L) g (by omega), iw170 (L := L) g (by omega), n_cl (show g < 2 ^ 31 by omega)]
  cases e : csel G pr al s g with
  | none => rw [if_pos (show enc (-107) none = -107 from rfl)]; rfl
  | some a =>
    have := (csel_some e).1
    rw [if_neg (show ¬ enc (-107) (some a) = -107 from of_eq_false (n_ne_none (by omega)))]; rfl
theorem c_behind {q : Nat} (hG : okG G) (hc : cOK G al s) (hk : vk s ≤ 15) {l : Nat → Option Nat} (hl : ∀ q b, q < vk s → l q = some b → b < gm G) (hq : q < vk s) (hm : mG (I 162) G) (h171 : ∀ g, g < vk s → I 171 g = enc (-107) (vp s g)) (h172 : ∀ g, g < vk s → I 172 g = enc (-107) (l g)) : am_C (d + 2) 147 [.ref 161, .int (nI q)] (cS L) I J Q = Q (some (.int (match l q with | none => -107 | some b => nI (vt s (gt G b))))) (cS L) I J := by
  have hm32 := hG.1.2.2.2
  rw [e147]
  cases e : l q with
  | none =>
    simp only [r147_0, r147_1, r147_4, r147_5, r147_6, r147_8, r147_11, r147_13, r147_16, r147_17, r147_18, r147_21, r147_22, r147_23, r147_26, r147_27, r147_28, r147_29, r147_30, r147_33, s_1, s_2, s_3, s_8, s_16, s_18, s_23, s_24, s_33, s_38, s_41, s_161, f_1_0, f_1_1, f_1_4, f_1_5, f_1_8, f_1_9, f_1_10, f_1_11, f_1_12, f_1_13, f_2_0, f_2_1, f_3_3, f_3_4, f_3_5, f_3_6, f_8_2, f_8_3, f_8_4, f_8_5, f_16_2, f_18_3, f_18_4, f_18_5, f_18_6, f_23_0, f_23_1, f_23_2, f_23_3, f_23_4, f_24_2, f_24_3, f_24_4, f_24_5, f_33_3, f_33_4, f_33_5, f_33_6, f_38_1, f_38_2, f_41_0, f_161_0, f_161_1, f_161_3, f_161_7, f_161_12, f_161_13, f_161_14, f_161_15, f_161_16, f_161_17, f_161_18, f_161_19, f_161_21, f_161_22, f_161_25, true_and, and_true, true_or, or_true, if_true, if_false, ne_eq, not_false_eq_true, and_self, t10, am_psh, am_clr, not_true_eq_false, Nat.reduceEqDiff, ix172 (L := L) q (by omega), n_cl (show q < 2 ^ 31 by omega), h172 q hq, e, enc]
  | some b =>
    have hb := hl q b hq e
    have ht := (hG.2.1 b hb).1
    simp only [r147_0, r147_1, r147_4, r147_5, r147_6, r147_8, r147_11, r147_13, r147_16, r147_17, r147_18, r147_21, r147_22, r147_23, r147_26, r147_27, r147_28, r147_29, r147_30, r147_33, s_1, s_2, s_3, s_8, s_16, s_18, s_23, s_24, s_33, s_38, s_41, s_161, f_1_0, f_1_1, f_1_4, f_1_5, f_1_8, f_1_9, f_1_10, f_1_11, f_1_12, f_1_13, f_2_0, f_2_1, f_3_3, f_3_4, f_3_5, f_3_6, f_8_2, f_8_3, f_8_4, f_8_5, f_16_2, f_18_3, f_18_4, f_18_5, f_18_6, f_23_0, f_23_1, f_23_2, f_23_3, f_23_4, f_24_2, f_24_3, f_24_4, f_24_5, f_33_3, f_33_4, f_33_5, f_33_6, f_38_1, f_38_2, f_41_0, f_161_0, f_161_1, f_161_3, f_161_7, f_161_12, f_161_13, f_161_14, f_161_15, f_161_16, f_161_17, f_161_18, f_161_19, f_161_21, f_161_22, f_161_25, true_and, and_true, true_or, or_true, if_true, if_false, ne_eq, not_false_eq_true, and_self, t10, am_psh, am_clr, not_true_eq_false, Nat.reduceEqDiff, ix172 (L := L) q (by omega), n_cl (show q < 2 ^ 31 by omega), h172 q hq, e, enc, n_ne_none (show b < 2 ^ 31 by omega), show (3 : Int32) + nI b = nI (3 + b) from nI_add 3 b, mx (L := L) (3 + b) (by omega), n_cl (show 3 + b < 2 ^ 31 by omega), (hm.2.1 b hb).1]
    rw [c_top hc hk h171 (show gt G b < vk s by have := hc.1; omega)]
    simp only [r147_33, true_and, and_true, true_or, or_true, if_true, if_false, ne_eq, not_false_eq_true, and_self, t10, am_psh, am_clr, not_true_eq_false, Nat.reduceEqDiff]
end MC
