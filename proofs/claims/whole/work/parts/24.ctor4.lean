/-! the rows of states; the model's constructor -/
def fi_it (q : Nat) : Nat → Nat → am_S → am_I → am_S × am_I
  | 0, _, S, I => (S, I)
  | n + 1, i, S, I => fi_it q n (i + 1) (am_sr (S ++ b_Sta S.length) q i S.length) (g_Gra I (S.length + 1))
/-- the row q of len states, which is field k of x -/
def fi_K (S : am_S) (x k q len : Nat) : Prop := (am_is S x 8 ∧ am_rf S x k = q) ∧ (q ≠ 0 ∧ am_kd S q = 24 ∧ am_ln S q = len) ∧ x ≠ q ∧ x < S.length ∧ q < S.length
theorem b_Sta_len (n : Nat) : (b_Sta n).length = 11 := by simp [b_Sta, b_Gra, b_Grp]
theorem fi_next {S : am_S} {x k q len i v : Nat} (h : fi_K S x k q len) : fi_K (am_sr (S ++ b_Sta S.length) q i v) x k q len := by
  obtain ⟨⟨h1, h2⟩, ⟨h3, h4, h5⟩, h6, h7, h8⟩ := h
  have hq : q < (S ++ b_Sta S.length).length := by rw [List.length_append]; omega
  refine ⟨⟨⟨?_, h1.2⟩, ?_⟩, ⟨h3, ?_, ?_⟩, h6, ?_, ?_⟩
  · rw [(am_sr_other h6).1, (am_kd_app h7).1]; exact h1.1
  · rw [(am_sr_other h6).2.2, (am_kd_app h7).2.2]; exact h2
  · rw [(am_sr_same hq).1, (am_kd_app h8).1]; exact h4
  · rw [(am_sr_same hq).2.1, (am_kd_app h8).2.1]; exact h5
  · rw [am_sr_len, List.length_append]; omega
  · rw [am_sr_len, List.length_append]; omega
section CT4
variable {d : Nat} {J : am_J} {Q : am_Q}
theorem fi_kept {x q : Nat} : ∀ (n i : Nat) (S : am_S) (I : am_I), n + i = 8 → fi_K S x 1 q 8 → am_Zr S.length I J → am_T (d + 3) 57 107 [some (.ref x), some (.int (nI i))] [] S I J Q = am_T (d + 3) 57 132 [some (.ref x), some (.int 8)] [] (fi_it q n i S I).1 (fi_it q n i S I).2 J Q := by
  intro n
  induction n with
  | zero =>
    intro i S I hi hK hZ
    have hi : i = 8 := by omega
    subst hi
    simp only [r57_107, r57_108, r57_110, r57_113, r57_114, r57_117, r57_118, r57_121, r57_122, r57_125, r57_126, r57_129]
    rw [if_pos (by decide)]; rfl
  | succ n ih =>
    intro i S I hi hK hZ
    have hK0 := hK
    obtain ⟨⟨h1, h2⟩, ⟨h3, h4, h5⟩, h6, h7, h8⟩ := hK
    rw [r57_107]
    simp only [r57_108, r57_110, r57_113, r57_114, r57_117, r57_118, r57_121, r57_122, r57_125, r57_126, h1, h2, h3, ne_eq, not_false_eq_true, and_self, true_and]
    rw [if_neg (show ¬ (8 : Int32) ≤ nI i from fun h => absurd ((nI_leI (a := 8) (by omega) (by omega)).mp h) (by omega))]
    rw [zr_I hZ (Nat.le_refl _), zr_J hZ (Nat.le_refl _), c_Sta_init (by omega) (zr_mono (by omega) hZ)]
    simp only [am_psh, r57_108, r57_110, r57_113, r57_114, r57_117, r57_118, r57_121, r57_122, r57_125, r57_126, r57_129, n_cl (show i < 2 ^ 31 by omega), n_ti (show i < 2 ^ 31 by omega), nI_1]
    have ha : (am_kd (S ++ b_Sta S.length) q = 24 ∧ ¬ q = 0 ∧ (0 ≤ (i : Int) ∧ (i : Int) < (am_ln (S ++ b_Sta S.length) q : Int)) ∧ am_kd (S ++ b_Sta S.length) S.length = 6 ∧ ¬ S.length = 0) := by
      refine ⟨by rw [(am_kd_app h8).1]; exact h4, h3, ⟨by omega, by rw [(am_kd_app h8).2.1, h5]; omega⟩, by have := sh_kd S (b_Sta S.length) 0; exact this, by omega⟩
    rw [eq_true ha, true_and]
    have hlen : (am_sr (S ++ b_Sta S.length) q i S.length).length = S.length + 11 := by rw [am_sr_len, List.length_append, b_Sta_len]
    exact ih (i + 1) _ _ (by omega) (fi_next hK0) (by rw [hlen]; exact zr_mono (by omega) (zr_gra (zr_mono (by omega) hZ)))
theorem fi_slots {x q : Nat} : ∀ (n i : Nat) (S : am_S) (I : am_I), n + i = 2 → fi_K S x 4 q 2 → am_Zr S.length I J → am_T (d + 3) 57 134 [some (.ref x), some (.int (nI i))] [] S I J Q = Q none (fi_it q n i S I).1 (fi_it q n i S I).2 J := by
  intro n
  induction n with
  | zero =>
    intro i S I hi hK hZ
    have hi : i = 2 := by omega
    subst hi
    simp only [r57_134, r57_135, r57_136, r57_139, r57_140, r57_143, r57_144, r57_147, r57_148, r57_151, r57_152, r57_155, r57_158]
    rw [if_pos (by decide)]; rfl
  | succ n ih =>
    intro i S I hi hK hZ
    have hK0 := hK
    obtain ⟨⟨h1, h2⟩, ⟨h3, h4, h5⟩, h6, h7, h8⟩ := hK
    rw [r57_134]
    simp only [r57_135, r57_136, r57_139, r57_140, r57_143, r57_144, r57_147, r57_148, r57_151, r57_152, h1, h2, h3, ne_eq, not_false_eq_true, and_self, true_and]
    rw [if_neg (show ¬ (2 : Int32) ≤ nI i from fun h => absurd ((nI_leI (a := 2) (by omega) (by omega)).mp h) (by omega))]
    rw [zr_I hZ (Nat.le_refl _), zr_J hZ (Nat.le_refl _), c_Sta_init (by omega) (zr_mono (by omega) hZ)]
    simp only [am_psh, r57_135, r57_136, r57_139, r57_140, r57_143, r57_144, r57_147, r57_148, r57_151, r57_152, r57_155, n_cl (show i < 2 ^ 31 by omega), n_ti (show i < 2 ^ 31 by omega), nI_1]
    have ha : (am_kd (S ++ b_Sta S.length) q = 24 ∧ ¬ q = 0 ∧ (0 ≤ (i : Int) ∧ (i : Int) < (am_ln (S ++ b_Sta S.length) q : Int)) ∧ am_kd (S ++ b_Sta S.length) S.length = 6 ∧ ¬ S.length = 0) := by
      refine ⟨by rw [(am_kd_app h8).1]; exact h4, h3, ⟨by omega, by rw [(am_kd_app h8).2.1, h5]; omega⟩, by have := sh_kd S (b_Sta S.length) 0; exact this, by omega⟩
    rw [eq_true ha, true_and]
    have hlen : (am_sr (S ++ b_Sta S.length) q i S.length).length = S.length + 11 := by rw [am_sr_len, List.length_append, b_Sta_len]
    exact ih (i + 1) _ _ (by omega) (fi_next hK0) (by rw [hlen]; exact zr_mono (by omega) (zr_gra (zr_mono (by omega) hZ)))
theorem c_Mod_clear_loop {S : am_S} {I : am_I} {m q : Nat} (h1 : am_is S m 9) (h2 : am_rf S m 0 = q) (h3 : am_kd S q = 20) (h4 : am_ln S q = 165) (h0 : q ≠ 0) (x : Int32) :
    ∀ (n k : Nat) (l2 : Option Value), k + n = 8 → am_T d 115 31 [some (.ref m), some (.int x), l2, some (.int (nI k))] [] S (am_row I q (fun j => if 99 ≤ j ∧ j < 99 + k then 7 else I q j)) J Q = Q none S (am_row I q (fun j => if 99 ≤ j ∧ j < 99 + 8 then 7 else I q j)) J := by
  intro n
  induction n with
  | zero =>
    intro k l2 hk
    have hk : k = 8 := by omega
    subst hk
    rw [r115_31]
    simp only [r115_0, r115_1, r115_4, r115_5, r115_6, r115_7, r115_8, r115_11, r115_12, r115_13, r115_14, r115_15, r115_18, r115_19, r115_20, r115_21, r115_22, r115_25, r115_27, r115_28, r115_29, r115_30, r115_32, r115_34, r115_37, r115_38, r115_41, r115_43, r115_44, r115_45, r115_47, r115_48, r115_51, r115_54]
    rw [if_pos (by decide)]
  | succ n ih =>
    intro k l2 hk
    rw [r115_31]
    simp only [r115_0, r115_1, r115_4, r115_5, r115_6, r115_7, r115_8, r115_11, r115_12, r115_13, r115_14, r115_15, r115_18, r115_19, r115_20, r115_21, r115_22, r115_25, r115_27, r115_28, r115_29, r115_30, r115_32, r115_34, r115_37, r115_38, r115_41, r115_43, r115_44, r115_45, r115_47, r115_48, r115_51, r115_54, h1, h2, h0, ne_eq, not_false_eq_true, and_self, true_and]
    rw [if_neg (show ¬ (8 : Int32) ≤ nI k from fun h => absurd ((nI_leI (a := 8) (by omega) (by omega)).mp h) (by omega))]
    rw [show (99 : Int32) + nI k = nI (99 + k) from nI_add 99 k, n_cl (by omega), nI_1]
    rw [eq_true (ixw_nI h3 h0 h4 (show 99 + k < 165 by omega) (by omega)), true_and, up_row, row_row]
    have e : (fun j => if j = 99 + k then 7 else am_row I q (fun j => if 99 ≤ j ∧ j < 99 + k then 7 else I q j) q j) = (fun j => if 99 ≤ j ∧ j < 99 + (k + 1) then (7 : Int32) else I q j) := by
      funext j
      rw [row_self]
      by_cases e : j = 99 + k
      · subst e; simp
      · by_cases g : 99 ≤ j ∧ j < 99 + k
        · rw [if_neg e, if_pos g, if_pos (by omega)]
        · rw [if_neg e, if_neg g, if_neg (by omega)]
    rw [e]
    exact ih (k + 1) _ (by omega)
/-- the row behind clear -/
def g_clr (w : Nat → Int32) (x y : Int32) : Nat → Int32 := fun j => if 99 ≤ j ∧ j < 107 then 7 else if j = 107 then 0 else if j = 2 then 0 else if j = 1 then y else if j = 0 then x else w j
theorem c_Mod_clear {S : am_S} {I : am_I} {m q : Nat} {x y : Int32} (h1 : am_is S m 9) (h2 : am_rf S m 0 = q) (h3 : am_kd S q = 20) (h4 : am_ln S q = 165) (h0 : q ≠ 0) :
    am_C (d + 1) 115 [.ref m, .int x, .int y] S I J Q = Q none S (am_row I q (g_clr (I q) x y)) J := by
  have i0 : am_ixw S q 20 0 := ixw_nI (k := 0) h3 h0 h4 (by omega) (by omega)
  have i1 : am_ixw S q 20 1 := ixw_nI (k := 1) h3 h0 h4 (by omega) (by omega)
  have i2 : am_ixw S q 20 2 := ixw_nI (k := 2) h3 h0 h4 (by omega) (by omega)
  have i3 : am_ixw S q 20 107 := ixw_nI (k := 107) h3 h0 h4 (by omega) (by omega)
  rw [e115]
  simp only [r115_0, r115_1, r115_4, r115_5, r115_6, r115_7, r115_8, r115_11, r115_12, r115_13, r115_14, r115_15, r115_18, r115_19, r115_20, r115_21, r115_22, r115_25, r115_27, r115_28, r115_29, r115_30, r115_32, r115_34, r115_37, r115_38, r115_41, r115_43, r115_44, r115_45, r115_47, r115_48, r115_51, r115_54, h1, h2, h0, ne_eq, not_false_eq_true, and_self, true_and, i0, i1, i2, i3, show (0 : Int32).toNatClampNeg = 0 from by decide, show (1 : Int32).toNatClampNeg = 1 from by decide, show (2 : Int32).toNatClampNeg = 2 from by decide, show (107 : Int32).toNatClampNeg = 107 from by decide, up_row, row_row, row_self]
  have := c_Mod_clear_loop (d := d) (Q := Q) (J := J) (I := am_row I q (fun j => if j = 107 then 0 else if j = 2 then 0 else if j = 1 then y else if j = 0 then x else I q j)) h1 h2 h3 h4 h0 x 8 0 (am_clr (some (.int y))) rfl
  rw [row_id (f := am_row I q (fun j => if j = 107 then 0 else if j = 2 then 0 else if j = 1 then y else if j = 0 then x else I q j)) (by funext j; rw [if_neg (by omega)]), row_row] at this
  refine Eq.trans this ?_
  congr 2
  funext j
  rw [row_self]
  rfl
end CT4
