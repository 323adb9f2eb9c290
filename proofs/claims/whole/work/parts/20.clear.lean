/-! Graph.clear, and the constructors -/
def am_fil (I : am_I) (q k : Nat) (x : Int32) : am_I := am_row I q (fun j => if j < k then x else I q j)
theorem fil_0 (I : am_I) (q : Nat) (x : Int32) : am_fil I q 0 x = I := row_id (by funext j; simp)
theorem fil_up (I : am_I) (q k : Nat) (x : Int32) : am_up (am_fil I q k x) q k x = am_fil I q (k + 1) x := by
  unfold am_fil
  rw [up_row, row_row]
  congr 1
  funext j
  rw [row_self]
  by_cases e : j = k
  · subst e; simp
  · by_cases g : j < k
    · simp [e, g, Nat.lt_succ_of_lt g]
    · simp [e, g, show ¬ j < k + 1 by omega]
section GC
variable {d : Nat} {S : am_S} {I : am_I} {J : am_J} {Q : am_Q}
theorem c_Gra_clear_loop {g q : Nat} (h1 : am_is S g 1) (h2 : am_rf S g 6 = q) (h3 : am_kd S q = 20) (h4 : am_ln S q = 8) (h0 : q ≠ 0) (x y : Int32) :
    ∀ (n k : Nat) (l2 : Option Value), k + n = 8 → am_T d 11 17 [some (.ref g), some (.int x), l2, some (.int (nI k))] [] S (am_fil I q k 7) J Q = Q none S (am_fil I q 8 7) J := by
  intro n
  induction n with
  | zero =>
    intro k l2 hk
    have hk : k = 8 := by omega
    subst hk
    rw [r11_17]
    simp only [r11_0, r11_1, r11_2, r11_5, r11_6, r11_7, r11_10, r11_11, r11_12, r11_15, r11_16, r11_18, r11_20, r11_23, r11_24, r11_27, r11_28, r11_30, r11_31, r11_34, r11_37]
    rw [if_pos (by decide)]
  | succ n ih =>
    intro k l2 hk
    rw [r11_17]
    simp only [r11_0, r11_1, r11_2, r11_5, r11_6, r11_7, r11_10, r11_11, r11_12, r11_15, r11_16, r11_18, r11_20, r11_23, r11_24, r11_27, r11_28, r11_30, r11_31, r11_34, r11_37, h1, h2, h0, ne_eq, not_false_eq_true, and_self, true_and]
    rw [if_neg (show ¬ (8 : Int32) ≤ nI k from fun h => absurd ((nI_leI (a := 8) (by omega) (by omega)).mp h) (by omega))]
    rw [n_cl (by omega), fil_up, nI_1, ih (k + 1) _ (by omega)]
    simp only [ixw_nI h3 h0 h4 (show k < 8 by omega) (by omega), true_and]
theorem c_Gra_clear {g q : Nat} {x y : Int32} (h1 : am_is S g 1) (h2 : am_rf S g 6 = q) (h3 : am_kd S q = 20) (h4 : am_ln S q = 8) (h0 : q ≠ 0) :
    am_C (d + 1) 11 [.ref g, .int x, .int y] S I J Q = Q none S (am_fil (am_up (am_up (am_up I g 0 x) g 1 y) g 2 0) q 8 7) J := by
  rw [e11]
  simp only [r11_0, r11_1, r11_2, r11_5, r11_6, r11_7, r11_10, r11_11, r11_12, r11_15, r11_16, r11_18, r11_20, r11_23, r11_24, r11_27, r11_28, r11_30, r11_31, r11_34, r11_37, h1, true_and]
  have := c_Gra_clear_loop (d := d) (Q := Q) (J := J) (I := am_up (am_up (am_up I g 0 x) g 1 y) g 2 0) h1 h2 h3 h4 h0 x y 8 0 (am_clr (some (.int y))) rfl
  rw [fil_0] at this
  exact this
end GC
