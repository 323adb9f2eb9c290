/-! the law's first rows: both objects are made -/
def cI (xs : Nat → Int32) : am_I := am_row (cI3 (am_I0 xs)) 162 (g_clr (fun _ => 0) 5 0)
section LW
variable {Q : am_Q} {d : Nat}
theorem zr_0 (xs : Nat → Int32) : am_Zr 1 (am_I0 xs) am_J0 := by
  intro b hb
  refine ⟨?_, rfl⟩
  funext j; unfold am_I0; rw [if_neg (by omega)]
theorem law_0 (L : Nat) (xs : Nat → Int32) : am_T (d + 4) 185 0 [some (.ref 0), none, none, none] [] (am_S0 L) (am_I0 xs) am_J0 Q = am_T (d + 4) 185 18 [some (.ref 0), some (.ref 1), some (.ref 161), some (.int 0)] [] (cS L) (cI xs) am_J0 Q := by
  have z := zr_0 xs
  have hzX : am_Zr (cX L (am_I0 xs)).1.length (cX L (am_I0 xs)).2 am_J0 := fi_zr _ _ _ _ (fi_zr _ _ _ _ (by rw [cB_len]; exact zr_mono (by omega) (zr_gra (n := 18) (zr_mono (by omega) (zr_gra (n := 3) (zr_mono (by omega) z))))))
  simp only [r185_0, r185_3, r185_4]
  rw [zr_I z (show 1 ≤ (am_S0 L).length from Nat.le_refl 1), zr_J z (show 1 ≤ (am_S0 L).length from Nat.le_refl 1), c_Fin_init L (zr_mono (by omega) z)]
  simp only [am_psh, r185_7, r185_8, r185_11, r185_12]
  rw [zr_I hzX (Nat.le_refl _), zr_J hzX (Nat.le_refl _), c_Mod_init (by rw [cX_len]; omega) (zr_mono (by omega) hzX)]
  simp only [am_psh, r185_15, r185_16, r185_17, am_clr]
  rw [cX_len, cS_eq, cX_eq]
  rfl
end LW
