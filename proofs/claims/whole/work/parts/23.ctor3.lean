/-! ArborescenceFinder's constructor, a field a row -/
section CT3
variable {d : Nat} {S0 T : am_S} {I : am_I} {J : am_J} {Q : am_Q} {f : Nat → Nat} {n : Nat} {l1 : Option Value}
theorem fi_len (hn : n = S0.length + (T.length + 1)) : (S0 ++ ((8, 14, f) : Nat × Nat × (Nat → Nat)) :: T).length = n := by rw [List.length_append, List.length_cons]; exact hn.symm
theorem fi_sr (S0 T U : am_S) (f : Nat → Nat) (k v : Nat) : am_sr (S0 ++ ((8, 14, f) : Nat × Nat × (Nat → Nat)) :: T ++ U) S0.length k v = S0 ++ (8, 14, fun i => if i = k then v else f i) :: (T ++ U) := by
  rw [List.append_assoc, List.cons_append, sh_sr0]; rfl
theorem fi_0 (h0 : 0 < S0.length) (hn : n = S0.length + (T.length + 1)) (hZ : am_Zr n I J) : am_T (d + 3) 57 4 [some (.ref S0.length), l1] [] (S0 ++ (8, 14, f) :: T) I J Q = am_T (d + 3) 57 15 [some (.ref S0.length), l1] [] (S0 ++ (8, 14, fun i => if i = 0 then n else f i) :: (T ++ b_Sta n)) (g_Gra I (n + 1)) J Q := by
  have hl : (S0 ++ ((8, 14, f) : Nat × Nat × (Nat → Nat)) :: T).length = n := fi_len hn
  simp only [r57_4, r57_5, r57_8, r57_9, r57_12]
  rw [zr_I hZ (by omega), zr_J hZ (by omega), c_Sta_init (by omega) (by rw [hl]; exact zr_mono (by omega) hZ)]
  simp only [am_psh, r57_4, r57_5, r57_8, r57_9, r57_12, hl]
  rw [fi_sr, List.append_assoc, List.cons_append, sh_is0 _ _ _ h0, kd_c0]
  have hb : 0 < (b_Sta n).length := by simp [b_Sta, b_Gra, b_Grp]
  simp only [List.length_append, List.length_cons, true_and]
  rw [eq_true (show n ≠ 0 ∧ n < S0.length + (T.length + (b_Sta n).length + 1) by omega), true_and]
theorem fi_8 (h0 : 0 < S0.length) (hn : n = S0.length + (T.length + 1)) (hZ : am_Zr n I J) : am_T (d + 3) 57 39 [some (.ref S0.length), l1] [] (S0 ++ (8, 14, f) :: T) I J Q = am_T (d + 3) 57 50 [some (.ref S0.length), l1] [] (S0 ++ (8, 14, fun i => if i = 8 then n else f i) :: (T ++ b_Txt n)) (I) J Q := by
  have hl : (S0 ++ ((8, 14, f) : Nat × Nat × (Nat → Nat)) :: T).length = n := fi_len hn
  simp only [r57_39, r57_40, r57_43, r57_44, r57_47]
  rw [zr_I hZ (by omega), zr_J hZ (by omega), c_Txt_init (by omega) (by rw [hl]; exact zr_mono (by omega) hZ)]
  simp only [am_psh, r57_39, r57_40, r57_43, r57_44, r57_47, hl]
  rw [fi_sr, List.append_assoc, List.cons_append, sh_is0 _ _ _ h0, kd_c0]
  have hb : 0 < (b_Txt n).length := by simp [b_Txt]
  simp only [List.length_append, List.length_cons, true_and]
  rw [eq_true (show n ≠ 0 ∧ n < S0.length + (T.length + (b_Txt n).length + 1) by omega), true_and]
theorem fi_9 (h0 : 0 < S0.length) (hn : n = S0.length + (T.length + 1)) (hZ : am_Zr n I J) : am_T (d + 3) 57 50 [some (.ref S0.length), l1] [] (S0 ++ (8, 14, f) :: T) I J Q = am_T (d + 3) 57 61 [some (.ref S0.length), l1] [] (S0 ++ (8, 14, fun i => if i = 9 then n else f i) :: (T ++ b_Gra n)) (g_Gra I n) J Q := by
  have hl : (S0 ++ ((8, 14, f) : Nat × Nat × (Nat → Nat)) :: T).length = n := fi_len hn
  simp only [r57_50, r57_51, r57_54, r57_55, r57_58]
  rw [zr_I hZ (by omega), zr_J hZ (by omega), c_Gra_init (by omega) (by rw [hl]; exact zr_mono (by omega) hZ)]
  simp only [am_psh, r57_50, r57_51, r57_54, r57_55, r57_58, hl]
  rw [fi_sr, List.append_assoc, List.cons_append, sh_is0 _ _ _ h0, kd_c0]
  have hb : 0 < (b_Gra n).length := by simp [b_Gra]
  simp only [List.length_append, List.length_cons, true_and]
  rw [eq_true (show n ≠ 0 ∧ n < S0.length + (T.length + (b_Gra n).length + 1) by omega), true_and]
theorem fi_10 (h0 : 0 < S0.length) (hn : n = S0.length + (T.length + 1)) (hZ : am_Zr n I J) : am_T (d + 3) 57 61 [some (.ref S0.length), l1] [] (S0 ++ (8, 14, f) :: T) I J Q = am_T (d + 3) 57 72 [some (.ref S0.length), l1] [] (S0 ++ (8, 14, fun i => if i = 10 then n else f i) :: (T ++ b_Con n)) (I) J Q := by
  have hl : (S0 ++ ((8, 14, f) : Nat × Nat × (Nat → Nat)) :: T).length = n := fi_len hn
  simp only [r57_61, r57_62, r57_65, r57_66, r57_69]
  rw [zr_I hZ (by omega), zr_J hZ (by omega), c_Con_init (by omega) (by rw [hl]; exact zr_mono (by omega) hZ)]
  simp only [am_psh, r57_61, r57_62, r57_65, r57_66, r57_69, hl]
  rw [fi_sr, List.append_assoc, List.cons_append, sh_is0 _ _ _ h0, kd_c0]
  have hb : 0 < (b_Con n).length := by simp [b_Con, b_Grp]
  simp only [List.length_append, List.length_cons, true_and]
  rw [eq_true (show n ≠ 0 ∧ n < S0.length + (T.length + (b_Con n).length + 1) by omega), true_and]
theorem fi_11 (h0 : 0 < S0.length) (hn : n = S0.length + (T.length + 1)) (hZ : am_Zr n I J) : am_T (d + 3) 57 72 [some (.ref S0.length), l1] [] (S0 ++ (8, 14, f) :: T) I J Q = am_T (d + 3) 57 83 [some (.ref S0.length), l1] [] (S0 ++ (8, 14, fun i => if i = 11 then n else f i) :: (T ++ b_Lim n)) (I) J Q := by
  have hl : (S0 ++ ((8, 14, f) : Nat × Nat × (Nat → Nat)) :: T).length = n := fi_len hn
  simp only [r57_72, r57_73, r57_76, r57_77, r57_80]
  rw [zr_I hZ (by omega), zr_J hZ (by omega), c_Lim_init (by omega) (by rw [hl]; exact zr_mono (by omega) hZ)]
  simp only [am_psh, r57_72, r57_73, r57_76, r57_77, r57_80, hl]
  rw [fi_sr, List.append_assoc, List.cons_append, sh_is0 _ _ _ h0, kd_c0]
  have hb : 0 < (b_Lim n).length := by simp [b_Lim]
  simp only [List.length_append, List.length_cons, true_and]
  rw [eq_true (show n ≠ 0 ∧ n < S0.length + (T.length + (b_Lim n).length + 1) by omega), true_and]
theorem fi_12 (h0 : 0 < S0.length) (hn : n = S0.length + (T.length + 1)) (hZ : am_Zr n I J) : am_T (d + 3) 57 83 [some (.ref S0.length), l1] [] (S0 ++ (8, 14, f) :: T) I J Q = am_T (d + 3) 57 94 [some (.ref S0.length), l1] [] (S0 ++ (8, 14, fun i => if i = 12 then n else f i) :: (T ++ b_Pri n)) (I) J Q := by
  have hl : (S0 ++ ((8, 14, f) : Nat × Nat × (Nat → Nat)) :: T).length = n := fi_len hn
  simp only [r57_83, r57_84, r57_87, r57_88, r57_91]
  rw [zr_I hZ (by omega), zr_J hZ (by omega), c_Pri_init (by omega) (by rw [hl]; exact zr_mono (by omega) hZ)]
  simp only [am_psh, r57_83, r57_84, r57_87, r57_88, r57_91, hl]
  rw [fi_sr, List.append_assoc, List.cons_append, sh_is0 _ _ _ h0, kd_c0]
  have hb : 0 < (b_Pri n).length := by simp [b_Pri]
  simp only [List.length_append, List.length_cons, true_and]
  rw [eq_true (show n ≠ 0 ∧ n < S0.length + (T.length + (b_Pri n).length + 1) by omega), true_and]
theorem fi_13 (h0 : 0 < S0.length) (hn : n = S0.length + (T.length + 1)) (hZ : am_Zr n I J) : am_T (d + 3) 57 94 [some (.ref S0.length), l1] [] (S0 ++ (8, 14, f) :: T) I J Q = am_T (d + 3) 57 105 [some (.ref S0.length), l1] [] (S0 ++ (8, 14, fun i => if i = 13 then n else f i) :: (T ++ b_Cnt n)) (I) J Q := by
  have hl : (S0 ++ ((8, 14, f) : Nat × Nat × (Nat → Nat)) :: T).length = n := fi_len hn
  simp only [r57_94, r57_95, r57_98, r57_99, r57_102]
  rw [zr_I hZ (by omega), zr_J hZ (by omega), c_Cnt_init (by omega) (by rw [hl]; exact zr_mono (by omega) hZ)]
  simp only [am_psh, r57_94, r57_95, r57_98, r57_99, r57_102, hl]
  rw [fi_sr, List.append_assoc, List.cons_append, sh_is0 _ _ _ h0, kd_c0]
  have hb : 0 < (b_Cnt n).length := by simp [b_Cnt]
  simp only [List.length_append, List.length_cons, true_and]
  rw [eq_true (show n ≠ 0 ∧ n < S0.length + (T.length + (b_Cnt n).length + 1) by omega), true_and]
theorem fi_1 (h0 : 0 < S0.length) (hn : n = S0.length + (T.length + 1)) (hZ : am_Zr n I J) : am_T (d + 3) 57 15 [some (.ref S0.length), l1] [] (S0 ++ (8, 14, f) :: T) I J Q = am_T (d + 3) 57 24 [some (.ref S0.length), l1] [] (S0 ++ (8, 14, fun i => if i = 1 then n else f i) :: (T ++ [(24, 8, fun _ => 0)])) I J Q := by
  have hl : (S0 ++ ((8, 14, f) : Nat × Nat × (Nat → Nat)) :: T).length = n := fi_len hn
  simp only [r57_15, r57_16, r57_18, r57_21, nc_8, hl, and_self, true_and]
  rw [zr_I hZ (by omega), zr_J hZ (by omega), fi_sr, List.append_assoc, List.cons_append, sh_is0 _ _ _ h0, kd_c0]
  simp only [List.length_append, List.length_cons, List.length_nil, true_and]
  rw [eq_true (show n ≠ 0 ∧ n < S0.length + (T.length + (0 + 1) + 1) by omega), true_and]
theorem fi_4 (h0 : 0 < S0.length) (hn : n = S0.length + (T.length + 1)) (hZ : am_Zr n I J) : am_T (d + 3) 57 24 [some (.ref S0.length), l1] [] (S0 ++ (8, 14, f) :: T) I J Q = am_T (d + 3) 57 32 [some (.ref S0.length), l1] [] (S0 ++ (8, 14, fun i => if i = 4 then n else f i) :: (T ++ [(24, 2, fun _ => 0)])) I J Q := by
  have hl : (S0 ++ ((8, 14, f) : Nat × Nat × (Nat → Nat)) :: T).length = n := fi_len hn
  simp only [r57_24, r57_25, r57_26, r57_29, nc_2, hl, and_self, true_and]
  rw [zr_I hZ (by omega), zr_J hZ (by omega), fi_sr, List.append_assoc, List.cons_append, sh_is0 _ _ _ h0, kd_c0]
  simp only [List.length_append, List.length_cons, List.length_nil, true_and]
  rw [eq_true (show n ≠ 0 ∧ n < S0.length + (T.length + (0 + 1) + 1) by omega), true_and]
theorem fi_5 (h0 : 0 < S0.length) (hn : n = S0.length + (T.length + 1)) (hZ : am_Zr n I J) : am_T (d + 3) 57 32 [some (.ref S0.length), l1] [] (S0 ++ (8, 14, f) :: T) I J Q = am_T (d + 3) 57 39 [some (.ref S0.length), l1] [] (S0 ++ (8, 14, fun i => if i = 5 then n else f i) :: (T ++ [(21, 2, fun _ => 0)])) I J Q := by
  have hl : (S0 ++ ((8, 14, f) : Nat × Nat × (Nat → Nat)) :: T).length = n := fi_len hn
  simp only [r57_32, r57_33, r57_34, r57_36, nc_2, hl, and_self, true_and]
  rw [zr_I hZ (by omega), zr_J hZ (by omega), fi_sr, List.append_assoc, List.cons_append, sh_is0 _ _ _ h0, kd_c0]
  simp only [List.length_append, List.length_cons, List.length_nil, true_and]
  rw [eq_true (show n ≠ 0 ∧ n < S0.length + (T.length + (0 + 1) + 1) by omega), true_and]
end CT3
