/-! the two objects, made -/
def b_Mod (n : Nat) : am_S := [(9, 27, fun i => if i = 25 then n + 15 else if i = 22 then n + 14 else if i = 21 then n + 13 else if i = 19 then n + 12 else if i = 18 then n + 11 else if i = 17 then n + 10 else if i = 16 then n + 9 else if i = 15 then n + 8 else if i = 14 then n + 7 else if i = 13 then n + 6 else if i = 12 then n + 5 else if i = 7 then n + 4 else if i = 3 then n + 3 else if i = 1 then n + 2 else if i = 0 then n + 1 else 0), (20, 165, fun _ => 0), (20, 1320, fun _ => 0), (20, 330, fun _ => 0), (20, 300, fun _ => 0), (20, 100, fun _ => 0), (20, 32, fun _ => 0), (21, 32, fun _ => 0), (20, 16, fun _ => 0), (20, 16, fun _ => 0), (20, 16, fun _ => 0), (20, 16, fun _ => 0), (20, 16, fun _ => 0), (20, 8, fun _ => 0), (20, 8, fun _ => 0), (20, 8, fun _ => 0)]
section CT5
variable {d : Nat} {S0 : am_S} {I : am_I} {J : am_J} {Q : am_Q}
set_option maxHeartbeats 4000000 in
theorem c_Mod_init (h0 : 0 < S0.length) (hZ : am_Zr (S0.length + 1) I J) : am_C (d + 2) 111 [.ref S0.length] (S0 ++ [(9, 27, fun _ => 0)]) I J Q = Q none (S0 ++ b_Mod S0.length) (am_row I (S0.length + 1) (g_clr (fun _ => 0) 5 0)) J := by
  rw [e111]
  simp only [r111_0, r111_1, r111_4, r111_5, r111_8, r111_10, r111_13, r111_14, r111_17, r111_19, r111_22, r111_23, r111_26, r111_28, r111_31, r111_32, r111_35, r111_37, r111_40, r111_41, r111_43, r111_45, r111_48, r111_49, r111_51, r111_53, r111_56, r111_57, r111_59, r111_61, r111_64, r111_65, r111_67, r111_69, r111_72, r111_73, r111_75, r111_77, r111_80, r111_81, r111_83, r111_85, r111_88, r111_89, r111_91, r111_93, r111_96, r111_97, r111_99, r111_101, r111_104, r111_105, r111_107, r111_109, r111_112, r111_113, r111_115, r111_117, r111_120, r111_121, r111_123, r111_125, r111_128, r111_129, r111_130, r111_131, r111_134, List.append_assoc, List.cons_append, List.nil_append, List.length_append, List.length_cons, List.length_nil, sh_is0 _ _ _ h0, sh_sr0, sr_c0, kd_c0, and_self, true_and, Nat.zero_add, Nat.reduceAdd, nc_32, nc_8, nc_16, nc_100, nc_165, nc_300, nc_330, nc_1320, zr_I hZ (show S0.length + 1 ≤ S0.length + 1 by omega), zr_I hZ (show S0.length + 1 ≤ S0.length + 2 by omega), zr_I hZ (show S0.length + 1 ≤ S0.length + 3 by omega), zr_I hZ (show S0.length + 1 ≤ S0.length + 4 by omega), zr_I hZ (show S0.length + 1 ≤ S0.length + 5 by omega), zr_I hZ (show S0.length + 1 ≤ S0.length + 6 by omega), zr_I hZ (show S0.length + 1 ≤ S0.length + 7 by omega), zr_I hZ (show S0.length + 1 ≤ S0.length + 8 by omega), zr_I hZ (show S0.length + 1 ≤ S0.length + 9 by omega), zr_I hZ (show S0.length + 1 ≤ S0.length + 10 by omega), zr_I hZ (show S0.length + 1 ≤ S0.length + 11 by omega), zr_I hZ (show S0.length + 1 ≤ S0.length + 12 by omega), zr_I hZ (show S0.length + 1 ≤ S0.length + 13 by omega), zr_I hZ (show S0.length + 1 ≤ S0.length + 14 by omega), zr_I hZ (show S0.length + 1 ≤ S0.length + 15 by omega), zr_J hZ (show S0.length + 1 ≤ S0.length + 1 by omega), zr_J hZ (show S0.length + 1 ≤ S0.length + 2 by omega), zr_J hZ (show S0.length + 1 ≤ S0.length + 3 by omega), zr_J hZ (show S0.length + 1 ≤ S0.length + 4 by omega), zr_J hZ (show S0.length + 1 ≤ S0.length + 5 by omega), zr_J hZ (show S0.length + 1 ≤ S0.length + 6 by omega), zr_J hZ (show S0.length + 1 ≤ S0.length + 7 by omega), zr_J hZ (show S0.length + 1 ≤ S0.length + 8 by omega), zr_J hZ (show S0.length + 1 ≤ S0.length + 9 by omega), zr_J hZ (show S0.length + 1 ≤ S0.length + 10 by omega), zr_J hZ (show S0.length + 1 ≤ S0.length + 11 by omega), zr_J hZ (show S0.length + 1 ≤ S0.length + 12 by omega), zr_J hZ (show S0.length + 1 ≤ S0.length + 13 by omega), zr_J hZ (show S0.length + 1 ≤ S0.length + 14 by omega), zr_J hZ (show S0.length + 1 ≤ S0.length + 15 by omega)]
  rw [c_Mod_clear (q := S0.length + 1) (by rw [sh_is0 _ _ _ h0]; rfl) (by rw [sh_rf0]; rfl) (by rw [sh_kd]; rfl) (by rw [sh_ln]; rfl) (by omega)]
  simp only [am_psh, r111_0, r111_1, r111_4, r111_5, r111_8, r111_10, r111_13, r111_14, r111_17, r111_19, r111_22, r111_23, r111_26, r111_28, r111_31, r111_32, r111_35, r111_37, r111_40, r111_41, r111_43, r111_45, r111_48, r111_49, r111_51, r111_53, r111_56, r111_57, r111_59, r111_61, r111_64, r111_65, r111_67, r111_69, r111_72, r111_73, r111_75, r111_77, r111_80, r111_81, r111_83, r111_85, r111_88, r111_89, r111_91, r111_93, r111_96, r111_97, r111_99, r111_101, r111_104, r111_105, r111_107, r111_109, r111_112, r111_113, r111_115, r111_117, r111_120, r111_121, r111_123, r111_125, r111_128, r111_129, r111_130, r111_131, r111_134, (hZ (S0.length + 1) (Nat.le_refl _)).1]
  simp [b_Mod]
def cT : am_S := ((((((((([] ++ b_Sta 2) ++ [(24, 8, fun _ => 0)]) ++ [(24, 2, fun _ => 0)]) ++ [(21, 2, fun _ => 0)]) ++ b_Txt 16) ++ b_Gra 18) ++ b_Con 23) ++ b_Lim 33) ++ b_Pri 38) ++ b_Cnt 41
def cF : Nat → Nat := fun i => if i = 13 then 41 else if i = 12 then 38 else if i = 11 then 33 else if i = 10 then 23 else if i = 9 then 18 else if i = 8 then 16 else if i = 5 then 15 else if i = 4 then 14 else if i = 1 then 13 else if i = 0 then 2 else 0
def cB (L : Nat) : am_S := am_S0 L ++ (8, 14, cF) :: cT
def cI1 (I : am_I) : am_I := g_Gra (g_Gra I 3) 18
def cK (L : Nat) (I : am_I) : am_S × am_I := fi_it 13 8 0 (cB L) (cI1 I)
def cX (L : Nat) (I : am_I) : am_S × am_I := fi_it 14 2 0 (cK L I).1 (cK L I).2
theorem cB_len (L : Nat) : (cB L).length = 51 := rfl
theorem fi_it_len {q : Nat} : ∀ (n i : Nat) (S : am_S) (I : am_I), (fi_it q n i S I).1.length = S.length + 11 * n := by
  intro n
  induction n with
  | zero => intro i S I; rfl
  | succ n ih =>
    intro i S I
    show (fi_it q n (i + 1) _ _).1.length = _
    rw [ih, am_sr_len, List.length_append, b_Sta_len]; omega
theorem cK_len (L : Nat) (I : am_I) : (cK L I).1.length = 139 := by unfold cK; rw [fi_it_len, cB_len]
theorem cX_len (L : Nat) (I : am_I) : (cX L I).1.length = 161 := by unfold cX; rw [fi_it_len, cK_len]
theorem fi_st {P R : am_S} {I : am_I} {q n i l N : Nat} {f : Nat → Nat} (hq : P.length = q) (hN : q + 1 + R.length = N) : fi_it q (n + 1) i (P ++ (24, l, f) :: R) I = fi_it q n (i + 1) (P ++ (24, l, fun j => if j = i then N else f j) :: (R ++ b_Sta N)) (g_Gra I (N + 1)) := by
  have hl : (P ++ ((24, l, f) : Nat × Nat × (Nat → Nat)) :: R).length = N := by rw [List.length_append, List.length_cons]; omega
  show fi_it q n (i + 1) (am_sr (P ++ (24, l, f) :: R ++ b_Sta (P ++ (24, l, f) :: R).length) q i (P ++ (24, l, f) :: R).length) (g_Gra I ((P ++ (24, l, f) :: R).length + 1)) = _
  rw [hl, List.append_assoc, List.cons_append]
  subst hq
  rw [sh_sr0]
  rfl
def cP13 (L : Nat) : am_S := am_S0 L ++ (8, 14, cF) :: b_Sta 2
def cR13 : am_S := [(24, 2, fun _ => 0), (21, 2, fun _ => 0)] ++ b_Txt 16 ++ b_Gra 18 ++ b_Con 23 ++ b_Lim 33 ++ b_Pri 38 ++ b_Cnt 41
theorem cB_eq (L : Nat) : cB L = cP13 L ++ (24, 8, fun _ => 0) :: cR13 := rfl
def cKf : Nat → Nat := fun j => if j = 7 then 128 else if j = 6 then 117 else if j = 5 then 106 else if j = 4 then 95 else if j = 3 then 84 else if j = 2 then 73 else if j = 1 then 62 else if j = 0 then 51 else 0
def cR14 : am_S := [(21, 2, fun _ => 0)] ++ b_Txt 16 ++ b_Gra 18 ++ b_Con 23 ++ b_Lim 33 ++ b_Pri 38 ++ b_Cnt 41 ++ b_Sta 51 ++ b_Sta 62 ++ b_Sta 73 ++ b_Sta 84 ++ b_Sta 95 ++ b_Sta 106 ++ b_Sta 117 ++ b_Sta 128
def cI2 (I : am_I) : am_I := g_Gra (g_Gra (g_Gra (g_Gra (g_Gra (g_Gra (g_Gra (g_Gra (cI1 I) 52) 63) 74) 85) 96) 107) 118) 129
def cI3 (I : am_I) : am_I := g_Gra (g_Gra (cI2 I) 140) 151
def cP14 (L : Nat) : am_S := cP13 L ++ [(24, 8, cKf)]
theorem cR13_len : cR13.length = 37 := rfl
theorem cP13_len (L : Nat) : (cP13 L).length = 13 := rfl
theorem cK_eq (L : Nat) (I : am_I) : cK L I = (cP14 L ++ (24, 2, fun _ => 0) :: cR14, cI2 I) := by
  unfold cK
  rw [cB_eq, fi_st (N := 51) (cP13_len L) (by rw [cR13_len]), fi_st (N := 62) (cP13_len L) (by simp only [List.length_append, cR13_len, b_Sta_len]), fi_st (N := 73) (cP13_len L) (by simp only [List.length_append, cR13_len, b_Sta_len]), fi_st (N := 84) (cP13_len L) (by simp only [List.length_append, cR13_len, b_Sta_len]), fi_st (N := 95) (cP13_len L) (by simp only [List.length_append, cR13_len, b_Sta_len]), fi_st (N := 106) (cP13_len L) (by simp only [List.length_append, cR13_len, b_Sta_len]), fi_st (N := 117) (cP13_len L) (by simp only [List.length_append, cR13_len, b_Sta_len]), fi_st (N := 128) (cP13_len L) (by simp only [List.length_append, cR13_len, b_Sta_len])]
  show (_, _) = (_, _)
  congr 1
theorem cR14_len : cR14.length = 124 := by simp only [cR14, List.length_append, b_Sta_len]; rfl
theorem cP14_len (L : Nat) : (cP14 L).length = 14 := rfl
theorem cX_eq (L : Nat) (I : am_I) : cX L I = (cP14 L ++ (24, 2, fun j => if j = 1 then 150 else if j = 0 then 139 else 0) :: (cR14 ++ b_Sta 139 ++ b_Sta 150), cI3 I) := by
  unfold cX
  rw [cK_eq]
  show fi_it 14 2 0 (cP14 L ++ (24, 2, fun _ => 0) :: cR14) (cI2 I) = _
  rw [fi_st (N := 139) (cP14_len L) (by rw [cR14_len]), fi_st (N := 150) (cP14_len L) (by rw [List.length_append, cR14_len, b_Sta_len])]
  rfl
theorem fi_zr {q : Nat} : ∀ (n i : Nat) (S : am_S) (I : am_I), am_Zr S.length I J → am_Zr (fi_it q n i S I).1.length (fi_it q n i S I).2 J := by
  intro n
  induction n with
  | zero => intro i S I h; exact h
  | succ n ih =>
    intro i S I h
    have hlen : (am_sr (S ++ b_Sta S.length) q i S.length).length = S.length + 11 := by rw [am_sr_len, List.length_append, b_Sta_len]
    exact ih (i + 1) _ _ (by rw [hlen]; exact zr_mono (by omega) (zr_gra (zr_mono (by omega) h)))
theorem c_Fin_init (L : Nat) (hZ : am_Zr 2 I J) : am_C (d + 4) 57 [.ref (am_S0 L).length] (am_S0 L ++ [(8, 14, fun _ => 0)]) I J Q = Q none (cX L I).1 (cX L I).2 J := by
  have h0 : 0 < (am_S0 L).length := Nat.zero_lt_one
  have z1 : am_Zr 13 (g_Gra I 3) J := zr_mono (by omega) (zr_gra (n := 3) (zr_mono (by omega) hZ))
  have z2 : am_Zr 23 (g_Gra (g_Gra I 3) 18) J := zr_mono (by omega) (zr_gra (n := 18) (zr_mono (by omega) z1))
  rw [e57]
  simp only [r57_0, r57_1]
  rw [fi_0 (n := 2) h0 rfl hZ, fi_1 (n := 13) h0 rfl z1, fi_4 (n := 14) h0 rfl (zr_mono (by omega) z1), fi_5 (n := 15) h0 rfl (zr_mono (by omega) z1), fi_8 (n := 16) h0 rfl (zr_mono (by omega) z1), fi_9 (n := 18) h0 rfl (zr_mono (by omega) z1), fi_10 (n := 23) h0 rfl z2, fi_11 (n := 33) h0 rfl (zr_mono (by omega) z2), fi_12 (n := 38) h0 rfl (zr_mono (by omega) z2), fi_13 (n := 41) h0 rfl (zr_mono (by omega) z2)]
  simp only [r57_105, r57_106, am_clr]
  have hzB : am_Zr (cB L).length (cI1 I) J := by rw [cB_len]; exact zr_mono (by omega) z2
  refine Eq.trans (fi_kept (x := 1) (q := 13) 8 0 (cB L) (cI1 I) rfl ⟨⟨⟨rfl, by decide⟩, rfl⟩, ⟨by decide, rfl, rfl⟩, by decide, by rw [cB_len]; decide, by rw [cB_len]; decide⟩ hzB) ?_
  simp only [r57_132, r57_133, am_clr]
  exact fi_slots (x := 1) (q := 14) 2 0 (cK L I).1 (cK L I).2 rfl (by rw [cK_eq]; exact ⟨⟨⟨rfl, by decide⟩, rfl⟩, ⟨by decide, rfl, rfl⟩, by decide, by rw [List.length_append, cP14_len]; omega, by rw [List.length_append, cP14_len, List.length_cons]; omega⟩) (fi_zr _ _ _ _ hzB)
end CT5
