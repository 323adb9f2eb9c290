/-! the other constructors -/
def b_Con (n : Nat) : am_S := (0, 5, fun i => if i = 4 then n + 9 else if i = 3 then n + 8 else if i = 2 then n + 7 else if i = 1 then n + 6 else if i = 0 then n + 1 else 0) :: (b_Grp (n + 1) ++ [(20, 32, fun _ => 0), (20, 15, fun _ => 0), (20, 8, fun _ => 0), (20, 15, fun _ => 0)])
def b_Lim (n : Nat) : am_S := [(4, 7, fun i => if i = 6 then n + 4 else if i = 5 then n + 3 else if i = 4 then n + 2 else if i = 3 then n + 1 else 0), (20, 8, fun _ => 0), (20, 8, fun _ => 0), (20, 8, fun _ => 0), (20, 32, fun _ => 0)]
def b_Pri (n : Nat) : am_S := [(5, 3, fun i => if i = 2 then n + 2 else if i = 1 then n + 1 else 0), (20, 8, fun _ => 0), (20, 32, fun _ => 0)]
def b_Txt (n : Nat) : am_S := [(2, 3, fun i => if i = 2 then n + 1 else 0), (22, 300, fun _ => 0)]
def b_Cnt (n : Nat) : am_S := (7, 1, fun i => if i = 0 then n + 1 else 0) :: (25, 8, fun i => if i < 8 then n + 1 + 1 + i else 0) :: List.replicate 8 (23, 8, fun _ => 0)
section CT2
variable {d : Nat} {S S0 : am_S} {I : am_I} {J : am_J} {Q : am_Q}
theorem c_Lim_init (h0 : 0 < S0.length) (hZ : am_Zr (S0.length + 1) I J) : am_C (d + 1) 37 [.ref S0.length] (S0 ++ [(4, 7, fun _ => 0)]) I J Q = Q none (S0 ++ b_Lim S0.length) I J := by
  rw [e37]
  simp only [r37_0, r37_1, r37_4, r37_5, r37_7, r37_9, r37_12, r37_13, r37_15, r37_17, r37_20, r37_21, r37_23, r37_25, r37_28, r37_29, r37_31, r37_33, r37_36, List.append_assoc, List.cons_append, List.nil_append, List.length_append, List.length_cons, List.length_nil, sh_is0 _ _ _ h0, sh_sr0, sr_c0, kd_c0, and_self, true_and, Nat.zero_add, Nat.reduceAdd, nc_32, nc_8, zr_I hZ (show S0.length + 1 ≤ S0.length + 1 by omega), zr_I hZ (show S0.length + 1 ≤ S0.length + 2 by omega), zr_I hZ (show S0.length + 1 ≤ S0.length + 3 by omega), zr_I hZ (show S0.length + 1 ≤ S0.length + 4 by omega), zr_J hZ (show S0.length + 1 ≤ S0.length + 1 by omega), zr_J hZ (show S0.length + 1 ≤ S0.length + 2 by omega), zr_J hZ (show S0.length + 1 ≤ S0.length + 3 by omega), zr_J hZ (show S0.length + 1 ≤ S0.length + 4 by omega)]
  simp [b_Lim]
theorem c_Pri_init (h0 : 0 < S0.length) (hZ : am_Zr (S0.length + 1) I J) : am_C (d + 1) 45 [.ref S0.length] (S0 ++ [(5, 3, fun _ => 0)]) I J Q = Q none (S0 ++ b_Pri S0.length) I J := by
  rw [e45]
  simp only [r45_0, r45_1, r45_4, r45_5, r45_7, r45_9, r45_12, r45_13, r45_15, r45_17, r45_20, List.append_assoc, List.cons_append, List.nil_append, List.length_append, List.length_cons, List.length_nil, sh_is0 _ _ _ h0, sh_sr0, sr_c0, kd_c0, and_self, true_and, Nat.zero_add, Nat.reduceAdd, nc_32, nc_8, zr_I hZ (show S0.length + 1 ≤ S0.length + 1 by omega), zr_I hZ (show S0.length + 1 ≤ S0.length + 2 by omega), zr_J hZ (show S0.length + 1 ≤ S0.length + 1 by omega), zr_J hZ (show S0.length + 1 ≤ S0.length + 2 by omega)]
  simp [b_Pri]
theorem c_Txt_init (h0 : 0 < S0.length) (hZ : am_Zr (S0.length + 1) I J) : am_C (d + 1) 19 [.ref S0.length] (S0 ++ [(2, 3, fun _ => 0)]) I J Q = Q none (S0 ++ b_Txt S0.length) I J := by
  rw [e19]
  simp only [r19_0, r19_1, r19_4, r19_5, r19_8, r19_10, r19_13, List.append_assoc, List.cons_append, List.nil_append, List.length_append, List.length_cons, List.length_nil, sh_is0 _ _ _ h0, sh_sr0, sr_c0, kd_c0, and_self, true_and, Nat.zero_add, Nat.reduceAdd, nc_300, zr_I hZ (show S0.length + 1 ≤ S0.length + 1 by omega), zr_J hZ (show S0.length + 1 ≤ S0.length + 1 by omega)]
  simp [b_Txt]
theorem clean_id {α : Type} {f : Nat → Nat → α} {a : Nat} {z : α} (h : ∀ b, a ≤ b → f b = fun _ => z) : am_clean f a z = f := by
  funext b j; unfold am_clean
  by_cases e : a ≤ b
  · rw [if_pos e, h b e]
  · rw [if_neg e]
theorem c_Cnt_init (h0 : 0 < S0.length) (hZ : am_Zr (S0.length + 1) I J) : am_C (d + 1) 52 [.ref S0.length] (S0 ++ [(7, 1, fun _ => 0)]) I J Q = Q none (S0 ++ b_Cnt S0.length) I J := by
  have hl : (S0 ++ [((7, 1, fun _ => 0) : Nat × Nat × (Nat → Nat))]).length = S0.length + 1 := by simp
  rw [e52]
  simp only [r52_0, r52_1, r52_4, r52_5, r52_7, r52_9, r52_13, r52_16, nc_8, hl]
  rw [clean_id (fun b hb => (hZ b hb).1), clean_id (fun b hb => (hZ b hb).2)]
  have hS : am_sr (am_grow (S0 ++ [((7, 1, fun _ => 0) : Nat × Nat × (Nat → Nat))]) 8 8) S0.length 0 (S0.length + 1) = S0 ++ b_Cnt S0.length := by
    rw [am_grow_app, List.append_assoc, sh_sr0, hl]; rfl
  rw [hS, am_grow_app, List.append_assoc, sh_is0 _ _ _ h0]
  simp [kd_c0, show (8 : Int32).toInt = 8 from by decide]
theorem c_Con_init (h0 : 0 < S0.length) (hZ : am_Zr (S0.length + 1) I J) : am_C (d + 2) 0 [.ref S0.length] (S0 ++ [(0, 5, fun _ => 0)]) I J Q = Q none (S0 ++ b_Con S0.length) I J := by
  have hl : (S0 ++ [((0, 5, fun _ => 0) : Nat × Nat × (Nat → Nat))]).length = S0.length + 1 := by simp
  rw [e0]
  simp only [r0_0, r0_1, r0_4, r0_5, r0_8, r0_9, r0_12, r0_15, r0_16, r0_18, r0_20, r0_23, r0_24, r0_26, r0_28, r0_31, r0_32, r0_34, r0_36, r0_39, r0_40, r0_42, r0_44, r0_47]
  rw [zr_I hZ (by omega), zr_J hZ (by omega), c_Grp_init (by omega) (by rw [hl]; exact zr_mono (by omega) hZ)]
  simp only [am_psh, hl]
  simp only [r0_0, r0_1, r0_4, r0_5, r0_8, r0_9, r0_12, r0_15, r0_16, r0_18, r0_20, r0_23, r0_24, r0_26, r0_28, r0_31, r0_32, r0_34, r0_36, r0_39, r0_40, r0_42, r0_44, r0_47, List.append_assoc, List.cons_append, List.nil_append, List.length_append, List.length_cons, List.length_nil, sh_is0 _ _ _ h0, sh_sr0, sr_c0, kd_c0, and_self, true_and, Nat.zero_add, Nat.reduceAdd, nc_32, nc_8, nc_15, b_Grp, zr_I hZ (show S0.length + 1 ≤ S0.length + 6 by omega), zr_I hZ (show S0.length + 1 ≤ S0.length + 7 by omega), zr_I hZ (show S0.length + 1 ≤ S0.length + 8 by omega), zr_I hZ (show S0.length + 1 ≤ S0.length + 9 by omega), zr_J hZ (show S0.length + 1 ≤ S0.length + 6 by omega), zr_J hZ (show S0.length + 1 ≤ S0.length + 7 by omega), zr_J hZ (show S0.length + 1 ≤ S0.length + 8 by omega), zr_J hZ (show S0.length + 1 ≤ S0.length + 9 by omega)]
  simp [b_Con, b_Grp]
end CT2
