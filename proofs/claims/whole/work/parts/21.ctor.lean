/-! the constructors: what they make -/
def b_Gra (n : Nat) : am_S := [(1, 7, fun i => if i = 6 then n + 4 else if i = 5 then n + 3 else if i = 4 then n + 2 else if i = 3 then n + 1 else 0), (20, 32, fun _ => 0), (20, 32, fun _ => 0), (20, 32, fun _ => 0), (20, 8, fun _ => 0)]
def b_Grp (n : Nat) : am_S := [(3, 6, fun i => if i = 5 then n + 4 else if i = 4 then n + 3 else if i = 3 then n + 2 else if i = 2 then n + 1 else 0), (20, 15, fun _ => 0), (20, 15, fun _ => 0), (20, 15, fun _ => 0), (20, 8, fun _ => 0)]
def b_Sta (n : Nat) : am_S := (6, 2, fun i => if i = 1 then n + 6 else if i = 0 then n + 1 else 0) :: (b_Gra (n + 1) ++ b_Grp (n + 6))
def g_Gra (I : am_I) (n : Nat) : am_I := am_fil (am_up (am_up (am_up I n 0 5) n 1 0) n 2 0) (n + 4) 8 7
theorem sr_c0 (k n : Nat) (f : Nat → Nat) (t : am_S) (j r : Nat) : am_sr ((k, n, f) :: t) 0 j r = (k, n, fun i => if i = j then r else f i) :: t := rfl
theorem kd_c0 (k n : Nat) (f : Nat → Nat) (t : am_S) : am_kd ((k, n, f) :: t) 0 = k := rfl
theorem rf_c0 (k n : Nat) (f : Nat → Nat) (t : am_S) (j : Nat) : am_rf ((k, n, f) :: t) 0 j = f j := rfl
theorem nc_2 : (2 : Int32).toNatClampNeg = 2 ∧ (0 : Int) ≤ (2 : Int32).toInt ∧ (2 : Int32).toInt < 10000 := by decide
theorem nc_8 : (8 : Int32).toNatClampNeg = 8 ∧ (0 : Int) ≤ (8 : Int32).toInt ∧ (8 : Int32).toInt < 10000 := by decide
theorem nc_15 : (15 : Int32).toNatClampNeg = 15 ∧ (0 : Int) ≤ (15 : Int32).toInt ∧ (15 : Int32).toInt < 10000 := by decide
theorem nc_32 : (32 : Int32).toNatClampNeg = 32 ∧ (0 : Int) ≤ (32 : Int32).toInt ∧ (32 : Int32).toInt < 10000 := by decide
theorem nc_16 : (16 : Int32).toNatClampNeg = 16 ∧ (0 : Int) ≤ (16 : Int32).toInt ∧ (16 : Int32).toInt < 10000 := by decide
theorem nc_100 : (100 : Int32).toNatClampNeg = 100 ∧ (0 : Int) ≤ (100 : Int32).toInt ∧ (100 : Int32).toInt < 10000 := by decide
theorem nc_165 : (165 : Int32).toNatClampNeg = 165 ∧ (0 : Int) ≤ (165 : Int32).toInt ∧ (165 : Int32).toInt < 10000 := by decide
theorem nc_300 : (300 : Int32).toNatClampNeg = 300 ∧ (0 : Int) ≤ (300 : Int32).toInt ∧ (300 : Int32).toInt < 10000 := by decide
theorem nc_330 : (330 : Int32).toNatClampNeg = 330 ∧ (0 : Int) ≤ (330 : Int32).toInt ∧ (330 : Int32).toInt < 10000 := by decide
theorem nc_1320 : (1320 : Int32).toNatClampNeg = 1320 ∧ (0 : Int) ≤ (1320 : Int32).toInt ∧ (1320 : Int32).toInt < 10000 := by decide
section CT
variable {d : Nat} {S S0 : am_S} {I : am_I} {J : am_J} {Q : am_Q}
/-- above a cell all is new -/
def am_Zr (n : Nat) (I : am_I) (J : am_J) : Prop := ∀ b, n ≤ b → (I b = fun _ => 0) ∧ (J b = fun _ => 0)
theorem zr_I {n b : Nat} (h : am_Zr n I J) (hb : n ≤ b) : am_row I b (fun _ => 0) = I := row_id (h b hb).1
theorem zr_J {n b : Nat} (h : am_Zr n I J) (hb : n ≤ b) : am_row J b (fun _ => 0) = J := row_id (h b hb).2
theorem c_Grp_init (h0 : 0 < S0.length) (hZ : am_Zr (S0.length + 1) I J) : am_C (d + 1) 26 [.ref S0.length] (S0 ++ [(3, 6, fun _ => 0)]) I J Q = Q none (S0 ++ b_Grp S0.length) I J := by
  rw [e26]
  simp only [r26_0, r26_1, r26_4, r26_5, r26_7, r26_9, r26_12, r26_13, r26_15, r26_17, r26_20, r26_21, r26_23, r26_25, r26_28, r26_29, r26_31, r26_33, r26_36, List.append_assoc, List.cons_append, List.nil_append, List.length_append, List.length_cons, List.length_nil, sh_is0 _ _ _ h0, sh_sr0, sr_c0, kd_c0, nc_15, nc_8, and_self, true_and, Nat.zero_add, Nat.reduceAdd, zr_I hZ (show S0.length + 1 ≤ S0.length + 1 by omega), zr_I hZ (show S0.length + 1 ≤ S0.length + 2 by omega), zr_I hZ (show S0.length + 1 ≤ S0.length + 3 by omega), zr_I hZ (show S0.length + 1 ≤ S0.length + 4 by omega), zr_J hZ (show S0.length + 1 ≤ S0.length + 1 by omega), zr_J hZ (show S0.length + 1 ≤ S0.length + 2 by omega), zr_J hZ (show S0.length + 1 ≤ S0.length + 3 by omega), zr_J hZ (show S0.length + 1 ≤ S0.length + 4 by omega)]
  simp [b_Grp]
theorem c_Gra_init (h0 : 0 < S0.length) (hZ : am_Zr (S0.length + 1) I J) : am_C (d + 2) 10 [.ref S0.length] (S0 ++ [(1, 7, fun _ => 0)]) I J Q = Q none (S0 ++ b_Gra S0.length) (g_Gra I S0.length) J := by
  rw [e10]
  simp only [r10_0, r10_1, r10_4, r10_5, r10_7, r10_9, r10_12, r10_13, r10_15, r10_17, r10_20, r10_21, r10_23, r10_25, r10_28, r10_29, r10_31, r10_33, r10_36, r10_37, r10_38, r10_39, r10_42, List.append_assoc, List.cons_append, List.nil_append, List.length_append, List.length_cons, List.length_nil, sh_is0 _ _ _ h0, sh_sr0, sr_c0, kd_c0, and_self, true_and, Nat.zero_add, Nat.reduceAdd, nc_32, nc_8, zr_I hZ (show S0.length + 1 ≤ S0.length + 1 by omega), zr_I hZ (show S0.length + 1 ≤ S0.length + 2 by omega), zr_I hZ (show S0.length + 1 ≤ S0.length + 3 by omega), zr_I hZ (show S0.length + 1 ≤ S0.length + 4 by omega), zr_J hZ (show S0.length + 1 ≤ S0.length + 1 by omega), zr_J hZ (show S0.length + 1 ≤ S0.length + 2 by omega), zr_J hZ (show S0.length + 1 ≤ S0.length + 3 by omega), zr_J hZ (show S0.length + 1 ≤ S0.length + 4 by omega)]
  rw [c_Gra_clear (q := S0.length + 4) (by rw [sh_is0 _ _ _ h0]; rfl) (by rw [sh_rf0]; rfl) (by rw [sh_kd]; rfl) (by rw [sh_ln]; rfl) (by omega)]
  simp only [am_psh, r10_0, r10_1, r10_4, r10_5, r10_7, r10_9, r10_12, r10_13, r10_15, r10_17, r10_20, r10_21, r10_23, r10_25, r10_28, r10_29, r10_31, r10_33, r10_36, r10_37, r10_38, r10_39, r10_42]
  simp [b_Gra, g_Gra]
theorem zr_gra {n : Nat} (hZ : am_Zr (n + 1) I J) : am_Zr (n + 5) (g_Gra I n) J := by
  intro b hb
  refine ⟨?_, (hZ b (by omega)).2⟩
  unfold g_Gra am_fil
  funext j
  rw [row_ne _ _ _ (by omega), up_ne _ _ (Or.inl (by omega)), up_ne _ _ (Or.inl (by omega)), up_ne _ _ (Or.inl (by omega)), (hZ b (by omega)).1]
theorem zr_mono {n m : Nat} (h : n ≤ m) (hZ : am_Zr n I J) : am_Zr m I J := fun b hb => hZ b (by omega)
theorem c_Sta_init (h0 : 0 < S0.length) (hZ : am_Zr (S0.length + 1) I J) : am_C (d + 3) 50 [.ref S0.length] (S0 ++ [(6, 2, fun _ => 0)]) I J Q = Q none (S0 ++ b_Sta S0.length) (g_Gra I (S0.length + 1)) J := by
  have hl : (S0 ++ [((6, 2, fun _ => 0) : Nat × Nat × (Nat → Nat))]).length = S0.length + 1 := by simp
  rw [e50]
  simp only [r50_0, r50_1, r50_4, r50_5, r50_8, r50_9, r50_12, r50_15, r50_16, r50_19, r50_20, r50_23, r50_26]
  rw [zr_I hZ (by omega), zr_J hZ (by omega), c_Gra_init (by omega) (by rw [hl]; exact zr_mono (by omega) hZ)]
  simp only [am_psh, r50_0, r50_1, r50_4, r50_5, r50_8, r50_9, r50_12, r50_15, r50_16, r50_19, r50_20, r50_23, r50_26, hl]
  have hS1 : am_sr (S0 ++ [((6, 2, fun _ => 0) : Nat × Nat × (Nat → Nat))] ++ b_Gra (S0.length + 1)) S0.length 0 (S0.length + 1) = S0 ++ (6, 2, fun i => if i = 0 then S0.length + 1 else 0) :: b_Gra (S0.length + 1) := by
    rw [List.append_assoc, sh_sr0]; rfl
  have hl1 : (S0 ++ ((6, 2, fun i => if i = 0 then S0.length + 1 else 0) : Nat × Nat × (Nat → Nat)) :: b_Gra (S0.length + 1)).length = S0.length + 6 := by simp [b_Gra]
  have hZ1 : am_Zr (S0.length + 6) (g_Gra I (S0.length + 1)) J := zr_gra (zr_mono (by omega) hZ)
  rw [hS1]
  rw [zr_I hZ1 (by omega), zr_J hZ1 (by omega), c_Grp_init (by omega) (by rw [hl1]; exact zr_mono (by omega) hZ1)]
  simp only [am_psh, r50_0, r50_1, r50_4, r50_5, r50_8, r50_9, r50_12, r50_15, r50_16, r50_19, r50_20, r50_23, r50_26, hl1]
  have hS2 : am_sr (S0 ++ ((6, 2, fun i => if i = 0 then S0.length + 1 else 0) : Nat × Nat × (Nat → Nat)) :: b_Gra (S0.length + 1) ++ b_Grp (S0.length + 6)) S0.length 1 (S0.length + 6) = S0 ++ b_Sta S0.length := by
    rw [List.append_assoc, List.cons_append, sh_sr0]; rfl
  rw [hS2]
  simp [List.append_assoc, sh_is0 _ _ _ h0, kd_c0, b_Gra, b_Grp]
end CT
