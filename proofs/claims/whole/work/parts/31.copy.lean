/-! copying: graphs, groups, states -/
def shG (L g : Nat) : Prop := am_is (cS L) g 1 ∧ (am_rf (cS L) g 3 = g + 1 ∧ am_rf (cS L) g 4 = g + 2 ∧ am_rf (cS L) g 5 = g + 3 ∧ am_rf (cS L) g 6 = g + 4) ∧ (am_kd (cS L) (g + 1) = 20 ∧ am_kd (cS L) (g + 2) = 20 ∧ am_kd (cS L) (g + 3) = 20 ∧ am_kd (cS L) (g + 4) = 20) ∧ (am_ln (cS L) (g + 1) = 32 ∧ am_ln (cS L) (g + 2) = 32 ∧ am_ln (cS L) (g + 3) = 32 ∧ am_ln (cS L) (g + 4) = 8)
def shR (L q : Nat) : Prop := am_is (cS L) q 3 ∧ (am_rf (cS L) q 2 = q + 1 ∧ am_rf (cS L) q 3 = q + 2 ∧ am_rf (cS L) q 4 = q + 3 ∧ am_rf (cS L) q 5 = q + 4) ∧ (am_kd (cS L) (q + 1) = 20 ∧ am_kd (cS L) (q + 2) = 20 ∧ am_kd (cS L) (q + 3) = 20 ∧ am_kd (cS L) (q + 4) = 20) ∧ (am_ln (cS L) (q + 1) = 15 ∧ am_ln (cS L) (q + 2) = 15 ∧ am_ln (cS L) (q + 3) = 15 ∧ am_ln (cS L) (q + 4) = 8)
def shS (L a : Nat) : Prop := (am_is (cS L) a 6 ∧ am_rf (cS L) a 0 = a + 1 ∧ am_rf (cS L) a 1 = a + 6) ∧ shG L (a + 1) ∧ shR L (a + 6)
theorem shS_2 (L : Nat) : shS L 2 := ⟨⟨⟨rfl, by decide⟩, rfl, rfl⟩, ⟨⟨rfl, by decide⟩, ⟨rfl, rfl, rfl, rfl⟩, ⟨rfl, rfl, rfl, rfl⟩, ⟨rfl, rfl, rfl, rfl⟩⟩, ⟨⟨rfl, by decide⟩, ⟨rfl, rfl, rfl, rfl⟩, ⟨rfl, rfl, rfl, rfl⟩, ⟨rfl, rfl, rfl, rfl⟩⟩⟩
theorem shS_51 (L : Nat) : shS L 51 := ⟨⟨⟨rfl, by decide⟩, rfl, rfl⟩, ⟨⟨rfl, by decide⟩, ⟨rfl, rfl, rfl, rfl⟩, ⟨rfl, rfl, rfl, rfl⟩, ⟨rfl, rfl, rfl, rfl⟩⟩, ⟨⟨rfl, by decide⟩, ⟨rfl, rfl, rfl, rfl⟩, ⟨rfl, rfl, rfl, rfl⟩, ⟨rfl, rfl, rfl, rfl⟩⟩⟩
theorem shS_62 (L : Nat) : shS L 62 := ⟨⟨⟨rfl, by decide⟩, rfl, rfl⟩, ⟨⟨rfl, by decide⟩, ⟨rfl, rfl, rfl, rfl⟩, ⟨rfl, rfl, rfl, rfl⟩, ⟨rfl, rfl, rfl, rfl⟩⟩, ⟨⟨rfl, by decide⟩, ⟨rfl, rfl, rfl, rfl⟩, ⟨rfl, rfl, rfl, rfl⟩, ⟨rfl, rfl, rfl, rfl⟩⟩⟩
theorem shS_73 (L : Nat) : shS L 73 := ⟨⟨⟨rfl, by decide⟩, rfl, rfl⟩, ⟨⟨rfl, by decide⟩, ⟨rfl, rfl, rfl, rfl⟩, ⟨rfl, rfl, rfl, rfl⟩, ⟨rfl, rfl, rfl, rfl⟩⟩, ⟨⟨rfl, by decide⟩, ⟨rfl, rfl, rfl, rfl⟩, ⟨rfl, rfl, rfl, rfl⟩, ⟨rfl, rfl, rfl, rfl⟩⟩⟩
theorem shS_84 (L : Nat) : shS L 84 := ⟨⟨⟨rfl, by decide⟩, rfl, rfl⟩, ⟨⟨rfl, by decide⟩, ⟨rfl, rfl, rfl, rfl⟩, ⟨rfl, rfl, rfl, rfl⟩, ⟨rfl, rfl, rfl, rfl⟩⟩, ⟨⟨rfl, by decide⟩, ⟨rfl, rfl, rfl, rfl⟩, ⟨rfl, rfl, rfl, rfl⟩, ⟨rfl, rfl, rfl, rfl⟩⟩⟩
theorem shS_95 (L : Nat) : shS L 95 := ⟨⟨⟨rfl, by decide⟩, rfl, rfl⟩, ⟨⟨rfl, by decide⟩, ⟨rfl, rfl, rfl, rfl⟩, ⟨rfl, rfl, rfl, rfl⟩, ⟨rfl, rfl, rfl, rfl⟩⟩, ⟨⟨rfl, by decide⟩, ⟨rfl, rfl, rfl, rfl⟩, ⟨rfl, rfl, rfl, rfl⟩, ⟨rfl, rfl, rfl, rfl⟩⟩⟩
theorem shS_106 (L : Nat) : shS L 106 := ⟨⟨⟨rfl, by decide⟩, rfl, rfl⟩, ⟨⟨rfl, by decide⟩, ⟨rfl, rfl, rfl, rfl⟩, ⟨rfl, rfl, rfl, rfl⟩, ⟨rfl, rfl, rfl, rfl⟩⟩, ⟨⟨rfl, by decide⟩, ⟨rfl, rfl, rfl, rfl⟩, ⟨rfl, rfl, rfl, rfl⟩, ⟨rfl, rfl, rfl, rfl⟩⟩⟩
theorem shS_117 (L : Nat) : shS L 117 := ⟨⟨⟨rfl, by decide⟩, rfl, rfl⟩, ⟨⟨rfl, by decide⟩, ⟨rfl, rfl, rfl, rfl⟩, ⟨rfl, rfl, rfl, rfl⟩, ⟨rfl, rfl, rfl, rfl⟩⟩, ⟨⟨rfl, by decide⟩, ⟨rfl, rfl, rfl, rfl⟩, ⟨rfl, rfl, rfl, rfl⟩, ⟨rfl, rfl, rfl, rfl⟩⟩⟩
theorem shS_128 (L : Nat) : shS L 128 := ⟨⟨⟨rfl, by decide⟩, rfl, rfl⟩, ⟨⟨rfl, by decide⟩, ⟨rfl, rfl, rfl, rfl⟩, ⟨rfl, rfl, rfl, rfl⟩, ⟨rfl, rfl, rfl, rfl⟩⟩, ⟨⟨rfl, by decide⟩, ⟨rfl, rfl, rfl, rfl⟩, ⟨rfl, rfl, rfl, rfl⟩, ⟨rfl, rfl, rfl, rfl⟩⟩⟩
theorem shS_139 (L : Nat) : shS L 139 := ⟨⟨⟨rfl, by decide⟩, rfl, rfl⟩, ⟨⟨rfl, by decide⟩, ⟨rfl, rfl, rfl, rfl⟩, ⟨rfl, rfl, rfl, rfl⟩, ⟨rfl, rfl, rfl, rfl⟩⟩, ⟨⟨rfl, by decide⟩, ⟨rfl, rfl, rfl, rfl⟩, ⟨rfl, rfl, rfl, rfl⟩, ⟨rfl, rfl, rfl, rfl⟩⟩⟩
theorem shS_150 (L : Nat) : shS L 150 := ⟨⟨⟨rfl, by decide⟩, rfl, rfl⟩, ⟨⟨rfl, by decide⟩, ⟨rfl, rfl, rfl, rfl⟩, ⟨rfl, rfl, rfl, rfl⟩, ⟨rfl, rfl, rfl, rfl⟩⟩, ⟨⟨rfl, by decide⟩, ⟨rfl, rfl, rfl, rfl⟩, ⟨rfl, rfl, rfl, rfl⟩, ⟨rfl, rfl, rfl, rfl⟩⟩⟩
theorem shS_k (L : Nat) {i : Nat} (h : i < 8) : shS L (51 + 11 * i) := by
  match i, h with
  | 0, _ => exact shS_51 L
  | 1, _ => exact shS_62 L
  | 2, _ => exact shS_73 L
  | 3, _ => exact shS_84 L
  | 4, _ => exact shS_95 L
  | 5, _ => exact shS_106 L
  | 6, _ => exact shS_117 L
  | 7, _ => exact shS_128 L
theorem shS_l (L : Nat) {i : Nat} (h : i < 2) : shS L (139 + 11 * i) := by
  match i, h with
  | 0, _ => exact shS_139 L
  | 1, _ => exact shS_150 L
theorem shG_18 (L : Nat) : shG L 18 := ⟨⟨rfl, by decide⟩, ⟨rfl, rfl, rfl, rfl⟩, ⟨rfl, rfl, rfl, rfl⟩, ⟨rfl, rfl, rfl, rfl⟩⟩
theorem shR_24 (L : Nat) : shR L 24 := ⟨⟨rfl, by decide⟩, ⟨rfl, rfl, rfl, rfl⟩, ⟨rfl, rfl, rfl, rfl⟩, ⟨rfl, rfl, rfl, rfl⟩⟩
theorem shG_3 (L : Nat) : shG L 3 := (shS_2 L).2.1
theorem shR_8 (L : Nat) : shR L 8 := (shS_2 L).2.2
section CP
variable {d L : Nat} {I : am_I} {J : am_J}
theorem cpy_ok {a b n : Nat} {x : Int32} (h1 : am_kd (cS L) a = 20) (h2 : am_kd (cS L) b = 20) (ha : a ≠ 0) (hb : b ≠ 0) (h3 : am_ln (cS L) a = n) (h4 : am_ln (cS L) b = n) (hx : x = nI n) (hn : n < 100) : am_cpy (cS L) a b 0 0 x := by
  subst hx
  refine ⟨h1, h2, ha, hb, ⟨by rw [n_ti (by omega)]; omega, by decide, by decide⟩, ?_, ?_⟩
  · rw [h4, n_ti (by omega), show (0 : Int32).toInt = 0 from by decide]; omega
  · rw [h3, n_ti (by omega), show (0 : Int32).toInt = 0 from by decide]; omega
theorem cpy_0 {f g : Nat → Int32} {n j : Nat} (h : j < n) : va_cpy f g 0 0 n j = f j := pk_cpy_in (by omega) (by omega) |>.trans (by simp)
set_option maxHeartbeats 4000000 in
theorem c_Gra_copy {g g0 : Nat} (hg : shG L g) (hg0 : shG L g0) (hne : g + 5 ≤ g0 ∨ g0 + 5 ≤ g) : ∃ I', (∀ Q, am_C (d + 1) 12 [.ref g, .ref g0] (cS L) I J Q = Q none (cS L) I' J) ∧ (∀ b, (b < g ∨ g + 5 ≤ b) → I' b = I b) ∧ (∀ j, j < 3 → I' g j = I g0 j) ∧ (∀ j, j < 32 → I' (g + 1) j = I (g0 + 1) j) ∧ (∀ j, j < 32 → I' (g + 2) j = I (g0 + 2) j) ∧ (∀ j, j < 32 → I' (g + 3) j = I (g0 + 3) j) ∧ ∀ j, j < 8 → I' (g + 4) j = I (g0 + 4) j := by
  obtain ⟨a1, ⟨a2, a3, a4, a5⟩, ⟨a6, a7, a8, a9⟩, ⟨a10, a11, a12, a13⟩⟩ := hg
  obtain ⟨b1, ⟨b2, b3, b4, b5⟩, ⟨b6, b7, b8, b9⟩, ⟨b10, b11, b12, b13⟩⟩ := hg0
  have k1 : am_cpy (cS L) (g + 1) (g0 + 1) 0 0 32 := cpy_ok a6 b6 (by omega) (by omega) a10 b10 rfl (by omega)
  have k2 : am_cpy (cS L) (g + 2) (g0 + 2) 0 0 32 := cpy_ok a7 b7 (by omega) (by omega) a11 b11 rfl (by omega)
  have k3 : am_cpy (cS L) (g + 3) (g0 + 3) 0 0 32 := cpy_ok a8 b8 (by omega) (by omega) a12 b12 rfl (by omega)
  have k4 : am_cpy (cS L) (g + 4) (g0 + 4) 0 0 8 := cpy_ok a9 b9 (by omega) (by omega) a13 b13 rfl (by omega)
  refine ⟨am_row (am_row (am_row (am_row (am_up (am_up (am_up I g 0 (I g0 0)) g 1 (I g0 1)) g 2 (I g0 2)) (g + 1) (va_cpy (I (g0 + 1)) (I (g + 1)) 0 0 32)) (g + 2) (va_cpy (I (g0 + 2)) (I (g + 2)) 0 0 32)) (g + 3) (va_cpy (I (g0 + 3)) (I (g + 3)) 0 0 32)) (g + 4) (va_cpy (I (g0 + 4)) (I (g + 4)) 0 0 8), fun Q => ?_, fun b hb => ?_, fun j hj => ?_, fun j hj => ?_, fun j hj => ?_, fun j hj => ?_, fun j hj => ?_⟩
  · rw [e12]
    simp only [r12_0, r12_1, r12_2, r12_5, r12_8, r12_9, r12_10, r12_13, r12_16, r12_17, r12_18, r12_21, r12_24, r12_25, r12_28, r12_29, r12_30, r12_33, r12_34, r12_36, r12_39, r12_40, r12_43, r12_44, r12_45, r12_48, r12_49, r12_51, r12_54, r12_55, r12_58, r12_59, r12_60, r12_63, r12_64, r12_66, r12_69, r12_70, r12_73, r12_74, r12_75, r12_78, r12_79, r12_81, r12_84, a1, a2, a3, a4, a5, b1, b2, b3, b4, b5, k1, k2, k3, k4, nc_32, nc_8, show (0 : Int32).toNatClampNeg = 0 from by decide, true_and, and_true, true_or, or_true, if_true, if_false, ne_eq, not_false_eq_true, and_self, t10, am_psh, am_clr, not_true_eq_false, Nat.reduceEqDiff, Nat.add_eq_zero_iff, and_false, (show ∀ (f : am_I) (k : Nat) (x : Int32), am_up f g k x (g0) = f (g0) from fun f k x => am_up_ne (by omega)), (show ∀ (f : am_I) (k : Nat) (x : Int32), am_up f g k x (g0 + 1) = f (g0 + 1) from fun f k x => am_up_ne (by omega)), (show ∀ (f : am_I) (k : Nat) (x : Int32), am_up f g k x (g0 + 2) = f (g0 + 2) from fun f k x => am_up_ne (by omega)), (show ∀ (f : am_I) (k : Nat) (x : Int32), am_up f g k x (g0 + 3) = f (g0 + 3) from fun f k x => am_up_ne (by omega)), (show ∀ (f : am_I) (k : Nat) (x : Int32), am_up f g k x (g0 + 4) = f (g0 + 4) from fun f k x => am_up_ne (by omega)), (show ∀ (f : am_I) (k : Nat) (x : Int32), am_up f g k x (g + 1) = f (g + 1) from fun f k x => am_up_ne (by omega)), (show ∀ (f : am_I) (k : Nat) (x : Int32), am_up f g k x (g + 2) = f (g + 2) from fun f k x => am_up_ne (by omega)), (show ∀ (f : am_I) (k : Nat) (x : Int32), am_up f g k x (g + 3) = f (g + 3) from fun f k x => am_up_ne (by omega)), (show ∀ (f : am_I) (k : Nat) (x : Int32), am_up f g k x (g + 4) = f (g + 4) from fun f k x => am_up_ne (by omega)), (show ∀ (f : am_I) (h : Nat → Int32), am_row f (g + 1) h (g0) = f (g0) from fun f h => am_row_ne (by omega)), (show ∀ (f : am_I) (h : Nat → Int32), am_row f (g + 1) h (g0 + 1) = f (g0 + 1) from fun f h => am_row_ne (by omega)), (show ∀ (f : am_I) (h : Nat → Int32), am_row f (g + 1) h (g0 + 2) = f (g0 + 2) from fun f h => am_row_ne (by omega)), (show ∀ (f : am_I) (h : Nat → Int32), am_row f (g + 1) h (g0 + 3) = f (g0 + 3) from fun f h => am_row_ne (by omega)), (show ∀ (f : am_I) (h : Nat → Int32), am_row f (g + 1) h (g0 + 4) = f (g0 + 4) from fun f h => am_row_ne (by omega)), (show ∀ (f : am_I) (h : Nat → Int32), am_row f (g + 1) h (g) = f (g) from fun f h => am_row_ne (by omega)), (show ∀ (f : am_I) (h : Nat → Int32), am_row f (g + 1) h (g + 2) = f (g + 2) from fun f h => am_row_ne (by omega)), (show ∀ (f : am_I) (h : Nat → Int32), am_row f (g + 1) h (g + 3) = f (g + 3) from fun f h => am_row_ne (by omega)), (show ∀ (f : am_I) (h : Nat → Int32), am_row f (g + 1) h (g + 4) = f (g + 4) from fun f h => am_row_ne (by omega)), (show ∀ (f : am_I) (h : Nat → Int32), am_row f (g + 2) h (g0) = f (g0) from fun f h => am_row_ne (by omega)), (show ∀ (f : am_I) (h : Nat → Int32), am_row f (g + 2) h (g0 + 1) = f (g0 + 1) from fun f h => am_row_ne (by omega)), (show ∀ (f : am_I) (h : Nat → Int32), am_row f (g + 2) h (g0 + 2) = f (g0 + 2) from fun f h => am_row_ne (by omega)), (show ∀ (f : am_I) (h : Nat → Int32), am_row f (g + 2) h (g0 + 3) = f (g0 + 3) from fun f h => am_row_ne (by omega)), (show ∀ (f : am_I) (h : Nat → Int32), am_row f (g + 2) h (g0 + 4) = f (g0 + 4) from fun f h => am_row_ne (by omega)), (show ∀ (f : am_I) (h : Nat → Int32), am_row f (g + 2) h (g) = f (g) from fun f h => am_row_ne (by omega)), (show ∀ (f : am_I) (h : Nat → Int32), am_row f (g + 2) h (g + 1) = f (g + 1) from fun f h => am_row_ne (by omega)), (show ∀ (f : am_I) (h : Nat → Int32), am_row f (g + 2) h (g + 3) = f (g + 3) from fun f h => am_row_ne (by omega)), (show ∀ (f : am_I) (h : Nat → Int32), am_row f (g + 2) h (g + 4) = f (g + 4) from fun f h => am_row_ne (by omega)), (show ∀ (f : am_I) (h : Nat → Int32), am_row f (g + 3) h (g0) = f (g0) from fun f h => am_row_ne (by omega)), (show ∀ (f : am_I) (h : Nat → Int32), am_row f (g + 3) h (g0 + 1) = f (g0 + 1) from fun f h => am_row_ne (by omega)), (show ∀ (f : am_I) (h : Nat → Int32), am_row f (g + 3) h (g0 + 2) = f (g0 + 2) from fun f h => am_row_ne (by omega)), (show ∀ (f : am_I) (h : Nat → Int32), am_row f (g + 3) h (g0 + 3) = f (g0 + 3) from fun f h => am_row_ne (by omega)), (show ∀ (f : am_I) (h : Nat → Int32), am_row f (g + 3) h (g0 + 4) = f (g0 + 4) from fun f h => am_row_ne (by omega)), (show ∀ (f : am_I) (h : Nat → Int32), am_row f (g + 3) h (g) = f (g) from fun f h => am_row_ne (by omega)), (show ∀ (f : am_I) (h : Nat → Int32), am_row f (g + 3) h (g + 1) = f (g + 1) from fun f h => am_row_ne (by omega)), (show ∀ (f : am_I) (h : Nat → Int32), am_row f (g + 3) h (g + 2) = f (g + 2) from fun f h => am_row_ne (by omega)), (show ∀ (f : am_I) (h : Nat → Int32), am_row f (g + 3) h (g + 4) = f (g + 4) from fun f h => am_row_ne (by omega)), (show ∀ (f : am_I) (h : Nat → Int32), am_row f (g + 4) h (g0) = f (g0) from fun f h => am_row_ne (by omega)), (show ∀ (f : am_I) (h : Nat → Int32), am_row f (g + 4) h (g0 + 1) = f (g0 + 1) from fun f h => am_row_ne (by omega)), (show ∀ (f : am_I) (h : Nat → Int32), am_row f (g + 4) h (g0 + 2) = f (g0 + 2) from fun f h => am_row_ne (by omega)), (show ∀ (f : am_I) (h : Nat → Int32), am_row f (g + 4) h (g0 + 3) = f (g0 + 3) from fun f h => am_row_ne (by omega)), (show ∀ (f : am_I) (h : Nat → Int32), am_row f (g + 4) h (g0 + 4) = f (g0 + 4) from fun f h => am_row_ne (by omega)), (show ∀ (f : am_I) (h : Nat → Int32), am_row f (g + 4) h (g) = f (g) from fun f h => am_row_ne (by omega)), (show ∀ (f : am_I) (h : Nat → Int32), am_row f (g + 4) h (g + 1) = f (g + 1) from fun f h => am_row_ne (by omega)), (show ∀ (f : am_I) (h : Nat → Int32), am_row f (g + 4) h (g + 2) = f (g + 2) from fun f h => am_row_ne (by omega)), (show ∀ (f : am_I) (h : Nat → Int32), am_row f (g + 4) h (g + 3) = f (g + 3) from fun f h => am_row_ne (by omega))]
  · rw [am_row_ne (by omega), am_row_ne (by omega), am_row_ne (by omega), am_row_ne (by omega), am_up_ne (by omega), am_up_ne (by omega), am_up_ne (by omega)]
  · rw [am_row_ne (by omega), am_row_ne (by omega), am_row_ne (by omega), am_row_ne (by omega)]
    unfold am_up
    match j, hj with
    | 0, _ => simp
    | 1, _ => simp
    | 2, _ => simp
  · rw [am_row_ne (by omega), am_row_ne (by omega), am_row_ne (by omega), am_row_eq, cpy_0 hj]
  · rw [am_row_ne (by omega), am_row_ne (by omega), am_row_eq, cpy_0 hj]
  · rw [am_row_ne (by omega), am_row_eq, cpy_0 hj]
  · rw [am_row_eq, cpy_0 hj]
set_option maxHeartbeats 4000000 in
theorem c_Grp_copy {q q0 : Nat} (hg : shR L q) (hg0 : shR L q0) (hne : q + 5 ≤ q0 ∨ q0 + 5 ≤ q) (h01 : I q0 0 = 0 ∨ I q0 0 = 1) : ∃ I', (∀ Q, am_C (d + 1) 27 [.ref q, .ref q0] (cS L) I J Q = Q none (cS L) I' J) ∧ (∀ b, (b < q ∨ q + 5 ≤ b) → I' b = I b) ∧ (∀ j, j < 2 → I' q j = I q0 j) ∧ (∀ j, j < 15 → I' (q + 1) j = I (q0 + 1) j) ∧ (∀ j, j < 15 → I' (q + 2) j = I (q0 + 2) j) ∧ (∀ j, j < 15 → I' (q + 3) j = I (q0 + 3) j) ∧ ∀ j, j < 8 → I' (q + 4) j = I (q0 + 4) j := by
  obtain ⟨a1, ⟨a2, a3, a4, a5⟩, ⟨a6, a7, a8, a9⟩, ⟨a10, a11, a12, a13⟩⟩ := hg
  obtain ⟨b1, ⟨b2, b3, b4, b5⟩, ⟨b6, b7, b8, b9⟩, ⟨b10, b11, b12, b13⟩⟩ := hg0
  have k1 : am_cpy (cS L) (q + 1) (q0 + 1) 0 0 15 := cpy_ok a6 b6 (by omega) (by omega) a10 b10 rfl (by omega)
  have k2 : am_cpy (cS L) (q + 2) (q0 + 2) 0 0 15 := cpy_ok a7 b7 (by omega) (by omega) a11 b11 rfl (by omega)
  have k3 : am_cpy (cS L) (q + 3) (q0 + 3) 0 0 15 := cpy_ok a8 b8 (by omega) (by omega) a12 b12 rfl (by omega)
  have k4 : am_cpy (cS L) (q + 4) (q0 + 4) 0 0 8 := cpy_ok a9 b9 (by omega) (by omega) a13 b13 rfl (by omega)
  refine ⟨am_row (am_row (am_row (am_row (am_up (am_up I q 0 (I q0 0)) q 1 (I q0 1)) (q + 1) (va_cpy (I (q0 + 1)) (I (q + 1)) 0 0 15)) (q + 2) (va_cpy (I (q0 + 2)) (I (q + 2)) 0 0 15)) (q + 3) (va_cpy (I (q0 + 3)) (I (q + 3)) 0 0 15)) (q + 4) (va_cpy (I (q0 + 4)) (I (q + 4)) 0 0 8), fun Q => ?_, fun b hb => ?_, fun j hj => ?_, fun j hj => ?_, fun j hj => ?_, fun j hj => ?_, fun j hj => ?_⟩
  · rw [e27]
    simp only [r27_0, r27_1, r27_2, r27_5, r27_8, r27_9, r27_10, r27_13, r27_16, r27_17, r27_20, r27_21, r27_22, r27_25, r27_26, r27_28, r27_31, r27_32, r27_35, r27_36, r27_37, r27_40, r27_41, r27_43, r27_46, r27_47, r27_50, r27_51, r27_52, r27_55, r27_56, r27_58, r27_61, r27_62, r27_65, r27_66, r27_67, r27_70, r27_71, r27_73, r27_76, a1, a2, a3, a4, a5, b1, b2, b3, b4, b5, k1, k2, k3, k4, h01, nc_15, nc_8, show (0 : Int32).toNatClampNeg = 0 from by decide, true_and, and_true, true_or, or_true, if_true, if_false, ne_eq, not_false_eq_true, and_self, t10, am_psh, am_clr, not_true_eq_false, Nat.reduceEqDiff, Nat.add_eq_zero_iff, and_false, (show ∀ (f : am_I) (k : Nat) (x : Int32), am_up f q k x (q0) = f (q0) from fun f k x => am_up_ne (by omega)), (show ∀ (f : am_I) (k : Nat) (x : Int32), am_up f q k x (q0 + 1) = f (q0 + 1) from fun f k x => am_up_ne (by omega)), (show ∀ (f : am_I) (k : Nat) (x : Int32), am_up f q k x (q0 + 2) = f (q0 + 2) from fun f k x => am_up_ne (by omega)), (show ∀ (f : am_I) (k : Nat) (x : Int32), am_up f q k x (q0 + 3) = f (q0 + 3) from fun f k x => am_up_ne (by omega)), (show ∀ (f : am_I) (k : Nat) (x : Int32), am_up f q k x (q0 + 4) = f (q0 + 4) from fun f k x => am_up_ne (by omega)), (show ∀ (f : am_I) (k : Nat) (x : Int32), am_up f q k x (q + 1) = f (q + 1) from fun f k x => am_up_ne (by omega)), (show ∀ (f : am_I) (k : Nat) (x : Int32), am_up f q k x (q + 2) = f (q + 2) from fun f k x => am_up_ne (by omega)), (show ∀ (f : am_I) (k : Nat) (x : Int32), am_up f q k x (q + 3) = f (q + 3) from fun f k x => am_up_ne (by omega)), (show ∀ (f : am_I) (k : Nat) (x : Int32), am_up f q k x (q + 4) = f (q + 4) from fun f k x => am_up_ne (by omega)), (show ∀ (f : am_I) (h : Nat → Int32), am_row f (q + 1) h (q0) = f (q0) from fun f h => am_row_ne (by omega)), (show ∀ (f : am_I) (h : Nat → Int32), am_row f (q + 1) h (q0 + 1) = f (q0 + 1) from fun f h => am_row_ne (by omega)), (show ∀ (f : am_I) (h : Nat → Int32), am_row f (q + 1) h (q0 + 2) = f (q0 + 2) from fun f h => am_row_ne (by omega)), (show ∀ (f : am_I) (h : Nat → Int32), am_row f (q + 1) h (q0 + 3) = f (q0 + 3) from fun f h => am_row_ne (by omega)), (show ∀ (f : am_I) (h : Nat → Int32), am_row f (q + 1) h (q0 + 4) = f (q0 + 4) from fun f h => am_row_ne (by omega)), (show ∀ (f : am_I) (h : Nat → Int32), am_row f (q + 1) h (q) = f (q) from fun f h => am_row_ne (by omega)), (show ∀ (f : am_I) (h : Nat → Int32), am_row f (q + 1) h (q + 2) = f (q + 2) from fun f h => am_row_ne (by omega)), (show ∀ (f : am_I) (h : Nat → Int32), am_row f (q + 1) h (q + 3) = f (q + 3) from fun f h => am_row_ne (by omega)), (show ∀ (f : am_I) (h : Nat → Int32), am_row f (q + 1) h (q + 4) = f (q + 4) from fun f h => am_row_ne (by omega)), (show ∀ (f : am_I) (h : Nat → Int32), am_row f (q + 2) h (q0) = f (q0) from fun f h => am_row_ne (by omega)), (show ∀ (f : am_I) (h : Nat → Int32), am_row f (q + 2) h (q0 + 1) = f (q0 + 1) from fun f h => am_row_ne (by omega)), (show ∀ (f : am_I) (h : Nat → Int32), am_row f (q + 2) h (q0 + 2) = f (q0 + 2) from fun f h => am_row_ne (by omega)), (show ∀ (f : am_I) (h : Nat → Int32), am_row f (q + 2) h (q0 + 3) = f (q0 + 3) from fun f h => am_row_ne (by omega)), (show ∀ (f : am_I) (h : Nat → Int32), am_row f (q + 2) h (q0 + 4) = f (q0 + 4) from fun f h => am_row_ne (by omega)), (show ∀ (f : am_I) (h : Nat → Int32), am_row f (q + 2) h (q) = f (q) from fun f h => am_row_ne (by omega)), (show ∀ (f : am_I) (h : Nat → Int32), am_row f (q + 2) h (q + 1) = f (q + 1) from fun f h => am_row_ne (by omega)), (show ∀ (f : am_I) (h : Nat → Int32), am_row f (q + 2) h (q + 3) = f (q + 3) from fun f h => am_row_ne (by omega)), (show ∀ (f : am_I) (h : Nat → Int32), am_row f (q + 2) h (q + 4) = f (q + 4) from fun f h => am_row_ne (by omega)), (show ∀ (f : am_I) (h : Nat → Int32), am_row f (q + 3) h (q0) = f (q0) from fun f h => am_row_ne (by omega)), (show ∀ (f : am_I) (h : Nat → Int32), am_row f (q + 3) h (q0 + 1) = f (q0 + 1) from fun f h => am_row_ne (by omega)), (show ∀ (f : am_I) (h : Nat → Int32), am_row f (q + 3) h (q0 + 2) = f (q0 + 2) from fun f h => am_row_ne (by omega)), (show ∀ (f : am_I) (h : Nat → Int32), am_row f (q + 3) h (q0 + 3) = f (q0 + 3) from fun f h => am_row_ne (by omega)), (show ∀ (f : am_I) (h : Nat → Int32), am_row f (q + 3) h (q0 + 4) = f (q0 + 4) from fun f h => am_row_ne (by omega)), (show ∀ (f : am_I) (h : Nat → Int32), am_row f (q + 3) h (q) = f (q) from fun f h => am_row_ne (by omega)), (show ∀ (f : am_I) (h : Nat → Int32), am_row f (q + 3) h (q + 1) = f (q + 1) from fun f h => am_row_ne (by omega)), (show ∀ (f : am_I) (h : Nat → Int32), am_row f (q + 3) h (q + 2) = f (q + 2) from fun f h => am_row_ne (by omega)), (show ∀ (f : am_I) (h : Nat → Int32), am_row f (q + 3) h (q + 4) = f (q + 4) from fun f h => am_row_ne (by omega)), (show ∀ (f : am_I) (h : Nat → Int32), am_row f (q + 4) h (q0) = f (q0) from fun f h => am_row_ne (by omega)), (show ∀ (f : am_I) (h : Nat → Int32), am_row f (q + 4) h (q0 + 1) = f (q0 + 1) from fun f h => am_row_ne (by omega)), (show ∀ (f : am_I) (h : Nat → Int32), am_row f (q + 4) h (q0 + 2) = f (q0 + 2) from fun f h => am_row_ne (by omega)), (show ∀ (f : am_I) (h : Nat → Int32), am_row f (q + 4) h (q0 + 3) = f (q0 + 3) from fun f h => am_row_ne (by omega)), (show ∀ (f : am_I) (h : Nat → Int32), am_row f (q + 4) h (q0 + 4) = f (q0 + 4) from fun f h => am_row_ne (by omega)), (show ∀ (f : am_I) (h : Nat → Int32), am_row f (q + 4) h (q) = f (q) from fun f h => am_row_ne (by omega)), (show ∀ (f : am_I) (h : Nat → Int32), am_row f (q + 4) h (q + 1) = f (q + 1) from fun f h => am_row_ne (by omega)), (show ∀ (f : am_I) (h : Nat → Int32), am_row f (q + 4) h (q + 2) = f (q + 2) from fun f h => am_row_ne (by omega)), (show ∀ (f : am_I) (h : Nat → Int32), am_row f (q + 4) h (q + 3) = f (q + 3) from fun f h => am_row_ne (by omega))]
  · rw [am_row_ne (by omega), am_row_ne (by omega), am_row_ne (by omega), am_row_ne (by omega), am_up_ne (by omega), am_up_ne (by omega)]
  · rw [am_row_ne (by omega), am_row_ne (by omega), am_row_ne (by omega), am_row_ne (by omega)]
    unfold am_up
    match j, hj with
    | 0, _ => simp
    | 1, _ => simp
  · rw [am_row_ne (by omega), am_row_ne (by omega), am_row_ne (by omega), am_row_eq, cpy_0 hj]
  · rw [am_row_ne (by omega), am_row_ne (by omega), am_row_eq, cpy_0 hj]
  · rw [am_row_ne (by omega), am_row_eq, cpy_0 hj]
  · rw [am_row_eq, cpy_0 hj]
/-- a state copied: what the second holds, the first holds -/
theorem c_Sta_copy {a a0 : Nat} (ha : shS L a) (ha0 : shS L a0) (hne : a + 11 ≤ a0 ∨ a0 + 11 ≤ a) (h01 : I (a0 + 6) 0 = 0 ∨ I (a0 + 6) 0 = 1) : ∃ I', (∀ Q, am_C (d + 2) 51 [.ref a, .ref a0] (cS L) I J Q = Q none (cS L) I' J) ∧ (∀ b, (b < a + 1 ∨ a + 11 ≤ b) → I' b = I b) ∧ ∀ s, okS s → xS I (a0 + 1) (a0 + 6) s → xS I' (a + 1) (a + 6) s := by
  obtain ⟨I1, h1, e1, p1, p2, p3, p4, p5⟩ := c_Gra_copy (d := d) (I := I) (J := J) ha.2.1 ha0.2.1 (by omega)
  have e6 : I1 (a0 + 6) = I (a0 + 6) := e1 _ (by omega)
  obtain ⟨I2, h2, e2, r1, r2, r3, r4, r5⟩ := c_Grp_copy (d := d) (I := I1) (J := J) ha.2.2 ha0.2.2 (by omega) (by rw [e6]; exact h01)
  refine ⟨I2, fun Q => ?_, fun b hb => ?_, fun s hs hx => ?_⟩
  · rw [e51]
    simp only [r51_0, r51_1, r51_4, r51_5, r51_8, r51_11, r51_12, r51_15, r51_16, r51_19, r51_22, ha.1.1, ha.1.2.1, ha.1.2.2, ha0.1.1, ha0.1.2.1, ha0.1.2.2, ha.2.1.1, ha.2.2.1, ha0.2.1.1, ha0.2.2.1, true_and, and_true, true_or, or_true, if_true, if_false, ne_eq, not_false_eq_true, and_self, t10, am_psh, am_clr, not_true_eq_false, Nat.reduceEqDiff, Nat.add_eq_zero_iff, and_false, Nat.reduceEqDiff]
    simp only [h1, h2, true_and, and_true, true_or, or_true, if_true, if_false, ne_eq, not_false_eq_true, and_self, t10, am_psh, am_clr, not_true_eq_false, Nat.reduceEqDiff, r51_0, r51_1, r51_4, r51_5, r51_8, r51_11, r51_12, r51_15, r51_16, r51_19, r51_22, ha.1.1, ha.1.2.1, ha.1.2.2, ha0.1.1, ha0.1.2.1, ha0.1.2.2, ha.2.1.1, ha.2.2.1, ha0.2.1.1, ha0.2.2.1, Nat.add_eq_zero_iff, and_false]
  · rw [e2 b (by omega), e1 b (by omega)]
  · obtain ⟨G, o⟩ := s
    obtain ⟨⟨x1, x2, x3⟩, x4⟩ := hx
    obtain ⟨⟨n1, n2, n3, n4⟩, -⟩ := hs.1
    have f : ∀ i, i < 5 → I2 (a + 1 + i) = I1 (a + 1 + i) := fun i hi => e2 _ (by omega)
    refine ⟨⟨⟨?_, ?_, ?_⟩, fun k hk => ⟨?_, ?_, ?_⟩, fun v hv => ?_⟩, ?_⟩
    · rw [f 0 (by omega), p1 0 (by omega)]; exact x1.1
    · rw [f 0 (by omega), p1 1 (by omega)]; exact x1.2.1
    · rw [f 0 (by omega), p1 2 (by omega)]; exact x1.2.2
    · rw [f 1 (by omega), p2 k (by have : k < gm G := hk; omega)]; exact (x2 k hk).1
    · rw [f 2 (by omega), p3 k (by have : k < gm G := hk; omega)]; exact (x2 k hk).2.1
    · rw [f 3 (by omega), p4 k (by have : k < gm G := hk; omega)]; exact (x2 k hk).2.2
    · rw [f 4 (by omega), p5 v hv]; exact x3 v hv
    · cases o with
      | none =>
        show I2 (a + 6) 0 = 0
        rw [r1 0 (by omega), e6]; exact x4
      | some R =>
        obtain ⟨y1, y2, y3, y4⟩ := x4
        obtain ⟨⟨m1, m2⟩, -⟩ := hs.2 R rfl
        have g : ∀ i, i < 5 → I1 (a0 + 6 + i) = I (a0 + 6 + i) := fun i hi => e1 _ (by omega)
        refine ⟨?_, ?_, fun k hk => ⟨?_, ?_, ?_⟩, fun v hv => ?_⟩
        · rw [r1 0 (by omega), e6]; exact y1
        · rw [r1 1 (by omega), e6]; exact y2
        · rw [r2 k (by omega), g 1 (by omega)]; exact (y3 k hk).1
        · rw [r3 k (by omega), g 2 (by omega)]; exact (y3 k hk).2.1
        · rw [r4 k (by omega), g 3 (by omega)]; exact (y3 k hk).2.2
        · rw [r5 v (by have : v < gn G := hv; omega), g 4 (by omega)]; exact y4 v hv
end CP
