/-! small facts on numbers, rows and shapes -/
theorem n_le {a b : Nat} (ha : a < 2 ^ 31) (hb : b < 2 ^ 31) : (nI a ≤ nI b) = (a ≤ b) := propext (nI_leI ha hb)
theorem n_lt {a b : Nat} (ha : a < 2 ^ 31) (hb : b < 2 ^ 31) : (nI a < nI b) = (a < b) := propext (nI_ltI ha hb)
theorem n_eq {a b : Nat} (ha : a < 2 ^ 31) (hb : b < 2 ^ 31) : (nI a = nI b) = (a = b) := propext (nI_eq ha hb)
theorem n_lit (n : Nat) : (OfNat.ofNat n : Int32) = nI n := rfl
theorem n_neg {a : Nat} (ha : a < 2 ^ 31) : (nI a < 0) = False := eq_false (nI_pos ha)
theorem n_ne_m1 {a : Nat} (ha : a < 2 ^ 31) : (nI a = -1) = False := by
  refine eq_false (fun h => ?_)
  have := congrArg Int32.toInt h
  rw [nI_toInt ha] at this
  have h2 : (-1 : Int32).toInt = -1 := by decide
  omega
theorem n_ne_none {a : Nat} (ha : a < 2 ^ 31) : (nI a = -107) = False := by
  refine eq_false (fun h => ?_)
  have := congrArg Int32.toInt h
  rw [nI_toInt ha] at this
  have h2 : (-107 : Int32).toInt = -107 := by decide
  omega
theorem n_add (a b : Nat) : nI a + nI b = nI (a + b) := nI_add a b
theorem n_cl {a : Nat} (h : a < 2 ^ 31) : (nI a).toNatClampNeg = a := nI_clamp h
theorem n_ti {a : Nat} (h : a < 2 ^ 31) : (nI a).toInt = (a : Int) := nI_toInt h
theorem ix_nI {S : am_S} {a kd n k : Nat} (h1 : am_kd S a = kd) (h2 : am_ln S a = n) (hk : k < n) (hn : n < 2 ^ 31) : am_ix S a kd (nI k) := by
  refine ⟨h1, ?_, ?_⟩ <;> rw [nI_toInt (by omega)] <;> omega
theorem ixw_nI {S : am_S} {a kd n k : Nat} (h1 : am_kd S a = kd) (h0 : a ≠ 0) (h2 : am_ln S a = n) (hk : k < n) (hn : n < 2 ^ 31) : am_ixw S a kd (nI k) := by
  refine ⟨h1, h0, ?_, ?_⟩ <;> rw [nI_toInt (by omega)] <;> omega
theorem up_self {α : Type} (f : Nat → Nat → α) (a k : Nat) (x : α) : am_up f a k x a k = x := by unfold am_up; simp
theorem up_ne {α : Type} (f : Nat → Nat → α) {a k b j : Nat} (x : α) (h : b ≠ a ∨ j ≠ k) : am_up f a k x b j = f b j := by
  unfold am_up; rw [if_neg (fun q => by rcases h with h | h; exact h q.1; exact h q.2)]
theorem row_self {α : Type} (f : Nat → Nat → α) (a : Nat) (g : Nat → α) (j : Nat) : am_row f a g a j = g j := by unfold am_row; simp
theorem row_ne {α : Type} (f : Nat → Nat → α) {a b : Nat} (g : Nat → α) (j : Nat) (h : b ≠ a) : am_row f a g b j = f b j := by unfold am_row; simp [h]
theorem row_id {α : Type} {f : Nat → Nat → α} {a : Nat} {g : Nat → α} (h : f a = g) : am_row f a g = f := by
  funext b j; unfold am_row
  by_cases e : b = a
  · rw [if_pos e, e, h]
  · rw [if_neg e]
/-- an open row becomes a row of its own -/
theorem up_row {α : Type} (f : Nat → Nat → α) (a k : Nat) (x : α) : am_up f a k x = am_row f a (fun j => if j = k then x else f a j) := by
  funext b j; unfold am_up am_row
  by_cases e : b = a
  · subst e; by_cases g : j = k <;> simp [g]
  · simp [e]
theorem row_row {α : Type} (f : Nat → Nat → α) (a : Nat) (g g' : Nat → α) : am_row (am_row f a g) a g' = am_row f a g' := by
  funext b j; unfold am_row
  by_cases e : b = a <;> simp [e]
-- appended shapes
section SH
variable {S T : am_S} {c : Nat × Nat × (Nat → Nat)} {k j r : Nat}
theorem sh_at (S T : am_S) (k : Nat) : (S ++ T).getD (S.length + k) am_c0 = T.getD k am_c0 := by
  rw [List.getD_eq_getElem?_getD, List.getD_eq_getElem?_getD, List.getElem?_append_right (by omega)]
  congr 2
  omega
theorem sh_kd (S T : am_S) (k : Nat) : am_kd (S ++ T) (S.length + k) = am_kd T k := by unfold am_kd; rw [sh_at]
theorem sh_ln (S T : am_S) (k : Nat) : am_ln (S ++ T) (S.length + k) = am_ln T k := by unfold am_ln; rw [sh_at]
theorem sh_rf (S T : am_S) (k j : Nat) : am_rf (S ++ T) (S.length + k) j = am_rf T k j := by unfold am_rf; rw [sh_at]
theorem sh_is (S T : am_S) (k ci : Nat) (h : 0 < S.length) : am_is (S ++ T) (S.length + k) ci = (am_kd T k = ci) := by
  unfold am_is; rw [sh_kd]
  apply propext
  exact ⟨fun h => h.1, fun g => ⟨g, by omega⟩⟩
theorem sh_is0 (S T : am_S) (ci : Nat) (h : 0 < S.length) : am_is (S ++ T) S.length ci = (am_kd T 0 = ci) := sh_is S T 0 ci h
theorem sh_rf0 (S T : am_S) (j : Nat) : am_rf (S ++ T) S.length j = am_rf T 0 j := sh_rf S T 0 j
theorem sh_sr (S T : am_S) (k j r : Nat) : am_sr (S ++ T) (S.length + k) j r = S ++ am_sr T k j r := by
  unfold am_sr
  rw [sh_kd, sh_ln, List.set_append_right _ _ (by omega)]
  congr 2
  · omega
  · congr 2
    funext i
    rw [sh_rf]
theorem sh_sr0 (S T : am_S) (j r : Nat) : am_sr (S ++ T) S.length j r = S ++ am_sr T 0 j r := sh_sr S T 0 j r
end SH
