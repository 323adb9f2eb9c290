/-! bits: the first rows are pasted from the kit (laws/BITS.to-paste) -/
def bt (x : Int32) (i : Nat) : Bool := x.toBitVec.getLsbD i
theorem b_ext {x y : Int32} (h : ∀ i, i < 32 → bt x i = bt y i) : x = y := Int32.toBitVec_inj.mp (BitVec.eq_of_getLsbD_eq (fun i hi => h i hi))
theorem b_or (x y : Int32) (i : Nat) : bt (x ||| y) i = (bt x i || bt y i) := by unfold bt; rw [Int32.toBitVec_or, BitVec.getLsbD_or]
theorem b_and (x y : Int32) (i : Nat) : bt (x &&& y) i = (bt x i && bt y i) := by unfold bt; rw [Int32.toBitVec_and, BitVec.getLsbD_and]
theorem b_xor (x y : Int32) (i : Nat) : bt (x ^^^ y) i = (bt x i ^^ bt y i) := by unfold bt; rw [Int32.toBitVec_xor, BitVec.getLsbD_xor]
theorem b_big {x : Int32} {i : Nat} (h : 32 ≤ i) : bt x i = false := BitVec.getLsbD_of_ge _ _ h
theorem b_m1 : ∀ i, i < 32 → bt (-1) i = true := by decide +kernel
theorem b_0 (i : Nat) : bt 0 i = false := BitVec.getLsbD_zero
theorem s_l : ∀ n, n < 32 → ((nI n &&& 31).toBitVec.smod 32).toNat = n := by decide +kernel
theorem s_u : ∀ n, n < 32 → (((nI n).toUInt32 &&& Int32.toUInt32 31).toBitVec % 32).toNat = n := by decide +kernel
theorem b_shl (n : Nat) (hn : n < 32) (x : Int32) {i : Nat} (hi : i < 32) : bt (x <<< (nI n &&& 31)) i = (decide (n ≤ i) && bt x (i - n)) := by
  unfold bt
  rw [Int32.toBitVec_shiftLeft]
  show (x.toBitVec <<< ((nI n &&& 31).toBitVec.smod 32).toNat).getLsbD i = _
  rw [s_l n hn, BitVec.getLsbD_shiftLeft]
  rcases Nat.lt_or_ge i n with h | h
  · simp [h, Nat.not_le.mpr h]
  · simp [hi, h, Nat.not_lt.mpr h]
theorem b_ushr (n : Nat) (hn : n < 32) (x : Int32) (i : Nat) : bt ((x.toUInt32 >>> ((nI n).toUInt32 &&& Int32.toUInt32 31)).toInt32) i = bt x (n + i) := by
  show (x.toUInt32 >>> ((nI n).toUInt32 &&& Int32.toUInt32 31)).toBitVec.getLsbD i = x.toUInt32.toBitVec.getLsbD (n + i)
  rw [UInt32.toBitVec_shiftRight]
  show (x.toUInt32.toBitVec >>> (((nI n).toUInt32 &&& Int32.toUInt32 31).toBitVec % 32).toNat).getLsbD i = _
  rw [s_u n hn, BitVec.getLsbD_ushiftRight]
theorem b_sshr (n : Nat) (hn : n < 32) (x : Int32) {i : Nat} (hi : i < 32) : bt (x >>> (nI n &&& 31)) i = if n + i < 32 then bt x (n + i) else bt x 31 := by
  unfold bt
  rw [Int32.toBitVec_shiftRight]
  show (x.toBitVec.sshiftRight ((nI n &&& 31).toBitVec.smod 32).toNat).getLsbD i = _
  rw [s_l n hn, BitVec.getLsbD_sshiftRight, BitVec.msb_eq_getLsbD_last]
  simp [hi]
theorem bt_1 : ∀ i, i < 32 → bt 1 i = decide (i = 0) := by decide +kernel
theorem bit_bt {s : Int32} {v : Nat} (hv : v < 32) : bit s v = 1 ↔ bt s v = true := by
  have key : bt (bit s v) 0 = bt s v := by
    unfold bit
    rw [b_and, b_sshr v hv s (by omega), if_pos (by omega), bt_1 0 (by omega)]
    simp
  constructor
  · intro h
    rw [← key, h]; decide
  · intro h
    rcases bit01 s v with q | q
    · rw [q] at key
      rw [← key] at h
      exact absurd h (by decide)
    · exact q
theorem bit_0 {s : Int32} {v : Nat} : bit s v = 0 ↔ ¬ bit s v = 1 := by
  rcases bit01 s v with q | q
  · rw [q]; exact ⟨fun _ => by decide, fun _ => rfl⟩
  · rw [q]; exact ⟨fun h => absurd h (by decide), fun h => absurd rfl h⟩
theorem bit_or {x y : Int32} {v : Nat} (hv : v < 32) : bit (x ||| y) v = 1 ↔ bit x v = 1 ∨ bit y v = 1 := by
  rw [bit_bt hv, bit_bt hv, bit_bt hv, b_or, Bool.or_eq_true]
theorem bit_z {v : Nat} (hv : v < 32) : ¬ bit 0 v = 1 := by rw [bit_bt hv, b_0]; decide
theorem bit_one {u v : Nat} (hu : u < 32) (hv : v < 32) : bit ((1 : Int32) <<< (nI u &&& 31)) v = 1 ↔ v = u := by
  rw [bit_bt hv, b_shl u hu 1 hv, bt_1 (v - u) (by omega)]
  simp only [Bool.and_eq_true, decide_eq_true_eq]
  omega
theorem and_ne0 {x y : Int32} : (¬ x &&& y = 0) ↔ ∃ v, v < 32 ∧ bit x v = 1 ∧ bit y v = 1 := by
  constructor
  · intro h
    refine Decidable.byContradiction (fun q => h (b_ext (fun i hi => ?_)))
    rw [b_and, b_0]
    cases h1 : bt x i with
    | false => rfl
    | true =>
      cases h2 : bt y i with
      | false => rfl
      | true => exact absurd ⟨i, hi, (bit_bt hi).mpr h1, (bit_bt hi).mpr h2⟩ q
  · rintro ⟨v, hv, h1, h2⟩ h
    have := b_and x y v
    rw [h, b_0, (bit_bt hv).mp h1, (bit_bt hv).mp h2] at this
    exact absurd this (by decide)
theorem bit_orN {f : Nat → Int32} {v : Nat} (hv : v < 32) : ∀ k, bit (orN f k) v = 1 ↔ ∃ i, i < k ∧ bit (f i) v = 1 := by
  intro k
  induction k with
  | zero => exact ⟨fun h => absurd h (bit_z hv), fun ⟨i, hi, _⟩ => absurd hi (Nat.not_lt_zero i)⟩
  | succ k ih =>
    rw [orN_s, bit_or hv, ih]
    constructor
    · rintro (⟨i, hi, h⟩ | h)
      · exact ⟨i, by omega, h⟩
      · exact ⟨k, by omega, h⟩
    · rintro ⟨i, hi, h⟩
      by_cases e : i = k
      · subst e; exact Or.inr h
      · exact Or.inl ⟨i, by omega, h⟩
/-! counting -/
theorem pg_le : ∀ (n j : Nat) (f : Nat → Nat), (∀ i, i < j → f i < n) → (∀ a b, a < j → b < j → f a = f b → a = b) → j ≤ n := by
  intro n
  induction n with
  | zero =>
    intro j f h _
    cases j with
    | zero => exact Nat.le_refl 0
    | succ j => exact absurd (h 0 (by omega)) (Nat.not_lt_zero _)
  | succ n ih =>
    intro j f h hi
    by_cases e : ∃ i, i < j ∧ f i = n
    · obtain ⟨i0, h0, e0⟩ := e
      have := ih (j - 1) (fun i => if i = i0 then f (j - 1) else f i) (fun i hi1 => by
        by_cases e1 : i = i0
        · rw [if_pos e1]
          have a1 := h (j - 1) (by omega)
          have a2 : f (j - 1) ≠ n := fun q => by
            have := hi (j - 1) i0 (by omega) h0 (q.trans e0.symm)
            omega
          omega
        · rw [if_neg e1]
          have a1 := h i (by omega)
          have a2 : f i ≠ n := fun q => e1 (hi i i0 (by omega) h0 (q.trans e0.symm))
          omega) (fun a b ha hb hab => by
        by_cases ea : a = i0
        · by_cases eb : b = i0
          · omega
          · rw [if_pos ea, if_neg eb] at hab
            have := hi (j - 1) b (by omega) (by omega) hab
            omega
        · by_cases eb : b = i0
          · rw [if_neg ea, if_pos eb] at hab
            have := hi a (j - 1) (by omega) (by omega) hab
            omega
          · rw [if_neg ea, if_neg eb] at hab
            exact hi a b (by omega) (by omega) hab)
      omega
    · refine Nat.le_succ_of_le (ih j f (fun i hi1 => ?_) hi)
      have a1 := h i hi1
      have a2 : f i ≠ n := fun q => e ⟨i, hi1, q⟩
      omega
theorem lst {P : Nat → Prop} : ∀ n, P n → ∃ j, j ≤ n ∧ P j ∧ ∀ i, i < j → ¬ P i := by
  intro n
  induction n using Nat.strongRecOn with
  | ind n ih =>
    intro h
    by_cases e : ∃ i, i < n ∧ P i
    · obtain ⟨i, hi, hp⟩ := e
      obtain ⟨j, h1, h2, h3⟩ := ih i hi hp
      exact ⟨j, by omega, h2, h3⟩
    · exact ⟨n, Nat.le_refl n, h, fun i hi hp => e ⟨i, hi, hp⟩⟩
theorem sumN_le {f g : Nat → Nat} : ∀ k, (∀ i, i < k → f i ≤ g i) → sumN f k ≤ sumN g k := by
  intro k
  induction k with
  | zero => intro _; exact Nat.le_refl _
  | succ k ih =>
    intro h
    unfold sumN
    have := ih (fun i hi => h i (by omega))
    have := h k (by omega)
    omega
theorem sumN_congr {f g : Nat → Nat} : ∀ k, (∀ i, i < k → f i = g i) → sumN f k = sumN g k := by
  intro k
  induction k with
  | zero => intro _; rfl
  | succ k ih =>
    intro h
    unfold sumN
    rw [ih (fun i hi => h i (by omega)), h k (by omega)]
/-- one place is less by one -/
theorem sumN_1 {f g : Nat → Nat} {a : Nat} : ∀ k, (∀ i, i < k → f i ≤ g i) → a < k → f a + 1 ≤ g a → sumN f k + 1 ≤ sumN g k := by
  intro k
  induction k with
  | zero => intro _ h; exact absurd h (Nat.not_lt_zero a)
  | succ k ih =>
    intro h ha h1
    unfold sumN
    by_cases e : a = k
    · subst e
      have := sumN_le a (fun i hi => h i (by omega))
      omega
    · have := ih (fun i hi => h i (by omega)) (by omega) h1
      have := h k (by omega)
      omega
theorem sumN_2 {f g : Nat → Nat} {a b : Nat} : ∀ k, (∀ i, i < k → f i ≤ g i) → a < k → b < k → a ≠ b → f a + 1 ≤ g a → f b + 1 ≤ g b → sumN f k + 2 ≤ sumN g k := by
  intro k
  induction k with
  | zero => intro _ h; exact absurd h (Nat.not_lt_zero a)
  | succ k ih =>
    intro h ha hb hab h1 h2
    unfold sumN
    by_cases e : a = k
    · have := sumN_1 (a := b) k (fun i hi => h i (by omega)) (by omega) h2
      rw [e] at h1
      omega
    · by_cases e2 : b = k
      · have := sumN_1 (a := a) k (fun i hi => h i (by omega)) (by omega) h1
        rw [e2] at h2
        omega
      · have := ih (fun i hi => h i (by omega)) (by omega) (by omega) hab h1 h2
        have := h k (by omega)
        omega
/-- one place is more by one, the others are the same -/
theorem sumN_up {f g : Nat → Nat} {a : Nat} : ∀ k, (∀ i, i < k → i ≠ a → g i = f i) → a < k → g a = f a + 1 → sumN g k = sumN f k + 1 := by
  intro k
  induction k with
  | zero => intro _ h; exact absurd h (Nat.not_lt_zero a)
  | succ k ih =>
    intro h ha h1
    unfold sumN
    by_cases e : a = k
    · subst e
      rw [sumN_congr a (fun i hi => h i (by omega) (by omega)), h1]; omega
    · rw [ih (fun i hi => h i (by omega)) (by omega) h1, h k (by omega) (by omega)]; omega
