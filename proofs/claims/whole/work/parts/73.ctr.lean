/-! the class' counter -/
section CB
variable {G : Gr} {al : Nat → Bool} {ok : Nat → Nat → Bool} {N : Nat} {tg : Nat → Nat → Nat}
def dgC (ok : Nat → Nat → Bool) (N v : Nat) : Nat := sumN (fun a => if ok v a = true then 1 else 0) N
theorem dgN_C (v : Nat) : dgN ok N v = (dgC ok N v : Int) := by
  have key : ∀ n, sZ (fun a => if ok v a = true then (1 : Int) else 0) n = ((sumN (fun a => if ok v a = true then 1 else 0) n : Nat) : Int) := by
    intro n
    induction n with
    | zero => rfl
    | succ n ih =>
      unfold sZ sumN
      rw [ih]
      by_cases e : ok v n = true
      · rw [if_pos e, if_pos e]; omega
      · rw [if_neg e, if_neg e]; omega
  exact key N
theorem sq_le : ∀ d, d < 40 → d * d ≤ 2 ^ (d + 1) := by decide
theorem eF_le (k : Nat) : eF ok N tg (k + 1) ≤ dgN ok N k * eF ok N tg k := by
  have h1 := eF_s (ok := ok) (N := N) (tg := tg) k
  have h2 := eB_nn (ok := ok) (N := N) (tg := tg) k k k
  omega
theorem z_sq {x y : Int} (h0 : 0 ≤ x) (h : x ≤ y) : x * x ≤ y * y := Int.mul_le_mul h h h0 (by omega)
theorem z_pow (a b : Nat) : ((2 ^ (a + b) : Nat) : Int) = ((2 ^ a : Nat) : Int) * ((2 ^ b : Nat) : Int) := by rw [Nat.pow_add]; exact Int.natCast_mul _ _
/-- squares, by powers of 2 -/
theorem d_sq (hd : ∀ v, dgC ok N v < 40) (i : Nat) {x : Int} {e : Nat} (h0 : 0 ≤ x) (h : x * x ≤ ((2 ^ e : Nat) : Int)) : (dgN ok N i * x) * (dgN ok N i * x) ≤ ((2 ^ (dgC ok N i + 1 + e) : Nat) : Int) := by
  rw [z_pow, dgN_C]
  have h1 : ((dgC ok N i : Int) * (dgC ok N i : Int)) ≤ ((2 ^ (dgC ok N i + 1) : Nat) : Int) := by
    rw [← Int.natCast_mul]; exact Int.ofNat_le.mpr (sq_le _ (hd i))
  have e1 : ((dgC ok N i : Int) * x) * ((dgC ok N i : Int) * x) = ((dgC ok N i : Int) * (dgC ok N i : Int)) * (x * x) := by
    rw [Int.mul_assoc, Int.mul_left_comm x, ← Int.mul_assoc]
  rw [e1]
  exact Int.mul_le_mul h1 h (Int.mul_nonneg h0 h0) (Int.natCast_nonneg _)
theorem eF_sq (hd : ∀ v, dgC ok N v < 40) : ∀ k, eF ok N tg k * eF ok N tg k ≤ ((2 ^ (sumN (fun v => dgC ok N v + 1) k) : Nat) : Int) := by
  intro k
  induction k with
  | zero => rw [eF_0]; exact Int.le_refl 1
  | succ k ih =>
    refine Int.le_trans (z_sq (eF_nn _) (eF_le k)) ?_
    have := d_sq hd k (eF_nn (ok := ok) (N := N) (tg := tg) k) ih
    show _ ≤ ((2 ^ (sumN (fun v => dgC ok N v + 1) k + (dgC ok N k + 1)) : Nat) : Int)
    rw [Nat.add_comm (sumN _ k)]
    exact this
theorem root_le {x : Int} {e : Nat} (he : e ≤ 42) (h : x * x ≤ ((2 ^ e : Nat) : Int)) : x ≤ 2097152 := by
  refine Classical.byContradiction (fun hn => ?_)
  have h1 : (2097153 : Int) * 2097153 ≤ x * x := Int.mul_le_mul (by omega) (by omega) (by decide) (by omega)
  have h2 : ((2 ^ e : Nat) : Int) ≤ ((2 ^ 42 : Nat) : Int) := Int.ofNat_le.mpr (Nat.pow_le_pow_right (by decide) he)
  have h3 : ((2 ^ 42 : Nat) : Int) = 4398046511104 := by decide
  omega
theorem sumN_two {g : Nat → Nat} {i : Nat} : ∀ (n k : Nat), k ≤ i → i < k + n → sumN g k + g i ≤ sumN g (k + n) := by
  intro n
  induction n with
  | zero => intro k h1 h2; omega
  | succ n ih =>
    intro k h1 h2
    show sumN g k + g i ≤ sumN g (k + n) + g (k + n)
    by_cases e : i = k + n
    · subst e
      have : ∀ n, sumN g k ≤ sumN g (k + n) := by
        intro n
        induction n with
        | zero => exact Nat.le_refl _
        | succ n ih => show sumN g k ≤ sumN g (k + n) + g (k + n); omega
      have := this n
      omega
    · have := ih k h1 (by omega)
      omega
theorem sumN_mono {g : Nat → Nat} (k : Nat) : ∀ n, sumN g k ≤ sumN g (k + n) := by
  intro n
  induction n with
  | zero => exact Nat.le_refl _
  | succ n ih => show sumN g k ≤ sumN g (k + n) + g (k + n); omega
/-- no number is large -/
theorem e_small (hd : ∀ v, dgC ok N v < 40) {n : Nat} (hs : sumN (fun v => dgC ok N v + 1) n ≤ 42) {k : Nat} (hk : k ≤ n) : 0 ≤ eF ok N tg k ∧ eF ok N tg k ≤ 2097152 := by
  refine ⟨eF_nn k, root_le ?_ (eF_sq hd k)⟩
  have := sumN_mono (g := fun v => dgC ok N v + 1) k (n - k)
  rw [show k + (n - k) = n by omega] at this
  omega
theorem eM_small (hd : ∀ v, dgC ok N v < 40) {n : Nat} (hs : sumN (fun v => dgC ok N v + 1) n ≤ 42) {k i j : Nat} (hk : k ≤ i) (hi : i < n) : -2097152 ≤ eM ok N tg k i j ∧ eM ok N tg k i j ≤ 2097152 := by
  have h1 : dgN ok N i * eF ok N tg k ≤ 2097152 := root_le (by
    have := sumN_two (g := fun v => dgC ok N v + 1) (i := i) (n - k) k hk (by omega)
    rw [show k + (n - k) = n by omega] at this
    show dgC ok N i + 1 + sumN (fun v => dgC ok N v + 1) k ≤ 42
    have t : sumN (fun v => dgC ok N v + 1) k + (dgC ok N i + 1) ≤ sumN (fun v => dgC ok N v + 1) n := this
    omega) (d_sq hd i (eF_nn k) (eF_sq hd k))
  have h2 := eB_le (ok := ok) (N := N) (tg := tg) k i j
  have h3 := eB_nn (ok := ok) (N := N) (tg := tg) k i j
  have h4 : 0 ≤ dgN ok N i * eF ok N tg k := Int.mul_nonneg (dgN_nn i) (eF_nn k)
  unfold eM
  by_cases e : i = j
  · rw [if_pos e]; omega
  · rw [if_neg e]; omega
theorem sumN_add (g h : Nat → Nat) : ∀ n, sumN (fun v => g v + h v) n = sumN g n + sumN h n := by
  intro n
  induction n with
  | zero => rfl
  | succ n ih => unfold sumN; rw [ih]; omega
theorem sumN_zero : ∀ n, sumN (fun _ => 0) n = 0 := by
  intro n
  induction n with
  | zero => rfl
  | succ n ih => unfold sumN; rw [ih]
theorem sumN_k (c : Nat) : ∀ n, sumN (fun _ => c) n = c * n := by
  intro n
  induction n with
  | zero => rfl
  | succ n ih => unfold sumN; rw [ih, Nat.mul_succ]
theorem sumN_comm (g : Nat → Nat → Nat) (m : Nat) : ∀ n, sumN (fun i => sumN (g i) m) n = sumN (fun j => sumN (fun i => g i j) n) m := by
  intro n
  induction n with
  | zero => exact (sumN_zero m).symm
  | succ n ih =>
    show sumN (fun i => sumN (g i) m) n + sumN (g n) m = sumN (fun j => sumN (fun i => g i j) n + g n j) m
    rw [ih, sumN_add]
theorem sumN_at (c : Nat) : ∀ n, sumN (fun v => if v = c then 1 else 0) n ≤ 1 ∧ (n ≤ c → sumN (fun v => if v = c then 1 else 0) n = 0) := by
  intro n
  induction n with
  | zero => exact ⟨Nat.zero_le 1, fun _ => rfl⟩
  | succ n ih =>
    unfold sumN
    by_cases e : n = c
    · rw [if_pos e, ih.2 (by omega)]
      exact ⟨Nat.le_refl _, fun h => by omega⟩
    · rw [if_neg e]
      exact ⟨by have := ih.1; omega, fun h => by rw [ih.2 (by omega)]⟩
theorem okv_sum : sumN (fun v => dgC (okv G al) 33 v + 1) (gn G) ≤ 34 + gn G := by
  have h1 : sumN (fun v => dgC (okv G al) 33 v) (gn G) ≤ 34 := by
    unfold dgC
    rw [sumN_comm]
    have h2 := sumN_le (f := fun a => sumN (fun v => if okv G al v a = true then 1 else 0) (gn G)) (g := fun a => (if a = 0 then 1 else 0) + 1) 33 (fun a _ => by
      have h3 := sumN_le (f := fun v => if okv G al v a = true then 1 else 0) (g := fun v => (if a = 0 then (if v = gr G then 1 else 0) else 0) + (if v = gh G a then 1 else 0)) (gn G) (fun v _ => by
        show (if okv G al v a = true then 1 else 0) ≤ (if a = 0 then (if v = gr G then 1 else 0) else 0) + (if v = gh G a then 1 else 0)
        by_cases c : okv G al v a = true
        · rw [if_pos c]
          by_cases e : v = gr G
          · rw [e] at c
            rw [if_pos (okv_r.mp c), if_pos e]; omega
          · rw [if_pos (show v = gh G a from ((okv_n e).mp c).2.2.symm)]; omega
        · rw [if_neg c]; exact Nat.zero_le _)
      rw [sumN_add] at h3
      have h4 := (sumN_at (gh G a) (gn G)).1
      have h5 := (sumN_at (gr G) (gn G)).1
      show sumN (fun v => if okv G al v a = true then 1 else 0) (gn G) ≤ (if a = 0 then 1 else 0) + 1
      by_cases e : a = 0
      · simp only [e, if_true] at h3 h4 ⊢
        omega
      · simp only [e, if_false] at h3 ⊢
        rw [sumN_zero] at h3
        omega)
    rw [sumN_add (fun a => if a = 0 then 1 else 0) (fun _ => 1), sumN_k] at h2
    have h3 := (sumN_at 0 33).1
    omega
  rw [sumN_add (fun v => dgC (okv G al) 33 v) (fun _ => 1), sumN_k]
  omega
theorem okv_dg (v : Nat) : dgC (okv G al) 33 v < 40 := by
  have := sumN_le (f := fun a => if okv G al v a = true then 1 else 0) (g := fun _ => 1) 33 (fun a _ => by
    show (if okv G al v a = true then 1 else 0) ≤ 1
    by_cases c : okv G al v a = true
    · rw [if_pos c]; omega
    · rw [if_neg c]; omega)
  rw [sumN_k] at this
  show sumN (fun a => if okv G al v a = true then 1 else 0) 33 < 40
  omega
/-- the matrix as it is filled -/
def fM (G : Gr) (al : Nat → Bool) : Nat → Nat → Nat → Int
  | 0, i, j => if i = gr G ∧ j = gr G then 1 else 0
  | m + 1, i, j => fM G al m i j + (if al m = true ∧ gh G m ≠ gr G ∧ gh G m = i then (if j = i then 1 else 0) - (if gt G m ≠ gr G ∧ gt G m = j then 1 else 0) else 0)
theorem fM_r (m : Nat) (j : Nat) : fM G al m (gr G) j = if j = gr G then 1 else 0 := by
  induction m with
  | zero =>
    show (if gr G = gr G ∧ j = gr G then (1 : Int) else 0) = _
    by_cases e : j = gr G
    · rw [if_pos ⟨rfl, e⟩, if_pos e]
    · rw [if_neg (fun q => e q.2), if_neg e]
  | succ m ih =>
    show fM G al m (gr G) j + _ = _
    rw [ih, if_neg (show ¬ (al m = true ∧ gh G m ≠ gr G ∧ gh G m = gr G) from fun q => q.2.1 q.2.2), Int.add_zero]
theorem fM_n {i j : Nat} (hi : i ≠ gr G) : ∀ m, fM G al m i j = (if i = j then sZ (fun a => if al a = true ∧ gh G a = i then 1 else 0) m else 0) - sZ (fun a => if al a = true ∧ gh G a = i then (if gt G a ≠ gr G ∧ gt G a = j then 1 else 0) else 0) m := by
  intro m
  induction m with
  | zero =>
    show (if i = gr G ∧ j = gr G then (1 : Int) else 0) = (if i = j then 0 else 0) - 0
    rw [if_neg (fun q => hi q.1)]
    by_cases e : i = j
    · rw [if_pos e]; rfl
    · rw [if_neg e]; rfl
  | succ m ih =>
    show fM G al m i j + _ = (if i = j then sZ (fun a => if al a = true ∧ gh G a = i then 1 else 0) m + (if al m = true ∧ gh G m = i then 1 else 0) else 0) - (sZ (fun a => if al a = true ∧ gh G a = i then (if gt G a ≠ gr G ∧ gt G a = j then 1 else 0) else 0) m + (if al m = true ∧ gh G m = i then (if gt G m ≠ gr G ∧ gt G m = j then 1 else 0) else 0))
    rw [ih]
    by_cases c : al m = true ∧ gh G m = i
    · rw [if_pos (show al m = true ∧ gh G m ≠ gr G ∧ gh G m = i from ⟨c.1, by rw [c.2]; exact hi, c.2⟩), if_pos c, if_pos c]
      by_cases e : i = j
      · rw [if_pos e, if_pos e.symm, if_pos e]; omega
      · rw [if_neg e, if_neg (fun q => e q.symm), if_neg e]; omega
    · rw [if_neg (show ¬ (al m = true ∧ gh G m ≠ gr G ∧ gh G m = i) from fun q => c ⟨q.1, q.2.2⟩), if_neg c, if_neg c]
      by_cases e : i = j
      · rw [if_pos e, if_pos e]; omega
      · rw [if_neg e, if_neg e]; omega
theorem wS_gm {v : Nat} {φ : Nat → Int} (hm : gm G ≤ 32) (hv : v ≠ gr G) : wS (okv G al) 33 v φ = sZ (fun a => if al a = true ∧ gh G a = v then φ a else 0) (gm G) := by
  unfold wS
  have e33 : (33 : Nat) = gm G + (33 - gm G) := by omega
  rw [e33, sZ_ext (k := gm G) (33 - gm G) (fun i h1 h2 => if_neg (fun q => by have := ((okv_n hv).mp q).1; omega))]
  refine sZ_c _ (fun a ha => ?_)
  by_cases c : al a = true ∧ gh G a = v
  · rw [if_pos ((okv_n hv).mpr ⟨ha, c.1, c.2⟩), if_pos c]
  · rw [if_neg (fun q => c ((okv_n hv).mp q).2), if_neg c]
theorem wS_gr {φ : Nat → Int} : wS (okv G al) 33 (gr G) φ = φ 0 := by
  unfold wS
  rw [sZ_one (c := 0) 33 (by omega) (fun i _ hi => if_neg (fun q => hi (okv_r.mp q))), if_pos (okv_r.mpr rfl)]
/-- it is the matrix that the elimination begins with -/
theorem fM_eM (hG : okG G) {i j : Nat} (hi : i < gn G) (hj : j < gn G) : fM G al (gm G) i j = eM (okv G al) 33 (tgv G) 0 i j := by
  have hgn := hG.1.2.1
  have hm := hG.1.2.2.2
  unfold eM eB
  rw [eF_0, Int.mul_one]
  have hA : ∀ w, eA (okv G al) 33 (tgv G) 0 w j = if w = j then 1 else 0 := fun w => by rw [eA_out (Nat.zero_le w), eF_0]
  simp only [hA]
  by_cases e : i = gr G
  · subst e
    rw [fM_r, wS_gr]
    unfold dgN
    rw [wS_gr]
    have : ¬ tgv G (gr G) 0 = j := by unfold tgv; rw [if_pos rfl]; omega
    rw [if_neg this, Int.sub_zero]
    by_cases c : gr G = j
    · rw [if_pos c, if_pos c.symm]
    · rw [if_neg c, if_neg (fun q => c q.symm)]
  · rw [fM_n e, wS_gm hm e]
    unfold dgN
    rw [wS_gm hm e]
    congr 1
    refine sZ_c _ (fun a ha => ?_)
    by_cases c : al a = true ∧ gh G a = i
    · rw [if_pos c, if_pos c]
      unfold tgv
      rw [if_neg e]
      by_cases c2 : gt G a = gr G
      · rw [if_pos c2, if_neg (fun q => q.1 c2), if_neg (by omega)]
      · rw [if_neg c2]
        by_cases c3 : gt G a = j
        · rw [if_pos ⟨c2, c3⟩, if_pos c3]
        · rw [if_neg (fun q => c3 q.2), if_neg c3]
    · rw [if_neg c, if_neg c]
end CB
section CM
variable {d L : Nat} {I : am_I} {J J' : am_J} {Q : am_Q} {G : Gr} {al : Nat → Bool}
theorem rw_cases {P : Nat → Prop} (h0 : P 0) (h1 : P 1) (h2 : P 2) (h3 : P 3) (h4 : P 4) (h5 : P 5) (h6 : P 6) (h7 : P 7) : ∀ i, i < 8 → P i := by
  intro i hi
  match i, hi with
  | 0, _ => exact h0
  | 1, _ => exact h1
  | 2, _ => exact h2
  | 3, _ => exact h3
  | 4, _ => exact h4
  | 5, _ => exact h5
  | 6, _ => exact h6
  | 7, _ => exact h7
theorem rf_42 : ∀ i, i < 8 → am_rf (cS L) 42 i = 43 + i := rw_cases rfl rfl rfl rfl rfl rfl rfl rfl
theorem kd_4x : ∀ i, i < 8 → am_kd (cS L) (43 + i) = 23 := rw_cases rfl rfl rfl rfl rfl rfl rfl rfl
theorem ln_4x : ∀ i, i < 8 → am_ln (cS L) (43 + i) = 8 := rw_cases rfl rfl rfl rfl rfl rfl rfl rfl
theorem q42 (i : Nat) (h : i < 8) : am_ixq (cS L) 42 (nI i) := by
  refine ⟨Or.inr (k_42 L), ?_, ?_⟩
  · rw [n_42 L, n_ti (by omega)]; omega
  · rw [n_cl (by omega), rf_42 i h]; omega
theorem j4x (i j : Nat) (h : i < 8) (hj : j < 8) : am_ix (cS L) (43 + i) 23 (nI j) := ix_nI (kd_4x i h) (ln_4x i h) hj (by omega)
theorem w4x (i j : Nat) (h : i < 8) (hj : j < 8) : am_ixw (cS L) (43 + i) 23 (nI j) := ixw_nI (kd_4x i h) (by omega) (ln_4x i h) hj (by omega)
theorem fi_in {x2 : Int32} {i : Nat} (hi : i < 8) : ∀ (n j : Nat) (K : am_J) (l5 : Option Value), j + n = 8 → (∀ b c, ¬ (b = 43 + i) → K b c = J b c) → (∀ c, c < j → K (43 + i) c = 0) → ∃ J', (∀ Q, am_T d 54 11 [some (.ref 41), some (.ref 3), some (.int x2), some (.int (nI i)), some (.int (nI j)), l5] [] (cS L) I K Q = am_T d 54 34 [some (.ref 41), some (.ref 3), some (.int x2), some (.int (nI i)), some (.int (nI 8)), l5] [] (cS L) I J' Q) ∧ (∀ b c, ¬ (b = 43 + i) → J' b c = J b c) ∧ ∀ c, c < 8 → J' (43 + i) c = 0 := by
  intro n
  induction n with
  | zero =>
    intro j K l5 hj hf h
    have : j = 8 := by omega
    subst this
    refine ⟨K, fun Q => ?_, hf, h⟩
    rw [r54_11]
    simp only [r54_13, r54_15]
    rw [if_pos (by decide)]
  | succ n ih =>
    intro j K l5 hj hf h
    obtain ⟨J', k1, k2, k3⟩ := ih (j + 1) (am_up K (43 + i) j 0) l5 (by omega) (fun b c hb => by rw [up_ne _ _ (Or.inl hb)]; exact hf b c hb) (fun c hc => by
      by_cases e : c = j
      · subst e; rw [up_self]
      · rw [up_ne _ _ (Or.inr e)]; exact h c (by omega))
    refine ⟨J', fun Q => ?_, k2, k3⟩
    rw [r54_11]
    simp only [r54_13, r54_15, r54_18, r54_19, r54_22, r54_23, r54_24, r54_26, r54_27, r54_28, r54_31, s_1, s_2, s_3, s_8, s_16, s_18, s_23, s_24, s_33, s_38, s_41, s_161, f_1_0, f_1_1, f_1_4, f_1_5, f_1_8, f_1_9, f_1_10, f_1_11, f_1_12, f_1_13, f_2_0, f_2_1, f_3_3, f_3_4, f_3_5, f_3_6, f_8_2, f_8_3, f_8_4, f_8_5, f_16_2, f_18_3, f_18_4, f_18_5, f_18_6, f_23_0, f_23_1, f_23_2, f_23_3, f_23_4, f_24_2, f_24_3, f_24_4, f_24_5, f_33_3, f_33_4, f_33_5, f_33_6, f_38_1, f_38_2, f_41_0, f_161_0, f_161_1, f_161_3, f_161_7, f_161_12, f_161_13, f_161_14, f_161_15, f_161_16, f_161_17, f_161_18, f_161_19, f_161_21, f_161_22, f_161_25, true_and, and_true, true_or, or_true, if_true, if_false, ne_eq, not_false_eq_true, and_self, t10, am_psh, am_clr, not_true_eq_false, Nat.reduceEqDiff, q42 (L := L) i hi, n_cl (show i < 2 ^ 31 by omega), rf_42 (L := L) i hi, w4x (L := L) i j hi (by omega), n_cl (show j < 2 ^ 31 by omega), nI_1]
    rw [if_neg (show ¬ (8 : Int32) ≤ nI j from ge_lit (c := 8) rfl (by omega) (by omega))]
    exact k1 Q
theorem fi_out {x2 : Int32} : ∀ (n i : Nat) (K : am_J) (l4 l5 : Option Value), i + n = 8 → (∀ q c, q < i → c < 8 → K (43 + q) c = 0) → ∃ J' m4 m5, (∀ Q, am_T d 54 2 [some (.ref 41), some (.ref 3), some (.int x2), some (.int (nI i)), l4, l5] [] (cS L) I K Q = am_T d 54 40 [some (.ref 41), some (.ref 3), some (.int x2), some (.int (nI 8)), m4, m5] [] (cS L) I J' Q) ∧ ∀ q c, q < 8 → c < 8 → J' (43 + q) c = 0 := by
  intro n
  induction n with
  | zero =>
    intro i K l4 l5 hi h
    have : i = 8 := by omega
    subst this
    refine ⟨K, l4, l5, fun Q => ?_, h⟩
    rw [r54_2]
    simp only [r54_3, r54_5]
    rw [if_pos (by decide)]
  | succ n ih =>
    intro i K l4 l5 hi h
    obtain ⟨J1, k1, k2, k3⟩ := fi_in (d := d) (L := L) (I := I) (J := K) (x2 := x2) (show i < 8 by omega) 8 0 K l5 (by omega) (fun _ _ _ => rfl) (fun c hc => absurd hc (Nat.not_lt_zero c))
    obtain ⟨J', m4, m5, q1, q2⟩ := ih (i + 1) J1 (some (.int (nI 8))) l5 (by omega) (fun q c hq hc => by
      by_cases e : q = i
      · subst e; exact k3 c hc
      · rw [k2 (43 + q) c (by omega)]; exact h q c (by omega) hc)
    refine ⟨J', m4, m5, fun Q => ?_, q2⟩
    rw [r54_2]
    simp only [r54_3, r54_5, r54_8, r54_9, s_1, s_2, s_3, s_8, s_16, s_18, s_23, s_24, s_33, s_38, s_41, s_161, f_1_0, f_1_1, f_1_4, f_1_5, f_1_8, f_1_9, f_1_10, f_1_11, f_1_12, f_1_13, f_2_0, f_2_1, f_3_3, f_3_4, f_3_5, f_3_6, f_8_2, f_8_3, f_8_4, f_8_5, f_16_2, f_18_3, f_18_4, f_18_5, f_18_6, f_23_0, f_23_1, f_23_2, f_23_3, f_23_4, f_24_2, f_24_3, f_24_4, f_24_5, f_33_3, f_33_4, f_33_5, f_33_6, f_38_1, f_38_2, f_41_0, f_161_0, f_161_1, f_161_3, f_161_7, f_161_12, f_161_13, f_161_14, f_161_15, f_161_16, f_161_17, f_161_18, f_161_19, f_161_21, f_161_22, f_161_25, true_and, and_true, true_or, or_true, if_true, if_false, ne_eq, not_false_eq_true, and_self, t10, am_psh, am_clr, not_true_eq_false, Nat.reduceEqDiff]
    rw [if_neg (show ¬ (8 : Int32) ≤ nI i from ge_lit (c := 8) rfl (by omega) (by omega))]
    refine Eq.trans (k1 Q) ?_
    simp only [r54_34, r54_37, s_1, s_2, s_3, s_8, s_16, s_18, s_23, s_24, s_33, s_38, s_41, s_161, f_1_0, f_1_1, f_1_4, f_1_5, f_1_8, f_1_9, f_1_10, f_1_11, f_1_12, f_1_13, f_2_0, f_2_1, f_3_3, f_3_4, f_3_5, f_3_6, f_8_2, f_8_3, f_8_4, f_8_5, f_16_2, f_18_3, f_18_4, f_18_5, f_18_6, f_23_0, f_23_1, f_23_2, f_23_3, f_23_4, f_24_2, f_24_3, f_24_4, f_24_5, f_33_3, f_33_4, f_33_5, f_33_6, f_38_1, f_38_2, f_41_0, f_161_0, f_161_1, f_161_3, f_161_7, f_161_12, f_161_13, f_161_14, f_161_15, f_161_16, f_161_17, f_161_18, f_161_19, f_161_21, f_161_22, f_161_25, true_and, and_true, true_or, or_true, if_true, if_false, ne_eq, not_false_eq_true, and_self, t10, am_psh, am_clr, not_true_eq_false, Nat.reduceEqDiff, nI_1]
    exact q1 Q
def jF (G : Gr) (al : Nat → Bool) (J : am_J) (m : Nat) : Prop := ∀ i j, i < 8 → j < 8 → J (43 + i) j = Int64.ofInt (fM G al m i j)
theorem fi_arcs {x2 : Int32} (hG : okG G) (hx : xG I 3 G) (hal : ∀ a, a < gm G → al a = bt x2 a) : ∀ (n a : Nat) (K : am_J) (l4 l5 : Option Value), a + n = gm G → jF G al K a → ∃ J', (∀ Q, am_T (d + 1) 54 57 [some (.ref 41), some (.ref 3), some (.int x2), some (.int (nI a)), l4, l5] [] (cS L) I K Q = Q none (cS L) I J') ∧ jF G al J' (gm G) := by
  have hgn := hG.1.2.1
  have hgr := hG.1.2.2.1
  have hm32 := hG.1.2.2.2
  intro n
  induction n with
  | zero =>
    intro a K l4 l5 ha h
    have : a = gm G := by omega
    subst this
    refine ⟨K, fun Q => ?_, h⟩
    rw [r54_57]
    simp only [r54_58, r54_59, r54_62, r54_141, s_1, s_2, s_3, s_8, s_16, s_18, s_23, s_24, s_33, s_38, s_41, s_161, f_1_0, f_1_1, f_1_4, f_1_5, f_1_8, f_1_9, f_1_10, f_1_11, f_1_12, f_1_13, f_2_0, f_2_1, f_3_3, f_3_4, f_3_5, f_3_6, f_8_2, f_8_3, f_8_4, f_8_5, f_16_2, f_18_3, f_18_4, f_18_5, f_18_6, f_23_0, f_23_1, f_23_2, f_23_3, f_23_4, f_24_2, f_24_3, f_24_4, f_24_5, f_33_3, f_33_4, f_33_5, f_33_6, f_38_1, f_38_2, f_41_0, f_161_0, f_161_1, f_161_3, f_161_7, f_161_12, f_161_13, f_161_14, f_161_15, f_161_16, f_161_17, f_161_18, f_161_19, f_161_21, f_161_22, f_161_25, true_and, and_true, true_or, or_true, if_true, if_false, ne_eq, not_false_eq_true, and_self, t10, am_psh, am_clr, not_true_eq_false, Nat.reduceEqDiff, hx.1.2.2]
    rw [if_pos (Int32.le_refl _)]
  | succ n ih =>
    intro a K l4 l5 ha h
    have ham : a < gm G := by omega
    obtain ⟨b1, b2, b3, -⟩ := hG.2.1 a ham
    obtain ⟨g4, g5, -⟩ := hx.2.1 a ham
    have run1 : ∀ Q, am_T (d + 1) 54 57 [some (.ref 41), some (.ref 3), some (.int x2), some (.int (nI a)), l4, l5] [] (cS L) I K Q = am_T (d + 1) 54 86 [some (.ref 41), some (.ref 3), some (.int x2), some (.int (nI a)), some (.int (nI (gh G a))), some (.int (nI (gt G a)))] [.int (b32 (bt x2 a = true))] (cS L) I K Q := fun Q => by
      rw [r54_57]
      simp only [r54_58, r54_59, r54_62, r54_65, r54_66, r54_69, r54_70, r54_71, r54_73, r54_74, r54_77, r54_78, r54_79, r54_81, r54_82, r54_83, s_1, s_2, s_3, s_8, s_16, s_18, s_23, s_24, s_33, s_38, s_41, s_161, f_1_0, f_1_1, f_1_4, f_1_5, f_1_8, f_1_9, f_1_10, f_1_11, f_1_12, f_1_13, f_2_0, f_2_1, f_3_3, f_3_4, f_3_5, f_3_6, f_8_2, f_8_3, f_8_4, f_8_5, f_16_2, f_18_3, f_18_4, f_18_5, f_18_6, f_23_0, f_23_1, f_23_2, f_23_3, f_23_4, f_24_2, f_24_3, f_24_4, f_24_5, f_33_3, f_33_4, f_33_5, f_33_6, f_38_1, f_38_2, f_41_0, f_161_0, f_161_1, f_161_3, f_161_7, f_161_12, f_161_13, f_161_14, f_161_15, f_161_16, f_161_17, f_161_18, f_161_19, f_161_21, f_161_22, f_161_25, true_and, and_true, true_or, or_true, if_true, if_false, ne_eq, not_false_eq_true, and_self, t10, am_psh, am_clr, not_true_eq_false, Nat.reduceEqDiff, hx.1.2.2, ix5 (L := L) a (by omega), ix4 (L := L) a (by omega), n_cl (show a < 2 ^ 31 by omega), show I 5 a = nI (gh G a) from g5, show I 4 a = nI (gt G a) from g4]
      rw [if_neg (nI_ge ham (by omega)), c_allow (show a < 32 by omega)]
    have skip : jF G al K (a + 1) → (∀ Q, am_T (d + 1) 54 86 [some (.ref 41), some (.ref 3), some (.int x2), some (.int (nI a)), some (.int (nI (gh G a))), some (.int (nI (gt G a)))] [.int (b32 (bt x2 a = true))] (cS L) I K Q = am_T (d + 1) 54 135 [some (.ref 41), some (.ref 3), some (.int x2), some (.int (nI a)), some (.int (nI (gh G a))), some (.int (nI (gt G a)))] [] (cS L) I K Q) → ∃ J', (∀ Q, am_T (d + 1) 54 57 [some (.ref 41), some (.ref 3), some (.int x2), some (.int (nI a)), l4, l5] [] (cS L) I K Q = Q none (cS L) I J') ∧ jF G al J' (gm G) := fun h1 h2 => by
      obtain ⟨J', k1, k2⟩ := ih (a + 1) K (some (.int (nI (gh G a)))) (some (.int (nI (gt G a)))) (by omega) h1
      refine ⟨J', fun Q => ?_, k2⟩
      rw [run1, h2]
      simp only [r54_135, r54_138, s_1, s_2, s_3, s_8, s_16, s_18, s_23, s_24, s_33, s_38, s_41, s_161, f_1_0, f_1_1, f_1_4, f_1_5, f_1_8, f_1_9, f_1_10, f_1_11, f_1_12, f_1_13, f_2_0, f_2_1, f_3_3, f_3_4, f_3_5, f_3_6, f_8_2, f_8_3, f_8_4, f_8_5, f_16_2, f_18_3, f_18_4, f_18_5, f_18_6, f_23_0, f_23_1, f_23_2, f_23_3, f_23_4, f_24_2, f_24_3, f_24_4, f_24_5, f_33_3, f_33_4, f_33_5, f_33_6, f_38_1, f_38_2, f_41_0, f_161_0, f_161_1, f_161_3, f_161_7, f_161_12, f_161_13, f_161_14, f_161_15, f_161_16, f_161_17, f_161_18, f_161_19, f_161_21, f_161_22, f_161_25, true_and, and_true, true_or, or_true, if_true, if_false, ne_eq, not_false_eq_true, and_self, t10, am_psh, am_clr, not_true_eq_false, Nat.reduceEqDiff, nI_1]
      exact k1 Q
    by_cases e1 : bt x2 a = true
    · by_cases e2 : gh G a = gr G
      · refine skip (fun i j hi hj => ?_) (fun Q => ?_)
        · rw [h i j hi hj]
          show _ = Int64.ofInt (fM G al a i j + _)
          rw [if_neg (fun q => q.2.1 e2), Int.add_zero]
        · rw [b32_T e1]
          simp only [r54_86, r54_89, r54_91, r54_92, r54_95, s_1, s_2, s_3, s_8, s_16, s_18, s_23, s_24, s_33, s_38, s_41, s_161, f_1_0, f_1_1, f_1_4, f_1_5, f_1_8, f_1_9, f_1_10, f_1_11, f_1_12, f_1_13, f_2_0, f_2_1, f_3_3, f_3_4, f_3_5, f_3_6, f_8_2, f_8_3, f_8_4, f_8_5, f_16_2, f_18_3, f_18_4, f_18_5, f_18_6, f_23_0, f_23_1, f_23_2, f_23_3, f_23_4, f_24_2, f_24_3, f_24_4, f_24_5, f_33_3, f_33_4, f_33_5, f_33_6, f_38_1, f_38_2, f_41_0, f_161_0, f_161_1, f_161_3, f_161_7, f_161_12, f_161_13, f_161_14, f_161_15, f_161_16, f_161_17, f_161_18, f_161_19, f_161_21, f_161_22, f_161_25, true_and, and_true, true_or, or_true, if_true, if_false, ne_eq, not_false_eq_true, and_self, t10, am_psh, am_clr, not_true_eq_false, Nat.reduceEqDiff, hx.1.2.1]
          rw [if_pos (show nI (gh G a) = nI (gr G) by rw [e2])]
      · have hc : al a = true ∧ gh G a ≠ gr G := ⟨by rw [hal a ham]; exact e1, e2⟩
        have run2 : ∀ Q, am_T (d + 1) 54 57 [some (.ref 41), some (.ref 3), some (.int x2), some (.int (nI a)), l4, l5] [] (cS L) I K Q = am_T (d + 1) 54 112 [some (.ref 41), some (.ref 3), some (.int x2), some (.int (nI a)), some (.int (nI (gh G a))), some (.int (nI (gt G a)))] [] (cS L) I (am_up K (43 + gh G a) (gh G a) (K (43 + gh G a) (gh G a) + 1)) Q := fun Q => by
          rw [run1, b32_T e1]
          simp only [r54_86, r54_89, r54_91, r54_92, r54_95, r54_98, r54_99, r54_102, r54_104, r54_105, r54_107, r54_108, r54_109, r54_110, r54_111, s_1, s_2, s_3, s_8, s_16, s_18, s_23, s_24, s_33, s_38, s_41, s_161, f_1_0, f_1_1, f_1_4, f_1_5, f_1_8, f_1_9, f_1_10, f_1_11, f_1_12, f_1_13, f_2_0, f_2_1, f_3_3, f_3_4, f_3_5, f_3_6, f_8_2, f_8_3, f_8_4, f_8_5, f_16_2, f_18_3, f_18_4, f_18_5, f_18_6, f_23_0, f_23_1, f_23_2, f_23_3, f_23_4, f_24_2, f_24_3, f_24_4, f_24_5, f_33_3, f_33_4, f_33_5, f_33_6, f_38_1, f_38_2, f_41_0, f_161_0, f_161_1, f_161_3, f_161_7, f_161_12, f_161_13, f_161_14, f_161_15, f_161_16, f_161_17, f_161_18, f_161_19, f_161_21, f_161_22, f_161_25, true_and, and_true, true_or, or_true, if_true, if_false, ne_eq, not_false_eq_true, and_self, t10, am_psh, am_clr, not_true_eq_false, Nat.reduceEqDiff, hx.1.2.1, q42 (L := L) (gh G a) (by omega), n_cl (show gh G a < 2 ^ 31 by omega), rf_42 (L := L) (gh G a) (by omega), j4x (L := L) (gh G a) (gh G a) (by omega) (by omega), w4x (L := L) (gh G a) (gh G a) (by omega) (by omega)]
          rw [if_neg (show ¬ nI (gh G a) = nI (gr G) from fun q => e2 ((nI_eq (by omega) (by omega)).mp q))]
        have v1 : K (43 + gh G a) (gh G a) + 1 = Int64.ofInt (fM G al a (gh G a) (gh G a) + 1) := by rw [h _ _ (by omega) (by omega), Int64.ofInt_add]; rfl
        by_cases e3 : gt G a = gr G
        · obtain ⟨J', k1, k2⟩ := ih (a + 1) (am_up K (43 + gh G a) (gh G a) (K (43 + gh G a) (gh G a) + 1)) (some (.int (nI (gh G a)))) (some (.int (nI (gt G a)))) (by omega) (fun i j hi hj => by
            show _ = Int64.ofInt (fM G al a i j + _)
            by_cases ei : i = gh G a
            · subst ei
              rw [if_pos ⟨hc.1, hc.2, rfl⟩, if_neg (show ¬ (gt G a ≠ gr G ∧ gt G a = j) from fun q => q.1 e3), Int.sub_zero]
              by_cases ej : j = gh G a
              · subst ej; rw [up_self, if_pos rfl]; exact v1
              · rw [up_ne _ _ (Or.inr ej), if_neg ej, Int.add_zero]; exact h _ _ hi hj
            · rw [up_ne _ _ (Or.inl (by omega)), if_neg (fun q => ei q.2.2.symm), Int.add_zero]; exact h _ _ hi hj)
          refine ⟨J', fun Q => ?_, k2⟩
          rw [run2]
          simp only [r54_112, r54_114, r54_115, r54_118, r54_135, r54_138, s_1, s_2, s_3, s_8, s_16, s_18, s_23, s_24, s_33, s_38, s_41, s_161, f_1_0, f_1_1, f_1_4, f_1_5, f_1_8, f_1_9, f_1_10, f_1_11, f_1_12, f_1_13, f_2_0, f_2_1, f_3_3, f_3_4, f_3_5, f_3_6, f_8_2, f_8_3, f_8_4, f_8_5, f_16_2, f_18_3, f_18_4, f_18_5, f_18_6, f_23_0, f_23_1, f_23_2, f_23_3, f_23_4, f_24_2, f_24_3, f_24_4, f_24_5, f_33_3, f_33_4, f_33_5, f_33_6, f_38_1, f_38_2, f_41_0, f_161_0, f_161_1, f_161_3, f_161_7, f_161_12, f_161_13, f_161_14, f_161_15, f_161_16, f_161_17, f_161_18, f_161_19, f_161_21, f_161_22, f_161_25, true_and, and_true, true_or, or_true, if_true, if_false, ne_eq, not_false_eq_true, and_self, t10, am_psh, am_clr, not_true_eq_false, Nat.reduceEqDiff, hx.1.2.1, nI_1]
          rw [if_pos (show nI (gt G a) = nI (gr G) by rw [e3])]
          exact k1 Q
        · have v2 : (am_up K (43 + gh G a) (gh G a) (K (43 + gh G a) (gh G a) + 1)) (43 + gh G a) (gt G a) - 1 = Int64.ofInt (fM G al a (gh G a) (gt G a) - 1) := by rw [up_ne _ _ (Or.inr b3), h _ _ (by omega) (by omega), Int64.ofInt_sub]; rfl
          obtain ⟨J', k1, k2⟩ := ih (a + 1) (am_up (am_up K (43 + gh G a) (gh G a) (K (43 + gh G a) (gh G a) + 1)) (43 + gh G a) (gt G a) ((am_up K (43 + gh G a) (gh G a) (K (43 + gh G a) (gh G a) + 1)) (43 + gh G a) (gt G a) - 1)) (some (.int (nI (gh G a)))) (some (.int (nI (gt G a)))) (by omega) (fun i j hi hj => by
            show _ = Int64.ofInt (fM G al a i j + _)
            by_cases ei : i = gh G a
            · subst ei
              rw [if_pos ⟨hc.1, hc.2, rfl⟩]
              by_cases et : j = gt G a
              · subst et
                rw [up_self, if_neg b3, if_pos ⟨e3, rfl⟩, v2]
                congr 1
              · rw [up_ne _ _ (Or.inr et), if_neg (show ¬ (gt G a ≠ gr G ∧ gt G a = j) from fun q => et q.2.symm), Int.sub_zero]
                by_cases ej : j = gh G a
                · subst ej; rw [up_self, if_pos rfl]; exact v1
                · rw [up_ne _ _ (Or.inr ej), if_neg ej, Int.add_zero]; exact h _ _ hi hj
            · rw [up_ne _ _ (Or.inl (by omega)), up_ne _ _ (Or.inl (by omega)), if_neg (fun q => ei q.2.2.symm), Int.add_zero]; exact h _ _ hi hj)
          refine ⟨J', fun Q => ?_, k2⟩
          rw [run2]
          simp only [r54_112, r54_114, r54_115, r54_118, r54_121, r54_122, r54_125, r54_127, r54_128, r54_130, r54_131, r54_132, r54_133, r54_134, r54_135, r54_138, s_1, s_2, s_3, s_8, s_16, s_18, s_23, s_24, s_33, s_38, s_41, s_161, f_1_0, f_1_1, f_1_4, f_1_5, f_1_8, f_1_9, f_1_10, f_1_11, f_1_12, f_1_13, f_2_0, f_2_1, f_3_3, f_3_4, f_3_5, f_3_6, f_8_2, f_8_3, f_8_4, f_8_5, f_16_2, f_18_3, f_18_4, f_18_5, f_18_6, f_23_0, f_23_1, f_23_2, f_23_3, f_23_4, f_24_2, f_24_3, f_24_4, f_24_5, f_33_3, f_33_4, f_33_5, f_33_6, f_38_1, f_38_2, f_41_0, f_161_0, f_161_1, f_161_3, f_161_7, f_161_12, f_161_13, f_161_14, f_161_15, f_161_16, f_161_17, f_161_18, f_161_19, f_161_21, f_161_22, f_161_25, true_and, and_true, true_or, or_true, if_true, if_false, ne_eq, not_false_eq_true, and_self, t10, am_psh, am_clr, not_true_eq_false, Nat.reduceEqDiff, hx.1.2.1, q42 (L := L) (gh G a) (by omega), n_cl (show gh G a < 2 ^ 31 by omega), n_cl (show gt G a < 2 ^ 31 by omega), rf_42 (L := L) (gh G a) (by omega), j4x (L := L) (gh G a) (gt G a) (by omega) (by omega), w4x (L := L) (gh G a) (gt G a) (by omega) (by omega), nI_1]
          rw [if_neg (show ¬ nI (gt G a) = nI (gr G) from fun q => e3 ((nI_eq (by omega) (by omega)).mp q))]
          exact k1 Q
    · refine skip (fun i j hi hj => ?_) (fun Q => ?_)
      · rw [h i j hi hj]
        show _ = Int64.ofInt (fM G al a i j + _)
        rw [if_neg (fun q => e1 (by rw [← hal a ham]; exact q.1)), Int.add_zero]
      · rw [b32_F e1]
        simp only [r54_86, s_1, s_2, s_3, s_8, s_16, s_18, s_23, s_24, s_33, s_38, s_41, s_161, f_1_0, f_1_1, f_1_4, f_1_5, f_1_8, f_1_9, f_1_10, f_1_11, f_1_12, f_1_13, f_2_0, f_2_1, f_3_3, f_3_4, f_3_5, f_3_6, f_8_2, f_8_3, f_8_4, f_8_5, f_16_2, f_18_3, f_18_4, f_18_5, f_18_6, f_23_0, f_23_1, f_23_2, f_23_3, f_23_4, f_24_2, f_24_3, f_24_4, f_24_5, f_33_3, f_33_4, f_33_5, f_33_6, f_38_1, f_38_2, f_41_0, f_161_0, f_161_1, f_161_3, f_161_7, f_161_12, f_161_13, f_161_14, f_161_15, f_161_16, f_161_17, f_161_18, f_161_19, f_161_21, f_161_22, f_161_25, true_and, and_true, true_or, or_true, if_true, if_false, ne_eq, not_false_eq_true, and_self, t10, am_psh, am_clr, not_true_eq_false, Nat.reduceEqDiff]
theorem c_fill {x2 : Int32} (hG : okG G) (hx : xG I 3 G) (hal : ∀ a, a < gm G → al a = bt x2 a) : ∃ J', (∀ Q, am_C (d + 2) 54 [.ref 41, .ref 3, .int x2] (cS L) I J Q = Q none (cS L) I J') ∧ jF G al J' (gm G) := by
  have hgn := hG.1.2.1
  have hgr := hG.1.2.2.1
  obtain ⟨J1, m4, m5, k1, k2⟩ := fi_out (d := d + 1) (L := L) (I := I) (x2 := x2) 8 0 J none none (by omega) (fun q c hq => absurd hq (Nat.not_lt_zero q))
  obtain ⟨J', q1, q2⟩ := fi_arcs (d := d) (L := L) (I := I) (al := al) (x2 := x2) hG hx hal (gm G) 0 (am_up J1 (43 + gr G) (gr G) 1) m4 m5 (by omega) (fun i j hi hj => by
    show _ = Int64.ofInt (if i = gr G ∧ j = gr G then 1 else 0)
    by_cases c : i = gr G ∧ j = gr G
    · rw [if_pos c, c.1, c.2, up_self]; rfl
    · rw [if_neg c]
      rw [up_ne _ _ (by
        by_cases ei : i = gr G
        · exact Or.inr (fun q => c ⟨ei, q⟩)
        · exact Or.inl (by omega)), k2 i j hi hj]; rfl)
  refine ⟨J', fun Q => ?_, q2⟩
  rw [e54]
  simp only [r54_0, r54_1, s_1, s_2, s_3, s_8, s_16, s_18, s_23, s_24, s_33, s_38, s_41, s_161, f_1_0, f_1_1, f_1_4, f_1_5, f_1_8, f_1_9, f_1_10, f_1_11, f_1_12, f_1_13, f_2_0, f_2_1, f_3_3, f_3_4, f_3_5, f_3_6, f_8_2, f_8_3, f_8_4, f_8_5, f_16_2, f_18_3, f_18_4, f_18_5, f_18_6, f_23_0, f_23_1, f_23_2, f_23_3, f_23_4, f_24_2, f_24_3, f_24_4, f_24_5, f_33_3, f_33_4, f_33_5, f_33_6, f_38_1, f_38_2, f_41_0, f_161_0, f_161_1, f_161_3, f_161_7, f_161_12, f_161_13, f_161_14, f_161_15, f_161_16, f_161_17, f_161_18, f_161_19, f_161_21, f_161_22, f_161_25, true_and, and_true, true_or, or_true, if_true, if_false, ne_eq, not_false_eq_true, and_self, t10, am_psh, am_clr, not_true_eq_false, Nat.reduceEqDiff]
  refine Eq.trans (k1 Q) ?_
  simp only [r54_40, r54_41, r54_44, r54_45, r54_48, r54_49, r54_50, r54_53, r54_54, r54_55, r54_56, s_1, s_2, s_3, s_8, s_16, s_18, s_23, s_24, s_33, s_38, s_41, s_161, f_1_0, f_1_1, f_1_4, f_1_5, f_1_8, f_1_9, f_1_10, f_1_11, f_1_12, f_1_13, f_2_0, f_2_1, f_3_3, f_3_4, f_3_5, f_3_6, f_8_2, f_8_3, f_8_4, f_8_5, f_16_2, f_18_3, f_18_4, f_18_5, f_18_6, f_23_0, f_23_1, f_23_2, f_23_3, f_23_4, f_24_2, f_24_3, f_24_4, f_24_5, f_33_3, f_33_4, f_33_5, f_33_6, f_38_1, f_38_2, f_41_0, f_161_0, f_161_1, f_161_3, f_161_7, f_161_12, f_161_13, f_161_14, f_161_15, f_161_16, f_161_17, f_161_18, f_161_19, f_161_21, f_161_22, f_161_25, true_and, and_true, true_or, or_true, if_true, if_false, ne_eq, not_false_eq_true, and_self, t10, am_psh, am_clr, not_true_eq_false, Nat.reduceEqDiff, hx.1.2.1, q42 (L := L) (gr G) (by omega), n_cl (show gr G < 2 ^ 31 by omega), rf_42 (L := L) (gr G) (by omega), w4x (L := L) (gr G) (gr G) (by omega) (by omega)]
  exact q1 Q
end CM
