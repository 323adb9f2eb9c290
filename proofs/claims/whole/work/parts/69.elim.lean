/-! COUNTING BY ELIMINATION, pure: choices for the nodes 0 .. k-1; walks that leave them; harmonic relations; uniqueness; the step of the elimination -/
noncomputable def ind (p : Prop) : Int := @ite Int p (Classical.propDecidable p) 1 0
theorem ind_T {p : Prop} (h : p) : ind p = 1 := by unfold ind; exact @if_pos p (Classical.propDecidable p) h Int 1 0
theorem ind_F {p : Prop} (h : ¬ p) : ind p = 0 := by unfold ind; exact @if_neg p (Classical.propDecidable p) h Int 1 0
theorem ind_c {p q : Prop} (h : p ↔ q) : ind p = ind q := by rw [propext h]
theorem ind_0 (p : Prop) : 0 ≤ ind p := by
  by_cases h : p
  · rw [ind_T h]; decide
  · rw [ind_F h]; decide
theorem ind_1 (p : Prop) : ind p ≤ 1 := by
  by_cases h : p
  · rw [ind_T h]; decide
  · rw [ind_F h]; decide
def sZ (f : Nat → Int) : Nat → Int
  | 0 => 0
  | k + 1 => sZ f k + f k
theorem sZ_c {f g : Nat → Int} : ∀ k, (∀ i, i < k → f i = g i) → sZ f k = sZ g k := by
  intro k
  induction k with
  | zero => intro _; rfl
  | succ k ih => intro h; unfold sZ; rw [ih (fun i hi => h i (by omega)), h k (by omega)]
theorem sZ_add (f g : Nat → Int) (k : Nat) : sZ (fun i => f i + g i) k = sZ f k + sZ g k := by
  induction k with
  | zero => rfl
  | succ k ih => unfold sZ; rw [ih]; omega
theorem sZ_mul (c : Int) (f : Nat → Int) (k : Nat) : sZ (fun i => c * f i) k = c * sZ f k := by
  induction k with
  | zero => show (0 : Int) = c * 0; rw [Int.mul_zero]
  | succ k ih => unfold sZ; rw [ih, Int.mul_add]
theorem sZ_zero (k : Nat) : sZ (fun _ => 0) k = 0 := by
  induction k with
  | zero => rfl
  | succ k ih => unfold sZ; rw [ih]; rfl
theorem sZ_comm (g : Nat → Nat → Int) (m : Nat) : ∀ n, sZ (fun i => sZ (g i) m) n = sZ (fun j => sZ (fun i => g i j) n) m := by
  intro n
  induction n with
  | zero => exact (sZ_zero m).symm
  | succ n ih =>
    show sZ (fun i => sZ (g i) m) n + sZ (g n) m = sZ (fun j => sZ (fun i => g i j) n + g n j) m
    rw [ih, sZ_add]
theorem sZ_nn {f : Nat → Int} : ∀ k, (∀ i, i < k → 0 ≤ f i) → 0 ≤ sZ f k := by
  intro k
  induction k with
  | zero => intro _; exact Int.le_refl 0
  | succ k ih =>
    intro h
    unfold sZ
    have := ih (fun i hi => h i (by omega))
    have := h k (by omega)
    omega
theorem sZ_le {f g : Nat → Int} : ∀ k, (∀ i, i < k → f i ≤ g i) → sZ f k ≤ sZ g k := by
  intro k
  induction k with
  | zero => intro _; exact Int.le_refl 0
  | succ k ih =>
    intro h
    unfold sZ
    have := ih (fun i hi => h i (by omega))
    have := h k (by omega)
    omega
theorem sZ_z {f : Nat → Int} : ∀ k, (∀ i, i < k → 0 ≤ f i) → sZ f k = 0 → ∀ i, i < k → f i = 0 := by
  intro k
  induction k with
  | zero => intro _ _ i hi; omega
  | succ k ih =>
    intro h h0 i hi
    unfold sZ at h0
    have a1 := sZ_nn k (fun i hi => h i (by omega))
    have a2 := h k (by omega)
    by_cases e : i = k
    · subst e; omega
    · exact ih (fun i hi => h i (by omega)) (by omega) i (by omega)
theorem sZ_ne {f : Nat → Int} : ∀ k, sZ f k ≠ 0 → ∃ i, i < k ∧ f i ≠ 0 := by
  intro k h
  refine Classical.byContradiction (fun q => h ?_)
  rw [sZ_c (g := fun _ => 0) k (fun i hi => Classical.byContradiction (fun q2 => q ⟨i, hi, q2⟩)), sZ_zero]
section EL
variable {ok : Nat → Nat → Bool} {N : Nat} {tg : Nat → Nat → Nat}
/-- a sum over the choices of a node -/
def wS (ok : Nat → Nat → Bool) (N v : Nat) (φ : Nat → Int) : Int := sZ (fun a => if ok v a = true then φ a else 0) N
theorem wS_c {v : Nat} {φ ψ : Nat → Int} (h : ∀ a, a < N → ok v a = true → φ a = ψ a) : wS ok N v φ = wS ok N v ψ := by
  refine sZ_c N (fun a ha => ?_)
  by_cases e : ok v a = true
  · rw [if_pos e, if_pos e]; exact h a ha e
  · rw [if_neg e, if_neg e]
theorem wS_add {v : Nat} (φ ψ : Nat → Int) : wS ok N v (fun a => φ a + ψ a) = wS ok N v φ + wS ok N v ψ := by
  unfold wS
  rw [← sZ_add]
  refine sZ_c N (fun a _ => ?_)
  by_cases e : ok v a = true
  · rw [if_pos e, if_pos e, if_pos e]
  · rw [if_neg e, if_neg e, if_neg e]; rfl
theorem wS_mul {v : Nat} (c : Int) (φ : Nat → Int) : wS ok N v (fun a => c * φ a) = c * wS ok N v φ := by
  unfold wS
  rw [← sZ_mul]
  refine sZ_c N (fun a _ => ?_)
  by_cases e : ok v a = true
  · rw [if_pos e, if_pos e]
  · rw [if_neg e, if_neg e, Int.mul_zero]
theorem wS_comm {u v : Nat} (φ : Nat → Nat → Int) : wS ok N u (fun a => wS ok N v (fun b => φ a b)) = wS ok N v (fun b => wS ok N u (fun a => φ a b)) := by
  unfold wS
  have h1 : ∀ a, a < N → (if ok u a = true then sZ (fun b => if ok v b = true then φ a b else 0) N else 0) = sZ (fun b => if ok u a = true ∧ ok v b = true then φ a b else 0) N := fun a _ => by
    by_cases e : ok u a = true
    · rw [if_pos e]
      refine sZ_c N (fun b _ => ?_)
      by_cases e2 : ok v b = true
      · rw [if_pos e2, if_pos ⟨e, e2⟩]
      · rw [if_neg e2, if_neg (fun q => e2 q.2)]
    · rw [if_neg e, sZ_c (g := fun _ => 0) N (fun b _ => if_neg (fun q => e q.1)), sZ_zero]
  have h2 : ∀ b, b < N → (if ok v b = true then sZ (fun a => if ok u a = true then φ a b else 0) N else 0) = sZ (fun a => if ok u a = true ∧ ok v b = true then φ a b else 0) N := fun b _ => by
    by_cases e : ok v b = true
    · rw [if_pos e]
      refine sZ_c N (fun a _ => ?_)
      by_cases e2 : ok u a = true
      · rw [if_pos e2, if_pos ⟨e2, e⟩]
      · rw [if_neg e2, if_neg (fun q => e2 q.1)]
    · rw [if_neg e, sZ_c (g := fun _ => 0) N (fun a _ => if_neg (fun q => e q.2)), sZ_zero]
  rw [sZ_c N h1, sZ_c N h2, sZ_comm]
theorem wS_nn {v : Nat} {φ : Nat → Int} (h : ∀ a, a < N → ok v a = true → 0 ≤ φ a) : 0 ≤ wS ok N v φ := by
  refine sZ_nn N (fun a ha => ?_)
  by_cases e : ok v a = true
  · rw [if_pos e]; exact h a ha e
  · rw [if_neg e]; exact Int.le_refl 0
theorem wS_le {v : Nat} {φ ψ : Nat → Int} (h : ∀ a, a < N → ok v a = true → φ a ≤ ψ a) : wS ok N v φ ≤ wS ok N v ψ := by
  refine sZ_le N (fun a ha => ?_)
  by_cases e : ok v a = true
  · rw [if_pos e, if_pos e]; exact h a ha e
  · rw [if_neg e, if_neg e]; exact Int.le_refl 0
theorem wS_z {v : Nat} {φ : Nat → Int} (h : ∀ a, a < N → ok v a = true → 0 ≤ φ a) (h0 : wS ok N v φ = 0) {a : Nat} (ha : a < N) (hk : ok v a = true) : φ a = 0 := by
  have := sZ_z N (fun a ha => by
    by_cases e : ok v a = true
    · rw [if_pos e]; exact h a ha e
    · rw [if_neg e]; exact Int.le_refl 0) h0 a ha
  rwa [if_pos hk] at this
/-- how many choices -/
def dgN (ok : Nat → Nat → Bool) (N v : Nat) : Int := wS ok N v (fun _ => 1)
theorem wS_k {v : Nat} (c : Int) : wS ok N v (fun _ => c) = dgN ok N v * c := by
  have := wS_mul (ok := ok) (N := N) (v := v) c (fun _ => 1)
  unfold dgN
  rw [Int.mul_comm, ← this]
  exact wS_c (fun a _ _ => (Int.mul_one c).symm)
/-- a sum over all choices of the nodes v .. v+n-1 -/
def Sm (ok : Nat → Nat → Bool) (N : Nat) (φ : (Nat → Nat) → Int) : Nat → Nat → (Nat → Nat) → Int
  | 0, _, f => φ f
  | n + 1, v, f => wS ok N v (fun a => Sm ok N φ n (v + 1) (fset f v a))
theorem Sm_c' {φ ψ : (Nat → Nat) → Int} : ∀ (n v : Nat) (f : Nat → Nat), (∀ f', (∀ u, u < v → f' u = f u) → φ f' = ψ f') → Sm ok N φ n v f = Sm ok N ψ n v f := by
  intro n
  induction n with
  | zero => intro v f h; exact h f (fun _ _ => rfl)
  | succ n ih =>
    intro v f h
    refine wS_c (fun a _ _ => ih (v + 1) _ (fun f' hf' => h f' (fun u hu => ?_)))
    rw [hf' u (by omega), fset_n _ _ (by omega)]
theorem Sm_c {φ ψ : (Nat → Nat) → Int} (n v : Nat) (f : Nat → Nat) (h : ∀ f', φ f' = ψ f') : Sm ok N φ n v f = Sm ok N ψ n v f := Sm_c' n v f (fun f' _ => h f')
theorem Sm_add {φ ψ : (Nat → Nat) → Int} : ∀ (n v : Nat) (f : Nat → Nat), Sm ok N (fun f => φ f + ψ f) n v f = Sm ok N φ n v f + Sm ok N ψ n v f := by
  intro n
  induction n with
  | zero => intro v f; rfl
  | succ n ih => intro v f; unfold Sm; rw [← wS_add]; exact wS_c (fun a _ _ => ih _ _)
theorem Sm_mul (c : Int) {φ : (Nat → Nat) → Int} : ∀ (n v : Nat) (f : Nat → Nat), Sm ok N (fun f => c * φ f) n v f = c * Sm ok N φ n v f := by
  intro n
  induction n with
  | zero => intro v f; rfl
  | succ n ih => intro v f; unfold Sm; rw [← wS_mul]; exact wS_c (fun a _ _ => ih _ _)
theorem Sm_wS {u : Nat} {φ : (Nat → Nat) → Nat → Int} : ∀ (n v : Nat) (f : Nat → Nat), Sm ok N (fun f => wS ok N u (fun e => φ f e)) n v f = wS ok N u (fun e => Sm ok N (fun f => φ f e) n v f) := by
  intro n
  induction n with
  | zero => intro v f; rfl
  | succ n ih =>
    intro v f
    show wS ok N v (fun a => Sm ok N (fun f => wS ok N u (fun e => φ f e)) n (v + 1) (fset f v a)) = wS ok N u (fun e => wS ok N v (fun a => Sm ok N (fun f => φ f e) n (v + 1) (fset f v a)))
    rw [← wS_comm]
    exact wS_c (fun a _ _ => ih _ _)
theorem Sm_nn {φ : (Nat → Nat) → Int} (h : ∀ f, 0 ≤ φ f) : ∀ (n v : Nat) (f : Nat → Nat), 0 ≤ Sm ok N φ n v f := by
  intro n
  induction n with
  | zero => intro v f; exact h f
  | succ n ih => intro v f; exact wS_nn (fun a _ _ => ih _ _)
theorem Sm_le {φ ψ : (Nat → Nat) → Int} (h : ∀ f, φ f ≤ ψ f) : ∀ (n v : Nat) (f : Nat → Nat), Sm ok N φ n v f ≤ Sm ok N ψ n v f := by
  intro n
  induction n with
  | zero => intro v f; exact h f
  | succ n ih => intro v f; exact wS_le (fun a _ _ => ih _ _)
theorem Sm_last {φ : (Nat → Nat) → Int} : ∀ (n v : Nat) (f : Nat → Nat), Sm ok N φ (n + 1) v f = Sm ok N (fun f' => wS ok N (v + n) (fun a => φ (fset f' (v + n) a))) n v f := by
  intro n
  induction n with
  | zero => intro v f; rfl
  | succ n ih =>
    intro v f
    show wS ok N v (fun a => Sm ok N φ (n + 1) (v + 1) (fset f v a)) = wS ok N v (fun a => Sm ok N (fun f' => wS ok N (v + (n + 1)) (fun a => φ (fset f' (v + (n + 1)) a))) n (v + 1) (fset f v a))
    refine wS_c (fun a _ _ => ?_)
    rw [ih, show v + 1 + n = v + (n + 1) by omega]
theorem fset_comm {α : Type} (f : Nat → α) {i j : Nat} (x y : α) (h : i ≠ j) : fset (fset f i x) j y = fset (fset f j y) i x := by
  funext q
  unfold fset
  by_cases e : q = i
  · subst e; rw [if_neg h, if_pos rfl, if_pos rfl]
  · by_cases e2 : q = j
    · subst e2; rw [if_pos rfl, if_neg e, if_pos rfl]
    · rw [if_neg e2, if_neg e, if_neg e, if_neg e2]
theorem fset_2 {α : Type} (f : Nat → α) (i : Nat) (x y : α) : fset (fset f i x) i y = fset f i y := by
  funext q
  unfold fset
  by_cases e : q = i
  · rw [if_pos e, if_pos e]
  · rw [if_neg e, if_neg e, if_neg e]
theorem Sm_base {φ : (Nat → Nat) → Int} {u e : Nat} : ∀ (n w : Nat) (g : Nat → Nat), u < w → Sm ok N (fun f => φ (fset f u e)) n w g = Sm ok N φ n w (fset g u e) := by
  intro n
  induction n with
  | zero => intro w g _; rfl
  | succ n ih =>
    intro w g h
    refine wS_c (fun a _ _ => ?_)
    rw [ih (w + 1) (fset g w a) (by omega), fset_comm _ _ _ (by omega)]
/-- the choice of a node and one more of its choices may be exchanged -/
theorem Sm_swap {u : Nat} {φ : (Nat → Nat) → Nat → Int} : ∀ (n v : Nat) (f : Nat → Nat), v ≤ u → u < v + n → Sm ok N (fun f => wS ok N u (fun e => φ (fset f u e) (f u))) n v f = Sm ok N (fun f => wS ok N u (fun e => φ f e)) n v f := by
  intro n
  induction n with
  | zero => intro v f h1 h2; omega
  | succ n ih =>
    intro v f h1 h2
    by_cases e : u = v
    · subst e
      show wS ok N u (fun a => Sm ok N (fun f => wS ok N u (fun e => φ (fset f u e) (f u))) n (u + 1) (fset f u a)) = wS ok N u (fun a => Sm ok N (fun f => wS ok N u (fun e => φ f e)) n (u + 1) (fset f u a))
      have e1 : ∀ a, Sm ok N (fun f => wS ok N u (fun e => φ (fset f u e) (f u))) n (u + 1) (fset f u a) = wS ok N u (fun e => Sm ok N (fun f => φ f a) n (u + 1) (fset f u e)) := fun a => by
        rw [Sm_wS]
        refine wS_c (fun e _ _ => ?_)
        rw [Sm_c' (ψ := fun f => (fun f => φ f a) (fset f u e)) n (u + 1) _ (fun f' hf' => by
          show φ (fset f' u e) (f' u) = φ (fset f' u e) a
          rw [hf' u (by omega), fset_s])]
        rw [Sm_base (φ := fun f => φ f a) n (u + 1) _ (by omega), fset_2]
      rw [wS_c (fun a _ _ => e1 a), wS_comm]
      exact wS_c (fun a _ _ => (Sm_wS _ _ _).symm)
    · exact wS_c (fun a _ _ => ih (v + 1) _ (by omega) (by omega))
theorem Sm_ex {φ : (Nat → Nat) → Int} : ∀ (n v : Nat) (f : Nat → Nat), Sm ok N φ n v f ≠ 0 → ∃ f', φ f' ≠ 0 ∧ (∀ u, u < v → f' u = f u) ∧ ∀ u, v ≤ u → u < v + n → f' u < N ∧ ok u (f' u) = true := by
  intro n
  induction n with
  | zero => intro v f h; exact ⟨f, h, fun _ _ => rfl, fun u h1 h2 => by omega⟩
  | succ n ih =>
    intro v f h
    obtain ⟨a, ha, h2⟩ := sZ_ne N h
    by_cases e : ok v a = true
    · rw [if_pos e] at h2
      obtain ⟨f', k1, k2, k3⟩ := ih _ _ h2
      have kv : f' v = a := by rw [k2 v (by omega), fset_s]
      refine ⟨f', k1, fun u hu => by rw [k2 u (by omega), fset_n _ _ (by omega)], fun u h1 h2 => ?_⟩
      by_cases eu : u = v
      · subst eu; rw [kv]; exact ⟨ha, e⟩
      · exact k3 u (by omega) (by omega)
    · rw [if_neg e] at h2; exact absurd rfl h2
/-! walks -/
def stp (tg : Nat → Nat → Nat) (P : Nat → Bool) (f : Nat → Nat) (w : Nat) : Nat := if P w = true then tg w (f w) else w
def itr (tg : Nat → Nat → Nat) (P : Nat → Bool) (f : Nat → Nat) : Nat → Nat → Nat
  | 0, w => w
  | m + 1, w => itr tg P f m (stp tg P f w)
/-- the walk from w leaves P at z -/
def Rch (tg : Nat → Nat → Nat) (P : Nat → Bool) (f : Nat → Nat) (w z : Nat) : Prop := ∃ m, itr tg P f m w = z ∧ P z = false
def Acy (tg : Nat → Nat → Nat) (P : Nat → Bool) (f : Nat → Nat) : Prop := ∀ u, P u = true → ∃ z, Rch tg P f u z
variable {P P' : Nat → Bool} {f : Nat → Nat} {u w z : Nat}
theorem stp_out (h : P w = false) : stp tg P f w = w := by unfold stp; rw [if_neg (by rw [h]; decide)]
theorem stp_in (h : P w = true) : stp tg P f w = tg w (f w) := by unfold stp; rw [if_pos h]
theorem itr_out (h : P w = false) : ∀ m, itr tg P f m w = w := by
  intro m
  induction m with
  | zero => rfl
  | succ m ih => unfold itr; rw [stp_out h]; exact ih
theorem itr_add : ∀ (m n w : Nat), itr tg P f (m + n) w = itr tg P f n (itr tg P f m w) := by
  intro m
  induction m with
  | zero => intro n w; rw [Nat.zero_add]; rfl
  | succ m ih => intro n w; rw [show m + 1 + n = (m + n) + 1 by omega]; exact ih n (stp tg P f w)
theorem Rch_u {z' : Nat} (h : Rch tg P f w z) (h' : Rch tg P f w z') : z = z' := by
  obtain ⟨m, h1, h2⟩ := h
  obtain ⟨m', h3, h4⟩ := h'
  rcases Nat.le_total m m' with h | h
  · have := itr_add (tg := tg) (P := P) (f := f) m (m' - m) w
    rw [show m + (m' - m) = m' by omega, h1, h3, itr_out h2] at this
    exact this.symm
  · have := itr_add (tg := tg) (P := P) (f := f) m' (m - m') w
    rw [show m' + (m - m') = m by omega, h1, h3, itr_out h4] at this
    exact this
theorem Rch_out (h : P w = false) : Rch tg P f w z ↔ z = w := by
  constructor
  · rintro ⟨m, h1, _⟩; rw [itr_out h] at h1; exact h1.symm
  · rintro rfl; exact ⟨0, rfl, h⟩
theorem Rch_in (h : P w = true) : Rch tg P f w z ↔ Rch tg P f (tg w (f w)) z := by
  constructor
  · rintro ⟨m, h1, h2⟩
    cases m with
    | zero => have h1 : w = z := h1; subst h1; rw [h] at h2; cases h2
    | succ m => unfold itr at h1; rw [stp_in h] at h1; exact ⟨m, h1, h2⟩
  · rintro ⟨m, h1, h2⟩
    exact ⟨m + 1, by unfold itr; rw [stp_in h]; exact h1, h2⟩
theorem Rch_z (h : Rch tg P f w z) : P z = false := by obtain ⟨m, _, h⟩ := h; exact h
theorem Acy_all (h : Acy tg P f) (w : Nat) : ∃ z, Rch tg P f w z := by
  cases e : P w with
  | true => exact h w e
  | false => exact ⟨w, (Rch_out e).mpr rfl⟩
theorem Rch_fset {e : Nat} (hu : P u = false) : Rch tg P (fset f u e) w z ↔ Rch tg P f w z := by
  have key : ∀ w, stp tg P (fset f u e) w = stp tg P f w := fun w => by
    unfold stp
    by_cases h : P w = true
    · rw [if_pos h, if_pos h, fset_n _ _ (fun q => by subst q; rw [hu] at h; cases h)]
    · rw [if_neg h, if_neg h]
  have k2 : ∀ m w, itr tg P (fset f u e) m w = itr tg P f m w := by
    intro m
    induction m with
    | zero => intro w; rfl
    | succ m ih => intro w; unfold itr; rw [key, ih]
  unfold Rch
  simp only [k2]
theorem Acy_fset {e : Nat} (hu : P u = false) : Acy tg P (fset f u e) ↔ Acy tg P f := by
  unfold Acy
  simp only [Rch_fset hu]
/-- a walk goes as far as the smaller set goes -/
theorem Rch_ext (hP : ∀ q, P' q = true ↔ P q = true ∨ q = u) (hu : P u = false) {y : Nat} (h : Rch tg P f w y) : Rch tg P' f w z ↔ Rch tg P' f y z := by
  obtain ⟨m, h1, h2⟩ := h
  induction m generalizing w with
  | zero => have h1 : w = y := h1; subst h1; exact Iff.rfl
  | succ m ih =>
    unfold itr at h1
    cases e : P w with
    | false => rw [stp_out e, itr_out e] at h1; subst h1; exact Iff.rfl
    | true =>
      rw [stp_in e] at h1
      rw [Rch_in ((hP w).mpr (Or.inl e))]
      exact ih h1
theorem P'_f (hP : ∀ q, P' q = true ↔ P q = true ∨ q = u) (h : P z = false) (hz : z ≠ u) : P' z = false := by
  cases e : P' z with
  | false => rfl
  | true =>
    rcases (hP z).mp e with q | q
    · rw [h] at q; cases q
    · exact absurd q hz
theorem P_f (hP : ∀ q, P' q = true ↔ P q = true ∨ q = u) (h : P' z = false) : P z = false ∧ z ≠ u := by
  constructor
  · cases e : P z with
    | false => rfl
    | true => rw [(hP z).mpr (Or.inl e)] at h; cases h
  · intro q; rw [(hP z).mpr (Or.inr q)] at h; cases h
/-- one more node: no walk from it comes back to it -/
theorem Acy_ext (hP : ∀ q, P' q = true ↔ P q = true ∨ q = u) (hu : P u = false) : Acy tg P' f ↔ Acy tg P f ∧ ¬ Rch tg P f (tg u (f u)) u := by
  have hu' : P' u = true := (hP u).mpr (Or.inr rfl)
  constructor
  · intro h
    have hA : Acy tg P f := by
      intro q hq
      obtain ⟨z, m, h1, h2⟩ := h q ((hP q).mpr (Or.inl hq))
      clear hq
      induction m generalizing q with
      | zero => have h1 : q = z := h1; subst h1; exact ⟨q, (Rch_out (P_f hP h2).1).mpr rfl⟩
      | succ m ih =>
        cases e : P q with
        | false => exact ⟨q, (Rch_out e).mpr rfl⟩
        | true =>
          unfold itr at h1
          rw [stp_in ((hP q).mpr (Or.inl e))] at h1
          obtain ⟨y, hy⟩ := ih _ h1
          exact ⟨y, (Rch_in e).mpr hy⟩
    refine ⟨hA, fun hr => ?_⟩
    obtain ⟨z, m, h1, h2⟩ := h u hu'
    -- the walk from u comes to u again and again
    have loop : ∀ (m w : Nat), (Rch tg P f w u ∨ w = u) → P' (itr tg P' f m w) = true := by
      intro m
      induction m with
      | zero =>
        intro w hw
        rcases hw with hw | hw
        · cases e : P w with
          | true => exact (hP w).mpr (Or.inl e)
          | false =>
            have := (Rch_out e).mp hw
            show P' w = true
            rw [← this]; exact hu'
        · show P' w = true
          rw [hw]; exact hu'
      | succ m ih =>
        intro w hw
        unfold itr
        refine ih _ ?_
        by_cases ew : w = u
        · rw [ew, stp_in hu']; exact Or.inl hr
        · have hw := hw.resolve_right ew
          cases e : P w with
          | true => rw [stp_in ((hP w).mpr (Or.inl e))]; exact Or.inl ((Rch_in e).mp hw)
          | false => exact absurd ((Rch_out e).mp hw).symm ew
    have := loop m u (Or.inr rfl)
    rw [h1, h2] at this
    cases this
  · rintro ⟨hA, hr⟩ q hq
    have fromu : ∃ z, Rch tg P' f u z := by
      obtain ⟨y, hy⟩ := Acy_all hA (tg u (f u))
      have hyu : y ≠ u := fun e => hr (e ▸ hy)
      refine ⟨y, (Rch_in hu').mpr ((Rch_ext hP hu hy).mpr ((Rch_out (P'_f hP (Rch_z hy) hyu)).mpr rfl))⟩
    obtain ⟨y, hy⟩ := Acy_all hA q
    by_cases e : y = u
    · subst e
      obtain ⟨z, hz⟩ := fromu
      exact ⟨z, (Rch_ext hP hu hy).mpr hz⟩
    · exact ⟨y, (Rch_ext hP hu hy).mpr ((Rch_out (P'_f hP (Rch_z hy) e)).mpr rfl)⟩
/-- where walks end with one more node -/
theorem Rch_ext2 (hP : ∀ q, P' q = true ↔ P q = true ∨ q = u) (hu : P u = false) (hA : Acy tg P f) (hz : P' z = false) : Rch tg P' f w z ↔ Rch tg P f w z ∨ (Rch tg P f w u ∧ Rch tg P' f u z) := by
  obtain ⟨y, hy⟩ := Acy_all hA w
  rw [Rch_ext hP hu hy]
  by_cases e : y = u
  · subst e
    constructor
    · intro h; exact Or.inr ⟨hy, h⟩
    · rintro (h | h)
      · exact absurd (Rch_u h hy) (P_f hP hz).2
      · exact h.2
  · rw [Rch_out (P'_f hP (Rch_z hy) e)]
    constructor
    · rintro rfl; exact Or.inl hy
    · rintro (h | h)
      · exact Rch_u h hy
      · exact absurd (Rch_u hy h.1) e
theorem Rch_extu (hP : ∀ q, P' q = true ↔ P q = true ∨ q = u) (hu : P u = false) (hA : Acy tg P f) (hr : ¬ Rch tg P f (tg u (f u)) u) (hz : P' z = false) : Rch tg P' f u z ↔ Rch tg P f (tg u (f u)) z := by
  rw [Rch_in ((hP u).mpr (Or.inr rfl)), Rch_ext2 hP hu hA hz]
  exact ⟨fun h => h.elim id (fun q => absurd q.1 hr), Or.inl⟩
end EL
/-! the numbers of the elimination -/
section EM
variable {ok : Nat → Nat → Bool} {N : Nat} {tg : Nat → Nat → Nat}
def Pk (k : Nat) : Nat → Bool := fun w => decide (w < k)
theorem Pk_t {k w : Nat} : Pk k w = true ↔ w < k := by unfold Pk; exact decide_eq_true_iff
theorem Pk_f {k w : Nat} : Pk k w = false ↔ k ≤ w := by unfold Pk; rw [decide_eq_false_iff_not]; omega
def f00 : Nat → Nat := fun _ => 0
/-- choices of 0 .. k-1 from which every walk leaves -/
noncomputable def eF (ok : Nat → Nat → Bool) (N : Nat) (tg : Nat → Nat → Nat) (k : Nat) : Int := Sm ok N (fun f => ind (Acy tg (Pk k) f)) k 0 f00
/-- .. and the walk from w leaves at z -/
noncomputable def eA (ok : Nat → Nat → Bool) (N : Nat) (tg : Nat → Nat → Nat) (k w z : Nat) : Int := Sm ok N (fun f => ind (Acy tg (Pk k) f ∧ Rch tg (Pk k) f w z)) k 0 f00
noncomputable def eB (ok : Nat → Nat → Bool) (N : Nat) (tg : Nat → Nat → Nat) (k i z : Nat) : Int := wS ok N i (fun e => eA ok N tg k (tg i e) z)
/-- the entry of the matrix -/
noncomputable def eM (ok : Nat → Nat → Bool) (N : Nat) (tg : Nat → Nat → Nat) (k i j : Nat) : Int := (if i = j then dgN ok N i * eF ok N tg k else 0) - eB ok N tg k i j
theorem eA_out {k w z : Nat} (h : k ≤ w) : eA ok N tg k w z = if w = z then eF ok N tg k else 0 := by
  unfold eA eF
  by_cases e : w = z
  · rw [if_pos e]
    refine Sm_c _ _ _ (fun f => ind_c ⟨fun q => q.1, fun q => ⟨q, (Rch_out (Pk_f.mpr h)).mpr e.symm⟩⟩)
  · rw [if_neg e]
    have : Sm ok N (fun f => ind (Acy tg (Pk k) f ∧ Rch tg (Pk k) f w z)) k 0 f00 = Sm ok N (fun f => 0 * (fun _ => (0 : Int)) f) k 0 f00 := Sm_c _ _ _ (fun f => by
      rw [ind_F (fun q => e ((Rch_out (Pk_f.mpr h)).mp q.2).symm)]; rfl)
    rw [this, Sm_mul, Int.zero_mul]
theorem eF_nn (k : Nat) : 0 ≤ eF ok N tg k := Sm_nn (fun _ => ind_0 _) _ _ _
theorem eA_nn (k w z : Nat) : 0 ≤ eA ok N tg k w z := Sm_nn (fun _ => ind_0 _) _ _ _
theorem eA_le (k w z : Nat) : eA ok N tg k w z ≤ eF ok N tg k := Sm_le (fun f => by
  by_cases h : Acy tg (Pk k) f ∧ Rch tg (Pk k) f w z
  · rw [ind_T h, ind_T h.1]; exact Int.le_refl 1
  · rw [ind_F h]; exact ind_0 _) _ _ _
theorem eB_nn (k i z : Nat) : 0 ≤ eB ok N tg k i z := wS_nn (fun _ _ _ => eA_nn _ _ _)
theorem eB_le (k i z : Nat) : eB ok N tg k i z ≤ dgN ok N i * eF ok N tg k := by
  rw [← wS_k]; exact wS_le (fun _ _ _ => eA_le _ _ _)
theorem dgN_nn (v : Nat) : 0 ≤ dgN ok N v := wS_nn (fun _ _ _ => by decide)
theorem Pk_s (k : Nat) : ∀ q, Pk (k + 1) q = true ↔ Pk k q = true ∨ q = k := fun q => by rw [Pk_t, Pk_t]; omega
theorem Pk_k (k : Nat) : Pk k k = false := Pk_f.mpr (Nat.le_refl k)
/-- one more node -/
theorem eF_s (k : Nat) : eF ok N tg (k + 1) = dgN ok N k * eF ok N tg k - eB ok N tg k k k := by
  have h1 : eF ok N tg (k + 1) = wS ok N k (fun c => Sm ok N (fun f => ind (Acy tg (Pk k) f ∧ ¬ Rch tg (Pk k) f (tg k c) k)) k 0 f00) := by
    unfold eF
    rw [Sm_last, ← Sm_wS, Nat.zero_add]
    refine Sm_c _ _ _ (fun f => wS_c (fun a _ _ => ind_c ?_))
    rw [Acy_ext (Pk_s k) (Pk_k k), Acy_fset (Pk_k k), Rch_fset (Pk_k k), fset_s]
  have h2 : dgN ok N k * eF ok N tg k = wS ok N k (fun c => Sm ok N (fun f => ind (Acy tg (Pk k) f ∧ ¬ Rch tg (Pk k) f (tg k c) k)) k 0 f00 + eA ok N tg k (tg k c) k) := by
    rw [← wS_k]
    refine wS_c (fun c _ _ => ?_)
    unfold eA eF
    rw [← Sm_add]
    refine Sm_c _ _ _ (fun f => ?_)
    by_cases hA : Acy tg (Pk k) f
    · by_cases hR : Rch tg (Pk k) f (tg k c) k
      · rw [ind_T hA, ind_F (fun q => q.2 hR), ind_T ⟨hA, hR⟩]; rfl
      · rw [ind_T hA, ind_T ⟨hA, hR⟩, ind_F (fun q => hR q.2)]; rfl
    · rw [ind_F hA, ind_F (fun q => hA q.1), ind_F (fun q => hA q.1)]; rfl
  rw [wS_add, ← h1] at h2
  unfold eB
  omega
theorem eA_k {k z : Nat} (hz : k + 1 ≤ z) : eA ok N tg (k + 1) k z = eB ok N tg k k z := by
  unfold eB
  show Sm ok N (fun f => ind (Acy tg (Pk (k + 1)) f ∧ Rch tg (Pk (k + 1)) f k z)) (k + 1) 0 f00 = wS ok N k (fun e => Sm ok N (fun f => ind (Acy tg (Pk k) f ∧ Rch tg (Pk k) f (tg k e) z)) k 0 f00)
  rw [Sm_last, ← Sm_wS, Nat.zero_add]
  refine Sm_c _ _ _ (fun f => wS_c (fun a _ _ => ind_c ?_))
  have hz' : Pk (k + 1) z = false := Pk_f.mpr hz
  constructor
  · rintro ⟨hA, hR⟩
    obtain ⟨h1, h2⟩ := (Acy_ext (Pk_s k) (Pk_k k)).mp hA
    rw [Rch_extu (Pk_s k) (Pk_k k) h1 h2 hz', fset_s, Rch_fset (Pk_k k)] at hR
    rw [Acy_fset (Pk_k k)] at h1
    exact ⟨h1, hR⟩
  · rintro ⟨hA, hR⟩
    have h1 : Acy tg (Pk k) (fset f k a) := (Acy_fset (Pk_k k)).mpr hA
    have h2 : ¬ Rch tg (Pk k) (fset f k a) (tg k (fset f k a k)) k := by
      rw [fset_s, Rch_fset (Pk_k k)]
      intro q
      have := Rch_u hR q
      omega
    refine ⟨(Acy_ext (Pk_s k) (Pk_k k)).mpr ⟨h1, h2⟩, ?_⟩
    rw [Rch_extu (Pk_s k) (Pk_k k) h1 h2 hz', fset_s, Rch_fset (Pk_k k)]
    exact hR
/-- harmonic -/
theorem eA_h {k u z : Nat} (hu : u < k) (hz : k ≤ z) : wS ok N u (fun e => eA ok N tg k (tg u e) z) = dgN ok N u * eA ok N tg k u z := by
  rw [← wS_k]
  have hP : ∀ q, Pk k q = true ↔ (Pk k q && decide (q ≠ u)) = true ∨ q = u := fun q => by
    rw [Bool.and_eq_true, Pk_t, decide_eq_true_iff]; omega
  generalize hP0 : (fun q => Pk k q && decide (q ≠ u)) = P at hP
  have hP : ∀ q, Pk k q = true ↔ P q = true ∨ q = u := fun q => by rw [← hP0]; exact hP q
  have hPu : P u = false := by rw [← hP0]; simp
  have hz' : Pk k z = false := Pk_f.mpr hz
  have hzu : z ≠ u := by omega
  -- the sums, term by term
  have l1 : wS ok N u (fun e => eA ok N tg k (tg u e) z) = Sm ok N (fun f => wS ok N u (fun e => ind (Acy tg P f ∧ ¬ Rch tg P f (tg u (f u)) u ∧ Rch tg P f (tg u e) z))) k 0 f00 + Sm ok N (fun f => wS ok N u (fun e => ind (Acy tg P f ∧ Rch tg P f (tg u e) u ∧ Rch tg P f (tg u (f u)) z))) k 0 f00 := by
    unfold eA
    rw [← Sm_wS, ← Sm_add]
    refine Sm_c _ _ _ (fun f => ?_)
    rw [← wS_add]
    refine wS_c (fun e _ _ => ?_)
    by_cases hA : Acy tg P f
    · by_cases hr : Rch tg P f (tg u (f u)) u
      · rw [ind_F (fun q => ((Acy_ext hP hPu).mp q.1).2 hr), ind_F (fun q => q.2.1 hr), ind_F (fun q => hzu (Rch_u q.2.2 hr))]; rfl
      · have hA' : Acy tg (Pk k) f := (Acy_ext hP hPu).mpr ⟨hA, hr⟩
        have e2 := Rch_ext2 (f := f) (w := tg u e) hP hPu hA hz'
        rw [Rch_extu hP hPu hA hr hz'] at e2
        by_cases hx : Rch tg P f (tg u e) u
        · have hnz : ¬ Rch tg P f (tg u e) z := fun q => hzu (Rch_u q hx)
          rw [ind_F (p := Acy tg P f ∧ ¬ Rch tg P f (tg u (f u)) u ∧ Rch tg P f (tg u e) z) (fun q => hnz q.2.2), Int.zero_add]
          exact ind_c ⟨fun q => ⟨hA, hx, (e2.mp q.2).elim (fun q => absurd q hnz) (fun q => q.2)⟩, fun q => ⟨hA', e2.mpr (Or.inr ⟨hx, q.2.2⟩)⟩⟩
        · rw [ind_F (p := Acy tg P f ∧ Rch tg P f (tg u e) u ∧ Rch tg P f (tg u (f u)) z) (fun q => hx q.2.1), Int.add_zero]
          exact ind_c ⟨fun q => ⟨hA, hr, (e2.mp q.2).elim id (fun q => absurd q.1 hx)⟩, fun q => ⟨hA', e2.mpr (Or.inl q.2.2)⟩⟩
    · rw [ind_F (fun q => hA ((Acy_ext hP hPu).mp q.1).1), ind_F (fun q => hA q.1), ind_F (fun q => hA q.1)]; rfl
  have l2 : wS ok N u (fun _ => eA ok N tg k u z) = Sm ok N (fun f => wS ok N u (fun e => ind (Acy tg P f ∧ ¬ Rch tg P f (tg u e) u ∧ Rch tg P f (tg u (f u)) z))) k 0 f00 + Sm ok N (fun f => wS ok N u (fun e => ind (Acy tg P f ∧ Rch tg P f (tg u e) u ∧ Rch tg P f (tg u (f u)) z))) k 0 f00 := by
    unfold eA
    rw [← Sm_wS, ← Sm_add]
    refine Sm_c _ _ _ (fun f => ?_)
    rw [← wS_add]
    refine wS_c (fun e _ _ => ?_)
    have key : (Acy tg (Pk k) f ∧ Rch tg (Pk k) f u z) ↔ (Acy tg P f ∧ Rch tg P f (tg u (f u)) z) := by
      constructor
      · rintro ⟨hA, hR⟩
        obtain ⟨h1, h2⟩ := (Acy_ext hP hPu).mp hA
        exact ⟨h1, (Rch_extu hP hPu h1 h2 hz').mp hR⟩
      · rintro ⟨hA, hR⟩
        have h2 : ¬ Rch tg P f (tg u (f u)) u := fun q => hzu (Rch_u hR q)
        exact ⟨(Acy_ext hP hPu).mpr ⟨hA, h2⟩, (Rch_extu hP hPu hA h2 hz').mpr hR⟩
    rw [ind_c key]
    by_cases hB : Acy tg P f ∧ Rch tg P f (tg u (f u)) z
    · by_cases hx : Rch tg P f (tg u e) u
      · rw [ind_T hB, ind_F (fun q => q.2.1 hx), ind_T ⟨hB.1, hx, hB.2⟩]; rfl
      · rw [ind_T hB, ind_T ⟨hB.1, hx, hB.2⟩, ind_F (fun q => hx q.2.1)]; rfl
    · rw [ind_F hB, ind_F (fun q => hB ⟨q.1, q.2.2⟩), ind_F (fun q => hB ⟨q.1, q.2.2⟩)]; rfl
  rw [l1, l2]
  congr 1
  rw [← Sm_swap (φ := fun f e => ind (Acy tg P f ∧ ¬ Rch tg P f (tg u (f u)) u ∧ Rch tg P f (tg u e) z)) k 0 f00 (by omega) (by omega)]
  refine Sm_c _ _ _ (fun f => wS_c (fun e _ _ => ind_c ?_))
  rw [Acy_fset hPu, Rch_fset hPu, Rch_fset hPu, fset_s]
theorem z_max {δ : Nat → Int} : ∀ k, 0 < k → ∃ u, u < k ∧ ∀ w, w < k → δ w ≤ δ u := by
  intro k
  induction k with
  | zero => intro h; omega
  | succ k ih =>
    intro _
    by_cases e : k = 0
    · subst e; exact ⟨0, by omega, fun w hw => by rw [show w = 0 by omega]; exact Int.le_refl _⟩
    · obtain ⟨u, hu, h⟩ := ih (by omega)
      by_cases c : δ u ≤ δ k
      · refine ⟨k, by omega, fun w hw => ?_⟩
        by_cases ew : w = k
        · subst ew; exact Int.le_refl _
        · exact Int.le_trans (h w (by omega)) c
      · refine ⟨u, by omega, fun w hw => ?_⟩
        by_cases ew : w = k
        · subst ew; omega
        · exact h w (by omega)
/-- what is harmonic within and at most 0 outside is at most 0 -/
theorem z_harm {δ : Nat → Int} {k : Nat} {f : Nat → Nat} (hf : ∀ u, u < k → f u < N ∧ ok u (f u) = true) (hA : Acy tg (Pk k) f) (h : ∀ u, u < k → wS ok N u (fun e => δ (tg u e)) = dgN ok N u * δ u) (h0 : ∀ w, k ≤ w → δ w = 0) : ∀ u, u < k → δ u ≤ 0 := by
  intro u hu
  refine Classical.byContradiction (fun hn => ?_)
  obtain ⟨u0, hu0, hmax⟩ := z_max (δ := δ) k (by omega)
  have hM : 0 < δ u0 := by have := hmax u hu; omega
  have hle : ∀ w, δ w ≤ δ u0 := fun w => by
    by_cases e : w < k
    · exact hmax w e
    · rw [h0 w (by omega)]; omega
  have walk : ∀ (m w : Nat), δ w = δ u0 → δ (itr tg (Pk k) f m w) = δ u0 := by
    intro m
    induction m with
    | zero => intro w hw; exact hw
    | succ m ih =>
      intro w hw
      show δ (itr tg (Pk k) f m (stp tg (Pk k) f w)) = δ u0
      refine ih _ ?_
      by_cases e : w < k
      · rw [stp_in (Pk_t.mpr e)]
        have hz : wS ok N w (fun e => δ u0 + (-1) * δ (tg w e)) = 0 := by
          rw [wS_add, wS_mul, h w e, wS_k, hw]; omega
        have := wS_z (fun a _ _ => by have := hle (tg w a); omega) hz (hf w e).1 (hf w e).2
        omega
      · rw [stp_out (Pk_f.mpr (by omega))]; exact hw
  obtain ⟨z, m, hz1, hz2⟩ := hA u0 (Pk_t.mpr hu0)
  have := walk m u0 rfl
  rw [hz1, h0 z (Pk_f.mp hz2)] at this
  omega
theorem z_uniq {y z : Nat → Int} {k : Nat} (hF : eF ok N tg k ≠ 0) (hy : ∀ u, u < k → wS ok N u (fun e => y (tg u e)) = dgN ok N u * y u) (hz : ∀ u, u < k → wS ok N u (fun e => z (tg u e)) = dgN ok N u * z u) (h0 : ∀ w, k ≤ w → y w = z w) : ∀ u, y u = z u := by
  obtain ⟨f, h1, -, h3⟩ := Sm_ex _ _ _ hF
  have hA : Acy tg (Pk k) f := Classical.byContradiction (fun q => h1 (ind_F q))
  have hf : ∀ u, u < k → f u < N ∧ ok u (f u) = true := fun u hu => h3 u (by omega) (by omega)
  have g : ∀ (y z : Nat → Int), (∀ u, u < k → wS ok N u (fun e => y (tg u e)) = dgN ok N u * y u) → (∀ u, u < k → wS ok N u (fun e => z (tg u e)) = dgN ok N u * z u) → (∀ w, k ≤ w → y w = z w) → ∀ u, u < k → y u + (-1) * z u ≤ 0 := fun y z hy hz h0 => z_harm (δ := fun w => y w + (-1) * z w) hf hA (fun u hu => by
    show wS ok N u (fun e => y (tg u e) + (-1) * z (tg u e)) = dgN ok N u * (y u + (-1) * z u)
    rw [wS_add, wS_mul, hy u hu, hz u hu, Int.mul_add, ← Int.mul_assoc, ← Int.mul_assoc, Int.mul_comm (-1)]) (fun w hw => by
    show y w + (-1) * z w = 0
    rw [h0 w hw]; omega)
  intro u
  by_cases e : u < k
  · have a1 := g y z hy hz h0 u e
    have a2 := g z y hz hy (fun w hw => (h0 w hw).symm) u e
    omega
  · exact h0 u (by omega)
/-- the step, of where walks end -/
theorem eA_s {k j : Nat} (hF : eF ok N tg k ≠ 0) (hj : k + 1 ≤ j) : ∀ w, eA ok N tg (k + 1) w j * eF ok N tg k = eA ok N tg k w j * eF ok N tg (k + 1) + eA ok N tg k w k * eB ok N tg k k j := by
  refine z_uniq (y := fun w => eA ok N tg (k + 1) w j * eF ok N tg k) (z := fun w => eA ok N tg k w j * eF ok N tg (k + 1) + eA ok N tg k w k * eB ok N tg k k j) hF (fun u hu => ?_) (fun u hu => ?_) (fun w hw => ?_)
  · show wS ok N u (fun e => eA ok N tg (k + 1) (tg u e) j * eF ok N tg k) = dgN ok N u * (eA ok N tg (k + 1) u j * eF ok N tg k)
    rw [← Int.mul_assoc, ← eA_h (k := k + 1) (by omega) hj, Int.mul_comm _ (eF ok N tg k), ← wS_mul]
    exact wS_c (fun a _ _ => Int.mul_comm _ _)
  · show wS ok N u (fun e => eA ok N tg k (tg u e) j * eF ok N tg (k + 1) + eA ok N tg k (tg u e) k * eB ok N tg k k j) = dgN ok N u * (eA ok N tg k u j * eF ok N tg (k + 1) + eA ok N tg k u k * eB ok N tg k k j)
    rw [wS_add, Int.mul_add, ← Int.mul_assoc, ← Int.mul_assoc, ← eA_h (k := k) hu (by omega), ← eA_h (k := k) hu (Nat.le_refl k), Int.mul_comm _ (eF ok N tg (k + 1)), Int.mul_comm _ (eB ok N tg k k j), ← wS_mul, ← wS_mul]
    congr 1
    · exact wS_c (fun a _ _ => Int.mul_comm _ _)
    · exact wS_c (fun a _ _ => Int.mul_comm _ _)
  · show eA ok N tg (k + 1) w j * eF ok N tg k = eA ok N tg k w j * eF ok N tg (k + 1) + eA ok N tg k w k * eB ok N tg k k j
    by_cases e : w = k
    · subst e
      rw [eA_k hj, eA_out (Nat.le_refl w), eA_out (Nat.le_refl w), if_neg (by omega), if_pos rfl, Int.zero_mul, Int.zero_add, Int.mul_comm]
    · rw [eA_out (k := k + 1) (by omega), eA_out hw, eA_out hw, if_neg e, Int.zero_mul, Int.add_zero]
      by_cases e2 : w = j
      · rw [if_pos e2, if_pos e2, Int.mul_comm]
      · rw [if_neg e2, if_neg e2, Int.zero_mul, Int.zero_mul]
theorem eB_s {k i j : Nat} (hF : eF ok N tg k ≠ 0) (hj : k + 1 ≤ j) : eB ok N tg (k + 1) i j * eF ok N tg k = eB ok N tg k i j * eF ok N tg (k + 1) + eB ok N tg k i k * eB ok N tg k k j := by
  unfold eB
  rw [Int.mul_comm, ← wS_mul, Int.mul_comm _ (eF ok N tg (k + 1)), ← wS_mul, Int.mul_comm (wS ok N i (fun e => eA ok N tg k (tg i e) k)), ← wS_mul, ← wS_add]
  refine wS_c (fun a _ _ => ?_)
  have := eA_s hF hj (tg i a)
  unfold eB at this
  rw [Int.mul_comm, this, Int.mul_comm (eF ok N tg (k + 1)), Int.mul_comm (wS ok N k _)]
theorem eM_kk (k : Nat) : eM ok N tg k k k = eF ok N tg (k + 1) := by
  unfold eM; rw [if_pos rfl, eF_s]
/-- the step of the elimination, without a rest -/
theorem eM_s {k i j : Nat} (hF : eF ok N tg k ≠ 0) (hi : k + 1 ≤ i) (hj : k + 1 ≤ j) : eM ok N tg k i j * eM ok N tg k k k - eM ok N tg k i k * eM ok N tg k k j = eM ok N tg (k + 1) i j * eF ok N tg k := by
  rw [eM_kk]
  have h := eB_s (i := i) hF hj
  unfold eM
  rw [if_neg (show ¬ i = k by omega), if_neg (show ¬ k = j by omega), Int.zero_sub, Int.zero_sub, Int.neg_mul_neg, Int.sub_mul, Int.sub_mul, h]
  by_cases e : i = j
  · rw [if_pos e, if_pos e, Int.mul_right_comm]; omega
  · rw [if_neg e, if_neg e, Int.zero_mul, Int.zero_mul]; omega
theorem eF_0 : eF ok N tg 0 = 1 := ind_T (fun u hu => by rw [Pk_t] at hu; omega)
theorem eF_z {k : Nat} (h : eF ok N tg k = 0) : ∀ n, eF ok N tg (k + n) = 0 := by
  intro n
  induction n with
  | zero => exact h
  | succ n ih =>
    have h1 := eF_s (ok := ok) (N := N) (tg := tg) (k + n)
    have h2 := eB_nn (ok := ok) (N := N) (tg := tg) (k + n) (k + n) (k + n)
    have h3 := eF_nn (ok := ok) (N := N) (tg := tg) (k + n + 1)
    rw [ih, Int.mul_zero] at h1
    show eF ok N tg (k + n + 1) = 0
    omega
end EM
