/-! the number of arborescences: what is gone through, and what the elimination gives -/
def okv (G : Gr) (al : Nat → Bool) (v a : Nat) : Bool := if v = gr G then decide (a = 0) else decide (a < gm G) && al a && decide (gh G a = v)
def tgv (G : Gr) (v a : Nat) : Nat := if v = gr G then 8 else if gt G a = gr G then 8 else gt G a
section CT
variable {G : Gr} {al : Nat → Bool} {f : Nat → Nat} {o : Option Nat} {ok ok' : Nat → Nat → Bool} {N : Nat}
theorem okv_r {a : Nat} : okv G al (gr G) a = true ↔ a = 0 := by unfold okv; rw [if_pos rfl, decide_eq_true_iff]
theorem okv_n {v a : Nat} (hv : v ≠ gr G) : okv G al v a = true ↔ a < gm G ∧ al a = true ∧ gh G a = v := by
  unfold okv
  rw [if_neg hv, Bool.and_eq_true, Bool.and_eq_true, decide_eq_true_iff, decide_eq_true_iff, and_assoc]
theorem Sm_cv {φ ψ : (Nat → Nat) → Int} : ∀ (n v : Nat) (f : Nat → Nat), (∀ f', (∀ u, v ≤ u → u < v + n → f' u < N ∧ ok u (f' u) = true) → (∀ u, u < v → f' u = f u) → φ f' = ψ f') → Sm ok N φ n v f = Sm ok N ψ n v f := by
  intro n
  induction n with
  | zero => intro v f h; exact h f (fun u h1 h2 => by omega) (fun _ _ => rfl)
  | succ n ih =>
    intro v f h
    refine wS_c (fun a ha hk => ih (v + 1) _ (fun f' h1 h2 => h f' (fun u u1 u2 => ?_) (fun u hu => ?_)))
    · by_cases e : u = v
      · subst e; rw [h2 u (by omega), fset_s]; exact ⟨ha, hk⟩
      · exact h1 u (by omega) (by omega)
    · rw [h2 u (by omega), fset_n _ _ (by omega)]
theorem sZ_ext {g : Nat → Int} {k : Nat} : ∀ n, (∀ i, k ≤ i → i < k + n → g i = 0) → sZ g (k + n) = sZ g k := by
  intro n
  induction n with
  | zero => intro _; rfl
  | succ n ih =>
    intro h
    show sZ g (k + n) + g (k + n) = sZ g k
    rw [ih (fun i h1 h2 => h i h1 (by omega)), h (k + n) (by omega) (by omega), Int.add_zero]
theorem sZ_one {g : Nat → Int} {c : Nat} : ∀ n, c < n → (∀ i, i < n → i ≠ c → g i = 0) → sZ g n = g c := by
  intro n
  induction n with
  | zero => intro h; omega
  | succ n ih =>
    intro hc h
    show sZ g n + g n = g c
    by_cases e : c = n
    · subst e
      rw [sZ_c (g := fun _ => 0) c (fun i hi => h i (by omega) (by omega)), sZ_zero, Int.zero_add]
    · rw [ih (by omega) (fun i hi => h i (by omega)), h n (by omega) (fun q => e q.symm), Int.add_zero]
theorem foA_sum {P : Nat → Bool} {g : Nat → Nat → Nat} {φ : Nat → Int} (hg : ∀ a y, ((g a y : Nat) : Int) = y + φ a) : ∀ (n a x : Nat), ((foA P g n a x : Nat) : Int) = x + sZ (fun i => if P (a + i) = true then φ (a + i) else 0) n := by
  intro n
  induction n with
  | zero => intro a x; show (x : Int) = x + 0; omega
  | succ n ih =>
    intro a x
    have hs : sZ (fun i => if P (a + i) = true then φ (a + i) else 0) (n + 1) = (if P a = true then φ a else 0) + sZ (fun i => if P (a + 1 + i) = true then φ (a + 1 + i) else 0) n := by
      clear ih
      induction n with
      | zero => show (0 : Int) + (if P (a + 0) = true then φ (a + 0) else 0) = _ + 0; rw [Nat.add_zero]; omega
      | succ n ih2 =>
        show sZ (fun i => if P (a + i) = true then φ (a + i) else 0) (n + 1) + (if P (a + (n + 1)) = true then φ (a + (n + 1)) else 0) = _ + (sZ (fun i => if P (a + 1 + i) = true then φ (a + 1 + i) else 0) n + (if P (a + 1 + n) = true then φ (a + 1 + n) else 0))
        rw [ih2, show a + (n + 1) = a + 1 + n by omega]; omega
    show ((foA P g n (a + 1) (if P a = true then g a x else x) : Nat) : Int) = _
    rw [ih, hs]
    by_cases e : P a = true
    · rw [if_pos e, if_pos e, hg]; omega
    · rw [if_neg e, if_neg e]; omega
theorem en_cnt (hm : gm G ≤ 32) : ∀ (n v : Nat) (f : Nat → Nat) (c : Nat), ((enF G (lfC G o) n v f c : Nat) : Int) = c + Sm (okv G (fun _ => true)) 33 (fun f => ind (isAr G f ∧ hasP G o f (gn G))) n v f := by
  intro n
  induction n with
  | zero =>
    intro v f c
    show ((lfC G o f c : Nat) : Int) = c + ind (isAr G f ∧ hasP G o f (gn G))
    unfold lfC
    by_cases h : isAr G f ∧ hasP G o f (gn G)
    · rw [if_pos (pD_T h), ind_T h]; omega
    · rw [pD_F h, ind_F h]
      show (c : Int) = c + 0
      omega
  | succ n ih =>
    intro v f c
    unfold enF
    show _ = (c : Int) + wS (okv G (fun _ => true)) 33 v (fun a => Sm (okv G (fun _ => true)) 33 (fun f => ind (isAr G f ∧ hasP G o f (gn G))) n (v + 1) (fset f v a))
    by_cases e : v = gr G
    · rw [if_pos e, ih]
      congr 1
      subst e
      unfold wS
      rw [sZ_one (c := 0) 33 (by omega) (fun i _ hi => if_neg (fun q => hi (okv_r.mp q))), if_pos (okv_r.mpr rfl)]
    · rw [if_neg e, foA_sum (φ := fun a => Sm (okv G (fun _ => true)) 33 (fun f => ind (isAr G f ∧ hasP G o f (gn G))) n (v + 1) (fset f v a)) (fun a y => ih _ _ _)]
      congr 1
      unfold wS
      have e33 : (33 : Nat) = gm G + (33 - gm G) := by omega
      rw [e33, sZ_ext (k := gm G) (33 - gm G) (fun i h1 h2 => if_neg (fun q => by have := ((okv_n e).mp q).1; omega)), ← e33]
      refine sZ_c _ (fun i hi => ?_)
      rw [Nat.zero_add]
      by_cases h : gh G i = v
      · rw [if_pos (show hdP G v i = true from decide_eq_true h), if_pos ((okv_n e).mpr ⟨hi, rfl, h⟩)]
      · rw [if_neg (show ¬ hdP G v i = true from fun q => h (of_decide_eq_true q)), if_neg (fun q => h ((okv_n e).mp q).2.2)]
/-! walks to a stop -/
def wkT (T : Nat → Bool) (nx : Nat → Nat) : Nat → Nat → Nat
  | 0, v => v
  | k + 1, v => if T v = true then v else wkT T nx k (nx v)
theorem wkT_t {T : Nat → Bool} {nx : Nat → Nat} {v : Nat} (h : T v = true) : ∀ k, wkT T nx k v = v := by
  intro k
  cases k with
  | zero => rfl
  | succ k => unfold wkT; rw [if_pos h]
theorem wkT_add {T : Nat → Bool} {nx : Nat → Nat} : ∀ (i j v : Nat), wkT T nx (i + j) v = wkT T nx j (wkT T nx i v) := by
  intro i
  induction i with
  | zero => intro j v; rw [Nat.zero_add]; rfl
  | succ i ih =>
    intro j v
    rw [show i + 1 + j = (i + j) + 1 by omega]
    show (if T v = true then v else wkT T nx (i + j) (nx v)) = wkT T nx j (if T v = true then v else wkT T nx i (nx v))
    by_cases h : T v = true
    · rw [if_pos h, if_pos h, wkT_t h]
    · rw [if_neg h, if_neg h]; exact ih j _
theorem wkT_lt {T : Nat → Bool} {nx : Nat → Nat} {n : Nat} (hn : ∀ v, v < n → T v = false → nx v < n) : ∀ (k v : Nat), v < n → wkT T nx k v < n := by
  intro k
  induction k with
  | zero => intro v hv; exact hv
  | succ k ih =>
    intro v hv
    unfold wkT
    cases h : T v with
    | true => rw [if_pos rfl]; exact hv
    | false => rw [if_neg (by decide)]; exact ih _ (hn v hv h)
/-- a walk that comes to a stop does so within as many steps as there are nodes -/
theorem wkT_b {T : Nat → Bool} {nx : Nat → Nat} {n m v : Nat} (hn : ∀ v, v < n → T v = false → nx v < n) (hv : v < n) (h : T (wkT T nx m v) = true) : ∃ k, k < n ∧ T (wkT T nx k v) = true := by
  obtain ⟨k, -, hk, hmin⟩ := lst (P := fun k => T (wkT T nx k v) = true) m h
  have inj : ∀ i j, i < j → j < k + 1 → wkT T nx i v ≠ wkT T nx j v := by
    intro i j hij hj e
    have h1 := wkT_add (T := T) (nx := nx) i (k - j) v
    have h2 := wkT_add (T := T) (nx := nx) j (k - j) v
    rw [e, ← h2, show j + (k - j) = k by omega] at h1
    refine hmin (i + (k - j)) (by omega) ?_
    rw [h1]; exact hk
  have := pg_le n (k + 1) (fun i => wkT T nx i v) (fun i _ => wkT_lt hn i v hv) (fun a b ha hb hab => by
    rcases Nat.lt_trichotomy a b with q | q | q
    · exact absurd hab (inj a b q hb)
    · exact q
    · exact absurd hab.symm (inj b a q ha))
  exact ⟨k, by omega, hk⟩
theorem wkT_m {T : Nat → Bool} {nx : Nat → Nat} {k v : Nat} (h : T (wkT T nx k v) = true) {k' : Nat} (hk : k ≤ k') : wkT T nx k' v = wkT T nx k v := by
  rw [show k' = k + (k' - k) by omega, wkT_add, wkT_t h]
def rtT (G : Gr) : Nat → Bool := fun v => decide (v = gr G)
theorem rtT_t {v : Nat} : rtT G v = true ↔ v = gr G := decide_eq_true_iff
theorem upN_wk : ∀ (k v : Nat), upN G f k v = wkT (rtT G) (fun v => gt G (f v)) k v := by
  intro k
  induction k with
  | zero => intro v; rfl
  | succ k ih =>
    intro v
    unfold upN wkT
    by_cases e : v = gr G
    · rw [if_pos e, if_pos (rtT_t.mpr e)]
    · rw [if_neg e, if_neg (fun q => e (rtT_t.mp q))]; exact ih _
theorem ch_nx (hG : okG G) (hc : isCh G f) : ∀ v, v < gn G → rtT G v = false → gt G (f v) < gn G := fun v hv h => (hG.2.1 _ (hc v hv (fun q => by rw [rtT_t.mpr q] at h; cases h)).1).1
theorem upN_b (hG : okG G) (hc : isCh G f) {m v : Nat} (hv : v < gn G) (h : upN G f m v = gr G) : upN G f (gn G) v = gr G := by
  rw [upN_wk] at h ⊢
  obtain ⟨k, hk, hT⟩ := wkT_b (T := rtT G) (nx := fun v => gt G (f v)) (m := m) (ch_nx hG hc) hv (rtT_t.mpr h)
  rw [wkT_m hT (by omega)]
  exact rtT_t.mp hT
/-- an arborescence is a choice all of whose walks leave -/
theorem ar_acy (hG : okG G) (hc : isCh G f) : isAr G f ↔ Acy (tgv G) (Pk (gn G)) f := by
  have hgn := hG.1.2.1
  have out : Rch (tgv G) (Pk (gn G)) f 8 8 := (Rch_out (Pk_f.mpr hgn)).mpr rfl
  constructor
  · rintro ⟨-, h⟩ u hu
    rw [Pk_t] at hu
    have key : ∀ (k u : Nat), u < gn G → upN G f k u = gr G → ∃ z, Rch (tgv G) (Pk (gn G)) f u z := by
      intro k
      induction k with
      | zero =>
        intro u hu h
        have h : u = gr G := h
        refine ⟨8, (Rch_in (Pk_t.mpr hu)).mpr ?_⟩
        unfold tgv; rw [if_pos h]; exact out
      | succ k ih =>
        intro u hu h
        unfold upN at h
        by_cases e : u = gr G
        · refine ⟨8, (Rch_in (Pk_t.mpr hu)).mpr ?_⟩
          unfold tgv; rw [if_pos e]; exact out
        · rw [if_neg e] at h
          by_cases e2 : gt G (f u) = gr G
          · refine ⟨8, (Rch_in (Pk_t.mpr hu)).mpr ?_⟩
            unfold tgv; rw [if_neg e, if_pos e2]; exact out
          · obtain ⟨z, hz⟩ := ih _ (hG.2.1 _ (hc u hu e).1).1 h
            refine ⟨z, (Rch_in (Pk_t.mpr hu)).mpr ?_⟩
            unfold tgv; rw [if_neg e, if_neg e2]; exact hz
    exact key _ u hu (h u hu)
  · intro h
    refine ⟨hc, fun u hu => ?_⟩
    have key : ∀ (m u : Nat), u < gn G → Pk (gn G) (itr (tgv G) (Pk (gn G)) f m u) = false → ∃ k, upN G f k u = gr G := by
      intro m
      induction m with
      | zero => intro u hu h; rw [show itr (tgv G) (Pk (gn G)) f 0 u = u from rfl, Pk_f] at h; omega
      | succ m ih =>
        intro u hu h
        by_cases e : u = gr G
        · exact ⟨0, e⟩
        · by_cases e2 : gt G (f u) = gr G
          · refine ⟨1, ?_⟩
            unfold upN; rw [if_neg e]; exact e2
          · have hs : stp (tgv G) (Pk (gn G)) f u = gt G (f u) := by rw [stp_in (Pk_t.mpr hu)]; unfold tgv; rw [if_neg e, if_neg e2]
            have h : Pk (gn G) (itr (tgv G) (Pk (gn G)) f m (stp (tgv G) (Pk (gn G)) f u)) = false := h
            rw [hs] at h
            obtain ⟨k, hk⟩ := ih _ (hG.2.1 _ (hc u hu e).1).1 h
            exact ⟨k + 1, by unfold upN; rw [if_neg e]; exact hk⟩
    obtain ⟨z, m, h1, h2⟩ := h u (Pk_t.mpr hu)
    obtain ⟨k, hk⟩ := key m u hu (by rw [h1]; exact h2)
    exact upN_b hG hc hu hk
theorem okv_ch {n : Nat} (h : ∀ u, 0 ≤ u → u < 0 + gn G → f u < n ∧ okv G al u (f u) = true) : isCh G f := fun v hv hr => by
  have := (okv_n hr).mp (h v (by omega) (by omega)).2
  exact ⟨this.1, this.2.2⟩
theorem Sm_ok {φ : (Nat → Nat) → Int} (h : ∀ v a, a < N → ok v a = ok' v a) : ∀ (n v : Nat) (f : Nat → Nat), Sm ok N φ n v f = Sm ok' N φ n v f := by
  intro n
  induction n with
  | zero => intro v f; rfl
  | succ n ih =>
    intro v f
    refine sZ_c N (fun a ha => ?_)
    show (if ok v a = true then Sm ok N φ n (v + 1) (fset f v a) else 0) = (if ok' v a = true then Sm ok' N φ n (v + 1) (fset f v a) else 0)
    rw [h v a ha, ih]
/-- all of them -/
theorem cnt_all (hG : okG G) (hal : ∀ a, a < gm G → al a = true) : ((enF G (lfC G none) (gn G) 0 f00 0 : Nat) : Int) = eF (okv G al) 33 (tgv G) (gn G) := by
  rw [en_cnt hG.1.2.2.2]
  show (0 : Int) + _ = _
  rw [Int.zero_add]
  unfold eF
  rw [Sm_ok (ok' := okv G al) (fun v a _ => by
    unfold okv
    by_cases e : v = gr G
    · rw [if_pos e, if_pos e]
    · rw [if_neg e, if_neg e]
      by_cases e2 : a < gm G
      · rw [hal a e2]
      · rw [decide_eq_false e2, Bool.false_and, Bool.false_and, Bool.false_and, Bool.false_and])]
  refine Sm_cv _ _ _ (fun f' h1 _ => ind_c ?_)
  have hc := okv_ch h1
  rw [← ar_acy hG hc]
  exact ⟨fun q => q.1, fun q => ⟨q, trivial⟩⟩
/-- one node's choice is fixed -/
theorem Sm_res {φ : (Nat → Nat) → Int} {h a : Nat} (hk : ∀ u e, ok' u e = true ↔ ok u e = true ∧ (u = h → e = a)) : ∀ (n v : Nat) (f : Nat → Nat), h < v + n → (h < v → f h = a) → Sm ok N (fun f => if f h = a then φ f else 0) n v f = Sm ok' N φ n v f := by
  intro n
  induction n with
  | zero => intro v f h1 h2; show (if f h = a then φ f else 0) = φ f; rw [if_pos (h2 (by omega))]
  | succ n ih =>
    intro v f h1 h2
    refine sZ_c N (fun e he => ?_)
    show (if ok v e = true then Sm ok N (fun f => if f h = a then φ f else 0) n (v + 1) (fset f v e) else 0) = (if ok' v e = true then Sm ok' N φ n (v + 1) (fset f v e) else 0)
    by_cases c : ok v e = true
    · rw [if_pos c]
      by_cases c2 : v = h → e = a
      · rw [if_pos ((hk v e).mpr ⟨c, c2⟩)]
        refine ih (v + 1) _ (by omega) (fun hv => ?_)
        by_cases ev : v = h
        · rw [ev, fset_s]; exact c2 ev
        · rw [fset_n _ _ (fun q => ev q.symm)]; exact h2 (by omega)
      · rw [if_neg (fun q => c2 ((hk v e).mp q).2)]
        have hv : v = h := Classical.byContradiction (fun q => c2 (fun z => absurd z q))
        have he : e ≠ a := fun q => c2 (fun _ => q)
        rw [Sm_c' (ψ := fun f => 0 * (fun _ => (0 : Int)) f) n (v + 1) _ (fun f' hf' => by
          show (if f' h = a then φ f' else 0) = 0 * 0
          rw [if_neg (by rw [hf' h (by omega), ← hv, fset_s]; exact he)]; rfl), Sm_mul, Int.zero_mul]
    · rw [if_neg c, if_neg (fun q => c ((hk v e).mp q).1)]
theorem has_one (hc : isCh G f) {a : Nat} (ha : a < gm G) (hG : okG G) : hasP G (some a) f (gn G) ↔ gh G a ≠ gr G ∧ f (gh G a) = a := by
  constructor
  · rintro ⟨v, h1, h2, h3⟩
    have := (hc v h1 h2).2
    rw [h3] at this
    rw [this]; exact ⟨h2, h3⟩
  · rintro ⟨h1, h2⟩
    exact ⟨gh G a, (hG.2.1 a ha).2.1, h1, h2⟩
theorem cnt_with (hG : okG G) {a : Nat} (ha : a < gm G) (hr : gh G a ≠ gr G) (hal : ∀ b, b < gm G → al b = alR G a b) : ((enF G (lfC G (some a)) (gn G) 0 f00 0 : Nat) : Int) = eF (okv G al) 33 (tgv G) (gn G) := by
  rw [en_cnt hG.1.2.2.2]
  show (0 : Int) + _ = _
  rw [Int.zero_add]
  unfold eF
  have hh := (hG.2.1 a ha).2.1
  rw [← Sm_res (ok := okv G (fun _ => true)) (ok' := okv G al) (h := gh G a) (a := a) (φ := fun f => ind (Acy (tgv G) (Pk (gn G)) f)) (fun u e => by
    by_cases c : u = gr G
    · subst c
      rw [okv_r, okv_r]
      exact ⟨fun q => ⟨q, fun z => absurd z.symm hr⟩, fun q => q.1⟩
    · rw [okv_n c, okv_n c]
      constructor
      · rintro ⟨q1, q2, q3⟩
        refine ⟨⟨q1, rfl, q3⟩, fun z => ?_⟩
        rw [hal e q1] at q2
        rcases of_decide_eq_true q2 with w | w
        · exact w
        · exact absurd (q3.trans z) w
      · rintro ⟨⟨q1, -, q3⟩, q4⟩
        refine ⟨q1, ?_, q3⟩
        rw [hal e q1]
        refine decide_eq_true ?_
        by_cases z : u = gh G a
        · exact Or.inl (q4 z)
        · exact Or.inr (fun w => z (q3.symm.trans w))) (gn G) 0 f00 (by omega) (fun z => absurd z (Nat.not_lt_zero _))]
  refine Sm_cv _ _ _ (fun f' h1 _ => ?_)
  have hc := okv_ch h1
  by_cases c : f' (gh G a) = a
  · rw [if_pos c]
    refine ind_c ?_
    rw [← ar_acy hG hc]
    exact ⟨fun q => q.1, fun q => ⟨q, (has_one hc ha hG).mpr ⟨hr, c⟩⟩⟩
  · rw [if_neg c, ind_F (fun q => c ((has_one hc ha hG).mp q.2).2)]
theorem cnt_root (hG : okG G) {a : Nat} (ha : a < gm G) (hr : gh G a = gr G) : enF G (lfC G (some a)) (gn G) 0 f00 0 = 0 := by
  have h := en_cnt (G := G) (o := some a) hG.1.2.2.2 (gn G) 0 f00 0
  have e : Sm (okv G (fun _ => true)) 33 (fun f => ind (isAr G f ∧ hasP G (some a) f (gn G))) (gn G) 0 f00 = Sm (okv G (fun _ => true)) 33 (fun f => 0 * (fun _ => (0 : Int)) f) (gn G) 0 f00 := Sm_cv _ _ _ (fun f' h1 _ => by
    rw [ind_F (fun q => ((has_one (okv_ch h1) ha hG).mp q.2).1 hr)]; rfl)
  rw [e, Sm_mul, Int.zero_mul] at h
  omega
end CT
