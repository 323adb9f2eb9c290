/-! THE JAVA MACHINE FOLLOWS the small machine: the world of cells -/
def am_ad (b h k : Nat) : Nat := if k = 0 then b else h + k
def am_cv (b h : Nat) : Value → Value
  | .ref k => .ref (am_ad b h k)
  | v => v
def am_or (h k : Nat) : Option Nat := if k = 0 then none else some (h + k)
def am_fv (h : Nat) (S : am_S) (I : am_I) (J : am_J) (a ci j : Nat) : Value := match am_fty ci j with
  | 0 => .int (I a j)
  | 1 => .int (I a j)
  | 2 => .long (J a j)
  | _ => va_rf (am_or h (am_rf S a j))
def am_E (cA : Nat → ClassId) (h : Nat) (S : am_S) (I : am_I) (J : am_J) (a : Nat) : va_E :=
  if am_kd S a < 10 then .inr (am_kd S a, (List.range (am_nf (am_kd S a))).map (am_fv h S I J a (am_kd S a)))
  else if am_kd S a = 23 then .inl (cA 23, am_ln S a, .inr (.inl (J a)))
  else if am_kd S a = 24 ∨ am_kd S a = 25 then .inl (cA (am_kd S a), am_ln S a, .inr (.inr (.inr (.inr (fun j => am_or h (am_rf S a j))))))
  else .inl (cA (am_kd S a), am_ln S a, .inl (I a))
def am_W (cA : Nat → ClassId) (h : Nat) (S : am_S) (I : am_I) (J : am_J) : va_W := (List.range (S.length - 1)).map (fun i => (h + (i + 1), am_E cA h S I J (i + 1)))
def am_tys (cA : Nat → ClassId) : List (ClassId × FieldType) := [(cA 20, .int), (cA 21, .boolean), (cA 22, .char), (cA 23, .long), (cA 24, .object "ArborescenceFinder$State"), (cA 25, .array .long)]
theorem am_kd_lt {S : am_S} {a k : Nat} (h : am_kd S a = k) (hk : k ≠ 99) : a < S.length := by
  rcases Nat.lt_or_ge a S.length with g | g
  · exact g
  · exfalso; apply hk; rw [← h]; unfold am_kd; rw [List.getD_eq_getElem?_getD, List.getElem?_eq_none g]; rfl
theorem am_W_get (cA : Nat → ClassId) (h : Nat) (S : am_S) (I : am_I) (J : am_J) (i : Nat) : (am_W cA h S I J)[i]? = if i < S.length - 1 then some (h + (i + 1), am_E cA h S I J (i + 1)) else none := by
  unfold am_W
  rw [List.getElem?_map]
  by_cases g : i < S.length - 1
  · rw [if_pos g, List.getElem?_range g]; rfl
  · rw [if_neg g, List.getElem?_eq_none (by rw [List.length_range]; omega)]; rfl
theorem am_W_at (cA : Nat → ClassId) (h : Nat) {S : am_S} (I : am_I) (J : am_J) {a : Nat} (h0 : a ≠ 0) (hl : a < S.length) : (am_W cA h S I J)[a - 1]? = some (h + a, am_E cA h S I J a) := by
  rw [am_W_get, if_pos (by omega)]
  rw [show a - 1 + 1 = a by omega]
theorem am_W_len (cA : Nat → ClassId) (h : Nat) (S : am_S) (I : am_I) (J : am_J) : (am_W cA h S I J).length = S.length - 1 := by
  unfold am_W; simp
theorem am_W_D (cA : Nat → ClassId) (h : Nat) (S : am_S) (I : am_I) (J : am_J) : va_D (fun q => h < q) (am_W cA h S I J) := by
  constructor
  · intro i j p q hp hq e
    rw [am_W_get] at hp hq
    split at hp
    · split at hq
      · cases hp; cases hq
        have e : h + (i + 1) = h + (j + 1) := e
        omega
      · cases hq
    · cases hp
  · intro k q hq
    rw [am_W_get] at hq
    split at hq
    · cases hq
      show h < h + (k + 1)
      omega
    · cases hq
/-- one cell changed -/
theorem am_W_set (cA : Nat → ClassId) (h : Nat) {S S' : am_S} {I I' : am_I} {J J' : am_J} {a : Nat} (h0 : a ≠ 0) (hl : a < S.length) (hS : S'.length = S.length) (ho : ∀ a', a' ≠ a → am_E cA h S' I' J' a' = am_E cA h S I J a') : (am_W cA h S I J).set (a - 1) (h + a, am_E cA h S' I' J' a) = am_W cA h S' I' J' := by
  apply List.ext_getElem?
  intro i
  rw [List.getElem?_set, am_W_len, am_W_get, am_W_get, hS]
  by_cases g : a - 1 = i
  · subst g
    rw [if_pos rfl, if_pos (by omega), if_pos (by omega), show a - 1 + 1 = a by omega]
  · rw [if_neg g]
    by_cases g2 : i < S.length - 1
    · rw [if_pos g2, if_pos g2, ho (i + 1) (by omega)]
    · rw [if_neg g2, if_neg g2]
/-- a cell made -/
theorem am_W_app (cA : Nat → ClassId) (h : Nat) {S : am_S} {I I' : am_I} {J J' : am_J} {c : Nat × Nat × (Nat → Nat)} (hl : 0 < S.length) (ho : ∀ a, a < S.length → am_E cA h (S ++ [c]) I' J' a = am_E cA h S I J a) : am_W cA h S I J ++ [(h + S.length, am_E cA h (S ++ [c]) I' J' S.length)] = am_W cA h (S ++ [c]) I' J' := by
  apply List.ext_getElem?
  intro i
  rw [am_W_get, List.length_append, List.length_singleton]
  by_cases g : i < S.length - 1
  · rw [List.getElem?_append_left (by rw [am_W_len]; exact g), am_W_get, if_pos g, if_pos (by omega), ho (i + 1) (by omega)]
  · rw [List.getElem?_append_right (by rw [am_W_len]; omega), am_W_len]
    by_cases g2 : i = S.length - 1
    · subst g2
      rw [if_pos (by omega), show S.length - 1 - (S.length - 1) = 0 by omega, show S.length - 1 + 1 = S.length by omega]; rfl
    · rw [if_neg (by omega), List.getElem?_eq_none (by simp; omega)]
theorem am_kd_app {S : am_S} {c : List (Nat × Nat × (Nat → Nat))} {a : Nat} (h : a < S.length) : am_kd (S ++ c) a = am_kd S a ∧ am_ln (S ++ c) a = am_ln S a ∧ am_rf (S ++ c) a = am_rf S a := by
  have e : (S ++ c).getD a am_c0 = S.getD a am_c0 := by
    rw [List.getD_eq_getElem?_getD, List.getD_eq_getElem?_getD, List.getElem?_append_left h]
  refine ⟨by unfold am_kd; rw [e], by unfold am_ln; rw [e], ?_⟩
  funext k
  unfold am_rf; rw [e]
theorem am_kd_new {S : am_S} {c : Nat × Nat × (Nat → Nat)} : am_kd (S ++ [c]) S.length = c.1 ∧ am_ln (S ++ [c]) S.length = c.2.1 ∧ am_rf (S ++ [c]) S.length = c.2.2 := by
  have e : (S ++ [c]).getD S.length am_c0 = c := by
    rw [List.getD_eq_getElem?_getD, List.getElem?_append_right (Nat.le_refl _)]; simp
  refine ⟨by unfold am_kd; rw [e], by unfold am_ln; rw [e], ?_⟩
  funext k
  unfold am_rf; rw [e]
theorem am_sr_other {S : am_S} {a k r a' : Nat} (h : a' ≠ a) : am_kd (am_sr S a k r) a' = am_kd S a' ∧ am_ln (am_sr S a k r) a' = am_ln S a' ∧ am_rf (am_sr S a k r) a' = am_rf S a' := by
  have e : (am_sr S a k r).getD a' am_c0 = S.getD a' am_c0 := by
    unfold am_sr
    rw [List.getD_eq_getElem?_getD, List.getD_eq_getElem?_getD, List.getElem?_set_ne (Ne.symm h)]
  refine ⟨by unfold am_kd; rw [e], by unfold am_ln; rw [e], ?_⟩
  funext j
  unfold am_rf; rw [e]
theorem am_sr_same {S : am_S} {a k r : Nat} (h : a < S.length) : am_kd (am_sr S a k r) a = am_kd S a ∧ am_ln (am_sr S a k r) a = am_ln S a ∧ am_rf (am_sr S a k r) a = (fun j => if j = k then r else am_rf S a j) := by
  have e : (am_sr S a k r).getD a am_c0 = (am_kd S a, am_ln S a, fun j => if j = k then r else am_rf S a j) := by
    show (S.set a (am_kd S a, am_ln S a, fun j => if j = k then r else am_rf S a j)).getD a am_c0 = _
    rw [List.getD_eq_getElem?_getD, List.getElem?_set_self h]; rfl
  refine ⟨by show ((am_sr S a k r).getD a am_c0).1 = _; rw [e], by show ((am_sr S a k r).getD a am_c0).2.1 = _; rw [e], ?_⟩
  funext j
  show ((am_sr S a k r).getD a am_c0).2.2 j = _
  rw [e]
theorem am_sr_len {S : am_S} {a k r : Nat} : (am_sr S a k r).length = S.length := by unfold am_sr; simp
theorem am_up_ne {α : Type} {f : Nat → Nat → α} {a k b : Nat} {x : α} (h : b ≠ a) : am_up f a k x b = f b := by
  funext j; unfold am_up; rw [if_neg (fun q => h q.1)]
theorem am_up_eq {α : Type} {f : Nat → Nat → α} {a k : Nat} {x : α} : am_up f a k x a = fun j => if j = k then x else f a j := by
  funext j; unfold am_up
  by_cases g : j = k
  · rw [if_pos ⟨rfl, g⟩, if_pos g]
  · rw [if_neg (fun q => g q.2), if_neg g]
theorem am_row_ne {α : Type} {f : Nat → Nat → α} {a b : Nat} {g : Nat → α} (h : b ≠ a) : am_row f a g b = f b := by
  funext j; unfold am_row; rw [if_neg h]
theorem am_row_eq {α : Type} {f : Nat → Nat → α} {a : Nat} {g : Nat → α} : am_row f a g a = g := by
  funext j; unfold am_row; rw [if_pos rfl]
/-- a cell looks the same if what it is made of is -/
theorem am_E_congr (cA : Nat → ClassId) (h : Nat) {S S' : am_S} {I I' : am_I} {J J' : am_J} {a : Nat} (h1 : am_kd S' a = am_kd S a ∧ am_ln S' a = am_ln S a ∧ am_rf S' a = am_rf S a) (h2 : I' a = I a) (h3 : J' a = J a) : am_E cA h S' I' J' a = am_E cA h S I J a := by
  obtain ⟨e1, e2, e3⟩ := h1
  have ef : am_fv h S' I' J' a = am_fv h S I J a := by
    funext ci j; unfold am_fv; rw [h2, h3, e3]
  unfold am_E
  rw [e1, e2, e3, h2, h3, ef]
theorem am_map_set {α : Type} (n j : Nat) (f : Nat → α) (v : α) : ((List.range n).map f).set j v = (List.range n).map (fun i => if i = j then v else f i) := by
  apply List.ext_getElem?
  intro i
  rw [List.getElem?_set, List.getElem?_map, List.getElem?_map]
  by_cases g : i < n
  · rw [List.getElem?_range g]
    by_cases e : j = i
    · subst e; simp [g]
    · simp [e, Ne.symm e]
  · rw [List.getElem?_eq_none (by simpa using g)]
    by_cases e : j = i
    · subst e; simp [g]
    · simp [e]
theorem am_cl_get {ci : Nat} (h : ci < 10) : am_cl[ci]? = some (am_cn ci, am_TX ci, am_nf ci) := by
  unfold am_cl
  rw [List.getElem?_map, List.getElem?_range h]; rfl
theorem am_fl_ok {w k ci j : Nat} (h : am_fl w k = some (ci, j)) : ci < 10 ∧ j < am_nf ci ∧ Cond.fieldLink (am_cn w) k (am_cn ci) (am_TX ci j).2.1 (am_TX ci j).2.2.1 ∈ am_tb ∧ (am_TX ci j).1 = am_cn ci := by
  unfold am_fl at h
  cases hq : am_flds.find? (fun q => q.1 == w && q.2.1 == k) with
  | none => rw [hq] at h; cases h
  | some q =>
    rw [hq] at h
    obtain ⟨w', k', ci', j', pl⟩ := q
    have h' : (ci', j') = (ci, j) := Option.some.inj h
    cases h'
    have h1 := List.find?_some hq
    simp only [Bool.and_eq_true, beq_iff_eq] at h1
    obtain ⟨rfl, rfl⟩ := h1
    have h2 := List.all_eq_true.mp am_flds_ok _ (List.mem_of_find?_eq_some hq)
    have h2 := of_decide_eq_true h2
    exact ⟨h2.1, h2.2.1, am_in (List.mem_of_getElem? h2.2.2.1) rfl, h2.2.2.2⟩
theorem am_lay_in {i : Nat} (hi : i < 10) : ∀ w ∈ u_ws (am_cn i) (am_TX i) (am_nf i), w ∈ am_tb := by
  intro w hw
  unfold u_ws at hw
  obtain ⟨k, hk, rfl⟩ := List.mem_map.mp hw
  have h1 := List.all_eq_true.mp am_lay_ok i (List.mem_range.mpr hi)
  have h2 := of_decide_eq_true (List.all_eq_true.mp h1 k hk)
  refine am_in (List.mem_of_getElem? h2) ?_
  unfold u_lay
  split <;> rfl
theorem am_lc_ok {w k : Nat} {v : Int64} (h : am_lc w k = some v) : Cond.constantLong (am_cn w) k v ∈ am_tb := by
  unfold am_lc at h
  cases hq : am_lcs.find? (fun q => q.1 == w && q.2.1 == k) with
  | none => rw [hq] at h; cases h
  | some q =>
    rw [hq] at h
    obtain ⟨w', k', v', pl⟩ := q
    have h' : v' = v := Option.some.inj h
    subst h'
    have h1 := List.find?_some hq
    simp only [Bool.and_eq_true, beq_iff_eq] at h1
    obtain ⟨rfl, rfl⟩ := h1
    have h2 := of_decide_eq_true (List.all_eq_true.mp am_lcs_ok _ (List.mem_of_find?_eq_some hq))
    exact am_in (List.mem_of_getElem? h2) rfl
theorem am_ck_ok {w k ci : Nat} (h : am_ck w k = some ci) : ci < 10 ∧ Cond.classLink (am_cn w) k (am_cn ci) ∈ am_tb := by
  unfold am_ck at h
  cases hq : am_cls.find? (fun q => q.1 == w && q.2.1 == k) with
  | none => rw [hq] at h; cases h
  | some q =>
    rw [hq] at h
    obtain ⟨w', k', c', pl⟩ := q
    have h' : c' = ci := Option.some.inj h
    subst h'
    have h1 := List.find?_some hq
    simp only [Bool.and_eq_true, beq_iff_eq] at h1
    obtain ⟨rfl, rfl⟩ := h1
    have h2 := of_decide_eq_true (List.all_eq_true.mp am_cls_ok _ (List.mem_of_find?_eq_some hq))
    exact ⟨h2.1, am_in (List.mem_of_getElem? h2.2) rfl⟩
theorem am_iv_ok {w k d y : Nat} (h : am_iv w k = some (d, y)) : ∃ p i s, am_ivok (w, k, d, y, p, i, s) = true := by
  unfold am_iv at h
  cases hq : am_ivs.find? (fun q => q.1 == w && q.2.1 == k) with
  | none => rw [hq] at h; cases h
  | some q =>
    rw [hq] at h
    obtain ⟨w', k', d', y', p, i, s⟩ := q
    have h' : (d', y') = (d, y) := Option.some.inj h
    cases h'
    have h1 := List.find?_some hq
    simp only [Bool.and_eq_true, beq_iff_eq] at h1
    obtain ⟨rfl, rfl⟩ := h1
    exact ⟨p, i, s, List.all_eq_true.mp am_ivs_ok _ (List.mem_of_find?_eq_some hq)⟩
-- locals
def am_LV (b h : Nat) (arr : Array Slot) (nL : Nat) (ls : am_L) : Prop := arr.size = nL ∧ ls.length = nL ∧ lv_wf arr ∧ ∀ (i : Nat) (v : Value), ls[i]? = some (some v) → arr[i]? = some (.val (am_cv b h v))
def am_lv (b h : Nat) (ls : am_L) : List (Nat × Value) := (List.range ls.length).filterMap (fun i => (ls.getD i none).map (fun v => (i, am_cv b h v)))
theorem am_lv_mem {b h : Nat} {ls : am_L} {q : Nat × Value} : q ∈ am_lv b h ls ↔ ∃ v, ls[q.1]? = some (some v) ∧ q.2 = am_cv b h v := by
  unfold am_lv
  rw [List.mem_filterMap]
  constructor
  · rintro ⟨i, hi, e⟩
    cases hg : ls.getD i none with
    | none => rw [hg] at e; cases e
    | some v =>
      rw [hg] at e
      cases e
      refine ⟨v, ?_, rfl⟩
      have hl : i < ls.length := List.mem_range.mp hi
      rw [List.getD_eq_getElem?_getD, List.getElem?_eq_getElem hl] at hg
      rw [List.getElem?_eq_getElem hl]
      exact congrArg some hg
  · rintro ⟨v, h1, h2⟩
    have hl : q.1 < ls.length := (List.getElem?_eq_some_iff.mp h1).1
    refine ⟨q.1, List.mem_range.mpr hl, ?_⟩
    rw [List.getD_eq_getElem?_getD, h1]
    show some (q.1, am_cv b h v) = some q
    rw [← h2]
theorem am_LV.has {b h : Nat} {arr : Array Slot} {nL : Nat} {ls : am_L} (g : am_LV b h arr nL ls) : lv_has arr nL (am_lv b h ls) := by
  refine ⟨g.1, g.2.2.1, fun q hq => ?_⟩
  obtain ⟨v, h1, h2⟩ := am_lv_mem.mp hq
  rw [h2]
  exact g.2.2.2 _ _ h1
theorem am_LV.at {b h : Nat} {arr : Array Slot} {nL : Nat} {ls : am_L} (g : am_LV b h arr nL ls) {i : Nat} {v : Value} (e : am_ld ls i = some v) : arr[i]? = some (.val (am_cv b h v)) := by
  unfold am_ld at e
  apply g.2.2.2
  rw [List.getD_eq_getElem?_getD] at e
  cases hg : ls[i]? with
  | none => rw [hg] at e; cases e
  | some o => rw [hg] at e; exact congrArg some e
theorem am_cat (b h : Nat) (v : Value) : (am_cv b h v).category = v.category := by cases v <;> rfl
theorem am_st1_len {ls : am_L} {i : Nat} {v : Value} : (am_st1 ls i v).length = ls.length := by
  cases i with
  | zero => simp [am_st1]
  | succ j => simp [am_st1]
theorem am_st1_get {ls : am_L} {i : Nat} {v w : Value} {j : Nat} (h : (am_st1 ls i v)[j]? = some (some w)) : (j = i ∧ w = v) ∨ (j ≠ i ∧ ls[j]? = some (some w) ∧ ¬ (j + 1 = i ∧ w.category = 2)) := by
  by_cases e : j = i
  · left
    subst e
    refine ⟨rfl, ?_⟩
    cases j with
    | zero =>
      have hl : 0 < ls.length := by have := (List.getElem?_eq_some_iff.mp h).1; simpa [am_st1] using this
      unfold am_st1 at h
      rw [List.getElem?_set_self hl] at h
      cases h; rfl
    | succ j =>
      have hl : j + 1 < ls.length := by have := (List.getElem?_eq_some_iff.mp h).1; simpa [am_st1] using this
      unfold am_st1 at h
      rw [List.getElem?_set_self (by simpa using hl)] at h
      cases h; rfl
  · right
    refine ⟨e, ?_⟩
    cases i with
    | zero =>
      unfold am_st1 at h
      rw [List.getElem?_set_ne (Ne.symm e)] at h
      exact ⟨h, by omega⟩
    | succ i =>
      unfold am_st1 at h
      rw [List.getElem?_set_ne (Ne.symm e), List.getElem?_modify] at h
      by_cases g : i = j
      · subst g
        cases hg : ls[i]? with
        | none => rw [hg] at h; cases h
        | some o =>
          rw [hg] at h
          have h : (if i = i then am_clr o else o) = some w := Option.some.inj h
          rw [if_pos rfl] at h
          cases o with
          | none => cases h
          | some u =>
            cases u <;> first | cases h; done | (cases h; exact ⟨rfl, fun q => by cases q.2⟩)
      · have h2 : ls[j]? = some (some w) := by
          cases hg : ls[j]? with
          | none => rw [hg] at h; cases h
          | some o =>
            rw [hg] at h
            have h : (if i = j then am_clr o else o) = some w := Option.some.inj h
            rw [if_neg g] at h
            rw [h]
        exact ⟨h2, by omega⟩
theorem am_LV.st1 {b h : Nat} {arr arr' : Array Slot} {nL : Nat} {ls : am_L} {i : Nat} {v : Value} (g : am_LV b h arr nL ls) (g' : lv_has arr' nL ((i, am_cv b h v) :: (am_lv b h ls).filter (fun q => !(q.1 == i) && !(q.1 + 1 == i && q.2.category == 2)))) : am_LV b h arr' nL (am_st1 ls i v) := by
  refine ⟨g'.1, by rw [am_st1_len]; exact g.2.1, g'.2.1, fun j w hw => ?_⟩
  refine g'.2.2 (j, am_cv b h w) ?_
  rcases am_st1_get hw with ⟨rfl, rfl⟩ | ⟨h1, h2, h3⟩
  · exact List.mem_cons_self
  · refine List.mem_cons_of_mem _ (List.mem_filter.mpr ⟨am_lv_mem.mpr ⟨w, h2, rfl⟩, ?_⟩)
    simp only [am_cat]
    simp [h1]
    exact Decidable.not_and_iff_not_or_not.mp h3
theorem am_LV.st2 {b h : Nat} {arr arr' : Array Slot} {nL : Nat} {ls : am_L} {i : Nat} {v : Value} (g : am_LV b h arr nL ls) (g' : lv_has arr' nL ((i, am_cv b h v) :: (am_lv b h ls).filter (fun q => !(q.1 == i) && (!(q.1 == i + 1) && !(q.1 + 1 == i && q.2.category == 2))))) : am_LV b h arr' nL (am_st2 ls i v) := by
  refine ⟨g'.1, by unfold am_st2; rw [List.length_set, am_st1_len]; exact g.2.1, g'.2.1, fun j w hw => ?_⟩
  refine g'.2.2 (j, am_cv b h w) ?_
  unfold am_st2 at hw
  by_cases e : j = i + 1
  · subst e
    by_cases hl : i + 1 < (am_st1 ls i v).length
    · rw [List.getElem?_set_self hl] at hw; cases hw
    · rw [List.getElem?_eq_none (by simpa using hl)] at hw; cases hw
  · rw [List.getElem?_set_ne (Ne.symm e)] at hw
    rcases am_st1_get hw with ⟨rfl, rfl⟩ | ⟨h1, h2, h3⟩
    · exact List.mem_cons_self
    · refine List.mem_cons_of_mem _ (List.mem_filter.mpr ⟨am_lv_mem.mpr ⟨w, h2, rfl⟩, ?_⟩)
      simp only [am_cat]
      simp [h1, e]
      exact Decidable.not_and_iff_not_or_not.mp h3
/-- the context of a method -/
def am_Cx (p : Program) (s : State) (m : MethodId) (args : Array Value) (meth : Method) (c : Code) (R : Room) (y : Nat) : Prop :=
  p.tables.exec = Jvm.exec ∧ c.code = am_by y ∧ c.maxLocals = am_ml y ∧ s.vm.findClass (am_cn (am_ow y)) = some m.cls ∧ (∀ w ∈ am_tb, w.before args s = true) ∧ (am_isI y = true → meth.name = "<init>") ∧ 1 ≤ R.frames ∧ 64 ≤ R.locals
/-- the class of the arrays of arrays is there -/
def am_AOA (t : FieldType) (U : State) : Prop := (Cond.arrayOver (.array t)).before #[] U = true
theorem am_AOA.moved {t : FieldType} {u U : State} (hvm : u.vm.Alike U.vm) (h : am_AOA t u) : am_AOA t U := by
  obtain ⟨comp, c, k, h1, h2, h3, h4, h5⟩ := arrayOverA_spec h
  obtain ⟨k', hk', he⟩ := hvm.2.2 _ _ h3
  have hi : (U.vm.classes.findIdx? fun (x : Class) => match x.kind with | .array component _ => component == comp | _ => false) = some c := by
    refine Eq.trans (va_idx_bare U.vm comp).symm ?_
    first | rw [hvm.bare_eq] | rw [← hvm.bare_eq]
    exact Eq.trans (va_idx_bare u.vm comp) h2
  have hkind : k'.kind = .array comp (.array t) := by rw [he]; exact h4
  have f1 : U.vm.findClass (FieldType.array t).toString = some comp := by rw [hvm.findClass]; exact h1
  have f2 : U.vm.findClass ("[" ++ (FieldType.array t).toString) = some c := by rw [hvm.findClass]; exact h5
  unfold am_AOA Cond.before Cond.holds
  simp only [Cond.value]
  rw [f1, Option.bind_some]
  refine (congrArg (fun o : Option Nat => (o.bind (fun c => (U.vm.classes[c]?).map fun (k : Class) => match k.kind with | .array _ ty => decide (ty = FieldType.array t) && decide (U.vm.findClass ("[" ++ (FieldType.array t).toString) = some c) | _ => false) == some true)) hi).trans ?_
  simp [hk', hkind, f2]
/-- the words on nest mates' methods, which are carried beside the tables' -/
def am_isN (w : Cond) : Bool := match w with
  | .methodLinkNest _ _ _ _ => true
  | _ => false
def am_Ns (s : State) : Prop := ∀ w ∈ lw_tbl, am_isN w = true → va_Nw w s
theorem am_Ns.warm {s U : State} (hW : s.WarmedH U.vm) (h : am_Ns s) : am_Ns U := by
  intro w hw hn
  cases w <;> first | exact va_Nw.warmM hW (h _ hw rfl) | (cases hn; done)
theorem am_Ns.same {s U : State} (hv : s.vm = U.vm) (h : am_Ns s) : am_Ns U := by
  intro w hw hn
  cases w <;> first | exact va_tabs rfl hv (h _ hw rfl) | (cases hn; done)
/-- the world of a run -/
def am_Wd (D : va_G) (cA : Nat → ClassId) (b h L : Nat) (s : State) (S : am_S) (I : am_I) (J : am_J) (H : Heap) (locs : List Loc) : Prop :=
  va_K D am_cl (am_tys cA) s ∧ va_P D am_cl (am_W cA h S I J) H ∧ va_S (fun q => h < q) s.heap H locs ∧ va_X b L (I 0) s s.heap ∧ b ≤ h ∧ h < s.heap.size ∧ am_kd S 0 = 20 ∧ am_ln S 0 = L ∧ va_AO "ArborescenceFinder$State" s ∧ am_AOA .long s ∧ am_Ns s
