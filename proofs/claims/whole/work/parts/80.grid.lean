/-! the grid's making -/
section GD
theorem gd_outer (c : ClassId) (N h0 : Nat) : ∀ i, Jvm.Free.Multi.outerC c N h0 i = arrV c N (fun j => if j < i then .ref (h0 + 1 + j) else .null) := by
  intro i
  induction i with
  | zero =>
    have e : (fun j => if j < 0 then Value.ref (h0 + 1 + j) else Value.null) = fun _ => Value.null := by
      funext j; rw [if_neg (Nat.not_lt_zero j)]
    rw [e]
    exact arrV_new c N .null
  | succ i ih =>
    show (Jvm.Free.Multi.outerC c N h0 i).setSlot i (.ref (h0 + 1 + i)) = _
    rw [ih, arrV_store]
    congr 1
    funext j
    unfold updV
    by_cases e : j = i
    · subst e; rw [if_pos rfl, if_pos (by omega)]
    · rw [if_neg e]
      show (if j < i then Value.ref (h0 + 1 + j) else Value.null) = _
      by_cases e2 : j < i
      · rw [if_pos e2, if_pos (by omega)]
      · rw [if_neg e2, if_neg (by omega)]
theorem gd_inner (c : ClassId) (M : Nat) (dv : Value) : Jvm.Free.Multi.innerC c M dv = arrV c M (fun _ => dv) := arrV_new c M dv
theorem gd_len (S : am_S) (n k : Nat) : (am_grow S n k).length = S.length + 1 + n := by
  unfold am_grow
  rw [List.length_append, List.length_cons, List.length_replicate]; omega
theorem gd_nS (S : am_S) (n k : Nat) : am_nS (am_grow S n k) = am_nS S + (n + n * k) := by
  unfold am_grow
  rw [am_nS_app]
  congr 1
  unfold am_nS
  rw [List.map_cons, List.sum_cons, List.map_replicate, List.sum_replicate_nat]
theorem gd_in {n j : Nat} (c : Nat × Nat × (Nat → Nat)) (hj : j < n) : (List.replicate n c).getD j am_c0 = c := by
  rw [List.getD_eq_getElem?_getD, List.getElem?_replicate, if_pos hj]; rfl
theorem gd_at (S : am_S) (n k : Nat) : (am_grow S n k).getD S.length am_c0 = (25, n, fun i => if i < n then S.length + 1 + i else 0) := sh_at S _ 0
theorem gd_row (S : am_S) {n k j : Nat} (hj : j < n) : (am_grow S n k).getD (S.length + 1 + j) am_c0 = (23, k, fun _ => 0) := by
  have := sh_at S ((25, n, fun i => if i < n then S.length + 1 + i else 0) :: List.replicate n (23, k, fun _ => 0)) (j + 1)
  rw [show S.length + 1 + j = S.length + (j + 1) by omega]
  refine this.trans ?_
  show (List.replicate n (23, k, fun _ => 0)).getD j am_c0 = _
  exact gd_in _ hj
theorem cl_old {α : Type} (f : Nat → Nat → α) {a b : Nat} (z : α) (h : b < a) : am_clean f a z b = f b := by
  funext j; unfold am_clean; rw [if_neg (by omega)]
theorem cl_new {α : Type} (f : Nat → Nat → α) {a b : Nat} (z : α) (h : a ≤ b) : am_clean f a z b = fun _ => z := by
  funext j; unfold am_clean; rw [if_pos h]
theorem am_grOK (l : Launch) : am_GrOK l := by
  intro p e R s m args below meth c H locs cells slots Q cA D b h L y pc n0 S I J arr mm nn r Cx Wd hs0 hn0 hy hd hn hm hcell hslot kk
  have hx := Cx.1
  have hb := Cx.2.1
  have hown := Cx.2.2.2.1
  have hts := Cx.2.2.2.2.1
  obtain ⟨hK, hP, hS, hX, hbh, hhs, hk0, hL0, hO1, hO2, hO3⟩ := Wd
  have hl0 : 0 < S.length := am_kd_lt hk0 (by decide)
  refine am_size (fun hz => ?_)
  have hHs : H.size = h + S.length := by
    have h1 : h + S.length ≤ H.size := by
      by_cases e1 : S.length = 1
      · have := hS.1; omega
      · have h2 := (hP (S.length - 1 - 1) _ (am_W_at cA h I J (a := S.length - 1) (by omega) (by omega))).lt
        have h3 : h + (S.length - 1) < H.size := h2
        omega
    omega
  intro T hT X
  generalize hN : nn.toNatClampNeg = N at *
  generalize hM : mm.toNatClampNeg = M at *
  have hN1 : N < 100 := by rw [← hN]; show nn.toInt.toNat < 100; omega
  have hM1 : M < 100 := by rw [← hM]; show mm.toInt.toNat < 100; omega
  rw [gd_len] at hcell kk
  rw [gd_nS] at hslot kk
  have hnn : ¬ nn < 0 := fun z => by have := Int32.lt_iff_toInt_lt.mp z; have e0 : (0 : Int32).toInt = 0 := by decide
                                     omega
  have hmm : ¬ mm < 0 := fun z => by have := Int32.lt_iff_toInt_lt.mp z; have e0 : (0 : Int32).toInt = 0 := by decide
                                     omega
  have e7 : am_cn (am_ow y) = "ArborescenceFinder$TreeCounter" := by rw [hy]; rfl
  rw [e7] at hown
  have eS : "[" ++ (FieldType.array FieldType.long).toString = "[[J" := by decide
  obtain ⟨vm₁, cO, comp, hW, hfA, hfC, hO, hI, X1, step⟩ := X.multianewarray2F hx (own := "ArborescenceFinder$TreeCounter") (index := 9) (ty := .long) hown (by rw [eS]; exact hts _ (am_in am_w_clJ rfl)) hO2 (hts _ (am_in am_w_long rfl)) (g := F0 m pc arr (.int mm :: .int nn :: r)) rfl (by rw [hb]; exact hd) rfl hnn hmm (by rw [hN]; omega) (by rw [hM]; show M * 8 ≤ _; omega) (by rw [hM]; omega) rfl rfl (by rw [hN]; omega) (by rw [hN, hM]; omega)
  rw [hN, hM] at X1 step
  have eO : cO = cA 25 := Option.some.inj (hfA.symm.trans (hK.2 5 _ rfl).2)
  have eC : comp = cA 23 := Option.some.inj (hfC.symm.trans (hK.2 3 _ rfl).2)
  obtain ⟨f1, f2, f3, f4⟩ := Jvm.Free.Multi.fill_facts (T.setVm vm₁) cO comp N M (defaultValue .long) N
  have fo := fun (a : Addr) (ha : a < T.heap.size) => Jvm.Free.Multi.fill_old (T.setVm vm₁) cO comp N M (defaultValue .long) (a := a) ha N
  have fi := fun (j : Nat) (hj : j < N) => Jvm.Free.Multi.fill_inner (T.setVm vm₁) cO comp N M (defaultValue .long) N j hj
  have hTs : T.heap.size = h + S.length := by rw [hT]; exact hHs
  have hold : ∀ a : Nat, a < h + S.length → (Jvm.Free.Multi.fill (T.setVm vm₁) cO comp N M (defaultValue .long) N).heap[a]? = H[a]? := fun a ha => by
    rw [fo a (show a < T.heap.size by omega)]
    show T.heap[a]? = H[a]?
    rw [hT]
  have Wd' : am_Wd D cA b h L s (am_grow S N M) (am_clean I S.length 0) (am_clean J S.length 0) (Jvm.Free.Multi.fill (T.setVm vm₁) cO comp N M (defaultValue .long) N).heap locs := by
    refine ⟨hK, fun i q hq => ?_, ⟨?_, fun q hq hnq => ?_, hS.2.2⟩, by rw [cl_old I 0 hl0]; exact hX, hbh, hhs, ?_, ?_, hO1, hO2, hO3⟩
    · rw [am_W_get, gd_len] at hq
      by_cases hi : i < S.length + 1 + N - 1
      · rw [if_pos hi] at hq
        have hq : q = (h + (i + 1), am_E cA h (am_grow S N M) (am_clean I S.length 0) (am_clean J S.length 0) (i + 1)) := (Option.some.inj hq).symm
        rw [hq]
        by_cases h1 : i + 1 < S.length
        · have ho := hP i (h + (i + 1), am_E cA h S I J (i + 1)) (by rw [am_W_get, if_pos (by omega)])
          rw [am_E_congr cA h (S := S) (S' := am_grow S N M) (I := I) (J := J) (am_kd_app h1) (cl_old I 0 h1) (cl_old J 0 h1)]
          exact ho.kept (hold _ (by show h + (i + 1) < _; omega))
        · by_cases h2 : i + 1 = S.length
          · rw [h2]
            have ek : am_kd (am_grow S N M) S.length = 25 := by unfold am_kd; rw [gd_at]
            have el : am_ln (am_grow S N M) S.length = N := by unfold am_ln; rw [gd_at]
            have er : ∀ j, am_rf (am_grow S N M) S.length j = if j < N then S.length + 1 + j else 0 := fun j => by unfold am_rf; rw [gd_at]
            rw [am_E_ref ek (Or.inr rfl), el]
            show (Jvm.Free.Multi.fill (T.setVm vm₁) cO comp N M (defaultValue .long) N).heap[h + S.length]? = some (arrV (cA 25) N (fun j => va_rf (am_or h (am_rf (am_grow S N M) S.length j))))
            have f2' : (Jvm.Free.Multi.fill (T.setVm vm₁) cO comp N M (defaultValue .long) N).heap[h + S.length]? = some (Jvm.Free.Multi.outerC cO N (h + S.length) N) := by
              have f2 : (Jvm.Free.Multi.fill (T.setVm vm₁) cO comp N M (defaultValue .long) N).heap[T.heap.size]? = some (Jvm.Free.Multi.outerC cO N T.heap.size N) := f2
              rw [hTs] at f2; exact f2
            rw [f2', gd_outer, eO]
            congr 2
            funext j
            rw [er]
            by_cases c : j < N
            · rw [if_pos c, if_pos c]
              have ea : va_rf (am_or h (S.length + 1 + j)) = Value.ref (h + (S.length + 1 + j)) := by
                unfold am_or
                rw [if_neg (by omega)]; rfl
              rw [ea]
              exact congrArg Value.ref (show h + S.length + 1 + j = h + (S.length + 1 + j) by omega)
            · rw [if_neg c, if_neg c]; rfl
          · obtain ⟨j, hj⟩ : ∃ j, i + 1 = S.length + 1 + j := ⟨i - S.length, by omega⟩
            have hjN : j < N := by omega
            rw [hj]
            have ek : am_kd (am_grow S N M) (S.length + 1 + j) = 23 := by unfold am_kd; rw [gd_row S hjN]
            have el : am_ln (am_grow S N M) (S.length + 1 + j) = M := by unfold am_ln; rw [gd_row S hjN]
            rw [am_E_long ek, el, cl_new J 0 (by omega)]
            show (Jvm.Free.Multi.fill (T.setVm vm₁) cO comp N M (defaultValue .long) N).heap[h + (S.length + 1 + j)]? = some (arrV (cA 23) M (fun _ => .long 0))
            have fi' : (Jvm.Free.Multi.fill (T.setVm vm₁) cO comp N M (defaultValue .long) N).heap[T.heap.size + 1 + j]? = some (Jvm.Free.Multi.innerC comp M (defaultValue .long)) := fi j hjN
            have ei : Jvm.Free.Multi.innerC comp M (defaultValue .long) = arrV (cA 23) M (fun _ => .long 0) := by rw [gd_inner, eC]; rfl
            rw [hTs, ei] at fi'
            rw [show h + (S.length + 1 + j) = h + S.length + 1 + j by omega]
            exact fi'
      · rw [if_neg hi] at hq; cases hq
    · have f1 : (Jvm.Free.Multi.fill (T.setVm vm₁) cO comp N M (defaultValue .long) N).heap.size = T.heap.size + 1 + N := f1
      rw [f1, hTs]
      have := hS.1
      omega
    · rw [hold q (by have := hS.1; omega)]
      exact hS.2.1 q hq hnq
    · rw [show am_kd (am_grow S N M) 0 = am_kd S 0 from (am_kd_app hl0).1]; exact hk0
    · rw [show am_ln (am_grow S N M) 0 = am_ln S 0 from (am_kd_app hl0).2.1]; exact hL0
  obtain ⟨t, t1, t2⟩ := kk _ locs Wd' _ rfl (by
    rw [show cells + (S.length + 1 + N - S.length) = cells + 1 + N by omega, show slots + (am_nS S + (N + N * M) - am_nS S) = slots + N + N * M by omega]
    exact X1)
  refine ⟨t, step t ?_, t2⟩
  rw [am_ad_ne (by omega), ← hTs] at t1
  exact t1
end GD
