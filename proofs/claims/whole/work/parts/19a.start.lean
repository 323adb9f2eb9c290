/-! THE CLAIM'S START out of one run of the small machine -/
def R_law : String := "ArborescenceFinderLaw"
def lw_P (b : Addr) (xs : List Int32) (args : Array Value) (s : State) : Prop := args = #[.ref b] ∧ s.IntsAt b xs ∧ xs.length ≤ 2048 ∧ (Jvm.Cond.and given_1 narrow_1).before args s = true
def lw_Q (_ : Array Value) (s : State) (o : Outcome) (t : State) : Prop := o = .returned (some (.int 1)) ∧ Framed s o t [] 600000 7302249
def lw_Z (below : List Frame) (a : Array Value) (s : State) : State → Prop := fun t => ∃ o, t.status = .running ∧ Ended t below o ∧ lw_Q a s o t
/-- the law's own end, with 1 on the stack, nothing written that was there before, its room as the claim has it -/
theorem lw_ret {p : Program} {l : Launch} {e : Env} {s : State} {m : MethodId} {below : List Frame} {meth : Method} {c : Code} {b : Nat} (hx : p.tables.exec = Jvm.exec) (hb : c.code = code) (hr : meth.sig.returnType = ret) (hlocks : meth.locks = false) {pc : Nat} {H : Heap} {ls : Array Slot} (hdg : decode code pc = .ok (.ireturn, 1)) : W p l e room_1 s m #[Value.ref b] below meth c H [] 600000 7302249 (lw_Z below #[Value.ref b] s) (F0 m pc ls [.int 1]) := by
  intro T hT X
  obtain ⟨fs, hret, hrun, hended, hW, hframe⟩ := X.leave (v := some (.int 1)) (hlocks := hlocks) (fun h => by rw [hr] at h; cases h)
  have hmeth' : T.vm.method? m = some meth := X.method'
  refine ⟨T.setFrames fs, ?_, .returned (some (.int 1)), hrun, hended, rfl, ⟨_, rfl⟩, hW, hframe⟩
  jvm_step X.here [X.here.top, hx, hb, hdg, hmeth', hr, ret, narrow_b1]
  (try refine ⟨rfl, ?_⟩); (try refine ⟨rfl, ?_⟩)
  first | (intro acts; rw [hret _ acts rfl rfl rfl]) | rw [hret _ _ rfl rfl rfl]
  exact Steps.refl _
/-- what holds at the law's entry: the machine, the code, the tables' words (any of lw_tbl by 'hts w (by decide +kernel)'), the script of L ints xs at the cell b, what the Statement gives of the start (any of its parts by flat_of_before) -/
def lw_At (p : Program) (s : State) (m : MethodId) (meth : Method) (c : Code) (b L : Nat) (xs : Nat → Int32) : Prop :=
  p.tables.exec = Jvm.exec ∧ c.code = code ∧ meth.sig.returnType = ret ∧ c.maxLocals = 4 ∧ s.vm.findClass R_law = some m.cls ∧ (∀ w ∈ lw_tbl, w.before #[Value.ref b] s = true) ∧ va_X b L xs s s.heap ∧ b < s.heap.size ∧ meth.locks = false ∧ (Jvm.Cond.and given_1 narrow_1).before #[Value.ref b] s = true
/-- the small machine's start: the script alone -/
def am_S0 (L : Nat) : am_S := [(20, L, fun _ => 0)]
def am_I0 (xs : Nat → Int32) : am_I := fun a j => if a = 0 then xs j else 0
def am_J0 : am_J := fun _ _ => 0
/-- what is to be shown of the small machine -/
def am_LawOK : Prop := ∀ (L : Nat) (xs : Nat → Int32), L ≤ 2048 → am_T 40 185 0 [some (.ref 0), none, none, none] [] (am_S0 L) (am_I0 xs) am_J0 (fun r S' _ _ => r = some (.int 1) ∧ S'.length ≤ 1000 ∧ am_nS S' ≤ 100000)
theorem am_tysOf {s : State} {a : Array Value} (hts : ∀ w ∈ lw_tbl, w.before a s = true) : ∃ cA : Nat → ClassId, ∀ (k : Nat) (q : ClassId × FieldType), (am_tys cA)[k]? = some q → ArrOfT s q.1 q.2 ∧ va_RA s q.1 q.2 := by
  have prim : ∀ t : FieldType, (∀ C, t ≠ .object C) → (Cond.arrayClass t).before a s = true → ∃ c : ClassId, ArrOfT s c t ∧ va_RA s c t := by
    intro t ho h
    obtain ⟨c, k, comp, h1, h2, h3⟩ := Cond.arrayClass_spec h
    refine ⟨c, fun N z => ⟨(fun q hq => by cases hq), k, h2, comp, h3⟩, ?_⟩
    cases t <;> first | exact h1 | exact absurd rfl (ho _)
  obtain ⟨c20, h20⟩ := prim .int (fun _ h => by cases h) (hts _ am_w_int)
  obtain ⟨c21, h21⟩ := prim .boolean (fun _ h => by cases h) (hts _ am_w_boolean)
  obtain ⟨c22, h22⟩ := prim .char (fun _ h => by cases h) (hts _ am_w_char)
  obtain ⟨c23, h23⟩ := prim .long (fun _ h => by cases h) (hts _ am_w_long)
  obtain ⟨comp24, c24, k24, e1, e2, e3, e4, e5⟩ := Cond.arrayOver_spec (hts _ am_w_ovS)
  obtain ⟨comp25, c25, k25, f1, f2, f3, f4, f5⟩ := arrayOverA_spec (hts _ am_w_ovJ)
  refine ⟨fun k => if k = 20 then c20 else if k = 21 then c21 else if k = 22 then c22 else if k = 23 then c23 else if k = 24 then c24 else c25, fun k q hq => ?_⟩
  match k, hq with
  | 0, hq => cases hq; exact h20
  | 1, hq => cases hq; exact h21
  | 2, hq => cases hq; exact h22
  | 3, hq => cases hq; exact h23
  | 4, hq => cases hq; exact ⟨fun N z => ⟨(fun q hq => by cases hq), k24, e3, comp24, e4⟩, k24, comp24, e3, e4, e1, e5⟩
  | 5, hq => cases hq; exact ⟨fun N z => ⟨(fun q hq => by cases hq), k25, f3, comp25, f4⟩, f5⟩
  | k + 6, hq => cases hq
theorem am_clsOf {s : State} {a : Array Value} (hts : ∀ w ∈ lw_tbl, w.before a s = true) : ∃ D : va_G, ∀ (c : Nat) (q : vw_C), am_cl[c]? = some q → u_Kn s q.1 q.2.1 q.2.2 (D.1 c) (D.2 c) := by
  have hts' : ∀ w ∈ am_tb, w.before a s = true := fun w hw => hts w (List.mem_filter.mp hw).1
  have each : ∀ i : Nat, ∃ (cC : ClassId) (iS : Nat → Nat), i < 10 → u_Kn s (am_cn i) (am_TX i) (am_nf i) cC iS := by
    intro i
    by_cases h : i < 10
    · obtain ⟨cC, iS, g⟩ := u_known hts' (am_lay_in h) (hts' _ (am_ins_in h))
      exact ⟨cC, iS, fun _ => g⟩
    · exact ⟨0, fun _ => 0, fun g => absurd g h⟩
  refine ⟨(fun i => (each i).choose, fun i => (each i).choose_spec.choose), fun c q hq => ?_⟩
  have hc : c < 10 := by
    have := (List.getElem?_eq_some_iff.mp hq).1
    simpa [am_cl] using this
  rw [am_cl_get hc] at hq
  cases hq
  exact (each c).choose_spec.choose_spec hc
theorem am_start {p : Program} {e : Env} {s : State} {m : MethodId} {below : List Frame} {meth : Method} {c : Code} (l : Launch) (hG : am_GrOK l) (hLaw : am_LawOK) {b L : Nat} {xs : Nat → Int32} (hL : L ≤ 2048) (C0 : lw_At p s m meth c b L xs) : W p l e room_1 s m #[Value.ref b] below meth c s.heap [] 0 0 (lw_Z below #[Value.ref b] s) (entryFrame m ([Value.ref b] : List Value).toArray 4) := by
  obtain ⟨hx, hb, hr, hml, hown, hts, hX, hbl, hlocks, hgv⟩ := C0
  obtain ⟨cA, hcA⟩ := am_tysOf hts
  obtain ⟨D, hD⟩ := am_clsOf hts
  obtain ⟨k, hrun⟩ := hLaw L xs hL
  obtain ⟨r, S1, I1, J1, hrun, rfl, hc1, hc2⟩ := (am_run_iff _ _ _ _ _ _ _ _ _ _).mp hrun
  have hsz : s.heap.size = (s.heap.size - 1) + 1 := by omega
  generalize hh : s.heap.size - 1 = h at hsz
  have ecv : ([Value.ref 0]).map (am_cv b h) = [Value.ref b] := rfl
  rw [← ecv, lg_entry_eq]
  refine am_so_run (D := D) (cA := cA) (b := b) (h := h) (L := L) (n0 := 1) (z0 := L) (d := 40) (y := 185) (S' := S1) (I' := I1) (J' := J1) (r := some (.int 1)) hG (am_met hG 40) ⟨hx, hb, hml, hown, fun w hw => hts w (List.mem_filter.mp hw).1, fun q => absurd q (by decide +kernel), by decide, by decide⟩ ⟨by decide, by decide⟩ hsz ?_ ?_ ?_ k 0 _ [] (am_S0 L) (am_I0 xs) am_J0 s.heap [] _ 0 0 hrun ⟨⟨hD, hcA⟩, ?_, va_S.rf, ?_, by omega, by omega, rfl, rfl, va_AO.of (hts _ am_w_ovS), ?_, fun w hw hn => ?_⟩ ?_ rfl ?_
  · show S1.length ≤ 1 + 600000; omega
  · show am_nS S1 ≤ L + 7302249; omega
  · intro H locs arr pc i st Wd hd hre
    have key : i = .ireturn ∧ st = [.int 1] := by
      cases i
      case ireturn =>
        refine ⟨rfl, ?_⟩
        simp only [am_re] at hre
        split at hre
        · cases hre; rfl
        · split at hre
          · cases hre; rfl
          · cases hre
        · cases hre
      case lreturn =>
        exfalso
        simp only [am_re] at hre
        split at hre
        · cases hre
        · cases hre
      case return_ =>
        exfalso
        simp only [am_re] at hre
        split at hre
        · cases hre
        · cases hre
      all_goals (exfalso; revert hre; simp [am_re])
    obtain ⟨rfl, rfl⟩ := key
    refine va_forget (fun q hq => ?_) ?_
    · have : h < q.base := Wd.2.2.1.2.2 q hq
      omega
    · refine W.widen (k := 600000) (n := 7302249) (by omega) (by omega) ?_
      exact lw_ret hx hb hr hlocks hd
  · intro k9 q hq
    cases hq
  · exact hX
  · exact hts _ am_w_ovJ
  · have := hts w hw
    cases w <;> first | exact va_Nw.of rfl this | (cases hn; done)
  · exact am_entry_LV (Nat.le_of_ble_eq_true rfl)
  · rfl
