/-! steps that write or make cells -/
def am_nS (S : am_S) : Nat := (S.map (fun q => q.2.1)).sum
theorem am_tyk : ((List.range 10).all fun i => (List.range (am_nf i)).all fun k => match am_tyX i k with | .int => true | .boolean => true | .long => true | .object _ => true | .array _ => true | _ => false) = true := by decide +kernel
theorem am_sum_set {l : List Nat} : ∀ {a v : Nat}, l[a]? = some v → (l.set a v).sum = l.sum := by
  intro a v h
  have e : l.set a v = l := by
    apply List.ext_getElem?
    intro i
    rw [List.getElem?_set]
    by_cases g : a = i
    · subst g
      have := (List.getElem?_eq_some_iff.mp h).1
      rw [if_pos rfl, if_pos this, h]
    · rw [if_neg g]
  rw [e]
theorem am_nS_sr {S : am_S} {a k r : Nat} (h : a < S.length) : am_nS (am_sr S a k r) = am_nS S := by
  unfold am_nS am_sr
  rw [List.map_set]
  apply am_sum_set
  rw [List.getElem?_map, List.getElem?_eq_getElem h]
  show some _ = some _
  unfold am_ln
  rw [List.getD_eq_getElem?_getD, List.getElem?_eq_getElem h]; rfl
theorem am_nS_app {S T : am_S} : am_nS (S ++ T) = am_nS S + am_nS T := by unfold am_nS; rw [List.map_append, List.sum_append]
section AMM
variable {p : Program} {l : Launch} {e : Env} {R : Room} {s : State} {m : MethodId} {args : Array Value} {below : List Frame} {meth : Method} {c : Code} {H : Heap} {locs : List Loc} {cells slots : Nat} {Q : State → Prop}
variable {cA : Nat → ClassId} {D : va_G} {b h L y pc n n0 : Nat} {ls ls' : am_L} {st st' : List Value} {S S' : am_S} {I I' : am_I} {J J' : am_J} {arr : Array Slot} {pc' : Nat}
theorem am_size {g : JFrame} (k : H.size ≤ s.heap.size + cells → W p l e R s m args below meth c H locs cells slots Q g) : W p l e R s m args below meth c H locs cells slots Q g :=
  fun T hT X => k (by rw [← hT]; exact X.same.2.2.1) T hT X
/-- one cell rewritten -/
theorem am_Wd_put {a : Nat} {E : va_E} {H1 : Heap} {locs1 : List Loc} (Wd : am_Wd D cA b h L s S I J H locs) (h0 : a ≠ 0) (hl : a < S.length) (hS : S'.length = S.length) (ho : ∀ a', a' ≠ a → (am_kd S' a' = am_kd S a' ∧ am_ln S' a' = am_ln S a' ∧ am_rf S' a' = am_rf S a') ∧ I' a' = I a' ∧ J' a' = J a')
    (hE : am_E cA h S' I' J' a = E) (hP1 : va_P D am_cl ((am_W cA h S I J).set (a - 1) (h + a, E)) H1) (hS1 : va_S (fun q => h < q) s.heap H1 locs1) : am_Wd D cA b h L s S' I' J' H1 locs1 := by
  obtain ⟨hK, -, -, hX, hb, hs, hk, hL, hO1, hO2, hO3⟩ := Wd
  have e0 := ho 0 (Ne.symm h0)
  rw [← hE, am_W_set cA h h0 hl hS (fun a' ha' => am_E_congr cA h (ho a' ha').1 (ho a' ha').2.1 (ho a' ha').2.2)] at hP1
  exact ⟨hK, hP1, hS1, by rw [e0.2.1]; exact hX, hb, hs, by rw [e0.1.1]; exact hk, by rw [e0.1.2.1]; exact hL, hO1, hO2, hO3⟩
theorem am_new_q {q : Nat} {E : va_E} {H1 : Heap} (hl : 0 < S.length) (hP : va_P D am_cl (am_W cA h S I J ++ [(q, E)]) H1) (hD : va_D (fun q => h < q) (am_W cA h S I J ++ [(q, E)])) (hz : H1.size ≤ h + S.length + 1) : q = h + S.length := by
  have hlast : (am_W cA h S I J ++ [(q, E)])[S.length - 1]? = some (q, E) := by
    rw [List.getElem?_append_right (by rw [am_W_len]; omega), am_W_len]; simp
  have h1 : q < H1.size := (hP _ _ hlast).lt
  have h2 : h < q := hD.2 _ _ hlast
  rcases Nat.lt_or_ge q (h + S.length) with g | g
  · exfalso
    have hi : q - h - 1 < S.length - 1 := by omega
    have h3 : (am_W cA h S I J ++ [(q, E)])[q - h - 1]? = some (h + (q - h - 1 + 1), am_E cA h S I J (q - h - 1 + 1)) := by
      rw [List.getElem?_append_left (by rw [am_W_len]; exact hi), am_W_get, if_pos hi]
    have := hD.1 _ _ _ _ h3 hlast (by show h + (q - h - 1 + 1) = q; omega)
    omega
  · omega
/-- a cell made -/
theorem am_Wd_new {q : Nat} {E : va_E} {H1 : Heap} {locs1 : List Loc} {cl : Nat × Nat × (Nat → Nat)} (Wd : am_Wd D cA b h L s S I J H locs) (hE : am_E cA h (S ++ [cl]) (am_row I S.length (fun _ => 0)) (am_row J S.length (fun _ => 0)) S.length = E) (hP : va_P D am_cl (am_W cA h S I J ++ [(q, E)]) H1) (hD : va_D (fun q => h < q) (am_W cA h S I J ++ [(q, E)])) (hz : H1.size ≤ h + S.length + 1) (hS1 : va_S (fun q => h < q) s.heap H1 locs1) :
    q = h + S.length ∧ am_Wd D cA b h L s (S ++ [cl]) (am_row I S.length (fun _ => 0)) (am_row J S.length (fun _ => 0)) H1 locs1 := by
  obtain ⟨hK, -, -, hX, hb, hs, hk, hL, hO1, hO2, hO3⟩ := Wd
  have hl : 0 < S.length := am_kd_lt hk (by decide)
  have hq := am_new_q hl hP hD hz
  subst hq
  refine ⟨rfl, hK, ?_, hS1, ?_, hb, hs, ?_, ?_, hO1, hO2, hO3⟩
  · rw [← hE, am_W_app cA h hl (fun a ha => am_E_congr cA h (am_kd_app ha) (am_row_ne (by omega)) (am_row_ne (by omega)))] at hP
    exact hP
  · rw [am_row_ne (by omega)]; exact hX
  · rw [(am_kd_app hl).1]; exact hk
  · rw [(am_kd_app hl).2.1]; exact hL
theorem am_ini_in {i : Nat} (hi : i < 11) : Cond.initialized (am_cn i) ∈ am_tb := am_in (List.mem_of_getElem? (of_decide_eq_true (List.all_eq_true.mp am_ini_ok i (List.mem_range.mpr hi)))) rfl
theorem am_ins_in {i : Nat} (hi : i < 10) : Cond.instantiable (am_cn i) (am_nf i) ∈ am_tb := am_in (List.mem_of_getElem? (of_decide_eq_true (List.all_eq_true.mp am_ins_ok i (List.mem_range.mpr hi)))) rfl
theorem am_fv_une {a j a' ci : Nat} {x : Int32} (g : a' ≠ j) : am_fv h S (am_up I a j x) J a ci a' = am_fv h S I J a ci a' := by
  unfold am_fv
  rw [am_up_eq]
  simp only [if_neg g]
theorem am_fv_ueq {a j ci : Nat} {x : Int32} (g : am_fty ci j = 0 ∨ am_fty ci j = 1) : am_fv h S (am_up I a j x) J a ci j = .int x := by
  unfold am_fv
  rw [am_up_eq]
  rcases g with g | g <;> rw [g] <;> simp
/-- a field put: the object's row and its own list of values -/
theorem am_so_put {k ci j a : Nat} {v : Value} {r : List Value} {ty : FieldType} (Cx : am_Cx p s m args meth c R y) (Wd : am_Wd D cA b h L s S I J H locs) (hfl : am_fl (am_ow y) k = some (ci, j)) (hfo : am_fo y ci j = true) (hkd : am_kd S a = ci) (h0 : a ≠ 0) (hty : am_tyX ci j = ty) (hn : narrow ty v = v) (hfit : fits ty v = true) (hd : decode (am_by y) pc = .ok (.putfield k, 3))
    (hS : S'.length = S.length) (ho : ∀ a', a' ≠ a → (am_kd S' a' = am_kd S a' ∧ am_ln S' a' = am_ln S a' ∧ am_rf S' a' = am_rf S a') ∧ I' a' = I a' ∧ J' a' = J a') (hkd' : am_kd S' a = ci) (hfv : ∀ i, am_fv h S' I' J' a ci i = if i = j then v else am_fv h S I J a ci i)
    (kk : ∀ (H1 : Heap) (locs1 : List Loc), am_Wd D cA b h L s S' I' J' H1 locs1 → W p l e R s m args below meth c H1 locs1 cells slots Q (F0 m (pc + 3) arr r)) : W p l e R s m args below meth c H locs cells slots Q (F0 m pc arr (v :: .ref (h + a) :: r)) := by
  obtain ⟨hx, hb, -, hown, hts, hini, -, -⟩ := Cx
  have hK := Wd.1
  have hP := Wd.2.1
  have hS0 := Wd.2.2.1
  obtain ⟨hci, hj, hlink, hsame⟩ := am_fl_ok hfl
  have hlt : a < S.length := am_kd_lt hkd (by omega)
  have he := am_W_at cA h I J h0 hlt
  rw [am_E_obj hkd hci] at he
  have hE : am_E cA h S' I' J' a = .inr (ci, ((List.range (am_nf ci)).map (am_fv h S I J a ci)).set j v) := by
    rw [am_E_obj hkd' hci, am_map_set]
    congr 2
    apply List.map_congr_left
    intro i _
    exact hfv i
  have htyp := am_tyX_ok ci hci j hj
  rw [hty] at htyp
  have k2 : ∀ (H1 : Heap) (locs1 : List Loc), va_P D am_cl ((am_W cA h S I J).set (a - 1) (h + a, .inr (ci, ((List.range (am_nf ci)).map (am_fv h S I J a ci)).set j v))) H1 → va_D (fun q => h < q) ((am_W cA h S I J).set (a - 1) (h + a, .inr (ci, ((List.range (am_nf ci)).map (am_fv h S I J a ci)).set j v))) → va_S (fun q => h < q) s.heap H1 locs1 → W p l e R s m args below meth c H1 locs1 cells slots Q (F0 m (pc + 3) arr r) :=
    fun H1 locs1 g1 _ g3 => kk H1 locs1 (am_Wd_put Wd h0 hlt hS ho hE g1 g3)
  cases hf : (am_TX ci j).2.2.2 with
  | false =>
    exact va_put (D := D) (C := am_cn ci) (T := am_TX ci) (N := am_nf ci) (ref := am_cn ci) hx hb hts (am_lay_in hci) (am_tyX ci) (am_tyX_ok ci hci) (am_nmX ci hci) hown hK hP (am_W_D cA h S I J) hS0 (a - 1) he (am_cl_get hci) j hj (hts _ hlink) (fun z hz => by rw [hsame] at hz; exact hz) hf htyp hn hfit (by simpa using hj) hd k2
  | true =>
    unfold am_fo at hfo
    rw [hf] at hfo
    simp only [Bool.not_true, Bool.false_or, Bool.and_eq_true, beq_iff_eq] at hfo
    exact va_putF (D := D) (C := am_cn ci) (T := am_TX ci) (N := am_nf ci) (ref := am_cn ci) hx hb hts (am_lay_in hci) (am_tyX ci) (am_tyX_ok ci hci) (am_nmX ci hci) hown hK hP (am_W_D cA h S I J) hS0 (a - 1) he (am_cl_get hci) j hj (hts _ hlink) (fun z hz => by rw [hsame] at hz; exact hz) hf (hini hfo.1) (by rw [hsame, hfo.2]) htyp hn hfit (by simpa using hj) hd k2
theorem am_fty_of {ci j : Nat} : (am_fty ci j = 0 → am_tyX ci j = .int) ∧ (am_fty ci j = 1 → am_tyX ci j = .boolean) ∧ (am_fty ci j = 2 → am_tyX ci j = .long) := by
  unfold am_fty
  cases am_tyX ci j <;> simp
theorem am_fty_ref {ci j : Nat} (hci : ci < 10) (hj : j < am_nf ci) (h3 : am_fty ci j = 3) : ∃ ty, am_tyX ci j = ty ∧ (∀ a : Nat, narrow ty (.ref a) = .ref a ∧ fits ty (.ref a) = true) ∧ defaultValue ty = .null := by
  have h1 := List.all_eq_true.mp (List.all_eq_true.mp am_tyk ci (List.mem_range.mpr hci)) j (List.mem_range.mpr hj)
  refine ⟨_, rfl, ?_⟩
  unfold am_fty at h3
  revert h1 h3
  cases am_tyX ci j <;> simp [narrow, fits, defaultValue]
theorem am_bool_nar {x : Int32} (h : x = 0 ∨ x = 1) : narrow .boolean (.int x) = .int x ∧ fits .boolean (.int x) = true ∧ vp_nar .boolean x = x := by
  rcases h with rfl | rfl <;> exact ⟨by decide, by decide, by decide⟩
theorem am_char_nar {x : Int32} (h : (x.toUInt32 % 65536).toInt32 = x) : vp_nar .char x = x := by
  have := pk_vc x
  rw [h] at this
  exact this
set_option maxHeartbeats 4000000 in
theorem am_so_as {k t0 : Nat} {x : Int32} {a : Nat} {i : Int32} {r : List Value} (Wd : am_Wd D cA b h L s S I J H locs) (hk : k = 20 ∨ k = 21 ∨ k = 22) (hkd : am_kd S a = k) (h0 : a ≠ 0)
    (kk : ∀ (H1 : Heap) (locs1 : List Loc), am_Wd D cA b h L s S (am_up I a i.toNatClampNeg x) J H1 locs1 → W p l e R s m args below meth c H1 locs1 cells slots Q (F0 m (pc + 1) arr r)) :
    ∀ (H1 : Heap) (locs1 : List Loc), va_P D am_cl ((am_W cA h S I J).set (a - 1) (h + a, .inl (cA k, am_ln S a, .inl (upd (I a) i.toNatClampNeg x)))) H1 → va_D (fun q => h < q) ((am_W cA h S I J).set (a - 1) (h + a, .inl (cA k, am_ln S a, .inl (upd (I a) i.toNatClampNeg x)))) → va_S (fun q => h < q) s.heap H1 locs1 → W p l e R s m args below meth c H1 locs1 cells slots Q (F0 m (pc + 1) arr r) := by
  intro H1 locs1 g1 _ g3
  refine kk H1 locs1 (am_Wd_put Wd h0 (am_kd_lt hkd (by omega)) rfl (fun a' ha' => ⟨⟨rfl, rfl, rfl⟩, am_up_ne ha', rfl⟩) ?_ g1 g3)
  rw [am_E_int hkd hk, am_up_eq]
  rfl
theorem am_as_inv {k : Nat} (g : am_as ls st S I J k = some (ls', st', S', I', J')) : ∃ x i a, st = .int x :: .int i :: .ref a :: st' ∧ am_kd S a = k ∧ a ≠ 0 ∧ (0 ≤ i.toInt ∧ i.toInt < (am_ln S a : Int)) ∧ ls' = ls ∧ S' = S ∧ I' = am_up I a i.toNatClampNeg x ∧ J' = J := by
  unfold am_as at g
  split at g
  · split at g
    · next q => cases g; exact ⟨_, _, _, rfl, q.1, q.2.1, q.2.2, rfl, rfl, rfl, rfl⟩
    · cases g
  · cases g
set_option maxHeartbeats 4000000 in
theorem am_so_me {i : Instr} (Cx : am_Cx p s m args meth c R y) (Wd : am_Wd D cA b h L s S I J H locs) (hs0 : s.heap.size = h + n0) (hn0 : n0 + cells = S.length) (hcell : cells + (S'.length - S.length) ≤ R.cells) (hslot : slots + (am_nS S' - am_nS S) ≤ R.slots) (hd : decode (am_by y) pc = .ok (i, n)) (hn : am_isw i = true ∨ n = am_iln i) (hsz : arr.size = am_ml y) (g : am_me y (am_ow y) ls st S I J i = some (ls', st', S', I', J'))
    (kk : ∀ (H1 : Heap) (locs1 : List Loc), ls' = ls → am_Wd D cA b h L s S' I' J' H1 locs1 → W p l e R s m args below meth c H1 locs1 (cells + (S'.length - S.length)) (slots + (am_nS S' - am_nS S)) Q (F0 m (pc + n) arr (st'.map (am_cv b h)))) : W p l e R s m args below meth c H locs cells slots Q (F0 m pc arr (st.map (am_cv b h))) := by
  have hx := Cx.1
  have hb := Cx.2.1
  have hml := Cx.2.2.1
  have hown := Cx.2.2.2.1
  have hts := Cx.2.2.2.2.1
  have hfr := Cx.2.2.2.2.2.2.1
  have hlo := Cx.2.2.2.2.2.2.2
  have hK := Wd.1
  have hP := Wd.2.1
  have hS := Wd.2.2.1
  have hhs := Wd.2.2.2.2.2.1
  have hk0 := Wd.2.2.2.2.2.2.1
  have hl0 : 0 < S.length := am_kd_lt hk0 (by decide)
  have hA : ∀ q, s.heap.size ≤ q → (fun q => h < q) q := fun q hq => by show h < q; omega
  have hD := am_W_D cA h S I J
  have hlen1 : ∀ cl : Nat × Nat × (Nat → Nat), (S ++ [cl]).length - S.length = 1 := fun cl => by rw [List.length_append]; simp
  have hns1 : ∀ cl : Nat × Nat × (Nat → Nat), am_nS (S ++ [cl]) - am_nS S = cl.2.1 := fun cl => by rw [am_nS_app]; simp [am_nS]
  cases i
  case putfield k =>
    have hn : n = 3 := by simpa [am_isw, am_iln] using hn
    subst hn
    simp only [am_me, am_pf] at g
    split at g
    case h_2 => cases g
    case h_1 ci j hfl =>
    obtain ⟨hci, hj, -, -⟩ := am_fl_ok hfl
    split at g
    · next x a r =>
      split at g
      · next q =>
        cases g
        obtain ⟨q1, q2, q3, q4⟩ := q
        show W p l e R s m args below meth c H locs cells slots Q (F0 m pc arr (.int x :: .ref (am_ad b h a) :: st'.map (am_cv b h)))
        rw [am_ad_ne q3]
        have hfv : ∀ i, am_fv h S (am_up I a j x) J a ci i = if i = j then .int x else am_fv h S I J a ci i := by
          intro i
          by_cases e : i = j
          · subst e
            rw [if_pos rfl]
            exact am_fv_ueq (q4.elim Or.inl (fun q => Or.inr q.1))
          · rw [if_neg e]
            exact am_fv_une e
        have k3 : ∀ (H1 : Heap) (locs1 : List Loc), am_Wd D cA b h L s S (am_up I a j x) J H1 locs1 → W p l e R s m args below meth c H1 locs1 cells slots Q (F0 m (pc + 3) arr (st'.map (am_cv b h))) := fun H1 locs1 w => by
          have := kk H1 locs1 rfl w
          rw [Nat.sub_self, Nat.sub_self] at this
          exact this
        rcases q4 with q | q
        · exact am_so_put (ty := .int) Cx Wd hfl q1 q2 q3 (am_fty_of.1 q) rfl rfl hd rfl (fun a' ha' => ⟨⟨rfl, rfl, rfl⟩, am_up_ne ha', rfl⟩) q2 hfv k3
        · exact am_so_put (ty := .boolean) Cx Wd hfl q1 q2 q3 (am_fty_of.2.1 q.1) (am_bool_nar q.2).1 (am_bool_nar q.2).2.1 hd rfl (fun a' ha' => ⟨⟨rfl, rfl, rfl⟩, am_up_ne ha', rfl⟩) q2 hfv k3
      · cases g
    · next x a r =>
      split at g
      · next q =>
        cases g
        obtain ⟨q1, q2, q3, q4⟩ := q
        show W p l e R s m args below meth c H locs cells slots Q (F0 m pc arr (.long x :: .ref (am_ad b h a) :: st'.map (am_cv b h)))
        rw [am_ad_ne q3]
        have hfv : ∀ i, am_fv h S I (am_up J a j x) a ci i = if i = j then .long x else am_fv h S I J a ci i := by
          intro i
          unfold am_fv
          rw [am_up_eq]
          by_cases e : i = j
          · subst e
            rw [if_pos rfl, q4]
            simp
          · simp only [if_neg e]
        refine am_so_put (ty := .long) Cx Wd hfl q1 q2 q3 (am_fty_of.2.2 q4) rfl rfl hd rfl (fun a' ha' => ⟨⟨rfl, rfl, rfl⟩, rfl, am_up_ne ha'⟩) q2 hfv (fun H1 locs1 w => ?_)
        have := kk H1 locs1 rfl w
        rw [Nat.sub_self, Nat.sub_self] at this
        exact this
      · cases g
    · next v a r =>
      split at g
      · next q =>
        cases g
        obtain ⟨q1, q2, q3, q4, q5, q6⟩ := q
        show W p l e R s m args below meth c H locs cells slots Q (F0 m pc arr (.ref (am_ad b h v) :: .ref (am_ad b h a) :: st'.map (am_cv b h)))
        rw [am_ad_ne q3, am_ad_ne q5]
        have hlt : a < S.length := am_kd_lt q2 (by omega)
        have hfv : ∀ i, am_fv h (am_sr S a j v) I J a ci i = if i = j then .ref (h + v) else am_fv h S I J a ci i := by
          intro i
          unfold am_fv
          rw [(am_sr_same hlt).2.2]
          by_cases e : i = j
          · subst e
            rw [if_pos rfl, q4]
            simp [am_or, q5, va_rf]
          · simp only [if_neg e]
        obtain ⟨ty, t1, t2, -⟩ := am_fty_ref hci hj q4
        refine am_so_put (ty := ty) Cx Wd hfl q1 q2 q3 t1 (t2 _).1 (t2 _).2 hd am_sr_len (fun a' ha' => ⟨am_sr_other ha', rfl, rfl⟩) (by rw [(am_sr_same hlt).1]; exact q2) hfv (fun H1 locs1 w => ?_)
        have := kk H1 locs1 rfl w
        rw [am_sr_len, am_nS_sr hlt, Nat.sub_self, Nat.sub_self] at this
        exact this
      · cases g
    · cases g
  case iastore =>
    have hn : n = 1 := by simpa [am_isw, am_iln] using hn
    subst hn
    obtain ⟨x, i9, a, rfl, q1, q2, q3, rfl, rfl, rfl, rfl⟩ := am_as_inv g
    show W p l e R s m args below meth c H locs cells slots Q (F0 m pc arr (.int x :: .int i9 :: .ref (am_ad b h a) :: st'.map (am_cv b h)))
    rw [am_ad_ne q2]
    refine va_iast hx hb hK hP hD hS (a - 1) 0 (am_so_al (Or.inl rfl) q1 q2) rfl (vp_in_iff.mpr q3) hd (am_so_as (t0 := 0) Wd (Or.inl rfl) q1 q2 (fun H1 locs1 w => ?_))
    have := kk H1 locs1 rfl w
    rw [Nat.sub_self, Nat.sub_self] at this
    exact this
  case bastore =>
    have hn : n = 1 := by simpa [am_isw, am_iln] using hn
    subst hn
    simp only [am_me] at g
    split at g
    · next x0 r0 =>
      split at g
      · next q0 =>
        obtain ⟨x, i9, a, e9, q1, q2, q3, rfl, rfl, rfl, rfl⟩ := am_as_inv g
        cases e9
        show W p l e R s m args below meth c H locs cells slots Q (F0 m pc arr (.int x0 :: .int i9 :: .ref (am_ad b h a) :: st'.map (am_cv b h)))
        rw [am_ad_ne q2]
        have hv := (am_bool_nar q0).2.2
        have key := am_so_as (p := p) (l := l) (e := e) (R := R) (m := m) (args := args) (below := below) (meth := meth) (c := c) (cells := cells) (slots := slots) (Q := Q) (pc := pc) (arr := arr) (t0 := 0) (x := x0) (i := i9) (r := st'.map (am_cv b h)) Wd (Or.inr (Or.inl rfl)) q1 q2 (fun H1 locs1 w => by
          have := kk H1 locs1 rfl w
          rw [Nat.sub_self, Nat.sub_self] at this
          exact this)
        refine va_zast hx hb hK hP hD hS (a - 1) 1 (am_so_al (Or.inr (Or.inl rfl)) q1 q2) rfl (vp_in_iff.mpr q3) hd ?_
        rw [hv]
        exact key
      · cases g
    · cases g
  case castore =>
    have hn : n = 1 := by simpa [am_isw, am_iln] using hn
    subst hn
    simp only [am_me] at g
    split at g
    · next x0 r0 =>
      split at g
      · next q0 =>
        obtain ⟨x, i9, a, e9, q1, q2, q3, rfl, rfl, rfl, rfl⟩ := am_as_inv g
        cases e9
        show W p l e R s m args below meth c H locs cells slots Q (F0 m pc arr (.int x0 :: .int i9 :: .ref (am_ad b h a) :: st'.map (am_cv b h)))
        rw [am_ad_ne q2]
        have hv := am_char_nar q0
        have key := am_so_as (p := p) (l := l) (e := e) (R := R) (m := m) (args := args) (below := below) (meth := meth) (c := c) (cells := cells) (slots := slots) (Q := Q) (pc := pc) (arr := arr) (t0 := 0) (x := x0) (i := i9) (r := st'.map (am_cv b h)) Wd (Or.inr (Or.inr rfl)) q1 q2 (fun H1 locs1 w => by
          have := kk H1 locs1 rfl w
          rw [Nat.sub_self, Nat.sub_self] at this
          exact this)
        refine va_cast hx hb hK hP hD hS (a - 1) 2 (am_so_al (Or.inr (Or.inr rfl)) q1 q2) rfl (vp_in_iff.mpr q3) hd ?_
        rw [hv]
        exact key
      · cases g
    · cases g
  case lastore =>
    have hn : n = 1 := by simpa [am_isw, am_iln] using hn
    subst hn
    simp only [am_me] at g
    split at g
    · next x i9 a r =>
      split at g
      · next q =>
        cases g
        obtain ⟨q1, q2, q3⟩ := q
        have hlt : a < S.length := am_kd_lt q1 (by omega)
        have he := am_W_at cA h I J q2 hlt
        rw [am_E_long q1] at he
        show W p l e R s m args below meth c H locs cells slots Q (F0 m pc arr (.long x :: .int i9 :: .ref (am_ad b h a) :: st'.map (am_cv b h)))
        rw [am_ad_ne q2]
        refine va_last hx hb hK hP hD hS (a - 1) 3 he rfl (vp_in_iff.mpr q3) hd (fun H1 locs1 g1 _ g3 => ?_)
        have := kk H1 locs1 rfl (am_Wd_put Wd q2 hlt rfl (fun a' ha' => ⟨⟨rfl, rfl, rfl⟩, rfl, am_up_ne ha'⟩) (by rw [am_E_long q1, am_up_eq]; rfl) g1 g3)
        rw [Nat.sub_self, Nat.sub_self] at this
        exact this
      · cases g
    · cases g
  case aastore =>
    have hn : n = 1 := by simpa [am_isw, am_iln] using hn
    subst hn
    simp only [am_me] at g
    split at g
    · next v i9 a r =>
      split at g
      · next q =>
        cases g
        obtain ⟨q1, q2, q3, q4, q5⟩ := q
        have hlt : a < S.length := am_kd_lt q1 (by omega)
        have hltv : v < S.length := am_kd_lt q4 (by omega)
        have he := am_W_at cA h I J q2 hlt
        rw [am_E_ref q1 (Or.inl rfl)] at he
        have hev := am_W_at cA h I J q5 hltv
        rw [am_E_obj q4 (by omega)] at hev
        show W p l e R s m args below meth c H locs cells slots Q (F0 m pc arr (.ref (am_ad b h v) :: .int i9 :: .ref (am_ad b h a) :: st'.map (am_cv b h)))
        rw [am_ad_ne q2, am_ad_ne q5]
        have ef : (fun j => am_or h (if j = i9.toNatClampNeg then v else am_rf S a j)) = va_up (fun j => am_or h (am_rf S a j)) i9.toNatClampNeg (some (h + v)) := by
          funext j
          unfold va_up
          by_cases e : j = i9.toNatClampNeg
          · rw [if_pos e, if_pos e]; unfold am_or; rw [if_neg q5]
          · rw [if_neg e, if_neg e]
        refine va_astq hx hb hK hP hD hS (a - 1) 4 (v - 1) 6 he rfl hev (am_cl_get (by omega)) (vp_in_iff.mpr q3) hd (fun H1 locs1 g1 _ g3 => ?_)
        have := kk H1 locs1 rfl (am_Wd_put Wd q2 hlt am_sr_len (fun a' ha' => ⟨am_sr_other ha', rfl, rfl⟩) (by
          rw [am_E_ref (by rw [(am_sr_same hlt).1]; exact q1) (Or.inl rfl), (am_sr_same hlt).2.1, (am_sr_same hlt).2.2, ef]) g1 g3)
        rw [am_sr_len, am_nS_sr hlt, Nat.sub_self, Nat.sub_self] at this
        exact this
      · cases g
    · cases g
  case new k =>
    have hn : n = 3 := by simpa [am_isw, am_iln] using hn
    subst hn
    simp only [am_me] at g
    split at g
    · next ci q =>
      cases g
      obtain ⟨hci, hlink⟩ := am_ck_ok q
      simp only [hlen1, hns1] at hcell hslot kk
      have hfs : ∀ j, j < am_nf ci → defaultValue (am_tyX ci j) = vp_V ((List.range (am_nf ci)).map (am_fv h (S ++ [(ci, am_nf ci, fun _ => 0)]) (am_row I S.length (fun _ => 0)) (am_row J S.length (fun _ => 0)) S.length ci)) j := by
        intro j hj
        unfold vp_V
        rw [List.getD_eq_getElem?_getD, List.getElem?_map, List.getElem?_range hj]
        show _ = am_fv _ _ _ _ _ _ _
        have hk3 := List.all_eq_true.mp (List.all_eq_true.mp am_tyk ci (List.mem_range.mpr hci)) j (List.mem_range.mpr hj)
        unfold am_fv
        rw [am_row_eq, am_row_eq, am_kd_new.2.2]
        unfold am_fty
        revert hk3
        cases am_tyX ci j <;> simp [defaultValue, am_or, va_rf]
      refine va_new (C := am_cn ci) (T := am_TX ci) (N := am_nf ci) hx hb hts (am_lay_in hci) (am_tyX ci) (am_tyX_ok ci hci) hown (hts _ hlink) (hts _ (am_ins_in hci)) (hts _ (am_ini_in (by omega))) hK hP hD hS hA (am_cl_get hci) hfs hcell hslot hd (fun q9 H1 g1 g2 g3 => ?_)
      refine am_size (fun hz => ?_)
      obtain ⟨rfl, w⟩ := am_Wd_new (cl := (ci, am_nf ci, fun _ => 0)) Wd (by rw [am_E_obj am_kd_new.1 hci]) g1 g2 (by omega) g3
      have := kk H1 _ trivial w
      show W p l e R s m args below meth c H1 locs (cells + 1) (slots + am_nf ci) Q (F0 m (pc + 3) arr (.ref (h + S.length) :: st.map (am_cv b h)))
      rw [← am_ad_ne (b := b) (a := S.length) (by omega)]
      exact this
    · cases g
  case newarray t =>
    have hn : n = 2 := by simpa [am_isw, am_iln] using hn
    subst hn
    simp only [am_me] at g
    split at g
    · next n9 r =>
      split at g
      · next q =>
        cases g
        obtain ⟨q1, q2, q3⟩ := q
        simp only [hlen1, hns1] at hcell hslot kk
        have hnn : ¬ n9 < 0 := fun z => by have := Int32.lt_iff_toInt_lt.mp z; simp at this; omega
        have hcl : n9.toNatClampNeg < 10000 := by show n9.toInt.toNat < 10000; omega
        show W p l e R s m args below meth c H locs cells slots Q (F0 m pc arr (.int n9 :: r.map (am_cv b h)))
        cases t
        case int =>
          refine va_newa (a0 := (n9.toNatClampNeg, .inl (fun _ => 0))) hx hb (atype := .int) (hts _ (am_in am_w_int rfl)) (ty := .int) rfl hK hP hD hS hA (fun _ => rfl) hnn rfl (by show _ * 4 ≤ _; omega) hcell hslot hd (fun q9 cA9 H1 gK g1 g2 g3 => ?_)
          refine am_size (fun hz => ?_)
          have e1 := (gK.2 6 _ rfl).2
          have e2 := (hK.2 0 _ rfl).2
          have e3 : cA9 = cA 20 := Option.some.inj (Eq.trans (Eq.symm e1) e2)
          subst e3
          obtain ⟨rfl, w⟩ := am_Wd_new (cl := (20, n9.toNatClampNeg, fun _ => 0)) Wd (by rw [am_E_int am_kd_new.1 (Or.inl rfl), am_kd_new.2.1, am_row_eq]) g1 g2 (by omega) g3
          have := kk H1 _ trivial w
          rw [← am_ad_ne (b := b) (a := S.length) (by omega)]
          exact this
        case boolean =>
          refine va_newa (a0 := (n9.toNatClampNeg, .inl (fun _ => 0))) hx hb (atype := .boolean) (hts _ (am_in am_w_boolean rfl)) (ty := .boolean) rfl hK hP hD hS hA (fun _ => rfl) hnn rfl (by show _ * 1 ≤ _; omega) hcell hslot hd (fun q9 cA9 H1 gK g1 g2 g3 => ?_)
          refine am_size (fun hz => ?_)
          have e1 := (gK.2 6 _ rfl).2
          have e2 := (hK.2 1 _ rfl).2
          have e3 : cA9 = cA 21 := Option.some.inj (Eq.trans (Eq.symm e1) e2)
          subst e3
          obtain ⟨rfl, w⟩ := am_Wd_new (cl := (21, n9.toNatClampNeg, fun _ => 0)) Wd (by rw [am_E_int am_kd_new.1 (Or.inr (Or.inl rfl)), am_kd_new.2.1, am_row_eq]) g1 g2 (by omega) g3
          have := kk H1 _ trivial w
          rw [← am_ad_ne (b := b) (a := S.length) (by omega)]
          exact this
        case char =>
          refine va_newa (a0 := (n9.toNatClampNeg, .inl (fun _ => 0))) hx hb (atype := .char) (hts _ (am_in am_w_char rfl)) (ty := .char) rfl hK hP hD hS hA (fun _ => rfl) hnn rfl (by show _ * 2 ≤ _; omega) hcell hslot hd (fun q9 cA9 H1 gK g1 g2 g3 => ?_)
          refine am_size (fun hz => ?_)
          have e1 := (gK.2 6 _ rfl).2
          have e2 := (hK.2 2 _ rfl).2
          have e3 : cA9 = cA 22 := Option.some.inj (Eq.trans (Eq.symm e1) e2)
          subst e3
          obtain ⟨rfl, w⟩ := am_Wd_new (cl := (22, n9.toNatClampNeg, fun _ => 0)) Wd (by rw [am_E_int am_kd_new.1 (Or.inr (Or.inr rfl)), am_kd_new.2.1, am_row_eq]) g1 g2 (by omega) g3
          have := kk H1 _ trivial w
          rw [← am_ad_ne (b := b) (a := S.length) (by omega)]
          exact this
        case long =>
          refine va_newa (a0 := (n9.toNatClampNeg, .inr (.inl (fun _ => 0)))) hx hb (atype := .long) (hts _ (am_in am_w_long rfl)) (ty := .long) rfl hK hP hD hS hA (fun _ => rfl) hnn rfl (by show _ * 8 ≤ _; omega) hcell hslot hd (fun q9 cA9 H1 gK g1 g2 g3 => ?_)
          refine am_size (fun hz => ?_)
          have e1 := (gK.2 6 _ rfl).2
          have e2 := (hK.2 3 _ rfl).2
          have e3 : cA9 = cA 23 := Option.some.inj (Eq.trans (Eq.symm e1) e2)
          subst e3
          obtain ⟨rfl, w⟩ := am_Wd_new (cl := (23, n9.toNatClampNeg, fun _ => 0)) Wd (by rw [am_E_long am_kd_new.1, am_kd_new.2.1, am_row_eq]) g1 g2 (by omega) g3
          have := kk H1 _ trivial w
          rw [← am_ad_ne (b := b) (a := S.length) (by omega)]
          exact this
        all_goals exact absurd q1 (by decide)
      · cases g
    · cases g
  case anewarray k =>
    have hn : n = 3 := by simpa [am_isw, am_iln] using hn
    subst hn
    simp only [am_me] at g
    split at g
    · next n9 r =>
      split at g
      · next q =>
        cases g
        obtain ⟨q1, q2, q3⟩ := q
        simp only [hlen1, hns1] at hcell hslot kk
        have hnn : ¬ n9 < 0 := fun z => by have := Int32.lt_iff_toInt_lt.mp z; simp at this; omega
        have hcl : n9.toNatClampNeg < 10000 := by show n9.toInt.toNat < 10000; omega
        show W p l e R s m args below meth c H locs cells slots Q (F0 m pc arr (.int n9 :: r.map (am_cv b h)))
        refine va_newq (C := "ArborescenceFinder$State") hx hb hown (hts _ (am_ck_ok q1).2) Wd.2.2.2.2.2.2.2.2.1 hK hP hD hS hA hnn rfl (by omega) hcell hslot hd (fun q9 cA9 H1 gK g1 g2 g3 => ?_)
        refine am_size (fun hz => ?_)
        obtain ⟨_, _, _, _, _, e1⟩ := (gK.2 6 _ rfl).2
        obtain ⟨_, _, _, _, _, e2⟩ := (hK.2 4 _ rfl).2
        have e3 : cA9 = cA 24 := Option.some.inj (Eq.trans (Eq.symm e1) e2)
        subst e3
        obtain ⟨rfl, w⟩ := am_Wd_new (cl := (24, n9.toNatClampNeg, fun _ => 0)) Wd (by rw [am_E_ref am_kd_new.1 (Or.inl rfl), am_kd_new.2.1, am_kd_new.2.2]; rfl) g1 g2 (by omega) g3
        have := kk H1 _ trivial w
        rw [← am_ad_ne (b := b) (a := S.length) (by omega)]
        exact this
      · cases g
    · cases g
  case invokestatic k =>
    have hn : n = 3 := by simpa [am_isw, am_iln] using hn
    subst hn
    simp only [am_me] at g
    split at g
    · next n9 dp a sp b9 r =>
      split at g
      · next q =>
        cases g
        obtain ⟨q1, q2, q3, q4, q5, ⟨q6, q7, q8⟩, q9, q10, q11⟩ := q
        obtain ⟨p9, i9, s9, qv⟩ := am_iv_ok q1
        have qv := of_decide_eq_true qv
        have hlt : a < S.length := am_kd_lt q2 (by omega)
        have nn : ∀ z : Int32, 0 ≤ z.toInt → ¬ z < 0 ∧ (z.toNatClampNeg : Int) = z.toInt := fun z hz => ⟨fun q => by have := Int32.lt_iff_toInt_lt.mp q; simp at this; omega, by show ((z.toInt.toNat : Nat) : Int) = _; omega⟩
        have h9 : ((st'.map (am_cv b h)).map fun v => v.category).sum = am_ct st' := by
          unfold am_ct
          rw [List.map_map]; congr 1; apply List.map_congr_left; intro v _; exact am_cat b h v
        show W p l e R s m args below meth c H locs cells slots Q (F0 m pc arr (.int n9 :: .int dp :: .ref (am_ad b h a) :: .int sp :: .ref (am_ad b h b9) :: st'.map (am_cv b h)))
        rw [am_ad_ne q4, am_ad_ne q5]
        refine va_copyi (ty := .int) hx hb (hml.trans hsz.symm) hown (hts _ (am_in (List.mem_of_getElem? qv) rfl)) (hts _ (am_in am_w_ac1 rfl)) (hts _ (am_in am_w_ac2 rfl)) (hts _ (am_in am_w_ac3 rfl)) hK hP hD hS (b9 - 1) (a - 1) 0 0 (am_so_al (Or.inl rfl) q3 q5) (am_so_al (Or.inl rfl) q2 q4) rfl rfl rfl (nn sp q8).1 (nn dp q7).1 (nn n9 q6).1 ?_ ?_ (fun _ _ => rfl) hfr ?_ hd (fun H1 locs1 g1 _ g3 => ?_)
        · have := (nn sp q8).2; have := (nn n9 q6).2; omega
        · have := (nn dp q7).2; have := (nn n9 q6).2; omega
        · rw [h9]
          have : nativeFrameWords "java/lang/System" "arraycopy" 5 + 11 ≤ 56 := by decide +kernel
          omega
        · have := kk H1 locs1 rfl (am_Wd_put Wd q4 hlt rfl (fun a' ha' => ⟨⟨rfl, rfl, rfl⟩, am_row_ne ha', rfl⟩) (by rw [am_E_int q2 (Or.inl rfl), am_row_eq]) g1 g3)
          rw [Nat.sub_self, Nat.sub_self] at this
          exact this
      · cases g
    · cases g
  all_goals (exfalso; revert g; simp [am_me])
end AMM
