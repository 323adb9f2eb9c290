/-! calls and whole runs -/
def am_Le (S : am_S) (I : am_I) (S' : am_S) (I' : am_I) : Prop := S.length ≤ S'.length ∧ am_nS S ≤ am_nS S' ∧ (0 < S.length → am_kd S' 0 = am_kd S 0 ∧ am_ln S' 0 = am_ln S 0 ∧ I' 0 = I 0)
theorem am_Le.rf {S : am_S} {I : am_I} : am_Le S I S I := ⟨Nat.le_refl _, Nat.le_refl _, fun _ => ⟨rfl, rfl, rfl⟩⟩
theorem am_Le.tr {S S' S'' : am_S} {I I' I'' : am_I} (h1 : am_Le S I S' I') (h2 : am_Le S' I' S'' I'') : am_Le S I S'' I'' := by
  refine ⟨Nat.le_trans h1.1 h2.1, Nat.le_trans h1.2.1 h2.2.1, fun h => ?_⟩
  obtain ⟨a1, a2, a3⟩ := h1.2.2 h
  obtain ⟨b1, b2, b3⟩ := h2.2.2 (Nat.lt_of_lt_of_le h h1.1)
  exact ⟨b1.trans a1, b2.trans a2, b3.trans a3⟩
theorem am_Le.up {S : am_S} {I : am_I} {a k : Nat} {x : Int32} (h0 : a ≠ 0) : am_Le S I S (am_up I a k x) := ⟨Nat.le_refl _, Nat.le_refl _, fun _ => ⟨rfl, rfl, am_up_ne (Ne.symm h0)⟩⟩
theorem am_Le.sr {S : am_S} {I : am_I} {a k v : Nat} (h0 : a ≠ 0) (hl : a < S.length) : am_Le S I (am_sr S a k v) I := ⟨by rw [am_sr_len]; exact Nat.le_refl _, by rw [am_nS_sr hl]; exact Nat.le_refl _, fun _ => ⟨(am_sr_other (Ne.symm h0)).1, (am_sr_other (Ne.symm h0)).2.1, rfl⟩⟩
theorem am_Le.mk {S : am_S} {I : am_I} {c : Nat × Nat × (Nat → Nat)} {f : Nat → Int32} : am_Le S I (S ++ [c]) (am_row I S.length f) := ⟨by rw [List.length_append]; omega, by rw [am_nS_app]; omega, fun h => ⟨(am_kd_app h).1, (am_kd_app h).2.1, am_row_ne (by omega)⟩⟩
theorem am_me_le {y w : Nat} {ls ls' : am_L} {st st' : List Value} {S S' : am_S} {I I' : am_I} {J J' : am_J} {i : Instr} (g : am_me y w ls st S I J i = some (ls', st', S', I', J')) : am_Le S I S' I' ∧ ls' = ls := by
  cases i
  case putfield k =>
    simp only [am_me, am_pf] at g
    split at g
    case h_2 => cases g
    case h_1 ci j hfl =>
    obtain ⟨hci, hj, -, -⟩ := am_fl_ok hfl
    split at g
    · split at g
      · next q => cases g; exact ⟨am_Le.up q.2.2.1, rfl⟩
      · cases g
    · split at g
      · cases g; exact ⟨am_Le.rf, rfl⟩
      · cases g
    · split at g
      · next q => cases g; exact ⟨am_Le.sr q.2.2.1 (am_kd_lt q.2.1 (by omega)), rfl⟩
      · cases g
    · cases g
  case iastore =>
    obtain ⟨x, i9, a, rfl, q1, q2, q3, rfl, rfl, rfl, rfl⟩ := am_as_inv g
    exact ⟨am_Le.up q2, rfl⟩
  case bastore =>
    simp only [am_me] at g
    split at g
    · split at g
      · obtain ⟨x, i9, a, -, q1, q2, q3, rfl, rfl, rfl, rfl⟩ := am_as_inv g
        exact ⟨am_Le.up q2, rfl⟩
      · cases g
    · cases g
  case castore =>
    simp only [am_me] at g
    split at g
    · split at g
      · obtain ⟨x, i9, a, -, q1, q2, q3, rfl, rfl, rfl, rfl⟩ := am_as_inv g
        exact ⟨am_Le.up q2, rfl⟩
      · cases g
    · cases g
  case lastore =>
    simp only [am_me] at g
    split at g
    · split at g
      · cases g; exact ⟨am_Le.rf, rfl⟩
      · cases g
    · cases g
  case aastore =>
    simp only [am_me] at g
    split at g
    · split at g
      · next q => cases g; exact ⟨am_Le.sr q.2.1 (am_kd_lt q.1 (by omega)), rfl⟩
      · cases g
    · cases g
  case new k =>
    simp only [am_me] at g
    split at g
    · cases g; exact ⟨am_Le.mk, rfl⟩
    · cases g
  case newarray t =>
    simp only [am_me] at g
    split at g
    · split at g
      · cases g; exact ⟨am_Le.mk, rfl⟩
      · cases g
    · cases g
  case anewarray k =>
    simp only [am_me] at g
    split at g
    · split at g
      · cases g; exact ⟨am_Le.mk, rfl⟩
      · cases g
    · cases g
  case invokestatic k =>
    simp only [am_me] at g
    split at g
    · split at g
      · next q => cases g; exact ⟨⟨Nat.le_refl _, Nat.le_refl _, fun _ => ⟨rfl, rfl, am_row_ne (Ne.symm q.2.2.2.1)⟩⟩, rfl⟩
      · cases g
    · cases g
  all_goals (exfalso; revert g; simp [am_me])
theorem am_gr_inv {w : Nat} {ls ls' : am_L} {st st' : List Value} {S S' : am_S} {I I' : am_I} {J J' : am_J} {i : Instr} (g : am_gr w ls st S I J i = some (ls', st', S', I', J')) :
    ∃ mm nn r, i = .multianewarray 9 2 ∧ w = 7 ∧ st = .int mm :: .int nn :: r ∧ (0 ≤ nn.toInt ∧ nn.toInt < 100) ∧ (0 ≤ mm.toInt ∧ mm.toInt < 100) ∧ ls' = ls ∧ st' = .ref S.length :: r ∧ S' = am_grow S nn.toNatClampNeg mm.toNatClampNeg ∧ I' = am_clean I S.length 0 ∧ J' = am_clean J S.length 0 := by
  cases i
  case multianewarray k d =>
    simp only [am_gr] at g
    split at g
    · split at g
      · next q =>
        obtain ⟨q1, q2, q3, q4, q5, q6⟩ := q
        subst q2 q3
        cases g
        exact ⟨_, _, _, rfl, q1, rfl, q4, ⟨q5, q6⟩, rfl, rfl, rfl, rfl, rfl⟩
      · cases g
    · cases g
  all_goals (exfalso; revert g; simp [am_gr])
theorem am_grow_app (S : am_S) (n k : Nat) : am_grow S n k = S ++ ((25, n, fun i => if i < n then S.length + 1 + i else 0) :: List.replicate n (23, k, fun _ => 0)) := rfl
theorem am_Le.gr {S : am_S} {I : am_I} {n k : Nat} : am_Le S I (am_grow S n k) (am_clean I S.length 0) := by
  refine ⟨by rw [am_grow_app, List.length_append]; omega, by rw [am_grow_app, am_nS_app]; omega, fun h => ⟨by rw [am_grow_app]; exact (am_kd_app h).1, by rw [am_grow_app]; exact (am_kd_app h).2.1, ?_⟩⟩
  funext j; unfold am_clean; rw [if_neg (by omega)]
/-- an instruction's outcomes, one by one -/
theorem am_ex_inv {y pc n : Nat} {ls : am_L} {st : List Value} {S : am_S} {I : am_I} {J : am_J} {i : Instr} {z : am_Z} (g : am_ex y pc n ls st S I J i = some z) :
    (∃ pc' ls' st', am_pu (am_ow y) pc ls st S I J i = some (pc', ls', st') ∧ z = .inl (pc', ls', st', S, I, J)) ∨ (∃ m, am_me y (am_ow y) ls st S I J i = some m ∧ z = .inl (pc + n, m)) ∨ (∃ m, am_gr (am_ow y) ls st S I J i = some m ∧ z = .inl (pc + n, m)) ∨ (∃ r, am_re y st i = some r ∧ z = .inr (.inl r)) ∨ (∃ c, am_cv0 (am_ow y) st S i = some c ∧ z = .inr (.inr (pc + n, c))) := by
  unfold am_ex at g
  split at g
  · next q => cases g; exact Or.inl ⟨_, _, _, q, rfl⟩
  · split at g
    · next q => cases g; exact Or.inr (Or.inl ⟨_, q, rfl⟩)
    · split at g
      · next q => cases g; exact Or.inr (Or.inr (Or.inl ⟨_, q, rfl⟩))
      · split at g
        · next q => cases g; exact Or.inr (Or.inr (Or.inr (Or.inl ⟨_, q, rfl⟩)))
        · split at g
          · next q => cases g; exact Or.inr (Or.inr (Or.inr (Or.inr ⟨_, q, rfl⟩)))
          · cases g
theorem am_step_inv {y pc : Nat} {ls : am_L} {st : List Value} {S : am_S} {I : am_I} {J : am_J} {z : am_Z} (g : am_step y pc ls st S I J = some z) : ∃ i n, decode (am_by y) pc = .ok (i, n) ∧ (am_isw i = true ∨ n = am_iln i) ∧ am_ex y pc n ls st S I J i = some z := by
  unfold am_step at g
  split at g
  · next i n q =>
    split at g
    · next q2 => exact ⟨i, n, q, q2, g⟩
    · cases g
  · cases g
theorem am_run_le {R : am_Rel} {y : Nat} (hR : ∀ y as S I J r S' I' J', R y as S I J r S' I' J' → am_Le S I S' I') {r : Option Value} {S' : am_S} {I' : am_I} {J' : am_J} : ∀ (n pc : Nat) (ls : am_L) (st : List Value) (S : am_S) (I : am_I) (J : am_J), am_run R y n pc ls st S I J (am_eq r S' I' J') → am_Le S I S' I' := by
  intro n
  induction n with
  | zero => intro pc ls st S I J h; exact h.elim
  | succ n ih =>
    intro pc ls st S I J h
    unfold am_run at h
    cases hs : am_step y pc ls st S I J with
    | none => rw [hs] at h; exact h.elim
    | some z =>
      rw [hs] at h
      obtain ⟨i, k, h1, h2, h3⟩ := am_step_inv hs
      rcases am_ex_inv h3 with ⟨pc', ls', st', q, rfl⟩ | ⟨⟨ls', st', S1, I1, J1⟩, q, rfl⟩ | ⟨⟨ls', st', S1, I1, J1⟩, q, rfl⟩ | ⟨r1, q, rfl⟩ | ⟨⟨y1, as1, st1⟩, q, rfl⟩
      · exact ih _ _ _ _ _ _ h
      · exact (am_me_le q).1.tr (ih _ _ _ _ _ _ h)
      · obtain ⟨mm, nn, rr, -, -, -, -, -, -, -, e1, e2, -⟩ := am_gr_inv q
        have := ih _ _ _ _ _ _ h
        rw [e1, e2] at this
        exact am_Le.gr.tr this
      · obtain ⟨rfl, rfl, rfl, rfl⟩ := h
        exact am_Le.rf
      · obtain ⟨r1, S1, I1, J1, g1, g2⟩ := h
        exact (hR _ _ _ _ _ _ _ _ _ g1).tr (ih _ _ _ _ _ _ g2)
theorem am_R_le : ∀ (d y : Nat) (as : List Value) (S : am_S) (I : am_I) (J : am_J) (r : Option Value) (S' : am_S) (I' : am_I) (J' : am_J), am_R d y as S I J r S' I' J' → am_Le S I S' I' := by
  intro d
  induction d with
  | zero => intro y as S I J r S' I' J' h; exact h.elim
  | succ d ih => intro y as S I J r S' I' J' ⟨_, n, h⟩; exact am_run_le ih n _ _ _ _ _ _ h
-- contracts
def am_ws (y : Nat) : List Cond := Cond.code (am_y y) (am_by y) (am_ml y) (am_rt y) :: am_tb
def am_rm (d : Nat) (S S' : am_S) : Room := { frames := d, cells := S'.length - S.length, slots := am_nS S' - am_nS S, locals := 64 * d }
def am_Pc (D : va_G) (cA : Nat → ClassId) (b h L : Nat) (as : List Value) (S : am_S) (I : am_I) (J : am_J) : Array Value → State → Prop :=
  va_Pc (as.map (am_cv b h)) (fun U => va_K D am_cl (am_tys cA) U ∧ va_P D am_cl (am_W cA h S I J) U.heap ∧ U.heap.size = h + S.length ∧ va_X b L (I 0) U U.heap ∧ b ≤ h ∧ am_kd S 0 = 20 ∧ am_ln S 0 = L ∧ va_AO "ArborescenceFinder$State" U ∧ am_AOA .long U ∧ am_Ns U)
def am_Qc (D : va_G) (cA : Nat → ClassId) (b h : Nat) (r : Option Value) (S' : am_S) (I' : am_I) (J' : am_J) : Array Value → State → Outcome → State → Prop :=
  fun _ st oc t => oc = .returned (r.map (am_cv b h)) ∧ va_P D am_cl (am_W cA h S' I' J') t.heap ∧ va_F (fun q => h < q) st t
theorem am_m_get {y : Nat} (h : y < am_ms.length) : am_ms[y]? = some (am_m y) := by
  unfold am_m
  rw [List.getD_eq_getElem?_getD, List.getElem?_eq_getElem h]; rfl
theorem am_code_in {y : Nat} (h : y < am_ms.length) : Cond.code (am_y y) (am_by y) (am_ml y) (am_rt y) ∈ am_tb := by
  refine am_in ?_ rfl
  have h1 : Cond.code (am_y y) (am_by y) (am_ml y) (am_rt y) ∈ am_ms.map (fun q => Cond.code q.1 q.2.1 q.2.2.1 q.2.2.2.1) := List.mem_map.mpr ⟨am_m y, List.mem_of_getElem? (am_m_get h), rfl⟩
  rw [am_codes] at h1
  obtain ⟨q, -, hq⟩ := List.mem_filterMap.mp h1
  exact List.mem_of_getElem? hq
theorem am_ms_at {y : Nat} (h : y < am_ms.length) : (am_y y).cls = am_cn (am_ow y) ∧ (parseMethodDescriptor (am_y y).desc).map (fun d => d.parameters.length) = some (am_np y) ∧ plainName (am_y y).cls = true ∧ (am_y y).cls ≠ "java/lang/invoke/MethodHandle" ∧ (am_y y).cls ≠ "java/lang/invoke/VarHandle" ∧ am_ml y ≤ 16 ∧ am_ow y < 11 :=
  of_decide_eq_true (List.all_eq_true.mp am_ms_ok _ (List.mem_of_getElem? (am_m_get h)))
theorem am_good_in {y : Nat} (h : y < am_ms.length) : GoodIn am_tb (am_ws y) := by
  intro w hw
  rcases List.mem_cons.mp hw with rfl | hw
  · exact ⟨am_code_in h, Or.inl rfl⟩
  · exact ⟨hw, good_of_word (List.mem_filter.mp hw).2⟩
section AMR
variable {p : Program} {l : Launch} {e : Env} {R : Room} {s : State} {m : MethodId} {args : Array Value} {below : List Frame} {meth : Method} {c : Code} {H : Heap} {locs : List Loc} {cells slots : Nat} {Q : State → Prop}
variable {cA : Nat → ClassId} {D : va_G} {b h L y pc n n0 : Nat} {ls ls' : am_L} {st st' : List Value} {S S' : am_S} {I I' : am_I} {J J' : am_J} {arr : Array Slot} {pc' : Nat}
theorem am_call {r : Option Value} {S1 : am_S} {I1 : am_I} {J1 : am_J} {st0 rest : List Value} {a : Array Value} {mc ms : Nat} (hr : va_Run p l e R s m args below meth c H locs cells slots mc ms (F0 m pc arr st0) rest (am_Qc D cA b h r S1 I1 J1 a) (fun q => h < q)) (Wd : am_Wd D cA b h L s S I J H locs) (hLe : am_Le S I S1 I1)
    (kk : ∀ (H1 : Heap) (locs1 : List Loc), am_Wd D cA b h L s S1 I1 J1 H1 locs1 → W p l e R s m args below meth c H1 locs1 (cells + mc) (slots + ms) Q (F0 m (pc + 3) arr ((r.map (am_cv b h)).toList ++ rest))) : W p l e R s m args below meth c H locs cells slots Q (F0 m pc arr st0) := by
  intro T hT X
  obtain ⟨v, st₀, t, T', L9, h0, X', hL, e1, e2, ⟨hv, hP1, hF1, hF2⟩, go⟩ := hr T hT X
  cases hv
  obtain ⟨hK, hP, hS, hX, hb, hs, hk, hL9, hO1, hO2, hO3⟩ := Wd
  obtain ⟨k1, k2, k3⟩ := hLe.2.2 (am_kd_lt hk (by decide))
  rw [h0] at hF1 hF2
  have w : am_Wd D cA b h L s S1 I1 J1 T'.heap (locs ++ L9) := by
    refine ⟨hK, by rw [e1]; exact hP1, ⟨Nat.le_trans hS.1 (by rw [e1]; exact hF1), fun q g1 g2 => ?_, fun q hq => ?_⟩, by rw [k3]; exact hX, hb, hs, k1.trans hk, k2.trans hL9, hO1, hO2, hO3⟩
    · rw [e1, hF2 q (Nat.lt_of_lt_of_le g1 hS.1) g2]
      exact hS.2.1 q g1 g2
    · rcases List.mem_append.mp hq with g | g
      · exact hS.2.2 q g
      · exact hL q g
  obtain ⟨t2, a1, b1⟩ := kk T'.heap (locs ++ L9) w T' rfl X'
  exact ⟨t2, go t2 a1, b1⟩
theorem am_sizeEq (Wd : am_Wd D cA b h L s S I J H locs) (hs0 : s.heap.size = h + n0) (hn0 : n0 + cells = S.length) (hz : H.size ≤ s.heap.size + cells) : H.size = h + S.length := by
  have hl : 0 < S.length := am_kd_lt Wd.2.2.2.2.2.2.1 (by decide)
  have h1 := Wd.2.2.1.1
  have h2 := Wd.2.2.2.2.2.1
  by_cases g : S.length = 1
  · omega
  · have he := am_W_at cA h I J (S := S) (a := S.length - 1) (by omega) (by omega)
    have := (Wd.2.1 _ _ he).lt
    have this : h + (S.length - 1) < H.size := this
    omega
theorem am_pre (Wd : am_Wd D cA b h L s S I J H locs) (hz : H.size = h + S.length) (as : List Value) : PreS s H (am_Pc D cA b h L as S I J) (as.map (am_cv b h)) := by
  obtain ⟨hK, hP, hS, hX, hb, hs, hk, hL9, hO1, hO2, hO3⟩ := Wd
  refine ⟨fun a U g mk q => ?_, fun U hU hW => ?_⟩
  · obtain ⟨q0, q1, q2, q3, q4, q5, q6, q7, q8, q9, q10⟩ := q
    exact ⟨q0, va_K.moved (u := U) (U := U.calling g mk a) (Vm.Alike.refl U.vm) q1, q2, q3, va_X.moved (u := U) (U := U.calling g mk a) (Vm.Alike.refl U.vm) q4, q5, q6, q7, va_AO.moved (u := U) (U := U.calling g mk a) (Vm.Alike.refl U.vm) q8, am_AOA.moved (u := U) (U := U.calling g mk a) (Vm.Alike.refl U.vm) q9, am_Ns.same (s := U) (U := U.calling g mk a) rfl q10⟩
  · refine ⟨rfl, va_K.moved hW.alike hK, by rw [hU]; exact hP, by rw [hU]; exact hz, va_X.moved hW.alike (hX.kept ?_), hb, hk, hL9, hO1.moved hW.alike, hO2.moved hW.alike, hO3.warm hW⟩
    rw [hU]
    exact hS.2.1 b (by omega) (by show ¬ h < b; omega)
theorem am_cat_sum (b h : Nat) (r : List Value) : ((r.map (am_cv b h)).map fun v => v.category).sum = am_ct r := by
  unfold am_ct
  rw [List.map_map]; congr 1; apply List.map_congr_left; intro v _; exact am_cat b h v
theorem am_psh_map (b h : Nat) (r : Option Value) (st : List Value) : (am_psh r st).map (am_cv b h) = (r.map (am_cv b h)).toList ++ st.map (am_cv b h) := by
  cases r <;> rfl
/-- the grid's making, in the machine -/
def am_GrOK (l : Launch) : Prop := ∀ {p : Program} {e : Env} {R : Room} {s : State} {m : MethodId} {args : Array Value} {below : List Frame} {meth : Method} {c : Code} {H : Heap} {locs : List Loc} {cells slots : Nat} {Q : State → Prop} {cA : Nat → ClassId} {D : va_G} {b h L y pc n0 : Nat} {S : am_S} {I : am_I} {J : am_J} {arr : Array Slot} {mm nn : Int32} {r : List Value},
  am_Cx p s m args meth c R y → am_Wd D cA b h L s S I J H locs → s.heap.size = h + n0 → n0 + cells = S.length → am_ow y = 7 → decode (am_by y) pc = .ok (.multianewarray 9 2, 4) → (0 ≤ nn.toInt ∧ nn.toInt < 100) → (0 ≤ mm.toInt ∧ mm.toInt < 100) →
  cells + ((am_grow S nn.toNatClampNeg mm.toNatClampNeg).length - S.length) ≤ R.cells → slots + (am_nS (am_grow S nn.toNatClampNeg mm.toNatClampNeg) - am_nS S) ≤ R.slots →
  (∀ (H1 : Heap) (locs1 : List Loc), am_Wd D cA b h L s (am_grow S nn.toNatClampNeg mm.toNatClampNeg) (am_clean I S.length 0) (am_clean J S.length 0) H1 locs1 → W p l e R s m args below meth c H1 locs1 (cells + ((am_grow S nn.toNatClampNeg mm.toNatClampNeg).length - S.length)) (slots + (am_nS (am_grow S nn.toNatClampNeg mm.toNatClampNeg) - am_nS S)) Q (F0 m (pc + 4) arr (.ref (am_ad b h S.length) :: r))) →
  W p l e R s m args below meth c H locs cells slots Q (F0 m pc arr (.int mm :: .int nn :: r))
/-- what a depth's calls are worth -/
def am_MetD (l : Launch) (d : Nat) : Prop := ∀ (y : Nat) (as : List Value) (S : am_S) (I : am_I) (J : am_J) (r : Option Value) (S' : am_S) (I' : am_I) (J' : am_J), y < am_ms.length → am_R d y as S I J r S' I' J' → ∀ (D : va_G) (cA : Nat → ClassId) (b h L : Nat), Met l (am_y y) (am_ws y) (am_rm d S S') (am_Pc D cA b h L as S I J) (am_Qc D cA b h r S' I' J') (S'.length - S.length) (am_nS S' - am_nS S) (fun q => h < q)
set_option maxHeartbeats 4000000 in
theorem am_so_call {d : Nat} (IH : am_MetD l d) {i : Instr} {y1 : Nat} {as1 st1 : List Value} {r1 : Option Value} {S1 : am_S} {I1 : am_I} {J1 : am_J} (Cx : am_Cx p s m args meth c R y) (hRm : d + 1 ≤ R.frames ∧ 64 * d + 35 ≤ R.locals) (Wd : am_Wd D cA b h L s S I J H locs) (hs0 : s.heap.size = h + n0) (hn0 : n0 + cells = S.length) (hsz : arr.size = am_ml y) (hd : decode (am_by y) pc = .ok (i, n)) (hn : am_isw i = true ∨ n = am_iln i) (g : am_cv0 (am_ow y) st S i = some (y1, as1, st1)) (hR1 : am_R d y1 as1 S I J r1 S1 I1 J1)
    (hcell : cells + (S1.length - S.length) ≤ R.cells) (hslot : slots + (am_nS S1 - am_nS S) ≤ R.slots)
    (kk : ∀ (H1 : Heap) (locs1 : List Loc), am_Wd D cA b h L s S1 I1 J1 H1 locs1 → W p l e R s m args below meth c H1 locs1 (cells + (S1.length - S.length)) (slots + (am_nS S1 - am_nS S)) Q (F0 m (pc + n) arr ((am_psh r1 st1).map (am_cv b h)))) : W p l e R s m args below meth c H locs cells slots Q (F0 m pc arr (st.map (am_cv b h))) := by
  refine am_size (fun hz0 => ?_)
  have hz := am_sizeEq Wd hs0 hn0 hz0
  have hx := Cx.1
  have hb := Cx.2.1
  have hml := Cx.2.2.1
  have hown := Cx.2.2.2.1
  have hts := Cx.2.2.2.2.1
  have hK := Wd.1
  have hP := Wd.2.1
  have hLe := am_R_le _ _ _ _ _ _ _ _ _ _ hR1
  have fin : ∀ {st0 : List Value} {a : Array Value}, n = 3 → va_Run p l e R s m args below meth c H locs cells slots (S1.length - S.length) (am_nS S1 - am_nS S) (F0 m pc arr st0) (st1.map (am_cv b h)) (am_Qc D cA b h r1 S1 I1 J1 a) (fun q => h < q) → W p l e R s m args below meth c H locs cells slots Q (F0 m pc arr st0) := by
    intro st0 a hn3 hr
    subst hn3
    refine am_call hr Wd hLe (fun H1 locs1 w => ?_)
    have := kk H1 locs1 w
    rw [am_psh_map] at this
    exact this
  have hfix : CallFix p m c (am_by y) (am_ml y) s args am_tb (am_cn (am_ow y)) := ⟨hx, hb, hml, hown, hts⟩
  cases i
  case invokevirtual k =>
    have hn : n = 3 := by simpa [am_isw, am_iln] using hn
    simp only [am_cv0] at g
    split at g
    · next y2 q =>
      split at g
      · next a r hdr =>
        split at g
        · next q2 =>
          cases g
          obtain ⟨k1, k2, k3⟩ := q2
          obtain ⟨p9, i9, s9, qv⟩ := am_iv_ok q
          obtain ⟨v1, v2, v3, v4, v5⟩ := of_decide_eq_true qv
          rw [← am_ms_len] at v1
          obtain ⟨t1, t2, t3, t4, t5, t6, t7⟩ := am_ms_at v1
          have hlen : (st.take (am_np y1)).length = am_np y1 := by
            have := congrArg List.length hdr
            rw [List.length_drop, List.length_cons] at this
            rw [List.length_take]; omega
          have hlt : a < S.length := am_kd_lt k1 (by omega)
          have he := am_W_at cA h I J k2 hlt
          rw [am_E_obj k1 v2] at he
          refine fin (a := (Value.ref (am_ad b h a) :: ((st.take (am_np y1)).reverse).map (am_cv b h)).toArray) hn (va_runV (C := am_cn (am_ow y1)) (b := am_ad b h a) (As := ((st.take (am_np y1)).reverse).map (am_cv b h)) (n := am_np y1) hfix (IH y1 _ S I J r1 S1 I1 J1 v1 hR1 D cA b h L) (cwV (am_np y1) hts ?_ rfl rfl rfl ⟨t1, t4, t5, t2⟩ ⟨hRm.1, ?_⟩) ⟨(am_pre Wd hz _).1, ?_, (am_pre Wd hz (.ref a :: (st.take (am_np y1)).reverse)).2⟩ rfl ?_ hsz ?_ ?_ (by rw [hd, hn]) ⟨hcell, hslot⟩)
          · intro w hw
            rcases List.mem_append.mp hw with hw | hw
            · simp only [List.mem_cons, List.not_mem_nil, or_false] at hw
              rcases hw with rfl | rfl | rfl | rfl
              · exact ⟨am_in (List.mem_of_getElem? v3) rfl, Or.inl rfl⟩
              · exact ⟨am_in (List.mem_of_getElem? v4) rfl, Or.inl rfl⟩
              · exact ⟨am_in (List.mem_of_getElem? v5) rfl, Or.inl rfl⟩
              · exact ⟨am_ini_in (by omega), Or.inl rfl⟩
            · exact am_good_in v1 w hw
          · show 8 + (am_ml y1 + 11) + 64 * d ≤ _; omega
          · rw [am_ad_ne k2]
            exact va_recv hK hP (am_cl_get v2) he
          · rw [List.length_map, List.length_reverse]; exact hlen
          · show st.map (am_cv b h) = _
            rw [← List.map_reverse, List.reverse_reverse]
            conv => lhs; rw [← List.take_append_drop (am_np y1) st, hdr]
            rw [List.map_append]; rfl
          · exact lv_room (by rw [am_cat_sum]; exact k3)
        · cases g
      · cases g
    · cases g
  case invokestatic k =>
    have hn : n = 3 := by simpa [am_isw, am_iln] using hn
    simp only [am_cv0] at g
    split at g
    · next y2 q =>
      split at g
      · next q2 =>
        cases g
        obtain ⟨p9, i9, s9, qv⟩ := am_iv_ok q
        obtain ⟨v1, v3, v4, v5⟩ := of_decide_eq_true qv
        rw [← am_ms_len] at v1
        obtain ⟨t1, t2, t3, t4, t5, t6, t7⟩ := am_ms_at v1
        refine fin (a := (((st.take (am_np y1)).reverse).map (am_cv b h)).toArray) hn (va_runS (As := ((st.take (am_np y1)).reverse).map (am_cv b h)) (n := am_np y1) hfix (IH y1 _ S I J r1 S1 I1 J1 v1 hR1 D cA b h L) (cwS (am_np y1) hts ?_ rfl rfl rfl ⟨by rw [t1, v5], t4, t5, t2⟩ ⟨hRm.1, ?_⟩) (am_pre Wd hz _) rfl ?_ hsz ?_ ?_ (by rw [hd, hn]) ⟨hcell, hslot⟩)
        · intro w hw
          rcases List.mem_append.mp hw with hw | hw
          · simp only [List.mem_cons, List.not_mem_nil, or_false] at hw
            rcases hw with rfl | rfl | rfl
            · exact ⟨am_in (List.mem_of_getElem? v3) rfl, Or.inl rfl⟩
            · exact ⟨am_in (List.mem_of_getElem? v4) rfl, Or.inl rfl⟩
            · exact ⟨am_ini_in (by omega), Or.inl rfl⟩
          · exact am_good_in v1 w hw
        · show 8 + (am_ml y1 + 11) + 64 * d ≤ _; omega
        · rw [List.length_map, List.length_reverse, List.length_take]; omega
        · show st.map (am_cv b h) = _
          rw [← List.map_reverse, List.reverse_reverse, ← List.map_append, List.take_append_drop]
        · exact lv_room (by rw [am_cat_sum]; exact q2.2)
      · cases g
    · next y2 q =>
      split at g
      · next q2 =>
        cases g
        obtain ⟨p9, i9, s9, qv⟩ := am_iv_ok q
        obtain ⟨v1, v3, v4⟩ := of_decide_eq_true qv
        rw [← am_ms_len] at v1
        obtain ⟨t1, t2, t3, t4, t5, t6, t7⟩ := am_ms_at v1
        refine fin (a := (((st.take (am_np y1)).reverse).map (am_cv b h)).toArray) hn (va_runSN (As := ((st.take (am_np y1)).reverse).map (am_cv b h)) (n := am_np y1) hfix (IH y1 _ S I J r1 S1 I1 J1 v1 hR1 D cA b h L) ⟨va_cnB (am_np y1) hts (am_good_in v1) rfl rfl rfl (Wd.2.2.2.2.2.2.2.2.2.2 _ (List.mem_of_getElem? v3) rfl) (hts _ (by rw [t1]; exact am_ini_in (by omega))) ⟨t4, t5, t2⟩ ⟨hRm.1, ?_⟩, hts _ (am_in (List.mem_of_getElem? v4) rfl), trivial⟩ (am_pre Wd hz _) rfl ?_ hsz ?_ ?_ (by rw [hd, hn]) ⟨hcell, hslot⟩)
        · show 8 + (am_ml y1 + 11) + 64 * d ≤ _; omega
        · rw [List.length_map, List.length_reverse, List.length_take]; omega
        · show st.map (am_cv b h) = _
          rw [← List.map_reverse, List.reverse_reverse, ← List.map_append, List.take_append_drop]
        · exact lv_room (by rw [am_cat_sum]; exact q2.2)
      · cases g
    · cases g
  case invokespecial k =>
    have hn : n = 3 := by simpa [am_isw, am_iln] using hn
    simp only [am_cv0] at g
    split at g
    · next y2 q =>
      split at g
      · next a r hdr =>
        split at g
        · next k3 =>
          cases g
          obtain ⟨p9, i9, s9, qv⟩ := am_iv_ok q
          obtain ⟨v1, v3, v4, v5, v6⟩ := of_decide_eq_true qv
          rw [← am_ms_len] at v1
          obtain ⟨t1, t2, t3, t4, t5, t6, t7⟩ := am_ms_at v1
          have hlen : (st.take (am_np y1)).length = am_np y1 := by
            have := congrArg List.length hdr
            rw [List.length_drop, List.length_cons] at this
            rw [List.length_take]; omega
          refine fin (a := (Value.ref (am_ad b h a) :: ((st.take (am_np y1)).reverse).map (am_cv b h)).toArray) hn (va_runI (b := am_ad b h a) (As := ((st.take (am_np y1)).reverse).map (am_cv b h)) (n := am_np y1) hfix (IH y1 _ S I J r1 S1 I1 J1 v1 hR1 D cA b h L) (cwI (am_np y1) hts (am_good_in v1) (by unfold am_ws; rw [v6]) rfl rfl (hts _ (by rw [t1]; exact am_ini_in (by omega))) (hts _ (am_in (List.mem_of_getElem? v3) rfl)) (hts _ (am_in (List.mem_of_getElem? v4) rfl)) v5 ⟨t4, t5, t2⟩ ⟨hRm.1, ?_⟩) (am_pre Wd hz (.ref a :: (st.take (am_np y1)).reverse)) rfl ?_ hsz ?_ ?_ (by rw [hd, hn]) ⟨hcell, hslot⟩)
          · show 8 + (am_ml y1 + 11) + 64 * d ≤ _; omega
          · rw [List.length_map, List.length_reverse]; exact hlen
          · show st.map (am_cv b h) = _
            rw [← List.map_reverse, List.reverse_reverse]
            conv => lhs; rw [← List.take_append_drop (am_np y1) st, hdr]
            rw [List.map_append]; rfl
          · exact lv_room (by rw [am_cat_sum]; exact k3)
        · cases g
      · cases g
    · next y2 q =>
      split at g
      · next a r hdr =>
        split at g
        · next k3 =>
          cases g
          obtain ⟨p9, i9, s9, qv⟩ := am_iv_ok q
          obtain ⟨v1, v3, v4, v5, v6⟩ := of_decide_eq_true qv
          rw [← am_ms_len] at v1
          obtain ⟨t1, t2, t3, t4, t5, t6, t7⟩ := am_ms_at v1
          have hlen : (st.take (am_np y1)).length = am_np y1 := by
            have := congrArg List.length hdr
            rw [List.length_drop, List.length_cons] at this
            rw [List.length_take]; omega
          refine fin (a := (Value.ref (am_ad b h a) :: ((st.take (am_np y1)).reverse).map (am_cv b h)).toArray) hn (va_runIN (b := am_ad b h a) (As := ((st.take (am_np y1)).reverse).map (am_cv b h)) (n := am_np y1) hfix (IH y1 _ S I J r1 S1 I1 J1 v1 hR1 D cA b h L) ⟨va_cnB (am_np y1) hts (am_good_in v1) (by unfold am_ws; rw [v6]) rfl rfl (Wd.2.2.2.2.2.2.2.2.2.2 _ (List.mem_of_getElem? v3) rfl) (hts _ (by rw [t1]; exact am_ini_in (by omega))) ⟨t4, t5, t2⟩ ⟨hRm.1, ?_⟩, v5, hts _ (am_in (List.mem_of_getElem? v4) rfl)⟩ (am_pre Wd hz (.ref a :: (st.take (am_np y1)).reverse)) rfl ?_ hsz ?_ ?_ (by rw [hd, hn]) ⟨hcell, hslot⟩)
          · show 8 + (am_ml y1 + 11) + 64 * d ≤ _; omega
          · rw [List.length_map, List.length_reverse]; exact hlen
          · show st.map (am_cv b h) = _
            rw [← List.map_reverse, List.reverse_reverse]
            conv => lhs; rw [← List.take_append_drop (am_np y1) st, hdr]
            rw [List.map_append]; rfl
          · exact lv_room (by rw [am_cat_sum]; exact k3)
        · cases g
      · cases g
    · cases g
  all_goals (exfalso; revert g; simp [am_cv0])
theorem am_re_iln {i : Instr} {r : Option Value} (g : am_re y st i = some r) : am_isw i = false ∧ am_iln i = 1 := by
  cases i
  case ireturn => exact ⟨rfl, rfl⟩
  case lreturn => exact ⟨rfl, rfl⟩
  case return_ => exact ⟨rfl, rfl⟩
  all_goals (exfalso; revert g; simp [am_re])
set_option maxHeartbeats 4000000 in
theorem am_so_run (hG : am_GrOK l) {d : Nat} (IH : am_MetD l d) (Cx : am_Cx p s m args meth c R y) (hRm : d + 1 ≤ R.frames ∧ 64 * d + 35 ≤ R.locals) {z0 : Nat} (hs0 : s.heap.size = h + n0) {r : Option Value} (hRc : S'.length ≤ n0 + R.cells) (hRs : am_nS S' ≤ z0 + R.slots)
    (kret : ∀ (H : Heap) (locs : List Loc) (arr : Array Slot) (pc : Nat) (i : Instr) (st : List Value), am_Wd D cA b h L s S' I' J' H locs → decode (am_by y) pc = .ok (i, 1) → am_re y st i = some r → W p l e R s m args below meth c H locs (S'.length - n0) (am_nS S' - z0) Q (F0 m pc arr (st.map (am_cv b h)))) :
    ∀ (k pc : Nat) (ls : am_L) (st : List Value) (S : am_S) (I : am_I) (J : am_J) (H : Heap) (locs : List Loc) (arr : Array Slot) (cells slots : Nat), am_run (am_R d) y k pc ls st S I J (am_eq r S' I' J') → am_Wd D cA b h L s S I J H locs → am_LV b h arr (am_ml y) ls → n0 + cells = S.length → z0 + slots = am_nS S → W p l e R s m args below meth c H locs cells slots Q (F0 m pc arr (st.map (am_cv b h))) := by
  intro k
  induction k with
  | zero => intro pc ls st S I J H locs arr cells slots hr; exact hr.elim
  | succ k ih =>
    intro pc ls st S I J H locs arr cells slots hr Wd hl hc hsl
    have hle := am_run_le (am_R_le d) _ _ _ _ _ _ _ hr
    unfold am_run at hr
    cases hs : am_step y pc ls st S I J with
    | none => rw [hs] at hr; exact hr.elim
    | some z =>
      rw [hs] at hr
      obtain ⟨i, n, h1, h2, h3⟩ := am_step_inv hs
      rcases am_ex_inv h3 with ⟨pc', ls', st', q, rfl⟩ | ⟨⟨ls', st', S1, I1, J1⟩, q, rfl⟩ | ⟨⟨ls', st', S1, I1, J1⟩, q, rfl⟩ | ⟨r1, q, rfl⟩ | ⟨⟨y1, as1, st1⟩, q, rfl⟩
      · exact am_so_pu Cx Wd (by have := hle.1; omega) (by have := hle.2.1; omega) h1 h2 q hl (fun arr' hl' => ih _ _ _ _ _ _ _ _ _ _ _ hr Wd hl' hc hsl)
      · have hle1 := am_run_le (am_R_le d) _ _ _ _ _ _ _ hr
        obtain ⟨hle0, e9⟩ := am_me_le q
        refine am_so_me Cx Wd hs0 hc (by have := hle1.1; have := hle0.1; omega) (by have := hle1.2.1; have := hle0.2.1; omega) h1 h2 hl.1 q (fun H1 locs1 _ w => ?_)
        exact ih _ _ _ _ _ _ _ _ _ _ _ hr w (by rw [e9]; exact hl) (by have := hle0.1; omega) (by have := hle0.2.1; omega)
      · have hle1 := am_run_le (am_R_le d) _ _ _ _ _ _ _ hr
        obtain ⟨mm, nn, rr, rfl, g1, rfl, g2, g3, rfl, rfl, rfl, rfl, rfl⟩ := am_gr_inv q
        have hn : n = 4 := by simpa [am_isw, am_iln] using h2
        subst hn
        have hle0 : am_Le S I _ _ := am_Le.gr (S := S) (I := I) (n := nn.toNatClampNeg) (k := mm.toNatClampNeg)
        refine hG Cx Wd hs0 hc g1 h1 g2 g3 (by have := hle1.1; have := hle0.1; omega) (by have := hle1.2.1; have := hle0.2.1; omega) (fun H1 locs1 w => ?_)
        exact ih _ _ _ _ _ _ _ _ _ _ _ hr w hl (by have := hle0.1; omega) (by have := hle0.2.1; omega)
      · obtain ⟨rfl, rfl, rfl, rfl⟩ := hr
        have e9 := am_re_iln q
        have hn : n = 1 := by rcases h2 with h2 | h2
                              · rw [e9.1] at h2; cases h2
                              · rw [h2, e9.2]
        subst hn
        have := kret H locs arr pc i st Wd h1 q
        rw [show S.length - n0 = cells by omega, show am_nS S - z0 = slots by omega] at this
        exact this
      · obtain ⟨r1, S1, I1, J1, g1, g2⟩ := hr
        have hle1 := am_run_le (am_R_le d) _ _ _ _ _ _ _ g2
        have hle0 := am_R_le _ _ _ _ _ _ _ _ _ _ g1
        refine am_so_call IH Cx hRm Wd hs0 hc hl.1 h1 h2 q g1 (by have := hle1.1; have := hle0.1; omega) (by have := hle1.2.1; have := hle0.2.1; omega) (fun H1 locs1 w => ?_)
        exact ih _ _ _ _ _ _ _ _ _ _ _ g2 w hl (by have := hle0.1; omega) (by have := hle0.2.1; omega)
theorem am_entry_mem (b h : Nat) : ∀ (as : List Value) (k i : Nat) (v : Value), (am_sl as)[i]? = some (some v) → (k + i, am_cv b h v) ∈ lv_args k (as.map (am_cv b h)) := by
  intro as
  induction as with
  | nil => intro k i v hi; cases hi
  | cons a t ih =>
    intro k i v hi
    have two : am_sl (a :: t) = some a :: none :: am_sl t → a.category = 2 → (k + i, am_cv b h v) ∈ lv_args k ((a :: t).map (am_cv b h)) := by
      intro hs hc
      rw [hs] at hi
      show _ ∈ (k, am_cv b h a) :: lv_args (if (am_cv b h a).category = 2 then k + 2 else k + 1) (t.map (am_cv b h))
      rw [am_cat, if_pos hc]
      match i, hi with
      | 0, hi => cases hi; exact List.mem_cons_self
      | 1, hi => cases hi
      | j + 2, hi =>
        have := ih (k + 2) j v hi
        rw [show k + 2 + j = k + (j + 2) by omega] at this
        exact List.mem_cons_of_mem _ this
    have one : am_sl (a :: t) = some a :: am_sl t → ¬ a.category = 2 → (k + i, am_cv b h v) ∈ lv_args k ((a :: t).map (am_cv b h)) := by
      intro hs hc
      rw [hs] at hi
      show _ ∈ (k, am_cv b h a) :: lv_args (if (am_cv b h a).category = 2 then k + 2 else k + 1) (t.map (am_cv b h))
      rw [am_cat, if_neg hc]
      match i, hi with
      | 0, hi => cases hi; exact List.mem_cons_self
      | j + 1, hi =>
        have := ih (k + 1) j v hi
        rw [show k + 1 + j = k + (j + 1) by omega] at this
        exact List.mem_cons_of_mem _ this
    cases a <;> first | exact two rfl rfl | exact one rfl (by simp [Value.category])
theorem am_sl_len (b h : Nat) : ∀ as : List Value, (lg_sl (as.map (am_cv b h))).length = (am_sl as).length := by
  intro as
  induction as with
  | nil => rfl
  | cons a t ih =>
    have e : lg_sl ((a :: t).map (am_cv b h)) = (if (am_cv b h a).category = 2 then [.val (am_cv b h a), .second] else [.val (am_cv b h a)]) ++ lg_sl (t.map (am_cv b h)) := by
      unfold lg_sl; rw [List.map_cons, List.flatMap_cons]
    rw [e, am_cat, List.length_append, ih]
    cases a <;> simp [am_sl, Value.category] <;> omega
theorem am_entry_LV {b h nL : Nat} {as : List Value} (hl : (am_sl as).length ≤ nL) : am_LV b h (lg_sl (as.map (am_cv b h)) ++ List.replicate (nL - (lg_sl (as.map (am_cv b h))).length) Slot.unset).toArray nL (am_en nL as) := by
  have h1 := lv_entry (as.map (am_cv b h)) (n := nL) (by rw [am_sl_len]; exact hl)
  refine ⟨h1.1, by unfold am_en; rw [List.length_append, List.length_replicate]; omega, h1.2.1, fun i v hv => ?_⟩
  have hi : (am_sl as)[i]? = some (some v) := by
    unfold am_en at hv
    by_cases g : i < (am_sl as).length
    · rw [List.getElem?_append_left g] at hv; exact hv
    · rw [List.getElem?_append_right (by omega), List.getElem?_replicate] at hv
      split at hv
      · cases hv
      · cases hv
  have := am_entry_mem b h as 0 i v hi
  rw [Nat.zero_add] at this
  exact h1.2.2 _ this
theorem am_met (hG : am_GrOK l) : ∀ d : Nat, am_MetD l d := by
  intro d
  induction d with
  | zero => intro y as S I J r S' I' J' _ hR; exact hR.elim
  | succ d ih =>
    intro y as S I J r S' I' J' hy hR D cA b h L
    obtain ⟨hlen, k, hrun⟩ := hR
    obtain ⟨t1, t2, t3, t4, t5, t6, t7⟩ := am_ms_at hy
    refine Met.ofW (cc := am_by y) (maxL := am_ml y) (ret := am_rt y) t3 rfl ?_
    intro p e s m args below meth c s₁ B hml hv
    obtain ⟨rfl, hK, hP, hsz, hX, hbh, hk0, hL0, hO1, hO2, hO3⟩ := hv
    have hts := atoms_spec (ws := am_ws y) B.pre
    have hown : s.vm.findClass (am_cn (am_ow y)) = some m.cls := by rw [← t1]; exact findClass_of_methodNamed B.named
    have hin : am_isI y = true → meth.name = "<init>" := fun q => (name_of_methodNamed B.named B.method).1.trans (of_decide_eq_true q)
    have hlocks := B.notSynchronized
    have hr := B.returns
    have hx := B.exec
    have hb := B.bytes
    have hle := am_run_le (am_R_le d) _ _ _ _ _ _ _ hrun
    have h1 : 0 < S.length := am_kd_lt hk0 (by decide)
    rw [lg_entry_eq]
    refine am_so_run (D := D) (cA := cA) (b := b) (h := h) (L := L) (n0 := S.length) (z0 := am_nS S) hG ih (y := y) ⟨hx, hb, hml, hown, fun w hw => hts w (List.mem_cons_of_mem _ hw), hin, ?_, ?_⟩ ⟨Nat.le_refl _, ?_⟩ hsz ?_ ?_ ?_ k 0 _ [] S I J s.heap [] _ 0 0 hrun ⟨hK, hP, va_S.rf, hX, hbh, by omega, hk0, hL0, hO1, hO2, hO3⟩ (am_entry_LV hlen) rfl rfl
    · show 1 ≤ d + 1; omega
    · show 64 ≤ 64 * (d + 1); omega
    · show 64 * d + 35 ≤ 64 * (d + 1); omega
    · show S'.length ≤ S.length + (S'.length - S.length); omega
    · show am_nS S' ≤ am_nS S + (am_nS S' - am_nS S); omega
    · intro H locs arr pc i st Wd hd hre
      have hq : ∀ t : State, t.heap = H → s.WarmedH t.vm → am_Qc D cA b h r S' I' J' (as.map (am_cv b h)).toArray s (.returned (r.map (am_cv b h))) t := fun t ht hW => ⟨rfl, by rw [ht]; exact Wd.2.1, Wd.2.2.1.F ht⟩
      cases i
      case ireturn =>
        simp only [am_re] at hre
        split at hre
        · next q => cases hre; exact W.iret hx hb (by rw [hr, q]) hq Wd.2.2.1.2.2 hd
        · next q =>
          split at hre
          · next q2 => cases hre; exact W.zret hx hb (by rw [hr, q]) (am_bool_nar q2).1 hq Wd.2.2.1.2.2 hd
          · cases hre
        · cases hre
      case lreturn =>
        simp only [am_re] at hre
        split at hre
        · next q => cases hre; exact W.lret hx hb (by rw [hr, q]) hq Wd.2.2.1.2.2 hd
        · cases hre
      case return_ =>
        simp only [am_re] at hre
        split at hre
        · next q => cases hre; exact W.vret hx hb (by rw [hr, q]) hq Wd.2.2.1.2.2 hd
        · cases hre
      all_goals (exfalso; revert hre; simp [am_re])
end AMR
