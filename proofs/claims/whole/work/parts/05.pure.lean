/-! steps that write no cell -/
section AMP
variable {p : Program} {l : Launch} {e : Env} {R : Room} {s : State} {m : MethodId} {args : Array Value} {below : List Frame} {meth : Method} {c : Code} {H : Heap} {locs : List Loc} {cells slots : Nat} {Q : State → Prop}
variable {cA : Nat → ClassId} {D : va_G} {b h L y pc n : Nat} {ls ls' : am_L} {st st' : List Value} {S : am_S} {I : am_I} {J : am_J} {arr : Array Slot} {pc' : Nat}
theorem am_ii_inv {f : Int32 → Int32 → Int32} (g : am_ii pc ls st f = some (pc', ls', st')) : ∃ x y r, st = .int y :: .int x :: r ∧ pc' = pc + 1 ∧ ls' = ls ∧ st' = .int (f x y) :: r := by
  unfold am_ii at g
  split at g
  · cases g; exact ⟨_, _, _, rfl, rfl, rfl, rfl⟩
  · cases g
theorem am_ll_inv {f : Int64 → Int64 → Int64} (g : am_ll pc ls st f = some (pc', ls', st')) : ∃ x y r, st = .long y :: .long x :: r ∧ pc' = pc + 1 ∧ ls' = ls ∧ st' = .long (f x y) :: r := by
  unfold am_ll at g
  split at g
  · cases g; exact ⟨_, _, _, rfl, rfl, rfl, rfl⟩
  · cases g
theorem am_lld_inv {f : Int64 → Int64 → Int64} (g : am_lld pc ls st f = some (pc', ls', st')) : ∃ x y r, ¬ y = 0 ∧ st = .long y :: .long x :: r ∧ pc' = pc + 1 ∧ ls' = ls ∧ st' = .long (f x y) :: r := by
  unfold am_lld at g
  split at g
  · split at g
    · cases g
    · next q => cases g; exact ⟨_, _, _, q, rfl, rfl, rfl, rfl⟩
  · cases g
theorem am_ldi_inv {i : Nat} (g : am_ldi pc i ls st = some (pc', ls', st')) : ∃ x, am_ld ls i = some (.int x) ∧ pc' = pc ∧ ls' = ls ∧ st' = .int x :: st := by
  unfold am_ldi at g
  split at g
  · next q => cases g; exact ⟨_, q, rfl, rfl, rfl⟩
  · cases g
theorem am_ldl_inv {i : Nat} (g : am_ldl pc i ls st = some (pc', ls', st')) : ∃ x, am_ld ls i = some (.long x) ∧ pc' = pc ∧ ls' = ls ∧ st' = .long x :: st := by
  unfold am_ldl at g
  split at g
  · next q => cases g; exact ⟨_, q, rfl, rfl, rfl⟩
  · cases g
theorem am_lda_inv {i : Nat} (g : am_lda pc i ls st = some (pc', ls', st')) : ∃ x, am_ld ls i = some (.ref x) ∧ pc' = pc ∧ ls' = ls ∧ st' = .ref x :: st := by
  unfold am_lda at g
  split at g
  · next q => cases g; exact ⟨_, q, rfl, rfl, rfl⟩
  · cases g
theorem am_sti_inv {i : Nat} (g : am_sti pc i ls st = some (pc', ls', st')) : ∃ x, st = .int x :: st' ∧ i < ls.length ∧ pc' = pc ∧ ls' = am_st1 ls i (.int x) := by
  unfold am_sti at g
  split at g
  · split at g
    · next q => cases g; exact ⟨_, rfl, q, rfl, rfl⟩
    · cases g
  · cases g
theorem am_sta_inv {i : Nat} (g : am_sta pc i ls st = some (pc', ls', st')) : ∃ x, st = .ref x :: st' ∧ i < ls.length ∧ pc' = pc ∧ ls' = am_st1 ls i (.ref x) := by
  unfold am_sta at g
  split at g
  · split at g
    · next q => cases g; exact ⟨_, rfl, q, rfl, rfl⟩
    · cases g
  · cases g
theorem am_stl_inv {i : Nat} (g : am_stl pc i ls st = some (pc', ls', st')) : ∃ x, st = .long x :: st' ∧ i + 1 < ls.length ∧ pc' = pc ∧ ls' = am_st2 ls i (.long x) := by
  unfold am_stl at g
  split at g
  · split at g
    · next q => cases g; exact ⟨_, rfl, q, rfl, rfl⟩
    · cases g
  · cases g
theorem am_tg_inv {off : Int} {t : Nat} (g : am_tg pc off = some t) : (pc : Int) + off = (t : Int) := by
  unfold am_tg at g
  split at g
  · next q => cases g; omega
  · cases g
theorem am_br_inv {off : Int} {c : Prop} [Decidable c] {r : List Value} (g : am_br pc off ls r c = some (pc', ls', st')) : ∃ t, am_tg pc off = some t ∧ pc' = (if c then t else pc + 3) ∧ ls' = ls ∧ st' = r := by
  unfold am_br at g
  split at g
  · next q => cases g; exact ⟨_, q, rfl, rfl, rfl⟩
  · cases g
theorem am_so_if {off : Int} {x z : Int32} {r : List Value} {cd : ClassFile.Cond} (hx : p.tables.exec = Jvm.exec) (hb : c.code = am_by y) (hd : decode (am_by y) pc = .ok (.if_icmp cd off, 3)) (g : am_if pc off ls r x z cd = some (pc', ls', st')) (kk : W p l e R s m args below meth c H locs cells slots Q (F0 m pc' arr (st'.map (am_cv b h)))) : W p l e R s m args below meth c H locs cells slots Q (F0 m pc arr (.int z :: .int x :: r.map (am_cv b h))) := by
  cases cd
  case eq =>
    obtain ⟨t, ht, rfl, rfl, rfl⟩ := am_br_inv (c := x = z) g
    exact lv_icmp_eq hx hb hd (am_tg_inv ht) (fun q => by rw [if_pos q] at kk; exact kk) (fun q => by rw [if_neg q] at kk; exact kk)
  case ne =>
    obtain ⟨t, ht, rfl, rfl, rfl⟩ := am_br_inv (c := x ≠ z) g
    exact lv_icmp_ne hx hb hd (am_tg_inv ht) (fun q => by rw [if_pos q] at kk; exact kk) (fun q => by rw [if_neg (fun z9 => z9 q)] at kk; exact kk)
  case lt =>
    obtain ⟨t, ht, rfl, rfl, rfl⟩ := am_br_inv (c := x < z) g
    exact lv_icmp_lt hx hb hd (am_tg_inv ht) (fun q => by rw [if_pos q] at kk; exact kk) (fun q => by rw [if_neg q] at kk; exact kk)
  case ge =>
    obtain ⟨t, ht, rfl, rfl, rfl⟩ := am_br_inv (c := z ≤ x) g
    exact lv_icmp_ge hx hb hd (am_tg_inv ht) (fun q => by rw [if_pos q] at kk; exact kk) (fun q => by rw [if_neg q] at kk; exact kk)
  case gt =>
    obtain ⟨t, ht, rfl, rfl, rfl⟩ := am_br_inv (c := z < x) g
    exact lv_icmp_gt hx hb hd (am_tg_inv ht) (fun q => by rw [if_pos q] at kk; exact kk) (fun q => by rw [if_neg q] at kk; exact kk)
  case le =>
    obtain ⟨t, ht, rfl, rfl, rfl⟩ := am_br_inv (c := x ≤ z) g
    exact lv_icmp_le hx hb hd (am_tg_inv ht) (fun q => by rw [if_pos q] at kk; exact kk) (fun q => by rw [if_neg q] at kk; exact kk)
theorem am_so_if0 {off : Int} {x : Int32} {r : List Value} {cd : ClassFile.Cond} (hx : p.tables.exec = Jvm.exec) (hb : c.code = am_by y) (hd : decode (am_by y) pc = .ok (.ifCond cd off, 3)) (g : am_if pc off ls r x 0 cd = some (pc', ls', st')) (kk : W p l e R s m args below meth c H locs cells slots Q (F0 m pc' arr (st'.map (am_cv b h)))) : W p l e R s m args below meth c H locs cells slots Q (F0 m pc arr (.int x :: r.map (am_cv b h))) := by
  cases cd
  case eq =>
    obtain ⟨t, ht, rfl, rfl, rfl⟩ := am_br_inv (c := x = 0) g
    exact lv_if_eq hx hb hd (am_tg_inv ht) (fun q => by rw [if_pos q] at kk; exact kk) (fun q => by rw [if_neg q] at kk; exact kk)
  case ne =>
    obtain ⟨t, ht, rfl, rfl, rfl⟩ := am_br_inv (c := x ≠ 0) g
    exact lv_if_ne hx hb hd (am_tg_inv ht) (fun q => by rw [if_pos q] at kk; exact kk) (fun q => by rw [if_neg (fun z9 => z9 q)] at kk; exact kk)
  case lt =>
    obtain ⟨t, ht, rfl, rfl, rfl⟩ := am_br_inv (c := x < 0) g
    exact lv_if_lt hx hb hd (am_tg_inv ht) (fun q => by rw [if_pos q] at kk; exact kk) (fun q => by rw [if_neg q] at kk; exact kk)
  case ge =>
    obtain ⟨t, ht, rfl, rfl, rfl⟩ := am_br_inv (c := 0 ≤ x) g
    exact lv_if_ge hx hb hd (am_tg_inv ht) (fun q => by rw [if_pos q] at kk; exact kk) (fun q => by rw [if_neg q] at kk; exact kk)
  case gt =>
    obtain ⟨t, ht, rfl, rfl, rfl⟩ := am_br_inv (c := 0 < x) g
    exact lv_if_gt hx hb hd (am_tg_inv ht) (fun q => by rw [if_pos q] at kk; exact kk) (fun q => by rw [if_neg q] at kk; exact kk)
  case le =>
    obtain ⟨t, ht, rfl, rfl, rfl⟩ := am_br_inv (c := x ≤ 0) g
    exact lv_if_le hx hb hd (am_tg_inv ht) (fun q => by rw [if_pos q] at kk; exact kk) (fun q => by rw [if_neg q] at kk; exact kk)
theorem am_E_obj {a ci : Nat} (h1 : am_kd S a = ci) (h2 : ci < 10) : am_E cA h S I J a = .inr (ci, (List.range (am_nf ci)).map (am_fv h S I J a ci)) := by
  unfold am_E; rw [h1, if_pos h2]
theorem am_E_int {a k : Nat} (h1 : am_kd S a = k) (h2 : k = 20 ∨ k = 21 ∨ k = 22) : am_E cA h S I J a = .inl (cA k, am_ln S a, .inl (I a)) := by
  unfold am_E; rw [h1, if_neg (by omega), if_neg (by omega), if_neg (by omega)]
theorem am_E_long {a : Nat} (h1 : am_kd S a = 23) : am_E cA h S I J a = .inl (cA 23, am_ln S a, .inr (.inl (J a))) := by
  unfold am_E; rw [h1, if_neg (by omega), if_pos rfl]
theorem am_E_ref {a k : Nat} (h1 : am_kd S a = k) (h2 : k = 24 ∨ k = 25) : am_E cA h S I J a = .inl (cA k, am_ln S a, .inr (.inr (.inr (.inr (fun j => am_or h (am_rf S a j)))))) := by
  unfold am_E; rw [h1, if_neg (by omega), if_neg (by omega), if_pos h2]
theorem am_so_gf {k : Nat} (Cx : am_Cx p s m args meth c R y) (Wd : am_Wd D cA b h L s S I J H locs) (hd : decode (am_by y) pc = .ok (.getfield k, 3)) (g : am_gf (am_ow y) pc k ls st S I J = some (pc', ls', st')) (kk : ls' = ls → W p l e R s m args below meth c H locs cells slots Q (F0 m pc' arr (st'.map (am_cv b h)))) : W p l e R s m args below meth c H locs cells slots Q (F0 m pc arr (st.map (am_cv b h))) := by
  obtain ⟨hx, hb, -, hown, hts, -, -, -⟩ := Cx
  obtain ⟨hK, hP, -⟩ := Wd
  unfold am_gf at g
  split at g
  case h_2 => cases g
  case h_1 a r =>
  split at g
  case h_2 => cases g
  case h_1 ci j hfl =>
  split at g
  case isFalse => cases g
  case isTrue hc =>
  obtain ⟨hkd, ha0⟩ := hc
  obtain ⟨hci, hj, hlink, hsame⟩ := am_fl_ok hfl
  have hlt : a < S.length := am_kd_lt hkd (by omega)
  have he := am_W_at cA h I J ha0 hlt
  rw [am_E_obj hkd hci] at he
  have hv : ((List.range (am_nf ci)).map (am_fv h S I J a ci))[j]? = some (am_fv h S I J a ci j) := by
    rw [List.getElem?_map, List.getElem?_range hj]; rfl
  have key : W p l e R s m args below meth c H locs cells slots Q (F0 m (pc + 3) arr (am_fv h S I J a ci j :: r.map (am_cv b h))) → W p l e R s m args below meth c H locs cells slots Q (F0 m pc arr ((Value.ref a :: r).map (am_cv b h))) := by
    intro k9
    show W p l e R s m args below meth c H locs cells slots Q (F0 m pc arr (.ref (am_ad b h a) :: r.map (am_cv b h)))
    have ead : am_ad b h a = h + a := by unfold am_ad; rw [if_neg ha0]
    rw [ead]
    exact va_get (D := D) (C := am_cn ci) (T := am_TX ci) (N := am_nf ci) (ref := am_cn ci) hx hb hts (am_lay_in hci) hown hK hP (a - 1) he (am_cl_get hci) j hj (hts _ hlink) (fun z hz => by rw [hsame] at hz; exact hz) hv hd k9
  split at g
  case h_1 e1 =>
    cases g
    apply key
    unfold am_fv; rw [e1]
    exact kk rfl
  case h_2 e1 =>
    cases g
    apply key
    unfold am_fv; rw [e1]
    exact kk rfl
  case h_3 e1 =>
    cases g
    apply key
    unfold am_fv; rw [e1]
    exact kk rfl
  case h_4 e1 e2 e3 =>
    split at g
    case isTrue => cases g
    case isFalse hn =>
    cases g
    apply key
    have ev : am_fv h S I J a ci j = .ref (am_ad b h (am_rf S a j)) := by
      unfold am_fv
      split
      · next q => exact absurd q e1
      · next q => exact absurd q e2
      · next q => exact absurd q e3
      · unfold am_or am_ad; rw [if_neg hn, if_neg hn]; rfl
    rw [ev]
    exact kk rfl
theorem am_ad_ne {a : Nat} (h0 : a ≠ 0) : am_ad b h a = h + a := by unfold am_ad; rw [if_neg h0]
theorem am_so_al {k : Nat} (hk : k = 20 ∨ k = 21 ∨ k = 22) {a : Nat} (hkd : am_kd S a = k) (h0 : a ≠ 0) : (am_W cA h S I J)[a - 1]? = some (h + a, .inl (cA k, am_ln S a, .inl (I a))) := by
  have hlt : a < S.length := am_kd_lt hkd (by omega)
  have he := am_W_at cA h I J h0 hlt
  rw [am_E_int hkd hk] at he
  exact he
set_option maxHeartbeats 4000000 in
theorem am_so_pu {i : Instr} (Cx : am_Cx p s m args meth c R y) (Wd : am_Wd D cA b h L s S I J H locs) (hcell : cells ≤ R.cells) (hslot : slots ≤ R.slots) (hd : decode (am_by y) pc = .ok (i, n)) (hn : am_isw i = true ∨ n = am_iln i) (g : am_pu (am_ow y) pc ls st S I J i = some (pc', ls', st')) (hl : am_LV b h arr (am_ml y) ls)
    (kk : ∀ arr' : Array Slot, am_LV b h arr' (am_ml y) ls' → W p l e R s m args below meth c H locs cells slots Q (F0 m pc' arr' (st'.map (am_cv b h)))) : W p l e R s m args below meth c H locs cells slots Q (F0 m pc arr (st.map (am_cv b h))) := by
  have hx := Cx.1
  have hb := Cx.2.1
  have hml := Cx.2.2.1
  have hown := Cx.2.2.2.1
  have hts := Cx.2.2.2.2.1
  have hfr := Cx.2.2.2.2.2.2.1
  have hlo := Cx.2.2.2.2.2.2.2
  have hK := Wd.1
  have hP := Wd.2.1
  have hS := Wd.2.2.1
  have hX := Wd.2.2.2.1
  have hbh := Wd.2.2.2.2.1
  have hhs := Wd.2.2.2.2.2.1
  have hk0 := Wd.2.2.2.2.2.2.1
  have hL0 := Wd.2.2.2.2.2.2.2.1
  have hsz : arr.size = am_ml y := hl.1
  have hll : ls.length = am_ml y := hl.2.1
  have hbA : ¬ (fun q => h < q) b := by show ¬ h < b; omega
  cases i
  case iconst k => have hn : n = 1 := by simpa [am_isw, am_iln] using hn
                   subst hn; cases g; exact lv_iconst hx hb hd rfl (kk _ hl)
  case bipush k => have hn : n = 2 := by simpa [am_isw, am_iln] using hn
                   subst hn; cases g; exact lv_bipush hx hb hd rfl (kk _ hl)
  case sipush k => have hn : n = 3 := by simpa [am_isw, am_iln] using hn
                   subst hn; cases g; exact lv_sipush hx hb hd rfl (kk _ hl)
  case lconst k => have hn : n = 1 := by simpa [am_isw, am_iln] using hn
                   subst hn; cases g; exact lv_lconst hx hb hd rfl (kk _ hl)
  case ldc2_w k =>
    have hn : n = 3 := by simpa [am_isw, am_iln] using hn
    subst hn
    simp only [am_pu] at g
    split at g
    · next q => cases g; exact lv_ldc2 hx hb hown (hts _ (am_lc_ok q)) hd (kk _ hl)
    · cases g
  case iload_n k =>
    have hn : n = 1 := by simpa [am_isw, am_iln] using hn
    subst hn
    obtain ⟨x, q, rfl, rfl, rfl⟩ := am_ldi_inv g
    exact lv_iload_n hx hb hd rfl (hl.at q) (kk _ hl)
  case iload k =>
    have hn : n = 2 := by simpa [am_isw, am_iln] using hn
    subst hn
    obtain ⟨x, q, rfl, rfl, rfl⟩ := am_ldi_inv g
    exact lv_iload hx hb hd (hl.at q) (kk _ hl)
  case lload_n k =>
    have hn : n = 1 := by simpa [am_isw, am_iln] using hn
    subst hn
    obtain ⟨x, q, rfl, rfl, rfl⟩ := am_ldl_inv g
    exact lv_lload_n hx hb hd rfl (hl.at q) (kk _ hl)
  case lload k =>
    have hn : n = 2 := by simpa [am_isw, am_iln] using hn
    subst hn
    obtain ⟨x, q, rfl, rfl, rfl⟩ := am_ldl_inv g
    exact lv_lload hx hb hd (hl.at q) (kk _ hl)
  case aload_n k =>
    have hn : n = 1 := by simpa [am_isw, am_iln] using hn
    subst hn
    obtain ⟨x, q, rfl, rfl, rfl⟩ := am_lda_inv g
    exact lv_aload_n hx hb hd rfl (hl.at q) (kk _ hl)
  case aload k =>
    have hn : n = 2 := by simpa [am_isw, am_iln] using hn
    subst hn
    obtain ⟨x, q, rfl, rfl, rfl⟩ := am_lda_inv g
    exact lv_aload hx hb hd (hl.at q) (kk _ hl)
  case istore_n k =>
    have hn : n = 1 := by simpa [am_isw, am_iln] using hn
    subst hn
    obtain ⟨x, rfl, q, rfl, rfl⟩ := am_sti_inv g
    exact lv_istore_n hx hb hd rfl hl.has (by omega) rfl (fun arr' h' => kk arr' (hl.st1 (v := .int x) h'))
  case istore k =>
    have hn : n = 2 := by simpa [am_isw, am_iln] using hn
    subst hn
    obtain ⟨x, rfl, q, rfl, rfl⟩ := am_sti_inv g
    exact lv_istore hx hb hd hl.has (by omega) rfl (fun arr' h' => kk arr' (hl.st1 (v := .int x) h'))
  case lstore_n k =>
    have hn : n = 1 := by simpa [am_isw, am_iln] using hn
    subst hn
    obtain ⟨x, rfl, q, rfl, rfl⟩ := am_stl_inv g
    exact lv_lstore_n hx hb hd rfl hl.has (by omega) rfl (fun arr' h' => kk arr' (hl.st2 (v := .long x) h'))
  case lstore k =>
    have hn : n = 2 := by simpa [am_isw, am_iln] using hn
    subst hn
    obtain ⟨x, rfl, q, rfl, rfl⟩ := am_stl_inv g
    exact lv_lstore hx hb hd hl.has (by omega) rfl (fun arr' h' => kk arr' (hl.st2 (v := .long x) h'))
  case astore_n k =>
    have hn : n = 1 := by simpa [am_isw, am_iln] using hn
    subst hn
    obtain ⟨x, rfl, q, rfl, rfl⟩ := am_sta_inv g
    exact lv_astore_n hx hb hd rfl hl.has (by omega) rfl (fun arr' h' => kk arr' (hl.st1 (v := .ref x) h'))
  case astore k =>
    have hn : n = 2 := by simpa [am_isw, am_iln] using hn
    subst hn
    obtain ⟨x, rfl, q, rfl, rfl⟩ := am_sta_inv g
    exact lv_astore hx hb hd hl.has (by omega) rfl (fun arr' h' => kk arr' (hl.st1 (v := .ref x) h'))
  case iinc k v =>
    have hn : n = 3 := by simpa [am_isw, am_iln] using hn
    subst hn
    simp only [am_pu] at g
    split at g
    · next x q =>
      split at g
      · next q2 =>
        cases g
        have hm : (k, Value.int x) ∈ am_lv b h ls := am_lv_mem.mpr ⟨.int x, by
          unfold am_ld at q
          rw [List.getD_eq_getElem?_getD, List.getElem?_eq_getElem q2] at q
          rw [List.getElem?_eq_getElem q2]; exact congrArg some q, rfl⟩
        obtain ⟨k9, hk9⟩ := List.getElem?_of_mem hm
        exact lv_iinc hx hb hd hl.has hk9 rfl (by omega) rfl (fun arr' h' => kk arr' (hl.st1 (v := .int (x + Int32.ofInt v)) h'))
      · cases g
    · cases g
  case iadd => have hn : n = 1 := by simpa [am_isw, am_iln] using hn
               subst hn; obtain ⟨x, z, r, rfl, rfl, rfl, rfl⟩ := am_ii_inv g; exact lv_iadd hx hb hd (kk _ hl)
  case isub => have hn : n = 1 := by simpa [am_isw, am_iln] using hn
               subst hn; obtain ⟨x, z, r, rfl, rfl, rfl, rfl⟩ := am_ii_inv g; exact lv_isub hx hb hd (kk _ hl)
  case imul => have hn : n = 1 := by simpa [am_isw, am_iln] using hn
               subst hn; obtain ⟨x, z, r, rfl, rfl, rfl, rfl⟩ := am_ii_inv g; exact lv_imul hx hb hd (kk _ hl)
  case iand => have hn : n = 1 := by simpa [am_isw, am_iln] using hn
               subst hn; obtain ⟨x, z, r, rfl, rfl, rfl, rfl⟩ := am_ii_inv g; exact lv_iand hx hb hd (kk _ hl)
  case ior => have hn : n = 1 := by simpa [am_isw, am_iln] using hn
              subst hn; obtain ⟨x, z, r, rfl, rfl, rfl, rfl⟩ := am_ii_inv g; exact lv_ior hx hb hd (kk _ hl)
  case ixor => have hn : n = 1 := by simpa [am_isw, am_iln] using hn
               subst hn; obtain ⟨x, z, r, rfl, rfl, rfl, rfl⟩ := am_ii_inv g; exact lv_ixor hx hb hd (kk _ hl)
  case ishl => have hn : n = 1 := by simpa [am_isw, am_iln] using hn
               subst hn; obtain ⟨x, z, r, rfl, rfl, rfl, rfl⟩ := am_ii_inv g; exact lv_ishl hx hb hd (kk _ hl)
  case ishr => have hn : n = 1 := by simpa [am_isw, am_iln] using hn
               subst hn; obtain ⟨x, z, r, rfl, rfl, rfl, rfl⟩ := am_ii_inv g; exact lv_ishr hx hb hd (kk _ hl)
  case iushr => have hn : n = 1 := by simpa [am_isw, am_iln] using hn
                subst hn; obtain ⟨x, z, r, rfl, rfl, rfl, rfl⟩ := am_ii_inv g; exact lv_iushr hx hb hd rfl (kk _ hl)
  case irem =>
    have hn : n = 1 := by simpa [am_isw, am_iln] using hn
    subst hn
    simp only [am_pu] at g
    split at g
    · split at g
      · cases g
      · next q => cases g; exact lv_irem hx hb hd q (kk _ hl)
    · cases g
  case ladd => have hn : n = 1 := by simpa [am_isw, am_iln] using hn
               subst hn; obtain ⟨x, z, r, rfl, rfl, rfl, rfl⟩ := am_ll_inv g; exact lv_ladd hx hb hd (kk _ hl)
  case lsub => have hn : n = 1 := by simpa [am_isw, am_iln] using hn
               subst hn; obtain ⟨x, z, r, rfl, rfl, rfl, rfl⟩ := am_ll_inv g; exact lv_lsub hx hb hd (kk _ hl)
  case lmul => have hn : n = 1 := by simpa [am_isw, am_iln] using hn
               subst hn; obtain ⟨x, z, r, rfl, rfl, rfl, rfl⟩ := am_ll_inv g; exact lv_lmul hx hb hd (kk _ hl)
  case ldiv => have hn : n = 1 := by simpa [am_isw, am_iln] using hn
               subst hn; obtain ⟨x, z, r, q, rfl, rfl, rfl, rfl⟩ := am_lld_inv g; exact lv_ldiv hx hb hd q (kk _ hl)
  case lrem => have hn : n = 1 := by simpa [am_isw, am_iln] using hn
               subst hn; obtain ⟨x, z, r, q, rfl, rfl, rfl, rfl⟩ := am_lld_inv g; exact lv_lrem hx hb hd q (kk _ hl)
  case lcmp =>
    have hn : n = 1 := by simpa [am_isw, am_iln] using hn
    subst hn
    simp only [am_pu] at g
    split at g
    · cases g; exact W.lcmp hx hb hd (kk _ hl)
    · cases g
  case i2l =>
    have hn : n = 1 := by simpa [am_isw, am_iln] using hn
    subst hn
    simp only [am_pu] at g
    split at g
    · cases g; exact lv_i2l hx hb hd rfl (kk _ hl)
    · cases g
  case l2i =>
    have hn : n = 1 := by simpa [am_isw, am_iln] using hn
    subst hn
    simp only [am_pu] at g
    split at g
    · cases g; exact lv_l2i hx hb hd rfl (kk _ hl)
    · cases g
  case i2c =>
    have hn : n = 1 := by simpa [am_isw, am_iln] using hn
    subst hn
    simp only [am_pu] at g
    split at g
    · cases g; exact lv_i2c hx hb hd rfl (kk _ hl)
    · cases g
  case dup =>
    have hn : n = 1 := by simpa [am_isw, am_iln] using hn
    subst hn
    simp only [am_pu] at g
    split at g
    · cases g; exact lv_dup hx hb hd rfl (kk _ hl)
    · cases g; exact lv_dup hx hb hd rfl (kk _ hl)
    · cases g
  case dup2 =>
    have hn : n = 1 := by simpa [am_isw, am_iln] using hn
    subst hn
    simp only [am_pu] at g
    split at g
    · cases g; exact lv_dup2_11 hx hb hd rfl rfl (kk _ hl)
    · cases g
  case goto o =>
    have hn : n = 3 := by simpa [am_isw, am_iln] using hn
    subst hn
    simp only [am_pu] at g
    split at g
    · next q => cases g; exact lv_goto hx hb hd (am_tg_inv q) (kk _ hl)
    · cases g
  case ifCond cd o =>
    have hn : n = 3 := by simpa [am_isw, am_iln] using hn
    subst hn
    simp only [am_pu] at g
    split at g
    · have e9 : ls' = ls := by cases cd <;> (obtain ⟨_, _, _, q, _⟩ := am_br_inv g; exact q)
      exact am_so_if0 hx hb hd g (kk _ (by rw [e9]; exact hl))
    · cases g
  case if_icmp cd o =>
    have hn : n = 3 := by simpa [am_isw, am_iln] using hn
    subst hn
    simp only [am_pu] at g
    split at g
    · have e9 : ls' = ls := by cases cd <;> (obtain ⟨_, _, _, q, _⟩ := am_br_inv g; exact q)
      exact am_so_if hx hb hd g (kk _ (by rw [e9]; exact hl))
    · cases g
  case tableswitch df lo hi os =>
    simp only [am_pu, am_tsw] at g
    split at g
    · split at g
      · next q =>
        split at g
        · next q2 => cases g; exact lv_tableOut hx hb hd q (am_tg_inv q2) (kk _ hl)
        · cases g
      · next q =>
        split at g
        · next q1 =>
          split at g
          · next q2 => cases g; exact lv_tableIn hx hb hd (fun z => q (Or.inl z)) (fun z => q (Or.inr z)) q1 (am_tg_inv q2) (kk _ hl)
          · cases g
        · cases g
    · cases g
  case getfield k =>
    have hn : n = 3 := by simpa [am_isw, am_iln] using hn
    subst hn
    exact am_so_gf Cx Wd hd g (fun e9 => kk _ (by rw [e9]; exact hl))
  case iaload =>
    have hn : n = 1 := by simpa [am_isw, am_iln] using hn
    subst hn
    simp only [am_pu, am_al] at g
    split at g
    · next i9 a r =>
      split at g
      · next q =>
        cases g
        obtain ⟨q1, q2⟩ := q
        by_cases h0 : a = 0
        · subst h0
          rw [hL0] at q2
          exact va_sld hx hb hX (by omega) hbA hS (vp_in_iff.mpr q2) hd (kk _ hl)
        · show W p l e R s m args below meth c H locs cells slots Q (F0 m pc arr (.int i9 :: .ref (am_ad b h a) :: r.map (am_cv b h)))
          rw [am_ad_ne h0]
          exact va_iald hx hb hK hP (a - 1) 0 (am_so_al (Or.inl rfl) q1 h0) rfl (vp_in_iff.mpr q2) hd (kk _ hl)
      · cases g
    · cases g
  case baload =>
    have hn : n = 1 := by simpa [am_isw, am_iln] using hn
    subst hn
    simp only [am_pu, am_al] at g
    split at g
    · next i9 a r =>
      split at g
      · next q =>
        cases g
        obtain ⟨q1, q2⟩ := q
        have h0 : a ≠ 0 := fun q => by subst q; rw [hk0] at q1; cases q1
        show W p l e R s m args below meth c H locs cells slots Q (F0 m pc arr (.int i9 :: .ref (am_ad b h a) :: r.map (am_cv b h)))
        rw [am_ad_ne h0]
        exact va_zald hx hb hK hP (a - 1) 1 (am_so_al (Or.inr (Or.inl rfl)) q1 h0) rfl (vp_in_iff.mpr q2) hd (kk _ hl)
      · cases g
    · cases g
  case caload =>
    have hn : n = 1 := by simpa [am_isw, am_iln] using hn
    subst hn
    simp only [am_pu, am_al] at g
    split at g
    · next i9 a r =>
      split at g
      · next q =>
        cases g
        obtain ⟨q1, q2⟩ := q
        have h0 : a ≠ 0 := fun q => by subst q; rw [hk0] at q1; cases q1
        show W p l e R s m args below meth c H locs cells slots Q (F0 m pc arr (.int i9 :: .ref (am_ad b h a) :: r.map (am_cv b h)))
        rw [am_ad_ne h0]
        exact va_cald hx hb hK hP (a - 1) 2 (am_so_al (Or.inr (Or.inr rfl)) q1 h0) rfl (vp_in_iff.mpr q2) hd (kk _ hl)
      · cases g
    · cases g
  case laload =>
    have hn : n = 1 := by simpa [am_isw, am_iln] using hn
    subst hn
    simp only [am_pu, am_jl] at g
    split at g
    · next i9 a r =>
      split at g
      · next q =>
        cases g
        obtain ⟨q1, q2⟩ := q
        have h0 : a ≠ 0 := fun q => by subst q; rw [hk0] at q1; cases q1
        have hlt : a < S.length := am_kd_lt q1 (by omega)
        have he := am_W_at cA h I J h0 hlt
        rw [am_E_long q1] at he
        show W p l e R s m args below meth c H locs cells slots Q (F0 m pc arr (.int i9 :: .ref (am_ad b h a) :: r.map (am_cv b h)))
        rw [am_ad_ne h0]
        exact va_lald hx hb hK hP (a - 1) 3 he rfl (vp_in_iff.mpr q2) hd (kk _ hl)
      · cases g
    · cases g
  case aaload =>
    have hn : n = 1 := by simpa [am_isw, am_iln] using hn
    subst hn
    simp only [am_pu, am_ql] at g
    split at g
    · next i9 a r =>
      split at g
      · next q =>
        cases g
        obtain ⟨q1, q2, q3⟩ := q
        have h0 : a ≠ 0 := fun q => by subst q; rw [hk0] at q1; omega
        have hlt : a < S.length := am_kd_lt (k := am_kd S a) rfl (by omega)
        have he := am_W_at cA h I J h0 hlt
        rw [am_E_ref rfl q1] at he
        show W p l e R s m args below meth c H locs cells slots Q (F0 m pc arr (.int i9 :: .ref (am_ad b h a) :: r.map (am_cv b h)))
        rw [am_ad_ne h0]
        have hvv : vp_in i9 (am_ln S a) := vp_in_iff.mpr q2
        have hlt9 : i9.toNatClampNeg < am_ln S a := Nat.not_le.mp fun q => hvv (Or.inr q)
        have key : ∀ (t0 : Nat) (ty : FieldType), (am_tys cA)[t0]? = some (cA (am_kd S a), ty) → ty.isReference = true → W p l e R s m args below meth c H locs cells slots Q (F0 m pc arr (.int i9 :: .ref (h + a) :: r.map (am_cv b h))) := by
          intro t0 ty ht hr
          refine W.aald (v := va_rf (am_or h (am_rf S a i9.toNatClampNeg))) (ty := ty) hx hb (hP (a - 1) _ he) ((hK.2 t0 _ ht).1 _ (fun j => va_rf (am_or h (am_rf S a j)))) hr (fun q => by cases q) (by show ¬ (i9 < 0 ∨ (arrV _ _ _).slots.size ≤ _); rw [arrV_size]; exact hvv) (by show (arrV _ _ _).slots[_]? = _; rw [arrV_read _ _ hlt9]) rfl rfl hd ?_
          have ev : va_rf (am_or h (am_rf S a i9.toNatClampNeg)) = .ref (am_ad b h (am_rf S a i9.toNatClampNeg)) := by
            unfold am_or am_ad; rw [if_neg q3, if_neg q3]; rfl
          rw [ev]
          exact kk _ hl
        rcases q1 with q1 | q1
        · exact key 4 (.object "ArborescenceFinder$State") (by rw [q1]; rfl) rfl
        · exact key 5 (.array .long) (by rw [q1]; rfl) rfl
      · cases g
    · cases g
  case arraylength =>
    have hn : n = 1 := by simpa [am_isw, am_iln] using hn
    subst hn
    simp only [am_pu] at g
    split at g
    · next a r =>
      split at g
      · next q =>
        cases g
        by_cases h0 : a = 0
        · subst h0
          rw [hL0] at kk
          exact va_slen (b := b) hx hb hX (by omega) hbA hS hd (kk _ hl)
        · show W p l e R s m args below meth c H locs cells slots Q (F0 m pc arr (.ref (am_ad b h a) :: r.map (am_cv b h)))
          rw [am_ad_ne h0]
          exact va_alen hx hb hK hP (a - 1) 0 (am_so_al (Or.inl rfl) q h0) rfl rfl hd (kk _ hl)
      · cases g
    · cases g
  case invokespecial k =>
    have hn : n = 3 := by simpa [am_isw, am_iln] using hn
    subst hn
    simp only [am_pu] at g
    split at g
    · next a r =>
      split at g
      · next q =>
        cases g
        obtain ⟨p9, i9, s9, q9⟩ := am_iv_ok q.1
        have q9 := of_decide_eq_true q9
        refine W.objInit hx hb hown (hts _ (am_in (List.mem_of_getElem? q9) rfl)) (hts _ (am_in am_w_oi1 rfl)) (hts _ (am_in am_w_oi2 rfl)) rfl (hsz.trans hml.symm) rfl hd hfr ?_ (kk _ hl)
        have h8 : (st'.map fun v => v.category).sum ≤ 8 := q.2
        have h9 : ((st'.map (am_cv b h)).map fun v => v.category).sum = (st'.map fun v => v.category).sum := by
          rw [List.map_map]; congr 1; apply List.map_congr_left; intro v _; exact am_cat b h v
        show 2 * 0 + _ + 12 ≤ _
        rw [h9]; omega
      · cases g
    · cases g
  case invokestatic k =>
    have hn : n = 3 := by simpa [am_isw, am_iln] using hn
    subst hn
    simp only [am_pu] at g
    split at g
    · next z x r =>
      split at g
      · next q =>
        cases g
        obtain ⟨p9, i9, s9, q9⟩ := am_iv_ok q.1
        have q9 := of_decide_eq_true q9
        have h8 : (r.map fun v => v.category).sum ≤ 8 := q.2
        have h9 : ((r.map (am_cv b h)).map fun v => v.category).sum = (r.map fun v => v.category).sum := by
          rw [List.map_map]; congr 1; apply List.map_congr_left; intro v _; exact am_cat b h v
        exact va_mmax hx hb (hml.trans hsz.symm) hown (hts _ (am_in (List.mem_of_getElem? q9) rfl)) (hts _ (am_in am_w_mx1 rfl)) (hts _ (am_in am_w_mx2 rfl)) (hts _ (am_in am_w_mx3 rfl)) hfr (by rw [h9]; omega) hcell hslot hd (kk _ hl)
      · cases g
    · cases g
  all_goals (exfalso; revert g; simp [am_pu])
end AMP
