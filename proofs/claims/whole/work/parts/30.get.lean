/-! what is only read -/
section GT
variable {d L : Nat} {I : am_I} {J : am_J} {Q : am_Q}
theorem t01 : ((0 : Int32) = 0 ∨ (0 : Int32) = 1) = True := eq_true (Or.inl rfl)
theorem t11 : ((1 : Int32) = 0 ∨ (1 : Int32) = 1) = True := eq_true (Or.inr rfl)
theorem t10 : ((1 : Int32) = 0) = False := eq_false (by decide)
theorem t00 : ((0 : Int32) = 0) = True := eq_true rfl
theorem c_hasNode (x : Int32) : am_C (d + 1) 13 [.ref 3, .int x] (cS L) I J Q = if x < 0 then Q (some (.int 0)) (cS L) I J else if I 3 0 ≤ x then Q (some (.int 0)) (cS L) I J else Q (some (.int 1)) (cS L) I J := by
  rw [e13]
  simp only [r13_0, r13_1, r13_4, r13_5, r13_6, r13_9, r13_12, r13_13, r13_16, r13_17, s_3, true_and, and_true, true_or, or_true, if_true, if_false, ne_eq, not_false_eq_true, and_self, t10, am_psh, am_clr, not_true_eq_false, Nat.reduceEqDiff]
theorem c_hasArc (x : Int32) : am_C (d + 1) 14 [.ref 3, .int x] (cS L) I J Q = if x < 0 then Q (some (.int 0)) (cS L) I J else if I 3 2 ≤ x then Q (some (.int 0)) (cS L) I J else Q (some (.int 1)) (cS L) I J := by
  rw [e14]
  simp only [r14_0, r14_1, r14_4, r14_5, r14_6, r14_9, r14_12, r14_13, r14_16, r14_17, s_3, true_and, and_true, true_or, or_true, if_true, if_false, ne_eq, not_false_eq_true, and_self, t10, am_psh, am_clr, not_true_eq_false, Nat.reduceEqDiff]
theorem in2 {n v : Nat} (hn : n < 2 ^ 31) (hv : v < n) : ¬ nI v < 0 ∧ ¬ nI n ≤ nI v := ⟨nI_pos (by omega), nI_ge hv hn⟩
theorem c_hasNode_in {n v : Nat} (h : I 3 0 = nI n) (hn : n ≤ 8) (hv : v < n) : am_C (d + 1) 13 [.ref 3, .int (nI v)] (cS L) I J Q = Q (some (.int 1)) (cS L) I J := by
  rw [c_hasNode, h, if_neg (in2 (by omega) hv).1, if_neg (in2 (by omega) hv).2]
theorem c_hasNode_out {n : Nat} {x : Int32} (h : I 3 0 = nI n) (hx : x < 0 ∨ nI n ≤ x) : am_C (d + 1) 13 [.ref 3, .int x] (cS L) I J Q = Q (some (.int 0)) (cS L) I J := by
  rw [c_hasNode, h]
  by_cases g : x < 0
  · rw [if_pos g]
  · rw [if_neg g, if_pos (hx.resolve_left g)]
theorem c_hasArc_in {n v : Nat} (h : I 3 2 = nI n) (hn : n ≤ 32) (hv : v < n) : am_C (d + 1) 14 [.ref 3, .int (nI v)] (cS L) I J Q = Q (some (.int 1)) (cS L) I J := by
  rw [c_hasArc, h, if_neg (in2 (by omega) hv).1, if_neg (in2 (by omega) hv).2]
theorem c_hasArc_out {n : Nat} {x : Int32} (h : I 3 2 = nI n) (hx : x < 0 ∨ nI n ≤ x) : am_C (d + 1) 14 [.ref 3, .int x] (cS L) I J Q = Q (some (.int 0)) (cS L) I J := by
  rw [c_hasArc, h]
  by_cases g : x < 0
  · rw [if_pos g]
  · rw [if_neg g, if_pos (hx.resolve_left g)]
theorem c_isIn (x lo hi : Int32) (S : am_S) : am_C (d + 1) 112 [.int x, .int lo, .int hi] S I J Q = if x < lo then Q (some (.int 0)) S I J else if hi < x then Q (some (.int 0)) S I J else Q (some (.int 1)) S I J := by
  rw [e112]
  simp only [r112_0, r112_1, r112_2, r112_5, r112_6, r112_7, r112_10, r112_11, r112_14, r112_15, true_and, and_true, true_or, or_true, if_true, if_false, ne_eq, not_false_eq_true, and_self, t10, am_psh, am_clr, not_true_eq_false, Nat.reduceEqDiff]
theorem mx (k : Nat) (hk : k < 165) : am_ix (cS L) 162 20 (nI k) := ix_nI (k_162 L) (n_162 L) hk (by omega)
theorem mw (k : Nat) (hk : k < 165) : am_ixw (cS L) 162 20 (nI k) := ixw_nI (k_162 L) (by omega) (n_162 L) hk (by omega)
theorem c_isNode (x : Int32) : am_C (d + 2) 113 [.ref 161, .int x] (cS L) I J Q = if x < 0 then Q (some (.int 0)) (cS L) I J else if I 162 0 - 1 < x then Q (some (.int 0)) (cS L) I J else Q (some (.int 1)) (cS L) I J := by
  rw [e113]
  simp only [r113_0, r113_1, r113_2, r113_3, r113_6, r113_7, r113_8, r113_9, r113_10, r113_13, s_161, f_161_0, show am_ix (cS L) 162 20 0 from mx 0 (by omega), show (0 : Int32).toNatClampNeg = 0 from by decide, c_isIn, am_psh, true_and, and_true, true_or, or_true, if_true, if_false, ne_eq, not_false_eq_true, and_self, t10, am_psh, am_clr, not_true_eq_false, Nat.reduceEqDiff]
theorem c_isArc (x : Int32) : am_C (d + 2) 114 [.ref 161, .int x] (cS L) I J Q = if x < 0 then Q (some (.int 0)) (cS L) I J else if I 162 2 - 1 < x then Q (some (.int 0)) (cS L) I J else Q (some (.int 1)) (cS L) I J := by
  rw [e114]
  simp only [r114_0, r114_1, r114_2, r114_3, r114_6, r114_7, r114_8, r114_9, r114_10, r114_13, s_161, f_161_0, show am_ix (cS L) 162 20 2 from mx 2 (by omega), show (2 : Int32).toNatClampNeg = 2 from by decide, c_isIn, am_psh, true_and, and_true, true_or, or_true, if_true, if_false, ne_eq, not_false_eq_true, and_self, t10, am_psh, am_clr, not_true_eq_false, Nat.reduceEqDiff]
theorem sub1_lt {n : Nat} {x : Int32} (hn : n ≤ 100) : (nI n - 1 < x) ↔ (nI n ≤ x) := by
  have e : (nI n - 1).toInt = (n : Int) - 1 := pk_sub_toInt (a := n) (b := 1) (by omega) (by omega)
  rw [Int32.lt_iff_toInt_lt, Int32.le_iff_toInt_le, e, n_ti (by omega)]
  omega
theorem c_isNode_in {n v : Nat} (h : I 162 0 = nI n) (hn : n ≤ 8) (hv : v < n) : am_C (d + 2) 113 [.ref 161, .int (nI v)] (cS L) I J Q = Q (some (.int 1)) (cS L) I J := by
  rw [c_isNode, h, if_neg (in2 (by omega) hv).1, if_neg (fun q => (in2 (by omega) hv).2 ((sub1_lt (by omega)).mp q))]
theorem c_isNode_out {n : Nat} {x : Int32} (h : I 162 0 = nI n) (hn : n ≤ 8) (hx : x < 0 ∨ nI n ≤ x) : am_C (d + 2) 113 [.ref 161, .int x] (cS L) I J Q = Q (some (.int 0)) (cS L) I J := by
  rw [c_isNode, h]
  by_cases g : x < 0
  · rw [if_pos g]
  · rw [if_neg g, if_pos ((sub1_lt (by omega)).mpr (hx.resolve_left g))]
theorem c_isArc_in {n v : Nat} (h : I 162 2 = nI n) (hn : n ≤ 32) (hv : v < n) : am_C (d + 2) 114 [.ref 161, .int (nI v)] (cS L) I J Q = Q (some (.int 1)) (cS L) I J := by
  rw [c_isArc, h, if_neg (in2 (by omega) hv).1, if_neg (fun q => (in2 (by omega) hv).2 ((sub1_lt (by omega)).mp q))]
theorem c_isArc_out {n : Nat} {x : Int32} (h : I 162 2 = nI n) (hn : n ≤ 32) (hx : x < 0 ∨ nI n ≤ x) : am_C (d + 2) 114 [.ref 161, .int x] (cS L) I J Q = Q (some (.int 0)) (cS L) I J := by
  rw [c_isArc, h]
  by_cases g : x < 0
  · rw [if_pos g]
  · rw [if_neg g, if_pos ((sub1_lt (by omega)).mpr (hx.resolve_left g))]
theorem in_or_out (x : Int32) {n : Nat} (hn : n < 2 ^ 31) : (x < 0 ∨ nI n ≤ x) ∨ ∃ v, v < n ∧ x = nI v := by
  rcases pk_ix x hn with h | h | h
  · exact Or.inl (Or.inl h)
  · exact Or.inl (Or.inr h)
  · exact Or.inr h
/-- an operation that only reads, on both -/
theorem ok_read {Inv : am_I → am_J → Prop} {yx ym : Nat} {as : List Value} (h : ∀ I J, Inv I J → ∃ x, am_V L 40 yx (.ref 1 :: as) I J (.int x) I J ∧ am_V L 40 ym (.ref 161 :: as) I J (.int x) I J) : am_OK L Inv yx ym as := by
  intro I J hI
  obtain ⟨x, h1, h2⟩ := h I J hI
  exact ⟨.int x, I, J, I, J, h1, rfl, h2, rfl, hI, x, rfl⟩
theorem op_nodes : am_OK L Inv 65 128 [] := ok_read fun I J ⟨s, hs, s0, s1, n, tx, h1, h2, h3, _⟩ => by
  refine ⟨nI (gn s.1), fun Q => ?_, fun Q => ?_⟩
  · rw [e65]; simp only [r65_0, r65_1, r65_4, r65_7, r65_10, s_1, s_2, s_3, s_8, s_16, s_18, s_23, s_24, s_33, s_38, s_41, s_161, f_1_0, f_1_1, f_1_4, f_1_5, f_1_8, f_1_9, f_1_10, f_1_11, f_1_12, f_1_13, f_2_0, f_2_1, f_3_3, f_3_4, f_3_5, f_3_6, f_8_2, f_8_3, f_8_4, f_8_5, f_16_2, f_18_3, f_18_4, f_18_5, f_18_6, f_23_0, f_23_1, f_23_2, f_23_3, f_23_4, f_24_2, f_24_3, f_24_4, f_24_5, f_33_3, f_33_4, f_33_5, f_33_6, f_38_1, f_38_2, f_41_0, f_161_0, f_161_1, f_161_3, f_161_7, f_161_12, f_161_13, f_161_14, f_161_15, f_161_16, f_161_17, f_161_18, f_161_19, f_161_21, f_161_22, f_161_25, true_and, and_true, true_or, or_true, if_true, if_false, ne_eq, not_false_eq_true, and_self, t10, am_psh, am_clr, not_true_eq_false, Nat.reduceEqDiff]; rw [h2.1.1.1]
  · rw [e128]; simp only [r128_0, r128_1, r128_4, r128_5, r128_6, s_1, s_2, s_3, s_8, s_16, s_18, s_23, s_24, s_33, s_38, s_41, s_161, f_1_0, f_1_1, f_1_4, f_1_5, f_1_8, f_1_9, f_1_10, f_1_11, f_1_12, f_1_13, f_2_0, f_2_1, f_3_3, f_3_4, f_3_5, f_3_6, f_8_2, f_8_3, f_8_4, f_8_5, f_16_2, f_18_3, f_18_4, f_18_5, f_18_6, f_23_0, f_23_1, f_23_2, f_23_3, f_23_4, f_24_2, f_24_3, f_24_4, f_24_5, f_33_3, f_33_4, f_33_5, f_33_6, f_38_1, f_38_2, f_41_0, f_161_0, f_161_1, f_161_3, f_161_7, f_161_12, f_161_13, f_161_14, f_161_15, f_161_16, f_161_17, f_161_18, f_161_19, f_161_21, f_161_22, f_161_25, true_and, and_true, true_or, or_true, if_true, if_false, ne_eq, not_false_eq_true, and_self, t10, am_psh, am_clr, not_true_eq_false, Nat.reduceEqDiff, show am_ix (cS L) 162 20 0 from mx 0 (by omega), show (0 : Int32).toNatClampNeg = 0 from by decide]; rw [h3.1.1.1]
theorem op_root : am_OK L Inv 66 129 [] := ok_read fun I J ⟨s, hs, s0, s1, n, tx, h1, h2, h3, _⟩ => by
  refine ⟨nI (gr s.1), fun Q => ?_, fun Q => ?_⟩
  · rw [e66]; simp only [r66_0, r66_1, r66_4, r66_7, r66_10, s_1, s_2, s_3, s_8, s_16, s_18, s_23, s_24, s_33, s_38, s_41, s_161, f_1_0, f_1_1, f_1_4, f_1_5, f_1_8, f_1_9, f_1_10, f_1_11, f_1_12, f_1_13, f_2_0, f_2_1, f_3_3, f_3_4, f_3_5, f_3_6, f_8_2, f_8_3, f_8_4, f_8_5, f_16_2, f_18_3, f_18_4, f_18_5, f_18_6, f_23_0, f_23_1, f_23_2, f_23_3, f_23_4, f_24_2, f_24_3, f_24_4, f_24_5, f_33_3, f_33_4, f_33_5, f_33_6, f_38_1, f_38_2, f_41_0, f_161_0, f_161_1, f_161_3, f_161_7, f_161_12, f_161_13, f_161_14, f_161_15, f_161_16, f_161_17, f_161_18, f_161_19, f_161_21, f_161_22, f_161_25, true_and, and_true, true_or, or_true, if_true, if_false, ne_eq, not_false_eq_true, and_self, t10, am_psh, am_clr, not_true_eq_false, Nat.reduceEqDiff]; rw [h2.1.1.2.1]
  · rw [e129]; simp only [r129_0, r129_1, r129_4, r129_5, r129_6, s_1, s_2, s_3, s_8, s_16, s_18, s_23, s_24, s_33, s_38, s_41, s_161, f_1_0, f_1_1, f_1_4, f_1_5, f_1_8, f_1_9, f_1_10, f_1_11, f_1_12, f_1_13, f_2_0, f_2_1, f_3_3, f_3_4, f_3_5, f_3_6, f_8_2, f_8_3, f_8_4, f_8_5, f_16_2, f_18_3, f_18_4, f_18_5, f_18_6, f_23_0, f_23_1, f_23_2, f_23_3, f_23_4, f_24_2, f_24_3, f_24_4, f_24_5, f_33_3, f_33_4, f_33_5, f_33_6, f_38_1, f_38_2, f_41_0, f_161_0, f_161_1, f_161_3, f_161_7, f_161_12, f_161_13, f_161_14, f_161_15, f_161_16, f_161_17, f_161_18, f_161_19, f_161_21, f_161_22, f_161_25, true_and, and_true, true_or, or_true, if_true, if_false, ne_eq, not_false_eq_true, and_self, t10, am_psh, am_clr, not_true_eq_false, Nat.reduceEqDiff, show am_ix (cS L) 162 20 1 from mx 1 (by omega), show (1 : Int32).toNatClampNeg = 1 from by decide]; rw [h3.1.1.2.1]
theorem op_arcs : am_OK L Inv 67 130 [] := ok_read fun I J ⟨s, hs, s0, s1, n, tx, h1, h2, h3, _⟩ => by
  refine ⟨nI (gm s.1), fun Q => ?_, fun Q => ?_⟩
  · rw [e67]; simp only [r67_0, r67_1, r67_4, r67_7, r67_10, s_1, s_2, s_3, s_8, s_16, s_18, s_23, s_24, s_33, s_38, s_41, s_161, f_1_0, f_1_1, f_1_4, f_1_5, f_1_8, f_1_9, f_1_10, f_1_11, f_1_12, f_1_13, f_2_0, f_2_1, f_3_3, f_3_4, f_3_5, f_3_6, f_8_2, f_8_3, f_8_4, f_8_5, f_16_2, f_18_3, f_18_4, f_18_5, f_18_6, f_23_0, f_23_1, f_23_2, f_23_3, f_23_4, f_24_2, f_24_3, f_24_4, f_24_5, f_33_3, f_33_4, f_33_5, f_33_6, f_38_1, f_38_2, f_41_0, f_161_0, f_161_1, f_161_3, f_161_7, f_161_12, f_161_13, f_161_14, f_161_15, f_161_16, f_161_17, f_161_18, f_161_19, f_161_21, f_161_22, f_161_25, true_and, and_true, true_or, or_true, if_true, if_false, ne_eq, not_false_eq_true, and_self, t10, am_psh, am_clr, not_true_eq_false, Nat.reduceEqDiff]; rw [h2.1.1.2.2]
  · rw [e130]; simp only [r130_0, r130_1, r130_4, r130_5, r130_6, s_1, s_2, s_3, s_8, s_16, s_18, s_23, s_24, s_33, s_38, s_41, s_161, f_1_0, f_1_1, f_1_4, f_1_5, f_1_8, f_1_9, f_1_10, f_1_11, f_1_12, f_1_13, f_2_0, f_2_1, f_3_3, f_3_4, f_3_5, f_3_6, f_8_2, f_8_3, f_8_4, f_8_5, f_16_2, f_18_3, f_18_4, f_18_5, f_18_6, f_23_0, f_23_1, f_23_2, f_23_3, f_23_4, f_24_2, f_24_3, f_24_4, f_24_5, f_33_3, f_33_4, f_33_5, f_33_6, f_38_1, f_38_2, f_41_0, f_161_0, f_161_1, f_161_3, f_161_7, f_161_12, f_161_13, f_161_14, f_161_15, f_161_16, f_161_17, f_161_18, f_161_19, f_161_21, f_161_22, f_161_25, true_and, and_true, true_or, or_true, if_true, if_false, ne_eq, not_false_eq_true, and_self, t10, am_psh, am_clr, not_true_eq_false, Nat.reduceEqDiff, show am_ix (cS L) 162 20 2 from mx 2 (by omega), show (2 : Int32).toNatClampNeg = 2 from by decide]; rw [h3.1.1.2.2]
theorem op_runs : am_OK L Inv 76 155 [] := ok_read fun I J ⟨s, hs, s0, s1, n, tx, h1, h2, h3, h4, h5, h6, h7, _⟩ => by
  refine ⟨I 161 5, fun Q => ?_, fun Q => ?_⟩
  · rw [e76]; simp only [r76_0, r76_1, r76_4, s_1, s_2, s_3, s_8, s_16, s_18, s_23, s_24, s_33, s_38, s_41, s_161, f_1_0, f_1_1, f_1_4, f_1_5, f_1_8, f_1_9, f_1_10, f_1_11, f_1_12, f_1_13, f_2_0, f_2_1, f_3_3, f_3_4, f_3_5, f_3_6, f_8_2, f_8_3, f_8_4, f_8_5, f_16_2, f_18_3, f_18_4, f_18_5, f_18_6, f_23_0, f_23_1, f_23_2, f_23_3, f_23_4, f_24_2, f_24_3, f_24_4, f_24_5, f_33_3, f_33_4, f_33_5, f_33_6, f_38_1, f_38_2, f_41_0, f_161_0, f_161_1, f_161_3, f_161_7, f_161_12, f_161_13, f_161_14, f_161_15, f_161_16, f_161_17, f_161_18, f_161_19, f_161_21, f_161_22, f_161_25, true_and]; rw [h7.1]
  · rw [e155]; simp only [r155_0, r155_1, r155_4, s_1, s_2, s_3, s_8, s_16, s_18, s_23, s_24, s_33, s_38, s_41, s_161, f_1_0, f_1_1, f_1_4, f_1_5, f_1_8, f_1_9, f_1_10, f_1_11, f_1_12, f_1_13, f_2_0, f_2_1, f_3_3, f_3_4, f_3_5, f_3_6, f_8_2, f_8_3, f_8_4, f_8_5, f_16_2, f_18_3, f_18_4, f_18_5, f_18_6, f_23_0, f_23_1, f_23_2, f_23_3, f_23_4, f_24_2, f_24_3, f_24_4, f_24_5, f_33_3, f_33_4, f_33_5, f_33_6, f_38_1, f_38_2, f_41_0, f_161_0, f_161_1, f_161_3, f_161_7, f_161_12, f_161_13, f_161_14, f_161_15, f_161_16, f_161_17, f_161_18, f_161_19, f_161_21, f_161_22, f_161_25, true_and]
theorem op_reuses : am_OK L Inv 77 156 [] := ok_read fun I J ⟨s, hs, s0, s1, n, tx, h1, h2, h3, h4, h5, h6, h7, _⟩ => by
  refine ⟨I 161 6, fun Q => ?_, fun Q => ?_⟩
  · rw [e77]; simp only [r77_0, r77_1, r77_4, s_1, s_2, s_3, s_8, s_16, s_18, s_23, s_24, s_33, s_38, s_41, s_161, f_1_0, f_1_1, f_1_4, f_1_5, f_1_8, f_1_9, f_1_10, f_1_11, f_1_12, f_1_13, f_2_0, f_2_1, f_3_3, f_3_4, f_3_5, f_3_6, f_8_2, f_8_3, f_8_4, f_8_5, f_16_2, f_18_3, f_18_4, f_18_5, f_18_6, f_23_0, f_23_1, f_23_2, f_23_3, f_23_4, f_24_2, f_24_3, f_24_4, f_24_5, f_33_3, f_33_4, f_33_5, f_33_6, f_38_1, f_38_2, f_41_0, f_161_0, f_161_1, f_161_3, f_161_7, f_161_12, f_161_13, f_161_14, f_161_15, f_161_16, f_161_17, f_161_18, f_161_19, f_161_21, f_161_22, f_161_25, true_and]; rw [h7.2]
  · rw [e156]; simp only [r156_0, r156_1, r156_4, s_1, s_2, s_3, s_8, s_16, s_18, s_23, s_24, s_33, s_38, s_41, s_161, f_1_0, f_1_1, f_1_4, f_1_5, f_1_8, f_1_9, f_1_10, f_1_11, f_1_12, f_1_13, f_2_0, f_2_1, f_3_3, f_3_4, f_3_5, f_3_6, f_8_2, f_8_3, f_8_4, f_8_5, f_16_2, f_18_3, f_18_4, f_18_5, f_18_6, f_23_0, f_23_1, f_23_2, f_23_3, f_23_4, f_24_2, f_24_3, f_24_4, f_24_5, f_33_3, f_33_4, f_33_5, f_33_6, f_38_1, f_38_2, f_41_0, f_161_0, f_161_1, f_161_3, f_161_7, f_161_12, f_161_13, f_161_14, f_161_15, f_161_16, f_161_17, f_161_18, f_161_19, f_161_21, f_161_22, f_161_25, true_and]
theorem op_isRecorded : am_OK L Inv 75 154 [] := ok_read fun I J ⟨s, hs, s0, s1, n, tx, h1, h2, h3, _⟩ => by
  have key : (I 8 0 = 0 ∧ I 162 107 = 0) ∨ (I 8 0 = 1 ∧ I 162 107 = 1) := by
    obtain ⟨G, o⟩ := s
    cases o with
    | none => exact Or.inl ⟨h2.2, h3.2⟩
    | some R => exact Or.inr ⟨h2.2.1, h3.2.1⟩
  refine ⟨I 162 107, fun Q => ?_, fun Q => ?_⟩
  · rw [e75]; simp only [r75_0, r75_1, r75_4, r75_7, r75_10, r75_13, r75_14, r75_17, r75_18, s_1, s_2, s_3, s_8, s_16, s_18, s_23, s_24, s_33, s_38, s_41, s_161, f_1_0, f_1_1, f_1_4, f_1_5, f_1_8, f_1_9, f_1_10, f_1_11, f_1_12, f_1_13, f_2_0, f_2_1, f_3_3, f_3_4, f_3_5, f_3_6, f_8_2, f_8_3, f_8_4, f_8_5, f_16_2, f_18_3, f_18_4, f_18_5, f_18_6, f_23_0, f_23_1, f_23_2, f_23_3, f_23_4, f_24_2, f_24_3, f_24_4, f_24_5, f_33_3, f_33_4, f_33_5, f_33_6, f_38_1, f_38_2, f_41_0, f_161_0, f_161_1, f_161_3, f_161_7, f_161_12, f_161_13, f_161_14, f_161_15, f_161_16, f_161_17, f_161_18, f_161_19, f_161_21, f_161_22, f_161_25, true_and, and_true, true_or, or_true, if_true, if_false, ne_eq, not_false_eq_true, and_self, t10, am_psh, am_clr, not_true_eq_false, Nat.reduceEqDiff]
    rcases key with ⟨k1, k2⟩ | ⟨k1, k2⟩
    · rw [k1, k2, if_pos rfl]
    · rw [k1, k2, if_neg (by decide)]
  · rw [e154]; simp only [r154_0, r154_1, r154_4, r154_6, r154_7, s_1, s_2, s_3, s_8, s_16, s_18, s_23, s_24, s_33, s_38, s_41, s_161, f_1_0, f_1_1, f_1_4, f_1_5, f_1_8, f_1_9, f_1_10, f_1_11, f_1_12, f_1_13, f_2_0, f_2_1, f_3_3, f_3_4, f_3_5, f_3_6, f_8_2, f_8_3, f_8_4, f_8_5, f_16_2, f_18_3, f_18_4, f_18_5, f_18_6, f_23_0, f_23_1, f_23_2, f_23_3, f_23_4, f_24_2, f_24_3, f_24_4, f_24_5, f_33_3, f_33_4, f_33_5, f_33_6, f_38_1, f_38_2, f_41_0, f_161_0, f_161_1, f_161_3, f_161_7, f_161_12, f_161_13, f_161_14, f_161_15, f_161_16, f_161_17, f_161_18, f_161_19, f_161_21, f_161_22, f_161_25, true_and, and_true, true_or, or_true, if_true, if_false, ne_eq, not_false_eq_true, and_self, t10, am_psh, am_clr, not_true_eq_false, Nat.reduceEqDiff, show am_ix (cS L) 162 20 107 from mx 107 (by omega), show (107 : Int32).toNatClampNeg = 107 from by decide]
theorem op_limit (x : Int32) : am_OK L Inv 69 132 [.int x] := ok_read fun I J ⟨s, hs, s0, s1, n, tx, h1, h2, h3, _⟩ => by
  have hn := h1.1.1.2.1
  rcases in_or_out x (n := gn s.1) (by omega) with hx | ⟨v, hv, rfl⟩
  · refine ⟨-101, fun Q => ?_, fun Q => ?_⟩
    · rw [e69]; simp only [r69_0, r69_1, r69_4, r69_7, r69_8, r69_11, r69_14, r69_15, r69_18, r69_21, r69_24, r69_25, r69_26, r69_29, r69_31, s_1, s_2, s_3, s_8, s_16, s_18, s_23, s_24, s_33, s_38, s_41, s_161, f_1_0, f_1_1, f_1_4, f_1_5, f_1_8, f_1_9, f_1_10, f_1_11, f_1_12, f_1_13, f_2_0, f_2_1, f_3_3, f_3_4, f_3_5, f_3_6, f_8_2, f_8_3, f_8_4, f_8_5, f_16_2, f_18_3, f_18_4, f_18_5, f_18_6, f_23_0, f_23_1, f_23_2, f_23_3, f_23_4, f_24_2, f_24_3, f_24_4, f_24_5, f_33_3, f_33_4, f_33_5, f_33_6, f_38_1, f_38_2, f_41_0, f_161_0, f_161_1, f_161_3, f_161_7, f_161_12, f_161_13, f_161_14, f_161_15, f_161_16, f_161_17, f_161_18, f_161_19, f_161_21, f_161_22, f_161_25, true_and, and_true, true_or, or_true, if_true, if_false, ne_eq, not_false_eq_true, and_self, t10, am_psh, am_clr, not_true_eq_false, Nat.reduceEqDiff]
      rw [c_hasNode_out h2.1.1.1 hx]; simp only [r69_0, r69_1, r69_4, r69_7, r69_8, r69_11, r69_14, r69_15, r69_18, r69_21, r69_24, r69_25, r69_26, r69_29, r69_31, true_and, and_true, true_or, or_true, if_true, if_false, ne_eq, not_false_eq_true, and_self, t10, am_psh, am_clr, not_true_eq_false, Nat.reduceEqDiff]
    · rw [e132]; simp only [r132_0, r132_1, r132_2, r132_5, r132_8, r132_9, r132_12, r132_14, r132_15, r132_16, r132_17, r132_20, r132_22, s_1, s_2, s_3, s_8, s_16, s_18, s_23, s_24, s_33, s_38, s_41, s_161, f_1_0, f_1_1, f_1_4, f_1_5, f_1_8, f_1_9, f_1_10, f_1_11, f_1_12, f_1_13, f_2_0, f_2_1, f_3_3, f_3_4, f_3_5, f_3_6, f_8_2, f_8_3, f_8_4, f_8_5, f_16_2, f_18_3, f_18_4, f_18_5, f_18_6, f_23_0, f_23_1, f_23_2, f_23_3, f_23_4, f_24_2, f_24_3, f_24_4, f_24_5, f_33_3, f_33_4, f_33_5, f_33_6, f_38_1, f_38_2, f_41_0, f_161_0, f_161_1, f_161_3, f_161_7, f_161_12, f_161_13, f_161_14, f_161_15, f_161_16, f_161_17, f_161_18, f_161_19, f_161_21, f_161_22, f_161_25, true_and]
      rw [c_isNode_out h3.1.1.1 hn hx]; simp only [r132_0, r132_1, r132_2, r132_5, r132_8, r132_9, r132_12, r132_14, r132_15, r132_16, r132_17, r132_20, r132_22, true_and, and_true, true_or, or_true, if_true, if_false, ne_eq, not_false_eq_true, and_self, t10, am_psh, am_clr, not_true_eq_false, Nat.reduceEqDiff]
  · refine ⟨nI (gl s.1 v), fun Q => ?_, fun Q => ?_⟩
    · rw [e69]; simp only [r69_0, r69_1, r69_4, r69_7, r69_8, r69_11, r69_14, r69_15, r69_18, r69_21, r69_24, r69_25, r69_26, r69_29, r69_31, s_1, s_2, s_3, s_8, s_16, s_18, s_23, s_24, s_33, s_38, s_41, s_161, f_1_0, f_1_1, f_1_4, f_1_5, f_1_8, f_1_9, f_1_10, f_1_11, f_1_12, f_1_13, f_2_0, f_2_1, f_3_3, f_3_4, f_3_5, f_3_6, f_8_2, f_8_3, f_8_4, f_8_5, f_16_2, f_18_3, f_18_4, f_18_5, f_18_6, f_23_0, f_23_1, f_23_2, f_23_3, f_23_4, f_24_2, f_24_3, f_24_4, f_24_5, f_33_3, f_33_4, f_33_5, f_33_6, f_38_1, f_38_2, f_41_0, f_161_0, f_161_1, f_161_3, f_161_7, f_161_12, f_161_13, f_161_14, f_161_15, f_161_16, f_161_17, f_161_18, f_161_19, f_161_21, f_161_22, f_161_25, true_and, and_true, true_or, or_true, if_true, if_false, ne_eq, not_false_eq_true, and_self, t10, am_psh, am_clr, not_true_eq_false, Nat.reduceEqDiff]
      rw [c_hasNode_in h2.1.1.1 hn hv]; simp only [am_psh, r69_0, r69_1, r69_4, r69_7, r69_8, r69_11, r69_14, r69_15, r69_18, r69_21, r69_24, r69_25, r69_26, r69_29, r69_31, s_1, s_2, s_3, s_8, s_16, s_18, s_23, s_24, s_33, s_38, s_41, s_161, f_1_0, f_1_1, f_1_4, f_1_5, f_1_8, f_1_9, f_1_10, f_1_11, f_1_12, f_1_13, f_2_0, f_2_1, f_3_3, f_3_4, f_3_5, f_3_6, f_8_2, f_8_3, f_8_4, f_8_5, f_16_2, f_18_3, f_18_4, f_18_5, f_18_6, f_23_0, f_23_1, f_23_2, f_23_3, f_23_4, f_24_2, f_24_3, f_24_4, f_24_5, f_33_3, f_33_4, f_33_5, f_33_6, f_38_1, f_38_2, f_41_0, f_161_0, f_161_1, f_161_3, f_161_7, f_161_12, f_161_13, f_161_14, f_161_15, f_161_16, f_161_17, f_161_18, f_161_19, f_161_21, f_161_22, f_161_25, true_and, and_true, true_or, or_true, if_true, if_false, ne_eq, not_false_eq_true, and_self, t10, am_psh, am_clr, not_true_eq_false, Nat.reduceEqDiff, show am_ix (cS L) 7 20 (nI v) from ix_nI (k_7 L) (n_7 L) (by omega) (by omega), n_cl (show v < 2 ^ 31 by omega)]
      rw [h2.1.2.2 v (by omega)]
    · rw [e132]; simp only [r132_0, r132_1, r132_2, r132_5, r132_8, r132_9, r132_12, r132_14, r132_15, r132_16, r132_17, r132_20, r132_22, s_1, s_2, s_3, s_8, s_16, s_18, s_23, s_24, s_33, s_38, s_41, s_161, f_1_0, f_1_1, f_1_4, f_1_5, f_1_8, f_1_9, f_1_10, f_1_11, f_1_12, f_1_13, f_2_0, f_2_1, f_3_3, f_3_4, f_3_5, f_3_6, f_8_2, f_8_3, f_8_4, f_8_5, f_16_2, f_18_3, f_18_4, f_18_5, f_18_6, f_23_0, f_23_1, f_23_2, f_23_3, f_23_4, f_24_2, f_24_3, f_24_4, f_24_5, f_33_3, f_33_4, f_33_5, f_33_6, f_38_1, f_38_2, f_41_0, f_161_0, f_161_1, f_161_3, f_161_7, f_161_12, f_161_13, f_161_14, f_161_15, f_161_16, f_161_17, f_161_18, f_161_19, f_161_21, f_161_22, f_161_25, true_and]
      rw [c_isNode_in h3.1.1.1 hn hv]; simp only [am_psh, r132_0, r132_1, r132_2, r132_5, r132_8, r132_9, r132_12, r132_14, r132_15, r132_16, r132_17, r132_20, r132_22, s_1, s_2, s_3, s_8, s_16, s_18, s_23, s_24, s_33, s_38, s_41, s_161, f_1_0, f_1_1, f_1_4, f_1_5, f_1_8, f_1_9, f_1_10, f_1_11, f_1_12, f_1_13, f_2_0, f_2_1, f_3_3, f_3_4, f_3_5, f_3_6, f_8_2, f_8_3, f_8_4, f_8_5, f_16_2, f_18_3, f_18_4, f_18_5, f_18_6, f_23_0, f_23_1, f_23_2, f_23_3, f_23_4, f_24_2, f_24_3, f_24_4, f_24_5, f_33_3, f_33_4, f_33_5, f_33_6, f_38_1, f_38_2, f_41_0, f_161_0, f_161_1, f_161_3, f_161_7, f_161_12, f_161_13, f_161_14, f_161_15, f_161_16, f_161_17, f_161_18, f_161_19, f_161_21, f_161_22, f_161_25, true_and, and_true, true_or, or_true, if_true, if_false, ne_eq, not_false_eq_true, and_self, t10, am_psh, am_clr, not_true_eq_false, Nat.reduceEqDiff, show (99 : Int32) + nI v = nI (99 + v) from nI_add 99 v, show am_ix (cS L) 162 20 (nI (99 + v)) from mx _ (by omega), n_cl (show 99 + v < 2 ^ 31 by omega)]
      rw [h3.1.2.2 v (by omega)]
end GT
