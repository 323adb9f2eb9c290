section RU
variable {d : Nat} {ls : am_L} {l0 l1 l2 l3 l4 l5 l6 l7 : Option Value} {st : List Value} {S : am_S} {I : am_I} {J : am_J} {Q : am_Q} {x0 x1 x2 x3 x4 x5 x10 x11 x12 x13 x14 x15 : Int32} {u0 u1 u2 u3 u10 u11 u12 u13 : Int64} {a0 a1 a2 a3 a4 a10 a11 a12 a13 a14 a15 : Nat}
-- 37 Lim.<init>()V; heads []
theorem e37 : am_C (d + 1) 37 [.ref a0] S I J Q = am_T d 37 0 [some (.ref a0)] [] S I J Q := tr_en (Nat.le_of_ble_eq_true rfl) rfl
theorem r37_0 : am_T d 37 0 [some (.ref a0)] st S I J Q = am_T d 37 1 [some (.ref a0)] (.ref a0 :: st) S I J Q := tr_aload_n (m := 0) (by decide +kernel) rfl
theorem r37_1 : am_T d 37 1 ls [.ref a0] S I J Q = am_T d 37 4 ls [] S I J Q := tr_oinit (k := 3) (by decide +kernel) (by decide +kernel) (Nat.le_of_ble_eq_true rfl)
theorem r37_4 : am_T d 37 4 [some (.ref a0)] st S I J Q = am_T d 37 5 [some (.ref a0)] (.ref a0 :: st) S I J Q := tr_aload_n (m := 0) (by decide +kernel) rfl
theorem r37_5 : am_T d 37 5 ls st S I J Q = am_T d 37 7 ls (.int 8 :: st) S I J Q := tr_bipush (m := 8) (by decide +kernel) (by decide)
theorem r37_7 : am_T d 37 7 ls (.int x0 :: st) S I J Q = ((0 ≤ x0.toInt ∧ x0.toInt < 10000) ∧ am_T d 37 9 ls (.ref S.length :: st) (S ++ [(20, x0.toNatClampNeg, fun _ => 0)]) (am_row I S.length (fun _ => 0)) (am_row J S.length (fun _ => 0)) Q) := tr_newa (t := .int) (by decide +kernel) (by decide)
theorem r37_9 : am_T d 37 9 ls (.ref a1 :: .ref a0 :: st) S I J Q = ((am_is S a0 4 ∧ a1 ≠ 0 ∧ a1 < S.length) ∧ am_T d 37 12 ls st (am_sr S a0 3 a1) I J Q) := tr_puta (k := 9) (by decide +kernel) (by decide +kernel) (by decide +kernel) (by decide +kernel)
theorem r37_12 : am_T d 37 12 [some (.ref a0)] st S I J Q = am_T d 37 13 [some (.ref a0)] (.ref a0 :: st) S I J Q := tr_aload_n (m := 0) (by decide +kernel) rfl
theorem r37_13 : am_T d 37 13 ls st S I J Q = am_T d 37 15 ls (.int 8 :: st) S I J Q := tr_bipush (m := 8) (by decide +kernel) (by decide)
theorem r37_15 : am_T d 37 15 ls (.int x0 :: st) S I J Q = ((0 ≤ x0.toInt ∧ x0.toInt < 10000) ∧ am_T d 37 17 ls (.ref S.length :: st) (S ++ [(20, x0.toNatClampNeg, fun _ => 0)]) (am_row I S.length (fun _ => 0)) (am_row J S.length (fun _ => 0)) Q) := tr_newa (t := .int) (by decide +kernel) (by decide)
theorem r37_17 : am_T d 37 17 ls (.ref a1 :: .ref a0 :: st) S I J Q = ((am_is S a0 4 ∧ a1 ≠ 0 ∧ a1 < S.length) ∧ am_T d 37 20 ls st (am_sr S a0 4 a1) I J Q) := tr_puta (k := 15) (by decide +kernel) (by decide +kernel) (by decide +kernel) (by decide +kernel)
theorem r37_20 : am_T d 37 20 [some (.ref a0)] st S I J Q = am_T d 37 21 [some (.ref a0)] (.ref a0 :: st) S I J Q := tr_aload_n (m := 0) (by decide +kernel) rfl
theorem r37_21 : am_T d 37 21 ls st S I J Q = am_T d 37 23 ls (.int 8 :: st) S I J Q := tr_bipush (m := 8) (by decide +kernel) (by decide)
theorem r37_23 : am_T d 37 23 ls (.int x0 :: st) S I J Q = ((0 ≤ x0.toInt ∧ x0.toInt < 10000) ∧ am_T d 37 25 ls (.ref S.length :: st) (S ++ [(20, x0.toNatClampNeg, fun _ => 0)]) (am_row I S.length (fun _ => 0)) (am_row J S.length (fun _ => 0)) Q) := tr_newa (t := .int) (by decide +kernel) (by decide)
theorem r37_25 : am_T d 37 25 ls (.ref a1 :: .ref a0 :: st) S I J Q = ((am_is S a0 4 ∧ a1 ≠ 0 ∧ a1 < S.length) ∧ am_T d 37 28 ls st (am_sr S a0 5 a1) I J Q) := tr_puta (k := 18) (by decide +kernel) (by decide +kernel) (by decide +kernel) (by decide +kernel)
theorem r37_28 : am_T d 37 28 [some (.ref a0)] st S I J Q = am_T d 37 29 [some (.ref a0)] (.ref a0 :: st) S I J Q := tr_aload_n (m := 0) (by decide +kernel) rfl
theorem r37_29 : am_T d 37 29 ls st S I J Q = am_T d 37 31 ls (.int 32 :: st) S I J Q := tr_bipush (m := 32) (by decide +kernel) (by decide)
theorem r37_31 : am_T d 37 31 ls (.int x0 :: st) S I J Q = ((0 ≤ x0.toInt ∧ x0.toInt < 10000) ∧ am_T d 37 33 ls (.ref S.length :: st) (S ++ [(20, x0.toNatClampNeg, fun _ => 0)]) (am_row I S.length (fun _ => 0)) (am_row J S.length (fun _ => 0)) Q) := tr_newa (t := .int) (by decide +kernel) (by decide)
theorem r37_33 : am_T d 37 33 ls (.ref a1 :: .ref a0 :: st) S I J Q = ((am_is S a0 4 ∧ a1 ≠ 0 ∧ a1 < S.length) ∧ am_T d 37 36 ls st (am_sr S a0 6 a1) I J Q) := tr_puta (k := 21) (by decide +kernel) (by decide +kernel) (by decide +kernel) (by decide +kernel)
theorem r37_36 : am_T d 37 36 ls [] S I J Q = Q none S I J := tr_vret (by decide +kernel) (by decide +kernel)
-- 38 Lim.forget()V; heads []
theorem e38 : am_C (d + 1) 38 [.ref a0] S I J Q = am_T d 38 0 [some (.ref a0)] [] S I J Q := tr_en (Nat.le_of_ble_eq_true rfl) rfl
theorem r38_0 : am_T d 38 0 [some (.ref a0)] st S I J Q = am_T d 38 1 [some (.ref a0)] (.ref a0 :: st) S I J Q := tr_aload_n (m := 0) (by decide +kernel) rfl
theorem r38_1 : am_T d 38 1 ls st S I J Q = am_T d 38 2 ls (.int 0 :: st) S I J Q := tr_iconst (m := 0) (by decide +kernel) (by decide)
theorem r38_2 : am_T d 38 2 ls (.int x0 :: .ref a0 :: st) S I J Q = ((am_is S a0 4 ∧ (x0 = 0 ∨ x0 = 1)) ∧ am_T d 38 5 ls st S (am_up I a0 0 x0) J Q) := tr_putz (k := 24) (by decide +kernel) (by decide +kernel) (by decide +kernel) (by decide +kernel)
theorem r38_5 : am_T d 38 5 ls [] S I J Q = Q none S I J := tr_vret (by decide +kernel) (by decide +kernel)
-- 39 Lim.find(LArborescenceFinder$Graph;LArborescenceFinder$Contraction;)Z; heads []
theorem e39 : am_C (d + 1) 39 [.ref a0, .ref a1, .ref a2] S I J Q = am_T d 39 0 [some (.ref a0), some (.ref a1), some (.ref a2)] [] S I J Q := tr_en (Nat.le_of_ble_eq_true rfl) rfl
theorem r39_0 : am_T d 39 0 [some (.ref a0), l1, l2] st S I J Q = am_T d 39 1 [some (.ref a0), l1, l2] (.ref a0 :: st) S I J Q := tr_aload_n (m := 0) (by decide +kernel) rfl
theorem r39_1 : am_T d 39 1 ls (.ref a0 :: st) S I J Q = (am_is S a0 4 ∧ am_T d 39 4 ls (.int (I a0 0) :: st) S I J Q) := tr_geti (k := 24) (by decide +kernel) (by decide +kernel) (Or.inr (by decide +kernel))
theorem r39_4 : am_T d 39 4 ls (.int x0 :: st) S I J Q = if x0 = 0 then am_T d 39 7 ls st S I J Q else am_T d 39 57 ls st S I J Q := tr_ifne (o := 53) (by decide +kernel) rfl
theorem r39_7 : am_T d 39 7 [some (.ref a0), l1, l2] st S I J Q = am_T d 39 8 [some (.ref a0), l1, l2] (.ref a0 :: st) S I J Q := tr_aload_n (m := 0) (by decide +kernel) rfl
theorem r39_8 : am_T d 39 8 ls st S I J Q = am_T d 39 9 ls (.int 0 :: st) S I J Q := tr_iconst (m := 0) (by decide +kernel) (by decide)
theorem r39_9 : am_T d 39 9 ls (.int x0 :: .ref a0 :: st) S I J Q = ((am_is S a0 4 ∧ (x0 = 0 ∨ x0 = 1)) ∧ am_T d 39 12 ls st S (am_up I a0 1 x0) J Q) := tr_putz (k := 28) (by decide +kernel) (by decide +kernel) (by decide +kernel) (by decide +kernel)
theorem r39_12 : am_T d 39 12 [l0, l1, some (.ref a0)] st S I J Q = am_T d 39 13 [l0, l1, some (.ref a0)] (.ref a0 :: st) S I J Q := tr_aload_n (m := 2) (by decide +kernel) rfl
theorem r39_13 : am_T d 39 13 [l0, some (.ref a0), l2] st S I J Q = am_T d 39 14 [l0, some (.ref a0), l2] (.ref a0 :: st) S I J Q := tr_aload_n (m := 1) (by decide +kernel) rfl
theorem r39_14 : am_T d 39 14 [l0, some (.ref a0), l2] st S I J Q = am_T d 39 15 [l0, some (.ref a0), l2] (.ref a0 :: st) S I J Q := tr_aload_n (m := 1) (by decide +kernel) rfl
theorem r39_15 : am_T d 39 15 ls (.ref a0 :: st) S I J Q = ((am_is S a0 1 ∧ am_rf S a0 5 ≠ 0) ∧ am_T d 39 18 ls (.ref (am_rf S a0 5) :: st) S I J Q) := tr_geta (k := 31) (by decide +kernel) (by decide +kernel) (by decide +kernel)
theorem r39_18 : am_T d 39 18 ls st S I J Q = am_T d 39 19 ls (.int (-1) :: st) S I J Q := tr_iconst (m := -1) (by decide +kernel) (by decide)
theorem r39_19 : am_T d 39 19 ls [.int x3, .ref a2, .ref a1, .ref a0] S I J Q = (am_is S a0 0 ∧ am_C d 1 [.ref a0, .ref a1, .ref a2, .int x3] S I J (fun r S I J => am_T d 39 22 ls (am_psh r []) S I J Q)) := tr_virt (k := 36) (by decide +kernel) (by decide +kernel) rfl rfl (Nat.le_of_ble_eq_true rfl) (by decide +kernel)
theorem r39_22 : am_T d 39 22 ls (.int x0 :: st) S I J Q = if x0 = 0 then am_T d 39 52 ls st S I J Q else am_T d 39 25 ls st S I J Q := tr_ifeq (o := 30) (by decide +kernel) rfl
theorem r39_25 : am_T d 39 25 [some (.ref a0), l1, l2] st S I J Q = am_T d 39 26 [some (.ref a0), l1, l2] (.ref a0 :: st) S I J Q := tr_aload_n (m := 0) (by decide +kernel) rfl
theorem r39_26 : am_T d 39 26 [l0, some (.ref a0), l2] st S I J Q = am_T d 39 27 [l0, some (.ref a0), l2] (.ref a0 :: st) S I J Q := tr_aload_n (m := 1) (by decide +kernel) rfl
theorem r39_27 : am_T d 39 27 [l0, l1, some (.ref a0)] st S I J Q = am_T d 39 28 [l0, l1, some (.ref a0)] (.ref a0 :: st) S I J Q := tr_aload_n (m := 2) (by decide +kernel) rfl
theorem r39_28 : am_T d 39 28 ls (.ref a0 :: st) S I J Q = ((am_is S a0 0 ∧ am_rf S a0 1 ≠ 0) ∧ am_T d 39 31 ls (.ref (am_rf S a0 1) :: st) S I J Q) := tr_geta (k := 42) (by decide +kernel) (by decide +kernel) (by decide +kernel)
theorem r39_31 : am_T d 39 31 ls [.ref a2, .ref a1, .ref a0] S I J Q = (am_is S a0 4 ∧ am_C d 40 [.ref a0, .ref a1, .ref a2] S I J (fun r S I J => am_T d 39 34 ls (am_psh r []) S I J Q)) := tr_virt (k := 43) (by decide +kernel) (by decide +kernel) rfl rfl (Nat.le_of_ble_eq_true rfl) (by decide +kernel)
theorem r39_34 : am_T d 39 34 [some (.ref a0), l1, l2] st S I J Q = am_T d 39 35 [some (.ref a0), l1, l2] (.ref a0 :: st) S I J Q := tr_aload_n (m := 0) (by decide +kernel) rfl
theorem r39_35 : am_T d 39 35 [l0, some (.ref a0), l2] st S I J Q = am_T d 39 36 [l0, some (.ref a0), l2] (.ref a0 :: st) S I J Q := tr_aload_n (m := 1) (by decide +kernel) rfl
theorem r39_36 : am_T d 39 36 ls st S I J Q = am_T d 39 37 ls (.int 0 :: st) S I J Q := tr_iconst (m := 0) (by decide +kernel) (by decide)
theorem r39_37 : am_T d 39 37 [l0, l1, some (.ref a0)] st S I J Q = am_T d 39 38 [l0, l1, some (.ref a0)] (.ref a0 :: st) S I J Q := tr_aload_n (m := 2) (by decide +kernel) rfl
theorem r39_38 : am_T d 39 38 ls (.ref a0 :: st) S I J Q = ((am_is S a0 0 ∧ am_rf S a0 0 ≠ 0) ∧ am_T d 39 41 ls (.ref (am_rf S a0 0) :: st) S I J Q) := tr_geta (k := 47) (by decide +kernel) (by decide +kernel) (by decide +kernel)
theorem r39_41 : am_T d 39 41 [l0, some (.ref a0), l2] st S I J Q = am_T d 39 42 [l0, some (.ref a0), l2] (.ref a0 :: st) S I J Q := tr_aload_n (m := 1) (by decide +kernel) rfl
theorem r39_42 : am_T d 39 42 [l0, some (.ref a0), l2] st S I J Q = am_T d 39 43 [l0, some (.ref a0), l2] (.ref a0 :: st) S I J Q := tr_aload_n (m := 1) (by decide +kernel) rfl
theorem r39_43 : am_T d 39 43 ls (.ref a0 :: st) S I J Q = ((am_is S a0 1 ∧ am_rf S a0 5 ≠ 0) ∧ am_T d 39 46 ls (.ref (am_rf S a0 5) :: st) S I J Q) := tr_geta (k := 31) (by decide +kernel) (by decide +kernel) (by decide +kernel)
theorem r39_46 : am_T d 39 46 ls [.ref a2, .ref a1, .ref a0, .int x12, .ref a11, .ref a10] S I J Q = (am_is S a0 3 ∧ am_C d 31 [.ref a0, .ref a1, .ref a2] S I J (fun r S I J => am_T d 39 49 ls (am_psh r [.int x12, .ref a11, .ref a10]) S I J Q)) := tr_virt (k := 51) (by decide +kernel) (by decide +kernel) rfl rfl (Nat.le_of_ble_eq_true rfl) (by decide +kernel)
theorem r39_49 : am_T d 39 49 ls [.int x3, .int x2, .ref a1, .ref a0] S I J Q = am_C d 41 [.ref a0, .ref a1, .int x2, .int x3] S I J (fun r S I J => am_T d 39 52 ls (am_psh r []) S I J Q) := tr_stat (k := 57) (by decide +kernel) (Or.inl (by decide +kernel)) (Nat.le_of_ble_eq_true rfl) rfl rfl (Nat.le_of_ble_eq_true rfl)
theorem r39_52 : am_T d 39 52 [some (.ref a0), l1, l2] st S I J Q = am_T d 39 53 [some (.ref a0), l1, l2] (.ref a0 :: st) S I J Q := tr_aload_n (m := 0) (by decide +kernel) rfl
theorem r39_53 : am_T d 39 53 ls st S I J Q = am_T d 39 54 ls (.int 1 :: st) S I J Q := tr_iconst (m := 1) (by decide +kernel) (by decide)
theorem r39_54 : am_T d 39 54 ls (.int x0 :: .ref a0 :: st) S I J Q = ((am_is S a0 4 ∧ (x0 = 0 ∨ x0 = 1)) ∧ am_T d 39 57 ls st S (am_up I a0 0 x0) J Q) := tr_putz (k := 24) (by decide +kernel) (by decide +kernel) (by decide +kernel) (by decide +kernel)
theorem r39_57 : am_T d 39 57 [some (.ref a0), l1, l2] st S I J Q = am_T d 39 58 [some (.ref a0), l1, l2] (.ref a0 :: st) S I J Q := tr_aload_n (m := 0) (by decide +kernel) rfl
theorem r39_58 : am_T d 39 58 ls (.ref a0 :: st) S I J Q = (am_is S a0 4 ∧ am_T d 39 61 ls (.int (I a0 1) :: st) S I J Q) := tr_geti (k := 28) (by decide +kernel) (by decide +kernel) (Or.inr (by decide +kernel))
theorem r39_61 : am_T d 39 61 ls [.int x0] S I J Q = ((x0 = 0 ∨ x0 = 1) ∧ Q (some (.int x0)) S I J) := tr_iretz (by decide +kernel) (by decide +kernel)
-- 40 Lim.prepare(LArborescenceFinder$Graph;[I)V; heads [29]
theorem e40 : am_C (d + 1) 40 [.ref a0, .ref a1, .ref a2] S I J Q = am_T d 40 0 [some (.ref a0), some (.ref a1), some (.ref a2), none] [] S I J Q := tr_en (Nat.le_of_ble_eq_true rfl) rfl
theorem r40_0 : am_T d 40 0 [l0, l1, some (.ref a0), l3] st S I J Q = am_T d 40 1 [l0, l1, some (.ref a0), l3] (.ref a0 :: st) S I J Q := tr_aload_n (m := 2) (by decide +kernel) rfl
theorem r40_1 : am_T d 40 1 ls st S I J Q = am_T d 40 2 ls (.int 0 :: st) S I J Q := tr_iconst (m := 0) (by decide +kernel) (by decide)
theorem r40_2 : am_T d 40 2 [some (.ref a0), l1, l2, l3] st S I J Q = am_T d 40 3 [some (.ref a0), l1, l2, l3] (.ref a0 :: st) S I J Q := tr_aload_n (m := 0) (by decide +kernel) rfl
theorem r40_3 : am_T d 40 3 ls (.ref a0 :: st) S I J Q = ((am_is S a0 4 ∧ am_rf S a0 6 ≠ 0) ∧ am_T d 40 6 ls (.ref (am_rf S a0 6) :: st) S I J Q) := tr_geta (k := 21) (by decide +kernel) (by decide +kernel) (by decide +kernel)
theorem r40_6 : am_T d 40 6 ls st S I J Q = am_T d 40 7 ls (.int 0 :: st) S I J Q := tr_iconst (m := 0) (by decide +kernel) (by decide)
theorem r40_7 : am_T d 40 7 ls st S I J Q = am_T d 40 9 ls (.int 32 :: st) S I J Q := tr_bipush (m := 32) (by decide +kernel) (by decide)
theorem r40_9 : am_T d 40 9 ls [.int x4, .int x3, .ref a2, .int x1, .ref a0] S I J Q = (am_cpy S a2 a0 x1 x3 x4 ∧ am_T d 40 12 ls [] S (am_row I a2 (va_cpy (I a0) (I a2) x1.toNatClampNeg x3.toNatClampNeg x4.toNatClampNeg)) J Q) := tr_copy (k := 61) (by decide +kernel) (by decide +kernel) (Nat.le_of_ble_eq_true rfl)
theorem r40_12 : am_T d 40 12 [l0, some (.ref a0), l2, l3] st S I J Q = am_T d 40 13 [l0, some (.ref a0), l2, l3] (.ref a0 :: st) S I J Q := tr_aload_n (m := 1) (by decide +kernel) rfl
theorem r40_13 : am_T d 40 13 ls (.ref a0 :: st) S I J Q = ((am_is S a0 1 ∧ am_rf S a0 6 ≠ 0) ∧ am_T d 40 16 ls (.ref (am_rf S a0 6) :: st) S I J Q) := tr_geta (k := 67) (by decide +kernel) (by decide +kernel) (by decide +kernel)
theorem r40_16 : am_T d 40 16 ls st S I J Q = am_T d 40 17 ls (.int 0 :: st) S I J Q := tr_iconst (m := 0) (by decide +kernel) (by decide)
theorem r40_17 : am_T d 40 17 [some (.ref a0), l1, l2, l3] st S I J Q = am_T d 40 18 [some (.ref a0), l1, l2, l3] (.ref a0 :: st) S I J Q := tr_aload_n (m := 0) (by decide +kernel) rfl
theorem r40_18 : am_T d 40 18 ls (.ref a0 :: st) S I J Q = ((am_is S a0 4 ∧ am_rf S a0 5 ≠ 0) ∧ am_T d 40 21 ls (.ref (am_rf S a0 5) :: st) S I J Q) := tr_geta (k := 18) (by decide +kernel) (by decide +kernel) (by decide +kernel)
theorem r40_21 : am_T d 40 21 ls st S I J Q = am_T d 40 22 ls (.int 0 :: st) S I J Q := tr_iconst (m := 0) (by decide +kernel) (by decide)
theorem r40_22 : am_T d 40 22 ls st S I J Q = am_T d 40 24 ls (.int 8 :: st) S I J Q := tr_bipush (m := 8) (by decide +kernel) (by decide)
theorem r40_24 : am_T d 40 24 ls [.int x4, .int x3, .ref a2, .int x1, .ref a0] S I J Q = (am_cpy S a2 a0 x1 x3 x4 ∧ am_T d 40 27 ls [] S (am_row I a2 (va_cpy (I a0) (I a2) x1.toNatClampNeg x3.toNatClampNeg x4.toNatClampNeg)) J Q) := tr_copy (k := 61) (by decide +kernel) (by decide +kernel) (Nat.le_of_ble_eq_true rfl)
theorem r40_27 : am_T d 40 27 ls st S I J Q = am_T d 40 28 ls (.int 0 :: st) S I J Q := tr_iconst (m := 0) (by decide +kernel) (by decide)
theorem r40_28 : am_T d 40 28 [l0, l1, l2, l3] (.int x0 :: st) S I J Q = am_T d 40 29 [l0, l1, am_clr l2, some (.int x0)] st S I J Q := tr_istore_n (m := 3) (by decide +kernel) (Nat.le_of_ble_eq_true rfl) rfl
theorem r40_29 : am_T d 40 29 [l0, l1, l2, some (.int x0)] st S I J Q = am_T d 40 30 [l0, l1, l2, some (.int x0)] (.int x0 :: st) S I J Q := tr_iload_n (m := 3) (by decide +kernel) rfl
theorem r40_30 : am_T d 40 30 ls st S I J Q = am_T d 40 32 ls (.int 8 :: st) S I J Q := tr_bipush (m := 8) (by decide +kernel) (by decide)
theorem r40_32 : am_T d 40 32 ls (.int x1 :: .int x0 :: st) S I J Q = if x1 ≤ x0 then am_T d 40 48 ls st S I J Q else am_T d 40 35 ls st S I J Q := tr_icmpge (o := 16) (by decide +kernel) rfl
theorem r40_35 : am_T d 40 35 [some (.ref a0), l1, l2, l3] st S I J Q = am_T d 40 36 [some (.ref a0), l1, l2, l3] (.ref a0 :: st) S I J Q := tr_aload_n (m := 0) (by decide +kernel) rfl
theorem r40_36 : am_T d 40 36 ls (.ref a0 :: st) S I J Q = ((am_is S a0 4 ∧ am_rf S a0 4 ≠ 0) ∧ am_T d 40 39 ls (.ref (am_rf S a0 4) :: st) S I J Q) := tr_geta (k := 15) (by decide +kernel) (by decide +kernel) (by decide +kernel)
theorem r40_39 : am_T d 40 39 [l0, l1, l2, some (.int x0)] st S I J Q = am_T d 40 40 [l0, l1, l2, some (.int x0)] (.int x0 :: st) S I J Q := tr_iload_n (m := 3) (by decide +kernel) rfl
theorem r40_40 : am_T d 40 40 ls st S I J Q = am_T d 40 41 ls (.int (-1) :: st) S I J Q := tr_iconst (m := -1) (by decide +kernel) (by decide)
theorem r40_41 : am_T d 40 41 ls (.int x1 :: .int x0 :: .ref a0 :: st) S I J Q = (am_ixw S a0 20 x0 ∧ am_T d 40 42 ls st S (am_up I a0 x0.toNatClampNeg x1) J Q) := tr_iast (by decide +kernel)
theorem r40_42 : am_T d 40 42 [l0, l1, l2, some (.int x0)] st S I J Q = am_T d 40 45 [l0, l1, am_clr l2, some (.int (x0 + 1))] st S I J Q := tr_iinc (k := 3) (m := 1) (by decide +kernel) rfl (Nat.le_of_ble_eq_true rfl) (by decide) rfl
theorem r40_45 : am_T d 40 45 ls st S I J Q = am_T d 40 29 ls st S I J Q := tr_goto (o := -16) (by decide +kernel) rfl
theorem r40_48 : am_T d 40 48 ls [] S I J Q = Q none S I J := tr_vret (by decide +kernel) (by decide +kernel)
-- 41 Lim.choose(LArborescenceFinder$LimitedSearch;LArborescenceFinder$Graph;II)V; heads [35]
theorem e41 : am_C (d + 1) 41 [.ref a0, .ref a1, .int x2, .int x3] S I J Q = am_T d 41 0 [some (.ref a0), some (.ref a1), some (.int x2), some (.int x3), none, none] [] S I J Q := tr_en (Nat.le_of_ble_eq_true rfl) rfl
theorem r41_0 : am_T d 41 0 [l0, l1, some (.int x0), l3, l4, l5] st S I J Q = am_T d 41 1 [l0, l1, some (.int x0), l3, l4, l5] (.int x0 :: st) S I J Q := tr_iload_n (m := 2) (by decide +kernel) rfl
theorem r41_1 : am_T d 41 1 [l0, some (.ref a0), l2, l3, l4, l5] st S I J Q = am_T d 41 2 [l0, some (.ref a0), l2, l3, l4, l5] (.ref a0 :: st) S I J Q := tr_aload_n (m := 1) (by decide +kernel) rfl
theorem r41_2 : am_T d 41 2 ls (.ref a0 :: st) S I J Q = (am_is S a0 1 ∧ am_T d 41 5 ls (.int (I a0 0) :: st) S I J Q) := tr_geti (k := 70) (by decide +kernel) (by decide +kernel) (Or.inl (by decide +kernel))
theorem r41_5 : am_T d 41 5 ls (.int x1 :: .int x0 :: st) S I J Q = if x0 < x1 then am_T d 41 14 ls st S I J Q else am_T d 41 8 ls st S I J Q := tr_icmplt (o := 9) (by decide +kernel) rfl
theorem r41_8 : am_T d 41 8 [some (.ref a0), l1, l2, l3, l4, l5] st S I J Q = am_T d 41 9 [some (.ref a0), l1, l2, l3, l4, l5] (.ref a0 :: st) S I J Q := tr_aload_n (m := 0) (by decide +kernel) rfl
theorem r41_9 : am_T d 41 9 [l0, some (.ref a0), l2, l3, l4, l5] st S I J Q = am_T d 41 10 [l0, some (.ref a0), l2, l3, l4, l5] (.ref a0 :: st) S I J Q := tr_aload_n (m := 1) (by decide +kernel) rfl
theorem r41_10 : am_T d 41 10 ls [.ref a1, .ref a0] S I J Q = (am_is S a0 4 ∧ am_C d 44 [.ref a0, .ref a1] S I J (fun r S I J => am_T d 41 13 ls (am_psh r []) S I J Q)) := tr_virt (k := 74) (by decide +kernel) (by decide +kernel) rfl rfl (Nat.le_of_ble_eq_true rfl) (by decide +kernel)
theorem r41_13 : am_T d 41 13 ls [] S I J Q = Q none S I J := tr_vret (by decide +kernel) (by decide +kernel)
theorem r41_14 : am_T d 41 14 [l0, l1, some (.int x0), l3, l4, l5] st S I J Q = am_T d 41 15 [l0, l1, some (.int x0), l3, l4, l5] (.int x0 :: st) S I J Q := tr_iload_n (m := 2) (by decide +kernel) rfl
theorem r41_15 : am_T d 41 15 [l0, some (.ref a0), l2, l3, l4, l5] st S I J Q = am_T d 41 16 [l0, some (.ref a0), l2, l3, l4, l5] (.ref a0 :: st) S I J Q := tr_aload_n (m := 1) (by decide +kernel) rfl
theorem r41_16 : am_T d 41 16 ls (.ref a0 :: st) S I J Q = (am_is S a0 1 ∧ am_T d 41 19 ls (.int (I a0 1) :: st) S I J Q) := tr_geti (k := 78) (by decide +kernel) (by decide +kernel) (Or.inl (by decide +kernel))
theorem r41_19 : am_T d 41 19 ls (.int x1 :: .int x0 :: st) S I J Q = if x0 = x1 then am_T d 41 22 ls st S I J Q else am_T d 41 32 ls st S I J Q := tr_icmpne (o := 13) (by decide +kernel) rfl
theorem r41_22 : am_T d 41 22 [some (.ref a0), l1, l2, l3, l4, l5] st S I J Q = am_T d 41 23 [some (.ref a0), l1, l2, l3, l4, l5] (.ref a0 :: st) S I J Q := tr_aload_n (m := 0) (by decide +kernel) rfl
theorem r41_23 : am_T d 41 23 [l0, some (.ref a0), l2, l3, l4, l5] st S I J Q = am_T d 41 24 [l0, some (.ref a0), l2, l3, l4, l5] (.ref a0 :: st) S I J Q := tr_aload_n (m := 1) (by decide +kernel) rfl
theorem r41_24 : am_T d 41 24 [l0, l1, some (.int x0), l3, l4, l5] st S I J Q = am_T d 41 25 [l0, l1, some (.int x0), l3, l4, l5] (.int x0 :: st) S I J Q := tr_iload_n (m := 2) (by decide +kernel) rfl
theorem r41_25 : am_T d 41 25 ls st S I J Q = am_T d 41 26 ls (.int 1 :: st) S I J Q := tr_iconst (m := 1) (by decide +kernel) (by decide)
theorem r41_26 : am_T d 41 26 ls (.int x1 :: .int x0 :: st) S I J Q = am_T d 41 27 ls (.int (x0 + x1) :: st) S I J Q := tr_iadd (by decide +kernel)
theorem r41_27 : am_T d 41 27 [l0, l1, l2, some (.int x0), l4, l5] st S I J Q = am_T d 41 28 [l0, l1, l2, some (.int x0), l4, l5] (.int x0 :: st) S I J Q := tr_iload_n (m := 3) (by decide +kernel) rfl
theorem r41_28 : am_T d 41 28 ls [.int x3, .int x2, .ref a1, .ref a0] S I J Q = am_C d 41 [.ref a0, .ref a1, .int x2, .int x3] S I J (fun r S I J => am_T d 41 31 ls (am_psh r []) S I J Q) := tr_stat (k := 57) (by decide +kernel) (Or.inl (by decide +kernel)) (Nat.le_of_ble_eq_true rfl) rfl rfl (Nat.le_of_ble_eq_true rfl)
theorem r41_31 : am_T d 41 31 ls [] S I J Q = Q none S I J := tr_vret (by decide +kernel) (by decide +kernel)
theorem r41_32 : am_T d 41 32 ls st S I J Q = am_T d 41 33 ls (.int 0 :: st) S I J Q := tr_iconst (m := 0) (by decide +kernel) (by decide)
theorem r41_33 : am_T d 41 33 [l0, l1, l2, l3, l4, l5] (.int x0 :: st) S I J Q = am_T d 41 35 [l0, l1, l2, am_clr l3, some (.int x0), l5] st S I J Q := tr_istore (k := 4) (by decide +kernel) (Nat.le_of_ble_eq_true rfl) rfl
theorem r41_35 : am_T d 41 35 [l0, l1, l2, l3, some (.int x0), l5] st S I J Q = am_T d 41 37 [l0, l1, l2, l3, some (.int x0), l5] (.int x0 :: st) S I J Q := tr_iload (k := 4) (by decide +kernel) rfl
theorem r41_37 : am_T d 41 37 [l0, some (.ref a0), l2, l3, l4, l5] st S I J Q = am_T d 41 38 [l0, some (.ref a0), l2, l3, l4, l5] (.ref a0 :: st) S I J Q := tr_aload_n (m := 1) (by decide +kernel) rfl
theorem r41_38 : am_T d 41 38 ls (.ref a0 :: st) S I J Q = (am_is S a0 1 ∧ am_T d 41 41 ls (.int (I a0 2) :: st) S I J Q) := tr_geti (k := 81) (by decide +kernel) (by decide +kernel) (Or.inl (by decide +kernel))
theorem r41_41 : am_T d 41 41 ls (.int x1 :: .int x0 :: st) S I J Q = if x1 ≤ x0 then am_T d 41 150 ls st S I J Q else am_T d 41 44 ls st S I J Q := tr_icmpge (o := 109) (by decide +kernel) rfl
theorem r41_44 : am_T d 41 44 [l0, some (.ref a0), l2, l3, l4, l5] st S I J Q = am_T d 41 45 [l0, some (.ref a0), l2, l3, l4, l5] (.ref a0 :: st) S I J Q := tr_aload_n (m := 1) (by decide +kernel) rfl
theorem r41_45 : am_T d 41 45 ls (.ref a0 :: st) S I J Q = ((am_is S a0 1 ∧ am_rf S a0 4 ≠ 0) ∧ am_T d 41 48 ls (.ref (am_rf S a0 4) :: st) S I J Q) := tr_geta (k := 84) (by decide +kernel) (by decide +kernel) (by decide +kernel)
theorem r41_48 : am_T d 41 48 [l0, l1, l2, l3, some (.int x0), l5] st S I J Q = am_T d 41 50 [l0, l1, l2, l3, some (.int x0), l5] (.int x0 :: st) S I J Q := tr_iload (k := 4) (by decide +kernel) rfl
theorem r41_50 : am_T d 41 50 ls (.int x0 :: .ref a0 :: st) S I J Q = (am_ix S a0 20 x0 ∧ am_T d 41 51 ls (.int (I a0 x0.toNatClampNeg) :: st) S I J Q) := tr_iald (by decide +kernel)
theorem r41_51 : am_T d 41 51 [l0, l1, some (.int x0), l3, l4, l5] st S I J Q = am_T d 41 52 [l0, l1, some (.int x0), l3, l4, l5] (.int x0 :: st) S I J Q := tr_iload_n (m := 2) (by decide +kernel) rfl
theorem r41_52 : am_T d 41 52 ls (.int x1 :: .int x0 :: st) S I J Q = if x0 = x1 then am_T d 41 55 ls st S I J Q else am_T d 41 144 ls st S I J Q := tr_icmpne (o := 92) (by decide +kernel) rfl
theorem r41_55 : am_T d 41 55 [some (.ref a0), l1, l2, l3, l4, l5] st S I J Q = am_T d 41 56 [some (.ref a0), l1, l2, l3, l4, l5] (.ref a0 :: st) S I J Q := tr_aload_n (m := 0) (by decide +kernel) rfl
theorem r41_56 : am_T d 41 56 [l0, l1, l2, some (.int x0), l4, l5] st S I J Q = am_T d 41 57 [l0, l1, l2, some (.int x0), l4, l5] (.int x0 :: st) S I J Q := tr_iload_n (m := 3) (by decide +kernel) rfl
theorem r41_57 : am_T d 41 57 [some (.ref a0), l1, l2, l3, l4, l5] st S I J Q = am_T d 41 58 [some (.ref a0), l1, l2, l3, l4, l5] (.ref a0 :: st) S I J Q := tr_aload_n (m := 0) (by decide +kernel) rfl
theorem r41_58 : am_T d 41 58 ls (.ref a0 :: st) S I J Q = ((am_is S a0 4 ∧ am_rf S a0 6 ≠ 0) ∧ am_T d 41 61 ls (.ref (am_rf S a0 6) :: st) S I J Q) := tr_geta (k := 21) (by decide +kernel) (by decide +kernel) (by decide +kernel)
theorem r41_61 : am_T d 41 61 [l0, l1, l2, l3, some (.int x0), l5] st S I J Q = am_T d 41 63 [l0, l1, l2, l3, some (.int x0), l5] (.int x0 :: st) S I J Q := tr_iload (k := 4) (by decide +kernel) rfl
theorem r41_63 : am_T d 41 63 ls (.int x0 :: .ref a0 :: st) S I J Q = (am_ix S a0 20 x0 ∧ am_T d 41 64 ls (.int (I a0 x0.toNatClampNeg) :: st) S I J Q) := tr_iald (by decide +kernel)
theorem r41_64 : am_T d 41 64 ls (.int x1 :: .int x0 :: st) S I J Q = am_T d 41 65 ls (.int (x0 + x1) :: st) S I J Q := tr_iadd (by decide +kernel)
theorem r41_65 : am_T d 41 65 ls [.int x1, .ref a0] S I J Q = (am_is S a0 4 ∧ am_C d 42 [.ref a0, .int x1] S I J (fun r S I J => am_T d 41 68 ls (am_psh r []) S I J Q)) := tr_virt (k := 87) (by decide +kernel) (by decide +kernel) rfl rfl (Nat.le_of_ble_eq_true rfl) (by decide +kernel)
theorem r41_68 : am_T d 41 68 ls (.int x0 :: st) S I J Q = if x0 = 0 then am_T d 41 144 ls st S I J Q else am_T d 41 71 ls st S I J Q := tr_ifeq (o := 76) (by decide +kernel) rfl
theorem r41_71 : am_T d 41 71 [some (.ref a0), l1, l2, l3, l4, l5] st S I J Q = am_T d 41 72 [some (.ref a0), l1, l2, l3, l4, l5] (.ref a0 :: st) S I J Q := tr_aload_n (m := 0) (by decide +kernel) rfl
theorem r41_72 : am_T d 41 72 [l0, some (.ref a0), l2, l3, l4, l5] st S I J Q = am_T d 41 73 [l0, some (.ref a0), l2, l3, l4, l5] (.ref a0 :: st) S I J Q := tr_aload_n (m := 1) (by decide +kernel) rfl
theorem r41_73 : am_T d 41 73 [l0, l1, l2, l3, some (.int x0), l5] st S I J Q = am_T d 41 75 [l0, l1, l2, l3, some (.int x0), l5] (.int x0 :: st) S I J Q := tr_iload (k := 4) (by decide +kernel) rfl
theorem r41_75 : am_T d 41 75 ls [.int x2, .ref a1, .ref a0] S I J Q = (am_is S a0 4 ∧ am_C d 43 [.ref a0, .ref a1, .int x2] S I J (fun r S I J => am_T d 41 78 ls (am_psh r []) S I J Q)) := tr_virt (k := 91) (by decide +kernel) (by decide +kernel) rfl rfl (Nat.le_of_ble_eq_true rfl) (by decide +kernel)
theorem r41_78 : am_T d 41 78 ls (.int x0 :: st) S I J Q = if x0 = 0 then am_T d 41 144 ls st S I J Q else am_T d 41 81 ls st S I J Q := tr_ifeq (o := 66) (by decide +kernel) rfl
theorem r41_81 : am_T d 41 81 [l0, some (.ref a0), l2, l3, l4, l5] st S I J Q = am_T d 41 82 [l0, some (.ref a0), l2, l3, l4, l5] (.ref a0 :: st) S I J Q := tr_aload_n (m := 1) (by decide +kernel) rfl
theorem r41_82 : am_T d 41 82 ls (.ref a0 :: st) S I J Q = ((am_is S a0 1 ∧ am_rf S a0 3 ≠ 0) ∧ am_T d 41 85 ls (.ref (am_rf S a0 3) :: st) S I J Q) := tr_geta (k := 95) (by decide +kernel) (by decide +kernel) (by decide +kernel)
theorem r41_85 : am_T d 41 85 [l0, l1, l2, l3, some (.int x0), l5] st S I J Q = am_T d 41 87 [l0, l1, l2, l3, some (.int x0), l5] (.int x0 :: st) S I J Q := tr_iload (k := 4) (by decide +kernel) rfl
theorem r41_87 : am_T d 41 87 ls (.int x0 :: .ref a0 :: st) S I J Q = (am_ix S a0 20 x0 ∧ am_T d 41 88 ls (.int (I a0 x0.toNatClampNeg) :: st) S I J Q) := tr_iald (by decide +kernel)
theorem r41_88 : am_T d 41 88 [l0, l1, l2, l3, l4, l5] (.int x0 :: st) S I J Q = am_T d 41 90 [l0, l1, l2, l3, am_clr l4, some (.int x0)] st S I J Q := tr_istore (k := 5) (by decide +kernel) (Nat.le_of_ble_eq_true rfl) rfl
theorem r41_90 : am_T d 41 90 [some (.ref a0), l1, l2, l3, l4, l5] st S I J Q = am_T d 41 91 [some (.ref a0), l1, l2, l3, l4, l5] (.ref a0 :: st) S I J Q := tr_aload_n (m := 0) (by decide +kernel) rfl
theorem r41_91 : am_T d 41 91 ls (.ref a0 :: st) S I J Q = ((am_is S a0 4 ∧ am_rf S a0 4 ≠ 0) ∧ am_T d 41 94 ls (.ref (am_rf S a0 4) :: st) S I J Q) := tr_geta (k := 15) (by decide +kernel) (by decide +kernel) (by decide +kernel)
theorem r41_94 : am_T d 41 94 [l0, l1, some (.int x0), l3, l4, l5] st S I J Q = am_T d 41 95 [l0, l1, some (.int x0), l3, l4, l5] (.int x0 :: st) S I J Q := tr_iload_n (m := 2) (by decide +kernel) rfl
theorem r41_95 : am_T d 41 95 [l0, l1, l2, l3, some (.int x0), l5] st S I J Q = am_T d 41 97 [l0, l1, l2, l3, some (.int x0), l5] (.int x0 :: st) S I J Q := tr_iload (k := 4) (by decide +kernel) rfl
theorem r41_97 : am_T d 41 97 ls (.int x1 :: .int x0 :: .ref a0 :: st) S I J Q = (am_ixw S a0 20 x0 ∧ am_T d 41 98 ls st S (am_up I a0 x0.toNatClampNeg x1) J Q) := tr_iast (by decide +kernel)
theorem r41_98 : am_T d 41 98 [some (.ref a0), l1, l2, l3, l4, l5] st S I J Q = am_T d 41 99 [some (.ref a0), l1, l2, l3, l4, l5] (.ref a0 :: st) S I J Q := tr_aload_n (m := 0) (by decide +kernel) rfl
theorem r41_99 : am_T d 41 99 ls (.ref a0 :: st) S I J Q = ((am_is S a0 4 ∧ am_rf S a0 5 ≠ 0) ∧ am_T d 41 102 ls (.ref (am_rf S a0 5) :: st) S I J Q) := tr_geta (k := 18) (by decide +kernel) (by decide +kernel) (by decide +kernel)
theorem r41_102 : am_T d 41 102 [l0, l1, l2, l3, l4, some (.int x0)] st S I J Q = am_T d 41 104 [l0, l1, l2, l3, l4, some (.int x0)] (.int x0 :: st) S I J Q := tr_iload (k := 5) (by decide +kernel) rfl
theorem r41_104 : am_T d 41 104 ls (.int x0 :: .ref a0 :: st) S I J Q = am_T d 41 105 ls (.int x0 :: .ref a0 :: .int x0 :: .ref a0 :: st) S I J Q := tr_dup2 (by decide +kernel)
theorem r41_105 : am_T d 41 105 ls (.int x0 :: .ref a0 :: st) S I J Q = (am_ix S a0 20 x0 ∧ am_T d 41 106 ls (.int (I a0 x0.toNatClampNeg) :: st) S I J Q) := tr_iald (by decide +kernel)
theorem r41_106 : am_T d 41 106 ls st S I J Q = am_T d 41 107 ls (.int 1 :: st) S I J Q := tr_iconst (m := 1) (by decide +kernel) (by decide)
theorem r41_107 : am_T d 41 107 ls (.int x1 :: .int x0 :: st) S I J Q = am_T d 41 108 ls (.int (x0 - x1) :: st) S I J Q := tr_isub (by decide +kernel)
theorem r41_108 : am_T d 41 108 ls (.int x1 :: .int x0 :: .ref a0 :: st) S I J Q = (am_ixw S a0 20 x0 ∧ am_T d 41 109 ls st S (am_up I a0 x0.toNatClampNeg x1) J Q) := tr_iast (by decide +kernel)
theorem r41_109 : am_T d 41 109 [some (.ref a0), l1, l2, l3, l4, l5] st S I J Q = am_T d 41 110 [some (.ref a0), l1, l2, l3, l4, l5] (.ref a0 :: st) S I J Q := tr_aload_n (m := 0) (by decide +kernel) rfl
theorem r41_110 : am_T d 41 110 [l0, some (.ref a0), l2, l3, l4, l5] st S I J Q = am_T d 41 111 [l0, some (.ref a0), l2, l3, l4, l5] (.ref a0 :: st) S I J Q := tr_aload_n (m := 1) (by decide +kernel) rfl
theorem r41_111 : am_T d 41 111 [l0, l1, some (.int x0), l3, l4, l5] st S I J Q = am_T d 41 112 [l0, l1, some (.int x0), l3, l4, l5] (.int x0 :: st) S I J Q := tr_iload_n (m := 2) (by decide +kernel) rfl
theorem r41_112 : am_T d 41 112 ls st S I J Q = am_T d 41 113 ls (.int 1 :: st) S I J Q := tr_iconst (m := 1) (by decide +kernel) (by decide)
theorem r41_113 : am_T d 41 113 ls (.int x1 :: .int x0 :: st) S I J Q = am_T d 41 114 ls (.int (x0 + x1) :: st) S I J Q := tr_iadd (by decide +kernel)
theorem r41_114 : am_T d 41 114 [l0, l1, l2, some (.int x0), l4, l5] st S I J Q = am_T d 41 115 [l0, l1, l2, some (.int x0), l4, l5] (.int x0 :: st) S I J Q := tr_iload_n (m := 3) (by decide +kernel) rfl
theorem r41_115 : am_T d 41 115 [some (.ref a0), l1, l2, l3, l4, l5] st S I J Q = am_T d 41 116 [some (.ref a0), l1, l2, l3, l4, l5] (.ref a0 :: st) S I J Q := tr_aload_n (m := 0) (by decide +kernel) rfl
theorem r41_116 : am_T d 41 116 ls (.ref a0 :: st) S I J Q = ((am_is S a0 4 ∧ am_rf S a0 6 ≠ 0) ∧ am_T d 41 119 ls (.ref (am_rf S a0 6) :: st) S I J Q) := tr_geta (k := 21) (by decide +kernel) (by decide +kernel) (by decide +kernel)
theorem r41_119 : am_T d 41 119 [l0, l1, l2, l3, some (.int x0), l5] st S I J Q = am_T d 41 121 [l0, l1, l2, l3, some (.int x0), l5] (.int x0 :: st) S I J Q := tr_iload (k := 4) (by decide +kernel) rfl
theorem r41_121 : am_T d 41 121 ls (.int x0 :: .ref a0 :: st) S I J Q = (am_ix S a0 20 x0 ∧ am_T d 41 122 ls (.int (I a0 x0.toNatClampNeg) :: st) S I J Q) := tr_iald (by decide +kernel)
theorem r41_122 : am_T d 41 122 ls (.int x1 :: .int x0 :: st) S I J Q = am_T d 41 123 ls (.int (x0 + x1) :: st) S I J Q := tr_iadd (by decide +kernel)
theorem r41_123 : am_T d 41 123 ls [.int x3, .int x2, .ref a1, .ref a0] S I J Q = am_C d 41 [.ref a0, .ref a1, .int x2, .int x3] S I J (fun r S I J => am_T d 41 126 ls (am_psh r []) S I J Q) := tr_stat (k := 57) (by decide +kernel) (Or.inl (by decide +kernel)) (Nat.le_of_ble_eq_true rfl) rfl rfl (Nat.le_of_ble_eq_true rfl)
theorem r41_126 : am_T d 41 126 [some (.ref a0), l1, l2, l3, l4, l5] st S I J Q = am_T d 41 127 [some (.ref a0), l1, l2, l3, l4, l5] (.ref a0 :: st) S I J Q := tr_aload_n (m := 0) (by decide +kernel) rfl
theorem r41_127 : am_T d 41 127 ls (.ref a0 :: st) S I J Q = ((am_is S a0 4 ∧ am_rf S a0 5 ≠ 0) ∧ am_T d 41 130 ls (.ref (am_rf S a0 5) :: st) S I J Q) := tr_geta (k := 18) (by decide +kernel) (by decide +kernel) (by decide +kernel)
theorem r41_130 : am_T d 41 130 [l0, l1, l2, l3, l4, some (.int x0)] st S I J Q = am_T d 41 132 [l0, l1, l2, l3, l4, some (.int x0)] (.int x0 :: st) S I J Q := tr_iload (k := 5) (by decide +kernel) rfl
theorem r41_132 : am_T d 41 132 ls (.int x0 :: .ref a0 :: st) S I J Q = am_T d 41 133 ls (.int x0 :: .ref a0 :: .int x0 :: .ref a0 :: st) S I J Q := tr_dup2 (by decide +kernel)
theorem r41_133 : am_T d 41 133 ls (.int x0 :: .ref a0 :: st) S I J Q = (am_ix S a0 20 x0 ∧ am_T d 41 134 ls (.int (I a0 x0.toNatClampNeg) :: st) S I J Q) := tr_iald (by decide +kernel)
theorem r41_134 : am_T d 41 134 ls st S I J Q = am_T d 41 135 ls (.int 1 :: st) S I J Q := tr_iconst (m := 1) (by decide +kernel) (by decide)
theorem r41_135 : am_T d 41 135 ls (.int x1 :: .int x0 :: st) S I J Q = am_T d 41 136 ls (.int (x0 + x1) :: st) S I J Q := tr_iadd (by decide +kernel)
theorem r41_136 : am_T d 41 136 ls (.int x1 :: .int x0 :: .ref a0 :: st) S I J Q = (am_ixw S a0 20 x0 ∧ am_T d 41 137 ls st S (am_up I a0 x0.toNatClampNeg x1) J Q) := tr_iast (by decide +kernel)
theorem r41_137 : am_T d 41 137 [some (.ref a0), l1, l2, l3, l4, l5] st S I J Q = am_T d 41 138 [some (.ref a0), l1, l2, l3, l4, l5] (.ref a0 :: st) S I J Q := tr_aload_n (m := 0) (by decide +kernel) rfl
theorem r41_138 : am_T d 41 138 ls (.ref a0 :: st) S I J Q = ((am_is S a0 4 ∧ am_rf S a0 4 ≠ 0) ∧ am_T d 41 141 ls (.ref (am_rf S a0 4) :: st) S I J Q) := tr_geta (k := 15) (by decide +kernel) (by decide +kernel) (by decide +kernel)
theorem r41_141 : am_T d 41 141 [l0, l1, some (.int x0), l3, l4, l5] st S I J Q = am_T d 41 142 [l0, l1, some (.int x0), l3, l4, l5] (.int x0 :: st) S I J Q := tr_iload_n (m := 2) (by decide +kernel) rfl
theorem r41_142 : am_T d 41 142 ls st S I J Q = am_T d 41 143 ls (.int (-1) :: st) S I J Q := tr_iconst (m := -1) (by decide +kernel) (by decide)
theorem r41_143 : am_T d 41 143 ls (.int x1 :: .int x0 :: .ref a0 :: st) S I J Q = (am_ixw S a0 20 x0 ∧ am_T d 41 144 ls st S (am_up I a0 x0.toNatClampNeg x1) J Q) := tr_iast (by decide +kernel)
theorem r41_144 : am_T d 41 144 [l0, l1, l2, l3, some (.int x0), l5] st S I J Q = am_T d 41 147 [l0, l1, l2, am_clr l3, some (.int (x0 + 1)), l5] st S I J Q := tr_iinc (k := 4) (m := 1) (by decide +kernel) rfl (Nat.le_of_ble_eq_true rfl) (by decide) rfl
theorem r41_147 : am_T d 41 147 ls st S I J Q = am_T d 41 35 ls st S I J Q := tr_goto (o := -112) (by decide +kernel) rfl
theorem r41_150 : am_T d 41 150 ls [] S I J Q = Q none S I J := tr_vret (by decide +kernel) (by decide +kernel)
-- 42 Lim.isUseful(I)Z; heads []
theorem e42 : am_C (d + 1) 42 [.ref a0, .int x1] S I J Q = am_T d 42 0 [some (.ref a0), some (.int x1)] [] S I J Q := tr_en (Nat.le_of_ble_eq_true rfl) rfl
theorem r42_0 : am_T d 42 0 [some (.ref a0), l1] st S I J Q = am_T d 42 1 [some (.ref a0), l1] (.ref a0 :: st) S I J Q := tr_aload_n (m := 0) (by decide +kernel) rfl
theorem r42_1 : am_T d 42 1 ls (.ref a0 :: st) S I J Q = (am_is S a0 4 ∧ am_T d 42 4 ls (.int (I a0 1) :: st) S I J Q) := tr_geti (k := 28) (by decide +kernel) (by decide +kernel) (Or.inr (by decide +kernel))
theorem r42_4 : am_T d 42 4 ls (.int x0 :: st) S I J Q = if x0 = 0 then am_T d 42 15 ls st S I J Q else am_T d 42 7 ls st S I J Q := tr_ifeq (o := 11) (by decide +kernel) rfl
theorem r42_7 : am_T d 42 7 [l0, some (.int x0)] st S I J Q = am_T d 42 8 [l0, some (.int x0)] (.int x0 :: st) S I J Q := tr_iload_n (m := 1) (by decide +kernel) rfl
theorem r42_8 : am_T d 42 8 [some (.ref a0), l1] st S I J Q = am_T d 42 9 [some (.ref a0), l1] (.ref a0 :: st) S I J Q := tr_aload_n (m := 0) (by decide +kernel) rfl
theorem r42_9 : am_T d 42 9 ls (.ref a0 :: st) S I J Q = (am_is S a0 4 ∧ am_T d 42 12 ls (.int (I a0 2) :: st) S I J Q) := tr_geti (k := 98) (by decide +kernel) (by decide +kernel) (Or.inl (by decide +kernel))
theorem r42_12 : am_T d 42 12 ls (.int x1 :: .int x0 :: st) S I J Q = if x1 ≤ x0 then am_T d 42 19 ls st S I J Q else am_T d 42 15 ls st S I J Q := tr_icmpge (o := 7) (by decide +kernel) rfl
theorem r42_15 : am_T d 42 15 ls st S I J Q = am_T d 42 16 ls (.int 1 :: st) S I J Q := tr_iconst (m := 1) (by decide +kernel) (by decide)
theorem r42_16 : am_T d 42 16 ls st S I J Q = am_T d 42 20 ls st S I J Q := tr_goto (o := 4) (by decide +kernel) rfl
theorem r42_19 : am_T d 42 19 ls st S I J Q = am_T d 42 20 ls (.int 0 :: st) S I J Q := tr_iconst (m := 0) (by decide +kernel) (by decide)
theorem r42_20 : am_T d 42 20 ls [.int x0] S I J Q = ((x0 = 0 ∨ x0 = 1) ∧ Q (some (.int x0)) S I J) := tr_iretz (by decide +kernel) (by decide +kernel)
-- 43 Lim.canTake(LArborescenceFinder$Graph;I)Z; heads [21]
theorem e43 : am_C (d + 1) 43 [.ref a0, .ref a1, .int x2] S I J Q = am_T d 43 0 [some (.ref a0), some (.ref a1), some (.int x2), none, none] [] S I J Q := tr_en (Nat.le_of_ble_eq_true rfl) rfl
theorem r43_0 : am_T d 43 0 [l0, some (.ref a0), l2, l3, l4] st S I J Q = am_T d 43 1 [l0, some (.ref a0), l2, l3, l4] (.ref a0 :: st) S I J Q := tr_aload_n (m := 1) (by decide +kernel) rfl
theorem r43_1 : am_T d 43 1 ls (.ref a0 :: st) S I J Q = ((am_is S a0 1 ∧ am_rf S a0 3 ≠ 0) ∧ am_T d 43 4 ls (.ref (am_rf S a0 3) :: st) S I J Q) := tr_geta (k := 95) (by decide +kernel) (by decide +kernel) (by decide +kernel)
theorem r43_4 : am_T d 43 4 [l0, l1, some (.int x0), l3, l4] st S I J Q = am_T d 43 5 [l0, l1, some (.int x0), l3, l4] (.int x0 :: st) S I J Q := tr_iload_n (m := 2) (by decide +kernel) rfl
theorem r43_5 : am_T d 43 5 ls (.int x0 :: .ref a0 :: st) S I J Q = (am_ix S a0 20 x0 ∧ am_T d 43 6 ls (.int (I a0 x0.toNatClampNeg) :: st) S I J Q) := tr_iald (by decide +kernel)
theorem r43_6 : am_T d 43 6 [l0, l1, l2, l3, l4] (.int x0 :: st) S I J Q = am_T d 43 7 [l0, l1, am_clr l2, some (.int x0), l4] st S I J Q := tr_istore_n (m := 3) (by decide +kernel) (Nat.le_of_ble_eq_true rfl) rfl
theorem r43_7 : am_T d 43 7 [some (.ref a0), l1, l2, l3, l4] st S I J Q = am_T d 43 8 [some (.ref a0), l1, l2, l3, l4] (.ref a0 :: st) S I J Q := tr_aload_n (m := 0) (by decide +kernel) rfl
theorem r43_8 : am_T d 43 8 ls (.ref a0 :: st) S I J Q = ((am_is S a0 4 ∧ am_rf S a0 5 ≠ 0) ∧ am_T d 43 11 ls (.ref (am_rf S a0 5) :: st) S I J Q) := tr_geta (k := 18) (by decide +kernel) (by decide +kernel) (by decide +kernel)
theorem r43_11 : am_T d 43 11 [l0, l1, l2, some (.int x0), l4] st S I J Q = am_T d 43 12 [l0, l1, l2, some (.int x0), l4] (.int x0 :: st) S I J Q := tr_iload_n (m := 3) (by decide +kernel) rfl
theorem r43_12 : am_T d 43 12 ls (.int x0 :: .ref a0 :: st) S I J Q = (am_ix S a0 20 x0 ∧ am_T d 43 13 ls (.int (I a0 x0.toNatClampNeg) :: st) S I J Q) := tr_iald (by decide +kernel)
theorem r43_13 : am_T d 43 13 ls (.int x0 :: st) S I J Q = if 0 < x0 then am_T d 43 18 ls st S I J Q else am_T d 43 16 ls st S I J Q := tr_ifgt (o := 5) (by decide +kernel) rfl
theorem r43_16 : am_T d 43 16 ls st S I J Q = am_T d 43 17 ls (.int 0 :: st) S I J Q := tr_iconst (m := 0) (by decide +kernel) (by decide)
theorem r43_17 : am_T d 43 17 ls [.int x0] S I J Q = ((x0 = 0 ∨ x0 = 1) ∧ Q (some (.int x0)) S I J) := tr_iretz (by decide +kernel) (by decide +kernel)
theorem r43_18 : am_T d 43 18 ls st S I J Q = am_T d 43 19 ls (.int 0 :: st) S I J Q := tr_iconst (m := 0) (by decide +kernel) (by decide)
theorem r43_19 : am_T d 43 19 [l0, l1, l2, l3, l4] (.int x0 :: st) S I J Q = am_T d 43 21 [l0, l1, l2, am_clr l3, some (.int x0)] st S I J Q := tr_istore (k := 4) (by decide +kernel) (Nat.le_of_ble_eq_true rfl) rfl
theorem r43_21 : am_T d 43 21 [l0, l1, l2, l3, some (.int x0)] st S I J Q = am_T d 43 23 [l0, l1, l2, l3, some (.int x0)] (.int x0 :: st) S I J Q := tr_iload (k := 4) (by decide +kernel) rfl
theorem r43_23 : am_T d 43 23 [l0, some (.ref a0), l2, l3, l4] st S I J Q = am_T d 43 24 [l0, some (.ref a0), l2, l3, l4] (.ref a0 :: st) S I J Q := tr_aload_n (m := 1) (by decide +kernel) rfl
theorem r43_24 : am_T d 43 24 ls (.ref a0 :: st) S I J Q = (am_is S a0 1 ∧ am_T d 43 27 ls (.int (I a0 0) :: st) S I J Q) := tr_geti (k := 70) (by decide +kernel) (by decide +kernel) (Or.inl (by decide +kernel))
theorem r43_27 : am_T d 43 27 ls (.int x1 :: .int x0 :: st) S I J Q = if x1 ≤ x0 then am_T d 43 58 ls st S I J Q else am_T d 43 30 ls st S I J Q := tr_icmpge (o := 31) (by decide +kernel) rfl
theorem r43_30 : am_T d 43 30 [some (.ref a0), l1, l2, l3, l4] st S I J Q = am_T d 43 31 [some (.ref a0), l1, l2, l3, l4] (.ref a0 :: st) S I J Q := tr_aload_n (m := 0) (by decide +kernel) rfl
theorem r43_31 : am_T d 43 31 ls (.ref a0 :: st) S I J Q = ((am_is S a0 4 ∧ am_rf S a0 4 ≠ 0) ∧ am_T d 43 34 ls (.ref (am_rf S a0 4) :: st) S I J Q) := tr_geta (k := 15) (by decide +kernel) (by decide +kernel) (by decide +kernel)
theorem r43_34 : am_T d 43 34 [l0, l1, l2, some (.int x0), l4] st S I J Q = am_T d 43 35 [l0, l1, l2, some (.int x0), l4] (.int x0 :: st) S I J Q := tr_iload_n (m := 3) (by decide +kernel) rfl
theorem r43_35 : am_T d 43 35 ls (.int x0 :: .ref a0 :: st) S I J Q = (am_ix S a0 20 x0 ∧ am_T d 43 36 ls (.int (I a0 x0.toNatClampNeg) :: st) S I J Q) := tr_iald (by decide +kernel)
theorem r43_36 : am_T d 43 36 ls st S I J Q = am_T d 43 37 ls (.int (-1) :: st) S I J Q := tr_iconst (m := -1) (by decide +kernel) (by decide)
theorem r43_37 : am_T d 43 37 ls (.int x1 :: .int x0 :: st) S I J Q = if x0 = x1 then am_T d 43 58 ls st S I J Q else am_T d 43 40 ls st S I J Q := tr_icmpeq (o := 21) (by decide +kernel) rfl
theorem r43_40 : am_T d 43 40 [l0, some (.ref a0), l2, l3, l4] st S I J Q = am_T d 43 41 [l0, some (.ref a0), l2, l3, l4] (.ref a0 :: st) S I J Q := tr_aload_n (m := 1) (by decide +kernel) rfl
theorem r43_41 : am_T d 43 41 ls (.ref a0 :: st) S I J Q = ((am_is S a0 1 ∧ am_rf S a0 3 ≠ 0) ∧ am_T d 43 44 ls (.ref (am_rf S a0 3) :: st) S I J Q) := tr_geta (k := 95) (by decide +kernel) (by decide +kernel) (by decide +kernel)
theorem r43_44 : am_T d 43 44 [some (.ref a0), l1, l2, l3, l4] st S I J Q = am_T d 43 45 [some (.ref a0), l1, l2, l3, l4] (.ref a0 :: st) S I J Q := tr_aload_n (m := 0) (by decide +kernel) rfl
theorem r43_45 : am_T d 43 45 ls (.ref a0 :: st) S I J Q = ((am_is S a0 4 ∧ am_rf S a0 4 ≠ 0) ∧ am_T d 43 48 ls (.ref (am_rf S a0 4) :: st) S I J Q) := tr_geta (k := 15) (by decide +kernel) (by decide +kernel) (by decide +kernel)
theorem r43_48 : am_T d 43 48 [l0, l1, l2, some (.int x0), l4] st S I J Q = am_T d 43 49 [l0, l1, l2, some (.int x0), l4] (.int x0 :: st) S I J Q := tr_iload_n (m := 3) (by decide +kernel) rfl
theorem r43_49 : am_T d 43 49 ls (.int x0 :: .ref a0 :: st) S I J Q = (am_ix S a0 20 x0 ∧ am_T d 43 50 ls (.int (I a0 x0.toNatClampNeg) :: st) S I J Q) := tr_iald (by decide +kernel)
theorem r43_50 : am_T d 43 50 ls (.int x0 :: .ref a0 :: st) S I J Q = (am_ix S a0 20 x0 ∧ am_T d 43 51 ls (.int (I a0 x0.toNatClampNeg) :: st) S I J Q) := tr_iald (by decide +kernel)
theorem r43_51 : am_T d 43 51 [l0, l1, l2, l3, l4] (.int x0 :: st) S I J Q = am_T d 43 52 [l0, l1, am_clr l2, some (.int x0), l4] st S I J Q := tr_istore_n (m := 3) (by decide +kernel) (Nat.le_of_ble_eq_true rfl) rfl
theorem r43_52 : am_T d 43 52 [l0, l1, l2, l3, some (.int x0)] st S I J Q = am_T d 43 55 [l0, l1, l2, am_clr l3, some (.int (x0 + 1))] st S I J Q := tr_iinc (k := 4) (m := 1) (by decide +kernel) rfl (Nat.le_of_ble_eq_true rfl) (by decide) rfl
theorem r43_55 : am_T d 43 55 ls st S I J Q = am_T d 43 21 ls st S I J Q := tr_goto (o := -34) (by decide +kernel) rfl
theorem r43_58 : am_T d 43 58 [l0, l1, l2, some (.int x0), l4] st S I J Q = am_T d 43 59 [l0, l1, l2, some (.int x0), l4] (.int x0 :: st) S I J Q := tr_iload_n (m := 3) (by decide +kernel) rfl
theorem r43_59 : am_T d 43 59 [l0, some (.ref a0), l2, l3, l4] st S I J Q = am_T d 43 60 [l0, some (.ref a0), l2, l3, l4] (.ref a0 :: st) S I J Q := tr_aload_n (m := 1) (by decide +kernel) rfl
theorem r43_60 : am_T d 43 60 ls (.ref a0 :: st) S I J Q = ((am_is S a0 1 ∧ am_rf S a0 4 ≠ 0) ∧ am_T d 43 63 ls (.ref (am_rf S a0 4) :: st) S I J Q) := tr_geta (k := 84) (by decide +kernel) (by decide +kernel) (by decide +kernel)
theorem r43_63 : am_T d 43 63 [l0, l1, some (.int x0), l3, l4] st S I J Q = am_T d 43 64 [l0, l1, some (.int x0), l3, l4] (.int x0 :: st) S I J Q := tr_iload_n (m := 2) (by decide +kernel) rfl
theorem r43_64 : am_T d 43 64 ls (.int x0 :: .ref a0 :: st) S I J Q = (am_ix S a0 20 x0 ∧ am_T d 43 65 ls (.int (I a0 x0.toNatClampNeg) :: st) S I J Q) := tr_iald (by decide +kernel)
theorem r43_65 : am_T d 43 65 ls (.int x1 :: .int x0 :: st) S I J Q = if x0 = x1 then am_T d 43 72 ls st S I J Q else am_T d 43 68 ls st S I J Q := tr_icmpeq (o := 7) (by decide +kernel) rfl
theorem r43_68 : am_T d 43 68 ls st S I J Q = am_T d 43 69 ls (.int 1 :: st) S I J Q := tr_iconst (m := 1) (by decide +kernel) (by decide)
theorem r43_69 : am_T d 43 69 ls st S I J Q = am_T d 43 73 ls st S I J Q := tr_goto (o := 4) (by decide +kernel) rfl
theorem r43_72 : am_T d 43 72 ls st S I J Q = am_T d 43 73 ls (.int 0 :: st) S I J Q := tr_iconst (m := 0) (by decide +kernel) (by decide)
theorem r43_73 : am_T d 43 73 ls [.int x0] S I J Q = ((x0 = 0 ∨ x0 = 1) ∧ Q (some (.int x0)) S I J) := tr_iretz (by decide +kernel) (by decide +kernel)
-- 44 Lim.take(LArborescenceFinder$Graph;)V; heads [4]
theorem e44 : am_C (d + 1) 44 [.ref a0, .ref a1] S I J Q = am_T d 44 0 [some (.ref a0), some (.ref a1), none, none] [] S I J Q := tr_en (Nat.le_of_ble_eq_true rfl) rfl
theorem r44_0 : am_T d 44 0 ls st S I J Q = am_T d 44 1 ls (.int 0 :: st) S I J Q := tr_iconst (m := 0) (by decide +kernel) (by decide)
theorem r44_1 : am_T d 44 1 [l0, l1, l2, l3] (.int x0 :: st) S I J Q = am_T d 44 2 [l0, am_clr l1, some (.int x0), l3] st S I J Q := tr_istore_n (m := 2) (by decide +kernel) (Nat.le_of_ble_eq_true rfl) rfl
theorem r44_2 : am_T d 44 2 ls st S I J Q = am_T d 44 3 ls (.int 0 :: st) S I J Q := tr_iconst (m := 0) (by decide +kernel) (by decide)
theorem r44_3 : am_T d 44 3 [l0, l1, l2, l3] (.int x0 :: st) S I J Q = am_T d 44 4 [l0, l1, am_clr l2, some (.int x0)] st S I J Q := tr_istore_n (m := 3) (by decide +kernel) (Nat.le_of_ble_eq_true rfl) rfl
theorem r44_4 : am_T d 44 4 [l0, l1, l2, some (.int x0)] st S I J Q = am_T d 44 5 [l0, l1, l2, some (.int x0)] (.int x0 :: st) S I J Q := tr_iload_n (m := 3) (by decide +kernel) rfl
theorem r44_5 : am_T d 44 5 [l0, some (.ref a0), l2, l3] st S I J Q = am_T d 44 6 [l0, some (.ref a0), l2, l3] (.ref a0 :: st) S I J Q := tr_aload_n (m := 1) (by decide +kernel) rfl
theorem r44_6 : am_T d 44 6 ls (.ref a0 :: st) S I J Q = (am_is S a0 1 ∧ am_T d 44 9 ls (.int (I a0 0) :: st) S I J Q) := tr_geti (k := 70) (by decide +kernel) (by decide +kernel) (Or.inl (by decide +kernel))
theorem r44_9 : am_T d 44 9 ls (.int x1 :: .int x0 :: st) S I J Q = if x1 ≤ x0 then am_T d 44 42 ls st S I J Q else am_T d 44 12 ls st S I J Q := tr_icmpge (o := 33) (by decide +kernel) rfl
theorem r44_12 : am_T d 44 12 [some (.ref a0), l1, l2, l3] st S I J Q = am_T d 44 13 [some (.ref a0), l1, l2, l3] (.ref a0 :: st) S I J Q := tr_aload_n (m := 0) (by decide +kernel) rfl
theorem r44_13 : am_T d 44 13 ls (.ref a0 :: st) S I J Q = ((am_is S a0 4 ∧ am_rf S a0 4 ≠ 0) ∧ am_T d 44 16 ls (.ref (am_rf S a0 4) :: st) S I J Q) := tr_geta (k := 15) (by decide +kernel) (by decide +kernel) (by decide +kernel)
theorem r44_16 : am_T d 44 16 [l0, l1, l2, some (.int x0)] st S I J Q = am_T d 44 17 [l0, l1, l2, some (.int x0)] (.int x0 :: st) S I J Q := tr_iload_n (m := 3) (by decide +kernel) rfl
theorem r44_17 : am_T d 44 17 ls (.int x0 :: .ref a0 :: st) S I J Q = (am_ix S a0 20 x0 ∧ am_T d 44 18 ls (.int (I a0 x0.toNatClampNeg) :: st) S I J Q) := tr_iald (by decide +kernel)
theorem r44_18 : am_T d 44 18 ls st S I J Q = am_T d 44 19 ls (.int (-1) :: st) S I J Q := tr_iconst (m := -1) (by decide +kernel) (by decide)
theorem r44_19 : am_T d 44 19 ls (.int x1 :: .int x0 :: st) S I J Q = if x0 = x1 then am_T d 44 36 ls st S I J Q else am_T d 44 22 ls st S I J Q := tr_icmpeq (o := 17) (by decide +kernel) rfl
theorem r44_22 : am_T d 44 22 [l0, l1, some (.int x0), l3] st S I J Q = am_T d 44 23 [l0, l1, some (.int x0), l3] (.int x0 :: st) S I J Q := tr_iload_n (m := 2) (by decide +kernel) rfl
theorem r44_23 : am_T d 44 23 [l0, some (.ref a0), l2, l3] st S I J Q = am_T d 44 24 [l0, some (.ref a0), l2, l3] (.ref a0 :: st) S I J Q := tr_aload_n (m := 1) (by decide +kernel) rfl
theorem r44_24 : am_T d 44 24 ls (.ref a0 :: st) S I J Q = ((am_is S a0 1 ∧ am_rf S a0 5 ≠ 0) ∧ am_T d 44 27 ls (.ref (am_rf S a0 5) :: st) S I J Q) := tr_geta (k := 31) (by decide +kernel) (by decide +kernel) (by decide +kernel)
theorem r44_27 : am_T d 44 27 [some (.ref a0), l1, l2, l3] st S I J Q = am_T d 44 28 [some (.ref a0), l1, l2, l3] (.ref a0 :: st) S I J Q := tr_aload_n (m := 0) (by decide +kernel) rfl
theorem r44_28 : am_T d 44 28 ls (.ref a0 :: st) S I J Q = ((am_is S a0 4 ∧ am_rf S a0 4 ≠ 0) ∧ am_T d 44 31 ls (.ref (am_rf S a0 4) :: st) S I J Q) := tr_geta (k := 15) (by decide +kernel) (by decide +kernel) (by decide +kernel)
theorem r44_31 : am_T d 44 31 [l0, l1, l2, some (.int x0)] st S I J Q = am_T d 44 32 [l0, l1, l2, some (.int x0)] (.int x0 :: st) S I J Q := tr_iload_n (m := 3) (by decide +kernel) rfl
theorem r44_32 : am_T d 44 32 ls (.int x0 :: .ref a0 :: st) S I J Q = (am_ix S a0 20 x0 ∧ am_T d 44 33 ls (.int (I a0 x0.toNatClampNeg) :: st) S I J Q) := tr_iald (by decide +kernel)
theorem r44_33 : am_T d 44 33 ls (.int x0 :: .ref a0 :: st) S I J Q = (am_ix S a0 20 x0 ∧ am_T d 44 34 ls (.int (I a0 x0.toNatClampNeg) :: st) S I J Q) := tr_iald (by decide +kernel)
theorem r44_34 : am_T d 44 34 ls (.int x1 :: .int x0 :: st) S I J Q = am_T d 44 35 ls (.int (x0 + x1) :: st) S I J Q := tr_iadd (by decide +kernel)
theorem r44_35 : am_T d 44 35 [l0, l1, l2, l3] (.int x0 :: st) S I J Q = am_T d 44 36 [l0, am_clr l1, some (.int x0), l3] st S I J Q := tr_istore_n (m := 2) (by decide +kernel) (Nat.le_of_ble_eq_true rfl) rfl
theorem r44_36 : am_T d 44 36 [l0, l1, l2, some (.int x0)] st S I J Q = am_T d 44 39 [l0, l1, am_clr l2, some (.int (x0 + 1))] st S I J Q := tr_iinc (k := 3) (m := 1) (by decide +kernel) rfl (Nat.le_of_ble_eq_true rfl) (by decide) rfl
theorem r44_39 : am_T d 44 39 ls st S I J Q = am_T d 44 4 ls st S I J Q := tr_goto (o := -35) (by decide +kernel) rfl
theorem r44_42 : am_T d 44 42 [some (.ref a0), l1, l2, l3] st S I J Q = am_T d 44 43 [some (.ref a0), l1, l2, l3] (.ref a0 :: st) S I J Q := tr_aload_n (m := 0) (by decide +kernel) rfl
theorem r44_43 : am_T d 44 43 [l0, l1, some (.int x0), l3] st S I J Q = am_T d 44 44 [l0, l1, some (.int x0), l3] (.int x0 :: st) S I J Q := tr_iload_n (m := 2) (by decide +kernel) rfl
theorem r44_44 : am_T d 44 44 ls [.int x1, .ref a0] S I J Q = (am_is S a0 4 ∧ am_C d 42 [.ref a0, .int x1] S I J (fun r S I J => am_T d 44 47 ls (am_psh r []) S I J Q)) := tr_virt (k := 87) (by decide +kernel) (by decide +kernel) rfl rfl (Nat.le_of_ble_eq_true rfl) (by decide +kernel)
theorem r44_47 : am_T d 44 47 ls (.int x0 :: st) S I J Q = if x0 = 0 then am_T d 44 75 ls st S I J Q else am_T d 44 50 ls st S I J Q := tr_ifeq (o := 28) (by decide +kernel) rfl
theorem r44_50 : am_T d 44 50 [some (.ref a0), l1, l2, l3] st S I J Q = am_T d 44 51 [some (.ref a0), l1, l2, l3] (.ref a0 :: st) S I J Q := tr_aload_n (m := 0) (by decide +kernel) rfl
theorem r44_51 : am_T d 44 51 ls st S I J Q = am_T d 44 52 ls (.int 1 :: st) S I J Q := tr_iconst (m := 1) (by decide +kernel) (by decide)
theorem r44_52 : am_T d 44 52 ls (.int x0 :: .ref a0 :: st) S I J Q = ((am_is S a0 4 ∧ (x0 = 0 ∨ x0 = 1)) ∧ am_T d 44 55 ls st S (am_up I a0 1 x0) J Q) := tr_putz (k := 28) (by decide +kernel) (by decide +kernel) (by decide +kernel) (by decide +kernel)
theorem r44_55 : am_T d 44 55 [some (.ref a0), l1, l2, l3] st S I J Q = am_T d 44 56 [some (.ref a0), l1, l2, l3] (.ref a0 :: st) S I J Q := tr_aload_n (m := 0) (by decide +kernel) rfl
theorem r44_56 : am_T d 44 56 [l0, l1, some (.int x0), l3] st S I J Q = am_T d 44 57 [l0, l1, some (.int x0), l3] (.int x0 :: st) S I J Q := tr_iload_n (m := 2) (by decide +kernel) rfl
theorem r44_57 : am_T d 44 57 ls (.int x0 :: .ref a0 :: st) S I J Q = (am_is S a0 4 ∧ am_T d 44 60 ls st S (am_up I a0 2 x0) J Q) := tr_puti (k := 98) (by decide +kernel) (by decide +kernel) (by decide +kernel) (by decide +kernel)
theorem r44_60 : am_T d 44 60 [some (.ref a0), l1, l2, l3] st S I J Q = am_T d 44 61 [some (.ref a0), l1, l2, l3] (.ref a0 :: st) S I J Q := tr_aload_n (m := 0) (by decide +kernel) rfl
theorem r44_61 : am_T d 44 61 ls (.ref a0 :: st) S I J Q = ((am_is S a0 4 ∧ am_rf S a0 4 ≠ 0) ∧ am_T d 44 64 ls (.ref (am_rf S a0 4) :: st) S I J Q) := tr_geta (k := 15) (by decide +kernel) (by decide +kernel) (by decide +kernel)
theorem r44_64 : am_T d 44 64 ls st S I J Q = am_T d 44 65 ls (.int 0 :: st) S I J Q := tr_iconst (m := 0) (by decide +kernel) (by decide)
theorem r44_65 : am_T d 44 65 [some (.ref a0), l1, l2, l3] st S I J Q = am_T d 44 66 [some (.ref a0), l1, l2, l3] (.ref a0 :: st) S I J Q := tr_aload_n (m := 0) (by decide +kernel) rfl
theorem r44_66 : am_T d 44 66 ls (.ref a0 :: st) S I J Q = ((am_is S a0 4 ∧ am_rf S a0 3 ≠ 0) ∧ am_T d 44 69 ls (.ref (am_rf S a0 3) :: st) S I J Q) := tr_geta (k := 9) (by decide +kernel) (by decide +kernel) (by decide +kernel)
theorem r44_69 : am_T d 44 69 ls st S I J Q = am_T d 44 70 ls (.int 0 :: st) S I J Q := tr_iconst (m := 0) (by decide +kernel) (by decide)
theorem r44_70 : am_T d 44 70 ls st S I J Q = am_T d 44 72 ls (.int 8 :: st) S I J Q := tr_bipush (m := 8) (by decide +kernel) (by decide)
theorem r44_72 : am_T d 44 72 ls [.int x4, .int x3, .ref a2, .int x1, .ref a0] S I J Q = (am_cpy S a2 a0 x1 x3 x4 ∧ am_T d 44 75 ls [] S (am_row I a2 (va_cpy (I a0) (I a2) x1.toNatClampNeg x3.toNatClampNeg x4.toNatClampNeg)) J Q) := tr_copy (k := 61) (by decide +kernel) (by decide +kernel) (Nat.le_of_ble_eq_true rfl)
theorem r44_75 : am_T d 44 75 ls [] S I J Q = Q none S I J := tr_vret (by decide +kernel) (by decide +kernel)
-- 45 Pri.<init>()V; heads []
theorem e45 : am_C (d + 1) 45 [.ref a0] S I J Q = am_T d 45 0 [some (.ref a0)] [] S I J Q := tr_en (Nat.le_of_ble_eq_true rfl) rfl
theorem r45_0 : am_T d 45 0 [some (.ref a0)] st S I J Q = am_T d 45 1 [some (.ref a0)] (.ref a0 :: st) S I J Q := tr_aload_n (m := 0) (by decide +kernel) rfl
theorem r45_1 : am_T d 45 1 ls [.ref a0] S I J Q = am_T d 45 4 ls [] S I J Q := tr_oinit (k := 3) (by decide +kernel) (by decide +kernel) (Nat.le_of_ble_eq_true rfl)
theorem r45_4 : am_T d 45 4 [some (.ref a0)] st S I J Q = am_T d 45 5 [some (.ref a0)] (.ref a0 :: st) S I J Q := tr_aload_n (m := 0) (by decide +kernel) rfl
theorem r45_5 : am_T d 45 5 ls st S I J Q = am_T d 45 7 ls (.int 8 :: st) S I J Q := tr_bipush (m := 8) (by decide +kernel) (by decide)
theorem r45_7 : am_T d 45 7 ls (.int x0 :: st) S I J Q = ((0 ≤ x0.toInt ∧ x0.toInt < 10000) ∧ am_T d 45 9 ls (.ref S.length :: st) (S ++ [(20, x0.toNatClampNeg, fun _ => 0)]) (am_row I S.length (fun _ => 0)) (am_row J S.length (fun _ => 0)) Q) := tr_newa (t := .int) (by decide +kernel) (by decide)
theorem r45_9 : am_T d 45 9 ls (.ref a1 :: .ref a0 :: st) S I J Q = ((am_is S a0 5 ∧ a1 ≠ 0 ∧ a1 < S.length) ∧ am_T d 45 12 ls st (am_sr S a0 1 a1) I J Q) := tr_puta (k := 9) (by decide +kernel) (by decide +kernel) (by decide +kernel) (by decide +kernel)
theorem r45_12 : am_T d 45 12 [some (.ref a0)] st S I J Q = am_T d 45 13 [some (.ref a0)] (.ref a0 :: st) S I J Q := tr_aload_n (m := 0) (by decide +kernel) rfl
theorem r45_13 : am_T d 45 13 ls st S I J Q = am_T d 45 15 ls (.int 32 :: st) S I J Q := tr_bipush (m := 32) (by decide +kernel) (by decide)
theorem r45_15 : am_T d 45 15 ls (.int x0 :: st) S I J Q = ((0 ≤ x0.toInt ∧ x0.toInt < 10000) ∧ am_T d 45 17 ls (.ref S.length :: st) (S ++ [(20, x0.toNatClampNeg, fun _ => 0)]) (am_row I S.length (fun _ => 0)) (am_row J S.length (fun _ => 0)) Q) := tr_newa (t := .int) (by decide +kernel) (by decide)
theorem r45_17 : am_T d 45 17 ls (.ref a1 :: .ref a0 :: st) S I J Q = ((am_is S a0 5 ∧ a1 ≠ 0 ∧ a1 < S.length) ∧ am_T d 45 20 ls st (am_sr S a0 2 a1) I J Q) := tr_puta (k := 15) (by decide +kernel) (by decide +kernel) (by decide +kernel) (by decide +kernel)
theorem r45_20 : am_T d 45 20 ls [] S I J Q = Q none S I J := tr_vret (by decide +kernel) (by decide +kernel)
-- 46 Pri.play(LArborescenceFinder$Graph;LArborescenceFinder$Contraction;II)Z; heads [3, 27]
theorem e46 : am_C (d + 1) 46 [.ref a0, .ref a1, .ref a2, .int x3, .int x4] S I J Q = am_T d 46 0 [some (.ref a0), some (.ref a1), some (.ref a2), some (.int x3), some (.int x4), none, none] [] S I J Q := tr_en (Nat.le_of_ble_eq_true rfl) rfl
theorem r46_0 : am_T d 46 0 ls st S I J Q = am_T d 46 1 ls (.int 0 :: st) S I J Q := tr_iconst (m := 0) (by decide +kernel) (by decide)
theorem r46_1 : am_T d 46 1 [l0, l1, l2, l3, l4, l5, l6] (.int x0 :: st) S I J Q = am_T d 46 3 [l0, l1, l2, l3, am_clr l4, some (.int x0), l6] st S I J Q := tr_istore (k := 5) (by decide +kernel) (Nat.le_of_ble_eq_true rfl) rfl
theorem r46_3 : am_T d 46 3 [l0, l1, l2, l3, l4, some (.int x0), l6] st S I J Q = am_T d 46 5 [l0, l1, l2, l3, l4, some (.int x0), l6] (.int x0 :: st) S I J Q := tr_iload (k := 5) (by decide +kernel) rfl
theorem r46_5 : am_T d 46 5 ls st S I J Q = am_T d 46 7 ls (.int 8 :: st) S I J Q := tr_bipush (m := 8) (by decide +kernel) (by decide)
theorem r46_7 : am_T d 46 7 ls (.int x1 :: .int x0 :: st) S I J Q = if x1 ≤ x0 then am_T d 46 24 ls st S I J Q else am_T d 46 10 ls st S I J Q := tr_icmpge (o := 17) (by decide +kernel) rfl
theorem r46_10 : am_T d 46 10 [some (.ref a0), l1, l2, l3, l4, l5, l6] st S I J Q = am_T d 46 11 [some (.ref a0), l1, l2, l3, l4, l5, l6] (.ref a0 :: st) S I J Q := tr_aload_n (m := 0) (by decide +kernel) rfl
theorem r46_11 : am_T d 46 11 ls (.ref a0 :: st) S I J Q = ((am_is S a0 5 ∧ am_rf S a0 1 ≠ 0) ∧ am_T d 46 14 ls (.ref (am_rf S a0 1) :: st) S I J Q) := tr_geta (k := 9) (by decide +kernel) (by decide +kernel) (by decide +kernel)
theorem r46_14 : am_T d 46 14 [l0, l1, l2, l3, l4, some (.int x0), l6] st S I J Q = am_T d 46 16 [l0, l1, l2, l3, l4, some (.int x0), l6] (.int x0 :: st) S I J Q := tr_iload (k := 5) (by decide +kernel) rfl
theorem r46_16 : am_T d 46 16 ls st S I J Q = am_T d 46 17 ls (.int 0 :: st) S I J Q := tr_iconst (m := 0) (by decide +kernel) (by decide)
theorem r46_17 : am_T d 46 17 ls (.int x1 :: .int x0 :: .ref a0 :: st) S I J Q = (am_ixw S a0 20 x0 ∧ am_T d 46 18 ls st S (am_up I a0 x0.toNatClampNeg x1) J Q) := tr_iast (by decide +kernel)
theorem r46_18 : am_T d 46 18 [l0, l1, l2, l3, l4, some (.int x0), l6] st S I J Q = am_T d 46 21 [l0, l1, l2, l3, am_clr l4, some (.int (x0 + 1)), l6] st S I J Q := tr_iinc (k := 5) (m := 1) (by decide +kernel) rfl (Nat.le_of_ble_eq_true rfl) (by decide) rfl
theorem r46_21 : am_T d 46 21 ls st S I J Q = am_T d 46 3 ls st S I J Q := tr_goto (o := -18) (by decide +kernel) rfl
theorem r46_24 : am_T d 46 24 ls st S I J Q = am_T d 46 25 ls (.int 0 :: st) S I J Q := tr_iconst (m := 0) (by decide +kernel) (by decide)
theorem r46_25 : am_T d 46 25 [l0, l1, l2, l3, l4, l5, l6] (.int x0 :: st) S I J Q = am_T d 46 27 [l0, l1, l2, l3, am_clr l4, some (.int x0), l6] st S I J Q := tr_istore (k := 5) (by decide +kernel) (Nat.le_of_ble_eq_true rfl) rfl
theorem r46_27 : am_T d 46 27 [l0, l1, l2, l3, l4, some (.int x0), l6] st S I J Q = am_T d 46 29 [l0, l1, l2, l3, l4, some (.int x0), l6] (.int x0 :: st) S I J Q := tr_iload (k := 5) (by decide +kernel) rfl
theorem r46_29 : am_T d 46 29 [l0, l1, l2, some (.int x0), l4, l5, l6] st S I J Q = am_T d 46 30 [l0, l1, l2, some (.int x0), l4, l5, l6] (.int x0 :: st) S I J Q := tr_iload_n (m := 3) (by decide +kernel) rfl
theorem r46_30 : am_T d 46 30 ls (.int x1 :: .int x0 :: st) S I J Q = if x1 ≤ x0 then am_T d 46 101 ls st S I J Q else am_T d 46 33 ls st S I J Q := tr_icmpge (o := 71) (by decide +kernel) rfl
theorem r46_33 : am_T d 46 33 [some (.ref a0), l1, l2, l3, l4, l5, l6] st S I J Q = am_T d 46 34 [some (.ref a0), l1, l2, l3, l4, l5, l6] (.ref a0 :: st) S I J Q := tr_aload_n (m := 0) (by decide +kernel) rfl
theorem r46_34 : am_T d 46 34 [l0, some (.ref a0), l2, l3, l4, l5, l6] st S I J Q = am_T d 46 35 [l0, some (.ref a0), l2, l3, l4, l5, l6] (.ref a0 :: st) S I J Q := tr_aload_n (m := 1) (by decide +kernel) rfl
theorem r46_35 : am_T d 46 35 ls [.ref a1, .ref a0] S I J Q = (am_is S a0 5 ∧ am_C d 47 [.ref a0, .ref a1] S I J (fun r S I J => am_T d 46 38 ls (am_psh r []) S I J Q)) := tr_virt (k := 18) (by decide +kernel) (by decide +kernel) rfl rfl (Nat.le_of_ble_eq_true rfl) (by decide +kernel)
theorem r46_38 : am_T d 46 38 [l0, l1, some (.ref a0), l3, l4, l5, l6] st S I J Q = am_T d 46 39 [l0, l1, some (.ref a0), l3, l4, l5, l6] (.ref a0 :: st) S I J Q := tr_aload_n (m := 2) (by decide +kernel) rfl
theorem r46_39 : am_T d 46 39 [l0, some (.ref a0), l2, l3, l4, l5, l6] st S I J Q = am_T d 46 40 [l0, some (.ref a0), l2, l3, l4, l5, l6] (.ref a0 :: st) S I J Q := tr_aload_n (m := 1) (by decide +kernel) rfl
theorem r46_40 : am_T d 46 40 [some (.ref a0), l1, l2, l3, l4, l5, l6] st S I J Q = am_T d 46 41 [some (.ref a0), l1, l2, l3, l4, l5, l6] (.ref a0 :: st) S I J Q := tr_aload_n (m := 0) (by decide +kernel) rfl
theorem r46_41 : am_T d 46 41 ls (.ref a0 :: st) S I J Q = ((am_is S a0 5 ∧ am_rf S a0 2 ≠ 0) ∧ am_T d 46 44 ls (.ref (am_rf S a0 2) :: st) S I J Q) := tr_geta (k := 15) (by decide +kernel) (by decide +kernel) (by decide +kernel)
theorem r46_44 : am_T d 46 44 ls st S I J Q = am_T d 46 45 ls (.int (-1) :: st) S I J Q := tr_iconst (m := -1) (by decide +kernel) (by decide)
theorem r46_45 : am_T d 46 45 ls [.int x3, .ref a2, .ref a1, .ref a0] S I J Q = (am_is S a0 0 ∧ am_C d 1 [.ref a0, .ref a1, .ref a2, .int x3] S I J (fun r S I J => am_T d 46 48 ls (am_psh r []) S I J Q)) := tr_virt (k := 22) (by decide +kernel) (by decide +kernel) rfl rfl (Nat.le_of_ble_eq_true rfl) (by decide +kernel)
theorem r46_48 : am_T d 46 48 ls (.int x0 :: st) S I J Q = if x0 = 0 then am_T d 46 51 ls st S I J Q else am_T d 46 53 ls st S I J Q := tr_ifne (o := 5) (by decide +kernel) rfl
theorem r46_51 : am_T d 46 51 ls st S I J Q = am_T d 46 52 ls (.int 0 :: st) S I J Q := tr_iconst (m := 0) (by decide +kernel) (by decide)
theorem r46_52 : am_T d 46 52 ls [.int x0] S I J Q = ((x0 = 0 ∨ x0 = 1) ∧ Q (some (.int x0)) S I J) := tr_iretz (by decide +kernel) (by decide +kernel)
theorem r46_53 : am_T d 46 53 [some (.ref a0), l1, l2, l3, l4, l5, l6] st S I J Q = am_T d 46 54 [some (.ref a0), l1, l2, l3, l4, l5, l6] (.ref a0 :: st) S I J Q := tr_aload_n (m := 0) (by decide +kernel) rfl
theorem r46_54 : am_T d 46 54 [l0, some (.ref a0), l2, l3, l4, l5, l6] st S I J Q = am_T d 46 55 [l0, some (.ref a0), l2, l3, l4, l5, l6] (.ref a0 :: st) S I J Q := tr_aload_n (m := 1) (by decide +kernel) rfl
theorem r46_55 : am_T d 46 55 [l0, l1, some (.ref a0), l3, l4, l5, l6] st S I J Q = am_T d 46 56 [l0, l1, some (.ref a0), l3, l4, l5, l6] (.ref a0 :: st) S I J Q := tr_aload_n (m := 2) (by decide +kernel) rfl
theorem r46_56 : am_T d 46 56 ls (.ref a0 :: st) S I J Q = ((am_is S a0 0 ∧ am_rf S a0 0 ≠ 0) ∧ am_T d 46 59 ls (.ref (am_rf S a0 0) :: st) S I J Q) := tr_geta (k := 28) (by decide +kernel) (by decide +kernel) (by decide +kernel)
theorem r46_59 : am_T d 46 59 ls [.ref a2, .ref a1, .ref a0] S I J Q = (am_is S a0 5 ∧ am_C d 48 [.ref a0, .ref a1, .ref a2] S I J (fun r S I J => am_T d 46 62 ls (am_psh r []) S I J Q)) := tr_virt (k := 32) (by decide +kernel) (by decide +kernel) rfl rfl (Nat.le_of_ble_eq_true rfl) (by decide +kernel)
theorem r46_62 : am_T d 46 62 [l0, l1, l2, l3, l4, l5, l6] (.int x0 :: st) S I J Q = am_T d 46 64 [l0, l1, l2, l3, l4, am_clr l5, some (.int x0)] st S I J Q := tr_istore (k := 6) (by decide +kernel) (Nat.le_of_ble_eq_true rfl) rfl
theorem r46_64 : am_T d 46 64 [l0, l1, l2, l3, l4, some (.int x0), l6] st S I J Q = am_T d 46 66 [l0, l1, l2, l3, l4, some (.int x0), l6] (.int x0 :: st) S I J Q := tr_iload (k := 5) (by decide +kernel) rfl
theorem r46_66 : am_T d 46 66 ls (.int x0 :: st) S I J Q = if x0 = 0 then am_T d 46 78 ls st S I J Q else am_T d 46 69 ls st S I J Q := tr_ifeq (o := 12) (by decide +kernel) rfl
theorem r46_69 : am_T d 46 69 [l0, l1, l2, l3, l4, l5, some (.int x0)] st S I J Q = am_T d 46 71 [l0, l1, l2, l3, l4, l5, some (.int x0)] (.int x0 :: st) S I J Q := tr_iload (k := 6) (by decide +kernel) rfl
theorem r46_71 : am_T d 46 71 [some (.ref a0), l1, l2, l3, l4, l5, l6] st S I J Q = am_T d 46 72 [some (.ref a0), l1, l2, l3, l4, l5, l6] (.ref a0 :: st) S I J Q := tr_aload_n (m := 0) (by decide +kernel) rfl
theorem r46_72 : am_T d 46 72 ls (.ref a0 :: st) S I J Q = (am_is S a0 5 ∧ am_T d 46 75 ls (.int (I a0 0) :: st) S I J Q) := tr_geti (k := 36) (by decide +kernel) (by decide +kernel) (Or.inl (by decide +kernel))
theorem r46_75 : am_T d 46 75 ls (.int x1 :: .int x0 :: st) S I J Q = if x0 ≤ x1 then am_T d 46 84 ls st S I J Q else am_T d 46 78 ls st S I J Q := tr_icmple (o := 9) (by decide +kernel) rfl
theorem r46_78 : am_T d 46 78 [some (.ref a0), l1, l2, l3, l4, l5, l6] st S I J Q = am_T d 46 79 [some (.ref a0), l1, l2, l3, l4, l5, l6] (.ref a0 :: st) S I J Q := tr_aload_n (m := 0) (by decide +kernel) rfl
theorem r46_79 : am_T d 46 79 [l0, l1, l2, l3, l4, l5, some (.int x0)] st S I J Q = am_T d 46 81 [l0, l1, l2, l3, l4, l5, some (.int x0)] (.int x0 :: st) S I J Q := tr_iload (k := 6) (by decide +kernel) rfl
theorem r46_81 : am_T d 46 81 ls (.int x0 :: .ref a0 :: st) S I J Q = (am_is S a0 5 ∧ am_T d 46 84 ls st S (am_up I a0 0 x0) J Q) := tr_puti (k := 36) (by decide +kernel) (by decide +kernel) (by decide +kernel) (by decide +kernel)
theorem r46_84 : am_T d 46 84 [some (.ref a0), l1, l2, l3, l4, l5, l6] st S I J Q = am_T d 46 85 [some (.ref a0), l1, l2, l3, l4, l5, l6] (.ref a0 :: st) S I J Q := tr_aload_n (m := 0) (by decide +kernel) rfl
theorem r46_85 : am_T d 46 85 [l0, some (.ref a0), l2, l3, l4, l5, l6] st S I J Q = am_T d 46 86 [l0, some (.ref a0), l2, l3, l4, l5, l6] (.ref a0 :: st) S I J Q := tr_aload_n (m := 1) (by decide +kernel) rfl
theorem r46_86 : am_T d 46 86 [l0, l1, some (.ref a0), l3, l4, l5, l6] st S I J Q = am_T d 46 87 [l0, l1, some (.ref a0), l3, l4, l5, l6] (.ref a0 :: st) S I J Q := tr_aload_n (m := 2) (by decide +kernel) rfl
theorem r46_87 : am_T d 46 87 ls (.ref a0 :: st) S I J Q = ((am_is S a0 0 ∧ am_rf S a0 0 ≠ 0) ∧ am_T d 46 90 ls (.ref (am_rf S a0 0) :: st) S I J Q) := tr_geta (k := 28) (by decide +kernel) (by decide +kernel) (by decide +kernel)
theorem r46_90 : am_T d 46 90 [l0, l1, l2, l3, some (.int x0), l5, l6] st S I J Q = am_T d 46 92 [l0, l1, l2, l3, some (.int x0), l5, l6] (.int x0 :: st) S I J Q := tr_iload (k := 4) (by decide +kernel) rfl
theorem r46_92 : am_T d 46 92 ls [.int x3, .ref a2, .ref a1, .ref a0] S I J Q = (am_is S a0 5 ∧ am_C d 49 [.ref a0, .ref a1, .ref a2, .int x3] S I J (fun r S I J => am_T d 46 95 ls (am_psh r []) S I J Q)) := tr_virt (k := 40) (by decide +kernel) (by decide +kernel) rfl rfl (Nat.le_of_ble_eq_true rfl) (by decide +kernel)
theorem r46_95 : am_T d 46 95 [l0, l1, l2, l3, l4, some (.int x0), l6] st S I J Q = am_T d 46 98 [l0, l1, l2, l3, am_clr l4, some (.int (x0 + 1)), l6] st S I J Q := tr_iinc (k := 5) (m := 1) (by decide +kernel) rfl (Nat.le_of_ble_eq_true rfl) (by decide) rfl
theorem r46_98 : am_T d 46 98 ls st S I J Q = am_T d 46 27 ls st S I J Q := tr_goto (o := -71) (by decide +kernel) rfl
theorem r46_101 : am_T d 46 101 ls st S I J Q = am_T d 46 102 ls (.int 1 :: st) S I J Q := tr_iconst (m := 1) (by decide +kernel) (by decide)
theorem r46_102 : am_T d 46 102 ls [.int x0] S I J Q = ((x0 = 0 ∨ x0 = 1) ∧ Q (some (.int x0)) S I J) := tr_iretz (by decide +kernel) (by decide +kernel)
-- 47 Pri.setPricedCosts(LArborescenceFinder$Graph;)V; heads [2]
theorem e47 : am_C (d + 1) 47 [.ref a0, .ref a1] S I J Q = am_T d 47 0 [some (.ref a0), some (.ref a1), none] [] S I J Q := tr_en (Nat.le_of_ble_eq_true rfl) rfl
theorem r47_0 : am_T d 47 0 ls st S I J Q = am_T d 47 1 ls (.int 0 :: st) S I J Q := tr_iconst (m := 0) (by decide +kernel) (by decide)
theorem r47_1 : am_T d 47 1 [l0, l1, l2] (.int x0 :: st) S I J Q = am_T d 47 2 [l0, am_clr l1, some (.int x0)] st S I J Q := tr_istore_n (m := 2) (by decide +kernel) (Nat.le_of_ble_eq_true rfl) rfl
theorem r47_2 : am_T d 47 2 [l0, l1, some (.int x0)] st S I J Q = am_T d 47 3 [l0, l1, some (.int x0)] (.int x0 :: st) S I J Q := tr_iload_n (m := 2) (by decide +kernel) rfl
theorem r47_3 : am_T d 47 3 [l0, some (.ref a0), l2] st S I J Q = am_T d 47 4 [l0, some (.ref a0), l2] (.ref a0 :: st) S I J Q := tr_aload_n (m := 1) (by decide +kernel) rfl
theorem r47_4 : am_T d 47 4 ls (.ref a0 :: st) S I J Q = (am_is S a0 1 ∧ am_T d 47 7 ls (.int (I a0 2) :: st) S I J Q) := tr_geti (k := 44) (by decide +kernel) (by decide +kernel) (Or.inl (by decide +kernel))
theorem r47_7 : am_T d 47 7 ls (.int x1 :: .int x0 :: st) S I J Q = if x1 ≤ x0 then am_T d 47 40 ls st S I J Q else am_T d 47 10 ls st S I J Q := tr_icmpge (o := 33) (by decide +kernel) rfl
theorem r47_10 : am_T d 47 10 [some (.ref a0), l1, l2] st S I J Q = am_T d 47 11 [some (.ref a0), l1, l2] (.ref a0 :: st) S I J Q := tr_aload_n (m := 0) (by decide +kernel) rfl
theorem r47_11 : am_T d 47 11 ls (.ref a0 :: st) S I J Q = ((am_is S a0 5 ∧ am_rf S a0 2 ≠ 0) ∧ am_T d 47 14 ls (.ref (am_rf S a0 2) :: st) S I J Q) := tr_geta (k := 15) (by decide +kernel) (by decide +kernel) (by decide +kernel)
theorem r47_14 : am_T d 47 14 [l0, l1, some (.int x0)] st S I J Q = am_T d 47 15 [l0, l1, some (.int x0)] (.int x0 :: st) S I J Q := tr_iload_n (m := 2) (by decide +kernel) rfl
theorem r47_15 : am_T d 47 15 [l0, some (.ref a0), l2] st S I J Q = am_T d 47 16 [l0, some (.ref a0), l2] (.ref a0 :: st) S I J Q := tr_aload_n (m := 1) (by decide +kernel) rfl
theorem r47_16 : am_T d 47 16 ls (.ref a0 :: st) S I J Q = ((am_is S a0 1 ∧ am_rf S a0 5 ≠ 0) ∧ am_T d 47 19 ls (.ref (am_rf S a0 5) :: st) S I J Q) := tr_geta (k := 49) (by decide +kernel) (by decide +kernel) (by decide +kernel)
theorem r47_19 : am_T d 47 19 [l0, l1, some (.int x0)] st S I J Q = am_T d 47 20 [l0, l1, some (.int x0)] (.int x0 :: st) S I J Q := tr_iload_n (m := 2) (by decide +kernel) rfl
theorem r47_20 : am_T d 47 20 ls (.int x0 :: .ref a0 :: st) S I J Q = (am_ix S a0 20 x0 ∧ am_T d 47 21 ls (.int (I a0 x0.toNatClampNeg) :: st) S I J Q) := tr_iald (by decide +kernel)
theorem r47_21 : am_T d 47 21 [some (.ref a0), l1, l2] st S I J Q = am_T d 47 22 [some (.ref a0), l1, l2] (.ref a0 :: st) S I J Q := tr_aload_n (m := 0) (by decide +kernel) rfl
theorem r47_22 : am_T d 47 22 ls (.ref a0 :: st) S I J Q = ((am_is S a0 5 ∧ am_rf S a0 1 ≠ 0) ∧ am_T d 47 25 ls (.ref (am_rf S a0 1) :: st) S I J Q) := tr_geta (k := 9) (by decide +kernel) (by decide +kernel) (by decide +kernel)
theorem r47_25 : am_T d 47 25 [l0, some (.ref a0), l2] st S I J Q = am_T d 47 26 [l0, some (.ref a0), l2] (.ref a0 :: st) S I J Q := tr_aload_n (m := 1) (by decide +kernel) rfl
theorem r47_26 : am_T d 47 26 ls (.ref a0 :: st) S I J Q = ((am_is S a0 1 ∧ am_rf S a0 3 ≠ 0) ∧ am_T d 47 29 ls (.ref (am_rf S a0 3) :: st) S I J Q) := tr_geta (k := 52) (by decide +kernel) (by decide +kernel) (by decide +kernel)
theorem r47_29 : am_T d 47 29 [l0, l1, some (.int x0)] st S I J Q = am_T d 47 30 [l0, l1, some (.int x0)] (.int x0 :: st) S I J Q := tr_iload_n (m := 2) (by decide +kernel) rfl
theorem r47_30 : am_T d 47 30 ls (.int x0 :: .ref a0 :: st) S I J Q = (am_ix S a0 20 x0 ∧ am_T d 47 31 ls (.int (I a0 x0.toNatClampNeg) :: st) S I J Q) := tr_iald (by decide +kernel)
theorem r47_31 : am_T d 47 31 ls (.int x0 :: .ref a0 :: st) S I J Q = (am_ix S a0 20 x0 ∧ am_T d 47 32 ls (.int (I a0 x0.toNatClampNeg) :: st) S I J Q) := tr_iald (by decide +kernel)
theorem r47_32 : am_T d 47 32 ls (.int x1 :: .int x0 :: st) S I J Q = am_T d 47 33 ls (.int (x0 + x1) :: st) S I J Q := tr_iadd (by decide +kernel)
theorem r47_33 : am_T d 47 33 ls (.int x1 :: .int x0 :: .ref a0 :: st) S I J Q = (am_ixw S a0 20 x0 ∧ am_T d 47 34 ls st S (am_up I a0 x0.toNatClampNeg x1) J Q) := tr_iast (by decide +kernel)
theorem r47_34 : am_T d 47 34 [l0, l1, some (.int x0)] st S I J Q = am_T d 47 37 [l0, am_clr l1, some (.int (x0 + 1))] st S I J Q := tr_iinc (k := 2) (m := 1) (by decide +kernel) rfl (Nat.le_of_ble_eq_true rfl) (by decide) rfl
theorem r47_37 : am_T d 47 37 ls st S I J Q = am_T d 47 2 ls st S I J Q := tr_goto (o := -35) (by decide +kernel) rfl
theorem r47_40 : am_T d 47 40 ls [] S I J Q = Q none S I J := tr_vret (by decide +kernel) (by decide +kernel)
-- 48 Pri.boundOf(LArborescenceFinder$Graph;LArborescenceFinder$Groups;)I; heads [13]
theorem e48 : am_C (d + 1) 48 [.ref a0, .ref a1, .ref a2] S I J Q = am_T d 48 0 [some (.ref a0), some (.ref a1), some (.ref a2), none, none] [] S I J Q := tr_en (Nat.le_of_ble_eq_true rfl) rfl
theorem r48_0 : am_T d 48 0 [l0, l1, some (.ref a0), l3, l4] st S I J Q = am_T d 48 1 [l0, l1, some (.ref a0), l3, l4] (.ref a0 :: st) S I J Q := tr_aload_n (m := 2) (by decide +kernel) rfl
theorem r48_1 : am_T d 48 1 [l0, some (.ref a0), l2, l3, l4] st S I J Q = am_T d 48 2 [l0, some (.ref a0), l2, l3, l4] (.ref a0 :: st) S I J Q := tr_aload_n (m := 1) (by decide +kernel) rfl
theorem r48_2 : am_T d 48 2 [some (.ref a0), l1, l2, l3, l4] st S I J Q = am_T d 48 3 [some (.ref a0), l1, l2, l3, l4] (.ref a0 :: st) S I J Q := tr_aload_n (m := 0) (by decide +kernel) rfl
theorem r48_3 : am_T d 48 3 ls (.ref a0 :: st) S I J Q = ((am_is S a0 5 ∧ am_rf S a0 2 ≠ 0) ∧ am_T d 48 6 ls (.ref (am_rf S a0 2) :: st) S I J Q) := tr_geta (k := 15) (by decide +kernel) (by decide +kernel) (by decide +kernel)
theorem r48_6 : am_T d 48 6 ls [.ref a2, .ref a1, .ref a0] S I J Q = (am_is S a0 3 ∧ am_C d 31 [.ref a0, .ref a1, .ref a2] S I J (fun r S I J => am_T d 48 9 ls (am_psh r []) S I J Q)) := tr_virt (k := 55) (by decide +kernel) (by decide +kernel) rfl rfl (Nat.le_of_ble_eq_true rfl) (by decide +kernel)
theorem r48_9 : am_T d 48 9 [l0, l1, l2, l3, l4] (.int x0 :: st) S I J Q = am_T d 48 10 [l0, l1, am_clr l2, some (.int x0), l4] st S I J Q := tr_istore_n (m := 3) (by decide +kernel) (Nat.le_of_ble_eq_true rfl) rfl
theorem r48_10 : am_T d 48 10 ls st S I J Q = am_T d 48 11 ls (.int 0 :: st) S I J Q := tr_iconst (m := 0) (by decide +kernel) (by decide)
theorem r48_11 : am_T d 48 11 [l0, l1, l2, l3, l4] (.int x0 :: st) S I J Q = am_T d 48 13 [l0, l1, l2, am_clr l3, some (.int x0)] st S I J Q := tr_istore (k := 4) (by decide +kernel) (Nat.le_of_ble_eq_true rfl) rfl
theorem r48_13 : am_T d 48 13 [l0, l1, l2, l3, some (.int x0)] st S I J Q = am_T d 48 15 [l0, l1, l2, l3, some (.int x0)] (.int x0 :: st) S I J Q := tr_iload (k := 4) (by decide +kernel) rfl
theorem r48_15 : am_T d 48 15 [l0, some (.ref a0), l2, l3, l4] st S I J Q = am_T d 48 16 [l0, some (.ref a0), l2, l3, l4] (.ref a0 :: st) S I J Q := tr_aload_n (m := 1) (by decide +kernel) rfl
theorem r48_16 : am_T d 48 16 ls (.ref a0 :: st) S I J Q = (am_is S a0 1 ∧ am_T d 48 19 ls (.int (I a0 0) :: st) S I J Q) := tr_geti (k := 61) (by decide +kernel) (by decide +kernel) (Or.inl (by decide +kernel))
theorem r48_19 : am_T d 48 19 ls (.int x1 :: .int x0 :: st) S I J Q = if x1 ≤ x0 then am_T d 48 46 ls st S I J Q else am_T d 48 22 ls st S I J Q := tr_icmpge (o := 27) (by decide +kernel) rfl
theorem r48_22 : am_T d 48 22 [l0, l1, l2, some (.int x0), l4] st S I J Q = am_T d 48 23 [l0, l1, l2, some (.int x0), l4] (.int x0 :: st) S I J Q := tr_iload_n (m := 3) (by decide +kernel) rfl
theorem r48_23 : am_T d 48 23 [some (.ref a0), l1, l2, l3, l4] st S I J Q = am_T d 48 24 [some (.ref a0), l1, l2, l3, l4] (.ref a0 :: st) S I J Q := tr_aload_n (m := 0) (by decide +kernel) rfl
theorem r48_24 : am_T d 48 24 ls (.ref a0 :: st) S I J Q = ((am_is S a0 5 ∧ am_rf S a0 1 ≠ 0) ∧ am_T d 48 27 ls (.ref (am_rf S a0 1) :: st) S I J Q) := tr_geta (k := 9) (by decide +kernel) (by decide +kernel) (by decide +kernel)
theorem r48_27 : am_T d 48 27 [l0, l1, l2, l3, some (.int x0)] st S I J Q = am_T d 48 29 [l0, l1, l2, l3, some (.int x0)] (.int x0 :: st) S I J Q := tr_iload (k := 4) (by decide +kernel) rfl
theorem r48_29 : am_T d 48 29 ls (.int x0 :: .ref a0 :: st) S I J Q = (am_ix S a0 20 x0 ∧ am_T d 48 30 ls (.int (I a0 x0.toNatClampNeg) :: st) S I J Q) := tr_iald (by decide +kernel)
theorem r48_30 : am_T d 48 30 [l0, some (.ref a0), l2, l3, l4] st S I J Q = am_T d 48 31 [l0, some (.ref a0), l2, l3, l4] (.ref a0 :: st) S I J Q := tr_aload_n (m := 1) (by decide +kernel) rfl
theorem r48_31 : am_T d 48 31 ls (.ref a0 :: st) S I J Q = ((am_is S a0 1 ∧ am_rf S a0 6 ≠ 0) ∧ am_T d 48 34 ls (.ref (am_rf S a0 6) :: st) S I J Q) := tr_geta (k := 64) (by decide +kernel) (by decide +kernel) (by decide +kernel)
theorem r48_34 : am_T d 48 34 [l0, l1, l2, l3, some (.int x0)] st S I J Q = am_T d 48 36 [l0, l1, l2, l3, some (.int x0)] (.int x0 :: st) S I J Q := tr_iload (k := 4) (by decide +kernel) rfl
theorem r48_36 : am_T d 48 36 ls (.int x0 :: .ref a0 :: st) S I J Q = (am_ix S a0 20 x0 ∧ am_T d 48 37 ls (.int (I a0 x0.toNatClampNeg) :: st) S I J Q) := tr_iald (by decide +kernel)
theorem r48_37 : am_T d 48 37 ls (.int x1 :: .int x0 :: st) S I J Q = am_T d 48 38 ls (.int (x0 * x1) :: st) S I J Q := tr_imul (by decide +kernel)
theorem r48_38 : am_T d 48 38 ls (.int x1 :: .int x0 :: st) S I J Q = am_T d 48 39 ls (.int (x0 - x1) :: st) S I J Q := tr_isub (by decide +kernel)
theorem r48_39 : am_T d 48 39 [l0, l1, l2, l3, l4] (.int x0 :: st) S I J Q = am_T d 48 40 [l0, l1, am_clr l2, some (.int x0), l4] st S I J Q := tr_istore_n (m := 3) (by decide +kernel) (Nat.le_of_ble_eq_true rfl) rfl
theorem r48_40 : am_T d 48 40 [l0, l1, l2, l3, some (.int x0)] st S I J Q = am_T d 48 43 [l0, l1, l2, am_clr l3, some (.int (x0 + 1))] st S I J Q := tr_iinc (k := 4) (m := 1) (by decide +kernel) rfl (Nat.le_of_ble_eq_true rfl) (by decide) rfl
theorem r48_43 : am_T d 48 43 ls st S I J Q = am_T d 48 13 ls st S I J Q := tr_goto (o := -30) (by decide +kernel) rfl
theorem r48_46 : am_T d 48 46 [l0, l1, l2, some (.int x0), l4] st S I J Q = am_T d 48 47 [l0, l1, l2, some (.int x0), l4] (.int x0 :: st) S I J Q := tr_iload_n (m := 3) (by decide +kernel) rfl
theorem r48_47 : am_T d 48 47 ls [.int x0] S I J Q = Q (some (.int x0)) S I J := tr_ireti (by decide +kernel) (by decide +kernel)
-- 49 Pri.changePrices(LArborescenceFinder$Graph;LArborescenceFinder$Groups;I)V; heads [3]
theorem e49 : am_C (d + 1) 49 [.ref a0, .ref a1, .ref a2, .int x3] S I J Q = am_T d 49 0 [some (.ref a0), some (.ref a1), some (.ref a2), some (.int x3), none, none] [] S I J Q := tr_en (Nat.le_of_ble_eq_true rfl) rfl
theorem r49_0 : am_T d 49 0 ls st S I J Q = am_T d 49 1 ls (.int 0 :: st) S I J Q := tr_iconst (m := 0) (by decide +kernel) (by decide)
theorem r49_1 : am_T d 49 1 [l0, l1, l2, l3, l4, l5] (.int x0 :: st) S I J Q = am_T d 49 3 [l0, l1, l2, am_clr l3, some (.int x0), l5] st S I J Q := tr_istore (k := 4) (by decide +kernel) (Nat.le_of_ble_eq_true rfl) rfl
theorem r49_3 : am_T d 49 3 [l0, l1, l2, l3, some (.int x0), l5] st S I J Q = am_T d 49 5 [l0, l1, l2, l3, some (.int x0), l5] (.int x0 :: st) S I J Q := tr_iload (k := 4) (by decide +kernel) rfl
theorem r49_5 : am_T d 49 5 [l0, some (.ref a0), l2, l3, l4, l5] st S I J Q = am_T d 49 6 [l0, some (.ref a0), l2, l3, l4, l5] (.ref a0 :: st) S I J Q := tr_aload_n (m := 1) (by decide +kernel) rfl
theorem r49_6 : am_T d 49 6 ls (.ref a0 :: st) S I J Q = (am_is S a0 1 ∧ am_T d 49 9 ls (.int (I a0 0) :: st) S I J Q) := tr_geti (k := 61) (by decide +kernel) (by decide +kernel) (Or.inl (by decide +kernel))
theorem r49_9 : am_T d 49 9 ls (.int x1 :: .int x0 :: st) S I J Q = if x1 ≤ x0 then am_T d 49 85 ls st S I J Q else am_T d 49 12 ls st S I J Q := tr_icmpge (o := 76) (by decide +kernel) rfl
theorem r49_12 : am_T d 49 12 [l0, l1, some (.ref a0), l3, l4, l5] st S I J Q = am_T d 49 13 [l0, l1, some (.ref a0), l3, l4, l5] (.ref a0 :: st) S I J Q := tr_aload_n (m := 2) (by decide +kernel) rfl
theorem r49_13 : am_T d 49 13 [l0, some (.ref a0), l2, l3, l4, l5] st S I J Q = am_T d 49 14 [l0, some (.ref a0), l2, l3, l4, l5] (.ref a0 :: st) S I J Q := tr_aload_n (m := 1) (by decide +kernel) rfl
theorem r49_14 : am_T d 49 14 [l0, l1, l2, l3, some (.int x0), l5] st S I J Q = am_T d 49 16 [l0, l1, l2, l3, some (.int x0), l5] (.int x0 :: st) S I J Q := tr_iload (k := 4) (by decide +kernel) rfl
theorem r49_16 : am_T d 49 16 ls [.int x2, .ref a1, .ref a0] S I J Q = (am_is S a0 3 ∧ am_C d 32 [.ref a0, .ref a1, .int x2] S I J (fun r S I J => am_T d 49 19 ls (am_psh r []) S I J Q)) := tr_virt (k := 67) (by decide +kernel) (by decide +kernel) rfl rfl (Nat.le_of_ble_eq_true rfl) (by decide +kernel)
theorem r49_19 : am_T d 49 19 [l0, l1, l2, l3, l4, l5] (.int x0 :: st) S I J Q = am_T d 49 21 [l0, l1, l2, l3, am_clr l4, some (.int x0)] st S I J Q := tr_istore (k := 5) (by decide +kernel) (Nat.le_of_ble_eq_true rfl) rfl
theorem r49_21 : am_T d 49 21 [l0, l1, l2, l3, l4, some (.int x0)] st S I J Q = am_T d 49 23 [l0, l1, l2, l3, l4, some (.int x0)] (.int x0 :: st) S I J Q := tr_iload (k := 5) (by decide +kernel) rfl
theorem r49_23 : am_T d 49 23 [l0, some (.ref a0), l2, l3, l4, l5] st S I J Q = am_T d 49 24 [l0, some (.ref a0), l2, l3, l4, l5] (.ref a0 :: st) S I J Q := tr_aload_n (m := 1) (by decide +kernel) rfl
theorem r49_24 : am_T d 49 24 ls (.ref a0 :: st) S I J Q = ((am_is S a0 1 ∧ am_rf S a0 6 ≠ 0) ∧ am_T d 49 27 ls (.ref (am_rf S a0 6) :: st) S I J Q) := tr_geta (k := 64) (by decide +kernel) (by decide +kernel) (by decide +kernel)
theorem r49_27 : am_T d 49 27 [l0, l1, l2, l3, some (.int x0), l5] st S I J Q = am_T d 49 29 [l0, l1, l2, l3, some (.int x0), l5] (.int x0 :: st) S I J Q := tr_iload (k := 4) (by decide +kernel) rfl
theorem r49_29 : am_T d 49 29 ls (.int x0 :: .ref a0 :: st) S I J Q = (am_ix S a0 20 x0 ∧ am_T d 49 30 ls (.int (I a0 x0.toNatClampNeg) :: st) S I J Q) := tr_iald (by decide +kernel)
theorem r49_30 : am_T d 49 30 ls (.int x1 :: .int x0 :: st) S I J Q = if x0 ≤ x1 then am_T d 49 47 ls st S I J Q else am_T d 49 33 ls st S I J Q := tr_icmple (o := 17) (by decide +kernel) rfl
theorem r49_33 : am_T d 49 33 [some (.ref a0), l1, l2, l3, l4, l5] st S I J Q = am_T d 49 34 [some (.ref a0), l1, l2, l3, l4, l5] (.ref a0 :: st) S I J Q := tr_aload_n (m := 0) (by decide +kernel) rfl
theorem r49_34 : am_T d 49 34 ls (.ref a0 :: st) S I J Q = ((am_is S a0 5 ∧ am_rf S a0 1 ≠ 0) ∧ am_T d 49 37 ls (.ref (am_rf S a0 1) :: st) S I J Q) := tr_geta (k := 9) (by decide +kernel) (by decide +kernel) (by decide +kernel)
theorem r49_37 : am_T d 49 37 [l0, l1, l2, l3, some (.int x0), l5] st S I J Q = am_T d 49 39 [l0, l1, l2, l3, some (.int x0), l5] (.int x0 :: st) S I J Q := tr_iload (k := 4) (by decide +kernel) rfl
theorem r49_39 : am_T d 49 39 ls (.int x0 :: .ref a0 :: st) S I J Q = am_T d 49 40 ls (.int x0 :: .ref a0 :: .int x0 :: .ref a0 :: st) S I J Q := tr_dup2 (by decide +kernel)
theorem r49_40 : am_T d 49 40 ls (.int x0 :: .ref a0 :: st) S I J Q = (am_ix S a0 20 x0 ∧ am_T d 49 41 ls (.int (I a0 x0.toNatClampNeg) :: st) S I J Q) := tr_iald (by decide +kernel)
theorem r49_41 : am_T d 49 41 [l0, l1, l2, some (.int x0), l4, l5] st S I J Q = am_T d 49 42 [l0, l1, l2, some (.int x0), l4, l5] (.int x0 :: st) S I J Q := tr_iload_n (m := 3) (by decide +kernel) rfl
theorem r49_42 : am_T d 49 42 ls (.int x1 :: .int x0 :: st) S I J Q = am_T d 49 43 ls (.int (x0 + x1) :: st) S I J Q := tr_iadd (by decide +kernel)
theorem r49_43 : am_T d 49 43 ls (.int x1 :: .int x0 :: .ref a0 :: st) S I J Q = (am_ixw S a0 20 x0 ∧ am_T d 49 44 ls st S (am_up I a0 x0.toNatClampNeg x1) J Q) := tr_iast (by decide +kernel)
theorem r49_44 : am_T d 49 44 ls st S I J Q = am_T d 49 79 ls st S I J Q := tr_goto (o := 35) (by decide +kernel) rfl
theorem r49_47 : am_T d 49 47 [l0, l1, l2, l3, l4, some (.int x0)] st S I J Q = am_T d 49 49 [l0, l1, l2, l3, l4, some (.int x0)] (.int x0 :: st) S I J Q := tr_iload (k := 5) (by decide +kernel) rfl
theorem r49_49 : am_T d 49 49 [l0, some (.ref a0), l2, l3, l4, l5] st S I J Q = am_T d 49 50 [l0, some (.ref a0), l2, l3, l4, l5] (.ref a0 :: st) S I J Q := tr_aload_n (m := 1) (by decide +kernel) rfl
theorem r49_50 : am_T d 49 50 ls (.ref a0 :: st) S I J Q = ((am_is S a0 1 ∧ am_rf S a0 6 ≠ 0) ∧ am_T d 49 53 ls (.ref (am_rf S a0 6) :: st) S I J Q) := tr_geta (k := 64) (by decide +kernel) (by decide +kernel) (by decide +kernel)
theorem r49_53 : am_T d 49 53 [l0, l1, l2, l3, some (.int x0), l5] st S I J Q = am_T d 49 55 [l0, l1, l2, l3, some (.int x0), l5] (.int x0 :: st) S I J Q := tr_iload (k := 4) (by decide +kernel) rfl
theorem r49_55 : am_T d 49 55 ls (.int x0 :: .ref a0 :: st) S I J Q = (am_ix S a0 20 x0 ∧ am_T d 49 56 ls (.int (I a0 x0.toNatClampNeg) :: st) S I J Q) := tr_iald (by decide +kernel)
theorem r49_56 : am_T d 49 56 ls (.int x1 :: .int x0 :: st) S I J Q = if x1 ≤ x0 then am_T d 49 79 ls st S I J Q else am_T d 49 59 ls st S I J Q := tr_icmpge (o := 23) (by decide +kernel) rfl
theorem r49_59 : am_T d 49 59 [some (.ref a0), l1, l2, l3, l4, l5] st S I J Q = am_T d 49 60 [some (.ref a0), l1, l2, l3, l4, l5] (.ref a0 :: st) S I J Q := tr_aload_n (m := 0) (by decide +kernel) rfl
theorem r49_60 : am_T d 49 60 ls (.ref a0 :: st) S I J Q = ((am_is S a0 5 ∧ am_rf S a0 1 ≠ 0) ∧ am_T d 49 63 ls (.ref (am_rf S a0 1) :: st) S I J Q) := tr_geta (k := 9) (by decide +kernel) (by decide +kernel) (by decide +kernel)
theorem r49_63 : am_T d 49 63 [l0, l1, l2, l3, some (.int x0), l5] st S I J Q = am_T d 49 65 [l0, l1, l2, l3, some (.int x0), l5] (.int x0 :: st) S I J Q := tr_iload (k := 4) (by decide +kernel) rfl
theorem r49_65 : am_T d 49 65 ls st S I J Q = am_T d 49 66 ls (.int 0 :: st) S I J Q := tr_iconst (m := 0) (by decide +kernel) (by decide)
theorem r49_66 : am_T d 49 66 [some (.ref a0), l1, l2, l3, l4, l5] st S I J Q = am_T d 49 67 [some (.ref a0), l1, l2, l3, l4, l5] (.ref a0 :: st) S I J Q := tr_aload_n (m := 0) (by decide +kernel) rfl
theorem r49_67 : am_T d 49 67 ls (.ref a0 :: st) S I J Q = ((am_is S a0 5 ∧ am_rf S a0 1 ≠ 0) ∧ am_T d 49 70 ls (.ref (am_rf S a0 1) :: st) S I J Q) := tr_geta (k := 9) (by decide +kernel) (by decide +kernel) (by decide +kernel)
theorem r49_70 : am_T d 49 70 [l0, l1, l2, l3, some (.int x0), l5] st S I J Q = am_T d 49 72 [l0, l1, l2, l3, some (.int x0), l5] (.int x0 :: st) S I J Q := tr_iload (k := 4) (by decide +kernel) rfl
theorem r49_72 : am_T d 49 72 ls (.int x0 :: .ref a0 :: st) S I J Q = (am_ix S a0 20 x0 ∧ am_T d 49 73 ls (.int (I a0 x0.toNatClampNeg) :: st) S I J Q) := tr_iald (by decide +kernel)
theorem r49_73 : am_T d 49 73 [l0, l1, l2, some (.int x0), l4, l5] st S I J Q = am_T d 49 74 [l0, l1, l2, some (.int x0), l4, l5] (.int x0 :: st) S I J Q := tr_iload_n (m := 3) (by decide +kernel) rfl
theorem r49_74 : am_T d 49 74 ls (.int x1 :: .int x0 :: st) S I J Q = am_T d 49 75 ls (.int (x0 - x1) :: st) S I J Q := tr_isub (by decide +kernel)
theorem r49_75 : am_T d 49 75 ls [.int x1, .int x0, .int x11, .ref a10] S I J Q = am_T d 49 78 ls (.int (if x0 < x1 then x1 else x0) :: [.int x11, .ref a10]) S I J Q := tr_max (k := 71) (by decide +kernel) (by decide +kernel) (Nat.le_of_ble_eq_true rfl)
theorem r49_78 : am_T d 49 78 ls (.int x1 :: .int x0 :: .ref a0 :: st) S I J Q = (am_ixw S a0 20 x0 ∧ am_T d 49 79 ls st S (am_up I a0 x0.toNatClampNeg x1) J Q) := tr_iast (by decide +kernel)
theorem r49_79 : am_T d 49 79 [l0, l1, l2, l3, some (.int x0), l5] st S I J Q = am_T d 49 82 [l0, l1, l2, am_clr l3, some (.int (x0 + 1)), l5] st S I J Q := tr_iinc (k := 4) (m := 1) (by decide +kernel) rfl (Nat.le_of_ble_eq_true rfl) (by decide) rfl
theorem r49_82 : am_T d 49 82 ls st S I J Q = am_T d 49 3 ls st S I J Q := tr_goto (o := -79) (by decide +kernel) rfl
theorem r49_85 : am_T d 49 85 ls [] S I J Q = Q none S I J := tr_vret (by decide +kernel) (by decide +kernel)
-- 50 Sta.<init>()V; heads []
theorem e50 : am_C (d + 1) 50 [.ref a0] S I J Q = am_T d 50 0 [some (.ref a0)] [] S I J Q := tr_en (Nat.le_of_ble_eq_true rfl) rfl
theorem r50_0 : am_T d 50 0 [some (.ref a0)] st S I J Q = am_T d 50 1 [some (.ref a0)] (.ref a0 :: st) S I J Q := tr_aload_n (m := 0) (by decide +kernel) rfl
theorem r50_1 : am_T d 50 1 ls [.ref a0] S I J Q = am_T d 50 4 ls [] S I J Q := tr_oinit (k := 1) (by decide +kernel) (by decide +kernel) (Nat.le_of_ble_eq_true rfl)
theorem r50_4 : am_T d 50 4 [some (.ref a0)] st S I J Q = am_T d 50 5 [some (.ref a0)] (.ref a0 :: st) S I J Q := tr_aload_n (m := 0) (by decide +kernel) rfl
theorem r50_5 : am_T d 50 5 ls st S I J Q = am_T d 50 8 ls (.ref S.length :: st) (S ++ [(1, 7, fun _ => 0)]) (am_row I S.length (fun _ => 0)) (am_row J S.length (fun _ => 0)) Q := tr_new (k := 7) (by decide +kernel) (by decide +kernel)
theorem r50_8 : am_T d 50 8 ls (.ref a0 :: st) S I J Q = am_T d 50 9 ls (.ref a0 :: .ref a0 :: st) S I J Q := tr_dupa (by decide +kernel)
theorem r50_9 : am_T d 50 9 ls [.ref a0, .ref a11, .ref a10] S I J Q = am_C d 10 [.ref a0] S I J (fun r S I J => am_T d 50 12 ls (am_psh r [.ref a11, .ref a10]) S I J Q) := tr_spec (k := 9) (by decide +kernel) (Or.inl (by decide +kernel)) rfl rfl (Nat.le_of_ble_eq_true rfl)
theorem r50_12 : am_T d 50 12 ls (.ref a1 :: .ref a0 :: st) S I J Q = ((am_is S a0 6 ∧ a1 ≠ 0 ∧ a1 < S.length) ∧ am_T d 50 15 ls st (am_sr S a0 0 a1) I J Q) := tr_puta (k := 10) (by decide +kernel) (by decide +kernel) (by decide +kernel) (by decide +kernel)
theorem r50_15 : am_T d 50 15 [some (.ref a0)] st S I J Q = am_T d 50 16 [some (.ref a0)] (.ref a0 :: st) S I J Q := tr_aload_n (m := 0) (by decide +kernel) rfl
theorem r50_16 : am_T d 50 16 ls st S I J Q = am_T d 50 19 ls (.ref S.length :: st) (S ++ [(3, 6, fun _ => 0)]) (am_row I S.length (fun _ => 0)) (am_row J S.length (fun _ => 0)) Q := tr_new (k := 16) (by decide +kernel) (by decide +kernel)
theorem r50_19 : am_T d 50 19 ls (.ref a0 :: st) S I J Q = am_T d 50 20 ls (.ref a0 :: .ref a0 :: st) S I J Q := tr_dupa (by decide +kernel)
theorem r50_20 : am_T d 50 20 ls [.ref a0, .ref a11, .ref a10] S I J Q = am_C d 26 [.ref a0] S I J (fun r S I J => am_T d 50 23 ls (am_psh r [.ref a11, .ref a10]) S I J Q) := tr_spec (k := 18) (by decide +kernel) (Or.inr (by decide +kernel)) rfl rfl (Nat.le_of_ble_eq_true rfl)
theorem r50_23 : am_T d 50 23 ls (.ref a1 :: .ref a0 :: st) S I J Q = ((am_is S a0 6 ∧ a1 ≠ 0 ∧ a1 < S.length) ∧ am_T d 50 26 ls st (am_sr S a0 1 a1) I J Q) := tr_puta (k := 19) (by decide +kernel) (by decide +kernel) (by decide +kernel) (by decide +kernel)
theorem r50_26 : am_T d 50 26 ls [] S I J Q = Q none S I J := tr_vret (by decide +kernel) (by decide +kernel)
-- 51 Sta.copyFrom(LArborescenceFinder$State;)V; heads []
theorem e51 : am_C (d + 1) 51 [.ref a0, .ref a1] S I J Q = am_T d 51 0 [some (.ref a0), some (.ref a1)] [] S I J Q := tr_en (Nat.le_of_ble_eq_true rfl) rfl
theorem r51_0 : am_T d 51 0 [some (.ref a0), l1] st S I J Q = am_T d 51 1 [some (.ref a0), l1] (.ref a0 :: st) S I J Q := tr_aload_n (m := 0) (by decide +kernel) rfl
theorem r51_1 : am_T d 51 1 ls (.ref a0 :: st) S I J Q = ((am_is S a0 6 ∧ am_rf S a0 0 ≠ 0) ∧ am_T d 51 4 ls (.ref (am_rf S a0 0) :: st) S I J Q) := tr_geta (k := 10) (by decide +kernel) (by decide +kernel) (by decide +kernel)
theorem r51_4 : am_T d 51 4 [l0, some (.ref a0)] st S I J Q = am_T d 51 5 [l0, some (.ref a0)] (.ref a0 :: st) S I J Q := tr_aload_n (m := 1) (by decide +kernel) rfl
theorem r51_5 : am_T d 51 5 ls (.ref a0 :: st) S I J Q = ((am_is S a0 6 ∧ am_rf S a0 0 ≠ 0) ∧ am_T d 51 8 ls (.ref (am_rf S a0 0) :: st) S I J Q) := tr_geta (k := 10) (by decide +kernel) (by decide +kernel) (by decide +kernel)
theorem r51_8 : am_T d 51 8 ls [.ref a1, .ref a0] S I J Q = (am_is S a0 1 ∧ am_C d 12 [.ref a0, .ref a1] S I J (fun r S I J => am_T d 51 11 ls (am_psh r []) S I J Q)) := tr_virt (k := 23) (by decide +kernel) (by decide +kernel) rfl rfl (Nat.le_of_ble_eq_true rfl) (by decide +kernel)
theorem r51_11 : am_T d 51 11 [some (.ref a0), l1] st S I J Q = am_T d 51 12 [some (.ref a0), l1] (.ref a0 :: st) S I J Q := tr_aload_n (m := 0) (by decide +kernel) rfl
theorem r51_12 : am_T d 51 12 ls (.ref a0 :: st) S I J Q = ((am_is S a0 6 ∧ am_rf S a0 1 ≠ 0) ∧ am_T d 51 15 ls (.ref (am_rf S a0 1) :: st) S I J Q) := tr_geta (k := 19) (by decide +kernel) (by decide +kernel) (by decide +kernel)
theorem r51_15 : am_T d 51 15 [l0, some (.ref a0)] st S I J Q = am_T d 51 16 [l0, some (.ref a0)] (.ref a0 :: st) S I J Q := tr_aload_n (m := 1) (by decide +kernel) rfl
theorem r51_16 : am_T d 51 16 ls (.ref a0 :: st) S I J Q = ((am_is S a0 6 ∧ am_rf S a0 1 ≠ 0) ∧ am_T d 51 19 ls (.ref (am_rf S a0 1) :: st) S I J Q) := tr_geta (k := 19) (by decide +kernel) (by decide +kernel) (by decide +kernel)
theorem r51_19 : am_T d 51 19 ls [.ref a1, .ref a0] S I J Q = (am_is S a0 3 ∧ am_C d 27 [.ref a0, .ref a1] S I J (fun r S I J => am_T d 51 22 ls (am_psh r []) S I J Q)) := tr_virt (k := 27) (by decide +kernel) (by decide +kernel) rfl rfl (Nat.le_of_ble_eq_true rfl) (by decide +kernel)
theorem r51_22 : am_T d 51 22 ls [] S I J Q = Q none S I J := tr_vret (by decide +kernel) (by decide +kernel)
-- 52 Cnt.<init>()V; heads []
theorem e52 : am_C (d + 1) 52 [.ref a0] S I J Q = am_T d 52 0 [some (.ref a0)] [] S I J Q := tr_en (Nat.le_of_ble_eq_true rfl) rfl
theorem r52_0 : am_T d 52 0 [some (.ref a0)] st S I J Q = am_T d 52 1 [some (.ref a0)] (.ref a0 :: st) S I J Q := tr_aload_n (m := 0) (by decide +kernel) rfl
theorem r52_1 : am_T d 52 1 ls [.ref a0] S I J Q = am_T d 52 4 ls [] S I J Q := tr_oinit (k := 3) (by decide +kernel) (by decide +kernel) (Nat.le_of_ble_eq_true rfl)
theorem r52_4 : am_T d 52 4 [some (.ref a0)] st S I J Q = am_T d 52 5 [some (.ref a0)] (.ref a0 :: st) S I J Q := tr_aload_n (m := 0) (by decide +kernel) rfl
theorem r52_5 : am_T d 52 5 ls st S I J Q = am_T d 52 7 ls (.int 8 :: st) S I J Q := tr_bipush (m := 8) (by decide +kernel) (by decide)
theorem r52_7 : am_T d 52 7 ls st S I J Q = am_T d 52 9 ls (.int 8 :: st) S I J Q := tr_bipush (m := 8) (by decide +kernel) (by decide)
theorem r52_9 : am_T d 52 9 ls (.int x1 :: .int x0 :: st) S I J Q = (((0 ≤ x0.toInt ∧ x0.toInt < 100) ∧ 0 ≤ x1.toInt ∧ x1.toInt < 100) ∧ am_T d 52 13 ls (.ref S.length :: st) (am_grow S x0.toNatClampNeg x1.toNatClampNeg) (am_clean I S.length 0) (am_clean J S.length 0) Q) := tr_grid (by decide +kernel) (by decide +kernel)
theorem r52_13 : am_T d 52 13 ls (.ref a1 :: .ref a0 :: st) S I J Q = ((am_is S a0 7 ∧ a1 ≠ 0 ∧ a1 < S.length) ∧ am_T d 52 16 ls st (am_sr S a0 0 a1) I J Q) := tr_puta (k := 11) (by decide +kernel) (by decide +kernel) (by decide +kernel) (by decide +kernel)
theorem r52_16 : am_T d 52 16 ls [] S I J Q = Q none S I J := tr_vret (by decide +kernel) (by decide +kernel)
-- 53 Cnt.countIn(LArborescenceFinder$Graph;I)J; heads []
theorem e53 : am_C (d + 1) 53 [.ref a0, .ref a1, .int x2] S I J Q = am_T d 53 0 [some (.ref a0), some (.ref a1), some (.int x2)] [] S I J Q := tr_en (Nat.le_of_ble_eq_true rfl) rfl
theorem r53_0 : am_T d 53 0 [some (.ref a0), l1, l2] st S I J Q = am_T d 53 1 [some (.ref a0), l1, l2] (.ref a0 :: st) S I J Q := tr_aload_n (m := 0) (by decide +kernel) rfl
theorem r53_1 : am_T d 53 1 [l0, some (.ref a0), l2] st S I J Q = am_T d 53 2 [l0, some (.ref a0), l2] (.ref a0 :: st) S I J Q := tr_aload_n (m := 1) (by decide +kernel) rfl
theorem r53_2 : am_T d 53 2 [l0, l1, some (.int x0)] st S I J Q = am_T d 53 3 [l0, l1, some (.int x0)] (.int x0 :: st) S I J Q := tr_iload_n (m := 2) (by decide +kernel) rfl
theorem r53_3 : am_T d 53 3 ls [.int x2, .ref a1, .ref a0] S I J Q = (am_is S a0 7 ∧ am_C d 54 [.ref a0, .ref a1, .int x2] S I J (fun r S I J => am_T d 53 6 ls (am_psh r []) S I J Q)) := tr_virt (k := 16) (by decide +kernel) (by decide +kernel) rfl rfl (Nat.le_of_ble_eq_true rfl) (by decide +kernel)
theorem r53_6 : am_T d 53 6 [some (.ref a0), l1, l2] st S I J Q = am_T d 53 7 [some (.ref a0), l1, l2] (.ref a0 :: st) S I J Q := tr_aload_n (m := 0) (by decide +kernel) rfl
theorem r53_7 : am_T d 53 7 [l0, some (.ref a0), l2] st S I J Q = am_T d 53 8 [l0, some (.ref a0), l2] (.ref a0 :: st) S I J Q := tr_aload_n (m := 1) (by decide +kernel) rfl
theorem r53_8 : am_T d 53 8 ls (.ref a0 :: st) S I J Q = (am_is S a0 1 ∧ am_T d 53 11 ls (.int (I a0 0) :: st) S I J Q) := tr_geti (k := 20) (by decide +kernel) (by decide +kernel) (Or.inl (by decide +kernel))
theorem r53_11 : am_T d 53 11 ls [.int x1, .ref a0] S I J Q = (am_is S a0 7 ∧ am_C d 55 [.ref a0, .int x1] S I J (fun r S I J => am_T d 53 14 ls (am_psh r []) S I J Q)) := tr_virt (k := 26) (by decide +kernel) (by decide +kernel) rfl rfl (Nat.le_of_ble_eq_true rfl) (by decide +kernel)
theorem r53_14 : am_T d 53 14 ls [.long u0] S I J Q = Q (some (.long u0)) S I J := tr_lret (by decide +kernel) (by decide +kernel)
-- 54 Cnt.fill(LArborescenceFinder$Graph;I)V; heads [2, 11, 57]
theorem e54 : am_C (d + 1) 54 [.ref a0, .ref a1, .int x2] S I J Q = am_T d 54 0 [some (.ref a0), some (.ref a1), some (.int x2), none, none, none] [] S I J Q := tr_en (Nat.le_of_ble_eq_true rfl) rfl
theorem r54_0 : am_T d 54 0 ls st S I J Q = am_T d 54 1 ls (.int 0 :: st) S I J Q := tr_iconst (m := 0) (by decide +kernel) (by decide)
theorem r54_1 : am_T d 54 1 [l0, l1, l2, l3, l4, l5] (.int x0 :: st) S I J Q = am_T d 54 2 [l0, l1, am_clr l2, some (.int x0), l4, l5] st S I J Q := tr_istore_n (m := 3) (by decide +kernel) (Nat.le_of_ble_eq_true rfl) rfl
theorem r54_2 : am_T d 54 2 [l0, l1, l2, some (.int x0), l4, l5] st S I J Q = am_T d 54 3 [l0, l1, l2, some (.int x0), l4, l5] (.int x0 :: st) S I J Q := tr_iload_n (m := 3) (by decide +kernel) rfl
theorem r54_3 : am_T d 54 3 ls st S I J Q = am_T d 54 5 ls (.int 8 :: st) S I J Q := tr_bipush (m := 8) (by decide +kernel) (by decide)
theorem r54_5 : am_T d 54 5 ls (.int x1 :: .int x0 :: st) S I J Q = if x1 ≤ x0 then am_T d 54 40 ls st S I J Q else am_T d 54 8 ls st S I J Q := tr_icmpge (o := 35) (by decide +kernel) rfl
theorem r54_8 : am_T d 54 8 ls st S I J Q = am_T d 54 9 ls (.int 0 :: st) S I J Q := tr_iconst (m := 0) (by decide +kernel) (by decide)
theorem r54_9 : am_T d 54 9 [l0, l1, l2, l3, l4, l5] (.int x0 :: st) S I J Q = am_T d 54 11 [l0, l1, l2, am_clr l3, some (.int x0), l5] st S I J Q := tr_istore (k := 4) (by decide +kernel) (Nat.le_of_ble_eq_true rfl) rfl
theorem r54_11 : am_T d 54 11 [l0, l1, l2, l3, some (.int x0), l5] st S I J Q = am_T d 54 13 [l0, l1, l2, l3, some (.int x0), l5] (.int x0 :: st) S I J Q := tr_iload (k := 4) (by decide +kernel) rfl
theorem r54_13 : am_T d 54 13 ls st S I J Q = am_T d 54 15 ls (.int 8 :: st) S I J Q := tr_bipush (m := 8) (by decide +kernel) (by decide)
theorem r54_15 : am_T d 54 15 ls (.int x1 :: .int x0 :: st) S I J Q = if x1 ≤ x0 then am_T d 54 34 ls st S I J Q else am_T d 54 18 ls st S I J Q := tr_icmpge (o := 19) (by decide +kernel) rfl
theorem r54_18 : am_T d 54 18 [some (.ref a0), l1, l2, l3, l4, l5] st S I J Q = am_T d 54 19 [some (.ref a0), l1, l2, l3, l4, l5] (.ref a0 :: st) S I J Q := tr_aload_n (m := 0) (by decide +kernel) rfl
theorem r54_19 : am_T d 54 19 ls (.ref a0 :: st) S I J Q = ((am_is S a0 7 ∧ am_rf S a0 0 ≠ 0) ∧ am_T d 54 22 ls (.ref (am_rf S a0 0) :: st) S I J Q) := tr_geta (k := 11) (by decide +kernel) (by decide +kernel) (by decide +kernel)
theorem r54_22 : am_T d 54 22 [l0, l1, l2, some (.int x0), l4, l5] st S I J Q = am_T d 54 23 [l0, l1, l2, some (.int x0), l4, l5] (.int x0 :: st) S I J Q := tr_iload_n (m := 3) (by decide +kernel) rfl
theorem r54_23 : am_T d 54 23 ls (.int x0 :: .ref a0 :: st) S I J Q = (am_ixq S a0 x0 ∧ am_T d 54 24 ls (.ref (am_rf S a0 x0.toNatClampNeg) :: st) S I J Q) := tr_aald (by decide +kernel)
theorem r54_24 : am_T d 54 24 [l0, l1, l2, l3, some (.int x0), l5] st S I J Q = am_T d 54 26 [l0, l1, l2, l3, some (.int x0), l5] (.int x0 :: st) S I J Q := tr_iload (k := 4) (by decide +kernel) rfl
theorem r54_26 : am_T d 54 26 ls st S I J Q = am_T d 54 27 ls (.long 0 :: st) S I J Q := tr_lconst (m := 0) (by decide +kernel) (by decide)
theorem r54_27 : am_T d 54 27 ls (.long u0 :: .int x0 :: .ref a0 :: st) S I J Q = (am_ixw S a0 23 x0 ∧ am_T d 54 28 ls st S I (am_up J a0 x0.toNatClampNeg u0) Q) := tr_last (by decide +kernel)
theorem r54_28 : am_T d 54 28 [l0, l1, l2, l3, some (.int x0), l5] st S I J Q = am_T d 54 31 [l0, l1, l2, am_clr l3, some (.int (x0 + 1)), l5] st S I J Q := tr_iinc (k := 4) (m := 1) (by decide +kernel) rfl (Nat.le_of_ble_eq_true rfl) (by decide) rfl
theorem r54_31 : am_T d 54 31 ls st S I J Q = am_T d 54 11 ls st S I J Q := tr_goto (o := -20) (by decide +kernel) rfl
theorem r54_34 : am_T d 54 34 [l0, l1, l2, some (.int x0), l4, l5] st S I J Q = am_T d 54 37 [l0, l1, am_clr l2, some (.int (x0 + 1)), l4, l5] st S I J Q := tr_iinc (k := 3) (m := 1) (by decide +kernel) rfl (Nat.le_of_ble_eq_true rfl) (by decide) rfl
theorem r54_37 : am_T d 54 37 ls st S I J Q = am_T d 54 2 ls st S I J Q := tr_goto (o := -35) (by decide +kernel) rfl
theorem r54_40 : am_T d 54 40 [some (.ref a0), l1, l2, l3, l4, l5] st S I J Q = am_T d 54 41 [some (.ref a0), l1, l2, l3, l4, l5] (.ref a0 :: st) S I J Q := tr_aload_n (m := 0) (by decide +kernel) rfl
theorem r54_41 : am_T d 54 41 ls (.ref a0 :: st) S I J Q = ((am_is S a0 7 ∧ am_rf S a0 0 ≠ 0) ∧ am_T d 54 44 ls (.ref (am_rf S a0 0) :: st) S I J Q) := tr_geta (k := 11) (by decide +kernel) (by decide +kernel) (by decide +kernel)
theorem r54_44 : am_T d 54 44 [l0, some (.ref a0), l2, l3, l4, l5] st S I J Q = am_T d 54 45 [l0, some (.ref a0), l2, l3, l4, l5] (.ref a0 :: st) S I J Q := tr_aload_n (m := 1) (by decide +kernel) rfl
theorem r54_45 : am_T d 54 45 ls (.ref a0 :: st) S I J Q = (am_is S a0 1 ∧ am_T d 54 48 ls (.int (I a0 1) :: st) S I J Q) := tr_geti (k := 30) (by decide +kernel) (by decide +kernel) (Or.inl (by decide +kernel))
theorem r54_48 : am_T d 54 48 ls (.int x0 :: .ref a0 :: st) S I J Q = (am_ixq S a0 x0 ∧ am_T d 54 49 ls (.ref (am_rf S a0 x0.toNatClampNeg) :: st) S I J Q) := tr_aald (by decide +kernel)
theorem r54_49 : am_T d 54 49 [l0, some (.ref a0), l2, l3, l4, l5] st S I J Q = am_T d 54 50 [l0, some (.ref a0), l2, l3, l4, l5] (.ref a0 :: st) S I J Q := tr_aload_n (m := 1) (by decide +kernel) rfl
theorem r54_50 : am_T d 54 50 ls (.ref a0 :: st) S I J Q = (am_is S a0 1 ∧ am_T d 54 53 ls (.int (I a0 1) :: st) S I J Q) := tr_geti (k := 30) (by decide +kernel) (by decide +kernel) (Or.inl (by decide +kernel))
theorem r54_53 : am_T d 54 53 ls st S I J Q = am_T d 54 54 ls (.long 1 :: st) S I J Q := tr_lconst (m := 1) (by decide +kernel) (by decide)
theorem r54_54 : am_T d 54 54 ls (.long u0 :: .int x0 :: .ref a0 :: st) S I J Q = (am_ixw S a0 23 x0 ∧ am_T d 54 55 ls st S I (am_up J a0 x0.toNatClampNeg u0) Q) := tr_last (by decide +kernel)
theorem r54_55 : am_T d 54 55 ls st S I J Q = am_T d 54 56 ls (.int 0 :: st) S I J Q := tr_iconst (m := 0) (by decide +kernel) (by decide)
theorem r54_56 : am_T d 54 56 [l0, l1, l2, l3, l4, l5] (.int x0 :: st) S I J Q = am_T d 54 57 [l0, l1, am_clr l2, some (.int x0), l4, l5] st S I J Q := tr_istore_n (m := 3) (by decide +kernel) (Nat.le_of_ble_eq_true rfl) rfl
theorem r54_57 : am_T d 54 57 [l0, l1, l2, some (.int x0), l4, l5] st S I J Q = am_T d 54 58 [l0, l1, l2, some (.int x0), l4, l5] (.int x0 :: st) S I J Q := tr_iload_n (m := 3) (by decide +kernel) rfl
theorem r54_58 : am_T d 54 58 [l0, some (.ref a0), l2, l3, l4, l5] st S I J Q = am_T d 54 59 [l0, some (.ref a0), l2, l3, l4, l5] (.ref a0 :: st) S I J Q := tr_aload_n (m := 1) (by decide +kernel) rfl
theorem r54_59 : am_T d 54 59 ls (.ref a0 :: st) S I J Q = (am_is S a0 1 ∧ am_T d 54 62 ls (.int (I a0 2) :: st) S I J Q) := tr_geti (k := 33) (by decide +kernel) (by decide +kernel) (Or.inl (by decide +kernel))
theorem r54_62 : am_T d 54 62 ls (.int x1 :: .int x0 :: st) S I J Q = if x1 ≤ x0 then am_T d 54 141 ls st S I J Q else am_T d 54 65 ls st S I J Q := tr_icmpge (o := 79) (by decide +kernel) rfl
theorem r54_65 : am_T d 54 65 [l0, some (.ref a0), l2, l3, l4, l5] st S I J Q = am_T d 54 66 [l0, some (.ref a0), l2, l3, l4, l5] (.ref a0 :: st) S I J Q := tr_aload_n (m := 1) (by decide +kernel) rfl
theorem r54_66 : am_T d 54 66 ls (.ref a0 :: st) S I J Q = ((am_is S a0 1 ∧ am_rf S a0 4 ≠ 0) ∧ am_T d 54 69 ls (.ref (am_rf S a0 4) :: st) S I J Q) := tr_geta (k := 36) (by decide +kernel) (by decide +kernel) (by decide +kernel)
theorem r54_69 : am_T d 54 69 [l0, l1, l2, some (.int x0), l4, l5] st S I J Q = am_T d 54 70 [l0, l1, l2, some (.int x0), l4, l5] (.int x0 :: st) S I J Q := tr_iload_n (m := 3) (by decide +kernel) rfl
theorem r54_70 : am_T d 54 70 ls (.int x0 :: .ref a0 :: st) S I J Q = (am_ix S a0 20 x0 ∧ am_T d 54 71 ls (.int (I a0 x0.toNatClampNeg) :: st) S I J Q) := tr_iald (by decide +kernel)
theorem r54_71 : am_T d 54 71 [l0, l1, l2, l3, l4, l5] (.int x0 :: st) S I J Q = am_T d 54 73 [l0, l1, l2, am_clr l3, some (.int x0), l5] st S I J Q := tr_istore (k := 4) (by decide +kernel) (Nat.le_of_ble_eq_true rfl) rfl
theorem r54_73 : am_T d 54 73 [l0, some (.ref a0), l2, l3, l4, l5] st S I J Q = am_T d 54 74 [l0, some (.ref a0), l2, l3, l4, l5] (.ref a0 :: st) S I J Q := tr_aload_n (m := 1) (by decide +kernel) rfl
theorem r54_74 : am_T d 54 74 ls (.ref a0 :: st) S I J Q = ((am_is S a0 1 ∧ am_rf S a0 3 ≠ 0) ∧ am_T d 54 77 ls (.ref (am_rf S a0 3) :: st) S I J Q) := tr_geta (k := 40) (by decide +kernel) (by decide +kernel) (by decide +kernel)
theorem r54_77 : am_T d 54 77 [l0, l1, l2, some (.int x0), l4, l5] st S I J Q = am_T d 54 78 [l0, l1, l2, some (.int x0), l4, l5] (.int x0 :: st) S I J Q := tr_iload_n (m := 3) (by decide +kernel) rfl
theorem r54_78 : am_T d 54 78 ls (.int x0 :: .ref a0 :: st) S I J Q = (am_ix S a0 20 x0 ∧ am_T d 54 79 ls (.int (I a0 x0.toNatClampNeg) :: st) S I J Q) := tr_iald (by decide +kernel)
theorem r54_79 : am_T d 54 79 [l0, l1, l2, l3, l4, l5] (.int x0 :: st) S I J Q = am_T d 54 81 [l0, l1, l2, l3, am_clr l4, some (.int x0)] st S I J Q := tr_istore (k := 5) (by decide +kernel) (Nat.le_of_ble_eq_true rfl) rfl
theorem r54_81 : am_T d 54 81 [l0, l1, some (.int x0), l3, l4, l5] st S I J Q = am_T d 54 82 [l0, l1, some (.int x0), l3, l4, l5] (.int x0 :: st) S I J Q := tr_iload_n (m := 2) (by decide +kernel) rfl
theorem r54_82 : am_T d 54 82 [l0, l1, l2, some (.int x0), l4, l5] st S I J Q = am_T d 54 83 [l0, l1, l2, some (.int x0), l4, l5] (.int x0 :: st) S I J Q := tr_iload_n (m := 3) (by decide +kernel) rfl
theorem r54_83 : am_T d 54 83 ls [.int x1, .int x0] S I J Q = am_C d 110 [.int x0, .int x1] S I J (fun r S I J => am_T d 54 86 ls (am_psh r []) S I J Q) := tr_stat (k := 43) (by decide +kernel) (Or.inr (by decide +kernel)) (Nat.le_of_ble_eq_true rfl) rfl rfl (Nat.le_of_ble_eq_true rfl)
theorem r54_86 : am_T d 54 86 ls (.int x0 :: st) S I J Q = if x0 = 0 then am_T d 54 135 ls st S I J Q else am_T d 54 89 ls st S I J Q := tr_ifeq (o := 49) (by decide +kernel) rfl
theorem r54_89 : am_T d 54 89 [l0, l1, l2, l3, some (.int x0), l5] st S I J Q = am_T d 54 91 [l0, l1, l2, l3, some (.int x0), l5] (.int x0 :: st) S I J Q := tr_iload (k := 4) (by decide +kernel) rfl
theorem r54_91 : am_T d 54 91 [l0, some (.ref a0), l2, l3, l4, l5] st S I J Q = am_T d 54 92 [l0, some (.ref a0), l2, l3, l4, l5] (.ref a0 :: st) S I J Q := tr_aload_n (m := 1) (by decide +kernel) rfl
theorem r54_92 : am_T d 54 92 ls (.ref a0 :: st) S I J Q = (am_is S a0 1 ∧ am_T d 54 95 ls (.int (I a0 1) :: st) S I J Q) := tr_geti (k := 30) (by decide +kernel) (by decide +kernel) (Or.inl (by decide +kernel))
theorem r54_95 : am_T d 54 95 ls (.int x1 :: .int x0 :: st) S I J Q = if x0 = x1 then am_T d 54 135 ls st S I J Q else am_T d 54 98 ls st S I J Q := tr_icmpeq (o := 40) (by decide +kernel) rfl
theorem r54_98 : am_T d 54 98 [some (.ref a0), l1, l2, l3, l4, l5] st S I J Q = am_T d 54 99 [some (.ref a0), l1, l2, l3, l4, l5] (.ref a0 :: st) S I J Q := tr_aload_n (m := 0) (by decide +kernel) rfl
theorem r54_99 : am_T d 54 99 ls (.ref a0 :: st) S I J Q = ((am_is S a0 7 ∧ am_rf S a0 0 ≠ 0) ∧ am_T d 54 102 ls (.ref (am_rf S a0 0) :: st) S I J Q) := tr_geta (k := 11) (by decide +kernel) (by decide +kernel) (by decide +kernel)
theorem r54_102 : am_T d 54 102 [l0, l1, l2, l3, some (.int x0), l5] st S I J Q = am_T d 54 104 [l0, l1, l2, l3, some (.int x0), l5] (.int x0 :: st) S I J Q := tr_iload (k := 4) (by decide +kernel) rfl
theorem r54_104 : am_T d 54 104 ls (.int x0 :: .ref a0 :: st) S I J Q = (am_ixq S a0 x0 ∧ am_T d 54 105 ls (.ref (am_rf S a0 x0.toNatClampNeg) :: st) S I J Q) := tr_aald (by decide +kernel)
theorem r54_105 : am_T d 54 105 [l0, l1, l2, l3, some (.int x0), l5] st S I J Q = am_T d 54 107 [l0, l1, l2, l3, some (.int x0), l5] (.int x0 :: st) S I J Q := tr_iload (k := 4) (by decide +kernel) rfl
theorem r54_107 : am_T d 54 107 ls (.int x0 :: .ref a0 :: st) S I J Q = am_T d 54 108 ls (.int x0 :: .ref a0 :: .int x0 :: .ref a0 :: st) S I J Q := tr_dup2 (by decide +kernel)
theorem r54_108 : am_T d 54 108 ls (.int x0 :: .ref a0 :: st) S I J Q = (am_ix S a0 23 x0 ∧ am_T d 54 109 ls (.long (J a0 x0.toNatClampNeg) :: st) S I J Q) := tr_lald (by decide +kernel)
theorem r54_109 : am_T d 54 109 ls st S I J Q = am_T d 54 110 ls (.long 1 :: st) S I J Q := tr_lconst (m := 1) (by decide +kernel) (by decide)
theorem r54_110 : am_T d 54 110 ls (.long u1 :: .long u0 :: st) S I J Q = am_T d 54 111 ls (.long (u0 + u1) :: st) S I J Q := tr_ladd (by decide +kernel)
theorem r54_111 : am_T d 54 111 ls (.long u0 :: .int x0 :: .ref a0 :: st) S I J Q = (am_ixw S a0 23 x0 ∧ am_T d 54 112 ls st S I (am_up J a0 x0.toNatClampNeg u0) Q) := tr_last (by decide +kernel)
theorem r54_112 : am_T d 54 112 [l0, l1, l2, l3, l4, some (.int x0)] st S I J Q = am_T d 54 114 [l0, l1, l2, l3, l4, some (.int x0)] (.int x0 :: st) S I J Q := tr_iload (k := 5) (by decide +kernel) rfl
theorem r54_114 : am_T d 54 114 [l0, some (.ref a0), l2, l3, l4, l5] st S I J Q = am_T d 54 115 [l0, some (.ref a0), l2, l3, l4, l5] (.ref a0 :: st) S I J Q := tr_aload_n (m := 1) (by decide +kernel) rfl
theorem r54_115 : am_T d 54 115 ls (.ref a0 :: st) S I J Q = (am_is S a0 1 ∧ am_T d 54 118 ls (.int (I a0 1) :: st) S I J Q) := tr_geti (k := 30) (by decide +kernel) (by decide +kernel) (Or.inl (by decide +kernel))
theorem r54_118 : am_T d 54 118 ls (.int x1 :: .int x0 :: st) S I J Q = if x0 = x1 then am_T d 54 135 ls st S I J Q else am_T d 54 121 ls st S I J Q := tr_icmpeq (o := 17) (by decide +kernel) rfl
theorem r54_121 : am_T d 54 121 [some (.ref a0), l1, l2, l3, l4, l5] st S I J Q = am_T d 54 122 [some (.ref a0), l1, l2, l3, l4, l5] (.ref a0 :: st) S I J Q := tr_aload_n (m := 0) (by decide +kernel) rfl
theorem r54_122 : am_T d 54 122 ls (.ref a0 :: st) S I J Q = ((am_is S a0 7 ∧ am_rf S a0 0 ≠ 0) ∧ am_T d 54 125 ls (.ref (am_rf S a0 0) :: st) S I J Q) := tr_geta (k := 11) (by decide +kernel) (by decide +kernel) (by decide +kernel)
theorem r54_125 : am_T d 54 125 [l0, l1, l2, l3, some (.int x0), l5] st S I J Q = am_T d 54 127 [l0, l1, l2, l3, some (.int x0), l5] (.int x0 :: st) S I J Q := tr_iload (k := 4) (by decide +kernel) rfl
theorem r54_127 : am_T d 54 127 ls (.int x0 :: .ref a0 :: st) S I J Q = (am_ixq S a0 x0 ∧ am_T d 54 128 ls (.ref (am_rf S a0 x0.toNatClampNeg) :: st) S I J Q) := tr_aald (by decide +kernel)
theorem r54_128 : am_T d 54 128 [l0, l1, l2, l3, l4, some (.int x0)] st S I J Q = am_T d 54 130 [l0, l1, l2, l3, l4, some (.int x0)] (.int x0 :: st) S I J Q := tr_iload (k := 5) (by decide +kernel) rfl
theorem r54_130 : am_T d 54 130 ls (.int x0 :: .ref a0 :: st) S I J Q = am_T d 54 131 ls (.int x0 :: .ref a0 :: .int x0 :: .ref a0 :: st) S I J Q := tr_dup2 (by decide +kernel)
theorem r54_131 : am_T d 54 131 ls (.int x0 :: .ref a0 :: st) S I J Q = (am_ix S a0 23 x0 ∧ am_T d 54 132 ls (.long (J a0 x0.toNatClampNeg) :: st) S I J Q) := tr_lald (by decide +kernel)
theorem r54_132 : am_T d 54 132 ls st S I J Q = am_T d 54 133 ls (.long 1 :: st) S I J Q := tr_lconst (m := 1) (by decide +kernel) (by decide)
theorem r54_133 : am_T d 54 133 ls (.long u1 :: .long u0 :: st) S I J Q = am_T d 54 134 ls (.long (u0 - u1) :: st) S I J Q := tr_lsub (by decide +kernel)
theorem r54_134 : am_T d 54 134 ls (.long u0 :: .int x0 :: .ref a0 :: st) S I J Q = (am_ixw S a0 23 x0 ∧ am_T d 54 135 ls st S I (am_up J a0 x0.toNatClampNeg u0) Q) := tr_last (by decide +kernel)
theorem r54_135 : am_T d 54 135 [l0, l1, l2, some (.int x0), l4, l5] st S I J Q = am_T d 54 138 [l0, l1, am_clr l2, some (.int (x0 + 1)), l4, l5] st S I J Q := tr_iinc (k := 3) (m := 1) (by decide +kernel) rfl (Nat.le_of_ble_eq_true rfl) (by decide) rfl
theorem r54_138 : am_T d 54 138 ls st S I J Q = am_T d 54 57 ls st S I J Q := tr_goto (o := -81) (by decide +kernel) rfl
theorem r54_141 : am_T d 54 141 ls [] S I J Q = Q none S I J := tr_vret (by decide +kernel) (by decide +kernel)
-- 55 Cnt.determinant(I)J; heads [5]
theorem e55 : am_C (d + 1) 55 [.ref a0, .int x1] S I J Q = am_T d 55 0 [some (.ref a0), some (.int x1), none, none, none] [] S I J Q := tr_en (Nat.le_of_ble_eq_true rfl) rfl
theorem r55_0 : am_T d 55 0 ls st S I J Q = am_T d 55 1 ls (.long 1 :: st) S I J Q := tr_lconst (m := 1) (by decide +kernel) (by decide)
theorem r55_1 : am_T d 55 1 [l0, l1, l2, l3, l4] (.long u0 :: st) S I J Q = am_T d 55 2 [l0, am_clr l1, some (.long u0), none, l4] st S I J Q := tr_lstore_n (m := 2) (by decide +kernel) (Nat.le_of_ble_eq_true rfl) rfl
theorem r55_2 : am_T d 55 2 ls st S I J Q = am_T d 55 3 ls (.int 0 :: st) S I J Q := tr_iconst (m := 0) (by decide +kernel) (by decide)
theorem r55_3 : am_T d 55 3 [l0, l1, l2, l3, l4] (.int x0 :: st) S I J Q = am_T d 55 5 [l0, l1, l2, am_clr l3, some (.int x0)] st S I J Q := tr_istore (k := 4) (by decide +kernel) (Nat.le_of_ble_eq_true rfl) rfl
theorem r55_5 : am_T d 55 5 [l0, l1, l2, l3, some (.int x0)] st S I J Q = am_T d 55 7 [l0, l1, l2, l3, some (.int x0)] (.int x0 :: st) S I J Q := tr_iload (k := 4) (by decide +kernel) rfl
theorem r55_7 : am_T d 55 7 [l0, some (.int x0), l2, l3, l4] st S I J Q = am_T d 55 8 [l0, some (.int x0), l2, l3, l4] (.int x0 :: st) S I J Q := tr_iload_n (m := 1) (by decide +kernel) rfl
theorem r55_8 : am_T d 55 8 ls (.int x1 :: .int x0 :: st) S I J Q = if x1 ≤ x0 then am_T d 55 53 ls st S I J Q else am_T d 55 11 ls st S I J Q := tr_icmpge (o := 45) (by decide +kernel) rfl
theorem r55_11 : am_T d 55 11 [some (.ref a0), l1, l2, l3, l4] st S I J Q = am_T d 55 12 [some (.ref a0), l1, l2, l3, l4] (.ref a0 :: st) S I J Q := tr_aload_n (m := 0) (by decide +kernel) rfl
theorem r55_12 : am_T d 55 12 ls (.ref a0 :: st) S I J Q = ((am_is S a0 7 ∧ am_rf S a0 0 ≠ 0) ∧ am_T d 55 15 ls (.ref (am_rf S a0 0) :: st) S I J Q) := tr_geta (k := 11) (by decide +kernel) (by decide +kernel) (by decide +kernel)
theorem r55_15 : am_T d 55 15 [l0, l1, l2, l3, some (.int x0)] st S I J Q = am_T d 55 17 [l0, l1, l2, l3, some (.int x0)] (.int x0 :: st) S I J Q := tr_iload (k := 4) (by decide +kernel) rfl
theorem r55_17 : am_T d 55 17 ls (.int x0 :: .ref a0 :: st) S I J Q = (am_ixq S a0 x0 ∧ am_T d 55 18 ls (.ref (am_rf S a0 x0.toNatClampNeg) :: st) S I J Q) := tr_aald (by decide +kernel)
theorem r55_18 : am_T d 55 18 [l0, l1, l2, l3, some (.int x0)] st S I J Q = am_T d 55 20 [l0, l1, l2, l3, some (.int x0)] (.int x0 :: st) S I J Q := tr_iload (k := 4) (by decide +kernel) rfl
theorem r55_20 : am_T d 55 20 ls (.int x0 :: .ref a0 :: st) S I J Q = (am_ix S a0 23 x0 ∧ am_T d 55 21 ls (.long (J a0 x0.toNatClampNeg) :: st) S I J Q) := tr_lald (by decide +kernel)
theorem r55_21 : am_T d 55 21 ls st S I J Q = am_T d 55 22 ls (.long 0 :: st) S I J Q := tr_lconst (m := 0) (by decide +kernel) (by decide)
theorem r55_22 : am_T d 55 22 ls (.long u1 :: .long u0 :: st) S I J Q = am_T d 55 23 ls (.int (lg_cmp u0 u1) :: st) S I J Q := tr_lcmp (by decide +kernel)
theorem r55_23 : am_T d 55 23 ls (.int x0 :: st) S I J Q = if x0 = 0 then am_T d 55 26 ls st S I J Q else am_T d 55 28 ls st S I J Q := tr_ifne (o := 5) (by decide +kernel) rfl
theorem r55_26 : am_T d 55 26 ls st S I J Q = am_T d 55 27 ls (.long 0 :: st) S I J Q := tr_lconst (m := 0) (by decide +kernel) (by decide)
theorem r55_27 : am_T d 55 27 ls [.long u0] S I J Q = Q (some (.long u0)) S I J := tr_lret (by decide +kernel) (by decide +kernel)
theorem r55_28 : am_T d 55 28 [some (.ref a0), l1, l2, l3, l4] st S I J Q = am_T d 55 29 [some (.ref a0), l1, l2, l3, l4] (.ref a0 :: st) S I J Q := tr_aload_n (m := 0) (by decide +kernel) rfl
theorem r55_29 : am_T d 55 29 [l0, l1, l2, l3, some (.int x0)] st S I J Q = am_T d 55 31 [l0, l1, l2, l3, some (.int x0)] (.int x0 :: st) S I J Q := tr_iload (k := 4) (by decide +kernel) rfl
theorem r55_31 : am_T d 55 31 [l0, some (.int x0), l2, l3, l4] st S I J Q = am_T d 55 32 [l0, some (.int x0), l2, l3, l4] (.int x0 :: st) S I J Q := tr_iload_n (m := 1) (by decide +kernel) rfl
theorem r55_32 : am_T d 55 32 [l0, l1, some (.long u0), l3, l4] st S I J Q = am_T d 55 33 [l0, l1, some (.long u0), l3, l4] (.long u0 :: st) S I J Q := tr_lload_n (m := 2) (by decide +kernel) rfl
theorem r55_33 : am_T d 55 33 ls [.long u3, .int x2, .int x1, .ref a0] S I J Q = (am_is S a0 7 ∧ am_C d 56 [.ref a0, .int x1, .int x2, .long u3] S I J (fun r S I J => am_T d 55 36 ls (am_psh r []) S I J Q)) := tr_virt (k := 47) (by decide +kernel) (by decide +kernel) rfl rfl (Nat.le_of_ble_eq_true rfl) (by decide +kernel)
theorem r55_36 : am_T d 55 36 [some (.ref a0), l1, l2, l3, l4] st S I J Q = am_T d 55 37 [some (.ref a0), l1, l2, l3, l4] (.ref a0 :: st) S I J Q := tr_aload_n (m := 0) (by decide +kernel) rfl
theorem r55_37 : am_T d 55 37 ls (.ref a0 :: st) S I J Q = ((am_is S a0 7 ∧ am_rf S a0 0 ≠ 0) ∧ am_T d 55 40 ls (.ref (am_rf S a0 0) :: st) S I J Q) := tr_geta (k := 11) (by decide +kernel) (by decide +kernel) (by decide +kernel)
theorem r55_40 : am_T d 55 40 [l0, l1, l2, l3, some (.int x0)] st S I J Q = am_T d 55 42 [l0, l1, l2, l3, some (.int x0)] (.int x0 :: st) S I J Q := tr_iload (k := 4) (by decide +kernel) rfl
theorem r55_42 : am_T d 55 42 ls (.int x0 :: .ref a0 :: st) S I J Q = (am_ixq S a0 x0 ∧ am_T d 55 43 ls (.ref (am_rf S a0 x0.toNatClampNeg) :: st) S I J Q) := tr_aald (by decide +kernel)
theorem r55_43 : am_T d 55 43 [l0, l1, l2, l3, some (.int x0)] st S I J Q = am_T d 55 45 [l0, l1, l2, l3, some (.int x0)] (.int x0 :: st) S I J Q := tr_iload (k := 4) (by decide +kernel) rfl
theorem r55_45 : am_T d 55 45 ls (.int x0 :: .ref a0 :: st) S I J Q = (am_ix S a0 23 x0 ∧ am_T d 55 46 ls (.long (J a0 x0.toNatClampNeg) :: st) S I J Q) := tr_lald (by decide +kernel)
theorem r55_46 : am_T d 55 46 [l0, l1, l2, l3, l4] (.long u0 :: st) S I J Q = am_T d 55 47 [l0, am_clr l1, some (.long u0), none, l4] st S I J Q := tr_lstore_n (m := 2) (by decide +kernel) (Nat.le_of_ble_eq_true rfl) rfl
theorem r55_47 : am_T d 55 47 [l0, l1, l2, l3, some (.int x0)] st S I J Q = am_T d 55 50 [l0, l1, l2, am_clr l3, some (.int (x0 + 1))] st S I J Q := tr_iinc (k := 4) (m := 1) (by decide +kernel) rfl (Nat.le_of_ble_eq_true rfl) (by decide) rfl
theorem r55_50 : am_T d 55 50 ls st S I J Q = am_T d 55 5 ls st S I J Q := tr_goto (o := -45) (by decide +kernel) rfl
theorem r55_53 : am_T d 55 53 [l0, l1, some (.long u0), l3, l4] st S I J Q = am_T d 55 54 [l0, l1, some (.long u0), l3, l4] (.long u0 :: st) S I J Q := tr_lload_n (m := 2) (by decide +kernel) rfl
theorem r55_54 : am_T d 55 54 ls [.long u0] S I J Q = Q (some (.long u0)) S I J := tr_lret (by decide +kernel) (by decide +kernel)
-- 56 Cnt.eliminate(IIJ)V; heads [12, 23]
theorem e56 : am_C (d + 1) 56 [.ref a0, .int x1, .int x2, .long u3] S I J Q = am_T d 56 0 [some (.ref a0), some (.int x1), some (.int x2), some (.long u3), none, none, none] [] S I J Q := tr_en (Nat.le_of_ble_eq_true rfl) rfl
theorem r56_0 : am_T d 56 0 [l0, l1, l2, some (.long u0), l4, l5, l6] st S I J Q = am_T d 56 1 [l0, l1, l2, some (.long u0), l4, l5, l6] (.long u0 :: st) S I J Q := tr_lload_n (m := 3) (by decide +kernel) rfl
theorem r56_1 : am_T d 56 1 ls st S I J Q = am_T d 56 2 ls (.long 0 :: st) S I J Q := tr_lconst (m := 0) (by decide +kernel) (by decide)
theorem r56_2 : am_T d 56 2 ls (.long u1 :: .long u0 :: st) S I J Q = am_T d 56 3 ls (.int (lg_cmp u0 u1) :: st) S I J Q := tr_lcmp (by decide +kernel)
theorem r56_3 : am_T d 56 3 ls (.int x0 :: st) S I J Q = if x0 = 0 then am_T d 56 6 ls st S I J Q else am_T d 56 7 ls st S I J Q := tr_ifne (o := 4) (by decide +kernel) rfl
theorem r56_6 : am_T d 56 6 ls [] S I J Q = Q none S I J := tr_vret (by decide +kernel) (by decide +kernel)
theorem r56_7 : am_T d 56 7 [l0, some (.int x0), l2, l3, l4, l5, l6] st S I J Q = am_T d 56 8 [l0, some (.int x0), l2, l3, l4, l5, l6] (.int x0 :: st) S I J Q := tr_iload_n (m := 1) (by decide +kernel) rfl
theorem r56_8 : am_T d 56 8 ls st S I J Q = am_T d 56 9 ls (.int 1 :: st) S I J Q := tr_iconst (m := 1) (by decide +kernel) (by decide)
theorem r56_9 : am_T d 56 9 ls (.int x1 :: .int x0 :: st) S I J Q = am_T d 56 10 ls (.int (x0 + x1) :: st) S I J Q := tr_iadd (by decide +kernel)
theorem r56_10 : am_T d 56 10 [l0, l1, l2, l3, l4, l5, l6] (.int x0 :: st) S I J Q = am_T d 56 12 [l0, l1, l2, l3, am_clr l4, some (.int x0), l6] st S I J Q := tr_istore (k := 5) (by decide +kernel) (Nat.le_of_ble_eq_true rfl) rfl
theorem r56_12 : am_T d 56 12 [l0, l1, l2, l3, l4, some (.int x0), l6] st S I J Q = am_T d 56 14 [l0, l1, l2, l3, l4, some (.int x0), l6] (.int x0 :: st) S I J Q := tr_iload (k := 5) (by decide +kernel) rfl
theorem r56_14 : am_T d 56 14 [l0, l1, some (.int x0), l3, l4, l5, l6] st S I J Q = am_T d 56 15 [l0, l1, some (.int x0), l3, l4, l5, l6] (.int x0 :: st) S I J Q := tr_iload_n (m := 2) (by decide +kernel) rfl
theorem r56_15 : am_T d 56 15 ls (.int x1 :: .int x0 :: st) S I J Q = if x1 ≤ x0 then am_T d 56 92 ls st S I J Q else am_T d 56 18 ls st S I J Q := tr_icmpge (o := 77) (by decide +kernel) rfl
theorem r56_18 : am_T d 56 18 [l0, some (.int x0), l2, l3, l4, l5, l6] st S I J Q = am_T d 56 19 [l0, some (.int x0), l2, l3, l4, l5, l6] (.int x0 :: st) S I J Q := tr_iload_n (m := 1) (by decide +kernel) rfl
theorem r56_19 : am_T d 56 19 ls st S I J Q = am_T d 56 20 ls (.int 1 :: st) S I J Q := tr_iconst (m := 1) (by decide +kernel) (by decide)
theorem r56_20 : am_T d 56 20 ls (.int x1 :: .int x0 :: st) S I J Q = am_T d 56 21 ls (.int (x0 + x1) :: st) S I J Q := tr_iadd (by decide +kernel)
theorem r56_21 : am_T d 56 21 [l0, l1, l2, l3, l4, l5, l6] (.int x0 :: st) S I J Q = am_T d 56 23 [l0, l1, l2, l3, l4, am_clr l5, some (.int x0)] st S I J Q := tr_istore (k := 6) (by decide +kernel) (Nat.le_of_ble_eq_true rfl) rfl
theorem r56_23 : am_T d 56 23 [l0, l1, l2, l3, l4, l5, some (.int x0)] st S I J Q = am_T d 56 25 [l0, l1, l2, l3, l4, l5, some (.int x0)] (.int x0 :: st) S I J Q := tr_iload (k := 6) (by decide +kernel) rfl
theorem r56_25 : am_T d 56 25 [l0, l1, some (.int x0), l3, l4, l5, l6] st S I J Q = am_T d 56 26 [l0, l1, some (.int x0), l3, l4, l5, l6] (.int x0 :: st) S I J Q := tr_iload_n (m := 2) (by decide +kernel) rfl
theorem r56_26 : am_T d 56 26 ls (.int x1 :: .int x0 :: st) S I J Q = if x1 ≤ x0 then am_T d 56 86 ls st S I J Q else am_T d 56 29 ls st S I J Q := tr_icmpge (o := 60) (by decide +kernel) rfl
theorem r56_29 : am_T d 56 29 [some (.ref a0), l1, l2, l3, l4, l5, l6] st S I J Q = am_T d 56 30 [some (.ref a0), l1, l2, l3, l4, l5, l6] (.ref a0 :: st) S I J Q := tr_aload_n (m := 0) (by decide +kernel) rfl
theorem r56_30 : am_T d 56 30 ls (.ref a0 :: st) S I J Q = ((am_is S a0 7 ∧ am_rf S a0 0 ≠ 0) ∧ am_T d 56 33 ls (.ref (am_rf S a0 0) :: st) S I J Q) := tr_geta (k := 11) (by decide +kernel) (by decide +kernel) (by decide +kernel)
theorem r56_33 : am_T d 56 33 [l0, l1, l2, l3, l4, some (.int x0), l6] st S I J Q = am_T d 56 35 [l0, l1, l2, l3, l4, some (.int x0), l6] (.int x0 :: st) S I J Q := tr_iload (k := 5) (by decide +kernel) rfl
theorem r56_35 : am_T d 56 35 ls (.int x0 :: .ref a0 :: st) S I J Q = (am_ixq S a0 x0 ∧ am_T d 56 36 ls (.ref (am_rf S a0 x0.toNatClampNeg) :: st) S I J Q) := tr_aald (by decide +kernel)
theorem r56_36 : am_T d 56 36 [l0, l1, l2, l3, l4, l5, some (.int x0)] st S I J Q = am_T d 56 38 [l0, l1, l2, l3, l4, l5, some (.int x0)] (.int x0 :: st) S I J Q := tr_iload (k := 6) (by decide +kernel) rfl
theorem r56_38 : am_T d 56 38 [some (.ref a0), l1, l2, l3, l4, l5, l6] st S I J Q = am_T d 56 39 [some (.ref a0), l1, l2, l3, l4, l5, l6] (.ref a0 :: st) S I J Q := tr_aload_n (m := 0) (by decide +kernel) rfl
theorem r56_39 : am_T d 56 39 ls (.ref a0 :: st) S I J Q = ((am_is S a0 7 ∧ am_rf S a0 0 ≠ 0) ∧ am_T d 56 42 ls (.ref (am_rf S a0 0) :: st) S I J Q) := tr_geta (k := 11) (by decide +kernel) (by decide +kernel) (by decide +kernel)
theorem r56_42 : am_T d 56 42 [l0, l1, l2, l3, l4, some (.int x0), l6] st S I J Q = am_T d 56 44 [l0, l1, l2, l3, l4, some (.int x0), l6] (.int x0 :: st) S I J Q := tr_iload (k := 5) (by decide +kernel) rfl
theorem r56_44 : am_T d 56 44 ls (.int x0 :: .ref a0 :: st) S I J Q = (am_ixq S a0 x0 ∧ am_T d 56 45 ls (.ref (am_rf S a0 x0.toNatClampNeg) :: st) S I J Q) := tr_aald (by decide +kernel)
theorem r56_45 : am_T d 56 45 [l0, l1, l2, l3, l4, l5, some (.int x0)] st S I J Q = am_T d 56 47 [l0, l1, l2, l3, l4, l5, some (.int x0)] (.int x0 :: st) S I J Q := tr_iload (k := 6) (by decide +kernel) rfl
theorem r56_47 : am_T d 56 47 ls (.int x0 :: .ref a0 :: st) S I J Q = (am_ix S a0 23 x0 ∧ am_T d 56 48 ls (.long (J a0 x0.toNatClampNeg) :: st) S I J Q) := tr_lald (by decide +kernel)
theorem r56_48 : am_T d 56 48 [some (.ref a0), l1, l2, l3, l4, l5, l6] st S I J Q = am_T d 56 49 [some (.ref a0), l1, l2, l3, l4, l5, l6] (.ref a0 :: st) S I J Q := tr_aload_n (m := 0) (by decide +kernel) rfl
theorem r56_49 : am_T d 56 49 ls (.ref a0 :: st) S I J Q = ((am_is S a0 7 ∧ am_rf S a0 0 ≠ 0) ∧ am_T d 56 52 ls (.ref (am_rf S a0 0) :: st) S I J Q) := tr_geta (k := 11) (by decide +kernel) (by decide +kernel) (by decide +kernel)
theorem r56_52 : am_T d 56 52 [l0, some (.int x0), l2, l3, l4, l5, l6] st S I J Q = am_T d 56 53 [l0, some (.int x0), l2, l3, l4, l5, l6] (.int x0 :: st) S I J Q := tr_iload_n (m := 1) (by decide +kernel) rfl
theorem r56_53 : am_T d 56 53 ls (.int x0 :: .ref a0 :: st) S I J Q = (am_ixq S a0 x0 ∧ am_T d 56 54 ls (.ref (am_rf S a0 x0.toNatClampNeg) :: st) S I J Q) := tr_aald (by decide +kernel)
theorem r56_54 : am_T d 56 54 [l0, some (.int x0), l2, l3, l4, l5, l6] st S I J Q = am_T d 56 55 [l0, some (.int x0), l2, l3, l4, l5, l6] (.int x0 :: st) S I J Q := tr_iload_n (m := 1) (by decide +kernel) rfl
theorem r56_55 : am_T d 56 55 ls (.int x0 :: .ref a0 :: st) S I J Q = (am_ix S a0 23 x0 ∧ am_T d 56 56 ls (.long (J a0 x0.toNatClampNeg) :: st) S I J Q) := tr_lald (by decide +kernel)
theorem r56_56 : am_T d 56 56 ls (.long u1 :: .long u0 :: st) S I J Q = am_T d 56 57 ls (.long (u0 * u1) :: st) S I J Q := tr_lmul (by decide +kernel)
theorem r56_57 : am_T d 56 57 [some (.ref a0), l1, l2, l3, l4, l5, l6] st S I J Q = am_T d 56 58 [some (.ref a0), l1, l2, l3, l4, l5, l6] (.ref a0 :: st) S I J Q := tr_aload_n (m := 0) (by decide +kernel) rfl
theorem r56_58 : am_T d 56 58 ls (.ref a0 :: st) S I J Q = ((am_is S a0 7 ∧ am_rf S a0 0 ≠ 0) ∧ am_T d 56 61 ls (.ref (am_rf S a0 0) :: st) S I J Q) := tr_geta (k := 11) (by decide +kernel) (by decide +kernel) (by decide +kernel)
theorem r56_61 : am_T d 56 61 [l0, l1, l2, l3, l4, some (.int x0), l6] st S I J Q = am_T d 56 63 [l0, l1, l2, l3, l4, some (.int x0), l6] (.int x0 :: st) S I J Q := tr_iload (k := 5) (by decide +kernel) rfl
theorem r56_63 : am_T d 56 63 ls (.int x0 :: .ref a0 :: st) S I J Q = (am_ixq S a0 x0 ∧ am_T d 56 64 ls (.ref (am_rf S a0 x0.toNatClampNeg) :: st) S I J Q) := tr_aald (by decide +kernel)
theorem r56_64 : am_T d 56 64 [l0, some (.int x0), l2, l3, l4, l5, l6] st S I J Q = am_T d 56 65 [l0, some (.int x0), l2, l3, l4, l5, l6] (.int x0 :: st) S I J Q := tr_iload_n (m := 1) (by decide +kernel) rfl
theorem r56_65 : am_T d 56 65 ls (.int x0 :: .ref a0 :: st) S I J Q = (am_ix S a0 23 x0 ∧ am_T d 56 66 ls (.long (J a0 x0.toNatClampNeg) :: st) S I J Q) := tr_lald (by decide +kernel)
theorem r56_66 : am_T d 56 66 [some (.ref a0), l1, l2, l3, l4, l5, l6] st S I J Q = am_T d 56 67 [some (.ref a0), l1, l2, l3, l4, l5, l6] (.ref a0 :: st) S I J Q := tr_aload_n (m := 0) (by decide +kernel) rfl
theorem r56_67 : am_T d 56 67 ls (.ref a0 :: st) S I J Q = ((am_is S a0 7 ∧ am_rf S a0 0 ≠ 0) ∧ am_T d 56 70 ls (.ref (am_rf S a0 0) :: st) S I J Q) := tr_geta (k := 11) (by decide +kernel) (by decide +kernel) (by decide +kernel)
theorem r56_70 : am_T d 56 70 [l0, some (.int x0), l2, l3, l4, l5, l6] st S I J Q = am_T d 56 71 [l0, some (.int x0), l2, l3, l4, l5, l6] (.int x0 :: st) S I J Q := tr_iload_n (m := 1) (by decide +kernel) rfl
theorem r56_71 : am_T d 56 71 ls (.int x0 :: .ref a0 :: st) S I J Q = (am_ixq S a0 x0 ∧ am_T d 56 72 ls (.ref (am_rf S a0 x0.toNatClampNeg) :: st) S I J Q) := tr_aald (by decide +kernel)
theorem r56_72 : am_T d 56 72 [l0, l1, l2, l3, l4, l5, some (.int x0)] st S I J Q = am_T d 56 74 [l0, l1, l2, l3, l4, l5, some (.int x0)] (.int x0 :: st) S I J Q := tr_iload (k := 6) (by decide +kernel) rfl
theorem r56_74 : am_T d 56 74 ls (.int x0 :: .ref a0 :: st) S I J Q = (am_ix S a0 23 x0 ∧ am_T d 56 75 ls (.long (J a0 x0.toNatClampNeg) :: st) S I J Q) := tr_lald (by decide +kernel)
theorem r56_75 : am_T d 56 75 ls (.long u1 :: .long u0 :: st) S I J Q = am_T d 56 76 ls (.long (u0 * u1) :: st) S I J Q := tr_lmul (by decide +kernel)
theorem r56_76 : am_T d 56 76 ls (.long u1 :: .long u0 :: st) S I J Q = am_T d 56 77 ls (.long (u0 - u1) :: st) S I J Q := tr_lsub (by decide +kernel)
theorem r56_77 : am_T d 56 77 [l0, l1, l2, some (.long u0), l4, l5, l6] st S I J Q = am_T d 56 78 [l0, l1, l2, some (.long u0), l4, l5, l6] (.long u0 :: st) S I J Q := tr_lload_n (m := 3) (by decide +kernel) rfl
theorem r56_78 : am_T d 56 78 ls (.long u1 :: .long u0 :: st) S I J Q = (u1 ≠ 0 ∧ am_T d 56 79 ls (.long (u0 / u1) :: st) S I J Q) := tr_ldiv (by decide +kernel)
theorem r56_79 : am_T d 56 79 ls (.long u0 :: .int x0 :: .ref a0 :: st) S I J Q = (am_ixw S a0 23 x0 ∧ am_T d 56 80 ls st S I (am_up J a0 x0.toNatClampNeg u0) Q) := tr_last (by decide +kernel)
theorem r56_80 : am_T d 56 80 [l0, l1, l2, l3, l4, l5, some (.int x0)] st S I J Q = am_T d 56 83 [l0, l1, l2, l3, l4, am_clr l5, some (.int (x0 + 1))] st S I J Q := tr_iinc (k := 6) (m := 1) (by decide +kernel) rfl (Nat.le_of_ble_eq_true rfl) (by decide) rfl
theorem r56_83 : am_T d 56 83 ls st S I J Q = am_T d 56 23 ls st S I J Q := tr_goto (o := -60) (by decide +kernel) rfl
theorem r56_86 : am_T d 56 86 [l0, l1, l2, l3, l4, some (.int x0), l6] st S I J Q = am_T d 56 89 [l0, l1, l2, l3, am_clr l4, some (.int (x0 + 1)), l6] st S I J Q := tr_iinc (k := 5) (m := 1) (by decide +kernel) rfl (Nat.le_of_ble_eq_true rfl) (by decide) rfl
theorem r56_89 : am_T d 56 89 ls st S I J Q = am_T d 56 12 ls st S I J Q := tr_goto (o := -77) (by decide +kernel) rfl
theorem r56_92 : am_T d 56 92 ls [] S I J Q = Q none S I J := tr_vret (by decide +kernel) (by decide +kernel)
end RU
