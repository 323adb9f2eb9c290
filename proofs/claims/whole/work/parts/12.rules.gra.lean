section RU
variable {d : Nat} {ls : am_L} {l0 l1 l2 l3 l4 l5 l6 l7 : Option Value} {st : List Value} {S : am_S} {I : am_I} {J : am_J} {Q : am_Q} {x0 x1 x2 x3 x4 x5 x10 x11 x12 x13 x14 x15 : Int32} {u0 u1 u2 u3 u10 u11 u12 u13 : Int64} {a0 a1 a2 a3 a4 a10 a11 a12 a13 a14 a15 : Nat}
-- 10 Gra.<init>()V; heads []
theorem e10 : am_C (d + 1) 10 [.ref a0] S I J Q = am_T d 10 0 [some (.ref a0)] [] S I J Q := tr_en (Nat.le_of_ble_eq_true rfl) rfl
theorem r10_0 : am_T d 10 0 [some (.ref a0)] st S I J Q = am_T d 10 1 [some (.ref a0)] (.ref a0 :: st) S I J Q := tr_aload_n (m := 0) (by decide +kernel) rfl
theorem r10_1 : am_T d 10 1 ls [.ref a0] S I J Q = am_T d 10 4 ls [] S I J Q := tr_oinit (k := 3) (by decide +kernel) (by decide +kernel) (Nat.le_of_ble_eq_true rfl)
theorem r10_4 : am_T d 10 4 [some (.ref a0)] st S I J Q = am_T d 10 5 [some (.ref a0)] (.ref a0 :: st) S I J Q := tr_aload_n (m := 0) (by decide +kernel) rfl
theorem r10_5 : am_T d 10 5 ls st S I J Q = am_T d 10 7 ls (.int 32 :: st) S I J Q := tr_bipush (m := 32) (by decide +kernel) (by decide)
theorem r10_7 : am_T d 10 7 ls (.int x0 :: st) S I J Q = ((0 ≤ x0.toInt ∧ x0.toInt < 10000) ∧ am_T d 10 9 ls (.ref S.length :: st) (S ++ [(20, x0.toNatClampNeg, fun _ => 0)]) (am_row I S.length (fun _ => 0)) (am_row J S.length (fun _ => 0)) Q) := tr_newa (t := .int) (by decide +kernel) (by decide)
theorem r10_9 : am_T d 10 9 ls (.ref a1 :: .ref a0 :: st) S I J Q = ((am_is S a0 1 ∧ a1 ≠ 0 ∧ a1 < S.length) ∧ am_T d 10 12 ls st (am_sr S a0 3 a1) I J Q) := tr_puta (k := 9) (by decide +kernel) (by decide +kernel) (by decide +kernel) (by decide +kernel)
theorem r10_12 : am_T d 10 12 [some (.ref a0)] st S I J Q = am_T d 10 13 [some (.ref a0)] (.ref a0 :: st) S I J Q := tr_aload_n (m := 0) (by decide +kernel) rfl
theorem r10_13 : am_T d 10 13 ls st S I J Q = am_T d 10 15 ls (.int 32 :: st) S I J Q := tr_bipush (m := 32) (by decide +kernel) (by decide)
theorem r10_15 : am_T d 10 15 ls (.int x0 :: st) S I J Q = ((0 ≤ x0.toInt ∧ x0.toInt < 10000) ∧ am_T d 10 17 ls (.ref S.length :: st) (S ++ [(20, x0.toNatClampNeg, fun _ => 0)]) (am_row I S.length (fun _ => 0)) (am_row J S.length (fun _ => 0)) Q) := tr_newa (t := .int) (by decide +kernel) (by decide)
theorem r10_17 : am_T d 10 17 ls (.ref a1 :: .ref a0 :: st) S I J Q = ((am_is S a0 1 ∧ a1 ≠ 0 ∧ a1 < S.length) ∧ am_T d 10 20 ls st (am_sr S a0 4 a1) I J Q) := tr_puta (k := 15) (by decide +kernel) (by decide +kernel) (by decide +kernel) (by decide +kernel)
theorem r10_20 : am_T d 10 20 [some (.ref a0)] st S I J Q = am_T d 10 21 [some (.ref a0)] (.ref a0 :: st) S I J Q := tr_aload_n (m := 0) (by decide +kernel) rfl
theorem r10_21 : am_T d 10 21 ls st S I J Q = am_T d 10 23 ls (.int 32 :: st) S I J Q := tr_bipush (m := 32) (by decide +kernel) (by decide)
theorem r10_23 : am_T d 10 23 ls (.int x0 :: st) S I J Q = ((0 ≤ x0.toInt ∧ x0.toInt < 10000) ∧ am_T d 10 25 ls (.ref S.length :: st) (S ++ [(20, x0.toNatClampNeg, fun _ => 0)]) (am_row I S.length (fun _ => 0)) (am_row J S.length (fun _ => 0)) Q) := tr_newa (t := .int) (by decide +kernel) (by decide)
theorem r10_25 : am_T d 10 25 ls (.ref a1 :: .ref a0 :: st) S I J Q = ((am_is S a0 1 ∧ a1 ≠ 0 ∧ a1 < S.length) ∧ am_T d 10 28 ls st (am_sr S a0 5 a1) I J Q) := tr_puta (k := 18) (by decide +kernel) (by decide +kernel) (by decide +kernel) (by decide +kernel)
theorem r10_28 : am_T d 10 28 [some (.ref a0)] st S I J Q = am_T d 10 29 [some (.ref a0)] (.ref a0 :: st) S I J Q := tr_aload_n (m := 0) (by decide +kernel) rfl
theorem r10_29 : am_T d 10 29 ls st S I J Q = am_T d 10 31 ls (.int 8 :: st) S I J Q := tr_bipush (m := 8) (by decide +kernel) (by decide)
theorem r10_31 : am_T d 10 31 ls (.int x0 :: st) S I J Q = ((0 ≤ x0.toInt ∧ x0.toInt < 10000) ∧ am_T d 10 33 ls (.ref S.length :: st) (S ++ [(20, x0.toNatClampNeg, fun _ => 0)]) (am_row I S.length (fun _ => 0)) (am_row J S.length (fun _ => 0)) Q) := tr_newa (t := .int) (by decide +kernel) (by decide)
theorem r10_33 : am_T d 10 33 ls (.ref a1 :: .ref a0 :: st) S I J Q = ((am_is S a0 1 ∧ a1 ≠ 0 ∧ a1 < S.length) ∧ am_T d 10 36 ls st (am_sr S a0 6 a1) I J Q) := tr_puta (k := 21) (by decide +kernel) (by decide +kernel) (by decide +kernel) (by decide +kernel)
theorem r10_36 : am_T d 10 36 [some (.ref a0)] st S I J Q = am_T d 10 37 [some (.ref a0)] (.ref a0 :: st) S I J Q := tr_aload_n (m := 0) (by decide +kernel) rfl
theorem r10_37 : am_T d 10 37 ls st S I J Q = am_T d 10 38 ls (.int 5 :: st) S I J Q := tr_iconst (m := 5) (by decide +kernel) (by decide)
theorem r10_38 : am_T d 10 38 ls st S I J Q = am_T d 10 39 ls (.int 0 :: st) S I J Q := tr_iconst (m := 0) (by decide +kernel) (by decide)
theorem r10_39 : am_T d 10 39 ls [.int x2, .int x1, .ref a0] S I J Q = (am_is S a0 1 ∧ am_C d 11 [.ref a0, .int x1, .int x2] S I J (fun r S I J => am_T d 10 42 ls (am_psh r []) S I J Q)) := tr_virt (k := 24) (by decide +kernel) (by decide +kernel) rfl rfl (Nat.le_of_ble_eq_true rfl) (by decide +kernel)
theorem r10_42 : am_T d 10 42 ls [] S I J Q = Q none S I J := tr_vret (by decide +kernel) (by decide +kernel)
-- 11 Gra.clear(II)V; heads [17]
theorem e11 : am_C (d + 1) 11 [.ref a0, .int x1, .int x2] S I J Q = am_T d 11 0 [some (.ref a0), some (.int x1), some (.int x2), none] [] S I J Q := tr_en (Nat.le_of_ble_eq_true rfl) rfl
theorem r11_0 : am_T d 11 0 [some (.ref a0), l1, l2, l3] st S I J Q = am_T d 11 1 [some (.ref a0), l1, l2, l3] (.ref a0 :: st) S I J Q := tr_aload_n (m := 0) (by decide +kernel) rfl
theorem r11_1 : am_T d 11 1 [l0, some (.int x0), l2, l3] st S I J Q = am_T d 11 2 [l0, some (.int x0), l2, l3] (.int x0 :: st) S I J Q := tr_iload_n (m := 1) (by decide +kernel) rfl
theorem r11_2 : am_T d 11 2 ls (.int x0 :: .ref a0 :: st) S I J Q = (am_is S a0 1 ∧ am_T d 11 5 ls st S (am_up I a0 0 x0) J Q) := tr_puti (k := 28) (by decide +kernel) (by decide +kernel) (by decide +kernel) (by decide +kernel)
theorem r11_5 : am_T d 11 5 [some (.ref a0), l1, l2, l3] st S I J Q = am_T d 11 6 [some (.ref a0), l1, l2, l3] (.ref a0 :: st) S I J Q := tr_aload_n (m := 0) (by decide +kernel) rfl
theorem r11_6 : am_T d 11 6 [l0, l1, some (.int x0), l3] st S I J Q = am_T d 11 7 [l0, l1, some (.int x0), l3] (.int x0 :: st) S I J Q := tr_iload_n (m := 2) (by decide +kernel) rfl
theorem r11_7 : am_T d 11 7 ls (.int x0 :: .ref a0 :: st) S I J Q = (am_is S a0 1 ∧ am_T d 11 10 ls st S (am_up I a0 1 x0) J Q) := tr_puti (k := 32) (by decide +kernel) (by decide +kernel) (by decide +kernel) (by decide +kernel)
theorem r11_10 : am_T d 11 10 [some (.ref a0), l1, l2, l3] st S I J Q = am_T d 11 11 [some (.ref a0), l1, l2, l3] (.ref a0 :: st) S I J Q := tr_aload_n (m := 0) (by decide +kernel) rfl
theorem r11_11 : am_T d 11 11 ls st S I J Q = am_T d 11 12 ls (.int 0 :: st) S I J Q := tr_iconst (m := 0) (by decide +kernel) (by decide)
theorem r11_12 : am_T d 11 12 ls (.int x0 :: .ref a0 :: st) S I J Q = (am_is S a0 1 ∧ am_T d 11 15 ls st S (am_up I a0 2 x0) J Q) := tr_puti (k := 35) (by decide +kernel) (by decide +kernel) (by decide +kernel) (by decide +kernel)
theorem r11_15 : am_T d 11 15 ls st S I J Q = am_T d 11 16 ls (.int 0 :: st) S I J Q := tr_iconst (m := 0) (by decide +kernel) (by decide)
theorem r11_16 : am_T d 11 16 [l0, l1, l2, l3] (.int x0 :: st) S I J Q = am_T d 11 17 [l0, l1, am_clr l2, some (.int x0)] st S I J Q := tr_istore_n (m := 3) (by decide +kernel) (Nat.le_of_ble_eq_true rfl) rfl
theorem r11_17 : am_T d 11 17 [l0, l1, l2, some (.int x0)] st S I J Q = am_T d 11 18 [l0, l1, l2, some (.int x0)] (.int x0 :: st) S I J Q := tr_iload_n (m := 3) (by decide +kernel) rfl
theorem r11_18 : am_T d 11 18 ls st S I J Q = am_T d 11 20 ls (.int 8 :: st) S I J Q := tr_bipush (m := 8) (by decide +kernel) (by decide)
theorem r11_20 : am_T d 11 20 ls (.int x1 :: .int x0 :: st) S I J Q = if x1 ≤ x0 then am_T d 11 37 ls st S I J Q else am_T d 11 23 ls st S I J Q := tr_icmpge (o := 17) (by decide +kernel) rfl
theorem r11_23 : am_T d 11 23 [some (.ref a0), l1, l2, l3] st S I J Q = am_T d 11 24 [some (.ref a0), l1, l2, l3] (.ref a0 :: st) S I J Q := tr_aload_n (m := 0) (by decide +kernel) rfl
theorem r11_24 : am_T d 11 24 ls (.ref a0 :: st) S I J Q = ((am_is S a0 1 ∧ am_rf S a0 6 ≠ 0) ∧ am_T d 11 27 ls (.ref (am_rf S a0 6) :: st) S I J Q) := tr_geta (k := 21) (by decide +kernel) (by decide +kernel) (by decide +kernel)
theorem r11_27 : am_T d 11 27 [l0, l1, l2, some (.int x0)] st S I J Q = am_T d 11 28 [l0, l1, l2, some (.int x0)] (.int x0 :: st) S I J Q := tr_iload_n (m := 3) (by decide +kernel) rfl
theorem r11_28 : am_T d 11 28 ls st S I J Q = am_T d 11 30 ls (.int 7 :: st) S I J Q := tr_bipush (m := 7) (by decide +kernel) (by decide)
theorem r11_30 : am_T d 11 30 ls (.int x1 :: .int x0 :: .ref a0 :: st) S I J Q = (am_ixw S a0 20 x0 ∧ am_T d 11 31 ls st S (am_up I a0 x0.toNatClampNeg x1) J Q) := tr_iast (by decide +kernel)
theorem r11_31 : am_T d 11 31 [l0, l1, l2, some (.int x0)] st S I J Q = am_T d 11 34 [l0, l1, am_clr l2, some (.int (x0 + 1))] st S I J Q := tr_iinc (k := 3) (m := 1) (by decide +kernel) rfl (Nat.le_of_ble_eq_true rfl) (by decide) rfl
theorem r11_34 : am_T d 11 34 ls st S I J Q = am_T d 11 17 ls st S I J Q := tr_goto (o := -17) (by decide +kernel) rfl
theorem r11_37 : am_T d 11 37 ls [] S I J Q = Q none S I J := tr_vret (by decide +kernel) (by decide +kernel)
-- 12 Gra.copyFrom(LArborescenceFinder$Graph;)V; heads []
theorem e12 : am_C (d + 1) 12 [.ref a0, .ref a1] S I J Q = am_T d 12 0 [some (.ref a0), some (.ref a1)] [] S I J Q := tr_en (Nat.le_of_ble_eq_true rfl) rfl
theorem r12_0 : am_T d 12 0 [some (.ref a0), l1] st S I J Q = am_T d 12 1 [some (.ref a0), l1] (.ref a0 :: st) S I J Q := tr_aload_n (m := 0) (by decide +kernel) rfl
theorem r12_1 : am_T d 12 1 [l0, some (.ref a0)] st S I J Q = am_T d 12 2 [l0, some (.ref a0)] (.ref a0 :: st) S I J Q := tr_aload_n (m := 1) (by decide +kernel) rfl
theorem r12_2 : am_T d 12 2 ls (.ref a0 :: st) S I J Q = (am_is S a0 1 ∧ am_T d 12 5 ls (.int (I a0 0) :: st) S I J Q) := tr_geti (k := 28) (by decide +kernel) (by decide +kernel) (Or.inl (by decide +kernel))
theorem r12_5 : am_T d 12 5 ls (.int x0 :: .ref a0 :: st) S I J Q = (am_is S a0 1 ∧ am_T d 12 8 ls st S (am_up I a0 0 x0) J Q) := tr_puti (k := 28) (by decide +kernel) (by decide +kernel) (by decide +kernel) (by decide +kernel)
theorem r12_8 : am_T d 12 8 [some (.ref a0), l1] st S I J Q = am_T d 12 9 [some (.ref a0), l1] (.ref a0 :: st) S I J Q := tr_aload_n (m := 0) (by decide +kernel) rfl
theorem r12_9 : am_T d 12 9 [l0, some (.ref a0)] st S I J Q = am_T d 12 10 [l0, some (.ref a0)] (.ref a0 :: st) S I J Q := tr_aload_n (m := 1) (by decide +kernel) rfl
theorem r12_10 : am_T d 12 10 ls (.ref a0 :: st) S I J Q = (am_is S a0 1 ∧ am_T d 12 13 ls (.int (I a0 1) :: st) S I J Q) := tr_geti (k := 32) (by decide +kernel) (by decide +kernel) (Or.inl (by decide +kernel))
theorem r12_13 : am_T d 12 13 ls (.int x0 :: .ref a0 :: st) S I J Q = (am_is S a0 1 ∧ am_T d 12 16 ls st S (am_up I a0 1 x0) J Q) := tr_puti (k := 32) (by decide +kernel) (by decide +kernel) (by decide +kernel) (by decide +kernel)
theorem r12_16 : am_T d 12 16 [some (.ref a0), l1] st S I J Q = am_T d 12 17 [some (.ref a0), l1] (.ref a0 :: st) S I J Q := tr_aload_n (m := 0) (by decide +kernel) rfl
theorem r12_17 : am_T d 12 17 [l0, some (.ref a0)] st S I J Q = am_T d 12 18 [l0, some (.ref a0)] (.ref a0 :: st) S I J Q := tr_aload_n (m := 1) (by decide +kernel) rfl
theorem r12_18 : am_T d 12 18 ls (.ref a0 :: st) S I J Q = (am_is S a0 1 ∧ am_T d 12 21 ls (.int (I a0 2) :: st) S I J Q) := tr_geti (k := 35) (by decide +kernel) (by decide +kernel) (Or.inl (by decide +kernel))
theorem r12_21 : am_T d 12 21 ls (.int x0 :: .ref a0 :: st) S I J Q = (am_is S a0 1 ∧ am_T d 12 24 ls st S (am_up I a0 2 x0) J Q) := tr_puti (k := 35) (by decide +kernel) (by decide +kernel) (by decide +kernel) (by decide +kernel)
theorem r12_24 : am_T d 12 24 [l0, some (.ref a0)] st S I J Q = am_T d 12 25 [l0, some (.ref a0)] (.ref a0 :: st) S I J Q := tr_aload_n (m := 1) (by decide +kernel) rfl
theorem r12_25 : am_T d 12 25 ls (.ref a0 :: st) S I J Q = ((am_is S a0 1 ∧ am_rf S a0 3 ≠ 0) ∧ am_T d 12 28 ls (.ref (am_rf S a0 3) :: st) S I J Q) := tr_geta (k := 9) (by decide +kernel) (by decide +kernel) (by decide +kernel)
theorem r12_28 : am_T d 12 28 ls st S I J Q = am_T d 12 29 ls (.int 0 :: st) S I J Q := tr_iconst (m := 0) (by decide +kernel) (by decide)
theorem r12_29 : am_T d 12 29 [some (.ref a0), l1] st S I J Q = am_T d 12 30 [some (.ref a0), l1] (.ref a0 :: st) S I J Q := tr_aload_n (m := 0) (by decide +kernel) rfl
theorem r12_30 : am_T d 12 30 ls (.ref a0 :: st) S I J Q = ((am_is S a0 1 ∧ am_rf S a0 3 ≠ 0) ∧ am_T d 12 33 ls (.ref (am_rf S a0 3) :: st) S I J Q) := tr_geta (k := 9) (by decide +kernel) (by decide +kernel) (by decide +kernel)
theorem r12_33 : am_T d 12 33 ls st S I J Q = am_T d 12 34 ls (.int 0 :: st) S I J Q := tr_iconst (m := 0) (by decide +kernel) (by decide)
theorem r12_34 : am_T d 12 34 ls st S I J Q = am_T d 12 36 ls (.int 32 :: st) S I J Q := tr_bipush (m := 32) (by decide +kernel) (by decide)
theorem r12_36 : am_T d 12 36 ls [.int x4, .int x3, .ref a2, .int x1, .ref a0] S I J Q = (am_cpy S a2 a0 x1 x3 x4 ∧ am_T d 12 39 ls [] S (am_row I a2 (va_cpy (I a0) (I a2) x1.toNatClampNeg x3.toNatClampNeg x4.toNatClampNeg)) J Q) := tr_copy (k := 38) (by decide +kernel) (by decide +kernel) (Nat.le_of_ble_eq_true rfl)
theorem r12_39 : am_T d 12 39 [l0, some (.ref a0)] st S I J Q = am_T d 12 40 [l0, some (.ref a0)] (.ref a0 :: st) S I J Q := tr_aload_n (m := 1) (by decide +kernel) rfl
theorem r12_40 : am_T d 12 40 ls (.ref a0 :: st) S I J Q = ((am_is S a0 1 ∧ am_rf S a0 4 ≠ 0) ∧ am_T d 12 43 ls (.ref (am_rf S a0 4) :: st) S I J Q) := tr_geta (k := 15) (by decide +kernel) (by decide +kernel) (by decide +kernel)
theorem r12_43 : am_T d 12 43 ls st S I J Q = am_T d 12 44 ls (.int 0 :: st) S I J Q := tr_iconst (m := 0) (by decide +kernel) (by decide)
theorem r12_44 : am_T d 12 44 [some (.ref a0), l1] st S I J Q = am_T d 12 45 [some (.ref a0), l1] (.ref a0 :: st) S I J Q := tr_aload_n (m := 0) (by decide +kernel) rfl
theorem r12_45 : am_T d 12 45 ls (.ref a0 :: st) S I J Q = ((am_is S a0 1 ∧ am_rf S a0 4 ≠ 0) ∧ am_T d 12 48 ls (.ref (am_rf S a0 4) :: st) S I J Q) := tr_geta (k := 15) (by decide +kernel) (by decide +kernel) (by decide +kernel)
theorem r12_48 : am_T d 12 48 ls st S I J Q = am_T d 12 49 ls (.int 0 :: st) S I J Q := tr_iconst (m := 0) (by decide +kernel) (by decide)
theorem r12_49 : am_T d 12 49 ls st S I J Q = am_T d 12 51 ls (.int 32 :: st) S I J Q := tr_bipush (m := 32) (by decide +kernel) (by decide)
theorem r12_51 : am_T d 12 51 ls [.int x4, .int x3, .ref a2, .int x1, .ref a0] S I J Q = (am_cpy S a2 a0 x1 x3 x4 ∧ am_T d 12 54 ls [] S (am_row I a2 (va_cpy (I a0) (I a2) x1.toNatClampNeg x3.toNatClampNeg x4.toNatClampNeg)) J Q) := tr_copy (k := 38) (by decide +kernel) (by decide +kernel) (Nat.le_of_ble_eq_true rfl)
theorem r12_54 : am_T d 12 54 [l0, some (.ref a0)] st S I J Q = am_T d 12 55 [l0, some (.ref a0)] (.ref a0 :: st) S I J Q := tr_aload_n (m := 1) (by decide +kernel) rfl
theorem r12_55 : am_T d 12 55 ls (.ref a0 :: st) S I J Q = ((am_is S a0 1 ∧ am_rf S a0 5 ≠ 0) ∧ am_T d 12 58 ls (.ref (am_rf S a0 5) :: st) S I J Q) := tr_geta (k := 18) (by decide +kernel) (by decide +kernel) (by decide +kernel)
theorem r12_58 : am_T d 12 58 ls st S I J Q = am_T d 12 59 ls (.int 0 :: st) S I J Q := tr_iconst (m := 0) (by decide +kernel) (by decide)
theorem r12_59 : am_T d 12 59 [some (.ref a0), l1] st S I J Q = am_T d 12 60 [some (.ref a0), l1] (.ref a0 :: st) S I J Q := tr_aload_n (m := 0) (by decide +kernel) rfl
theorem r12_60 : am_T d 12 60 ls (.ref a0 :: st) S I J Q = ((am_is S a0 1 ∧ am_rf S a0 5 ≠ 0) ∧ am_T d 12 63 ls (.ref (am_rf S a0 5) :: st) S I J Q) := tr_geta (k := 18) (by decide +kernel) (by decide +kernel) (by decide +kernel)
theorem r12_63 : am_T d 12 63 ls st S I J Q = am_T d 12 64 ls (.int 0 :: st) S I J Q := tr_iconst (m := 0) (by decide +kernel) (by decide)
theorem r12_64 : am_T d 12 64 ls st S I J Q = am_T d 12 66 ls (.int 32 :: st) S I J Q := tr_bipush (m := 32) (by decide +kernel) (by decide)
theorem r12_66 : am_T d 12 66 ls [.int x4, .int x3, .ref a2, .int x1, .ref a0] S I J Q = (am_cpy S a2 a0 x1 x3 x4 ∧ am_T d 12 69 ls [] S (am_row I a2 (va_cpy (I a0) (I a2) x1.toNatClampNeg x3.toNatClampNeg x4.toNatClampNeg)) J Q) := tr_copy (k := 38) (by decide +kernel) (by decide +kernel) (Nat.le_of_ble_eq_true rfl)
theorem r12_69 : am_T d 12 69 [l0, some (.ref a0)] st S I J Q = am_T d 12 70 [l0, some (.ref a0)] (.ref a0 :: st) S I J Q := tr_aload_n (m := 1) (by decide +kernel) rfl
theorem r12_70 : am_T d 12 70 ls (.ref a0 :: st) S I J Q = ((am_is S a0 1 ∧ am_rf S a0 6 ≠ 0) ∧ am_T d 12 73 ls (.ref (am_rf S a0 6) :: st) S I J Q) := tr_geta (k := 21) (by decide +kernel) (by decide +kernel) (by decide +kernel)
theorem r12_73 : am_T d 12 73 ls st S I J Q = am_T d 12 74 ls (.int 0 :: st) S I J Q := tr_iconst (m := 0) (by decide +kernel) (by decide)
theorem r12_74 : am_T d 12 74 [some (.ref a0), l1] st S I J Q = am_T d 12 75 [some (.ref a0), l1] (.ref a0 :: st) S I J Q := tr_aload_n (m := 0) (by decide +kernel) rfl
theorem r12_75 : am_T d 12 75 ls (.ref a0 :: st) S I J Q = ((am_is S a0 1 ∧ am_rf S a0 6 ≠ 0) ∧ am_T d 12 78 ls (.ref (am_rf S a0 6) :: st) S I J Q) := tr_geta (k := 21) (by decide +kernel) (by decide +kernel) (by decide +kernel)
theorem r12_78 : am_T d 12 78 ls st S I J Q = am_T d 12 79 ls (.int 0 :: st) S I J Q := tr_iconst (m := 0) (by decide +kernel) (by decide)
theorem r12_79 : am_T d 12 79 ls st S I J Q = am_T d 12 81 ls (.int 8 :: st) S I J Q := tr_bipush (m := 8) (by decide +kernel) (by decide)
theorem r12_81 : am_T d 12 81 ls [.int x4, .int x3, .ref a2, .int x1, .ref a0] S I J Q = (am_cpy S a2 a0 x1 x3 x4 ∧ am_T d 12 84 ls [] S (am_row I a2 (va_cpy (I a0) (I a2) x1.toNatClampNeg x3.toNatClampNeg x4.toNatClampNeg)) J Q) := tr_copy (k := 38) (by decide +kernel) (by decide +kernel) (Nat.le_of_ble_eq_true rfl)
theorem r12_84 : am_T d 12 84 ls [] S I J Q = Q none S I J := tr_vret (by decide +kernel) (by decide +kernel)
-- 13 Gra.hasNode(I)Z; heads []
theorem e13 : am_C (d + 1) 13 [.ref a0, .int x1] S I J Q = am_T d 13 0 [some (.ref a0), some (.int x1)] [] S I J Q := tr_en (Nat.le_of_ble_eq_true rfl) rfl
theorem r13_0 : am_T d 13 0 [l0, some (.int x0)] st S I J Q = am_T d 13 1 [l0, some (.int x0)] (.int x0 :: st) S I J Q := tr_iload_n (m := 1) (by decide +kernel) rfl
theorem r13_1 : am_T d 13 1 ls (.int x0 :: st) S I J Q = if x0 < 0 then am_T d 13 16 ls st S I J Q else am_T d 13 4 ls st S I J Q := tr_iflt (o := 15) (by decide +kernel) rfl
theorem r13_4 : am_T d 13 4 [l0, some (.int x0)] st S I J Q = am_T d 13 5 [l0, some (.int x0)] (.int x0 :: st) S I J Q := tr_iload_n (m := 1) (by decide +kernel) rfl
theorem r13_5 : am_T d 13 5 [some (.ref a0), l1] st S I J Q = am_T d 13 6 [some (.ref a0), l1] (.ref a0 :: st) S I J Q := tr_aload_n (m := 0) (by decide +kernel) rfl
theorem r13_6 : am_T d 13 6 ls (.ref a0 :: st) S I J Q = (am_is S a0 1 ∧ am_T d 13 9 ls (.int (I a0 0) :: st) S I J Q) := tr_geti (k := 28) (by decide +kernel) (by decide +kernel) (Or.inl (by decide +kernel))
theorem r13_9 : am_T d 13 9 ls (.int x1 :: .int x0 :: st) S I J Q = if x1 ≤ x0 then am_T d 13 16 ls st S I J Q else am_T d 13 12 ls st S I J Q := tr_icmpge (o := 7) (by decide +kernel) rfl
theorem r13_12 : am_T d 13 12 ls st S I J Q = am_T d 13 13 ls (.int 1 :: st) S I J Q := tr_iconst (m := 1) (by decide +kernel) (by decide)
theorem r13_13 : am_T d 13 13 ls st S I J Q = am_T d 13 17 ls st S I J Q := tr_goto (o := 4) (by decide +kernel) rfl
theorem r13_16 : am_T d 13 16 ls st S I J Q = am_T d 13 17 ls (.int 0 :: st) S I J Q := tr_iconst (m := 0) (by decide +kernel) (by decide)
theorem r13_17 : am_T d 13 17 ls [.int x0] S I J Q = ((x0 = 0 ∨ x0 = 1) ∧ Q (some (.int x0)) S I J) := tr_iretz (by decide +kernel) (by decide +kernel)
-- 14 Gra.hasArc(I)Z; heads []
theorem e14 : am_C (d + 1) 14 [.ref a0, .int x1] S I J Q = am_T d 14 0 [some (.ref a0), some (.int x1)] [] S I J Q := tr_en (Nat.le_of_ble_eq_true rfl) rfl
theorem r14_0 : am_T d 14 0 [l0, some (.int x0)] st S I J Q = am_T d 14 1 [l0, some (.int x0)] (.int x0 :: st) S I J Q := tr_iload_n (m := 1) (by decide +kernel) rfl
theorem r14_1 : am_T d 14 1 ls (.int x0 :: st) S I J Q = if x0 < 0 then am_T d 14 16 ls st S I J Q else am_T d 14 4 ls st S I J Q := tr_iflt (o := 15) (by decide +kernel) rfl
theorem r14_4 : am_T d 14 4 [l0, some (.int x0)] st S I J Q = am_T d 14 5 [l0, some (.int x0)] (.int x0 :: st) S I J Q := tr_iload_n (m := 1) (by decide +kernel) rfl
theorem r14_5 : am_T d 14 5 [some (.ref a0), l1] st S I J Q = am_T d 14 6 [some (.ref a0), l1] (.ref a0 :: st) S I J Q := tr_aload_n (m := 0) (by decide +kernel) rfl
theorem r14_6 : am_T d 14 6 ls (.ref a0 :: st) S I J Q = (am_is S a0 1 ∧ am_T d 14 9 ls (.int (I a0 2) :: st) S I J Q) := tr_geti (k := 35) (by decide +kernel) (by decide +kernel) (Or.inl (by decide +kernel))
theorem r14_9 : am_T d 14 9 ls (.int x1 :: .int x0 :: st) S I J Q = if x1 ≤ x0 then am_T d 14 16 ls st S I J Q else am_T d 14 12 ls st S I J Q := tr_icmpge (o := 7) (by decide +kernel) rfl
theorem r14_12 : am_T d 14 12 ls st S I J Q = am_T d 14 13 ls (.int 1 :: st) S I J Q := tr_iconst (m := 1) (by decide +kernel) (by decide)
theorem r14_13 : am_T d 14 13 ls st S I J Q = am_T d 14 17 ls st S I J Q := tr_goto (o := 4) (by decide +kernel) rfl
theorem r14_16 : am_T d 14 16 ls st S I J Q = am_T d 14 17 ls (.int 0 :: st) S I J Q := tr_iconst (m := 0) (by decide +kernel) (by decide)
theorem r14_17 : am_T d 14 17 ls [.int x0] S I J Q = ((x0 = 0 ∨ x0 = 1) ∧ Q (some (.int x0)) S I J) := tr_iretz (by decide +kernel) (by decide +kernel)
-- 15 Gra.append(III)V; heads []
theorem e15 : am_C (d + 1) 15 [.ref a0, .int x1, .int x2, .int x3] S I J Q = am_T d 15 0 [some (.ref a0), some (.int x1), some (.int x2), some (.int x3)] [] S I J Q := tr_en (Nat.le_of_ble_eq_true rfl) rfl
theorem r15_0 : am_T d 15 0 [some (.ref a0), l1, l2, l3] st S I J Q = am_T d 15 1 [some (.ref a0), l1, l2, l3] (.ref a0 :: st) S I J Q := tr_aload_n (m := 0) (by decide +kernel) rfl
theorem r15_1 : am_T d 15 1 ls (.ref a0 :: st) S I J Q = (am_is S a0 1 ∧ am_T d 15 4 ls (.int (I a0 2) :: st) S I J Q) := tr_geti (k := 35) (by decide +kernel) (by decide +kernel) (Or.inl (by decide +kernel))
theorem r15_4 : am_T d 15 4 ls st S I J Q = am_T d 15 6 ls (.int 32 :: st) S I J Q := tr_bipush (m := 32) (by decide +kernel) (by decide)
theorem r15_6 : am_T d 15 6 ls (.int x1 :: .int x0 :: st) S I J Q = if x0 < x1 then am_T d 15 10 ls st S I J Q else am_T d 15 9 ls st S I J Q := tr_icmplt (o := 4) (by decide +kernel) rfl
theorem r15_9 : am_T d 15 9 ls [] S I J Q = Q none S I J := tr_vret (by decide +kernel) (by decide +kernel)
theorem r15_10 : am_T d 15 10 [some (.ref a0), l1, l2, l3] st S I J Q = am_T d 15 11 [some (.ref a0), l1, l2, l3] (.ref a0 :: st) S I J Q := tr_aload_n (m := 0) (by decide +kernel) rfl
theorem r15_11 : am_T d 15 11 ls (.ref a0 :: st) S I J Q = ((am_is S a0 1 ∧ am_rf S a0 3 ≠ 0) ∧ am_T d 15 14 ls (.ref (am_rf S a0 3) :: st) S I J Q) := tr_geta (k := 9) (by decide +kernel) (by decide +kernel) (by decide +kernel)
theorem r15_14 : am_T d 15 14 [some (.ref a0), l1, l2, l3] st S I J Q = am_T d 15 15 [some (.ref a0), l1, l2, l3] (.ref a0 :: st) S I J Q := tr_aload_n (m := 0) (by decide +kernel) rfl
theorem r15_15 : am_T d 15 15 ls (.ref a0 :: st) S I J Q = (am_is S a0 1 ∧ am_T d 15 18 ls (.int (I a0 2) :: st) S I J Q) := tr_geti (k := 35) (by decide +kernel) (by decide +kernel) (Or.inl (by decide +kernel))
theorem r15_18 : am_T d 15 18 [l0, some (.int x0), l2, l3] st S I J Q = am_T d 15 19 [l0, some (.int x0), l2, l3] (.int x0 :: st) S I J Q := tr_iload_n (m := 1) (by decide +kernel) rfl
theorem r15_19 : am_T d 15 19 ls (.int x1 :: .int x0 :: .ref a0 :: st) S I J Q = (am_ixw S a0 20 x0 ∧ am_T d 15 20 ls st S (am_up I a0 x0.toNatClampNeg x1) J Q) := tr_iast (by decide +kernel)
theorem r15_20 : am_T d 15 20 [some (.ref a0), l1, l2, l3] st S I J Q = am_T d 15 21 [some (.ref a0), l1, l2, l3] (.ref a0 :: st) S I J Q := tr_aload_n (m := 0) (by decide +kernel) rfl
theorem r15_21 : am_T d 15 21 ls (.ref a0 :: st) S I J Q = ((am_is S a0 1 ∧ am_rf S a0 4 ≠ 0) ∧ am_T d 15 24 ls (.ref (am_rf S a0 4) :: st) S I J Q) := tr_geta (k := 15) (by decide +kernel) (by decide +kernel) (by decide +kernel)
theorem r15_24 : am_T d 15 24 [some (.ref a0), l1, l2, l3] st S I J Q = am_T d 15 25 [some (.ref a0), l1, l2, l3] (.ref a0 :: st) S I J Q := tr_aload_n (m := 0) (by decide +kernel) rfl
theorem r15_25 : am_T d 15 25 ls (.ref a0 :: st) S I J Q = (am_is S a0 1 ∧ am_T d 15 28 ls (.int (I a0 2) :: st) S I J Q) := tr_geti (k := 35) (by decide +kernel) (by decide +kernel) (Or.inl (by decide +kernel))
theorem r15_28 : am_T d 15 28 [l0, l1, some (.int x0), l3] st S I J Q = am_T d 15 29 [l0, l1, some (.int x0), l3] (.int x0 :: st) S I J Q := tr_iload_n (m := 2) (by decide +kernel) rfl
theorem r15_29 : am_T d 15 29 ls (.int x1 :: .int x0 :: .ref a0 :: st) S I J Q = (am_ixw S a0 20 x0 ∧ am_T d 15 30 ls st S (am_up I a0 x0.toNatClampNeg x1) J Q) := tr_iast (by decide +kernel)
theorem r15_30 : am_T d 15 30 [some (.ref a0), l1, l2, l3] st S I J Q = am_T d 15 31 [some (.ref a0), l1, l2, l3] (.ref a0 :: st) S I J Q := tr_aload_n (m := 0) (by decide +kernel) rfl
theorem r15_31 : am_T d 15 31 ls (.ref a0 :: st) S I J Q = ((am_is S a0 1 ∧ am_rf S a0 5 ≠ 0) ∧ am_T d 15 34 ls (.ref (am_rf S a0 5) :: st) S I J Q) := tr_geta (k := 18) (by decide +kernel) (by decide +kernel) (by decide +kernel)
theorem r15_34 : am_T d 15 34 [some (.ref a0), l1, l2, l3] st S I J Q = am_T d 15 35 [some (.ref a0), l1, l2, l3] (.ref a0 :: st) S I J Q := tr_aload_n (m := 0) (by decide +kernel) rfl
theorem r15_35 : am_T d 15 35 ls (.ref a0 :: st) S I J Q = (am_is S a0 1 ∧ am_T d 15 38 ls (.int (I a0 2) :: st) S I J Q) := tr_geti (k := 35) (by decide +kernel) (by decide +kernel) (Or.inl (by decide +kernel))
theorem r15_38 : am_T d 15 38 [l0, l1, l2, some (.int x0)] st S I J Q = am_T d 15 39 [l0, l1, l2, some (.int x0)] (.int x0 :: st) S I J Q := tr_iload_n (m := 3) (by decide +kernel) rfl
theorem r15_39 : am_T d 15 39 ls (.int x1 :: .int x0 :: .ref a0 :: st) S I J Q = (am_ixw S a0 20 x0 ∧ am_T d 15 40 ls st S (am_up I a0 x0.toNatClampNeg x1) J Q) := tr_iast (by decide +kernel)
theorem r15_40 : am_T d 15 40 [some (.ref a0), l1, l2, l3] st S I J Q = am_T d 15 41 [some (.ref a0), l1, l2, l3] (.ref a0 :: st) S I J Q := tr_aload_n (m := 0) (by decide +kernel) rfl
theorem r15_41 : am_T d 15 41 ls (.ref a0 :: st) S I J Q = am_T d 15 42 ls (.ref a0 :: .ref a0 :: st) S I J Q := tr_dupa (by decide +kernel)
theorem r15_42 : am_T d 15 42 ls (.ref a0 :: st) S I J Q = (am_is S a0 1 ∧ am_T d 15 45 ls (.int (I a0 2) :: st) S I J Q) := tr_geti (k := 35) (by decide +kernel) (by decide +kernel) (Or.inl (by decide +kernel))
theorem r15_45 : am_T d 15 45 ls st S I J Q = am_T d 15 46 ls (.int 1 :: st) S I J Q := tr_iconst (m := 1) (by decide +kernel) (by decide)
theorem r15_46 : am_T d 15 46 ls (.int x1 :: .int x0 :: st) S I J Q = am_T d 15 47 ls (.int (x0 + x1) :: st) S I J Q := tr_iadd (by decide +kernel)
theorem r15_47 : am_T d 15 47 ls (.int x0 :: .ref a0 :: st) S I J Q = (am_is S a0 1 ∧ am_T d 15 50 ls st S (am_up I a0 2 x0) J Q) := tr_puti (k := 35) (by decide +kernel) (by decide +kernel) (by decide +kernel) (by decide +kernel)
theorem r15_50 : am_T d 15 50 ls [] S I J Q = Q none S I J := tr_vret (by decide +kernel) (by decide +kernel)
-- 16 Gra.delete(I)V; heads [2]
theorem e16 : am_C (d + 1) 16 [.ref a0, .int x1] S I J Q = am_T d 16 0 [some (.ref a0), some (.int x1), none] [] S I J Q := tr_en (Nat.le_of_ble_eq_true rfl) rfl
theorem r16_0 : am_T d 16 0 [l0, some (.int x0), l2] st S I J Q = am_T d 16 1 [l0, some (.int x0), l2] (.int x0 :: st) S I J Q := tr_iload_n (m := 1) (by decide +kernel) rfl
theorem r16_1 : am_T d 16 1 [l0, l1, l2] (.int x0 :: st) S I J Q = am_T d 16 2 [l0, am_clr l1, some (.int x0)] st S I J Q := tr_istore_n (m := 2) (by decide +kernel) (Nat.le_of_ble_eq_true rfl) rfl
theorem r16_2 : am_T d 16 2 [l0, l1, some (.int x0)] st S I J Q = am_T d 16 3 [l0, l1, some (.int x0)] (.int x0 :: st) S I J Q := tr_iload_n (m := 2) (by decide +kernel) rfl
theorem r16_3 : am_T d 16 3 ls st S I J Q = am_T d 16 4 ls (.int 1 :: st) S I J Q := tr_iconst (m := 1) (by decide +kernel) (by decide)
theorem r16_4 : am_T d 16 4 ls (.int x1 :: .int x0 :: st) S I J Q = am_T d 16 5 ls (.int (x0 + x1) :: st) S I J Q := tr_iadd (by decide +kernel)
theorem r16_5 : am_T d 16 5 [some (.ref a0), l1, l2] st S I J Q = am_T d 16 6 [some (.ref a0), l1, l2] (.ref a0 :: st) S I J Q := tr_aload_n (m := 0) (by decide +kernel) rfl
theorem r16_6 : am_T d 16 6 ls (.ref a0 :: st) S I J Q = (am_is S a0 1 ∧ am_T d 16 9 ls (.int (I a0 2) :: st) S I J Q) := tr_geti (k := 35) (by decide +kernel) (by decide +kernel) (Or.inl (by decide +kernel))
theorem r16_9 : am_T d 16 9 ls (.int x1 :: .int x0 :: st) S I J Q = if x1 ≤ x0 then am_T d 16 60 ls st S I J Q else am_T d 16 12 ls st S I J Q := tr_icmpge (o := 51) (by decide +kernel) rfl
theorem r16_12 : am_T d 16 12 [some (.ref a0), l1, l2] st S I J Q = am_T d 16 13 [some (.ref a0), l1, l2] (.ref a0 :: st) S I J Q := tr_aload_n (m := 0) (by decide +kernel) rfl
theorem r16_13 : am_T d 16 13 ls (.ref a0 :: st) S I J Q = ((am_is S a0 1 ∧ am_rf S a0 3 ≠ 0) ∧ am_T d 16 16 ls (.ref (am_rf S a0 3) :: st) S I J Q) := tr_geta (k := 9) (by decide +kernel) (by decide +kernel) (by decide +kernel)
theorem r16_16 : am_T d 16 16 [l0, l1, some (.int x0)] st S I J Q = am_T d 16 17 [l0, l1, some (.int x0)] (.int x0 :: st) S I J Q := tr_iload_n (m := 2) (by decide +kernel) rfl
theorem r16_17 : am_T d 16 17 [some (.ref a0), l1, l2] st S I J Q = am_T d 16 18 [some (.ref a0), l1, l2] (.ref a0 :: st) S I J Q := tr_aload_n (m := 0) (by decide +kernel) rfl
theorem r16_18 : am_T d 16 18 ls (.ref a0 :: st) S I J Q = ((am_is S a0 1 ∧ am_rf S a0 3 ≠ 0) ∧ am_T d 16 21 ls (.ref (am_rf S a0 3) :: st) S I J Q) := tr_geta (k := 9) (by decide +kernel) (by decide +kernel) (by decide +kernel)
theorem r16_21 : am_T d 16 21 [l0, l1, some (.int x0)] st S I J Q = am_T d 16 22 [l0, l1, some (.int x0)] (.int x0 :: st) S I J Q := tr_iload_n (m := 2) (by decide +kernel) rfl
theorem r16_22 : am_T d 16 22 ls st S I J Q = am_T d 16 23 ls (.int 1 :: st) S I J Q := tr_iconst (m := 1) (by decide +kernel) (by decide)
theorem r16_23 : am_T d 16 23 ls (.int x1 :: .int x0 :: st) S I J Q = am_T d 16 24 ls (.int (x0 + x1) :: st) S I J Q := tr_iadd (by decide +kernel)
theorem r16_24 : am_T d 16 24 ls (.int x0 :: .ref a0 :: st) S I J Q = (am_ix S a0 20 x0 ∧ am_T d 16 25 ls (.int (I a0 x0.toNatClampNeg) :: st) S I J Q) := tr_iald (by decide +kernel)
theorem r16_25 : am_T d 16 25 ls (.int x1 :: .int x0 :: .ref a0 :: st) S I J Q = (am_ixw S a0 20 x0 ∧ am_T d 16 26 ls st S (am_up I a0 x0.toNatClampNeg x1) J Q) := tr_iast (by decide +kernel)
theorem r16_26 : am_T d 16 26 [some (.ref a0), l1, l2] st S I J Q = am_T d 16 27 [some (.ref a0), l1, l2] (.ref a0 :: st) S I J Q := tr_aload_n (m := 0) (by decide +kernel) rfl
theorem r16_27 : am_T d 16 27 ls (.ref a0 :: st) S I J Q = ((am_is S a0 1 ∧ am_rf S a0 4 ≠ 0) ∧ am_T d 16 30 ls (.ref (am_rf S a0 4) :: st) S I J Q) := tr_geta (k := 15) (by decide +kernel) (by decide +kernel) (by decide +kernel)
theorem r16_30 : am_T d 16 30 [l0, l1, some (.int x0)] st S I J Q = am_T d 16 31 [l0, l1, some (.int x0)] (.int x0 :: st) S I J Q := tr_iload_n (m := 2) (by decide +kernel) rfl
theorem r16_31 : am_T d 16 31 [some (.ref a0), l1, l2] st S I J Q = am_T d 16 32 [some (.ref a0), l1, l2] (.ref a0 :: st) S I J Q := tr_aload_n (m := 0) (by decide +kernel) rfl
theorem r16_32 : am_T d 16 32 ls (.ref a0 :: st) S I J Q = ((am_is S a0 1 ∧ am_rf S a0 4 ≠ 0) ∧ am_T d 16 35 ls (.ref (am_rf S a0 4) :: st) S I J Q) := tr_geta (k := 15) (by decide +kernel) (by decide +kernel) (by decide +kernel)
theorem r16_35 : am_T d 16 35 [l0, l1, some (.int x0)] st S I J Q = am_T d 16 36 [l0, l1, some (.int x0)] (.int x0 :: st) S I J Q := tr_iload_n (m := 2) (by decide +kernel) rfl
theorem r16_36 : am_T d 16 36 ls st S I J Q = am_T d 16 37 ls (.int 1 :: st) S I J Q := tr_iconst (m := 1) (by decide +kernel) (by decide)
theorem r16_37 : am_T d 16 37 ls (.int x1 :: .int x0 :: st) S I J Q = am_T d 16 38 ls (.int (x0 + x1) :: st) S I J Q := tr_iadd (by decide +kernel)
theorem r16_38 : am_T d 16 38 ls (.int x0 :: .ref a0 :: st) S I J Q = (am_ix S a0 20 x0 ∧ am_T d 16 39 ls (.int (I a0 x0.toNatClampNeg) :: st) S I J Q) := tr_iald (by decide +kernel)
theorem r16_39 : am_T d 16 39 ls (.int x1 :: .int x0 :: .ref a0 :: st) S I J Q = (am_ixw S a0 20 x0 ∧ am_T d 16 40 ls st S (am_up I a0 x0.toNatClampNeg x1) J Q) := tr_iast (by decide +kernel)
theorem r16_40 : am_T d 16 40 [some (.ref a0), l1, l2] st S I J Q = am_T d 16 41 [some (.ref a0), l1, l2] (.ref a0 :: st) S I J Q := tr_aload_n (m := 0) (by decide +kernel) rfl
theorem r16_41 : am_T d 16 41 ls (.ref a0 :: st) S I J Q = ((am_is S a0 1 ∧ am_rf S a0 5 ≠ 0) ∧ am_T d 16 44 ls (.ref (am_rf S a0 5) :: st) S I J Q) := tr_geta (k := 18) (by decide +kernel) (by decide +kernel) (by decide +kernel)
theorem r16_44 : am_T d 16 44 [l0, l1, some (.int x0)] st S I J Q = am_T d 16 45 [l0, l1, some (.int x0)] (.int x0 :: st) S I J Q := tr_iload_n (m := 2) (by decide +kernel) rfl
theorem r16_45 : am_T d 16 45 [some (.ref a0), l1, l2] st S I J Q = am_T d 16 46 [some (.ref a0), l1, l2] (.ref a0 :: st) S I J Q := tr_aload_n (m := 0) (by decide +kernel) rfl
theorem r16_46 : am_T d 16 46 ls (.ref a0 :: st) S I J Q = ((am_is S a0 1 ∧ am_rf S a0 5 ≠ 0) ∧ am_T d 16 49 ls (.ref (am_rf S a0 5) :: st) S I J Q) := tr_geta (k := 18) (by decide +kernel) (by decide +kernel) (by decide +kernel)
theorem r16_49 : am_T d 16 49 [l0, l1, some (.int x0)] st S I J Q = am_T d 16 50 [l0, l1, some (.int x0)] (.int x0 :: st) S I J Q := tr_iload_n (m := 2) (by decide +kernel) rfl
theorem r16_50 : am_T d 16 50 ls st S I J Q = am_T d 16 51 ls (.int 1 :: st) S I J Q := tr_iconst (m := 1) (by decide +kernel) (by decide)
theorem r16_51 : am_T d 16 51 ls (.int x1 :: .int x0 :: st) S I J Q = am_T d 16 52 ls (.int (x0 + x1) :: st) S I J Q := tr_iadd (by decide +kernel)
theorem r16_52 : am_T d 16 52 ls (.int x0 :: .ref a0 :: st) S I J Q = (am_ix S a0 20 x0 ∧ am_T d 16 53 ls (.int (I a0 x0.toNatClampNeg) :: st) S I J Q) := tr_iald (by decide +kernel)
theorem r16_53 : am_T d 16 53 ls (.int x1 :: .int x0 :: .ref a0 :: st) S I J Q = (am_ixw S a0 20 x0 ∧ am_T d 16 54 ls st S (am_up I a0 x0.toNatClampNeg x1) J Q) := tr_iast (by decide +kernel)
theorem r16_54 : am_T d 16 54 [l0, l1, some (.int x0)] st S I J Q = am_T d 16 57 [l0, am_clr l1, some (.int (x0 + 1))] st S I J Q := tr_iinc (k := 2) (m := 1) (by decide +kernel) rfl (Nat.le_of_ble_eq_true rfl) (by decide) rfl
theorem r16_57 : am_T d 16 57 ls st S I J Q = am_T d 16 2 ls st S I J Q := tr_goto (o := -55) (by decide +kernel) rfl
theorem r16_60 : am_T d 16 60 [some (.ref a0), l1, l2] st S I J Q = am_T d 16 61 [some (.ref a0), l1, l2] (.ref a0 :: st) S I J Q := tr_aload_n (m := 0) (by decide +kernel) rfl
theorem r16_61 : am_T d 16 61 ls (.ref a0 :: st) S I J Q = am_T d 16 62 ls (.ref a0 :: .ref a0 :: st) S I J Q := tr_dupa (by decide +kernel)
theorem r16_62 : am_T d 16 62 ls (.ref a0 :: st) S I J Q = (am_is S a0 1 ∧ am_T d 16 65 ls (.int (I a0 2) :: st) S I J Q) := tr_geti (k := 35) (by decide +kernel) (by decide +kernel) (Or.inl (by decide +kernel))
theorem r16_65 : am_T d 16 65 ls st S I J Q = am_T d 16 66 ls (.int 1 :: st) S I J Q := tr_iconst (m := 1) (by decide +kernel) (by decide)
theorem r16_66 : am_T d 16 66 ls (.int x1 :: .int x0 :: st) S I J Q = am_T d 16 67 ls (.int (x0 - x1) :: st) S I J Q := tr_isub (by decide +kernel)
theorem r16_67 : am_T d 16 67 ls (.int x0 :: .ref a0 :: st) S I J Q = (am_is S a0 1 ∧ am_T d 16 70 ls st S (am_up I a0 2 x0) J Q) := tr_puti (k := 35) (by decide +kernel) (by decide +kernel) (by decide +kernel) (by decide +kernel)
theorem r16_70 : am_T d 16 70 ls [] S I J Q = Q none S I J := tr_vret (by decide +kernel) (by decide +kernel)
-- 17 Gra.withoutRivals(I)I; heads [4]
theorem e17 : am_C (d + 1) 17 [.ref a0, .int x1] S I J Q = am_T d 17 0 [some (.ref a0), some (.int x1), none, none] [] S I J Q := tr_en (Nat.le_of_ble_eq_true rfl) rfl
theorem r17_0 : am_T d 17 0 ls st S I J Q = am_T d 17 1 ls (.int (-1) :: st) S I J Q := tr_iconst (m := -1) (by decide +kernel) (by decide)
theorem r17_1 : am_T d 17 1 [l0, l1, l2, l3] (.int x0 :: st) S I J Q = am_T d 17 2 [l0, am_clr l1, some (.int x0), l3] st S I J Q := tr_istore_n (m := 2) (by decide +kernel) (Nat.le_of_ble_eq_true rfl) rfl
theorem r17_2 : am_T d 17 2 ls st S I J Q = am_T d 17 3 ls (.int 0 :: st) S I J Q := tr_iconst (m := 0) (by decide +kernel) (by decide)
theorem r17_3 : am_T d 17 3 [l0, l1, l2, l3] (.int x0 :: st) S I J Q = am_T d 17 4 [l0, l1, am_clr l2, some (.int x0)] st S I J Q := tr_istore_n (m := 3) (by decide +kernel) (Nat.le_of_ble_eq_true rfl) rfl
theorem r17_4 : am_T d 17 4 [l0, l1, l2, some (.int x0)] st S I J Q = am_T d 17 5 [l0, l1, l2, some (.int x0)] (.int x0 :: st) S I J Q := tr_iload_n (m := 3) (by decide +kernel) rfl
theorem r17_5 : am_T d 17 5 [some (.ref a0), l1, l2, l3] st S I J Q = am_T d 17 6 [some (.ref a0), l1, l2, l3] (.ref a0 :: st) S I J Q := tr_aload_n (m := 0) (by decide +kernel) rfl
theorem r17_6 : am_T d 17 6 ls (.ref a0 :: st) S I J Q = (am_is S a0 1 ∧ am_T d 17 9 ls (.int (I a0 2) :: st) S I J Q) := tr_geti (k := 35) (by decide +kernel) (by decide +kernel) (Or.inl (by decide +kernel))
theorem r17_9 : am_T d 17 9 ls (.int x1 :: .int x0 :: st) S I J Q = if x1 ≤ x0 then am_T d 17 46 ls st S I J Q else am_T d 17 12 ls st S I J Q := tr_icmpge (o := 37) (by decide +kernel) rfl
theorem r17_12 : am_T d 17 12 [l0, l1, l2, some (.int x0)] st S I J Q = am_T d 17 13 [l0, l1, l2, some (.int x0)] (.int x0 :: st) S I J Q := tr_iload_n (m := 3) (by decide +kernel) rfl
theorem r17_13 : am_T d 17 13 [l0, some (.int x0), l2, l3] st S I J Q = am_T d 17 14 [l0, some (.int x0), l2, l3] (.int x0 :: st) S I J Q := tr_iload_n (m := 1) (by decide +kernel) rfl
theorem r17_14 : am_T d 17 14 ls (.int x1 :: .int x0 :: st) S I J Q = if x0 = x1 then am_T d 17 40 ls st S I J Q else am_T d 17 17 ls st S I J Q := tr_icmpeq (o := 26) (by decide +kernel) rfl
theorem r17_17 : am_T d 17 17 [some (.ref a0), l1, l2, l3] st S I J Q = am_T d 17 18 [some (.ref a0), l1, l2, l3] (.ref a0 :: st) S I J Q := tr_aload_n (m := 0) (by decide +kernel) rfl
theorem r17_18 : am_T d 17 18 ls (.ref a0 :: st) S I J Q = ((am_is S a0 1 ∧ am_rf S a0 4 ≠ 0) ∧ am_T d 17 21 ls (.ref (am_rf S a0 4) :: st) S I J Q) := tr_geta (k := 15) (by decide +kernel) (by decide +kernel) (by decide +kernel)
theorem r17_21 : am_T d 17 21 [l0, l1, l2, some (.int x0)] st S I J Q = am_T d 17 22 [l0, l1, l2, some (.int x0)] (.int x0 :: st) S I J Q := tr_iload_n (m := 3) (by decide +kernel) rfl
theorem r17_22 : am_T d 17 22 ls (.int x0 :: .ref a0 :: st) S I J Q = (am_ix S a0 20 x0 ∧ am_T d 17 23 ls (.int (I a0 x0.toNatClampNeg) :: st) S I J Q) := tr_iald (by decide +kernel)
theorem r17_23 : am_T d 17 23 [some (.ref a0), l1, l2, l3] st S I J Q = am_T d 17 24 [some (.ref a0), l1, l2, l3] (.ref a0 :: st) S I J Q := tr_aload_n (m := 0) (by decide +kernel) rfl
theorem r17_24 : am_T d 17 24 ls (.ref a0 :: st) S I J Q = ((am_is S a0 1 ∧ am_rf S a0 4 ≠ 0) ∧ am_T d 17 27 ls (.ref (am_rf S a0 4) :: st) S I J Q) := tr_geta (k := 15) (by decide +kernel) (by decide +kernel) (by decide +kernel)
theorem r17_27 : am_T d 17 27 [l0, some (.int x0), l2, l3] st S I J Q = am_T d 17 28 [l0, some (.int x0), l2, l3] (.int x0 :: st) S I J Q := tr_iload_n (m := 1) (by decide +kernel) rfl
theorem r17_28 : am_T d 17 28 ls (.int x0 :: .ref a0 :: st) S I J Q = (am_ix S a0 20 x0 ∧ am_T d 17 29 ls (.int (I a0 x0.toNatClampNeg) :: st) S I J Q) := tr_iald (by decide +kernel)
theorem r17_29 : am_T d 17 29 ls (.int x1 :: .int x0 :: st) S I J Q = if x0 = x1 then am_T d 17 32 ls st S I J Q else am_T d 17 40 ls st S I J Q := tr_icmpne (o := 11) (by decide +kernel) rfl
theorem r17_32 : am_T d 17 32 [l0, l1, some (.int x0), l3] st S I J Q = am_T d 17 33 [l0, l1, some (.int x0), l3] (.int x0 :: st) S I J Q := tr_iload_n (m := 2) (by decide +kernel) rfl
theorem r17_33 : am_T d 17 33 ls st S I J Q = am_T d 17 34 ls (.int 1 :: st) S I J Q := tr_iconst (m := 1) (by decide +kernel) (by decide)
theorem r17_34 : am_T d 17 34 [l0, l1, l2, some (.int x0)] st S I J Q = am_T d 17 35 [l0, l1, l2, some (.int x0)] (.int x0 :: st) S I J Q := tr_iload_n (m := 3) (by decide +kernel) rfl
theorem r17_35 : am_T d 17 35 ls (.int x1 :: .int x0 :: st) S I J Q = am_T d 17 36 ls (.int (x0 <<< (x1 &&& 31)) :: st) S I J Q := tr_ishl (by decide +kernel)
theorem r17_36 : am_T d 17 36 ls st S I J Q = am_T d 17 37 ls (.int (-1) :: st) S I J Q := tr_iconst (m := -1) (by decide +kernel) (by decide)
theorem r17_37 : am_T d 17 37 ls (.int x1 :: .int x0 :: st) S I J Q = am_T d 17 38 ls (.int (x0 ^^^ x1) :: st) S I J Q := tr_ixor (by decide +kernel)
theorem r17_38 : am_T d 17 38 ls (.int x1 :: .int x0 :: st) S I J Q = am_T d 17 39 ls (.int (x0 &&& x1) :: st) S I J Q := tr_iand (by decide +kernel)
theorem r17_39 : am_T d 17 39 [l0, l1, l2, l3] (.int x0 :: st) S I J Q = am_T d 17 40 [l0, am_clr l1, some (.int x0), l3] st S I J Q := tr_istore_n (m := 2) (by decide +kernel) (Nat.le_of_ble_eq_true rfl) rfl
theorem r17_40 : am_T d 17 40 [l0, l1, l2, some (.int x0)] st S I J Q = am_T d 17 43 [l0, l1, am_clr l2, some (.int (x0 + 1))] st S I J Q := tr_iinc (k := 3) (m := 1) (by decide +kernel) rfl (Nat.le_of_ble_eq_true rfl) (by decide) rfl
theorem r17_43 : am_T d 17 43 ls st S I J Q = am_T d 17 4 ls st S I J Q := tr_goto (o := -39) (by decide +kernel) rfl
theorem r17_46 : am_T d 17 46 [l0, l1, some (.int x0), l3] st S I J Q = am_T d 17 47 [l0, l1, some (.int x0), l3] (.int x0 :: st) S I J Q := tr_iload_n (m := 2) (by decide +kernel) rfl
theorem r17_47 : am_T d 17 47 ls [.int x0] S I J Q = Q (some (.int x0)) S I J := tr_ireti (by decide +kernel) (by decide +kernel)
-- 18 Gra.enters(II)Z; heads []
theorem e18 : am_C (d + 1) 18 [.ref a0, .int x1, .int x2] S I J Q = am_T d 18 0 [some (.ref a0), some (.int x1), some (.int x2)] [] S I J Q := tr_en (Nat.le_of_ble_eq_true rfl) rfl
theorem r18_0 : am_T d 18 0 [l0, l1, some (.int x0)] st S I J Q = am_T d 18 1 [l0, l1, some (.int x0)] (.int x0 :: st) S I J Q := tr_iload_n (m := 2) (by decide +kernel) rfl
theorem r18_1 : am_T d 18 1 [some (.ref a0), l1, l2] st S I J Q = am_T d 18 2 [some (.ref a0), l1, l2] (.ref a0 :: st) S I J Q := tr_aload_n (m := 0) (by decide +kernel) rfl
theorem r18_2 : am_T d 18 2 ls (.ref a0 :: st) S I J Q = ((am_is S a0 1 ∧ am_rf S a0 4 ≠ 0) ∧ am_T d 18 5 ls (.ref (am_rf S a0 4) :: st) S I J Q) := tr_geta (k := 15) (by decide +kernel) (by decide +kernel) (by decide +kernel)
theorem r18_5 : am_T d 18 5 [l0, some (.int x0), l2] st S I J Q = am_T d 18 6 [l0, some (.int x0), l2] (.int x0 :: st) S I J Q := tr_iload_n (m := 1) (by decide +kernel) rfl
theorem r18_6 : am_T d 18 6 ls (.int x0 :: .ref a0 :: st) S I J Q = (am_ix S a0 20 x0 ∧ am_T d 18 7 ls (.int (I a0 x0.toNatClampNeg) :: st) S I J Q) := tr_iald (by decide +kernel)
theorem r18_7 : am_T d 18 7 ls [.int x1, .int x0] S I J Q = am_C d 109 [.int x0, .int x1] S I J (fun r S I J => am_T d 18 10 ls (am_psh r []) S I J Q) := tr_stat (k := 44) (by decide +kernel) (Or.inr (by decide +kernel)) (Nat.le_of_ble_eq_true rfl) rfl rfl (Nat.le_of_ble_eq_true rfl)
theorem r18_10 : am_T d 18 10 ls (.int x0 :: st) S I J Q = if x0 = 0 then am_T d 18 30 ls st S I J Q else am_T d 18 13 ls st S I J Q := tr_ifeq (o := 20) (by decide +kernel) rfl
theorem r18_13 : am_T d 18 13 [l0, l1, some (.int x0)] st S I J Q = am_T d 18 14 [l0, l1, some (.int x0)] (.int x0 :: st) S I J Q := tr_iload_n (m := 2) (by decide +kernel) rfl
theorem r18_14 : am_T d 18 14 [some (.ref a0), l1, l2] st S I J Q = am_T d 18 15 [some (.ref a0), l1, l2] (.ref a0 :: st) S I J Q := tr_aload_n (m := 0) (by decide +kernel) rfl
theorem r18_15 : am_T d 18 15 ls (.ref a0 :: st) S I J Q = ((am_is S a0 1 ∧ am_rf S a0 3 ≠ 0) ∧ am_T d 18 18 ls (.ref (am_rf S a0 3) :: st) S I J Q) := tr_geta (k := 9) (by decide +kernel) (by decide +kernel) (by decide +kernel)
theorem r18_18 : am_T d 18 18 [l0, some (.int x0), l2] st S I J Q = am_T d 18 19 [l0, some (.int x0), l2] (.int x0 :: st) S I J Q := tr_iload_n (m := 1) (by decide +kernel) rfl
theorem r18_19 : am_T d 18 19 ls (.int x0 :: .ref a0 :: st) S I J Q = (am_ix S a0 20 x0 ∧ am_T d 18 20 ls (.int (I a0 x0.toNatClampNeg) :: st) S I J Q) := tr_iald (by decide +kernel)
theorem r18_20 : am_T d 18 20 ls [.int x1, .int x0] S I J Q = am_C d 109 [.int x0, .int x1] S I J (fun r S I J => am_T d 18 23 ls (am_psh r []) S I J Q) := tr_stat (k := 44) (by decide +kernel) (Or.inr (by decide +kernel)) (Nat.le_of_ble_eq_true rfl) rfl rfl (Nat.le_of_ble_eq_true rfl)
theorem r18_23 : am_T d 18 23 ls (.int x0 :: st) S I J Q = if x0 = 0 then am_T d 18 26 ls st S I J Q else am_T d 18 30 ls st S I J Q := tr_ifne (o := 7) (by decide +kernel) rfl
theorem r18_26 : am_T d 18 26 ls st S I J Q = am_T d 18 27 ls (.int 1 :: st) S I J Q := tr_iconst (m := 1) (by decide +kernel) (by decide)
theorem r18_27 : am_T d 18 27 ls st S I J Q = am_T d 18 31 ls st S I J Q := tr_goto (o := 4) (by decide +kernel) rfl
theorem r18_30 : am_T d 18 30 ls st S I J Q = am_T d 18 31 ls (.int 0 :: st) S I J Q := tr_iconst (m := 0) (by decide +kernel) (by decide)
theorem r18_31 : am_T d 18 31 ls [.int x0] S I J Q = ((x0 = 0 ∨ x0 = 1) ∧ Q (some (.int x0)) S I J) := tr_iretz (by decide +kernel) (by decide +kernel)
-- 19 Txt.<init>()V; heads []
theorem e19 : am_C (d + 1) 19 [.ref a0] S I J Q = am_T d 19 0 [some (.ref a0)] [] S I J Q := tr_en (Nat.le_of_ble_eq_true rfl) rfl
theorem r19_0 : am_T d 19 0 [some (.ref a0)] st S I J Q = am_T d 19 1 [some (.ref a0)] (.ref a0 :: st) S I J Q := tr_aload_n (m := 0) (by decide +kernel) rfl
theorem r19_1 : am_T d 19 1 ls [.ref a0] S I J Q = am_T d 19 4 ls [] S I J Q := tr_oinit (k := 3) (by decide +kernel) (by decide +kernel) (Nat.le_of_ble_eq_true rfl)
theorem r19_4 : am_T d 19 4 [some (.ref a0)] st S I J Q = am_T d 19 5 [some (.ref a0)] (.ref a0 :: st) S I J Q := tr_aload_n (m := 0) (by decide +kernel) rfl
theorem r19_5 : am_T d 19 5 ls st S I J Q = am_T d 19 8 ls (.int 300 :: st) S I J Q := tr_sipush (m := 300) (by decide +kernel) (by decide)
theorem r19_8 : am_T d 19 8 ls (.int x0 :: st) S I J Q = ((0 ≤ x0.toInt ∧ x0.toInt < 10000) ∧ am_T d 19 10 ls (.ref S.length :: st) (S ++ [(22, x0.toNatClampNeg, fun _ => 0)]) (am_row I S.length (fun _ => 0)) (am_row J S.length (fun _ => 0)) Q) := tr_newa (t := .char) (by decide +kernel) (by decide)
theorem r19_10 : am_T d 19 10 ls (.ref a1 :: .ref a0 :: st) S I J Q = ((am_is S a0 2 ∧ a1 ≠ 0 ∧ a1 < S.length) ∧ am_T d 19 13 ls st (am_sr S a0 2 a1) I J Q) := tr_puta (k := 9) (by decide +kernel) (by decide +kernel) (by decide +kernel) (by decide +kernel)
theorem r19_13 : am_T d 19 13 ls [] S I J Q = Q none S I J := tr_vret (by decide +kernel) (by decide +kernel)
-- 20 Txt.append(I)V; heads []
theorem e20 : am_C (d + 1) 20 [.ref a0, .int x1] S I J Q = am_T d 20 0 [some (.ref a0), some (.int x1)] [] S I J Q := tr_en (Nat.le_of_ble_eq_true rfl) rfl
theorem r20_0 : am_T d 20 0 [some (.ref a0), l1] st S I J Q = am_T d 20 1 [some (.ref a0), l1] (.ref a0 :: st) S I J Q := tr_aload_n (m := 0) (by decide +kernel) rfl
theorem r20_1 : am_T d 20 1 ls (.ref a0 :: st) S I J Q = (am_is S a0 2 ∧ am_T d 20 4 ls (.int (I a0 0) :: st) S I J Q) := tr_geti (k := 15) (by decide +kernel) (by decide +kernel) (Or.inl (by decide +kernel))
theorem r20_4 : am_T d 20 4 ls st S I J Q = am_T d 20 7 ls (.int 300 :: st) S I J Q := tr_sipush (m := 300) (by decide +kernel) (by decide)
theorem r20_7 : am_T d 20 7 ls (.int x1 :: .int x0 :: st) S I J Q = if x1 ≤ x0 then am_T d 20 31 ls st S I J Q else am_T d 20 10 ls st S I J Q := tr_icmpge (o := 24) (by decide +kernel) rfl
theorem r20_10 : am_T d 20 10 [some (.ref a0), l1] st S I J Q = am_T d 20 11 [some (.ref a0), l1] (.ref a0 :: st) S I J Q := tr_aload_n (m := 0) (by decide +kernel) rfl
theorem r20_11 : am_T d 20 11 ls (.ref a0 :: st) S I J Q = ((am_is S a0 2 ∧ am_rf S a0 2 ≠ 0) ∧ am_T d 20 14 ls (.ref (am_rf S a0 2) :: st) S I J Q) := tr_geta (k := 9) (by decide +kernel) (by decide +kernel) (by decide +kernel)
theorem r20_14 : am_T d 20 14 [some (.ref a0), l1] st S I J Q = am_T d 20 15 [some (.ref a0), l1] (.ref a0 :: st) S I J Q := tr_aload_n (m := 0) (by decide +kernel) rfl
theorem r20_15 : am_T d 20 15 ls (.ref a0 :: st) S I J Q = (am_is S a0 2 ∧ am_T d 20 18 ls (.int (I a0 0) :: st) S I J Q) := tr_geti (k := 15) (by decide +kernel) (by decide +kernel) (Or.inl (by decide +kernel))
theorem r20_18 : am_T d 20 18 [l0, some (.int x0)] st S I J Q = am_T d 20 19 [l0, some (.int x0)] (.int x0 :: st) S I J Q := tr_iload_n (m := 1) (by decide +kernel) rfl
theorem r20_19 : am_T d 20 19 ls (.int x0 :: st) S I J Q = am_T d 20 20 ls (.int (am_i2c x0) :: st) S I J Q := tr_i2c (by decide +kernel)
theorem r20_20 : am_T d 20 20 ls (.int x1 :: .int x0 :: .ref a0 :: st) S I J Q = ((am_ixw S a0 22 x0 ∧ am_i2c x1 = x1) ∧ am_T d 20 21 ls st S (am_up I a0 x0.toNatClampNeg x1) J Q) := tr_cast (by decide +kernel)
theorem r20_21 : am_T d 20 21 [some (.ref a0), l1] st S I J Q = am_T d 20 22 [some (.ref a0), l1] (.ref a0 :: st) S I J Q := tr_aload_n (m := 0) (by decide +kernel) rfl
theorem r20_22 : am_T d 20 22 ls (.ref a0 :: st) S I J Q = am_T d 20 23 ls (.ref a0 :: .ref a0 :: st) S I J Q := tr_dupa (by decide +kernel)
theorem r20_23 : am_T d 20 23 ls (.ref a0 :: st) S I J Q = (am_is S a0 2 ∧ am_T d 20 26 ls (.int (I a0 0) :: st) S I J Q) := tr_geti (k := 15) (by decide +kernel) (by decide +kernel) (Or.inl (by decide +kernel))
theorem r20_26 : am_T d 20 26 ls st S I J Q = am_T d 20 27 ls (.int 1 :: st) S I J Q := tr_iconst (m := 1) (by decide +kernel) (by decide)
theorem r20_27 : am_T d 20 27 ls (.int x1 :: .int x0 :: st) S I J Q = am_T d 20 28 ls (.int (x0 + x1) :: st) S I J Q := tr_iadd (by decide +kernel)
theorem r20_28 : am_T d 20 28 ls (.int x0 :: .ref a0 :: st) S I J Q = (am_is S a0 2 ∧ am_T d 20 31 ls st S (am_up I a0 0 x0) J Q) := tr_puti (k := 15) (by decide +kernel) (by decide +kernel) (by decide +kernel) (by decide +kernel)
theorem r20_31 : am_T d 20 31 ls [] S I J Q = Q none S I J := tr_vret (by decide +kernel) (by decide +kernel)
-- 21 Txt.readInto(LArborescenceFinder$Graph;)Z; heads [54]
theorem e21 : am_C (d + 1) 21 [.ref a0, .ref a1] S I J Q = am_T d 21 0 [some (.ref a0), some (.ref a1), none, none, none] [] S I J Q := tr_en (Nat.le_of_ble_eq_true rfl) rfl
theorem r21_0 : am_T d 21 0 [some (.ref a0), l1, l2, l3, l4] st S I J Q = am_T d 21 1 [some (.ref a0), l1, l2, l3, l4] (.ref a0 :: st) S I J Q := tr_aload_n (m := 0) (by decide +kernel) rfl
theorem r21_1 : am_T d 21 1 ls st S I J Q = am_T d 21 2 ls (.int 0 :: st) S I J Q := tr_iconst (m := 0) (by decide +kernel) (by decide)
theorem r21_2 : am_T d 21 2 ls (.int x0 :: .ref a0 :: st) S I J Q = (am_is S a0 2 ∧ am_T d 21 5 ls st S (am_up I a0 1 x0) J Q) := tr_puti (k := 19) (by decide +kernel) (by decide +kernel) (by decide +kernel) (by decide +kernel)
theorem r21_5 : am_T d 21 5 [some (.ref a0), l1, l2, l3, l4] st S I J Q = am_T d 21 6 [some (.ref a0), l1, l2, l3, l4] (.ref a0 :: st) S I J Q := tr_aload_n (m := 0) (by decide +kernel) rfl
theorem r21_6 : am_T d 21 6 ls st S I J Q = am_T d 21 7 ls (.int 2 :: st) S I J Q := tr_iconst (m := 2) (by decide +kernel) (by decide)
theorem r21_7 : am_T d 21 7 ls st S I J Q = am_T d 21 9 ls (.int 8 :: st) S I J Q := tr_bipush (m := 8) (by decide +kernel) (by decide)
theorem r21_9 : am_T d 21 9 ls [.int x2, .int x1, .ref a0] S I J Q = (am_is S a0 2 ∧ am_C d 25 [.ref a0, .int x1, .int x2] S I J (fun r S I J => am_T d 21 12 ls (am_psh r []) S I J Q)) := tr_virt (k := 22) (by decide +kernel) (by decide +kernel) rfl rfl (Nat.le_of_ble_eq_true rfl) (by decide +kernel)
theorem r21_12 : am_T d 21 12 [l0, l1, l2, l3, l4] (.int x0 :: st) S I J Q = am_T d 21 13 [l0, am_clr l1, some (.int x0), l3, l4] st S I J Q := tr_istore_n (m := 2) (by decide +kernel) (Nat.le_of_ble_eq_true rfl) rfl
theorem r21_13 : am_T d 21 13 [l0, l1, some (.int x0), l3, l4] st S I J Q = am_T d 21 14 [l0, l1, some (.int x0), l3, l4] (.int x0 :: st) S I J Q := tr_iload_n (m := 2) (by decide +kernel) rfl
theorem r21_14 : am_T d 21 14 ls st S I J Q = am_T d 21 15 ls (.int (-1) :: st) S I J Q := tr_iconst (m := -1) (by decide +kernel) (by decide)
theorem r21_15 : am_T d 21 15 ls (.int x1 :: .int x0 :: st) S I J Q = if x0 = x1 then am_T d 21 27 ls st S I J Q else am_T d 21 18 ls st S I J Q := tr_icmpeq (o := 12) (by decide +kernel) rfl
theorem r21_18 : am_T d 21 18 [some (.ref a0), l1, l2, l3, l4] st S I J Q = am_T d 21 19 [some (.ref a0), l1, l2, l3, l4] (.ref a0 :: st) S I J Q := tr_aload_n (m := 0) (by decide +kernel) rfl
theorem r21_19 : am_T d 21 19 ls st S I J Q = am_T d 21 21 ls (.int 47 :: st) S I J Q := tr_bipush (m := 47) (by decide +kernel) (by decide)
theorem r21_21 : am_T d 21 21 ls [.int x1, .ref a0] S I J Q = (am_is S a0 2 ∧ am_C d 24 [.ref a0, .int x1] S I J (fun r S I J => am_T d 21 24 ls (am_psh r []) S I J Q)) := tr_virt (k := 26) (by decide +kernel) (by decide +kernel) rfl rfl (Nat.le_of_ble_eq_true rfl) (by decide +kernel)
theorem r21_24 : am_T d 21 24 ls (.int x0 :: st) S I J Q = if x0 = 0 then am_T d 21 27 ls st S I J Q else am_T d 21 29 ls st S I J Q := tr_ifne (o := 5) (by decide +kernel) rfl
theorem r21_27 : am_T d 21 27 ls st S I J Q = am_T d 21 28 ls (.int 0 :: st) S I J Q := tr_iconst (m := 0) (by decide +kernel) (by decide)
theorem r21_28 : am_T d 21 28 ls [.int x0] S I J Q = ((x0 = 0 ∨ x0 = 1) ∧ Q (some (.int x0)) S I J) := tr_iretz (by decide +kernel) (by decide +kernel)
theorem r21_29 : am_T d 21 29 [some (.ref a0), l1, l2, l3, l4] st S I J Q = am_T d 21 30 [some (.ref a0), l1, l2, l3, l4] (.ref a0 :: st) S I J Q := tr_aload_n (m := 0) (by decide +kernel) rfl
theorem r21_30 : am_T d 21 30 ls st S I J Q = am_T d 21 31 ls (.int 0 :: st) S I J Q := tr_iconst (m := 0) (by decide +kernel) (by decide)
theorem r21_31 : am_T d 21 31 [l0, l1, some (.int x0), l3, l4] st S I J Q = am_T d 21 32 [l0, l1, some (.int x0), l3, l4] (.int x0 :: st) S I J Q := tr_iload_n (m := 2) (by decide +kernel) rfl
theorem r21_32 : am_T d 21 32 ls st S I J Q = am_T d 21 33 ls (.int 1 :: st) S I J Q := tr_iconst (m := 1) (by decide +kernel) (by decide)
theorem r21_33 : am_T d 21 33 ls (.int x1 :: .int x0 :: st) S I J Q = am_T d 21 34 ls (.int (x0 - x1) :: st) S I J Q := tr_isub (by decide +kernel)
theorem r21_34 : am_T d 21 34 ls [.int x2, .int x1, .ref a0] S I J Q = (am_is S a0 2 ∧ am_C d 25 [.ref a0, .int x1, .int x2] S I J (fun r S I J => am_T d 21 37 ls (am_psh r []) S I J Q)) := tr_virt (k := 22) (by decide +kernel) (by decide +kernel) rfl rfl (Nat.le_of_ble_eq_true rfl) (by decide +kernel)
theorem r21_37 : am_T d 21 37 [l0, l1, l2, l3, l4] (.int x0 :: st) S I J Q = am_T d 21 38 [l0, l1, am_clr l2, some (.int x0), l4] st S I J Q := tr_istore_n (m := 3) (by decide +kernel) (Nat.le_of_ble_eq_true rfl) rfl
theorem r21_38 : am_T d 21 38 [l0, l1, l2, some (.int x0), l4] st S I J Q = am_T d 21 39 [l0, l1, l2, some (.int x0), l4] (.int x0 :: st) S I J Q := tr_iload_n (m := 3) (by decide +kernel) rfl
theorem r21_39 : am_T d 21 39 ls st S I J Q = am_T d 21 40 ls (.int (-1) :: st) S I J Q := tr_iconst (m := -1) (by decide +kernel) (by decide)
theorem r21_40 : am_T d 21 40 ls (.int x1 :: .int x0 :: st) S I J Q = if x0 = x1 then am_T d 21 43 ls st S I J Q else am_T d 21 45 ls st S I J Q := tr_icmpne (o := 5) (by decide +kernel) rfl
theorem r21_43 : am_T d 21 43 ls st S I J Q = am_T d 21 44 ls (.int 0 :: st) S I J Q := tr_iconst (m := 0) (by decide +kernel) (by decide)
theorem r21_44 : am_T d 21 44 ls [.int x0] S I J Q = ((x0 = 0 ∨ x0 = 1) ∧ Q (some (.int x0)) S I J) := tr_iretz (by decide +kernel) (by decide +kernel)
theorem r21_45 : am_T d 21 45 [l0, some (.ref a0), l2, l3, l4] st S I J Q = am_T d 21 46 [l0, some (.ref a0), l2, l3, l4] (.ref a0 :: st) S I J Q := tr_aload_n (m := 1) (by decide +kernel) rfl
theorem r21_46 : am_T d 21 46 [l0, l1, some (.int x0), l3, l4] st S I J Q = am_T d 21 47 [l0, l1, some (.int x0), l3, l4] (.int x0 :: st) S I J Q := tr_iload_n (m := 2) (by decide +kernel) rfl
theorem r21_47 : am_T d 21 47 [l0, l1, l2, some (.int x0), l4] st S I J Q = am_T d 21 48 [l0, l1, l2, some (.int x0), l4] (.int x0 :: st) S I J Q := tr_iload_n (m := 3) (by decide +kernel) rfl
theorem r21_48 : am_T d 21 48 ls [.int x2, .int x1, .ref a0] S I J Q = (am_is S a0 1 ∧ am_C d 11 [.ref a0, .int x1, .int x2] S I J (fun r S I J => am_T d 21 51 ls (am_psh r []) S I J Q)) := tr_virt (k := 30) (by decide +kernel) (by decide +kernel) rfl rfl (Nat.le_of_ble_eq_true rfl) (by decide +kernel)
theorem r21_51 : am_T d 21 51 ls st S I J Q = am_T d 21 52 ls (.int 0 :: st) S I J Q := tr_iconst (m := 0) (by decide +kernel) (by decide)
theorem r21_52 : am_T d 21 52 [l0, l1, l2, l3, l4] (.int x0 :: st) S I J Q = am_T d 21 54 [l0, l1, l2, am_clr l3, some (.int x0)] st S I J Q := tr_istore (k := 4) (by decide +kernel) (Nat.le_of_ble_eq_true rfl) rfl
theorem r21_54 : am_T d 21 54 [l0, l1, l2, l3, some (.int x0)] st S I J Q = am_T d 21 56 [l0, l1, l2, l3, some (.int x0)] (.int x0 :: st) S I J Q := tr_iload (k := 4) (by decide +kernel) rfl
theorem r21_56 : am_T d 21 56 ls st S I J Q = am_T d 21 58 ls (.int 32 :: st) S I J Q := tr_bipush (m := 32) (by decide +kernel) (by decide)
theorem r21_58 : am_T d 21 58 ls (.int x1 :: .int x0 :: st) S I J Q = if x1 < x0 then am_T d 21 97 ls st S I J Q else am_T d 21 61 ls st S I J Q := tr_icmpgt (o := 39) (by decide +kernel) rfl
theorem r21_61 : am_T d 21 61 [some (.ref a0), l1, l2, l3, l4] st S I J Q = am_T d 21 62 [some (.ref a0), l1, l2, l3, l4] (.ref a0 :: st) S I J Q := tr_aload_n (m := 0) (by decide +kernel) rfl
theorem r21_62 : am_T d 21 62 ls (.ref a0 :: st) S I J Q = (am_is S a0 2 ∧ am_T d 21 65 ls (.int (I a0 1) :: st) S I J Q) := tr_geti (k := 19) (by decide +kernel) (by decide +kernel) (Or.inl (by decide +kernel))
theorem r21_65 : am_T d 21 65 [some (.ref a0), l1, l2, l3, l4] st S I J Q = am_T d 21 66 [some (.ref a0), l1, l2, l3, l4] (.ref a0 :: st) S I J Q := tr_aload_n (m := 0) (by decide +kernel) rfl
theorem r21_66 : am_T d 21 66 ls (.ref a0 :: st) S I J Q = (am_is S a0 2 ∧ am_T d 21 69 ls (.int (I a0 0) :: st) S I J Q) := tr_geti (k := 15) (by decide +kernel) (by decide +kernel) (Or.inl (by decide +kernel))
theorem r21_69 : am_T d 21 69 ls (.int x1 :: .int x0 :: st) S I J Q = if x1 ≤ x0 then am_T d 21 97 ls st S I J Q else am_T d 21 72 ls st S I J Q := tr_icmpge (o := 28) (by decide +kernel) rfl
theorem r21_72 : am_T d 21 72 [l0, some (.ref a0), l2, l3, l4] st S I J Q = am_T d 21 73 [l0, some (.ref a0), l2, l3, l4] (.ref a0 :: st) S I J Q := tr_aload_n (m := 1) (by decide +kernel) rfl
theorem r21_73 : am_T d 21 73 ls (.ref a0 :: st) S I J Q = (am_is S a0 1 ∧ am_T d 21 76 ls (.int (I a0 2) :: st) S I J Q) := tr_geti (k := 36) (by decide +kernel) (by decide +kernel) (Or.inl (by decide +kernel))
theorem r21_76 : am_T d 21 76 ls st S I J Q = am_T d 21 78 ls (.int 32 :: st) S I J Q := tr_bipush (m := 32) (by decide +kernel) (by decide)
theorem r21_78 : am_T d 21 78 ls (.int x1 :: .int x0 :: st) S I J Q = if x1 ≤ x0 then am_T d 21 89 ls st S I J Q else am_T d 21 81 ls st S I J Q := tr_icmpge (o := 11) (by decide +kernel) rfl
theorem r21_81 : am_T d 21 81 [some (.ref a0), l1, l2, l3, l4] st S I J Q = am_T d 21 82 [some (.ref a0), l1, l2, l3, l4] (.ref a0 :: st) S I J Q := tr_aload_n (m := 0) (by decide +kernel) rfl
theorem r21_82 : am_T d 21 82 [l0, some (.ref a0), l2, l3, l4] st S I J Q = am_T d 21 83 [l0, some (.ref a0), l2, l3, l4] (.ref a0 :: st) S I J Q := tr_aload_n (m := 1) (by decide +kernel) rfl
theorem r21_83 : am_T d 21 83 ls [.ref a1, .ref a0] S I J Q = (am_is S a0 2 ∧ am_C d 22 [.ref a0, .ref a1] S I J (fun r S I J => am_T d 21 86 ls (am_psh r []) S I J Q)) := tr_virt (k := 39) (by decide +kernel) (by decide +kernel) rfl rfl (Nat.le_of_ble_eq_true rfl) (by decide +kernel)
theorem r21_86 : am_T d 21 86 ls (.int x0 :: st) S I J Q = if x0 = 0 then am_T d 21 89 ls st S I J Q else am_T d 21 91 ls st S I J Q := tr_ifne (o := 5) (by decide +kernel) rfl
theorem r21_89 : am_T d 21 89 ls st S I J Q = am_T d 21 90 ls (.int 0 :: st) S I J Q := tr_iconst (m := 0) (by decide +kernel) (by decide)
theorem r21_90 : am_T d 21 90 ls [.int x0] S I J Q = ((x0 = 0 ∨ x0 = 1) ∧ Q (some (.int x0)) S I J) := tr_iretz (by decide +kernel) (by decide +kernel)
theorem r21_91 : am_T d 21 91 [l0, l1, l2, l3, some (.int x0)] st S I J Q = am_T d 21 94 [l0, l1, l2, am_clr l3, some (.int (x0 + 1))] st S I J Q := tr_iinc (k := 4) (m := 1) (by decide +kernel) rfl (Nat.le_of_ble_eq_true rfl) (by decide) rfl
theorem r21_94 : am_T d 21 94 ls st S I J Q = am_T d 21 54 ls st S I J Q := tr_goto (o := -40) (by decide +kernel) rfl
theorem r21_97 : am_T d 21 97 ls st S I J Q = am_T d 21 98 ls (.int 1 :: st) S I J Q := tr_iconst (m := 1) (by decide +kernel) (by decide)
theorem r21_98 : am_T d 21 98 ls [.int x0] S I J Q = ((x0 = 0 ∨ x0 = 1) ∧ Q (some (.int x0)) S I J) := tr_iretz (by decide +kernel) (by decide +kernel)
-- 22 Txt.readArc(LArborescenceFinder$Graph;)Z; heads []
theorem e22 : am_C (d + 1) 22 [.ref a0, .ref a1] S I J Q = am_T d 22 0 [some (.ref a0), some (.ref a1), none, none, none, none] [] S I J Q := tr_en (Nat.le_of_ble_eq_true rfl) rfl
theorem r22_0 : am_T d 22 0 [some (.ref a0), l1, l2, l3, l4, l5] st S I J Q = am_T d 22 1 [some (.ref a0), l1, l2, l3, l4, l5] (.ref a0 :: st) S I J Q := tr_aload_n (m := 0) (by decide +kernel) rfl
theorem r22_1 : am_T d 22 1 ls st S I J Q = am_T d 22 3 ls (.int 44 :: st) S I J Q := tr_bipush (m := 44) (by decide +kernel) (by decide)
theorem r22_3 : am_T d 22 3 ls [.int x1, .ref a0] S I J Q = (am_is S a0 2 ∧ am_C d 24 [.ref a0, .int x1] S I J (fun r S I J => am_T d 22 6 ls (am_psh r []) S I J Q)) := tr_virt (k := 26) (by decide +kernel) (by decide +kernel) rfl rfl (Nat.le_of_ble_eq_true rfl) (by decide +kernel)
theorem r22_6 : am_T d 22 6 ls (.int x0 :: st) S I J Q = if x0 = 0 then am_T d 22 9 ls st S I J Q else am_T d 22 11 ls st S I J Q := tr_ifne (o := 5) (by decide +kernel) rfl
theorem r22_9 : am_T d 22 9 ls st S I J Q = am_T d 22 10 ls (.int 0 :: st) S I J Q := tr_iconst (m := 0) (by decide +kernel) (by decide)
theorem r22_10 : am_T d 22 10 ls [.int x0] S I J Q = ((x0 = 0 ∨ x0 = 1) ∧ Q (some (.int x0)) S I J) := tr_iretz (by decide +kernel) (by decide +kernel)
theorem r22_11 : am_T d 22 11 [some (.ref a0), l1, l2, l3, l4, l5] st S I J Q = am_T d 22 12 [some (.ref a0), l1, l2, l3, l4, l5] (.ref a0 :: st) S I J Q := tr_aload_n (m := 0) (by decide +kernel) rfl
theorem r22_12 : am_T d 22 12 ls st S I J Q = am_T d 22 13 ls (.int 0 :: st) S I J Q := tr_iconst (m := 0) (by decide +kernel) (by decide)
theorem r22_13 : am_T d 22 13 [l0, some (.ref a0), l2, l3, l4, l5] st S I J Q = am_T d 22 14 [l0, some (.ref a0), l2, l3, l4, l5] (.ref a0 :: st) S I J Q := tr_aload_n (m := 1) (by decide +kernel) rfl
theorem r22_14 : am_T d 22 14 ls (.ref a0 :: st) S I J Q = (am_is S a0 1 ∧ am_T d 22 17 ls (.int (I a0 0) :: st) S I J Q) := tr_geti (k := 43) (by decide +kernel) (by decide +kernel) (Or.inl (by decide +kernel))
theorem r22_17 : am_T d 22 17 ls st S I J Q = am_T d 22 18 ls (.int 1 :: st) S I J Q := tr_iconst (m := 1) (by decide +kernel) (by decide)
theorem r22_18 : am_T d 22 18 ls (.int x1 :: .int x0 :: st) S I J Q = am_T d 22 19 ls (.int (x0 - x1) :: st) S I J Q := tr_isub (by decide +kernel)
theorem r22_19 : am_T d 22 19 ls [.int x2, .int x1, .ref a0] S I J Q = (am_is S a0 2 ∧ am_C d 25 [.ref a0, .int x1, .int x2] S I J (fun r S I J => am_T d 22 22 ls (am_psh r []) S I J Q)) := tr_virt (k := 22) (by decide +kernel) (by decide +kernel) rfl rfl (Nat.le_of_ble_eq_true rfl) (by decide +kernel)
theorem r22_22 : am_T d 22 22 [l0, l1, l2, l3, l4, l5] (.int x0 :: st) S I J Q = am_T d 22 23 [l0, am_clr l1, some (.int x0), l3, l4, l5] st S I J Q := tr_istore_n (m := 2) (by decide +kernel) (Nat.le_of_ble_eq_true rfl) rfl
theorem r22_23 : am_T d 22 23 [l0, l1, some (.int x0), l3, l4, l5] st S I J Q = am_T d 22 24 [l0, l1, some (.int x0), l3, l4, l5] (.int x0 :: st) S I J Q := tr_iload_n (m := 2) (by decide +kernel) rfl
theorem r22_24 : am_T d 22 24 ls st S I J Q = am_T d 22 25 ls (.int (-1) :: st) S I J Q := tr_iconst (m := -1) (by decide +kernel) (by decide)
theorem r22_25 : am_T d 22 25 ls (.int x1 :: .int x0 :: st) S I J Q = if x0 = x1 then am_T d 22 37 ls st S I J Q else am_T d 22 28 ls st S I J Q := tr_icmpeq (o := 12) (by decide +kernel) rfl
theorem r22_28 : am_T d 22 28 [some (.ref a0), l1, l2, l3, l4, l5] st S I J Q = am_T d 22 29 [some (.ref a0), l1, l2, l3, l4, l5] (.ref a0 :: st) S I J Q := tr_aload_n (m := 0) (by decide +kernel) rfl
theorem r22_29 : am_T d 22 29 ls st S I J Q = am_T d 22 31 ls (.int 62 :: st) S I J Q := tr_bipush (m := 62) (by decide +kernel) (by decide)
theorem r22_31 : am_T d 22 31 ls [.int x1, .ref a0] S I J Q = (am_is S a0 2 ∧ am_C d 24 [.ref a0, .int x1] S I J (fun r S I J => am_T d 22 34 ls (am_psh r []) S I J Q)) := tr_virt (k := 26) (by decide +kernel) (by decide +kernel) rfl rfl (Nat.le_of_ble_eq_true rfl) (by decide +kernel)
theorem r22_34 : am_T d 22 34 ls (.int x0 :: st) S I J Q = if x0 = 0 then am_T d 22 37 ls st S I J Q else am_T d 22 39 ls st S I J Q := tr_ifne (o := 5) (by decide +kernel) rfl
theorem r22_37 : am_T d 22 37 ls st S I J Q = am_T d 22 38 ls (.int 0 :: st) S I J Q := tr_iconst (m := 0) (by decide +kernel) (by decide)
theorem r22_38 : am_T d 22 38 ls [.int x0] S I J Q = ((x0 = 0 ∨ x0 = 1) ∧ Q (some (.int x0)) S I J) := tr_iretz (by decide +kernel) (by decide +kernel)
theorem r22_39 : am_T d 22 39 [some (.ref a0), l1, l2, l3, l4, l5] st S I J Q = am_T d 22 40 [some (.ref a0), l1, l2, l3, l4, l5] (.ref a0 :: st) S I J Q := tr_aload_n (m := 0) (by decide +kernel) rfl
theorem r22_40 : am_T d 22 40 ls (.ref a0 :: st) S I J Q = (am_is S a0 2 ∧ am_T d 22 43 ls (.int (I a0 1) :: st) S I J Q) := tr_geti (k := 19) (by decide +kernel) (by decide +kernel) (Or.inl (by decide +kernel))
theorem r22_43 : am_T d 22 43 [l0, l1, l2, l3, l4, l5] (.int x0 :: st) S I J Q = am_T d 22 44 [l0, l1, am_clr l2, some (.int x0), l4, l5] st S I J Q := tr_istore_n (m := 3) (by decide +kernel) (Nat.le_of_ble_eq_true rfl) rfl
theorem r22_44 : am_T d 22 44 [some (.ref a0), l1, l2, l3, l4, l5] st S I J Q = am_T d 22 45 [some (.ref a0), l1, l2, l3, l4, l5] (.ref a0 :: st) S I J Q := tr_aload_n (m := 0) (by decide +kernel) rfl
theorem r22_45 : am_T d 22 45 ls st S I J Q = am_T d 22 46 ls (.int 0 :: st) S I J Q := tr_iconst (m := 0) (by decide +kernel) (by decide)
theorem r22_46 : am_T d 22 46 [l0, some (.ref a0), l2, l3, l4, l5] st S I J Q = am_T d 22 47 [l0, some (.ref a0), l2, l3, l4, l5] (.ref a0 :: st) S I J Q := tr_aload_n (m := 1) (by decide +kernel) rfl
theorem r22_47 : am_T d 22 47 ls (.ref a0 :: st) S I J Q = (am_is S a0 1 ∧ am_T d 22 50 ls (.int (I a0 0) :: st) S I J Q) := tr_geti (k := 43) (by decide +kernel) (by decide +kernel) (Or.inl (by decide +kernel))
theorem r22_50 : am_T d 22 50 ls st S I J Q = am_T d 22 51 ls (.int 1 :: st) S I J Q := tr_iconst (m := 1) (by decide +kernel) (by decide)
theorem r22_51 : am_T d 22 51 ls (.int x1 :: .int x0 :: st) S I J Q = am_T d 22 52 ls (.int (x0 - x1) :: st) S I J Q := tr_isub (by decide +kernel)
theorem r22_52 : am_T d 22 52 ls [.int x2, .int x1, .ref a0] S I J Q = (am_is S a0 2 ∧ am_C d 25 [.ref a0, .int x1, .int x2] S I J (fun r S I J => am_T d 22 55 ls (am_psh r []) S I J Q)) := tr_virt (k := 22) (by decide +kernel) (by decide +kernel) rfl rfl (Nat.le_of_ble_eq_true rfl) (by decide +kernel)
theorem r22_55 : am_T d 22 55 [l0, l1, l2, l3, l4, l5] (.int x0 :: st) S I J Q = am_T d 22 57 [l0, l1, l2, am_clr l3, some (.int x0), l5] st S I J Q := tr_istore (k := 4) (by decide +kernel) (Nat.le_of_ble_eq_true rfl) rfl
theorem r22_57 : am_T d 22 57 [l0, l1, l2, l3, some (.int x0), l5] st S I J Q = am_T d 22 59 [l0, l1, l2, l3, some (.int x0), l5] (.int x0 :: st) S I J Q := tr_iload (k := 4) (by decide +kernel) rfl
theorem r22_59 : am_T d 22 59 [l0, l1, some (.int x0), l3, l4, l5] st S I J Q = am_T d 22 60 [l0, l1, some (.int x0), l3, l4, l5] (.int x0 :: st) S I J Q := tr_iload_n (m := 2) (by decide +kernel) rfl
theorem r22_60 : am_T d 22 60 ls (.int x1 :: .int x0 :: st) S I J Q = if x0 = x1 then am_T d 22 63 ls st S I J Q else am_T d 22 70 ls st S I J Q := tr_icmpne (o := 10) (by decide +kernel) rfl
theorem r22_63 : am_T d 22 63 [some (.ref a0), l1, l2, l3, l4, l5] st S I J Q = am_T d 22 64 [some (.ref a0), l1, l2, l3, l4, l5] (.ref a0 :: st) S I J Q := tr_aload_n (m := 0) (by decide +kernel) rfl
theorem r22_64 : am_T d 22 64 [l0, l1, l2, some (.int x0), l4, l5] st S I J Q = am_T d 22 65 [l0, l1, l2, some (.int x0), l4, l5] (.int x0 :: st) S I J Q := tr_iload_n (m := 3) (by decide +kernel) rfl
theorem r22_65 : am_T d 22 65 ls (.int x0 :: .ref a0 :: st) S I J Q = (am_is S a0 2 ∧ am_T d 22 68 ls st S (am_up I a0 1 x0) J Q) := tr_puti (k := 19) (by decide +kernel) (by decide +kernel) (by decide +kernel) (by decide +kernel)
theorem r22_68 : am_T d 22 68 ls st S I J Q = am_T d 22 69 ls (.int 0 :: st) S I J Q := tr_iconst (m := 0) (by decide +kernel) (by decide)
theorem r22_69 : am_T d 22 69 ls [.int x0] S I J Q = ((x0 = 0 ∨ x0 = 1) ∧ Q (some (.int x0)) S I J) := tr_iretz (by decide +kernel) (by decide +kernel)
theorem r22_70 : am_T d 22 70 [l0, l1, l2, l3, some (.int x0), l5] st S I J Q = am_T d 22 72 [l0, l1, l2, l3, some (.int x0), l5] (.int x0 :: st) S I J Q := tr_iload (k := 4) (by decide +kernel) rfl
theorem r22_72 : am_T d 22 72 ls st S I J Q = am_T d 22 73 ls (.int (-1) :: st) S I J Q := tr_iconst (m := -1) (by decide +kernel) (by decide)
theorem r22_73 : am_T d 22 73 ls (.int x1 :: .int x0 :: st) S I J Q = if x0 = x1 then am_T d 22 85 ls st S I J Q else am_T d 22 76 ls st S I J Q := tr_icmpeq (o := 12) (by decide +kernel) rfl
theorem r22_76 : am_T d 22 76 [some (.ref a0), l1, l2, l3, l4, l5] st S I J Q = am_T d 22 77 [some (.ref a0), l1, l2, l3, l4, l5] (.ref a0 :: st) S I J Q := tr_aload_n (m := 0) (by decide +kernel) rfl
theorem r22_77 : am_T d 22 77 ls st S I J Q = am_T d 22 79 ls (.int 58 :: st) S I J Q := tr_bipush (m := 58) (by decide +kernel) (by decide)
theorem r22_79 : am_T d 22 79 ls [.int x1, .ref a0] S I J Q = (am_is S a0 2 ∧ am_C d 24 [.ref a0, .int x1] S I J (fun r S I J => am_T d 22 82 ls (am_psh r []) S I J Q)) := tr_virt (k := 26) (by decide +kernel) (by decide +kernel) rfl rfl (Nat.le_of_ble_eq_true rfl) (by decide +kernel)
theorem r22_82 : am_T d 22 82 ls (.int x0 :: st) S I J Q = if x0 = 0 then am_T d 22 85 ls st S I J Q else am_T d 22 87 ls st S I J Q := tr_ifne (o := 5) (by decide +kernel) rfl
theorem r22_85 : am_T d 22 85 ls st S I J Q = am_T d 22 86 ls (.int 0 :: st) S I J Q := tr_iconst (m := 0) (by decide +kernel) (by decide)
theorem r22_86 : am_T d 22 86 ls [.int x0] S I J Q = ((x0 = 0 ∨ x0 = 1) ∧ Q (some (.int x0)) S I J) := tr_iretz (by decide +kernel) (by decide +kernel)
theorem r22_87 : am_T d 22 87 [some (.ref a0), l1, l2, l3, l4, l5] st S I J Q = am_T d 22 88 [some (.ref a0), l1, l2, l3, l4, l5] (.ref a0 :: st) S I J Q := tr_aload_n (m := 0) (by decide +kernel) rfl
theorem r22_88 : am_T d 22 88 ls [.ref a0] S I J Q = (am_is S a0 2 ∧ am_C d 23 [.ref a0] S I J (fun r S I J => am_T d 22 91 ls (am_psh r []) S I J Q)) := tr_virt (k := 46) (by decide +kernel) (by decide +kernel) rfl rfl (Nat.le_of_ble_eq_true rfl) (by decide +kernel)
theorem r22_91 : am_T d 22 91 [l0, l1, l2, l3, l4, l5] (.int x0 :: st) S I J Q = am_T d 22 93 [l0, l1, l2, l3, am_clr l4, some (.int x0)] st S I J Q := tr_istore (k := 5) (by decide +kernel) (Nat.le_of_ble_eq_true rfl) rfl
theorem r22_93 : am_T d 22 93 [l0, l1, l2, l3, l4, some (.int x0)] st S I J Q = am_T d 22 95 [l0, l1, l2, l3, l4, some (.int x0)] (.int x0 :: st) S I J Q := tr_iload (k := 5) (by decide +kernel) rfl
theorem r22_95 : am_T d 22 95 ls st S I J Q = am_T d 22 96 ls (.int (-1) :: st) S I J Q := tr_iconst (m := -1) (by decide +kernel) (by decide)
theorem r22_96 : am_T d 22 96 ls (.int x1 :: .int x0 :: st) S I J Q = if x0 = x1 then am_T d 22 99 ls st S I J Q else am_T d 22 101 ls st S I J Q := tr_icmpne (o := 5) (by decide +kernel) rfl
theorem r22_99 : am_T d 22 99 ls st S I J Q = am_T d 22 100 ls (.int 0 :: st) S I J Q := tr_iconst (m := 0) (by decide +kernel) (by decide)
theorem r22_100 : am_T d 22 100 ls [.int x0] S I J Q = ((x0 = 0 ∨ x0 = 1) ∧ Q (some (.int x0)) S I J) := tr_iretz (by decide +kernel) (by decide +kernel)
theorem r22_101 : am_T d 22 101 [l0, some (.ref a0), l2, l3, l4, l5] st S I J Q = am_T d 22 102 [l0, some (.ref a0), l2, l3, l4, l5] (.ref a0 :: st) S I J Q := tr_aload_n (m := 1) (by decide +kernel) rfl
theorem r22_102 : am_T d 22 102 [l0, l1, some (.int x0), l3, l4, l5] st S I J Q = am_T d 22 103 [l0, l1, some (.int x0), l3, l4, l5] (.int x0 :: st) S I J Q := tr_iload_n (m := 2) (by decide +kernel) rfl
theorem r22_103 : am_T d 22 103 [l0, l1, l2, l3, some (.int x0), l5] st S I J Q = am_T d 22 105 [l0, l1, l2, l3, some (.int x0), l5] (.int x0 :: st) S I J Q := tr_iload (k := 4) (by decide +kernel) rfl
theorem r22_105 : am_T d 22 105 [l0, l1, l2, l3, l4, some (.int x0)] st S I J Q = am_T d 22 107 [l0, l1, l2, l3, l4, some (.int x0)] (.int x0 :: st) S I J Q := tr_iload (k := 5) (by decide +kernel) rfl
theorem r22_107 : am_T d 22 107 ls [.int x3, .int x2, .int x1, .ref a0] S I J Q = (am_is S a0 1 ∧ am_C d 15 [.ref a0, .int x1, .int x2, .int x3] S I J (fun r S I J => am_T d 22 110 ls (am_psh r []) S I J Q)) := tr_virt (k := 50) (by decide +kernel) (by decide +kernel) rfl rfl (Nat.le_of_ble_eq_true rfl) (by decide +kernel)
theorem r22_110 : am_T d 22 110 ls st S I J Q = am_T d 22 111 ls (.int 1 :: st) S I J Q := tr_iconst (m := 1) (by decide +kernel) (by decide)
theorem r22_111 : am_T d 22 111 ls [.int x0] S I J Q = ((x0 = 0 ∨ x0 = 1) ∧ Q (some (.int x0)) S I J) := tr_iretz (by decide +kernel) (by decide +kernel)
-- 23 Txt.takeNumber()I; heads []
theorem e23 : am_C (d + 1) 23 [.ref a0] S I J Q = am_T d 23 0 [some (.ref a0), none, none] [] S I J Q := tr_en (Nat.le_of_ble_eq_true rfl) rfl
theorem r23_0 : am_T d 23 0 [some (.ref a0), l1, l2] st S I J Q = am_T d 23 1 [some (.ref a0), l1, l2] (.ref a0 :: st) S I J Q := tr_aload_n (m := 0) (by decide +kernel) rfl
theorem r23_1 : am_T d 23 1 ls st S I J Q = am_T d 23 2 ls (.int 0 :: st) S I J Q := tr_iconst (m := 0) (by decide +kernel) (by decide)
theorem r23_2 : am_T d 23 2 ls st S I J Q = am_T d 23 4 ls (.int 9 :: st) S I J Q := tr_bipush (m := 9) (by decide +kernel) (by decide)
theorem r23_4 : am_T d 23 4 ls [.int x2, .int x1, .ref a0] S I J Q = (am_is S a0 2 ∧ am_C d 25 [.ref a0, .int x1, .int x2] S I J (fun r S I J => am_T d 23 7 ls (am_psh r []) S I J Q)) := tr_virt (k := 22) (by decide +kernel) (by decide +kernel) rfl rfl (Nat.le_of_ble_eq_true rfl) (by decide +kernel)
theorem r23_7 : am_T d 23 7 [l0, l1, l2] (.int x0 :: st) S I J Q = am_T d 23 8 [am_clr l0, some (.int x0), l2] st S I J Q := tr_istore_n (m := 1) (by decide +kernel) (Nat.le_of_ble_eq_true rfl) rfl
theorem r23_8 : am_T d 23 8 [l0, some (.int x0), l2] st S I J Q = am_T d 23 9 [l0, some (.int x0), l2] (.int x0 :: st) S I J Q := tr_iload_n (m := 1) (by decide +kernel) rfl
theorem r23_9 : am_T d 23 9 ls st S I J Q = am_T d 23 10 ls (.int (-1) :: st) S I J Q := tr_iconst (m := -1) (by decide +kernel) (by decide)
theorem r23_10 : am_T d 23 10 ls (.int x1 :: .int x0 :: st) S I J Q = if x0 = x1 then am_T d 23 13 ls st S I J Q else am_T d 23 15 ls st S I J Q := tr_icmpne (o := 5) (by decide +kernel) rfl
theorem r23_13 : am_T d 23 13 ls st S I J Q = am_T d 23 14 ls (.int (-1) :: st) S I J Q := tr_iconst (m := -1) (by decide +kernel) (by decide)
theorem r23_14 : am_T d 23 14 ls [.int x0] S I J Q = Q (some (.int x0)) S I J := tr_ireti (by decide +kernel) (by decide +kernel)
theorem r23_15 : am_T d 23 15 [some (.ref a0), l1, l2] st S I J Q = am_T d 23 16 [some (.ref a0), l1, l2] (.ref a0 :: st) S I J Q := tr_aload_n (m := 0) (by decide +kernel) rfl
theorem r23_16 : am_T d 23 16 ls st S I J Q = am_T d 23 17 ls (.int 0 :: st) S I J Q := tr_iconst (m := 0) (by decide +kernel) (by decide)
theorem r23_17 : am_T d 23 17 ls st S I J Q = am_T d 23 19 ls (.int 9 :: st) S I J Q := tr_bipush (m := 9) (by decide +kernel) (by decide)
theorem r23_19 : am_T d 23 19 ls [.int x2, .int x1, .ref a0] S I J Q = (am_is S a0 2 ∧ am_C d 25 [.ref a0, .int x1, .int x2] S I J (fun r S I J => am_T d 23 22 ls (am_psh r []) S I J Q)) := tr_virt (k := 22) (by decide +kernel) (by decide +kernel) rfl rfl (Nat.le_of_ble_eq_true rfl) (by decide +kernel)
theorem r23_22 : am_T d 23 22 [l0, l1, l2] (.int x0 :: st) S I J Q = am_T d 23 23 [l0, am_clr l1, some (.int x0)] st S I J Q := tr_istore_n (m := 2) (by decide +kernel) (Nat.le_of_ble_eq_true rfl) rfl
theorem r23_23 : am_T d 23 23 [l0, l1, some (.int x0)] st S I J Q = am_T d 23 24 [l0, l1, some (.int x0)] (.int x0 :: st) S I J Q := tr_iload_n (m := 2) (by decide +kernel) rfl
theorem r23_24 : am_T d 23 24 ls st S I J Q = am_T d 23 25 ls (.int (-1) :: st) S I J Q := tr_iconst (m := -1) (by decide +kernel) (by decide)
theorem r23_25 : am_T d 23 25 ls (.int x1 :: .int x0 :: st) S I J Q = if x0 = x1 then am_T d 23 28 ls st S I J Q else am_T d 23 32 ls st S I J Q := tr_icmpne (o := 7) (by decide +kernel) rfl
theorem r23_28 : am_T d 23 28 [l0, some (.int x0), l2] st S I J Q = am_T d 23 29 [l0, some (.int x0), l2] (.int x0 :: st) S I J Q := tr_iload_n (m := 1) (by decide +kernel) rfl
theorem r23_29 : am_T d 23 29 ls st S I J Q = am_T d 23 38 ls st S I J Q := tr_goto (o := 9) (by decide +kernel) rfl
theorem r23_32 : am_T d 23 32 ls st S I J Q = am_T d 23 34 ls (.int 10 :: st) S I J Q := tr_bipush (m := 10) (by decide +kernel) (by decide)
theorem r23_34 : am_T d 23 34 [l0, some (.int x0), l2] st S I J Q = am_T d 23 35 [l0, some (.int x0), l2] (.int x0 :: st) S I J Q := tr_iload_n (m := 1) (by decide +kernel) rfl
theorem r23_35 : am_T d 23 35 ls (.int x1 :: .int x0 :: st) S I J Q = am_T d 23 36 ls (.int (x0 * x1) :: st) S I J Q := tr_imul (by decide +kernel)
theorem r23_36 : am_T d 23 36 [l0, l1, some (.int x0)] st S I J Q = am_T d 23 37 [l0, l1, some (.int x0)] (.int x0 :: st) S I J Q := tr_iload_n (m := 2) (by decide +kernel) rfl
theorem r23_37 : am_T d 23 37 ls (.int x1 :: .int x0 :: st) S I J Q = am_T d 23 38 ls (.int (x0 + x1) :: st) S I J Q := tr_iadd (by decide +kernel)
theorem r23_38 : am_T d 23 38 ls [.int x0] S I J Q = Q (some (.int x0)) S I J := tr_ireti (by decide +kernel) (by decide +kernel)
-- 24 Txt.takeSign(C)Z; heads []
theorem e24 : am_C (d + 1) 24 [.ref a0, .int x1] S I J Q = am_T d 24 0 [some (.ref a0), some (.int x1)] [] S I J Q := tr_en (Nat.le_of_ble_eq_true rfl) rfl
theorem r24_0 : am_T d 24 0 [some (.ref a0), l1] st S I J Q = am_T d 24 1 [some (.ref a0), l1] (.ref a0 :: st) S I J Q := tr_aload_n (m := 0) (by decide +kernel) rfl
theorem r24_1 : am_T d 24 1 ls (.ref a0 :: st) S I J Q = (am_is S a0 2 ∧ am_T d 24 4 ls (.int (I a0 1) :: st) S I J Q) := tr_geti (k := 19) (by decide +kernel) (by decide +kernel) (Or.inl (by decide +kernel))
theorem r24_4 : am_T d 24 4 [some (.ref a0), l1] st S I J Q = am_T d 24 5 [some (.ref a0), l1] (.ref a0 :: st) S I J Q := tr_aload_n (m := 0) (by decide +kernel) rfl
theorem r24_5 : am_T d 24 5 ls (.ref a0 :: st) S I J Q = (am_is S a0 2 ∧ am_T d 24 8 ls (.int (I a0 0) :: st) S I J Q) := tr_geti (k := 15) (by decide +kernel) (by decide +kernel) (Or.inl (by decide +kernel))
theorem r24_8 : am_T d 24 8 ls (.int x1 :: .int x0 :: st) S I J Q = if x1 ≤ x0 then am_T d 24 24 ls st S I J Q else am_T d 24 11 ls st S I J Q := tr_icmpge (o := 16) (by decide +kernel) rfl
theorem r24_11 : am_T d 24 11 [some (.ref a0), l1] st S I J Q = am_T d 24 12 [some (.ref a0), l1] (.ref a0 :: st) S I J Q := tr_aload_n (m := 0) (by decide +kernel) rfl
theorem r24_12 : am_T d 24 12 ls (.ref a0 :: st) S I J Q = ((am_is S a0 2 ∧ am_rf S a0 2 ≠ 0) ∧ am_T d 24 15 ls (.ref (am_rf S a0 2) :: st) S I J Q) := tr_geta (k := 9) (by decide +kernel) (by decide +kernel) (by decide +kernel)
theorem r24_15 : am_T d 24 15 [some (.ref a0), l1] st S I J Q = am_T d 24 16 [some (.ref a0), l1] (.ref a0 :: st) S I J Q := tr_aload_n (m := 0) (by decide +kernel) rfl
theorem r24_16 : am_T d 24 16 ls (.ref a0 :: st) S I J Q = (am_is S a0 2 ∧ am_T d 24 19 ls (.int (I a0 1) :: st) S I J Q) := tr_geti (k := 19) (by decide +kernel) (by decide +kernel) (Or.inl (by decide +kernel))
theorem r24_19 : am_T d 24 19 ls (.int x0 :: .ref a0 :: st) S I J Q = (am_ix S a0 22 x0 ∧ am_T d 24 20 ls (.int (I a0 x0.toNatClampNeg) :: st) S I J Q) := tr_cald (by decide +kernel)
theorem r24_20 : am_T d 24 20 [l0, some (.int x0)] st S I J Q = am_T d 24 21 [l0, some (.int x0)] (.int x0 :: st) S I J Q := tr_iload_n (m := 1) (by decide +kernel) rfl
theorem r24_21 : am_T d 24 21 ls (.int x1 :: .int x0 :: st) S I J Q = if x0 = x1 then am_T d 24 26 ls st S I J Q else am_T d 24 24 ls st S I J Q := tr_icmpeq (o := 5) (by decide +kernel) rfl
theorem r24_24 : am_T d 24 24 ls st S I J Q = am_T d 24 25 ls (.int 0 :: st) S I J Q := tr_iconst (m := 0) (by decide +kernel) (by decide)
theorem r24_25 : am_T d 24 25 ls [.int x0] S I J Q = ((x0 = 0 ∨ x0 = 1) ∧ Q (some (.int x0)) S I J) := tr_iretz (by decide +kernel) (by decide +kernel)
theorem r24_26 : am_T d 24 26 [some (.ref a0), l1] st S I J Q = am_T d 24 27 [some (.ref a0), l1] (.ref a0 :: st) S I J Q := tr_aload_n (m := 0) (by decide +kernel) rfl
theorem r24_27 : am_T d 24 27 ls (.ref a0 :: st) S I J Q = am_T d 24 28 ls (.ref a0 :: .ref a0 :: st) S I J Q := tr_dupa (by decide +kernel)
theorem r24_28 : am_T d 24 28 ls (.ref a0 :: st) S I J Q = (am_is S a0 2 ∧ am_T d 24 31 ls (.int (I a0 1) :: st) S I J Q) := tr_geti (k := 19) (by decide +kernel) (by decide +kernel) (Or.inl (by decide +kernel))
theorem r24_31 : am_T d 24 31 ls st S I J Q = am_T d 24 32 ls (.int 1 :: st) S I J Q := tr_iconst (m := 1) (by decide +kernel) (by decide)
theorem r24_32 : am_T d 24 32 ls (.int x1 :: .int x0 :: st) S I J Q = am_T d 24 33 ls (.int (x0 + x1) :: st) S I J Q := tr_iadd (by decide +kernel)
theorem r24_33 : am_T d 24 33 ls (.int x0 :: .ref a0 :: st) S I J Q = (am_is S a0 2 ∧ am_T d 24 36 ls st S (am_up I a0 1 x0) J Q) := tr_puti (k := 19) (by decide +kernel) (by decide +kernel) (by decide +kernel) (by decide +kernel)
theorem r24_36 : am_T d 24 36 ls st S I J Q = am_T d 24 37 ls (.int 1 :: st) S I J Q := tr_iconst (m := 1) (by decide +kernel) (by decide)
theorem r24_37 : am_T d 24 37 ls [.int x0] S I J Q = ((x0 = 0 ∨ x0 = 1) ∧ Q (some (.int x0)) S I J) := tr_iretz (by decide +kernel) (by decide +kernel)
-- 25 Txt.takeDigit(II)I; heads []
theorem e25 : am_C (d + 1) 25 [.ref a0, .int x1, .int x2] S I J Q = am_T d 25 0 [some (.ref a0), some (.int x1), some (.int x2), none] [] S I J Q := tr_en (Nat.le_of_ble_eq_true rfl) rfl
theorem r25_0 : am_T d 25 0 [some (.ref a0), l1, l2, l3] st S I J Q = am_T d 25 1 [some (.ref a0), l1, l2, l3] (.ref a0 :: st) S I J Q := tr_aload_n (m := 0) (by decide +kernel) rfl
theorem r25_1 : am_T d 25 1 ls (.ref a0 :: st) S I J Q = (am_is S a0 2 ∧ am_T d 25 4 ls (.int (I a0 1) :: st) S I J Q) := tr_geti (k := 19) (by decide +kernel) (by decide +kernel) (Or.inl (by decide +kernel))
theorem r25_4 : am_T d 25 4 [some (.ref a0), l1, l2, l3] st S I J Q = am_T d 25 5 [some (.ref a0), l1, l2, l3] (.ref a0 :: st) S I J Q := tr_aload_n (m := 0) (by decide +kernel) rfl
theorem r25_5 : am_T d 25 5 ls (.ref a0 :: st) S I J Q = (am_is S a0 2 ∧ am_T d 25 8 ls (.int (I a0 0) :: st) S I J Q) := tr_geti (k := 15) (by decide +kernel) (by decide +kernel) (Or.inl (by decide +kernel))
theorem r25_8 : am_T d 25 8 ls (.int x1 :: .int x0 :: st) S I J Q = if x1 ≤ x0 then am_T d 25 43 ls st S I J Q else am_T d 25 11 ls st S I J Q := tr_icmpge (o := 35) (by decide +kernel) rfl
theorem r25_11 : am_T d 25 11 [some (.ref a0), l1, l2, l3] st S I J Q = am_T d 25 12 [some (.ref a0), l1, l2, l3] (.ref a0 :: st) S I J Q := tr_aload_n (m := 0) (by decide +kernel) rfl
theorem r25_12 : am_T d 25 12 ls (.ref a0 :: st) S I J Q = ((am_is S a0 2 ∧ am_rf S a0 2 ≠ 0) ∧ am_T d 25 15 ls (.ref (am_rf S a0 2) :: st) S I J Q) := tr_geta (k := 9) (by decide +kernel) (by decide +kernel) (by decide +kernel)
theorem r25_15 : am_T d 25 15 [some (.ref a0), l1, l2, l3] st S I J Q = am_T d 25 16 [some (.ref a0), l1, l2, l3] (.ref a0 :: st) S I J Q := tr_aload_n (m := 0) (by decide +kernel) rfl
theorem r25_16 : am_T d 25 16 ls (.ref a0 :: st) S I J Q = (am_is S a0 2 ∧ am_T d 25 19 ls (.int (I a0 1) :: st) S I J Q) := tr_geti (k := 19) (by decide +kernel) (by decide +kernel) (Or.inl (by decide +kernel))
theorem r25_19 : am_T d 25 19 ls (.int x0 :: .ref a0 :: st) S I J Q = (am_ix S a0 22 x0 ∧ am_T d 25 20 ls (.int (I a0 x0.toNatClampNeg) :: st) S I J Q) := tr_cald (by decide +kernel)
theorem r25_20 : am_T d 25 20 ls st S I J Q = am_T d 25 22 ls (.int 48 :: st) S I J Q := tr_bipush (m := 48) (by decide +kernel) (by decide)
theorem r25_22 : am_T d 25 22 [l0, some (.int x0), l2, l3] st S I J Q = am_T d 25 23 [l0, some (.int x0), l2, l3] (.int x0 :: st) S I J Q := tr_iload_n (m := 1) (by decide +kernel) rfl
theorem r25_23 : am_T d 25 23 ls (.int x1 :: .int x0 :: st) S I J Q = am_T d 25 24 ls (.int (x0 + x1) :: st) S I J Q := tr_iadd (by decide +kernel)
theorem r25_24 : am_T d 25 24 ls (.int x1 :: .int x0 :: st) S I J Q = if x0 < x1 then am_T d 25 43 ls st S I J Q else am_T d 25 27 ls st S I J Q := tr_icmplt (o := 19) (by decide +kernel) rfl
theorem r25_27 : am_T d 25 27 [some (.ref a0), l1, l2, l3] st S I J Q = am_T d 25 28 [some (.ref a0), l1, l2, l3] (.ref a0 :: st) S I J Q := tr_aload_n (m := 0) (by decide +kernel) rfl
theorem r25_28 : am_T d 25 28 ls (.ref a0 :: st) S I J Q = ((am_is S a0 2 ∧ am_rf S a0 2 ≠ 0) ∧ am_T d 25 31 ls (.ref (am_rf S a0 2) :: st) S I J Q) := tr_geta (k := 9) (by decide +kernel) (by decide +kernel) (by decide +kernel)
theorem r25_31 : am_T d 25 31 [some (.ref a0), l1, l2, l3] st S I J Q = am_T d 25 32 [some (.ref a0), l1, l2, l3] (.ref a0 :: st) S I J Q := tr_aload_n (m := 0) (by decide +kernel) rfl
theorem r25_32 : am_T d 25 32 ls (.ref a0 :: st) S I J Q = (am_is S a0 2 ∧ am_T d 25 35 ls (.int (I a0 1) :: st) S I J Q) := tr_geti (k := 19) (by decide +kernel) (by decide +kernel) (Or.inl (by decide +kernel))
theorem r25_35 : am_T d 25 35 ls (.int x0 :: .ref a0 :: st) S I J Q = (am_ix S a0 22 x0 ∧ am_T d 25 36 ls (.int (I a0 x0.toNatClampNeg) :: st) S I J Q) := tr_cald (by decide +kernel)
theorem r25_36 : am_T d 25 36 ls st S I J Q = am_T d 25 38 ls (.int 48 :: st) S I J Q := tr_bipush (m := 48) (by decide +kernel) (by decide)
theorem r25_38 : am_T d 25 38 [l0, l1, some (.int x0), l3] st S I J Q = am_T d 25 39 [l0, l1, some (.int x0), l3] (.int x0 :: st) S I J Q := tr_iload_n (m := 2) (by decide +kernel) rfl
theorem r25_39 : am_T d 25 39 ls (.int x1 :: .int x0 :: st) S I J Q = am_T d 25 40 ls (.int (x0 + x1) :: st) S I J Q := tr_iadd (by decide +kernel)
theorem r25_40 : am_T d 25 40 ls (.int x1 :: .int x0 :: st) S I J Q = if x0 ≤ x1 then am_T d 25 45 ls st S I J Q else am_T d 25 43 ls st S I J Q := tr_icmple (o := 5) (by decide +kernel) rfl
theorem r25_43 : am_T d 25 43 ls st S I J Q = am_T d 25 44 ls (.int (-1) :: st) S I J Q := tr_iconst (m := -1) (by decide +kernel) (by decide)
theorem r25_44 : am_T d 25 44 ls [.int x0] S I J Q = Q (some (.int x0)) S I J := tr_ireti (by decide +kernel) (by decide +kernel)
theorem r25_45 : am_T d 25 45 [some (.ref a0), l1, l2, l3] st S I J Q = am_T d 25 46 [some (.ref a0), l1, l2, l3] (.ref a0 :: st) S I J Q := tr_aload_n (m := 0) (by decide +kernel) rfl
theorem r25_46 : am_T d 25 46 ls (.ref a0 :: st) S I J Q = ((am_is S a0 2 ∧ am_rf S a0 2 ≠ 0) ∧ am_T d 25 49 ls (.ref (am_rf S a0 2) :: st) S I J Q) := tr_geta (k := 9) (by decide +kernel) (by decide +kernel) (by decide +kernel)
theorem r25_49 : am_T d 25 49 [some (.ref a0), l1, l2, l3] st S I J Q = am_T d 25 50 [some (.ref a0), l1, l2, l3] (.ref a0 :: st) S I J Q := tr_aload_n (m := 0) (by decide +kernel) rfl
theorem r25_50 : am_T d 25 50 ls (.ref a0 :: st) S I J Q = (am_is S a0 2 ∧ am_T d 25 53 ls (.int (I a0 1) :: st) S I J Q) := tr_geti (k := 19) (by decide +kernel) (by decide +kernel) (Or.inl (by decide +kernel))
theorem r25_53 : am_T d 25 53 ls (.int x0 :: .ref a0 :: st) S I J Q = (am_ix S a0 22 x0 ∧ am_T d 25 54 ls (.int (I a0 x0.toNatClampNeg) :: st) S I J Q) := tr_cald (by decide +kernel)
theorem r25_54 : am_T d 25 54 ls st S I J Q = am_T d 25 56 ls (.int 48 :: st) S I J Q := tr_bipush (m := 48) (by decide +kernel) (by decide)
theorem r25_56 : am_T d 25 56 ls (.int x1 :: .int x0 :: st) S I J Q = am_T d 25 57 ls (.int (x0 - x1) :: st) S I J Q := tr_isub (by decide +kernel)
theorem r25_57 : am_T d 25 57 [l0, l1, l2, l3] (.int x0 :: st) S I J Q = am_T d 25 58 [l0, l1, am_clr l2, some (.int x0)] st S I J Q := tr_istore_n (m := 3) (by decide +kernel) (Nat.le_of_ble_eq_true rfl) rfl
theorem r25_58 : am_T d 25 58 [some (.ref a0), l1, l2, l3] st S I J Q = am_T d 25 59 [some (.ref a0), l1, l2, l3] (.ref a0 :: st) S I J Q := tr_aload_n (m := 0) (by decide +kernel) rfl
theorem r25_59 : am_T d 25 59 ls (.ref a0 :: st) S I J Q = am_T d 25 60 ls (.ref a0 :: .ref a0 :: st) S I J Q := tr_dupa (by decide +kernel)
theorem r25_60 : am_T d 25 60 ls (.ref a0 :: st) S I J Q = (am_is S a0 2 ∧ am_T d 25 63 ls (.int (I a0 1) :: st) S I J Q) := tr_geti (k := 19) (by decide +kernel) (by decide +kernel) (Or.inl (by decide +kernel))
theorem r25_63 : am_T d 25 63 ls st S I J Q = am_T d 25 64 ls (.int 1 :: st) S I J Q := tr_iconst (m := 1) (by decide +kernel) (by decide)
theorem r25_64 : am_T d 25 64 ls (.int x1 :: .int x0 :: st) S I J Q = am_T d 25 65 ls (.int (x0 + x1) :: st) S I J Q := tr_iadd (by decide +kernel)
theorem r25_65 : am_T d 25 65 ls (.int x0 :: .ref a0 :: st) S I J Q = (am_is S a0 2 ∧ am_T d 25 68 ls st S (am_up I a0 1 x0) J Q) := tr_puti (k := 19) (by decide +kernel) (by decide +kernel) (by decide +kernel) (by decide +kernel)
theorem r25_68 : am_T d 25 68 [l0, l1, l2, some (.int x0)] st S I J Q = am_T d 25 69 [l0, l1, l2, some (.int x0)] (.int x0 :: st) S I J Q := tr_iload_n (m := 3) (by decide +kernel) rfl
theorem r25_69 : am_T d 25 69 ls [.int x0] S I J Q = Q (some (.int x0)) S I J := tr_ireti (by decide +kernel) (by decide +kernel)
-- 26 Grp.<init>()V; heads []
theorem e26 : am_C (d + 1) 26 [.ref a0] S I J Q = am_T d 26 0 [some (.ref a0)] [] S I J Q := tr_en (Nat.le_of_ble_eq_true rfl) rfl
theorem r26_0 : am_T d 26 0 [some (.ref a0)] st S I J Q = am_T d 26 1 [some (.ref a0)] (.ref a0 :: st) S I J Q := tr_aload_n (m := 0) (by decide +kernel) rfl
theorem r26_1 : am_T d 26 1 ls [.ref a0] S I J Q = am_T d 26 4 ls [] S I J Q := tr_oinit (k := 3) (by decide +kernel) (by decide +kernel) (Nat.le_of_ble_eq_true rfl)
theorem r26_4 : am_T d 26 4 [some (.ref a0)] st S I J Q = am_T d 26 5 [some (.ref a0)] (.ref a0 :: st) S I J Q := tr_aload_n (m := 0) (by decide +kernel) rfl
theorem r26_5 : am_T d 26 5 ls st S I J Q = am_T d 26 7 ls (.int 15 :: st) S I J Q := tr_bipush (m := 15) (by decide +kernel) (by decide)
theorem r26_7 : am_T d 26 7 ls (.int x0 :: st) S I J Q = ((0 ≤ x0.toInt ∧ x0.toInt < 10000) ∧ am_T d 26 9 ls (.ref S.length :: st) (S ++ [(20, x0.toNatClampNeg, fun _ => 0)]) (am_row I S.length (fun _ => 0)) (am_row J S.length (fun _ => 0)) Q) := tr_newa (t := .int) (by decide +kernel) (by decide)
theorem r26_9 : am_T d 26 9 ls (.ref a1 :: .ref a0 :: st) S I J Q = ((am_is S a0 3 ∧ a1 ≠ 0 ∧ a1 < S.length) ∧ am_T d 26 12 ls st (am_sr S a0 2 a1) I J Q) := tr_puta (k := 9) (by decide +kernel) (by decide +kernel) (by decide +kernel) (by decide +kernel)
theorem r26_12 : am_T d 26 12 [some (.ref a0)] st S I J Q = am_T d 26 13 [some (.ref a0)] (.ref a0 :: st) S I J Q := tr_aload_n (m := 0) (by decide +kernel) rfl
theorem r26_13 : am_T d 26 13 ls st S I J Q = am_T d 26 15 ls (.int 15 :: st) S I J Q := tr_bipush (m := 15) (by decide +kernel) (by decide)
theorem r26_15 : am_T d 26 15 ls (.int x0 :: st) S I J Q = ((0 ≤ x0.toInt ∧ x0.toInt < 10000) ∧ am_T d 26 17 ls (.ref S.length :: st) (S ++ [(20, x0.toNatClampNeg, fun _ => 0)]) (am_row I S.length (fun _ => 0)) (am_row J S.length (fun _ => 0)) Q) := tr_newa (t := .int) (by decide +kernel) (by decide)
theorem r26_17 : am_T d 26 17 ls (.ref a1 :: .ref a0 :: st) S I J Q = ((am_is S a0 3 ∧ a1 ≠ 0 ∧ a1 < S.length) ∧ am_T d 26 20 ls st (am_sr S a0 3 a1) I J Q) := tr_puta (k := 15) (by decide +kernel) (by decide +kernel) (by decide +kernel) (by decide +kernel)
theorem r26_20 : am_T d 26 20 [some (.ref a0)] st S I J Q = am_T d 26 21 [some (.ref a0)] (.ref a0 :: st) S I J Q := tr_aload_n (m := 0) (by decide +kernel) rfl
theorem r26_21 : am_T d 26 21 ls st S I J Q = am_T d 26 23 ls (.int 15 :: st) S I J Q := tr_bipush (m := 15) (by decide +kernel) (by decide)
theorem r26_23 : am_T d 26 23 ls (.int x0 :: st) S I J Q = ((0 ≤ x0.toInt ∧ x0.toInt < 10000) ∧ am_T d 26 25 ls (.ref S.length :: st) (S ++ [(20, x0.toNatClampNeg, fun _ => 0)]) (am_row I S.length (fun _ => 0)) (am_row J S.length (fun _ => 0)) Q) := tr_newa (t := .int) (by decide +kernel) (by decide)
theorem r26_25 : am_T d 26 25 ls (.ref a1 :: .ref a0 :: st) S I J Q = ((am_is S a0 3 ∧ a1 ≠ 0 ∧ a1 < S.length) ∧ am_T d 26 28 ls st (am_sr S a0 4 a1) I J Q) := tr_puta (k := 18) (by decide +kernel) (by decide +kernel) (by decide +kernel) (by decide +kernel)
theorem r26_28 : am_T d 26 28 [some (.ref a0)] st S I J Q = am_T d 26 29 [some (.ref a0)] (.ref a0 :: st) S I J Q := tr_aload_n (m := 0) (by decide +kernel) rfl
theorem r26_29 : am_T d 26 29 ls st S I J Q = am_T d 26 31 ls (.int 8 :: st) S I J Q := tr_bipush (m := 8) (by decide +kernel) (by decide)
theorem r26_31 : am_T d 26 31 ls (.int x0 :: st) S I J Q = ((0 ≤ x0.toInt ∧ x0.toInt < 10000) ∧ am_T d 26 33 ls (.ref S.length :: st) (S ++ [(20, x0.toNatClampNeg, fun _ => 0)]) (am_row I S.length (fun _ => 0)) (am_row J S.length (fun _ => 0)) Q) := tr_newa (t := .int) (by decide +kernel) (by decide)
theorem r26_33 : am_T d 26 33 ls (.ref a1 :: .ref a0 :: st) S I J Q = ((am_is S a0 3 ∧ a1 ≠ 0 ∧ a1 < S.length) ∧ am_T d 26 36 ls st (am_sr S a0 5 a1) I J Q) := tr_puta (k := 21) (by decide +kernel) (by decide +kernel) (by decide +kernel) (by decide +kernel)
theorem r26_36 : am_T d 26 36 ls [] S I J Q = Q none S I J := tr_vret (by decide +kernel) (by decide +kernel)
-- 27 Grp.copyFrom(LArborescenceFinder$Groups;)V; heads []
theorem e27 : am_C (d + 1) 27 [.ref a0, .ref a1] S I J Q = am_T d 27 0 [some (.ref a0), some (.ref a1)] [] S I J Q := tr_en (Nat.le_of_ble_eq_true rfl) rfl
theorem r27_0 : am_T d 27 0 [some (.ref a0), l1] st S I J Q = am_T d 27 1 [some (.ref a0), l1] (.ref a0 :: st) S I J Q := tr_aload_n (m := 0) (by decide +kernel) rfl
theorem r27_1 : am_T d 27 1 [l0, some (.ref a0)] st S I J Q = am_T d 27 2 [l0, some (.ref a0)] (.ref a0 :: st) S I J Q := tr_aload_n (m := 1) (by decide +kernel) rfl
theorem r27_2 : am_T d 27 2 ls (.ref a0 :: st) S I J Q = (am_is S a0 3 ∧ am_T d 27 5 ls (.int (I a0 0) :: st) S I J Q) := tr_geti (k := 24) (by decide +kernel) (by decide +kernel) (Or.inr (by decide +kernel))
theorem r27_5 : am_T d 27 5 ls (.int x0 :: .ref a0 :: st) S I J Q = ((am_is S a0 3 ∧ (x0 = 0 ∨ x0 = 1)) ∧ am_T d 27 8 ls st S (am_up I a0 0 x0) J Q) := tr_putz (k := 24) (by decide +kernel) (by decide +kernel) (by decide +kernel) (by decide +kernel)
theorem r27_8 : am_T d 27 8 [some (.ref a0), l1] st S I J Q = am_T d 27 9 [some (.ref a0), l1] (.ref a0 :: st) S I J Q := tr_aload_n (m := 0) (by decide +kernel) rfl
theorem r27_9 : am_T d 27 9 [l0, some (.ref a0)] st S I J Q = am_T d 27 10 [l0, some (.ref a0)] (.ref a0 :: st) S I J Q := tr_aload_n (m := 1) (by decide +kernel) rfl
theorem r27_10 : am_T d 27 10 ls (.ref a0 :: st) S I J Q = (am_is S a0 3 ∧ am_T d 27 13 ls (.int (I a0 1) :: st) S I J Q) := tr_geti (k := 28) (by decide +kernel) (by decide +kernel) (Or.inl (by decide +kernel))
theorem r27_13 : am_T d 27 13 ls (.int x0 :: .ref a0 :: st) S I J Q = (am_is S a0 3 ∧ am_T d 27 16 ls st S (am_up I a0 1 x0) J Q) := tr_puti (k := 28) (by decide +kernel) (by decide +kernel) (by decide +kernel) (by decide +kernel)
theorem r27_16 : am_T d 27 16 [l0, some (.ref a0)] st S I J Q = am_T d 27 17 [l0, some (.ref a0)] (.ref a0 :: st) S I J Q := tr_aload_n (m := 1) (by decide +kernel) rfl
theorem r27_17 : am_T d 27 17 ls (.ref a0 :: st) S I J Q = ((am_is S a0 3 ∧ am_rf S a0 2 ≠ 0) ∧ am_T d 27 20 ls (.ref (am_rf S a0 2) :: st) S I J Q) := tr_geta (k := 9) (by decide +kernel) (by decide +kernel) (by decide +kernel)
theorem r27_20 : am_T d 27 20 ls st S I J Q = am_T d 27 21 ls (.int 0 :: st) S I J Q := tr_iconst (m := 0) (by decide +kernel) (by decide)
theorem r27_21 : am_T d 27 21 [some (.ref a0), l1] st S I J Q = am_T d 27 22 [some (.ref a0), l1] (.ref a0 :: st) S I J Q := tr_aload_n (m := 0) (by decide +kernel) rfl
theorem r27_22 : am_T d 27 22 ls (.ref a0 :: st) S I J Q = ((am_is S a0 3 ∧ am_rf S a0 2 ≠ 0) ∧ am_T d 27 25 ls (.ref (am_rf S a0 2) :: st) S I J Q) := tr_geta (k := 9) (by decide +kernel) (by decide +kernel) (by decide +kernel)
theorem r27_25 : am_T d 27 25 ls st S I J Q = am_T d 27 26 ls (.int 0 :: st) S I J Q := tr_iconst (m := 0) (by decide +kernel) (by decide)
theorem r27_26 : am_T d 27 26 ls st S I J Q = am_T d 27 28 ls (.int 15 :: st) S I J Q := tr_bipush (m := 15) (by decide +kernel) (by decide)
theorem r27_28 : am_T d 27 28 ls [.int x4, .int x3, .ref a2, .int x1, .ref a0] S I J Q = (am_cpy S a2 a0 x1 x3 x4 ∧ am_T d 27 31 ls [] S (am_row I a2 (va_cpy (I a0) (I a2) x1.toNatClampNeg x3.toNatClampNeg x4.toNatClampNeg)) J Q) := tr_copy (k := 32) (by decide +kernel) (by decide +kernel) (Nat.le_of_ble_eq_true rfl)
theorem r27_31 : am_T d 27 31 [l0, some (.ref a0)] st S I J Q = am_T d 27 32 [l0, some (.ref a0)] (.ref a0 :: st) S I J Q := tr_aload_n (m := 1) (by decide +kernel) rfl
theorem r27_32 : am_T d 27 32 ls (.ref a0 :: st) S I J Q = ((am_is S a0 3 ∧ am_rf S a0 3 ≠ 0) ∧ am_T d 27 35 ls (.ref (am_rf S a0 3) :: st) S I J Q) := tr_geta (k := 15) (by decide +kernel) (by decide +kernel) (by decide +kernel)
theorem r27_35 : am_T d 27 35 ls st S I J Q = am_T d 27 36 ls (.int 0 :: st) S I J Q := tr_iconst (m := 0) (by decide +kernel) (by decide)
theorem r27_36 : am_T d 27 36 [some (.ref a0), l1] st S I J Q = am_T d 27 37 [some (.ref a0), l1] (.ref a0 :: st) S I J Q := tr_aload_n (m := 0) (by decide +kernel) rfl
theorem r27_37 : am_T d 27 37 ls (.ref a0 :: st) S I J Q = ((am_is S a0 3 ∧ am_rf S a0 3 ≠ 0) ∧ am_T d 27 40 ls (.ref (am_rf S a0 3) :: st) S I J Q) := tr_geta (k := 15) (by decide +kernel) (by decide +kernel) (by decide +kernel)
theorem r27_40 : am_T d 27 40 ls st S I J Q = am_T d 27 41 ls (.int 0 :: st) S I J Q := tr_iconst (m := 0) (by decide +kernel) (by decide)
theorem r27_41 : am_T d 27 41 ls st S I J Q = am_T d 27 43 ls (.int 15 :: st) S I J Q := tr_bipush (m := 15) (by decide +kernel) (by decide)
theorem r27_43 : am_T d 27 43 ls [.int x4, .int x3, .ref a2, .int x1, .ref a0] S I J Q = (am_cpy S a2 a0 x1 x3 x4 ∧ am_T d 27 46 ls [] S (am_row I a2 (va_cpy (I a0) (I a2) x1.toNatClampNeg x3.toNatClampNeg x4.toNatClampNeg)) J Q) := tr_copy (k := 32) (by decide +kernel) (by decide +kernel) (Nat.le_of_ble_eq_true rfl)
theorem r27_46 : am_T d 27 46 [l0, some (.ref a0)] st S I J Q = am_T d 27 47 [l0, some (.ref a0)] (.ref a0 :: st) S I J Q := tr_aload_n (m := 1) (by decide +kernel) rfl
theorem r27_47 : am_T d 27 47 ls (.ref a0 :: st) S I J Q = ((am_is S a0 3 ∧ am_rf S a0 4 ≠ 0) ∧ am_T d 27 50 ls (.ref (am_rf S a0 4) :: st) S I J Q) := tr_geta (k := 18) (by decide +kernel) (by decide +kernel) (by decide +kernel)
theorem r27_50 : am_T d 27 50 ls st S I J Q = am_T d 27 51 ls (.int 0 :: st) S I J Q := tr_iconst (m := 0) (by decide +kernel) (by decide)
theorem r27_51 : am_T d 27 51 [some (.ref a0), l1] st S I J Q = am_T d 27 52 [some (.ref a0), l1] (.ref a0 :: st) S I J Q := tr_aload_n (m := 0) (by decide +kernel) rfl
theorem r27_52 : am_T d 27 52 ls (.ref a0 :: st) S I J Q = ((am_is S a0 3 ∧ am_rf S a0 4 ≠ 0) ∧ am_T d 27 55 ls (.ref (am_rf S a0 4) :: st) S I J Q) := tr_geta (k := 18) (by decide +kernel) (by decide +kernel) (by decide +kernel)
theorem r27_55 : am_T d 27 55 ls st S I J Q = am_T d 27 56 ls (.int 0 :: st) S I J Q := tr_iconst (m := 0) (by decide +kernel) (by decide)
theorem r27_56 : am_T d 27 56 ls st S I J Q = am_T d 27 58 ls (.int 15 :: st) S I J Q := tr_bipush (m := 15) (by decide +kernel) (by decide)
theorem r27_58 : am_T d 27 58 ls [.int x4, .int x3, .ref a2, .int x1, .ref a0] S I J Q = (am_cpy S a2 a0 x1 x3 x4 ∧ am_T d 27 61 ls [] S (am_row I a2 (va_cpy (I a0) (I a2) x1.toNatClampNeg x3.toNatClampNeg x4.toNatClampNeg)) J Q) := tr_copy (k := 32) (by decide +kernel) (by decide +kernel) (Nat.le_of_ble_eq_true rfl)
theorem r27_61 : am_T d 27 61 [l0, some (.ref a0)] st S I J Q = am_T d 27 62 [l0, some (.ref a0)] (.ref a0 :: st) S I J Q := tr_aload_n (m := 1) (by decide +kernel) rfl
theorem r27_62 : am_T d 27 62 ls (.ref a0 :: st) S I J Q = ((am_is S a0 3 ∧ am_rf S a0 5 ≠ 0) ∧ am_T d 27 65 ls (.ref (am_rf S a0 5) :: st) S I J Q) := tr_geta (k := 21) (by decide +kernel) (by decide +kernel) (by decide +kernel)
theorem r27_65 : am_T d 27 65 ls st S I J Q = am_T d 27 66 ls (.int 0 :: st) S I J Q := tr_iconst (m := 0) (by decide +kernel) (by decide)
theorem r27_66 : am_T d 27 66 [some (.ref a0), l1] st S I J Q = am_T d 27 67 [some (.ref a0), l1] (.ref a0 :: st) S I J Q := tr_aload_n (m := 0) (by decide +kernel) rfl
theorem r27_67 : am_T d 27 67 ls (.ref a0 :: st) S I J Q = ((am_is S a0 3 ∧ am_rf S a0 5 ≠ 0) ∧ am_T d 27 70 ls (.ref (am_rf S a0 5) :: st) S I J Q) := tr_geta (k := 21) (by decide +kernel) (by decide +kernel) (by decide +kernel)
theorem r27_70 : am_T d 27 70 ls st S I J Q = am_T d 27 71 ls (.int 0 :: st) S I J Q := tr_iconst (m := 0) (by decide +kernel) (by decide)
theorem r27_71 : am_T d 27 71 ls st S I J Q = am_T d 27 73 ls (.int 8 :: st) S I J Q := tr_bipush (m := 8) (by decide +kernel) (by decide)
theorem r27_73 : am_T d 27 73 ls [.int x4, .int x3, .ref a2, .int x1, .ref a0] S I J Q = (am_cpy S a2 a0 x1 x3 x4 ∧ am_T d 27 76 ls [] S (am_row I a2 (va_cpy (I a0) (I a2) x1.toNatClampNeg x3.toNatClampNeg x4.toNatClampNeg)) J Q) := tr_copy (k := 32) (by decide +kernel) (by decide +kernel) (Nat.le_of_ble_eq_true rfl)
theorem r27_76 : am_T d 27 76 ls [] S I J Q = Q none S I J := tr_vret (by decide +kernel) (by decide +kernel)
-- 28 Grp.beginWithNodes(I)V; heads [12]
theorem e28 : am_C (d + 1) 28 [.ref a0, .int x1] S I J Q = am_T d 28 0 [some (.ref a0), some (.int x1), none] [] S I J Q := tr_en (Nat.le_of_ble_eq_true rfl) rfl
theorem r28_0 : am_T d 28 0 [some (.ref a0), l1, l2] st S I J Q = am_T d 28 1 [some (.ref a0), l1, l2] (.ref a0 :: st) S I J Q := tr_aload_n (m := 0) (by decide +kernel) rfl
theorem r28_1 : am_T d 28 1 ls st S I J Q = am_T d 28 2 ls (.int 0 :: st) S I J Q := tr_iconst (m := 0) (by decide +kernel) (by decide)
theorem r28_2 : am_T d 28 2 ls (.int x0 :: .ref a0 :: st) S I J Q = ((am_is S a0 3 ∧ (x0 = 0 ∨ x0 = 1)) ∧ am_T d 28 5 ls st S (am_up I a0 0 x0) J Q) := tr_putz (k := 24) (by decide +kernel) (by decide +kernel) (by decide +kernel) (by decide +kernel)
theorem r28_5 : am_T d 28 5 [some (.ref a0), l1, l2] st S I J Q = am_T d 28 6 [some (.ref a0), l1, l2] (.ref a0 :: st) S I J Q := tr_aload_n (m := 0) (by decide +kernel) rfl
theorem r28_6 : am_T d 28 6 ls st S I J Q = am_T d 28 7 ls (.int 0 :: st) S I J Q := tr_iconst (m := 0) (by decide +kernel) (by decide)
theorem r28_7 : am_T d 28 7 ls (.int x0 :: .ref a0 :: st) S I J Q = (am_is S a0 3 ∧ am_T d 28 10 ls st S (am_up I a0 1 x0) J Q) := tr_puti (k := 28) (by decide +kernel) (by decide +kernel) (by decide +kernel) (by decide +kernel)
theorem r28_10 : am_T d 28 10 ls st S I J Q = am_T d 28 11 ls (.int 0 :: st) S I J Q := tr_iconst (m := 0) (by decide +kernel) (by decide)
theorem r28_11 : am_T d 28 11 [l0, l1, l2] (.int x0 :: st) S I J Q = am_T d 28 12 [l0, am_clr l1, some (.int x0)] st S I J Q := tr_istore_n (m := 2) (by decide +kernel) (Nat.le_of_ble_eq_true rfl) rfl
theorem r28_12 : am_T d 28 12 [l0, l1, some (.int x0)] st S I J Q = am_T d 28 13 [l0, l1, some (.int x0)] (.int x0 :: st) S I J Q := tr_iload_n (m := 2) (by decide +kernel) rfl
theorem r28_13 : am_T d 28 13 [l0, some (.int x0), l2] st S I J Q = am_T d 28 14 [l0, some (.int x0), l2] (.int x0 :: st) S I J Q := tr_iload_n (m := 1) (by decide +kernel) rfl
theorem r28_14 : am_T d 28 14 ls (.int x1 :: .int x0 :: st) S I J Q = if x1 ≤ x0 then am_T d 28 30 ls st S I J Q else am_T d 28 17 ls st S I J Q := tr_icmpge (o := 16) (by decide +kernel) rfl
theorem r28_17 : am_T d 28 17 [some (.ref a0), l1, l2] st S I J Q = am_T d 28 18 [some (.ref a0), l1, l2] (.ref a0 :: st) S I J Q := tr_aload_n (m := 0) (by decide +kernel) rfl
theorem r28_18 : am_T d 28 18 ls st S I J Q = am_T d 28 19 ls (.int 1 :: st) S I J Q := tr_iconst (m := 1) (by decide +kernel) (by decide)
theorem r28_19 : am_T d 28 19 [l0, l1, some (.int x0)] st S I J Q = am_T d 28 20 [l0, l1, some (.int x0)] (.int x0 :: st) S I J Q := tr_iload_n (m := 2) (by decide +kernel) rfl
theorem r28_20 : am_T d 28 20 ls (.int x1 :: .int x0 :: st) S I J Q = am_T d 28 21 ls (.int (x0 <<< (x1 &&& 31)) :: st) S I J Q := tr_ishl (by decide +kernel)
theorem r28_21 : am_T d 28 21 ls [.int x1, .ref a0] S I J Q = (am_is S a0 3 ∧ am_C d 29 [.ref a0, .int x1] S I J (fun r S I J => am_T d 28 24 ls (am_psh r []) S I J Q)) := tr_virt (k := 38) (by decide +kernel) (by decide +kernel) rfl rfl (Nat.le_of_ble_eq_true rfl) (by decide +kernel)
theorem r28_24 : am_T d 28 24 [l0, l1, some (.int x0)] st S I J Q = am_T d 28 27 [l0, am_clr l1, some (.int (x0 + 1))] st S I J Q := tr_iinc (k := 2) (m := 1) (by decide +kernel) rfl (Nat.le_of_ble_eq_true rfl) (by decide) rfl
theorem r28_27 : am_T d 28 27 ls st S I J Q = am_T d 28 12 ls st S I J Q := tr_goto (o := -15) (by decide +kernel) rfl
theorem r28_30 : am_T d 28 30 ls [] S I J Q = Q none S I J := tr_vret (by decide +kernel) (by decide +kernel)
-- 29 Grp.add(I)V; heads []
theorem e29 : am_C (d + 1) 29 [.ref a0, .int x1] S I J Q = am_T d 29 0 [some (.ref a0), some (.int x1)] [] S I J Q := tr_en (Nat.le_of_ble_eq_true rfl) rfl
theorem r29_0 : am_T d 29 0 [some (.ref a0), l1] st S I J Q = am_T d 29 1 [some (.ref a0), l1] (.ref a0 :: st) S I J Q := tr_aload_n (m := 0) (by decide +kernel) rfl
theorem r29_1 : am_T d 29 1 ls (.ref a0 :: st) S I J Q = (am_is S a0 3 ∧ am_T d 29 4 ls (.int (I a0 1) :: st) S I J Q) := tr_geti (k := 28) (by decide +kernel) (by decide +kernel) (Or.inl (by decide +kernel))
theorem r29_4 : am_T d 29 4 ls st S I J Q = am_T d 29 6 ls (.int 15 :: st) S I J Q := tr_bipush (m := 15) (by decide +kernel) (by decide)
theorem r29_6 : am_T d 29 6 ls (.int x1 :: .int x0 :: st) S I J Q = if x0 < x1 then am_T d 29 10 ls st S I J Q else am_T d 29 9 ls st S I J Q := tr_icmplt (o := 4) (by decide +kernel) rfl
theorem r29_9 : am_T d 29 9 ls [] S I J Q = Q none S I J := tr_vret (by decide +kernel) (by decide +kernel)
theorem r29_10 : am_T d 29 10 [some (.ref a0), l1] st S I J Q = am_T d 29 11 [some (.ref a0), l1] (.ref a0 :: st) S I J Q := tr_aload_n (m := 0) (by decide +kernel) rfl
theorem r29_11 : am_T d 29 11 ls (.ref a0 :: st) S I J Q = ((am_is S a0 3 ∧ am_rf S a0 2 ≠ 0) ∧ am_T d 29 14 ls (.ref (am_rf S a0 2) :: st) S I J Q) := tr_geta (k := 9) (by decide +kernel) (by decide +kernel) (by decide +kernel)
theorem r29_14 : am_T d 29 14 [some (.ref a0), l1] st S I J Q = am_T d 29 15 [some (.ref a0), l1] (.ref a0 :: st) S I J Q := tr_aload_n (m := 0) (by decide +kernel) rfl
theorem r29_15 : am_T d 29 15 ls (.ref a0 :: st) S I J Q = (am_is S a0 3 ∧ am_T d 29 18 ls (.int (I a0 1) :: st) S I J Q) := tr_geti (k := 28) (by decide +kernel) (by decide +kernel) (Or.inl (by decide +kernel))
theorem r29_18 : am_T d 29 18 [l0, some (.int x0)] st S I J Q = am_T d 29 19 [l0, some (.int x0)] (.int x0 :: st) S I J Q := tr_iload_n (m := 1) (by decide +kernel) rfl
theorem r29_19 : am_T d 29 19 ls (.int x1 :: .int x0 :: .ref a0 :: st) S I J Q = (am_ixw S a0 20 x0 ∧ am_T d 29 20 ls st S (am_up I a0 x0.toNatClampNeg x1) J Q) := tr_iast (by decide +kernel)
theorem r29_20 : am_T d 29 20 [some (.ref a0), l1] st S I J Q = am_T d 29 21 [some (.ref a0), l1] (.ref a0 :: st) S I J Q := tr_aload_n (m := 0) (by decide +kernel) rfl
theorem r29_21 : am_T d 29 21 ls (.ref a0 :: st) S I J Q = ((am_is S a0 3 ∧ am_rf S a0 3 ≠ 0) ∧ am_T d 29 24 ls (.ref (am_rf S a0 3) :: st) S I J Q) := tr_geta (k := 15) (by decide +kernel) (by decide +kernel) (by decide +kernel)
theorem r29_24 : am_T d 29 24 [some (.ref a0), l1] st S I J Q = am_T d 29 25 [some (.ref a0), l1] (.ref a0 :: st) S I J Q := tr_aload_n (m := 0) (by decide +kernel) rfl
theorem r29_25 : am_T d 29 25 ls (.ref a0 :: st) S I J Q = (am_is S a0 3 ∧ am_T d 29 28 ls (.int (I a0 1) :: st) S I J Q) := tr_geti (k := 28) (by decide +kernel) (by decide +kernel) (Or.inl (by decide +kernel))
theorem r29_28 : am_T d 29 28 ls st S I J Q = am_T d 29 29 ls (.int 0 :: st) S I J Q := tr_iconst (m := 0) (by decide +kernel) (by decide)
theorem r29_29 : am_T d 29 29 ls (.int x1 :: .int x0 :: .ref a0 :: st) S I J Q = (am_ixw S a0 20 x0 ∧ am_T d 29 30 ls st S (am_up I a0 x0.toNatClampNeg x1) J Q) := tr_iast (by decide +kernel)
theorem r29_30 : am_T d 29 30 [some (.ref a0), l1] st S I J Q = am_T d 29 31 [some (.ref a0), l1] (.ref a0 :: st) S I J Q := tr_aload_n (m := 0) (by decide +kernel) rfl
theorem r29_31 : am_T d 29 31 ls (.ref a0 :: st) S I J Q = ((am_is S a0 3 ∧ am_rf S a0 4 ≠ 0) ∧ am_T d 29 34 ls (.ref (am_rf S a0 4) :: st) S I J Q) := tr_geta (k := 18) (by decide +kernel) (by decide +kernel) (by decide +kernel)
theorem r29_34 : am_T d 29 34 [some (.ref a0), l1] st S I J Q = am_T d 29 35 [some (.ref a0), l1] (.ref a0 :: st) S I J Q := tr_aload_n (m := 0) (by decide +kernel) rfl
theorem r29_35 : am_T d 29 35 ls (.ref a0 :: st) S I J Q = (am_is S a0 3 ∧ am_T d 29 38 ls (.int (I a0 1) :: st) S I J Q) := tr_geti (k := 28) (by decide +kernel) (by decide +kernel) (Or.inl (by decide +kernel))
theorem r29_38 : am_T d 29 38 ls st S I J Q = am_T d 29 39 ls (.int (-1) :: st) S I J Q := tr_iconst (m := -1) (by decide +kernel) (by decide)
theorem r29_39 : am_T d 29 39 ls (.int x1 :: .int x0 :: .ref a0 :: st) S I J Q = (am_ixw S a0 20 x0 ∧ am_T d 29 40 ls st S (am_up I a0 x0.toNatClampNeg x1) J Q) := tr_iast (by decide +kernel)
theorem r29_40 : am_T d 29 40 [some (.ref a0), l1] st S I J Q = am_T d 29 41 [some (.ref a0), l1] (.ref a0 :: st) S I J Q := tr_aload_n (m := 0) (by decide +kernel) rfl
theorem r29_41 : am_T d 29 41 ls (.ref a0 :: st) S I J Q = am_T d 29 42 ls (.ref a0 :: .ref a0 :: st) S I J Q := tr_dupa (by decide +kernel)
theorem r29_42 : am_T d 29 42 ls (.ref a0 :: st) S I J Q = (am_is S a0 3 ∧ am_T d 29 45 ls (.int (I a0 1) :: st) S I J Q) := tr_geti (k := 28) (by decide +kernel) (by decide +kernel) (Or.inl (by decide +kernel))
theorem r29_45 : am_T d 29 45 ls st S I J Q = am_T d 29 46 ls (.int 1 :: st) S I J Q := tr_iconst (m := 1) (by decide +kernel) (by decide)
theorem r29_46 : am_T d 29 46 ls (.int x1 :: .int x0 :: st) S I J Q = am_T d 29 47 ls (.int (x0 + x1) :: st) S I J Q := tr_iadd (by decide +kernel)
theorem r29_47 : am_T d 29 47 ls (.int x0 :: .ref a0 :: st) S I J Q = (am_is S a0 3 ∧ am_T d 29 50 ls st S (am_up I a0 1 x0) J Q) := tr_puti (k := 28) (by decide +kernel) (by decide +kernel) (by decide +kernel) (by decide +kernel)
theorem r29_50 : am_T d 29 50 ls [] S I J Q = Q none S I J := tr_vret (by decide +kernel) (by decide +kernel)
-- 30 Grp.contains(LArborescenceFinder$Graph;I)Z; heads []
theorem e30 : am_C (d + 1) 30 [.ref a0, .ref a1, .int x2] S I J Q = am_T d 30 0 [some (.ref a0), some (.ref a1), some (.int x2)] [] S I J Q := tr_en (Nat.le_of_ble_eq_true rfl) rfl
theorem r30_0 : am_T d 30 0 [some (.ref a0), l1, l2] st S I J Q = am_T d 30 1 [some (.ref a0), l1, l2] (.ref a0 :: st) S I J Q := tr_aload_n (m := 0) (by decide +kernel) rfl
theorem r30_1 : am_T d 30 1 ls (.ref a0 :: st) S I J Q = ((am_is S a0 3 ∧ am_rf S a0 5 ≠ 0) ∧ am_T d 30 4 ls (.ref (am_rf S a0 5) :: st) S I J Q) := tr_geta (k := 21) (by decide +kernel) (by decide +kernel) (by decide +kernel)
theorem r30_4 : am_T d 30 4 [l0, some (.ref a0), l2] st S I J Q = am_T d 30 5 [l0, some (.ref a0), l2] (.ref a0 :: st) S I J Q := tr_aload_n (m := 1) (by decide +kernel) rfl
theorem r30_5 : am_T d 30 5 ls (.ref a0 :: st) S I J Q = ((am_is S a0 1 ∧ am_rf S a0 4 ≠ 0) ∧ am_T d 30 8 ls (.ref (am_rf S a0 4) :: st) S I J Q) := tr_geta (k := 42) (by decide +kernel) (by decide +kernel) (by decide +kernel)
theorem r30_8 : am_T d 30 8 [l0, l1, some (.int x0)] st S I J Q = am_T d 30 9 [l0, l1, some (.int x0)] (.int x0 :: st) S I J Q := tr_iload_n (m := 2) (by decide +kernel) rfl
theorem r30_9 : am_T d 30 9 ls (.int x0 :: .ref a0 :: st) S I J Q = (am_ix S a0 20 x0 ∧ am_T d 30 10 ls (.int (I a0 x0.toNatClampNeg) :: st) S I J Q) := tr_iald (by decide +kernel)
theorem r30_10 : am_T d 30 10 ls (.int x0 :: .ref a0 :: st) S I J Q = (am_ix S a0 20 x0 ∧ am_T d 30 11 ls (.int (I a0 x0.toNatClampNeg) :: st) S I J Q) := tr_iald (by decide +kernel)
theorem r30_11 : am_T d 30 11 [l0, l1, some (.int x0)] st S I J Q = am_T d 30 12 [l0, l1, some (.int x0)] (.int x0 :: st) S I J Q := tr_iload_n (m := 2) (by decide +kernel) rfl
theorem r30_12 : am_T d 30 12 ls (.int x1 :: .int x0 :: st) S I J Q = if x0 = x1 then am_T d 30 15 ls st S I J Q else am_T d 30 19 ls st S I J Q := tr_icmpne (o := 7) (by decide +kernel) rfl
theorem r30_15 : am_T d 30 15 ls st S I J Q = am_T d 30 16 ls (.int 1 :: st) S I J Q := tr_iconst (m := 1) (by decide +kernel) (by decide)
theorem r30_16 : am_T d 30 16 ls st S I J Q = am_T d 30 20 ls st S I J Q := tr_goto (o := 4) (by decide +kernel) rfl
theorem r30_19 : am_T d 30 19 ls st S I J Q = am_T d 30 20 ls (.int 0 :: st) S I J Q := tr_iconst (m := 0) (by decide +kernel) (by decide)
theorem r30_20 : am_T d 30 20 ls [.int x0] S I J Q = ((x0 = 0 ∨ x0 = 1) ∧ Q (some (.int x0)) S I J) := tr_iretz (by decide +kernel) (by decide +kernel)
-- 31 Grp.costBy(LArborescenceFinder$Graph;[I)I; heads [5]
theorem e31 : am_C (d + 1) 31 [.ref a0, .ref a1, .ref a2] S I J Q = am_T d 31 0 [some (.ref a0), some (.ref a1), some (.ref a2), none, none] [] S I J Q := tr_en (Nat.le_of_ble_eq_true rfl) rfl
theorem r31_0 : am_T d 31 0 ls st S I J Q = am_T d 31 1 ls (.int 0 :: st) S I J Q := tr_iconst (m := 0) (by decide +kernel) (by decide)
theorem r31_1 : am_T d 31 1 [l0, l1, l2, l3, l4] (.int x0 :: st) S I J Q = am_T d 31 2 [l0, l1, am_clr l2, some (.int x0), l4] st S I J Q := tr_istore_n (m := 3) (by decide +kernel) (Nat.le_of_ble_eq_true rfl) rfl
theorem r31_2 : am_T d 31 2 ls st S I J Q = am_T d 31 3 ls (.int 0 :: st) S I J Q := tr_iconst (m := 0) (by decide +kernel) (by decide)
theorem r31_3 : am_T d 31 3 [l0, l1, l2, l3, l4] (.int x0 :: st) S I J Q = am_T d 31 5 [l0, l1, l2, am_clr l3, some (.int x0)] st S I J Q := tr_istore (k := 4) (by decide +kernel) (Nat.le_of_ble_eq_true rfl) rfl
theorem r31_5 : am_T d 31 5 [l0, l1, l2, l3, some (.int x0)] st S I J Q = am_T d 31 7 [l0, l1, l2, l3, some (.int x0)] (.int x0 :: st) S I J Q := tr_iload (k := 4) (by decide +kernel) rfl
theorem r31_7 : am_T d 31 7 [l0, some (.ref a0), l2, l3, l4] st S I J Q = am_T d 31 8 [l0, some (.ref a0), l2, l3, l4] (.ref a0 :: st) S I J Q := tr_aload_n (m := 1) (by decide +kernel) rfl
theorem r31_8 : am_T d 31 8 ls (.ref a0 :: st) S I J Q = (am_is S a0 1 ∧ am_T d 31 11 ls (.int (I a0 0) :: st) S I J Q) := tr_geti (k := 47) (by decide +kernel) (by decide +kernel) (Or.inl (by decide +kernel))
theorem r31_11 : am_T d 31 11 ls (.int x1 :: .int x0 :: st) S I J Q = if x1 ≤ x0 then am_T d 31 43 ls st S I J Q else am_T d 31 14 ls st S I J Q := tr_icmpge (o := 32) (by decide +kernel) rfl
theorem r31_14 : am_T d 31 14 [some (.ref a0), l1, l2, l3, l4] st S I J Q = am_T d 31 15 [some (.ref a0), l1, l2, l3, l4] (.ref a0 :: st) S I J Q := tr_aload_n (m := 0) (by decide +kernel) rfl
theorem r31_15 : am_T d 31 15 ls (.ref a0 :: st) S I J Q = ((am_is S a0 3 ∧ am_rf S a0 5 ≠ 0) ∧ am_T d 31 18 ls (.ref (am_rf S a0 5) :: st) S I J Q) := tr_geta (k := 21) (by decide +kernel) (by decide +kernel) (by decide +kernel)
theorem r31_18 : am_T d 31 18 [l0, l1, l2, l3, some (.int x0)] st S I J Q = am_T d 31 20 [l0, l1, l2, l3, some (.int x0)] (.int x0 :: st) S I J Q := tr_iload (k := 4) (by decide +kernel) rfl
theorem r31_20 : am_T d 31 20 ls (.int x0 :: .ref a0 :: st) S I J Q = (am_ix S a0 20 x0 ∧ am_T d 31 21 ls (.int (I a0 x0.toNatClampNeg) :: st) S I J Q) := tr_iald (by decide +kernel)
theorem r31_21 : am_T d 31 21 ls st S I J Q = am_T d 31 22 ls (.int (-1) :: st) S I J Q := tr_iconst (m := -1) (by decide +kernel) (by decide)
theorem r31_22 : am_T d 31 22 ls (.int x1 :: .int x0 :: st) S I J Q = if x0 = x1 then am_T d 31 37 ls st S I J Q else am_T d 31 25 ls st S I J Q := tr_icmpeq (o := 15) (by decide +kernel) rfl
theorem r31_25 : am_T d 31 25 [l0, l1, l2, some (.int x0), l4] st S I J Q = am_T d 31 26 [l0, l1, l2, some (.int x0), l4] (.int x0 :: st) S I J Q := tr_iload_n (m := 3) (by decide +kernel) rfl
theorem r31_26 : am_T d 31 26 [l0, l1, some (.ref a0), l3, l4] st S I J Q = am_T d 31 27 [l0, l1, some (.ref a0), l3, l4] (.ref a0 :: st) S I J Q := tr_aload_n (m := 2) (by decide +kernel) rfl
theorem r31_27 : am_T d 31 27 [some (.ref a0), l1, l2, l3, l4] st S I J Q = am_T d 31 28 [some (.ref a0), l1, l2, l3, l4] (.ref a0 :: st) S I J Q := tr_aload_n (m := 0) (by decide +kernel) rfl
theorem r31_28 : am_T d 31 28 ls (.ref a0 :: st) S I J Q = ((am_is S a0 3 ∧ am_rf S a0 5 ≠ 0) ∧ am_T d 31 31 ls (.ref (am_rf S a0 5) :: st) S I J Q) := tr_geta (k := 21) (by decide +kernel) (by decide +kernel) (by decide +kernel)
theorem r31_31 : am_T d 31 31 [l0, l1, l2, l3, some (.int x0)] st S I J Q = am_T d 31 33 [l0, l1, l2, l3, some (.int x0)] (.int x0 :: st) S I J Q := tr_iload (k := 4) (by decide +kernel) rfl
theorem r31_33 : am_T d 31 33 ls (.int x0 :: .ref a0 :: st) S I J Q = (am_ix S a0 20 x0 ∧ am_T d 31 34 ls (.int (I a0 x0.toNatClampNeg) :: st) S I J Q) := tr_iald (by decide +kernel)
theorem r31_34 : am_T d 31 34 ls (.int x0 :: .ref a0 :: st) S I J Q = (am_ix S a0 20 x0 ∧ am_T d 31 35 ls (.int (I a0 x0.toNatClampNeg) :: st) S I J Q) := tr_iald (by decide +kernel)
theorem r31_35 : am_T d 31 35 ls (.int x1 :: .int x0 :: st) S I J Q = am_T d 31 36 ls (.int (x0 + x1) :: st) S I J Q := tr_iadd (by decide +kernel)
theorem r31_36 : am_T d 31 36 [l0, l1, l2, l3, l4] (.int x0 :: st) S I J Q = am_T d 31 37 [l0, l1, am_clr l2, some (.int x0), l4] st S I J Q := tr_istore_n (m := 3) (by decide +kernel) (Nat.le_of_ble_eq_true rfl) rfl
theorem r31_37 : am_T d 31 37 [l0, l1, l2, l3, some (.int x0)] st S I J Q = am_T d 31 40 [l0, l1, l2, am_clr l3, some (.int (x0 + 1))] st S I J Q := tr_iinc (k := 4) (m := 1) (by decide +kernel) rfl (Nat.le_of_ble_eq_true rfl) (by decide) rfl
theorem r31_40 : am_T d 31 40 ls st S I J Q = am_T d 31 5 ls st S I J Q := tr_goto (o := -35) (by decide +kernel) rfl
theorem r31_43 : am_T d 31 43 [l0, l1, l2, some (.int x0), l4] st S I J Q = am_T d 31 44 [l0, l1, l2, some (.int x0), l4] (.int x0 :: st) S I J Q := tr_iload_n (m := 3) (by decide +kernel) rfl
theorem r31_44 : am_T d 31 44 ls [.int x0] S I J Q = Q (some (.int x0)) S I J := tr_ireti (by decide +kernel) (by decide +kernel)
-- 32 Grp.arcsFrom(LArborescenceFinder$Graph;I)I; heads [5]
theorem e32 : am_C (d + 1) 32 [.ref a0, .ref a1, .int x2] S I J Q = am_T d 32 0 [some (.ref a0), some (.ref a1), some (.int x2), none, none] [] S I J Q := tr_en (Nat.le_of_ble_eq_true rfl) rfl
theorem r32_0 : am_T d 32 0 ls st S I J Q = am_T d 32 1 ls (.int 0 :: st) S I J Q := tr_iconst (m := 0) (by decide +kernel) (by decide)
theorem r32_1 : am_T d 32 1 [l0, l1, l2, l3, l4] (.int x0 :: st) S I J Q = am_T d 32 2 [l0, l1, am_clr l2, some (.int x0), l4] st S I J Q := tr_istore_n (m := 3) (by decide +kernel) (Nat.le_of_ble_eq_true rfl) rfl
theorem r32_2 : am_T d 32 2 ls st S I J Q = am_T d 32 3 ls (.int 0 :: st) S I J Q := tr_iconst (m := 0) (by decide +kernel) (by decide)
theorem r32_3 : am_T d 32 3 [l0, l1, l2, l3, l4] (.int x0 :: st) S I J Q = am_T d 32 5 [l0, l1, l2, am_clr l3, some (.int x0)] st S I J Q := tr_istore (k := 4) (by decide +kernel) (Nat.le_of_ble_eq_true rfl) rfl
theorem r32_5 : am_T d 32 5 [l0, l1, l2, l3, some (.int x0)] st S I J Q = am_T d 32 7 [l0, l1, l2, l3, some (.int x0)] (.int x0 :: st) S I J Q := tr_iload (k := 4) (by decide +kernel) rfl
theorem r32_7 : am_T d 32 7 [l0, some (.ref a0), l2, l3, l4] st S I J Q = am_T d 32 8 [l0, some (.ref a0), l2, l3, l4] (.ref a0 :: st) S I J Q := tr_aload_n (m := 1) (by decide +kernel) rfl
theorem r32_8 : am_T d 32 8 ls (.ref a0 :: st) S I J Q = (am_is S a0 1 ∧ am_T d 32 11 ls (.int (I a0 0) :: st) S I J Q) := tr_geti (k := 47) (by decide +kernel) (by decide +kernel) (Or.inl (by decide +kernel))
theorem r32_11 : am_T d 32 11 ls (.int x1 :: .int x0 :: st) S I J Q = if x1 ≤ x0 then am_T d 32 50 ls st S I J Q else am_T d 32 14 ls st S I J Q := tr_icmpge (o := 39) (by decide +kernel) rfl
theorem r32_14 : am_T d 32 14 [some (.ref a0), l1, l2, l3, l4] st S I J Q = am_T d 32 15 [some (.ref a0), l1, l2, l3, l4] (.ref a0 :: st) S I J Q := tr_aload_n (m := 0) (by decide +kernel) rfl
theorem r32_15 : am_T d 32 15 ls (.ref a0 :: st) S I J Q = ((am_is S a0 3 ∧ am_rf S a0 5 ≠ 0) ∧ am_T d 32 18 ls (.ref (am_rf S a0 5) :: st) S I J Q) := tr_geta (k := 21) (by decide +kernel) (by decide +kernel) (by decide +kernel)
theorem r32_18 : am_T d 32 18 [l0, l1, l2, l3, some (.int x0)] st S I J Q = am_T d 32 20 [l0, l1, l2, l3, some (.int x0)] (.int x0 :: st) S I J Q := tr_iload (k := 4) (by decide +kernel) rfl
theorem r32_20 : am_T d 32 20 ls (.int x0 :: .ref a0 :: st) S I J Q = (am_ix S a0 20 x0 ∧ am_T d 32 21 ls (.int (I a0 x0.toNatClampNeg) :: st) S I J Q) := tr_iald (by decide +kernel)
theorem r32_21 : am_T d 32 21 ls st S I J Q = am_T d 32 22 ls (.int (-1) :: st) S I J Q := tr_iconst (m := -1) (by decide +kernel) (by decide)
theorem r32_22 : am_T d 32 22 ls (.int x1 :: .int x0 :: st) S I J Q = if x0 = x1 then am_T d 32 44 ls st S I J Q else am_T d 32 25 ls st S I J Q := tr_icmpeq (o := 22) (by decide +kernel) rfl
theorem r32_25 : am_T d 32 25 [l0, some (.ref a0), l2, l3, l4] st S I J Q = am_T d 32 26 [l0, some (.ref a0), l2, l3, l4] (.ref a0 :: st) S I J Q := tr_aload_n (m := 1) (by decide +kernel) rfl
theorem r32_26 : am_T d 32 26 ls (.ref a0 :: st) S I J Q = ((am_is S a0 1 ∧ am_rf S a0 3 ≠ 0) ∧ am_T d 32 29 ls (.ref (am_rf S a0 3) :: st) S I J Q) := tr_geta (k := 50) (by decide +kernel) (by decide +kernel) (by decide +kernel)
theorem r32_29 : am_T d 32 29 [some (.ref a0), l1, l2, l3, l4] st S I J Q = am_T d 32 30 [some (.ref a0), l1, l2, l3, l4] (.ref a0 :: st) S I J Q := tr_aload_n (m := 0) (by decide +kernel) rfl
theorem r32_30 : am_T d 32 30 ls (.ref a0 :: st) S I J Q = ((am_is S a0 3 ∧ am_rf S a0 5 ≠ 0) ∧ am_T d 32 33 ls (.ref (am_rf S a0 5) :: st) S I J Q) := tr_geta (k := 21) (by decide +kernel) (by decide +kernel) (by decide +kernel)
theorem r32_33 : am_T d 32 33 [l0, l1, l2, l3, some (.int x0)] st S I J Q = am_T d 32 35 [l0, l1, l2, l3, some (.int x0)] (.int x0 :: st) S I J Q := tr_iload (k := 4) (by decide +kernel) rfl
theorem r32_35 : am_T d 32 35 ls (.int x0 :: .ref a0 :: st) S I J Q = (am_ix S a0 20 x0 ∧ am_T d 32 36 ls (.int (I a0 x0.toNatClampNeg) :: st) S I J Q) := tr_iald (by decide +kernel)
theorem r32_36 : am_T d 32 36 ls (.int x0 :: .ref a0 :: st) S I J Q = (am_ix S a0 20 x0 ∧ am_T d 32 37 ls (.int (I a0 x0.toNatClampNeg) :: st) S I J Q) := tr_iald (by decide +kernel)
theorem r32_37 : am_T d 32 37 [l0, l1, some (.int x0), l3, l4] st S I J Q = am_T d 32 38 [l0, l1, some (.int x0), l3, l4] (.int x0 :: st) S I J Q := tr_iload_n (m := 2) (by decide +kernel) rfl
theorem r32_38 : am_T d 32 38 ls (.int x1 :: .int x0 :: st) S I J Q = if x0 = x1 then am_T d 32 41 ls st S I J Q else am_T d 32 44 ls st S I J Q := tr_icmpne (o := 6) (by decide +kernel) rfl
theorem r32_41 : am_T d 32 41 [l0, l1, l2, some (.int x0), l4] st S I J Q = am_T d 32 44 [l0, l1, am_clr l2, some (.int (x0 + 1)), l4] st S I J Q := tr_iinc (k := 3) (m := 1) (by decide +kernel) rfl (Nat.le_of_ble_eq_true rfl) (by decide) rfl
theorem r32_44 : am_T d 32 44 [l0, l1, l2, l3, some (.int x0)] st S I J Q = am_T d 32 47 [l0, l1, l2, am_clr l3, some (.int (x0 + 1))] st S I J Q := tr_iinc (k := 4) (m := 1) (by decide +kernel) rfl (Nat.le_of_ble_eq_true rfl) (by decide) rfl
theorem r32_47 : am_T d 32 47 ls st S I J Q = am_T d 32 5 ls st S I J Q := tr_goto (o := -42) (by decide +kernel) rfl
theorem r32_50 : am_T d 32 50 [l0, l1, l2, some (.int x0), l4] st S I J Q = am_T d 32 51 [l0, l1, l2, some (.int x0), l4] (.int x0 :: st) S I J Q := tr_iload_n (m := 3) (by decide +kernel) rfl
theorem r32_51 : am_T d 32 51 ls [.int x0] S I J Q = Q (some (.int x0)) S I J := tr_ireti (by decide +kernel) (by decide +kernel)
-- 33 Grp.reducedCostOf(LArborescenceFinder$Graph;I)I; heads [10]
theorem e33 : am_C (d + 1) 33 [.ref a0, .ref a1, .int x2] S I J Q = am_T d 33 0 [some (.ref a0), some (.ref a1), some (.int x2), none, none] [] S I J Q := tr_en (Nat.le_of_ble_eq_true rfl) rfl
theorem r33_0 : am_T d 33 0 [l0, some (.ref a0), l2, l3, l4] st S I J Q = am_T d 33 1 [l0, some (.ref a0), l2, l3, l4] (.ref a0 :: st) S I J Q := tr_aload_n (m := 1) (by decide +kernel) rfl
theorem r33_1 : am_T d 33 1 ls (.ref a0 :: st) S I J Q = ((am_is S a0 1 ∧ am_rf S a0 5 ≠ 0) ∧ am_T d 33 4 ls (.ref (am_rf S a0 5) :: st) S I J Q) := tr_geta (k := 53) (by decide +kernel) (by decide +kernel) (by decide +kernel)
theorem r33_4 : am_T d 33 4 [l0, l1, some (.int x0), l3, l4] st S I J Q = am_T d 33 5 [l0, l1, some (.int x0), l3, l4] (.int x0 :: st) S I J Q := tr_iload_n (m := 2) (by decide +kernel) rfl
theorem r33_5 : am_T d 33 5 ls (.int x0 :: .ref a0 :: st) S I J Q = (am_ix S a0 20 x0 ∧ am_T d 33 6 ls (.int (I a0 x0.toNatClampNeg) :: st) S I J Q) := tr_iald (by decide +kernel)
theorem r33_6 : am_T d 33 6 [l0, l1, l2, l3, l4] (.int x0 :: st) S I J Q = am_T d 33 7 [l0, l1, am_clr l2, some (.int x0), l4] st S I J Q := tr_istore_n (m := 3) (by decide +kernel) (Nat.le_of_ble_eq_true rfl) rfl
theorem r33_7 : am_T d 33 7 ls st S I J Q = am_T d 33 8 ls (.int 0 :: st) S I J Q := tr_iconst (m := 0) (by decide +kernel) (by decide)
theorem r33_8 : am_T d 33 8 [l0, l1, l2, l3, l4] (.int x0 :: st) S I J Q = am_T d 33 10 [l0, l1, l2, am_clr l3, some (.int x0)] st S I J Q := tr_istore (k := 4) (by decide +kernel) (Nat.le_of_ble_eq_true rfl) rfl
theorem r33_10 : am_T d 33 10 [l0, l1, l2, l3, some (.int x0)] st S I J Q = am_T d 33 12 [l0, l1, l2, l3, some (.int x0)] (.int x0 :: st) S I J Q := tr_iload (k := 4) (by decide +kernel) rfl
theorem r33_12 : am_T d 33 12 [some (.ref a0), l1, l2, l3, l4] st S I J Q = am_T d 33 13 [some (.ref a0), l1, l2, l3, l4] (.ref a0 :: st) S I J Q := tr_aload_n (m := 0) (by decide +kernel) rfl
theorem r33_13 : am_T d 33 13 ls (.ref a0 :: st) S I J Q = (am_is S a0 3 ∧ am_T d 33 16 ls (.int (I a0 1) :: st) S I J Q) := tr_geti (k := 28) (by decide +kernel) (by decide +kernel) (Or.inl (by decide +kernel))
theorem r33_16 : am_T d 33 16 ls (.int x1 :: .int x0 :: st) S I J Q = if x1 ≤ x0 then am_T d 33 50 ls st S I J Q else am_T d 33 19 ls st S I J Q := tr_icmpge (o := 34) (by decide +kernel) rfl
theorem r33_19 : am_T d 33 19 [l0, some (.ref a0), l2, l3, l4] st S I J Q = am_T d 33 20 [l0, some (.ref a0), l2, l3, l4] (.ref a0 :: st) S I J Q := tr_aload_n (m := 1) (by decide +kernel) rfl
theorem r33_20 : am_T d 33 20 [l0, l1, some (.int x0), l3, l4] st S I J Q = am_T d 33 21 [l0, l1, some (.int x0), l3, l4] (.int x0 :: st) S I J Q := tr_iload_n (m := 2) (by decide +kernel) rfl
theorem r33_21 : am_T d 33 21 [some (.ref a0), l1, l2, l3, l4] st S I J Q = am_T d 33 22 [some (.ref a0), l1, l2, l3, l4] (.ref a0 :: st) S I J Q := tr_aload_n (m := 0) (by decide +kernel) rfl
theorem r33_22 : am_T d 33 22 ls (.ref a0 :: st) S I J Q = ((am_is S a0 3 ∧ am_rf S a0 2 ≠ 0) ∧ am_T d 33 25 ls (.ref (am_rf S a0 2) :: st) S I J Q) := tr_geta (k := 9) (by decide +kernel) (by decide +kernel) (by decide +kernel)
theorem r33_25 : am_T d 33 25 [l0, l1, l2, l3, some (.int x0)] st S I J Q = am_T d 33 27 [l0, l1, l2, l3, some (.int x0)] (.int x0 :: st) S I J Q := tr_iload (k := 4) (by decide +kernel) rfl
theorem r33_27 : am_T d 33 27 ls (.int x0 :: .ref a0 :: st) S I J Q = (am_ix S a0 20 x0 ∧ am_T d 33 28 ls (.int (I a0 x0.toNatClampNeg) :: st) S I J Q) := tr_iald (by decide +kernel)
theorem r33_28 : am_T d 33 28 ls [.int x2, .int x1, .ref a0] S I J Q = (am_is S a0 1 ∧ am_C d 18 [.ref a0, .int x1, .int x2] S I J (fun r S I J => am_T d 33 31 ls (am_psh r []) S I J Q)) := tr_virt (k := 56) (by decide +kernel) (by decide +kernel) rfl rfl (Nat.le_of_ble_eq_true rfl) (by decide +kernel)
theorem r33_31 : am_T d 33 31 ls (.int x0 :: st) S I J Q = if x0 = 0 then am_T d 33 44 ls st S I J Q else am_T d 33 34 ls st S I J Q := tr_ifeq (o := 13) (by decide +kernel) rfl
theorem r33_34 : am_T d 33 34 [l0, l1, l2, some (.int x0), l4] st S I J Q = am_T d 33 35 [l0, l1, l2, some (.int x0), l4] (.int x0 :: st) S I J Q := tr_iload_n (m := 3) (by decide +kernel) rfl
theorem r33_35 : am_T d 33 35 [some (.ref a0), l1, l2, l3, l4] st S I J Q = am_T d 33 36 [some (.ref a0), l1, l2, l3, l4] (.ref a0 :: st) S I J Q := tr_aload_n (m := 0) (by decide +kernel) rfl
theorem r33_36 : am_T d 33 36 ls (.ref a0 :: st) S I J Q = ((am_is S a0 3 ∧ am_rf S a0 3 ≠ 0) ∧ am_T d 33 39 ls (.ref (am_rf S a0 3) :: st) S I J Q) := tr_geta (k := 15) (by decide +kernel) (by decide +kernel) (by decide +kernel)
theorem r33_39 : am_T d 33 39 [l0, l1, l2, l3, some (.int x0)] st S I J Q = am_T d 33 41 [l0, l1, l2, l3, some (.int x0)] (.int x0 :: st) S I J Q := tr_iload (k := 4) (by decide +kernel) rfl
theorem r33_41 : am_T d 33 41 ls (.int x0 :: .ref a0 :: st) S I J Q = (am_ix S a0 20 x0 ∧ am_T d 33 42 ls (.int (I a0 x0.toNatClampNeg) :: st) S I J Q) := tr_iald (by decide +kernel)
theorem r33_42 : am_T d 33 42 ls (.int x1 :: .int x0 :: st) S I J Q = am_T d 33 43 ls (.int (x0 - x1) :: st) S I J Q := tr_isub (by decide +kernel)
theorem r33_43 : am_T d 33 43 [l0, l1, l2, l3, l4] (.int x0 :: st) S I J Q = am_T d 33 44 [l0, l1, am_clr l2, some (.int x0), l4] st S I J Q := tr_istore_n (m := 3) (by decide +kernel) (Nat.le_of_ble_eq_true rfl) rfl
theorem r33_44 : am_T d 33 44 [l0, l1, l2, l3, some (.int x0)] st S I J Q = am_T d 33 47 [l0, l1, l2, am_clr l3, some (.int (x0 + 1))] st S I J Q := tr_iinc (k := 4) (m := 1) (by decide +kernel) rfl (Nat.le_of_ble_eq_true rfl) (by decide) rfl
theorem r33_47 : am_T d 33 47 ls st S I J Q = am_T d 33 10 ls st S I J Q := tr_goto (o := -37) (by decide +kernel) rfl
theorem r33_50 : am_T d 33 50 [l0, l1, l2, some (.int x0), l4] st S I J Q = am_T d 33 51 [l0, l1, l2, some (.int x0), l4] (.int x0 :: st) S I J Q := tr_iload_n (m := 3) (by decide +kernel) rfl
theorem r33_51 : am_T d 33 51 ls [.int x0] S I J Q = Q (some (.int x0)) S I J := tr_ireti (by decide +kernel) (by decide +kernel)
-- 34 Grp.followNew(LArborescenceFinder$Graph;I)Z; heads []
theorem e34 : am_C (d + 1) 34 [.ref a0, .ref a1, .int x2] S I J Q = am_T d 34 0 [some (.ref a0), some (.ref a1), some (.int x2)] [] S I J Q := tr_en (Nat.le_of_ble_eq_true rfl) rfl
theorem r34_0 : am_T d 34 0 [some (.ref a0), l1, l2] st S I J Q = am_T d 34 1 [some (.ref a0), l1, l2] (.ref a0 :: st) S I J Q := tr_aload_n (m := 0) (by decide +kernel) rfl
theorem r34_1 : am_T d 34 1 ls (.ref a0 :: st) S I J Q = (am_is S a0 3 ∧ am_T d 34 4 ls (.int (I a0 0) :: st) S I J Q) := tr_geti (k := 24) (by decide +kernel) (by decide +kernel) (Or.inr (by decide +kernel))
theorem r34_4 : am_T d 34 4 ls (.int x0 :: st) S I J Q = if x0 = 0 then am_T d 34 20 ls st S I J Q else am_T d 34 7 ls st S I J Q := tr_ifeq (o := 16) (by decide +kernel) rfl
theorem r34_7 : am_T d 34 7 [some (.ref a0), l1, l2] st S I J Q = am_T d 34 8 [some (.ref a0), l1, l2] (.ref a0 :: st) S I J Q := tr_aload_n (m := 0) (by decide +kernel) rfl
theorem r34_8 : am_T d 34 8 [l0, some (.ref a0), l2] st S I J Q = am_T d 34 9 [l0, some (.ref a0), l2] (.ref a0 :: st) S I J Q := tr_aload_n (m := 1) (by decide +kernel) rfl
theorem r34_9 : am_T d 34 9 [l0, l1, some (.int x0)] st S I J Q = am_T d 34 10 [l0, l1, some (.int x0)] (.int x0 :: st) S I J Q := tr_iload_n (m := 2) (by decide +kernel) rfl
theorem r34_10 : am_T d 34 10 ls [.int x2, .ref a1, .ref a0] S I J Q = (am_is S a0 3 ∧ am_C d 33 [.ref a0, .ref a1, .int x2] S I J (fun r S I J => am_T d 34 13 ls (am_psh r []) S I J Q)) := tr_virt (k := 60) (by decide +kernel) (by decide +kernel) rfl rfl (Nat.le_of_ble_eq_true rfl) (by decide +kernel)
theorem r34_13 : am_T d 34 13 ls (.int x0 :: st) S I J Q = if x0 < 0 then am_T d 34 20 ls st S I J Q else am_T d 34 16 ls st S I J Q := tr_iflt (o := 7) (by decide +kernel) rfl
theorem r34_16 : am_T d 34 16 ls st S I J Q = am_T d 34 17 ls (.int 1 :: st) S I J Q := tr_iconst (m := 1) (by decide +kernel) (by decide)
theorem r34_17 : am_T d 34 17 ls st S I J Q = am_T d 34 21 ls st S I J Q := tr_goto (o := 4) (by decide +kernel) rfl
theorem r34_20 : am_T d 34 20 ls st S I J Q = am_T d 34 21 ls (.int 0 :: st) S I J Q := tr_iconst (m := 0) (by decide +kernel) (by decide)
theorem r34_21 : am_T d 34 21 ls [.int x0] S I J Q = ((x0 = 0 ∨ x0 = 1) ∧ Q (some (.int x0)) S I J) := tr_iretz (by decide +kernel) (by decide +kernel)
-- 35 Grp.followRemoval(LArborescenceFinder$Graph;I)Z; heads [20]
theorem e35 : am_C (d + 1) 35 [.ref a0, .ref a1, .int x2] S I J Q = am_T d 35 0 [some (.ref a0), some (.ref a1), some (.int x2), none] [] S I J Q := tr_en (Nat.le_of_ble_eq_true rfl) rfl
theorem r35_0 : am_T d 35 0 [some (.ref a0), l1, l2, l3] st S I J Q = am_T d 35 1 [some (.ref a0), l1, l2, l3] (.ref a0 :: st) S I J Q := tr_aload_n (m := 0) (by decide +kernel) rfl
theorem r35_1 : am_T d 35 1 ls (.ref a0 :: st) S I J Q = (am_is S a0 3 ∧ am_T d 35 4 ls (.int (I a0 0) :: st) S I J Q) := tr_geti (k := 24) (by decide +kernel) (by decide +kernel) (Or.inr (by decide +kernel))
theorem r35_4 : am_T d 35 4 ls (.int x0 :: st) S I J Q = if x0 = 0 then am_T d 35 16 ls st S I J Q else am_T d 35 7 ls st S I J Q := tr_ifeq (o := 12) (by decide +kernel) rfl
theorem r35_7 : am_T d 35 7 [some (.ref a0), l1, l2, l3] st S I J Q = am_T d 35 8 [some (.ref a0), l1, l2, l3] (.ref a0 :: st) S I J Q := tr_aload_n (m := 0) (by decide +kernel) rfl
theorem r35_8 : am_T d 35 8 [l0, some (.ref a0), l2, l3] st S I J Q = am_T d 35 9 [l0, some (.ref a0), l2, l3] (.ref a0 :: st) S I J Q := tr_aload_n (m := 1) (by decide +kernel) rfl
theorem r35_9 : am_T d 35 9 [l0, l1, some (.int x0), l3] st S I J Q = am_T d 35 10 [l0, l1, some (.int x0), l3] (.int x0 :: st) S I J Q := tr_iload_n (m := 2) (by decide +kernel) rfl
theorem r35_10 : am_T d 35 10 ls [.int x2, .ref a1, .ref a0] S I J Q = (am_is S a0 3 ∧ am_C d 30 [.ref a0, .ref a1, .int x2] S I J (fun r S I J => am_T d 35 13 ls (am_psh r []) S I J Q)) := tr_virt (k := 64) (by decide +kernel) (by decide +kernel) rfl rfl (Nat.le_of_ble_eq_true rfl) (by decide +kernel)
theorem r35_13 : am_T d 35 13 ls (.int x0 :: st) S I J Q = if x0 = 0 then am_T d 35 18 ls st S I J Q else am_T d 35 16 ls st S I J Q := tr_ifeq (o := 5) (by decide +kernel) rfl
theorem r35_16 : am_T d 35 16 ls st S I J Q = am_T d 35 17 ls (.int 0 :: st) S I J Q := tr_iconst (m := 0) (by decide +kernel) (by decide)
theorem r35_17 : am_T d 35 17 ls [.int x0] S I J Q = ((x0 = 0 ∨ x0 = 1) ∧ Q (some (.int x0)) S I J) := tr_iretz (by decide +kernel) (by decide +kernel)
theorem r35_18 : am_T d 35 18 ls st S I J Q = am_T d 35 19 ls (.int 0 :: st) S I J Q := tr_iconst (m := 0) (by decide +kernel) (by decide)
theorem r35_19 : am_T d 35 19 [l0, l1, l2, l3] (.int x0 :: st) S I J Q = am_T d 35 20 [l0, l1, am_clr l2, some (.int x0)] st S I J Q := tr_istore_n (m := 3) (by decide +kernel) (Nat.le_of_ble_eq_true rfl) rfl
theorem r35_20 : am_T d 35 20 [l0, l1, l2, some (.int x0)] st S I J Q = am_T d 35 21 [l0, l1, l2, some (.int x0)] (.int x0 :: st) S I J Q := tr_iload_n (m := 3) (by decide +kernel) rfl
theorem r35_21 : am_T d 35 21 [l0, some (.ref a0), l2, l3] st S I J Q = am_T d 35 22 [l0, some (.ref a0), l2, l3] (.ref a0 :: st) S I J Q := tr_aload_n (m := 1) (by decide +kernel) rfl
theorem r35_22 : am_T d 35 22 ls (.ref a0 :: st) S I J Q = (am_is S a0 1 ∧ am_T d 35 25 ls (.int (I a0 0) :: st) S I J Q) := tr_geti (k := 47) (by decide +kernel) (by decide +kernel) (Or.inl (by decide +kernel))
theorem r35_25 : am_T d 35 25 ls (.int x1 :: .int x0 :: st) S I J Q = if x1 ≤ x0 then am_T d 35 54 ls st S I J Q else am_T d 35 28 ls st S I J Q := tr_icmpge (o := 29) (by decide +kernel) rfl
theorem r35_28 : am_T d 35 28 [some (.ref a0), l1, l2, l3] st S I J Q = am_T d 35 29 [some (.ref a0), l1, l2, l3] (.ref a0 :: st) S I J Q := tr_aload_n (m := 0) (by decide +kernel) rfl
theorem r35_29 : am_T d 35 29 ls (.ref a0 :: st) S I J Q = ((am_is S a0 3 ∧ am_rf S a0 5 ≠ 0) ∧ am_T d 35 32 ls (.ref (am_rf S a0 5) :: st) S I J Q) := tr_geta (k := 21) (by decide +kernel) (by decide +kernel) (by decide +kernel)
theorem r35_32 : am_T d 35 32 [l0, l1, l2, some (.int x0)] st S I J Q = am_T d 35 33 [l0, l1, l2, some (.int x0)] (.int x0 :: st) S I J Q := tr_iload_n (m := 3) (by decide +kernel) rfl
theorem r35_33 : am_T d 35 33 ls (.int x0 :: .ref a0 :: st) S I J Q = (am_ix S a0 20 x0 ∧ am_T d 35 34 ls (.int (I a0 x0.toNatClampNeg) :: st) S I J Q) := tr_iald (by decide +kernel)
theorem r35_34 : am_T d 35 34 [l0, l1, some (.int x0), l3] st S I J Q = am_T d 35 35 [l0, l1, some (.int x0), l3] (.int x0 :: st) S I J Q := tr_iload_n (m := 2) (by decide +kernel) rfl
theorem r35_35 : am_T d 35 35 ls (.int x1 :: .int x0 :: st) S I J Q = if x0 ≤ x1 then am_T d 35 48 ls st S I J Q else am_T d 35 38 ls st S I J Q := tr_icmple (o := 13) (by decide +kernel) rfl
theorem r35_38 : am_T d 35 38 [some (.ref a0), l1, l2, l3] st S I J Q = am_T d 35 39 [some (.ref a0), l1, l2, l3] (.ref a0 :: st) S I J Q := tr_aload_n (m := 0) (by decide +kernel) rfl
theorem r35_39 : am_T d 35 39 ls (.ref a0 :: st) S I J Q = ((am_is S a0 3 ∧ am_rf S a0 5 ≠ 0) ∧ am_T d 35 42 ls (.ref (am_rf S a0 5) :: st) S I J Q) := tr_geta (k := 21) (by decide +kernel) (by decide +kernel) (by decide +kernel)
theorem r35_42 : am_T d 35 42 [l0, l1, l2, some (.int x0)] st S I J Q = am_T d 35 43 [l0, l1, l2, some (.int x0)] (.int x0 :: st) S I J Q := tr_iload_n (m := 3) (by decide +kernel) rfl
theorem r35_43 : am_T d 35 43 ls (.int x0 :: .ref a0 :: st) S I J Q = am_T d 35 44 ls (.int x0 :: .ref a0 :: .int x0 :: .ref a0 :: st) S I J Q := tr_dup2 (by decide +kernel)
theorem r35_44 : am_T d 35 44 ls (.int x0 :: .ref a0 :: st) S I J Q = (am_ix S a0 20 x0 ∧ am_T d 35 45 ls (.int (I a0 x0.toNatClampNeg) :: st) S I J Q) := tr_iald (by decide +kernel)
theorem r35_45 : am_T d 35 45 ls st S I J Q = am_T d 35 46 ls (.int 1 :: st) S I J Q := tr_iconst (m := 1) (by decide +kernel) (by decide)
theorem r35_46 : am_T d 35 46 ls (.int x1 :: .int x0 :: st) S I J Q = am_T d 35 47 ls (.int (x0 - x1) :: st) S I J Q := tr_isub (by decide +kernel)
theorem r35_47 : am_T d 35 47 ls (.int x1 :: .int x0 :: .ref a0 :: st) S I J Q = (am_ixw S a0 20 x0 ∧ am_T d 35 48 ls st S (am_up I a0 x0.toNatClampNeg x1) J Q) := tr_iast (by decide +kernel)
theorem r35_48 : am_T d 35 48 [l0, l1, l2, some (.int x0)] st S I J Q = am_T d 35 51 [l0, l1, am_clr l2, some (.int (x0 + 1))] st S I J Q := tr_iinc (k := 3) (m := 1) (by decide +kernel) rfl (Nat.le_of_ble_eq_true rfl) (by decide) rfl
theorem r35_51 : am_T d 35 51 ls st S I J Q = am_T d 35 20 ls st S I J Q := tr_goto (o := -31) (by decide +kernel) rfl
theorem r35_54 : am_T d 35 54 ls st S I J Q = am_T d 35 55 ls (.int 1 :: st) S I J Q := tr_iconst (m := 1) (by decide +kernel) (by decide)
theorem r35_55 : am_T d 35 55 ls [.int x0] S I J Q = ((x0 = 0 ∨ x0 = 1) ∧ Q (some (.int x0)) S I J) := tr_iretz (by decide +kernel) (by decide +kernel)
-- 36 Grp.followCost(LArborescenceFinder$Graph;II)Z; heads [55]
theorem e36 : am_C (d + 1) 36 [.ref a0, .ref a1, .int x2, .int x3] S I J Q = am_T d 36 0 [some (.ref a0), some (.ref a1), some (.int x2), some (.int x3), none, none] [] S I J Q := tr_en (Nat.le_of_ble_eq_true rfl) rfl
theorem r36_0 : am_T d 36 0 [some (.ref a0), l1, l2, l3, l4, l5] st S I J Q = am_T d 36 1 [some (.ref a0), l1, l2, l3, l4, l5] (.ref a0 :: st) S I J Q := tr_aload_n (m := 0) (by decide +kernel) rfl
theorem r36_1 : am_T d 36 1 ls (.ref a0 :: st) S I J Q = (am_is S a0 3 ∧ am_T d 36 4 ls (.int (I a0 0) :: st) S I J Q) := tr_geti (k := 24) (by decide +kernel) (by decide +kernel) (Or.inr (by decide +kernel))
theorem r36_4 : am_T d 36 4 ls (.int x0 :: st) S I J Q = if x0 = 0 then am_T d 36 7 ls st S I J Q else am_T d 36 9 ls st S I J Q := tr_ifne (o := 5) (by decide +kernel) rfl
theorem r36_7 : am_T d 36 7 ls st S I J Q = am_T d 36 8 ls (.int 0 :: st) S I J Q := tr_iconst (m := 0) (by decide +kernel) (by decide)
theorem r36_8 : am_T d 36 8 ls [.int x0] S I J Q = ((x0 = 0 ∨ x0 = 1) ∧ Q (some (.int x0)) S I J) := tr_iretz (by decide +kernel) (by decide +kernel)
theorem r36_9 : am_T d 36 9 [some (.ref a0), l1, l2, l3, l4, l5] st S I J Q = am_T d 36 10 [some (.ref a0), l1, l2, l3, l4, l5] (.ref a0 :: st) S I J Q := tr_aload_n (m := 0) (by decide +kernel) rfl
theorem r36_10 : am_T d 36 10 [l0, some (.ref a0), l2, l3, l4, l5] st S I J Q = am_T d 36 11 [l0, some (.ref a0), l2, l3, l4, l5] (.ref a0 :: st) S I J Q := tr_aload_n (m := 1) (by decide +kernel) rfl
theorem r36_11 : am_T d 36 11 [l0, l1, some (.int x0), l3, l4, l5] st S I J Q = am_T d 36 12 [l0, l1, some (.int x0), l3, l4, l5] (.int x0 :: st) S I J Q := tr_iload_n (m := 2) (by decide +kernel) rfl
theorem r36_12 : am_T d 36 12 ls [.int x2, .ref a1, .ref a0] S I J Q = (am_is S a0 3 ∧ am_C d 30 [.ref a0, .ref a1, .int x2] S I J (fun r S I J => am_T d 36 15 ls (am_psh r []) S I J Q)) := tr_virt (k := 64) (by decide +kernel) (by decide +kernel) rfl rfl (Nat.le_of_ble_eq_true rfl) (by decide +kernel)
theorem r36_15 : am_T d 36 15 ls (.int x0 :: st) S I J Q = if x0 = 0 then am_T d 36 18 ls st S I J Q else am_T d 36 33 ls st S I J Q := tr_ifne (o := 18) (by decide +kernel) rfl
theorem r36_18 : am_T d 36 18 [some (.ref a0), l1, l2, l3, l4, l5] st S I J Q = am_T d 36 19 [some (.ref a0), l1, l2, l3, l4, l5] (.ref a0 :: st) S I J Q := tr_aload_n (m := 0) (by decide +kernel) rfl
theorem r36_19 : am_T d 36 19 [l0, some (.ref a0), l2, l3, l4, l5] st S I J Q = am_T d 36 20 [l0, some (.ref a0), l2, l3, l4, l5] (.ref a0 :: st) S I J Q := tr_aload_n (m := 1) (by decide +kernel) rfl
theorem r36_20 : am_T d 36 20 [l0, l1, some (.int x0), l3, l4, l5] st S I J Q = am_T d 36 21 [l0, l1, some (.int x0), l3, l4, l5] (.int x0 :: st) S I J Q := tr_iload_n (m := 2) (by decide +kernel) rfl
theorem r36_21 : am_T d 36 21 ls [.int x2, .ref a1, .ref a0] S I J Q = (am_is S a0 3 ∧ am_C d 33 [.ref a0, .ref a1, .int x2] S I J (fun r S I J => am_T d 36 24 ls (am_psh r []) S I J Q)) := tr_virt (k := 60) (by decide +kernel) (by decide +kernel) rfl rfl (Nat.le_of_ble_eq_true rfl) (by decide +kernel)
theorem r36_24 : am_T d 36 24 ls (.int x0 :: st) S I J Q = if x0 < 0 then am_T d 36 31 ls st S I J Q else am_T d 36 27 ls st S I J Q := tr_iflt (o := 7) (by decide +kernel) rfl
theorem r36_27 : am_T d 36 27 ls st S I J Q = am_T d 36 28 ls (.int 1 :: st) S I J Q := tr_iconst (m := 1) (by decide +kernel) (by decide)
theorem r36_28 : am_T d 36 28 ls st S I J Q = am_T d 36 32 ls st S I J Q := tr_goto (o := 4) (by decide +kernel) rfl
theorem r36_31 : am_T d 36 31 ls st S I J Q = am_T d 36 32 ls (.int 0 :: st) S I J Q := tr_iconst (m := 0) (by decide +kernel) (by decide)
theorem r36_32 : am_T d 36 32 ls [.int x0] S I J Q = ((x0 = 0 ∨ x0 = 1) ∧ Q (some (.int x0)) S I J) := tr_iretz (by decide +kernel) (by decide +kernel)
theorem r36_33 : am_T d 36 33 [l0, some (.ref a0), l2, l3, l4, l5] st S I J Q = am_T d 36 34 [l0, some (.ref a0), l2, l3, l4, l5] (.ref a0 :: st) S I J Q := tr_aload_n (m := 1) (by decide +kernel) rfl
theorem r36_34 : am_T d 36 34 ls (.ref a0 :: st) S I J Q = ((am_is S a0 1 ∧ am_rf S a0 4 ≠ 0) ∧ am_T d 36 37 ls (.ref (am_rf S a0 4) :: st) S I J Q) := tr_geta (k := 42) (by decide +kernel) (by decide +kernel) (by decide +kernel)
theorem r36_37 : am_T d 36 37 [l0, l1, some (.int x0), l3, l4, l5] st S I J Q = am_T d 36 38 [l0, l1, some (.int x0), l3, l4, l5] (.int x0 :: st) S I J Q := tr_iload_n (m := 2) (by decide +kernel) rfl
theorem r36_38 : am_T d 36 38 ls (.int x0 :: .ref a0 :: st) S I J Q = (am_ix S a0 20 x0 ∧ am_T d 36 39 ls (.int (I a0 x0.toNatClampNeg) :: st) S I J Q) := tr_iald (by decide +kernel)
theorem r36_39 : am_T d 36 39 [l0, l1, l2, l3, l4, l5] (.int x0 :: st) S I J Q = am_T d 36 41 [l0, l1, l2, am_clr l3, some (.int x0), l5] st S I J Q := tr_istore (k := 4) (by decide +kernel) (Nat.le_of_ble_eq_true rfl) rfl
theorem r36_41 : am_T d 36 41 [some (.ref a0), l1, l2, l3, l4, l5] st S I J Q = am_T d 36 42 [some (.ref a0), l1, l2, l3, l4, l5] (.ref a0 :: st) S I J Q := tr_aload_n (m := 0) (by decide +kernel) rfl
theorem r36_42 : am_T d 36 42 ls (.ref a0 :: st) S I J Q = ((am_is S a0 3 ∧ am_rf S a0 3 ≠ 0) ∧ am_T d 36 45 ls (.ref (am_rf S a0 3) :: st) S I J Q) := tr_geta (k := 15) (by decide +kernel) (by decide +kernel) (by decide +kernel)
theorem r36_45 : am_T d 36 45 [l0, l1, l2, l3, some (.int x0), l5] st S I J Q = am_T d 36 47 [l0, l1, l2, l3, some (.int x0), l5] (.int x0 :: st) S I J Q := tr_iload (k := 4) (by decide +kernel) rfl
theorem r36_47 : am_T d 36 47 ls (.int x0 :: .ref a0 :: st) S I J Q = am_T d 36 48 ls (.int x0 :: .ref a0 :: .int x0 :: .ref a0 :: st) S I J Q := tr_dup2 (by decide +kernel)
theorem r36_48 : am_T d 36 48 ls (.int x0 :: .ref a0 :: st) S I J Q = (am_ix S a0 20 x0 ∧ am_T d 36 49 ls (.int (I a0 x0.toNatClampNeg) :: st) S I J Q) := tr_iald (by decide +kernel)
theorem r36_49 : am_T d 36 49 [l0, l1, l2, some (.int x0), l4, l5] st S I J Q = am_T d 36 50 [l0, l1, l2, some (.int x0), l4, l5] (.int x0 :: st) S I J Q := tr_iload_n (m := 3) (by decide +kernel) rfl
theorem r36_50 : am_T d 36 50 ls (.int x1 :: .int x0 :: st) S I J Q = am_T d 36 51 ls (.int (x0 + x1) :: st) S I J Q := tr_iadd (by decide +kernel)
theorem r36_51 : am_T d 36 51 ls (.int x1 :: .int x0 :: .ref a0 :: st) S I J Q = (am_ixw S a0 20 x0 ∧ am_T d 36 52 ls st S (am_up I a0 x0.toNatClampNeg x1) J Q) := tr_iast (by decide +kernel)
theorem r36_52 : am_T d 36 52 ls st S I J Q = am_T d 36 53 ls (.int 0 :: st) S I J Q := tr_iconst (m := 0) (by decide +kernel) (by decide)
theorem r36_53 : am_T d 36 53 [l0, l1, l2, l3, l4, l5] (.int x0 :: st) S I J Q = am_T d 36 55 [l0, l1, l2, l3, am_clr l4, some (.int x0)] st S I J Q := tr_istore (k := 5) (by decide +kernel) (Nat.le_of_ble_eq_true rfl) rfl
theorem r36_55 : am_T d 36 55 [l0, l1, l2, l3, l4, some (.int x0)] st S I J Q = am_T d 36 57 [l0, l1, l2, l3, l4, some (.int x0)] (.int x0 :: st) S I J Q := tr_iload (k := 5) (by decide +kernel) rfl
theorem r36_57 : am_T d 36 57 [l0, some (.ref a0), l2, l3, l4, l5] st S I J Q = am_T d 36 58 [l0, some (.ref a0), l2, l3, l4, l5] (.ref a0 :: st) S I J Q := tr_aload_n (m := 1) (by decide +kernel) rfl
theorem r36_58 : am_T d 36 58 ls (.ref a0 :: st) S I J Q = (am_is S a0 1 ∧ am_T d 36 61 ls (.int (I a0 2) :: st) S I J Q) := tr_geti (k := 68) (by decide +kernel) (by decide +kernel) (Or.inl (by decide +kernel))
theorem r36_61 : am_T d 36 61 ls (.int x1 :: .int x0 :: st) S I J Q = if x1 ≤ x0 then am_T d 36 100 ls st S I J Q else am_T d 36 64 ls st S I J Q := tr_icmpge (o := 39) (by decide +kernel) rfl
theorem r36_64 : am_T d 36 64 [l0, l1, l2, l3, l4, some (.int x0)] st S I J Q = am_T d 36 66 [l0, l1, l2, l3, l4, some (.int x0)] (.int x0 :: st) S I J Q := tr_iload (k := 5) (by decide +kernel) rfl
theorem r36_66 : am_T d 36 66 [l0, l1, some (.int x0), l3, l4, l5] st S I J Q = am_T d 36 67 [l0, l1, some (.int x0), l3, l4, l5] (.int x0 :: st) S I J Q := tr_iload_n (m := 2) (by decide +kernel) rfl
theorem r36_67 : am_T d 36 67 ls (.int x1 :: .int x0 :: st) S I J Q = if x0 = x1 then am_T d 36 94 ls st S I J Q else am_T d 36 70 ls st S I J Q := tr_icmpeq (o := 27) (by decide +kernel) rfl
theorem r36_70 : am_T d 36 70 [l0, some (.ref a0), l2, l3, l4, l5] st S I J Q = am_T d 36 71 [l0, some (.ref a0), l2, l3, l4, l5] (.ref a0 :: st) S I J Q := tr_aload_n (m := 1) (by decide +kernel) rfl
theorem r36_71 : am_T d 36 71 ls (.ref a0 :: st) S I J Q = ((am_is S a0 1 ∧ am_rf S a0 4 ≠ 0) ∧ am_T d 36 74 ls (.ref (am_rf S a0 4) :: st) S I J Q) := tr_geta (k := 42) (by decide +kernel) (by decide +kernel) (by decide +kernel)
theorem r36_74 : am_T d 36 74 [l0, l1, l2, l3, l4, some (.int x0)] st S I J Q = am_T d 36 76 [l0, l1, l2, l3, l4, some (.int x0)] (.int x0 :: st) S I J Q := tr_iload (k := 5) (by decide +kernel) rfl
theorem r36_76 : am_T d 36 76 ls (.int x0 :: .ref a0 :: st) S I J Q = (am_ix S a0 20 x0 ∧ am_T d 36 77 ls (.int (I a0 x0.toNatClampNeg) :: st) S I J Q) := tr_iald (by decide +kernel)
theorem r36_77 : am_T d 36 77 [l0, l1, l2, l3, some (.int x0), l5] st S I J Q = am_T d 36 79 [l0, l1, l2, l3, some (.int x0), l5] (.int x0 :: st) S I J Q := tr_iload (k := 4) (by decide +kernel) rfl
theorem r36_79 : am_T d 36 79 ls (.int x1 :: .int x0 :: st) S I J Q = if x0 = x1 then am_T d 36 82 ls st S I J Q else am_T d 36 94 ls st S I J Q := tr_icmpne (o := 15) (by decide +kernel) rfl
theorem r36_82 : am_T d 36 82 [some (.ref a0), l1, l2, l3, l4, l5] st S I J Q = am_T d 36 83 [some (.ref a0), l1, l2, l3, l4, l5] (.ref a0 :: st) S I J Q := tr_aload_n (m := 0) (by decide +kernel) rfl
theorem r36_83 : am_T d 36 83 [l0, some (.ref a0), l2, l3, l4, l5] st S I J Q = am_T d 36 84 [l0, some (.ref a0), l2, l3, l4, l5] (.ref a0 :: st) S I J Q := tr_aload_n (m := 1) (by decide +kernel) rfl
theorem r36_84 : am_T d 36 84 [l0, l1, l2, l3, l4, some (.int x0)] st S I J Q = am_T d 36 86 [l0, l1, l2, l3, l4, some (.int x0)] (.int x0 :: st) S I J Q := tr_iload (k := 5) (by decide +kernel) rfl
theorem r36_86 : am_T d 36 86 ls [.int x2, .ref a1, .ref a0] S I J Q = (am_is S a0 3 ∧ am_C d 33 [.ref a0, .ref a1, .int x2] S I J (fun r S I J => am_T d 36 89 ls (am_psh r []) S I J Q)) := tr_virt (k := 60) (by decide +kernel) (by decide +kernel) rfl rfl (Nat.le_of_ble_eq_true rfl) (by decide +kernel)
theorem r36_89 : am_T d 36 89 ls (.int x0 :: st) S I J Q = if 0 ≤ x0 then am_T d 36 94 ls st S I J Q else am_T d 36 92 ls st S I J Q := tr_ifge (o := 5) (by decide +kernel) rfl
theorem r36_92 : am_T d 36 92 ls st S I J Q = am_T d 36 93 ls (.int 0 :: st) S I J Q := tr_iconst (m := 0) (by decide +kernel) (by decide)
theorem r36_93 : am_T d 36 93 ls [.int x0] S I J Q = ((x0 = 0 ∨ x0 = 1) ∧ Q (some (.int x0)) S I J) := tr_iretz (by decide +kernel) (by decide +kernel)
theorem r36_94 : am_T d 36 94 [l0, l1, l2, l3, l4, some (.int x0)] st S I J Q = am_T d 36 97 [l0, l1, l2, l3, am_clr l4, some (.int (x0 + 1))] st S I J Q := tr_iinc (k := 5) (m := 1) (by decide +kernel) rfl (Nat.le_of_ble_eq_true rfl) (by decide) rfl
theorem r36_97 : am_T d 36 97 ls st S I J Q = am_T d 36 55 ls st S I J Q := tr_goto (o := -42) (by decide +kernel) rfl
theorem r36_100 : am_T d 36 100 ls st S I J Q = am_T d 36 101 ls (.int 1 :: st) S I J Q := tr_iconst (m := 1) (by decide +kernel) (by decide)
theorem r36_101 : am_T d 36 101 ls [.int x0] S I J Q = ((x0 = 0 ∨ x0 = 1) ∧ Q (some (.int x0)) S I J) := tr_iretz (by decide +kernel) (by decide +kernel)
end RU
