section RU
variable {d : Nat} {ls : am_L} {l0 l1 l2 l3 l4 l5 l6 l7 : Option Value} {st : List Value} {S : am_S} {I : am_I} {J : am_J} {Q : am_Q} {x0 x1 x2 x3 x4 x5 x10 x11 x12 x13 x14 x15 : Int32} {u0 u1 u2 u3 u10 u11 u12 u13 : Int64} {a0 a1 a2 a3 a4 a10 a11 a12 a13 a14 a15 : Nat}
-- 0 Con.<init>()V; heads []
theorem e0 : am_C (d + 1) 0 [.ref a0] S I J Q = am_T d 0 0 [some (.ref a0)] [] S I J Q := tr_en (Nat.le_of_ble_eq_true rfl) rfl
theorem r0_0 : am_T d 0 0 [some (.ref a0)] st S I J Q = am_T d 0 1 [some (.ref a0)] (.ref a0 :: st) S I J Q := tr_aload_n (m := 0) (by decide +kernel) rfl
theorem r0_1 : am_T d 0 1 ls [.ref a0] S I J Q = am_T d 0 4 ls [] S I J Q := tr_oinit (k := 3) (by decide +kernel) (by decide +kernel) (Nat.le_of_ble_eq_true rfl)
theorem r0_4 : am_T d 0 4 [some (.ref a0)] st S I J Q = am_T d 0 5 [some (.ref a0)] (.ref a0 :: st) S I J Q := tr_aload_n (m := 0) (by decide +kernel) rfl
theorem r0_5 : am_T d 0 5 ls st S I J Q = am_T d 0 8 ls (.ref S.length :: st) (S ++ [(3, 6, fun _ => 0)]) (am_row I S.length (fun _ => 0)) (am_row J S.length (fun _ => 0)) Q := tr_new (k := 9) (by decide +kernel) (by decide +kernel)
theorem r0_8 : am_T d 0 8 ls (.ref a0 :: st) S I J Q = am_T d 0 9 ls (.ref a0 :: .ref a0 :: st) S I J Q := tr_dupa (by decide +kernel)
theorem r0_9 : am_T d 0 9 ls [.ref a0, .ref a11, .ref a10] S I J Q = am_C d 26 [.ref a0] S I J (fun r S I J => am_T d 0 12 ls (am_psh r [.ref a11, .ref a10]) S I J Q) := tr_spec (k := 11) (by decide +kernel) (Or.inr (by decide +kernel)) rfl rfl (Nat.le_of_ble_eq_true rfl)
theorem r0_12 : am_T d 0 12 ls (.ref a1 :: .ref a0 :: st) S I J Q = ((am_is S a0 0 ∧ a1 ≠ 0 ∧ a1 < S.length) ∧ am_T d 0 15 ls st (am_sr S a0 0 a1) I J Q) := tr_puta (k := 12) (by decide +kernel) (by decide +kernel) (by decide +kernel) (by decide +kernel)
theorem r0_15 : am_T d 0 15 [some (.ref a0)] st S I J Q = am_T d 0 16 [some (.ref a0)] (.ref a0 :: st) S I J Q := tr_aload_n (m := 0) (by decide +kernel) rfl
theorem r0_16 : am_T d 0 16 ls st S I J Q = am_T d 0 18 ls (.int 32 :: st) S I J Q := tr_bipush (m := 32) (by decide +kernel) (by decide)
theorem r0_18 : am_T d 0 18 ls (.int x0 :: st) S I J Q = ((0 ≤ x0.toInt ∧ x0.toInt < 10000) ∧ am_T d 0 20 ls (.ref S.length :: st) (S ++ [(20, x0.toNatClampNeg, fun _ => 0)]) (am_row I S.length (fun _ => 0)) (am_row J S.length (fun _ => 0)) Q) := tr_newa (t := .int) (by decide +kernel) (by decide)
theorem r0_20 : am_T d 0 20 ls (.ref a1 :: .ref a0 :: st) S I J Q = ((am_is S a0 0 ∧ a1 ≠ 0 ∧ a1 < S.length) ∧ am_T d 0 23 ls st (am_sr S a0 1 a1) I J Q) := tr_puta (k := 18) (by decide +kernel) (by decide +kernel) (by decide +kernel) (by decide +kernel)
theorem r0_23 : am_T d 0 23 [some (.ref a0)] st S I J Q = am_T d 0 24 [some (.ref a0)] (.ref a0 :: st) S I J Q := tr_aload_n (m := 0) (by decide +kernel) rfl
theorem r0_24 : am_T d 0 24 ls st S I J Q = am_T d 0 26 ls (.int 15 :: st) S I J Q := tr_bipush (m := 15) (by decide +kernel) (by decide)
theorem r0_26 : am_T d 0 26 ls (.int x0 :: st) S I J Q = ((0 ≤ x0.toInt ∧ x0.toInt < 10000) ∧ am_T d 0 28 ls (.ref S.length :: st) (S ++ [(20, x0.toNatClampNeg, fun _ => 0)]) (am_row I S.length (fun _ => 0)) (am_row J S.length (fun _ => 0)) Q) := tr_newa (t := .int) (by decide +kernel) (by decide)
theorem r0_28 : am_T d 0 28 ls (.ref a1 :: .ref a0 :: st) S I J Q = ((am_is S a0 0 ∧ a1 ≠ 0 ∧ a1 < S.length) ∧ am_T d 0 31 ls st (am_sr S a0 2 a1) I J Q) := tr_puta (k := 22) (by decide +kernel) (by decide +kernel) (by decide +kernel) (by decide +kernel)
theorem r0_31 : am_T d 0 31 [some (.ref a0)] st S I J Q = am_T d 0 32 [some (.ref a0)] (.ref a0 :: st) S I J Q := tr_aload_n (m := 0) (by decide +kernel) rfl
theorem r0_32 : am_T d 0 32 ls st S I J Q = am_T d 0 34 ls (.int 8 :: st) S I J Q := tr_bipush (m := 8) (by decide +kernel) (by decide)
theorem r0_34 : am_T d 0 34 ls (.int x0 :: st) S I J Q = ((0 ≤ x0.toInt ∧ x0.toInt < 10000) ∧ am_T d 0 36 ls (.ref S.length :: st) (S ++ [(20, x0.toNatClampNeg, fun _ => 0)]) (am_row I S.length (fun _ => 0)) (am_row J S.length (fun _ => 0)) Q) := tr_newa (t := .int) (by decide +kernel) (by decide)
theorem r0_36 : am_T d 0 36 ls (.ref a1 :: .ref a0 :: st) S I J Q = ((am_is S a0 0 ∧ a1 ≠ 0 ∧ a1 < S.length) ∧ am_T d 0 39 ls st (am_sr S a0 3 a1) I J Q) := tr_puta (k := 25) (by decide +kernel) (by decide +kernel) (by decide +kernel) (by decide +kernel)
theorem r0_39 : am_T d 0 39 [some (.ref a0)] st S I J Q = am_T d 0 40 [some (.ref a0)] (.ref a0 :: st) S I J Q := tr_aload_n (m := 0) (by decide +kernel) rfl
theorem r0_40 : am_T d 0 40 ls st S I J Q = am_T d 0 42 ls (.int 15 :: st) S I J Q := tr_bipush (m := 15) (by decide +kernel) (by decide)
theorem r0_42 : am_T d 0 42 ls (.int x0 :: st) S I J Q = ((0 ≤ x0.toInt ∧ x0.toInt < 10000) ∧ am_T d 0 44 ls (.ref S.length :: st) (S ++ [(20, x0.toNatClampNeg, fun _ => 0)]) (am_row I S.length (fun _ => 0)) (am_row J S.length (fun _ => 0)) Q) := tr_newa (t := .int) (by decide +kernel) (by decide)
theorem r0_44 : am_T d 0 44 ls (.ref a1 :: .ref a0 :: st) S I J Q = ((am_is S a0 0 ∧ a1 ≠ 0 ∧ a1 < S.length) ∧ am_T d 0 47 ls st (am_sr S a0 4 a1) I J Q) := tr_puta (k := 28) (by decide +kernel) (by decide +kernel) (by decide +kernel) (by decide +kernel)
theorem r0_47 : am_T d 0 47 ls [] S I J Q = Q none S I J := tr_vret (by decide +kernel) (by decide +kernel)
-- 1 Con.contract(LArborescenceFinder$Graph;[II)Z; heads [9]
theorem e1 : am_C (d + 1) 1 [.ref a0, .ref a1, .ref a2, .int x3] S I J Q = am_T d 1 0 [some (.ref a0), some (.ref a1), some (.ref a2), some (.int x3), none, none] [] S I J Q := tr_en (Nat.le_of_ble_eq_true rfl) rfl
theorem r1_0 : am_T d 1 0 [some (.ref a0), l1, l2, l3, l4, l5] st S I J Q = am_T d 1 1 [some (.ref a0), l1, l2, l3, l4, l5] (.ref a0 :: st) S I J Q := tr_aload_n (m := 0) (by decide +kernel) rfl
theorem r1_1 : am_T d 1 1 [l0, some (.ref a0), l2, l3, l4, l5] st S I J Q = am_T d 1 2 [l0, some (.ref a0), l2, l3, l4, l5] (.ref a0 :: st) S I J Q := tr_aload_n (m := 1) (by decide +kernel) rfl
theorem r1_2 : am_T d 1 2 [l0, l1, some (.ref a0), l3, l4, l5] st S I J Q = am_T d 1 3 [l0, l1, some (.ref a0), l3, l4, l5] (.ref a0 :: st) S I J Q := tr_aload_n (m := 2) (by decide +kernel) rfl
theorem r1_3 : am_T d 1 3 ls [.ref a2, .ref a1, .ref a0] S I J Q = (am_is S a0 0 ∧ am_C d 2 [.ref a0, .ref a1, .ref a2] S I J (fun r S I J => am_T d 1 6 ls (am_psh r []) S I J Q)) := tr_virt (k := 31) (by decide +kernel) (by decide +kernel) rfl rfl (Nat.le_of_ble_eq_true rfl) (by decide +kernel)
theorem r1_6 : am_T d 1 6 ls st S I J Q = am_T d 1 7 ls (.int 0 :: st) S I J Q := tr_iconst (m := 0) (by decide +kernel) (by decide)
theorem r1_7 : am_T d 1 7 [l0, l1, l2, l3, l4, l5] (.int x0 :: st) S I J Q = am_T d 1 9 [l0, l1, l2, am_clr l3, some (.int x0), l5] st S I J Q := tr_istore (k := 4) (by decide +kernel) (Nat.le_of_ble_eq_true rfl) rfl
theorem r1_9 : am_T d 1 9 [l0, l1, l2, l3, some (.int x0), l5] st S I J Q = am_T d 1 11 [l0, l1, l2, l3, some (.int x0), l5] (.int x0 :: st) S I J Q := tr_iload (k := 4) (by decide +kernel) rfl
theorem r1_11 : am_T d 1 11 ls st S I J Q = am_T d 1 13 ls (.int 15 :: st) S I J Q := tr_bipush (m := 15) (by decide +kernel) (by decide)
theorem r1_13 : am_T d 1 13 ls (.int x1 :: .int x0 :: st) S I J Q = if x1 ≤ x0 then am_T d 1 102 ls st S I J Q else am_T d 1 16 ls st S I J Q := tr_icmpge (o := 89) (by decide +kernel) rfl
theorem r1_16 : am_T d 1 16 [some (.ref a0), l1, l2, l3, l4, l5] st S I J Q = am_T d 1 17 [some (.ref a0), l1, l2, l3, l4, l5] (.ref a0 :: st) S I J Q := tr_aload_n (m := 0) (by decide +kernel) rfl
theorem r1_17 : am_T d 1 17 [l0, some (.ref a0), l2, l3, l4, l5] st S I J Q = am_T d 1 18 [l0, some (.ref a0), l2, l3, l4, l5] (.ref a0 :: st) S I J Q := tr_aload_n (m := 1) (by decide +kernel) rfl
theorem r1_18 : am_T d 1 18 ls [.ref a1, .ref a0] S I J Q = (am_is S a0 0 ∧ am_C d 3 [.ref a0, .ref a1] S I J (fun r S I J => am_T d 1 21 ls (am_psh r []) S I J Q)) := tr_virt (k := 35) (by decide +kernel) (by decide +kernel) rfl rfl (Nat.le_of_ble_eq_true rfl) (by decide +kernel)
theorem r1_21 : am_T d 1 21 [l0, l1, l2, l3, l4, l5] (.int x0 :: st) S I J Q = am_T d 1 23 [l0, l1, l2, l3, am_clr l4, some (.int x0)] st S I J Q := tr_istore (k := 5) (by decide +kernel) (Nat.le_of_ble_eq_true rfl) rfl
theorem r1_23 : am_T d 1 23 [l0, l1, l2, l3, l4, some (.int x0)] st S I J Q = am_T d 1 25 [l0, l1, l2, l3, l4, some (.int x0)] (.int x0 :: st) S I J Q := tr_iload (k := 5) (by decide +kernel) rfl
theorem r1_25 : am_T d 1 25 ls st S I J Q = am_T d 1 26 ls (.int (-1) :: st) S I J Q := tr_iconst (m := -1) (by decide +kernel) (by decide)
theorem r1_26 : am_T d 1 26 ls (.int x1 :: .int x0 :: st) S I J Q = if x0 = x1 then am_T d 1 29 ls st S I J Q else am_T d 1 44 ls st S I J Q := tr_icmpne (o := 18) (by decide +kernel) rfl
theorem r1_29 : am_T d 1 29 [some (.ref a0), l1, l2, l3, l4, l5] st S I J Q = am_T d 1 30 [some (.ref a0), l1, l2, l3, l4, l5] (.ref a0 :: st) S I J Q := tr_aload_n (m := 0) (by decide +kernel) rfl
theorem r1_30 : am_T d 1 30 [l0, some (.ref a0), l2, l3, l4, l5] st S I J Q = am_T d 1 31 [l0, some (.ref a0), l2, l3, l4, l5] (.ref a0 :: st) S I J Q := tr_aload_n (m := 1) (by decide +kernel) rfl
theorem r1_31 : am_T d 1 31 ls [.ref a1, .ref a0] S I J Q = (am_is S a0 0 ∧ am_C d 9 [.ref a0, .ref a1] S I J (fun r S I J => am_T d 1 34 ls (am_psh r []) S I J Q)) := tr_virt (k := 39) (by decide +kernel) (by decide +kernel) rfl rfl (Nat.le_of_ble_eq_true rfl) (by decide +kernel)
theorem r1_34 : am_T d 1 34 [some (.ref a0), l1, l2, l3, l4, l5] st S I J Q = am_T d 1 35 [some (.ref a0), l1, l2, l3, l4, l5] (.ref a0 :: st) S I J Q := tr_aload_n (m := 0) (by decide +kernel) rfl
theorem r1_35 : am_T d 1 35 ls (.ref a0 :: st) S I J Q = ((am_is S a0 0 ∧ am_rf S a0 0 ≠ 0) ∧ am_T d 1 38 ls (.ref (am_rf S a0 0) :: st) S I J Q) := tr_geta (k := 12) (by decide +kernel) (by decide +kernel) (by decide +kernel)
theorem r1_38 : am_T d 1 38 ls st S I J Q = am_T d 1 39 ls (.int 1 :: st) S I J Q := tr_iconst (m := 1) (by decide +kernel) (by decide)
theorem r1_39 : am_T d 1 39 ls (.int x0 :: .ref a0 :: st) S I J Q = ((am_is S a0 3 ∧ (x0 = 0 ∨ x0 = 1)) ∧ am_T d 1 42 ls st S (am_up I a0 0 x0) J Q) := tr_putz (k := 43) (by decide +kernel) (by decide +kernel) (by decide +kernel) (by decide +kernel)
theorem r1_42 : am_T d 1 42 ls st S I J Q = am_T d 1 43 ls (.int 1 :: st) S I J Q := tr_iconst (m := 1) (by decide +kernel) (by decide)
theorem r1_43 : am_T d 1 43 ls [.int x0] S I J Q = ((x0 = 0 ∨ x0 = 1) ∧ Q (some (.int x0)) S I J) := tr_iretz (by decide +kernel) (by decide +kernel)
theorem r1_44 : am_T d 1 44 [some (.ref a0), l1, l2, l3, l4, l5] st S I J Q = am_T d 1 45 [some (.ref a0), l1, l2, l3, l4, l5] (.ref a0 :: st) S I J Q := tr_aload_n (m := 0) (by decide +kernel) rfl
theorem r1_45 : am_T d 1 45 ls (.ref a0 :: st) S I J Q = ((am_is S a0 0 ∧ am_rf S a0 2 ≠ 0) ∧ am_T d 1 48 ls (.ref (am_rf S a0 2) :: st) S I J Q) := tr_geta (k := 22) (by decide +kernel) (by decide +kernel) (by decide +kernel)
theorem r1_48 : am_T d 1 48 [l0, l1, l2, l3, l4, some (.int x0)] st S I J Q = am_T d 1 50 [l0, l1, l2, l3, l4, some (.int x0)] (.int x0 :: st) S I J Q := tr_iload (k := 5) (by decide +kernel) rfl
theorem r1_50 : am_T d 1 50 [some (.ref a0), l1, l2, l3, l4, l5] st S I J Q = am_T d 1 51 [some (.ref a0), l1, l2, l3, l4, l5] (.ref a0 :: st) S I J Q := tr_aload_n (m := 0) (by decide +kernel) rfl
theorem r1_51 : am_T d 1 51 [l0, some (.ref a0), l2, l3, l4, l5] st S I J Q = am_T d 1 52 [l0, some (.ref a0), l2, l3, l4, l5] (.ref a0 :: st) S I J Q := tr_aload_n (m := 1) (by decide +kernel) rfl
theorem r1_52 : am_T d 1 52 [l0, l1, l2, l3, l4, some (.int x0)] st S I J Q = am_T d 1 54 [l0, l1, l2, l3, l4, some (.int x0)] (.int x0 :: st) S I J Q := tr_iload (k := 5) (by decide +kernel) rfl
theorem r1_54 : am_T d 1 54 [l0, l1, l2, some (.int x0), l4, l5] st S I J Q = am_T d 1 55 [l0, l1, l2, some (.int x0), l4, l5] (.int x0 :: st) S I J Q := tr_iload_n (m := 3) (by decide +kernel) rfl
theorem r1_55 : am_T d 1 55 ls [.int x3, .int x2, .ref a1, .ref a0, .int x11, .ref a10] S I J Q = (am_is S a0 0 ∧ am_C d 4 [.ref a0, .ref a1, .int x2, .int x3] S I J (fun r S I J => am_T d 1 58 ls (am_psh r [.int x11, .ref a10]) S I J Q)) := tr_virt (k := 47) (by decide +kernel) (by decide +kernel) rfl rfl (Nat.le_of_ble_eq_true rfl) (by decide +kernel)
theorem r1_58 : am_T d 1 58 ls (.int x1 :: .int x0 :: .ref a0 :: st) S I J Q = (am_ixw S a0 20 x0 ∧ am_T d 1 59 ls st S (am_up I a0 x0.toNatClampNeg x1) J Q) := tr_iast (by decide +kernel)
theorem r1_59 : am_T d 1 59 [some (.ref a0), l1, l2, l3, l4, l5] st S I J Q = am_T d 1 60 [some (.ref a0), l1, l2, l3, l4, l5] (.ref a0 :: st) S I J Q := tr_aload_n (m := 0) (by decide +kernel) rfl
theorem r1_60 : am_T d 1 60 ls (.ref a0 :: st) S I J Q = ((am_is S a0 0 ∧ am_rf S a0 2 ≠ 0) ∧ am_T d 1 63 ls (.ref (am_rf S a0 2) :: st) S I J Q) := tr_geta (k := 22) (by decide +kernel) (by decide +kernel) (by decide +kernel)
theorem r1_63 : am_T d 1 63 [l0, l1, l2, l3, l4, some (.int x0)] st S I J Q = am_T d 1 65 [l0, l1, l2, l3, l4, some (.int x0)] (.int x0 :: st) S I J Q := tr_iload (k := 5) (by decide +kernel) rfl
theorem r1_65 : am_T d 1 65 ls (.int x0 :: .ref a0 :: st) S I J Q = (am_ix S a0 20 x0 ∧ am_T d 1 66 ls (.int (I a0 x0.toNatClampNeg) :: st) S I J Q) := tr_iald (by decide +kernel)
theorem r1_66 : am_T d 1 66 ls st S I J Q = am_T d 1 67 ls (.int (-1) :: st) S I J Q := tr_iconst (m := -1) (by decide +kernel) (by decide)
theorem r1_67 : am_T d 1 67 ls (.int x1 :: .int x0 :: st) S I J Q = if x0 = x1 then am_T d 1 70 ls st S I J Q else am_T d 1 72 ls st S I J Q := tr_icmpne (o := 5) (by decide +kernel) rfl
theorem r1_70 : am_T d 1 70 ls st S I J Q = am_T d 1 71 ls (.int 0 :: st) S I J Q := tr_iconst (m := 0) (by decide +kernel) (by decide)
theorem r1_71 : am_T d 1 71 ls [.int x0] S I J Q = ((x0 = 0 ∨ x0 = 1) ∧ Q (some (.int x0)) S I J) := tr_iretz (by decide +kernel) (by decide +kernel)
theorem r1_72 : am_T d 1 72 [some (.ref a0), l1, l2, l3, l4, l5] st S I J Q = am_T d 1 73 [some (.ref a0), l1, l2, l3, l4, l5] (.ref a0 :: st) S I J Q := tr_aload_n (m := 0) (by decide +kernel) rfl
theorem r1_73 : am_T d 1 73 [l0, some (.ref a0), l2, l3, l4, l5] st S I J Q = am_T d 1 74 [l0, some (.ref a0), l2, l3, l4, l5] (.ref a0 :: st) S I J Q := tr_aload_n (m := 1) (by decide +kernel) rfl
theorem r1_74 : am_T d 1 74 [l0, l1, l2, l3, l4, some (.int x0)] st S I J Q = am_T d 1 76 [l0, l1, l2, l3, l4, some (.int x0)] (.int x0 :: st) S I J Q := tr_iload (k := 5) (by decide +kernel) rfl
theorem r1_76 : am_T d 1 76 ls [.int x2, .ref a1, .ref a0] S I J Q = (am_is S a0 0 ∧ am_C d 5 [.ref a0, .ref a1, .int x2] S I J (fun r S I J => am_T d 1 79 ls (am_psh r []) S I J Q)) := tr_virt (k := 51) (by decide +kernel) (by decide +kernel) rfl rfl (Nat.le_of_ble_eq_true rfl) (by decide +kernel)
theorem r1_79 : am_T d 1 79 [some (.ref a0), l1, l2, l3, l4, l5] st S I J Q = am_T d 1 80 [some (.ref a0), l1, l2, l3, l4, l5] (.ref a0 :: st) S I J Q := tr_aload_n (m := 0) (by decide +kernel) rfl
theorem r1_80 : am_T d 1 80 [l0, some (.ref a0), l2, l3, l4, l5] st S I J Q = am_T d 1 81 [l0, some (.ref a0), l2, l3, l4, l5] (.ref a0 :: st) S I J Q := tr_aload_n (m := 1) (by decide +kernel) rfl
theorem r1_81 : am_T d 1 81 [l0, l1, l2, l3, l4, some (.int x0)] st S I J Q = am_T d 1 83 [l0, l1, l2, l3, l4, some (.int x0)] (.int x0 :: st) S I J Q := tr_iload (k := 5) (by decide +kernel) rfl
theorem r1_83 : am_T d 1 83 ls [.int x2, .ref a1, .ref a0] S I J Q = (am_is S a0 0 ∧ am_C d 7 [.ref a0, .ref a1, .int x2] S I J (fun r S I J => am_T d 1 86 ls (am_psh r []) S I J Q)) := tr_virt (k := 55) (by decide +kernel) (by decide +kernel) rfl rfl (Nat.le_of_ble_eq_true rfl) (by decide +kernel)
theorem r1_86 : am_T d 1 86 ls (.int x0 :: st) S I J Q = if x0 = 0 then am_T d 1 96 ls st S I J Q else am_T d 1 89 ls st S I J Q := tr_ifeq (o := 10) (by decide +kernel) rfl
theorem r1_89 : am_T d 1 89 [some (.ref a0), l1, l2, l3, l4, l5] st S I J Q = am_T d 1 90 [some (.ref a0), l1, l2, l3, l4, l5] (.ref a0 :: st) S I J Q := tr_aload_n (m := 0) (by decide +kernel) rfl
theorem r1_90 : am_T d 1 90 [l0, some (.ref a0), l2, l3, l4, l5] st S I J Q = am_T d 1 91 [l0, some (.ref a0), l2, l3, l4, l5] (.ref a0 :: st) S I J Q := tr_aload_n (m := 1) (by decide +kernel) rfl
theorem r1_91 : am_T d 1 91 [l0, l1, l2, l3, l4, some (.int x0)] st S I J Q = am_T d 1 93 [l0, l1, l2, l3, l4, some (.int x0)] (.int x0 :: st) S I J Q := tr_iload (k := 5) (by decide +kernel) rfl
theorem r1_93 : am_T d 1 93 ls [.int x2, .ref a1, .ref a0] S I J Q = (am_is S a0 0 ∧ am_C d 8 [.ref a0, .ref a1, .int x2] S I J (fun r S I J => am_T d 1 96 ls (am_psh r []) S I J Q)) := tr_virt (k := 59) (by decide +kernel) (by decide +kernel) rfl rfl (Nat.le_of_ble_eq_true rfl) (by decide +kernel)
theorem r1_96 : am_T d 1 96 [l0, l1, l2, l3, some (.int x0), l5] st S I J Q = am_T d 1 99 [l0, l1, l2, am_clr l3, some (.int (x0 + 1)), l5] st S I J Q := tr_iinc (k := 4) (m := 1) (by decide +kernel) rfl (Nat.le_of_ble_eq_true rfl) (by decide) rfl
theorem r1_99 : am_T d 1 99 ls st S I J Q = am_T d 1 9 ls st S I J Q := tr_goto (o := -90) (by decide +kernel) rfl
theorem r1_102 : am_T d 1 102 ls st S I J Q = am_T d 1 103 ls (.int 0 :: st) S I J Q := tr_iconst (m := 0) (by decide +kernel) (by decide)
theorem r1_103 : am_T d 1 103 ls [.int x0] S I J Q = ((x0 = 0 ∨ x0 = 1) ∧ Q (some (.int x0)) S I J) := tr_iretz (by decide +kernel) (by decide +kernel)
-- 2 Con.prepare(LArborescenceFinder$Graph;[I)V; heads [13, 36]
theorem e2 : am_C (d + 1) 2 [.ref a0, .ref a1, .ref a2] S I J Q = am_T d 2 0 [some (.ref a0), some (.ref a1), some (.ref a2), none] [] S I J Q := tr_en (Nat.le_of_ble_eq_true rfl) rfl
theorem r2_0 : am_T d 2 0 [some (.ref a0), l1, l2, l3] st S I J Q = am_T d 2 1 [some (.ref a0), l1, l2, l3] (.ref a0 :: st) S I J Q := tr_aload_n (m := 0) (by decide +kernel) rfl
theorem r2_1 : am_T d 2 1 ls (.ref a0 :: st) S I J Q = ((am_is S a0 0 ∧ am_rf S a0 0 ≠ 0) ∧ am_T d 2 4 ls (.ref (am_rf S a0 0) :: st) S I J Q) := tr_geta (k := 12) (by decide +kernel) (by decide +kernel) (by decide +kernel)
theorem r2_4 : am_T d 2 4 [l0, some (.ref a0), l2, l3] st S I J Q = am_T d 2 5 [l0, some (.ref a0), l2, l3] (.ref a0 :: st) S I J Q := tr_aload_n (m := 1) (by decide +kernel) rfl
theorem r2_5 : am_T d 2 5 ls (.ref a0 :: st) S I J Q = (am_is S a0 1 ∧ am_T d 2 8 ls (.int (I a0 0) :: st) S I J Q) := tr_geti (k := 62) (by decide +kernel) (by decide +kernel) (Or.inl (by decide +kernel))
theorem r2_8 : am_T d 2 8 ls [.int x1, .ref a0] S I J Q = (am_is S a0 3 ∧ am_C d 28 [.ref a0, .int x1] S I J (fun r S I J => am_T d 2 11 ls (am_psh r []) S I J Q)) := tr_virt (k := 68) (by decide +kernel) (by decide +kernel) rfl rfl (Nat.le_of_ble_eq_true rfl) (by decide +kernel)
theorem r2_11 : am_T d 2 11 ls st S I J Q = am_T d 2 12 ls (.int 0 :: st) S I J Q := tr_iconst (m := 0) (by decide +kernel) (by decide)
theorem r2_12 : am_T d 2 12 [l0, l1, l2, l3] (.int x0 :: st) S I J Q = am_T d 2 13 [l0, l1, am_clr l2, some (.int x0)] st S I J Q := tr_istore_n (m := 3) (by decide +kernel) (Nat.le_of_ble_eq_true rfl) rfl
theorem r2_13 : am_T d 2 13 [l0, l1, l2, some (.int x0)] st S I J Q = am_T d 2 14 [l0, l1, l2, some (.int x0)] (.int x0 :: st) S I J Q := tr_iload_n (m := 3) (by decide +kernel) rfl
theorem r2_14 : am_T d 2 14 [l0, some (.ref a0), l2, l3] st S I J Q = am_T d 2 15 [l0, some (.ref a0), l2, l3] (.ref a0 :: st) S I J Q := tr_aload_n (m := 1) (by decide +kernel) rfl
theorem r2_15 : am_T d 2 15 ls (.ref a0 :: st) S I J Q = (am_is S a0 1 ∧ am_T d 2 18 ls (.int (I a0 0) :: st) S I J Q) := tr_geti (k := 62) (by decide +kernel) (by decide +kernel) (Or.inl (by decide +kernel))
theorem r2_18 : am_T d 2 18 ls (.int x1 :: .int x0 :: st) S I J Q = if x1 ≤ x0 then am_T d 2 34 ls st S I J Q else am_T d 2 21 ls st S I J Q := tr_icmpge (o := 16) (by decide +kernel) rfl
theorem r2_21 : am_T d 2 21 [some (.ref a0), l1, l2, l3] st S I J Q = am_T d 2 22 [some (.ref a0), l1, l2, l3] (.ref a0 :: st) S I J Q := tr_aload_n (m := 0) (by decide +kernel) rfl
theorem r2_22 : am_T d 2 22 ls (.ref a0 :: st) S I J Q = ((am_is S a0 0 ∧ am_rf S a0 3 ≠ 0) ∧ am_T d 2 25 ls (.ref (am_rf S a0 3) :: st) S I J Q) := tr_geta (k := 25) (by decide +kernel) (by decide +kernel) (by decide +kernel)
theorem r2_25 : am_T d 2 25 [l0, l1, l2, some (.int x0)] st S I J Q = am_T d 2 26 [l0, l1, l2, some (.int x0)] (.int x0 :: st) S I J Q := tr_iload_n (m := 3) (by decide +kernel) rfl
theorem r2_26 : am_T d 2 26 [l0, l1, l2, some (.int x0)] st S I J Q = am_T d 2 27 [l0, l1, l2, some (.int x0)] (.int x0 :: st) S I J Q := tr_iload_n (m := 3) (by decide +kernel) rfl
theorem r2_27 : am_T d 2 27 ls (.int x1 :: .int x0 :: .ref a0 :: st) S I J Q = (am_ixw S a0 20 x0 ∧ am_T d 2 28 ls st S (am_up I a0 x0.toNatClampNeg x1) J Q) := tr_iast (by decide +kernel)
theorem r2_28 : am_T d 2 28 [l0, l1, l2, some (.int x0)] st S I J Q = am_T d 2 31 [l0, l1, am_clr l2, some (.int (x0 + 1))] st S I J Q := tr_iinc (k := 3) (m := 1) (by decide +kernel) rfl (Nat.le_of_ble_eq_true rfl) (by decide) rfl
theorem r2_31 : am_T d 2 31 ls st S I J Q = am_T d 2 13 ls st S I J Q := tr_goto (o := -18) (by decide +kernel) rfl
theorem r2_34 : am_T d 2 34 ls st S I J Q = am_T d 2 35 ls (.int 0 :: st) S I J Q := tr_iconst (m := 0) (by decide +kernel) (by decide)
theorem r2_35 : am_T d 2 35 [l0, l1, l2, l3] (.int x0 :: st) S I J Q = am_T d 2 36 [l0, l1, am_clr l2, some (.int x0)] st S I J Q := tr_istore_n (m := 3) (by decide +kernel) (Nat.le_of_ble_eq_true rfl) rfl
theorem r2_36 : am_T d 2 36 [l0, l1, l2, some (.int x0)] st S I J Q = am_T d 2 37 [l0, l1, l2, some (.int x0)] (.int x0 :: st) S I J Q := tr_iload_n (m := 3) (by decide +kernel) rfl
theorem r2_37 : am_T d 2 37 ls st S I J Q = am_T d 2 39 ls (.int 15 :: st) S I J Q := tr_bipush (m := 15) (by decide +kernel) (by decide)
theorem r2_39 : am_T d 2 39 ls (.int x1 :: .int x0 :: st) S I J Q = if x1 ≤ x0 then am_T d 2 55 ls st S I J Q else am_T d 2 42 ls st S I J Q := tr_icmpge (o := 16) (by decide +kernel) rfl
theorem r2_42 : am_T d 2 42 [some (.ref a0), l1, l2, l3] st S I J Q = am_T d 2 43 [some (.ref a0), l1, l2, l3] (.ref a0 :: st) S I J Q := tr_aload_n (m := 0) (by decide +kernel) rfl
theorem r2_43 : am_T d 2 43 ls (.ref a0 :: st) S I J Q = ((am_is S a0 0 ∧ am_rf S a0 2 ≠ 0) ∧ am_T d 2 46 ls (.ref (am_rf S a0 2) :: st) S I J Q) := tr_geta (k := 22) (by decide +kernel) (by decide +kernel) (by decide +kernel)
theorem r2_46 : am_T d 2 46 [l0, l1, l2, some (.int x0)] st S I J Q = am_T d 2 47 [l0, l1, l2, some (.int x0)] (.int x0 :: st) S I J Q := tr_iload_n (m := 3) (by decide +kernel) rfl
theorem r2_47 : am_T d 2 47 ls st S I J Q = am_T d 2 48 ls (.int (-1) :: st) S I J Q := tr_iconst (m := -1) (by decide +kernel) (by decide)
theorem r2_48 : am_T d 2 48 ls (.int x1 :: .int x0 :: .ref a0 :: st) S I J Q = (am_ixw S a0 20 x0 ∧ am_T d 2 49 ls st S (am_up I a0 x0.toNatClampNeg x1) J Q) := tr_iast (by decide +kernel)
theorem r2_49 : am_T d 2 49 [l0, l1, l2, some (.int x0)] st S I J Q = am_T d 2 52 [l0, l1, am_clr l2, some (.int (x0 + 1))] st S I J Q := tr_iinc (k := 3) (m := 1) (by decide +kernel) rfl (Nat.le_of_ble_eq_true rfl) (by decide) rfl
theorem r2_52 : am_T d 2 52 ls st S I J Q = am_T d 2 36 ls st S I J Q := tr_goto (o := -16) (by decide +kernel) rfl
theorem r2_55 : am_T d 2 55 [l0, l1, some (.ref a0), l3] st S I J Q = am_T d 2 56 [l0, l1, some (.ref a0), l3] (.ref a0 :: st) S I J Q := tr_aload_n (m := 2) (by decide +kernel) rfl
theorem r2_56 : am_T d 2 56 ls st S I J Q = am_T d 2 57 ls (.int 0 :: st) S I J Q := tr_iconst (m := 0) (by decide +kernel) (by decide)
theorem r2_57 : am_T d 2 57 [some (.ref a0), l1, l2, l3] st S I J Q = am_T d 2 58 [some (.ref a0), l1, l2, l3] (.ref a0 :: st) S I J Q := tr_aload_n (m := 0) (by decide +kernel) rfl
theorem r2_58 : am_T d 2 58 ls (.ref a0 :: st) S I J Q = ((am_is S a0 0 ∧ am_rf S a0 1 ≠ 0) ∧ am_T d 2 61 ls (.ref (am_rf S a0 1) :: st) S I J Q) := tr_geta (k := 18) (by decide +kernel) (by decide +kernel) (by decide +kernel)
theorem r2_61 : am_T d 2 61 ls st S I J Q = am_T d 2 62 ls (.int 0 :: st) S I J Q := tr_iconst (m := 0) (by decide +kernel) (by decide)
theorem r2_62 : am_T d 2 62 [l0, some (.ref a0), l2, l3] st S I J Q = am_T d 2 63 [l0, some (.ref a0), l2, l3] (.ref a0 :: st) S I J Q := tr_aload_n (m := 1) (by decide +kernel) rfl
theorem r2_63 : am_T d 2 63 ls (.ref a0 :: st) S I J Q = (am_is S a0 1 ∧ am_T d 2 66 ls (.int (I a0 2) :: st) S I J Q) := tr_geti (k := 72) (by decide +kernel) (by decide +kernel) (Or.inl (by decide +kernel))
theorem r2_66 : am_T d 2 66 ls [.int x4, .int x3, .ref a2, .int x1, .ref a0] S I J Q = (am_cpy S a2 a0 x1 x3 x4 ∧ am_T d 2 69 ls [] S (am_row I a2 (va_cpy (I a0) (I a2) x1.toNatClampNeg x3.toNatClampNeg x4.toNatClampNeg)) J Q) := tr_copy (k := 75) (by decide +kernel) (by decide +kernel) (Nat.le_of_ble_eq_true rfl)
theorem r2_69 : am_T d 2 69 ls [] S I J Q = Q none S I J := tr_vret (by decide +kernel) (by decide +kernel)
-- 3 Con.nextGroup(LArborescenceFinder$Graph;)I; heads [2]
theorem e3 : am_C (d + 1) 3 [.ref a0, .ref a1] S I J Q = am_T d 3 0 [some (.ref a0), some (.ref a1), none] [] S I J Q := tr_en (Nat.le_of_ble_eq_true rfl) rfl
theorem r3_0 : am_T d 3 0 ls st S I J Q = am_T d 3 1 ls (.int 0 :: st) S I J Q := tr_iconst (m := 0) (by decide +kernel) (by decide)
theorem r3_1 : am_T d 3 1 [l0, l1, l2] (.int x0 :: st) S I J Q = am_T d 3 2 [l0, am_clr l1, some (.int x0)] st S I J Q := tr_istore_n (m := 2) (by decide +kernel) (Nat.le_of_ble_eq_true rfl) rfl
theorem r3_2 : am_T d 3 2 [l0, l1, some (.int x0)] st S I J Q = am_T d 3 3 [l0, l1, some (.int x0)] (.int x0 :: st) S I J Q := tr_iload_n (m := 2) (by decide +kernel) rfl
theorem r3_3 : am_T d 3 3 [l0, some (.ref a0), l2] st S I J Q = am_T d 3 4 [l0, some (.ref a0), l2] (.ref a0 :: st) S I J Q := tr_aload_n (m := 1) (by decide +kernel) rfl
theorem r3_4 : am_T d 3 4 ls (.ref a0 :: st) S I J Q = (am_is S a0 1 ∧ am_T d 3 7 ls (.int (I a0 0) :: st) S I J Q) := tr_geti (k := 62) (by decide +kernel) (by decide +kernel) (Or.inl (by decide +kernel))
theorem r3_7 : am_T d 3 7 ls (.int x1 :: .int x0 :: st) S I J Q = if x1 ≤ x0 then am_T d 3 46 ls st S I J Q else am_T d 3 10 ls st S I J Q := tr_icmpge (o := 39) (by decide +kernel) rfl
theorem r3_10 : am_T d 3 10 [l0, l1, some (.int x0)] st S I J Q = am_T d 3 11 [l0, l1, some (.int x0)] (.int x0 :: st) S I J Q := tr_iload_n (m := 2) (by decide +kernel) rfl
theorem r3_11 : am_T d 3 11 [l0, some (.ref a0), l2] st S I J Q = am_T d 3 12 [l0, some (.ref a0), l2] (.ref a0 :: st) S I J Q := tr_aload_n (m := 1) (by decide +kernel) rfl
theorem r3_12 : am_T d 3 12 ls (.ref a0 :: st) S I J Q = (am_is S a0 1 ∧ am_T d 3 15 ls (.int (I a0 1) :: st) S I J Q) := tr_geti (k := 81) (by decide +kernel) (by decide +kernel) (Or.inl (by decide +kernel))
theorem r3_15 : am_T d 3 15 ls (.int x1 :: .int x0 :: st) S I J Q = if x0 = x1 then am_T d 3 40 ls st S I J Q else am_T d 3 18 ls st S I J Q := tr_icmpeq (o := 25) (by decide +kernel) rfl
theorem r3_18 : am_T d 3 18 [some (.ref a0), l1, l2] st S I J Q = am_T d 3 19 [some (.ref a0), l1, l2] (.ref a0 :: st) S I J Q := tr_aload_n (m := 0) (by decide +kernel) rfl
theorem r3_19 : am_T d 3 19 ls (.ref a0 :: st) S I J Q = ((am_is S a0 0 ∧ am_rf S a0 2 ≠ 0) ∧ am_T d 3 22 ls (.ref (am_rf S a0 2) :: st) S I J Q) := tr_geta (k := 22) (by decide +kernel) (by decide +kernel) (by decide +kernel)
theorem r3_22 : am_T d 3 22 [some (.ref a0), l1, l2] st S I J Q = am_T d 3 23 [some (.ref a0), l1, l2] (.ref a0 :: st) S I J Q := tr_aload_n (m := 0) (by decide +kernel) rfl
theorem r3_23 : am_T d 3 23 ls (.ref a0 :: st) S I J Q = ((am_is S a0 0 ∧ am_rf S a0 3 ≠ 0) ∧ am_T d 3 26 ls (.ref (am_rf S a0 3) :: st) S I J Q) := tr_geta (k := 25) (by decide +kernel) (by decide +kernel) (by decide +kernel)
theorem r3_26 : am_T d 3 26 [l0, l1, some (.int x0)] st S I J Q = am_T d 3 27 [l0, l1, some (.int x0)] (.int x0 :: st) S I J Q := tr_iload_n (m := 2) (by decide +kernel) rfl
theorem r3_27 : am_T d 3 27 ls (.int x0 :: .ref a0 :: st) S I J Q = (am_ix S a0 20 x0 ∧ am_T d 3 28 ls (.int (I a0 x0.toNatClampNeg) :: st) S I J Q) := tr_iald (by decide +kernel)
theorem r3_28 : am_T d 3 28 ls (.int x0 :: .ref a0 :: st) S I J Q = (am_ix S a0 20 x0 ∧ am_T d 3 29 ls (.int (I a0 x0.toNatClampNeg) :: st) S I J Q) := tr_iald (by decide +kernel)
theorem r3_29 : am_T d 3 29 ls st S I J Q = am_T d 3 30 ls (.int (-1) :: st) S I J Q := tr_iconst (m := -1) (by decide +kernel) (by decide)
theorem r3_30 : am_T d 3 30 ls (.int x1 :: .int x0 :: st) S I J Q = if x0 = x1 then am_T d 3 33 ls st S I J Q else am_T d 3 40 ls st S I J Q := tr_icmpne (o := 10) (by decide +kernel) rfl
theorem r3_33 : am_T d 3 33 [some (.ref a0), l1, l2] st S I J Q = am_T d 3 34 [some (.ref a0), l1, l2] (.ref a0 :: st) S I J Q := tr_aload_n (m := 0) (by decide +kernel) rfl
theorem r3_34 : am_T d 3 34 ls (.ref a0 :: st) S I J Q = ((am_is S a0 0 ∧ am_rf S a0 3 ≠ 0) ∧ am_T d 3 37 ls (.ref (am_rf S a0 3) :: st) S I J Q) := tr_geta (k := 25) (by decide +kernel) (by decide +kernel) (by decide +kernel)
theorem r3_37 : am_T d 3 37 [l0, l1, some (.int x0)] st S I J Q = am_T d 3 38 [l0, l1, some (.int x0)] (.int x0 :: st) S I J Q := tr_iload_n (m := 2) (by decide +kernel) rfl
theorem r3_38 : am_T d 3 38 ls (.int x0 :: .ref a0 :: st) S I J Q = (am_ix S a0 20 x0 ∧ am_T d 3 39 ls (.int (I a0 x0.toNatClampNeg) :: st) S I J Q) := tr_iald (by decide +kernel)
theorem r3_39 : am_T d 3 39 ls [.int x0] S I J Q = Q (some (.int x0)) S I J := tr_ireti (by decide +kernel) (by decide +kernel)
theorem r3_40 : am_T d 3 40 [l0, l1, some (.int x0)] st S I J Q = am_T d 3 43 [l0, am_clr l1, some (.int (x0 + 1))] st S I J Q := tr_iinc (k := 2) (m := 1) (by decide +kernel) rfl (Nat.le_of_ble_eq_true rfl) (by decide) rfl
theorem r3_43 : am_T d 3 43 ls st S I J Q = am_T d 3 2 ls st S I J Q := tr_goto (o := -41) (by decide +kernel) rfl
theorem r3_46 : am_T d 3 46 ls st S I J Q = am_T d 3 47 ls (.int (-1) :: st) S I J Q := tr_iconst (m := -1) (by decide +kernel) (by decide)
theorem r3_47 : am_T d 3 47 ls [.int x0] S I J Q = Q (some (.int x0)) S I J := tr_ireti (by decide +kernel) (by decide +kernel)
-- 4 Con.cheapestEntering(LArborescenceFinder$Graph;II)I; heads [17]
theorem e4 : am_C (d + 1) 4 [.ref a0, .ref a1, .int x2, .int x3] S I J Q = am_T d 4 0 [some (.ref a0), some (.ref a1), some (.int x2), some (.int x3), none, none, none] [] S I J Q := tr_en (Nat.le_of_ble_eq_true rfl) rfl
theorem r4_0 : am_T d 4 0 [some (.ref a0), l1, l2, l3, l4, l5, l6] st S I J Q = am_T d 4 1 [some (.ref a0), l1, l2, l3, l4, l5, l6] (.ref a0 :: st) S I J Q := tr_aload_n (m := 0) (by decide +kernel) rfl
theorem r4_1 : am_T d 4 1 ls (.ref a0 :: st) S I J Q = ((am_is S a0 0 ∧ am_rf S a0 0 ≠ 0) ∧ am_T d 4 4 ls (.ref (am_rf S a0 0) :: st) S I J Q) := tr_geta (k := 12) (by decide +kernel) (by decide +kernel) (by decide +kernel)
theorem r4_4 : am_T d 4 4 ls (.ref a0 :: st) S I J Q = ((am_is S a0 3 ∧ am_rf S a0 2 ≠ 0) ∧ am_T d 4 7 ls (.ref (am_rf S a0 2) :: st) S I J Q) := tr_geta (k := 84) (by decide +kernel) (by decide +kernel) (by decide +kernel)
theorem r4_7 : am_T d 4 7 [l0, l1, some (.int x0), l3, l4, l5, l6] st S I J Q = am_T d 4 8 [l0, l1, some (.int x0), l3, l4, l5, l6] (.int x0 :: st) S I J Q := tr_iload_n (m := 2) (by decide +kernel) rfl
theorem r4_8 : am_T d 4 8 ls (.int x0 :: .ref a0 :: st) S I J Q = (am_ix S a0 20 x0 ∧ am_T d 4 9 ls (.int (I a0 x0.toNatClampNeg) :: st) S I J Q) := tr_iald (by decide +kernel)
theorem r4_9 : am_T d 4 9 [l0, l1, l2, l3, l4, l5, l6] (.int x0 :: st) S I J Q = am_T d 4 11 [l0, l1, l2, am_clr l3, some (.int x0), l5, l6] st S I J Q := tr_istore (k := 4) (by decide +kernel) (Nat.le_of_ble_eq_true rfl) rfl
theorem r4_11 : am_T d 4 11 ls st S I J Q = am_T d 4 12 ls (.int (-1) :: st) S I J Q := tr_iconst (m := -1) (by decide +kernel) (by decide)
theorem r4_12 : am_T d 4 12 [l0, l1, l2, l3, l4, l5, l6] (.int x0 :: st) S I J Q = am_T d 4 14 [l0, l1, l2, l3, am_clr l4, some (.int x0), l6] st S I J Q := tr_istore (k := 5) (by decide +kernel) (Nat.le_of_ble_eq_true rfl) rfl
theorem r4_14 : am_T d 4 14 ls st S I J Q = am_T d 4 15 ls (.int 0 :: st) S I J Q := tr_iconst (m := 0) (by decide +kernel) (by decide)
theorem r4_15 : am_T d 4 15 [l0, l1, l2, l3, l4, l5, l6] (.int x0 :: st) S I J Q = am_T d 4 17 [l0, l1, l2, l3, l4, am_clr l5, some (.int x0)] st S I J Q := tr_istore (k := 6) (by decide +kernel) (Nat.le_of_ble_eq_true rfl) rfl
theorem r4_17 : am_T d 4 17 [l0, l1, l2, l3, l4, l5, some (.int x0)] st S I J Q = am_T d 4 19 [l0, l1, l2, l3, l4, l5, some (.int x0)] (.int x0 :: st) S I J Q := tr_iload (k := 6) (by decide +kernel) rfl
theorem r4_19 : am_T d 4 19 [l0, some (.ref a0), l2, l3, l4, l5, l6] st S I J Q = am_T d 4 20 [l0, some (.ref a0), l2, l3, l4, l5, l6] (.ref a0 :: st) S I J Q := tr_aload_n (m := 1) (by decide +kernel) rfl
theorem r4_20 : am_T d 4 20 ls (.ref a0 :: st) S I J Q = (am_is S a0 1 ∧ am_T d 4 23 ls (.int (I a0 2) :: st) S I J Q) := tr_geti (k := 72) (by decide +kernel) (by decide +kernel) (Or.inl (by decide +kernel))
theorem r4_23 : am_T d 4 23 ls (.int x1 :: .int x0 :: st) S I J Q = if x1 ≤ x0 then am_T d 4 79 ls st S I J Q else am_T d 4 26 ls st S I J Q := tr_icmpge (o := 56) (by decide +kernel) rfl
theorem r4_26 : am_T d 4 26 [l0, l1, l2, some (.int x0), l4, l5, l6] st S I J Q = am_T d 4 27 [l0, l1, l2, some (.int x0), l4, l5, l6] (.int x0 :: st) S I J Q := tr_iload_n (m := 3) (by decide +kernel) rfl
theorem r4_27 : am_T d 4 27 [l0, l1, l2, l3, l4, l5, some (.int x0)] st S I J Q = am_T d 4 29 [l0, l1, l2, l3, l4, l5, some (.int x0)] (.int x0 :: st) S I J Q := tr_iload (k := 6) (by decide +kernel) rfl
theorem r4_29 : am_T d 4 29 ls [.int x1, .int x0] S I J Q = am_C d 110 [.int x0, .int x1] S I J (fun r S I J => am_T d 4 32 ls (am_psh r []) S I J Q) := tr_stat (k := 87) (by decide +kernel) (Or.inr (by decide +kernel)) (Nat.le_of_ble_eq_true rfl) rfl rfl (Nat.le_of_ble_eq_true rfl)
theorem r4_32 : am_T d 4 32 ls (.int x0 :: st) S I J Q = if x0 = 0 then am_T d 4 73 ls st S I J Q else am_T d 4 35 ls st S I J Q := tr_ifeq (o := 41) (by decide +kernel) rfl
theorem r4_35 : am_T d 4 35 [l0, some (.ref a0), l2, l3, l4, l5, l6] st S I J Q = am_T d 4 36 [l0, some (.ref a0), l2, l3, l4, l5, l6] (.ref a0 :: st) S I J Q := tr_aload_n (m := 1) (by decide +kernel) rfl
theorem r4_36 : am_T d 4 36 [l0, l1, l2, l3, l4, l5, some (.int x0)] st S I J Q = am_T d 4 38 [l0, l1, l2, l3, l4, l5, some (.int x0)] (.int x0 :: st) S I J Q := tr_iload (k := 6) (by decide +kernel) rfl
theorem r4_38 : am_T d 4 38 [l0, l1, l2, l3, some (.int x0), l5, l6] st S I J Q = am_T d 4 40 [l0, l1, l2, l3, some (.int x0), l5, l6] (.int x0 :: st) S I J Q := tr_iload (k := 4) (by decide +kernel) rfl
theorem r4_40 : am_T d 4 40 ls [.int x2, .int x1, .ref a0] S I J Q = (am_is S a0 1 ∧ am_C d 18 [.ref a0, .int x1, .int x2] S I J (fun r S I J => am_T d 4 43 ls (am_psh r []) S I J Q)) := tr_virt (k := 91) (by decide +kernel) (by decide +kernel) rfl rfl (Nat.le_of_ble_eq_true rfl) (by decide +kernel)
theorem r4_43 : am_T d 4 43 ls (.int x0 :: st) S I J Q = if x0 = 0 then am_T d 4 73 ls st S I J Q else am_T d 4 46 ls st S I J Q := tr_ifeq (o := 30) (by decide +kernel) rfl
theorem r4_46 : am_T d 4 46 [l0, l1, l2, l3, l4, some (.int x0), l6] st S I J Q = am_T d 4 48 [l0, l1, l2, l3, l4, some (.int x0), l6] (.int x0 :: st) S I J Q := tr_iload (k := 5) (by decide +kernel) rfl
theorem r4_48 : am_T d 4 48 ls st S I J Q = am_T d 4 49 ls (.int (-1) :: st) S I J Q := tr_iconst (m := -1) (by decide +kernel) (by decide)
theorem r4_49 : am_T d 4 49 ls (.int x1 :: .int x0 :: st) S I J Q = if x0 = x1 then am_T d 4 69 ls st S I J Q else am_T d 4 52 ls st S I J Q := tr_icmpeq (o := 20) (by decide +kernel) rfl
theorem r4_52 : am_T d 4 52 [some (.ref a0), l1, l2, l3, l4, l5, l6] st S I J Q = am_T d 4 53 [some (.ref a0), l1, l2, l3, l4, l5, l6] (.ref a0 :: st) S I J Q := tr_aload_n (m := 0) (by decide +kernel) rfl
theorem r4_53 : am_T d 4 53 ls (.ref a0 :: st) S I J Q = ((am_is S a0 0 ∧ am_rf S a0 1 ≠ 0) ∧ am_T d 4 56 ls (.ref (am_rf S a0 1) :: st) S I J Q) := tr_geta (k := 18) (by decide +kernel) (by decide +kernel) (by decide +kernel)
theorem r4_56 : am_T d 4 56 [l0, l1, l2, l3, l4, l5, some (.int x0)] st S I J Q = am_T d 4 58 [l0, l1, l2, l3, l4, l5, some (.int x0)] (.int x0 :: st) S I J Q := tr_iload (k := 6) (by decide +kernel) rfl
theorem r4_58 : am_T d 4 58 ls (.int x0 :: .ref a0 :: st) S I J Q = (am_ix S a0 20 x0 ∧ am_T d 4 59 ls (.int (I a0 x0.toNatClampNeg) :: st) S I J Q) := tr_iald (by decide +kernel)
theorem r4_59 : am_T d 4 59 [some (.ref a0), l1, l2, l3, l4, l5, l6] st S I J Q = am_T d 4 60 [some (.ref a0), l1, l2, l3, l4, l5, l6] (.ref a0 :: st) S I J Q := tr_aload_n (m := 0) (by decide +kernel) rfl
theorem r4_60 : am_T d 4 60 ls (.ref a0 :: st) S I J Q = ((am_is S a0 0 ∧ am_rf S a0 1 ≠ 0) ∧ am_T d 4 63 ls (.ref (am_rf S a0 1) :: st) S I J Q) := tr_geta (k := 18) (by decide +kernel) (by decide +kernel) (by decide +kernel)
theorem r4_63 : am_T d 4 63 [l0, l1, l2, l3, l4, some (.int x0), l6] st S I J Q = am_T d 4 65 [l0, l1, l2, l3, l4, some (.int x0), l6] (.int x0 :: st) S I J Q := tr_iload (k := 5) (by decide +kernel) rfl
theorem r4_65 : am_T d 4 65 ls (.int x0 :: .ref a0 :: st) S I J Q = (am_ix S a0 20 x0 ∧ am_T d 4 66 ls (.int (I a0 x0.toNatClampNeg) :: st) S I J Q) := tr_iald (by decide +kernel)
theorem r4_66 : am_T d 4 66 ls (.int x1 :: .int x0 :: st) S I J Q = if x1 ≤ x0 then am_T d 4 73 ls st S I J Q else am_T d 4 69 ls st S I J Q := tr_icmpge (o := 7) (by decide +kernel) rfl
theorem r4_69 : am_T d 4 69 [l0, l1, l2, l3, l4, l5, some (.int x0)] st S I J Q = am_T d 4 71 [l0, l1, l2, l3, l4, l5, some (.int x0)] (.int x0 :: st) S I J Q := tr_iload (k := 6) (by decide +kernel) rfl
theorem r4_71 : am_T d 4 71 [l0, l1, l2, l3, l4, l5, l6] (.int x0 :: st) S I J Q = am_T d 4 73 [l0, l1, l2, l3, am_clr l4, some (.int x0), l6] st S I J Q := tr_istore (k := 5) (by decide +kernel) (Nat.le_of_ble_eq_true rfl) rfl
theorem r4_73 : am_T d 4 73 [l0, l1, l2, l3, l4, l5, some (.int x0)] st S I J Q = am_T d 4 76 [l0, l1, l2, l3, l4, am_clr l5, some (.int (x0 + 1))] st S I J Q := tr_iinc (k := 6) (m := 1) (by decide +kernel) rfl (Nat.le_of_ble_eq_true rfl) (by decide) rfl
theorem r4_76 : am_T d 4 76 ls st S I J Q = am_T d 4 17 ls st S I J Q := tr_goto (o := -59) (by decide +kernel) rfl
theorem r4_79 : am_T d 4 79 [l0, l1, l2, l3, l4, some (.int x0), l6] st S I J Q = am_T d 4 81 [l0, l1, l2, l3, l4, some (.int x0), l6] (.int x0 :: st) S I J Q := tr_iload (k := 5) (by decide +kernel) rfl
theorem r4_81 : am_T d 4 81 ls [.int x0] S I J Q = Q (some (.int x0)) S I J := tr_ireti (by decide +kernel) (by decide +kernel)
-- 5 Con.setDual(LArborescenceFinder$Graph;I)V; heads [37]
theorem e5 : am_C (d + 1) 5 [.ref a0, .ref a1, .int x2] S I J Q = am_T d 5 0 [some (.ref a0), some (.ref a1), some (.int x2), none, none, none] [] S I J Q := tr_en (Nat.le_of_ble_eq_true rfl) rfl
theorem r5_0 : am_T d 5 0 [some (.ref a0), l1, l2, l3, l4, l5] st S I J Q = am_T d 5 1 [some (.ref a0), l1, l2, l3, l4, l5] (.ref a0 :: st) S I J Q := tr_aload_n (m := 0) (by decide +kernel) rfl
theorem r5_1 : am_T d 5 1 ls (.ref a0 :: st) S I J Q = ((am_is S a0 0 ∧ am_rf S a0 0 ≠ 0) ∧ am_T d 5 4 ls (.ref (am_rf S a0 0) :: st) S I J Q) := tr_geta (k := 12) (by decide +kernel) (by decide +kernel) (by decide +kernel)
theorem r5_4 : am_T d 5 4 ls (.ref a0 :: st) S I J Q = ((am_is S a0 3 ∧ am_rf S a0 2 ≠ 0) ∧ am_T d 5 7 ls (.ref (am_rf S a0 2) :: st) S I J Q) := tr_geta (k := 84) (by decide +kernel) (by decide +kernel) (by decide +kernel)
theorem r5_7 : am_T d 5 7 [l0, l1, some (.int x0), l3, l4, l5] st S I J Q = am_T d 5 8 [l0, l1, some (.int x0), l3, l4, l5] (.int x0 :: st) S I J Q := tr_iload_n (m := 2) (by decide +kernel) rfl
theorem r5_8 : am_T d 5 8 ls (.int x0 :: .ref a0 :: st) S I J Q = (am_ix S a0 20 x0 ∧ am_T d 5 9 ls (.int (I a0 x0.toNatClampNeg) :: st) S I J Q) := tr_iald (by decide +kernel)
theorem r5_9 : am_T d 5 9 [l0, l1, l2, l3, l4, l5] (.int x0 :: st) S I J Q = am_T d 5 10 [l0, l1, am_clr l2, some (.int x0), l4, l5] st S I J Q := tr_istore_n (m := 3) (by decide +kernel) (Nat.le_of_ble_eq_true rfl) rfl
theorem r5_10 : am_T d 5 10 [some (.ref a0), l1, l2, l3, l4, l5] st S I J Q = am_T d 5 11 [some (.ref a0), l1, l2, l3, l4, l5] (.ref a0 :: st) S I J Q := tr_aload_n (m := 0) (by decide +kernel) rfl
theorem r5_11 : am_T d 5 11 ls (.ref a0 :: st) S I J Q = ((am_is S a0 0 ∧ am_rf S a0 1 ≠ 0) ∧ am_T d 5 14 ls (.ref (am_rf S a0 1) :: st) S I J Q) := tr_geta (k := 18) (by decide +kernel) (by decide +kernel) (by decide +kernel)
theorem r5_14 : am_T d 5 14 [some (.ref a0), l1, l2, l3, l4, l5] st S I J Q = am_T d 5 15 [some (.ref a0), l1, l2, l3, l4, l5] (.ref a0 :: st) S I J Q := tr_aload_n (m := 0) (by decide +kernel) rfl
theorem r5_15 : am_T d 5 15 ls (.ref a0 :: st) S I J Q = ((am_is S a0 0 ∧ am_rf S a0 2 ≠ 0) ∧ am_T d 5 18 ls (.ref (am_rf S a0 2) :: st) S I J Q) := tr_geta (k := 22) (by decide +kernel) (by decide +kernel) (by decide +kernel)
theorem r5_18 : am_T d 5 18 [l0, l1, some (.int x0), l3, l4, l5] st S I J Q = am_T d 5 19 [l0, l1, some (.int x0), l3, l4, l5] (.int x0 :: st) S I J Q := tr_iload_n (m := 2) (by decide +kernel) rfl
theorem r5_19 : am_T d 5 19 ls (.int x0 :: .ref a0 :: st) S I J Q = (am_ix S a0 20 x0 ∧ am_T d 5 20 ls (.int (I a0 x0.toNatClampNeg) :: st) S I J Q) := tr_iald (by decide +kernel)
theorem r5_20 : am_T d 5 20 ls (.int x0 :: .ref a0 :: st) S I J Q = (am_ix S a0 20 x0 ∧ am_T d 5 21 ls (.int (I a0 x0.toNatClampNeg) :: st) S I J Q) := tr_iald (by decide +kernel)
theorem r5_21 : am_T d 5 21 [l0, l1, l2, l3, l4, l5] (.int x0 :: st) S I J Q = am_T d 5 23 [l0, l1, l2, am_clr l3, some (.int x0), l5] st S I J Q := tr_istore (k := 4) (by decide +kernel) (Nat.le_of_ble_eq_true rfl) rfl
theorem r5_23 : am_T d 5 23 [some (.ref a0), l1, l2, l3, l4, l5] st S I J Q = am_T d 5 24 [some (.ref a0), l1, l2, l3, l4, l5] (.ref a0 :: st) S I J Q := tr_aload_n (m := 0) (by decide +kernel) rfl
theorem r5_24 : am_T d 5 24 ls (.ref a0 :: st) S I J Q = ((am_is S a0 0 ∧ am_rf S a0 0 ≠ 0) ∧ am_T d 5 27 ls (.ref (am_rf S a0 0) :: st) S I J Q) := tr_geta (k := 12) (by decide +kernel) (by decide +kernel) (by decide +kernel)
theorem r5_27 : am_T d 5 27 ls (.ref a0 :: st) S I J Q = ((am_is S a0 3 ∧ am_rf S a0 3 ≠ 0) ∧ am_T d 5 30 ls (.ref (am_rf S a0 3) :: st) S I J Q) := tr_geta (k := 94) (by decide +kernel) (by decide +kernel) (by decide +kernel)
theorem r5_30 : am_T d 5 30 [l0, l1, some (.int x0), l3, l4, l5] st S I J Q = am_T d 5 31 [l0, l1, some (.int x0), l3, l4, l5] (.int x0 :: st) S I J Q := tr_iload_n (m := 2) (by decide +kernel) rfl
theorem r5_31 : am_T d 5 31 [l0, l1, l2, l3, some (.int x0), l5] st S I J Q = am_T d 5 33 [l0, l1, l2, l3, some (.int x0), l5] (.int x0 :: st) S I J Q := tr_iload (k := 4) (by decide +kernel) rfl
theorem r5_33 : am_T d 5 33 ls (.int x1 :: .int x0 :: .ref a0 :: st) S I J Q = (am_ixw S a0 20 x0 ∧ am_T d 5 34 ls st S (am_up I a0 x0.toNatClampNeg x1) J Q) := tr_iast (by decide +kernel)
theorem r5_34 : am_T d 5 34 ls st S I J Q = am_T d 5 35 ls (.int 0 :: st) S I J Q := tr_iconst (m := 0) (by decide +kernel) (by decide)
theorem r5_35 : am_T d 5 35 [l0, l1, l2, l3, l4, l5] (.int x0 :: st) S I J Q = am_T d 5 37 [l0, l1, l2, l3, am_clr l4, some (.int x0)] st S I J Q := tr_istore (k := 5) (by decide +kernel) (Nat.le_of_ble_eq_true rfl) rfl
theorem r5_37 : am_T d 5 37 [l0, l1, l2, l3, l4, some (.int x0)] st S I J Q = am_T d 5 39 [l0, l1, l2, l3, l4, some (.int x0)] (.int x0 :: st) S I J Q := tr_iload (k := 5) (by decide +kernel) rfl
theorem r5_39 : am_T d 5 39 [l0, some (.ref a0), l2, l3, l4, l5] st S I J Q = am_T d 5 40 [l0, some (.ref a0), l2, l3, l4, l5] (.ref a0 :: st) S I J Q := tr_aload_n (m := 1) (by decide +kernel) rfl
theorem r5_40 : am_T d 5 40 ls (.ref a0 :: st) S I J Q = (am_is S a0 1 ∧ am_T d 5 43 ls (.int (I a0 2) :: st) S I J Q) := tr_geti (k := 72) (by decide +kernel) (by decide +kernel) (Or.inl (by decide +kernel))
theorem r5_43 : am_T d 5 43 ls (.int x1 :: .int x0 :: st) S I J Q = if x1 ≤ x0 then am_T d 5 74 ls st S I J Q else am_T d 5 46 ls st S I J Q := tr_icmpge (o := 31) (by decide +kernel) rfl
theorem r5_46 : am_T d 5 46 [l0, some (.ref a0), l2, l3, l4, l5] st S I J Q = am_T d 5 47 [l0, some (.ref a0), l2, l3, l4, l5] (.ref a0 :: st) S I J Q := tr_aload_n (m := 1) (by decide +kernel) rfl
theorem r5_47 : am_T d 5 47 [l0, l1, l2, l3, l4, some (.int x0)] st S I J Q = am_T d 5 49 [l0, l1, l2, l3, l4, some (.int x0)] (.int x0 :: st) S I J Q := tr_iload (k := 5) (by decide +kernel) rfl
theorem r5_49 : am_T d 5 49 [l0, l1, l2, some (.int x0), l4, l5] st S I J Q = am_T d 5 50 [l0, l1, l2, some (.int x0), l4, l5] (.int x0 :: st) S I J Q := tr_iload_n (m := 3) (by decide +kernel) rfl
theorem r5_50 : am_T d 5 50 ls [.int x2, .int x1, .ref a0] S I J Q = (am_is S a0 1 ∧ am_C d 18 [.ref a0, .int x1, .int x2] S I J (fun r S I J => am_T d 5 53 ls (am_psh r []) S I J Q)) := tr_virt (k := 91) (by decide +kernel) (by decide +kernel) rfl rfl (Nat.le_of_ble_eq_true rfl) (by decide +kernel)
theorem r5_53 : am_T d 5 53 ls (.int x0 :: st) S I J Q = if x0 = 0 then am_T d 5 68 ls st S I J Q else am_T d 5 56 ls st S I J Q := tr_ifeq (o := 15) (by decide +kernel) rfl
theorem r5_56 : am_T d 5 56 [some (.ref a0), l1, l2, l3, l4, l5] st S I J Q = am_T d 5 57 [some (.ref a0), l1, l2, l3, l4, l5] (.ref a0 :: st) S I J Q := tr_aload_n (m := 0) (by decide +kernel) rfl
theorem r5_57 : am_T d 5 57 ls (.ref a0 :: st) S I J Q = ((am_is S a0 0 ∧ am_rf S a0 1 ≠ 0) ∧ am_T d 5 60 ls (.ref (am_rf S a0 1) :: st) S I J Q) := tr_geta (k := 18) (by decide +kernel) (by decide +kernel) (by decide +kernel)
theorem r5_60 : am_T d 5 60 [l0, l1, l2, l3, l4, some (.int x0)] st S I J Q = am_T d 5 62 [l0, l1, l2, l3, l4, some (.int x0)] (.int x0 :: st) S I J Q := tr_iload (k := 5) (by decide +kernel) rfl
theorem r5_62 : am_T d 5 62 ls (.int x0 :: .ref a0 :: st) S I J Q = am_T d 5 63 ls (.int x0 :: .ref a0 :: .int x0 :: .ref a0 :: st) S I J Q := tr_dup2 (by decide +kernel)
theorem r5_63 : am_T d 5 63 ls (.int x0 :: .ref a0 :: st) S I J Q = (am_ix S a0 20 x0 ∧ am_T d 5 64 ls (.int (I a0 x0.toNatClampNeg) :: st) S I J Q) := tr_iald (by decide +kernel)
theorem r5_64 : am_T d 5 64 [l0, l1, l2, l3, some (.int x0), l5] st S I J Q = am_T d 5 66 [l0, l1, l2, l3, some (.int x0), l5] (.int x0 :: st) S I J Q := tr_iload (k := 4) (by decide +kernel) rfl
theorem r5_66 : am_T d 5 66 ls (.int x1 :: .int x0 :: st) S I J Q = am_T d 5 67 ls (.int (x0 - x1) :: st) S I J Q := tr_isub (by decide +kernel)
theorem r5_67 : am_T d 5 67 ls (.int x1 :: .int x0 :: .ref a0 :: st) S I J Q = (am_ixw S a0 20 x0 ∧ am_T d 5 68 ls st S (am_up I a0 x0.toNatClampNeg x1) J Q) := tr_iast (by decide +kernel)
theorem r5_68 : am_T d 5 68 [l0, l1, l2, l3, l4, some (.int x0)] st S I J Q = am_T d 5 71 [l0, l1, l2, l3, am_clr l4, some (.int (x0 + 1))] st S I J Q := tr_iinc (k := 5) (m := 1) (by decide +kernel) rfl (Nat.le_of_ble_eq_true rfl) (by decide) rfl
theorem r5_71 : am_T d 5 71 ls st S I J Q = am_T d 5 37 ls st S I J Q := tr_goto (o := -34) (by decide +kernel) rfl
theorem r5_74 : am_T d 5 74 ls [] S I J Q = Q none S I J := tr_vret (by decide +kernel) (by decide +kernel)
-- 6 Con.groupBefore(LArborescenceFinder$Graph;I)I; heads []
theorem e6 : am_C (d + 1) 6 [.ref a0, .ref a1, .int x2] S I J Q = am_T d 6 0 [some (.ref a0), some (.ref a1), some (.int x2)] [] S I J Q := tr_en (Nat.le_of_ble_eq_true rfl) rfl
theorem r6_0 : am_T d 6 0 [some (.ref a0), l1, l2] st S I J Q = am_T d 6 1 [some (.ref a0), l1, l2] (.ref a0 :: st) S I J Q := tr_aload_n (m := 0) (by decide +kernel) rfl
theorem r6_1 : am_T d 6 1 ls (.ref a0 :: st) S I J Q = ((am_is S a0 0 ∧ am_rf S a0 3 ≠ 0) ∧ am_T d 6 4 ls (.ref (am_rf S a0 3) :: st) S I J Q) := tr_geta (k := 25) (by decide +kernel) (by decide +kernel) (by decide +kernel)
theorem r6_4 : am_T d 6 4 [l0, some (.ref a0), l2] st S I J Q = am_T d 6 5 [l0, some (.ref a0), l2] (.ref a0 :: st) S I J Q := tr_aload_n (m := 1) (by decide +kernel) rfl
theorem r6_5 : am_T d 6 5 ls (.ref a0 :: st) S I J Q = ((am_is S a0 1 ∧ am_rf S a0 3 ≠ 0) ∧ am_T d 6 8 ls (.ref (am_rf S a0 3) :: st) S I J Q) := tr_geta (k := 97) (by decide +kernel) (by decide +kernel) (by decide +kernel)
theorem r6_8 : am_T d 6 8 [some (.ref a0), l1, l2] st S I J Q = am_T d 6 9 [some (.ref a0), l1, l2] (.ref a0 :: st) S I J Q := tr_aload_n (m := 0) (by decide +kernel) rfl
theorem r6_9 : am_T d 6 9 ls (.ref a0 :: st) S I J Q = ((am_is S a0 0 ∧ am_rf S a0 2 ≠ 0) ∧ am_T d 6 12 ls (.ref (am_rf S a0 2) :: st) S I J Q) := tr_geta (k := 22) (by decide +kernel) (by decide +kernel) (by decide +kernel)
theorem r6_12 : am_T d 6 12 [l0, l1, some (.int x0)] st S I J Q = am_T d 6 13 [l0, l1, some (.int x0)] (.int x0 :: st) S I J Q := tr_iload_n (m := 2) (by decide +kernel) rfl
theorem r6_13 : am_T d 6 13 ls (.int x0 :: .ref a0 :: st) S I J Q = (am_ix S a0 20 x0 ∧ am_T d 6 14 ls (.int (I a0 x0.toNatClampNeg) :: st) S I J Q) := tr_iald (by decide +kernel)
theorem r6_14 : am_T d 6 14 ls (.int x0 :: .ref a0 :: st) S I J Q = (am_ix S a0 20 x0 ∧ am_T d 6 15 ls (.int (I a0 x0.toNatClampNeg) :: st) S I J Q) := tr_iald (by decide +kernel)
theorem r6_15 : am_T d 6 15 ls (.int x0 :: .ref a0 :: st) S I J Q = (am_ix S a0 20 x0 ∧ am_T d 6 16 ls (.int (I a0 x0.toNatClampNeg) :: st) S I J Q) := tr_iald (by decide +kernel)
theorem r6_16 : am_T d 6 16 ls [.int x0] S I J Q = Q (some (.int x0)) S I J := tr_ireti (by decide +kernel) (by decide +kernel)
-- 7 Con.closesCycle(LArborescenceFinder$Graph;I)Z; heads [5]
theorem e7 : am_C (d + 1) 7 [.ref a0, .ref a1, .int x2] S I J Q = am_T d 7 0 [some (.ref a0), some (.ref a1), some (.int x2), none, none] [] S I J Q := tr_en (Nat.le_of_ble_eq_true rfl) rfl
theorem r7_0 : am_T d 7 0 [l0, l1, some (.int x0), l3, l4] st S I J Q = am_T d 7 1 [l0, l1, some (.int x0), l3, l4] (.int x0 :: st) S I J Q := tr_iload_n (m := 2) (by decide +kernel) rfl
theorem r7_1 : am_T d 7 1 [l0, l1, l2, l3, l4] (.int x0 :: st) S I J Q = am_T d 7 2 [l0, l1, am_clr l2, some (.int x0), l4] st S I J Q := tr_istore_n (m := 3) (by decide +kernel) (Nat.le_of_ble_eq_true rfl) rfl
theorem r7_2 : am_T d 7 2 ls st S I J Q = am_T d 7 3 ls (.int 0 :: st) S I J Q := tr_iconst (m := 0) (by decide +kernel) (by decide)
theorem r7_3 : am_T d 7 3 [l0, l1, l2, l3, l4] (.int x0 :: st) S I J Q = am_T d 7 5 [l0, l1, l2, am_clr l3, some (.int x0)] st S I J Q := tr_istore (k := 4) (by decide +kernel) (Nat.le_of_ble_eq_true rfl) rfl
theorem r7_5 : am_T d 7 5 [l0, l1, l2, l3, some (.int x0)] st S I J Q = am_T d 7 7 [l0, l1, l2, l3, some (.int x0)] (.int x0 :: st) S I J Q := tr_iload (k := 4) (by decide +kernel) rfl
theorem r7_7 : am_T d 7 7 [l0, some (.ref a0), l2, l3, l4] st S I J Q = am_T d 7 8 [l0, some (.ref a0), l2, l3, l4] (.ref a0 :: st) S I J Q := tr_aload_n (m := 1) (by decide +kernel) rfl
theorem r7_8 : am_T d 7 8 ls (.ref a0 :: st) S I J Q = (am_is S a0 1 ∧ am_T d 7 11 ls (.int (I a0 0) :: st) S I J Q) := tr_geti (k := 62) (by decide +kernel) (by decide +kernel) (Or.inl (by decide +kernel))
theorem r7_11 : am_T d 7 11 ls (.int x1 :: .int x0 :: st) S I J Q = if x1 ≤ x0 then am_T d 7 46 ls st S I J Q else am_T d 7 14 ls st S I J Q := tr_icmpge (o := 35) (by decide +kernel) rfl
theorem r7_14 : am_T d 7 14 [some (.ref a0), l1, l2, l3, l4] st S I J Q = am_T d 7 15 [some (.ref a0), l1, l2, l3, l4] (.ref a0 :: st) S I J Q := tr_aload_n (m := 0) (by decide +kernel) rfl
theorem r7_15 : am_T d 7 15 [l0, some (.ref a0), l2, l3, l4] st S I J Q = am_T d 7 16 [l0, some (.ref a0), l2, l3, l4] (.ref a0 :: st) S I J Q := tr_aload_n (m := 1) (by decide +kernel) rfl
theorem r7_16 : am_T d 7 16 [l0, l1, l2, some (.int x0), l4] st S I J Q = am_T d 7 17 [l0, l1, l2, some (.int x0), l4] (.int x0 :: st) S I J Q := tr_iload_n (m := 3) (by decide +kernel) rfl
theorem r7_17 : am_T d 7 17 ls [.int x2, .ref a1, .ref a0] S I J Q = (am_is S a0 0 ∧ am_C d 6 [.ref a0, .ref a1, .int x2] S I J (fun r S I J => am_T d 7 20 ls (am_psh r []) S I J Q)) := tr_virt (k := 100) (by decide +kernel) (by decide +kernel) rfl rfl (Nat.le_of_ble_eq_true rfl) (by decide +kernel)
theorem r7_20 : am_T d 7 20 [l0, l1, l2, l3, l4] (.int x0 :: st) S I J Q = am_T d 7 21 [l0, l1, am_clr l2, some (.int x0), l4] st S I J Q := tr_istore_n (m := 3) (by decide +kernel) (Nat.le_of_ble_eq_true rfl) rfl
theorem r7_21 : am_T d 7 21 [l0, l1, l2, some (.int x0), l4] st S I J Q = am_T d 7 22 [l0, l1, l2, some (.int x0), l4] (.int x0 :: st) S I J Q := tr_iload_n (m := 3) (by decide +kernel) rfl
theorem r7_22 : am_T d 7 22 [l0, l1, some (.int x0), l3, l4] st S I J Q = am_T d 7 23 [l0, l1, some (.int x0), l3, l4] (.int x0 :: st) S I J Q := tr_iload_n (m := 2) (by decide +kernel) rfl
theorem r7_23 : am_T d 7 23 ls (.int x1 :: .int x0 :: st) S I J Q = if x0 = x1 then am_T d 7 26 ls st S I J Q else am_T d 7 28 ls st S I J Q := tr_icmpne (o := 5) (by decide +kernel) rfl
theorem r7_26 : am_T d 7 26 ls st S I J Q = am_T d 7 27 ls (.int 1 :: st) S I J Q := tr_iconst (m := 1) (by decide +kernel) (by decide)
theorem r7_27 : am_T d 7 27 ls [.int x0] S I J Q = ((x0 = 0 ∨ x0 = 1) ∧ Q (some (.int x0)) S I J) := tr_iretz (by decide +kernel) (by decide +kernel)
theorem r7_28 : am_T d 7 28 [some (.ref a0), l1, l2, l3, l4] st S I J Q = am_T d 7 29 [some (.ref a0), l1, l2, l3, l4] (.ref a0 :: st) S I J Q := tr_aload_n (m := 0) (by decide +kernel) rfl
theorem r7_29 : am_T d 7 29 ls (.ref a0 :: st) S I J Q = ((am_is S a0 0 ∧ am_rf S a0 2 ≠ 0) ∧ am_T d 7 32 ls (.ref (am_rf S a0 2) :: st) S I J Q) := tr_geta (k := 22) (by decide +kernel) (by decide +kernel) (by decide +kernel)
theorem r7_32 : am_T d 7 32 [l0, l1, l2, some (.int x0), l4] st S I J Q = am_T d 7 33 [l0, l1, l2, some (.int x0), l4] (.int x0 :: st) S I J Q := tr_iload_n (m := 3) (by decide +kernel) rfl
theorem r7_33 : am_T d 7 33 ls (.int x0 :: .ref a0 :: st) S I J Q = (am_ix S a0 20 x0 ∧ am_T d 7 34 ls (.int (I a0 x0.toNatClampNeg) :: st) S I J Q) := tr_iald (by decide +kernel)
theorem r7_34 : am_T d 7 34 ls st S I J Q = am_T d 7 35 ls (.int (-1) :: st) S I J Q := tr_iconst (m := -1) (by decide +kernel) (by decide)
theorem r7_35 : am_T d 7 35 ls (.int x1 :: .int x0 :: st) S I J Q = if x0 = x1 then am_T d 7 38 ls st S I J Q else am_T d 7 40 ls st S I J Q := tr_icmpne (o := 5) (by decide +kernel) rfl
theorem r7_38 : am_T d 7 38 ls st S I J Q = am_T d 7 39 ls (.int 0 :: st) S I J Q := tr_iconst (m := 0) (by decide +kernel) (by decide)
theorem r7_39 : am_T d 7 39 ls [.int x0] S I J Q = ((x0 = 0 ∨ x0 = 1) ∧ Q (some (.int x0)) S I J) := tr_iretz (by decide +kernel) (by decide +kernel)
theorem r7_40 : am_T d 7 40 [l0, l1, l2, l3, some (.int x0)] st S I J Q = am_T d 7 43 [l0, l1, l2, am_clr l3, some (.int (x0 + 1))] st S I J Q := tr_iinc (k := 4) (m := 1) (by decide +kernel) rfl (Nat.le_of_ble_eq_true rfl) (by decide) rfl
theorem r7_43 : am_T d 7 43 ls st S I J Q = am_T d 7 5 ls st S I J Q := tr_goto (o := -38) (by decide +kernel) rfl
theorem r7_46 : am_T d 7 46 ls st S I J Q = am_T d 7 47 ls (.int 0 :: st) S I J Q := tr_iconst (m := 0) (by decide +kernel) (by decide)
theorem r7_47 : am_T d 7 47 ls [.int x0] S I J Q = ((x0 = 0 ∨ x0 = 1) ∧ Q (some (.int x0)) S I J) := tr_iretz (by decide +kernel) (by decide +kernel)
-- 8 Con.uniteCycle(LArborescenceFinder$Graph;I)V; heads [17, 88]
theorem e8 : am_C (d + 1) 8 [.ref a0, .ref a1, .int x2] S I J Q = am_T d 8 0 [some (.ref a0), some (.ref a1), some (.int x2), none, none, none, none] [] S I J Q := tr_en (Nat.le_of_ble_eq_true rfl) rfl
theorem r8_0 : am_T d 8 0 [some (.ref a0), l1, l2, l3, l4, l5, l6] st S I J Q = am_T d 8 1 [some (.ref a0), l1, l2, l3, l4, l5, l6] (.ref a0 :: st) S I J Q := tr_aload_n (m := 0) (by decide +kernel) rfl
theorem r8_1 : am_T d 8 1 ls (.ref a0 :: st) S I J Q = ((am_is S a0 0 ∧ am_rf S a0 0 ≠ 0) ∧ am_T d 8 4 ls (.ref (am_rf S a0 0) :: st) S I J Q) := tr_geta (k := 12) (by decide +kernel) (by decide +kernel) (by decide +kernel)
theorem r8_4 : am_T d 8 4 ls (.ref a0 :: st) S I J Q = (am_is S a0 3 ∧ am_T d 8 7 ls (.int (I a0 1) :: st) S I J Q) := tr_geti (k := 104) (by decide +kernel) (by decide +kernel) (Or.inl (by decide +kernel))
theorem r8_7 : am_T d 8 7 [l0, l1, l2, l3, l4, l5, l6] (.int x0 :: st) S I J Q = am_T d 8 8 [l0, l1, am_clr l2, some (.int x0), l4, l5, l6] st S I J Q := tr_istore_n (m := 3) (by decide +kernel) (Nat.le_of_ble_eq_true rfl) rfl
theorem r8_8 : am_T d 8 8 ls st S I J Q = am_T d 8 9 ls (.int 0 :: st) S I J Q := tr_iconst (m := 0) (by decide +kernel) (by decide)
theorem r8_9 : am_T d 8 9 [l0, l1, l2, l3, l4, l5, l6] (.int x0 :: st) S I J Q = am_T d 8 11 [l0, l1, l2, am_clr l3, some (.int x0), l5, l6] st S I J Q := tr_istore (k := 4) (by decide +kernel) (Nat.le_of_ble_eq_true rfl) rfl
theorem r8_11 : am_T d 8 11 [l0, l1, some (.int x0), l3, l4, l5, l6] st S I J Q = am_T d 8 12 [l0, l1, some (.int x0), l3, l4, l5, l6] (.int x0 :: st) S I J Q := tr_iload_n (m := 2) (by decide +kernel) rfl
theorem r8_12 : am_T d 8 12 [l0, l1, l2, l3, l4, l5, l6] (.int x0 :: st) S I J Q = am_T d 8 14 [l0, l1, l2, l3, am_clr l4, some (.int x0), l6] st S I J Q := tr_istore (k := 5) (by decide +kernel) (Nat.le_of_ble_eq_true rfl) rfl
theorem r8_14 : am_T d 8 14 ls st S I J Q = am_T d 8 15 ls (.int 0 :: st) S I J Q := tr_iconst (m := 0) (by decide +kernel) (by decide)
theorem r8_15 : am_T d 8 15 [l0, l1, l2, l3, l4, l5, l6] (.int x0 :: st) S I J Q = am_T d 8 17 [l0, l1, l2, l3, l4, am_clr l5, some (.int x0)] st S I J Q := tr_istore (k := 6) (by decide +kernel) (Nat.le_of_ble_eq_true rfl) rfl
theorem r8_17 : am_T d 8 17 [l0, l1, l2, l3, l4, l5, some (.int x0)] st S I J Q = am_T d 8 19 [l0, l1, l2, l3, l4, l5, some (.int x0)] (.int x0 :: st) S I J Q := tr_iload (k := 6) (by decide +kernel) rfl
theorem r8_19 : am_T d 8 19 [l0, some (.ref a0), l2, l3, l4, l5, l6] st S I J Q = am_T d 8 20 [l0, some (.ref a0), l2, l3, l4, l5, l6] (.ref a0 :: st) S I J Q := tr_aload_n (m := 1) (by decide +kernel) rfl
theorem r8_20 : am_T d 8 20 ls (.ref a0 :: st) S I J Q = (am_is S a0 1 ∧ am_T d 8 23 ls (.int (I a0 0) :: st) S I J Q) := tr_geti (k := 62) (by decide +kernel) (by decide +kernel) (Or.inl (by decide +kernel))
theorem r8_23 : am_T d 8 23 ls (.int x1 :: .int x0 :: st) S I J Q = if x1 ≤ x0 then am_T d 8 76 ls st S I J Q else am_T d 8 26 ls st S I J Q := tr_icmpge (o := 53) (by decide +kernel) rfl
theorem r8_26 : am_T d 8 26 [l0, l1, l2, l3, some (.int x0), l5, l6] st S I J Q = am_T d 8 28 [l0, l1, l2, l3, some (.int x0), l5, l6] (.int x0 :: st) S I J Q := tr_iload (k := 4) (by decide +kernel) rfl
theorem r8_28 : am_T d 8 28 [some (.ref a0), l1, l2, l3, l4, l5, l6] st S I J Q = am_T d 8 29 [some (.ref a0), l1, l2, l3, l4, l5, l6] (.ref a0 :: st) S I J Q := tr_aload_n (m := 0) (by decide +kernel) rfl
theorem r8_29 : am_T d 8 29 ls (.ref a0 :: st) S I J Q = ((am_is S a0 0 ∧ am_rf S a0 0 ≠ 0) ∧ am_T d 8 32 ls (.ref (am_rf S a0 0) :: st) S I J Q) := tr_geta (k := 12) (by decide +kernel) (by decide +kernel) (by decide +kernel)
theorem r8_32 : am_T d 8 32 ls (.ref a0 :: st) S I J Q = ((am_is S a0 3 ∧ am_rf S a0 2 ≠ 0) ∧ am_T d 8 35 ls (.ref (am_rf S a0 2) :: st) S I J Q) := tr_geta (k := 84) (by decide +kernel) (by decide +kernel) (by decide +kernel)
theorem r8_35 : am_T d 8 35 [l0, l1, l2, l3, l4, some (.int x0), l6] st S I J Q = am_T d 8 37 [l0, l1, l2, l3, l4, some (.int x0), l6] (.int x0 :: st) S I J Q := tr_iload (k := 5) (by decide +kernel) rfl
theorem r8_37 : am_T d 8 37 ls (.int x0 :: .ref a0 :: st) S I J Q = (am_ix S a0 20 x0 ∧ am_T d 8 38 ls (.int (I a0 x0.toNatClampNeg) :: st) S I J Q) := tr_iald (by decide +kernel)
theorem r8_38 : am_T d 8 38 ls (.int x1 :: .int x0 :: st) S I J Q = am_T d 8 39 ls (.int (x0 ||| x1) :: st) S I J Q := tr_ior (by decide +kernel)
theorem r8_39 : am_T d 8 39 [l0, l1, l2, l3, l4, l5, l6] (.int x0 :: st) S I J Q = am_T d 8 41 [l0, l1, l2, am_clr l3, some (.int x0), l5, l6] st S I J Q := tr_istore (k := 4) (by decide +kernel) (Nat.le_of_ble_eq_true rfl) rfl
theorem r8_41 : am_T d 8 41 [some (.ref a0), l1, l2, l3, l4, l5, l6] st S I J Q = am_T d 8 42 [some (.ref a0), l1, l2, l3, l4, l5, l6] (.ref a0 :: st) S I J Q := tr_aload_n (m := 0) (by decide +kernel) rfl
theorem r8_42 : am_T d 8 42 ls (.ref a0 :: st) S I J Q = ((am_is S a0 0 ∧ am_rf S a0 0 ≠ 0) ∧ am_T d 8 45 ls (.ref (am_rf S a0 0) :: st) S I J Q) := tr_geta (k := 12) (by decide +kernel) (by decide +kernel) (by decide +kernel)
theorem r8_45 : am_T d 8 45 ls (.ref a0 :: st) S I J Q = ((am_is S a0 3 ∧ am_rf S a0 4 ≠ 0) ∧ am_T d 8 48 ls (.ref (am_rf S a0 4) :: st) S I J Q) := tr_geta (k := 107) (by decide +kernel) (by decide +kernel) (by decide +kernel)
theorem r8_48 : am_T d 8 48 [l0, l1, l2, l3, l4, some (.int x0), l6] st S I J Q = am_T d 8 50 [l0, l1, l2, l3, l4, some (.int x0), l6] (.int x0 :: st) S I J Q := tr_iload (k := 5) (by decide +kernel) rfl
theorem r8_50 : am_T d 8 50 [l0, l1, l2, some (.int x0), l4, l5, l6] st S I J Q = am_T d 8 51 [l0, l1, l2, some (.int x0), l4, l5, l6] (.int x0 :: st) S I J Q := tr_iload_n (m := 3) (by decide +kernel) rfl
theorem r8_51 : am_T d 8 51 ls (.int x1 :: .int x0 :: .ref a0 :: st) S I J Q = (am_ixw S a0 20 x0 ∧ am_T d 8 52 ls st S (am_up I a0 x0.toNatClampNeg x1) J Q) := tr_iast (by decide +kernel)
theorem r8_52 : am_T d 8 52 [some (.ref a0), l1, l2, l3, l4, l5, l6] st S I J Q = am_T d 8 53 [some (.ref a0), l1, l2, l3, l4, l5, l6] (.ref a0 :: st) S I J Q := tr_aload_n (m := 0) (by decide +kernel) rfl
theorem r8_53 : am_T d 8 53 [l0, some (.ref a0), l2, l3, l4, l5, l6] st S I J Q = am_T d 8 54 [l0, some (.ref a0), l2, l3, l4, l5, l6] (.ref a0 :: st) S I J Q := tr_aload_n (m := 1) (by decide +kernel) rfl
theorem r8_54 : am_T d 8 54 [l0, l1, l2, l3, l4, some (.int x0), l6] st S I J Q = am_T d 8 56 [l0, l1, l2, l3, l4, some (.int x0), l6] (.int x0 :: st) S I J Q := tr_iload (k := 5) (by decide +kernel) rfl
theorem r8_56 : am_T d 8 56 ls [.int x2, .ref a1, .ref a0] S I J Q = (am_is S a0 0 ∧ am_C d 6 [.ref a0, .ref a1, .int x2] S I J (fun r S I J => am_T d 8 59 ls (am_psh r []) S I J Q)) := tr_virt (k := 100) (by decide +kernel) (by decide +kernel) rfl rfl (Nat.le_of_ble_eq_true rfl) (by decide +kernel)
theorem r8_59 : am_T d 8 59 [l0, l1, l2, l3, l4, l5, l6] (.int x0 :: st) S I J Q = am_T d 8 61 [l0, l1, l2, l3, am_clr l4, some (.int x0), l6] st S I J Q := tr_istore (k := 5) (by decide +kernel) (Nat.le_of_ble_eq_true rfl) rfl
theorem r8_61 : am_T d 8 61 [l0, l1, l2, l3, l4, some (.int x0), l6] st S I J Q = am_T d 8 63 [l0, l1, l2, l3, l4, some (.int x0), l6] (.int x0 :: st) S I J Q := tr_iload (k := 5) (by decide +kernel) rfl
theorem r8_63 : am_T d 8 63 [l0, l1, some (.int x0), l3, l4, l5, l6] st S I J Q = am_T d 8 64 [l0, l1, some (.int x0), l3, l4, l5, l6] (.int x0 :: st) S I J Q := tr_iload_n (m := 2) (by decide +kernel) rfl
theorem r8_64 : am_T d 8 64 ls (.int x1 :: .int x0 :: st) S I J Q = if x0 = x1 then am_T d 8 67 ls st S I J Q else am_T d 8 70 ls st S I J Q := tr_icmpne (o := 6) (by decide +kernel) rfl
theorem r8_67 : am_T d 8 67 ls st S I J Q = am_T d 8 76 ls st S I J Q := tr_goto (o := 9) (by decide +kernel) rfl
theorem r8_70 : am_T d 8 70 [l0, l1, l2, l3, l4, l5, some (.int x0)] st S I J Q = am_T d 8 73 [l0, l1, l2, l3, l4, am_clr l5, some (.int (x0 + 1))] st S I J Q := tr_iinc (k := 6) (m := 1) (by decide +kernel) rfl (Nat.le_of_ble_eq_true rfl) (by decide) rfl
theorem r8_73 : am_T d 8 73 ls st S I J Q = am_T d 8 17 ls st S I J Q := tr_goto (o := -56) (by decide +kernel) rfl
theorem r8_76 : am_T d 8 76 [some (.ref a0), l1, l2, l3, l4, l5, l6] st S I J Q = am_T d 8 77 [some (.ref a0), l1, l2, l3, l4, l5, l6] (.ref a0 :: st) S I J Q := tr_aload_n (m := 0) (by decide +kernel) rfl
theorem r8_77 : am_T d 8 77 ls (.ref a0 :: st) S I J Q = ((am_is S a0 0 ∧ am_rf S a0 0 ≠ 0) ∧ am_T d 8 80 ls (.ref (am_rf S a0 0) :: st) S I J Q) := tr_geta (k := 12) (by decide +kernel) (by decide +kernel) (by decide +kernel)
theorem r8_80 : am_T d 8 80 [l0, l1, l2, l3, some (.int x0), l5, l6] st S I J Q = am_T d 8 82 [l0, l1, l2, l3, some (.int x0), l5, l6] (.int x0 :: st) S I J Q := tr_iload (k := 4) (by decide +kernel) rfl
theorem r8_82 : am_T d 8 82 ls [.int x1, .ref a0] S I J Q = (am_is S a0 3 ∧ am_C d 29 [.ref a0, .int x1] S I J (fun r S I J => am_T d 8 85 ls (am_psh r []) S I J Q)) := tr_virt (k := 110) (by decide +kernel) (by decide +kernel) rfl rfl (Nat.le_of_ble_eq_true rfl) (by decide +kernel)
theorem r8_85 : am_T d 8 85 ls st S I J Q = am_T d 8 86 ls (.int 0 :: st) S I J Q := tr_iconst (m := 0) (by decide +kernel) (by decide)
theorem r8_86 : am_T d 8 86 [l0, l1, l2, l3, l4, l5, l6] (.int x0 :: st) S I J Q = am_T d 8 88 [l0, l1, l2, l3, l4, am_clr l5, some (.int x0)] st S I J Q := tr_istore (k := 6) (by decide +kernel) (Nat.le_of_ble_eq_true rfl) rfl
theorem r8_88 : am_T d 8 88 [l0, l1, l2, l3, l4, l5, some (.int x0)] st S I J Q = am_T d 8 90 [l0, l1, l2, l3, l4, l5, some (.int x0)] (.int x0 :: st) S I J Q := tr_iload (k := 6) (by decide +kernel) rfl
theorem r8_90 : am_T d 8 90 [l0, some (.ref a0), l2, l3, l4, l5, l6] st S I J Q = am_T d 8 91 [l0, some (.ref a0), l2, l3, l4, l5, l6] (.ref a0 :: st) S I J Q := tr_aload_n (m := 1) (by decide +kernel) rfl
theorem r8_91 : am_T d 8 91 ls (.ref a0 :: st) S I J Q = (am_is S a0 1 ∧ am_T d 8 94 ls (.int (I a0 0) :: st) S I J Q) := tr_geti (k := 62) (by decide +kernel) (by decide +kernel) (Or.inl (by decide +kernel))
theorem r8_94 : am_T d 8 94 ls (.int x1 :: .int x0 :: st) S I J Q = if x1 ≤ x0 then am_T d 8 121 ls st S I J Q else am_T d 8 97 ls st S I J Q := tr_icmpge (o := 27) (by decide +kernel) rfl
theorem r8_97 : am_T d 8 97 [l0, l1, l2, l3, some (.int x0), l5, l6] st S I J Q = am_T d 8 99 [l0, l1, l2, l3, some (.int x0), l5, l6] (.int x0 :: st) S I J Q := tr_iload (k := 4) (by decide +kernel) rfl
theorem r8_99 : am_T d 8 99 [l0, l1, l2, l3, l4, l5, some (.int x0)] st S I J Q = am_T d 8 101 [l0, l1, l2, l3, l4, l5, some (.int x0)] (.int x0 :: st) S I J Q := tr_iload (k := 6) (by decide +kernel) rfl
theorem r8_101 : am_T d 8 101 ls [.int x1, .int x0] S I J Q = am_C d 109 [.int x0, .int x1] S I J (fun r S I J => am_T d 8 104 ls (am_psh r []) S I J Q) := tr_stat (k := 113) (by decide +kernel) (Or.inr (by decide +kernel)) (Nat.le_of_ble_eq_true rfl) rfl rfl (Nat.le_of_ble_eq_true rfl)
theorem r8_104 : am_T d 8 104 ls (.int x0 :: st) S I J Q = if x0 = 0 then am_T d 8 115 ls st S I J Q else am_T d 8 107 ls st S I J Q := tr_ifeq (o := 11) (by decide +kernel) rfl
theorem r8_107 : am_T d 8 107 [some (.ref a0), l1, l2, l3, l4, l5, l6] st S I J Q = am_T d 8 108 [some (.ref a0), l1, l2, l3, l4, l5, l6] (.ref a0 :: st) S I J Q := tr_aload_n (m := 0) (by decide +kernel) rfl
theorem r8_108 : am_T d 8 108 ls (.ref a0 :: st) S I J Q = ((am_is S a0 0 ∧ am_rf S a0 3 ≠ 0) ∧ am_T d 8 111 ls (.ref (am_rf S a0 3) :: st) S I J Q) := tr_geta (k := 25) (by decide +kernel) (by decide +kernel) (by decide +kernel)
theorem r8_111 : am_T d 8 111 [l0, l1, l2, l3, l4, l5, some (.int x0)] st S I J Q = am_T d 8 113 [l0, l1, l2, l3, l4, l5, some (.int x0)] (.int x0 :: st) S I J Q := tr_iload (k := 6) (by decide +kernel) rfl
theorem r8_113 : am_T d 8 113 [l0, l1, l2, some (.int x0), l4, l5, l6] st S I J Q = am_T d 8 114 [l0, l1, l2, some (.int x0), l4, l5, l6] (.int x0 :: st) S I J Q := tr_iload_n (m := 3) (by decide +kernel) rfl
theorem r8_114 : am_T d 8 114 ls (.int x1 :: .int x0 :: .ref a0 :: st) S I J Q = (am_ixw S a0 20 x0 ∧ am_T d 8 115 ls st S (am_up I a0 x0.toNatClampNeg x1) J Q) := tr_iast (by decide +kernel)
theorem r8_115 : am_T d 8 115 [l0, l1, l2, l3, l4, l5, some (.int x0)] st S I J Q = am_T d 8 118 [l0, l1, l2, l3, l4, am_clr l5, some (.int (x0 + 1))] st S I J Q := tr_iinc (k := 6) (m := 1) (by decide +kernel) rfl (Nat.le_of_ble_eq_true rfl) (by decide) rfl
theorem r8_118 : am_T d 8 118 ls st S I J Q = am_T d 8 88 ls st S I J Q := tr_goto (o := -30) (by decide +kernel) rfl
theorem r8_121 : am_T d 8 121 ls [] S I J Q = Q none S I J := tr_vret (by decide +kernel) (by decide +kernel)
-- 9 Con.readOff(LArborescenceFinder$Graph;)V; heads [10]
theorem e9 : am_C (d + 1) 9 [.ref a0, .ref a1] S I J Q = am_T d 9 0 [some (.ref a0), some (.ref a1), none, none, none] [] S I J Q := tr_en (Nat.le_of_ble_eq_true rfl) rfl
theorem r9_0 : am_T d 9 0 [some (.ref a0), l1, l2, l3, l4] st S I J Q = am_T d 9 1 [some (.ref a0), l1, l2, l3, l4] (.ref a0 :: st) S I J Q := tr_aload_n (m := 0) (by decide +kernel) rfl
theorem r9_1 : am_T d 9 1 ls (.ref a0 :: st) S I J Q = ((am_is S a0 0 ∧ am_rf S a0 0 ≠ 0) ∧ am_T d 9 4 ls (.ref (am_rf S a0 0) :: st) S I J Q) := tr_geta (k := 12) (by decide +kernel) (by decide +kernel) (by decide +kernel)
theorem r9_4 : am_T d 9 4 ls (.ref a0 :: st) S I J Q = (am_is S a0 3 ∧ am_T d 9 7 ls (.int (I a0 1) :: st) S I J Q) := tr_geti (k := 104) (by decide +kernel) (by decide +kernel) (Or.inl (by decide +kernel))
theorem r9_7 : am_T d 9 7 ls st S I J Q = am_T d 9 8 ls (.int 1 :: st) S I J Q := tr_iconst (m := 1) (by decide +kernel) (by decide)
theorem r9_8 : am_T d 9 8 ls (.int x1 :: .int x0 :: st) S I J Q = am_T d 9 9 ls (.int (x0 - x1) :: st) S I J Q := tr_isub (by decide +kernel)
theorem r9_9 : am_T d 9 9 [l0, l1, l2, l3, l4] (.int x0 :: st) S I J Q = am_T d 9 10 [l0, am_clr l1, some (.int x0), l3, l4] st S I J Q := tr_istore_n (m := 2) (by decide +kernel) (Nat.le_of_ble_eq_true rfl) rfl
theorem r9_10 : am_T d 9 10 [l0, l1, some (.int x0), l3, l4] st S I J Q = am_T d 9 11 [l0, l1, some (.int x0), l3, l4] (.int x0 :: st) S I J Q := tr_iload_n (m := 2) (by decide +kernel) rfl
theorem r9_11 : am_T d 9 11 ls (.int x0 :: st) S I J Q = if x0 < 0 then am_T d 9 95 ls st S I J Q else am_T d 9 14 ls st S I J Q := tr_iflt (o := 84) (by decide +kernel) rfl
theorem r9_14 : am_T d 9 14 [some (.ref a0), l1, l2, l3, l4] st S I J Q = am_T d 9 15 [some (.ref a0), l1, l2, l3, l4] (.ref a0 :: st) S I J Q := tr_aload_n (m := 0) (by decide +kernel) rfl
theorem r9_15 : am_T d 9 15 ls (.ref a0 :: st) S I J Q = ((am_is S a0 0 ∧ am_rf S a0 4 ≠ 0) ∧ am_T d 9 18 ls (.ref (am_rf S a0 4) :: st) S I J Q) := tr_geta (k := 28) (by decide +kernel) (by decide +kernel) (by decide +kernel)
theorem r9_18 : am_T d 9 18 [l0, l1, some (.int x0), l3, l4] st S I J Q = am_T d 9 19 [l0, l1, some (.int x0), l3, l4] (.int x0 :: st) S I J Q := tr_iload_n (m := 2) (by decide +kernel) rfl
theorem r9_19 : am_T d 9 19 [some (.ref a0), l1, l2, l3, l4] st S I J Q = am_T d 9 20 [some (.ref a0), l1, l2, l3, l4] (.ref a0 :: st) S I J Q := tr_aload_n (m := 0) (by decide +kernel) rfl
theorem r9_20 : am_T d 9 20 ls (.ref a0 :: st) S I J Q = ((am_is S a0 0 ∧ am_rf S a0 2 ≠ 0) ∧ am_T d 9 23 ls (.ref (am_rf S a0 2) :: st) S I J Q) := tr_geta (k := 22) (by decide +kernel) (by decide +kernel) (by decide +kernel)
theorem r9_23 : am_T d 9 23 [l0, l1, some (.int x0), l3, l4] st S I J Q = am_T d 9 24 [l0, l1, some (.int x0), l3, l4] (.int x0 :: st) S I J Q := tr_iload_n (m := 2) (by decide +kernel) rfl
theorem r9_24 : am_T d 9 24 ls (.int x0 :: .ref a0 :: st) S I J Q = (am_ix S a0 20 x0 ∧ am_T d 9 25 ls (.int (I a0 x0.toNatClampNeg) :: st) S I J Q) := tr_iald (by decide +kernel)
theorem r9_25 : am_T d 9 25 ls (.int x1 :: .int x0 :: .ref a0 :: st) S I J Q = (am_ixw S a0 20 x0 ∧ am_T d 9 26 ls st S (am_up I a0 x0.toNatClampNeg x1) J Q) := tr_iast (by decide +kernel)
theorem r9_26 : am_T d 9 26 [some (.ref a0), l1, l2, l3, l4] st S I J Q = am_T d 9 27 [some (.ref a0), l1, l2, l3, l4] (.ref a0 :: st) S I J Q := tr_aload_n (m := 0) (by decide +kernel) rfl
theorem r9_27 : am_T d 9 27 ls (.ref a0 :: st) S I J Q = ((am_is S a0 0 ∧ am_rf S a0 0 ≠ 0) ∧ am_T d 9 30 ls (.ref (am_rf S a0 0) :: st) S I J Q) := tr_geta (k := 12) (by decide +kernel) (by decide +kernel) (by decide +kernel)
theorem r9_30 : am_T d 9 30 ls (.ref a0 :: st) S I J Q = ((am_is S a0 3 ∧ am_rf S a0 4 ≠ 0) ∧ am_T d 9 33 ls (.ref (am_rf S a0 4) :: st) S I J Q) := tr_geta (k := 107) (by decide +kernel) (by decide +kernel) (by decide +kernel)
theorem r9_33 : am_T d 9 33 [l0, l1, some (.int x0), l3, l4] st S I J Q = am_T d 9 34 [l0, l1, some (.int x0), l3, l4] (.int x0 :: st) S I J Q := tr_iload_n (m := 2) (by decide +kernel) rfl
theorem r9_34 : am_T d 9 34 ls (.int x0 :: .ref a0 :: st) S I J Q = (am_ix S a0 20 x0 ∧ am_T d 9 35 ls (.int (I a0 x0.toNatClampNeg) :: st) S I J Q) := tr_iald (by decide +kernel)
theorem r9_35 : am_T d 9 35 [l0, l1, l2, l3, l4] (.int x0 :: st) S I J Q = am_T d 9 36 [l0, l1, am_clr l2, some (.int x0), l4] st S I J Q := tr_istore_n (m := 3) (by decide +kernel) (Nat.le_of_ble_eq_true rfl) rfl
theorem r9_36 : am_T d 9 36 [l0, l1, l2, some (.int x0), l4] st S I J Q = am_T d 9 37 [l0, l1, l2, some (.int x0), l4] (.int x0 :: st) S I J Q := tr_iload_n (m := 3) (by decide +kernel) rfl
theorem r9_37 : am_T d 9 37 ls st S I J Q = am_T d 9 38 ls (.int (-1) :: st) S I J Q := tr_iconst (m := -1) (by decide +kernel) (by decide)
theorem r9_38 : am_T d 9 38 ls (.int x1 :: .int x0 :: st) S I J Q = if x0 = x1 then am_T d 9 41 ls st S I J Q else am_T d 9 45 ls st S I J Q := tr_icmpne (o := 7) (by decide +kernel) rfl
theorem r9_41 : am_T d 9 41 ls st S I J Q = am_T d 9 42 ls (.int (-1) :: st) S I J Q := tr_iconst (m := -1) (by decide +kernel) (by decide)
theorem r9_42 : am_T d 9 42 ls st S I J Q = am_T d 9 51 ls st S I J Q := tr_goto (o := 9) (by decide +kernel) rfl
theorem r9_45 : am_T d 9 45 [some (.ref a0), l1, l2, l3, l4] st S I J Q = am_T d 9 46 [some (.ref a0), l1, l2, l3, l4] (.ref a0 :: st) S I J Q := tr_aload_n (m := 0) (by decide +kernel) rfl
theorem r9_46 : am_T d 9 46 ls (.ref a0 :: st) S I J Q = ((am_is S a0 0 ∧ am_rf S a0 4 ≠ 0) ∧ am_T d 9 49 ls (.ref (am_rf S a0 4) :: st) S I J Q) := tr_geta (k := 28) (by decide +kernel) (by decide +kernel) (by decide +kernel)
theorem r9_49 : am_T d 9 49 [l0, l1, l2, some (.int x0), l4] st S I J Q = am_T d 9 50 [l0, l1, l2, some (.int x0), l4] (.int x0 :: st) S I J Q := tr_iload_n (m := 3) (by decide +kernel) rfl
theorem r9_50 : am_T d 9 50 ls (.int x0 :: .ref a0 :: st) S I J Q = (am_ix S a0 20 x0 ∧ am_T d 9 51 ls (.int (I a0 x0.toNatClampNeg) :: st) S I J Q) := tr_iald (by decide +kernel)
theorem r9_51 : am_T d 9 51 [l0, l1, l2, l3, l4] (.int x0 :: st) S I J Q = am_T d 9 53 [l0, l1, l2, am_clr l3, some (.int x0)] st S I J Q := tr_istore (k := 4) (by decide +kernel) (Nat.le_of_ble_eq_true rfl) rfl
theorem r9_53 : am_T d 9 53 [l0, l1, l2, l3, some (.int x0)] st S I J Q = am_T d 9 55 [l0, l1, l2, l3, some (.int x0)] (.int x0 :: st) S I J Q := tr_iload (k := 4) (by decide +kernel) rfl
theorem r9_55 : am_T d 9 55 ls st S I J Q = am_T d 9 56 ls (.int (-1) :: st) S I J Q := tr_iconst (m := -1) (by decide +kernel) (by decide)
theorem r9_56 : am_T d 9 56 ls (.int x1 :: .int x0 :: st) S I J Q = if x0 = x1 then am_T d 9 89 ls st S I J Q else am_T d 9 59 ls st S I J Q := tr_icmpeq (o := 33) (by decide +kernel) rfl
theorem r9_59 : am_T d 9 59 [some (.ref a0), l1, l2, l3, l4] st S I J Q = am_T d 9 60 [some (.ref a0), l1, l2, l3, l4] (.ref a0 :: st) S I J Q := tr_aload_n (m := 0) (by decide +kernel) rfl
theorem r9_60 : am_T d 9 60 ls (.ref a0 :: st) S I J Q = ((am_is S a0 0 ∧ am_rf S a0 0 ≠ 0) ∧ am_T d 9 63 ls (.ref (am_rf S a0 0) :: st) S I J Q) := tr_geta (k := 12) (by decide +kernel) (by decide +kernel) (by decide +kernel)
theorem r9_63 : am_T d 9 63 ls (.ref a0 :: st) S I J Q = ((am_is S a0 3 ∧ am_rf S a0 2 ≠ 0) ∧ am_T d 9 66 ls (.ref (am_rf S a0 2) :: st) S I J Q) := tr_geta (k := 84) (by decide +kernel) (by decide +kernel) (by decide +kernel)
theorem r9_66 : am_T d 9 66 [l0, l1, some (.int x0), l3, l4] st S I J Q = am_T d 9 67 [l0, l1, some (.int x0), l3, l4] (.int x0 :: st) S I J Q := tr_iload_n (m := 2) (by decide +kernel) rfl
theorem r9_67 : am_T d 9 67 ls (.int x0 :: .ref a0 :: st) S I J Q = (am_ix S a0 20 x0 ∧ am_T d 9 68 ls (.int (I a0 x0.toNatClampNeg) :: st) S I J Q) := tr_iald (by decide +kernel)
theorem r9_68 : am_T d 9 68 [l0, some (.ref a0), l2, l3, l4] st S I J Q = am_T d 9 69 [l0, some (.ref a0), l2, l3, l4] (.ref a0 :: st) S I J Q := tr_aload_n (m := 1) (by decide +kernel) rfl
theorem r9_69 : am_T d 9 69 ls (.ref a0 :: st) S I J Q = ((am_is S a0 1 ∧ am_rf S a0 4 ≠ 0) ∧ am_T d 9 72 ls (.ref (am_rf S a0 4) :: st) S I J Q) := tr_geta (k := 116) (by decide +kernel) (by decide +kernel) (by decide +kernel)
theorem r9_72 : am_T d 9 72 [l0, l1, l2, l3, some (.int x0)] st S I J Q = am_T d 9 74 [l0, l1, l2, l3, some (.int x0)] (.int x0 :: st) S I J Q := tr_iload (k := 4) (by decide +kernel) rfl
theorem r9_74 : am_T d 9 74 ls (.int x0 :: .ref a0 :: st) S I J Q = (am_ix S a0 20 x0 ∧ am_T d 9 75 ls (.int (I a0 x0.toNatClampNeg) :: st) S I J Q) := tr_iald (by decide +kernel)
theorem r9_75 : am_T d 9 75 ls [.int x1, .int x0] S I J Q = am_C d 109 [.int x0, .int x1] S I J (fun r S I J => am_T d 9 78 ls (am_psh r []) S I J Q) := tr_stat (k := 113) (by decide +kernel) (Or.inr (by decide +kernel)) (Nat.le_of_ble_eq_true rfl) rfl rfl (Nat.le_of_ble_eq_true rfl)
theorem r9_78 : am_T d 9 78 ls (.int x0 :: st) S I J Q = if x0 = 0 then am_T d 9 89 ls st S I J Q else am_T d 9 81 ls st S I J Q := tr_ifeq (o := 11) (by decide +kernel) rfl
theorem r9_81 : am_T d 9 81 [some (.ref a0), l1, l2, l3, l4] st S I J Q = am_T d 9 82 [some (.ref a0), l1, l2, l3, l4] (.ref a0 :: st) S I J Q := tr_aload_n (m := 0) (by decide +kernel) rfl
theorem r9_82 : am_T d 9 82 ls (.ref a0 :: st) S I J Q = ((am_is S a0 0 ∧ am_rf S a0 4 ≠ 0) ∧ am_T d 9 85 ls (.ref (am_rf S a0 4) :: st) S I J Q) := tr_geta (k := 28) (by decide +kernel) (by decide +kernel) (by decide +kernel)
theorem r9_85 : am_T d 9 85 [l0, l1, some (.int x0), l3, l4] st S I J Q = am_T d 9 86 [l0, l1, some (.int x0), l3, l4] (.int x0 :: st) S I J Q := tr_iload_n (m := 2) (by decide +kernel) rfl
theorem r9_86 : am_T d 9 86 [l0, l1, l2, l3, some (.int x0)] st S I J Q = am_T d 9 88 [l0, l1, l2, l3, some (.int x0)] (.int x0 :: st) S I J Q := tr_iload (k := 4) (by decide +kernel) rfl
theorem r9_88 : am_T d 9 88 ls (.int x1 :: .int x0 :: .ref a0 :: st) S I J Q = (am_ixw S a0 20 x0 ∧ am_T d 9 89 ls st S (am_up I a0 x0.toNatClampNeg x1) J Q) := tr_iast (by decide +kernel)
theorem r9_89 : am_T d 9 89 [l0, l1, some (.int x0), l3, l4] st S I J Q = am_T d 9 92 [l0, am_clr l1, some (.int (x0 + (-1))), l3, l4] st S I J Q := tr_iinc (k := 2) (m := -1) (by decide +kernel) rfl (Nat.le_of_ble_eq_true rfl) (by decide) rfl
theorem r9_92 : am_T d 9 92 ls st S I J Q = am_T d 9 10 ls st S I J Q := tr_goto (o := -82) (by decide +kernel) rfl
theorem r9_95 : am_T d 9 95 [some (.ref a0), l1, l2, l3, l4] st S I J Q = am_T d 9 96 [some (.ref a0), l1, l2, l3, l4] (.ref a0 :: st) S I J Q := tr_aload_n (m := 0) (by decide +kernel) rfl
theorem r9_96 : am_T d 9 96 ls (.ref a0 :: st) S I J Q = ((am_is S a0 0 ∧ am_rf S a0 4 ≠ 0) ∧ am_T d 9 99 ls (.ref (am_rf S a0 4) :: st) S I J Q) := tr_geta (k := 28) (by decide +kernel) (by decide +kernel) (by decide +kernel)
theorem r9_99 : am_T d 9 99 ls st S I J Q = am_T d 9 100 ls (.int 0 :: st) S I J Q := tr_iconst (m := 0) (by decide +kernel) (by decide)
theorem r9_100 : am_T d 9 100 [some (.ref a0), l1, l2, l3, l4] st S I J Q = am_T d 9 101 [some (.ref a0), l1, l2, l3, l4] (.ref a0 :: st) S I J Q := tr_aload_n (m := 0) (by decide +kernel) rfl
theorem r9_101 : am_T d 9 101 ls (.ref a0 :: st) S I J Q = ((am_is S a0 0 ∧ am_rf S a0 0 ≠ 0) ∧ am_T d 9 104 ls (.ref (am_rf S a0 0) :: st) S I J Q) := tr_geta (k := 12) (by decide +kernel) (by decide +kernel) (by decide +kernel)
theorem r9_104 : am_T d 9 104 ls (.ref a0 :: st) S I J Q = ((am_is S a0 3 ∧ am_rf S a0 5 ≠ 0) ∧ am_T d 9 107 ls (.ref (am_rf S a0 5) :: st) S I J Q) := tr_geta (k := 119) (by decide +kernel) (by decide +kernel) (by decide +kernel)
theorem r9_107 : am_T d 9 107 ls st S I J Q = am_T d 9 108 ls (.int 0 :: st) S I J Q := tr_iconst (m := 0) (by decide +kernel) (by decide)
theorem r9_108 : am_T d 9 108 [l0, some (.ref a0), l2, l3, l4] st S I J Q = am_T d 9 109 [l0, some (.ref a0), l2, l3, l4] (.ref a0 :: st) S I J Q := tr_aload_n (m := 1) (by decide +kernel) rfl
theorem r9_109 : am_T d 9 109 ls (.ref a0 :: st) S I J Q = (am_is S a0 1 ∧ am_T d 9 112 ls (.int (I a0 0) :: st) S I J Q) := tr_geti (k := 62) (by decide +kernel) (by decide +kernel) (Or.inl (by decide +kernel))
theorem r9_112 : am_T d 9 112 ls [.int x4, .int x3, .ref a2, .int x1, .ref a0] S I J Q = (am_cpy S a2 a0 x1 x3 x4 ∧ am_T d 9 115 ls [] S (am_row I a2 (va_cpy (I a0) (I a2) x1.toNatClampNeg x3.toNatClampNeg x4.toNatClampNeg)) J Q) := tr_copy (k := 75) (by decide +kernel) (by decide +kernel) (Nat.le_of_ble_eq_true rfl)
theorem r9_115 : am_T d 9 115 ls [] S I J Q = Q none S I J := tr_vret (by decide +kernel) (by decide +kernel)
end RU
