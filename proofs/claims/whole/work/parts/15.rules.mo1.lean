section RU
variable {d : Nat} {ls : am_L} {l0 l1 l2 l3 l4 l5 l6 l7 : Option Value} {st : List Value} {S : am_S} {I : am_I} {J : am_J} {Q : am_Q} {x0 x1 x2 x3 x4 x5 x10 x11 x12 x13 x14 x15 : Int32} {u0 u1 u2 u3 u10 u11 u12 u13 : Int64} {a0 a1 a2 a3 a4 a10 a11 a12 a13 a14 a15 : Nat}
-- 111 Mod.<init>()V; heads []
theorem e111 : am_C (d + 1) 111 [.ref a0] S I J Q = am_T d 111 0 [some (.ref a0)] [] S I J Q := tr_en (Nat.le_of_ble_eq_true rfl) rfl
theorem r111_0 : am_T d 111 0 [some (.ref a0)] st S I J Q = am_T d 111 1 [some (.ref a0)] (.ref a0 :: st) S I J Q := tr_aload_n (m := 0) (by decide +kernel) rfl
theorem r111_1 : am_T d 111 1 ls [.ref a0] S I J Q = am_T d 111 4 ls [] S I J Q := tr_oinit (k := 1) (by decide +kernel) (by decide +kernel) (Nat.le_of_ble_eq_true rfl)
theorem r111_4 : am_T d 111 4 [some (.ref a0)] st S I J Q = am_T d 111 5 [some (.ref a0)] (.ref a0 :: st) S I J Q := tr_aload_n (m := 0) (by decide +kernel) rfl
theorem r111_5 : am_T d 111 5 ls st S I J Q = am_T d 111 8 ls (.int 165 :: st) S I J Q := tr_sipush (m := 165) (by decide +kernel) (by decide)
theorem r111_8 : am_T d 111 8 ls (.int x0 :: st) S I J Q = ((0 ≤ x0.toInt ∧ x0.toInt < 10000) ∧ am_T d 111 10 ls (.ref S.length :: st) (S ++ [(20, x0.toNatClampNeg, fun _ => 0)]) (am_row I S.length (fun _ => 0)) (am_row J S.length (fun _ => 0)) Q) := tr_newa (t := .int) (by decide +kernel) (by decide)
theorem r111_10 : am_T d 111 10 ls (.ref a1 :: .ref a0 :: st) S I J Q = ((am_is S a0 9 ∧ a1 ≠ 0 ∧ a1 < S.length) ∧ am_T d 111 13 ls st (am_sr S a0 0 a1) I J Q) := tr_puta (k := 7) (by decide +kernel) (by decide +kernel) (by decide +kernel) (by decide +kernel)
theorem r111_13 : am_T d 111 13 [some (.ref a0)] st S I J Q = am_T d 111 14 [some (.ref a0)] (.ref a0 :: st) S I J Q := tr_aload_n (m := 0) (by decide +kernel) rfl
theorem r111_14 : am_T d 111 14 ls st S I J Q = am_T d 111 17 ls (.int 1320 :: st) S I J Q := tr_sipush (m := 1320) (by decide +kernel) (by decide)
theorem r111_17 : am_T d 111 17 ls (.int x0 :: st) S I J Q = ((0 ≤ x0.toInt ∧ x0.toInt < 10000) ∧ am_T d 111 19 ls (.ref S.length :: st) (S ++ [(20, x0.toNatClampNeg, fun _ => 0)]) (am_row I S.length (fun _ => 0)) (am_row J S.length (fun _ => 0)) Q) := tr_newa (t := .int) (by decide +kernel) (by decide)
theorem r111_19 : am_T d 111 19 ls (.ref a1 :: .ref a0 :: st) S I J Q = ((am_is S a0 9 ∧ a1 ≠ 0 ∧ a1 < S.length) ∧ am_T d 111 22 ls st (am_sr S a0 1 a1) I J Q) := tr_puta (k := 13) (by decide +kernel) (by decide +kernel) (by decide +kernel) (by decide +kernel)
theorem r111_22 : am_T d 111 22 [some (.ref a0)] st S I J Q = am_T d 111 23 [some (.ref a0)] (.ref a0 :: st) S I J Q := tr_aload_n (m := 0) (by decide +kernel) rfl
theorem r111_23 : am_T d 111 23 ls st S I J Q = am_T d 111 26 ls (.int 330 :: st) S I J Q := tr_sipush (m := 330) (by decide +kernel) (by decide)
theorem r111_26 : am_T d 111 26 ls (.int x0 :: st) S I J Q = ((0 ≤ x0.toInt ∧ x0.toInt < 10000) ∧ am_T d 111 28 ls (.ref S.length :: st) (S ++ [(20, x0.toNatClampNeg, fun _ => 0)]) (am_row I S.length (fun _ => 0)) (am_row J S.length (fun _ => 0)) Q) := tr_newa (t := .int) (by decide +kernel) (by decide)
theorem r111_28 : am_T d 111 28 ls (.ref a1 :: .ref a0 :: st) S I J Q = ((am_is S a0 9 ∧ a1 ≠ 0 ∧ a1 < S.length) ∧ am_T d 111 31 ls st (am_sr S a0 3 a1) I J Q) := tr_puta (k := 16) (by decide +kernel) (by decide +kernel) (by decide +kernel) (by decide +kernel)
theorem r111_31 : am_T d 111 31 [some (.ref a0)] st S I J Q = am_T d 111 32 [some (.ref a0)] (.ref a0 :: st) S I J Q := tr_aload_n (m := 0) (by decide +kernel) rfl
theorem r111_32 : am_T d 111 32 ls st S I J Q = am_T d 111 35 ls (.int 300 :: st) S I J Q := tr_sipush (m := 300) (by decide +kernel) (by decide)
theorem r111_35 : am_T d 111 35 ls (.int x0 :: st) S I J Q = ((0 ≤ x0.toInt ∧ x0.toInt < 10000) ∧ am_T d 111 37 ls (.ref S.length :: st) (S ++ [(20, x0.toNatClampNeg, fun _ => 0)]) (am_row I S.length (fun _ => 0)) (am_row J S.length (fun _ => 0)) Q) := tr_newa (t := .int) (by decide +kernel) (by decide)
theorem r111_37 : am_T d 111 37 ls (.ref a1 :: .ref a0 :: st) S I J Q = ((am_is S a0 9 ∧ a1 ≠ 0 ∧ a1 < S.length) ∧ am_T d 111 40 ls st (am_sr S a0 7 a1) I J Q) := tr_puta (k := 19) (by decide +kernel) (by decide +kernel) (by decide +kernel) (by decide +kernel)
theorem r111_40 : am_T d 111 40 [some (.ref a0)] st S I J Q = am_T d 111 41 [some (.ref a0)] (.ref a0 :: st) S I J Q := tr_aload_n (m := 0) (by decide +kernel) rfl
theorem r111_41 : am_T d 111 41 ls st S I J Q = am_T d 111 43 ls (.int 100 :: st) S I J Q := tr_bipush (m := 100) (by decide +kernel) (by decide)
theorem r111_43 : am_T d 111 43 ls (.int x0 :: st) S I J Q = ((0 ≤ x0.toInt ∧ x0.toInt < 10000) ∧ am_T d 111 45 ls (.ref S.length :: st) (S ++ [(20, x0.toNatClampNeg, fun _ => 0)]) (am_row I S.length (fun _ => 0)) (am_row J S.length (fun _ => 0)) Q) := tr_newa (t := .int) (by decide +kernel) (by decide)
theorem r111_45 : am_T d 111 45 ls (.ref a1 :: .ref a0 :: st) S I J Q = ((am_is S a0 9 ∧ a1 ≠ 0 ∧ a1 < S.length) ∧ am_T d 111 48 ls st (am_sr S a0 12 a1) I J Q) := tr_puta (k := 22) (by decide +kernel) (by decide +kernel) (by decide +kernel) (by decide +kernel)
theorem r111_48 : am_T d 111 48 [some (.ref a0)] st S I J Q = am_T d 111 49 [some (.ref a0)] (.ref a0 :: st) S I J Q := tr_aload_n (m := 0) (by decide +kernel) rfl
theorem r111_49 : am_T d 111 49 ls st S I J Q = am_T d 111 51 ls (.int 32 :: st) S I J Q := tr_bipush (m := 32) (by decide +kernel) (by decide)
theorem r111_51 : am_T d 111 51 ls (.int x0 :: st) S I J Q = ((0 ≤ x0.toInt ∧ x0.toInt < 10000) ∧ am_T d 111 53 ls (.ref S.length :: st) (S ++ [(20, x0.toNatClampNeg, fun _ => 0)]) (am_row I S.length (fun _ => 0)) (am_row J S.length (fun _ => 0)) Q) := tr_newa (t := .int) (by decide +kernel) (by decide)
theorem r111_53 : am_T d 111 53 ls (.ref a1 :: .ref a0 :: st) S I J Q = ((am_is S a0 9 ∧ a1 ≠ 0 ∧ a1 < S.length) ∧ am_T d 111 56 ls st (am_sr S a0 13 a1) I J Q) := tr_puta (k := 25) (by decide +kernel) (by decide +kernel) (by decide +kernel) (by decide +kernel)
theorem r111_56 : am_T d 111 56 [some (.ref a0)] st S I J Q = am_T d 111 57 [some (.ref a0)] (.ref a0 :: st) S I J Q := tr_aload_n (m := 0) (by decide +kernel) rfl
theorem r111_57 : am_T d 111 57 ls st S I J Q = am_T d 111 59 ls (.int 32 :: st) S I J Q := tr_bipush (m := 32) (by decide +kernel) (by decide)
theorem r111_59 : am_T d 111 59 ls (.int x0 :: st) S I J Q = ((0 ≤ x0.toInt ∧ x0.toInt < 10000) ∧ am_T d 111 61 ls (.ref S.length :: st) (S ++ [(21, x0.toNatClampNeg, fun _ => 0)]) (am_row I S.length (fun _ => 0)) (am_row J S.length (fun _ => 0)) Q) := tr_newa (t := .boolean) (by decide +kernel) (by decide)
theorem r111_61 : am_T d 111 61 ls (.ref a1 :: .ref a0 :: st) S I J Q = ((am_is S a0 9 ∧ a1 ≠ 0 ∧ a1 < S.length) ∧ am_T d 111 64 ls st (am_sr S a0 14 a1) I J Q) := tr_puta (k := 28) (by decide +kernel) (by decide +kernel) (by decide +kernel) (by decide +kernel)
theorem r111_64 : am_T d 111 64 [some (.ref a0)] st S I J Q = am_T d 111 65 [some (.ref a0)] (.ref a0 :: st) S I J Q := tr_aload_n (m := 0) (by decide +kernel) rfl
theorem r111_65 : am_T d 111 65 ls st S I J Q = am_T d 111 67 ls (.int 16 :: st) S I J Q := tr_bipush (m := 16) (by decide +kernel) (by decide)
theorem r111_67 : am_T d 111 67 ls (.int x0 :: st) S I J Q = ((0 ≤ x0.toInt ∧ x0.toInt < 10000) ∧ am_T d 111 69 ls (.ref S.length :: st) (S ++ [(20, x0.toNatClampNeg, fun _ => 0)]) (am_row I S.length (fun _ => 0)) (am_row J S.length (fun _ => 0)) Q) := tr_newa (t := .int) (by decide +kernel) (by decide)
theorem r111_69 : am_T d 111 69 ls (.ref a1 :: .ref a0 :: st) S I J Q = ((am_is S a0 9 ∧ a1 ≠ 0 ∧ a1 < S.length) ∧ am_T d 111 72 ls st (am_sr S a0 15 a1) I J Q) := tr_puta (k := 32) (by decide +kernel) (by decide +kernel) (by decide +kernel) (by decide +kernel)
theorem r111_72 : am_T d 111 72 [some (.ref a0)] st S I J Q = am_T d 111 73 [some (.ref a0)] (.ref a0 :: st) S I J Q := tr_aload_n (m := 0) (by decide +kernel) rfl
theorem r111_73 : am_T d 111 73 ls st S I J Q = am_T d 111 75 ls (.int 16 :: st) S I J Q := tr_bipush (m := 16) (by decide +kernel) (by decide)
theorem r111_75 : am_T d 111 75 ls (.int x0 :: st) S I J Q = ((0 ≤ x0.toInt ∧ x0.toInt < 10000) ∧ am_T d 111 77 ls (.ref S.length :: st) (S ++ [(20, x0.toNatClampNeg, fun _ => 0)]) (am_row I S.length (fun _ => 0)) (am_row J S.length (fun _ => 0)) Q) := tr_newa (t := .int) (by decide +kernel) (by decide)
theorem r111_77 : am_T d 111 77 ls (.ref a1 :: .ref a0 :: st) S I J Q = ((am_is S a0 9 ∧ a1 ≠ 0 ∧ a1 < S.length) ∧ am_T d 111 80 ls st (am_sr S a0 16 a1) I J Q) := tr_puta (k := 35) (by decide +kernel) (by decide +kernel) (by decide +kernel) (by decide +kernel)
theorem r111_80 : am_T d 111 80 [some (.ref a0)] st S I J Q = am_T d 111 81 [some (.ref a0)] (.ref a0 :: st) S I J Q := tr_aload_n (m := 0) (by decide +kernel) rfl
theorem r111_81 : am_T d 111 81 ls st S I J Q = am_T d 111 83 ls (.int 16 :: st) S I J Q := tr_bipush (m := 16) (by decide +kernel) (by decide)
theorem r111_83 : am_T d 111 83 ls (.int x0 :: st) S I J Q = ((0 ≤ x0.toInt ∧ x0.toInt < 10000) ∧ am_T d 111 85 ls (.ref S.length :: st) (S ++ [(20, x0.toNatClampNeg, fun _ => 0)]) (am_row I S.length (fun _ => 0)) (am_row J S.length (fun _ => 0)) Q) := tr_newa (t := .int) (by decide +kernel) (by decide)
theorem r111_85 : am_T d 111 85 ls (.ref a1 :: .ref a0 :: st) S I J Q = ((am_is S a0 9 ∧ a1 ≠ 0 ∧ a1 < S.length) ∧ am_T d 111 88 ls st (am_sr S a0 17 a1) I J Q) := tr_puta (k := 38) (by decide +kernel) (by decide +kernel) (by decide +kernel) (by decide +kernel)
theorem r111_88 : am_T d 111 88 [some (.ref a0)] st S I J Q = am_T d 111 89 [some (.ref a0)] (.ref a0 :: st) S I J Q := tr_aload_n (m := 0) (by decide +kernel) rfl
theorem r111_89 : am_T d 111 89 ls st S I J Q = am_T d 111 91 ls (.int 16 :: st) S I J Q := tr_bipush (m := 16) (by decide +kernel) (by decide)
theorem r111_91 : am_T d 111 91 ls (.int x0 :: st) S I J Q = ((0 ≤ x0.toInt ∧ x0.toInt < 10000) ∧ am_T d 111 93 ls (.ref S.length :: st) (S ++ [(20, x0.toNatClampNeg, fun _ => 0)]) (am_row I S.length (fun _ => 0)) (am_row J S.length (fun _ => 0)) Q) := tr_newa (t := .int) (by decide +kernel) (by decide)
theorem r111_93 : am_T d 111 93 ls (.ref a1 :: .ref a0 :: st) S I J Q = ((am_is S a0 9 ∧ a1 ≠ 0 ∧ a1 < S.length) ∧ am_T d 111 96 ls st (am_sr S a0 18 a1) I J Q) := tr_puta (k := 41) (by decide +kernel) (by decide +kernel) (by decide +kernel) (by decide +kernel)
theorem r111_96 : am_T d 111 96 [some (.ref a0)] st S I J Q = am_T d 111 97 [some (.ref a0)] (.ref a0 :: st) S I J Q := tr_aload_n (m := 0) (by decide +kernel) rfl
theorem r111_97 : am_T d 111 97 ls st S I J Q = am_T d 111 99 ls (.int 16 :: st) S I J Q := tr_bipush (m := 16) (by decide +kernel) (by decide)
theorem r111_99 : am_T d 111 99 ls (.int x0 :: st) S I J Q = ((0 ≤ x0.toInt ∧ x0.toInt < 10000) ∧ am_T d 111 101 ls (.ref S.length :: st) (S ++ [(20, x0.toNatClampNeg, fun _ => 0)]) (am_row I S.length (fun _ => 0)) (am_row J S.length (fun _ => 0)) Q) := tr_newa (t := .int) (by decide +kernel) (by decide)
theorem r111_101 : am_T d 111 101 ls (.ref a1 :: .ref a0 :: st) S I J Q = ((am_is S a0 9 ∧ a1 ≠ 0 ∧ a1 < S.length) ∧ am_T d 111 104 ls st (am_sr S a0 19 a1) I J Q) := tr_puta (k := 44) (by decide +kernel) (by decide +kernel) (by decide +kernel) (by decide +kernel)
theorem r111_104 : am_T d 111 104 [some (.ref a0)] st S I J Q = am_T d 111 105 [some (.ref a0)] (.ref a0 :: st) S I J Q := tr_aload_n (m := 0) (by decide +kernel) rfl
theorem r111_105 : am_T d 111 105 ls st S I J Q = am_T d 111 107 ls (.int 8 :: st) S I J Q := tr_bipush (m := 8) (by decide +kernel) (by decide)
theorem r111_107 : am_T d 111 107 ls (.int x0 :: st) S I J Q = ((0 ≤ x0.toInt ∧ x0.toInt < 10000) ∧ am_T d 111 109 ls (.ref S.length :: st) (S ++ [(20, x0.toNatClampNeg, fun _ => 0)]) (am_row I S.length (fun _ => 0)) (am_row J S.length (fun _ => 0)) Q) := tr_newa (t := .int) (by decide +kernel) (by decide)
theorem r111_109 : am_T d 111 109 ls (.ref a1 :: .ref a0 :: st) S I J Q = ((am_is S a0 9 ∧ a1 ≠ 0 ∧ a1 < S.length) ∧ am_T d 111 112 ls st (am_sr S a0 21 a1) I J Q) := tr_puta (k := 47) (by decide +kernel) (by decide +kernel) (by decide +kernel) (by decide +kernel)
theorem r111_112 : am_T d 111 112 [some (.ref a0)] st S I J Q = am_T d 111 113 [some (.ref a0)] (.ref a0 :: st) S I J Q := tr_aload_n (m := 0) (by decide +kernel) rfl
theorem r111_113 : am_T d 111 113 ls st S I J Q = am_T d 111 115 ls (.int 8 :: st) S I J Q := tr_bipush (m := 8) (by decide +kernel) (by decide)
theorem r111_115 : am_T d 111 115 ls (.int x0 :: st) S I J Q = ((0 ≤ x0.toInt ∧ x0.toInt < 10000) ∧ am_T d 111 117 ls (.ref S.length :: st) (S ++ [(20, x0.toNatClampNeg, fun _ => 0)]) (am_row I S.length (fun _ => 0)) (am_row J S.length (fun _ => 0)) Q) := tr_newa (t := .int) (by decide +kernel) (by decide)
theorem r111_117 : am_T d 111 117 ls (.ref a1 :: .ref a0 :: st) S I J Q = ((am_is S a0 9 ∧ a1 ≠ 0 ∧ a1 < S.length) ∧ am_T d 111 120 ls st (am_sr S a0 22 a1) I J Q) := tr_puta (k := 50) (by decide +kernel) (by decide +kernel) (by decide +kernel) (by decide +kernel)
theorem r111_120 : am_T d 111 120 [some (.ref a0)] st S I J Q = am_T d 111 121 [some (.ref a0)] (.ref a0 :: st) S I J Q := tr_aload_n (m := 0) (by decide +kernel) rfl
theorem r111_121 : am_T d 111 121 ls st S I J Q = am_T d 111 123 ls (.int 8 :: st) S I J Q := tr_bipush (m := 8) (by decide +kernel) (by decide)
theorem r111_123 : am_T d 111 123 ls (.int x0 :: st) S I J Q = ((0 ≤ x0.toInt ∧ x0.toInt < 10000) ∧ am_T d 111 125 ls (.ref S.length :: st) (S ++ [(20, x0.toNatClampNeg, fun _ => 0)]) (am_row I S.length (fun _ => 0)) (am_row J S.length (fun _ => 0)) Q) := tr_newa (t := .int) (by decide +kernel) (by decide)
theorem r111_125 : am_T d 111 125 ls (.ref a1 :: .ref a0 :: st) S I J Q = ((am_is S a0 9 ∧ a1 ≠ 0 ∧ a1 < S.length) ∧ am_T d 111 128 ls st (am_sr S a0 25 a1) I J Q) := tr_puta (k := 53) (by decide +kernel) (by decide +kernel) (by decide +kernel) (by decide +kernel)
theorem r111_128 : am_T d 111 128 [some (.ref a0)] st S I J Q = am_T d 111 129 [some (.ref a0)] (.ref a0 :: st) S I J Q := tr_aload_n (m := 0) (by decide +kernel) rfl
theorem r111_129 : am_T d 111 129 ls st S I J Q = am_T d 111 130 ls (.int 5 :: st) S I J Q := tr_iconst (m := 5) (by decide +kernel) (by decide)
theorem r111_130 : am_T d 111 130 ls st S I J Q = am_T d 111 131 ls (.int 0 :: st) S I J Q := tr_iconst (m := 0) (by decide +kernel) (by decide)
theorem r111_131 : am_T d 111 131 ls [.int x2, .int x1, .ref a0] S I J Q = (am_is S a0 9 ∧ am_C d 115 [.ref a0, .int x1, .int x2] S I J (fun r S I J => am_T d 111 134 ls (am_psh r []) S I J Q)) := tr_virt (k := 56) (by decide +kernel) (by decide +kernel) rfl rfl (Nat.le_of_ble_eq_true rfl) (by decide +kernel)
theorem r111_134 : am_T d 111 134 ls [] S I J Q = Q none S I J := tr_vret (by decide +kernel) (by decide +kernel)
-- 112 Mod.isIn(III)Z; heads []
theorem e112 : am_C (d + 1) 112 [.int x0, .int x1, .int x2] S I J Q = am_T d 112 0 [some (.int x0), some (.int x1), some (.int x2)] [] S I J Q := tr_en (Nat.le_of_ble_eq_true rfl) rfl
theorem r112_0 : am_T d 112 0 [some (.int x0), l1, l2] st S I J Q = am_T d 112 1 [some (.int x0), l1, l2] (.int x0 :: st) S I J Q := tr_iload_n (m := 0) (by decide +kernel) rfl
theorem r112_1 : am_T d 112 1 [l0, some (.int x0), l2] st S I J Q = am_T d 112 2 [l0, some (.int x0), l2] (.int x0 :: st) S I J Q := tr_iload_n (m := 1) (by decide +kernel) rfl
theorem r112_2 : am_T d 112 2 ls (.int x1 :: .int x0 :: st) S I J Q = if x0 < x1 then am_T d 112 14 ls st S I J Q else am_T d 112 5 ls st S I J Q := tr_icmplt (o := 12) (by decide +kernel) rfl
theorem r112_5 : am_T d 112 5 [some (.int x0), l1, l2] st S I J Q = am_T d 112 6 [some (.int x0), l1, l2] (.int x0 :: st) S I J Q := tr_iload_n (m := 0) (by decide +kernel) rfl
theorem r112_6 : am_T d 112 6 [l0, l1, some (.int x0)] st S I J Q = am_T d 112 7 [l0, l1, some (.int x0)] (.int x0 :: st) S I J Q := tr_iload_n (m := 2) (by decide +kernel) rfl
theorem r112_7 : am_T d 112 7 ls (.int x1 :: .int x0 :: st) S I J Q = if x1 < x0 then am_T d 112 14 ls st S I J Q else am_T d 112 10 ls st S I J Q := tr_icmpgt (o := 7) (by decide +kernel) rfl
theorem r112_10 : am_T d 112 10 ls st S I J Q = am_T d 112 11 ls (.int 1 :: st) S I J Q := tr_iconst (m := 1) (by decide +kernel) (by decide)
theorem r112_11 : am_T d 112 11 ls st S I J Q = am_T d 112 15 ls st S I J Q := tr_goto (o := 4) (by decide +kernel) rfl
theorem r112_14 : am_T d 112 14 ls st S I J Q = am_T d 112 15 ls (.int 0 :: st) S I J Q := tr_iconst (m := 0) (by decide +kernel) (by decide)
theorem r112_15 : am_T d 112 15 ls [.int x0] S I J Q = ((x0 = 0 ∨ x0 = 1) ∧ Q (some (.int x0)) S I J) := tr_iretz (by decide +kernel) (by decide +kernel)
-- 113 Mod.isNode(I)Z; heads []
theorem e113 : am_C (d + 1) 113 [.ref a0, .int x1] S I J Q = am_T d 113 0 [some (.ref a0), some (.int x1)] [] S I J Q := tr_en (Nat.le_of_ble_eq_true rfl) rfl
theorem r113_0 : am_T d 113 0 [l0, some (.int x0)] st S I J Q = am_T d 113 1 [l0, some (.int x0)] (.int x0 :: st) S I J Q := tr_iload_n (m := 1) (by decide +kernel) rfl
theorem r113_1 : am_T d 113 1 ls st S I J Q = am_T d 113 2 ls (.int 0 :: st) S I J Q := tr_iconst (m := 0) (by decide +kernel) (by decide)
theorem r113_2 : am_T d 113 2 [some (.ref a0), l1] st S I J Q = am_T d 113 3 [some (.ref a0), l1] (.ref a0 :: st) S I J Q := tr_aload_n (m := 0) (by decide +kernel) rfl
theorem r113_3 : am_T d 113 3 ls (.ref a0 :: st) S I J Q = ((am_is S a0 9 ∧ am_rf S a0 0 ≠ 0) ∧ am_T d 113 6 ls (.ref (am_rf S a0 0) :: st) S I J Q) := tr_geta (k := 7) (by decide +kernel) (by decide +kernel) (by decide +kernel)
theorem r113_6 : am_T d 113 6 ls st S I J Q = am_T d 113 7 ls (.int 0 :: st) S I J Q := tr_iconst (m := 0) (by decide +kernel) (by decide)
theorem r113_7 : am_T d 113 7 ls (.int x0 :: .ref a0 :: st) S I J Q = (am_ix S a0 20 x0 ∧ am_T d 113 8 ls (.int (I a0 x0.toNatClampNeg) :: st) S I J Q) := tr_iald (by decide +kernel)
theorem r113_8 : am_T d 113 8 ls st S I J Q = am_T d 113 9 ls (.int 1 :: st) S I J Q := tr_iconst (m := 1) (by decide +kernel) (by decide)
theorem r113_9 : am_T d 113 9 ls (.int x1 :: .int x0 :: st) S I J Q = am_T d 113 10 ls (.int (x0 - x1) :: st) S I J Q := tr_isub (by decide +kernel)
theorem r113_10 : am_T d 113 10 ls [.int x2, .int x1, .int x0] S I J Q = am_C d 112 [.int x0, .int x1, .int x2] S I J (fun r S I J => am_T d 113 13 ls (am_psh r []) S I J Q) := tr_stat (k := 60) (by decide +kernel) (Or.inl (by decide +kernel)) (Nat.le_of_ble_eq_true rfl) rfl rfl (Nat.le_of_ble_eq_true rfl)
theorem r113_13 : am_T d 113 13 ls [.int x0] S I J Q = ((x0 = 0 ∨ x0 = 1) ∧ Q (some (.int x0)) S I J) := tr_iretz (by decide +kernel) (by decide +kernel)
-- 114 Mod.isArc(I)Z; heads []
theorem e114 : am_C (d + 1) 114 [.ref a0, .int x1] S I J Q = am_T d 114 0 [some (.ref a0), some (.int x1)] [] S I J Q := tr_en (Nat.le_of_ble_eq_true rfl) rfl
theorem r114_0 : am_T d 114 0 [l0, some (.int x0)] st S I J Q = am_T d 114 1 [l0, some (.int x0)] (.int x0 :: st) S I J Q := tr_iload_n (m := 1) (by decide +kernel) rfl
theorem r114_1 : am_T d 114 1 ls st S I J Q = am_T d 114 2 ls (.int 0 :: st) S I J Q := tr_iconst (m := 0) (by decide +kernel) (by decide)
theorem r114_2 : am_T d 114 2 [some (.ref a0), l1] st S I J Q = am_T d 114 3 [some (.ref a0), l1] (.ref a0 :: st) S I J Q := tr_aload_n (m := 0) (by decide +kernel) rfl
theorem r114_3 : am_T d 114 3 ls (.ref a0 :: st) S I J Q = ((am_is S a0 9 ∧ am_rf S a0 0 ≠ 0) ∧ am_T d 114 6 ls (.ref (am_rf S a0 0) :: st) S I J Q) := tr_geta (k := 7) (by decide +kernel) (by decide +kernel) (by decide +kernel)
theorem r114_6 : am_T d 114 6 ls st S I J Q = am_T d 114 7 ls (.int 2 :: st) S I J Q := tr_iconst (m := 2) (by decide +kernel) (by decide)
theorem r114_7 : am_T d 114 7 ls (.int x0 :: .ref a0 :: st) S I J Q = (am_ix S a0 20 x0 ∧ am_T d 114 8 ls (.int (I a0 x0.toNatClampNeg) :: st) S I J Q) := tr_iald (by decide +kernel)
theorem r114_8 : am_T d 114 8 ls st S I J Q = am_T d 114 9 ls (.int 1 :: st) S I J Q := tr_iconst (m := 1) (by decide +kernel) (by decide)
theorem r114_9 : am_T d 114 9 ls (.int x1 :: .int x0 :: st) S I J Q = am_T d 114 10 ls (.int (x0 - x1) :: st) S I J Q := tr_isub (by decide +kernel)
theorem r114_10 : am_T d 114 10 ls [.int x2, .int x1, .int x0] S I J Q = am_C d 112 [.int x0, .int x1, .int x2] S I J (fun r S I J => am_T d 114 13 ls (am_psh r []) S I J Q) := tr_stat (k := 60) (by decide +kernel) (Or.inl (by decide +kernel)) (Nat.le_of_ble_eq_true rfl) rfl rfl (Nat.le_of_ble_eq_true rfl)
theorem r114_13 : am_T d 114 13 ls [.int x0] S I J Q = ((x0 = 0 ∨ x0 = 1) ∧ Q (some (.int x0)) S I J) := tr_iretz (by decide +kernel) (by decide +kernel)
-- 115 Mod.clear(II)V; heads [31]
theorem e115 : am_C (d + 1) 115 [.ref a0, .int x1, .int x2] S I J Q = am_T d 115 0 [some (.ref a0), some (.int x1), some (.int x2), none] [] S I J Q := tr_en (Nat.le_of_ble_eq_true rfl) rfl
theorem r115_0 : am_T d 115 0 [some (.ref a0), l1, l2, l3] st S I J Q = am_T d 115 1 [some (.ref a0), l1, l2, l3] (.ref a0 :: st) S I J Q := tr_aload_n (m := 0) (by decide +kernel) rfl
theorem r115_1 : am_T d 115 1 ls (.ref a0 :: st) S I J Q = ((am_is S a0 9 ∧ am_rf S a0 0 ≠ 0) ∧ am_T d 115 4 ls (.ref (am_rf S a0 0) :: st) S I J Q) := tr_geta (k := 7) (by decide +kernel) (by decide +kernel) (by decide +kernel)
theorem r115_4 : am_T d 115 4 ls st S I J Q = am_T d 115 5 ls (.int 0 :: st) S I J Q := tr_iconst (m := 0) (by decide +kernel) (by decide)
theorem r115_5 : am_T d 115 5 [l0, some (.int x0), l2, l3] st S I J Q = am_T d 115 6 [l0, some (.int x0), l2, l3] (.int x0 :: st) S I J Q := tr_iload_n (m := 1) (by decide +kernel) rfl
theorem r115_6 : am_T d 115 6 ls (.int x1 :: .int x0 :: .ref a0 :: st) S I J Q = (am_ixw S a0 20 x0 ∧ am_T d 115 7 ls st S (am_up I a0 x0.toNatClampNeg x1) J Q) := tr_iast (by decide +kernel)
theorem r115_7 : am_T d 115 7 [some (.ref a0), l1, l2, l3] st S I J Q = am_T d 115 8 [some (.ref a0), l1, l2, l3] (.ref a0 :: st) S I J Q := tr_aload_n (m := 0) (by decide +kernel) rfl
theorem r115_8 : am_T d 115 8 ls (.ref a0 :: st) S I J Q = ((am_is S a0 9 ∧ am_rf S a0 0 ≠ 0) ∧ am_T d 115 11 ls (.ref (am_rf S a0 0) :: st) S I J Q) := tr_geta (k := 7) (by decide +kernel) (by decide +kernel) (by decide +kernel)
theorem r115_11 : am_T d 115 11 ls st S I J Q = am_T d 115 12 ls (.int 1 :: st) S I J Q := tr_iconst (m := 1) (by decide +kernel) (by decide)
theorem r115_12 : am_T d 115 12 [l0, l1, some (.int x0), l3] st S I J Q = am_T d 115 13 [l0, l1, some (.int x0), l3] (.int x0 :: st) S I J Q := tr_iload_n (m := 2) (by decide +kernel) rfl
theorem r115_13 : am_T d 115 13 ls (.int x1 :: .int x0 :: .ref a0 :: st) S I J Q = (am_ixw S a0 20 x0 ∧ am_T d 115 14 ls st S (am_up I a0 x0.toNatClampNeg x1) J Q) := tr_iast (by decide +kernel)
theorem r115_14 : am_T d 115 14 [some (.ref a0), l1, l2, l3] st S I J Q = am_T d 115 15 [some (.ref a0), l1, l2, l3] (.ref a0 :: st) S I J Q := tr_aload_n (m := 0) (by decide +kernel) rfl
theorem r115_15 : am_T d 115 15 ls (.ref a0 :: st) S I J Q = ((am_is S a0 9 ∧ am_rf S a0 0 ≠ 0) ∧ am_T d 115 18 ls (.ref (am_rf S a0 0) :: st) S I J Q) := tr_geta (k := 7) (by decide +kernel) (by decide +kernel) (by decide +kernel)
theorem r115_18 : am_T d 115 18 ls st S I J Q = am_T d 115 19 ls (.int 2 :: st) S I J Q := tr_iconst (m := 2) (by decide +kernel) (by decide)
theorem r115_19 : am_T d 115 19 ls st S I J Q = am_T d 115 20 ls (.int 0 :: st) S I J Q := tr_iconst (m := 0) (by decide +kernel) (by decide)
theorem r115_20 : am_T d 115 20 ls (.int x1 :: .int x0 :: .ref a0 :: st) S I J Q = (am_ixw S a0 20 x0 ∧ am_T d 115 21 ls st S (am_up I a0 x0.toNatClampNeg x1) J Q) := tr_iast (by decide +kernel)
theorem r115_21 : am_T d 115 21 [some (.ref a0), l1, l2, l3] st S I J Q = am_T d 115 22 [some (.ref a0), l1, l2, l3] (.ref a0 :: st) S I J Q := tr_aload_n (m := 0) (by decide +kernel) rfl
theorem r115_22 : am_T d 115 22 ls (.ref a0 :: st) S I J Q = ((am_is S a0 9 ∧ am_rf S a0 0 ≠ 0) ∧ am_T d 115 25 ls (.ref (am_rf S a0 0) :: st) S I J Q) := tr_geta (k := 7) (by decide +kernel) (by decide +kernel) (by decide +kernel)
theorem r115_25 : am_T d 115 25 ls st S I J Q = am_T d 115 27 ls (.int 107 :: st) S I J Q := tr_bipush (m := 107) (by decide +kernel) (by decide)
theorem r115_27 : am_T d 115 27 ls st S I J Q = am_T d 115 28 ls (.int 0 :: st) S I J Q := tr_iconst (m := 0) (by decide +kernel) (by decide)
theorem r115_28 : am_T d 115 28 ls (.int x1 :: .int x0 :: .ref a0 :: st) S I J Q = (am_ixw S a0 20 x0 ∧ am_T d 115 29 ls st S (am_up I a0 x0.toNatClampNeg x1) J Q) := tr_iast (by decide +kernel)
theorem r115_29 : am_T d 115 29 ls st S I J Q = am_T d 115 30 ls (.int 0 :: st) S I J Q := tr_iconst (m := 0) (by decide +kernel) (by decide)
theorem r115_30 : am_T d 115 30 [l0, l1, l2, l3] (.int x0 :: st) S I J Q = am_T d 115 31 [l0, l1, am_clr l2, some (.int x0)] st S I J Q := tr_istore_n (m := 3) (by decide +kernel) (Nat.le_of_ble_eq_true rfl) rfl
theorem r115_31 : am_T d 115 31 [l0, l1, l2, some (.int x0)] st S I J Q = am_T d 115 32 [l0, l1, l2, some (.int x0)] (.int x0 :: st) S I J Q := tr_iload_n (m := 3) (by decide +kernel) rfl
theorem r115_32 : am_T d 115 32 ls st S I J Q = am_T d 115 34 ls (.int 8 :: st) S I J Q := tr_bipush (m := 8) (by decide +kernel) (by decide)
theorem r115_34 : am_T d 115 34 ls (.int x1 :: .int x0 :: st) S I J Q = if x1 ≤ x0 then am_T d 115 54 ls st S I J Q else am_T d 115 37 ls st S I J Q := tr_icmpge (o := 20) (by decide +kernel) rfl
theorem r115_37 : am_T d 115 37 [some (.ref a0), l1, l2, l3] st S I J Q = am_T d 115 38 [some (.ref a0), l1, l2, l3] (.ref a0 :: st) S I J Q := tr_aload_n (m := 0) (by decide +kernel) rfl
theorem r115_38 : am_T d 115 38 ls (.ref a0 :: st) S I J Q = ((am_is S a0 9 ∧ am_rf S a0 0 ≠ 0) ∧ am_T d 115 41 ls (.ref (am_rf S a0 0) :: st) S I J Q) := tr_geta (k := 7) (by decide +kernel) (by decide +kernel) (by decide +kernel)
theorem r115_41 : am_T d 115 41 ls st S I J Q = am_T d 115 43 ls (.int 99 :: st) S I J Q := tr_bipush (m := 99) (by decide +kernel) (by decide)
theorem r115_43 : am_T d 115 43 [l0, l1, l2, some (.int x0)] st S I J Q = am_T d 115 44 [l0, l1, l2, some (.int x0)] (.int x0 :: st) S I J Q := tr_iload_n (m := 3) (by decide +kernel) rfl
theorem r115_44 : am_T d 115 44 ls (.int x1 :: .int x0 :: st) S I J Q = am_T d 115 45 ls (.int (x0 + x1) :: st) S I J Q := tr_iadd (by decide +kernel)
theorem r115_45 : am_T d 115 45 ls st S I J Q = am_T d 115 47 ls (.int 7 :: st) S I J Q := tr_bipush (m := 7) (by decide +kernel) (by decide)
theorem r115_47 : am_T d 115 47 ls (.int x1 :: .int x0 :: .ref a0 :: st) S I J Q = (am_ixw S a0 20 x0 ∧ am_T d 115 48 ls st S (am_up I a0 x0.toNatClampNeg x1) J Q) := tr_iast (by decide +kernel)
theorem r115_48 : am_T d 115 48 [l0, l1, l2, some (.int x0)] st S I J Q = am_T d 115 51 [l0, l1, am_clr l2, some (.int (x0 + 1))] st S I J Q := tr_iinc (k := 3) (m := 1) (by decide +kernel) rfl (Nat.le_of_ble_eq_true rfl) (by decide) rfl
theorem r115_51 : am_T d 115 51 ls st S I J Q = am_T d 115 31 ls st S I J Q := tr_goto (o := -20) (by decide +kernel) rfl
theorem r115_54 : am_T d 115 54 ls [] S I J Q = Q none S I J := tr_vret (by decide +kernel) (by decide +kernel)
-- 116 Mod.keep()V; heads [11, 52]
theorem e116 : am_C (d + 1) 116 [.ref a0] S I J Q = am_T d 116 0 [some (.ref a0), none] [] S I J Q := tr_en (Nat.le_of_ble_eq_true rfl) rfl
theorem r116_0 : am_T d 116 0 [some (.ref a0), l1] st S I J Q = am_T d 116 1 [some (.ref a0), l1] (.ref a0 :: st) S I J Q := tr_aload_n (m := 0) (by decide +kernel) rfl
theorem r116_1 : am_T d 116 1 ls (.ref a0 :: st) S I J Q = (am_is S a0 9 ∧ am_T d 116 4 ls (.int (I a0 2) :: st) S I J Q) := tr_geti (k := 64) (by decide +kernel) (by decide +kernel) (Or.inl (by decide +kernel))
theorem r116_4 : am_T d 116 4 ls st S I J Q = am_T d 116 6 ls (.int 8 :: st) S I J Q := tr_bipush (m := 8) (by decide +kernel) (by decide)
theorem r116_6 : am_T d 116 6 ls (.int x1 :: .int x0 :: st) S I J Q = if x0 = x1 then am_T d 116 9 ls st S I J Q else am_T d 116 50 ls st S I J Q := tr_icmpne (o := 44) (by decide +kernel) rfl
theorem r116_9 : am_T d 116 9 ls st S I J Q = am_T d 116 10 ls (.int 0 :: st) S I J Q := tr_iconst (m := 0) (by decide +kernel) (by decide)
theorem r116_10 : am_T d 116 10 [l0, l1] (.int x0 :: st) S I J Q = am_T d 116 11 [am_clr l0, some (.int x0)] st S I J Q := tr_istore_n (m := 1) (by decide +kernel) (Nat.le_of_ble_eq_true rfl) rfl
theorem r116_11 : am_T d 116 11 [l0, some (.int x0)] st S I J Q = am_T d 116 12 [l0, some (.int x0)] (.int x0 :: st) S I J Q := tr_iload_n (m := 1) (by decide +kernel) rfl
theorem r116_12 : am_T d 116 12 ls st S I J Q = am_T d 116 15 ls (.int 1155 :: st) S I J Q := tr_sipush (m := 1155) (by decide +kernel) (by decide)
theorem r116_15 : am_T d 116 15 ls (.int x1 :: .int x0 :: st) S I J Q = if x1 ≤ x0 then am_T d 116 40 ls st S I J Q else am_T d 116 18 ls st S I J Q := tr_icmpge (o := 25) (by decide +kernel) rfl
theorem r116_18 : am_T d 116 18 [some (.ref a0), l1] st S I J Q = am_T d 116 19 [some (.ref a0), l1] (.ref a0 :: st) S I J Q := tr_aload_n (m := 0) (by decide +kernel) rfl
theorem r116_19 : am_T d 116 19 ls (.ref a0 :: st) S I J Q = ((am_is S a0 9 ∧ am_rf S a0 1 ≠ 0) ∧ am_T d 116 22 ls (.ref (am_rf S a0 1) :: st) S I J Q) := tr_geta (k := 13) (by decide +kernel) (by decide +kernel) (by decide +kernel)
theorem r116_22 : am_T d 116 22 [l0, some (.int x0)] st S I J Q = am_T d 116 23 [l0, some (.int x0)] (.int x0 :: st) S I J Q := tr_iload_n (m := 1) (by decide +kernel) rfl
theorem r116_23 : am_T d 116 23 [some (.ref a0), l1] st S I J Q = am_T d 116 24 [some (.ref a0), l1] (.ref a0 :: st) S I J Q := tr_aload_n (m := 0) (by decide +kernel) rfl
theorem r116_24 : am_T d 116 24 ls (.ref a0 :: st) S I J Q = ((am_is S a0 9 ∧ am_rf S a0 1 ≠ 0) ∧ am_T d 116 27 ls (.ref (am_rf S a0 1) :: st) S I J Q) := tr_geta (k := 13) (by decide +kernel) (by decide +kernel) (by decide +kernel)
theorem r116_27 : am_T d 116 27 [l0, some (.int x0)] st S I J Q = am_T d 116 28 [l0, some (.int x0)] (.int x0 :: st) S I J Q := tr_iload_n (m := 1) (by decide +kernel) rfl
theorem r116_28 : am_T d 116 28 ls st S I J Q = am_T d 116 31 ls (.int 165 :: st) S I J Q := tr_sipush (m := 165) (by decide +kernel) (by decide)
theorem r116_31 : am_T d 116 31 ls (.int x1 :: .int x0 :: st) S I J Q = am_T d 116 32 ls (.int (x0 + x1) :: st) S I J Q := tr_iadd (by decide +kernel)
theorem r116_32 : am_T d 116 32 ls (.int x0 :: .ref a0 :: st) S I J Q = (am_ix S a0 20 x0 ∧ am_T d 116 33 ls (.int (I a0 x0.toNatClampNeg) :: st) S I J Q) := tr_iald (by decide +kernel)
theorem r116_33 : am_T d 116 33 ls (.int x1 :: .int x0 :: .ref a0 :: st) S I J Q = (am_ixw S a0 20 x0 ∧ am_T d 116 34 ls st S (am_up I a0 x0.toNatClampNeg x1) J Q) := tr_iast (by decide +kernel)
theorem r116_34 : am_T d 116 34 [l0, some (.int x0)] st S I J Q = am_T d 116 37 [am_clr l0, some (.int (x0 + 1))] st S I J Q := tr_iinc (k := 1) (m := 1) (by decide +kernel) rfl (Nat.le_of_ble_eq_true rfl) (by decide) rfl
theorem r116_37 : am_T d 116 37 ls st S I J Q = am_T d 116 11 ls st S I J Q := tr_goto (o := -26) (by decide +kernel) rfl
theorem r116_40 : am_T d 116 40 [some (.ref a0), l1] st S I J Q = am_T d 116 41 [some (.ref a0), l1] (.ref a0 :: st) S I J Q := tr_aload_n (m := 0) (by decide +kernel) rfl
theorem r116_41 : am_T d 116 41 ls (.ref a0 :: st) S I J Q = am_T d 116 42 ls (.ref a0 :: .ref a0 :: st) S I J Q := tr_dupa (by decide +kernel)
theorem r116_42 : am_T d 116 42 ls (.ref a0 :: st) S I J Q = (am_is S a0 9 ∧ am_T d 116 45 ls (.int (I a0 2) :: st) S I J Q) := tr_geti (k := 64) (by decide +kernel) (by decide +kernel) (Or.inl (by decide +kernel))
theorem r116_45 : am_T d 116 45 ls st S I J Q = am_T d 116 46 ls (.int 1 :: st) S I J Q := tr_iconst (m := 1) (by decide +kernel) (by decide)
theorem r116_46 : am_T d 116 46 ls (.int x1 :: .int x0 :: st) S I J Q = am_T d 116 47 ls (.int (x0 - x1) :: st) S I J Q := tr_isub (by decide +kernel)
theorem r116_47 : am_T d 116 47 ls (.int x0 :: .ref a0 :: st) S I J Q = (am_is S a0 9 ∧ am_T d 116 50 ls st S (am_up I a0 2 x0) J Q) := tr_puti (k := 64) (by decide +kernel) (by decide +kernel) (by decide +kernel) (by decide +kernel)
theorem r116_50 : am_T d 116 50 ls st S I J Q = am_T d 116 51 ls (.int 0 :: st) S I J Q := tr_iconst (m := 0) (by decide +kernel) (by decide)
theorem r116_51 : am_T d 116 51 [l0, l1] (.int x0 :: st) S I J Q = am_T d 116 52 [am_clr l0, some (.int x0)] st S I J Q := tr_istore_n (m := 1) (by decide +kernel) (Nat.le_of_ble_eq_true rfl) rfl
theorem r116_52 : am_T d 116 52 [l0, some (.int x0)] st S I J Q = am_T d 116 53 [l0, some (.int x0)] (.int x0 :: st) S I J Q := tr_iload_n (m := 1) (by decide +kernel) rfl
theorem r116_53 : am_T d 116 53 ls st S I J Q = am_T d 116 56 ls (.int 165 :: st) S I J Q := tr_sipush (m := 165) (by decide +kernel) (by decide)
theorem r116_56 : am_T d 116 56 ls (.int x1 :: .int x0 :: st) S I J Q = if x1 ≤ x0 then am_T d 116 86 ls st S I J Q else am_T d 116 59 ls st S I J Q := tr_icmpge (o := 30) (by decide +kernel) rfl
theorem r116_59 : am_T d 116 59 [some (.ref a0), l1] st S I J Q = am_T d 116 60 [some (.ref a0), l1] (.ref a0 :: st) S I J Q := tr_aload_n (m := 0) (by decide +kernel) rfl
theorem r116_60 : am_T d 116 60 ls (.ref a0 :: st) S I J Q = ((am_is S a0 9 ∧ am_rf S a0 1 ≠ 0) ∧ am_T d 116 63 ls (.ref (am_rf S a0 1) :: st) S I J Q) := tr_geta (k := 13) (by decide +kernel) (by decide +kernel) (by decide +kernel)
theorem r116_63 : am_T d 116 63 ls st S I J Q = am_T d 116 66 ls (.int 165 :: st) S I J Q := tr_sipush (m := 165) (by decide +kernel) (by decide)
theorem r116_66 : am_T d 116 66 [some (.ref a0), l1] st S I J Q = am_T d 116 67 [some (.ref a0), l1] (.ref a0 :: st) S I J Q := tr_aload_n (m := 0) (by decide +kernel) rfl
theorem r116_67 : am_T d 116 67 ls (.ref a0 :: st) S I J Q = (am_is S a0 9 ∧ am_T d 116 70 ls (.int (I a0 2) :: st) S I J Q) := tr_geti (k := 64) (by decide +kernel) (by decide +kernel) (Or.inl (by decide +kernel))
theorem r116_70 : am_T d 116 70 ls (.int x1 :: .int x0 :: st) S I J Q = am_T d 116 71 ls (.int (x0 * x1) :: st) S I J Q := tr_imul (by decide +kernel)
theorem r116_71 : am_T d 116 71 [l0, some (.int x0)] st S I J Q = am_T d 116 72 [l0, some (.int x0)] (.int x0 :: st) S I J Q := tr_iload_n (m := 1) (by decide +kernel) rfl
theorem r116_72 : am_T d 116 72 ls (.int x1 :: .int x0 :: st) S I J Q = am_T d 116 73 ls (.int (x0 + x1) :: st) S I J Q := tr_iadd (by decide +kernel)
theorem r116_73 : am_T d 116 73 [some (.ref a0), l1] st S I J Q = am_T d 116 74 [some (.ref a0), l1] (.ref a0 :: st) S I J Q := tr_aload_n (m := 0) (by decide +kernel) rfl
theorem r116_74 : am_T d 116 74 ls (.ref a0 :: st) S I J Q = ((am_is S a0 9 ∧ am_rf S a0 0 ≠ 0) ∧ am_T d 116 77 ls (.ref (am_rf S a0 0) :: st) S I J Q) := tr_geta (k := 7) (by decide +kernel) (by decide +kernel) (by decide +kernel)
theorem r116_77 : am_T d 116 77 [l0, some (.int x0)] st S I J Q = am_T d 116 78 [l0, some (.int x0)] (.int x0 :: st) S I J Q := tr_iload_n (m := 1) (by decide +kernel) rfl
theorem r116_78 : am_T d 116 78 ls (.int x0 :: .ref a0 :: st) S I J Q = (am_ix S a0 20 x0 ∧ am_T d 116 79 ls (.int (I a0 x0.toNatClampNeg) :: st) S I J Q) := tr_iald (by decide +kernel)
theorem r116_79 : am_T d 116 79 ls (.int x1 :: .int x0 :: .ref a0 :: st) S I J Q = (am_ixw S a0 20 x0 ∧ am_T d 116 80 ls st S (am_up I a0 x0.toNatClampNeg x1) J Q) := tr_iast (by decide +kernel)
theorem r116_80 : am_T d 116 80 [l0, some (.int x0)] st S I J Q = am_T d 116 83 [am_clr l0, some (.int (x0 + 1))] st S I J Q := tr_iinc (k := 1) (m := 1) (by decide +kernel) rfl (Nat.le_of_ble_eq_true rfl) (by decide) rfl
theorem r116_83 : am_T d 116 83 ls st S I J Q = am_T d 116 52 ls st S I J Q := tr_goto (o := -31) (by decide +kernel) rfl
theorem r116_86 : am_T d 116 86 [some (.ref a0), l1] st S I J Q = am_T d 116 87 [some (.ref a0), l1] (.ref a0 :: st) S I J Q := tr_aload_n (m := 0) (by decide +kernel) rfl
theorem r116_87 : am_T d 116 87 ls (.ref a0 :: st) S I J Q = am_T d 116 88 ls (.ref a0 :: .ref a0 :: st) S I J Q := tr_dupa (by decide +kernel)
theorem r116_88 : am_T d 116 88 ls (.ref a0 :: st) S I J Q = (am_is S a0 9 ∧ am_T d 116 91 ls (.int (I a0 2) :: st) S I J Q) := tr_geti (k := 64) (by decide +kernel) (by decide +kernel) (Or.inl (by decide +kernel))
theorem r116_91 : am_T d 116 91 ls st S I J Q = am_T d 116 92 ls (.int 1 :: st) S I J Q := tr_iconst (m := 1) (by decide +kernel) (by decide)
theorem r116_92 : am_T d 116 92 ls (.int x1 :: .int x0 :: st) S I J Q = am_T d 116 93 ls (.int (x0 + x1) :: st) S I J Q := tr_iadd (by decide +kernel)
theorem r116_93 : am_T d 116 93 ls (.int x0 :: .ref a0 :: st) S I J Q = (am_is S a0 9 ∧ am_T d 116 96 ls st S (am_up I a0 2 x0) J Q) := tr_puti (k := 64) (by decide +kernel) (by decide +kernel) (by decide +kernel) (by decide +kernel)
theorem r116_96 : am_T d 116 96 ls [] S I J Q = Q none S I J := tr_vret (by decide +kernel) (by decide +kernel)
-- 117 Mod.judge(Z)V; heads []
theorem e117 : am_C (d + 1) 117 [.ref a0, .int x1] S I J Q = am_T d 117 0 [some (.ref a0), some (.int x1)] [] S I J Q := tr_en (Nat.le_of_ble_eq_true rfl) rfl
theorem r117_0 : am_T d 117 0 [some (.ref a0), l1] st S I J Q = am_T d 117 1 [some (.ref a0), l1] (.ref a0 :: st) S I J Q := tr_aload_n (m := 0) (by decide +kernel) rfl
theorem r117_1 : am_T d 117 1 ls (.ref a0 :: st) S I J Q = ((am_is S a0 9 ∧ am_rf S a0 0 ≠ 0) ∧ am_T d 117 4 ls (.ref (am_rf S a0 0) :: st) S I J Q) := tr_geta (k := 7) (by decide +kernel) (by decide +kernel) (by decide +kernel)
theorem r117_4 : am_T d 117 4 ls st S I J Q = am_T d 117 6 ls (.int 107 :: st) S I J Q := tr_bipush (m := 107) (by decide +kernel) (by decide)
theorem r117_6 : am_T d 117 6 ls (.int x0 :: .ref a0 :: st) S I J Q = (am_ix S a0 20 x0 ∧ am_T d 117 7 ls (.int (I a0 x0.toNatClampNeg) :: st) S I J Q) := tr_iald (by decide +kernel)
theorem r117_7 : am_T d 117 7 ls st S I J Q = am_T d 117 8 ls (.int 1 :: st) S I J Q := tr_iconst (m := 1) (by decide +kernel) (by decide)
theorem r117_8 : am_T d 117 8 ls (.int x1 :: .int x0 :: st) S I J Q = if x0 = x1 then am_T d 117 11 ls st S I J Q else am_T d 117 45 ls st S I J Q := tr_icmpne (o := 37) (by decide +kernel) rfl
theorem r117_11 : am_T d 117 11 [some (.ref a0), l1] st S I J Q = am_T d 117 12 [some (.ref a0), l1] (.ref a0 :: st) S I J Q := tr_aload_n (m := 0) (by decide +kernel) rfl
theorem r117_12 : am_T d 117 12 ls (.ref a0 :: st) S I J Q = am_T d 117 13 ls (.ref a0 :: .ref a0 :: st) S I J Q := tr_dupa (by decide +kernel)
theorem r117_13 : am_T d 117 13 ls (.ref a0 :: st) S I J Q = (am_is S a0 9 ∧ am_T d 117 16 ls (.int (I a0 6) :: st) S I J Q) := tr_geti (k := 68) (by decide +kernel) (by decide +kernel) (Or.inl (by decide +kernel))
theorem r117_16 : am_T d 117 16 [l0, some (.int x0)] st S I J Q = am_T d 117 17 [l0, some (.int x0)] (.int x0 :: st) S I J Q := tr_iload_n (m := 1) (by decide +kernel) rfl
theorem r117_17 : am_T d 117 17 ls (.int x0 :: st) S I J Q = if x0 = 0 then am_T d 117 24 ls st S I J Q else am_T d 117 20 ls st S I J Q := tr_ifeq (o := 7) (by decide +kernel) rfl
theorem r117_20 : am_T d 117 20 ls st S I J Q = am_T d 117 21 ls (.int 1 :: st) S I J Q := tr_iconst (m := 1) (by decide +kernel) (by decide)
theorem r117_21 : am_T d 117 21 ls st S I J Q = am_T d 117 25 ls st S I J Q := tr_goto (o := 4) (by decide +kernel) rfl
theorem r117_24 : am_T d 117 24 ls st S I J Q = am_T d 117 25 ls (.int 0 :: st) S I J Q := tr_iconst (m := 0) (by decide +kernel) (by decide)
theorem r117_25 : am_T d 117 25 ls (.int x1 :: .int x0 :: st) S I J Q = am_T d 117 26 ls (.int (x0 + x1) :: st) S I J Q := tr_iadd (by decide +kernel)
theorem r117_26 : am_T d 117 26 ls (.int x0 :: .ref a0 :: st) S I J Q = (am_is S a0 9 ∧ am_T d 117 29 ls st S (am_up I a0 6 x0) J Q) := tr_puti (k := 68) (by decide +kernel) (by decide +kernel) (by decide +kernel) (by decide +kernel)
theorem r117_29 : am_T d 117 29 [some (.ref a0), l1] st S I J Q = am_T d 117 30 [some (.ref a0), l1] (.ref a0 :: st) S I J Q := tr_aload_n (m := 0) (by decide +kernel) rfl
theorem r117_30 : am_T d 117 30 ls (.ref a0 :: st) S I J Q = ((am_is S a0 9 ∧ am_rf S a0 0 ≠ 0) ∧ am_T d 117 33 ls (.ref (am_rf S a0 0) :: st) S I J Q) := tr_geta (k := 7) (by decide +kernel) (by decide +kernel) (by decide +kernel)
theorem r117_33 : am_T d 117 33 ls st S I J Q = am_T d 117 35 ls (.int 107 :: st) S I J Q := tr_bipush (m := 107) (by decide +kernel) (by decide)
theorem r117_35 : am_T d 117 35 [l0, some (.int x0)] st S I J Q = am_T d 117 36 [l0, some (.int x0)] (.int x0 :: st) S I J Q := tr_iload_n (m := 1) (by decide +kernel) rfl
theorem r117_36 : am_T d 117 36 ls (.int x0 :: st) S I J Q = if x0 = 0 then am_T d 117 43 ls st S I J Q else am_T d 117 39 ls st S I J Q := tr_ifeq (o := 7) (by decide +kernel) rfl
theorem r117_39 : am_T d 117 39 ls st S I J Q = am_T d 117 40 ls (.int 1 :: st) S I J Q := tr_iconst (m := 1) (by decide +kernel) (by decide)
theorem r117_40 : am_T d 117 40 ls st S I J Q = am_T d 117 44 ls st S I J Q := tr_goto (o := 4) (by decide +kernel) rfl
theorem r117_43 : am_T d 117 43 ls st S I J Q = am_T d 117 44 ls (.int 0 :: st) S I J Q := tr_iconst (m := 0) (by decide +kernel) (by decide)
theorem r117_44 : am_T d 117 44 ls (.int x1 :: .int x0 :: .ref a0 :: st) S I J Q = (am_ixw S a0 20 x0 ∧ am_T d 117 45 ls st S (am_up I a0 x0.toNatClampNeg x1) J Q) := tr_iast (by decide +kernel)
theorem r117_45 : am_T d 117 45 ls [] S I J Q = Q none S I J := tr_vret (by decide +kernel) (by decide +kernel)
-- 118 Mod.begin(II)I; heads []
theorem e118 : am_C (d + 1) 118 [.ref a0, .int x1, .int x2] S I J Q = am_T d 118 0 [some (.ref a0), some (.int x1), some (.int x2), none] [] S I J Q := tr_en (Nat.le_of_ble_eq_true rfl) rfl
theorem r118_0 : am_T d 118 0 [l0, some (.int x0), l2, l3] st S I J Q = am_T d 118 1 [l0, some (.int x0), l2, l3] (.int x0 :: st) S I J Q := tr_iload_n (m := 1) (by decide +kernel) rfl
theorem r118_1 : am_T d 118 1 ls st S I J Q = am_T d 118 2 ls (.int 2 :: st) S I J Q := tr_iconst (m := 2) (by decide +kernel) (by decide)
theorem r118_2 : am_T d 118 2 ls st S I J Q = am_T d 118 4 ls (.int 8 :: st) S I J Q := tr_bipush (m := 8) (by decide +kernel) (by decide)
theorem r118_4 : am_T d 118 4 ls [.int x2, .int x1, .int x0] S I J Q = am_C d 112 [.int x0, .int x1, .int x2] S I J (fun r S I J => am_T d 118 7 ls (am_psh r []) S I J Q) := tr_stat (k := 60) (by decide +kernel) (Or.inl (by decide +kernel)) (Nat.le_of_ble_eq_true rfl) rfl rfl (Nat.le_of_ble_eq_true rfl)
theorem r118_7 : am_T d 118 7 ls (.int x0 :: st) S I J Q = if x0 = 0 then am_T d 118 10 ls st S I J Q else am_T d 118 13 ls st S I J Q := tr_ifne (o := 6) (by decide +kernel) rfl
theorem r118_10 : am_T d 118 10 ls st S I J Q = am_T d 118 12 ls (.int (-103) :: st) S I J Q := tr_bipush (m := -103) (by decide +kernel) (by decide)
theorem r118_12 : am_T d 118 12 ls [.int x0] S I J Q = Q (some (.int x0)) S I J := tr_ireti (by decide +kernel) (by decide +kernel)
theorem r118_13 : am_T d 118 13 [l0, l1, some (.int x0), l3] st S I J Q = am_T d 118 14 [l0, l1, some (.int x0), l3] (.int x0 :: st) S I J Q := tr_iload_n (m := 2) (by decide +kernel) rfl
theorem r118_14 : am_T d 118 14 ls st S I J Q = am_T d 118 15 ls (.int 0 :: st) S I J Q := tr_iconst (m := 0) (by decide +kernel) (by decide)
theorem r118_15 : am_T d 118 15 [l0, some (.int x0), l2, l3] st S I J Q = am_T d 118 16 [l0, some (.int x0), l2, l3] (.int x0 :: st) S I J Q := tr_iload_n (m := 1) (by decide +kernel) rfl
theorem r118_16 : am_T d 118 16 ls st S I J Q = am_T d 118 17 ls (.int 1 :: st) S I J Q := tr_iconst (m := 1) (by decide +kernel) (by decide)
theorem r118_17 : am_T d 118 17 ls (.int x1 :: .int x0 :: st) S I J Q = am_T d 118 18 ls (.int (x0 - x1) :: st) S I J Q := tr_isub (by decide +kernel)
theorem r118_18 : am_T d 118 18 ls [.int x2, .int x1, .int x0] S I J Q = am_C d 112 [.int x0, .int x1, .int x2] S I J (fun r S I J => am_T d 118 21 ls (am_psh r []) S I J Q) := tr_stat (k := 60) (by decide +kernel) (Or.inl (by decide +kernel)) (Nat.le_of_ble_eq_true rfl) rfl rfl (Nat.le_of_ble_eq_true rfl)
theorem r118_21 : am_T d 118 21 ls (.int x0 :: st) S I J Q = if x0 = 0 then am_T d 118 24 ls st S I J Q else am_T d 118 27 ls st S I J Q := tr_ifne (o := 6) (by decide +kernel) rfl
theorem r118_24 : am_T d 118 24 ls st S I J Q = am_T d 118 26 ls (.int (-101) :: st) S I J Q := tr_bipush (m := -101) (by decide +kernel) (by decide)
theorem r118_26 : am_T d 118 26 ls [.int x0] S I J Q = Q (some (.int x0)) S I J := tr_ireti (by decide +kernel) (by decide +kernel)
theorem r118_27 : am_T d 118 27 [some (.ref a0), l1, l2, l3] st S I J Q = am_T d 118 28 [some (.ref a0), l1, l2, l3] (.ref a0 :: st) S I J Q := tr_aload_n (m := 0) (by decide +kernel) rfl
theorem r118_28 : am_T d 118 28 ls [.ref a0] S I J Q = (am_is S a0 9 ∧ am_C d 116 [.ref a0] S I J (fun r S I J => am_T d 118 31 ls (am_psh r []) S I J Q)) := tr_virt (k := 71) (by decide +kernel) (by decide +kernel) rfl rfl (Nat.le_of_ble_eq_true rfl) (by decide +kernel)
theorem r118_31 : am_T d 118 31 [some (.ref a0), l1, l2, l3] st S I J Q = am_T d 118 32 [some (.ref a0), l1, l2, l3] (.ref a0 :: st) S I J Q := tr_aload_n (m := 0) (by decide +kernel) rfl
theorem r118_32 : am_T d 118 32 ls (.ref a0 :: st) S I J Q = ((am_is S a0 9 ∧ am_rf S a0 0 ≠ 0) ∧ am_T d 118 35 ls (.ref (am_rf S a0 0) :: st) S I J Q) := tr_geta (k := 7) (by decide +kernel) (by decide +kernel) (by decide +kernel)
theorem r118_35 : am_T d 118 35 ls st S I J Q = am_T d 118 36 ls (.int 0 :: st) S I J Q := tr_iconst (m := 0) (by decide +kernel) (by decide)
theorem r118_36 : am_T d 118 36 ls (.int x0 :: .ref a0 :: st) S I J Q = (am_ix S a0 20 x0 ∧ am_T d 118 37 ls (.int (I a0 x0.toNatClampNeg) :: st) S I J Q) := tr_iald (by decide +kernel)
theorem r118_37 : am_T d 118 37 [l0, l1, l2, l3] (.int x0 :: st) S I J Q = am_T d 118 38 [l0, l1, am_clr l2, some (.int x0)] st S I J Q := tr_istore_n (m := 3) (by decide +kernel) (Nat.le_of_ble_eq_true rfl) rfl
theorem r118_38 : am_T d 118 38 [some (.ref a0), l1, l2, l3] st S I J Q = am_T d 118 39 [some (.ref a0), l1, l2, l3] (.ref a0 :: st) S I J Q := tr_aload_n (m := 0) (by decide +kernel) rfl
theorem r118_39 : am_T d 118 39 [l0, some (.int x0), l2, l3] st S I J Q = am_T d 118 40 [l0, some (.int x0), l2, l3] (.int x0 :: st) S I J Q := tr_iload_n (m := 1) (by decide +kernel) rfl
theorem r118_40 : am_T d 118 40 [l0, l1, some (.int x0), l3] st S I J Q = am_T d 118 41 [l0, l1, some (.int x0), l3] (.int x0 :: st) S I J Q := tr_iload_n (m := 2) (by decide +kernel) rfl
theorem r118_41 : am_T d 118 41 ls [.int x2, .int x1, .ref a0] S I J Q = (am_is S a0 9 ∧ am_C d 115 [.ref a0, .int x1, .int x2] S I J (fun r S I J => am_T d 118 44 ls (am_psh r []) S I J Q)) := tr_virt (k := 56) (by decide +kernel) (by decide +kernel) rfl rfl (Nat.le_of_ble_eq_true rfl) (by decide +kernel)
theorem r118_44 : am_T d 118 44 [l0, l1, l2, some (.int x0)] st S I J Q = am_T d 118 45 [l0, l1, l2, some (.int x0)] (.int x0 :: st) S I J Q := tr_iload_n (m := 3) (by decide +kernel) rfl
theorem r118_45 : am_T d 118 45 ls [.int x0] S I J Q = Q (some (.int x0)) S I J := tr_ireti (by decide +kernel) (by decide +kernel)
-- 119 Mod.append(III)V; heads []
theorem e119 : am_C (d + 1) 119 [.ref a0, .int x1, .int x2, .int x3] S I J Q = am_T d 119 0 [some (.ref a0), some (.int x1), some (.int x2), some (.int x3)] [] S I J Q := tr_en (Nat.le_of_ble_eq_true rfl) rfl
theorem r119_0 : am_T d 119 0 [some (.ref a0), l1, l2, l3] st S I J Q = am_T d 119 1 [some (.ref a0), l1, l2, l3] (.ref a0 :: st) S I J Q := tr_aload_n (m := 0) (by decide +kernel) rfl
theorem r119_1 : am_T d 119 1 ls (.ref a0 :: st) S I J Q = ((am_is S a0 9 ∧ am_rf S a0 0 ≠ 0) ∧ am_T d 119 4 ls (.ref (am_rf S a0 0) :: st) S I J Q) := tr_geta (k := 7) (by decide +kernel) (by decide +kernel) (by decide +kernel)
theorem r119_4 : am_T d 119 4 ls st S I J Q = am_T d 119 5 ls (.int 3 :: st) S I J Q := tr_iconst (m := 3) (by decide +kernel) (by decide)
theorem r119_5 : am_T d 119 5 [some (.ref a0), l1, l2, l3] st S I J Q = am_T d 119 6 [some (.ref a0), l1, l2, l3] (.ref a0 :: st) S I J Q := tr_aload_n (m := 0) (by decide +kernel) rfl
theorem r119_6 : am_T d 119 6 ls (.ref a0 :: st) S I J Q = ((am_is S a0 9 ∧ am_rf S a0 0 ≠ 0) ∧ am_T d 119 9 ls (.ref (am_rf S a0 0) :: st) S I J Q) := tr_geta (k := 7) (by decide +kernel) (by decide +kernel) (by decide +kernel)
theorem r119_9 : am_T d 119 9 ls st S I J Q = am_T d 119 10 ls (.int 2 :: st) S I J Q := tr_iconst (m := 2) (by decide +kernel) (by decide)
theorem r119_10 : am_T d 119 10 ls (.int x0 :: .ref a0 :: st) S I J Q = (am_ix S a0 20 x0 ∧ am_T d 119 11 ls (.int (I a0 x0.toNatClampNeg) :: st) S I J Q) := tr_iald (by decide +kernel)
theorem r119_11 : am_T d 119 11 ls (.int x1 :: .int x0 :: st) S I J Q = am_T d 119 12 ls (.int (x0 + x1) :: st) S I J Q := tr_iadd (by decide +kernel)
theorem r119_12 : am_T d 119 12 [l0, some (.int x0), l2, l3] st S I J Q = am_T d 119 13 [l0, some (.int x0), l2, l3] (.int x0 :: st) S I J Q := tr_iload_n (m := 1) (by decide +kernel) rfl
theorem r119_13 : am_T d 119 13 ls (.int x1 :: .int x0 :: .ref a0 :: st) S I J Q = (am_ixw S a0 20 x0 ∧ am_T d 119 14 ls st S (am_up I a0 x0.toNatClampNeg x1) J Q) := tr_iast (by decide +kernel)
theorem r119_14 : am_T d 119 14 [some (.ref a0), l1, l2, l3] st S I J Q = am_T d 119 15 [some (.ref a0), l1, l2, l3] (.ref a0 :: st) S I J Q := tr_aload_n (m := 0) (by decide +kernel) rfl
theorem r119_15 : am_T d 119 15 ls (.ref a0 :: st) S I J Q = ((am_is S a0 9 ∧ am_rf S a0 0 ≠ 0) ∧ am_T d 119 18 ls (.ref (am_rf S a0 0) :: st) S I J Q) := tr_geta (k := 7) (by decide +kernel) (by decide +kernel) (by decide +kernel)
theorem r119_18 : am_T d 119 18 ls st S I J Q = am_T d 119 20 ls (.int 35 :: st) S I J Q := tr_bipush (m := 35) (by decide +kernel) (by decide)
theorem r119_20 : am_T d 119 20 [some (.ref a0), l1, l2, l3] st S I J Q = am_T d 119 21 [some (.ref a0), l1, l2, l3] (.ref a0 :: st) S I J Q := tr_aload_n (m := 0) (by decide +kernel) rfl
theorem r119_21 : am_T d 119 21 ls (.ref a0 :: st) S I J Q = ((am_is S a0 9 ∧ am_rf S a0 0 ≠ 0) ∧ am_T d 119 24 ls (.ref (am_rf S a0 0) :: st) S I J Q) := tr_geta (k := 7) (by decide +kernel) (by decide +kernel) (by decide +kernel)
theorem r119_24 : am_T d 119 24 ls st S I J Q = am_T d 119 25 ls (.int 2 :: st) S I J Q := tr_iconst (m := 2) (by decide +kernel) (by decide)
theorem r119_25 : am_T d 119 25 ls (.int x0 :: .ref a0 :: st) S I J Q = (am_ix S a0 20 x0 ∧ am_T d 119 26 ls (.int (I a0 x0.toNatClampNeg) :: st) S I J Q) := tr_iald (by decide +kernel)
theorem r119_26 : am_T d 119 26 ls (.int x1 :: .int x0 :: st) S I J Q = am_T d 119 27 ls (.int (x0 + x1) :: st) S I J Q := tr_iadd (by decide +kernel)
theorem r119_27 : am_T d 119 27 [l0, l1, some (.int x0), l3] st S I J Q = am_T d 119 28 [l0, l1, some (.int x0), l3] (.int x0 :: st) S I J Q := tr_iload_n (m := 2) (by decide +kernel) rfl
theorem r119_28 : am_T d 119 28 ls (.int x1 :: .int x0 :: .ref a0 :: st) S I J Q = (am_ixw S a0 20 x0 ∧ am_T d 119 29 ls st S (am_up I a0 x0.toNatClampNeg x1) J Q) := tr_iast (by decide +kernel)
theorem r119_29 : am_T d 119 29 [some (.ref a0), l1, l2, l3] st S I J Q = am_T d 119 30 [some (.ref a0), l1, l2, l3] (.ref a0 :: st) S I J Q := tr_aload_n (m := 0) (by decide +kernel) rfl
theorem r119_30 : am_T d 119 30 ls (.ref a0 :: st) S I J Q = ((am_is S a0 9 ∧ am_rf S a0 0 ≠ 0) ∧ am_T d 119 33 ls (.ref (am_rf S a0 0) :: st) S I J Q) := tr_geta (k := 7) (by decide +kernel) (by decide +kernel) (by decide +kernel)
theorem r119_33 : am_T d 119 33 ls st S I J Q = am_T d 119 35 ls (.int 67 :: st) S I J Q := tr_bipush (m := 67) (by decide +kernel) (by decide)
theorem r119_35 : am_T d 119 35 [some (.ref a0), l1, l2, l3] st S I J Q = am_T d 119 36 [some (.ref a0), l1, l2, l3] (.ref a0 :: st) S I J Q := tr_aload_n (m := 0) (by decide +kernel) rfl
theorem r119_36 : am_T d 119 36 ls (.ref a0 :: st) S I J Q = ((am_is S a0 9 ∧ am_rf S a0 0 ≠ 0) ∧ am_T d 119 39 ls (.ref (am_rf S a0 0) :: st) S I J Q) := tr_geta (k := 7) (by decide +kernel) (by decide +kernel) (by decide +kernel)
theorem r119_39 : am_T d 119 39 ls st S I J Q = am_T d 119 40 ls (.int 2 :: st) S I J Q := tr_iconst (m := 2) (by decide +kernel) (by decide)
theorem r119_40 : am_T d 119 40 ls (.int x0 :: .ref a0 :: st) S I J Q = (am_ix S a0 20 x0 ∧ am_T d 119 41 ls (.int (I a0 x0.toNatClampNeg) :: st) S I J Q) := tr_iald (by decide +kernel)
theorem r119_41 : am_T d 119 41 ls (.int x1 :: .int x0 :: st) S I J Q = am_T d 119 42 ls (.int (x0 + x1) :: st) S I J Q := tr_iadd (by decide +kernel)
theorem r119_42 : am_T d 119 42 [l0, l1, l2, some (.int x0)] st S I J Q = am_T d 119 43 [l0, l1, l2, some (.int x0)] (.int x0 :: st) S I J Q := tr_iload_n (m := 3) (by decide +kernel) rfl
theorem r119_43 : am_T d 119 43 ls (.int x1 :: .int x0 :: .ref a0 :: st) S I J Q = (am_ixw S a0 20 x0 ∧ am_T d 119 44 ls st S (am_up I a0 x0.toNatClampNeg x1) J Q) := tr_iast (by decide +kernel)
theorem r119_44 : am_T d 119 44 [some (.ref a0), l1, l2, l3] st S I J Q = am_T d 119 45 [some (.ref a0), l1, l2, l3] (.ref a0 :: st) S I J Q := tr_aload_n (m := 0) (by decide +kernel) rfl
theorem r119_45 : am_T d 119 45 ls (.ref a0 :: st) S I J Q = ((am_is S a0 9 ∧ am_rf S a0 0 ≠ 0) ∧ am_T d 119 48 ls (.ref (am_rf S a0 0) :: st) S I J Q) := tr_geta (k := 7) (by decide +kernel) (by decide +kernel) (by decide +kernel)
theorem r119_48 : am_T d 119 48 ls st S I J Q = am_T d 119 49 ls (.int 2 :: st) S I J Q := tr_iconst (m := 2) (by decide +kernel) (by decide)
theorem r119_49 : am_T d 119 49 ls (.int x0 :: .ref a0 :: st) S I J Q = am_T d 119 50 ls (.int x0 :: .ref a0 :: .int x0 :: .ref a0 :: st) S I J Q := tr_dup2 (by decide +kernel)
theorem r119_50 : am_T d 119 50 ls (.int x0 :: .ref a0 :: st) S I J Q = (am_ix S a0 20 x0 ∧ am_T d 119 51 ls (.int (I a0 x0.toNatClampNeg) :: st) S I J Q) := tr_iald (by decide +kernel)
theorem r119_51 : am_T d 119 51 ls st S I J Q = am_T d 119 52 ls (.int 1 :: st) S I J Q := tr_iconst (m := 1) (by decide +kernel) (by decide)
theorem r119_52 : am_T d 119 52 ls (.int x1 :: .int x0 :: st) S I J Q = am_T d 119 53 ls (.int (x0 + x1) :: st) S I J Q := tr_iadd (by decide +kernel)
theorem r119_53 : am_T d 119 53 ls (.int x1 :: .int x0 :: .ref a0 :: st) S I J Q = (am_ixw S a0 20 x0 ∧ am_T d 119 54 ls st S (am_up I a0 x0.toNatClampNeg x1) J Q) := tr_iast (by decide +kernel)
theorem r119_54 : am_T d 119 54 ls [] S I J Q = Q none S I J := tr_vret (by decide +kernel) (by decide +kernel)
-- 120 Mod.addArc(III)I; heads []
theorem e120 : am_C (d + 1) 120 [.ref a0, .int x1, .int x2, .int x3] S I J Q = am_T d 120 0 [some (.ref a0), some (.int x1), some (.int x2), some (.int x3)] [] S I J Q := tr_en (Nat.le_of_ble_eq_true rfl) rfl
theorem r120_0 : am_T d 120 0 [some (.ref a0), l1, l2, l3] st S I J Q = am_T d 120 1 [some (.ref a0), l1, l2, l3] (.ref a0 :: st) S I J Q := tr_aload_n (m := 0) (by decide +kernel) rfl
theorem r120_1 : am_T d 120 1 [l0, some (.int x0), l2, l3] st S I J Q = am_T d 120 2 [l0, some (.int x0), l2, l3] (.int x0 :: st) S I J Q := tr_iload_n (m := 1) (by decide +kernel) rfl
theorem r120_2 : am_T d 120 2 ls [.int x1, .ref a0] S I J Q = (am_is S a0 9 ∧ am_C d 113 [.ref a0, .int x1] S I J (fun r S I J => am_T d 120 5 ls (am_psh r []) S I J Q)) := tr_virt (k := 74) (by decide +kernel) (by decide +kernel) rfl rfl (Nat.le_of_ble_eq_true rfl) (by decide +kernel)
theorem r120_5 : am_T d 120 5 ls (.int x0 :: st) S I J Q = if x0 = 0 then am_T d 120 21 ls st S I J Q else am_T d 120 8 ls st S I J Q := tr_ifeq (o := 16) (by decide +kernel) rfl
theorem r120_8 : am_T d 120 8 [some (.ref a0), l1, l2, l3] st S I J Q = am_T d 120 9 [some (.ref a0), l1, l2, l3] (.ref a0 :: st) S I J Q := tr_aload_n (m := 0) (by decide +kernel) rfl
theorem r120_9 : am_T d 120 9 [l0, l1, some (.int x0), l3] st S I J Q = am_T d 120 10 [l0, l1, some (.int x0), l3] (.int x0 :: st) S I J Q := tr_iload_n (m := 2) (by decide +kernel) rfl
theorem r120_10 : am_T d 120 10 ls [.int x1, .ref a0] S I J Q = (am_is S a0 9 ∧ am_C d 113 [.ref a0, .int x1] S I J (fun r S I J => am_T d 120 13 ls (am_psh r []) S I J Q)) := tr_virt (k := 74) (by decide +kernel) (by decide +kernel) rfl rfl (Nat.le_of_ble_eq_true rfl) (by decide +kernel)
theorem r120_13 : am_T d 120 13 ls (.int x0 :: st) S I J Q = if x0 = 0 then am_T d 120 21 ls st S I J Q else am_T d 120 16 ls st S I J Q := tr_ifeq (o := 8) (by decide +kernel) rfl
theorem r120_16 : am_T d 120 16 [l0, some (.int x0), l2, l3] st S I J Q = am_T d 120 17 [l0, some (.int x0), l2, l3] (.int x0 :: st) S I J Q := tr_iload_n (m := 1) (by decide +kernel) rfl
theorem r120_17 : am_T d 120 17 [l0, l1, some (.int x0), l3] st S I J Q = am_T d 120 18 [l0, l1, some (.int x0), l3] (.int x0 :: st) S I J Q := tr_iload_n (m := 2) (by decide +kernel) rfl
theorem r120_18 : am_T d 120 18 ls (.int x1 :: .int x0 :: st) S I J Q = if x0 = x1 then am_T d 120 21 ls st S I J Q else am_T d 120 24 ls st S I J Q := tr_icmpne (o := 6) (by decide +kernel) rfl
theorem r120_21 : am_T d 120 21 ls st S I J Q = am_T d 120 23 ls (.int (-101) :: st) S I J Q := tr_bipush (m := -101) (by decide +kernel) (by decide)
theorem r120_23 : am_T d 120 23 ls [.int x0] S I J Q = Q (some (.int x0)) S I J := tr_ireti (by decide +kernel) (by decide +kernel)
theorem r120_24 : am_T d 120 24 [l0, l1, l2, some (.int x0)] st S I J Q = am_T d 120 25 [l0, l1, l2, some (.int x0)] (.int x0 :: st) S I J Q := tr_iload_n (m := 3) (by decide +kernel) rfl
theorem r120_25 : am_T d 120 25 ls st S I J Q = am_T d 120 26 ls (.int 0 :: st) S I J Q := tr_iconst (m := 0) (by decide +kernel) (by decide)
theorem r120_26 : am_T d 120 26 ls st S I J Q = am_T d 120 28 ls (.int 99 :: st) S I J Q := tr_bipush (m := 99) (by decide +kernel) (by decide)
theorem r120_28 : am_T d 120 28 ls [.int x2, .int x1, .int x0] S I J Q = am_C d 112 [.int x0, .int x1, .int x2] S I J (fun r S I J => am_T d 120 31 ls (am_psh r []) S I J Q) := tr_stat (k := 60) (by decide +kernel) (Or.inl (by decide +kernel)) (Nat.le_of_ble_eq_true rfl) rfl rfl (Nat.le_of_ble_eq_true rfl)
theorem r120_31 : am_T d 120 31 ls (.int x0 :: st) S I J Q = if x0 = 0 then am_T d 120 34 ls st S I J Q else am_T d 120 37 ls st S I J Q := tr_ifne (o := 6) (by decide +kernel) rfl
theorem r120_34 : am_T d 120 34 ls st S I J Q = am_T d 120 36 ls (.int (-103) :: st) S I J Q := tr_bipush (m := -103) (by decide +kernel) (by decide)
theorem r120_36 : am_T d 120 36 ls [.int x0] S I J Q = Q (some (.int x0)) S I J := tr_ireti (by decide +kernel) (by decide +kernel)
theorem r120_37 : am_T d 120 37 [some (.ref a0), l1, l2, l3] st S I J Q = am_T d 120 38 [some (.ref a0), l1, l2, l3] (.ref a0 :: st) S I J Q := tr_aload_n (m := 0) (by decide +kernel) rfl
theorem r120_38 : am_T d 120 38 ls (.ref a0 :: st) S I J Q = ((am_is S a0 9 ∧ am_rf S a0 0 ≠ 0) ∧ am_T d 120 41 ls (.ref (am_rf S a0 0) :: st) S I J Q) := tr_geta (k := 7) (by decide +kernel) (by decide +kernel) (by decide +kernel)
theorem r120_41 : am_T d 120 41 ls st S I J Q = am_T d 120 42 ls (.int 2 :: st) S I J Q := tr_iconst (m := 2) (by decide +kernel) (by decide)
theorem r120_42 : am_T d 120 42 ls (.int x0 :: .ref a0 :: st) S I J Q = (am_ix S a0 20 x0 ∧ am_T d 120 43 ls (.int (I a0 x0.toNatClampNeg) :: st) S I J Q) := tr_iald (by decide +kernel)
theorem r120_43 : am_T d 120 43 ls st S I J Q = am_T d 120 45 ls (.int 32 :: st) S I J Q := tr_bipush (m := 32) (by decide +kernel) (by decide)
theorem r120_45 : am_T d 120 45 ls (.int x1 :: .int x0 :: st) S I J Q = if x0 = x1 then am_T d 120 48 ls st S I J Q else am_T d 120 51 ls st S I J Q := tr_icmpne (o := 6) (by decide +kernel) rfl
theorem r120_48 : am_T d 120 48 ls st S I J Q = am_T d 120 50 ls (.int (-104) :: st) S I J Q := tr_bipush (m := -104) (by decide +kernel) (by decide)
theorem r120_50 : am_T d 120 50 ls [.int x0] S I J Q = Q (some (.int x0)) S I J := tr_ireti (by decide +kernel) (by decide +kernel)
theorem r120_51 : am_T d 120 51 [some (.ref a0), l1, l2, l3] st S I J Q = am_T d 120 52 [some (.ref a0), l1, l2, l3] (.ref a0 :: st) S I J Q := tr_aload_n (m := 0) (by decide +kernel) rfl
theorem r120_52 : am_T d 120 52 ls [.ref a0] S I J Q = (am_is S a0 9 ∧ am_C d 116 [.ref a0] S I J (fun r S I J => am_T d 120 55 ls (am_psh r []) S I J Q)) := tr_virt (k := 71) (by decide +kernel) (by decide +kernel) rfl rfl (Nat.le_of_ble_eq_true rfl) (by decide +kernel)
theorem r120_55 : am_T d 120 55 [some (.ref a0), l1, l2, l3] st S I J Q = am_T d 120 56 [some (.ref a0), l1, l2, l3] (.ref a0 :: st) S I J Q := tr_aload_n (m := 0) (by decide +kernel) rfl
theorem r120_56 : am_T d 120 56 [l0, some (.int x0), l2, l3] st S I J Q = am_T d 120 57 [l0, some (.int x0), l2, l3] (.int x0 :: st) S I J Q := tr_iload_n (m := 1) (by decide +kernel) rfl
theorem r120_57 : am_T d 120 57 [l0, l1, some (.int x0), l3] st S I J Q = am_T d 120 58 [l0, l1, some (.int x0), l3] (.int x0 :: st) S I J Q := tr_iload_n (m := 2) (by decide +kernel) rfl
theorem r120_58 : am_T d 120 58 [l0, l1, l2, some (.int x0)] st S I J Q = am_T d 120 59 [l0, l1, l2, some (.int x0)] (.int x0 :: st) S I J Q := tr_iload_n (m := 3) (by decide +kernel) rfl
theorem r120_59 : am_T d 120 59 ls [.int x3, .int x2, .int x1, .ref a0] S I J Q = (am_is S a0 9 ∧ am_C d 119 [.ref a0, .int x1, .int x2, .int x3] S I J (fun r S I J => am_T d 120 62 ls (am_psh r []) S I J Q)) := tr_virt (k := 78) (by decide +kernel) (by decide +kernel) rfl rfl (Nat.le_of_ble_eq_true rfl) (by decide +kernel)
theorem r120_62 : am_T d 120 62 [some (.ref a0), l1, l2, l3] st S I J Q = am_T d 120 63 [some (.ref a0), l1, l2, l3] (.ref a0 :: st) S I J Q := tr_aload_n (m := 0) (by decide +kernel) rfl
theorem r120_63 : am_T d 120 63 [some (.ref a0), l1, l2, l3] st S I J Q = am_T d 120 64 [some (.ref a0), l1, l2, l3] (.ref a0 :: st) S I J Q := tr_aload_n (m := 0) (by decide +kernel) rfl
theorem r120_64 : am_T d 120 64 ls (.ref a0 :: st) S I J Q = ((am_is S a0 9 ∧ am_rf S a0 0 ≠ 0) ∧ am_T d 120 67 ls (.ref (am_rf S a0 0) :: st) S I J Q) := tr_geta (k := 7) (by decide +kernel) (by decide +kernel) (by decide +kernel)
theorem r120_67 : am_T d 120 67 ls st S I J Q = am_T d 120 69 ls (.int 107 :: st) S I J Q := tr_bipush (m := 107) (by decide +kernel) (by decide)
theorem r120_69 : am_T d 120 69 ls (.int x0 :: .ref a0 :: st) S I J Q = (am_ix S a0 20 x0 ∧ am_T d 120 70 ls (.int (I a0 x0.toNatClampNeg) :: st) S I J Q) := tr_iald (by decide +kernel)
theorem r120_70 : am_T d 120 70 ls st S I J Q = am_T d 120 71 ls (.int 1 :: st) S I J Q := tr_iconst (m := 1) (by decide +kernel) (by decide)
theorem r120_71 : am_T d 120 71 ls (.int x1 :: .int x0 :: st) S I J Q = if x0 = x1 then am_T d 120 74 ls st S I J Q else am_T d 120 93 ls st S I J Q := tr_icmpne (o := 22) (by decide +kernel) rfl
theorem r120_74 : am_T d 120 74 [some (.ref a0), l1, l2, l3] st S I J Q = am_T d 120 75 [some (.ref a0), l1, l2, l3] (.ref a0 :: st) S I J Q := tr_aload_n (m := 0) (by decide +kernel) rfl
theorem r120_75 : am_T d 120 75 [some (.ref a0), l1, l2, l3] st S I J Q = am_T d 120 76 [some (.ref a0), l1, l2, l3] (.ref a0 :: st) S I J Q := tr_aload_n (m := 0) (by decide +kernel) rfl
theorem r120_76 : am_T d 120 76 ls (.ref a0 :: st) S I J Q = ((am_is S a0 9 ∧ am_rf S a0 0 ≠ 0) ∧ am_T d 120 79 ls (.ref (am_rf S a0 0) :: st) S I J Q) := tr_geta (k := 7) (by decide +kernel) (by decide +kernel) (by decide +kernel)
theorem r120_79 : am_T d 120 79 ls st S I J Q = am_T d 120 80 ls (.int 2 :: st) S I J Q := tr_iconst (m := 2) (by decide +kernel) (by decide)
theorem r120_80 : am_T d 120 80 ls (.int x0 :: .ref a0 :: st) S I J Q = (am_ix S a0 20 x0 ∧ am_T d 120 81 ls (.int (I a0 x0.toNatClampNeg) :: st) S I J Q) := tr_iald (by decide +kernel)
theorem r120_81 : am_T d 120 81 ls st S I J Q = am_T d 120 82 ls (.int 1 :: st) S I J Q := tr_iconst (m := 1) (by decide +kernel) (by decide)
theorem r120_82 : am_T d 120 82 ls (.int x1 :: .int x0 :: st) S I J Q = am_T d 120 83 ls (.int (x0 - x1) :: st) S I J Q := tr_isub (by decide +kernel)
theorem r120_83 : am_T d 120 83 ls [.int x1, .ref a0, .ref a10] S I J Q = (am_is S a0 9 ∧ am_C d 153 [.ref a0, .int x1] S I J (fun r S I J => am_T d 120 86 ls (am_psh r [.ref a10]) S I J Q)) := tr_virt (k := 82) (by decide +kernel) (by decide +kernel) rfl rfl (Nat.le_of_ble_eq_true rfl) (by decide +kernel)
theorem r120_86 : am_T d 120 86 ls (.int x0 :: st) S I J Q = if x0 < 0 then am_T d 120 93 ls st S I J Q else am_T d 120 89 ls st S I J Q := tr_iflt (o := 7) (by decide +kernel) rfl
theorem r120_89 : am_T d 120 89 ls st S I J Q = am_T d 120 90 ls (.int 1 :: st) S I J Q := tr_iconst (m := 1) (by decide +kernel) (by decide)
theorem r120_90 : am_T d 120 90 ls st S I J Q = am_T d 120 94 ls st S I J Q := tr_goto (o := 4) (by decide +kernel) rfl
theorem r120_93 : am_T d 120 93 ls st S I J Q = am_T d 120 94 ls (.int 0 :: st) S I J Q := tr_iconst (m := 0) (by decide +kernel) (by decide)
theorem r120_94 : am_T d 120 94 ls [.int x1, .ref a0] S I J Q = (am_is S a0 9 ∧ am_C d 117 [.ref a0, .int x1] S I J (fun r S I J => am_T d 120 97 ls (am_psh r []) S I J Q)) := tr_virt (k := 86) (by decide +kernel) (by decide +kernel) rfl rfl (Nat.le_of_ble_eq_true rfl) (by decide +kernel)
theorem r120_97 : am_T d 120 97 [some (.ref a0), l1, l2, l3] st S I J Q = am_T d 120 98 [some (.ref a0), l1, l2, l3] (.ref a0 :: st) S I J Q := tr_aload_n (m := 0) (by decide +kernel) rfl
theorem r120_98 : am_T d 120 98 ls (.ref a0 :: st) S I J Q = ((am_is S a0 9 ∧ am_rf S a0 0 ≠ 0) ∧ am_T d 120 101 ls (.ref (am_rf S a0 0) :: st) S I J Q) := tr_geta (k := 7) (by decide +kernel) (by decide +kernel) (by decide +kernel)
theorem r120_101 : am_T d 120 101 ls st S I J Q = am_T d 120 102 ls (.int 2 :: st) S I J Q := tr_iconst (m := 2) (by decide +kernel) (by decide)
theorem r120_102 : am_T d 120 102 ls (.int x0 :: .ref a0 :: st) S I J Q = (am_ix S a0 20 x0 ∧ am_T d 120 103 ls (.int (I a0 x0.toNatClampNeg) :: st) S I J Q) := tr_iald (by decide +kernel)
theorem r120_103 : am_T d 120 103 ls st S I J Q = am_T d 120 104 ls (.int 1 :: st) S I J Q := tr_iconst (m := 1) (by decide +kernel) (by decide)
theorem r120_104 : am_T d 120 104 ls (.int x1 :: .int x0 :: st) S I J Q = am_T d 120 105 ls (.int (x0 - x1) :: st) S I J Q := tr_isub (by decide +kernel)
theorem r120_105 : am_T d 120 105 ls [.int x0] S I J Q = Q (some (.int x0)) S I J := tr_ireti (by decide +kernel) (by decide +kernel)
-- 121 Mod.isInTree(I)Z; heads [4]
theorem e121 : am_C (d + 1) 121 [.ref a0, .int x1] S I J Q = am_T d 121 0 [some (.ref a0), some (.int x1), none, none] [] S I J Q := tr_en (Nat.le_of_ble_eq_true rfl) rfl
theorem r121_0 : am_T d 121 0 ls st S I J Q = am_T d 121 1 ls (.int 0 :: st) S I J Q := tr_iconst (m := 0) (by decide +kernel) (by decide)
theorem r121_1 : am_T d 121 1 [l0, l1, l2, l3] (.int x0 :: st) S I J Q = am_T d 121 2 [l0, am_clr l1, some (.int x0), l3] st S I J Q := tr_istore_n (m := 2) (by decide +kernel) (Nat.le_of_ble_eq_true rfl) rfl
theorem r121_2 : am_T d 121 2 ls st S I J Q = am_T d 121 3 ls (.int 0 :: st) S I J Q := tr_iconst (m := 0) (by decide +kernel) (by decide)
theorem r121_3 : am_T d 121 3 [l0, l1, l2, l3] (.int x0 :: st) S I J Q = am_T d 121 4 [l0, l1, am_clr l2, some (.int x0)] st S I J Q := tr_istore_n (m := 3) (by decide +kernel) (Nat.le_of_ble_eq_true rfl) rfl
theorem r121_4 : am_T d 121 4 [l0, l1, l2, some (.int x0)] st S I J Q = am_T d 121 5 [l0, l1, l2, some (.int x0)] (.int x0 :: st) S I J Q := tr_iload_n (m := 3) (by decide +kernel) rfl
theorem r121_5 : am_T d 121 5 [some (.ref a0), l1, l2, l3] st S I J Q = am_T d 121 6 [some (.ref a0), l1, l2, l3] (.ref a0 :: st) S I J Q := tr_aload_n (m := 0) (by decide +kernel) rfl
theorem r121_6 : am_T d 121 6 ls (.ref a0 :: st) S I J Q = ((am_is S a0 9 ∧ am_rf S a0 0 ≠ 0) ∧ am_T d 121 9 ls (.ref (am_rf S a0 0) :: st) S I J Q) := tr_geta (k := 7) (by decide +kernel) (by decide +kernel) (by decide +kernel)
theorem r121_9 : am_T d 121 9 ls st S I J Q = am_T d 121 10 ls (.int 0 :: st) S I J Q := tr_iconst (m := 0) (by decide +kernel) (by decide)
theorem r121_10 : am_T d 121 10 ls (.int x0 :: .ref a0 :: st) S I J Q = (am_ix S a0 20 x0 ∧ am_T d 121 11 ls (.int (I a0 x0.toNatClampNeg) :: st) S I J Q) := tr_iald (by decide +kernel)
theorem r121_11 : am_T d 121 11 ls (.int x1 :: .int x0 :: st) S I J Q = if x1 ≤ x0 then am_T d 121 42 ls st S I J Q else am_T d 121 14 ls st S I J Q := tr_icmpge (o := 31) (by decide +kernel) rfl
theorem r121_14 : am_T d 121 14 [l0, l1, some (.int x0), l3] st S I J Q = am_T d 121 15 [l0, l1, some (.int x0), l3] (.int x0 :: st) S I J Q := tr_iload_n (m := 2) (by decide +kernel) rfl
theorem r121_15 : am_T d 121 15 [some (.ref a0), l1, l2, l3] st S I J Q = am_T d 121 16 [some (.ref a0), l1, l2, l3] (.ref a0 :: st) S I J Q := tr_aload_n (m := 0) (by decide +kernel) rfl
theorem r121_16 : am_T d 121 16 ls (.ref a0 :: st) S I J Q = ((am_is S a0 9 ∧ am_rf S a0 0 ≠ 0) ∧ am_T d 121 19 ls (.ref (am_rf S a0 0) :: st) S I J Q) := tr_geta (k := 7) (by decide +kernel) (by decide +kernel) (by decide +kernel)
theorem r121_19 : am_T d 121 19 ls st S I J Q = am_T d 121 22 ls (.int 157 :: st) S I J Q := tr_sipush (m := 157) (by decide +kernel) (by decide)
theorem r121_22 : am_T d 121 22 [l0, l1, l2, some (.int x0)] st S I J Q = am_T d 121 23 [l0, l1, l2, some (.int x0)] (.int x0 :: st) S I J Q := tr_iload_n (m := 3) (by decide +kernel) rfl
theorem r121_23 : am_T d 121 23 ls (.int x1 :: .int x0 :: st) S I J Q = am_T d 121 24 ls (.int (x0 + x1) :: st) S I J Q := tr_iadd (by decide +kernel)
theorem r121_24 : am_T d 121 24 ls (.int x0 :: .ref a0 :: st) S I J Q = (am_ix S a0 20 x0 ∧ am_T d 121 25 ls (.int (I a0 x0.toNatClampNeg) :: st) S I J Q) := tr_iald (by decide +kernel)
theorem r121_25 : am_T d 121 25 [l0, some (.int x0), l2, l3] st S I J Q = am_T d 121 26 [l0, some (.int x0), l2, l3] (.int x0 :: st) S I J Q := tr_iload_n (m := 1) (by decide +kernel) rfl
theorem r121_26 : am_T d 121 26 ls (.int x1 :: .int x0 :: st) S I J Q = if x0 = x1 then am_T d 121 29 ls st S I J Q else am_T d 121 33 ls st S I J Q := tr_icmpne (o := 7) (by decide +kernel) rfl
theorem r121_29 : am_T d 121 29 ls st S I J Q = am_T d 121 30 ls (.int 1 :: st) S I J Q := tr_iconst (m := 1) (by decide +kernel) (by decide)
theorem r121_30 : am_T d 121 30 ls st S I J Q = am_T d 121 34 ls st S I J Q := tr_goto (o := 4) (by decide +kernel) rfl
theorem r121_33 : am_T d 121 33 ls st S I J Q = am_T d 121 34 ls (.int 0 :: st) S I J Q := tr_iconst (m := 0) (by decide +kernel) (by decide)
theorem r121_34 : am_T d 121 34 ls (.int x1 :: .int x0 :: st) S I J Q = am_T d 121 35 ls (.int (x0 ||| x1) :: st) S I J Q := tr_ior (by decide +kernel)
theorem r121_35 : am_T d 121 35 [l0, l1, l2, l3] (.int x0 :: st) S I J Q = am_T d 121 36 [l0, am_clr l1, some (.int x0), l3] st S I J Q := tr_istore_n (m := 2) (by decide +kernel) (Nat.le_of_ble_eq_true rfl) rfl
theorem r121_36 : am_T d 121 36 [l0, l1, l2, some (.int x0)] st S I J Q = am_T d 121 39 [l0, l1, am_clr l2, some (.int (x0 + 1))] st S I J Q := tr_iinc (k := 3) (m := 1) (by decide +kernel) rfl (Nat.le_of_ble_eq_true rfl) (by decide) rfl
theorem r121_39 : am_T d 121 39 ls st S I J Q = am_T d 121 4 ls st S I J Q := tr_goto (o := -35) (by decide +kernel) rfl
theorem r121_42 : am_T d 121 42 [l0, l1, some (.int x0), l3] st S I J Q = am_T d 121 43 [l0, l1, some (.int x0), l3] (.int x0 :: st) S I J Q := tr_iload_n (m := 2) (by decide +kernel) rfl
theorem r121_43 : am_T d 121 43 ls [.int x0] S I J Q = ((x0 = 0 ∨ x0 = 1) ∧ Q (some (.int x0)) S I J) := tr_iretz (by decide +kernel) (by decide +kernel)
-- 122 Mod.removeArc(I)I; heads [55, 131]
theorem e122 : am_C (d + 1) 122 [.ref a0, .int x1] S I J Q = am_T d 122 0 [some (.ref a0), some (.int x1), none] [] S I J Q := tr_en (Nat.le_of_ble_eq_true rfl) rfl
theorem r122_0 : am_T d 122 0 [some (.ref a0), l1, l2] st S I J Q = am_T d 122 1 [some (.ref a0), l1, l2] (.ref a0 :: st) S I J Q := tr_aload_n (m := 0) (by decide +kernel) rfl
theorem r122_1 : am_T d 122 1 [l0, some (.int x0), l2] st S I J Q = am_T d 122 2 [l0, some (.int x0), l2] (.int x0 :: st) S I J Q := tr_iload_n (m := 1) (by decide +kernel) rfl
theorem r122_2 : am_T d 122 2 ls [.int x1, .ref a0] S I J Q = (am_is S a0 9 ∧ am_C d 114 [.ref a0, .int x1] S I J (fun r S I J => am_T d 122 5 ls (am_psh r []) S I J Q)) := tr_virt (k := 90) (by decide +kernel) (by decide +kernel) rfl rfl (Nat.le_of_ble_eq_true rfl) (by decide +kernel)
theorem r122_5 : am_T d 122 5 ls (.int x0 :: st) S I J Q = if x0 = 0 then am_T d 122 8 ls st S I J Q else am_T d 122 11 ls st S I J Q := tr_ifne (o := 6) (by decide +kernel) rfl
theorem r122_8 : am_T d 122 8 ls st S I J Q = am_T d 122 10 ls (.int (-102) :: st) S I J Q := tr_bipush (m := -102) (by decide +kernel) (by decide)
theorem r122_10 : am_T d 122 10 ls [.int x0] S I J Q = Q (some (.int x0)) S I J := tr_ireti (by decide +kernel) (by decide +kernel)
theorem r122_11 : am_T d 122 11 [some (.ref a0), l1, l2] st S I J Q = am_T d 122 12 [some (.ref a0), l1, l2] (.ref a0 :: st) S I J Q := tr_aload_n (m := 0) (by decide +kernel) rfl
theorem r122_12 : am_T d 122 12 ls [.ref a0] S I J Q = (am_is S a0 9 ∧ am_C d 116 [.ref a0] S I J (fun r S I J => am_T d 122 15 ls (am_psh r []) S I J Q)) := tr_virt (k := 71) (by decide +kernel) (by decide +kernel) rfl rfl (Nat.le_of_ble_eq_true rfl) (by decide +kernel)
theorem r122_15 : am_T d 122 15 [some (.ref a0), l1, l2] st S I J Q = am_T d 122 16 [some (.ref a0), l1, l2] (.ref a0 :: st) S I J Q := tr_aload_n (m := 0) (by decide +kernel) rfl
theorem r122_16 : am_T d 122 16 [some (.ref a0), l1, l2] st S I J Q = am_T d 122 17 [some (.ref a0), l1, l2] (.ref a0 :: st) S I J Q := tr_aload_n (m := 0) (by decide +kernel) rfl
theorem r122_17 : am_T d 122 17 ls (.ref a0 :: st) S I J Q = ((am_is S a0 9 ∧ am_rf S a0 0 ≠ 0) ∧ am_T d 122 20 ls (.ref (am_rf S a0 0) :: st) S I J Q) := tr_geta (k := 7) (by decide +kernel) (by decide +kernel) (by decide +kernel)
theorem r122_20 : am_T d 122 20 ls st S I J Q = am_T d 122 22 ls (.int 107 :: st) S I J Q := tr_bipush (m := 107) (by decide +kernel) (by decide)
theorem r122_22 : am_T d 122 22 ls (.int x0 :: .ref a0 :: st) S I J Q = (am_ix S a0 20 x0 ∧ am_T d 122 23 ls (.int (I a0 x0.toNatClampNeg) :: st) S I J Q) := tr_iald (by decide +kernel)
theorem r122_23 : am_T d 122 23 ls st S I J Q = am_T d 122 24 ls (.int 1 :: st) S I J Q := tr_iconst (m := 1) (by decide +kernel) (by decide)
theorem r122_24 : am_T d 122 24 ls (.int x1 :: .int x0 :: st) S I J Q = if x0 = x1 then am_T d 122 27 ls st S I J Q else am_T d 122 39 ls st S I J Q := tr_icmpne (o := 15) (by decide +kernel) rfl
theorem r122_27 : am_T d 122 27 [some (.ref a0), l1, l2] st S I J Q = am_T d 122 28 [some (.ref a0), l1, l2] (.ref a0 :: st) S I J Q := tr_aload_n (m := 0) (by decide +kernel) rfl
theorem r122_28 : am_T d 122 28 [l0, some (.int x0), l2] st S I J Q = am_T d 122 29 [l0, some (.int x0), l2] (.int x0 :: st) S I J Q := tr_iload_n (m := 1) (by decide +kernel) rfl
theorem r122_29 : am_T d 122 29 ls [.int x1, .ref a0, .ref a10] S I J Q = (am_is S a0 9 ∧ am_C d 121 [.ref a0, .int x1] S I J (fun r S I J => am_T d 122 32 ls (am_psh r [.ref a10]) S I J Q)) := tr_virt (k := 93) (by decide +kernel) (by decide +kernel) rfl rfl (Nat.le_of_ble_eq_true rfl) (by decide +kernel)
theorem r122_32 : am_T d 122 32 ls (.int x0 :: st) S I J Q = if x0 = 0 then am_T d 122 35 ls st S I J Q else am_T d 122 39 ls st S I J Q := tr_ifne (o := 7) (by decide +kernel) rfl
theorem r122_35 : am_T d 122 35 ls st S I J Q = am_T d 122 36 ls (.int 1 :: st) S I J Q := tr_iconst (m := 1) (by decide +kernel) (by decide)
theorem r122_36 : am_T d 122 36 ls st S I J Q = am_T d 122 40 ls st S I J Q := tr_goto (o := 4) (by decide +kernel) rfl
theorem r122_39 : am_T d 122 39 ls st S I J Q = am_T d 122 40 ls (.int 0 :: st) S I J Q := tr_iconst (m := 0) (by decide +kernel) (by decide)
theorem r122_40 : am_T d 122 40 ls [.int x1, .ref a0] S I J Q = (am_is S a0 9 ∧ am_C d 117 [.ref a0, .int x1] S I J (fun r S I J => am_T d 122 43 ls (am_psh r []) S I J Q)) := tr_virt (k := 86) (by decide +kernel) (by decide +kernel) rfl rfl (Nat.le_of_ble_eq_true rfl) (by decide +kernel)
theorem r122_43 : am_T d 122 43 [some (.ref a0), l1, l2] st S I J Q = am_T d 122 44 [some (.ref a0), l1, l2] (.ref a0 :: st) S I J Q := tr_aload_n (m := 0) (by decide +kernel) rfl
theorem r122_44 : am_T d 122 44 ls (.ref a0 :: st) S I J Q = ((am_is S a0 9 ∧ am_rf S a0 0 ≠ 0) ∧ am_T d 122 47 ls (.ref (am_rf S a0 0) :: st) S I J Q) := tr_geta (k := 7) (by decide +kernel) (by decide +kernel) (by decide +kernel)
theorem r122_47 : am_T d 122 47 ls st S I J Q = am_T d 122 48 ls (.int 2 :: st) S I J Q := tr_iconst (m := 2) (by decide +kernel) (by decide)
theorem r122_48 : am_T d 122 48 ls (.int x0 :: .ref a0 :: st) S I J Q = am_T d 122 49 ls (.int x0 :: .ref a0 :: .int x0 :: .ref a0 :: st) S I J Q := tr_dup2 (by decide +kernel)
theorem r122_49 : am_T d 122 49 ls (.int x0 :: .ref a0 :: st) S I J Q = (am_ix S a0 20 x0 ∧ am_T d 122 50 ls (.int (I a0 x0.toNatClampNeg) :: st) S I J Q) := tr_iald (by decide +kernel)
theorem r122_50 : am_T d 122 50 ls st S I J Q = am_T d 122 51 ls (.int 1 :: st) S I J Q := tr_iconst (m := 1) (by decide +kernel) (by decide)
theorem r122_51 : am_T d 122 51 ls (.int x1 :: .int x0 :: st) S I J Q = am_T d 122 52 ls (.int (x0 - x1) :: st) S I J Q := tr_isub (by decide +kernel)
theorem r122_52 : am_T d 122 52 ls (.int x1 :: .int x0 :: .ref a0 :: st) S I J Q = (am_ixw S a0 20 x0 ∧ am_T d 122 53 ls st S (am_up I a0 x0.toNatClampNeg x1) J Q) := tr_iast (by decide +kernel)
theorem r122_53 : am_T d 122 53 [l0, some (.int x0), l2] st S I J Q = am_T d 122 54 [l0, some (.int x0), l2] (.int x0 :: st) S I J Q := tr_iload_n (m := 1) (by decide +kernel) rfl
theorem r122_54 : am_T d 122 54 [l0, l1, l2] (.int x0 :: st) S I J Q = am_T d 122 55 [l0, am_clr l1, some (.int x0)] st S I J Q := tr_istore_n (m := 2) (by decide +kernel) (Nat.le_of_ble_eq_true rfl) rfl
theorem r122_55 : am_T d 122 55 [l0, l1, some (.int x0)] st S I J Q = am_T d 122 56 [l0, l1, some (.int x0)] (.int x0 :: st) S I J Q := tr_iload_n (m := 2) (by decide +kernel) rfl
theorem r122_56 : am_T d 122 56 [some (.ref a0), l1, l2] st S I J Q = am_T d 122 57 [some (.ref a0), l1, l2] (.ref a0 :: st) S I J Q := tr_aload_n (m := 0) (by decide +kernel) rfl
theorem r122_57 : am_T d 122 57 ls (.ref a0 :: st) S I J Q = ((am_is S a0 9 ∧ am_rf S a0 0 ≠ 0) ∧ am_T d 122 60 ls (.ref (am_rf S a0 0) :: st) S I J Q) := tr_geta (k := 7) (by decide +kernel) (by decide +kernel) (by decide +kernel)
theorem r122_60 : am_T d 122 60 ls st S I J Q = am_T d 122 61 ls (.int 2 :: st) S I J Q := tr_iconst (m := 2) (by decide +kernel) (by decide)
theorem r122_61 : am_T d 122 61 ls (.int x0 :: .ref a0 :: st) S I J Q = (am_ix S a0 20 x0 ∧ am_T d 122 62 ls (.int (I a0 x0.toNatClampNeg) :: st) S I J Q) := tr_iald (by decide +kernel)
theorem r122_62 : am_T d 122 62 ls (.int x1 :: .int x0 :: st) S I J Q = if x1 ≤ x0 then am_T d 122 129 ls st S I J Q else am_T d 122 65 ls st S I J Q := tr_icmpge (o := 67) (by decide +kernel) rfl
theorem r122_65 : am_T d 122 65 [some (.ref a0), l1, l2] st S I J Q = am_T d 122 66 [some (.ref a0), l1, l2] (.ref a0 :: st) S I J Q := tr_aload_n (m := 0) (by decide +kernel) rfl
theorem r122_66 : am_T d 122 66 ls (.ref a0 :: st) S I J Q = ((am_is S a0 9 ∧ am_rf S a0 0 ≠ 0) ∧ am_T d 122 69 ls (.ref (am_rf S a0 0) :: st) S I J Q) := tr_geta (k := 7) (by decide +kernel) (by decide +kernel) (by decide +kernel)
theorem r122_69 : am_T d 122 69 ls st S I J Q = am_T d 122 70 ls (.int 3 :: st) S I J Q := tr_iconst (m := 3) (by decide +kernel) (by decide)
theorem r122_70 : am_T d 122 70 [l0, l1, some (.int x0)] st S I J Q = am_T d 122 71 [l0, l1, some (.int x0)] (.int x0 :: st) S I J Q := tr_iload_n (m := 2) (by decide +kernel) rfl
theorem r122_71 : am_T d 122 71 ls (.int x1 :: .int x0 :: st) S I J Q = am_T d 122 72 ls (.int (x0 + x1) :: st) S I J Q := tr_iadd (by decide +kernel)
theorem r122_72 : am_T d 122 72 [some (.ref a0), l1, l2] st S I J Q = am_T d 122 73 [some (.ref a0), l1, l2] (.ref a0 :: st) S I J Q := tr_aload_n (m := 0) (by decide +kernel) rfl
theorem r122_73 : am_T d 122 73 ls (.ref a0 :: st) S I J Q = ((am_is S a0 9 ∧ am_rf S a0 0 ≠ 0) ∧ am_T d 122 76 ls (.ref (am_rf S a0 0) :: st) S I J Q) := tr_geta (k := 7) (by decide +kernel) (by decide +kernel) (by decide +kernel)
theorem r122_76 : am_T d 122 76 ls st S I J Q = am_T d 122 77 ls (.int 3 :: st) S I J Q := tr_iconst (m := 3) (by decide +kernel) (by decide)
theorem r122_77 : am_T d 122 77 [l0, l1, some (.int x0)] st S I J Q = am_T d 122 78 [l0, l1, some (.int x0)] (.int x0 :: st) S I J Q := tr_iload_n (m := 2) (by decide +kernel) rfl
theorem r122_78 : am_T d 122 78 ls (.int x1 :: .int x0 :: st) S I J Q = am_T d 122 79 ls (.int (x0 + x1) :: st) S I J Q := tr_iadd (by decide +kernel)
theorem r122_79 : am_T d 122 79 ls st S I J Q = am_T d 122 80 ls (.int 1 :: st) S I J Q := tr_iconst (m := 1) (by decide +kernel) (by decide)
theorem r122_80 : am_T d 122 80 ls (.int x1 :: .int x0 :: st) S I J Q = am_T d 122 81 ls (.int (x0 + x1) :: st) S I J Q := tr_iadd (by decide +kernel)
theorem r122_81 : am_T d 122 81 ls (.int x0 :: .ref a0 :: st) S I J Q = (am_ix S a0 20 x0 ∧ am_T d 122 82 ls (.int (I a0 x0.toNatClampNeg) :: st) S I J Q) := tr_iald (by decide +kernel)
theorem r122_82 : am_T d 122 82 ls (.int x1 :: .int x0 :: .ref a0 :: st) S I J Q = (am_ixw S a0 20 x0 ∧ am_T d 122 83 ls st S (am_up I a0 x0.toNatClampNeg x1) J Q) := tr_iast (by decide +kernel)
theorem r122_83 : am_T d 122 83 [some (.ref a0), l1, l2] st S I J Q = am_T d 122 84 [some (.ref a0), l1, l2] (.ref a0 :: st) S I J Q := tr_aload_n (m := 0) (by decide +kernel) rfl
theorem r122_84 : am_T d 122 84 ls (.ref a0 :: st) S I J Q = ((am_is S a0 9 ∧ am_rf S a0 0 ≠ 0) ∧ am_T d 122 87 ls (.ref (am_rf S a0 0) :: st) S I J Q) := tr_geta (k := 7) (by decide +kernel) (by decide +kernel) (by decide +kernel)
theorem r122_87 : am_T d 122 87 ls st S I J Q = am_T d 122 89 ls (.int 35 :: st) S I J Q := tr_bipush (m := 35) (by decide +kernel) (by decide)
theorem r122_89 : am_T d 122 89 [l0, l1, some (.int x0)] st S I J Q = am_T d 122 90 [l0, l1, some (.int x0)] (.int x0 :: st) S I J Q := tr_iload_n (m := 2) (by decide +kernel) rfl
theorem r122_90 : am_T d 122 90 ls (.int x1 :: .int x0 :: st) S I J Q = am_T d 122 91 ls (.int (x0 + x1) :: st) S I J Q := tr_iadd (by decide +kernel)
theorem r122_91 : am_T d 122 91 [some (.ref a0), l1, l2] st S I J Q = am_T d 122 92 [some (.ref a0), l1, l2] (.ref a0 :: st) S I J Q := tr_aload_n (m := 0) (by decide +kernel) rfl
theorem r122_92 : am_T d 122 92 ls (.ref a0 :: st) S I J Q = ((am_is S a0 9 ∧ am_rf S a0 0 ≠ 0) ∧ am_T d 122 95 ls (.ref (am_rf S a0 0) :: st) S I J Q) := tr_geta (k := 7) (by decide +kernel) (by decide +kernel) (by decide +kernel)
theorem r122_95 : am_T d 122 95 ls st S I J Q = am_T d 122 97 ls (.int 35 :: st) S I J Q := tr_bipush (m := 35) (by decide +kernel) (by decide)
theorem r122_97 : am_T d 122 97 [l0, l1, some (.int x0)] st S I J Q = am_T d 122 98 [l0, l1, some (.int x0)] (.int x0 :: st) S I J Q := tr_iload_n (m := 2) (by decide +kernel) rfl
theorem r122_98 : am_T d 122 98 ls (.int x1 :: .int x0 :: st) S I J Q = am_T d 122 99 ls (.int (x0 + x1) :: st) S I J Q := tr_iadd (by decide +kernel)
theorem r122_99 : am_T d 122 99 ls st S I J Q = am_T d 122 100 ls (.int 1 :: st) S I J Q := tr_iconst (m := 1) (by decide +kernel) (by decide)
theorem r122_100 : am_T d 122 100 ls (.int x1 :: .int x0 :: st) S I J Q = am_T d 122 101 ls (.int (x0 + x1) :: st) S I J Q := tr_iadd (by decide +kernel)
theorem r122_101 : am_T d 122 101 ls (.int x0 :: .ref a0 :: st) S I J Q = (am_ix S a0 20 x0 ∧ am_T d 122 102 ls (.int (I a0 x0.toNatClampNeg) :: st) S I J Q) := tr_iald (by decide +kernel)
theorem r122_102 : am_T d 122 102 ls (.int x1 :: .int x0 :: .ref a0 :: st) S I J Q = (am_ixw S a0 20 x0 ∧ am_T d 122 103 ls st S (am_up I a0 x0.toNatClampNeg x1) J Q) := tr_iast (by decide +kernel)
theorem r122_103 : am_T d 122 103 [some (.ref a0), l1, l2] st S I J Q = am_T d 122 104 [some (.ref a0), l1, l2] (.ref a0 :: st) S I J Q := tr_aload_n (m := 0) (by decide +kernel) rfl
theorem r122_104 : am_T d 122 104 ls (.ref a0 :: st) S I J Q = ((am_is S a0 9 ∧ am_rf S a0 0 ≠ 0) ∧ am_T d 122 107 ls (.ref (am_rf S a0 0) :: st) S I J Q) := tr_geta (k := 7) (by decide +kernel) (by decide +kernel) (by decide +kernel)
theorem r122_107 : am_T d 122 107 ls st S I J Q = am_T d 122 109 ls (.int 67 :: st) S I J Q := tr_bipush (m := 67) (by decide +kernel) (by decide)
theorem r122_109 : am_T d 122 109 [l0, l1, some (.int x0)] st S I J Q = am_T d 122 110 [l0, l1, some (.int x0)] (.int x0 :: st) S I J Q := tr_iload_n (m := 2) (by decide +kernel) rfl
theorem r122_110 : am_T d 122 110 ls (.int x1 :: .int x0 :: st) S I J Q = am_T d 122 111 ls (.int (x0 + x1) :: st) S I J Q := tr_iadd (by decide +kernel)
theorem r122_111 : am_T d 122 111 [some (.ref a0), l1, l2] st S I J Q = am_T d 122 112 [some (.ref a0), l1, l2] (.ref a0 :: st) S I J Q := tr_aload_n (m := 0) (by decide +kernel) rfl
theorem r122_112 : am_T d 122 112 ls (.ref a0 :: st) S I J Q = ((am_is S a0 9 ∧ am_rf S a0 0 ≠ 0) ∧ am_T d 122 115 ls (.ref (am_rf S a0 0) :: st) S I J Q) := tr_geta (k := 7) (by decide +kernel) (by decide +kernel) (by decide +kernel)
theorem r122_115 : am_T d 122 115 ls st S I J Q = am_T d 122 117 ls (.int 67 :: st) S I J Q := tr_bipush (m := 67) (by decide +kernel) (by decide)
theorem r122_117 : am_T d 122 117 [l0, l1, some (.int x0)] st S I J Q = am_T d 122 118 [l0, l1, some (.int x0)] (.int x0 :: st) S I J Q := tr_iload_n (m := 2) (by decide +kernel) rfl
theorem r122_118 : am_T d 122 118 ls (.int x1 :: .int x0 :: st) S I J Q = am_T d 122 119 ls (.int (x0 + x1) :: st) S I J Q := tr_iadd (by decide +kernel)
theorem r122_119 : am_T d 122 119 ls st S I J Q = am_T d 122 120 ls (.int 1 :: st) S I J Q := tr_iconst (m := 1) (by decide +kernel) (by decide)
theorem r122_120 : am_T d 122 120 ls (.int x1 :: .int x0 :: st) S I J Q = am_T d 122 121 ls (.int (x0 + x1) :: st) S I J Q := tr_iadd (by decide +kernel)
theorem r122_121 : am_T d 122 121 ls (.int x0 :: .ref a0 :: st) S I J Q = (am_ix S a0 20 x0 ∧ am_T d 122 122 ls (.int (I a0 x0.toNatClampNeg) :: st) S I J Q) := tr_iald (by decide +kernel)
theorem r122_122 : am_T d 122 122 ls (.int x1 :: .int x0 :: .ref a0 :: st) S I J Q = (am_ixw S a0 20 x0 ∧ am_T d 122 123 ls st S (am_up I a0 x0.toNatClampNeg x1) J Q) := tr_iast (by decide +kernel)
theorem r122_123 : am_T d 122 123 [l0, l1, some (.int x0)] st S I J Q = am_T d 122 126 [l0, am_clr l1, some (.int (x0 + 1))] st S I J Q := tr_iinc (k := 2) (m := 1) (by decide +kernel) rfl (Nat.le_of_ble_eq_true rfl) (by decide) rfl
theorem r122_126 : am_T d 122 126 ls st S I J Q = am_T d 122 55 ls st S I J Q := tr_goto (o := -71) (by decide +kernel) rfl
theorem r122_129 : am_T d 122 129 ls st S I J Q = am_T d 122 130 ls (.int 0 :: st) S I J Q := tr_iconst (m := 0) (by decide +kernel) (by decide)
theorem r122_130 : am_T d 122 130 [l0, l1, l2] (.int x0 :: st) S I J Q = am_T d 122 131 [l0, am_clr l1, some (.int x0)] st S I J Q := tr_istore_n (m := 2) (by decide +kernel) (Nat.le_of_ble_eq_true rfl) rfl
theorem r122_131 : am_T d 122 131 [l0, l1, some (.int x0)] st S I J Q = am_T d 122 132 [l0, l1, some (.int x0)] (.int x0 :: st) S I J Q := tr_iload_n (m := 2) (by decide +kernel) rfl
theorem r122_132 : am_T d 122 132 ls st S I J Q = am_T d 122 134 ls (.int 8 :: st) S I J Q := tr_bipush (m := 8) (by decide +kernel) (by decide)
theorem r122_134 : am_T d 122 134 ls (.int x1 :: .int x0 :: st) S I J Q = if x1 ≤ x0 then am_T d 122 175 ls st S I J Q else am_T d 122 137 ls st S I J Q := tr_icmpge (o := 41) (by decide +kernel) rfl
theorem r122_137 : am_T d 122 137 [some (.ref a0), l1, l2] st S I J Q = am_T d 122 138 [some (.ref a0), l1, l2] (.ref a0 :: st) S I J Q := tr_aload_n (m := 0) (by decide +kernel) rfl
theorem r122_138 : am_T d 122 138 ls (.ref a0 :: st) S I J Q = ((am_is S a0 9 ∧ am_rf S a0 0 ≠ 0) ∧ am_T d 122 141 ls (.ref (am_rf S a0 0) :: st) S I J Q) := tr_geta (k := 7) (by decide +kernel) (by decide +kernel) (by decide +kernel)
theorem r122_141 : am_T d 122 141 ls st S I J Q = am_T d 122 144 ls (.int 157 :: st) S I J Q := tr_sipush (m := 157) (by decide +kernel) (by decide)
theorem r122_144 : am_T d 122 144 [l0, l1, some (.int x0)] st S I J Q = am_T d 122 145 [l0, l1, some (.int x0)] (.int x0 :: st) S I J Q := tr_iload_n (m := 2) (by decide +kernel) rfl
theorem r122_145 : am_T d 122 145 ls (.int x1 :: .int x0 :: st) S I J Q = am_T d 122 146 ls (.int (x0 + x1) :: st) S I J Q := tr_iadd (by decide +kernel)
theorem r122_146 : am_T d 122 146 ls (.int x0 :: .ref a0 :: st) S I J Q = am_T d 122 147 ls (.int x0 :: .ref a0 :: .int x0 :: .ref a0 :: st) S I J Q := tr_dup2 (by decide +kernel)
theorem r122_147 : am_T d 122 147 ls (.int x0 :: .ref a0 :: st) S I J Q = (am_ix S a0 20 x0 ∧ am_T d 122 148 ls (.int (I a0 x0.toNatClampNeg) :: st) S I J Q) := tr_iald (by decide +kernel)
theorem r122_148 : am_T d 122 148 [some (.ref a0), l1, l2] st S I J Q = am_T d 122 149 [some (.ref a0), l1, l2] (.ref a0 :: st) S I J Q := tr_aload_n (m := 0) (by decide +kernel) rfl
theorem r122_149 : am_T d 122 149 ls (.ref a0 :: st) S I J Q = ((am_is S a0 9 ∧ am_rf S a0 0 ≠ 0) ∧ am_T d 122 152 ls (.ref (am_rf S a0 0) :: st) S I J Q) := tr_geta (k := 7) (by decide +kernel) (by decide +kernel) (by decide +kernel)
theorem r122_152 : am_T d 122 152 ls st S I J Q = am_T d 122 155 ls (.int 157 :: st) S I J Q := tr_sipush (m := 157) (by decide +kernel) (by decide)
theorem r122_155 : am_T d 122 155 [l0, l1, some (.int x0)] st S I J Q = am_T d 122 156 [l0, l1, some (.int x0)] (.int x0 :: st) S I J Q := tr_iload_n (m := 2) (by decide +kernel) rfl
theorem r122_156 : am_T d 122 156 ls (.int x1 :: .int x0 :: st) S I J Q = am_T d 122 157 ls (.int (x0 + x1) :: st) S I J Q := tr_iadd (by decide +kernel)
theorem r122_157 : am_T d 122 157 ls (.int x0 :: .ref a0 :: st) S I J Q = (am_ix S a0 20 x0 ∧ am_T d 122 158 ls (.int (I a0 x0.toNatClampNeg) :: st) S I J Q) := tr_iald (by decide +kernel)
theorem r122_158 : am_T d 122 158 [l0, some (.int x0), l2] st S I J Q = am_T d 122 159 [l0, some (.int x0), l2] (.int x0 :: st) S I J Q := tr_iload_n (m := 1) (by decide +kernel) rfl
theorem r122_159 : am_T d 122 159 ls (.int x1 :: .int x0 :: st) S I J Q = if x0 ≤ x1 then am_T d 122 166 ls st S I J Q else am_T d 122 162 ls st S I J Q := tr_icmple (o := 7) (by decide +kernel) rfl
theorem r122_162 : am_T d 122 162 ls st S I J Q = am_T d 122 163 ls (.int 1 :: st) S I J Q := tr_iconst (m := 1) (by decide +kernel) (by decide)
theorem r122_163 : am_T d 122 163 ls st S I J Q = am_T d 122 167 ls st S I J Q := tr_goto (o := 4) (by decide +kernel) rfl
theorem r122_166 : am_T d 122 166 ls st S I J Q = am_T d 122 167 ls (.int 0 :: st) S I J Q := tr_iconst (m := 0) (by decide +kernel) (by decide)
theorem r122_167 : am_T d 122 167 ls (.int x1 :: .int x0 :: st) S I J Q = am_T d 122 168 ls (.int (x0 - x1) :: st) S I J Q := tr_isub (by decide +kernel)
theorem r122_168 : am_T d 122 168 ls (.int x1 :: .int x0 :: .ref a0 :: st) S I J Q = (am_ixw S a0 20 x0 ∧ am_T d 122 169 ls st S (am_up I a0 x0.toNatClampNeg x1) J Q) := tr_iast (by decide +kernel)
theorem r122_169 : am_T d 122 169 [l0, l1, some (.int x0)] st S I J Q = am_T d 122 172 [l0, am_clr l1, some (.int (x0 + 1))] st S I J Q := tr_iinc (k := 2) (m := 1) (by decide +kernel) rfl (Nat.le_of_ble_eq_true rfl) (by decide) rfl
theorem r122_172 : am_T d 122 172 ls st S I J Q = am_T d 122 131 ls st S I J Q := tr_goto (o := -41) (by decide +kernel) rfl
theorem r122_175 : am_T d 122 175 [some (.ref a0), l1, l2] st S I J Q = am_T d 122 176 [some (.ref a0), l1, l2] (.ref a0 :: st) S I J Q := tr_aload_n (m := 0) (by decide +kernel) rfl
theorem r122_176 : am_T d 122 176 ls (.ref a0 :: st) S I J Q = ((am_is S a0 9 ∧ am_rf S a0 0 ≠ 0) ∧ am_T d 122 179 ls (.ref (am_rf S a0 0) :: st) S I J Q) := tr_geta (k := 7) (by decide +kernel) (by decide +kernel) (by decide +kernel)
theorem r122_179 : am_T d 122 179 ls st S I J Q = am_T d 122 180 ls (.int 2 :: st) S I J Q := tr_iconst (m := 2) (by decide +kernel) (by decide)
theorem r122_180 : am_T d 122 180 ls (.int x0 :: .ref a0 :: st) S I J Q = (am_ix S a0 20 x0 ∧ am_T d 122 181 ls (.int (I a0 x0.toNatClampNeg) :: st) S I J Q) := tr_iald (by decide +kernel)
theorem r122_181 : am_T d 122 181 ls [.int x0] S I J Q = Q (some (.int x0)) S I J := tr_ireti (by decide +kernel) (by decide +kernel)
-- 123 Mod.setCost(II)I; heads [105]
theorem e123 : am_C (d + 1) 123 [.ref a0, .int x1, .int x2] S I J Q = am_T d 123 0 [some (.ref a0), some (.int x1), some (.int x2), none, none, none] [] S I J Q := tr_en (Nat.le_of_ble_eq_true rfl) rfl
theorem r123_0 : am_T d 123 0 [some (.ref a0), l1, l2, l3, l4, l5] st S I J Q = am_T d 123 1 [some (.ref a0), l1, l2, l3, l4, l5] (.ref a0 :: st) S I J Q := tr_aload_n (m := 0) (by decide +kernel) rfl
theorem r123_1 : am_T d 123 1 [l0, some (.int x0), l2, l3, l4, l5] st S I J Q = am_T d 123 2 [l0, some (.int x0), l2, l3, l4, l5] (.int x0 :: st) S I J Q := tr_iload_n (m := 1) (by decide +kernel) rfl
theorem r123_2 : am_T d 123 2 ls [.int x1, .ref a0] S I J Q = (am_is S a0 9 ∧ am_C d 114 [.ref a0, .int x1] S I J (fun r S I J => am_T d 123 5 ls (am_psh r []) S I J Q)) := tr_virt (k := 90) (by decide +kernel) (by decide +kernel) rfl rfl (Nat.le_of_ble_eq_true rfl) (by decide +kernel)
theorem r123_5 : am_T d 123 5 ls (.int x0 :: st) S I J Q = if x0 = 0 then am_T d 123 8 ls st S I J Q else am_T d 123 11 ls st S I J Q := tr_ifne (o := 6) (by decide +kernel) rfl
theorem r123_8 : am_T d 123 8 ls st S I J Q = am_T d 123 10 ls (.int (-102) :: st) S I J Q := tr_bipush (m := -102) (by decide +kernel) (by decide)
theorem r123_10 : am_T d 123 10 ls [.int x0] S I J Q = Q (some (.int x0)) S I J := tr_ireti (by decide +kernel) (by decide +kernel)
theorem r123_11 : am_T d 123 11 [l0, l1, some (.int x0), l3, l4, l5] st S I J Q = am_T d 123 12 [l0, l1, some (.int x0), l3, l4, l5] (.int x0 :: st) S I J Q := tr_iload_n (m := 2) (by decide +kernel) rfl
theorem r123_12 : am_T d 123 12 ls st S I J Q = am_T d 123 13 ls (.int 0 :: st) S I J Q := tr_iconst (m := 0) (by decide +kernel) (by decide)
theorem r123_13 : am_T d 123 13 ls st S I J Q = am_T d 123 15 ls (.int 99 :: st) S I J Q := tr_bipush (m := 99) (by decide +kernel) (by decide)
theorem r123_15 : am_T d 123 15 ls [.int x2, .int x1, .int x0] S I J Q = am_C d 112 [.int x0, .int x1, .int x2] S I J (fun r S I J => am_T d 123 18 ls (am_psh r []) S I J Q) := tr_stat (k := 60) (by decide +kernel) (Or.inl (by decide +kernel)) (Nat.le_of_ble_eq_true rfl) rfl rfl (Nat.le_of_ble_eq_true rfl)
theorem r123_18 : am_T d 123 18 ls (.int x0 :: st) S I J Q = if x0 = 0 then am_T d 123 21 ls st S I J Q else am_T d 123 24 ls st S I J Q := tr_ifne (o := 6) (by decide +kernel) rfl
theorem r123_21 : am_T d 123 21 ls st S I J Q = am_T d 123 23 ls (.int (-103) :: st) S I J Q := tr_bipush (m := -103) (by decide +kernel) (by decide)
theorem r123_23 : am_T d 123 23 ls [.int x0] S I J Q = Q (some (.int x0)) S I J := tr_ireti (by decide +kernel) (by decide +kernel)
theorem r123_24 : am_T d 123 24 [some (.ref a0), l1, l2, l3, l4, l5] st S I J Q = am_T d 123 25 [some (.ref a0), l1, l2, l3, l4, l5] (.ref a0 :: st) S I J Q := tr_aload_n (m := 0) (by decide +kernel) rfl
theorem r123_25 : am_T d 123 25 ls [.ref a0] S I J Q = (am_is S a0 9 ∧ am_C d 116 [.ref a0] S I J (fun r S I J => am_T d 123 28 ls (am_psh r []) S I J Q)) := tr_virt (k := 71) (by decide +kernel) (by decide +kernel) rfl rfl (Nat.le_of_ble_eq_true rfl) (by decide +kernel)
theorem r123_28 : am_T d 123 28 [some (.ref a0), l1, l2, l3, l4, l5] st S I J Q = am_T d 123 29 [some (.ref a0), l1, l2, l3, l4, l5] (.ref a0 :: st) S I J Q := tr_aload_n (m := 0) (by decide +kernel) rfl
theorem r123_29 : am_T d 123 29 ls (.ref a0 :: st) S I J Q = ((am_is S a0 9 ∧ am_rf S a0 0 ≠ 0) ∧ am_T d 123 32 ls (.ref (am_rf S a0 0) :: st) S I J Q) := tr_geta (k := 7) (by decide +kernel) (by decide +kernel) (by decide +kernel)
theorem r123_32 : am_T d 123 32 ls st S I J Q = am_T d 123 34 ls (.int 67 :: st) S I J Q := tr_bipush (m := 67) (by decide +kernel) (by decide)
theorem r123_34 : am_T d 123 34 [l0, some (.int x0), l2, l3, l4, l5] st S I J Q = am_T d 123 35 [l0, some (.int x0), l2, l3, l4, l5] (.int x0 :: st) S I J Q := tr_iload_n (m := 1) (by decide +kernel) rfl
theorem r123_35 : am_T d 123 35 ls (.int x1 :: .int x0 :: st) S I J Q = am_T d 123 36 ls (.int (x0 + x1) :: st) S I J Q := tr_iadd (by decide +kernel)
theorem r123_36 : am_T d 123 36 ls (.int x0 :: .ref a0 :: st) S I J Q = (am_ix S a0 20 x0 ∧ am_T d 123 37 ls (.int (I a0 x0.toNatClampNeg) :: st) S I J Q) := tr_iald (by decide +kernel)
theorem r123_37 : am_T d 123 37 [l0, l1, l2, l3, l4, l5] (.int x0 :: st) S I J Q = am_T d 123 38 [l0, l1, am_clr l2, some (.int x0), l4, l5] st S I J Q := tr_istore_n (m := 3) (by decide +kernel) (Nat.le_of_ble_eq_true rfl) rfl
theorem r123_38 : am_T d 123 38 [some (.ref a0), l1, l2, l3, l4, l5] st S I J Q = am_T d 123 39 [some (.ref a0), l1, l2, l3, l4, l5] (.ref a0 :: st) S I J Q := tr_aload_n (m := 0) (by decide +kernel) rfl
theorem r123_39 : am_T d 123 39 ls (.ref a0 :: st) S I J Q = ((am_is S a0 9 ∧ am_rf S a0 0 ≠ 0) ∧ am_T d 123 42 ls (.ref (am_rf S a0 0) :: st) S I J Q) := tr_geta (k := 7) (by decide +kernel) (by decide +kernel) (by decide +kernel)
theorem r123_42 : am_T d 123 42 ls st S I J Q = am_T d 123 44 ls (.int 67 :: st) S I J Q := tr_bipush (m := 67) (by decide +kernel) (by decide)
theorem r123_44 : am_T d 123 44 [l0, some (.int x0), l2, l3, l4, l5] st S I J Q = am_T d 123 45 [l0, some (.int x0), l2, l3, l4, l5] (.int x0 :: st) S I J Q := tr_iload_n (m := 1) (by decide +kernel) rfl
theorem r123_45 : am_T d 123 45 ls (.int x1 :: .int x0 :: st) S I J Q = am_T d 123 46 ls (.int (x0 + x1) :: st) S I J Q := tr_iadd (by decide +kernel)
theorem r123_46 : am_T d 123 46 [l0, l1, some (.int x0), l3, l4, l5] st S I J Q = am_T d 123 47 [l0, l1, some (.int x0), l3, l4, l5] (.int x0 :: st) S I J Q := tr_iload_n (m := 2) (by decide +kernel) rfl
theorem r123_47 : am_T d 123 47 ls (.int x1 :: .int x0 :: .ref a0 :: st) S I J Q = (am_ixw S a0 20 x0 ∧ am_T d 123 48 ls st S (am_up I a0 x0.toNatClampNeg x1) J Q) := tr_iast (by decide +kernel)
theorem r123_48 : am_T d 123 48 [some (.ref a0), l1, l2, l3, l4, l5] st S I J Q = am_T d 123 49 [some (.ref a0), l1, l2, l3, l4, l5] (.ref a0 :: st) S I J Q := tr_aload_n (m := 0) (by decide +kernel) rfl
theorem r123_49 : am_T d 123 49 ls (.ref a0 :: st) S I J Q = ((am_is S a0 9 ∧ am_rf S a0 0 ≠ 0) ∧ am_T d 123 52 ls (.ref (am_rf S a0 0) :: st) S I J Q) := tr_geta (k := 7) (by decide +kernel) (by decide +kernel) (by decide +kernel)
theorem r123_52 : am_T d 123 52 ls st S I J Q = am_T d 123 54 ls (.int 107 :: st) S I J Q := tr_bipush (m := 107) (by decide +kernel) (by decide)
theorem r123_54 : am_T d 123 54 ls (.int x0 :: .ref a0 :: st) S I J Q = (am_ix S a0 20 x0 ∧ am_T d 123 55 ls (.int (I a0 x0.toNatClampNeg) :: st) S I J Q) := tr_iald (by decide +kernel)
theorem r123_55 : am_T d 123 55 ls st S I J Q = am_T d 123 56 ls (.int 1 :: st) S I J Q := tr_iconst (m := 1) (by decide +kernel) (by decide)
theorem r123_56 : am_T d 123 56 ls (.int x1 :: .int x0 :: st) S I J Q = if x0 = x1 then am_T d 123 59 ls st S I J Q else am_T d 123 63 ls st S I J Q := tr_icmpne (o := 7) (by decide +kernel) rfl
theorem r123_59 : am_T d 123 59 ls st S I J Q = am_T d 123 60 ls (.int 1 :: st) S I J Q := tr_iconst (m := 1) (by decide +kernel) (by decide)
theorem r123_60 : am_T d 123 60 ls st S I J Q = am_T d 123 64 ls st S I J Q := tr_goto (o := 4) (by decide +kernel) rfl
theorem r123_63 : am_T d 123 63 ls st S I J Q = am_T d 123 64 ls (.int 0 :: st) S I J Q := tr_iconst (m := 0) (by decide +kernel) (by decide)
theorem r123_64 : am_T d 123 64 [l0, l1, l2, l3, l4, l5] (.int x0 :: st) S I J Q = am_T d 123 66 [l0, l1, l2, am_clr l3, some (.int x0), l5] st S I J Q := tr_istore (k := 4) (by decide +kernel) (Nat.le_of_ble_eq_true rfl) rfl
theorem r123_66 : am_T d 123 66 [l0, l1, l2, l3, some (.int x0), l5] st S I J Q = am_T d 123 68 [l0, l1, l2, l3, some (.int x0), l5] (.int x0 :: st) S I J Q := tr_iload (k := 4) (by decide +kernel) rfl
theorem r123_68 : am_T d 123 68 ls (.int x0 :: st) S I J Q = if x0 = 0 then am_T d 123 172 ls st S I J Q else am_T d 123 71 ls st S I J Q := tr_ifeq (o := 104) (by decide +kernel) rfl
theorem r123_71 : am_T d 123 71 [some (.ref a0), l1, l2, l3, l4, l5] st S I J Q = am_T d 123 72 [some (.ref a0), l1, l2, l3, l4, l5] (.ref a0 :: st) S I J Q := tr_aload_n (m := 0) (by decide +kernel) rfl
theorem r123_72 : am_T d 123 72 [l0, some (.int x0), l2, l3, l4, l5] st S I J Q = am_T d 123 73 [l0, some (.int x0), l2, l3, l4, l5] (.int x0 :: st) S I J Q := tr_iload_n (m := 1) (by decide +kernel) rfl
theorem r123_73 : am_T d 123 73 ls [.int x1, .ref a0] S I J Q = (am_is S a0 9 ∧ am_C d 121 [.ref a0, .int x1] S I J (fun r S I J => am_T d 123 76 ls (am_psh r []) S I J Q)) := tr_virt (k := 93) (by decide +kernel) (by decide +kernel) rfl rfl (Nat.le_of_ble_eq_true rfl) (by decide +kernel)
theorem r123_76 : am_T d 123 76 ls (.int x0 :: st) S I J Q = if x0 = 0 then am_T d 123 172 ls st S I J Q else am_T d 123 79 ls st S I J Q := tr_ifeq (o := 96) (by decide +kernel) rfl
theorem r123_79 : am_T d 123 79 [some (.ref a0), l1, l2, l3, l4, l5] st S I J Q = am_T d 123 80 [some (.ref a0), l1, l2, l3, l4, l5] (.ref a0 :: st) S I J Q := tr_aload_n (m := 0) (by decide +kernel) rfl
theorem r123_80 : am_T d 123 80 ls (.ref a0 :: st) S I J Q = ((am_is S a0 9 ∧ am_rf S a0 0 ≠ 0) ∧ am_T d 123 83 ls (.ref (am_rf S a0 0) :: st) S I J Q) := tr_geta (k := 7) (by decide +kernel) (by decide +kernel) (by decide +kernel)
theorem r123_83 : am_T d 123 83 ls st S I J Q = am_T d 123 85 ls (.int 125 :: st) S I J Q := tr_bipush (m := 125) (by decide +kernel) (by decide)
theorem r123_85 : am_T d 123 85 [some (.ref a0), l1, l2, l3, l4, l5] st S I J Q = am_T d 123 86 [some (.ref a0), l1, l2, l3, l4, l5] (.ref a0 :: st) S I J Q := tr_aload_n (m := 0) (by decide +kernel) rfl
theorem r123_86 : am_T d 123 86 ls (.ref a0 :: st) S I J Q = ((am_is S a0 9 ∧ am_rf S a0 0 ≠ 0) ∧ am_T d 123 89 ls (.ref (am_rf S a0 0) :: st) S I J Q) := tr_geta (k := 7) (by decide +kernel) (by decide +kernel) (by decide +kernel)
theorem r123_89 : am_T d 123 89 ls st S I J Q = am_T d 123 91 ls (.int 35 :: st) S I J Q := tr_bipush (m := 35) (by decide +kernel) (by decide)
theorem r123_91 : am_T d 123 91 [l0, some (.int x0), l2, l3, l4, l5] st S I J Q = am_T d 123 92 [l0, some (.int x0), l2, l3, l4, l5] (.int x0 :: st) S I J Q := tr_iload_n (m := 1) (by decide +kernel) rfl
theorem r123_92 : am_T d 123 92 ls (.int x1 :: .int x0 :: st) S I J Q = am_T d 123 93 ls (.int (x0 + x1) :: st) S I J Q := tr_iadd (by decide +kernel)
theorem r123_93 : am_T d 123 93 ls (.int x0 :: .ref a0 :: st) S I J Q = (am_ix S a0 20 x0 ∧ am_T d 123 94 ls (.int (I a0 x0.toNatClampNeg) :: st) S I J Q) := tr_iald (by decide +kernel)
theorem r123_94 : am_T d 123 94 ls (.int x1 :: .int x0 :: st) S I J Q = am_T d 123 95 ls (.int (x0 + x1) :: st) S I J Q := tr_iadd (by decide +kernel)
theorem r123_95 : am_T d 123 95 ls (.int x0 :: .ref a0 :: st) S I J Q = am_T d 123 96 ls (.int x0 :: .ref a0 :: .int x0 :: .ref a0 :: st) S I J Q := tr_dup2 (by decide +kernel)
theorem r123_96 : am_T d 123 96 ls (.int x0 :: .ref a0 :: st) S I J Q = (am_ix S a0 20 x0 ∧ am_T d 123 97 ls (.int (I a0 x0.toNatClampNeg) :: st) S I J Q) := tr_iald (by decide +kernel)
theorem r123_97 : am_T d 123 97 [l0, l1, some (.int x0), l3, l4, l5] st S I J Q = am_T d 123 98 [l0, l1, some (.int x0), l3, l4, l5] (.int x0 :: st) S I J Q := tr_iload_n (m := 2) (by decide +kernel) rfl
theorem r123_98 : am_T d 123 98 [l0, l1, l2, some (.int x0), l4, l5] st S I J Q = am_T d 123 99 [l0, l1, l2, some (.int x0), l4, l5] (.int x0 :: st) S I J Q := tr_iload_n (m := 3) (by decide +kernel) rfl
theorem r123_99 : am_T d 123 99 ls (.int x1 :: .int x0 :: st) S I J Q = am_T d 123 100 ls (.int (x0 - x1) :: st) S I J Q := tr_isub (by decide +kernel)
theorem r123_100 : am_T d 123 100 ls (.int x1 :: .int x0 :: st) S I J Q = am_T d 123 101 ls (.int (x0 + x1) :: st) S I J Q := tr_iadd (by decide +kernel)
theorem r123_101 : am_T d 123 101 ls (.int x1 :: .int x0 :: .ref a0 :: st) S I J Q = (am_ixw S a0 20 x0 ∧ am_T d 123 102 ls st S (am_up I a0 x0.toNatClampNeg x1) J Q) := tr_iast (by decide +kernel)
theorem r123_102 : am_T d 123 102 ls st S I J Q = am_T d 123 103 ls (.int 0 :: st) S I J Q := tr_iconst (m := 0) (by decide +kernel) (by decide)
theorem r123_103 : am_T d 123 103 [l0, l1, l2, l3, l4, l5] (.int x0 :: st) S I J Q = am_T d 123 105 [l0, l1, l2, l3, am_clr l4, some (.int x0)] st S I J Q := tr_istore (k := 5) (by decide +kernel) (Nat.le_of_ble_eq_true rfl) rfl
theorem r123_105 : am_T d 123 105 [l0, l1, l2, l3, l4, some (.int x0)] st S I J Q = am_T d 123 107 [l0, l1, l2, l3, l4, some (.int x0)] (.int x0 :: st) S I J Q := tr_iload (k := 5) (by decide +kernel) rfl
theorem r123_107 : am_T d 123 107 [some (.ref a0), l1, l2, l3, l4, l5] st S I J Q = am_T d 123 108 [some (.ref a0), l1, l2, l3, l4, l5] (.ref a0 :: st) S I J Q := tr_aload_n (m := 0) (by decide +kernel) rfl
theorem r123_108 : am_T d 123 108 ls (.ref a0 :: st) S I J Q = ((am_is S a0 9 ∧ am_rf S a0 0 ≠ 0) ∧ am_T d 123 111 ls (.ref (am_rf S a0 0) :: st) S I J Q) := tr_geta (k := 7) (by decide +kernel) (by decide +kernel) (by decide +kernel)
theorem r123_111 : am_T d 123 111 ls st S I J Q = am_T d 123 112 ls (.int 2 :: st) S I J Q := tr_iconst (m := 2) (by decide +kernel) (by decide)
theorem r123_112 : am_T d 123 112 ls (.int x0 :: .ref a0 :: st) S I J Q = (am_ix S a0 20 x0 ∧ am_T d 123 113 ls (.int (I a0 x0.toNatClampNeg) :: st) S I J Q) := tr_iald (by decide +kernel)
theorem r123_113 : am_T d 123 113 ls (.int x1 :: .int x0 :: st) S I J Q = if x1 ≤ x0 then am_T d 123 169 ls st S I J Q else am_T d 123 116 ls st S I J Q := tr_icmpge (o := 56) (by decide +kernel) rfl
theorem r123_116 : am_T d 123 116 [l0, l1, l2, l3, some (.int x0), l5] st S I J Q = am_T d 123 118 [l0, l1, l2, l3, some (.int x0), l5] (.int x0 :: st) S I J Q := tr_iload (k := 4) (by decide +kernel) rfl
theorem r123_118 : am_T d 123 118 [l0, l1, l2, l3, l4, some (.int x0)] st S I J Q = am_T d 123 120 [l0, l1, l2, l3, l4, some (.int x0)] (.int x0 :: st) S I J Q := tr_iload (k := 5) (by decide +kernel) rfl
theorem r123_120 : am_T d 123 120 [l0, some (.int x0), l2, l3, l4, l5] st S I J Q = am_T d 123 121 [l0, some (.int x0), l2, l3, l4, l5] (.int x0 :: st) S I J Q := tr_iload_n (m := 1) (by decide +kernel) rfl
theorem r123_121 : am_T d 123 121 ls (.int x1 :: .int x0 :: st) S I J Q = if x0 = x1 then am_T d 123 155 ls st S I J Q else am_T d 123 124 ls st S I J Q := tr_icmpeq (o := 34) (by decide +kernel) rfl
theorem r123_124 : am_T d 123 124 [some (.ref a0), l1, l2, l3, l4, l5] st S I J Q = am_T d 123 125 [some (.ref a0), l1, l2, l3, l4, l5] (.ref a0 :: st) S I J Q := tr_aload_n (m := 0) (by decide +kernel) rfl
theorem r123_125 : am_T d 123 125 ls (.ref a0 :: st) S I J Q = ((am_is S a0 9 ∧ am_rf S a0 0 ≠ 0) ∧ am_T d 123 128 ls (.ref (am_rf S a0 0) :: st) S I J Q) := tr_geta (k := 7) (by decide +kernel) (by decide +kernel) (by decide +kernel)
theorem r123_128 : am_T d 123 128 ls st S I J Q = am_T d 123 130 ls (.int 35 :: st) S I J Q := tr_bipush (m := 35) (by decide +kernel) (by decide)
theorem r123_130 : am_T d 123 130 [l0, l1, l2, l3, l4, some (.int x0)] st S I J Q = am_T d 123 132 [l0, l1, l2, l3, l4, some (.int x0)] (.int x0 :: st) S I J Q := tr_iload (k := 5) (by decide +kernel) rfl
theorem r123_132 : am_T d 123 132 ls (.int x1 :: .int x0 :: st) S I J Q = am_T d 123 133 ls (.int (x0 + x1) :: st) S I J Q := tr_iadd (by decide +kernel)
theorem r123_133 : am_T d 123 133 ls (.int x0 :: .ref a0 :: st) S I J Q = (am_ix S a0 20 x0 ∧ am_T d 123 134 ls (.int (I a0 x0.toNatClampNeg) :: st) S I J Q) := tr_iald (by decide +kernel)
theorem r123_134 : am_T d 123 134 [some (.ref a0), l1, l2, l3, l4, l5] st S I J Q = am_T d 123 135 [some (.ref a0), l1, l2, l3, l4, l5] (.ref a0 :: st) S I J Q := tr_aload_n (m := 0) (by decide +kernel) rfl
theorem r123_135 : am_T d 123 135 ls (.ref a0 :: st) S I J Q = ((am_is S a0 9 ∧ am_rf S a0 0 ≠ 0) ∧ am_T d 123 138 ls (.ref (am_rf S a0 0) :: st) S I J Q) := tr_geta (k := 7) (by decide +kernel) (by decide +kernel) (by decide +kernel)
theorem r123_138 : am_T d 123 138 ls st S I J Q = am_T d 123 140 ls (.int 35 :: st) S I J Q := tr_bipush (m := 35) (by decide +kernel) (by decide)
theorem r123_140 : am_T d 123 140 [l0, some (.int x0), l2, l3, l4, l5] st S I J Q = am_T d 123 141 [l0, some (.int x0), l2, l3, l4, l5] (.int x0 :: st) S I J Q := tr_iload_n (m := 1) (by decide +kernel) rfl
theorem r123_141 : am_T d 123 141 ls (.int x1 :: .int x0 :: st) S I J Q = am_T d 123 142 ls (.int (x0 + x1) :: st) S I J Q := tr_iadd (by decide +kernel)
theorem r123_142 : am_T d 123 142 ls (.int x0 :: .ref a0 :: st) S I J Q = (am_ix S a0 20 x0 ∧ am_T d 123 143 ls (.int (I a0 x0.toNatClampNeg) :: st) S I J Q) := tr_iald (by decide +kernel)
theorem r123_143 : am_T d 123 143 ls (.int x1 :: .int x0 :: st) S I J Q = if x0 = x1 then am_T d 123 146 ls st S I J Q else am_T d 123 155 ls st S I J Q := tr_icmpne (o := 12) (by decide +kernel) rfl
theorem r123_146 : am_T d 123 146 [some (.ref a0), l1, l2, l3, l4, l5] st S I J Q = am_T d 123 147 [some (.ref a0), l1, l2, l3, l4, l5] (.ref a0 :: st) S I J Q := tr_aload_n (m := 0) (by decide +kernel) rfl
theorem r123_147 : am_T d 123 147 [l0, l1, l2, l3, l4, some (.int x0)] st S I J Q = am_T d 123 149 [l0, l1, l2, l3, l4, some (.int x0)] (.int x0 :: st) S I J Q := tr_iload (k := 5) (by decide +kernel) rfl
theorem r123_149 : am_T d 123 149 ls [.int x1, .ref a0, .int x10] S I J Q = (am_is S a0 9 ∧ am_C d 153 [.ref a0, .int x1] S I J (fun r S I J => am_T d 123 152 ls (am_psh r [.int x10]) S I J Q)) := tr_virt (k := 82) (by decide +kernel) (by decide +kernel) rfl rfl (Nat.le_of_ble_eq_true rfl) (by decide +kernel)
theorem r123_152 : am_T d 123 152 ls (.int x0 :: st) S I J Q = if x0 < 0 then am_T d 123 159 ls st S I J Q else am_T d 123 155 ls st S I J Q := tr_iflt (o := 7) (by decide +kernel) rfl
theorem r123_155 : am_T d 123 155 ls st S I J Q = am_T d 123 156 ls (.int 1 :: st) S I J Q := tr_iconst (m := 1) (by decide +kernel) (by decide)
theorem r123_156 : am_T d 123 156 ls st S I J Q = am_T d 123 160 ls st S I J Q := tr_goto (o := 4) (by decide +kernel) rfl
theorem r123_159 : am_T d 123 159 ls st S I J Q = am_T d 123 160 ls (.int 0 :: st) S I J Q := tr_iconst (m := 0) (by decide +kernel) (by decide)
theorem r123_160 : am_T d 123 160 ls (.int x1 :: .int x0 :: st) S I J Q = am_T d 123 161 ls (.int (x0 &&& x1) :: st) S I J Q := tr_iand (by decide +kernel)
theorem r123_161 : am_T d 123 161 [l0, l1, l2, l3, l4, l5] (.int x0 :: st) S I J Q = am_T d 123 163 [l0, l1, l2, am_clr l3, some (.int x0), l5] st S I J Q := tr_istore (k := 4) (by decide +kernel) (Nat.le_of_ble_eq_true rfl) rfl
theorem r123_163 : am_T d 123 163 [l0, l1, l2, l3, l4, some (.int x0)] st S I J Q = am_T d 123 166 [l0, l1, l2, l3, am_clr l4, some (.int (x0 + 1))] st S I J Q := tr_iinc (k := 5) (m := 1) (by decide +kernel) rfl (Nat.le_of_ble_eq_true rfl) (by decide) rfl
theorem r123_166 : am_T d 123 166 ls st S I J Q = am_T d 123 105 ls st S I J Q := tr_goto (o := -61) (by decide +kernel) rfl
theorem r123_169 : am_T d 123 169 ls st S I J Q = am_T d 123 192 ls st S I J Q := tr_goto (o := 23) (by decide +kernel) rfl
theorem r123_172 : am_T d 123 172 [l0, l1, l2, l3, some (.int x0), l5] st S I J Q = am_T d 123 174 [l0, l1, l2, l3, some (.int x0), l5] (.int x0 :: st) S I J Q := tr_iload (k := 4) (by decide +kernel) rfl
theorem r123_174 : am_T d 123 174 ls (.int x0 :: st) S I J Q = if x0 = 0 then am_T d 123 192 ls st S I J Q else am_T d 123 177 ls st S I J Q := tr_ifeq (o := 18) (by decide +kernel) rfl
theorem r123_177 : am_T d 123 177 [some (.ref a0), l1, l2, l3, l4, l5] st S I J Q = am_T d 123 178 [some (.ref a0), l1, l2, l3, l4, l5] (.ref a0 :: st) S I J Q := tr_aload_n (m := 0) (by decide +kernel) rfl
theorem r123_178 : am_T d 123 178 [l0, some (.int x0), l2, l3, l4, l5] st S I J Q = am_T d 123 179 [l0, some (.int x0), l2, l3, l4, l5] (.int x0 :: st) S I J Q := tr_iload_n (m := 1) (by decide +kernel) rfl
theorem r123_179 : am_T d 123 179 ls [.int x1, .ref a0] S I J Q = (am_is S a0 9 ∧ am_C d 153 [.ref a0, .int x1] S I J (fun r S I J => am_T d 123 182 ls (am_psh r []) S I J Q)) := tr_virt (k := 82) (by decide +kernel) (by decide +kernel) rfl rfl (Nat.le_of_ble_eq_true rfl) (by decide +kernel)
theorem r123_182 : am_T d 123 182 ls (.int x0 :: st) S I J Q = if x0 < 0 then am_T d 123 189 ls st S I J Q else am_T d 123 185 ls st S I J Q := tr_iflt (o := 7) (by decide +kernel) rfl
theorem r123_185 : am_T d 123 185 ls st S I J Q = am_T d 123 186 ls (.int 1 :: st) S I J Q := tr_iconst (m := 1) (by decide +kernel) (by decide)
theorem r123_186 : am_T d 123 186 ls st S I J Q = am_T d 123 190 ls st S I J Q := tr_goto (o := 4) (by decide +kernel) rfl
theorem r123_189 : am_T d 123 189 ls st S I J Q = am_T d 123 190 ls (.int 0 :: st) S I J Q := tr_iconst (m := 0) (by decide +kernel) (by decide)
theorem r123_190 : am_T d 123 190 [l0, l1, l2, l3, l4, l5] (.int x0 :: st) S I J Q = am_T d 123 192 [l0, l1, l2, am_clr l3, some (.int x0), l5] st S I J Q := tr_istore (k := 4) (by decide +kernel) (Nat.le_of_ble_eq_true rfl) rfl
theorem r123_192 : am_T d 123 192 [some (.ref a0), l1, l2, l3, l4, l5] st S I J Q = am_T d 123 193 [some (.ref a0), l1, l2, l3, l4, l5] (.ref a0 :: st) S I J Q := tr_aload_n (m := 0) (by decide +kernel) rfl
theorem r123_193 : am_T d 123 193 [l0, l1, l2, l3, some (.int x0), l5] st S I J Q = am_T d 123 195 [l0, l1, l2, l3, some (.int x0), l5] (.int x0 :: st) S I J Q := tr_iload (k := 4) (by decide +kernel) rfl
theorem r123_195 : am_T d 123 195 ls [.int x1, .ref a0] S I J Q = (am_is S a0 9 ∧ am_C d 117 [.ref a0, .int x1] S I J (fun r S I J => am_T d 123 198 ls (am_psh r []) S I J Q)) := tr_virt (k := 86) (by decide +kernel) (by decide +kernel) rfl rfl (Nat.le_of_ble_eq_true rfl) (by decide +kernel)
theorem r123_198 : am_T d 123 198 [l0, l1, l2, some (.int x0), l4, l5] st S I J Q = am_T d 123 199 [l0, l1, l2, some (.int x0), l4, l5] (.int x0 :: st) S I J Q := tr_iload_n (m := 3) (by decide +kernel) rfl
theorem r123_199 : am_T d 123 199 ls [.int x0] S I J Q = Q (some (.int x0)) S I J := tr_ireti (by decide +kernel) (by decide +kernel)
-- 124 Mod.setRoot(I)I; heads []
theorem e124 : am_C (d + 1) 124 [.ref a0, .int x1] S I J Q = am_T d 124 0 [some (.ref a0), some (.int x1), none] [] S I J Q := tr_en (Nat.le_of_ble_eq_true rfl) rfl
theorem r124_0 : am_T d 124 0 [some (.ref a0), l1, l2] st S I J Q = am_T d 124 1 [some (.ref a0), l1, l2] (.ref a0 :: st) S I J Q := tr_aload_n (m := 0) (by decide +kernel) rfl
theorem r124_1 : am_T d 124 1 [l0, some (.int x0), l2] st S I J Q = am_T d 124 2 [l0, some (.int x0), l2] (.int x0 :: st) S I J Q := tr_iload_n (m := 1) (by decide +kernel) rfl
theorem r124_2 : am_T d 124 2 ls [.int x1, .ref a0] S I J Q = (am_is S a0 9 ∧ am_C d 113 [.ref a0, .int x1] S I J (fun r S I J => am_T d 124 5 ls (am_psh r []) S I J Q)) := tr_virt (k := 74) (by decide +kernel) (by decide +kernel) rfl rfl (Nat.le_of_ble_eq_true rfl) (by decide +kernel)
theorem r124_5 : am_T d 124 5 ls (.int x0 :: st) S I J Q = if x0 = 0 then am_T d 124 8 ls st S I J Q else am_T d 124 11 ls st S I J Q := tr_ifne (o := 6) (by decide +kernel) rfl
theorem r124_8 : am_T d 124 8 ls st S I J Q = am_T d 124 10 ls (.int (-101) :: st) S I J Q := tr_bipush (m := -101) (by decide +kernel) (by decide)
theorem r124_10 : am_T d 124 10 ls [.int x0] S I J Q = Q (some (.int x0)) S I J := tr_ireti (by decide +kernel) (by decide +kernel)
theorem r124_11 : am_T d 124 11 [some (.ref a0), l1, l2] st S I J Q = am_T d 124 12 [some (.ref a0), l1, l2] (.ref a0 :: st) S I J Q := tr_aload_n (m := 0) (by decide +kernel) rfl
theorem r124_12 : am_T d 124 12 ls [.ref a0] S I J Q = (am_is S a0 9 ∧ am_C d 116 [.ref a0] S I J (fun r S I J => am_T d 124 15 ls (am_psh r []) S I J Q)) := tr_virt (k := 71) (by decide +kernel) (by decide +kernel) rfl rfl (Nat.le_of_ble_eq_true rfl) (by decide +kernel)
theorem r124_15 : am_T d 124 15 [some (.ref a0), l1, l2] st S I J Q = am_T d 124 16 [some (.ref a0), l1, l2] (.ref a0 :: st) S I J Q := tr_aload_n (m := 0) (by decide +kernel) rfl
theorem r124_16 : am_T d 124 16 ls (.ref a0 :: st) S I J Q = ((am_is S a0 9 ∧ am_rf S a0 0 ≠ 0) ∧ am_T d 124 19 ls (.ref (am_rf S a0 0) :: st) S I J Q) := tr_geta (k := 7) (by decide +kernel) (by decide +kernel) (by decide +kernel)
theorem r124_19 : am_T d 124 19 ls st S I J Q = am_T d 124 20 ls (.int 1 :: st) S I J Q := tr_iconst (m := 1) (by decide +kernel) (by decide)
theorem r124_20 : am_T d 124 20 ls (.int x0 :: .ref a0 :: st) S I J Q = (am_ix S a0 20 x0 ∧ am_T d 124 21 ls (.int (I a0 x0.toNatClampNeg) :: st) S I J Q) := tr_iald (by decide +kernel)
theorem r124_21 : am_T d 124 21 [l0, l1, l2] (.int x0 :: st) S I J Q = am_T d 124 22 [l0, am_clr l1, some (.int x0)] st S I J Q := tr_istore_n (m := 2) (by decide +kernel) (Nat.le_of_ble_eq_true rfl) rfl
theorem r124_22 : am_T d 124 22 [some (.ref a0), l1, l2] st S I J Q = am_T d 124 23 [some (.ref a0), l1, l2] (.ref a0 :: st) S I J Q := tr_aload_n (m := 0) (by decide +kernel) rfl
theorem r124_23 : am_T d 124 23 ls (.ref a0 :: st) S I J Q = ((am_is S a0 9 ∧ am_rf S a0 0 ≠ 0) ∧ am_T d 124 26 ls (.ref (am_rf S a0 0) :: st) S I J Q) := tr_geta (k := 7) (by decide +kernel) (by decide +kernel) (by decide +kernel)
theorem r124_26 : am_T d 124 26 ls st S I J Q = am_T d 124 27 ls (.int 1 :: st) S I J Q := tr_iconst (m := 1) (by decide +kernel) (by decide)
theorem r124_27 : am_T d 124 27 [l0, some (.int x0), l2] st S I J Q = am_T d 124 28 [l0, some (.int x0), l2] (.int x0 :: st) S I J Q := tr_iload_n (m := 1) (by decide +kernel) rfl
theorem r124_28 : am_T d 124 28 ls (.int x1 :: .int x0 :: .ref a0 :: st) S I J Q = (am_ixw S a0 20 x0 ∧ am_T d 124 29 ls st S (am_up I a0 x0.toNatClampNeg x1) J Q) := tr_iast (by decide +kernel)
theorem r124_29 : am_T d 124 29 [some (.ref a0), l1, l2] st S I J Q = am_T d 124 30 [some (.ref a0), l1, l2] (.ref a0 :: st) S I J Q := tr_aload_n (m := 0) (by decide +kernel) rfl
theorem r124_30 : am_T d 124 30 ls st S I J Q = am_T d 124 31 ls (.int 0 :: st) S I J Q := tr_iconst (m := 0) (by decide +kernel) (by decide)
theorem r124_31 : am_T d 124 31 ls [.int x1, .ref a0] S I J Q = (am_is S a0 9 ∧ am_C d 117 [.ref a0, .int x1] S I J (fun r S I J => am_T d 124 34 ls (am_psh r []) S I J Q)) := tr_virt (k := 86) (by decide +kernel) (by decide +kernel) rfl rfl (Nat.le_of_ble_eq_true rfl) (by decide +kernel)
theorem r124_34 : am_T d 124 34 [l0, l1, some (.int x0)] st S I J Q = am_T d 124 35 [l0, l1, some (.int x0)] (.int x0 :: st) S I J Q := tr_iload_n (m := 2) (by decide +kernel) rfl
theorem r124_35 : am_T d 124 35 ls [.int x0] S I J Q = Q (some (.int x0)) S I J := tr_ireti (by decide +kernel) (by decide +kernel)
-- 125 Mod.setLimit(II)I; heads []
theorem e125 : am_C (d + 1) 125 [.ref a0, .int x1, .int x2] S I J Q = am_T d 125 0 [some (.ref a0), some (.int x1), some (.int x2), none] [] S I J Q := tr_en (Nat.le_of_ble_eq_true rfl) rfl
theorem r125_0 : am_T d 125 0 [some (.ref a0), l1, l2, l3] st S I J Q = am_T d 125 1 [some (.ref a0), l1, l2, l3] (.ref a0 :: st) S I J Q := tr_aload_n (m := 0) (by decide +kernel) rfl
theorem r125_1 : am_T d 125 1 [l0, some (.int x0), l2, l3] st S I J Q = am_T d 125 2 [l0, some (.int x0), l2, l3] (.int x0 :: st) S I J Q := tr_iload_n (m := 1) (by decide +kernel) rfl
theorem r125_2 : am_T d 125 2 ls [.int x1, .ref a0] S I J Q = (am_is S a0 9 ∧ am_C d 113 [.ref a0, .int x1] S I J (fun r S I J => am_T d 125 5 ls (am_psh r []) S I J Q)) := tr_virt (k := 74) (by decide +kernel) (by decide +kernel) rfl rfl (Nat.le_of_ble_eq_true rfl) (by decide +kernel)
theorem r125_5 : am_T d 125 5 ls (.int x0 :: st) S I J Q = if x0 = 0 then am_T d 125 8 ls st S I J Q else am_T d 125 11 ls st S I J Q := tr_ifne (o := 6) (by decide +kernel) rfl
theorem r125_8 : am_T d 125 8 ls st S I J Q = am_T d 125 10 ls (.int (-101) :: st) S I J Q := tr_bipush (m := -101) (by decide +kernel) (by decide)
theorem r125_10 : am_T d 125 10 ls [.int x0] S I J Q = Q (some (.int x0)) S I J := tr_ireti (by decide +kernel) (by decide +kernel)
theorem r125_11 : am_T d 125 11 [l0, l1, some (.int x0), l3] st S I J Q = am_T d 125 12 [l0, l1, some (.int x0), l3] (.int x0 :: st) S I J Q := tr_iload_n (m := 2) (by decide +kernel) rfl
theorem r125_12 : am_T d 125 12 ls st S I J Q = am_T d 125 13 ls (.int 0 :: st) S I J Q := tr_iconst (m := 0) (by decide +kernel) (by decide)
theorem r125_13 : am_T d 125 13 ls st S I J Q = am_T d 125 15 ls (.int 7 :: st) S I J Q := tr_bipush (m := 7) (by decide +kernel) (by decide)
theorem r125_15 : am_T d 125 15 ls [.int x2, .int x1, .int x0] S I J Q = am_C d 112 [.int x0, .int x1, .int x2] S I J (fun r S I J => am_T d 125 18 ls (am_psh r []) S I J Q) := tr_stat (k := 60) (by decide +kernel) (Or.inl (by decide +kernel)) (Nat.le_of_ble_eq_true rfl) rfl rfl (Nat.le_of_ble_eq_true rfl)
theorem r125_18 : am_T d 125 18 ls (.int x0 :: st) S I J Q = if x0 = 0 then am_T d 125 21 ls st S I J Q else am_T d 125 24 ls st S I J Q := tr_ifne (o := 6) (by decide +kernel) rfl
theorem r125_21 : am_T d 125 21 ls st S I J Q = am_T d 125 23 ls (.int (-103) :: st) S I J Q := tr_bipush (m := -103) (by decide +kernel) (by decide)
theorem r125_23 : am_T d 125 23 ls [.int x0] S I J Q = Q (some (.int x0)) S I J := tr_ireti (by decide +kernel) (by decide +kernel)
theorem r125_24 : am_T d 125 24 [some (.ref a0), l1, l2, l3] st S I J Q = am_T d 125 25 [some (.ref a0), l1, l2, l3] (.ref a0 :: st) S I J Q := tr_aload_n (m := 0) (by decide +kernel) rfl
theorem r125_25 : am_T d 125 25 ls [.ref a0] S I J Q = (am_is S a0 9 ∧ am_C d 116 [.ref a0] S I J (fun r S I J => am_T d 125 28 ls (am_psh r []) S I J Q)) := tr_virt (k := 71) (by decide +kernel) (by decide +kernel) rfl rfl (Nat.le_of_ble_eq_true rfl) (by decide +kernel)
theorem r125_28 : am_T d 125 28 [some (.ref a0), l1, l2, l3] st S I J Q = am_T d 125 29 [some (.ref a0), l1, l2, l3] (.ref a0 :: st) S I J Q := tr_aload_n (m := 0) (by decide +kernel) rfl
theorem r125_29 : am_T d 125 29 ls (.ref a0 :: st) S I J Q = ((am_is S a0 9 ∧ am_rf S a0 0 ≠ 0) ∧ am_T d 125 32 ls (.ref (am_rf S a0 0) :: st) S I J Q) := tr_geta (k := 7) (by decide +kernel) (by decide +kernel) (by decide +kernel)
theorem r125_32 : am_T d 125 32 ls st S I J Q = am_T d 125 34 ls (.int 99 :: st) S I J Q := tr_bipush (m := 99) (by decide +kernel) (by decide)
theorem r125_34 : am_T d 125 34 [l0, some (.int x0), l2, l3] st S I J Q = am_T d 125 35 [l0, some (.int x0), l2, l3] (.int x0 :: st) S I J Q := tr_iload_n (m := 1) (by decide +kernel) rfl
theorem r125_35 : am_T d 125 35 ls (.int x1 :: .int x0 :: st) S I J Q = am_T d 125 36 ls (.int (x0 + x1) :: st) S I J Q := tr_iadd (by decide +kernel)
theorem r125_36 : am_T d 125 36 ls (.int x0 :: .ref a0 :: st) S I J Q = (am_ix S a0 20 x0 ∧ am_T d 125 37 ls (.int (I a0 x0.toNatClampNeg) :: st) S I J Q) := tr_iald (by decide +kernel)
theorem r125_37 : am_T d 125 37 [l0, l1, l2, l3] (.int x0 :: st) S I J Q = am_T d 125 38 [l0, l1, am_clr l2, some (.int x0)] st S I J Q := tr_istore_n (m := 3) (by decide +kernel) (Nat.le_of_ble_eq_true rfl) rfl
theorem r125_38 : am_T d 125 38 [some (.ref a0), l1, l2, l3] st S I J Q = am_T d 125 39 [some (.ref a0), l1, l2, l3] (.ref a0 :: st) S I J Q := tr_aload_n (m := 0) (by decide +kernel) rfl
theorem r125_39 : am_T d 125 39 ls (.ref a0 :: st) S I J Q = ((am_is S a0 9 ∧ am_rf S a0 0 ≠ 0) ∧ am_T d 125 42 ls (.ref (am_rf S a0 0) :: st) S I J Q) := tr_geta (k := 7) (by decide +kernel) (by decide +kernel) (by decide +kernel)
theorem r125_42 : am_T d 125 42 ls st S I J Q = am_T d 125 44 ls (.int 99 :: st) S I J Q := tr_bipush (m := 99) (by decide +kernel) (by decide)
theorem r125_44 : am_T d 125 44 [l0, some (.int x0), l2, l3] st S I J Q = am_T d 125 45 [l0, some (.int x0), l2, l3] (.int x0 :: st) S I J Q := tr_iload_n (m := 1) (by decide +kernel) rfl
theorem r125_45 : am_T d 125 45 ls (.int x1 :: .int x0 :: st) S I J Q = am_T d 125 46 ls (.int (x0 + x1) :: st) S I J Q := tr_iadd (by decide +kernel)
theorem r125_46 : am_T d 125 46 [l0, l1, some (.int x0), l3] st S I J Q = am_T d 125 47 [l0, l1, some (.int x0), l3] (.int x0 :: st) S I J Q := tr_iload_n (m := 2) (by decide +kernel) rfl
theorem r125_47 : am_T d 125 47 ls (.int x1 :: .int x0 :: .ref a0 :: st) S I J Q = (am_ixw S a0 20 x0 ∧ am_T d 125 48 ls st S (am_up I a0 x0.toNatClampNeg x1) J Q) := tr_iast (by decide +kernel)
theorem r125_48 : am_T d 125 48 [some (.ref a0), l1, l2, l3] st S I J Q = am_T d 125 49 [some (.ref a0), l1, l2, l3] (.ref a0 :: st) S I J Q := tr_aload_n (m := 0) (by decide +kernel) rfl
theorem r125_49 : am_T d 125 49 ls st S I J Q = am_T d 125 50 ls (.int 1 :: st) S I J Q := tr_iconst (m := 1) (by decide +kernel) (by decide)
theorem r125_50 : am_T d 125 50 ls [.int x1, .ref a0] S I J Q = (am_is S a0 9 ∧ am_C d 117 [.ref a0, .int x1] S I J (fun r S I J => am_T d 125 53 ls (am_psh r []) S I J Q)) := tr_virt (k := 86) (by decide +kernel) (by decide +kernel) rfl rfl (Nat.le_of_ble_eq_true rfl) (by decide +kernel)
theorem r125_53 : am_T d 125 53 [l0, l1, l2, some (.int x0)] st S I J Q = am_T d 125 54 [l0, l1, l2, some (.int x0)] (.int x0 :: st) S I J Q := tr_iload_n (m := 3) (by decide +kernel) rfl
theorem r125_54 : am_T d 125 54 ls [.int x0] S I J Q = Q (some (.int x0)) S I J := tr_ireti (by decide +kernel) (by decide +kernel)
-- 126 Mod.drawn(I)I; heads []
theorem e126 : am_C (d + 1) 126 [.ref a0, .int x1] S I J Q = am_T d 126 0 [some (.ref a0), some (.int x1)] [] S I J Q := tr_en (Nat.le_of_ble_eq_true rfl) rfl
theorem r126_0 : am_T d 126 0 [some (.ref a0), l1] st S I J Q = am_T d 126 1 [some (.ref a0), l1] (.ref a0 :: st) S I J Q := tr_aload_n (m := 0) (by decide +kernel) rfl
theorem r126_1 : am_T d 126 1 ls st S I J Q = am_T d 126 4 ls (.long 1103515245 :: st) S I J Q := tr_ldc2 (k := 96) (by decide +kernel) (by decide +kernel)
theorem r126_4 : am_T d 126 4 [some (.ref a0), l1] st S I J Q = am_T d 126 5 [some (.ref a0), l1] (.ref a0 :: st) S I J Q := tr_aload_n (m := 0) (by decide +kernel) rfl
theorem r126_5 : am_T d 126 5 ls (.ref a0 :: st) S I J Q = (am_is S a0 9 ∧ am_T d 126 8 ls (.long (J a0 9) :: st) S I J Q) := tr_getl (k := 98) (by decide +kernel) (by decide +kernel) (by decide +kernel)
theorem r126_8 : am_T d 126 8 ls (.long u1 :: .long u0 :: st) S I J Q = am_T d 126 9 ls (.long (u0 * u1) :: st) S I J Q := tr_lmul (by decide +kernel)
theorem r126_9 : am_T d 126 9 ls st S I J Q = am_T d 126 12 ls (.long 12345 :: st) S I J Q := tr_ldc2 (k := 102) (by decide +kernel) (by decide +kernel)
theorem r126_12 : am_T d 126 12 ls (.long u1 :: .long u0 :: st) S I J Q = am_T d 126 13 ls (.long (u0 + u1) :: st) S I J Q := tr_ladd (by decide +kernel)
theorem r126_13 : am_T d 126 13 ls st S I J Q = am_T d 126 16 ls (.long 2147483648 :: st) S I J Q := tr_ldc2 (k := 104) (by decide +kernel) (by decide +kernel)
theorem r126_16 : am_T d 126 16 ls (.long u1 :: .long u0 :: st) S I J Q = (u1 ≠ 0 ∧ am_T d 126 17 ls (.long (u0 - u0 / u1 * u1) :: st) S I J Q) := tr_lrem (by decide +kernel)
theorem r126_17 : am_T d 126 17 ls (.long u0 :: .ref a0 :: st) S I J Q = (am_is S a0 9 ∧ am_T d 126 20 ls st S I (am_up J a0 9 u0) Q) := tr_putl (k := 98) (by decide +kernel) (by decide +kernel) (by decide +kernel) (by decide +kernel)
theorem r126_20 : am_T d 126 20 [some (.ref a0), l1] st S I J Q = am_T d 126 21 [some (.ref a0), l1] (.ref a0 :: st) S I J Q := tr_aload_n (m := 0) (by decide +kernel) rfl
theorem r126_21 : am_T d 126 21 ls (.ref a0 :: st) S I J Q = (am_is S a0 9 ∧ am_T d 126 24 ls (.long (J a0 9) :: st) S I J Q) := tr_getl (k := 98) (by decide +kernel) (by decide +kernel) (by decide +kernel)
theorem r126_24 : am_T d 126 24 ls st S I J Q = am_T d 126 27 ls (.long 65536 :: st) S I J Q := tr_ldc2 (k := 106) (by decide +kernel) (by decide +kernel)
theorem r126_27 : am_T d 126 27 ls (.long u1 :: .long u0 :: st) S I J Q = (u1 ≠ 0 ∧ am_T d 126 28 ls (.long (u0 / u1) :: st) S I J Q) := tr_ldiv (by decide +kernel)
theorem r126_28 : am_T d 126 28 [l0, some (.int x0)] st S I J Q = am_T d 126 29 [l0, some (.int x0)] (.int x0 :: st) S I J Q := tr_iload_n (m := 1) (by decide +kernel) rfl
theorem r126_29 : am_T d 126 29 ls (.int x0 :: st) S I J Q = am_T d 126 30 ls (.long x0.toInt64 :: st) S I J Q := tr_i2l (by decide +kernel)
theorem r126_30 : am_T d 126 30 ls (.long u1 :: .long u0 :: st) S I J Q = (u1 ≠ 0 ∧ am_T d 126 31 ls (.long (u0 - u0 / u1 * u1) :: st) S I J Q) := tr_lrem (by decide +kernel)
theorem r126_31 : am_T d 126 31 ls (.long u0 :: st) S I J Q = am_T d 126 32 ls (.int u0.toInt32 :: st) S I J Q := tr_l2i (by decide +kernel)
theorem r126_32 : am_T d 126 32 ls [.int x0] S I J Q = Q (some (.int x0)) S I J := tr_ireti (by decide +kernel) (by decide +kernel)
-- 127 Mod.addRandom(II)I; heads [45]
theorem e127 : am_C (d + 1) 127 [.ref a0, .int x1, .int x2] S I J Q = am_T d 127 0 [some (.ref a0), some (.int x1), some (.int x2), none, none, none] [] S I J Q := tr_en (Nat.le_of_ble_eq_true rfl) rfl
theorem r127_0 : am_T d 127 0 [l0, some (.int x0), l2, l3, l4, l5] st S I J Q = am_T d 127 1 [l0, some (.int x0), l2, l3, l4, l5] (.int x0 :: st) S I J Q := tr_iload_n (m := 1) (by decide +kernel) rfl
theorem r127_1 : am_T d 127 1 ls st S I J Q = am_T d 127 2 ls (.int 1 :: st) S I J Q := tr_iconst (m := 1) (by decide +kernel) (by decide)
theorem r127_2 : am_T d 127 2 ls st S I J Q = am_T d 127 4 ls (.int 8 :: st) S I J Q := tr_bipush (m := 8) (by decide +kernel) (by decide)
theorem r127_4 : am_T d 127 4 ls [.int x2, .int x1, .int x0] S I J Q = am_C d 112 [.int x0, .int x1, .int x2] S I J (fun r S I J => am_T d 127 7 ls (am_psh r []) S I J Q) := tr_stat (k := 60) (by decide +kernel) (Or.inl (by decide +kernel)) (Nat.le_of_ble_eq_true rfl) rfl rfl (Nat.le_of_ble_eq_true rfl)
theorem r127_7 : am_T d 127 7 ls (.int x0 :: st) S I J Q = if x0 = 0 then am_T d 127 14 ls st S I J Q else am_T d 127 10 ls st S I J Q := tr_ifeq (o := 7) (by decide +kernel) rfl
theorem r127_10 : am_T d 127 10 [l0, l1, some (.int x0), l3, l4, l5] st S I J Q = am_T d 127 11 [l0, l1, some (.int x0), l3, l4, l5] (.int x0 :: st) S I J Q := tr_iload_n (m := 2) (by decide +kernel) rfl
theorem r127_11 : am_T d 127 11 ls (.int x0 :: st) S I J Q = if 0 ≤ x0 then am_T d 127 17 ls st S I J Q else am_T d 127 14 ls st S I J Q := tr_ifge (o := 6) (by decide +kernel) rfl
theorem r127_14 : am_T d 127 14 ls st S I J Q = am_T d 127 16 ls (.int (-103) :: st) S I J Q := tr_bipush (m := -103) (by decide +kernel) (by decide)
theorem r127_16 : am_T d 127 16 ls [.int x0] S I J Q = Q (some (.int x0)) S I J := tr_ireti (by decide +kernel) (by decide +kernel)
theorem r127_17 : am_T d 127 17 [some (.ref a0), l1, l2, l3, l4, l5] st S I J Q = am_T d 127 18 [some (.ref a0), l1, l2, l3, l4, l5] (.ref a0 :: st) S I J Q := tr_aload_n (m := 0) (by decide +kernel) rfl
theorem r127_18 : am_T d 127 18 ls (.ref a0 :: st) S I J Q = ((am_is S a0 9 ∧ am_rf S a0 0 ≠ 0) ∧ am_T d 127 21 ls (.ref (am_rf S a0 0) :: st) S I J Q) := tr_geta (k := 7) (by decide +kernel) (by decide +kernel) (by decide +kernel)
theorem r127_21 : am_T d 127 21 ls st S I J Q = am_T d 127 22 ls (.int 2 :: st) S I J Q := tr_iconst (m := 2) (by decide +kernel) (by decide)
theorem r127_22 : am_T d 127 22 ls (.int x0 :: .ref a0 :: st) S I J Q = (am_ix S a0 20 x0 ∧ am_T d 127 23 ls (.int (I a0 x0.toNatClampNeg) :: st) S I J Q) := tr_iald (by decide +kernel)
theorem r127_23 : am_T d 127 23 [l0, some (.int x0), l2, l3, l4, l5] st S I J Q = am_T d 127 24 [l0, some (.int x0), l2, l3, l4, l5] (.int x0 :: st) S I J Q := tr_iload_n (m := 1) (by decide +kernel) rfl
theorem r127_24 : am_T d 127 24 ls (.int x1 :: .int x0 :: st) S I J Q = am_T d 127 25 ls (.int (x0 + x1) :: st) S I J Q := tr_iadd (by decide +kernel)
theorem r127_25 : am_T d 127 25 ls st S I J Q = am_T d 127 27 ls (.int 32 :: st) S I J Q := tr_bipush (m := 32) (by decide +kernel) (by decide)
theorem r127_27 : am_T d 127 27 ls (.int x1 :: .int x0 :: st) S I J Q = if x0 ≤ x1 then am_T d 127 33 ls st S I J Q else am_T d 127 30 ls st S I J Q := tr_icmple (o := 6) (by decide +kernel) rfl
theorem r127_30 : am_T d 127 30 ls st S I J Q = am_T d 127 32 ls (.int (-104) :: st) S I J Q := tr_bipush (m := -104) (by decide +kernel) (by decide)
theorem r127_32 : am_T d 127 32 ls [.int x0] S I J Q = Q (some (.int x0)) S I J := tr_ireti (by decide +kernel) (by decide +kernel)
theorem r127_33 : am_T d 127 33 [some (.ref a0), l1, l2, l3, l4, l5] st S I J Q = am_T d 127 34 [some (.ref a0), l1, l2, l3, l4, l5] (.ref a0 :: st) S I J Q := tr_aload_n (m := 0) (by decide +kernel) rfl
theorem r127_34 : am_T d 127 34 ls [.ref a0] S I J Q = (am_is S a0 9 ∧ am_C d 116 [.ref a0] S I J (fun r S I J => am_T d 127 37 ls (am_psh r []) S I J Q)) := tr_virt (k := 71) (by decide +kernel) (by decide +kernel) rfl rfl (Nat.le_of_ble_eq_true rfl) (by decide +kernel)
theorem r127_37 : am_T d 127 37 [some (.ref a0), l1, l2, l3, l4, l5] st S I J Q = am_T d 127 38 [some (.ref a0), l1, l2, l3, l4, l5] (.ref a0 :: st) S I J Q := tr_aload_n (m := 0) (by decide +kernel) rfl
theorem r127_38 : am_T d 127 38 [l0, l1, some (.int x0), l3, l4, l5] st S I J Q = am_T d 127 39 [l0, l1, some (.int x0), l3, l4, l5] (.int x0 :: st) S I J Q := tr_iload_n (m := 2) (by decide +kernel) rfl
theorem r127_39 : am_T d 127 39 ls (.int x0 :: st) S I J Q = am_T d 127 40 ls (.long x0.toInt64 :: st) S I J Q := tr_i2l (by decide +kernel)
theorem r127_40 : am_T d 127 40 ls (.long u0 :: .ref a0 :: st) S I J Q = (am_is S a0 9 ∧ am_T d 127 43 ls st S I (am_up J a0 9 u0) Q) := tr_putl (k := 98) (by decide +kernel) (by decide +kernel) (by decide +kernel) (by decide +kernel)
theorem r127_43 : am_T d 127 43 ls st S I J Q = am_T d 127 44 ls (.int 0 :: st) S I J Q := tr_iconst (m := 0) (by decide +kernel) (by decide)
theorem r127_44 : am_T d 127 44 [l0, l1, l2, l3, l4, l5] (.int x0 :: st) S I J Q = am_T d 127 45 [l0, l1, am_clr l2, some (.int x0), l4, l5] st S I J Q := tr_istore_n (m := 3) (by decide +kernel) (Nat.le_of_ble_eq_true rfl) rfl
theorem r127_45 : am_T d 127 45 [l0, l1, l2, some (.int x0), l4, l5] st S I J Q = am_T d 127 46 [l0, l1, l2, some (.int x0), l4, l5] (.int x0 :: st) S I J Q := tr_iload_n (m := 3) (by decide +kernel) rfl
theorem r127_46 : am_T d 127 46 [l0, some (.int x0), l2, l3, l4, l5] st S I J Q = am_T d 127 47 [l0, some (.int x0), l2, l3, l4, l5] (.int x0 :: st) S I J Q := tr_iload_n (m := 1) (by decide +kernel) rfl
theorem r127_47 : am_T d 127 47 ls (.int x1 :: .int x0 :: st) S I J Q = if x1 ≤ x0 then am_T d 127 110 ls st S I J Q else am_T d 127 50 ls st S I J Q := tr_icmpge (o := 63) (by decide +kernel) rfl
theorem r127_50 : am_T d 127 50 [some (.ref a0), l1, l2, l3, l4, l5] st S I J Q = am_T d 127 51 [some (.ref a0), l1, l2, l3, l4, l5] (.ref a0 :: st) S I J Q := tr_aload_n (m := 0) (by decide +kernel) rfl
theorem r127_51 : am_T d 127 51 [some (.ref a0), l1, l2, l3, l4, l5] st S I J Q = am_T d 127 52 [some (.ref a0), l1, l2, l3, l4, l5] (.ref a0 :: st) S I J Q := tr_aload_n (m := 0) (by decide +kernel) rfl
theorem r127_52 : am_T d 127 52 ls (.ref a0 :: st) S I J Q = ((am_is S a0 9 ∧ am_rf S a0 0 ≠ 0) ∧ am_T d 127 55 ls (.ref (am_rf S a0 0) :: st) S I J Q) := tr_geta (k := 7) (by decide +kernel) (by decide +kernel) (by decide +kernel)
theorem r127_55 : am_T d 127 55 ls st S I J Q = am_T d 127 56 ls (.int 0 :: st) S I J Q := tr_iconst (m := 0) (by decide +kernel) (by decide)
theorem r127_56 : am_T d 127 56 ls (.int x0 :: .ref a0 :: st) S I J Q = (am_ix S a0 20 x0 ∧ am_T d 127 57 ls (.int (I a0 x0.toNatClampNeg) :: st) S I J Q) := tr_iald (by decide +kernel)
theorem r127_57 : am_T d 127 57 ls [.int x1, .ref a0] S I J Q = (am_is S a0 9 ∧ am_C d 126 [.ref a0, .int x1] S I J (fun r S I J => am_T d 127 60 ls (am_psh r []) S I J Q)) := tr_virt (k := 108) (by decide +kernel) (by decide +kernel) rfl rfl (Nat.le_of_ble_eq_true rfl) (by decide +kernel)
theorem r127_60 : am_T d 127 60 [l0, l1, l2, l3, l4, l5] (.int x0 :: st) S I J Q = am_T d 127 62 [l0, l1, l2, am_clr l3, some (.int x0), l5] st S I J Q := tr_istore (k := 4) (by decide +kernel) (Nat.le_of_ble_eq_true rfl) rfl
theorem r127_62 : am_T d 127 62 [some (.ref a0), l1, l2, l3, l4, l5] st S I J Q = am_T d 127 63 [some (.ref a0), l1, l2, l3, l4, l5] (.ref a0 :: st) S I J Q := tr_aload_n (m := 0) (by decide +kernel) rfl
theorem r127_63 : am_T d 127 63 [some (.ref a0), l1, l2, l3, l4, l5] st S I J Q = am_T d 127 64 [some (.ref a0), l1, l2, l3, l4, l5] (.ref a0 :: st) S I J Q := tr_aload_n (m := 0) (by decide +kernel) rfl
theorem r127_64 : am_T d 127 64 ls (.ref a0 :: st) S I J Q = ((am_is S a0 9 ∧ am_rf S a0 0 ≠ 0) ∧ am_T d 127 67 ls (.ref (am_rf S a0 0) :: st) S I J Q) := tr_geta (k := 7) (by decide +kernel) (by decide +kernel) (by decide +kernel)
theorem r127_67 : am_T d 127 67 ls st S I J Q = am_T d 127 68 ls (.int 0 :: st) S I J Q := tr_iconst (m := 0) (by decide +kernel) (by decide)
theorem r127_68 : am_T d 127 68 ls (.int x0 :: .ref a0 :: st) S I J Q = (am_ix S a0 20 x0 ∧ am_T d 127 69 ls (.int (I a0 x0.toNatClampNeg) :: st) S I J Q) := tr_iald (by decide +kernel)
theorem r127_69 : am_T d 127 69 ls st S I J Q = am_T d 127 70 ls (.int 1 :: st) S I J Q := tr_iconst (m := 1) (by decide +kernel) (by decide)
theorem r127_70 : am_T d 127 70 ls (.int x1 :: .int x0 :: st) S I J Q = am_T d 127 71 ls (.int (x0 - x1) :: st) S I J Q := tr_isub (by decide +kernel)
theorem r127_71 : am_T d 127 71 ls [.int x1, .ref a0] S I J Q = (am_is S a0 9 ∧ am_C d 126 [.ref a0, .int x1] S I J (fun r S I J => am_T d 127 74 ls (am_psh r []) S I J Q)) := tr_virt (k := 108) (by decide +kernel) (by decide +kernel) rfl rfl (Nat.le_of_ble_eq_true rfl) (by decide +kernel)
theorem r127_74 : am_T d 127 74 [l0, l1, l2, l3, l4, l5] (.int x0 :: st) S I J Q = am_T d 127 76 [l0, l1, l2, l3, am_clr l4, some (.int x0)] st S I J Q := tr_istore (k := 5) (by decide +kernel) (Nat.le_of_ble_eq_true rfl) rfl
theorem r127_76 : am_T d 127 76 [some (.ref a0), l1, l2, l3, l4, l5] st S I J Q = am_T d 127 77 [some (.ref a0), l1, l2, l3, l4, l5] (.ref a0 :: st) S I J Q := tr_aload_n (m := 0) (by decide +kernel) rfl
theorem r127_77 : am_T d 127 77 [l0, l1, l2, l3, some (.int x0), l5] st S I J Q = am_T d 127 79 [l0, l1, l2, l3, some (.int x0), l5] (.int x0 :: st) S I J Q := tr_iload (k := 4) (by decide +kernel) rfl
theorem r127_79 : am_T d 127 79 [l0, l1, l2, l3, l4, some (.int x0)] st S I J Q = am_T d 127 81 [l0, l1, l2, l3, l4, some (.int x0)] (.int x0 :: st) S I J Q := tr_iload (k := 5) (by decide +kernel) rfl
theorem r127_81 : am_T d 127 81 [l0, l1, l2, l3, some (.int x0), l5] st S I J Q = am_T d 127 83 [l0, l1, l2, l3, some (.int x0), l5] (.int x0 :: st) S I J Q := tr_iload (k := 4) (by decide +kernel) rfl
theorem r127_83 : am_T d 127 83 ls (.int x1 :: .int x0 :: st) S I J Q = if x0 < x1 then am_T d 127 93 ls st S I J Q else am_T d 127 86 ls st S I J Q := tr_icmplt (o := 10) (by decide +kernel) rfl
theorem r127_86 : am_T d 127 86 [l0, l1, l2, l3, l4, some (.int x0)] st S I J Q = am_T d 127 88 [l0, l1, l2, l3, l4, some (.int x0)] (.int x0 :: st) S I J Q := tr_iload (k := 5) (by decide +kernel) rfl
theorem r127_88 : am_T d 127 88 ls st S I J Q = am_T d 127 89 ls (.int 1 :: st) S I J Q := tr_iconst (m := 1) (by decide +kernel) (by decide)
theorem r127_89 : am_T d 127 89 ls (.int x1 :: .int x0 :: st) S I J Q = am_T d 127 90 ls (.int (x0 + x1) :: st) S I J Q := tr_iadd (by decide +kernel)
theorem r127_90 : am_T d 127 90 ls st S I J Q = am_T d 127 95 ls st S I J Q := tr_goto (o := 5) (by decide +kernel) rfl
theorem r127_93 : am_T d 127 93 [l0, l1, l2, l3, l4, some (.int x0)] st S I J Q = am_T d 127 95 [l0, l1, l2, l3, l4, some (.int x0)] (.int x0 :: st) S I J Q := tr_iload (k := 5) (by decide +kernel) rfl
theorem r127_95 : am_T d 127 95 [some (.ref a0), l1, l2, l3, l4, l5] st S I J Q = am_T d 127 96 [some (.ref a0), l1, l2, l3, l4, l5] (.ref a0 :: st) S I J Q := tr_aload_n (m := 0) (by decide +kernel) rfl
theorem r127_96 : am_T d 127 96 ls st S I J Q = am_T d 127 98 ls (.int 100 :: st) S I J Q := tr_bipush (m := 100) (by decide +kernel) (by decide)
theorem r127_98 : am_T d 127 98 ls [.int x1, .ref a0, .int x12, .int x11, .ref a10] S I J Q = (am_is S a0 9 ∧ am_C d 126 [.ref a0, .int x1] S I J (fun r S I J => am_T d 127 101 ls (am_psh r [.int x12, .int x11, .ref a10]) S I J Q)) := tr_virt (k := 108) (by decide +kernel) (by decide +kernel) rfl rfl (Nat.le_of_ble_eq_true rfl) (by decide +kernel)
theorem r127_101 : am_T d 127 101 ls [.int x3, .int x2, .int x1, .ref a0] S I J Q = (am_is S a0 9 ∧ am_C d 119 [.ref a0, .int x1, .int x2, .int x3] S I J (fun r S I J => am_T d 127 104 ls (am_psh r []) S I J Q)) := tr_virt (k := 78) (by decide +kernel) (by decide +kernel) rfl rfl (Nat.le_of_ble_eq_true rfl) (by decide +kernel)
theorem r127_104 : am_T d 127 104 [l0, l1, l2, some (.int x0), l4, l5] st S I J Q = am_T d 127 107 [l0, l1, am_clr l2, some (.int (x0 + 1)), l4, l5] st S I J Q := tr_iinc (k := 3) (m := 1) (by decide +kernel) rfl (Nat.le_of_ble_eq_true rfl) (by decide) rfl
theorem r127_107 : am_T d 127 107 ls st S I J Q = am_T d 127 45 ls st S I J Q := tr_goto (o := -62) (by decide +kernel) rfl
theorem r127_110 : am_T d 127 110 [some (.ref a0), l1, l2, l3, l4, l5] st S I J Q = am_T d 127 111 [some (.ref a0), l1, l2, l3, l4, l5] (.ref a0 :: st) S I J Q := tr_aload_n (m := 0) (by decide +kernel) rfl
theorem r127_111 : am_T d 127 111 ls st S I J Q = am_T d 127 112 ls (.int 0 :: st) S I J Q := tr_iconst (m := 0) (by decide +kernel) (by decide)
theorem r127_112 : am_T d 127 112 ls [.int x1, .ref a0] S I J Q = (am_is S a0 9 ∧ am_C d 117 [.ref a0, .int x1] S I J (fun r S I J => am_T d 127 115 ls (am_psh r []) S I J Q)) := tr_virt (k := 86) (by decide +kernel) (by decide +kernel) rfl rfl (Nat.le_of_ble_eq_true rfl) (by decide +kernel)
theorem r127_115 : am_T d 127 115 [some (.ref a0), l1, l2, l3, l4, l5] st S I J Q = am_T d 127 116 [some (.ref a0), l1, l2, l3, l4, l5] (.ref a0 :: st) S I J Q := tr_aload_n (m := 0) (by decide +kernel) rfl
theorem r127_116 : am_T d 127 116 ls (.ref a0 :: st) S I J Q = ((am_is S a0 9 ∧ am_rf S a0 0 ≠ 0) ∧ am_T d 127 119 ls (.ref (am_rf S a0 0) :: st) S I J Q) := tr_geta (k := 7) (by decide +kernel) (by decide +kernel) (by decide +kernel)
theorem r127_119 : am_T d 127 119 ls st S I J Q = am_T d 127 120 ls (.int 2 :: st) S I J Q := tr_iconst (m := 2) (by decide +kernel) (by decide)
theorem r127_120 : am_T d 127 120 ls (.int x0 :: .ref a0 :: st) S I J Q = (am_ix S a0 20 x0 ∧ am_T d 127 121 ls (.int (I a0 x0.toNatClampNeg) :: st) S I J Q) := tr_iald (by decide +kernel)
theorem r127_121 : am_T d 127 121 ls [.int x0] S I J Q = Q (some (.int x0)) S I J := tr_ireti (by decide +kernel) (by decide +kernel)
-- 128 Mod.nodes()I; heads []
theorem e128 : am_C (d + 1) 128 [.ref a0] S I J Q = am_T d 128 0 [some (.ref a0)] [] S I J Q := tr_en (Nat.le_of_ble_eq_true rfl) rfl
theorem r128_0 : am_T d 128 0 [some (.ref a0)] st S I J Q = am_T d 128 1 [some (.ref a0)] (.ref a0 :: st) S I J Q := tr_aload_n (m := 0) (by decide +kernel) rfl
theorem r128_1 : am_T d 128 1 ls (.ref a0 :: st) S I J Q = ((am_is S a0 9 ∧ am_rf S a0 0 ≠ 0) ∧ am_T d 128 4 ls (.ref (am_rf S a0 0) :: st) S I J Q) := tr_geta (k := 7) (by decide +kernel) (by decide +kernel) (by decide +kernel)
theorem r128_4 : am_T d 128 4 ls st S I J Q = am_T d 128 5 ls (.int 0 :: st) S I J Q := tr_iconst (m := 0) (by decide +kernel) (by decide)
theorem r128_5 : am_T d 128 5 ls (.int x0 :: .ref a0 :: st) S I J Q = (am_ix S a0 20 x0 ∧ am_T d 128 6 ls (.int (I a0 x0.toNatClampNeg) :: st) S I J Q) := tr_iald (by decide +kernel)
theorem r128_6 : am_T d 128 6 ls [.int x0] S I J Q = Q (some (.int x0)) S I J := tr_ireti (by decide +kernel) (by decide +kernel)
-- 129 Mod.root()I; heads []
theorem e129 : am_C (d + 1) 129 [.ref a0] S I J Q = am_T d 129 0 [some (.ref a0)] [] S I J Q := tr_en (Nat.le_of_ble_eq_true rfl) rfl
theorem r129_0 : am_T d 129 0 [some (.ref a0)] st S I J Q = am_T d 129 1 [some (.ref a0)] (.ref a0 :: st) S I J Q := tr_aload_n (m := 0) (by decide +kernel) rfl
theorem r129_1 : am_T d 129 1 ls (.ref a0 :: st) S I J Q = ((am_is S a0 9 ∧ am_rf S a0 0 ≠ 0) ∧ am_T d 129 4 ls (.ref (am_rf S a0 0) :: st) S I J Q) := tr_geta (k := 7) (by decide +kernel) (by decide +kernel) (by decide +kernel)
theorem r129_4 : am_T d 129 4 ls st S I J Q = am_T d 129 5 ls (.int 1 :: st) S I J Q := tr_iconst (m := 1) (by decide +kernel) (by decide)
theorem r129_5 : am_T d 129 5 ls (.int x0 :: .ref a0 :: st) S I J Q = (am_ix S a0 20 x0 ∧ am_T d 129 6 ls (.int (I a0 x0.toNatClampNeg) :: st) S I J Q) := tr_iald (by decide +kernel)
theorem r129_6 : am_T d 129 6 ls [.int x0] S I J Q = Q (some (.int x0)) S I J := tr_ireti (by decide +kernel) (by decide +kernel)
-- 130 Mod.arcs()I; heads []
theorem e130 : am_C (d + 1) 130 [.ref a0] S I J Q = am_T d 130 0 [some (.ref a0)] [] S I J Q := tr_en (Nat.le_of_ble_eq_true rfl) rfl
theorem r130_0 : am_T d 130 0 [some (.ref a0)] st S I J Q = am_T d 130 1 [some (.ref a0)] (.ref a0 :: st) S I J Q := tr_aload_n (m := 0) (by decide +kernel) rfl
theorem r130_1 : am_T d 130 1 ls (.ref a0 :: st) S I J Q = ((am_is S a0 9 ∧ am_rf S a0 0 ≠ 0) ∧ am_T d 130 4 ls (.ref (am_rf S a0 0) :: st) S I J Q) := tr_geta (k := 7) (by decide +kernel) (by decide +kernel) (by decide +kernel)
theorem r130_4 : am_T d 130 4 ls st S I J Q = am_T d 130 5 ls (.int 2 :: st) S I J Q := tr_iconst (m := 2) (by decide +kernel) (by decide)
theorem r130_5 : am_T d 130 5 ls (.int x0 :: .ref a0 :: st) S I J Q = (am_ix S a0 20 x0 ∧ am_T d 130 6 ls (.int (I a0 x0.toNatClampNeg) :: st) S I J Q) := tr_iald (by decide +kernel)
theorem r130_6 : am_T d 130 6 ls [.int x0] S I J Q = Q (some (.int x0)) S I J := tr_ireti (by decide +kernel) (by decide +kernel)
-- 131 Mod.arc(II)I; heads []
theorem e131 : am_C (d + 1) 131 [.ref a0, .int x1, .int x2] S I J Q = am_T d 131 0 [some (.ref a0), some (.int x1), some (.int x2)] [] S I J Q := tr_en (Nat.le_of_ble_eq_true rfl) rfl
theorem r131_0 : am_T d 131 0 [some (.ref a0), l1, l2] st S I J Q = am_T d 131 1 [some (.ref a0), l1, l2] (.ref a0 :: st) S I J Q := tr_aload_n (m := 0) (by decide +kernel) rfl
theorem r131_1 : am_T d 131 1 [l0, some (.int x0), l2] st S I J Q = am_T d 131 2 [l0, some (.int x0), l2] (.int x0 :: st) S I J Q := tr_iload_n (m := 1) (by decide +kernel) rfl
theorem r131_2 : am_T d 131 2 ls [.int x1, .ref a0] S I J Q = (am_is S a0 9 ∧ am_C d 114 [.ref a0, .int x1] S I J (fun r S I J => am_T d 131 5 ls (am_psh r []) S I J Q)) := tr_virt (k := 90) (by decide +kernel) (by decide +kernel) rfl rfl (Nat.le_of_ble_eq_true rfl) (by decide +kernel)
theorem r131_5 : am_T d 131 5 ls (.int x0 :: st) S I J Q = if x0 = 0 then am_T d 131 8 ls st S I J Q else am_T d 131 11 ls st S I J Q := tr_ifne (o := 6) (by decide +kernel) rfl
theorem r131_8 : am_T d 131 8 ls st S I J Q = am_T d 131 10 ls (.int (-102) :: st) S I J Q := tr_bipush (m := -102) (by decide +kernel) (by decide)
theorem r131_10 : am_T d 131 10 ls [.int x0] S I J Q = Q (some (.int x0)) S I J := tr_ireti (by decide +kernel) (by decide +kernel)
theorem r131_11 : am_T d 131 11 [l0, l1, some (.int x0)] st S I J Q = am_T d 131 12 [l0, l1, some (.int x0)] (.int x0 :: st) S I J Q := tr_iload_n (m := 2) (by decide +kernel) rfl
theorem r131_12 : am_T d 131 12 ls (.int x0 :: st) S I J Q = if x0 = 0 then am_T d 131 15 ls st S I J Q else am_T d 131 26 ls st S I J Q := tr_ifne (o := 14) (by decide +kernel) rfl
theorem r131_15 : am_T d 131 15 [some (.ref a0), l1, l2] st S I J Q = am_T d 131 16 [some (.ref a0), l1, l2] (.ref a0 :: st) S I J Q := tr_aload_n (m := 0) (by decide +kernel) rfl
theorem r131_16 : am_T d 131 16 ls (.ref a0 :: st) S I J Q = ((am_is S a0 9 ∧ am_rf S a0 0 ≠ 0) ∧ am_T d 131 19 ls (.ref (am_rf S a0 0) :: st) S I J Q) := tr_geta (k := 7) (by decide +kernel) (by decide +kernel) (by decide +kernel)
theorem r131_19 : am_T d 131 19 ls st S I J Q = am_T d 131 20 ls (.int 3 :: st) S I J Q := tr_iconst (m := 3) (by decide +kernel) (by decide)
theorem r131_20 : am_T d 131 20 [l0, some (.int x0), l2] st S I J Q = am_T d 131 21 [l0, some (.int x0), l2] (.int x0 :: st) S I J Q := tr_iload_n (m := 1) (by decide +kernel) rfl
theorem r131_21 : am_T d 131 21 ls (.int x1 :: .int x0 :: st) S I J Q = am_T d 131 22 ls (.int (x0 + x1) :: st) S I J Q := tr_iadd (by decide +kernel)
theorem r131_22 : am_T d 131 22 ls (.int x0 :: .ref a0 :: st) S I J Q = (am_ix S a0 20 x0 ∧ am_T d 131 23 ls (.int (I a0 x0.toNatClampNeg) :: st) S I J Q) := tr_iald (by decide +kernel)
theorem r131_23 : am_T d 131 23 ls st S I J Q = am_T d 131 62 ls st S I J Q := tr_goto (o := 39) (by decide +kernel) rfl
theorem r131_26 : am_T d 131 26 [l0, l1, some (.int x0)] st S I J Q = am_T d 131 27 [l0, l1, some (.int x0)] (.int x0 :: st) S I J Q := tr_iload_n (m := 2) (by decide +kernel) rfl
theorem r131_27 : am_T d 131 27 ls st S I J Q = am_T d 131 28 ls (.int 1 :: st) S I J Q := tr_iconst (m := 1) (by decide +kernel) (by decide)
theorem r131_28 : am_T d 131 28 ls (.int x1 :: .int x0 :: st) S I J Q = if x0 = x1 then am_T d 131 31 ls st S I J Q else am_T d 131 43 ls st S I J Q := tr_icmpne (o := 15) (by decide +kernel) rfl
theorem r131_31 : am_T d 131 31 [some (.ref a0), l1, l2] st S I J Q = am_T d 131 32 [some (.ref a0), l1, l2] (.ref a0 :: st) S I J Q := tr_aload_n (m := 0) (by decide +kernel) rfl
theorem r131_32 : am_T d 131 32 ls (.ref a0 :: st) S I J Q = ((am_is S a0 9 ∧ am_rf S a0 0 ≠ 0) ∧ am_T d 131 35 ls (.ref (am_rf S a0 0) :: st) S I J Q) := tr_geta (k := 7) (by decide +kernel) (by decide +kernel) (by decide +kernel)
theorem r131_35 : am_T d 131 35 ls st S I J Q = am_T d 131 37 ls (.int 35 :: st) S I J Q := tr_bipush (m := 35) (by decide +kernel) (by decide)
theorem r131_37 : am_T d 131 37 [l0, some (.int x0), l2] st S I J Q = am_T d 131 38 [l0, some (.int x0), l2] (.int x0 :: st) S I J Q := tr_iload_n (m := 1) (by decide +kernel) rfl
theorem r131_38 : am_T d 131 38 ls (.int x1 :: .int x0 :: st) S I J Q = am_T d 131 39 ls (.int (x0 + x1) :: st) S I J Q := tr_iadd (by decide +kernel)
theorem r131_39 : am_T d 131 39 ls (.int x0 :: .ref a0 :: st) S I J Q = (am_ix S a0 20 x0 ∧ am_T d 131 40 ls (.int (I a0 x0.toNatClampNeg) :: st) S I J Q) := tr_iald (by decide +kernel)
theorem r131_40 : am_T d 131 40 ls st S I J Q = am_T d 131 62 ls st S I J Q := tr_goto (o := 22) (by decide +kernel) rfl
theorem r131_43 : am_T d 131 43 [l0, l1, some (.int x0)] st S I J Q = am_T d 131 44 [l0, l1, some (.int x0)] (.int x0 :: st) S I J Q := tr_iload_n (m := 2) (by decide +kernel) rfl
theorem r131_44 : am_T d 131 44 ls st S I J Q = am_T d 131 45 ls (.int 2 :: st) S I J Q := tr_iconst (m := 2) (by decide +kernel) (by decide)
theorem r131_45 : am_T d 131 45 ls (.int x1 :: .int x0 :: st) S I J Q = if x0 = x1 then am_T d 131 48 ls st S I J Q else am_T d 131 60 ls st S I J Q := tr_icmpne (o := 15) (by decide +kernel) rfl
theorem r131_48 : am_T d 131 48 [some (.ref a0), l1, l2] st S I J Q = am_T d 131 49 [some (.ref a0), l1, l2] (.ref a0 :: st) S I J Q := tr_aload_n (m := 0) (by decide +kernel) rfl
theorem r131_49 : am_T d 131 49 ls (.ref a0 :: st) S I J Q = ((am_is S a0 9 ∧ am_rf S a0 0 ≠ 0) ∧ am_T d 131 52 ls (.ref (am_rf S a0 0) :: st) S I J Q) := tr_geta (k := 7) (by decide +kernel) (by decide +kernel) (by decide +kernel)
theorem r131_52 : am_T d 131 52 ls st S I J Q = am_T d 131 54 ls (.int 67 :: st) S I J Q := tr_bipush (m := 67) (by decide +kernel) (by decide)
theorem r131_54 : am_T d 131 54 [l0, some (.int x0), l2] st S I J Q = am_T d 131 55 [l0, some (.int x0), l2] (.int x0 :: st) S I J Q := tr_iload_n (m := 1) (by decide +kernel) rfl
theorem r131_55 : am_T d 131 55 ls (.int x1 :: .int x0 :: st) S I J Q = am_T d 131 56 ls (.int (x0 + x1) :: st) S I J Q := tr_iadd (by decide +kernel)
theorem r131_56 : am_T d 131 56 ls (.int x0 :: .ref a0 :: st) S I J Q = (am_ix S a0 20 x0 ∧ am_T d 131 57 ls (.int (I a0 x0.toNatClampNeg) :: st) S I J Q) := tr_iald (by decide +kernel)
theorem r131_57 : am_T d 131 57 ls st S I J Q = am_T d 131 62 ls st S I J Q := tr_goto (o := 5) (by decide +kernel) rfl
theorem r131_60 : am_T d 131 60 ls st S I J Q = am_T d 131 62 ls (.int (-103) :: st) S I J Q := tr_bipush (m := -103) (by decide +kernel) (by decide)
theorem r131_62 : am_T d 131 62 ls [.int x0] S I J Q = Q (some (.int x0)) S I J := tr_ireti (by decide +kernel) (by decide +kernel)
-- 132 Mod.limit(I)I; heads []
theorem e132 : am_C (d + 1) 132 [.ref a0, .int x1] S I J Q = am_T d 132 0 [some (.ref a0), some (.int x1)] [] S I J Q := tr_en (Nat.le_of_ble_eq_true rfl) rfl
theorem r132_0 : am_T d 132 0 [some (.ref a0), l1] st S I J Q = am_T d 132 1 [some (.ref a0), l1] (.ref a0 :: st) S I J Q := tr_aload_n (m := 0) (by decide +kernel) rfl
theorem r132_1 : am_T d 132 1 [l0, some (.int x0)] st S I J Q = am_T d 132 2 [l0, some (.int x0)] (.int x0 :: st) S I J Q := tr_iload_n (m := 1) (by decide +kernel) rfl
theorem r132_2 : am_T d 132 2 ls [.int x1, .ref a0] S I J Q = (am_is S a0 9 ∧ am_C d 113 [.ref a0, .int x1] S I J (fun r S I J => am_T d 132 5 ls (am_psh r []) S I J Q)) := tr_virt (k := 74) (by decide +kernel) (by decide +kernel) rfl rfl (Nat.le_of_ble_eq_true rfl) (by decide +kernel)
theorem r132_5 : am_T d 132 5 ls (.int x0 :: st) S I J Q = if x0 = 0 then am_T d 132 20 ls st S I J Q else am_T d 132 8 ls st S I J Q := tr_ifeq (o := 15) (by decide +kernel) rfl
theorem r132_8 : am_T d 132 8 [some (.ref a0), l1] st S I J Q = am_T d 132 9 [some (.ref a0), l1] (.ref a0 :: st) S I J Q := tr_aload_n (m := 0) (by decide +kernel) rfl
theorem r132_9 : am_T d 132 9 ls (.ref a0 :: st) S I J Q = ((am_is S a0 9 ∧ am_rf S a0 0 ≠ 0) ∧ am_T d 132 12 ls (.ref (am_rf S a0 0) :: st) S I J Q) := tr_geta (k := 7) (by decide +kernel) (by decide +kernel) (by decide +kernel)
theorem r132_12 : am_T d 132 12 ls st S I J Q = am_T d 132 14 ls (.int 99 :: st) S I J Q := tr_bipush (m := 99) (by decide +kernel) (by decide)
theorem r132_14 : am_T d 132 14 [l0, some (.int x0)] st S I J Q = am_T d 132 15 [l0, some (.int x0)] (.int x0 :: st) S I J Q := tr_iload_n (m := 1) (by decide +kernel) rfl
theorem r132_15 : am_T d 132 15 ls (.int x1 :: .int x0 :: st) S I J Q = am_T d 132 16 ls (.int (x0 + x1) :: st) S I J Q := tr_iadd (by decide +kernel)
theorem r132_16 : am_T d 132 16 ls (.int x0 :: .ref a0 :: st) S I J Q = (am_ix S a0 20 x0 ∧ am_T d 132 17 ls (.int (I a0 x0.toNatClampNeg) :: st) S I J Q) := tr_iald (by decide +kernel)
theorem r132_17 : am_T d 132 17 ls st S I J Q = am_T d 132 22 ls st S I J Q := tr_goto (o := 5) (by decide +kernel) rfl
theorem r132_20 : am_T d 132 20 ls st S I J Q = am_T d 132 22 ls (.int (-101) :: st) S I J Q := tr_bipush (m := -101) (by decide +kernel) (by decide)
theorem r132_22 : am_T d 132 22 ls [.int x0] S I J Q = Q (some (.int x0)) S I J := tr_ireti (by decide +kernel) (by decide +kernel)
-- 133 Mod.undo()I; heads [22]
theorem e133 : am_C (d + 1) 133 [.ref a0] S I J Q = am_T d 133 0 [some (.ref a0), none] [] S I J Q := tr_en (Nat.le_of_ble_eq_true rfl) rfl
theorem r133_0 : am_T d 133 0 [some (.ref a0), l1] st S I J Q = am_T d 133 1 [some (.ref a0), l1] (.ref a0 :: st) S I J Q := tr_aload_n (m := 0) (by decide +kernel) rfl
theorem r133_1 : am_T d 133 1 ls (.ref a0 :: st) S I J Q = (am_is S a0 9 ∧ am_T d 133 4 ls (.int (I a0 2) :: st) S I J Q) := tr_geti (k := 64) (by decide +kernel) (by decide +kernel) (Or.inl (by decide +kernel))
theorem r133_4 : am_T d 133 4 ls (.int x0 :: st) S I J Q = if x0 = 0 then am_T d 133 7 ls st S I J Q else am_T d 133 10 ls st S I J Q := tr_ifne (o := 6) (by decide +kernel) rfl
theorem r133_7 : am_T d 133 7 ls st S I J Q = am_T d 133 9 ls (.int (-105) :: st) S I J Q := tr_bipush (m := -105) (by decide +kernel) (by decide)
theorem r133_9 : am_T d 133 9 ls [.int x0] S I J Q = Q (some (.int x0)) S I J := tr_ireti (by decide +kernel) (by decide +kernel)
theorem r133_10 : am_T d 133 10 [some (.ref a0), l1] st S I J Q = am_T d 133 11 [some (.ref a0), l1] (.ref a0 :: st) S I J Q := tr_aload_n (m := 0) (by decide +kernel) rfl
theorem r133_11 : am_T d 133 11 ls (.ref a0 :: st) S I J Q = am_T d 133 12 ls (.ref a0 :: .ref a0 :: st) S I J Q := tr_dupa (by decide +kernel)
theorem r133_12 : am_T d 133 12 ls (.ref a0 :: st) S I J Q = (am_is S a0 9 ∧ am_T d 133 15 ls (.int (I a0 2) :: st) S I J Q) := tr_geti (k := 64) (by decide +kernel) (by decide +kernel) (Or.inl (by decide +kernel))
theorem r133_15 : am_T d 133 15 ls st S I J Q = am_T d 133 16 ls (.int 1 :: st) S I J Q := tr_iconst (m := 1) (by decide +kernel) (by decide)
theorem r133_16 : am_T d 133 16 ls (.int x1 :: .int x0 :: st) S I J Q = am_T d 133 17 ls (.int (x0 - x1) :: st) S I J Q := tr_isub (by decide +kernel)
theorem r133_17 : am_T d 133 17 ls (.int x0 :: .ref a0 :: st) S I J Q = (am_is S a0 9 ∧ am_T d 133 20 ls st S (am_up I a0 2 x0) J Q) := tr_puti (k := 64) (by decide +kernel) (by decide +kernel) (by decide +kernel) (by decide +kernel)
theorem r133_20 : am_T d 133 20 ls st S I J Q = am_T d 133 21 ls (.int 0 :: st) S I J Q := tr_iconst (m := 0) (by decide +kernel) (by decide)
theorem r133_21 : am_T d 133 21 [l0, l1] (.int x0 :: st) S I J Q = am_T d 133 22 [am_clr l0, some (.int x0)] st S I J Q := tr_istore_n (m := 1) (by decide +kernel) (Nat.le_of_ble_eq_true rfl) rfl
theorem r133_22 : am_T d 133 22 [l0, some (.int x0)] st S I J Q = am_T d 133 23 [l0, some (.int x0)] (.int x0 :: st) S I J Q := tr_iload_n (m := 1) (by decide +kernel) rfl
theorem r133_23 : am_T d 133 23 ls st S I J Q = am_T d 133 26 ls (.int 165 :: st) S I J Q := tr_sipush (m := 165) (by decide +kernel) (by decide)
theorem r133_26 : am_T d 133 26 ls (.int x1 :: .int x0 :: st) S I J Q = if x1 ≤ x0 then am_T d 133 56 ls st S I J Q else am_T d 133 29 ls st S I J Q := tr_icmpge (o := 30) (by decide +kernel) rfl
theorem r133_29 : am_T d 133 29 [some (.ref a0), l1] st S I J Q = am_T d 133 30 [some (.ref a0), l1] (.ref a0 :: st) S I J Q := tr_aload_n (m := 0) (by decide +kernel) rfl
theorem r133_30 : am_T d 133 30 ls (.ref a0 :: st) S I J Q = ((am_is S a0 9 ∧ am_rf S a0 0 ≠ 0) ∧ am_T d 133 33 ls (.ref (am_rf S a0 0) :: st) S I J Q) := tr_geta (k := 7) (by decide +kernel) (by decide +kernel) (by decide +kernel)
theorem r133_33 : am_T d 133 33 [l0, some (.int x0)] st S I J Q = am_T d 133 34 [l0, some (.int x0)] (.int x0 :: st) S I J Q := tr_iload_n (m := 1) (by decide +kernel) rfl
theorem r133_34 : am_T d 133 34 [some (.ref a0), l1] st S I J Q = am_T d 133 35 [some (.ref a0), l1] (.ref a0 :: st) S I J Q := tr_aload_n (m := 0) (by decide +kernel) rfl
theorem r133_35 : am_T d 133 35 ls (.ref a0 :: st) S I J Q = ((am_is S a0 9 ∧ am_rf S a0 1 ≠ 0) ∧ am_T d 133 38 ls (.ref (am_rf S a0 1) :: st) S I J Q) := tr_geta (k := 13) (by decide +kernel) (by decide +kernel) (by decide +kernel)
theorem r133_38 : am_T d 133 38 ls st S I J Q = am_T d 133 41 ls (.int 165 :: st) S I J Q := tr_sipush (m := 165) (by decide +kernel) (by decide)
theorem r133_41 : am_T d 133 41 [some (.ref a0), l1] st S I J Q = am_T d 133 42 [some (.ref a0), l1] (.ref a0 :: st) S I J Q := tr_aload_n (m := 0) (by decide +kernel) rfl
theorem r133_42 : am_T d 133 42 ls (.ref a0 :: st) S I J Q = (am_is S a0 9 ∧ am_T d 133 45 ls (.int (I a0 2) :: st) S I J Q) := tr_geti (k := 64) (by decide +kernel) (by decide +kernel) (Or.inl (by decide +kernel))
theorem r133_45 : am_T d 133 45 ls (.int x1 :: .int x0 :: st) S I J Q = am_T d 133 46 ls (.int (x0 * x1) :: st) S I J Q := tr_imul (by decide +kernel)
theorem r133_46 : am_T d 133 46 [l0, some (.int x0)] st S I J Q = am_T d 133 47 [l0, some (.int x0)] (.int x0 :: st) S I J Q := tr_iload_n (m := 1) (by decide +kernel) rfl
theorem r133_47 : am_T d 133 47 ls (.int x1 :: .int x0 :: st) S I J Q = am_T d 133 48 ls (.int (x0 + x1) :: st) S I J Q := tr_iadd (by decide +kernel)
theorem r133_48 : am_T d 133 48 ls (.int x0 :: .ref a0 :: st) S I J Q = (am_ix S a0 20 x0 ∧ am_T d 133 49 ls (.int (I a0 x0.toNatClampNeg) :: st) S I J Q) := tr_iald (by decide +kernel)
theorem r133_49 : am_T d 133 49 ls (.int x1 :: .int x0 :: .ref a0 :: st) S I J Q = (am_ixw S a0 20 x0 ∧ am_T d 133 50 ls st S (am_up I a0 x0.toNatClampNeg x1) J Q) := tr_iast (by decide +kernel)
theorem r133_50 : am_T d 133 50 [l0, some (.int x0)] st S I J Q = am_T d 133 53 [am_clr l0, some (.int (x0 + 1))] st S I J Q := tr_iinc (k := 1) (m := 1) (by decide +kernel) rfl (Nat.le_of_ble_eq_true rfl) (by decide) rfl
theorem r133_53 : am_T d 133 53 ls st S I J Q = am_T d 133 22 ls st S I J Q := tr_goto (o := -31) (by decide +kernel) rfl
theorem r133_56 : am_T d 133 56 [some (.ref a0), l1] st S I J Q = am_T d 133 57 [some (.ref a0), l1] (.ref a0 :: st) S I J Q := tr_aload_n (m := 0) (by decide +kernel) rfl
theorem r133_57 : am_T d 133 57 ls (.ref a0 :: st) S I J Q = (am_is S a0 9 ∧ am_T d 133 60 ls (.int (I a0 2) :: st) S I J Q) := tr_geti (k := 64) (by decide +kernel) (by decide +kernel) (Or.inl (by decide +kernel))
theorem r133_60 : am_T d 133 60 ls [.int x0] S I J Q = Q (some (.int x0)) S I J := tr_ireti (by decide +kernel) (by decide +kernel)
-- 134 Mod.write(I)I; heads []
theorem e134 : am_C (d + 1) 134 [.ref a0, .int x1] S I J Q = am_T d 134 0 [some (.ref a0), some (.int x1)] [] S I J Q := tr_en (Nat.le_of_ble_eq_true rfl) rfl
theorem r134_0 : am_T d 134 0 [l0, some (.int x0)] st S I J Q = am_T d 134 1 [l0, some (.int x0)] (.int x0 :: st) S I J Q := tr_iload_n (m := 1) (by decide +kernel) rfl
theorem r134_1 : am_T d 134 1 ls st S I J Q = am_T d 134 3 ls (.int 32 :: st) S I J Q := tr_bipush (m := 32) (by decide +kernel) (by decide)
theorem r134_3 : am_T d 134 3 ls st S I J Q = am_T d 134 5 ls (.int 126 :: st) S I J Q := tr_bipush (m := 126) (by decide +kernel) (by decide)
theorem r134_5 : am_T d 134 5 ls [.int x2, .int x1, .int x0] S I J Q = am_C d 112 [.int x0, .int x1, .int x2] S I J (fun r S I J => am_T d 134 8 ls (am_psh r []) S I J Q) := tr_stat (k := 60) (by decide +kernel) (Or.inl (by decide +kernel)) (Nat.le_of_ble_eq_true rfl) rfl rfl (Nat.le_of_ble_eq_true rfl)
theorem r134_8 : am_T d 134 8 ls (.int x0 :: st) S I J Q = if x0 = 0 then am_T d 134 11 ls st S I J Q else am_T d 134 14 ls st S I J Q := tr_ifne (o := 6) (by decide +kernel) rfl
theorem r134_11 : am_T d 134 11 ls st S I J Q = am_T d 134 13 ls (.int (-103) :: st) S I J Q := tr_bipush (m := -103) (by decide +kernel) (by decide)
theorem r134_13 : am_T d 134 13 ls [.int x0] S I J Q = Q (some (.int x0)) S I J := tr_ireti (by decide +kernel) (by decide +kernel)
theorem r134_14 : am_T d 134 14 [some (.ref a0), l1] st S I J Q = am_T d 134 15 [some (.ref a0), l1] (.ref a0 :: st) S I J Q := tr_aload_n (m := 0) (by decide +kernel) rfl
theorem r134_15 : am_T d 134 15 ls (.ref a0 :: st) S I J Q = (am_is S a0 9 ∧ am_T d 134 18 ls (.int (I a0 8) :: st) S I J Q) := tr_geti (k := 111) (by decide +kernel) (by decide +kernel) (Or.inl (by decide +kernel))
theorem r134_18 : am_T d 134 18 ls st S I J Q = am_T d 134 21 ls (.int 300 :: st) S I J Q := tr_sipush (m := 300) (by decide +kernel) (by decide)
theorem r134_21 : am_T d 134 21 ls (.int x1 :: .int x0 :: st) S I J Q = if x0 = x1 then am_T d 134 24 ls st S I J Q else am_T d 134 27 ls st S I J Q := tr_icmpne (o := 6) (by decide +kernel) rfl
theorem r134_24 : am_T d 134 24 ls st S I J Q = am_T d 134 26 ls (.int (-104) :: st) S I J Q := tr_bipush (m := -104) (by decide +kernel) (by decide)
theorem r134_26 : am_T d 134 26 ls [.int x0] S I J Q = Q (some (.int x0)) S I J := tr_ireti (by decide +kernel) (by decide +kernel)
theorem r134_27 : am_T d 134 27 [some (.ref a0), l1] st S I J Q = am_T d 134 28 [some (.ref a0), l1] (.ref a0 :: st) S I J Q := tr_aload_n (m := 0) (by decide +kernel) rfl
theorem r134_28 : am_T d 134 28 ls (.ref a0 :: st) S I J Q = ((am_is S a0 9 ∧ am_rf S a0 7 ≠ 0) ∧ am_T d 134 31 ls (.ref (am_rf S a0 7) :: st) S I J Q) := tr_geta (k := 19) (by decide +kernel) (by decide +kernel) (by decide +kernel)
theorem r134_31 : am_T d 134 31 [some (.ref a0), l1] st S I J Q = am_T d 134 32 [some (.ref a0), l1] (.ref a0 :: st) S I J Q := tr_aload_n (m := 0) (by decide +kernel) rfl
theorem r134_32 : am_T d 134 32 ls (.ref a0 :: st) S I J Q = (am_is S a0 9 ∧ am_T d 134 35 ls (.int (I a0 8) :: st) S I J Q) := tr_geti (k := 111) (by decide +kernel) (by decide +kernel) (Or.inl (by decide +kernel))
theorem r134_35 : am_T d 134 35 [l0, some (.int x0)] st S I J Q = am_T d 134 36 [l0, some (.int x0)] (.int x0 :: st) S I J Q := tr_iload_n (m := 1) (by decide +kernel) rfl
theorem r134_36 : am_T d 134 36 ls (.int x1 :: .int x0 :: .ref a0 :: st) S I J Q = (am_ixw S a0 20 x0 ∧ am_T d 134 37 ls st S (am_up I a0 x0.toNatClampNeg x1) J Q) := tr_iast (by decide +kernel)
theorem r134_37 : am_T d 134 37 [some (.ref a0), l1] st S I J Q = am_T d 134 38 [some (.ref a0), l1] (.ref a0 :: st) S I J Q := tr_aload_n (m := 0) (by decide +kernel) rfl
theorem r134_38 : am_T d 134 38 ls (.ref a0 :: st) S I J Q = am_T d 134 39 ls (.ref a0 :: .ref a0 :: st) S I J Q := tr_dupa (by decide +kernel)
theorem r134_39 : am_T d 134 39 ls (.ref a0 :: st) S I J Q = (am_is S a0 9 ∧ am_T d 134 42 ls (.int (I a0 8) :: st) S I J Q) := tr_geti (k := 111) (by decide +kernel) (by decide +kernel) (Or.inl (by decide +kernel))
theorem r134_42 : am_T d 134 42 ls st S I J Q = am_T d 134 43 ls (.int 1 :: st) S I J Q := tr_iconst (m := 1) (by decide +kernel) (by decide)
theorem r134_43 : am_T d 134 43 ls (.int x1 :: .int x0 :: st) S I J Q = am_T d 134 44 ls (.int (x0 + x1) :: st) S I J Q := tr_iadd (by decide +kernel)
theorem r134_44 : am_T d 134 44 ls (.int x0 :: .ref a0 :: st) S I J Q = (am_is S a0 9 ∧ am_T d 134 47 ls st S (am_up I a0 8 x0) J Q) := tr_puti (k := 111) (by decide +kernel) (by decide +kernel) (by decide +kernel) (by decide +kernel)
theorem r134_47 : am_T d 134 47 [some (.ref a0), l1] st S I J Q = am_T d 134 48 [some (.ref a0), l1] (.ref a0 :: st) S I J Q := tr_aload_n (m := 0) (by decide +kernel) rfl
theorem r134_48 : am_T d 134 48 ls (.ref a0 :: st) S I J Q = (am_is S a0 9 ∧ am_T d 134 51 ls (.int (I a0 8) :: st) S I J Q) := tr_geti (k := 111) (by decide +kernel) (by decide +kernel) (Or.inl (by decide +kernel))
theorem r134_51 : am_T d 134 51 ls [.int x0] S I J Q = Q (some (.int x0)) S I J := tr_ireti (by decide +kernel) (by decide +kernel)
end RU
