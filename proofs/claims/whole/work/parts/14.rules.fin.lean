section RU
variable {d : Nat} {ls : am_L} {l0 l1 l2 l3 l4 l5 l6 l7 : Option Value} {st : List Value} {S : am_S} {I : am_I} {J : am_J} {Q : am_Q} {x0 x1 x2 x3 x4 x5 x10 x11 x12 x13 x14 x15 : Int32} {u0 u1 u2 u3 u10 u11 u12 u13 : Int64} {a0 a1 a2 a3 a4 a10 a11 a12 a13 a14 a15 : Nat}
-- 57 Fin.<init>()V; heads [107, 134]
theorem e57 : am_C (d + 1) 57 [.ref a0] S I J Q = am_T d 57 0 [some (.ref a0), none] [] S I J Q := tr_en (Nat.le_of_ble_eq_true rfl) rfl
theorem r57_0 : am_T d 57 0 [some (.ref a0), l1] st S I J Q = am_T d 57 1 [some (.ref a0), l1] (.ref a0 :: st) S I J Q := tr_aload_n (m := 0) (by decide +kernel) rfl
theorem r57_1 : am_T d 57 1 ls [.ref a0] S I J Q = am_T d 57 4 ls [] S I J Q := tr_oinit (k := 3) (by decide +kernel) (by decide +kernel) (Nat.le_of_ble_eq_true rfl)
theorem r57_4 : am_T d 57 4 [some (.ref a0), l1] st S I J Q = am_T d 57 5 [some (.ref a0), l1] (.ref a0 :: st) S I J Q := tr_aload_n (m := 0) (by decide +kernel) rfl
theorem r57_5 : am_T d 57 5 ls st S I J Q = am_T d 57 8 ls (.ref S.length :: st) (S ++ [(6, 2, fun _ => 0)]) (am_row I S.length (fun _ => 0)) (am_row J S.length (fun _ => 0)) Q := tr_new (k := 9) (by decide +kernel) (by decide +kernel)
theorem r57_8 : am_T d 57 8 ls (.ref a0 :: st) S I J Q = am_T d 57 9 ls (.ref a0 :: .ref a0 :: st) S I J Q := tr_dupa (by decide +kernel)
theorem r57_9 : am_T d 57 9 ls [.ref a0, .ref a11, .ref a10] S I J Q = am_C d 50 [.ref a0] S I J (fun r S I J => am_T d 57 12 ls (am_psh r [.ref a11, .ref a10]) S I J Q) := tr_spec (k := 11) (by decide +kernel) (Or.inr (by decide +kernel)) rfl rfl (Nat.le_of_ble_eq_true rfl)
theorem r57_12 : am_T d 57 12 ls (.ref a1 :: .ref a0 :: st) S I J Q = ((am_is S a0 8 ∧ a1 ≠ 0 ∧ a1 < S.length) ∧ am_T d 57 15 ls st (am_sr S a0 0 a1) I J Q) := tr_puta (k := 12) (by decide +kernel) (by decide +kernel) (by decide +kernel) (by decide +kernel)
theorem r57_15 : am_T d 57 15 [some (.ref a0), l1] st S I J Q = am_T d 57 16 [some (.ref a0), l1] (.ref a0 :: st) S I J Q := tr_aload_n (m := 0) (by decide +kernel) rfl
theorem r57_16 : am_T d 57 16 ls st S I J Q = am_T d 57 18 ls (.int 8 :: st) S I J Q := tr_bipush (m := 8) (by decide +kernel) (by decide)
theorem r57_18 : am_T d 57 18 ls (.int x0 :: st) S I J Q = ((0 ≤ x0.toInt ∧ x0.toInt < 10000) ∧ am_T d 57 21 ls (.ref S.length :: st) (S ++ [(24, x0.toNatClampNeg, fun _ => 0)]) (am_row I S.length (fun _ => 0)) (am_row J S.length (fun _ => 0)) Q) := tr_newq (k := 9) (by decide +kernel) (by decide +kernel)
theorem r57_21 : am_T d 57 21 ls (.ref a1 :: .ref a0 :: st) S I J Q = ((am_is S a0 8 ∧ a1 ≠ 0 ∧ a1 < S.length) ∧ am_T d 57 24 ls st (am_sr S a0 1 a1) I J Q) := tr_puta (k := 16) (by decide +kernel) (by decide +kernel) (by decide +kernel) (by decide +kernel)
theorem r57_24 : am_T d 57 24 [some (.ref a0), l1] st S I J Q = am_T d 57 25 [some (.ref a0), l1] (.ref a0 :: st) S I J Q := tr_aload_n (m := 0) (by decide +kernel) rfl
theorem r57_25 : am_T d 57 25 ls st S I J Q = am_T d 57 26 ls (.int 2 :: st) S I J Q := tr_iconst (m := 2) (by decide +kernel) (by decide)
theorem r57_26 : am_T d 57 26 ls (.int x0 :: st) S I J Q = ((0 ≤ x0.toInt ∧ x0.toInt < 10000) ∧ am_T d 57 29 ls (.ref S.length :: st) (S ++ [(24, x0.toNatClampNeg, fun _ => 0)]) (am_row I S.length (fun _ => 0)) (am_row J S.length (fun _ => 0)) Q) := tr_newq (k := 9) (by decide +kernel) (by decide +kernel)
theorem r57_29 : am_T d 57 29 ls (.ref a1 :: .ref a0 :: st) S I J Q = ((am_is S a0 8 ∧ a1 ≠ 0 ∧ a1 < S.length) ∧ am_T d 57 32 ls st (am_sr S a0 4 a1) I J Q) := tr_puta (k := 20) (by decide +kernel) (by decide +kernel) (by decide +kernel) (by decide +kernel)
theorem r57_32 : am_T d 57 32 [some (.ref a0), l1] st S I J Q = am_T d 57 33 [some (.ref a0), l1] (.ref a0 :: st) S I J Q := tr_aload_n (m := 0) (by decide +kernel) rfl
theorem r57_33 : am_T d 57 33 ls st S I J Q = am_T d 57 34 ls (.int 2 :: st) S I J Q := tr_iconst (m := 2) (by decide +kernel) (by decide)
theorem r57_34 : am_T d 57 34 ls (.int x0 :: st) S I J Q = ((0 ≤ x0.toInt ∧ x0.toInt < 10000) ∧ am_T d 57 36 ls (.ref S.length :: st) (S ++ [(21, x0.toNatClampNeg, fun _ => 0)]) (am_row I S.length (fun _ => 0)) (am_row J S.length (fun _ => 0)) Q) := tr_newa (t := .boolean) (by decide +kernel) (by decide)
theorem r57_36 : am_T d 57 36 ls (.ref a1 :: .ref a0 :: st) S I J Q = ((am_is S a0 8 ∧ a1 ≠ 0 ∧ a1 < S.length) ∧ am_T d 57 39 ls st (am_sr S a0 5 a1) I J Q) := tr_puta (k := 23) (by decide +kernel) (by decide +kernel) (by decide +kernel) (by decide +kernel)
theorem r57_39 : am_T d 57 39 [some (.ref a0), l1] st S I J Q = am_T d 57 40 [some (.ref a0), l1] (.ref a0 :: st) S I J Q := tr_aload_n (m := 0) (by decide +kernel) rfl
theorem r57_40 : am_T d 57 40 ls st S I J Q = am_T d 57 43 ls (.ref S.length :: st) (S ++ [(2, 3, fun _ => 0)]) (am_row I S.length (fun _ => 0)) (am_row J S.length (fun _ => 0)) Q := tr_new (k := 27) (by decide +kernel) (by decide +kernel)
theorem r57_43 : am_T d 57 43 ls (.ref a0 :: st) S I J Q = am_T d 57 44 ls (.ref a0 :: .ref a0 :: st) S I J Q := tr_dupa (by decide +kernel)
theorem r57_44 : am_T d 57 44 ls [.ref a0, .ref a11, .ref a10] S I J Q = am_C d 19 [.ref a0] S I J (fun r S I J => am_T d 57 47 ls (am_psh r [.ref a11, .ref a10]) S I J Q) := tr_spec (k := 29) (by decide +kernel) (Or.inr (by decide +kernel)) rfl rfl (Nat.le_of_ble_eq_true rfl)
theorem r57_47 : am_T d 57 47 ls (.ref a1 :: .ref a0 :: st) S I J Q = ((am_is S a0 8 ∧ a1 ≠ 0 ∧ a1 < S.length) ∧ am_T d 57 50 ls st (am_sr S a0 8 a1) I J Q) := tr_puta (k := 30) (by decide +kernel) (by decide +kernel) (by decide +kernel) (by decide +kernel)
theorem r57_50 : am_T d 57 50 [some (.ref a0), l1] st S I J Q = am_T d 57 51 [some (.ref a0), l1] (.ref a0 :: st) S I J Q := tr_aload_n (m := 0) (by decide +kernel) rfl
theorem r57_51 : am_T d 57 51 ls st S I J Q = am_T d 57 54 ls (.ref S.length :: st) (S ++ [(1, 7, fun _ => 0)]) (am_row I S.length (fun _ => 0)) (am_row J S.length (fun _ => 0)) Q := tr_new (k := 34) (by decide +kernel) (by decide +kernel)
theorem r57_54 : am_T d 57 54 ls (.ref a0 :: st) S I J Q = am_T d 57 55 ls (.ref a0 :: .ref a0 :: st) S I J Q := tr_dupa (by decide +kernel)
theorem r57_55 : am_T d 57 55 ls [.ref a0, .ref a11, .ref a10] S I J Q = am_C d 10 [.ref a0] S I J (fun r S I J => am_T d 57 58 ls (am_psh r [.ref a11, .ref a10]) S I J Q) := tr_spec (k := 36) (by decide +kernel) (Or.inl (by decide +kernel)) rfl rfl (Nat.le_of_ble_eq_true rfl)
theorem r57_58 : am_T d 57 58 ls (.ref a1 :: .ref a0 :: st) S I J Q = ((am_is S a0 8 ∧ a1 ≠ 0 ∧ a1 < S.length) ∧ am_T d 57 61 ls st (am_sr S a0 9 a1) I J Q) := tr_puta (k := 37) (by decide +kernel) (by decide +kernel) (by decide +kernel) (by decide +kernel)
theorem r57_61 : am_T d 57 61 [some (.ref a0), l1] st S I J Q = am_T d 57 62 [some (.ref a0), l1] (.ref a0 :: st) S I J Q := tr_aload_n (m := 0) (by decide +kernel) rfl
theorem r57_62 : am_T d 57 62 ls st S I J Q = am_T d 57 65 ls (.ref S.length :: st) (S ++ [(0, 5, fun _ => 0)]) (am_row I S.length (fun _ => 0)) (am_row J S.length (fun _ => 0)) Q := tr_new (k := 41) (by decide +kernel) (by decide +kernel)
theorem r57_65 : am_T d 57 65 ls (.ref a0 :: st) S I J Q = am_T d 57 66 ls (.ref a0 :: .ref a0 :: st) S I J Q := tr_dupa (by decide +kernel)
theorem r57_66 : am_T d 57 66 ls [.ref a0, .ref a11, .ref a10] S I J Q = am_C d 0 [.ref a0] S I J (fun r S I J => am_T d 57 69 ls (am_psh r [.ref a11, .ref a10]) S I J Q) := tr_spec (k := 43) (by decide +kernel) (Or.inr (by decide +kernel)) rfl rfl (Nat.le_of_ble_eq_true rfl)
theorem r57_69 : am_T d 57 69 ls (.ref a1 :: .ref a0 :: st) S I J Q = ((am_is S a0 8 ∧ a1 ≠ 0 ∧ a1 < S.length) ∧ am_T d 57 72 ls st (am_sr S a0 10 a1) I J Q) := tr_puta (k := 44) (by decide +kernel) (by decide +kernel) (by decide +kernel) (by decide +kernel)
theorem r57_72 : am_T d 57 72 [some (.ref a0), l1] st S I J Q = am_T d 57 73 [some (.ref a0), l1] (.ref a0 :: st) S I J Q := tr_aload_n (m := 0) (by decide +kernel) rfl
theorem r57_73 : am_T d 57 73 ls st S I J Q = am_T d 57 76 ls (.ref S.length :: st) (S ++ [(4, 7, fun _ => 0)]) (am_row I S.length (fun _ => 0)) (am_row J S.length (fun _ => 0)) Q := tr_new (k := 48) (by decide +kernel) (by decide +kernel)
theorem r57_76 : am_T d 57 76 ls (.ref a0 :: st) S I J Q = am_T d 57 77 ls (.ref a0 :: .ref a0 :: st) S I J Q := tr_dupa (by decide +kernel)
theorem r57_77 : am_T d 57 77 ls [.ref a0, .ref a11, .ref a10] S I J Q = am_C d 37 [.ref a0] S I J (fun r S I J => am_T d 57 80 ls (am_psh r [.ref a11, .ref a10]) S I J Q) := tr_spec (k := 50) (by decide +kernel) (Or.inr (by decide +kernel)) rfl rfl (Nat.le_of_ble_eq_true rfl)
theorem r57_80 : am_T d 57 80 ls (.ref a1 :: .ref a0 :: st) S I J Q = ((am_is S a0 8 ∧ a1 ≠ 0 ∧ a1 < S.length) ∧ am_T d 57 83 ls st (am_sr S a0 11 a1) I J Q) := tr_puta (k := 51) (by decide +kernel) (by decide +kernel) (by decide +kernel) (by decide +kernel)
theorem r57_83 : am_T d 57 83 [some (.ref a0), l1] st S I J Q = am_T d 57 84 [some (.ref a0), l1] (.ref a0 :: st) S I J Q := tr_aload_n (m := 0) (by decide +kernel) rfl
theorem r57_84 : am_T d 57 84 ls st S I J Q = am_T d 57 87 ls (.ref S.length :: st) (S ++ [(5, 3, fun _ => 0)]) (am_row I S.length (fun _ => 0)) (am_row J S.length (fun _ => 0)) Q := tr_new (k := 55) (by decide +kernel) (by decide +kernel)
theorem r57_87 : am_T d 57 87 ls (.ref a0 :: st) S I J Q = am_T d 57 88 ls (.ref a0 :: .ref a0 :: st) S I J Q := tr_dupa (by decide +kernel)
theorem r57_88 : am_T d 57 88 ls [.ref a0, .ref a11, .ref a10] S I J Q = am_C d 45 [.ref a0] S I J (fun r S I J => am_T d 57 91 ls (am_psh r [.ref a11, .ref a10]) S I J Q) := tr_spec (k := 57) (by decide +kernel) (Or.inr (by decide +kernel)) rfl rfl (Nat.le_of_ble_eq_true rfl)
theorem r57_91 : am_T d 57 91 ls (.ref a1 :: .ref a0 :: st) S I J Q = ((am_is S a0 8 ∧ a1 ≠ 0 ∧ a1 < S.length) ∧ am_T d 57 94 ls st (am_sr S a0 12 a1) I J Q) := tr_puta (k := 58) (by decide +kernel) (by decide +kernel) (by decide +kernel) (by decide +kernel)
theorem r57_94 : am_T d 57 94 [some (.ref a0), l1] st S I J Q = am_T d 57 95 [some (.ref a0), l1] (.ref a0 :: st) S I J Q := tr_aload_n (m := 0) (by decide +kernel) rfl
theorem r57_95 : am_T d 57 95 ls st S I J Q = am_T d 57 98 ls (.ref S.length :: st) (S ++ [(7, 1, fun _ => 0)]) (am_row I S.length (fun _ => 0)) (am_row J S.length (fun _ => 0)) Q := tr_new (k := 62) (by decide +kernel) (by decide +kernel)
theorem r57_98 : am_T d 57 98 ls (.ref a0 :: st) S I J Q = am_T d 57 99 ls (.ref a0 :: .ref a0 :: st) S I J Q := tr_dupa (by decide +kernel)
theorem r57_99 : am_T d 57 99 ls [.ref a0, .ref a11, .ref a10] S I J Q = am_C d 52 [.ref a0] S I J (fun r S I J => am_T d 57 102 ls (am_psh r [.ref a11, .ref a10]) S I J Q) := tr_spec (k := 64) (by decide +kernel) (Or.inr (by decide +kernel)) rfl rfl (Nat.le_of_ble_eq_true rfl)
theorem r57_102 : am_T d 57 102 ls (.ref a1 :: .ref a0 :: st) S I J Q = ((am_is S a0 8 ∧ a1 ≠ 0 ∧ a1 < S.length) ∧ am_T d 57 105 ls st (am_sr S a0 13 a1) I J Q) := tr_puta (k := 65) (by decide +kernel) (by decide +kernel) (by decide +kernel) (by decide +kernel)
theorem r57_105 : am_T d 57 105 ls st S I J Q = am_T d 57 106 ls (.int 0 :: st) S I J Q := tr_iconst (m := 0) (by decide +kernel) (by decide)
theorem r57_106 : am_T d 57 106 [l0, l1] (.int x0 :: st) S I J Q = am_T d 57 107 [am_clr l0, some (.int x0)] st S I J Q := tr_istore_n (m := 1) (by decide +kernel) (Nat.le_of_ble_eq_true rfl) rfl
theorem r57_107 : am_T d 57 107 [l0, some (.int x0)] st S I J Q = am_T d 57 108 [l0, some (.int x0)] (.int x0 :: st) S I J Q := tr_iload_n (m := 1) (by decide +kernel) rfl
theorem r57_108 : am_T d 57 108 ls st S I J Q = am_T d 57 110 ls (.int 8 :: st) S I J Q := tr_bipush (m := 8) (by decide +kernel) (by decide)
theorem r57_110 : am_T d 57 110 ls (.int x1 :: .int x0 :: st) S I J Q = if x1 ≤ x0 then am_T d 57 132 ls st S I J Q else am_T d 57 113 ls st S I J Q := tr_icmpge (o := 22) (by decide +kernel) rfl
theorem r57_113 : am_T d 57 113 [some (.ref a0), l1] st S I J Q = am_T d 57 114 [some (.ref a0), l1] (.ref a0 :: st) S I J Q := tr_aload_n (m := 0) (by decide +kernel) rfl
theorem r57_114 : am_T d 57 114 ls (.ref a0 :: st) S I J Q = ((am_is S a0 8 ∧ am_rf S a0 1 ≠ 0) ∧ am_T d 57 117 ls (.ref (am_rf S a0 1) :: st) S I J Q) := tr_geta (k := 16) (by decide +kernel) (by decide +kernel) (by decide +kernel)
theorem r57_117 : am_T d 57 117 [l0, some (.int x0)] st S I J Q = am_T d 57 118 [l0, some (.int x0)] (.int x0 :: st) S I J Q := tr_iload_n (m := 1) (by decide +kernel) rfl
theorem r57_118 : am_T d 57 118 ls st S I J Q = am_T d 57 121 ls (.ref S.length :: st) (S ++ [(6, 2, fun _ => 0)]) (am_row I S.length (fun _ => 0)) (am_row J S.length (fun _ => 0)) Q := tr_new (k := 9) (by decide +kernel) (by decide +kernel)
theorem r57_121 : am_T d 57 121 ls (.ref a0 :: st) S I J Q = am_T d 57 122 ls (.ref a0 :: .ref a0 :: st) S I J Q := tr_dupa (by decide +kernel)
theorem r57_122 : am_T d 57 122 ls [.ref a0, .ref a12, .int x11, .ref a10] S I J Q = am_C d 50 [.ref a0] S I J (fun r S I J => am_T d 57 125 ls (am_psh r [.ref a12, .int x11, .ref a10]) S I J Q) := tr_spec (k := 11) (by decide +kernel) (Or.inr (by decide +kernel)) rfl rfl (Nat.le_of_ble_eq_true rfl)
theorem r57_125 : am_T d 57 125 ls (.ref a1 :: .int x0 :: .ref a0 :: st) S I J Q = ((am_kd S a0 = 24 ∧ a0 ≠ 0 ∧ (0 ≤ x0.toInt ∧ x0.toInt < (am_ln S a0 : Int)) ∧ am_kd S a1 = 6 ∧ a1 ≠ 0) ∧ am_T d 57 126 ls st (am_sr S a0 x0.toNatClampNeg a1) I J Q) := tr_aast (by decide +kernel)
theorem r57_126 : am_T d 57 126 [l0, some (.int x0)] st S I J Q = am_T d 57 129 [am_clr l0, some (.int (x0 + 1))] st S I J Q := tr_iinc (k := 1) (m := 1) (by decide +kernel) rfl (Nat.le_of_ble_eq_true rfl) (by decide) rfl
theorem r57_129 : am_T d 57 129 ls st S I J Q = am_T d 57 107 ls st S I J Q := tr_goto (o := -22) (by decide +kernel) rfl
theorem r57_132 : am_T d 57 132 ls st S I J Q = am_T d 57 133 ls (.int 0 :: st) S I J Q := tr_iconst (m := 0) (by decide +kernel) (by decide)
theorem r57_133 : am_T d 57 133 [l0, l1] (.int x0 :: st) S I J Q = am_T d 57 134 [am_clr l0, some (.int x0)] st S I J Q := tr_istore_n (m := 1) (by decide +kernel) (Nat.le_of_ble_eq_true rfl) rfl
theorem r57_134 : am_T d 57 134 [l0, some (.int x0)] st S I J Q = am_T d 57 135 [l0, some (.int x0)] (.int x0 :: st) S I J Q := tr_iload_n (m := 1) (by decide +kernel) rfl
theorem r57_135 : am_T d 57 135 ls st S I J Q = am_T d 57 136 ls (.int 2 :: st) S I J Q := tr_iconst (m := 2) (by decide +kernel) (by decide)
theorem r57_136 : am_T d 57 136 ls (.int x1 :: .int x0 :: st) S I J Q = if x1 ≤ x0 then am_T d 57 158 ls st S I J Q else am_T d 57 139 ls st S I J Q := tr_icmpge (o := 22) (by decide +kernel) rfl
theorem r57_139 : am_T d 57 139 [some (.ref a0), l1] st S I J Q = am_T d 57 140 [some (.ref a0), l1] (.ref a0 :: st) S I J Q := tr_aload_n (m := 0) (by decide +kernel) rfl
theorem r57_140 : am_T d 57 140 ls (.ref a0 :: st) S I J Q = ((am_is S a0 8 ∧ am_rf S a0 4 ≠ 0) ∧ am_T d 57 143 ls (.ref (am_rf S a0 4) :: st) S I J Q) := tr_geta (k := 20) (by decide +kernel) (by decide +kernel) (by decide +kernel)
theorem r57_143 : am_T d 57 143 [l0, some (.int x0)] st S I J Q = am_T d 57 144 [l0, some (.int x0)] (.int x0 :: st) S I J Q := tr_iload_n (m := 1) (by decide +kernel) rfl
theorem r57_144 : am_T d 57 144 ls st S I J Q = am_T d 57 147 ls (.ref S.length :: st) (S ++ [(6, 2, fun _ => 0)]) (am_row I S.length (fun _ => 0)) (am_row J S.length (fun _ => 0)) Q := tr_new (k := 9) (by decide +kernel) (by decide +kernel)
theorem r57_147 : am_T d 57 147 ls (.ref a0 :: st) S I J Q = am_T d 57 148 ls (.ref a0 :: .ref a0 :: st) S I J Q := tr_dupa (by decide +kernel)
theorem r57_148 : am_T d 57 148 ls [.ref a0, .ref a12, .int x11, .ref a10] S I J Q = am_C d 50 [.ref a0] S I J (fun r S I J => am_T d 57 151 ls (am_psh r [.ref a12, .int x11, .ref a10]) S I J Q) := tr_spec (k := 11) (by decide +kernel) (Or.inr (by decide +kernel)) rfl rfl (Nat.le_of_ble_eq_true rfl)
theorem r57_151 : am_T d 57 151 ls (.ref a1 :: .int x0 :: .ref a0 :: st) S I J Q = ((am_kd S a0 = 24 ∧ a0 ≠ 0 ∧ (0 ≤ x0.toInt ∧ x0.toInt < (am_ln S a0 : Int)) ∧ am_kd S a1 = 6 ∧ a1 ≠ 0) ∧ am_T d 57 152 ls st (am_sr S a0 x0.toNatClampNeg a1) I J Q) := tr_aast (by decide +kernel)
theorem r57_152 : am_T d 57 152 [l0, some (.int x0)] st S I J Q = am_T d 57 155 [am_clr l0, some (.int (x0 + 1))] st S I J Q := tr_iinc (k := 1) (m := 1) (by decide +kernel) rfl (Nat.le_of_ble_eq_true rfl) (by decide) rfl
theorem r57_155 : am_T d 57 155 ls st S I J Q = am_T d 57 134 ls st S I J Q := tr_goto (o := -21) (by decide +kernel) rfl
theorem r57_158 : am_T d 57 158 ls [] S I J Q = Q none S I J := tr_vret (by decide +kernel) (by decide +kernel)
-- 58 Fin.begin(II)I; heads []
theorem e58 : am_C (d + 1) 58 [.ref a0, .int x1, .int x2] S I J Q = am_T d 58 0 [some (.ref a0), some (.int x1), some (.int x2), none] [] S I J Q := tr_en (Nat.le_of_ble_eq_true rfl) rfl
theorem r58_0 : am_T d 58 0 [l0, some (.int x0), l2, l3] st S I J Q = am_T d 58 1 [l0, some (.int x0), l2, l3] (.int x0 :: st) S I J Q := tr_iload_n (m := 1) (by decide +kernel) rfl
theorem r58_1 : am_T d 58 1 ls st S I J Q = am_T d 58 2 ls (.int 2 :: st) S I J Q := tr_iconst (m := 2) (by decide +kernel) (by decide)
theorem r58_2 : am_T d 58 2 ls (.int x1 :: .int x0 :: st) S I J Q = if x0 < x1 then am_T d 58 11 ls st S I J Q else am_T d 58 5 ls st S I J Q := tr_icmplt (o := 9) (by decide +kernel) rfl
theorem r58_5 : am_T d 58 5 [l0, some (.int x0), l2, l3] st S I J Q = am_T d 58 6 [l0, some (.int x0), l2, l3] (.int x0 :: st) S I J Q := tr_iload_n (m := 1) (by decide +kernel) rfl
theorem r58_6 : am_T d 58 6 ls st S I J Q = am_T d 58 8 ls (.int 8 :: st) S I J Q := tr_bipush (m := 8) (by decide +kernel) (by decide)
theorem r58_8 : am_T d 58 8 ls (.int x1 :: .int x0 :: st) S I J Q = if x0 ≤ x1 then am_T d 58 14 ls st S I J Q else am_T d 58 11 ls st S I J Q := tr_icmple (o := 6) (by decide +kernel) rfl
theorem r58_11 : am_T d 58 11 ls st S I J Q = am_T d 58 13 ls (.int (-103) :: st) S I J Q := tr_bipush (m := -103) (by decide +kernel) (by decide)
theorem r58_13 : am_T d 58 13 ls [.int x0] S I J Q = Q (some (.int x0)) S I J := tr_ireti (by decide +kernel) (by decide +kernel)
theorem r58_14 : am_T d 58 14 [l0, l1, some (.int x0), l3] st S I J Q = am_T d 58 15 [l0, l1, some (.int x0), l3] (.int x0 :: st) S I J Q := tr_iload_n (m := 2) (by decide +kernel) rfl
theorem r58_15 : am_T d 58 15 ls (.int x0 :: st) S I J Q = if x0 < 0 then am_T d 58 23 ls st S I J Q else am_T d 58 18 ls st S I J Q := tr_iflt (o := 8) (by decide +kernel) rfl
theorem r58_18 : am_T d 58 18 [l0, l1, some (.int x0), l3] st S I J Q = am_T d 58 19 [l0, l1, some (.int x0), l3] (.int x0 :: st) S I J Q := tr_iload_n (m := 2) (by decide +kernel) rfl
theorem r58_19 : am_T d 58 19 [l0, some (.int x0), l2, l3] st S I J Q = am_T d 58 20 [l0, some (.int x0), l2, l3] (.int x0 :: st) S I J Q := tr_iload_n (m := 1) (by decide +kernel) rfl
theorem r58_20 : am_T d 58 20 ls (.int x1 :: .int x0 :: st) S I J Q = if x0 < x1 then am_T d 58 26 ls st S I J Q else am_T d 58 23 ls st S I J Q := tr_icmplt (o := 6) (by decide +kernel) rfl
theorem r58_23 : am_T d 58 23 ls st S I J Q = am_T d 58 25 ls (.int (-101) :: st) S I J Q := tr_bipush (m := -101) (by decide +kernel) (by decide)
theorem r58_25 : am_T d 58 25 ls [.int x0] S I J Q = Q (some (.int x0)) S I J := tr_ireti (by decide +kernel) (by decide +kernel)
theorem r58_26 : am_T d 58 26 [some (.ref a0), l1, l2, l3] st S I J Q = am_T d 58 27 [some (.ref a0), l1, l2, l3] (.ref a0 :: st) S I J Q := tr_aload_n (m := 0) (by decide +kernel) rfl
theorem r58_27 : am_T d 58 27 ls (.ref a0 :: st) S I J Q = ((am_is S a0 8 ∧ am_rf S a0 0 ≠ 0) ∧ am_T d 58 30 ls (.ref (am_rf S a0 0) :: st) S I J Q) := tr_geta (k := 12) (by decide +kernel) (by decide +kernel) (by decide +kernel)
theorem r58_30 : am_T d 58 30 ls (.ref a0 :: st) S I J Q = ((am_is S a0 6 ∧ am_rf S a0 0 ≠ 0) ∧ am_T d 58 33 ls (.ref (am_rf S a0 0) :: st) S I J Q) := tr_geta (k := 69) (by decide +kernel) (by decide +kernel) (by decide +kernel)
theorem r58_33 : am_T d 58 33 ls (.ref a0 :: st) S I J Q = (am_is S a0 1 ∧ am_T d 58 36 ls (.int (I a0 0) :: st) S I J Q) := tr_geti (k := 72) (by decide +kernel) (by decide +kernel) (Or.inl (by decide +kernel))
theorem r58_36 : am_T d 58 36 [l0, l1, l2, l3] (.int x0 :: st) S I J Q = am_T d 58 37 [l0, l1, am_clr l2, some (.int x0)] st S I J Q := tr_istore_n (m := 3) (by decide +kernel) (Nat.le_of_ble_eq_true rfl) rfl
theorem r58_37 : am_T d 58 37 [some (.ref a0), l1, l2, l3] st S I J Q = am_T d 58 38 [some (.ref a0), l1, l2, l3] (.ref a0 :: st) S I J Q := tr_aload_n (m := 0) (by decide +kernel) rfl
theorem r58_38 : am_T d 58 38 ls [.ref a0] S I J Q = (am_is S a0 8 ∧ am_C d 97 [.ref a0] S I J (fun r S I J => am_T d 58 41 ls (am_psh r []) S I J Q)) := tr_virt (k := 76) (by decide +kernel) (by decide +kernel) rfl rfl (Nat.le_of_ble_eq_true rfl) (by decide +kernel)
theorem r58_41 : am_T d 58 41 [some (.ref a0), l1, l2, l3] st S I J Q = am_T d 58 42 [some (.ref a0), l1, l2, l3] (.ref a0 :: st) S I J Q := tr_aload_n (m := 0) (by decide +kernel) rfl
theorem r58_42 : am_T d 58 42 ls (.ref a0 :: st) S I J Q = ((am_is S a0 8 ∧ am_rf S a0 0 ≠ 0) ∧ am_T d 58 45 ls (.ref (am_rf S a0 0) :: st) S I J Q) := tr_geta (k := 12) (by decide +kernel) (by decide +kernel) (by decide +kernel)
theorem r58_45 : am_T d 58 45 ls (.ref a0 :: st) S I J Q = ((am_is S a0 6 ∧ am_rf S a0 0 ≠ 0) ∧ am_T d 58 48 ls (.ref (am_rf S a0 0) :: st) S I J Q) := tr_geta (k := 69) (by decide +kernel) (by decide +kernel) (by decide +kernel)
theorem r58_48 : am_T d 58 48 [l0, some (.int x0), l2, l3] st S I J Q = am_T d 58 49 [l0, some (.int x0), l2, l3] (.int x0 :: st) S I J Q := tr_iload_n (m := 1) (by decide +kernel) rfl
theorem r58_49 : am_T d 58 49 [l0, l1, some (.int x0), l3] st S I J Q = am_T d 58 50 [l0, l1, some (.int x0), l3] (.int x0 :: st) S I J Q := tr_iload_n (m := 2) (by decide +kernel) rfl
theorem r58_50 : am_T d 58 50 ls [.int x2, .int x1, .ref a0] S I J Q = (am_is S a0 1 ∧ am_C d 11 [.ref a0, .int x1, .int x2] S I J (fun r S I J => am_T d 58 53 ls (am_psh r []) S I J Q)) := tr_virt (k := 79) (by decide +kernel) (by decide +kernel) rfl rfl (Nat.le_of_ble_eq_true rfl) (by decide +kernel)
theorem r58_53 : am_T d 58 53 [some (.ref a0), l1, l2, l3] st S I J Q = am_T d 58 54 [some (.ref a0), l1, l2, l3] (.ref a0 :: st) S I J Q := tr_aload_n (m := 0) (by decide +kernel) rfl
theorem r58_54 : am_T d 58 54 ls st S I J Q = am_T d 58 55 ls (.int 0 :: st) S I J Q := tr_iconst (m := 0) (by decide +kernel) (by decide)
theorem r58_55 : am_T d 58 55 ls [.int x1, .ref a0] S I J Q = (am_is S a0 8 ∧ am_C d 98 [.ref a0, .int x1] S I J (fun r S I J => am_T d 58 58 ls (am_psh r []) S I J Q)) := tr_virt (k := 83) (by decide +kernel) (by decide +kernel) rfl rfl (Nat.le_of_ble_eq_true rfl) (by decide +kernel)
theorem r58_58 : am_T d 58 58 [l0, l1, l2, some (.int x0)] st S I J Q = am_T d 58 59 [l0, l1, l2, some (.int x0)] (.int x0 :: st) S I J Q := tr_iload_n (m := 3) (by decide +kernel) rfl
theorem r58_59 : am_T d 58 59 ls [.int x0] S I J Q = Q (some (.int x0)) S I J := tr_ireti (by decide +kernel) (by decide +kernel)
-- 59 Fin.addArc(III)I; heads []
theorem e59 : am_C (d + 1) 59 [.ref a0, .int x1, .int x2, .int x3] S I J Q = am_T d 59 0 [some (.ref a0), some (.int x1), some (.int x2), some (.int x3), none, none] [] S I J Q := tr_en (Nat.le_of_ble_eq_true rfl) rfl
theorem r59_0 : am_T d 59 0 [some (.ref a0), l1, l2, l3, l4, l5] st S I J Q = am_T d 59 1 [some (.ref a0), l1, l2, l3, l4, l5] (.ref a0 :: st) S I J Q := tr_aload_n (m := 0) (by decide +kernel) rfl
theorem r59_1 : am_T d 59 1 ls (.ref a0 :: st) S I J Q = ((am_is S a0 8 ∧ am_rf S a0 0 ≠ 0) ∧ am_T d 59 4 ls (.ref (am_rf S a0 0) :: st) S I J Q) := tr_geta (k := 12) (by decide +kernel) (by decide +kernel) (by decide +kernel)
theorem r59_4 : am_T d 59 4 ls (.ref a0 :: st) S I J Q = ((am_is S a0 6 ∧ am_rf S a0 0 ≠ 0) ∧ am_T d 59 7 ls (.ref (am_rf S a0 0) :: st) S I J Q) := tr_geta (k := 69) (by decide +kernel) (by decide +kernel) (by decide +kernel)
theorem r59_7 : am_T d 59 7 [l0, l1, l2, l3, l4, l5] (.ref a0 :: st) S I J Q = am_T d 59 9 [l0, l1, l2, am_clr l3, some (.ref a0), l5] st S I J Q := tr_astore (k := 4) (by decide +kernel) (Nat.le_of_ble_eq_true rfl) rfl
theorem r59_9 : am_T d 59 9 [l0, l1, l2, l3, some (.ref a0), l5] st S I J Q = am_T d 59 11 [l0, l1, l2, l3, some (.ref a0), l5] (.ref a0 :: st) S I J Q := tr_aload (k := 4) (by decide +kernel) rfl
theorem r59_11 : am_T d 59 11 [l0, some (.int x0), l2, l3, l4, l5] st S I J Q = am_T d 59 12 [l0, some (.int x0), l2, l3, l4, l5] (.int x0 :: st) S I J Q := tr_iload_n (m := 1) (by decide +kernel) rfl
theorem r59_12 : am_T d 59 12 ls [.int x1, .ref a0] S I J Q = (am_is S a0 1 ∧ am_C d 13 [.ref a0, .int x1] S I J (fun r S I J => am_T d 59 15 ls (am_psh r []) S I J Q)) := tr_virt (k := 87) (by decide +kernel) (by decide +kernel) rfl rfl (Nat.le_of_ble_eq_true rfl) (by decide +kernel)
theorem r59_15 : am_T d 59 15 ls (.int x0 :: st) S I J Q = if x0 = 0 then am_T d 59 32 ls st S I J Q else am_T d 59 18 ls st S I J Q := tr_ifeq (o := 17) (by decide +kernel) rfl
theorem r59_18 : am_T d 59 18 [l0, l1, l2, l3, some (.ref a0), l5] st S I J Q = am_T d 59 20 [l0, l1, l2, l3, some (.ref a0), l5] (.ref a0 :: st) S I J Q := tr_aload (k := 4) (by decide +kernel) rfl
theorem r59_20 : am_T d 59 20 [l0, l1, some (.int x0), l3, l4, l5] st S I J Q = am_T d 59 21 [l0, l1, some (.int x0), l3, l4, l5] (.int x0 :: st) S I J Q := tr_iload_n (m := 2) (by decide +kernel) rfl
theorem r59_21 : am_T d 59 21 ls [.int x1, .ref a0] S I J Q = (am_is S a0 1 ∧ am_C d 13 [.ref a0, .int x1] S I J (fun r S I J => am_T d 59 24 ls (am_psh r []) S I J Q)) := tr_virt (k := 87) (by decide +kernel) (by decide +kernel) rfl rfl (Nat.le_of_ble_eq_true rfl) (by decide +kernel)
theorem r59_24 : am_T d 59 24 ls (.int x0 :: st) S I J Q = if x0 = 0 then am_T d 59 32 ls st S I J Q else am_T d 59 27 ls st S I J Q := tr_ifeq (o := 8) (by decide +kernel) rfl
theorem r59_27 : am_T d 59 27 [l0, some (.int x0), l2, l3, l4, l5] st S I J Q = am_T d 59 28 [l0, some (.int x0), l2, l3, l4, l5] (.int x0 :: st) S I J Q := tr_iload_n (m := 1) (by decide +kernel) rfl
theorem r59_28 : am_T d 59 28 [l0, l1, some (.int x0), l3, l4, l5] st S I J Q = am_T d 59 29 [l0, l1, some (.int x0), l3, l4, l5] (.int x0 :: st) S I J Q := tr_iload_n (m := 2) (by decide +kernel) rfl
theorem r59_29 : am_T d 59 29 ls (.int x1 :: .int x0 :: st) S I J Q = if x0 = x1 then am_T d 59 32 ls st S I J Q else am_T d 59 35 ls st S I J Q := tr_icmpne (o := 6) (by decide +kernel) rfl
theorem r59_32 : am_T d 59 32 ls st S I J Q = am_T d 59 34 ls (.int (-101) :: st) S I J Q := tr_bipush (m := -101) (by decide +kernel) (by decide)
theorem r59_34 : am_T d 59 34 ls [.int x0] S I J Q = Q (some (.int x0)) S I J := tr_ireti (by decide +kernel) (by decide +kernel)
theorem r59_35 : am_T d 59 35 [l0, l1, l2, some (.int x0), l4, l5] st S I J Q = am_T d 59 36 [l0, l1, l2, some (.int x0), l4, l5] (.int x0 :: st) S I J Q := tr_iload_n (m := 3) (by decide +kernel) rfl
theorem r59_36 : am_T d 59 36 ls (.int x0 :: st) S I J Q = if x0 < 0 then am_T d 59 45 ls st S I J Q else am_T d 59 39 ls st S I J Q := tr_iflt (o := 9) (by decide +kernel) rfl
theorem r59_39 : am_T d 59 39 [l0, l1, l2, some (.int x0), l4, l5] st S I J Q = am_T d 59 40 [l0, l1, l2, some (.int x0), l4, l5] (.int x0 :: st) S I J Q := tr_iload_n (m := 3) (by decide +kernel) rfl
theorem r59_40 : am_T d 59 40 ls st S I J Q = am_T d 59 42 ls (.int 99 :: st) S I J Q := tr_bipush (m := 99) (by decide +kernel) (by decide)
theorem r59_42 : am_T d 59 42 ls (.int x1 :: .int x0 :: st) S I J Q = if x0 ≤ x1 then am_T d 59 48 ls st S I J Q else am_T d 59 45 ls st S I J Q := tr_icmple (o := 6) (by decide +kernel) rfl
theorem r59_45 : am_T d 59 45 ls st S I J Q = am_T d 59 47 ls (.int (-103) :: st) S I J Q := tr_bipush (m := -103) (by decide +kernel) (by decide)
theorem r59_47 : am_T d 59 47 ls [.int x0] S I J Q = Q (some (.int x0)) S I J := tr_ireti (by decide +kernel) (by decide +kernel)
theorem r59_48 : am_T d 59 48 [l0, l1, l2, l3, some (.ref a0), l5] st S I J Q = am_T d 59 50 [l0, l1, l2, l3, some (.ref a0), l5] (.ref a0 :: st) S I J Q := tr_aload (k := 4) (by decide +kernel) rfl
theorem r59_50 : am_T d 59 50 ls (.ref a0 :: st) S I J Q = (am_is S a0 1 ∧ am_T d 59 53 ls (.int (I a0 2) :: st) S I J Q) := tr_geti (k := 91) (by decide +kernel) (by decide +kernel) (Or.inl (by decide +kernel))
theorem r59_53 : am_T d 59 53 ls st S I J Q = am_T d 59 55 ls (.int 32 :: st) S I J Q := tr_bipush (m := 32) (by decide +kernel) (by decide)
theorem r59_55 : am_T d 59 55 ls (.int x1 :: .int x0 :: st) S I J Q = if x0 < x1 then am_T d 59 61 ls st S I J Q else am_T d 59 58 ls st S I J Q := tr_icmplt (o := 6) (by decide +kernel) rfl
theorem r59_58 : am_T d 59 58 ls st S I J Q = am_T d 59 60 ls (.int (-104) :: st) S I J Q := tr_bipush (m := -104) (by decide +kernel) (by decide)
theorem r59_60 : am_T d 59 60 ls [.int x0] S I J Q = Q (some (.int x0)) S I J := tr_ireti (by decide +kernel) (by decide +kernel)
theorem r59_61 : am_T d 59 61 [some (.ref a0), l1, l2, l3, l4, l5] st S I J Q = am_T d 59 62 [some (.ref a0), l1, l2, l3, l4, l5] (.ref a0 :: st) S I J Q := tr_aload_n (m := 0) (by decide +kernel) rfl
theorem r59_62 : am_T d 59 62 ls [.ref a0] S I J Q = (am_is S a0 8 ∧ am_C d 97 [.ref a0] S I J (fun r S I J => am_T d 59 65 ls (am_psh r []) S I J Q)) := tr_virt (k := 76) (by decide +kernel) (by decide +kernel) rfl rfl (Nat.le_of_ble_eq_true rfl) (by decide +kernel)
theorem r59_65 : am_T d 59 65 [l0, l1, l2, l3, some (.ref a0), l5] st S I J Q = am_T d 59 67 [l0, l1, l2, l3, some (.ref a0), l5] (.ref a0 :: st) S I J Q := tr_aload (k := 4) (by decide +kernel) rfl
theorem r59_67 : am_T d 59 67 ls (.ref a0 :: st) S I J Q = (am_is S a0 1 ∧ am_T d 59 70 ls (.int (I a0 2) :: st) S I J Q) := tr_geti (k := 91) (by decide +kernel) (by decide +kernel) (Or.inl (by decide +kernel))
theorem r59_70 : am_T d 59 70 [l0, l1, l2, l3, l4, l5] (.int x0 :: st) S I J Q = am_T d 59 72 [l0, l1, l2, l3, am_clr l4, some (.int x0)] st S I J Q := tr_istore (k := 5) (by decide +kernel) (Nat.le_of_ble_eq_true rfl) rfl
theorem r59_72 : am_T d 59 72 [l0, l1, l2, l3, some (.ref a0), l5] st S I J Q = am_T d 59 74 [l0, l1, l2, l3, some (.ref a0), l5] (.ref a0 :: st) S I J Q := tr_aload (k := 4) (by decide +kernel) rfl
theorem r59_74 : am_T d 59 74 [l0, some (.int x0), l2, l3, l4, l5] st S I J Q = am_T d 59 75 [l0, some (.int x0), l2, l3, l4, l5] (.int x0 :: st) S I J Q := tr_iload_n (m := 1) (by decide +kernel) rfl
theorem r59_75 : am_T d 59 75 [l0, l1, some (.int x0), l3, l4, l5] st S I J Q = am_T d 59 76 [l0, l1, some (.int x0), l3, l4, l5] (.int x0 :: st) S I J Q := tr_iload_n (m := 2) (by decide +kernel) rfl
theorem r59_76 : am_T d 59 76 [l0, l1, l2, some (.int x0), l4, l5] st S I J Q = am_T d 59 77 [l0, l1, l2, some (.int x0), l4, l5] (.int x0 :: st) S I J Q := tr_iload_n (m := 3) (by decide +kernel) rfl
theorem r59_77 : am_T d 59 77 ls [.int x3, .int x2, .int x1, .ref a0] S I J Q = (am_is S a0 1 ∧ am_C d 15 [.ref a0, .int x1, .int x2, .int x3] S I J (fun r S I J => am_T d 59 80 ls (am_psh r []) S I J Q)) := tr_virt (k := 94) (by decide +kernel) (by decide +kernel) rfl rfl (Nat.le_of_ble_eq_true rfl) (by decide +kernel)
theorem r59_80 : am_T d 59 80 [some (.ref a0), l1, l2, l3, l4, l5] st S I J Q = am_T d 59 81 [some (.ref a0), l1, l2, l3, l4, l5] (.ref a0 :: st) S I J Q := tr_aload_n (m := 0) (by decide +kernel) rfl
theorem r59_81 : am_T d 59 81 [some (.ref a0), l1, l2, l3, l4, l5] st S I J Q = am_T d 59 82 [some (.ref a0), l1, l2, l3, l4, l5] (.ref a0 :: st) S I J Q := tr_aload_n (m := 0) (by decide +kernel) rfl
theorem r59_82 : am_T d 59 82 ls (.ref a0 :: st) S I J Q = ((am_is S a0 8 ∧ am_rf S a0 0 ≠ 0) ∧ am_T d 59 85 ls (.ref (am_rf S a0 0) :: st) S I J Q) := tr_geta (k := 12) (by decide +kernel) (by decide +kernel) (by decide +kernel)
theorem r59_85 : am_T d 59 85 ls (.ref a0 :: st) S I J Q = ((am_is S a0 6 ∧ am_rf S a0 1 ≠ 0) ∧ am_T d 59 88 ls (.ref (am_rf S a0 1) :: st) S I J Q) := tr_geta (k := 98) (by decide +kernel) (by decide +kernel) (by decide +kernel)
theorem r59_88 : am_T d 59 88 [l0, l1, l2, l3, some (.ref a0), l5] st S I J Q = am_T d 59 90 [l0, l1, l2, l3, some (.ref a0), l5] (.ref a0 :: st) S I J Q := tr_aload (k := 4) (by decide +kernel) rfl
theorem r59_90 : am_T d 59 90 [l0, l1, l2, l3, l4, some (.int x0)] st S I J Q = am_T d 59 92 [l0, l1, l2, l3, l4, some (.int x0)] (.int x0 :: st) S I J Q := tr_iload (k := 5) (by decide +kernel) rfl
theorem r59_92 : am_T d 59 92 ls [.int x2, .ref a1, .ref a0, .ref a10] S I J Q = (am_is S a0 3 ∧ am_C d 34 [.ref a0, .ref a1, .int x2] S I J (fun r S I J => am_T d 59 95 ls (am_psh r [.ref a10]) S I J Q)) := tr_virt (k := 102) (by decide +kernel) (by decide +kernel) rfl rfl (Nat.le_of_ble_eq_true rfl) (by decide +kernel)
theorem r59_95 : am_T d 59 95 ls [.int x1, .ref a0] S I J Q = (am_is S a0 8 ∧ am_C d 98 [.ref a0, .int x1] S I J (fun r S I J => am_T d 59 98 ls (am_psh r []) S I J Q)) := tr_virt (k := 83) (by decide +kernel) (by decide +kernel) rfl rfl (Nat.le_of_ble_eq_true rfl) (by decide +kernel)
theorem r59_98 : am_T d 59 98 [l0, l1, l2, l3, l4, some (.int x0)] st S I J Q = am_T d 59 100 [l0, l1, l2, l3, l4, some (.int x0)] (.int x0 :: st) S I J Q := tr_iload (k := 5) (by decide +kernel) rfl
theorem r59_100 : am_T d 59 100 ls [.int x0] S I J Q = Q (some (.int x0)) S I J := tr_ireti (by decide +kernel) (by decide +kernel)
-- 60 Fin.removeArc(I)I; heads []
theorem e60 : am_C (d + 1) 60 [.ref a0, .int x1] S I J Q = am_T d 60 0 [some (.ref a0), some (.int x1), none] [] S I J Q := tr_en (Nat.le_of_ble_eq_true rfl) rfl
theorem r60_0 : am_T d 60 0 [some (.ref a0), l1, l2] st S I J Q = am_T d 60 1 [some (.ref a0), l1, l2] (.ref a0 :: st) S I J Q := tr_aload_n (m := 0) (by decide +kernel) rfl
theorem r60_1 : am_T d 60 1 ls (.ref a0 :: st) S I J Q = ((am_is S a0 8 ∧ am_rf S a0 0 ≠ 0) ∧ am_T d 60 4 ls (.ref (am_rf S a0 0) :: st) S I J Q) := tr_geta (k := 12) (by decide +kernel) (by decide +kernel) (by decide +kernel)
theorem r60_4 : am_T d 60 4 ls (.ref a0 :: st) S I J Q = ((am_is S a0 6 ∧ am_rf S a0 0 ≠ 0) ∧ am_T d 60 7 ls (.ref (am_rf S a0 0) :: st) S I J Q) := tr_geta (k := 69) (by decide +kernel) (by decide +kernel) (by decide +kernel)
theorem r60_7 : am_T d 60 7 [l0, l1, l2] (.ref a0 :: st) S I J Q = am_T d 60 8 [l0, am_clr l1, some (.ref a0)] st S I J Q := tr_astore_n (m := 2) (by decide +kernel) (Nat.le_of_ble_eq_true rfl) rfl
theorem r60_8 : am_T d 60 8 [l0, l1, some (.ref a0)] st S I J Q = am_T d 60 9 [l0, l1, some (.ref a0)] (.ref a0 :: st) S I J Q := tr_aload_n (m := 2) (by decide +kernel) rfl
theorem r60_9 : am_T d 60 9 [l0, some (.int x0), l2] st S I J Q = am_T d 60 10 [l0, some (.int x0), l2] (.int x0 :: st) S I J Q := tr_iload_n (m := 1) (by decide +kernel) rfl
theorem r60_10 : am_T d 60 10 ls [.int x1, .ref a0] S I J Q = (am_is S a0 1 ∧ am_C d 14 [.ref a0, .int x1] S I J (fun r S I J => am_T d 60 13 ls (am_psh r []) S I J Q)) := tr_virt (k := 108) (by decide +kernel) (by decide +kernel) rfl rfl (Nat.le_of_ble_eq_true rfl) (by decide +kernel)
theorem r60_13 : am_T d 60 13 ls (.int x0 :: st) S I J Q = if x0 = 0 then am_T d 60 16 ls st S I J Q else am_T d 60 19 ls st S I J Q := tr_ifne (o := 6) (by decide +kernel) rfl
theorem r60_16 : am_T d 60 16 ls st S I J Q = am_T d 60 18 ls (.int (-102) :: st) S I J Q := tr_bipush (m := -102) (by decide +kernel) (by decide)
theorem r60_18 : am_T d 60 18 ls [.int x0] S I J Q = Q (some (.int x0)) S I J := tr_ireti (by decide +kernel) (by decide +kernel)
theorem r60_19 : am_T d 60 19 [some (.ref a0), l1, l2] st S I J Q = am_T d 60 20 [some (.ref a0), l1, l2] (.ref a0 :: st) S I J Q := tr_aload_n (m := 0) (by decide +kernel) rfl
theorem r60_20 : am_T d 60 20 ls [.ref a0] S I J Q = (am_is S a0 8 ∧ am_C d 97 [.ref a0] S I J (fun r S I J => am_T d 60 23 ls (am_psh r []) S I J Q)) := tr_virt (k := 76) (by decide +kernel) (by decide +kernel) rfl rfl (Nat.le_of_ble_eq_true rfl) (by decide +kernel)
theorem r60_23 : am_T d 60 23 [some (.ref a0), l1, l2] st S I J Q = am_T d 60 24 [some (.ref a0), l1, l2] (.ref a0 :: st) S I J Q := tr_aload_n (m := 0) (by decide +kernel) rfl
theorem r60_24 : am_T d 60 24 [some (.ref a0), l1, l2] st S I J Q = am_T d 60 25 [some (.ref a0), l1, l2] (.ref a0 :: st) S I J Q := tr_aload_n (m := 0) (by decide +kernel) rfl
theorem r60_25 : am_T d 60 25 ls (.ref a0 :: st) S I J Q = ((am_is S a0 8 ∧ am_rf S a0 0 ≠ 0) ∧ am_T d 60 28 ls (.ref (am_rf S a0 0) :: st) S I J Q) := tr_geta (k := 12) (by decide +kernel) (by decide +kernel) (by decide +kernel)
theorem r60_28 : am_T d 60 28 ls (.ref a0 :: st) S I J Q = ((am_is S a0 6 ∧ am_rf S a0 1 ≠ 0) ∧ am_T d 60 31 ls (.ref (am_rf S a0 1) :: st) S I J Q) := tr_geta (k := 98) (by decide +kernel) (by decide +kernel) (by decide +kernel)
theorem r60_31 : am_T d 60 31 [l0, l1, some (.ref a0)] st S I J Q = am_T d 60 32 [l0, l1, some (.ref a0)] (.ref a0 :: st) S I J Q := tr_aload_n (m := 2) (by decide +kernel) rfl
theorem r60_32 : am_T d 60 32 [l0, some (.int x0), l2] st S I J Q = am_T d 60 33 [l0, some (.int x0), l2] (.int x0 :: st) S I J Q := tr_iload_n (m := 1) (by decide +kernel) rfl
theorem r60_33 : am_T d 60 33 ls [.int x2, .ref a1, .ref a0, .ref a10] S I J Q = (am_is S a0 3 ∧ am_C d 35 [.ref a0, .ref a1, .int x2] S I J (fun r S I J => am_T d 60 36 ls (am_psh r [.ref a10]) S I J Q)) := tr_virt (k := 111) (by decide +kernel) (by decide +kernel) rfl rfl (Nat.le_of_ble_eq_true rfl) (by decide +kernel)
theorem r60_36 : am_T d 60 36 ls [.int x1, .ref a0] S I J Q = (am_is S a0 8 ∧ am_C d 98 [.ref a0, .int x1] S I J (fun r S I J => am_T d 60 39 ls (am_psh r []) S I J Q)) := tr_virt (k := 83) (by decide +kernel) (by decide +kernel) rfl rfl (Nat.le_of_ble_eq_true rfl) (by decide +kernel)
theorem r60_39 : am_T d 60 39 [l0, l1, some (.ref a0)] st S I J Q = am_T d 60 40 [l0, l1, some (.ref a0)] (.ref a0 :: st) S I J Q := tr_aload_n (m := 2) (by decide +kernel) rfl
theorem r60_40 : am_T d 60 40 [l0, some (.int x0), l2] st S I J Q = am_T d 60 41 [l0, some (.int x0), l2] (.int x0 :: st) S I J Q := tr_iload_n (m := 1) (by decide +kernel) rfl
theorem r60_41 : am_T d 60 41 ls [.int x1, .ref a0] S I J Q = (am_is S a0 1 ∧ am_C d 16 [.ref a0, .int x1] S I J (fun r S I J => am_T d 60 44 ls (am_psh r []) S I J Q)) := tr_virt (k := 114) (by decide +kernel) (by decide +kernel) rfl rfl (Nat.le_of_ble_eq_true rfl) (by decide +kernel)
theorem r60_44 : am_T d 60 44 [l0, l1, some (.ref a0)] st S I J Q = am_T d 60 45 [l0, l1, some (.ref a0)] (.ref a0 :: st) S I J Q := tr_aload_n (m := 2) (by decide +kernel) rfl
theorem r60_45 : am_T d 60 45 ls (.ref a0 :: st) S I J Q = (am_is S a0 1 ∧ am_T d 60 48 ls (.int (I a0 2) :: st) S I J Q) := tr_geti (k := 91) (by decide +kernel) (by decide +kernel) (Or.inl (by decide +kernel))
theorem r60_48 : am_T d 60 48 ls [.int x0] S I J Q = Q (some (.int x0)) S I J := tr_ireti (by decide +kernel) (by decide +kernel)
-- 61 Fin.setCost(II)I; heads []
theorem e61 : am_C (d + 1) 61 [.ref a0, .int x1, .int x2] S I J Q = am_T d 61 0 [some (.ref a0), some (.int x1), some (.int x2), none, none] [] S I J Q := tr_en (Nat.le_of_ble_eq_true rfl) rfl
theorem r61_0 : am_T d 61 0 [some (.ref a0), l1, l2, l3, l4] st S I J Q = am_T d 61 1 [some (.ref a0), l1, l2, l3, l4] (.ref a0 :: st) S I J Q := tr_aload_n (m := 0) (by decide +kernel) rfl
theorem r61_1 : am_T d 61 1 ls (.ref a0 :: st) S I J Q = ((am_is S a0 8 ∧ am_rf S a0 0 ≠ 0) ∧ am_T d 61 4 ls (.ref (am_rf S a0 0) :: st) S I J Q) := tr_geta (k := 12) (by decide +kernel) (by decide +kernel) (by decide +kernel)
theorem r61_4 : am_T d 61 4 ls (.ref a0 :: st) S I J Q = ((am_is S a0 6 ∧ am_rf S a0 0 ≠ 0) ∧ am_T d 61 7 ls (.ref (am_rf S a0 0) :: st) S I J Q) := tr_geta (k := 69) (by decide +kernel) (by decide +kernel) (by decide +kernel)
theorem r61_7 : am_T d 61 7 [l0, l1, l2, l3, l4] (.ref a0 :: st) S I J Q = am_T d 61 8 [l0, l1, am_clr l2, some (.ref a0), l4] st S I J Q := tr_astore_n (m := 3) (by decide +kernel) (Nat.le_of_ble_eq_true rfl) rfl
theorem r61_8 : am_T d 61 8 [l0, l1, l2, some (.ref a0), l4] st S I J Q = am_T d 61 9 [l0, l1, l2, some (.ref a0), l4] (.ref a0 :: st) S I J Q := tr_aload_n (m := 3) (by decide +kernel) rfl
theorem r61_9 : am_T d 61 9 [l0, some (.int x0), l2, l3, l4] st S I J Q = am_T d 61 10 [l0, some (.int x0), l2, l3, l4] (.int x0 :: st) S I J Q := tr_iload_n (m := 1) (by decide +kernel) rfl
theorem r61_10 : am_T d 61 10 ls [.int x1, .ref a0] S I J Q = (am_is S a0 1 ∧ am_C d 14 [.ref a0, .int x1] S I J (fun r S I J => am_T d 61 13 ls (am_psh r []) S I J Q)) := tr_virt (k := 108) (by decide +kernel) (by decide +kernel) rfl rfl (Nat.le_of_ble_eq_true rfl) (by decide +kernel)
theorem r61_13 : am_T d 61 13 ls (.int x0 :: st) S I J Q = if x0 = 0 then am_T d 61 16 ls st S I J Q else am_T d 61 19 ls st S I J Q := tr_ifne (o := 6) (by decide +kernel) rfl
theorem r61_16 : am_T d 61 16 ls st S I J Q = am_T d 61 18 ls (.int (-102) :: st) S I J Q := tr_bipush (m := -102) (by decide +kernel) (by decide)
theorem r61_18 : am_T d 61 18 ls [.int x0] S I J Q = Q (some (.int x0)) S I J := tr_ireti (by decide +kernel) (by decide +kernel)
theorem r61_19 : am_T d 61 19 [l0, l1, some (.int x0), l3, l4] st S I J Q = am_T d 61 20 [l0, l1, some (.int x0), l3, l4] (.int x0 :: st) S I J Q := tr_iload_n (m := 2) (by decide +kernel) rfl
theorem r61_20 : am_T d 61 20 ls (.int x0 :: st) S I J Q = if x0 < 0 then am_T d 61 29 ls st S I J Q else am_T d 61 23 ls st S I J Q := tr_iflt (o := 9) (by decide +kernel) rfl
theorem r61_23 : am_T d 61 23 [l0, l1, some (.int x0), l3, l4] st S I J Q = am_T d 61 24 [l0, l1, some (.int x0), l3, l4] (.int x0 :: st) S I J Q := tr_iload_n (m := 2) (by decide +kernel) rfl
theorem r61_24 : am_T d 61 24 ls st S I J Q = am_T d 61 26 ls (.int 99 :: st) S I J Q := tr_bipush (m := 99) (by decide +kernel) (by decide)
theorem r61_26 : am_T d 61 26 ls (.int x1 :: .int x0 :: st) S I J Q = if x0 ≤ x1 then am_T d 61 32 ls st S I J Q else am_T d 61 29 ls st S I J Q := tr_icmple (o := 6) (by decide +kernel) rfl
theorem r61_29 : am_T d 61 29 ls st S I J Q = am_T d 61 31 ls (.int (-103) :: st) S I J Q := tr_bipush (m := -103) (by decide +kernel) (by decide)
theorem r61_31 : am_T d 61 31 ls [.int x0] S I J Q = Q (some (.int x0)) S I J := tr_ireti (by decide +kernel) (by decide +kernel)
theorem r61_32 : am_T d 61 32 [l0, l1, l2, some (.ref a0), l4] st S I J Q = am_T d 61 33 [l0, l1, l2, some (.ref a0), l4] (.ref a0 :: st) S I J Q := tr_aload_n (m := 3) (by decide +kernel) rfl
theorem r61_33 : am_T d 61 33 ls (.ref a0 :: st) S I J Q = ((am_is S a0 1 ∧ am_rf S a0 5 ≠ 0) ∧ am_T d 61 36 ls (.ref (am_rf S a0 5) :: st) S I J Q) := tr_geta (k := 118) (by decide +kernel) (by decide +kernel) (by decide +kernel)
theorem r61_36 : am_T d 61 36 [l0, some (.int x0), l2, l3, l4] st S I J Q = am_T d 61 37 [l0, some (.int x0), l2, l3, l4] (.int x0 :: st) S I J Q := tr_iload_n (m := 1) (by decide +kernel) rfl
theorem r61_37 : am_T d 61 37 ls (.int x0 :: .ref a0 :: st) S I J Q = (am_ix S a0 20 x0 ∧ am_T d 61 38 ls (.int (I a0 x0.toNatClampNeg) :: st) S I J Q) := tr_iald (by decide +kernel)
theorem r61_38 : am_T d 61 38 [l0, l1, l2, l3, l4] (.int x0 :: st) S I J Q = am_T d 61 40 [l0, l1, l2, am_clr l3, some (.int x0)] st S I J Q := tr_istore (k := 4) (by decide +kernel) (Nat.le_of_ble_eq_true rfl) rfl
theorem r61_40 : am_T d 61 40 [some (.ref a0), l1, l2, l3, l4] st S I J Q = am_T d 61 41 [some (.ref a0), l1, l2, l3, l4] (.ref a0 :: st) S I J Q := tr_aload_n (m := 0) (by decide +kernel) rfl
theorem r61_41 : am_T d 61 41 ls [.ref a0] S I J Q = (am_is S a0 8 ∧ am_C d 97 [.ref a0] S I J (fun r S I J => am_T d 61 44 ls (am_psh r []) S I J Q)) := tr_virt (k := 76) (by decide +kernel) (by decide +kernel) rfl rfl (Nat.le_of_ble_eq_true rfl) (by decide +kernel)
theorem r61_44 : am_T d 61 44 [l0, l1, l2, some (.ref a0), l4] st S I J Q = am_T d 61 45 [l0, l1, l2, some (.ref a0), l4] (.ref a0 :: st) S I J Q := tr_aload_n (m := 3) (by decide +kernel) rfl
theorem r61_45 : am_T d 61 45 ls (.ref a0 :: st) S I J Q = ((am_is S a0 1 ∧ am_rf S a0 5 ≠ 0) ∧ am_T d 61 48 ls (.ref (am_rf S a0 5) :: st) S I J Q) := tr_geta (k := 118) (by decide +kernel) (by decide +kernel) (by decide +kernel)
theorem r61_48 : am_T d 61 48 [l0, some (.int x0), l2, l3, l4] st S I J Q = am_T d 61 49 [l0, some (.int x0), l2, l3, l4] (.int x0 :: st) S I J Q := tr_iload_n (m := 1) (by decide +kernel) rfl
theorem r61_49 : am_T d 61 49 [l0, l1, some (.int x0), l3, l4] st S I J Q = am_T d 61 50 [l0, l1, some (.int x0), l3, l4] (.int x0 :: st) S I J Q := tr_iload_n (m := 2) (by decide +kernel) rfl
theorem r61_50 : am_T d 61 50 ls (.int x1 :: .int x0 :: .ref a0 :: st) S I J Q = (am_ixw S a0 20 x0 ∧ am_T d 61 51 ls st S (am_up I a0 x0.toNatClampNeg x1) J Q) := tr_iast (by decide +kernel)
theorem r61_51 : am_T d 61 51 [some (.ref a0), l1, l2, l3, l4] st S I J Q = am_T d 61 52 [some (.ref a0), l1, l2, l3, l4] (.ref a0 :: st) S I J Q := tr_aload_n (m := 0) (by decide +kernel) rfl
theorem r61_52 : am_T d 61 52 [some (.ref a0), l1, l2, l3, l4] st S I J Q = am_T d 61 53 [some (.ref a0), l1, l2, l3, l4] (.ref a0 :: st) S I J Q := tr_aload_n (m := 0) (by decide +kernel) rfl
theorem r61_53 : am_T d 61 53 ls (.ref a0 :: st) S I J Q = ((am_is S a0 8 ∧ am_rf S a0 0 ≠ 0) ∧ am_T d 61 56 ls (.ref (am_rf S a0 0) :: st) S I J Q) := tr_geta (k := 12) (by decide +kernel) (by decide +kernel) (by decide +kernel)
theorem r61_56 : am_T d 61 56 ls (.ref a0 :: st) S I J Q = ((am_is S a0 6 ∧ am_rf S a0 1 ≠ 0) ∧ am_T d 61 59 ls (.ref (am_rf S a0 1) :: st) S I J Q) := tr_geta (k := 98) (by decide +kernel) (by decide +kernel) (by decide +kernel)
theorem r61_59 : am_T d 61 59 [l0, l1, l2, some (.ref a0), l4] st S I J Q = am_T d 61 60 [l0, l1, l2, some (.ref a0), l4] (.ref a0 :: st) S I J Q := tr_aload_n (m := 3) (by decide +kernel) rfl
theorem r61_60 : am_T d 61 60 [l0, some (.int x0), l2, l3, l4] st S I J Q = am_T d 61 61 [l0, some (.int x0), l2, l3, l4] (.int x0 :: st) S I J Q := tr_iload_n (m := 1) (by decide +kernel) rfl
theorem r61_61 : am_T d 61 61 [l0, l1, some (.int x0), l3, l4] st S I J Q = am_T d 61 62 [l0, l1, some (.int x0), l3, l4] (.int x0 :: st) S I J Q := tr_iload_n (m := 2) (by decide +kernel) rfl
theorem r61_62 : am_T d 61 62 [l0, l1, l2, l3, some (.int x0)] st S I J Q = am_T d 61 64 [l0, l1, l2, l3, some (.int x0)] (.int x0 :: st) S I J Q := tr_iload (k := 4) (by decide +kernel) rfl
theorem r61_64 : am_T d 61 64 ls (.int x1 :: .int x0 :: st) S I J Q = am_T d 61 65 ls (.int (x0 - x1) :: st) S I J Q := tr_isub (by decide +kernel)
theorem r61_65 : am_T d 61 65 ls [.int x3, .int x2, .ref a1, .ref a0, .ref a10] S I J Q = (am_is S a0 3 ∧ am_C d 36 [.ref a0, .ref a1, .int x2, .int x3] S I J (fun r S I J => am_T d 61 68 ls (am_psh r [.ref a10]) S I J Q)) := tr_virt (k := 122) (by decide +kernel) (by decide +kernel) rfl rfl (Nat.le_of_ble_eq_true rfl) (by decide +kernel)
theorem r61_68 : am_T d 61 68 ls [.int x1, .ref a0] S I J Q = (am_is S a0 8 ∧ am_C d 98 [.ref a0, .int x1] S I J (fun r S I J => am_T d 61 71 ls (am_psh r []) S I J Q)) := tr_virt (k := 83) (by decide +kernel) (by decide +kernel) rfl rfl (Nat.le_of_ble_eq_true rfl) (by decide +kernel)
theorem r61_71 : am_T d 61 71 [l0, l1, l2, l3, some (.int x0)] st S I J Q = am_T d 61 73 [l0, l1, l2, l3, some (.int x0)] (.int x0 :: st) S I J Q := tr_iload (k := 4) (by decide +kernel) rfl
theorem r61_73 : am_T d 61 73 ls [.int x0] S I J Q = Q (some (.int x0)) S I J := tr_ireti (by decide +kernel) (by decide +kernel)
-- 62 Fin.setRoot(I)I; heads []
theorem e62 : am_C (d + 1) 62 [.ref a0, .int x1] S I J Q = am_T d 62 0 [some (.ref a0), some (.int x1), none] [] S I J Q := tr_en (Nat.le_of_ble_eq_true rfl) rfl
theorem r62_0 : am_T d 62 0 [some (.ref a0), l1, l2] st S I J Q = am_T d 62 1 [some (.ref a0), l1, l2] (.ref a0 :: st) S I J Q := tr_aload_n (m := 0) (by decide +kernel) rfl
theorem r62_1 : am_T d 62 1 ls (.ref a0 :: st) S I J Q = ((am_is S a0 8 ∧ am_rf S a0 0 ≠ 0) ∧ am_T d 62 4 ls (.ref (am_rf S a0 0) :: st) S I J Q) := tr_geta (k := 12) (by decide +kernel) (by decide +kernel) (by decide +kernel)
theorem r62_4 : am_T d 62 4 ls (.ref a0 :: st) S I J Q = ((am_is S a0 6 ∧ am_rf S a0 0 ≠ 0) ∧ am_T d 62 7 ls (.ref (am_rf S a0 0) :: st) S I J Q) := tr_geta (k := 69) (by decide +kernel) (by decide +kernel) (by decide +kernel)
theorem r62_7 : am_T d 62 7 [l0, some (.int x0), l2] st S I J Q = am_T d 62 8 [l0, some (.int x0), l2] (.int x0 :: st) S I J Q := tr_iload_n (m := 1) (by decide +kernel) rfl
theorem r62_8 : am_T d 62 8 ls [.int x1, .ref a0] S I J Q = (am_is S a0 1 ∧ am_C d 13 [.ref a0, .int x1] S I J (fun r S I J => am_T d 62 11 ls (am_psh r []) S I J Q)) := tr_virt (k := 87) (by decide +kernel) (by decide +kernel) rfl rfl (Nat.le_of_ble_eq_true rfl) (by decide +kernel)
theorem r62_11 : am_T d 62 11 ls (.int x0 :: st) S I J Q = if x0 = 0 then am_T d 62 14 ls st S I J Q else am_T d 62 17 ls st S I J Q := tr_ifne (o := 6) (by decide +kernel) rfl
theorem r62_14 : am_T d 62 14 ls st S I J Q = am_T d 62 16 ls (.int (-101) :: st) S I J Q := tr_bipush (m := -101) (by decide +kernel) (by decide)
theorem r62_16 : am_T d 62 16 ls [.int x0] S I J Q = Q (some (.int x0)) S I J := tr_ireti (by decide +kernel) (by decide +kernel)
theorem r62_17 : am_T d 62 17 [some (.ref a0), l1, l2] st S I J Q = am_T d 62 18 [some (.ref a0), l1, l2] (.ref a0 :: st) S I J Q := tr_aload_n (m := 0) (by decide +kernel) rfl
theorem r62_18 : am_T d 62 18 ls (.ref a0 :: st) S I J Q = ((am_is S a0 8 ∧ am_rf S a0 0 ≠ 0) ∧ am_T d 62 21 ls (.ref (am_rf S a0 0) :: st) S I J Q) := tr_geta (k := 12) (by decide +kernel) (by decide +kernel) (by decide +kernel)
theorem r62_21 : am_T d 62 21 ls (.ref a0 :: st) S I J Q = ((am_is S a0 6 ∧ am_rf S a0 0 ≠ 0) ∧ am_T d 62 24 ls (.ref (am_rf S a0 0) :: st) S I J Q) := tr_geta (k := 69) (by decide +kernel) (by decide +kernel) (by decide +kernel)
theorem r62_24 : am_T d 62 24 ls (.ref a0 :: st) S I J Q = (am_is S a0 1 ∧ am_T d 62 27 ls (.int (I a0 1) :: st) S I J Q) := tr_geti (k := 126) (by decide +kernel) (by decide +kernel) (Or.inl (by decide +kernel))
theorem r62_27 : am_T d 62 27 [l0, l1, l2] (.int x0 :: st) S I J Q = am_T d 62 28 [l0, am_clr l1, some (.int x0)] st S I J Q := tr_istore_n (m := 2) (by decide +kernel) (Nat.le_of_ble_eq_true rfl) rfl
theorem r62_28 : am_T d 62 28 [some (.ref a0), l1, l2] st S I J Q = am_T d 62 29 [some (.ref a0), l1, l2] (.ref a0 :: st) S I J Q := tr_aload_n (m := 0) (by decide +kernel) rfl
theorem r62_29 : am_T d 62 29 ls [.ref a0] S I J Q = (am_is S a0 8 ∧ am_C d 97 [.ref a0] S I J (fun r S I J => am_T d 62 32 ls (am_psh r []) S I J Q)) := tr_virt (k := 76) (by decide +kernel) (by decide +kernel) rfl rfl (Nat.le_of_ble_eq_true rfl) (by decide +kernel)
theorem r62_32 : am_T d 62 32 [some (.ref a0), l1, l2] st S I J Q = am_T d 62 33 [some (.ref a0), l1, l2] (.ref a0 :: st) S I J Q := tr_aload_n (m := 0) (by decide +kernel) rfl
theorem r62_33 : am_T d 62 33 ls (.ref a0 :: st) S I J Q = ((am_is S a0 8 ∧ am_rf S a0 0 ≠ 0) ∧ am_T d 62 36 ls (.ref (am_rf S a0 0) :: st) S I J Q) := tr_geta (k := 12) (by decide +kernel) (by decide +kernel) (by decide +kernel)
theorem r62_36 : am_T d 62 36 ls (.ref a0 :: st) S I J Q = ((am_is S a0 6 ∧ am_rf S a0 0 ≠ 0) ∧ am_T d 62 39 ls (.ref (am_rf S a0 0) :: st) S I J Q) := tr_geta (k := 69) (by decide +kernel) (by decide +kernel) (by decide +kernel)
theorem r62_39 : am_T d 62 39 [l0, some (.int x0), l2] st S I J Q = am_T d 62 40 [l0, some (.int x0), l2] (.int x0 :: st) S I J Q := tr_iload_n (m := 1) (by decide +kernel) rfl
theorem r62_40 : am_T d 62 40 ls (.int x0 :: .ref a0 :: st) S I J Q = (am_is S a0 1 ∧ am_T d 62 43 ls st S (am_up I a0 1 x0) J Q) := tr_puti (k := 126) (by decide +kernel) (by decide +kernel) (by decide +kernel) (by decide +kernel)
theorem r62_43 : am_T d 62 43 [some (.ref a0), l1, l2] st S I J Q = am_T d 62 44 [some (.ref a0), l1, l2] (.ref a0 :: st) S I J Q := tr_aload_n (m := 0) (by decide +kernel) rfl
theorem r62_44 : am_T d 62 44 ls st S I J Q = am_T d 62 45 ls (.int 0 :: st) S I J Q := tr_iconst (m := 0) (by decide +kernel) (by decide)
theorem r62_45 : am_T d 62 45 ls [.int x1, .ref a0] S I J Q = (am_is S a0 8 ∧ am_C d 98 [.ref a0, .int x1] S I J (fun r S I J => am_T d 62 48 ls (am_psh r []) S I J Q)) := tr_virt (k := 83) (by decide +kernel) (by decide +kernel) rfl rfl (Nat.le_of_ble_eq_true rfl) (by decide +kernel)
theorem r62_48 : am_T d 62 48 [l0, l1, some (.int x0)] st S I J Q = am_T d 62 49 [l0, l1, some (.int x0)] (.int x0 :: st) S I J Q := tr_iload_n (m := 2) (by decide +kernel) rfl
theorem r62_49 : am_T d 62 49 ls [.int x0] S I J Q = Q (some (.int x0)) S I J := tr_ireti (by decide +kernel) (by decide +kernel)
-- 63 Fin.setLimit(II)I; heads []
theorem e63 : am_C (d + 1) 63 [.ref a0, .int x1, .int x2] S I J Q = am_T d 63 0 [some (.ref a0), some (.int x1), some (.int x2), none] [] S I J Q := tr_en (Nat.le_of_ble_eq_true rfl) rfl
theorem r63_0 : am_T d 63 0 [some (.ref a0), l1, l2, l3] st S I J Q = am_T d 63 1 [some (.ref a0), l1, l2, l3] (.ref a0 :: st) S I J Q := tr_aload_n (m := 0) (by decide +kernel) rfl
theorem r63_1 : am_T d 63 1 ls (.ref a0 :: st) S I J Q = ((am_is S a0 8 ∧ am_rf S a0 0 ≠ 0) ∧ am_T d 63 4 ls (.ref (am_rf S a0 0) :: st) S I J Q) := tr_geta (k := 12) (by decide +kernel) (by decide +kernel) (by decide +kernel)
theorem r63_4 : am_T d 63 4 ls (.ref a0 :: st) S I J Q = ((am_is S a0 6 ∧ am_rf S a0 0 ≠ 0) ∧ am_T d 63 7 ls (.ref (am_rf S a0 0) :: st) S I J Q) := tr_geta (k := 69) (by decide +kernel) (by decide +kernel) (by decide +kernel)
theorem r63_7 : am_T d 63 7 [l0, some (.int x0), l2, l3] st S I J Q = am_T d 63 8 [l0, some (.int x0), l2, l3] (.int x0 :: st) S I J Q := tr_iload_n (m := 1) (by decide +kernel) rfl
theorem r63_8 : am_T d 63 8 ls [.int x1, .ref a0] S I J Q = (am_is S a0 1 ∧ am_C d 13 [.ref a0, .int x1] S I J (fun r S I J => am_T d 63 11 ls (am_psh r []) S I J Q)) := tr_virt (k := 87) (by decide +kernel) (by decide +kernel) rfl rfl (Nat.le_of_ble_eq_true rfl) (by decide +kernel)
theorem r63_11 : am_T d 63 11 ls (.int x0 :: st) S I J Q = if x0 = 0 then am_T d 63 14 ls st S I J Q else am_T d 63 17 ls st S I J Q := tr_ifne (o := 6) (by decide +kernel) rfl
theorem r63_14 : am_T d 63 14 ls st S I J Q = am_T d 63 16 ls (.int (-101) :: st) S I J Q := tr_bipush (m := -101) (by decide +kernel) (by decide)
theorem r63_16 : am_T d 63 16 ls [.int x0] S I J Q = Q (some (.int x0)) S I J := tr_ireti (by decide +kernel) (by decide +kernel)
theorem r63_17 : am_T d 63 17 [l0, l1, some (.int x0), l3] st S I J Q = am_T d 63 18 [l0, l1, some (.int x0), l3] (.int x0 :: st) S I J Q := tr_iload_n (m := 2) (by decide +kernel) rfl
theorem r63_18 : am_T d 63 18 ls (.int x0 :: st) S I J Q = if x0 < 0 then am_T d 63 27 ls st S I J Q else am_T d 63 21 ls st S I J Q := tr_iflt (o := 9) (by decide +kernel) rfl
theorem r63_21 : am_T d 63 21 [l0, l1, some (.int x0), l3] st S I J Q = am_T d 63 22 [l0, l1, some (.int x0), l3] (.int x0 :: st) S I J Q := tr_iload_n (m := 2) (by decide +kernel) rfl
theorem r63_22 : am_T d 63 22 ls st S I J Q = am_T d 63 24 ls (.int 7 :: st) S I J Q := tr_bipush (m := 7) (by decide +kernel) (by decide)
theorem r63_24 : am_T d 63 24 ls (.int x1 :: .int x0 :: st) S I J Q = if x0 ≤ x1 then am_T d 63 30 ls st S I J Q else am_T d 63 27 ls st S I J Q := tr_icmple (o := 6) (by decide +kernel) rfl
theorem r63_27 : am_T d 63 27 ls st S I J Q = am_T d 63 29 ls (.int (-103) :: st) S I J Q := tr_bipush (m := -103) (by decide +kernel) (by decide)
theorem r63_29 : am_T d 63 29 ls [.int x0] S I J Q = Q (some (.int x0)) S I J := tr_ireti (by decide +kernel) (by decide +kernel)
theorem r63_30 : am_T d 63 30 [some (.ref a0), l1, l2, l3] st S I J Q = am_T d 63 31 [some (.ref a0), l1, l2, l3] (.ref a0 :: st) S I J Q := tr_aload_n (m := 0) (by decide +kernel) rfl
theorem r63_31 : am_T d 63 31 ls (.ref a0 :: st) S I J Q = ((am_is S a0 8 ∧ am_rf S a0 0 ≠ 0) ∧ am_T d 63 34 ls (.ref (am_rf S a0 0) :: st) S I J Q) := tr_geta (k := 12) (by decide +kernel) (by decide +kernel) (by decide +kernel)
theorem r63_34 : am_T d 63 34 ls (.ref a0 :: st) S I J Q = ((am_is S a0 6 ∧ am_rf S a0 0 ≠ 0) ∧ am_T d 63 37 ls (.ref (am_rf S a0 0) :: st) S I J Q) := tr_geta (k := 69) (by decide +kernel) (by decide +kernel) (by decide +kernel)
theorem r63_37 : am_T d 63 37 ls (.ref a0 :: st) S I J Q = ((am_is S a0 1 ∧ am_rf S a0 6 ≠ 0) ∧ am_T d 63 40 ls (.ref (am_rf S a0 6) :: st) S I J Q) := tr_geta (k := 129) (by decide +kernel) (by decide +kernel) (by decide +kernel)
theorem r63_40 : am_T d 63 40 [l0, some (.int x0), l2, l3] st S I J Q = am_T d 63 41 [l0, some (.int x0), l2, l3] (.int x0 :: st) S I J Q := tr_iload_n (m := 1) (by decide +kernel) rfl
theorem r63_41 : am_T d 63 41 ls (.int x0 :: .ref a0 :: st) S I J Q = (am_ix S a0 20 x0 ∧ am_T d 63 42 ls (.int (I a0 x0.toNatClampNeg) :: st) S I J Q) := tr_iald (by decide +kernel)
theorem r63_42 : am_T d 63 42 [l0, l1, l2, l3] (.int x0 :: st) S I J Q = am_T d 63 43 [l0, l1, am_clr l2, some (.int x0)] st S I J Q := tr_istore_n (m := 3) (by decide +kernel) (Nat.le_of_ble_eq_true rfl) rfl
theorem r63_43 : am_T d 63 43 [some (.ref a0), l1, l2, l3] st S I J Q = am_T d 63 44 [some (.ref a0), l1, l2, l3] (.ref a0 :: st) S I J Q := tr_aload_n (m := 0) (by decide +kernel) rfl
theorem r63_44 : am_T d 63 44 ls [.ref a0] S I J Q = (am_is S a0 8 ∧ am_C d 97 [.ref a0] S I J (fun r S I J => am_T d 63 47 ls (am_psh r []) S I J Q)) := tr_virt (k := 76) (by decide +kernel) (by decide +kernel) rfl rfl (Nat.le_of_ble_eq_true rfl) (by decide +kernel)
theorem r63_47 : am_T d 63 47 [some (.ref a0), l1, l2, l3] st S I J Q = am_T d 63 48 [some (.ref a0), l1, l2, l3] (.ref a0 :: st) S I J Q := tr_aload_n (m := 0) (by decide +kernel) rfl
theorem r63_48 : am_T d 63 48 ls (.ref a0 :: st) S I J Q = ((am_is S a0 8 ∧ am_rf S a0 0 ≠ 0) ∧ am_T d 63 51 ls (.ref (am_rf S a0 0) :: st) S I J Q) := tr_geta (k := 12) (by decide +kernel) (by decide +kernel) (by decide +kernel)
theorem r63_51 : am_T d 63 51 ls (.ref a0 :: st) S I J Q = ((am_is S a0 6 ∧ am_rf S a0 0 ≠ 0) ∧ am_T d 63 54 ls (.ref (am_rf S a0 0) :: st) S I J Q) := tr_geta (k := 69) (by decide +kernel) (by decide +kernel) (by decide +kernel)
theorem r63_54 : am_T d 63 54 ls (.ref a0 :: st) S I J Q = ((am_is S a0 1 ∧ am_rf S a0 6 ≠ 0) ∧ am_T d 63 57 ls (.ref (am_rf S a0 6) :: st) S I J Q) := tr_geta (k := 129) (by decide +kernel) (by decide +kernel) (by decide +kernel)
theorem r63_57 : am_T d 63 57 [l0, some (.int x0), l2, l3] st S I J Q = am_T d 63 58 [l0, some (.int x0), l2, l3] (.int x0 :: st) S I J Q := tr_iload_n (m := 1) (by decide +kernel) rfl
theorem r63_58 : am_T d 63 58 [l0, l1, some (.int x0), l3] st S I J Q = am_T d 63 59 [l0, l1, some (.int x0), l3] (.int x0 :: st) S I J Q := tr_iload_n (m := 2) (by decide +kernel) rfl
theorem r63_59 : am_T d 63 59 ls (.int x1 :: .int x0 :: .ref a0 :: st) S I J Q = (am_ixw S a0 20 x0 ∧ am_T d 63 60 ls st S (am_up I a0 x0.toNatClampNeg x1) J Q) := tr_iast (by decide +kernel)
theorem r63_60 : am_T d 63 60 [some (.ref a0), l1, l2, l3] st S I J Q = am_T d 63 61 [some (.ref a0), l1, l2, l3] (.ref a0 :: st) S I J Q := tr_aload_n (m := 0) (by decide +kernel) rfl
theorem r63_61 : am_T d 63 61 ls st S I J Q = am_T d 63 62 ls (.int 1 :: st) S I J Q := tr_iconst (m := 1) (by decide +kernel) (by decide)
theorem r63_62 : am_T d 63 62 ls [.int x1, .ref a0] S I J Q = (am_is S a0 8 ∧ am_C d 98 [.ref a0, .int x1] S I J (fun r S I J => am_T d 63 65 ls (am_psh r []) S I J Q)) := tr_virt (k := 83) (by decide +kernel) (by decide +kernel) rfl rfl (Nat.le_of_ble_eq_true rfl) (by decide +kernel)
theorem r63_65 : am_T d 63 65 [l0, l1, l2, some (.int x0)] st S I J Q = am_T d 63 66 [l0, l1, l2, some (.int x0)] (.int x0 :: st) S I J Q := tr_iload_n (m := 3) (by decide +kernel) rfl
theorem r63_66 : am_T d 63 66 ls [.int x0] S I J Q = Q (some (.int x0)) S I J := tr_ireti (by decide +kernel) (by decide +kernel)
-- 64 Fin.addRandom(II)I; heads []
theorem e64 : am_C (d + 1) 64 [.ref a0, .int x1, .int x2] S I J Q = am_T d 64 0 [some (.ref a0), some (.int x1), some (.int x2)] [] S I J Q := tr_en (Nat.le_of_ble_eq_true rfl) rfl
theorem r64_0 : am_T d 64 0 [l0, some (.int x0), l2] st S I J Q = am_T d 64 1 [l0, some (.int x0), l2] (.int x0 :: st) S I J Q := tr_iload_n (m := 1) (by decide +kernel) rfl
theorem r64_1 : am_T d 64 1 ls st S I J Q = am_T d 64 2 ls (.int 1 :: st) S I J Q := tr_iconst (m := 1) (by decide +kernel) (by decide)
theorem r64_2 : am_T d 64 2 ls (.int x1 :: .int x0 :: st) S I J Q = if x0 < x1 then am_T d 64 15 ls st S I J Q else am_T d 64 5 ls st S I J Q := tr_icmplt (o := 13) (by decide +kernel) rfl
theorem r64_5 : am_T d 64 5 [l0, some (.int x0), l2] st S I J Q = am_T d 64 6 [l0, some (.int x0), l2] (.int x0 :: st) S I J Q := tr_iload_n (m := 1) (by decide +kernel) rfl
theorem r64_6 : am_T d 64 6 ls st S I J Q = am_T d 64 8 ls (.int 8 :: st) S I J Q := tr_bipush (m := 8) (by decide +kernel) (by decide)
theorem r64_8 : am_T d 64 8 ls (.int x1 :: .int x0 :: st) S I J Q = if x1 < x0 then am_T d 64 15 ls st S I J Q else am_T d 64 11 ls st S I J Q := tr_icmpgt (o := 7) (by decide +kernel) rfl
theorem r64_11 : am_T d 64 11 [l0, l1, some (.int x0)] st S I J Q = am_T d 64 12 [l0, l1, some (.int x0)] (.int x0 :: st) S I J Q := tr_iload_n (m := 2) (by decide +kernel) rfl
theorem r64_12 : am_T d 64 12 ls (.int x0 :: st) S I J Q = if 0 ≤ x0 then am_T d 64 18 ls st S I J Q else am_T d 64 15 ls st S I J Q := tr_ifge (o := 6) (by decide +kernel) rfl
theorem r64_15 : am_T d 64 15 ls st S I J Q = am_T d 64 17 ls (.int (-103) :: st) S I J Q := tr_bipush (m := -103) (by decide +kernel) (by decide)
theorem r64_17 : am_T d 64 17 ls [.int x0] S I J Q = Q (some (.int x0)) S I J := tr_ireti (by decide +kernel) (by decide +kernel)
theorem r64_18 : am_T d 64 18 [some (.ref a0), l1, l2] st S I J Q = am_T d 64 19 [some (.ref a0), l1, l2] (.ref a0 :: st) S I J Q := tr_aload_n (m := 0) (by decide +kernel) rfl
theorem r64_19 : am_T d 64 19 ls (.ref a0 :: st) S I J Q = ((am_is S a0 8 ∧ am_rf S a0 0 ≠ 0) ∧ am_T d 64 22 ls (.ref (am_rf S a0 0) :: st) S I J Q) := tr_geta (k := 12) (by decide +kernel) (by decide +kernel) (by decide +kernel)
theorem r64_22 : am_T d 64 22 ls (.ref a0 :: st) S I J Q = ((am_is S a0 6 ∧ am_rf S a0 0 ≠ 0) ∧ am_T d 64 25 ls (.ref (am_rf S a0 0) :: st) S I J Q) := tr_geta (k := 69) (by decide +kernel) (by decide +kernel) (by decide +kernel)
theorem r64_25 : am_T d 64 25 ls (.ref a0 :: st) S I J Q = (am_is S a0 1 ∧ am_T d 64 28 ls (.int (I a0 2) :: st) S I J Q) := tr_geti (k := 91) (by decide +kernel) (by decide +kernel) (Or.inl (by decide +kernel))
theorem r64_28 : am_T d 64 28 [l0, some (.int x0), l2] st S I J Q = am_T d 64 29 [l0, some (.int x0), l2] (.int x0 :: st) S I J Q := tr_iload_n (m := 1) (by decide +kernel) rfl
theorem r64_29 : am_T d 64 29 ls (.int x1 :: .int x0 :: st) S I J Q = am_T d 64 30 ls (.int (x0 + x1) :: st) S I J Q := tr_iadd (by decide +kernel)
theorem r64_30 : am_T d 64 30 ls st S I J Q = am_T d 64 32 ls (.int 32 :: st) S I J Q := tr_bipush (m := 32) (by decide +kernel) (by decide)
theorem r64_32 : am_T d 64 32 ls (.int x1 :: .int x0 :: st) S I J Q = if x0 ≤ x1 then am_T d 64 38 ls st S I J Q else am_T d 64 35 ls st S I J Q := tr_icmple (o := 6) (by decide +kernel) rfl
theorem r64_35 : am_T d 64 35 ls st S I J Q = am_T d 64 37 ls (.int (-104) :: st) S I J Q := tr_bipush (m := -104) (by decide +kernel) (by decide)
theorem r64_37 : am_T d 64 37 ls [.int x0] S I J Q = Q (some (.int x0)) S I J := tr_ireti (by decide +kernel) (by decide +kernel)
theorem r64_38 : am_T d 64 38 [some (.ref a0), l1, l2] st S I J Q = am_T d 64 39 [some (.ref a0), l1, l2] (.ref a0 :: st) S I J Q := tr_aload_n (m := 0) (by decide +kernel) rfl
theorem r64_39 : am_T d 64 39 ls [.ref a0] S I J Q = (am_is S a0 8 ∧ am_C d 97 [.ref a0] S I J (fun r S I J => am_T d 64 42 ls (am_psh r []) S I J Q)) := tr_virt (k := 76) (by decide +kernel) (by decide +kernel) rfl rfl (Nat.le_of_ble_eq_true rfl) (by decide +kernel)
theorem r64_42 : am_T d 64 42 [some (.ref a0), l1, l2] st S I J Q = am_T d 64 43 [some (.ref a0), l1, l2] (.ref a0 :: st) S I J Q := tr_aload_n (m := 0) (by decide +kernel) rfl
theorem r64_43 : am_T d 64 43 ls (.ref a0 :: st) S I J Q = ((am_is S a0 8 ∧ am_rf S a0 0 ≠ 0) ∧ am_T d 64 46 ls (.ref (am_rf S a0 0) :: st) S I J Q) := tr_geta (k := 12) (by decide +kernel) (by decide +kernel) (by decide +kernel)
theorem r64_46 : am_T d 64 46 ls (.ref a0 :: st) S I J Q = ((am_is S a0 6 ∧ am_rf S a0 0 ≠ 0) ∧ am_T d 64 49 ls (.ref (am_rf S a0 0) :: st) S I J Q) := tr_geta (k := 69) (by decide +kernel) (by decide +kernel) (by decide +kernel)
theorem r64_49 : am_T d 64 49 [l0, some (.int x0), l2] st S I J Q = am_T d 64 50 [l0, some (.int x0), l2] (.int x0 :: st) S I J Q := tr_iload_n (m := 1) (by decide +kernel) rfl
theorem r64_50 : am_T d 64 50 [l0, l1, some (.int x0)] st S I J Q = am_T d 64 51 [l0, l1, some (.int x0)] (.int x0 :: st) S I J Q := tr_iload_n (m := 2) (by decide +kernel) rfl
theorem r64_51 : am_T d 64 51 ls [.int x2, .int x1, .ref a0] S I J Q = am_C d 106 [.ref a0, .int x1, .int x2] S I J (fun r S I J => am_T d 64 54 ls (am_psh r []) S I J Q) := tr_stat (k := 132) (by decide +kernel) (Or.inl (by decide +kernel)) (Nat.le_of_ble_eq_true rfl) rfl rfl (Nat.le_of_ble_eq_true rfl)
theorem r64_54 : am_T d 64 54 [some (.ref a0), l1, l2] st S I J Q = am_T d 64 55 [some (.ref a0), l1, l2] (.ref a0 :: st) S I J Q := tr_aload_n (m := 0) (by decide +kernel) rfl
theorem r64_55 : am_T d 64 55 ls st S I J Q = am_T d 64 56 ls (.int 0 :: st) S I J Q := tr_iconst (m := 0) (by decide +kernel) (by decide)
theorem r64_56 : am_T d 64 56 ls [.int x1, .ref a0] S I J Q = (am_is S a0 8 ∧ am_C d 98 [.ref a0, .int x1] S I J (fun r S I J => am_T d 64 59 ls (am_psh r []) S I J Q)) := tr_virt (k := 83) (by decide +kernel) (by decide +kernel) rfl rfl (Nat.le_of_ble_eq_true rfl) (by decide +kernel)
theorem r64_59 : am_T d 64 59 [some (.ref a0), l1, l2] st S I J Q = am_T d 64 60 [some (.ref a0), l1, l2] (.ref a0 :: st) S I J Q := tr_aload_n (m := 0) (by decide +kernel) rfl
theorem r64_60 : am_T d 64 60 ls (.ref a0 :: st) S I J Q = ((am_is S a0 8 ∧ am_rf S a0 0 ≠ 0) ∧ am_T d 64 63 ls (.ref (am_rf S a0 0) :: st) S I J Q) := tr_geta (k := 12) (by decide +kernel) (by decide +kernel) (by decide +kernel)
theorem r64_63 : am_T d 64 63 ls (.ref a0 :: st) S I J Q = ((am_is S a0 6 ∧ am_rf S a0 0 ≠ 0) ∧ am_T d 64 66 ls (.ref (am_rf S a0 0) :: st) S I J Q) := tr_geta (k := 69) (by decide +kernel) (by decide +kernel) (by decide +kernel)
theorem r64_66 : am_T d 64 66 ls (.ref a0 :: st) S I J Q = (am_is S a0 1 ∧ am_T d 64 69 ls (.int (I a0 2) :: st) S I J Q) := tr_geti (k := 91) (by decide +kernel) (by decide +kernel) (Or.inl (by decide +kernel))
theorem r64_69 : am_T d 64 69 ls [.int x0] S I J Q = Q (some (.int x0)) S I J := tr_ireti (by decide +kernel) (by decide +kernel)
-- 65 Fin.nodes()I; heads []
theorem e65 : am_C (d + 1) 65 [.ref a0] S I J Q = am_T d 65 0 [some (.ref a0)] [] S I J Q := tr_en (Nat.le_of_ble_eq_true rfl) rfl
theorem r65_0 : am_T d 65 0 [some (.ref a0)] st S I J Q = am_T d 65 1 [some (.ref a0)] (.ref a0 :: st) S I J Q := tr_aload_n (m := 0) (by decide +kernel) rfl
theorem r65_1 : am_T d 65 1 ls (.ref a0 :: st) S I J Q = ((am_is S a0 8 ∧ am_rf S a0 0 ≠ 0) ∧ am_T d 65 4 ls (.ref (am_rf S a0 0) :: st) S I J Q) := tr_geta (k := 12) (by decide +kernel) (by decide +kernel) (by decide +kernel)
theorem r65_4 : am_T d 65 4 ls (.ref a0 :: st) S I J Q = ((am_is S a0 6 ∧ am_rf S a0 0 ≠ 0) ∧ am_T d 65 7 ls (.ref (am_rf S a0 0) :: st) S I J Q) := tr_geta (k := 69) (by decide +kernel) (by decide +kernel) (by decide +kernel)
theorem r65_7 : am_T d 65 7 ls (.ref a0 :: st) S I J Q = (am_is S a0 1 ∧ am_T d 65 10 ls (.int (I a0 0) :: st) S I J Q) := tr_geti (k := 72) (by decide +kernel) (by decide +kernel) (Or.inl (by decide +kernel))
theorem r65_10 : am_T d 65 10 ls [.int x0] S I J Q = Q (some (.int x0)) S I J := tr_ireti (by decide +kernel) (by decide +kernel)
-- 66 Fin.root()I; heads []
theorem e66 : am_C (d + 1) 66 [.ref a0] S I J Q = am_T d 66 0 [some (.ref a0)] [] S I J Q := tr_en (Nat.le_of_ble_eq_true rfl) rfl
theorem r66_0 : am_T d 66 0 [some (.ref a0)] st S I J Q = am_T d 66 1 [some (.ref a0)] (.ref a0 :: st) S I J Q := tr_aload_n (m := 0) (by decide +kernel) rfl
theorem r66_1 : am_T d 66 1 ls (.ref a0 :: st) S I J Q = ((am_is S a0 8 ∧ am_rf S a0 0 ≠ 0) ∧ am_T d 66 4 ls (.ref (am_rf S a0 0) :: st) S I J Q) := tr_geta (k := 12) (by decide +kernel) (by decide +kernel) (by decide +kernel)
theorem r66_4 : am_T d 66 4 ls (.ref a0 :: st) S I J Q = ((am_is S a0 6 ∧ am_rf S a0 0 ≠ 0) ∧ am_T d 66 7 ls (.ref (am_rf S a0 0) :: st) S I J Q) := tr_geta (k := 69) (by decide +kernel) (by decide +kernel) (by decide +kernel)
theorem r66_7 : am_T d 66 7 ls (.ref a0 :: st) S I J Q = (am_is S a0 1 ∧ am_T d 66 10 ls (.int (I a0 1) :: st) S I J Q) := tr_geti (k := 126) (by decide +kernel) (by decide +kernel) (Or.inl (by decide +kernel))
theorem r66_10 : am_T d 66 10 ls [.int x0] S I J Q = Q (some (.int x0)) S I J := tr_ireti (by decide +kernel) (by decide +kernel)
-- 67 Fin.arcs()I; heads []
theorem e67 : am_C (d + 1) 67 [.ref a0] S I J Q = am_T d 67 0 [some (.ref a0)] [] S I J Q := tr_en (Nat.le_of_ble_eq_true rfl) rfl
theorem r67_0 : am_T d 67 0 [some (.ref a0)] st S I J Q = am_T d 67 1 [some (.ref a0)] (.ref a0 :: st) S I J Q := tr_aload_n (m := 0) (by decide +kernel) rfl
theorem r67_1 : am_T d 67 1 ls (.ref a0 :: st) S I J Q = ((am_is S a0 8 ∧ am_rf S a0 0 ≠ 0) ∧ am_T d 67 4 ls (.ref (am_rf S a0 0) :: st) S I J Q) := tr_geta (k := 12) (by decide +kernel) (by decide +kernel) (by decide +kernel)
theorem r67_4 : am_T d 67 4 ls (.ref a0 :: st) S I J Q = ((am_is S a0 6 ∧ am_rf S a0 0 ≠ 0) ∧ am_T d 67 7 ls (.ref (am_rf S a0 0) :: st) S I J Q) := tr_geta (k := 69) (by decide +kernel) (by decide +kernel) (by decide +kernel)
theorem r67_7 : am_T d 67 7 ls (.ref a0 :: st) S I J Q = (am_is S a0 1 ∧ am_T d 67 10 ls (.int (I a0 2) :: st) S I J Q) := tr_geti (k := 91) (by decide +kernel) (by decide +kernel) (Or.inl (by decide +kernel))
theorem r67_10 : am_T d 67 10 ls [.int x0] S I J Q = Q (some (.int x0)) S I J := tr_ireti (by decide +kernel) (by decide +kernel)
-- 68 Fin.arc(II)I; heads []
theorem e68 : am_C (d + 1) 68 [.ref a0, .int x1, .int x2] S I J Q = am_T d 68 0 [some (.ref a0), some (.int x1), some (.int x2), none] [] S I J Q := tr_en (Nat.le_of_ble_eq_true rfl) rfl
theorem r68_0 : am_T d 68 0 [some (.ref a0), l1, l2, l3] st S I J Q = am_T d 68 1 [some (.ref a0), l1, l2, l3] (.ref a0 :: st) S I J Q := tr_aload_n (m := 0) (by decide +kernel) rfl
theorem r68_1 : am_T d 68 1 ls (.ref a0 :: st) S I J Q = ((am_is S a0 8 ∧ am_rf S a0 0 ≠ 0) ∧ am_T d 68 4 ls (.ref (am_rf S a0 0) :: st) S I J Q) := tr_geta (k := 12) (by decide +kernel) (by decide +kernel) (by decide +kernel)
theorem r68_4 : am_T d 68 4 ls (.ref a0 :: st) S I J Q = ((am_is S a0 6 ∧ am_rf S a0 0 ≠ 0) ∧ am_T d 68 7 ls (.ref (am_rf S a0 0) :: st) S I J Q) := tr_geta (k := 69) (by decide +kernel) (by decide +kernel) (by decide +kernel)
theorem r68_7 : am_T d 68 7 [l0, l1, l2, l3] (.ref a0 :: st) S I J Q = am_T d 68 8 [l0, l1, am_clr l2, some (.ref a0)] st S I J Q := tr_astore_n (m := 3) (by decide +kernel) (Nat.le_of_ble_eq_true rfl) rfl
theorem r68_8 : am_T d 68 8 [l0, l1, l2, some (.ref a0)] st S I J Q = am_T d 68 9 [l0, l1, l2, some (.ref a0)] (.ref a0 :: st) S I J Q := tr_aload_n (m := 3) (by decide +kernel) rfl
theorem r68_9 : am_T d 68 9 [l0, some (.int x0), l2, l3] st S I J Q = am_T d 68 10 [l0, some (.int x0), l2, l3] (.int x0 :: st) S I J Q := tr_iload_n (m := 1) (by decide +kernel) rfl
theorem r68_10 : am_T d 68 10 ls [.int x1, .ref a0] S I J Q = (am_is S a0 1 ∧ am_C d 14 [.ref a0, .int x1] S I J (fun r S I J => am_T d 68 13 ls (am_psh r []) S I J Q)) := tr_virt (k := 108) (by decide +kernel) (by decide +kernel) rfl rfl (Nat.le_of_ble_eq_true rfl) (by decide +kernel)
theorem r68_13 : am_T d 68 13 ls (.int x0 :: st) S I J Q = if x0 = 0 then am_T d 68 16 ls st S I J Q else am_T d 68 19 ls st S I J Q := tr_ifne (o := 6) (by decide +kernel) rfl
theorem r68_16 : am_T d 68 16 ls st S I J Q = am_T d 68 18 ls (.int (-102) :: st) S I J Q := tr_bipush (m := -102) (by decide +kernel) (by decide)
theorem r68_18 : am_T d 68 18 ls [.int x0] S I J Q = Q (some (.int x0)) S I J := tr_ireti (by decide +kernel) (by decide +kernel)
theorem r68_19 : am_T d 68 19 [l0, l1, some (.int x0), l3] st S I J Q = am_T d 68 20 [l0, l1, some (.int x0), l3] (.int x0 :: st) S I J Q := tr_iload_n (m := 2) (by decide +kernel) rfl
theorem r68_48 : am_T d 68 48 [l0, l1, l2, some (.ref a0)] st S I J Q = am_T d 68 49 [l0, l1, l2, some (.ref a0)] (.ref a0 :: st) S I J Q := tr_aload_n (m := 3) (by decide +kernel) rfl
theorem r68_49 : am_T d 68 49 ls (.ref a0 :: st) S I J Q = ((am_is S a0 1 ∧ am_rf S a0 3 ≠ 0) ∧ am_T d 68 52 ls (.ref (am_rf S a0 3) :: st) S I J Q) := tr_geta (k := 136) (by decide +kernel) (by decide +kernel) (by decide +kernel)
theorem r68_52 : am_T d 68 52 [l0, some (.int x0), l2, l3] st S I J Q = am_T d 68 53 [l0, some (.int x0), l2, l3] (.int x0 :: st) S I J Q := tr_iload_n (m := 1) (by decide +kernel) rfl
theorem r68_53 : am_T d 68 53 ls (.int x0 :: .ref a0 :: st) S I J Q = (am_ix S a0 20 x0 ∧ am_T d 68 54 ls (.int (I a0 x0.toNatClampNeg) :: st) S I J Q) := tr_iald (by decide +kernel)
theorem r68_54 : am_T d 68 54 ls [.int x0] S I J Q = Q (some (.int x0)) S I J := tr_ireti (by decide +kernel) (by decide +kernel)
theorem r68_55 : am_T d 68 55 [l0, l1, l2, some (.ref a0)] st S I J Q = am_T d 68 56 [l0, l1, l2, some (.ref a0)] (.ref a0 :: st) S I J Q := tr_aload_n (m := 3) (by decide +kernel) rfl
theorem r68_56 : am_T d 68 56 ls (.ref a0 :: st) S I J Q = ((am_is S a0 1 ∧ am_rf S a0 4 ≠ 0) ∧ am_T d 68 59 ls (.ref (am_rf S a0 4) :: st) S I J Q) := tr_geta (k := 139) (by decide +kernel) (by decide +kernel) (by decide +kernel)
theorem r68_59 : am_T d 68 59 [l0, some (.int x0), l2, l3] st S I J Q = am_T d 68 60 [l0, some (.int x0), l2, l3] (.int x0 :: st) S I J Q := tr_iload_n (m := 1) (by decide +kernel) rfl
theorem r68_60 : am_T d 68 60 ls (.int x0 :: .ref a0 :: st) S I J Q = (am_ix S a0 20 x0 ∧ am_T d 68 61 ls (.int (I a0 x0.toNatClampNeg) :: st) S I J Q) := tr_iald (by decide +kernel)
theorem r68_61 : am_T d 68 61 ls [.int x0] S I J Q = Q (some (.int x0)) S I J := tr_ireti (by decide +kernel) (by decide +kernel)
theorem r68_62 : am_T d 68 62 [l0, l1, l2, some (.ref a0)] st S I J Q = am_T d 68 63 [l0, l1, l2, some (.ref a0)] (.ref a0 :: st) S I J Q := tr_aload_n (m := 3) (by decide +kernel) rfl
theorem r68_63 : am_T d 68 63 ls (.ref a0 :: st) S I J Q = ((am_is S a0 1 ∧ am_rf S a0 5 ≠ 0) ∧ am_T d 68 66 ls (.ref (am_rf S a0 5) :: st) S I J Q) := tr_geta (k := 118) (by decide +kernel) (by decide +kernel) (by decide +kernel)
theorem r68_66 : am_T d 68 66 [l0, some (.int x0), l2, l3] st S I J Q = am_T d 68 67 [l0, some (.int x0), l2, l3] (.int x0 :: st) S I J Q := tr_iload_n (m := 1) (by decide +kernel) rfl
theorem r68_67 : am_T d 68 67 ls (.int x0 :: .ref a0 :: st) S I J Q = (am_ix S a0 20 x0 ∧ am_T d 68 68 ls (.int (I a0 x0.toNatClampNeg) :: st) S I J Q) := tr_iald (by decide +kernel)
theorem r68_68 : am_T d 68 68 ls [.int x0] S I J Q = Q (some (.int x0)) S I J := tr_ireti (by decide +kernel) (by decide +kernel)
theorem r68_69 : am_T d 68 69 ls st S I J Q = am_T d 68 71 ls (.int (-103) :: st) S I J Q := tr_bipush (m := -103) (by decide +kernel) (by decide)
theorem r68_71 : am_T d 68 71 ls [.int x0] S I J Q = Q (some (.int x0)) S I J := tr_ireti (by decide +kernel) (by decide +kernel)
-- 69 Fin.limit(I)I; heads []
theorem e69 : am_C (d + 1) 69 [.ref a0, .int x1] S I J Q = am_T d 69 0 [some (.ref a0), some (.int x1)] [] S I J Q := tr_en (Nat.le_of_ble_eq_true rfl) rfl
theorem r69_0 : am_T d 69 0 [some (.ref a0), l1] st S I J Q = am_T d 69 1 [some (.ref a0), l1] (.ref a0 :: st) S I J Q := tr_aload_n (m := 0) (by decide +kernel) rfl
theorem r69_1 : am_T d 69 1 ls (.ref a0 :: st) S I J Q = ((am_is S a0 8 ∧ am_rf S a0 0 ≠ 0) ∧ am_T d 69 4 ls (.ref (am_rf S a0 0) :: st) S I J Q) := tr_geta (k := 12) (by decide +kernel) (by decide +kernel) (by decide +kernel)
theorem r69_4 : am_T d 69 4 ls (.ref a0 :: st) S I J Q = ((am_is S a0 6 ∧ am_rf S a0 0 ≠ 0) ∧ am_T d 69 7 ls (.ref (am_rf S a0 0) :: st) S I J Q) := tr_geta (k := 69) (by decide +kernel) (by decide +kernel) (by decide +kernel)
theorem r69_7 : am_T d 69 7 [l0, some (.int x0)] st S I J Q = am_T d 69 8 [l0, some (.int x0)] (.int x0 :: st) S I J Q := tr_iload_n (m := 1) (by decide +kernel) rfl
theorem r69_8 : am_T d 69 8 ls [.int x1, .ref a0] S I J Q = (am_is S a0 1 ∧ am_C d 13 [.ref a0, .int x1] S I J (fun r S I J => am_T d 69 11 ls (am_psh r []) S I J Q)) := tr_virt (k := 87) (by decide +kernel) (by decide +kernel) rfl rfl (Nat.le_of_ble_eq_true rfl) (by decide +kernel)
theorem r69_11 : am_T d 69 11 ls (.int x0 :: st) S I J Q = if x0 = 0 then am_T d 69 29 ls st S I J Q else am_T d 69 14 ls st S I J Q := tr_ifeq (o := 18) (by decide +kernel) rfl
theorem r69_14 : am_T d 69 14 [some (.ref a0), l1] st S I J Q = am_T d 69 15 [some (.ref a0), l1] (.ref a0 :: st) S I J Q := tr_aload_n (m := 0) (by decide +kernel) rfl
theorem r69_15 : am_T d 69 15 ls (.ref a0 :: st) S I J Q = ((am_is S a0 8 ∧ am_rf S a0 0 ≠ 0) ∧ am_T d 69 18 ls (.ref (am_rf S a0 0) :: st) S I J Q) := tr_geta (k := 12) (by decide +kernel) (by decide +kernel) (by decide +kernel)
theorem r69_18 : am_T d 69 18 ls (.ref a0 :: st) S I J Q = ((am_is S a0 6 ∧ am_rf S a0 0 ≠ 0) ∧ am_T d 69 21 ls (.ref (am_rf S a0 0) :: st) S I J Q) := tr_geta (k := 69) (by decide +kernel) (by decide +kernel) (by decide +kernel)
theorem r69_21 : am_T d 69 21 ls (.ref a0 :: st) S I J Q = ((am_is S a0 1 ∧ am_rf S a0 6 ≠ 0) ∧ am_T d 69 24 ls (.ref (am_rf S a0 6) :: st) S I J Q) := tr_geta (k := 129) (by decide +kernel) (by decide +kernel) (by decide +kernel)
theorem r69_24 : am_T d 69 24 [l0, some (.int x0)] st S I J Q = am_T d 69 25 [l0, some (.int x0)] (.int x0 :: st) S I J Q := tr_iload_n (m := 1) (by decide +kernel) rfl
theorem r69_25 : am_T d 69 25 ls (.int x0 :: .ref a0 :: st) S I J Q = (am_ix S a0 20 x0 ∧ am_T d 69 26 ls (.int (I a0 x0.toNatClampNeg) :: st) S I J Q) := tr_iald (by decide +kernel)
theorem r69_26 : am_T d 69 26 ls st S I J Q = am_T d 69 31 ls st S I J Q := tr_goto (o := 5) (by decide +kernel) rfl
theorem r69_29 : am_T d 69 29 ls st S I J Q = am_T d 69 31 ls (.int (-101) :: st) S I J Q := tr_bipush (m := -101) (by decide +kernel) (by decide)
theorem r69_31 : am_T d 69 31 ls [.int x0] S I J Q = Q (some (.int x0)) S I J := tr_ireti (by decide +kernel) (by decide +kernel)
-- 70 Fin.undo()I; heads []
theorem e70 : am_C (d + 1) 70 [.ref a0] S I J Q = am_T d 70 0 [some (.ref a0)] [] S I J Q := tr_en (Nat.le_of_ble_eq_true rfl) rfl
theorem r70_0 : am_T d 70 0 [some (.ref a0)] st S I J Q = am_T d 70 1 [some (.ref a0)] (.ref a0 :: st) S I J Q := tr_aload_n (m := 0) (by decide +kernel) rfl
theorem r70_1 : am_T d 70 1 ls (.ref a0 :: st) S I J Q = (am_is S a0 8 ∧ am_T d 70 4 ls (.int (I a0 3) :: st) S I J Q) := tr_geti (k := 142) (by decide +kernel) (by decide +kernel) (Or.inl (by decide +kernel))
theorem r70_4 : am_T d 70 4 ls (.int x0 :: st) S I J Q = if x0 = 0 then am_T d 70 7 ls st S I J Q else am_T d 70 10 ls st S I J Q := tr_ifne (o := 6) (by decide +kernel) rfl
theorem r70_7 : am_T d 70 7 ls st S I J Q = am_T d 70 9 ls (.int (-105) :: st) S I J Q := tr_bipush (m := -105) (by decide +kernel) (by decide)
theorem r70_9 : am_T d 70 9 ls [.int x0] S I J Q = Q (some (.int x0)) S I J := tr_ireti (by decide +kernel) (by decide +kernel)
theorem r70_10 : am_T d 70 10 [some (.ref a0)] st S I J Q = am_T d 70 11 [some (.ref a0)] (.ref a0 :: st) S I J Q := tr_aload_n (m := 0) (by decide +kernel) rfl
theorem r70_11 : am_T d 70 11 ls (.ref a0 :: st) S I J Q = am_T d 70 12 ls (.ref a0 :: .ref a0 :: st) S I J Q := tr_dupa (by decide +kernel)
theorem r70_12 : am_T d 70 12 ls (.ref a0 :: st) S I J Q = (am_is S a0 8 ∧ am_T d 70 15 ls (.int (I a0 3) :: st) S I J Q) := tr_geti (k := 142) (by decide +kernel) (by decide +kernel) (Or.inl (by decide +kernel))
theorem r70_15 : am_T d 70 15 ls st S I J Q = am_T d 70 16 ls (.int 1 :: st) S I J Q := tr_iconst (m := 1) (by decide +kernel) (by decide)
theorem r70_16 : am_T d 70 16 ls (.int x1 :: .int x0 :: st) S I J Q = am_T d 70 17 ls (.int (x0 - x1) :: st) S I J Q := tr_isub (by decide +kernel)
theorem r70_17 : am_T d 70 17 ls (.int x0 :: .ref a0 :: st) S I J Q = (am_is S a0 8 ∧ am_T d 70 20 ls st S (am_up I a0 3 x0) J Q) := tr_puti (k := 142) (by decide +kernel) (by decide +kernel) (by decide +kernel) (by decide +kernel)
theorem r70_20 : am_T d 70 20 [some (.ref a0)] st S I J Q = am_T d 70 21 [some (.ref a0)] (.ref a0 :: st) S I J Q := tr_aload_n (m := 0) (by decide +kernel) rfl
theorem r70_21 : am_T d 70 21 ls (.ref a0 :: st) S I J Q = ((am_is S a0 8 ∧ am_rf S a0 0 ≠ 0) ∧ am_T d 70 24 ls (.ref (am_rf S a0 0) :: st) S I J Q) := tr_geta (k := 12) (by decide +kernel) (by decide +kernel) (by decide +kernel)
theorem r70_24 : am_T d 70 24 [some (.ref a0)] st S I J Q = am_T d 70 25 [some (.ref a0)] (.ref a0 :: st) S I J Q := tr_aload_n (m := 0) (by decide +kernel) rfl
theorem r70_25 : am_T d 70 25 ls (.ref a0 :: st) S I J Q = ((am_is S a0 8 ∧ am_rf S a0 1 ≠ 0) ∧ am_T d 70 28 ls (.ref (am_rf S a0 1) :: st) S I J Q) := tr_geta (k := 16) (by decide +kernel) (by decide +kernel) (by decide +kernel)
theorem r70_28 : am_T d 70 28 [some (.ref a0)] st S I J Q = am_T d 70 29 [some (.ref a0)] (.ref a0 :: st) S I J Q := tr_aload_n (m := 0) (by decide +kernel) rfl
theorem r70_29 : am_T d 70 29 ls (.ref a0 :: st) S I J Q = (am_is S a0 8 ∧ am_T d 70 32 ls (.int (I a0 2) :: st) S I J Q) := tr_geti (k := 145) (by decide +kernel) (by decide +kernel) (Or.inl (by decide +kernel))
theorem r70_32 : am_T d 70 32 [some (.ref a0)] st S I J Q = am_T d 70 33 [some (.ref a0)] (.ref a0 :: st) S I J Q := tr_aload_n (m := 0) (by decide +kernel) rfl
theorem r70_33 : am_T d 70 33 ls (.ref a0 :: st) S I J Q = (am_is S a0 8 ∧ am_T d 70 36 ls (.int (I a0 3) :: st) S I J Q) := tr_geti (k := 142) (by decide +kernel) (by decide +kernel) (Or.inl (by decide +kernel))
theorem r70_36 : am_T d 70 36 ls (.int x1 :: .int x0 :: st) S I J Q = am_T d 70 37 ls (.int (x0 + x1) :: st) S I J Q := tr_iadd (by decide +kernel)
theorem r70_37 : am_T d 70 37 ls st S I J Q = am_T d 70 39 ls (.int 8 :: st) S I J Q := tr_bipush (m := 8) (by decide +kernel) (by decide)
theorem r70_39 : am_T d 70 39 ls (.int x1 :: .int x0 :: st) S I J Q = (x1 ≠ 0 ∧ am_T d 70 40 ls (.int (x0 - x0 / x1 * x1) :: st) S I J Q) := tr_irem (by decide +kernel)
theorem r70_40 : am_T d 70 40 ls (.int x0 :: .ref a0 :: st) S I J Q = (am_ixq S a0 x0 ∧ am_T d 70 41 ls (.ref (am_rf S a0 x0.toNatClampNeg) :: st) S I J Q) := tr_aald (by decide +kernel)
theorem r70_41 : am_T d 70 41 ls [.ref a1, .ref a0] S I J Q = (am_is S a0 6 ∧ am_C d 51 [.ref a0, .ref a1] S I J (fun r S I J => am_T d 70 44 ls (am_psh r []) S I J Q)) := tr_virt (k := 148) (by decide +kernel) (by decide +kernel) rfl rfl (Nat.le_of_ble_eq_true rfl) (by decide +kernel)
theorem r70_44 : am_T d 70 44 [some (.ref a0)] st S I J Q = am_T d 70 45 [some (.ref a0)] (.ref a0 :: st) S I J Q := tr_aload_n (m := 0) (by decide +kernel) rfl
theorem r70_45 : am_T d 70 45 ls (.ref a0 :: st) S I J Q = ((am_is S a0 8 ∧ am_rf S a0 11 ≠ 0) ∧ am_T d 70 48 ls (.ref (am_rf S a0 11) :: st) S I J Q) := tr_geta (k := 51) (by decide +kernel) (by decide +kernel) (by decide +kernel)
theorem r70_48 : am_T d 70 48 ls [.ref a0] S I J Q = (am_is S a0 4 ∧ am_C d 38 [.ref a0] S I J (fun r S I J => am_T d 70 51 ls (am_psh r []) S I J Q)) := tr_virt (k := 152) (by decide +kernel) (by decide +kernel) rfl rfl (Nat.le_of_ble_eq_true rfl) (by decide +kernel)
theorem r70_51 : am_T d 70 51 [some (.ref a0)] st S I J Q = am_T d 70 52 [some (.ref a0)] (.ref a0 :: st) S I J Q := tr_aload_n (m := 0) (by decide +kernel) rfl
theorem r70_52 : am_T d 70 52 ls (.ref a0 :: st) S I J Q = (am_is S a0 8 ∧ am_T d 70 55 ls (.int (I a0 3) :: st) S I J Q) := tr_geti (k := 142) (by decide +kernel) (by decide +kernel) (Or.inl (by decide +kernel))
theorem r70_55 : am_T d 70 55 ls [.int x0] S I J Q = Q (some (.int x0)) S I J := tr_ireti (by decide +kernel) (by decide +kernel)
-- 71 Fin.write(I)I; heads []
theorem e71 : am_C (d + 1) 71 [.ref a0, .int x1] S I J Q = am_T d 71 0 [some (.ref a0), some (.int x1)] [] S I J Q := tr_en (Nat.le_of_ble_eq_true rfl) rfl
theorem r71_0 : am_T d 71 0 [l0, some (.int x0)] st S I J Q = am_T d 71 1 [l0, some (.int x0)] (.int x0 :: st) S I J Q := tr_iload_n (m := 1) (by decide +kernel) rfl
theorem r71_1 : am_T d 71 1 ls st S I J Q = am_T d 71 3 ls (.int 32 :: st) S I J Q := tr_bipush (m := 32) (by decide +kernel) (by decide)
theorem r71_3 : am_T d 71 3 ls (.int x1 :: .int x0 :: st) S I J Q = if x0 < x1 then am_T d 71 12 ls st S I J Q else am_T d 71 6 ls st S I J Q := tr_icmplt (o := 9) (by decide +kernel) rfl
theorem r71_6 : am_T d 71 6 [l0, some (.int x0)] st S I J Q = am_T d 71 7 [l0, some (.int x0)] (.int x0 :: st) S I J Q := tr_iload_n (m := 1) (by decide +kernel) rfl
theorem r71_7 : am_T d 71 7 ls st S I J Q = am_T d 71 9 ls (.int 126 :: st) S I J Q := tr_bipush (m := 126) (by decide +kernel) (by decide)
theorem r71_9 : am_T d 71 9 ls (.int x1 :: .int x0 :: st) S I J Q = if x0 ≤ x1 then am_T d 71 15 ls st S I J Q else am_T d 71 12 ls st S I J Q := tr_icmple (o := 6) (by decide +kernel) rfl
theorem r71_12 : am_T d 71 12 ls st S I J Q = am_T d 71 14 ls (.int (-103) :: st) S I J Q := tr_bipush (m := -103) (by decide +kernel) (by decide)
theorem r71_14 : am_T d 71 14 ls [.int x0] S I J Q = Q (some (.int x0)) S I J := tr_ireti (by decide +kernel) (by decide +kernel)
theorem r71_15 : am_T d 71 15 [some (.ref a0), l1] st S I J Q = am_T d 71 16 [some (.ref a0), l1] (.ref a0 :: st) S I J Q := tr_aload_n (m := 0) (by decide +kernel) rfl
theorem r71_16 : am_T d 71 16 ls (.ref a0 :: st) S I J Q = ((am_is S a0 8 ∧ am_rf S a0 8 ≠ 0) ∧ am_T d 71 19 ls (.ref (am_rf S a0 8) :: st) S I J Q) := tr_geta (k := 30) (by decide +kernel) (by decide +kernel) (by decide +kernel)
theorem r71_19 : am_T d 71 19 ls (.ref a0 :: st) S I J Q = (am_is S a0 2 ∧ am_T d 71 22 ls (.int (I a0 0) :: st) S I J Q) := tr_geti (k := 155) (by decide +kernel) (by decide +kernel) (Or.inl (by decide +kernel))
theorem r71_22 : am_T d 71 22 ls st S I J Q = am_T d 71 25 ls (.int 300 :: st) S I J Q := tr_sipush (m := 300) (by decide +kernel) (by decide)
theorem r71_25 : am_T d 71 25 ls (.int x1 :: .int x0 :: st) S I J Q = if x0 < x1 then am_T d 71 31 ls st S I J Q else am_T d 71 28 ls st S I J Q := tr_icmplt (o := 6) (by decide +kernel) rfl
theorem r71_28 : am_T d 71 28 ls st S I J Q = am_T d 71 30 ls (.int (-104) :: st) S I J Q := tr_bipush (m := -104) (by decide +kernel) (by decide)
theorem r71_30 : am_T d 71 30 ls [.int x0] S I J Q = Q (some (.int x0)) S I J := tr_ireti (by decide +kernel) (by decide +kernel)
theorem r71_31 : am_T d 71 31 [some (.ref a0), l1] st S I J Q = am_T d 71 32 [some (.ref a0), l1] (.ref a0 :: st) S I J Q := tr_aload_n (m := 0) (by decide +kernel) rfl
theorem r71_32 : am_T d 71 32 ls (.ref a0 :: st) S I J Q = ((am_is S a0 8 ∧ am_rf S a0 8 ≠ 0) ∧ am_T d 71 35 ls (.ref (am_rf S a0 8) :: st) S I J Q) := tr_geta (k := 30) (by decide +kernel) (by decide +kernel) (by decide +kernel)
theorem r71_35 : am_T d 71 35 [l0, some (.int x0)] st S I J Q = am_T d 71 36 [l0, some (.int x0)] (.int x0 :: st) S I J Q := tr_iload_n (m := 1) (by decide +kernel) rfl
theorem r71_36 : am_T d 71 36 ls [.int x1, .ref a0] S I J Q = (am_is S a0 2 ∧ am_C d 20 [.ref a0, .int x1] S I J (fun r S I J => am_T d 71 39 ls (am_psh r []) S I J Q)) := tr_virt (k := 158) (by decide +kernel) (by decide +kernel) rfl rfl (Nat.le_of_ble_eq_true rfl) (by decide +kernel)
theorem r71_39 : am_T d 71 39 [some (.ref a0), l1] st S I J Q = am_T d 71 40 [some (.ref a0), l1] (.ref a0 :: st) S I J Q := tr_aload_n (m := 0) (by decide +kernel) rfl
theorem r71_40 : am_T d 71 40 ls (.ref a0 :: st) S I J Q = ((am_is S a0 8 ∧ am_rf S a0 8 ≠ 0) ∧ am_T d 71 43 ls (.ref (am_rf S a0 8) :: st) S I J Q) := tr_geta (k := 30) (by decide +kernel) (by decide +kernel) (by decide +kernel)
theorem r71_43 : am_T d 71 43 ls (.ref a0 :: st) S I J Q = (am_is S a0 2 ∧ am_T d 71 46 ls (.int (I a0 0) :: st) S I J Q) := tr_geti (k := 155) (by decide +kernel) (by decide +kernel) (Or.inl (by decide +kernel))
theorem r71_46 : am_T d 71 46 ls [.int x0] S I J Q = Q (some (.int x0)) S I J := tr_ireti (by decide +kernel) (by decide +kernel)
-- 72 Fin.wipe()I; heads []
theorem e72 : am_C (d + 1) 72 [.ref a0] S I J Q = am_T d 72 0 [some (.ref a0), none] [] S I J Q := tr_en (Nat.le_of_ble_eq_true rfl) rfl
theorem r72_0 : am_T d 72 0 [some (.ref a0), l1] st S I J Q = am_T d 72 1 [some (.ref a0), l1] (.ref a0 :: st) S I J Q := tr_aload_n (m := 0) (by decide +kernel) rfl
theorem r72_1 : am_T d 72 1 ls (.ref a0 :: st) S I J Q = ((am_is S a0 8 ∧ am_rf S a0 8 ≠ 0) ∧ am_T d 72 4 ls (.ref (am_rf S a0 8) :: st) S I J Q) := tr_geta (k := 30) (by decide +kernel) (by decide +kernel) (by decide +kernel)
theorem r72_4 : am_T d 72 4 ls (.ref a0 :: st) S I J Q = (am_is S a0 2 ∧ am_T d 72 7 ls (.int (I a0 0) :: st) S I J Q) := tr_geti (k := 155) (by decide +kernel) (by decide +kernel) (Or.inl (by decide +kernel))
theorem r72_7 : am_T d 72 7 [l0, l1] (.int x0 :: st) S I J Q = am_T d 72 8 [am_clr l0, some (.int x0)] st S I J Q := tr_istore_n (m := 1) (by decide +kernel) (Nat.le_of_ble_eq_true rfl) rfl
theorem r72_8 : am_T d 72 8 [some (.ref a0), l1] st S I J Q = am_T d 72 9 [some (.ref a0), l1] (.ref a0 :: st) S I J Q := tr_aload_n (m := 0) (by decide +kernel) rfl
theorem r72_9 : am_T d 72 9 ls (.ref a0 :: st) S I J Q = ((am_is S a0 8 ∧ am_rf S a0 8 ≠ 0) ∧ am_T d 72 12 ls (.ref (am_rf S a0 8) :: st) S I J Q) := tr_geta (k := 30) (by decide +kernel) (by decide +kernel) (by decide +kernel)
theorem r72_12 : am_T d 72 12 ls st S I J Q = am_T d 72 13 ls (.int 0 :: st) S I J Q := tr_iconst (m := 0) (by decide +kernel) (by decide)
theorem r72_13 : am_T d 72 13 ls (.int x0 :: .ref a0 :: st) S I J Q = (am_is S a0 2 ∧ am_T d 72 16 ls st S (am_up I a0 0 x0) J Q) := tr_puti (k := 155) (by decide +kernel) (by decide +kernel) (by decide +kernel) (by decide +kernel)
theorem r72_16 : am_T d 72 16 [l0, some (.int x0)] st S I J Q = am_T d 72 17 [l0, some (.int x0)] (.int x0 :: st) S I J Q := tr_iload_n (m := 1) (by decide +kernel) rfl
theorem r72_17 : am_T d 72 17 ls [.int x0] S I J Q = Q (some (.int x0)) S I J := tr_ireti (by decide +kernel) (by decide +kernel)
-- 73 Fin.fault()I; heads []
theorem e73 : am_C (d + 1) 73 [.ref a0] S I J Q = am_T d 73 0 [some (.ref a0)] [] S I J Q := tr_en (Nat.le_of_ble_eq_true rfl) rfl
theorem r73_0 : am_T d 73 0 [some (.ref a0)] st S I J Q = am_T d 73 1 [some (.ref a0)] (.ref a0 :: st) S I J Q := tr_aload_n (m := 0) (by decide +kernel) rfl
theorem r73_1 : am_T d 73 1 ls (.ref a0 :: st) S I J Q = ((am_is S a0 8 ∧ am_rf S a0 8 ≠ 0) ∧ am_T d 73 4 ls (.ref (am_rf S a0 8) :: st) S I J Q) := tr_geta (k := 30) (by decide +kernel) (by decide +kernel) (by decide +kernel)
theorem r73_4 : am_T d 73 4 [some (.ref a0)] st S I J Q = am_T d 73 5 [some (.ref a0)] (.ref a0 :: st) S I J Q := tr_aload_n (m := 0) (by decide +kernel) rfl
theorem r73_5 : am_T d 73 5 ls (.ref a0 :: st) S I J Q = ((am_is S a0 8 ∧ am_rf S a0 9 ≠ 0) ∧ am_T d 73 8 ls (.ref (am_rf S a0 9) :: st) S I J Q) := tr_geta (k := 37) (by decide +kernel) (by decide +kernel) (by decide +kernel)
theorem r73_8 : am_T d 73 8 ls [.ref a1, .ref a0] S I J Q = (am_is S a0 2 ∧ am_C d 21 [.ref a0, .ref a1] S I J (fun r S I J => am_T d 73 11 ls (am_psh r []) S I J Q)) := tr_virt (k := 160) (by decide +kernel) (by decide +kernel) rfl rfl (Nat.le_of_ble_eq_true rfl) (by decide +kernel)
theorem r73_11 : am_T d 73 11 ls (.int x0 :: st) S I J Q = if x0 = 0 then am_T d 73 19 ls st S I J Q else am_T d 73 14 ls st S I J Q := tr_ifeq (o := 8) (by decide +kernel) rfl
theorem r73_14 : am_T d 73 14 ls st S I J Q = am_T d 73 16 ls (.int (-107) :: st) S I J Q := tr_bipush (m := -107) (by decide +kernel) (by decide)
theorem r73_16 : am_T d 73 16 ls st S I J Q = am_T d 73 26 ls st S I J Q := tr_goto (o := 10) (by decide +kernel) rfl
theorem r73_19 : am_T d 73 19 [some (.ref a0)] st S I J Q = am_T d 73 20 [some (.ref a0)] (.ref a0 :: st) S I J Q := tr_aload_n (m := 0) (by decide +kernel) rfl
theorem r73_20 : am_T d 73 20 ls (.ref a0 :: st) S I J Q = ((am_is S a0 8 ∧ am_rf S a0 8 ≠ 0) ∧ am_T d 73 23 ls (.ref (am_rf S a0 8) :: st) S I J Q) := tr_geta (k := 30) (by decide +kernel) (by decide +kernel) (by decide +kernel)
theorem r73_23 : am_T d 73 23 ls (.ref a0 :: st) S I J Q = (am_is S a0 2 ∧ am_T d 73 26 ls (.int (I a0 1) :: st) S I J Q) := tr_geti (k := 164) (by decide +kernel) (by decide +kernel) (Or.inl (by decide +kernel))
theorem r73_26 : am_T d 73 26 ls [.int x0] S I J Q = Q (some (.int x0)) S I J := tr_ireti (by decide +kernel) (by decide +kernel)
-- 74 Fin.load()I; heads []
theorem e74 : am_C (d + 1) 74 [.ref a0] S I J Q = am_T d 74 0 [some (.ref a0)] [] S I J Q := tr_en (Nat.le_of_ble_eq_true rfl) rfl
theorem r74_0 : am_T d 74 0 [some (.ref a0)] st S I J Q = am_T d 74 1 [some (.ref a0)] (.ref a0 :: st) S I J Q := tr_aload_n (m := 0) (by decide +kernel) rfl
theorem r74_1 : am_T d 74 1 ls (.ref a0 :: st) S I J Q = ((am_is S a0 8 ∧ am_rf S a0 8 ≠ 0) ∧ am_T d 74 4 ls (.ref (am_rf S a0 8) :: st) S I J Q) := tr_geta (k := 30) (by decide +kernel) (by decide +kernel) (by decide +kernel)
theorem r74_4 : am_T d 74 4 [some (.ref a0)] st S I J Q = am_T d 74 5 [some (.ref a0)] (.ref a0 :: st) S I J Q := tr_aload_n (m := 0) (by decide +kernel) rfl
theorem r74_5 : am_T d 74 5 ls (.ref a0 :: st) S I J Q = ((am_is S a0 8 ∧ am_rf S a0 9 ≠ 0) ∧ am_T d 74 8 ls (.ref (am_rf S a0 9) :: st) S I J Q) := tr_geta (k := 37) (by decide +kernel) (by decide +kernel) (by decide +kernel)
theorem r74_8 : am_T d 74 8 ls [.ref a1, .ref a0] S I J Q = (am_is S a0 2 ∧ am_C d 21 [.ref a0, .ref a1] S I J (fun r S I J => am_T d 74 11 ls (am_psh r []) S I J Q)) := tr_virt (k := 160) (by decide +kernel) (by decide +kernel) rfl rfl (Nat.le_of_ble_eq_true rfl) (by decide +kernel)
theorem r74_11 : am_T d 74 11 ls (.int x0 :: st) S I J Q = if x0 = 0 then am_T d 74 14 ls st S I J Q else am_T d 74 17 ls st S I J Q := tr_ifne (o := 6) (by decide +kernel) rfl
theorem r74_14 : am_T d 74 14 ls st S I J Q = am_T d 74 16 ls (.int (-105) :: st) S I J Q := tr_bipush (m := -105) (by decide +kernel) (by decide)
theorem r74_16 : am_T d 74 16 ls [.int x0] S I J Q = Q (some (.int x0)) S I J := tr_ireti (by decide +kernel) (by decide +kernel)
theorem r74_17 : am_T d 74 17 [some (.ref a0)] st S I J Q = am_T d 74 18 [some (.ref a0)] (.ref a0 :: st) S I J Q := tr_aload_n (m := 0) (by decide +kernel) rfl
theorem r74_18 : am_T d 74 18 ls [.ref a0] S I J Q = (am_is S a0 8 ∧ am_C d 97 [.ref a0] S I J (fun r S I J => am_T d 74 21 ls (am_psh r []) S I J Q)) := tr_virt (k := 76) (by decide +kernel) (by decide +kernel) rfl rfl (Nat.le_of_ble_eq_true rfl) (by decide +kernel)
theorem r74_21 : am_T d 74 21 [some (.ref a0)] st S I J Q = am_T d 74 22 [some (.ref a0)] (.ref a0 :: st) S I J Q := tr_aload_n (m := 0) (by decide +kernel) rfl
theorem r74_22 : am_T d 74 22 ls (.ref a0 :: st) S I J Q = ((am_is S a0 8 ∧ am_rf S a0 0 ≠ 0) ∧ am_T d 74 25 ls (.ref (am_rf S a0 0) :: st) S I J Q) := tr_geta (k := 12) (by decide +kernel) (by decide +kernel) (by decide +kernel)
theorem r74_25 : am_T d 74 25 ls (.ref a0 :: st) S I J Q = ((am_is S a0 6 ∧ am_rf S a0 0 ≠ 0) ∧ am_T d 74 28 ls (.ref (am_rf S a0 0) :: st) S I J Q) := tr_geta (k := 69) (by decide +kernel) (by decide +kernel) (by decide +kernel)
theorem r74_28 : am_T d 74 28 [some (.ref a0)] st S I J Q = am_T d 74 29 [some (.ref a0)] (.ref a0 :: st) S I J Q := tr_aload_n (m := 0) (by decide +kernel) rfl
theorem r74_29 : am_T d 74 29 ls (.ref a0 :: st) S I J Q = ((am_is S a0 8 ∧ am_rf S a0 9 ≠ 0) ∧ am_T d 74 32 ls (.ref (am_rf S a0 9) :: st) S I J Q) := tr_geta (k := 37) (by decide +kernel) (by decide +kernel) (by decide +kernel)
theorem r74_32 : am_T d 74 32 ls [.ref a1, .ref a0] S I J Q = (am_is S a0 1 ∧ am_C d 12 [.ref a0, .ref a1] S I J (fun r S I J => am_T d 74 35 ls (am_psh r []) S I J Q)) := tr_virt (k := 167) (by decide +kernel) (by decide +kernel) rfl rfl (Nat.le_of_ble_eq_true rfl) (by decide +kernel)
theorem r74_35 : am_T d 74 35 [some (.ref a0)] st S I J Q = am_T d 74 36 [some (.ref a0)] (.ref a0 :: st) S I J Q := tr_aload_n (m := 0) (by decide +kernel) rfl
theorem r74_36 : am_T d 74 36 ls st S I J Q = am_T d 74 37 ls (.int 0 :: st) S I J Q := tr_iconst (m := 0) (by decide +kernel) (by decide)
theorem r74_37 : am_T d 74 37 ls [.int x1, .ref a0] S I J Q = (am_is S a0 8 ∧ am_C d 98 [.ref a0, .int x1] S I J (fun r S I J => am_T d 74 40 ls (am_psh r []) S I J Q)) := tr_virt (k := 83) (by decide +kernel) (by decide +kernel) rfl rfl (Nat.le_of_ble_eq_true rfl) (by decide +kernel)
theorem r74_40 : am_T d 74 40 [some (.ref a0)] st S I J Q = am_T d 74 41 [some (.ref a0)] (.ref a0 :: st) S I J Q := tr_aload_n (m := 0) (by decide +kernel) rfl
theorem r74_41 : am_T d 74 41 ls (.ref a0 :: st) S I J Q = ((am_is S a0 8 ∧ am_rf S a0 0 ≠ 0) ∧ am_T d 74 44 ls (.ref (am_rf S a0 0) :: st) S I J Q) := tr_geta (k := 12) (by decide +kernel) (by decide +kernel) (by decide +kernel)
theorem r74_44 : am_T d 74 44 ls (.ref a0 :: st) S I J Q = ((am_is S a0 6 ∧ am_rf S a0 0 ≠ 0) ∧ am_T d 74 47 ls (.ref (am_rf S a0 0) :: st) S I J Q) := tr_geta (k := 69) (by decide +kernel) (by decide +kernel) (by decide +kernel)
theorem r74_47 : am_T d 74 47 ls (.ref a0 :: st) S I J Q = (am_is S a0 1 ∧ am_T d 74 50 ls (.int (I a0 2) :: st) S I J Q) := tr_geti (k := 91) (by decide +kernel) (by decide +kernel) (Or.inl (by decide +kernel))
theorem r74_50 : am_T d 74 50 ls [.int x0] S I J Q = Q (some (.int x0)) S I J := tr_ireti (by decide +kernel) (by decide +kernel)
-- 75 Fin.isRecorded()I; heads []
theorem e75 : am_C (d + 1) 75 [.ref a0] S I J Q = am_T d 75 0 [some (.ref a0)] [] S I J Q := tr_en (Nat.le_of_ble_eq_true rfl) rfl
theorem r75_0 : am_T d 75 0 [some (.ref a0)] st S I J Q = am_T d 75 1 [some (.ref a0)] (.ref a0 :: st) S I J Q := tr_aload_n (m := 0) (by decide +kernel) rfl
theorem r75_1 : am_T d 75 1 ls (.ref a0 :: st) S I J Q = ((am_is S a0 8 ∧ am_rf S a0 0 ≠ 0) ∧ am_T d 75 4 ls (.ref (am_rf S a0 0) :: st) S I J Q) := tr_geta (k := 12) (by decide +kernel) (by decide +kernel) (by decide +kernel)
theorem r75_4 : am_T d 75 4 ls (.ref a0 :: st) S I J Q = ((am_is S a0 6 ∧ am_rf S a0 1 ≠ 0) ∧ am_T d 75 7 ls (.ref (am_rf S a0 1) :: st) S I J Q) := tr_geta (k := 98) (by decide +kernel) (by decide +kernel) (by decide +kernel)
theorem r75_7 : am_T d 75 7 ls (.ref a0 :: st) S I J Q = (am_is S a0 3 ∧ am_T d 75 10 ls (.int (I a0 0) :: st) S I J Q) := tr_geti (k := 170) (by decide +kernel) (by decide +kernel) (Or.inr (by decide +kernel))
theorem r75_10 : am_T d 75 10 ls (.int x0 :: st) S I J Q = if x0 = 0 then am_T d 75 17 ls st S I J Q else am_T d 75 13 ls st S I J Q := tr_ifeq (o := 7) (by decide +kernel) rfl
theorem r75_13 : am_T d 75 13 ls st S I J Q = am_T d 75 14 ls (.int 1 :: st) S I J Q := tr_iconst (m := 1) (by decide +kernel) (by decide)
theorem r75_14 : am_T d 75 14 ls st S I J Q = am_T d 75 18 ls st S I J Q := tr_goto (o := 4) (by decide +kernel) rfl
theorem r75_17 : am_T d 75 17 ls st S I J Q = am_T d 75 18 ls (.int 0 :: st) S I J Q := tr_iconst (m := 0) (by decide +kernel) (by decide)
theorem r75_18 : am_T d 75 18 ls [.int x0] S I J Q = Q (some (.int x0)) S I J := tr_ireti (by decide +kernel) (by decide +kernel)
-- 76 Fin.runs()I; heads []
theorem e76 : am_C (d + 1) 76 [.ref a0] S I J Q = am_T d 76 0 [some (.ref a0)] [] S I J Q := tr_en (Nat.le_of_ble_eq_true rfl) rfl
theorem r76_0 : am_T d 76 0 [some (.ref a0)] st S I J Q = am_T d 76 1 [some (.ref a0)] (.ref a0 :: st) S I J Q := tr_aload_n (m := 0) (by decide +kernel) rfl
theorem r76_1 : am_T d 76 1 ls (.ref a0 :: st) S I J Q = (am_is S a0 8 ∧ am_T d 76 4 ls (.int (I a0 6) :: st) S I J Q) := tr_geti (k := 174) (by decide +kernel) (by decide +kernel) (Or.inl (by decide +kernel))
theorem r76_4 : am_T d 76 4 ls [.int x0] S I J Q = Q (some (.int x0)) S I J := tr_ireti (by decide +kernel) (by decide +kernel)
-- 77 Fin.reuses()I; heads []
theorem e77 : am_C (d + 1) 77 [.ref a0] S I J Q = am_T d 77 0 [some (.ref a0)] [] S I J Q := tr_en (Nat.le_of_ble_eq_true rfl) rfl
theorem r77_0 : am_T d 77 0 [some (.ref a0)] st S I J Q = am_T d 77 1 [some (.ref a0)] (.ref a0 :: st) S I J Q := tr_aload_n (m := 0) (by decide +kernel) rfl
theorem r77_1 : am_T d 77 1 ls (.ref a0 :: st) S I J Q = (am_is S a0 8 ∧ am_T d 77 4 ls (.int (I a0 7) :: st) S I J Q) := tr_geti (k := 177) (by decide +kernel) (by decide +kernel) (Or.inl (by decide +kernel))
theorem r77_4 : am_T d 77 4 ls [.int x0] S I J Q = Q (some (.int x0)) S I J := tr_ireti (by decide +kernel) (by decide +kernel)
-- 78 Fin.cost()I; heads []
theorem e78 : am_C (d + 1) 78 [.ref a0] S I J Q = am_T d 78 0 [some (.ref a0)] [] S I J Q := tr_en (Nat.le_of_ble_eq_true rfl) rfl
theorem r78_0 : am_T d 78 0 [some (.ref a0)] st S I J Q = am_T d 78 1 [some (.ref a0)] (.ref a0 :: st) S I J Q := tr_aload_n (m := 0) (by decide +kernel) rfl
theorem r78_1 : am_T d 78 1 ls [.ref a0] S I J Q = (am_is S a0 8 ∧ am_C d 99 [.ref a0] S I J (fun r S I J => am_T d 78 4 ls (am_psh r []) S I J Q)) := tr_virt (k := 180) (by decide +kernel) (by decide +kernel) rfl rfl (Nat.le_of_ble_eq_true rfl) (by decide +kernel)
theorem r78_4 : am_T d 78 4 ls (.int x0 :: st) S I J Q = if x0 = 0 then am_T d 78 14 ls st S I J Q else am_T d 78 7 ls st S I J Q := tr_ifeq (o := 10) (by decide +kernel) rfl
theorem r78_7 : am_T d 78 7 [some (.ref a0)] st S I J Q = am_T d 78 8 [some (.ref a0)] (.ref a0 :: st) S I J Q := tr_aload_n (m := 0) (by decide +kernel) rfl
theorem r78_8 : am_T d 78 8 ls [.ref a0] S I J Q = (am_is S a0 8 ∧ am_C d 100 [.ref a0] S I J (fun r S I J => am_T d 78 11 ls (am_psh r []) S I J Q)) := tr_virt (k := 184) (by decide +kernel) (by decide +kernel) rfl rfl (Nat.le_of_ble_eq_true rfl) (by decide +kernel)
theorem r78_11 : am_T d 78 11 ls st S I J Q = am_T d 78 16 ls st S I J Q := tr_goto (o := 5) (by decide +kernel) rfl
theorem r78_14 : am_T d 78 14 ls st S I J Q = am_T d 78 16 ls (.int (-106) :: st) S I J Q := tr_bipush (m := -106) (by decide +kernel) (by decide)
theorem r78_16 : am_T d 78 16 ls [.int x0] S I J Q = Q (some (.int x0)) S I J := tr_ireti (by decide +kernel) (by decide +kernel)
-- 79 Fin.enteringArc(I)I; heads []
theorem e79 : am_C (d + 1) 79 [.ref a0, .int x1] S I J Q = am_T d 79 0 [some (.ref a0), some (.int x1)] [] S I J Q := tr_en (Nat.le_of_ble_eq_true rfl) rfl
theorem r79_0 : am_T d 79 0 [some (.ref a0), l1] st S I J Q = am_T d 79 1 [some (.ref a0), l1] (.ref a0 :: st) S I J Q := tr_aload_n (m := 0) (by decide +kernel) rfl
theorem r79_1 : am_T d 79 1 ls (.ref a0 :: st) S I J Q = ((am_is S a0 8 ∧ am_rf S a0 0 ≠ 0) ∧ am_T d 79 4 ls (.ref (am_rf S a0 0) :: st) S I J Q) := tr_geta (k := 12) (by decide +kernel) (by decide +kernel) (by decide +kernel)
theorem r79_4 : am_T d 79 4 ls (.ref a0 :: st) S I J Q = ((am_is S a0 6 ∧ am_rf S a0 0 ≠ 0) ∧ am_T d 79 7 ls (.ref (am_rf S a0 0) :: st) S I J Q) := tr_geta (k := 69) (by decide +kernel) (by decide +kernel) (by decide +kernel)
theorem r79_7 : am_T d 79 7 [l0, some (.int x0)] st S I J Q = am_T d 79 8 [l0, some (.int x0)] (.int x0 :: st) S I J Q := tr_iload_n (m := 1) (by decide +kernel) rfl
theorem r79_8 : am_T d 79 8 ls [.int x1, .ref a0] S I J Q = (am_is S a0 1 ∧ am_C d 13 [.ref a0, .int x1] S I J (fun r S I J => am_T d 79 11 ls (am_psh r []) S I J Q)) := tr_virt (k := 87) (by decide +kernel) (by decide +kernel) rfl rfl (Nat.le_of_ble_eq_true rfl) (by decide +kernel)
theorem r79_11 : am_T d 79 11 ls (.int x0 :: st) S I J Q = if x0 = 0 then am_T d 79 14 ls st S I J Q else am_T d 79 17 ls st S I J Q := tr_ifne (o := 6) (by decide +kernel) rfl
theorem r79_14 : am_T d 79 14 ls st S I J Q = am_T d 79 16 ls (.int (-101) :: st) S I J Q := tr_bipush (m := -101) (by decide +kernel) (by decide)
theorem r79_16 : am_T d 79 16 ls [.int x0] S I J Q = Q (some (.int x0)) S I J := tr_ireti (by decide +kernel) (by decide +kernel)
theorem r79_17 : am_T d 79 17 [some (.ref a0), l1] st S I J Q = am_T d 79 18 [some (.ref a0), l1] (.ref a0 :: st) S I J Q := tr_aload_n (m := 0) (by decide +kernel) rfl
theorem r79_18 : am_T d 79 18 ls [.ref a0] S I J Q = (am_is S a0 8 ∧ am_C d 99 [.ref a0] S I J (fun r S I J => am_T d 79 21 ls (am_psh r []) S I J Q)) := tr_virt (k := 180) (by decide +kernel) (by decide +kernel) rfl rfl (Nat.le_of_ble_eq_true rfl) (by decide +kernel)
theorem r79_21 : am_T d 79 21 ls (.int x0 :: st) S I J Q = if x0 = 0 then am_T d 79 24 ls st S I J Q else am_T d 79 27 ls st S I J Q := tr_ifne (o := 6) (by decide +kernel) rfl
theorem r79_24 : am_T d 79 24 ls st S I J Q = am_T d 79 26 ls (.int (-106) :: st) S I J Q := tr_bipush (m := -106) (by decide +kernel) (by decide)
theorem r79_26 : am_T d 79 26 ls [.int x0] S I J Q = Q (some (.int x0)) S I J := tr_ireti (by decide +kernel) (by decide +kernel)
theorem r79_27 : am_T d 79 27 [l0, some (.int x0)] st S I J Q = am_T d 79 28 [l0, some (.int x0)] (.int x0 :: st) S I J Q := tr_iload_n (m := 1) (by decide +kernel) rfl
theorem r79_28 : am_T d 79 28 [some (.ref a0), l1] st S I J Q = am_T d 79 29 [some (.ref a0), l1] (.ref a0 :: st) S I J Q := tr_aload_n (m := 0) (by decide +kernel) rfl
theorem r79_29 : am_T d 79 29 ls (.ref a0 :: st) S I J Q = ((am_is S a0 8 ∧ am_rf S a0 0 ≠ 0) ∧ am_T d 79 32 ls (.ref (am_rf S a0 0) :: st) S I J Q) := tr_geta (k := 12) (by decide +kernel) (by decide +kernel) (by decide +kernel)
theorem r79_32 : am_T d 79 32 ls (.ref a0 :: st) S I J Q = ((am_is S a0 6 ∧ am_rf S a0 0 ≠ 0) ∧ am_T d 79 35 ls (.ref (am_rf S a0 0) :: st) S I J Q) := tr_geta (k := 69) (by decide +kernel) (by decide +kernel) (by decide +kernel)
theorem r79_35 : am_T d 79 35 ls (.ref a0 :: st) S I J Q = (am_is S a0 1 ∧ am_T d 79 38 ls (.int (I a0 1) :: st) S I J Q) := tr_geti (k := 126) (by decide +kernel) (by decide +kernel) (Or.inl (by decide +kernel))
theorem r79_38 : am_T d 79 38 ls (.int x1 :: .int x0 :: st) S I J Q = if x0 = x1 then am_T d 79 41 ls st S I J Q else am_T d 79 46 ls st S I J Q := tr_icmpne (o := 8) (by decide +kernel) rfl
theorem r79_41 : am_T d 79 41 ls st S I J Q = am_T d 79 43 ls (.int (-107) :: st) S I J Q := tr_bipush (m := -107) (by decide +kernel) (by decide)
theorem r79_43 : am_T d 79 43 ls st S I J Q = am_T d 79 58 ls st S I J Q := tr_goto (o := 15) (by decide +kernel) rfl
theorem r79_46 : am_T d 79 46 [some (.ref a0), l1] st S I J Q = am_T d 79 47 [some (.ref a0), l1] (.ref a0 :: st) S I J Q := tr_aload_n (m := 0) (by decide +kernel) rfl
theorem r79_47 : am_T d 79 47 ls (.ref a0 :: st) S I J Q = ((am_is S a0 8 ∧ am_rf S a0 0 ≠ 0) ∧ am_T d 79 50 ls (.ref (am_rf S a0 0) :: st) S I J Q) := tr_geta (k := 12) (by decide +kernel) (by decide +kernel) (by decide +kernel)
theorem r79_50 : am_T d 79 50 ls (.ref a0 :: st) S I J Q = ((am_is S a0 6 ∧ am_rf S a0 1 ≠ 0) ∧ am_T d 79 53 ls (.ref (am_rf S a0 1) :: st) S I J Q) := tr_geta (k := 98) (by decide +kernel) (by decide +kernel) (by decide +kernel)
theorem r79_53 : am_T d 79 53 ls (.ref a0 :: st) S I J Q = ((am_is S a0 3 ∧ am_rf S a0 5 ≠ 0) ∧ am_T d 79 56 ls (.ref (am_rf S a0 5) :: st) S I J Q) := tr_geta (k := 188) (by decide +kernel) (by decide +kernel) (by decide +kernel)
theorem r79_56 : am_T d 79 56 [l0, some (.int x0)] st S I J Q = am_T d 79 57 [l0, some (.int x0)] (.int x0 :: st) S I J Q := tr_iload_n (m := 1) (by decide +kernel) rfl
theorem r79_57 : am_T d 79 57 ls (.int x0 :: .ref a0 :: st) S I J Q = (am_ix S a0 20 x0 ∧ am_T d 79 58 ls (.int (I a0 x0.toNatClampNeg) :: st) S I J Q) := tr_iald (by decide +kernel)
theorem r79_58 : am_T d 79 58 ls [.int x0] S I J Q = Q (some (.int x0)) S I J := tr_ireti (by decide +kernel) (by decide +kernel)
-- 80 Fin.outDegree(I)I; heads []
theorem e80 : am_C (d + 1) 80 [.ref a0, .int x1] S I J Q = am_T d 80 0 [some (.ref a0), some (.int x1)] [] S I J Q := tr_en (Nat.le_of_ble_eq_true rfl) rfl
theorem r80_0 : am_T d 80 0 [some (.ref a0), l1] st S I J Q = am_T d 80 1 [some (.ref a0), l1] (.ref a0 :: st) S I J Q := tr_aload_n (m := 0) (by decide +kernel) rfl
theorem r80_1 : am_T d 80 1 ls (.ref a0 :: st) S I J Q = ((am_is S a0 8 ∧ am_rf S a0 0 ≠ 0) ∧ am_T d 80 4 ls (.ref (am_rf S a0 0) :: st) S I J Q) := tr_geta (k := 12) (by decide +kernel) (by decide +kernel) (by decide +kernel)
theorem r80_4 : am_T d 80 4 ls (.ref a0 :: st) S I J Q = ((am_is S a0 6 ∧ am_rf S a0 0 ≠ 0) ∧ am_T d 80 7 ls (.ref (am_rf S a0 0) :: st) S I J Q) := tr_geta (k := 69) (by decide +kernel) (by decide +kernel) (by decide +kernel)
theorem r80_7 : am_T d 80 7 [l0, some (.int x0)] st S I J Q = am_T d 80 8 [l0, some (.int x0)] (.int x0 :: st) S I J Q := tr_iload_n (m := 1) (by decide +kernel) rfl
theorem r80_8 : am_T d 80 8 ls [.int x1, .ref a0] S I J Q = (am_is S a0 1 ∧ am_C d 13 [.ref a0, .int x1] S I J (fun r S I J => am_T d 80 11 ls (am_psh r []) S I J Q)) := tr_virt (k := 87) (by decide +kernel) (by decide +kernel) rfl rfl (Nat.le_of_ble_eq_true rfl) (by decide +kernel)
theorem r80_11 : am_T d 80 11 ls (.int x0 :: st) S I J Q = if x0 = 0 then am_T d 80 14 ls st S I J Q else am_T d 80 17 ls st S I J Q := tr_ifne (o := 6) (by decide +kernel) rfl
theorem r80_14 : am_T d 80 14 ls st S I J Q = am_T d 80 16 ls (.int (-101) :: st) S I J Q := tr_bipush (m := -101) (by decide +kernel) (by decide)
theorem r80_16 : am_T d 80 16 ls [.int x0] S I J Q = Q (some (.int x0)) S I J := tr_ireti (by decide +kernel) (by decide +kernel)
theorem r80_17 : am_T d 80 17 [some (.ref a0), l1] st S I J Q = am_T d 80 18 [some (.ref a0), l1] (.ref a0 :: st) S I J Q := tr_aload_n (m := 0) (by decide +kernel) rfl
theorem r80_18 : am_T d 80 18 ls [.ref a0] S I J Q = (am_is S a0 8 ∧ am_C d 99 [.ref a0] S I J (fun r S I J => am_T d 80 21 ls (am_psh r []) S I J Q)) := tr_virt (k := 180) (by decide +kernel) (by decide +kernel) rfl rfl (Nat.le_of_ble_eq_true rfl) (by decide +kernel)
theorem r80_21 : am_T d 80 21 ls (.int x0 :: st) S I J Q = if x0 = 0 then am_T d 80 24 ls st S I J Q else am_T d 80 27 ls st S I J Q := tr_ifne (o := 6) (by decide +kernel) rfl
theorem r80_24 : am_T d 80 24 ls st S I J Q = am_T d 80 26 ls (.int (-106) :: st) S I J Q := tr_bipush (m := -106) (by decide +kernel) (by decide)
theorem r80_26 : am_T d 80 26 ls [.int x0] S I J Q = Q (some (.int x0)) S I J := tr_ireti (by decide +kernel) (by decide +kernel)
theorem r80_27 : am_T d 80 27 [some (.ref a0), l1] st S I J Q = am_T d 80 28 [some (.ref a0), l1] (.ref a0 :: st) S I J Q := tr_aload_n (m := 0) (by decide +kernel) rfl
theorem r80_28 : am_T d 80 28 ls (.ref a0 :: st) S I J Q = ((am_is S a0 8 ∧ am_rf S a0 0 ≠ 0) ∧ am_T d 80 31 ls (.ref (am_rf S a0 0) :: st) S I J Q) := tr_geta (k := 12) (by decide +kernel) (by decide +kernel) (by decide +kernel)
theorem r80_31 : am_T d 80 31 ls (.ref a0 :: st) S I J Q = ((am_is S a0 6 ∧ am_rf S a0 1 ≠ 0) ∧ am_T d 80 34 ls (.ref (am_rf S a0 1) :: st) S I J Q) := tr_geta (k := 98) (by decide +kernel) (by decide +kernel) (by decide +kernel)
theorem r80_34 : am_T d 80 34 [some (.ref a0), l1] st S I J Q = am_T d 80 35 [some (.ref a0), l1] (.ref a0 :: st) S I J Q := tr_aload_n (m := 0) (by decide +kernel) rfl
theorem r80_35 : am_T d 80 35 ls (.ref a0 :: st) S I J Q = ((am_is S a0 8 ∧ am_rf S a0 0 ≠ 0) ∧ am_T d 80 38 ls (.ref (am_rf S a0 0) :: st) S I J Q) := tr_geta (k := 12) (by decide +kernel) (by decide +kernel) (by decide +kernel)
theorem r80_38 : am_T d 80 38 ls (.ref a0 :: st) S I J Q = ((am_is S a0 6 ∧ am_rf S a0 0 ≠ 0) ∧ am_T d 80 41 ls (.ref (am_rf S a0 0) :: st) S I J Q) := tr_geta (k := 69) (by decide +kernel) (by decide +kernel) (by decide +kernel)
theorem r80_41 : am_T d 80 41 [l0, some (.int x0)] st S I J Q = am_T d 80 42 [l0, some (.int x0)] (.int x0 :: st) S I J Q := tr_iload_n (m := 1) (by decide +kernel) rfl
theorem r80_42 : am_T d 80 42 ls [.int x2, .ref a1, .ref a0] S I J Q = (am_is S a0 3 ∧ am_C d 32 [.ref a0, .ref a1, .int x2] S I J (fun r S I J => am_T d 80 45 ls (am_psh r []) S I J Q)) := tr_virt (k := 191) (by decide +kernel) (by decide +kernel) rfl rfl (Nat.le_of_ble_eq_true rfl) (by decide +kernel)
theorem r80_45 : am_T d 80 45 ls [.int x0] S I J Q = Q (some (.int x0)) S I J := tr_ireti (by decide +kernel) (by decide +kernel)
-- 81 Fin.groups()I; heads []
theorem e81 : am_C (d + 1) 81 [.ref a0] S I J Q = am_T d 81 0 [some (.ref a0)] [] S I J Q := tr_en (Nat.le_of_ble_eq_true rfl) rfl
theorem r81_0 : am_T d 81 0 [some (.ref a0)] st S I J Q = am_T d 81 1 [some (.ref a0)] (.ref a0 :: st) S I J Q := tr_aload_n (m := 0) (by decide +kernel) rfl
theorem r81_1 : am_T d 81 1 ls [.ref a0] S I J Q = (am_is S a0 8 ∧ am_C d 99 [.ref a0] S I J (fun r S I J => am_T d 81 4 ls (am_psh r []) S I J Q)) := tr_virt (k := 180) (by decide +kernel) (by decide +kernel) rfl rfl (Nat.le_of_ble_eq_true rfl) (by decide +kernel)
theorem r81_4 : am_T d 81 4 ls (.int x0 :: st) S I J Q = if x0 = 0 then am_T d 81 20 ls st S I J Q else am_T d 81 7 ls st S I J Q := tr_ifeq (o := 16) (by decide +kernel) rfl
theorem r81_7 : am_T d 81 7 [some (.ref a0)] st S I J Q = am_T d 81 8 [some (.ref a0)] (.ref a0 :: st) S I J Q := tr_aload_n (m := 0) (by decide +kernel) rfl
theorem r81_8 : am_T d 81 8 ls (.ref a0 :: st) S I J Q = ((am_is S a0 8 ∧ am_rf S a0 0 ≠ 0) ∧ am_T d 81 11 ls (.ref (am_rf S a0 0) :: st) S I J Q) := tr_geta (k := 12) (by decide +kernel) (by decide +kernel) (by decide +kernel)
theorem r81_11 : am_T d 81 11 ls (.ref a0 :: st) S I J Q = ((am_is S a0 6 ∧ am_rf S a0 1 ≠ 0) ∧ am_T d 81 14 ls (.ref (am_rf S a0 1) :: st) S I J Q) := tr_geta (k := 98) (by decide +kernel) (by decide +kernel) (by decide +kernel)
theorem r81_14 : am_T d 81 14 ls (.ref a0 :: st) S I J Q = (am_is S a0 3 ∧ am_T d 81 17 ls (.int (I a0 1) :: st) S I J Q) := tr_geti (k := 195) (by decide +kernel) (by decide +kernel) (Or.inl (by decide +kernel))
theorem r81_17 : am_T d 81 17 ls st S I J Q = am_T d 81 22 ls st S I J Q := tr_goto (o := 5) (by decide +kernel) rfl
theorem r81_20 : am_T d 81 20 ls st S I J Q = am_T d 81 22 ls (.int (-106) :: st) S I J Q := tr_bipush (m := -106) (by decide +kernel) (by decide)
theorem r81_22 : am_T d 81 22 ls [.int x0] S I J Q = Q (some (.int x0)) S I J := tr_ireti (by decide +kernel) (by decide +kernel)
-- 82 Fin.group(II)I; heads []
theorem e82 : am_C (d + 1) 82 [.ref a0, .int x1, .int x2] S I J Q = am_T d 82 0 [some (.ref a0), some (.int x1), some (.int x2), none] [] S I J Q := tr_en (Nat.le_of_ble_eq_true rfl) rfl
theorem r82_0 : am_T d 82 0 [l0, some (.int x0), l2, l3] st S I J Q = am_T d 82 1 [l0, some (.int x0), l2, l3] (.int x0 :: st) S I J Q := tr_iload_n (m := 1) (by decide +kernel) rfl
theorem r82_1 : am_T d 82 1 ls (.int x0 :: st) S I J Q = if x0 < 0 then am_T d 82 13 ls st S I J Q else am_T d 82 4 ls st S I J Q := tr_iflt (o := 12) (by decide +kernel) rfl
theorem r82_4 : am_T d 82 4 [l0, l1, some (.int x0), l3] st S I J Q = am_T d 82 5 [l0, l1, some (.int x0), l3] (.int x0 :: st) S I J Q := tr_iload_n (m := 2) (by decide +kernel) rfl
theorem r82_5 : am_T d 82 5 ls (.int x0 :: st) S I J Q = if x0 < 0 then am_T d 82 13 ls st S I J Q else am_T d 82 8 ls st S I J Q := tr_iflt (o := 8) (by decide +kernel) rfl
theorem r82_8 : am_T d 82 8 [l0, l1, some (.int x0), l3] st S I J Q = am_T d 82 9 [l0, l1, some (.int x0), l3] (.int x0 :: st) S I J Q := tr_iload_n (m := 2) (by decide +kernel) rfl
theorem r82_9 : am_T d 82 9 ls st S I J Q = am_T d 82 10 ls (.int 2 :: st) S I J Q := tr_iconst (m := 2) (by decide +kernel) (by decide)
theorem r82_10 : am_T d 82 10 ls (.int x1 :: .int x0 :: st) S I J Q = if x0 ≤ x1 then am_T d 82 16 ls st S I J Q else am_T d 82 13 ls st S I J Q := tr_icmple (o := 6) (by decide +kernel) rfl
theorem r82_13 : am_T d 82 13 ls st S I J Q = am_T d 82 15 ls (.int (-103) :: st) S I J Q := tr_bipush (m := -103) (by decide +kernel) (by decide)
theorem r82_15 : am_T d 82 15 ls [.int x0] S I J Q = Q (some (.int x0)) S I J := tr_ireti (by decide +kernel) (by decide +kernel)
theorem r82_16 : am_T d 82 16 [some (.ref a0), l1, l2, l3] st S I J Q = am_T d 82 17 [some (.ref a0), l1, l2, l3] (.ref a0 :: st) S I J Q := tr_aload_n (m := 0) (by decide +kernel) rfl
theorem r82_17 : am_T d 82 17 ls [.ref a0] S I J Q = (am_is S a0 8 ∧ am_C d 99 [.ref a0] S I J (fun r S I J => am_T d 82 20 ls (am_psh r []) S I J Q)) := tr_virt (k := 180) (by decide +kernel) (by decide +kernel) rfl rfl (Nat.le_of_ble_eq_true rfl) (by decide +kernel)
theorem r82_20 : am_T d 82 20 ls (.int x0 :: st) S I J Q = if x0 = 0 then am_T d 82 23 ls st S I J Q else am_T d 82 26 ls st S I J Q := tr_ifne (o := 6) (by decide +kernel) rfl
theorem r82_23 : am_T d 82 23 ls st S I J Q = am_T d 82 25 ls (.int (-106) :: st) S I J Q := tr_bipush (m := -106) (by decide +kernel) (by decide)
theorem r82_25 : am_T d 82 25 ls [.int x0] S I J Q = Q (some (.int x0)) S I J := tr_ireti (by decide +kernel) (by decide +kernel)
theorem r82_26 : am_T d 82 26 [some (.ref a0), l1, l2, l3] st S I J Q = am_T d 82 27 [some (.ref a0), l1, l2, l3] (.ref a0 :: st) S I J Q := tr_aload_n (m := 0) (by decide +kernel) rfl
theorem r82_27 : am_T d 82 27 ls (.ref a0 :: st) S I J Q = ((am_is S a0 8 ∧ am_rf S a0 0 ≠ 0) ∧ am_T d 82 30 ls (.ref (am_rf S a0 0) :: st) S I J Q) := tr_geta (k := 12) (by decide +kernel) (by decide +kernel) (by decide +kernel)
theorem r82_30 : am_T d 82 30 ls (.ref a0 :: st) S I J Q = ((am_is S a0 6 ∧ am_rf S a0 1 ≠ 0) ∧ am_T d 82 33 ls (.ref (am_rf S a0 1) :: st) S I J Q) := tr_geta (k := 98) (by decide +kernel) (by decide +kernel) (by decide +kernel)
theorem r82_33 : am_T d 82 33 [l0, l1, l2, l3] (.ref a0 :: st) S I J Q = am_T d 82 34 [l0, l1, am_clr l2, some (.ref a0)] st S I J Q := tr_astore_n (m := 3) (by decide +kernel) (Nat.le_of_ble_eq_true rfl) rfl
theorem r82_34 : am_T d 82 34 [l0, some (.int x0), l2, l3] st S I J Q = am_T d 82 35 [l0, some (.int x0), l2, l3] (.int x0 :: st) S I J Q := tr_iload_n (m := 1) (by decide +kernel) rfl
theorem r82_35 : am_T d 82 35 [l0, l1, l2, some (.ref a0)] st S I J Q = am_T d 82 36 [l0, l1, l2, some (.ref a0)] (.ref a0 :: st) S I J Q := tr_aload_n (m := 3) (by decide +kernel) rfl
theorem r82_36 : am_T d 82 36 ls (.ref a0 :: st) S I J Q = (am_is S a0 3 ∧ am_T d 82 39 ls (.int (I a0 1) :: st) S I J Q) := tr_geti (k := 195) (by decide +kernel) (by decide +kernel) (Or.inl (by decide +kernel))
theorem r82_39 : am_T d 82 39 ls (.int x1 :: .int x0 :: st) S I J Q = if x0 < x1 then am_T d 82 45 ls st S I J Q else am_T d 82 42 ls st S I J Q := tr_icmplt (o := 6) (by decide +kernel) rfl
theorem r82_42 : am_T d 82 42 ls st S I J Q = am_T d 82 44 ls (.int (-107) :: st) S I J Q := tr_bipush (m := -107) (by decide +kernel) (by decide)
theorem r82_44 : am_T d 82 44 ls [.int x0] S I J Q = Q (some (.int x0)) S I J := tr_ireti (by decide +kernel) (by decide +kernel)
theorem r82_45 : am_T d 82 45 [l0, l1, some (.int x0), l3] st S I J Q = am_T d 82 46 [l0, l1, some (.int x0), l3] (.int x0 :: st) S I J Q := tr_iload_n (m := 2) (by decide +kernel) rfl
theorem r82_46 : am_T d 82 46 ls (.int x0 :: st) S I J Q = if x0 = 0 then am_T d 82 49 ls st S I J Q else am_T d 82 56 ls st S I J Q := tr_ifne (o := 10) (by decide +kernel) rfl
theorem r82_49 : am_T d 82 49 [l0, l1, l2, some (.ref a0)] st S I J Q = am_T d 82 50 [l0, l1, l2, some (.ref a0)] (.ref a0 :: st) S I J Q := tr_aload_n (m := 3) (by decide +kernel) rfl
theorem r82_50 : am_T d 82 50 ls (.ref a0 :: st) S I J Q = ((am_is S a0 3 ∧ am_rf S a0 2 ≠ 0) ∧ am_T d 82 53 ls (.ref (am_rf S a0 2) :: st) S I J Q) := tr_geta (k := 198) (by decide +kernel) (by decide +kernel) (by decide +kernel)
theorem r82_53 : am_T d 82 53 [l0, some (.int x0), l2, l3] st S I J Q = am_T d 82 54 [l0, some (.int x0), l2, l3] (.int x0 :: st) S I J Q := tr_iload_n (m := 1) (by decide +kernel) rfl
theorem r82_54 : am_T d 82 54 ls (.int x0 :: .ref a0 :: st) S I J Q = (am_ix S a0 20 x0 ∧ am_T d 82 55 ls (.int (I a0 x0.toNatClampNeg) :: st) S I J Q) := tr_iald (by decide +kernel)
theorem r82_55 : am_T d 82 55 ls [.int x0] S I J Q = Q (some (.int x0)) S I J := tr_ireti (by decide +kernel) (by decide +kernel)
theorem r82_56 : am_T d 82 56 [l0, l1, some (.int x0), l3] st S I J Q = am_T d 82 57 [l0, l1, some (.int x0), l3] (.int x0 :: st) S I J Q := tr_iload_n (m := 2) (by decide +kernel) rfl
theorem r82_57 : am_T d 82 57 ls st S I J Q = am_T d 82 58 ls (.int 1 :: st) S I J Q := tr_iconst (m := 1) (by decide +kernel) (by decide)
theorem r82_58 : am_T d 82 58 ls (.int x1 :: .int x0 :: st) S I J Q = if x0 = x1 then am_T d 82 61 ls st S I J Q else am_T d 82 68 ls st S I J Q := tr_icmpne (o := 10) (by decide +kernel) rfl
theorem r82_61 : am_T d 82 61 [l0, l1, l2, some (.ref a0)] st S I J Q = am_T d 82 62 [l0, l1, l2, some (.ref a0)] (.ref a0 :: st) S I J Q := tr_aload_n (m := 3) (by decide +kernel) rfl
theorem r82_62 : am_T d 82 62 ls (.ref a0 :: st) S I J Q = ((am_is S a0 3 ∧ am_rf S a0 3 ≠ 0) ∧ am_T d 82 65 ls (.ref (am_rf S a0 3) :: st) S I J Q) := tr_geta (k := 201) (by decide +kernel) (by decide +kernel) (by decide +kernel)
theorem r82_65 : am_T d 82 65 [l0, some (.int x0), l2, l3] st S I J Q = am_T d 82 66 [l0, some (.int x0), l2, l3] (.int x0 :: st) S I J Q := tr_iload_n (m := 1) (by decide +kernel) rfl
theorem r82_66 : am_T d 82 66 ls (.int x0 :: .ref a0 :: st) S I J Q = (am_ix S a0 20 x0 ∧ am_T d 82 67 ls (.int (I a0 x0.toNatClampNeg) :: st) S I J Q) := tr_iald (by decide +kernel)
theorem r82_67 : am_T d 82 67 ls [.int x0] S I J Q = Q (some (.int x0)) S I J := tr_ireti (by decide +kernel) (by decide +kernel)
theorem r82_68 : am_T d 82 68 [l0, l1, l2, some (.ref a0)] st S I J Q = am_T d 82 69 [l0, l1, l2, some (.ref a0)] (.ref a0 :: st) S I J Q := tr_aload_n (m := 3) (by decide +kernel) rfl
theorem r82_69 : am_T d 82 69 ls (.ref a0 :: st) S I J Q = ((am_is S a0 3 ∧ am_rf S a0 4 ≠ 0) ∧ am_T d 82 72 ls (.ref (am_rf S a0 4) :: st) S I J Q) := tr_geta (k := 204) (by decide +kernel) (by decide +kernel) (by decide +kernel)
theorem r82_72 : am_T d 82 72 [l0, some (.int x0), l2, l3] st S I J Q = am_T d 82 73 [l0, some (.int x0), l2, l3] (.int x0 :: st) S I J Q := tr_iload_n (m := 1) (by decide +kernel) rfl
theorem r82_73 : am_T d 82 73 ls (.int x0 :: .ref a0 :: st) S I J Q = (am_ix S a0 20 x0 ∧ am_T d 82 74 ls (.int (I a0 x0.toNatClampNeg) :: st) S I J Q) := tr_iald (by decide +kernel)
theorem r82_74 : am_T d 82 74 ls st S I J Q = am_T d 82 75 ls (.int (-1) :: st) S I J Q := tr_iconst (m := -1) (by decide +kernel) (by decide)
theorem r82_75 : am_T d 82 75 ls (.int x1 :: .int x0 :: st) S I J Q = if x0 = x1 then am_T d 82 78 ls st S I J Q else am_T d 82 83 ls st S I J Q := tr_icmpne (o := 8) (by decide +kernel) rfl
theorem r82_78 : am_T d 82 78 ls st S I J Q = am_T d 82 80 ls (.int (-107) :: st) S I J Q := tr_bipush (m := -107) (by decide +kernel) (by decide)
theorem r82_80 : am_T d 82 80 ls st S I J Q = am_T d 82 89 ls st S I J Q := tr_goto (o := 9) (by decide +kernel) rfl
theorem r82_83 : am_T d 82 83 [l0, l1, l2, some (.ref a0)] st S I J Q = am_T d 82 84 [l0, l1, l2, some (.ref a0)] (.ref a0 :: st) S I J Q := tr_aload_n (m := 3) (by decide +kernel) rfl
theorem r82_84 : am_T d 82 84 ls (.ref a0 :: st) S I J Q = ((am_is S a0 3 ∧ am_rf S a0 4 ≠ 0) ∧ am_T d 82 87 ls (.ref (am_rf S a0 4) :: st) S I J Q) := tr_geta (k := 204) (by decide +kernel) (by decide +kernel) (by decide +kernel)
theorem r82_87 : am_T d 82 87 [l0, some (.int x0), l2, l3] st S I J Q = am_T d 82 88 [l0, some (.int x0), l2, l3] (.int x0 :: st) S I J Q := tr_iload_n (m := 1) (by decide +kernel) rfl
theorem r82_88 : am_T d 82 88 ls (.int x0 :: .ref a0 :: st) S I J Q = (am_ix S a0 20 x0 ∧ am_T d 82 89 ls (.int (I a0 x0.toNatClampNeg) :: st) S I J Q) := tr_iald (by decide +kernel)
theorem r82_89 : am_T d 82 89 ls [.int x0] S I J Q = Q (some (.int x0)) S I J := tr_ireti (by decide +kernel) (by decide +kernel)
-- 83 Fin.reducedCost(I)I; heads []
theorem e83 : am_C (d + 1) 83 [.ref a0, .int x1] S I J Q = am_T d 83 0 [some (.ref a0), some (.int x1)] [] S I J Q := tr_en (Nat.le_of_ble_eq_true rfl) rfl
theorem r83_0 : am_T d 83 0 [some (.ref a0), l1] st S I J Q = am_T d 83 1 [some (.ref a0), l1] (.ref a0 :: st) S I J Q := tr_aload_n (m := 0) (by decide +kernel) rfl
theorem r83_1 : am_T d 83 1 ls (.ref a0 :: st) S I J Q = ((am_is S a0 8 ∧ am_rf S a0 0 ≠ 0) ∧ am_T d 83 4 ls (.ref (am_rf S a0 0) :: st) S I J Q) := tr_geta (k := 12) (by decide +kernel) (by decide +kernel) (by decide +kernel)
theorem r83_4 : am_T d 83 4 ls (.ref a0 :: st) S I J Q = ((am_is S a0 6 ∧ am_rf S a0 0 ≠ 0) ∧ am_T d 83 7 ls (.ref (am_rf S a0 0) :: st) S I J Q) := tr_geta (k := 69) (by decide +kernel) (by decide +kernel) (by decide +kernel)
theorem r83_7 : am_T d 83 7 [l0, some (.int x0)] st S I J Q = am_T d 83 8 [l0, some (.int x0)] (.int x0 :: st) S I J Q := tr_iload_n (m := 1) (by decide +kernel) rfl
theorem r83_8 : am_T d 83 8 ls [.int x1, .ref a0] S I J Q = (am_is S a0 1 ∧ am_C d 14 [.ref a0, .int x1] S I J (fun r S I J => am_T d 83 11 ls (am_psh r []) S I J Q)) := tr_virt (k := 108) (by decide +kernel) (by decide +kernel) rfl rfl (Nat.le_of_ble_eq_true rfl) (by decide +kernel)
theorem r83_11 : am_T d 83 11 ls (.int x0 :: st) S I J Q = if x0 = 0 then am_T d 83 14 ls st S I J Q else am_T d 83 17 ls st S I J Q := tr_ifne (o := 6) (by decide +kernel) rfl
theorem r83_14 : am_T d 83 14 ls st S I J Q = am_T d 83 16 ls (.int (-102) :: st) S I J Q := tr_bipush (m := -102) (by decide +kernel) (by decide)
theorem r83_16 : am_T d 83 16 ls [.int x0] S I J Q = Q (some (.int x0)) S I J := tr_ireti (by decide +kernel) (by decide +kernel)
theorem r83_17 : am_T d 83 17 [some (.ref a0), l1] st S I J Q = am_T d 83 18 [some (.ref a0), l1] (.ref a0 :: st) S I J Q := tr_aload_n (m := 0) (by decide +kernel) rfl
theorem r83_18 : am_T d 83 18 ls [.ref a0] S I J Q = (am_is S a0 8 ∧ am_C d 99 [.ref a0] S I J (fun r S I J => am_T d 83 21 ls (am_psh r []) S I J Q)) := tr_virt (k := 180) (by decide +kernel) (by decide +kernel) rfl rfl (Nat.le_of_ble_eq_true rfl) (by decide +kernel)
theorem r83_21 : am_T d 83 21 ls (.int x0 :: st) S I J Q = if x0 = 0 then am_T d 83 24 ls st S I J Q else am_T d 83 27 ls st S I J Q := tr_ifne (o := 6) (by decide +kernel) rfl
theorem r83_24 : am_T d 83 24 ls st S I J Q = am_T d 83 26 ls (.int (-106) :: st) S I J Q := tr_bipush (m := -106) (by decide +kernel) (by decide)
theorem r83_26 : am_T d 83 26 ls [.int x0] S I J Q = Q (some (.int x0)) S I J := tr_ireti (by decide +kernel) (by decide +kernel)
theorem r83_27 : am_T d 83 27 [some (.ref a0), l1] st S I J Q = am_T d 83 28 [some (.ref a0), l1] (.ref a0 :: st) S I J Q := tr_aload_n (m := 0) (by decide +kernel) rfl
theorem r83_28 : am_T d 83 28 ls (.ref a0 :: st) S I J Q = ((am_is S a0 8 ∧ am_rf S a0 0 ≠ 0) ∧ am_T d 83 31 ls (.ref (am_rf S a0 0) :: st) S I J Q) := tr_geta (k := 12) (by decide +kernel) (by decide +kernel) (by decide +kernel)
theorem r83_31 : am_T d 83 31 ls (.ref a0 :: st) S I J Q = ((am_is S a0 6 ∧ am_rf S a0 1 ≠ 0) ∧ am_T d 83 34 ls (.ref (am_rf S a0 1) :: st) S I J Q) := tr_geta (k := 98) (by decide +kernel) (by decide +kernel) (by decide +kernel)
theorem r83_34 : am_T d 83 34 [some (.ref a0), l1] st S I J Q = am_T d 83 35 [some (.ref a0), l1] (.ref a0 :: st) S I J Q := tr_aload_n (m := 0) (by decide +kernel) rfl
theorem r83_35 : am_T d 83 35 ls (.ref a0 :: st) S I J Q = ((am_is S a0 8 ∧ am_rf S a0 0 ≠ 0) ∧ am_T d 83 38 ls (.ref (am_rf S a0 0) :: st) S I J Q) := tr_geta (k := 12) (by decide +kernel) (by decide +kernel) (by decide +kernel)
theorem r83_38 : am_T d 83 38 ls (.ref a0 :: st) S I J Q = ((am_is S a0 6 ∧ am_rf S a0 0 ≠ 0) ∧ am_T d 83 41 ls (.ref (am_rf S a0 0) :: st) S I J Q) := tr_geta (k := 69) (by decide +kernel) (by decide +kernel) (by decide +kernel)
theorem r83_41 : am_T d 83 41 [l0, some (.int x0)] st S I J Q = am_T d 83 42 [l0, some (.int x0)] (.int x0 :: st) S I J Q := tr_iload_n (m := 1) (by decide +kernel) rfl
theorem r83_42 : am_T d 83 42 ls [.int x2, .ref a1, .ref a0] S I J Q = (am_is S a0 3 ∧ am_C d 33 [.ref a0, .ref a1, .int x2] S I J (fun r S I J => am_T d 83 45 ls (am_psh r []) S I J Q)) := tr_virt (k := 207) (by decide +kernel) (by decide +kernel) rfl rfl (Nat.le_of_ble_eq_true rfl) (by decide +kernel)
theorem r83_45 : am_T d 83 45 ls [.int x0] S I J Q = Q (some (.int x0)) S I J := tr_ireti (by decide +kernel) (by decide +kernel)
-- 84 Fin.costWithout(I)I; heads []
theorem e84 : am_C (d + 1) 84 [.ref a0, .int x1] S I J Q = am_T d 84 0 [some (.ref a0), some (.int x1)] [] S I J Q := tr_en (Nat.le_of_ble_eq_true rfl) rfl
theorem r84_0 : am_T d 84 0 [some (.ref a0), l1] st S I J Q = am_T d 84 1 [some (.ref a0), l1] (.ref a0 :: st) S I J Q := tr_aload_n (m := 0) (by decide +kernel) rfl
theorem r84_1 : am_T d 84 1 ls (.ref a0 :: st) S I J Q = ((am_is S a0 8 ∧ am_rf S a0 0 ≠ 0) ∧ am_T d 84 4 ls (.ref (am_rf S a0 0) :: st) S I J Q) := tr_geta (k := 12) (by decide +kernel) (by decide +kernel) (by decide +kernel)
theorem r84_4 : am_T d 84 4 ls (.ref a0 :: st) S I J Q = ((am_is S a0 6 ∧ am_rf S a0 0 ≠ 0) ∧ am_T d 84 7 ls (.ref (am_rf S a0 0) :: st) S I J Q) := tr_geta (k := 69) (by decide +kernel) (by decide +kernel) (by decide +kernel)
theorem r84_7 : am_T d 84 7 [l0, some (.int x0)] st S I J Q = am_T d 84 8 [l0, some (.int x0)] (.int x0 :: st) S I J Q := tr_iload_n (m := 1) (by decide +kernel) rfl
theorem r84_8 : am_T d 84 8 ls [.int x1, .ref a0] S I J Q = (am_is S a0 1 ∧ am_C d 14 [.ref a0, .int x1] S I J (fun r S I J => am_T d 84 11 ls (am_psh r []) S I J Q)) := tr_virt (k := 108) (by decide +kernel) (by decide +kernel) rfl rfl (Nat.le_of_ble_eq_true rfl) (by decide +kernel)
theorem r84_11 : am_T d 84 11 ls (.int x0 :: st) S I J Q = if x0 = 0 then am_T d 84 14 ls st S I J Q else am_T d 84 17 ls st S I J Q := tr_ifne (o := 6) (by decide +kernel) rfl
theorem r84_14 : am_T d 84 14 ls st S I J Q = am_T d 84 16 ls (.int (-102) :: st) S I J Q := tr_bipush (m := -102) (by decide +kernel) (by decide)
theorem r84_16 : am_T d 84 16 ls [.int x0] S I J Q = Q (some (.int x0)) S I J := tr_ireti (by decide +kernel) (by decide +kernel)
theorem r84_17 : am_T d 84 17 [some (.ref a0), l1] st S I J Q = am_T d 84 18 [some (.ref a0), l1] (.ref a0 :: st) S I J Q := tr_aload_n (m := 0) (by decide +kernel) rfl
theorem r84_18 : am_T d 84 18 ls [.ref a0] S I J Q = (am_is S a0 8 ∧ am_C d 99 [.ref a0] S I J (fun r S I J => am_T d 84 21 ls (am_psh r []) S I J Q)) := tr_virt (k := 180) (by decide +kernel) (by decide +kernel) rfl rfl (Nat.le_of_ble_eq_true rfl) (by decide +kernel)
theorem r84_21 : am_T d 84 21 ls (.int x0 :: st) S I J Q = if x0 = 0 then am_T d 84 32 ls st S I J Q else am_T d 84 24 ls st S I J Q := tr_ifeq (o := 11) (by decide +kernel) rfl
theorem r84_24 : am_T d 84 24 [some (.ref a0), l1] st S I J Q = am_T d 84 25 [some (.ref a0), l1] (.ref a0 :: st) S I J Q := tr_aload_n (m := 0) (by decide +kernel) rfl
theorem r84_25 : am_T d 84 25 [l0, some (.int x0)] st S I J Q = am_T d 84 26 [l0, some (.int x0)] (.int x0 :: st) S I J Q := tr_iload_n (m := 1) (by decide +kernel) rfl
theorem r84_26 : am_T d 84 26 ls [.int x1, .ref a0] S I J Q = (am_is S a0 8 ∧ am_C d 101 [.ref a0, .int x1] S I J (fun r S I J => am_T d 84 29 ls (am_psh r []) S I J Q)) := tr_virt (k := 210) (by decide +kernel) (by decide +kernel) rfl rfl (Nat.le_of_ble_eq_true rfl) (by decide +kernel)
theorem r84_29 : am_T d 84 29 ls st S I J Q = am_T d 84 34 ls st S I J Q := tr_goto (o := 5) (by decide +kernel) rfl
theorem r84_32 : am_T d 84 32 ls st S I J Q = am_T d 84 34 ls (.int (-106) :: st) S I J Q := tr_bipush (m := -106) (by decide +kernel) (by decide)
theorem r84_34 : am_T d 84 34 ls [.int x0] S I J Q = Q (some (.int x0)) S I J := tr_ireti (by decide +kernel) (by decide +kernel)
-- 85 Fin.costWith(I)I; heads []
theorem e85 : am_C (d + 1) 85 [.ref a0, .int x1] S I J Q = am_T d 85 0 [some (.ref a0), some (.int x1)] [] S I J Q := tr_en (Nat.le_of_ble_eq_true rfl) rfl
theorem r85_0 : am_T d 85 0 [some (.ref a0), l1] st S I J Q = am_T d 85 1 [some (.ref a0), l1] (.ref a0 :: st) S I J Q := tr_aload_n (m := 0) (by decide +kernel) rfl
theorem r85_1 : am_T d 85 1 ls (.ref a0 :: st) S I J Q = ((am_is S a0 8 ∧ am_rf S a0 0 ≠ 0) ∧ am_T d 85 4 ls (.ref (am_rf S a0 0) :: st) S I J Q) := tr_geta (k := 12) (by decide +kernel) (by decide +kernel) (by decide +kernel)
theorem r85_4 : am_T d 85 4 ls (.ref a0 :: st) S I J Q = ((am_is S a0 6 ∧ am_rf S a0 0 ≠ 0) ∧ am_T d 85 7 ls (.ref (am_rf S a0 0) :: st) S I J Q) := tr_geta (k := 69) (by decide +kernel) (by decide +kernel) (by decide +kernel)
theorem r85_7 : am_T d 85 7 [l0, some (.int x0)] st S I J Q = am_T d 85 8 [l0, some (.int x0)] (.int x0 :: st) S I J Q := tr_iload_n (m := 1) (by decide +kernel) rfl
theorem r85_8 : am_T d 85 8 ls [.int x1, .ref a0] S I J Q = (am_is S a0 1 ∧ am_C d 14 [.ref a0, .int x1] S I J (fun r S I J => am_T d 85 11 ls (am_psh r []) S I J Q)) := tr_virt (k := 108) (by decide +kernel) (by decide +kernel) rfl rfl (Nat.le_of_ble_eq_true rfl) (by decide +kernel)
theorem r85_11 : am_T d 85 11 ls (.int x0 :: st) S I J Q = if x0 = 0 then am_T d 85 14 ls st S I J Q else am_T d 85 17 ls st S I J Q := tr_ifne (o := 6) (by decide +kernel) rfl
theorem r85_14 : am_T d 85 14 ls st S I J Q = am_T d 85 16 ls (.int (-102) :: st) S I J Q := tr_bipush (m := -102) (by decide +kernel) (by decide)
theorem r85_16 : am_T d 85 16 ls [.int x0] S I J Q = Q (some (.int x0)) S I J := tr_ireti (by decide +kernel) (by decide +kernel)
theorem r85_17 : am_T d 85 17 [some (.ref a0), l1] st S I J Q = am_T d 85 18 [some (.ref a0), l1] (.ref a0 :: st) S I J Q := tr_aload_n (m := 0) (by decide +kernel) rfl
theorem r85_18 : am_T d 85 18 ls [.ref a0] S I J Q = (am_is S a0 8 ∧ am_C d 99 [.ref a0] S I J (fun r S I J => am_T d 85 21 ls (am_psh r []) S I J Q)) := tr_virt (k := 180) (by decide +kernel) (by decide +kernel) rfl rfl (Nat.le_of_ble_eq_true rfl) (by decide +kernel)
theorem r85_21 : am_T d 85 21 ls (.int x0 :: st) S I J Q = if x0 = 0 then am_T d 85 32 ls st S I J Q else am_T d 85 24 ls st S I J Q := tr_ifeq (o := 11) (by decide +kernel) rfl
theorem r85_24 : am_T d 85 24 [some (.ref a0), l1] st S I J Q = am_T d 85 25 [some (.ref a0), l1] (.ref a0 :: st) S I J Q := tr_aload_n (m := 0) (by decide +kernel) rfl
theorem r85_25 : am_T d 85 25 [l0, some (.int x0)] st S I J Q = am_T d 85 26 [l0, some (.int x0)] (.int x0 :: st) S I J Q := tr_iload_n (m := 1) (by decide +kernel) rfl
theorem r85_26 : am_T d 85 26 ls [.int x1, .ref a0] S I J Q = (am_is S a0 8 ∧ am_C d 102 [.ref a0, .int x1] S I J (fun r S I J => am_T d 85 29 ls (am_psh r []) S I J Q)) := tr_virt (k := 214) (by decide +kernel) (by decide +kernel) rfl rfl (Nat.le_of_ble_eq_true rfl) (by decide +kernel)
theorem r85_29 : am_T d 85 29 ls st S I J Q = am_T d 85 34 ls st S I J Q := tr_goto (o := 5) (by decide +kernel) rfl
theorem r85_32 : am_T d 85 32 ls st S I J Q = am_T d 85 34 ls (.int (-106) :: st) S I J Q := tr_bipush (m := -106) (by decide +kernel) (by decide)
theorem r85_34 : am_T d 85 34 ls [.int x0] S I J Q = Q (some (.int x0)) S I J := tr_ireti (by decide +kernel) (by decide +kernel)
-- 86 Fin.slack(I)I; heads []
theorem e86 : am_C (d + 1) 86 [.ref a0, .int x1] S I J Q = am_T d 86 0 [some (.ref a0), some (.int x1), none, none] [] S I J Q := tr_en (Nat.le_of_ble_eq_true rfl) rfl
theorem r86_0 : am_T d 86 0 [some (.ref a0), l1, l2, l3] st S I J Q = am_T d 86 1 [some (.ref a0), l1, l2, l3] (.ref a0 :: st) S I J Q := tr_aload_n (m := 0) (by decide +kernel) rfl
theorem r86_1 : am_T d 86 1 ls (.ref a0 :: st) S I J Q = ((am_is S a0 8 ∧ am_rf S a0 0 ≠ 0) ∧ am_T d 86 4 ls (.ref (am_rf S a0 0) :: st) S I J Q) := tr_geta (k := 12) (by decide +kernel) (by decide +kernel) (by decide +kernel)
theorem r86_4 : am_T d 86 4 ls (.ref a0 :: st) S I J Q = ((am_is S a0 6 ∧ am_rf S a0 0 ≠ 0) ∧ am_T d 86 7 ls (.ref (am_rf S a0 0) :: st) S I J Q) := tr_geta (k := 69) (by decide +kernel) (by decide +kernel) (by decide +kernel)
theorem r86_7 : am_T d 86 7 [l0, some (.int x0), l2, l3] st S I J Q = am_T d 86 8 [l0, some (.int x0), l2, l3] (.int x0 :: st) S I J Q := tr_iload_n (m := 1) (by decide +kernel) rfl
theorem r86_8 : am_T d 86 8 ls [.int x1, .ref a0] S I J Q = (am_is S a0 1 ∧ am_C d 14 [.ref a0, .int x1] S I J (fun r S I J => am_T d 86 11 ls (am_psh r []) S I J Q)) := tr_virt (k := 108) (by decide +kernel) (by decide +kernel) rfl rfl (Nat.le_of_ble_eq_true rfl) (by decide +kernel)
theorem r86_11 : am_T d 86 11 ls (.int x0 :: st) S I J Q = if x0 = 0 then am_T d 86 14 ls st S I J Q else am_T d 86 17 ls st S I J Q := tr_ifne (o := 6) (by decide +kernel) rfl
theorem r86_14 : am_T d 86 14 ls st S I J Q = am_T d 86 16 ls (.int (-102) :: st) S I J Q := tr_bipush (m := -102) (by decide +kernel) (by decide)
theorem r86_16 : am_T d 86 16 ls [.int x0] S I J Q = Q (some (.int x0)) S I J := tr_ireti (by decide +kernel) (by decide +kernel)
theorem r86_17 : am_T d 86 17 [some (.ref a0), l1, l2, l3] st S I J Q = am_T d 86 18 [some (.ref a0), l1, l2, l3] (.ref a0 :: st) S I J Q := tr_aload_n (m := 0) (by decide +kernel) rfl
theorem r86_18 : am_T d 86 18 ls [.ref a0] S I J Q = (am_is S a0 8 ∧ am_C d 99 [.ref a0] S I J (fun r S I J => am_T d 86 21 ls (am_psh r []) S I J Q)) := tr_virt (k := 180) (by decide +kernel) (by decide +kernel) rfl rfl (Nat.le_of_ble_eq_true rfl) (by decide +kernel)
theorem r86_21 : am_T d 86 21 ls (.int x0 :: st) S I J Q = if x0 = 0 then am_T d 86 24 ls st S I J Q else am_T d 86 27 ls st S I J Q := tr_ifne (o := 6) (by decide +kernel) rfl
theorem r86_24 : am_T d 86 24 ls st S I J Q = am_T d 86 26 ls (.int (-106) :: st) S I J Q := tr_bipush (m := -106) (by decide +kernel) (by decide)
theorem r86_26 : am_T d 86 26 ls [.int x0] S I J Q = Q (some (.int x0)) S I J := tr_ireti (by decide +kernel) (by decide +kernel)
theorem r86_27 : am_T d 86 27 [some (.ref a0), l1, l2, l3] st S I J Q = am_T d 86 28 [some (.ref a0), l1, l2, l3] (.ref a0 :: st) S I J Q := tr_aload_n (m := 0) (by decide +kernel) rfl
theorem r86_28 : am_T d 86 28 ls (.ref a0 :: st) S I J Q = ((am_is S a0 8 ∧ am_rf S a0 0 ≠ 0) ∧ am_T d 86 31 ls (.ref (am_rf S a0 0) :: st) S I J Q) := tr_geta (k := 12) (by decide +kernel) (by decide +kernel) (by decide +kernel)
theorem r86_31 : am_T d 86 31 ls (.ref a0 :: st) S I J Q = ((am_is S a0 6 ∧ am_rf S a0 1 ≠ 0) ∧ am_T d 86 34 ls (.ref (am_rf S a0 1) :: st) S I J Q) := tr_geta (k := 98) (by decide +kernel) (by decide +kernel) (by decide +kernel)
theorem r86_34 : am_T d 86 34 [some (.ref a0), l1, l2, l3] st S I J Q = am_T d 86 35 [some (.ref a0), l1, l2, l3] (.ref a0 :: st) S I J Q := tr_aload_n (m := 0) (by decide +kernel) rfl
theorem r86_35 : am_T d 86 35 ls (.ref a0 :: st) S I J Q = ((am_is S a0 8 ∧ am_rf S a0 0 ≠ 0) ∧ am_T d 86 38 ls (.ref (am_rf S a0 0) :: st) S I J Q) := tr_geta (k := 12) (by decide +kernel) (by decide +kernel) (by decide +kernel)
theorem r86_38 : am_T d 86 38 ls (.ref a0 :: st) S I J Q = ((am_is S a0 6 ∧ am_rf S a0 0 ≠ 0) ∧ am_T d 86 41 ls (.ref (am_rf S a0 0) :: st) S I J Q) := tr_geta (k := 69) (by decide +kernel) (by decide +kernel) (by decide +kernel)
theorem r86_41 : am_T d 86 41 [l0, some (.int x0), l2, l3] st S I J Q = am_T d 86 42 [l0, some (.int x0), l2, l3] (.int x0 :: st) S I J Q := tr_iload_n (m := 1) (by decide +kernel) rfl
theorem r86_42 : am_T d 86 42 ls [.int x2, .ref a1, .ref a0] S I J Q = (am_is S a0 3 ∧ am_C d 30 [.ref a0, .ref a1, .int x2] S I J (fun r S I J => am_T d 86 45 ls (am_psh r []) S I J Q)) := tr_virt (k := 217) (by decide +kernel) (by decide +kernel) rfl rfl (Nat.le_of_ble_eq_true rfl) (by decide +kernel)
theorem r86_45 : am_T d 86 45 [l0, l1, l2, l3] (.int x0 :: st) S I J Q = am_T d 86 46 [l0, am_clr l1, some (.int x0), l3] st S I J Q := tr_istore_n (m := 2) (by decide +kernel) (Nat.le_of_ble_eq_true rfl) rfl
theorem r86_46 : am_T d 86 46 [l0, l1, some (.int x0), l3] st S I J Q = am_T d 86 47 [l0, l1, some (.int x0), l3] (.int x0 :: st) S I J Q := tr_iload_n (m := 2) (by decide +kernel) rfl
theorem r86_47 : am_T d 86 47 ls (.int x0 :: st) S I J Q = if x0 = 0 then am_T d 86 58 ls st S I J Q else am_T d 86 50 ls st S I J Q := tr_ifeq (o := 11) (by decide +kernel) rfl
theorem r86_50 : am_T d 86 50 [some (.ref a0), l1, l2, l3] st S I J Q = am_T d 86 51 [some (.ref a0), l1, l2, l3] (.ref a0 :: st) S I J Q := tr_aload_n (m := 0) (by decide +kernel) rfl
theorem r86_51 : am_T d 86 51 [l0, some (.int x0), l2, l3] st S I J Q = am_T d 86 52 [l0, some (.int x0), l2, l3] (.int x0 :: st) S I J Q := tr_iload_n (m := 1) (by decide +kernel) rfl
theorem r86_52 : am_T d 86 52 ls [.int x1, .ref a0] S I J Q = (am_is S a0 8 ∧ am_C d 101 [.ref a0, .int x1] S I J (fun r S I J => am_T d 86 55 ls (am_psh r []) S I J Q)) := tr_virt (k := 210) (by decide +kernel) (by decide +kernel) rfl rfl (Nat.le_of_ble_eq_true rfl) (by decide +kernel)
theorem r86_55 : am_T d 86 55 ls st S I J Q = am_T d 86 63 ls st S I J Q := tr_goto (o := 8) (by decide +kernel) rfl
theorem r86_58 : am_T d 86 58 [some (.ref a0), l1, l2, l3] st S I J Q = am_T d 86 59 [some (.ref a0), l1, l2, l3] (.ref a0 :: st) S I J Q := tr_aload_n (m := 0) (by decide +kernel) rfl
theorem r86_59 : am_T d 86 59 [l0, some (.int x0), l2, l3] st S I J Q = am_T d 86 60 [l0, some (.int x0), l2, l3] (.int x0 :: st) S I J Q := tr_iload_n (m := 1) (by decide +kernel) rfl
theorem r86_60 : am_T d 86 60 ls [.int x1, .ref a0] S I J Q = (am_is S a0 8 ∧ am_C d 102 [.ref a0, .int x1] S I J (fun r S I J => am_T d 86 63 ls (am_psh r []) S I J Q)) := tr_virt (k := 214) (by decide +kernel) (by decide +kernel) rfl rfl (Nat.le_of_ble_eq_true rfl) (by decide +kernel)
theorem r86_63 : am_T d 86 63 [l0, l1, l2, l3] (.int x0 :: st) S I J Q = am_T d 86 64 [l0, l1, am_clr l2, some (.int x0)] st S I J Q := tr_istore_n (m := 3) (by decide +kernel) (Nat.le_of_ble_eq_true rfl) rfl
theorem r86_64 : am_T d 86 64 [l0, l1, l2, some (.int x0)] st S I J Q = am_T d 86 65 [l0, l1, l2, some (.int x0)] (.int x0 :: st) S I J Q := tr_iload_n (m := 3) (by decide +kernel) rfl
theorem r86_65 : am_T d 86 65 ls st S I J Q = am_T d 86 67 ls (.int (-107) :: st) S I J Q := tr_bipush (m := -107) (by decide +kernel) (by decide)
theorem r86_67 : am_T d 86 67 ls (.int x1 :: .int x0 :: st) S I J Q = if x0 = x1 then am_T d 86 70 ls st S I J Q else am_T d 86 75 ls st S I J Q := tr_icmpne (o := 8) (by decide +kernel) rfl
theorem r86_70 : am_T d 86 70 ls st S I J Q = am_T d 86 72 ls (.int (-107) :: st) S I J Q := tr_bipush (m := -107) (by decide +kernel) (by decide)
theorem r86_72 : am_T d 86 72 ls st S I J Q = am_T d 86 81 ls st S I J Q := tr_goto (o := 9) (by decide +kernel) rfl
theorem r86_75 : am_T d 86 75 [l0, l1, l2, some (.int x0)] st S I J Q = am_T d 86 76 [l0, l1, l2, some (.int x0)] (.int x0 :: st) S I J Q := tr_iload_n (m := 3) (by decide +kernel) rfl
theorem r86_76 : am_T d 86 76 [some (.ref a0), l1, l2, l3] st S I J Q = am_T d 86 77 [some (.ref a0), l1, l2, l3] (.ref a0 :: st) S I J Q := tr_aload_n (m := 0) (by decide +kernel) rfl
theorem r86_77 : am_T d 86 77 ls [.ref a0, .int x10] S I J Q = (am_is S a0 8 ∧ am_C d 100 [.ref a0] S I J (fun r S I J => am_T d 86 80 ls (am_psh r [.int x10]) S I J Q)) := tr_virt (k := 184) (by decide +kernel) (by decide +kernel) rfl rfl (Nat.le_of_ble_eq_true rfl) (by decide +kernel)
theorem r86_80 : am_T d 86 80 ls (.int x1 :: .int x0 :: st) S I J Q = am_T d 86 81 ls (.int (x0 - x1) :: st) S I J Q := tr_isub (by decide +kernel)
theorem r86_81 : am_T d 86 81 ls [.int x0] S I J Q = Q (some (.int x0)) S I J := tr_ireti (by decide +kernel) (by decide +kernel)
-- 87 Fin.secondBest(I)I; heads [29]
theorem e87 : am_C (d + 1) 87 [.ref a0, .int x1] S I J Q = am_T d 87 0 [some (.ref a0), some (.int x1), none, none, none, none] [] S I J Q := tr_en (Nat.le_of_ble_eq_true rfl) rfl
theorem r87_0 : am_T d 87 0 [l0, some (.int x0), l2, l3, l4, l5] st S I J Q = am_T d 87 1 [l0, some (.int x0), l2, l3, l4, l5] (.int x0 :: st) S I J Q := tr_iload_n (m := 1) (by decide +kernel) rfl
theorem r87_1 : am_T d 87 1 ls (.int x0 :: st) S I J Q = if x0 < 0 then am_T d 87 9 ls st S I J Q else am_T d 87 4 ls st S I J Q := tr_iflt (o := 8) (by decide +kernel) rfl
theorem r87_4 : am_T d 87 4 [l0, some (.int x0), l2, l3, l4, l5] st S I J Q = am_T d 87 5 [l0, some (.int x0), l2, l3, l4, l5] (.int x0 :: st) S I J Q := tr_iload_n (m := 1) (by decide +kernel) rfl
theorem r87_5 : am_T d 87 5 ls st S I J Q = am_T d 87 6 ls (.int 1 :: st) S I J Q := tr_iconst (m := 1) (by decide +kernel) (by decide)
theorem r87_6 : am_T d 87 6 ls (.int x1 :: .int x0 :: st) S I J Q = if x0 ≤ x1 then am_T d 87 12 ls st S I J Q else am_T d 87 9 ls st S I J Q := tr_icmple (o := 6) (by decide +kernel) rfl
theorem r87_9 : am_T d 87 9 ls st S I J Q = am_T d 87 11 ls (.int (-103) :: st) S I J Q := tr_bipush (m := -103) (by decide +kernel) (by decide)
theorem r87_11 : am_T d 87 11 ls [.int x0] S I J Q = Q (some (.int x0)) S I J := tr_ireti (by decide +kernel) (by decide +kernel)
theorem r87_12 : am_T d 87 12 [some (.ref a0), l1, l2, l3, l4, l5] st S I J Q = am_T d 87 13 [some (.ref a0), l1, l2, l3, l4, l5] (.ref a0 :: st) S I J Q := tr_aload_n (m := 0) (by decide +kernel) rfl
theorem r87_13 : am_T d 87 13 ls [.ref a0] S I J Q = (am_is S a0 8 ∧ am_C d 99 [.ref a0] S I J (fun r S I J => am_T d 87 16 ls (am_psh r []) S I J Q)) := tr_virt (k := 180) (by decide +kernel) (by decide +kernel) rfl rfl (Nat.le_of_ble_eq_true rfl) (by decide +kernel)
theorem r87_16 : am_T d 87 16 ls (.int x0 :: st) S I J Q = if x0 = 0 then am_T d 87 19 ls st S I J Q else am_T d 87 22 ls st S I J Q := tr_ifne (o := 6) (by decide +kernel) rfl
theorem r87_19 : am_T d 87 19 ls st S I J Q = am_T d 87 21 ls (.int (-106) :: st) S I J Q := tr_bipush (m := -106) (by decide +kernel) (by decide)
theorem r87_21 : am_T d 87 21 ls [.int x0] S I J Q = Q (some (.int x0)) S I J := tr_ireti (by decide +kernel) (by decide +kernel)
theorem r87_22 : am_T d 87 22 ls st S I J Q = am_T d 87 23 ls (.int (-1) :: st) S I J Q := tr_iconst (m := -1) (by decide +kernel) (by decide)
theorem r87_23 : am_T d 87 23 [l0, l1, l2, l3, l4, l5] (.int x0 :: st) S I J Q = am_T d 87 24 [l0, am_clr l1, some (.int x0), l3, l4, l5] st S I J Q := tr_istore_n (m := 2) (by decide +kernel) (Nat.le_of_ble_eq_true rfl) rfl
theorem r87_24 : am_T d 87 24 ls st S I J Q = am_T d 87 25 ls (.int 0 :: st) S I J Q := tr_iconst (m := 0) (by decide +kernel) (by decide)
theorem r87_25 : am_T d 87 25 [l0, l1, l2, l3, l4, l5] (.int x0 :: st) S I J Q = am_T d 87 26 [l0, l1, am_clr l2, some (.int x0), l4, l5] st S I J Q := tr_istore_n (m := 3) (by decide +kernel) (Nat.le_of_ble_eq_true rfl) rfl
theorem r87_26 : am_T d 87 26 ls st S I J Q = am_T d 87 27 ls (.int 0 :: st) S I J Q := tr_iconst (m := 0) (by decide +kernel) (by decide)
theorem r87_27 : am_T d 87 27 [l0, l1, l2, l3, l4, l5] (.int x0 :: st) S I J Q = am_T d 87 29 [l0, l1, l2, am_clr l3, some (.int x0), l5] st S I J Q := tr_istore (k := 4) (by decide +kernel) (Nat.le_of_ble_eq_true rfl) rfl
theorem r87_29 : am_T d 87 29 [l0, l1, l2, l3, some (.int x0), l5] st S I J Q = am_T d 87 31 [l0, l1, l2, l3, some (.int x0), l5] (.int x0 :: st) S I J Q := tr_iload (k := 4) (by decide +kernel) rfl
theorem r87_31 : am_T d 87 31 [some (.ref a0), l1, l2, l3, l4, l5] st S I J Q = am_T d 87 32 [some (.ref a0), l1, l2, l3, l4, l5] (.ref a0 :: st) S I J Q := tr_aload_n (m := 0) (by decide +kernel) rfl
theorem r87_32 : am_T d 87 32 ls (.ref a0 :: st) S I J Q = ((am_is S a0 8 ∧ am_rf S a0 0 ≠ 0) ∧ am_T d 87 35 ls (.ref (am_rf S a0 0) :: st) S I J Q) := tr_geta (k := 12) (by decide +kernel) (by decide +kernel) (by decide +kernel)
theorem r87_35 : am_T d 87 35 ls (.ref a0 :: st) S I J Q = ((am_is S a0 6 ∧ am_rf S a0 0 ≠ 0) ∧ am_T d 87 38 ls (.ref (am_rf S a0 0) :: st) S I J Q) := tr_geta (k := 69) (by decide +kernel) (by decide +kernel) (by decide +kernel)
theorem r87_38 : am_T d 87 38 ls (.ref a0 :: st) S I J Q = (am_is S a0 1 ∧ am_T d 87 41 ls (.int (I a0 2) :: st) S I J Q) := tr_geti (k := 91) (by decide +kernel) (by decide +kernel) (Or.inl (by decide +kernel))
theorem r87_41 : am_T d 87 41 ls (.int x1 :: .int x0 :: st) S I J Q = if x1 ≤ x0 then am_T d 87 104 ls st S I J Q else am_T d 87 44 ls st S I J Q := tr_icmpge (o := 63) (by decide +kernel) rfl
theorem r87_44 : am_T d 87 44 [some (.ref a0), l1, l2, l3, l4, l5] st S I J Q = am_T d 87 45 [some (.ref a0), l1, l2, l3, l4, l5] (.ref a0 :: st) S I J Q := tr_aload_n (m := 0) (by decide +kernel) rfl
theorem r87_45 : am_T d 87 45 ls (.ref a0 :: st) S I J Q = ((am_is S a0 8 ∧ am_rf S a0 0 ≠ 0) ∧ am_T d 87 48 ls (.ref (am_rf S a0 0) :: st) S I J Q) := tr_geta (k := 12) (by decide +kernel) (by decide +kernel) (by decide +kernel)
theorem r87_48 : am_T d 87 48 ls (.ref a0 :: st) S I J Q = ((am_is S a0 6 ∧ am_rf S a0 1 ≠ 0) ∧ am_T d 87 51 ls (.ref (am_rf S a0 1) :: st) S I J Q) := tr_geta (k := 98) (by decide +kernel) (by decide +kernel) (by decide +kernel)
theorem r87_51 : am_T d 87 51 [some (.ref a0), l1, l2, l3, l4, l5] st S I J Q = am_T d 87 52 [some (.ref a0), l1, l2, l3, l4, l5] (.ref a0 :: st) S I J Q := tr_aload_n (m := 0) (by decide +kernel) rfl
theorem r87_52 : am_T d 87 52 ls (.ref a0 :: st) S I J Q = ((am_is S a0 8 ∧ am_rf S a0 0 ≠ 0) ∧ am_T d 87 55 ls (.ref (am_rf S a0 0) :: st) S I J Q) := tr_geta (k := 12) (by decide +kernel) (by decide +kernel) (by decide +kernel)
theorem r87_55 : am_T d 87 55 ls (.ref a0 :: st) S I J Q = ((am_is S a0 6 ∧ am_rf S a0 0 ≠ 0) ∧ am_T d 87 58 ls (.ref (am_rf S a0 0) :: st) S I J Q) := tr_geta (k := 69) (by decide +kernel) (by decide +kernel) (by decide +kernel)
theorem r87_58 : am_T d 87 58 [l0, l1, l2, l3, some (.int x0), l5] st S I J Q = am_T d 87 60 [l0, l1, l2, l3, some (.int x0), l5] (.int x0 :: st) S I J Q := tr_iload (k := 4) (by decide +kernel) rfl
theorem r87_60 : am_T d 87 60 ls [.int x2, .ref a1, .ref a0] S I J Q = (am_is S a0 3 ∧ am_C d 30 [.ref a0, .ref a1, .int x2] S I J (fun r S I J => am_T d 87 63 ls (am_psh r []) S I J Q)) := tr_virt (k := 217) (by decide +kernel) (by decide +kernel) rfl rfl (Nat.le_of_ble_eq_true rfl) (by decide +kernel)
theorem r87_63 : am_T d 87 63 ls (.int x0 :: st) S I J Q = if x0 = 0 then am_T d 87 98 ls st S I J Q else am_T d 87 66 ls st S I J Q := tr_ifeq (o := 35) (by decide +kernel) rfl
theorem r87_66 : am_T d 87 66 [some (.ref a0), l1, l2, l3, l4, l5] st S I J Q = am_T d 87 67 [some (.ref a0), l1, l2, l3, l4, l5] (.ref a0 :: st) S I J Q := tr_aload_n (m := 0) (by decide +kernel) rfl
theorem r87_67 : am_T d 87 67 [l0, l1, l2, l3, some (.int x0), l5] st S I J Q = am_T d 87 69 [l0, l1, l2, l3, some (.int x0), l5] (.int x0 :: st) S I J Q := tr_iload (k := 4) (by decide +kernel) rfl
theorem r87_69 : am_T d 87 69 ls [.int x1, .ref a0] S I J Q = (am_is S a0 8 ∧ am_C d 101 [.ref a0, .int x1] S I J (fun r S I J => am_T d 87 72 ls (am_psh r []) S I J Q)) := tr_virt (k := 210) (by decide +kernel) (by decide +kernel) rfl rfl (Nat.le_of_ble_eq_true rfl) (by decide +kernel)
theorem r87_72 : am_T d 87 72 [l0, l1, l2, l3, l4, l5] (.int x0 :: st) S I J Q = am_T d 87 74 [l0, l1, l2, l3, am_clr l4, some (.int x0)] st S I J Q := tr_istore (k := 5) (by decide +kernel) (Nat.le_of_ble_eq_true rfl) rfl
theorem r87_74 : am_T d 87 74 [l0, l1, l2, l3, l4, some (.int x0)] st S I J Q = am_T d 87 76 [l0, l1, l2, l3, l4, some (.int x0)] (.int x0 :: st) S I J Q := tr_iload (k := 5) (by decide +kernel) rfl
theorem r87_76 : am_T d 87 76 ls st S I J Q = am_T d 87 78 ls (.int (-107) :: st) S I J Q := tr_bipush (m := -107) (by decide +kernel) (by decide)
theorem r87_78 : am_T d 87 78 ls (.int x1 :: .int x0 :: st) S I J Q = if x0 = x1 then am_T d 87 98 ls st S I J Q else am_T d 87 81 ls st S I J Q := tr_icmpeq (o := 20) (by decide +kernel) rfl
theorem r87_81 : am_T d 87 81 [l0, l1, some (.int x0), l3, l4, l5] st S I J Q = am_T d 87 82 [l0, l1, some (.int x0), l3, l4, l5] (.int x0 :: st) S I J Q := tr_iload_n (m := 2) (by decide +kernel) rfl
theorem r87_82 : am_T d 87 82 ls st S I J Q = am_T d 87 83 ls (.int (-1) :: st) S I J Q := tr_iconst (m := -1) (by decide +kernel) (by decide)
theorem r87_83 : am_T d 87 83 ls (.int x1 :: .int x0 :: st) S I J Q = if x0 = x1 then am_T d 87 92 ls st S I J Q else am_T d 87 86 ls st S I J Q := tr_icmpeq (o := 9) (by decide +kernel) rfl
theorem r87_86 : am_T d 87 86 [l0, l1, l2, l3, l4, some (.int x0)] st S I J Q = am_T d 87 88 [l0, l1, l2, l3, l4, some (.int x0)] (.int x0 :: st) S I J Q := tr_iload (k := 5) (by decide +kernel) rfl
theorem r87_88 : am_T d 87 88 [l0, l1, l2, some (.int x0), l4, l5] st S I J Q = am_T d 87 89 [l0, l1, l2, some (.int x0), l4, l5] (.int x0 :: st) S I J Q := tr_iload_n (m := 3) (by decide +kernel) rfl
theorem r87_89 : am_T d 87 89 ls (.int x1 :: .int x0 :: st) S I J Q = if x1 ≤ x0 then am_T d 87 98 ls st S I J Q else am_T d 87 92 ls st S I J Q := tr_icmpge (o := 9) (by decide +kernel) rfl
theorem r87_92 : am_T d 87 92 [l0, l1, l2, l3, some (.int x0), l5] st S I J Q = am_T d 87 94 [l0, l1, l2, l3, some (.int x0), l5] (.int x0 :: st) S I J Q := tr_iload (k := 4) (by decide +kernel) rfl
theorem r87_94 : am_T d 87 94 [l0, l1, l2, l3, l4, l5] (.int x0 :: st) S I J Q = am_T d 87 95 [l0, am_clr l1, some (.int x0), l3, l4, l5] st S I J Q := tr_istore_n (m := 2) (by decide +kernel) (Nat.le_of_ble_eq_true rfl) rfl
theorem r87_95 : am_T d 87 95 [l0, l1, l2, l3, l4, some (.int x0)] st S I J Q = am_T d 87 97 [l0, l1, l2, l3, l4, some (.int x0)] (.int x0 :: st) S I J Q := tr_iload (k := 5) (by decide +kernel) rfl
theorem r87_97 : am_T d 87 97 [l0, l1, l2, l3, l4, l5] (.int x0 :: st) S I J Q = am_T d 87 98 [l0, l1, am_clr l2, some (.int x0), l4, l5] st S I J Q := tr_istore_n (m := 3) (by decide +kernel) (Nat.le_of_ble_eq_true rfl) rfl
theorem r87_98 : am_T d 87 98 [l0, l1, l2, l3, some (.int x0), l5] st S I J Q = am_T d 87 101 [l0, l1, l2, am_clr l3, some (.int (x0 + 1)), l5] st S I J Q := tr_iinc (k := 4) (m := 1) (by decide +kernel) rfl (Nat.le_of_ble_eq_true rfl) (by decide) rfl
theorem r87_101 : am_T d 87 101 ls st S I J Q = am_T d 87 29 ls st S I J Q := tr_goto (o := -72) (by decide +kernel) rfl
theorem r87_104 : am_T d 87 104 [l0, l1, some (.int x0), l3, l4, l5] st S I J Q = am_T d 87 105 [l0, l1, some (.int x0), l3, l4, l5] (.int x0 :: st) S I J Q := tr_iload_n (m := 2) (by decide +kernel) rfl
theorem r87_105 : am_T d 87 105 ls st S I J Q = am_T d 87 106 ls (.int (-1) :: st) S I J Q := tr_iconst (m := -1) (by decide +kernel) (by decide)
theorem r87_106 : am_T d 87 106 ls (.int x1 :: .int x0 :: st) S I J Q = if x0 = x1 then am_T d 87 109 ls st S I J Q else am_T d 87 112 ls st S I J Q := tr_icmpne (o := 6) (by decide +kernel) rfl
theorem r87_109 : am_T d 87 109 ls st S I J Q = am_T d 87 111 ls (.int (-107) :: st) S I J Q := tr_bipush (m := -107) (by decide +kernel) (by decide)
theorem r87_111 : am_T d 87 111 ls [.int x0] S I J Q = Q (some (.int x0)) S I J := tr_ireti (by decide +kernel) (by decide +kernel)
theorem r87_112 : am_T d 87 112 [l0, some (.int x0), l2, l3, l4, l5] st S I J Q = am_T d 87 113 [l0, some (.int x0), l2, l3, l4, l5] (.int x0 :: st) S I J Q := tr_iload_n (m := 1) (by decide +kernel) rfl
theorem r87_113 : am_T d 87 113 ls (.int x0 :: st) S I J Q = if x0 = 0 then am_T d 87 116 ls st S I J Q else am_T d 87 120 ls st S I J Q := tr_ifne (o := 7) (by decide +kernel) rfl
theorem r87_116 : am_T d 87 116 [l0, l1, l2, some (.int x0), l4, l5] st S I J Q = am_T d 87 117 [l0, l1, l2, some (.int x0), l4, l5] (.int x0 :: st) S I J Q := tr_iload_n (m := 3) (by decide +kernel) rfl
theorem r87_117 : am_T d 87 117 ls st S I J Q = am_T d 87 121 ls st S I J Q := tr_goto (o := 4) (by decide +kernel) rfl
theorem r87_120 : am_T d 87 120 [l0, l1, some (.int x0), l3, l4, l5] st S I J Q = am_T d 87 121 [l0, l1, some (.int x0), l3, l4, l5] (.int x0 :: st) S I J Q := tr_iload_n (m := 2) (by decide +kernel) rfl
theorem r87_121 : am_T d 87 121 ls [.int x0] S I J Q = Q (some (.int x0)) S I J := tr_ireti (by decide +kernel) (by decide +kernel)
-- 88 Fin.necessary(I)I; heads [21]
theorem e88 : am_C (d + 1) 88 [.ref a0, .int x1] S I J Q = am_T d 88 0 [some (.ref a0), some (.int x1), none, none] [] S I J Q := tr_en (Nat.le_of_ble_eq_true rfl) rfl
theorem r88_0 : am_T d 88 0 [l0, some (.int x0), l2, l3] st S I J Q = am_T d 88 1 [l0, some (.int x0), l2, l3] (.int x0 :: st) S I J Q := tr_iload_n (m := 1) (by decide +kernel) rfl
theorem r88_1 : am_T d 88 1 ls (.int x0 :: st) S I J Q = if 0 ≤ x0 then am_T d 88 7 ls st S I J Q else am_T d 88 4 ls st S I J Q := tr_ifge (o := 6) (by decide +kernel) rfl
theorem r88_4 : am_T d 88 4 ls st S I J Q = am_T d 88 6 ls (.int (-103) :: st) S I J Q := tr_bipush (m := -103) (by decide +kernel) (by decide)
theorem r88_6 : am_T d 88 6 ls [.int x0] S I J Q = Q (some (.int x0)) S I J := tr_ireti (by decide +kernel) (by decide +kernel)
theorem r88_7 : am_T d 88 7 [some (.ref a0), l1, l2, l3] st S I J Q = am_T d 88 8 [some (.ref a0), l1, l2, l3] (.ref a0 :: st) S I J Q := tr_aload_n (m := 0) (by decide +kernel) rfl
theorem r88_8 : am_T d 88 8 ls [.ref a0] S I J Q = (am_is S a0 8 ∧ am_C d 99 [.ref a0] S I J (fun r S I J => am_T d 88 11 ls (am_psh r []) S I J Q)) := tr_virt (k := 180) (by decide +kernel) (by decide +kernel) rfl rfl (Nat.le_of_ble_eq_true rfl) (by decide +kernel)
theorem r88_11 : am_T d 88 11 ls (.int x0 :: st) S I J Q = if x0 = 0 then am_T d 88 14 ls st S I J Q else am_T d 88 17 ls st S I J Q := tr_ifne (o := 6) (by decide +kernel) rfl
theorem r88_14 : am_T d 88 14 ls st S I J Q = am_T d 88 16 ls (.int (-106) :: st) S I J Q := tr_bipush (m := -106) (by decide +kernel) (by decide)
theorem r88_16 : am_T d 88 16 ls [.int x0] S I J Q = Q (some (.int x0)) S I J := tr_ireti (by decide +kernel) (by decide +kernel)
theorem r88_17 : am_T d 88 17 ls st S I J Q = am_T d 88 18 ls (.int 0 :: st) S I J Q := tr_iconst (m := 0) (by decide +kernel) (by decide)
theorem r88_18 : am_T d 88 18 [l0, l1, l2, l3] (.int x0 :: st) S I J Q = am_T d 88 19 [l0, am_clr l1, some (.int x0), l3] st S I J Q := tr_istore_n (m := 2) (by decide +kernel) (Nat.le_of_ble_eq_true rfl) rfl
theorem r88_19 : am_T d 88 19 ls st S I J Q = am_T d 88 20 ls (.int 0 :: st) S I J Q := tr_iconst (m := 0) (by decide +kernel) (by decide)
theorem r88_20 : am_T d 88 20 [l0, l1, l2, l3] (.int x0 :: st) S I J Q = am_T d 88 21 [l0, l1, am_clr l2, some (.int x0)] st S I J Q := tr_istore_n (m := 3) (by decide +kernel) (Nat.le_of_ble_eq_true rfl) rfl
theorem r88_21 : am_T d 88 21 [l0, l1, l2, some (.int x0)] st S I J Q = am_T d 88 22 [l0, l1, l2, some (.int x0)] (.int x0 :: st) S I J Q := tr_iload_n (m := 3) (by decide +kernel) rfl
theorem r88_22 : am_T d 88 22 [some (.ref a0), l1, l2, l3] st S I J Q = am_T d 88 23 [some (.ref a0), l1, l2, l3] (.ref a0 :: st) S I J Q := tr_aload_n (m := 0) (by decide +kernel) rfl
theorem r88_23 : am_T d 88 23 ls (.ref a0 :: st) S I J Q = ((am_is S a0 8 ∧ am_rf S a0 0 ≠ 0) ∧ am_T d 88 26 ls (.ref (am_rf S a0 0) :: st) S I J Q) := tr_geta (k := 12) (by decide +kernel) (by decide +kernel) (by decide +kernel)
theorem r88_26 : am_T d 88 26 ls (.ref a0 :: st) S I J Q = ((am_is S a0 6 ∧ am_rf S a0 0 ≠ 0) ∧ am_T d 88 29 ls (.ref (am_rf S a0 0) :: st) S I J Q) := tr_geta (k := 69) (by decide +kernel) (by decide +kernel) (by decide +kernel)
theorem r88_29 : am_T d 88 29 ls (.ref a0 :: st) S I J Q = (am_is S a0 1 ∧ am_T d 88 32 ls (.int (I a0 2) :: st) S I J Q) := tr_geti (k := 91) (by decide +kernel) (by decide +kernel) (Or.inl (by decide +kernel))
theorem r88_32 : am_T d 88 32 ls (.int x1 :: .int x0 :: st) S I J Q = if x1 ≤ x0 then am_T d 88 59 ls st S I J Q else am_T d 88 35 ls st S I J Q := tr_icmpge (o := 27) (by decide +kernel) rfl
theorem r88_35 : am_T d 88 35 [some (.ref a0), l1, l2, l3] st S I J Q = am_T d 88 36 [some (.ref a0), l1, l2, l3] (.ref a0 :: st) S I J Q := tr_aload_n (m := 0) (by decide +kernel) rfl
theorem r88_36 : am_T d 88 36 [l0, l1, l2, some (.int x0)] st S I J Q = am_T d 88 37 [l0, l1, l2, some (.int x0)] (.int x0 :: st) S I J Q := tr_iload_n (m := 3) (by decide +kernel) rfl
theorem r88_37 : am_T d 88 37 ls [.int x1, .ref a0] S I J Q = (am_is S a0 8 ∧ am_C d 104 [.ref a0, .int x1] S I J (fun r S I J => am_T d 88 40 ls (am_psh r []) S I J Q)) := tr_virt (k := 220) (by decide +kernel) (by decide +kernel) rfl rfl (Nat.le_of_ble_eq_true rfl) (by decide +kernel)
theorem r88_40 : am_T d 88 40 ls (.int x0 :: st) S I J Q = if x0 = 0 then am_T d 88 53 ls st S I J Q else am_T d 88 43 ls st S I J Q := tr_ifeq (o := 13) (by decide +kernel) rfl
theorem r88_43 : am_T d 88 43 [l0, l1, some (.int x0), l3] st S I J Q = am_T d 88 44 [l0, l1, some (.int x0), l3] (.int x0 :: st) S I J Q := tr_iload_n (m := 2) (by decide +kernel) rfl
theorem r88_44 : am_T d 88 44 [l0, some (.int x0), l2, l3] st S I J Q = am_T d 88 45 [l0, some (.int x0), l2, l3] (.int x0 :: st) S I J Q := tr_iload_n (m := 1) (by decide +kernel) rfl
theorem r88_45 : am_T d 88 45 ls (.int x1 :: .int x0 :: st) S I J Q = if x0 = x1 then am_T d 88 48 ls st S I J Q else am_T d 88 50 ls st S I J Q := tr_icmpne (o := 5) (by decide +kernel) rfl
theorem r88_48 : am_T d 88 48 [l0, l1, l2, some (.int x0)] st S I J Q = am_T d 88 49 [l0, l1, l2, some (.int x0)] (.int x0 :: st) S I J Q := tr_iload_n (m := 3) (by decide +kernel) rfl
theorem r88_49 : am_T d 88 49 ls [.int x0] S I J Q = Q (some (.int x0)) S I J := tr_ireti (by decide +kernel) (by decide +kernel)
theorem r88_50 : am_T d 88 50 [l0, l1, some (.int x0), l3] st S I J Q = am_T d 88 53 [l0, am_clr l1, some (.int (x0 + 1)), l3] st S I J Q := tr_iinc (k := 2) (m := 1) (by decide +kernel) rfl (Nat.le_of_ble_eq_true rfl) (by decide) rfl
theorem r88_53 : am_T d 88 53 [l0, l1, l2, some (.int x0)] st S I J Q = am_T d 88 56 [l0, l1, am_clr l2, some (.int (x0 + 1))] st S I J Q := tr_iinc (k := 3) (m := 1) (by decide +kernel) rfl (Nat.le_of_ble_eq_true rfl) (by decide) rfl
theorem r88_56 : am_T d 88 56 ls st S I J Q = am_T d 88 21 ls st S I J Q := tr_goto (o := -35) (by decide +kernel) rfl
theorem r88_59 : am_T d 88 59 ls st S I J Q = am_T d 88 61 ls (.int (-107) :: st) S I J Q := tr_bipush (m := -107) (by decide +kernel) (by decide)
theorem r88_61 : am_T d 88 61 ls [.int x0] S I J Q = Q (some (.int x0)) S I J := tr_ireti (by decide +kernel) (by decide +kernel)
-- 89 Fin.limitedCost()I; heads []
theorem e89 : am_C (d + 1) 89 [.ref a0] S I J Q = am_T d 89 0 [some (.ref a0)] [] S I J Q := tr_en (Nat.le_of_ble_eq_true rfl) rfl
theorem r89_0 : am_T d 89 0 [some (.ref a0)] st S I J Q = am_T d 89 1 [some (.ref a0)] (.ref a0 :: st) S I J Q := tr_aload_n (m := 0) (by decide +kernel) rfl
theorem r89_1 : am_T d 89 1 ls (.ref a0 :: st) S I J Q = ((am_is S a0 8 ∧ am_rf S a0 11 ≠ 0) ∧ am_T d 89 4 ls (.ref (am_rf S a0 11) :: st) S I J Q) := tr_geta (k := 51) (by decide +kernel) (by decide +kernel) (by decide +kernel)
theorem r89_4 : am_T d 89 4 [some (.ref a0)] st S I J Q = am_T d 89 5 [some (.ref a0)] (.ref a0 :: st) S I J Q := tr_aload_n (m := 0) (by decide +kernel) rfl
theorem r89_5 : am_T d 89 5 ls (.ref a0 :: st) S I J Q = ((am_is S a0 8 ∧ am_rf S a0 0 ≠ 0) ∧ am_T d 89 8 ls (.ref (am_rf S a0 0) :: st) S I J Q) := tr_geta (k := 12) (by decide +kernel) (by decide +kernel) (by decide +kernel)
theorem r89_8 : am_T d 89 8 ls (.ref a0 :: st) S I J Q = ((am_is S a0 6 ∧ am_rf S a0 0 ≠ 0) ∧ am_T d 89 11 ls (.ref (am_rf S a0 0) :: st) S I J Q) := tr_geta (k := 69) (by decide +kernel) (by decide +kernel) (by decide +kernel)
theorem r89_11 : am_T d 89 11 [some (.ref a0)] st S I J Q = am_T d 89 12 [some (.ref a0)] (.ref a0 :: st) S I J Q := tr_aload_n (m := 0) (by decide +kernel) rfl
theorem r89_12 : am_T d 89 12 ls (.ref a0 :: st) S I J Q = ((am_is S a0 8 ∧ am_rf S a0 10 ≠ 0) ∧ am_T d 89 15 ls (.ref (am_rf S a0 10) :: st) S I J Q) := tr_geta (k := 44) (by decide +kernel) (by decide +kernel) (by decide +kernel)
theorem r89_15 : am_T d 89 15 ls [.ref a2, .ref a1, .ref a0] S I J Q = (am_is S a0 4 ∧ am_C d 39 [.ref a0, .ref a1, .ref a2] S I J (fun r S I J => am_T d 89 18 ls (am_psh r []) S I J Q)) := tr_virt (k := 223) (by decide +kernel) (by decide +kernel) rfl rfl (Nat.le_of_ble_eq_true rfl) (by decide +kernel)
theorem r89_18 : am_T d 89 18 ls (.int x0 :: st) S I J Q = if x0 = 0 then am_T d 89 31 ls st S I J Q else am_T d 89 21 ls st S I J Q := tr_ifeq (o := 13) (by decide +kernel) rfl
theorem r89_21 : am_T d 89 21 [some (.ref a0)] st S I J Q = am_T d 89 22 [some (.ref a0)] (.ref a0 :: st) S I J Q := tr_aload_n (m := 0) (by decide +kernel) rfl
theorem r89_22 : am_T d 89 22 ls (.ref a0 :: st) S I J Q = ((am_is S a0 8 ∧ am_rf S a0 11 ≠ 0) ∧ am_T d 89 25 ls (.ref (am_rf S a0 11) :: st) S I J Q) := tr_geta (k := 51) (by decide +kernel) (by decide +kernel) (by decide +kernel)
theorem r89_25 : am_T d 89 25 ls (.ref a0 :: st) S I J Q = (am_is S a0 4 ∧ am_T d 89 28 ls (.int (I a0 2) :: st) S I J Q) := tr_geti (k := 227) (by decide +kernel) (by decide +kernel) (Or.inl (by decide +kernel))
theorem r89_28 : am_T d 89 28 ls st S I J Q = am_T d 89 33 ls st S I J Q := tr_goto (o := 5) (by decide +kernel) rfl
theorem r89_31 : am_T d 89 31 ls st S I J Q = am_T d 89 33 ls (.int (-106) :: st) S I J Q := tr_bipush (m := -106) (by decide +kernel) (by decide)
theorem r89_33 : am_T d 89 33 ls [.int x0] S I J Q = Q (some (.int x0)) S I J := tr_ireti (by decide +kernel) (by decide +kernel)
-- 90 Fin.limitedArc(I)I; heads []
theorem e90 : am_C (d + 1) 90 [.ref a0, .int x1] S I J Q = am_T d 90 0 [some (.ref a0), some (.int x1)] [] S I J Q := tr_en (Nat.le_of_ble_eq_true rfl) rfl
theorem r90_0 : am_T d 90 0 [some (.ref a0), l1] st S I J Q = am_T d 90 1 [some (.ref a0), l1] (.ref a0 :: st) S I J Q := tr_aload_n (m := 0) (by decide +kernel) rfl
theorem r90_1 : am_T d 90 1 ls (.ref a0 :: st) S I J Q = ((am_is S a0 8 ∧ am_rf S a0 0 ≠ 0) ∧ am_T d 90 4 ls (.ref (am_rf S a0 0) :: st) S I J Q) := tr_geta (k := 12) (by decide +kernel) (by decide +kernel) (by decide +kernel)
theorem r90_4 : am_T d 90 4 ls (.ref a0 :: st) S I J Q = ((am_is S a0 6 ∧ am_rf S a0 0 ≠ 0) ∧ am_T d 90 7 ls (.ref (am_rf S a0 0) :: st) S I J Q) := tr_geta (k := 69) (by decide +kernel) (by decide +kernel) (by decide +kernel)
theorem r90_7 : am_T d 90 7 [l0, some (.int x0)] st S I J Q = am_T d 90 8 [l0, some (.int x0)] (.int x0 :: st) S I J Q := tr_iload_n (m := 1) (by decide +kernel) rfl
theorem r90_8 : am_T d 90 8 ls [.int x1, .ref a0] S I J Q = (am_is S a0 1 ∧ am_C d 13 [.ref a0, .int x1] S I J (fun r S I J => am_T d 90 11 ls (am_psh r []) S I J Q)) := tr_virt (k := 87) (by decide +kernel) (by decide +kernel) rfl rfl (Nat.le_of_ble_eq_true rfl) (by decide +kernel)
theorem r90_11 : am_T d 90 11 ls (.int x0 :: st) S I J Q = if x0 = 0 then am_T d 90 14 ls st S I J Q else am_T d 90 17 ls st S I J Q := tr_ifne (o := 6) (by decide +kernel) rfl
theorem r90_14 : am_T d 90 14 ls st S I J Q = am_T d 90 16 ls (.int (-101) :: st) S I J Q := tr_bipush (m := -101) (by decide +kernel) (by decide)
theorem r90_16 : am_T d 90 16 ls [.int x0] S I J Q = Q (some (.int x0)) S I J := tr_ireti (by decide +kernel) (by decide +kernel)
theorem r90_17 : am_T d 90 17 [some (.ref a0), l1] st S I J Q = am_T d 90 18 [some (.ref a0), l1] (.ref a0 :: st) S I J Q := tr_aload_n (m := 0) (by decide +kernel) rfl
theorem r90_18 : am_T d 90 18 ls (.ref a0 :: st) S I J Q = ((am_is S a0 8 ∧ am_rf S a0 11 ≠ 0) ∧ am_T d 90 21 ls (.ref (am_rf S a0 11) :: st) S I J Q) := tr_geta (k := 51) (by decide +kernel) (by decide +kernel) (by decide +kernel)
theorem r90_21 : am_T d 90 21 [some (.ref a0), l1] st S I J Q = am_T d 90 22 [some (.ref a0), l1] (.ref a0 :: st) S I J Q := tr_aload_n (m := 0) (by decide +kernel) rfl
theorem r90_22 : am_T d 90 22 ls (.ref a0 :: st) S I J Q = ((am_is S a0 8 ∧ am_rf S a0 0 ≠ 0) ∧ am_T d 90 25 ls (.ref (am_rf S a0 0) :: st) S I J Q) := tr_geta (k := 12) (by decide +kernel) (by decide +kernel) (by decide +kernel)
theorem r90_25 : am_T d 90 25 ls (.ref a0 :: st) S I J Q = ((am_is S a0 6 ∧ am_rf S a0 0 ≠ 0) ∧ am_T d 90 28 ls (.ref (am_rf S a0 0) :: st) S I J Q) := tr_geta (k := 69) (by decide +kernel) (by decide +kernel) (by decide +kernel)
theorem r90_28 : am_T d 90 28 [some (.ref a0), l1] st S I J Q = am_T d 90 29 [some (.ref a0), l1] (.ref a0 :: st) S I J Q := tr_aload_n (m := 0) (by decide +kernel) rfl
theorem r90_29 : am_T d 90 29 ls (.ref a0 :: st) S I J Q = ((am_is S a0 8 ∧ am_rf S a0 10 ≠ 0) ∧ am_T d 90 32 ls (.ref (am_rf S a0 10) :: st) S I J Q) := tr_geta (k := 44) (by decide +kernel) (by decide +kernel) (by decide +kernel)
theorem r90_32 : am_T d 90 32 ls [.ref a2, .ref a1, .ref a0] S I J Q = (am_is S a0 4 ∧ am_C d 39 [.ref a0, .ref a1, .ref a2] S I J (fun r S I J => am_T d 90 35 ls (am_psh r []) S I J Q)) := tr_virt (k := 223) (by decide +kernel) (by decide +kernel) rfl rfl (Nat.le_of_ble_eq_true rfl) (by decide +kernel)
theorem r90_35 : am_T d 90 35 ls (.int x0 :: st) S I J Q = if x0 = 0 then am_T d 90 38 ls st S I J Q else am_T d 90 41 ls st S I J Q := tr_ifne (o := 6) (by decide +kernel) rfl
theorem r90_38 : am_T d 90 38 ls st S I J Q = am_T d 90 40 ls (.int (-106) :: st) S I J Q := tr_bipush (m := -106) (by decide +kernel) (by decide)
theorem r90_40 : am_T d 90 40 ls [.int x0] S I J Q = Q (some (.int x0)) S I J := tr_ireti (by decide +kernel) (by decide +kernel)
theorem r90_41 : am_T d 90 41 [l0, some (.int x0)] st S I J Q = am_T d 90 42 [l0, some (.int x0)] (.int x0 :: st) S I J Q := tr_iload_n (m := 1) (by decide +kernel) rfl
theorem r90_42 : am_T d 90 42 [some (.ref a0), l1] st S I J Q = am_T d 90 43 [some (.ref a0), l1] (.ref a0 :: st) S I J Q := tr_aload_n (m := 0) (by decide +kernel) rfl
theorem r90_43 : am_T d 90 43 ls (.ref a0 :: st) S I J Q = ((am_is S a0 8 ∧ am_rf S a0 0 ≠ 0) ∧ am_T d 90 46 ls (.ref (am_rf S a0 0) :: st) S I J Q) := tr_geta (k := 12) (by decide +kernel) (by decide +kernel) (by decide +kernel)
theorem r90_46 : am_T d 90 46 ls (.ref a0 :: st) S I J Q = ((am_is S a0 6 ∧ am_rf S a0 0 ≠ 0) ∧ am_T d 90 49 ls (.ref (am_rf S a0 0) :: st) S I J Q) := tr_geta (k := 69) (by decide +kernel) (by decide +kernel) (by decide +kernel)
theorem r90_49 : am_T d 90 49 ls (.ref a0 :: st) S I J Q = (am_is S a0 1 ∧ am_T d 90 52 ls (.int (I a0 1) :: st) S I J Q) := tr_geti (k := 126) (by decide +kernel) (by decide +kernel) (Or.inl (by decide +kernel))
theorem r90_52 : am_T d 90 52 ls (.int x1 :: .int x0 :: st) S I J Q = if x0 = x1 then am_T d 90 55 ls st S I J Q else am_T d 90 60 ls st S I J Q := tr_icmpne (o := 8) (by decide +kernel) rfl
theorem r90_55 : am_T d 90 55 ls st S I J Q = am_T d 90 57 ls (.int (-107) :: st) S I J Q := tr_bipush (m := -107) (by decide +kernel) (by decide)
theorem r90_57 : am_T d 90 57 ls st S I J Q = am_T d 90 69 ls st S I J Q := tr_goto (o := 12) (by decide +kernel) rfl
theorem r90_60 : am_T d 90 60 [some (.ref a0), l1] st S I J Q = am_T d 90 61 [some (.ref a0), l1] (.ref a0 :: st) S I J Q := tr_aload_n (m := 0) (by decide +kernel) rfl
theorem r90_61 : am_T d 90 61 ls (.ref a0 :: st) S I J Q = ((am_is S a0 8 ∧ am_rf S a0 11 ≠ 0) ∧ am_T d 90 64 ls (.ref (am_rf S a0 11) :: st) S I J Q) := tr_geta (k := 51) (by decide +kernel) (by decide +kernel) (by decide +kernel)
theorem r90_64 : am_T d 90 64 ls (.ref a0 :: st) S I J Q = ((am_is S a0 4 ∧ am_rf S a0 3 ≠ 0) ∧ am_T d 90 67 ls (.ref (am_rf S a0 3) :: st) S I J Q) := tr_geta (k := 230) (by decide +kernel) (by decide +kernel) (by decide +kernel)
theorem r90_67 : am_T d 90 67 [l0, some (.int x0)] st S I J Q = am_T d 90 68 [l0, some (.int x0)] (.int x0 :: st) S I J Q := tr_iload_n (m := 1) (by decide +kernel) rfl
theorem r90_68 : am_T d 90 68 ls (.int x0 :: .ref a0 :: st) S I J Q = (am_ix S a0 20 x0 ∧ am_T d 90 69 ls (.int (I a0 x0.toNatClampNeg) :: st) S I J Q) := tr_iald (by decide +kernel)
theorem r90_69 : am_T d 90 69 ls [.int x0] S I J Q = Q (some (.int x0)) S I J := tr_ireti (by decide +kernel) (by decide +kernel)
-- 91 Fin.priceBound(II)I; heads []
theorem e91 : am_C (d + 1) 91 [.ref a0, .int x1, .int x2] S I J Q = am_T d 91 0 [some (.ref a0), some (.int x1), some (.int x2)] [] S I J Q := tr_en (Nat.le_of_ble_eq_true rfl) rfl
theorem r91_0 : am_T d 91 0 [l0, some (.int x0), l2] st S I J Q = am_T d 91 1 [l0, some (.int x0), l2] (.int x0 :: st) S I J Q := tr_iload_n (m := 1) (by decide +kernel) rfl
theorem r91_1 : am_T d 91 1 [l0, l1, some (.int x0)] st S I J Q = am_T d 91 2 [l0, l1, some (.int x0)] (.int x0 :: st) S I J Q := tr_iload_n (m := 2) (by decide +kernel) rfl
theorem r91_2 : am_T d 91 2 ls [.int x1, .int x0] S I J Q = am_C d 105 [.int x0, .int x1] S I J (fun r S I J => am_T d 91 5 ls (am_psh r []) S I J Q) := tr_stat (k := 233) (by decide +kernel) (Or.inl (by decide +kernel)) (Nat.le_of_ble_eq_true rfl) rfl rfl (Nat.le_of_ble_eq_true rfl)
theorem r91_5 : am_T d 91 5 ls (.int x0 :: st) S I J Q = if x0 = 0 then am_T d 91 8 ls st S I J Q else am_T d 91 11 ls st S I J Q := tr_ifne (o := 6) (by decide +kernel) rfl
theorem r91_8 : am_T d 91 8 ls st S I J Q = am_T d 91 10 ls (.int (-103) :: st) S I J Q := tr_bipush (m := -103) (by decide +kernel) (by decide)
theorem r91_10 : am_T d 91 10 ls [.int x0] S I J Q = Q (some (.int x0)) S I J := tr_ireti (by decide +kernel) (by decide +kernel)
theorem r91_11 : am_T d 91 11 [some (.ref a0), l1, l2] st S I J Q = am_T d 91 12 [some (.ref a0), l1, l2] (.ref a0 :: st) S I J Q := tr_aload_n (m := 0) (by decide +kernel) rfl
theorem r91_12 : am_T d 91 12 ls (.ref a0 :: st) S I J Q = ((am_is S a0 8 ∧ am_rf S a0 12 ≠ 0) ∧ am_T d 91 15 ls (.ref (am_rf S a0 12) :: st) S I J Q) := tr_geta (k := 58) (by decide +kernel) (by decide +kernel) (by decide +kernel)
theorem r91_15 : am_T d 91 15 [some (.ref a0), l1, l2] st S I J Q = am_T d 91 16 [some (.ref a0), l1, l2] (.ref a0 :: st) S I J Q := tr_aload_n (m := 0) (by decide +kernel) rfl
theorem r91_16 : am_T d 91 16 ls (.ref a0 :: st) S I J Q = ((am_is S a0 8 ∧ am_rf S a0 0 ≠ 0) ∧ am_T d 91 19 ls (.ref (am_rf S a0 0) :: st) S I J Q) := tr_geta (k := 12) (by decide +kernel) (by decide +kernel) (by decide +kernel)
theorem r91_19 : am_T d 91 19 ls (.ref a0 :: st) S I J Q = ((am_is S a0 6 ∧ am_rf S a0 0 ≠ 0) ∧ am_T d 91 22 ls (.ref (am_rf S a0 0) :: st) S I J Q) := tr_geta (k := 69) (by decide +kernel) (by decide +kernel) (by decide +kernel)
theorem r91_22 : am_T d 91 22 [some (.ref a0), l1, l2] st S I J Q = am_T d 91 23 [some (.ref a0), l1, l2] (.ref a0 :: st) S I J Q := tr_aload_n (m := 0) (by decide +kernel) rfl
theorem r91_23 : am_T d 91 23 ls (.ref a0 :: st) S I J Q = ((am_is S a0 8 ∧ am_rf S a0 10 ≠ 0) ∧ am_T d 91 26 ls (.ref (am_rf S a0 10) :: st) S I J Q) := tr_geta (k := 44) (by decide +kernel) (by decide +kernel) (by decide +kernel)
theorem r91_26 : am_T d 91 26 [l0, some (.int x0), l2] st S I J Q = am_T d 91 27 [l0, some (.int x0), l2] (.int x0 :: st) S I J Q := tr_iload_n (m := 1) (by decide +kernel) rfl
theorem r91_27 : am_T d 91 27 [l0, l1, some (.int x0)] st S I J Q = am_T d 91 28 [l0, l1, some (.int x0)] (.int x0 :: st) S I J Q := tr_iload_n (m := 2) (by decide +kernel) rfl
theorem r91_28 : am_T d 91 28 ls [.int x4, .int x3, .ref a2, .ref a1, .ref a0] S I J Q = (am_is S a0 5 ∧ am_C d 46 [.ref a0, .ref a1, .ref a2, .int x3, .int x4] S I J (fun r S I J => am_T d 91 31 ls (am_psh r []) S I J Q)) := tr_virt (k := 237) (by decide +kernel) (by decide +kernel) rfl rfl (Nat.le_of_ble_eq_true rfl) (by decide +kernel)
theorem r91_31 : am_T d 91 31 ls (.int x0 :: st) S I J Q = if x0 = 0 then am_T d 91 44 ls st S I J Q else am_T d 91 34 ls st S I J Q := tr_ifeq (o := 13) (by decide +kernel) rfl
theorem r91_34 : am_T d 91 34 [some (.ref a0), l1, l2] st S I J Q = am_T d 91 35 [some (.ref a0), l1, l2] (.ref a0 :: st) S I J Q := tr_aload_n (m := 0) (by decide +kernel) rfl
theorem r91_35 : am_T d 91 35 ls (.ref a0 :: st) S I J Q = ((am_is S a0 8 ∧ am_rf S a0 12 ≠ 0) ∧ am_T d 91 38 ls (.ref (am_rf S a0 12) :: st) S I J Q) := tr_geta (k := 58) (by decide +kernel) (by decide +kernel) (by decide +kernel)
theorem r91_38 : am_T d 91 38 ls (.ref a0 :: st) S I J Q = (am_is S a0 5 ∧ am_T d 91 41 ls (.int (I a0 0) :: st) S I J Q) := tr_geti (k := 241) (by decide +kernel) (by decide +kernel) (Or.inl (by decide +kernel))
theorem r91_41 : am_T d 91 41 ls st S I J Q = am_T d 91 46 ls st S I J Q := tr_goto (o := 5) (by decide +kernel) rfl
theorem r91_44 : am_T d 91 44 ls st S I J Q = am_T d 91 46 ls (.int (-106) :: st) S I J Q := tr_bipush (m := -106) (by decide +kernel) (by decide)
theorem r91_46 : am_T d 91 46 ls [.int x0] S I J Q = Q (some (.int x0)) S I J := tr_ireti (by decide +kernel) (by decide +kernel)
-- 92 Fin.price(III)I; heads []
theorem e92 : am_C (d + 1) 92 [.ref a0, .int x1, .int x2, .int x3] S I J Q = am_T d 92 0 [some (.ref a0), some (.int x1), some (.int x2), some (.int x3)] [] S I J Q := tr_en (Nat.le_of_ble_eq_true rfl) rfl
theorem r92_0 : am_T d 92 0 [some (.ref a0), l1, l2, l3] st S I J Q = am_T d 92 1 [some (.ref a0), l1, l2, l3] (.ref a0 :: st) S I J Q := tr_aload_n (m := 0) (by decide +kernel) rfl
theorem r92_1 : am_T d 92 1 ls (.ref a0 :: st) S I J Q = ((am_is S a0 8 ∧ am_rf S a0 0 ≠ 0) ∧ am_T d 92 4 ls (.ref (am_rf S a0 0) :: st) S I J Q) := tr_geta (k := 12) (by decide +kernel) (by decide +kernel) (by decide +kernel)
theorem r92_4 : am_T d 92 4 ls (.ref a0 :: st) S I J Q = ((am_is S a0 6 ∧ am_rf S a0 0 ≠ 0) ∧ am_T d 92 7 ls (.ref (am_rf S a0 0) :: st) S I J Q) := tr_geta (k := 69) (by decide +kernel) (by decide +kernel) (by decide +kernel)
theorem r92_7 : am_T d 92 7 [l0, some (.int x0), l2, l3] st S I J Q = am_T d 92 8 [l0, some (.int x0), l2, l3] (.int x0 :: st) S I J Q := tr_iload_n (m := 1) (by decide +kernel) rfl
theorem r92_8 : am_T d 92 8 ls [.int x1, .ref a0] S I J Q = (am_is S a0 1 ∧ am_C d 13 [.ref a0, .int x1] S I J (fun r S I J => am_T d 92 11 ls (am_psh r []) S I J Q)) := tr_virt (k := 87) (by decide +kernel) (by decide +kernel) rfl rfl (Nat.le_of_ble_eq_true rfl) (by decide +kernel)
theorem r92_11 : am_T d 92 11 ls (.int x0 :: st) S I J Q = if x0 = 0 then am_T d 92 14 ls st S I J Q else am_T d 92 17 ls st S I J Q := tr_ifne (o := 6) (by decide +kernel) rfl
theorem r92_14 : am_T d 92 14 ls st S I J Q = am_T d 92 16 ls (.int (-101) :: st) S I J Q := tr_bipush (m := -101) (by decide +kernel) (by decide)
theorem r92_16 : am_T d 92 16 ls [.int x0] S I J Q = Q (some (.int x0)) S I J := tr_ireti (by decide +kernel) (by decide +kernel)
theorem r92_17 : am_T d 92 17 [l0, l1, some (.int x0), l3] st S I J Q = am_T d 92 18 [l0, l1, some (.int x0), l3] (.int x0 :: st) S I J Q := tr_iload_n (m := 2) (by decide +kernel) rfl
theorem r92_18 : am_T d 92 18 [l0, l1, l2, some (.int x0)] st S I J Q = am_T d 92 19 [l0, l1, l2, some (.int x0)] (.int x0 :: st) S I J Q := tr_iload_n (m := 3) (by decide +kernel) rfl
theorem r92_19 : am_T d 92 19 ls [.int x1, .int x0] S I J Q = am_C d 105 [.int x0, .int x1] S I J (fun r S I J => am_T d 92 22 ls (am_psh r []) S I J Q) := tr_stat (k := 233) (by decide +kernel) (Or.inl (by decide +kernel)) (Nat.le_of_ble_eq_true rfl) rfl rfl (Nat.le_of_ble_eq_true rfl)
theorem r92_22 : am_T d 92 22 ls (.int x0 :: st) S I J Q = if x0 = 0 then am_T d 92 25 ls st S I J Q else am_T d 92 28 ls st S I J Q := tr_ifne (o := 6) (by decide +kernel) rfl
theorem r92_25 : am_T d 92 25 ls st S I J Q = am_T d 92 27 ls (.int (-103) :: st) S I J Q := tr_bipush (m := -103) (by decide +kernel) (by decide)
theorem r92_27 : am_T d 92 27 ls [.int x0] S I J Q = Q (some (.int x0)) S I J := tr_ireti (by decide +kernel) (by decide +kernel)
theorem r92_28 : am_T d 92 28 [some (.ref a0), l1, l2, l3] st S I J Q = am_T d 92 29 [some (.ref a0), l1, l2, l3] (.ref a0 :: st) S I J Q := tr_aload_n (m := 0) (by decide +kernel) rfl
theorem r92_29 : am_T d 92 29 ls (.ref a0 :: st) S I J Q = ((am_is S a0 8 ∧ am_rf S a0 12 ≠ 0) ∧ am_T d 92 32 ls (.ref (am_rf S a0 12) :: st) S I J Q) := tr_geta (k := 58) (by decide +kernel) (by decide +kernel) (by decide +kernel)
theorem r92_32 : am_T d 92 32 [some (.ref a0), l1, l2, l3] st S I J Q = am_T d 92 33 [some (.ref a0), l1, l2, l3] (.ref a0 :: st) S I J Q := tr_aload_n (m := 0) (by decide +kernel) rfl
theorem r92_33 : am_T d 92 33 ls (.ref a0 :: st) S I J Q = ((am_is S a0 8 ∧ am_rf S a0 0 ≠ 0) ∧ am_T d 92 36 ls (.ref (am_rf S a0 0) :: st) S I J Q) := tr_geta (k := 12) (by decide +kernel) (by decide +kernel) (by decide +kernel)
theorem r92_36 : am_T d 92 36 ls (.ref a0 :: st) S I J Q = ((am_is S a0 6 ∧ am_rf S a0 0 ≠ 0) ∧ am_T d 92 39 ls (.ref (am_rf S a0 0) :: st) S I J Q) := tr_geta (k := 69) (by decide +kernel) (by decide +kernel) (by decide +kernel)
theorem r92_39 : am_T d 92 39 [some (.ref a0), l1, l2, l3] st S I J Q = am_T d 92 40 [some (.ref a0), l1, l2, l3] (.ref a0 :: st) S I J Q := tr_aload_n (m := 0) (by decide +kernel) rfl
theorem r92_40 : am_T d 92 40 ls (.ref a0 :: st) S I J Q = ((am_is S a0 8 ∧ am_rf S a0 10 ≠ 0) ∧ am_T d 92 43 ls (.ref (am_rf S a0 10) :: st) S I J Q) := tr_geta (k := 44) (by decide +kernel) (by decide +kernel) (by decide +kernel)
theorem r92_43 : am_T d 92 43 [l0, l1, some (.int x0), l3] st S I J Q = am_T d 92 44 [l0, l1, some (.int x0), l3] (.int x0 :: st) S I J Q := tr_iload_n (m := 2) (by decide +kernel) rfl
theorem r92_44 : am_T d 92 44 [l0, l1, l2, some (.int x0)] st S I J Q = am_T d 92 45 [l0, l1, l2, some (.int x0)] (.int x0 :: st) S I J Q := tr_iload_n (m := 3) (by decide +kernel) rfl
theorem r92_45 : am_T d 92 45 ls [.int x4, .int x3, .ref a2, .ref a1, .ref a0] S I J Q = (am_is S a0 5 ∧ am_C d 46 [.ref a0, .ref a1, .ref a2, .int x3, .int x4] S I J (fun r S I J => am_T d 92 48 ls (am_psh r []) S I J Q)) := tr_virt (k := 237) (by decide +kernel) (by decide +kernel) rfl rfl (Nat.le_of_ble_eq_true rfl) (by decide +kernel)
theorem r92_48 : am_T d 92 48 ls (.int x0 :: st) S I J Q = if x0 = 0 then am_T d 92 63 ls st S I J Q else am_T d 92 51 ls st S I J Q := tr_ifeq (o := 15) (by decide +kernel) rfl
theorem r92_51 : am_T d 92 51 [some (.ref a0), l1, l2, l3] st S I J Q = am_T d 92 52 [some (.ref a0), l1, l2, l3] (.ref a0 :: st) S I J Q := tr_aload_n (m := 0) (by decide +kernel) rfl
theorem r92_52 : am_T d 92 52 ls (.ref a0 :: st) S I J Q = ((am_is S a0 8 ∧ am_rf S a0 12 ≠ 0) ∧ am_T d 92 55 ls (.ref (am_rf S a0 12) :: st) S I J Q) := tr_geta (k := 58) (by decide +kernel) (by decide +kernel) (by decide +kernel)
theorem r92_55 : am_T d 92 55 ls (.ref a0 :: st) S I J Q = ((am_is S a0 5 ∧ am_rf S a0 1 ≠ 0) ∧ am_T d 92 58 ls (.ref (am_rf S a0 1) :: st) S I J Q) := tr_geta (k := 244) (by decide +kernel) (by decide +kernel) (by decide +kernel)
theorem r92_58 : am_T d 92 58 [l0, some (.int x0), l2, l3] st S I J Q = am_T d 92 59 [l0, some (.int x0), l2, l3] (.int x0 :: st) S I J Q := tr_iload_n (m := 1) (by decide +kernel) rfl
theorem r92_59 : am_T d 92 59 ls (.int x0 :: .ref a0 :: st) S I J Q = (am_ix S a0 20 x0 ∧ am_T d 92 60 ls (.int (I a0 x0.toNatClampNeg) :: st) S I J Q) := tr_iald (by decide +kernel)
theorem r92_60 : am_T d 92 60 ls st S I J Q = am_T d 92 65 ls st S I J Q := tr_goto (o := 5) (by decide +kernel) rfl
theorem r92_63 : am_T d 92 63 ls st S I J Q = am_T d 92 65 ls (.int (-106) :: st) S I J Q := tr_bipush (m := -106) (by decide +kernel) (by decide)
theorem r92_65 : am_T d 92 65 ls [.int x0] S I J Q = Q (some (.int x0)) S I J := tr_ireti (by decide +kernel) (by decide +kernel)
-- 93 Fin.arborescences()J; heads []
theorem e93 : am_C (d + 1) 93 [.ref a0] S I J Q = am_T d 93 0 [some (.ref a0)] [] S I J Q := tr_en (Nat.le_of_ble_eq_true rfl) rfl
theorem r93_0 : am_T d 93 0 [some (.ref a0)] st S I J Q = am_T d 93 1 [some (.ref a0)] (.ref a0 :: st) S I J Q := tr_aload_n (m := 0) (by decide +kernel) rfl
theorem r93_1 : am_T d 93 1 ls (.ref a0 :: st) S I J Q = ((am_is S a0 8 ∧ am_rf S a0 13 ≠ 0) ∧ am_T d 93 4 ls (.ref (am_rf S a0 13) :: st) S I J Q) := tr_geta (k := 65) (by decide +kernel) (by decide +kernel) (by decide +kernel)
theorem r93_4 : am_T d 93 4 [some (.ref a0)] st S I J Q = am_T d 93 5 [some (.ref a0)] (.ref a0 :: st) S I J Q := tr_aload_n (m := 0) (by decide +kernel) rfl
theorem r93_5 : am_T d 93 5 ls (.ref a0 :: st) S I J Q = ((am_is S a0 8 ∧ am_rf S a0 0 ≠ 0) ∧ am_T d 93 8 ls (.ref (am_rf S a0 0) :: st) S I J Q) := tr_geta (k := 12) (by decide +kernel) (by decide +kernel) (by decide +kernel)
theorem r93_8 : am_T d 93 8 ls (.ref a0 :: st) S I J Q = ((am_is S a0 6 ∧ am_rf S a0 0 ≠ 0) ∧ am_T d 93 11 ls (.ref (am_rf S a0 0) :: st) S I J Q) := tr_geta (k := 69) (by decide +kernel) (by decide +kernel) (by decide +kernel)
theorem r93_11 : am_T d 93 11 ls st S I J Q = am_T d 93 12 ls (.int (-1) :: st) S I J Q := tr_iconst (m := -1) (by decide +kernel) (by decide)
theorem r93_12 : am_T d 93 12 ls [.int x2, .ref a1, .ref a0] S I J Q = (am_is S a0 7 ∧ am_C d 53 [.ref a0, .ref a1, .int x2] S I J (fun r S I J => am_T d 93 15 ls (am_psh r []) S I J Q)) := tr_virt (k := 247) (by decide +kernel) (by decide +kernel) rfl rfl (Nat.le_of_ble_eq_true rfl) (by decide +kernel)
theorem r93_15 : am_T d 93 15 ls [.long u0] S I J Q = Q (some (.long u0)) S I J := tr_lret (by decide +kernel) (by decide +kernel)
-- 94 Fin.arborescencesWith(I)J; heads []
theorem e94 : am_C (d + 1) 94 [.ref a0, .int x1] S I J Q = am_T d 94 0 [some (.ref a0), some (.int x1), none] [] S I J Q := tr_en (Nat.le_of_ble_eq_true rfl) rfl
theorem r94_0 : am_T d 94 0 [some (.ref a0), l1, l2] st S I J Q = am_T d 94 1 [some (.ref a0), l1, l2] (.ref a0 :: st) S I J Q := tr_aload_n (m := 0) (by decide +kernel) rfl
theorem r94_1 : am_T d 94 1 ls (.ref a0 :: st) S I J Q = ((am_is S a0 8 ∧ am_rf S a0 0 ≠ 0) ∧ am_T d 94 4 ls (.ref (am_rf S a0 0) :: st) S I J Q) := tr_geta (k := 12) (by decide +kernel) (by decide +kernel) (by decide +kernel)
theorem r94_4 : am_T d 94 4 ls (.ref a0 :: st) S I J Q = ((am_is S a0 6 ∧ am_rf S a0 0 ≠ 0) ∧ am_T d 94 7 ls (.ref (am_rf S a0 0) :: st) S I J Q) := tr_geta (k := 69) (by decide +kernel) (by decide +kernel) (by decide +kernel)
theorem r94_7 : am_T d 94 7 [l0, l1, l2] (.ref a0 :: st) S I J Q = am_T d 94 8 [l0, am_clr l1, some (.ref a0)] st S I J Q := tr_astore_n (m := 2) (by decide +kernel) (Nat.le_of_ble_eq_true rfl) rfl
theorem r94_8 : am_T d 94 8 [l0, l1, some (.ref a0)] st S I J Q = am_T d 94 9 [l0, l1, some (.ref a0)] (.ref a0 :: st) S I J Q := tr_aload_n (m := 2) (by decide +kernel) rfl
theorem r94_9 : am_T d 94 9 [l0, some (.int x0), l2] st S I J Q = am_T d 94 10 [l0, some (.int x0), l2] (.int x0 :: st) S I J Q := tr_iload_n (m := 1) (by decide +kernel) rfl
theorem r94_10 : am_T d 94 10 ls [.int x1, .ref a0] S I J Q = (am_is S a0 1 ∧ am_C d 14 [.ref a0, .int x1] S I J (fun r S I J => am_T d 94 13 ls (am_psh r []) S I J Q)) := tr_virt (k := 108) (by decide +kernel) (by decide +kernel) rfl rfl (Nat.le_of_ble_eq_true rfl) (by decide +kernel)
theorem r94_13 : am_T d 94 13 ls (.int x0 :: st) S I J Q = if x0 = 0 then am_T d 94 16 ls st S I J Q else am_T d 94 20 ls st S I J Q := tr_ifne (o := 7) (by decide +kernel) rfl
theorem r94_16 : am_T d 94 16 ls st S I J Q = am_T d 94 19 ls (.long (-102) :: st) S I J Q := tr_ldc2 (k := 251) (by decide +kernel) (by decide +kernel)
theorem r94_19 : am_T d 94 19 ls [.long u0] S I J Q = Q (some (.long u0)) S I J := tr_lret (by decide +kernel) (by decide +kernel)
theorem r94_20 : am_T d 94 20 [l0, l1, some (.ref a0)] st S I J Q = am_T d 94 21 [l0, l1, some (.ref a0)] (.ref a0 :: st) S I J Q := tr_aload_n (m := 2) (by decide +kernel) rfl
theorem r94_21 : am_T d 94 21 ls (.ref a0 :: st) S I J Q = ((am_is S a0 1 ∧ am_rf S a0 4 ≠ 0) ∧ am_T d 94 24 ls (.ref (am_rf S a0 4) :: st) S I J Q) := tr_geta (k := 139) (by decide +kernel) (by decide +kernel) (by decide +kernel)
theorem r94_24 : am_T d 94 24 [l0, some (.int x0), l2] st S I J Q = am_T d 94 25 [l0, some (.int x0), l2] (.int x0 :: st) S I J Q := tr_iload_n (m := 1) (by decide +kernel) rfl
theorem r94_25 : am_T d 94 25 ls (.int x0 :: .ref a0 :: st) S I J Q = (am_ix S a0 20 x0 ∧ am_T d 94 26 ls (.int (I a0 x0.toNatClampNeg) :: st) S I J Q) := tr_iald (by decide +kernel)
theorem r94_26 : am_T d 94 26 [l0, l1, some (.ref a0)] st S I J Q = am_T d 94 27 [l0, l1, some (.ref a0)] (.ref a0 :: st) S I J Q := tr_aload_n (m := 2) (by decide +kernel) rfl
theorem r94_27 : am_T d 94 27 ls (.ref a0 :: st) S I J Q = (am_is S a0 1 ∧ am_T d 94 30 ls (.int (I a0 1) :: st) S I J Q) := tr_geti (k := 126) (by decide +kernel) (by decide +kernel) (Or.inl (by decide +kernel))
theorem r94_30 : am_T d 94 30 ls (.int x1 :: .int x0 :: st) S I J Q = if x0 = x1 then am_T d 94 33 ls st S I J Q else am_T d 94 35 ls st S I J Q := tr_icmpne (o := 5) (by decide +kernel) rfl
theorem r94_33 : am_T d 94 33 ls st S I J Q = am_T d 94 34 ls (.long 0 :: st) S I J Q := tr_lconst (m := 0) (by decide +kernel) (by decide)
theorem r94_34 : am_T d 94 34 ls [.long u0] S I J Q = Q (some (.long u0)) S I J := tr_lret (by decide +kernel) (by decide +kernel)
theorem r94_35 : am_T d 94 35 [some (.ref a0), l1, l2] st S I J Q = am_T d 94 36 [some (.ref a0), l1, l2] (.ref a0 :: st) S I J Q := tr_aload_n (m := 0) (by decide +kernel) rfl
theorem r94_36 : am_T d 94 36 ls (.ref a0 :: st) S I J Q = ((am_is S a0 8 ∧ am_rf S a0 13 ≠ 0) ∧ am_T d 94 39 ls (.ref (am_rf S a0 13) :: st) S I J Q) := tr_geta (k := 65) (by decide +kernel) (by decide +kernel) (by decide +kernel)
theorem r94_39 : am_T d 94 39 [l0, l1, some (.ref a0)] st S I J Q = am_T d 94 40 [l0, l1, some (.ref a0)] (.ref a0 :: st) S I J Q := tr_aload_n (m := 2) (by decide +kernel) rfl
theorem r94_40 : am_T d 94 40 [l0, l1, some (.ref a0)] st S I J Q = am_T d 94 41 [l0, l1, some (.ref a0)] (.ref a0 :: st) S I J Q := tr_aload_n (m := 2) (by decide +kernel) rfl
theorem r94_41 : am_T d 94 41 [l0, some (.int x0), l2] st S I J Q = am_T d 94 42 [l0, some (.int x0), l2] (.int x0 :: st) S I J Q := tr_iload_n (m := 1) (by decide +kernel) rfl
theorem r94_42 : am_T d 94 42 ls [.int x1, .ref a0, .ref a11, .ref a10] S I J Q = (am_is S a0 1 ∧ am_C d 17 [.ref a0, .int x1] S I J (fun r S I J => am_T d 94 45 ls (am_psh r [.ref a11, .ref a10]) S I J Q)) := tr_virt (k := 253) (by decide +kernel) (by decide +kernel) rfl rfl (Nat.le_of_ble_eq_true rfl) (by decide +kernel)
theorem r94_45 : am_T d 94 45 ls [.int x2, .ref a1, .ref a0] S I J Q = (am_is S a0 7 ∧ am_C d 53 [.ref a0, .ref a1, .int x2] S I J (fun r S I J => am_T d 94 48 ls (am_psh r []) S I J Q)) := tr_virt (k := 247) (by decide +kernel) (by decide +kernel) rfl rfl (Nat.le_of_ble_eq_true rfl) (by decide +kernel)
theorem r94_48 : am_T d 94 48 ls [.long u0] S I J Q = Q (some (.long u0)) S I J := tr_lret (by decide +kernel) (by decide +kernel)
-- 95 Fin.save(I)I; heads []
theorem e95 : am_C (d + 1) 95 [.ref a0, .int x1] S I J Q = am_T d 95 0 [some (.ref a0), some (.int x1)] [] S I J Q := tr_en (Nat.le_of_ble_eq_true rfl) rfl
theorem r95_0 : am_T d 95 0 [l0, some (.int x0)] st S I J Q = am_T d 95 1 [l0, some (.int x0)] (.int x0 :: st) S I J Q := tr_iload_n (m := 1) (by decide +kernel) rfl
theorem r95_1 : am_T d 95 1 ls (.int x0 :: st) S I J Q = if x0 < 0 then am_T d 95 9 ls st S I J Q else am_T d 95 4 ls st S I J Q := tr_iflt (o := 8) (by decide +kernel) rfl
theorem r95_4 : am_T d 95 4 [l0, some (.int x0)] st S I J Q = am_T d 95 5 [l0, some (.int x0)] (.int x0 :: st) S I J Q := tr_iload_n (m := 1) (by decide +kernel) rfl
theorem r95_5 : am_T d 95 5 ls st S I J Q = am_T d 95 6 ls (.int 2 :: st) S I J Q := tr_iconst (m := 2) (by decide +kernel) (by decide)
theorem r95_6 : am_T d 95 6 ls (.int x1 :: .int x0 :: st) S I J Q = if x0 < x1 then am_T d 95 12 ls st S I J Q else am_T d 95 9 ls st S I J Q := tr_icmplt (o := 6) (by decide +kernel) rfl
theorem r95_9 : am_T d 95 9 ls st S I J Q = am_T d 95 11 ls (.int (-103) :: st) S I J Q := tr_bipush (m := -103) (by decide +kernel) (by decide)
theorem r95_11 : am_T d 95 11 ls [.int x0] S I J Q = Q (some (.int x0)) S I J := tr_ireti (by decide +kernel) (by decide +kernel)
theorem r95_12 : am_T d 95 12 [some (.ref a0), l1] st S I J Q = am_T d 95 13 [some (.ref a0), l1] (.ref a0 :: st) S I J Q := tr_aload_n (m := 0) (by decide +kernel) rfl
theorem r95_13 : am_T d 95 13 ls (.ref a0 :: st) S I J Q = ((am_is S a0 8 ∧ am_rf S a0 4 ≠ 0) ∧ am_T d 95 16 ls (.ref (am_rf S a0 4) :: st) S I J Q) := tr_geta (k := 20) (by decide +kernel) (by decide +kernel) (by decide +kernel)
theorem r95_16 : am_T d 95 16 [l0, some (.int x0)] st S I J Q = am_T d 95 17 [l0, some (.int x0)] (.int x0 :: st) S I J Q := tr_iload_n (m := 1) (by decide +kernel) rfl
theorem r95_17 : am_T d 95 17 ls (.int x0 :: .ref a0 :: st) S I J Q = (am_ixq S a0 x0 ∧ am_T d 95 18 ls (.ref (am_rf S a0 x0.toNatClampNeg) :: st) S I J Q) := tr_aald (by decide +kernel)
theorem r95_18 : am_T d 95 18 [some (.ref a0), l1] st S I J Q = am_T d 95 19 [some (.ref a0), l1] (.ref a0 :: st) S I J Q := tr_aload_n (m := 0) (by decide +kernel) rfl
theorem r95_19 : am_T d 95 19 ls (.ref a0 :: st) S I J Q = ((am_is S a0 8 ∧ am_rf S a0 0 ≠ 0) ∧ am_T d 95 22 ls (.ref (am_rf S a0 0) :: st) S I J Q) := tr_geta (k := 12) (by decide +kernel) (by decide +kernel) (by decide +kernel)
theorem r95_22 : am_T d 95 22 ls [.ref a1, .ref a0] S I J Q = (am_is S a0 6 ∧ am_C d 51 [.ref a0, .ref a1] S I J (fun r S I J => am_T d 95 25 ls (am_psh r []) S I J Q)) := tr_virt (k := 148) (by decide +kernel) (by decide +kernel) rfl rfl (Nat.le_of_ble_eq_true rfl) (by decide +kernel)
theorem r95_25 : am_T d 95 25 [some (.ref a0), l1] st S I J Q = am_T d 95 26 [some (.ref a0), l1] (.ref a0 :: st) S I J Q := tr_aload_n (m := 0) (by decide +kernel) rfl
theorem r95_26 : am_T d 95 26 ls (.ref a0 :: st) S I J Q = ((am_is S a0 8 ∧ am_rf S a0 5 ≠ 0) ∧ am_T d 95 29 ls (.ref (am_rf S a0 5) :: st) S I J Q) := tr_geta (k := 23) (by decide +kernel) (by decide +kernel) (by decide +kernel)
theorem r95_29 : am_T d 95 29 [l0, some (.int x0)] st S I J Q = am_T d 95 30 [l0, some (.int x0)] (.int x0 :: st) S I J Q := tr_iload_n (m := 1) (by decide +kernel) rfl
theorem r95_30 : am_T d 95 30 ls st S I J Q = am_T d 95 31 ls (.int 1 :: st) S I J Q := tr_iconst (m := 1) (by decide +kernel) (by decide)
theorem r95_31 : am_T d 95 31 ls (.int x1 :: .int x0 :: .ref a0 :: st) S I J Q = ((am_ixw S a0 21 x0 ∧ (x1 = 0 ∨ x1 = 1)) ∧ am_T d 95 32 ls st S (am_up I a0 x0.toNatClampNeg x1) J Q) := tr_bast (by decide +kernel)
theorem r95_32 : am_T d 95 32 [some (.ref a0), l1] st S I J Q = am_T d 95 33 [some (.ref a0), l1] (.ref a0 :: st) S I J Q := tr_aload_n (m := 0) (by decide +kernel) rfl
theorem r95_33 : am_T d 95 33 ls (.ref a0 :: st) S I J Q = ((am_is S a0 8 ∧ am_rf S a0 0 ≠ 0) ∧ am_T d 95 36 ls (.ref (am_rf S a0 0) :: st) S I J Q) := tr_geta (k := 12) (by decide +kernel) (by decide +kernel) (by decide +kernel)
theorem r95_36 : am_T d 95 36 ls (.ref a0 :: st) S I J Q = ((am_is S a0 6 ∧ am_rf S a0 0 ≠ 0) ∧ am_T d 95 39 ls (.ref (am_rf S a0 0) :: st) S I J Q) := tr_geta (k := 69) (by decide +kernel) (by decide +kernel) (by decide +kernel)
theorem r95_39 : am_T d 95 39 ls (.ref a0 :: st) S I J Q = (am_is S a0 1 ∧ am_T d 95 42 ls (.int (I a0 2) :: st) S I J Q) := tr_geti (k := 91) (by decide +kernel) (by decide +kernel) (Or.inl (by decide +kernel))
theorem r95_42 : am_T d 95 42 ls [.int x0] S I J Q = Q (some (.int x0)) S I J := tr_ireti (by decide +kernel) (by decide +kernel)
-- 96 Fin.restore(I)I; heads []
theorem e96 : am_C (d + 1) 96 [.ref a0, .int x1] S I J Q = am_T d 96 0 [some (.ref a0), some (.int x1)] [] S I J Q := tr_en (Nat.le_of_ble_eq_true rfl) rfl
theorem r96_0 : am_T d 96 0 [l0, some (.int x0)] st S I J Q = am_T d 96 1 [l0, some (.int x0)] (.int x0 :: st) S I J Q := tr_iload_n (m := 1) (by decide +kernel) rfl
theorem r96_1 : am_T d 96 1 ls (.int x0 :: st) S I J Q = if x0 < 0 then am_T d 96 9 ls st S I J Q else am_T d 96 4 ls st S I J Q := tr_iflt (o := 8) (by decide +kernel) rfl
theorem r96_4 : am_T d 96 4 [l0, some (.int x0)] st S I J Q = am_T d 96 5 [l0, some (.int x0)] (.int x0 :: st) S I J Q := tr_iload_n (m := 1) (by decide +kernel) rfl
theorem r96_5 : am_T d 96 5 ls st S I J Q = am_T d 96 6 ls (.int 2 :: st) S I J Q := tr_iconst (m := 2) (by decide +kernel) (by decide)
theorem r96_6 : am_T d 96 6 ls (.int x1 :: .int x0 :: st) S I J Q = if x0 < x1 then am_T d 96 12 ls st S I J Q else am_T d 96 9 ls st S I J Q := tr_icmplt (o := 6) (by decide +kernel) rfl
theorem r96_9 : am_T d 96 9 ls st S I J Q = am_T d 96 11 ls (.int (-103) :: st) S I J Q := tr_bipush (m := -103) (by decide +kernel) (by decide)
theorem r96_11 : am_T d 96 11 ls [.int x0] S I J Q = Q (some (.int x0)) S I J := tr_ireti (by decide +kernel) (by decide +kernel)
theorem r96_12 : am_T d 96 12 [some (.ref a0), l1] st S I J Q = am_T d 96 13 [some (.ref a0), l1] (.ref a0 :: st) S I J Q := tr_aload_n (m := 0) (by decide +kernel) rfl
theorem r96_13 : am_T d 96 13 ls (.ref a0 :: st) S I J Q = ((am_is S a0 8 ∧ am_rf S a0 5 ≠ 0) ∧ am_T d 96 16 ls (.ref (am_rf S a0 5) :: st) S I J Q) := tr_geta (k := 23) (by decide +kernel) (by decide +kernel) (by decide +kernel)
theorem r96_16 : am_T d 96 16 [l0, some (.int x0)] st S I J Q = am_T d 96 17 [l0, some (.int x0)] (.int x0 :: st) S I J Q := tr_iload_n (m := 1) (by decide +kernel) rfl
theorem r96_17 : am_T d 96 17 ls (.int x0 :: .ref a0 :: st) S I J Q = (am_ix S a0 21 x0 ∧ am_T d 96 18 ls (.int (I a0 x0.toNatClampNeg) :: st) S I J Q) := tr_bald (by decide +kernel)
theorem r96_18 : am_T d 96 18 ls (.int x0 :: st) S I J Q = if x0 = 0 then am_T d 96 21 ls st S I J Q else am_T d 96 24 ls st S I J Q := tr_ifne (o := 6) (by decide +kernel) rfl
theorem r96_21 : am_T d 96 21 ls st S I J Q = am_T d 96 23 ls (.int (-105) :: st) S I J Q := tr_bipush (m := -105) (by decide +kernel) (by decide)
theorem r96_23 : am_T d 96 23 ls [.int x0] S I J Q = Q (some (.int x0)) S I J := tr_ireti (by decide +kernel) (by decide +kernel)
theorem r96_24 : am_T d 96 24 [some (.ref a0), l1] st S I J Q = am_T d 96 25 [some (.ref a0), l1] (.ref a0 :: st) S I J Q := tr_aload_n (m := 0) (by decide +kernel) rfl
theorem r96_25 : am_T d 96 25 ls (.ref a0 :: st) S I J Q = ((am_is S a0 8 ∧ am_rf S a0 0 ≠ 0) ∧ am_T d 96 28 ls (.ref (am_rf S a0 0) :: st) S I J Q) := tr_geta (k := 12) (by decide +kernel) (by decide +kernel) (by decide +kernel)
theorem r96_28 : am_T d 96 28 [some (.ref a0), l1] st S I J Q = am_T d 96 29 [some (.ref a0), l1] (.ref a0 :: st) S I J Q := tr_aload_n (m := 0) (by decide +kernel) rfl
theorem r96_29 : am_T d 96 29 ls (.ref a0 :: st) S I J Q = ((am_is S a0 8 ∧ am_rf S a0 4 ≠ 0) ∧ am_T d 96 32 ls (.ref (am_rf S a0 4) :: st) S I J Q) := tr_geta (k := 20) (by decide +kernel) (by decide +kernel) (by decide +kernel)
theorem r96_32 : am_T d 96 32 [l0, some (.int x0)] st S I J Q = am_T d 96 33 [l0, some (.int x0)] (.int x0 :: st) S I J Q := tr_iload_n (m := 1) (by decide +kernel) rfl
theorem r96_33 : am_T d 96 33 ls (.int x0 :: .ref a0 :: st) S I J Q = (am_ixq S a0 x0 ∧ am_T d 96 34 ls (.ref (am_rf S a0 x0.toNatClampNeg) :: st) S I J Q) := tr_aald (by decide +kernel)
theorem r96_34 : am_T d 96 34 ls [.ref a1, .ref a0] S I J Q = (am_is S a0 6 ∧ am_C d 51 [.ref a0, .ref a1] S I J (fun r S I J => am_T d 96 37 ls (am_psh r []) S I J Q)) := tr_virt (k := 148) (by decide +kernel) (by decide +kernel) rfl rfl (Nat.le_of_ble_eq_true rfl) (by decide +kernel)
theorem r96_37 : am_T d 96 37 [some (.ref a0), l1] st S I J Q = am_T d 96 38 [some (.ref a0), l1] (.ref a0 :: st) S I J Q := tr_aload_n (m := 0) (by decide +kernel) rfl
theorem r96_38 : am_T d 96 38 ls st S I J Q = am_T d 96 39 ls (.int 0 :: st) S I J Q := tr_iconst (m := 0) (by decide +kernel) (by decide)
theorem r96_39 : am_T d 96 39 ls (.int x0 :: .ref a0 :: st) S I J Q = (am_is S a0 8 ∧ am_T d 96 42 ls st S (am_up I a0 3 x0) J Q) := tr_puti (k := 142) (by decide +kernel) (by decide +kernel) (by decide +kernel) (by decide +kernel)
theorem r96_42 : am_T d 96 42 [some (.ref a0), l1] st S I J Q = am_T d 96 43 [some (.ref a0), l1] (.ref a0 :: st) S I J Q := tr_aload_n (m := 0) (by decide +kernel) rfl
theorem r96_43 : am_T d 96 43 ls (.ref a0 :: st) S I J Q = ((am_is S a0 8 ∧ am_rf S a0 11 ≠ 0) ∧ am_T d 96 46 ls (.ref (am_rf S a0 11) :: st) S I J Q) := tr_geta (k := 51) (by decide +kernel) (by decide +kernel) (by decide +kernel)
theorem r96_46 : am_T d 96 46 ls [.ref a0] S I J Q = (am_is S a0 4 ∧ am_C d 38 [.ref a0] S I J (fun r S I J => am_T d 96 49 ls (am_psh r []) S I J Q)) := tr_virt (k := 152) (by decide +kernel) (by decide +kernel) rfl rfl (Nat.le_of_ble_eq_true rfl) (by decide +kernel)
theorem r96_49 : am_T d 96 49 [some (.ref a0), l1] st S I J Q = am_T d 96 50 [some (.ref a0), l1] (.ref a0 :: st) S I J Q := tr_aload_n (m := 0) (by decide +kernel) rfl
theorem r96_50 : am_T d 96 50 ls (.ref a0 :: st) S I J Q = ((am_is S a0 8 ∧ am_rf S a0 0 ≠ 0) ∧ am_T d 96 53 ls (.ref (am_rf S a0 0) :: st) S I J Q) := tr_geta (k := 12) (by decide +kernel) (by decide +kernel) (by decide +kernel)
theorem r96_53 : am_T d 96 53 ls (.ref a0 :: st) S I J Q = ((am_is S a0 6 ∧ am_rf S a0 0 ≠ 0) ∧ am_T d 96 56 ls (.ref (am_rf S a0 0) :: st) S I J Q) := tr_geta (k := 69) (by decide +kernel) (by decide +kernel) (by decide +kernel)
theorem r96_56 : am_T d 96 56 ls (.ref a0 :: st) S I J Q = (am_is S a0 1 ∧ am_T d 96 59 ls (.int (I a0 2) :: st) S I J Q) := tr_geti (k := 91) (by decide +kernel) (by decide +kernel) (Or.inl (by decide +kernel))
theorem r96_59 : am_T d 96 59 ls [.int x0] S I J Q = Q (some (.int x0)) S I J := tr_ireti (by decide +kernel) (by decide +kernel)
-- 97 Fin.keepForUndo()V; heads []
theorem e97 : am_C (d + 1) 97 [.ref a0] S I J Q = am_T d 97 0 [some (.ref a0)] [] S I J Q := tr_en (Nat.le_of_ble_eq_true rfl) rfl
theorem r97_0 : am_T d 97 0 [some (.ref a0)] st S I J Q = am_T d 97 1 [some (.ref a0)] (.ref a0 :: st) S I J Q := tr_aload_n (m := 0) (by decide +kernel) rfl
theorem r97_1 : am_T d 97 1 ls (.ref a0 :: st) S I J Q = (am_is S a0 8 ∧ am_T d 97 4 ls (.int (I a0 3) :: st) S I J Q) := tr_geti (k := 142) (by decide +kernel) (by decide +kernel) (Or.inl (by decide +kernel))
theorem r97_4 : am_T d 97 4 ls st S I J Q = am_T d 97 6 ls (.int 8 :: st) S I J Q := tr_bipush (m := 8) (by decide +kernel) (by decide)
theorem r97_6 : am_T d 97 6 ls (.int x1 :: .int x0 :: st) S I J Q = if x0 = x1 then am_T d 97 9 ls st S I J Q else am_T d 97 32 ls st S I J Q := tr_icmpne (o := 26) (by decide +kernel) rfl
theorem r97_9 : am_T d 97 9 [some (.ref a0)] st S I J Q = am_T d 97 10 [some (.ref a0)] (.ref a0 :: st) S I J Q := tr_aload_n (m := 0) (by decide +kernel) rfl
theorem r97_10 : am_T d 97 10 [some (.ref a0)] st S I J Q = am_T d 97 11 [some (.ref a0)] (.ref a0 :: st) S I J Q := tr_aload_n (m := 0) (by decide +kernel) rfl
theorem r97_11 : am_T d 97 11 ls (.ref a0 :: st) S I J Q = (am_is S a0 8 ∧ am_T d 97 14 ls (.int (I a0 2) :: st) S I J Q) := tr_geti (k := 145) (by decide +kernel) (by decide +kernel) (Or.inl (by decide +kernel))
theorem r97_14 : am_T d 97 14 ls st S I J Q = am_T d 97 15 ls (.int 1 :: st) S I J Q := tr_iconst (m := 1) (by decide +kernel) (by decide)
theorem r97_15 : am_T d 97 15 ls (.int x1 :: .int x0 :: st) S I J Q = am_T d 97 16 ls (.int (x0 + x1) :: st) S I J Q := tr_iadd (by decide +kernel)
theorem r97_16 : am_T d 97 16 ls st S I J Q = am_T d 97 18 ls (.int 8 :: st) S I J Q := tr_bipush (m := 8) (by decide +kernel) (by decide)
theorem r97_18 : am_T d 97 18 ls (.int x1 :: .int x0 :: st) S I J Q = (x1 ≠ 0 ∧ am_T d 97 19 ls (.int (x0 - x0 / x1 * x1) :: st) S I J Q) := tr_irem (by decide +kernel)
theorem r97_19 : am_T d 97 19 ls (.int x0 :: .ref a0 :: st) S I J Q = (am_is S a0 8 ∧ am_T d 97 22 ls st S (am_up I a0 2 x0) J Q) := tr_puti (k := 145) (by decide +kernel) (by decide +kernel) (by decide +kernel) (by decide +kernel)
theorem r97_22 : am_T d 97 22 [some (.ref a0)] st S I J Q = am_T d 97 23 [some (.ref a0)] (.ref a0 :: st) S I J Q := tr_aload_n (m := 0) (by decide +kernel) rfl
theorem r97_23 : am_T d 97 23 ls (.ref a0 :: st) S I J Q = am_T d 97 24 ls (.ref a0 :: .ref a0 :: st) S I J Q := tr_dupa (by decide +kernel)
theorem r97_24 : am_T d 97 24 ls (.ref a0 :: st) S I J Q = (am_is S a0 8 ∧ am_T d 97 27 ls (.int (I a0 3) :: st) S I J Q) := tr_geti (k := 142) (by decide +kernel) (by decide +kernel) (Or.inl (by decide +kernel))
theorem r97_27 : am_T d 97 27 ls st S I J Q = am_T d 97 28 ls (.int 1 :: st) S I J Q := tr_iconst (m := 1) (by decide +kernel) (by decide)
theorem r97_28 : am_T d 97 28 ls (.int x1 :: .int x0 :: st) S I J Q = am_T d 97 29 ls (.int (x0 - x1) :: st) S I J Q := tr_isub (by decide +kernel)
theorem r97_29 : am_T d 97 29 ls (.int x0 :: .ref a0 :: st) S I J Q = (am_is S a0 8 ∧ am_T d 97 32 ls st S (am_up I a0 3 x0) J Q) := tr_puti (k := 142) (by decide +kernel) (by decide +kernel) (by decide +kernel) (by decide +kernel)
theorem r97_32 : am_T d 97 32 [some (.ref a0)] st S I J Q = am_T d 97 33 [some (.ref a0)] (.ref a0 :: st) S I J Q := tr_aload_n (m := 0) (by decide +kernel) rfl
theorem r97_33 : am_T d 97 33 ls (.ref a0 :: st) S I J Q = ((am_is S a0 8 ∧ am_rf S a0 1 ≠ 0) ∧ am_T d 97 36 ls (.ref (am_rf S a0 1) :: st) S I J Q) := tr_geta (k := 16) (by decide +kernel) (by decide +kernel) (by decide +kernel)
theorem r97_36 : am_T d 97 36 [some (.ref a0)] st S I J Q = am_T d 97 37 [some (.ref a0)] (.ref a0 :: st) S I J Q := tr_aload_n (m := 0) (by decide +kernel) rfl
theorem r97_37 : am_T d 97 37 ls (.ref a0 :: st) S I J Q = (am_is S a0 8 ∧ am_T d 97 40 ls (.int (I a0 2) :: st) S I J Q) := tr_geti (k := 145) (by decide +kernel) (by decide +kernel) (Or.inl (by decide +kernel))
theorem r97_40 : am_T d 97 40 [some (.ref a0)] st S I J Q = am_T d 97 41 [some (.ref a0)] (.ref a0 :: st) S I J Q := tr_aload_n (m := 0) (by decide +kernel) rfl
theorem r97_41 : am_T d 97 41 ls (.ref a0 :: st) S I J Q = (am_is S a0 8 ∧ am_T d 97 44 ls (.int (I a0 3) :: st) S I J Q) := tr_geti (k := 142) (by decide +kernel) (by decide +kernel) (Or.inl (by decide +kernel))
theorem r97_44 : am_T d 97 44 ls (.int x1 :: .int x0 :: st) S I J Q = am_T d 97 45 ls (.int (x0 + x1) :: st) S I J Q := tr_iadd (by decide +kernel)
theorem r97_45 : am_T d 97 45 ls st S I J Q = am_T d 97 47 ls (.int 8 :: st) S I J Q := tr_bipush (m := 8) (by decide +kernel) (by decide)
theorem r97_47 : am_T d 97 47 ls (.int x1 :: .int x0 :: st) S I J Q = (x1 ≠ 0 ∧ am_T d 97 48 ls (.int (x0 - x0 / x1 * x1) :: st) S I J Q) := tr_irem (by decide +kernel)
theorem r97_48 : am_T d 97 48 ls (.int x0 :: .ref a0 :: st) S I J Q = (am_ixq S a0 x0 ∧ am_T d 97 49 ls (.ref (am_rf S a0 x0.toNatClampNeg) :: st) S I J Q) := tr_aald (by decide +kernel)
theorem r97_49 : am_T d 97 49 [some (.ref a0)] st S I J Q = am_T d 97 50 [some (.ref a0)] (.ref a0 :: st) S I J Q := tr_aload_n (m := 0) (by decide +kernel) rfl
theorem r97_50 : am_T d 97 50 ls (.ref a0 :: st) S I J Q = ((am_is S a0 8 ∧ am_rf S a0 0 ≠ 0) ∧ am_T d 97 53 ls (.ref (am_rf S a0 0) :: st) S I J Q) := tr_geta (k := 12) (by decide +kernel) (by decide +kernel) (by decide +kernel)
theorem r97_53 : am_T d 97 53 ls [.ref a1, .ref a0] S I J Q = (am_is S a0 6 ∧ am_C d 51 [.ref a0, .ref a1] S I J (fun r S I J => am_T d 97 56 ls (am_psh r []) S I J Q)) := tr_virt (k := 148) (by decide +kernel) (by decide +kernel) rfl rfl (Nat.le_of_ble_eq_true rfl) (by decide +kernel)
theorem r97_56 : am_T d 97 56 [some (.ref a0)] st S I J Q = am_T d 97 57 [some (.ref a0)] (.ref a0 :: st) S I J Q := tr_aload_n (m := 0) (by decide +kernel) rfl
theorem r97_57 : am_T d 97 57 ls (.ref a0 :: st) S I J Q = am_T d 97 58 ls (.ref a0 :: .ref a0 :: st) S I J Q := tr_dupa (by decide +kernel)
theorem r97_58 : am_T d 97 58 ls (.ref a0 :: st) S I J Q = (am_is S a0 8 ∧ am_T d 97 61 ls (.int (I a0 3) :: st) S I J Q) := tr_geti (k := 142) (by decide +kernel) (by decide +kernel) (Or.inl (by decide +kernel))
theorem r97_61 : am_T d 97 61 ls st S I J Q = am_T d 97 62 ls (.int 1 :: st) S I J Q := tr_iconst (m := 1) (by decide +kernel) (by decide)
theorem r97_62 : am_T d 97 62 ls (.int x1 :: .int x0 :: st) S I J Q = am_T d 97 63 ls (.int (x0 + x1) :: st) S I J Q := tr_iadd (by decide +kernel)
theorem r97_63 : am_T d 97 63 ls (.int x0 :: .ref a0 :: st) S I J Q = (am_is S a0 8 ∧ am_T d 97 66 ls st S (am_up I a0 3 x0) J Q) := tr_puti (k := 142) (by decide +kernel) (by decide +kernel) (by decide +kernel) (by decide +kernel)
theorem r97_66 : am_T d 97 66 [some (.ref a0)] st S I J Q = am_T d 97 67 [some (.ref a0)] (.ref a0 :: st) S I J Q := tr_aload_n (m := 0) (by decide +kernel) rfl
theorem r97_67 : am_T d 97 67 ls (.ref a0 :: st) S I J Q = ((am_is S a0 8 ∧ am_rf S a0 11 ≠ 0) ∧ am_T d 97 70 ls (.ref (am_rf S a0 11) :: st) S I J Q) := tr_geta (k := 51) (by decide +kernel) (by decide +kernel) (by decide +kernel)
theorem r97_70 : am_T d 97 70 ls [.ref a0] S I J Q = (am_is S a0 4 ∧ am_C d 38 [.ref a0] S I J (fun r S I J => am_T d 97 73 ls (am_psh r []) S I J Q)) := tr_virt (k := 152) (by decide +kernel) (by decide +kernel) rfl rfl (Nat.le_of_ble_eq_true rfl) (by decide +kernel)
theorem r97_73 : am_T d 97 73 ls [] S I J Q = Q none S I J := tr_vret (by decide +kernel) (by decide +kernel)
-- 98 Fin.settleRecord(Z)V; heads []
theorem e98 : am_C (d + 1) 98 [.ref a0, .int x1] S I J Q = am_T d 98 0 [some (.ref a0), some (.int x1)] [] S I J Q := tr_en (Nat.le_of_ble_eq_true rfl) rfl
theorem r98_0 : am_T d 98 0 [some (.ref a0), l1] st S I J Q = am_T d 98 1 [some (.ref a0), l1] (.ref a0 :: st) S I J Q := tr_aload_n (m := 0) (by decide +kernel) rfl
theorem r98_1 : am_T d 98 1 ls (.ref a0 :: st) S I J Q = ((am_is S a0 8 ∧ am_rf S a0 0 ≠ 0) ∧ am_T d 98 4 ls (.ref (am_rf S a0 0) :: st) S I J Q) := tr_geta (k := 12) (by decide +kernel) (by decide +kernel) (by decide +kernel)
theorem r98_4 : am_T d 98 4 ls (.ref a0 :: st) S I J Q = ((am_is S a0 6 ∧ am_rf S a0 1 ≠ 0) ∧ am_T d 98 7 ls (.ref (am_rf S a0 1) :: st) S I J Q) := tr_geta (k := 98) (by decide +kernel) (by decide +kernel) (by decide +kernel)
theorem r98_7 : am_T d 98 7 ls (.ref a0 :: st) S I J Q = (am_is S a0 3 ∧ am_T d 98 10 ls (.int (I a0 0) :: st) S I J Q) := tr_geti (k := 170) (by decide +kernel) (by decide +kernel) (Or.inr (by decide +kernel))
theorem r98_10 : am_T d 98 10 ls (.int x0 :: st) S I J Q = if x0 = 0 then am_T d 98 13 ls st S I J Q else am_T d 98 14 ls st S I J Q := tr_ifne (o := 4) (by decide +kernel) rfl
theorem r98_13 : am_T d 98 13 ls [] S I J Q = Q none S I J := tr_vret (by decide +kernel) (by decide +kernel)
theorem r98_14 : am_T d 98 14 [l0, some (.int x0)] st S I J Q = am_T d 98 15 [l0, some (.int x0)] (.int x0 :: st) S I J Q := tr_iload_n (m := 1) (by decide +kernel) rfl
theorem r98_15 : am_T d 98 15 ls (.int x0 :: st) S I J Q = if x0 = 0 then am_T d 98 31 ls st S I J Q else am_T d 98 18 ls st S I J Q := tr_ifeq (o := 16) (by decide +kernel) rfl
theorem r98_18 : am_T d 98 18 [some (.ref a0), l1] st S I J Q = am_T d 98 19 [some (.ref a0), l1] (.ref a0 :: st) S I J Q := tr_aload_n (m := 0) (by decide +kernel) rfl
theorem r98_19 : am_T d 98 19 ls (.ref a0 :: st) S I J Q = am_T d 98 20 ls (.ref a0 :: .ref a0 :: st) S I J Q := tr_dupa (by decide +kernel)
theorem r98_20 : am_T d 98 20 ls (.ref a0 :: st) S I J Q = (am_is S a0 8 ∧ am_T d 98 23 ls (.int (I a0 7) :: st) S I J Q) := tr_geti (k := 177) (by decide +kernel) (by decide +kernel) (Or.inl (by decide +kernel))
theorem r98_23 : am_T d 98 23 ls st S I J Q = am_T d 98 24 ls (.int 1 :: st) S I J Q := tr_iconst (m := 1) (by decide +kernel) (by decide)
theorem r98_24 : am_T d 98 24 ls (.int x1 :: .int x0 :: st) S I J Q = am_T d 98 25 ls (.int (x0 + x1) :: st) S I J Q := tr_iadd (by decide +kernel)
theorem r98_25 : am_T d 98 25 ls (.int x0 :: .ref a0 :: st) S I J Q = (am_is S a0 8 ∧ am_T d 98 28 ls st S (am_up I a0 7 x0) J Q) := tr_puti (k := 177) (by decide +kernel) (by decide +kernel) (by decide +kernel) (by decide +kernel)
theorem r98_28 : am_T d 98 28 ls st S I J Q = am_T d 98 42 ls st S I J Q := tr_goto (o := 14) (by decide +kernel) rfl
theorem r98_31 : am_T d 98 31 [some (.ref a0), l1] st S I J Q = am_T d 98 32 [some (.ref a0), l1] (.ref a0 :: st) S I J Q := tr_aload_n (m := 0) (by decide +kernel) rfl
theorem r98_32 : am_T d 98 32 ls (.ref a0 :: st) S I J Q = ((am_is S a0 8 ∧ am_rf S a0 0 ≠ 0) ∧ am_T d 98 35 ls (.ref (am_rf S a0 0) :: st) S I J Q) := tr_geta (k := 12) (by decide +kernel) (by decide +kernel) (by decide +kernel)
theorem r98_35 : am_T d 98 35 ls (.ref a0 :: st) S I J Q = ((am_is S a0 6 ∧ am_rf S a0 1 ≠ 0) ∧ am_T d 98 38 ls (.ref (am_rf S a0 1) :: st) S I J Q) := tr_geta (k := 98) (by decide +kernel) (by decide +kernel) (by decide +kernel)
theorem r98_38 : am_T d 98 38 ls st S I J Q = am_T d 98 39 ls (.int 0 :: st) S I J Q := tr_iconst (m := 0) (by decide +kernel) (by decide)
theorem r98_39 : am_T d 98 39 ls (.int x0 :: .ref a0 :: st) S I J Q = ((am_is S a0 3 ∧ (x0 = 0 ∨ x0 = 1)) ∧ am_T d 98 42 ls st S (am_up I a0 0 x0) J Q) := tr_putz (k := 170) (by decide +kernel) (by decide +kernel) (by decide +kernel) (by decide +kernel)
theorem r98_42 : am_T d 98 42 ls [] S I J Q = Q none S I J := tr_vret (by decide +kernel) (by decide +kernel)
-- 99 Fin.haveRecord()Z; heads []
theorem e99 : am_C (d + 1) 99 [.ref a0] S I J Q = am_T d 99 0 [some (.ref a0)] [] S I J Q := tr_en (Nat.le_of_ble_eq_true rfl) rfl
theorem r99_0 : am_T d 99 0 [some (.ref a0)] st S I J Q = am_T d 99 1 [some (.ref a0)] (.ref a0 :: st) S I J Q := tr_aload_n (m := 0) (by decide +kernel) rfl
theorem r99_1 : am_T d 99 1 ls (.ref a0 :: st) S I J Q = ((am_is S a0 8 ∧ am_rf S a0 0 ≠ 0) ∧ am_T d 99 4 ls (.ref (am_rf S a0 0) :: st) S I J Q) := tr_geta (k := 12) (by decide +kernel) (by decide +kernel) (by decide +kernel)
theorem r99_4 : am_T d 99 4 ls (.ref a0 :: st) S I J Q = ((am_is S a0 6 ∧ am_rf S a0 1 ≠ 0) ∧ am_T d 99 7 ls (.ref (am_rf S a0 1) :: st) S I J Q) := tr_geta (k := 98) (by decide +kernel) (by decide +kernel) (by decide +kernel)
theorem r99_7 : am_T d 99 7 ls (.ref a0 :: st) S I J Q = (am_is S a0 3 ∧ am_T d 99 10 ls (.int (I a0 0) :: st) S I J Q) := tr_geti (k := 170) (by decide +kernel) (by decide +kernel) (Or.inr (by decide +kernel))
theorem r99_10 : am_T d 99 10 ls (.int x0 :: st) S I J Q = if x0 = 0 then am_T d 99 15 ls st S I J Q else am_T d 99 13 ls st S I J Q := tr_ifeq (o := 5) (by decide +kernel) rfl
theorem r99_13 : am_T d 99 13 ls st S I J Q = am_T d 99 14 ls (.int 1 :: st) S I J Q := tr_iconst (m := 1) (by decide +kernel) (by decide)
theorem r99_14 : am_T d 99 14 ls [.int x0] S I J Q = ((x0 = 0 ∨ x0 = 1) ∧ Q (some (.int x0)) S I J) := tr_iretz (by decide +kernel) (by decide +kernel)
theorem r99_15 : am_T d 99 15 [some (.ref a0)] st S I J Q = am_T d 99 16 [some (.ref a0)] (.ref a0 :: st) S I J Q := tr_aload_n (m := 0) (by decide +kernel) rfl
theorem r99_16 : am_T d 99 16 ls (.ref a0 :: st) S I J Q = am_T d 99 17 ls (.ref a0 :: .ref a0 :: st) S I J Q := tr_dupa (by decide +kernel)
theorem r99_17 : am_T d 99 17 ls (.ref a0 :: st) S I J Q = (am_is S a0 8 ∧ am_T d 99 20 ls (.int (I a0 6) :: st) S I J Q) := tr_geti (k := 174) (by decide +kernel) (by decide +kernel) (Or.inl (by decide +kernel))
theorem r99_20 : am_T d 99 20 ls st S I J Q = am_T d 99 21 ls (.int 1 :: st) S I J Q := tr_iconst (m := 1) (by decide +kernel) (by decide)
theorem r99_21 : am_T d 99 21 ls (.int x1 :: .int x0 :: st) S I J Q = am_T d 99 22 ls (.int (x0 + x1) :: st) S I J Q := tr_iadd (by decide +kernel)
theorem r99_22 : am_T d 99 22 ls (.int x0 :: .ref a0 :: st) S I J Q = (am_is S a0 8 ∧ am_T d 99 25 ls st S (am_up I a0 6 x0) J Q) := tr_puti (k := 174) (by decide +kernel) (by decide +kernel) (by decide +kernel) (by decide +kernel)
theorem r99_25 : am_T d 99 25 [some (.ref a0)] st S I J Q = am_T d 99 26 [some (.ref a0)] (.ref a0 :: st) S I J Q := tr_aload_n (m := 0) (by decide +kernel) rfl
theorem r99_26 : am_T d 99 26 ls (.ref a0 :: st) S I J Q = ((am_is S a0 8 ∧ am_rf S a0 10 ≠ 0) ∧ am_T d 99 29 ls (.ref (am_rf S a0 10) :: st) S I J Q) := tr_geta (k := 44) (by decide +kernel) (by decide +kernel) (by decide +kernel)
theorem r99_29 : am_T d 99 29 [some (.ref a0)] st S I J Q = am_T d 99 30 [some (.ref a0)] (.ref a0 :: st) S I J Q := tr_aload_n (m := 0) (by decide +kernel) rfl
theorem r99_30 : am_T d 99 30 ls (.ref a0 :: st) S I J Q = ((am_is S a0 8 ∧ am_rf S a0 0 ≠ 0) ∧ am_T d 99 33 ls (.ref (am_rf S a0 0) :: st) S I J Q) := tr_geta (k := 12) (by decide +kernel) (by decide +kernel) (by decide +kernel)
theorem r99_33 : am_T d 99 33 ls (.ref a0 :: st) S I J Q = ((am_is S a0 6 ∧ am_rf S a0 0 ≠ 0) ∧ am_T d 99 36 ls (.ref (am_rf S a0 0) :: st) S I J Q) := tr_geta (k := 69) (by decide +kernel) (by decide +kernel) (by decide +kernel)
theorem r99_36 : am_T d 99 36 [some (.ref a0)] st S I J Q = am_T d 99 37 [some (.ref a0)] (.ref a0 :: st) S I J Q := tr_aload_n (m := 0) (by decide +kernel) rfl
theorem r99_37 : am_T d 99 37 ls (.ref a0 :: st) S I J Q = ((am_is S a0 8 ∧ am_rf S a0 0 ≠ 0) ∧ am_T d 99 40 ls (.ref (am_rf S a0 0) :: st) S I J Q) := tr_geta (k := 12) (by decide +kernel) (by decide +kernel) (by decide +kernel)
theorem r99_40 : am_T d 99 40 ls (.ref a0 :: st) S I J Q = ((am_is S a0 6 ∧ am_rf S a0 0 ≠ 0) ∧ am_T d 99 43 ls (.ref (am_rf S a0 0) :: st) S I J Q) := tr_geta (k := 69) (by decide +kernel) (by decide +kernel) (by decide +kernel)
theorem r99_43 : am_T d 99 43 ls (.ref a0 :: st) S I J Q = ((am_is S a0 1 ∧ am_rf S a0 5 ≠ 0) ∧ am_T d 99 46 ls (.ref (am_rf S a0 5) :: st) S I J Q) := tr_geta (k := 118) (by decide +kernel) (by decide +kernel) (by decide +kernel)
theorem r99_46 : am_T d 99 46 ls st S I J Q = am_T d 99 47 ls (.int (-1) :: st) S I J Q := tr_iconst (m := -1) (by decide +kernel) (by decide)
theorem r99_47 : am_T d 99 47 ls [.int x3, .ref a2, .ref a1, .ref a0] S I J Q = (am_is S a0 0 ∧ am_C d 1 [.ref a0, .ref a1, .ref a2, .int x3] S I J (fun r S I J => am_T d 99 50 ls (am_psh r []) S I J Q)) := tr_virt (k := 256) (by decide +kernel) (by decide +kernel) rfl rfl (Nat.le_of_ble_eq_true rfl) (by decide +kernel)
theorem r99_50 : am_T d 99 50 ls (.int x0 :: st) S I J Q = if x0 = 0 then am_T d 99 53 ls st S I J Q else am_T d 99 55 ls st S I J Q := tr_ifne (o := 5) (by decide +kernel) rfl
theorem r99_53 : am_T d 99 53 ls st S I J Q = am_T d 99 54 ls (.int 0 :: st) S I J Q := tr_iconst (m := 0) (by decide +kernel) (by decide)
theorem r99_54 : am_T d 99 54 ls [.int x0] S I J Q = ((x0 = 0 ∨ x0 = 1) ∧ Q (some (.int x0)) S I J) := tr_iretz (by decide +kernel) (by decide +kernel)
theorem r99_55 : am_T d 99 55 [some (.ref a0)] st S I J Q = am_T d 99 56 [some (.ref a0)] (.ref a0 :: st) S I J Q := tr_aload_n (m := 0) (by decide +kernel) rfl
theorem r99_56 : am_T d 99 56 ls (.ref a0 :: st) S I J Q = ((am_is S a0 8 ∧ am_rf S a0 0 ≠ 0) ∧ am_T d 99 59 ls (.ref (am_rf S a0 0) :: st) S I J Q) := tr_geta (k := 12) (by decide +kernel) (by decide +kernel) (by decide +kernel)
theorem r99_59 : am_T d 99 59 ls (.ref a0 :: st) S I J Q = ((am_is S a0 6 ∧ am_rf S a0 1 ≠ 0) ∧ am_T d 99 62 ls (.ref (am_rf S a0 1) :: st) S I J Q) := tr_geta (k := 98) (by decide +kernel) (by decide +kernel) (by decide +kernel)
theorem r99_62 : am_T d 99 62 [some (.ref a0)] st S I J Q = am_T d 99 63 [some (.ref a0)] (.ref a0 :: st) S I J Q := tr_aload_n (m := 0) (by decide +kernel) rfl
theorem r99_63 : am_T d 99 63 ls (.ref a0 :: st) S I J Q = ((am_is S a0 8 ∧ am_rf S a0 10 ≠ 0) ∧ am_T d 99 66 ls (.ref (am_rf S a0 10) :: st) S I J Q) := tr_geta (k := 44) (by decide +kernel) (by decide +kernel) (by decide +kernel)
theorem r99_66 : am_T d 99 66 ls (.ref a0 :: st) S I J Q = ((am_is S a0 0 ∧ am_rf S a0 0 ≠ 0) ∧ am_T d 99 69 ls (.ref (am_rf S a0 0) :: st) S I J Q) := tr_geta (k := 260) (by decide +kernel) (by decide +kernel) (by decide +kernel)
theorem r99_69 : am_T d 99 69 ls [.ref a1, .ref a0] S I J Q = (am_is S a0 3 ∧ am_C d 27 [.ref a0, .ref a1] S I J (fun r S I J => am_T d 99 72 ls (am_psh r []) S I J Q)) := tr_virt (k := 263) (by decide +kernel) (by decide +kernel) rfl rfl (Nat.le_of_ble_eq_true rfl) (by decide +kernel)
theorem r99_72 : am_T d 99 72 ls st S I J Q = am_T d 99 73 ls (.int 1 :: st) S I J Q := tr_iconst (m := 1) (by decide +kernel) (by decide)
theorem r99_73 : am_T d 99 73 ls [.int x0] S I J Q = ((x0 = 0 ∨ x0 = 1) ∧ Q (some (.int x0)) S I J) := tr_iretz (by decide +kernel) (by decide +kernel)
-- 100 Fin.recordedCost()I; heads []
theorem e100 : am_C (d + 1) 100 [.ref a0] S I J Q = am_T d 100 0 [some (.ref a0)] [] S I J Q := tr_en (Nat.le_of_ble_eq_true rfl) rfl
theorem r100_0 : am_T d 100 0 [some (.ref a0)] st S I J Q = am_T d 100 1 [some (.ref a0)] (.ref a0 :: st) S I J Q := tr_aload_n (m := 0) (by decide +kernel) rfl
theorem r100_1 : am_T d 100 1 ls (.ref a0 :: st) S I J Q = ((am_is S a0 8 ∧ am_rf S a0 0 ≠ 0) ∧ am_T d 100 4 ls (.ref (am_rf S a0 0) :: st) S I J Q) := tr_geta (k := 12) (by decide +kernel) (by decide +kernel) (by decide +kernel)
theorem r100_4 : am_T d 100 4 ls (.ref a0 :: st) S I J Q = ((am_is S a0 6 ∧ am_rf S a0 1 ≠ 0) ∧ am_T d 100 7 ls (.ref (am_rf S a0 1) :: st) S I J Q) := tr_geta (k := 98) (by decide +kernel) (by decide +kernel) (by decide +kernel)
theorem r100_7 : am_T d 100 7 [some (.ref a0)] st S I J Q = am_T d 100 8 [some (.ref a0)] (.ref a0 :: st) S I J Q := tr_aload_n (m := 0) (by decide +kernel) rfl
theorem r100_8 : am_T d 100 8 ls (.ref a0 :: st) S I J Q = ((am_is S a0 8 ∧ am_rf S a0 0 ≠ 0) ∧ am_T d 100 11 ls (.ref (am_rf S a0 0) :: st) S I J Q) := tr_geta (k := 12) (by decide +kernel) (by decide +kernel) (by decide +kernel)
theorem r100_11 : am_T d 100 11 ls (.ref a0 :: st) S I J Q = ((am_is S a0 6 ∧ am_rf S a0 0 ≠ 0) ∧ am_T d 100 14 ls (.ref (am_rf S a0 0) :: st) S I J Q) := tr_geta (k := 69) (by decide +kernel) (by decide +kernel) (by decide +kernel)
theorem r100_14 : am_T d 100 14 [some (.ref a0)] st S I J Q = am_T d 100 15 [some (.ref a0)] (.ref a0 :: st) S I J Q := tr_aload_n (m := 0) (by decide +kernel) rfl
theorem r100_15 : am_T d 100 15 ls (.ref a0 :: st) S I J Q = ((am_is S a0 8 ∧ am_rf S a0 0 ≠ 0) ∧ am_T d 100 18 ls (.ref (am_rf S a0 0) :: st) S I J Q) := tr_geta (k := 12) (by decide +kernel) (by decide +kernel) (by decide +kernel)
theorem r100_18 : am_T d 100 18 ls (.ref a0 :: st) S I J Q = ((am_is S a0 6 ∧ am_rf S a0 0 ≠ 0) ∧ am_T d 100 21 ls (.ref (am_rf S a0 0) :: st) S I J Q) := tr_geta (k := 69) (by decide +kernel) (by decide +kernel) (by decide +kernel)
theorem r100_21 : am_T d 100 21 ls (.ref a0 :: st) S I J Q = ((am_is S a0 1 ∧ am_rf S a0 5 ≠ 0) ∧ am_T d 100 24 ls (.ref (am_rf S a0 5) :: st) S I J Q) := tr_geta (k := 118) (by decide +kernel) (by decide +kernel) (by decide +kernel)
theorem r100_24 : am_T d 100 24 ls [.ref a2, .ref a1, .ref a0] S I J Q = (am_is S a0 3 ∧ am_C d 31 [.ref a0, .ref a1, .ref a2] S I J (fun r S I J => am_T d 100 27 ls (am_psh r []) S I J Q)) := tr_virt (k := 266) (by decide +kernel) (by decide +kernel) rfl rfl (Nat.le_of_ble_eq_true rfl) (by decide +kernel)
theorem r100_27 : am_T d 100 27 ls [.int x0] S I J Q = Q (some (.int x0)) S I J := tr_ireti (by decide +kernel) (by decide +kernel)
-- 101 Fin.cheapestWithout(I)I; heads []
theorem e101 : am_C (d + 1) 101 [.ref a0, .int x1] S I J Q = am_T d 101 0 [some (.ref a0), some (.int x1)] [] S I J Q := tr_en (Nat.le_of_ble_eq_true rfl) rfl
theorem r101_0 : am_T d 101 0 [some (.ref a0), l1] st S I J Q = am_T d 101 1 [some (.ref a0), l1] (.ref a0 :: st) S I J Q := tr_aload_n (m := 0) (by decide +kernel) rfl
theorem r101_1 : am_T d 101 1 ls st S I J Q = am_T d 101 2 ls (.int (-1) :: st) S I J Q := tr_iconst (m := -1) (by decide +kernel) (by decide)
theorem r101_2 : am_T d 101 2 ls st S I J Q = am_T d 101 3 ls (.int 1 :: st) S I J Q := tr_iconst (m := 1) (by decide +kernel) (by decide)
theorem r101_3 : am_T d 101 3 [l0, some (.int x0)] st S I J Q = am_T d 101 4 [l0, some (.int x0)] (.int x0 :: st) S I J Q := tr_iload_n (m := 1) (by decide +kernel) rfl
theorem r101_4 : am_T d 101 4 ls (.int x1 :: .int x0 :: st) S I J Q = am_T d 101 5 ls (.int (x0 <<< (x1 &&& 31)) :: st) S I J Q := tr_ishl (by decide +kernel)
theorem r101_5 : am_T d 101 5 ls st S I J Q = am_T d 101 6 ls (.int (-1) :: st) S I J Q := tr_iconst (m := -1) (by decide +kernel) (by decide)
theorem r101_6 : am_T d 101 6 ls (.int x1 :: .int x0 :: st) S I J Q = am_T d 101 7 ls (.int (x0 ^^^ x1) :: st) S I J Q := tr_ixor (by decide +kernel)
theorem r101_7 : am_T d 101 7 ls (.int x1 :: .int x0 :: st) S I J Q = am_T d 101 8 ls (.int (x0 &&& x1) :: st) S I J Q := tr_iand (by decide +kernel)
theorem r101_8 : am_T d 101 8 ls [.int x1, .ref a0] S I J Q = (am_is S a0 8 ∧ am_C d 103 [.ref a0, .int x1] S I J (fun r S I J => am_T d 101 11 ls (am_psh r []) S I J Q)) := tr_virt (k := 270) (by decide +kernel) (by decide +kernel) rfl rfl (Nat.le_of_ble_eq_true rfl) (by decide +kernel)
theorem r101_11 : am_T d 101 11 ls [.int x0] S I J Q = Q (some (.int x0)) S I J := tr_ireti (by decide +kernel) (by decide +kernel)
-- 102 Fin.cheapestWith(I)I; heads []
theorem e102 : am_C (d + 1) 102 [.ref a0, .int x1] S I J Q = am_T d 102 0 [some (.ref a0), some (.int x1)] [] S I J Q := tr_en (Nat.le_of_ble_eq_true rfl) rfl
theorem r102_0 : am_T d 102 0 [some (.ref a0), l1] st S I J Q = am_T d 102 1 [some (.ref a0), l1] (.ref a0 :: st) S I J Q := tr_aload_n (m := 0) (by decide +kernel) rfl
theorem r102_1 : am_T d 102 1 ls (.ref a0 :: st) S I J Q = ((am_is S a0 8 ∧ am_rf S a0 0 ≠ 0) ∧ am_T d 102 4 ls (.ref (am_rf S a0 0) :: st) S I J Q) := tr_geta (k := 12) (by decide +kernel) (by decide +kernel) (by decide +kernel)
theorem r102_4 : am_T d 102 4 ls (.ref a0 :: st) S I J Q = ((am_is S a0 6 ∧ am_rf S a0 0 ≠ 0) ∧ am_T d 102 7 ls (.ref (am_rf S a0 0) :: st) S I J Q) := tr_geta (k := 69) (by decide +kernel) (by decide +kernel) (by decide +kernel)
theorem r102_7 : am_T d 102 7 ls (.ref a0 :: st) S I J Q = ((am_is S a0 1 ∧ am_rf S a0 4 ≠ 0) ∧ am_T d 102 10 ls (.ref (am_rf S a0 4) :: st) S I J Q) := tr_geta (k := 139) (by decide +kernel) (by decide +kernel) (by decide +kernel)
theorem r102_10 : am_T d 102 10 [l0, some (.int x0)] st S I J Q = am_T d 102 11 [l0, some (.int x0)] (.int x0 :: st) S I J Q := tr_iload_n (m := 1) (by decide +kernel) rfl
theorem r102_11 : am_T d 102 11 ls (.int x0 :: .ref a0 :: st) S I J Q = (am_ix S a0 20 x0 ∧ am_T d 102 12 ls (.int (I a0 x0.toNatClampNeg) :: st) S I J Q) := tr_iald (by decide +kernel)
theorem r102_12 : am_T d 102 12 [some (.ref a0), l1] st S I J Q = am_T d 102 13 [some (.ref a0), l1] (.ref a0 :: st) S I J Q := tr_aload_n (m := 0) (by decide +kernel) rfl
theorem r102_13 : am_T d 102 13 ls (.ref a0 :: st) S I J Q = ((am_is S a0 8 ∧ am_rf S a0 0 ≠ 0) ∧ am_T d 102 16 ls (.ref (am_rf S a0 0) :: st) S I J Q) := tr_geta (k := 12) (by decide +kernel) (by decide +kernel) (by decide +kernel)
theorem r102_16 : am_T d 102 16 ls (.ref a0 :: st) S I J Q = ((am_is S a0 6 ∧ am_rf S a0 0 ≠ 0) ∧ am_T d 102 19 ls (.ref (am_rf S a0 0) :: st) S I J Q) := tr_geta (k := 69) (by decide +kernel) (by decide +kernel) (by decide +kernel)
theorem r102_19 : am_T d 102 19 ls (.ref a0 :: st) S I J Q = (am_is S a0 1 ∧ am_T d 102 22 ls (.int (I a0 1) :: st) S I J Q) := tr_geti (k := 126) (by decide +kernel) (by decide +kernel) (Or.inl (by decide +kernel))
theorem r102_22 : am_T d 102 22 ls (.int x1 :: .int x0 :: st) S I J Q = if x0 = x1 then am_T d 102 25 ls st S I J Q else am_T d 102 28 ls st S I J Q := tr_icmpne (o := 6) (by decide +kernel) rfl
theorem r102_25 : am_T d 102 25 ls st S I J Q = am_T d 102 27 ls (.int (-107) :: st) S I J Q := tr_bipush (m := -107) (by decide +kernel) (by decide)
theorem r102_27 : am_T d 102 27 ls [.int x0] S I J Q = Q (some (.int x0)) S I J := tr_ireti (by decide +kernel) (by decide +kernel)
theorem r102_28 : am_T d 102 28 [some (.ref a0), l1] st S I J Q = am_T d 102 29 [some (.ref a0), l1] (.ref a0 :: st) S I J Q := tr_aload_n (m := 0) (by decide +kernel) rfl
theorem r102_29 : am_T d 102 29 [some (.ref a0), l1] st S I J Q = am_T d 102 30 [some (.ref a0), l1] (.ref a0 :: st) S I J Q := tr_aload_n (m := 0) (by decide +kernel) rfl
theorem r102_30 : am_T d 102 30 ls (.ref a0 :: st) S I J Q = ((am_is S a0 8 ∧ am_rf S a0 0 ≠ 0) ∧ am_T d 102 33 ls (.ref (am_rf S a0 0) :: st) S I J Q) := tr_geta (k := 12) (by decide +kernel) (by decide +kernel) (by decide +kernel)
theorem r102_33 : am_T d 102 33 ls (.ref a0 :: st) S I J Q = ((am_is S a0 6 ∧ am_rf S a0 0 ≠ 0) ∧ am_T d 102 36 ls (.ref (am_rf S a0 0) :: st) S I J Q) := tr_geta (k := 69) (by decide +kernel) (by decide +kernel) (by decide +kernel)
theorem r102_36 : am_T d 102 36 [l0, some (.int x0)] st S I J Q = am_T d 102 37 [l0, some (.int x0)] (.int x0 :: st) S I J Q := tr_iload_n (m := 1) (by decide +kernel) rfl
theorem r102_37 : am_T d 102 37 ls [.int x1, .ref a0, .ref a10] S I J Q = (am_is S a0 1 ∧ am_C d 17 [.ref a0, .int x1] S I J (fun r S I J => am_T d 102 40 ls (am_psh r [.ref a10]) S I J Q)) := tr_virt (k := 253) (by decide +kernel) (by decide +kernel) rfl rfl (Nat.le_of_ble_eq_true rfl) (by decide +kernel)
theorem r102_40 : am_T d 102 40 ls [.int x1, .ref a0] S I J Q = (am_is S a0 8 ∧ am_C d 103 [.ref a0, .int x1] S I J (fun r S I J => am_T d 102 43 ls (am_psh r []) S I J Q)) := tr_virt (k := 270) (by decide +kernel) (by decide +kernel) rfl rfl (Nat.le_of_ble_eq_true rfl) (by decide +kernel)
theorem r102_43 : am_T d 102 43 ls [.int x0] S I J Q = Q (some (.int x0)) S I J := tr_ireti (by decide +kernel) (by decide +kernel)
-- 103 Fin.cheapestAmong(I)I; heads []
theorem e103 : am_C (d + 1) 103 [.ref a0, .int x1] S I J Q = am_T d 103 0 [some (.ref a0), some (.int x1), none] [] S I J Q := tr_en (Nat.le_of_ble_eq_true rfl) rfl
theorem r103_0 : am_T d 103 0 [some (.ref a0), l1, l2] st S I J Q = am_T d 103 1 [some (.ref a0), l1, l2] (.ref a0 :: st) S I J Q := tr_aload_n (m := 0) (by decide +kernel) rfl
theorem r103_1 : am_T d 103 1 ls (.ref a0 :: st) S I J Q = ((am_is S a0 8 ∧ am_rf S a0 0 ≠ 0) ∧ am_T d 103 4 ls (.ref (am_rf S a0 0) :: st) S I J Q) := tr_geta (k := 12) (by decide +kernel) (by decide +kernel) (by decide +kernel)
theorem r103_4 : am_T d 103 4 ls (.ref a0 :: st) S I J Q = ((am_is S a0 6 ∧ am_rf S a0 0 ≠ 0) ∧ am_T d 103 7 ls (.ref (am_rf S a0 0) :: st) S I J Q) := tr_geta (k := 69) (by decide +kernel) (by decide +kernel) (by decide +kernel)
theorem r103_7 : am_T d 103 7 ls (.ref a0 :: st) S I J Q = ((am_is S a0 1 ∧ am_rf S a0 5 ≠ 0) ∧ am_T d 103 10 ls (.ref (am_rf S a0 5) :: st) S I J Q) := tr_geta (k := 118) (by decide +kernel) (by decide +kernel) (by decide +kernel)
theorem r103_10 : am_T d 103 10 [l0, l1, l2] (.ref a0 :: st) S I J Q = am_T d 103 11 [l0, am_clr l1, some (.ref a0)] st S I J Q := tr_astore_n (m := 2) (by decide +kernel) (Nat.le_of_ble_eq_true rfl) rfl
theorem r103_11 : am_T d 103 11 [some (.ref a0), l1, l2] st S I J Q = am_T d 103 12 [some (.ref a0), l1, l2] (.ref a0 :: st) S I J Q := tr_aload_n (m := 0) (by decide +kernel) rfl
theorem r103_12 : am_T d 103 12 ls (.ref a0 :: st) S I J Q = ((am_is S a0 8 ∧ am_rf S a0 10 ≠ 0) ∧ am_T d 103 15 ls (.ref (am_rf S a0 10) :: st) S I J Q) := tr_geta (k := 44) (by decide +kernel) (by decide +kernel) (by decide +kernel)
theorem r103_15 : am_T d 103 15 [some (.ref a0), l1, l2] st S I J Q = am_T d 103 16 [some (.ref a0), l1, l2] (.ref a0 :: st) S I J Q := tr_aload_n (m := 0) (by decide +kernel) rfl
theorem r103_16 : am_T d 103 16 ls (.ref a0 :: st) S I J Q = ((am_is S a0 8 ∧ am_rf S a0 0 ≠ 0) ∧ am_T d 103 19 ls (.ref (am_rf S a0 0) :: st) S I J Q) := tr_geta (k := 12) (by decide +kernel) (by decide +kernel) (by decide +kernel)
theorem r103_19 : am_T d 103 19 ls (.ref a0 :: st) S I J Q = ((am_is S a0 6 ∧ am_rf S a0 0 ≠ 0) ∧ am_T d 103 22 ls (.ref (am_rf S a0 0) :: st) S I J Q) := tr_geta (k := 69) (by decide +kernel) (by decide +kernel) (by decide +kernel)
theorem r103_22 : am_T d 103 22 [l0, l1, some (.ref a0)] st S I J Q = am_T d 103 23 [l0, l1, some (.ref a0)] (.ref a0 :: st) S I J Q := tr_aload_n (m := 2) (by decide +kernel) rfl
theorem r103_23 : am_T d 103 23 [l0, some (.int x0), l2] st S I J Q = am_T d 103 24 [l0, some (.int x0), l2] (.int x0 :: st) S I J Q := tr_iload_n (m := 1) (by decide +kernel) rfl
theorem r103_24 : am_T d 103 24 ls [.int x3, .ref a2, .ref a1, .ref a0] S I J Q = (am_is S a0 0 ∧ am_C d 1 [.ref a0, .ref a1, .ref a2, .int x3] S I J (fun r S I J => am_T d 103 27 ls (am_psh r []) S I J Q)) := tr_virt (k := 256) (by decide +kernel) (by decide +kernel) rfl rfl (Nat.le_of_ble_eq_true rfl) (by decide +kernel)
theorem r103_27 : am_T d 103 27 ls (.int x0 :: st) S I J Q = if x0 = 0 then am_T d 103 30 ls st S I J Q else am_T d 103 33 ls st S I J Q := tr_ifne (o := 6) (by decide +kernel) rfl
theorem r103_30 : am_T d 103 30 ls st S I J Q = am_T d 103 32 ls (.int (-107) :: st) S I J Q := tr_bipush (m := -107) (by decide +kernel) (by decide)
theorem r103_32 : am_T d 103 32 ls [.int x0] S I J Q = Q (some (.int x0)) S I J := tr_ireti (by decide +kernel) (by decide +kernel)
theorem r103_33 : am_T d 103 33 [some (.ref a0), l1, l2] st S I J Q = am_T d 103 34 [some (.ref a0), l1, l2] (.ref a0 :: st) S I J Q := tr_aload_n (m := 0) (by decide +kernel) rfl
theorem r103_34 : am_T d 103 34 ls (.ref a0 :: st) S I J Q = ((am_is S a0 8 ∧ am_rf S a0 10 ≠ 0) ∧ am_T d 103 37 ls (.ref (am_rf S a0 10) :: st) S I J Q) := tr_geta (k := 44) (by decide +kernel) (by decide +kernel) (by decide +kernel)
theorem r103_37 : am_T d 103 37 ls (.ref a0 :: st) S I J Q = ((am_is S a0 0 ∧ am_rf S a0 0 ≠ 0) ∧ am_T d 103 40 ls (.ref (am_rf S a0 0) :: st) S I J Q) := tr_geta (k := 260) (by decide +kernel) (by decide +kernel) (by decide +kernel)
theorem r103_40 : am_T d 103 40 [some (.ref a0), l1, l2] st S I J Q = am_T d 103 41 [some (.ref a0), l1, l2] (.ref a0 :: st) S I J Q := tr_aload_n (m := 0) (by decide +kernel) rfl
theorem r103_41 : am_T d 103 41 ls (.ref a0 :: st) S I J Q = ((am_is S a0 8 ∧ am_rf S a0 0 ≠ 0) ∧ am_T d 103 44 ls (.ref (am_rf S a0 0) :: st) S I J Q) := tr_geta (k := 12) (by decide +kernel) (by decide +kernel) (by decide +kernel)
theorem r103_44 : am_T d 103 44 ls (.ref a0 :: st) S I J Q = ((am_is S a0 6 ∧ am_rf S a0 0 ≠ 0) ∧ am_T d 103 47 ls (.ref (am_rf S a0 0) :: st) S I J Q) := tr_geta (k := 69) (by decide +kernel) (by decide +kernel) (by decide +kernel)
theorem r103_47 : am_T d 103 47 [l0, l1, some (.ref a0)] st S I J Q = am_T d 103 48 [l0, l1, some (.ref a0)] (.ref a0 :: st) S I J Q := tr_aload_n (m := 2) (by decide +kernel) rfl
theorem r103_48 : am_T d 103 48 ls [.ref a2, .ref a1, .ref a0] S I J Q = (am_is S a0 3 ∧ am_C d 31 [.ref a0, .ref a1, .ref a2] S I J (fun r S I J => am_T d 103 51 ls (am_psh r []) S I J Q)) := tr_virt (k := 266) (by decide +kernel) (by decide +kernel) rfl rfl (Nat.le_of_ble_eq_true rfl) (by decide +kernel)
theorem r103_51 : am_T d 103 51 ls [.int x0] S I J Q = Q (some (.int x0)) S I J := tr_ireti (by decide +kernel) (by decide +kernel)
-- 104 Fin.isNecessary(I)Z; heads []
theorem e104 : am_C (d + 1) 104 [.ref a0, .int x1] S I J Q = am_T d 104 0 [some (.ref a0), some (.int x1), none] [] S I J Q := tr_en (Nat.le_of_ble_eq_true rfl) rfl
theorem r104_0 : am_T d 104 0 [some (.ref a0), l1, l2] st S I J Q = am_T d 104 1 [some (.ref a0), l1, l2] (.ref a0 :: st) S I J Q := tr_aload_n (m := 0) (by decide +kernel) rfl
theorem r104_1 : am_T d 104 1 ls (.ref a0 :: st) S I J Q = ((am_is S a0 8 ∧ am_rf S a0 0 ≠ 0) ∧ am_T d 104 4 ls (.ref (am_rf S a0 0) :: st) S I J Q) := tr_geta (k := 12) (by decide +kernel) (by decide +kernel) (by decide +kernel)
theorem r104_4 : am_T d 104 4 ls (.ref a0 :: st) S I J Q = ((am_is S a0 6 ∧ am_rf S a0 1 ≠ 0) ∧ am_T d 104 7 ls (.ref (am_rf S a0 1) :: st) S I J Q) := tr_geta (k := 98) (by decide +kernel) (by decide +kernel) (by decide +kernel)
theorem r104_7 : am_T d 104 7 [some (.ref a0), l1, l2] st S I J Q = am_T d 104 8 [some (.ref a0), l1, l2] (.ref a0 :: st) S I J Q := tr_aload_n (m := 0) (by decide +kernel) rfl
theorem r104_8 : am_T d 104 8 ls (.ref a0 :: st) S I J Q = ((am_is S a0 8 ∧ am_rf S a0 0 ≠ 0) ∧ am_T d 104 11 ls (.ref (am_rf S a0 0) :: st) S I J Q) := tr_geta (k := 12) (by decide +kernel) (by decide +kernel) (by decide +kernel)
theorem r104_11 : am_T d 104 11 ls (.ref a0 :: st) S I J Q = ((am_is S a0 6 ∧ am_rf S a0 0 ≠ 0) ∧ am_T d 104 14 ls (.ref (am_rf S a0 0) :: st) S I J Q) := tr_geta (k := 69) (by decide +kernel) (by decide +kernel) (by decide +kernel)
theorem r104_14 : am_T d 104 14 [l0, some (.int x0), l2] st S I J Q = am_T d 104 15 [l0, some (.int x0), l2] (.int x0 :: st) S I J Q := tr_iload_n (m := 1) (by decide +kernel) rfl
theorem r104_15 : am_T d 104 15 ls [.int x2, .ref a1, .ref a0] S I J Q = (am_is S a0 3 ∧ am_C d 30 [.ref a0, .ref a1, .int x2] S I J (fun r S I J => am_T d 104 18 ls (am_psh r []) S I J Q)) := tr_virt (k := 217) (by decide +kernel) (by decide +kernel) rfl rfl (Nat.le_of_ble_eq_true rfl) (by decide +kernel)
theorem r104_18 : am_T d 104 18 ls (.int x0 :: st) S I J Q = if x0 = 0 then am_T d 104 21 ls st S I J Q else am_T d 104 23 ls st S I J Q := tr_ifne (o := 5) (by decide +kernel) rfl
theorem r104_21 : am_T d 104 21 ls st S I J Q = am_T d 104 22 ls (.int 0 :: st) S I J Q := tr_iconst (m := 0) (by decide +kernel) (by decide)
theorem r104_22 : am_T d 104 22 ls [.int x0] S I J Q = ((x0 = 0 ∨ x0 = 1) ∧ Q (some (.int x0)) S I J) := tr_iretz (by decide +kernel) (by decide +kernel)
theorem r104_23 : am_T d 104 23 [some (.ref a0), l1, l2] st S I J Q = am_T d 104 24 [some (.ref a0), l1, l2] (.ref a0 :: st) S I J Q := tr_aload_n (m := 0) (by decide +kernel) rfl
theorem r104_24 : am_T d 104 24 [l0, some (.int x0), l2] st S I J Q = am_T d 104 25 [l0, some (.int x0), l2] (.int x0 :: st) S I J Q := tr_iload_n (m := 1) (by decide +kernel) rfl
theorem r104_25 : am_T d 104 25 ls [.int x1, .ref a0] S I J Q = (am_is S a0 8 ∧ am_C d 101 [.ref a0, .int x1] S I J (fun r S I J => am_T d 104 28 ls (am_psh r []) S I J Q)) := tr_virt (k := 210) (by decide +kernel) (by decide +kernel) rfl rfl (Nat.le_of_ble_eq_true rfl) (by decide +kernel)
theorem r104_28 : am_T d 104 28 [l0, l1, l2] (.int x0 :: st) S I J Q = am_T d 104 29 [l0, am_clr l1, some (.int x0)] st S I J Q := tr_istore_n (m := 2) (by decide +kernel) (Nat.le_of_ble_eq_true rfl) rfl
theorem r104_29 : am_T d 104 29 [l0, l1, some (.int x0)] st S I J Q = am_T d 104 30 [l0, l1, some (.int x0)] (.int x0 :: st) S I J Q := tr_iload_n (m := 2) (by decide +kernel) rfl
theorem r104_30 : am_T d 104 30 ls st S I J Q = am_T d 104 32 ls (.int (-107) :: st) S I J Q := tr_bipush (m := -107) (by decide +kernel) (by decide)
theorem r104_32 : am_T d 104 32 ls (.int x1 :: .int x0 :: st) S I J Q = if x0 = x1 then am_T d 104 43 ls st S I J Q else am_T d 104 35 ls st S I J Q := tr_icmpeq (o := 11) (by decide +kernel) rfl
theorem r104_35 : am_T d 104 35 [l0, l1, some (.int x0)] st S I J Q = am_T d 104 36 [l0, l1, some (.int x0)] (.int x0 :: st) S I J Q := tr_iload_n (m := 2) (by decide +kernel) rfl
theorem r104_36 : am_T d 104 36 [some (.ref a0), l1, l2] st S I J Q = am_T d 104 37 [some (.ref a0), l1, l2] (.ref a0 :: st) S I J Q := tr_aload_n (m := 0) (by decide +kernel) rfl
theorem r104_37 : am_T d 104 37 ls [.ref a0, .int x10] S I J Q = (am_is S a0 8 ∧ am_C d 100 [.ref a0] S I J (fun r S I J => am_T d 104 40 ls (am_psh r [.int x10]) S I J Q)) := tr_virt (k := 184) (by decide +kernel) (by decide +kernel) rfl rfl (Nat.le_of_ble_eq_true rfl) (by decide +kernel)
theorem r104_40 : am_T d 104 40 ls (.int x1 :: .int x0 :: st) S I J Q = if x0 ≤ x1 then am_T d 104 47 ls st S I J Q else am_T d 104 43 ls st S I J Q := tr_icmple (o := 7) (by decide +kernel) rfl
theorem r104_43 : am_T d 104 43 ls st S I J Q = am_T d 104 44 ls (.int 1 :: st) S I J Q := tr_iconst (m := 1) (by decide +kernel) (by decide)
theorem r104_44 : am_T d 104 44 ls st S I J Q = am_T d 104 48 ls st S I J Q := tr_goto (o := 4) (by decide +kernel) rfl
theorem r104_47 : am_T d 104 47 ls st S I J Q = am_T d 104 48 ls (.int 0 :: st) S I J Q := tr_iconst (m := 0) (by decide +kernel) (by decide)
theorem r104_48 : am_T d 104 48 ls [.int x0] S I J Q = ((x0 = 0 ∨ x0 = 1) ∧ Q (some (.int x0)) S I J) := tr_iretz (by decide +kernel) (by decide +kernel)
-- 105 Fin.areRounds(II)Z; heads []
theorem e105 : am_C (d + 1) 105 [.int x0, .int x1] S I J Q = am_T d 105 0 [some (.int x0), some (.int x1)] [] S I J Q := tr_en (Nat.le_of_ble_eq_true rfl) rfl
theorem r105_0 : am_T d 105 0 [some (.int x0), l1] st S I J Q = am_T d 105 1 [some (.int x0), l1] (.int x0 :: st) S I J Q := tr_iload_n (m := 0) (by decide +kernel) rfl
theorem r105_1 : am_T d 105 1 ls st S I J Q = am_T d 105 2 ls (.int 1 :: st) S I J Q := tr_iconst (m := 1) (by decide +kernel) (by decide)
theorem r105_2 : am_T d 105 2 ls (.int x1 :: .int x0 :: st) S I J Q = if x0 < x1 then am_T d 105 26 ls st S I J Q else am_T d 105 5 ls st S I J Q := tr_icmplt (o := 24) (by decide +kernel) rfl
theorem r105_5 : am_T d 105 5 [some (.int x0), l1] st S I J Q = am_T d 105 6 [some (.int x0), l1] (.int x0 :: st) S I J Q := tr_iload_n (m := 0) (by decide +kernel) rfl
theorem r105_6 : am_T d 105 6 ls st S I J Q = am_T d 105 8 ls (.int 20 :: st) S I J Q := tr_bipush (m := 20) (by decide +kernel) (by decide)
theorem r105_8 : am_T d 105 8 ls (.int x1 :: .int x0 :: st) S I J Q = if x1 < x0 then am_T d 105 26 ls st S I J Q else am_T d 105 11 ls st S I J Q := tr_icmpgt (o := 18) (by decide +kernel) rfl
theorem r105_11 : am_T d 105 11 [l0, some (.int x0)] st S I J Q = am_T d 105 12 [l0, some (.int x0)] (.int x0 :: st) S I J Q := tr_iload_n (m := 1) (by decide +kernel) rfl
theorem r105_12 : am_T d 105 12 ls st S I J Q = am_T d 105 13 ls (.int 1 :: st) S I J Q := tr_iconst (m := 1) (by decide +kernel) (by decide)
theorem r105_13 : am_T d 105 13 ls (.int x1 :: .int x0 :: st) S I J Q = if x0 < x1 then am_T d 105 26 ls st S I J Q else am_T d 105 16 ls st S I J Q := tr_icmplt (o := 13) (by decide +kernel) rfl
theorem r105_16 : am_T d 105 16 [l0, some (.int x0)] st S I J Q = am_T d 105 17 [l0, some (.int x0)] (.int x0 :: st) S I J Q := tr_iload_n (m := 1) (by decide +kernel) rfl
theorem r105_17 : am_T d 105 17 ls st S I J Q = am_T d 105 19 ls (.int 20 :: st) S I J Q := tr_bipush (m := 20) (by decide +kernel) (by decide)
theorem r105_19 : am_T d 105 19 ls (.int x1 :: .int x0 :: st) S I J Q = if x1 < x0 then am_T d 105 26 ls st S I J Q else am_T d 105 22 ls st S I J Q := tr_icmpgt (o := 7) (by decide +kernel) rfl
theorem r105_22 : am_T d 105 22 ls st S I J Q = am_T d 105 23 ls (.int 1 :: st) S I J Q := tr_iconst (m := 1) (by decide +kernel) (by decide)
theorem r105_23 : am_T d 105 23 ls st S I J Q = am_T d 105 27 ls st S I J Q := tr_goto (o := 4) (by decide +kernel) rfl
theorem r105_26 : am_T d 105 26 ls st S I J Q = am_T d 105 27 ls (.int 0 :: st) S I J Q := tr_iconst (m := 0) (by decide +kernel) (by decide)
theorem r105_27 : am_T d 105 27 ls [.int x0] S I J Q = ((x0 = 0 ∨ x0 = 1) ∧ Q (some (.int x0)) S I J) := tr_iretz (by decide +kernel) (by decide +kernel)
-- 106 Fin.appendRandom(LArborescenceFinder$Graph;II)V; heads [6]
theorem e106 : am_C (d + 1) 106 [.ref a0, .int x1, .int x2] S I J Q = am_T d 106 0 [some (.ref a0), some (.int x1), some (.int x2), none, none, none, none, none] [] S I J Q := tr_en (Nat.le_of_ble_eq_true rfl) rfl
theorem r106_0 : am_T d 106 0 [l0, l1, some (.int x0), l3, l4, l5, l6, l7] st S I J Q = am_T d 106 1 [l0, l1, some (.int x0), l3, l4, l5, l6, l7] (.int x0 :: st) S I J Q := tr_iload_n (m := 2) (by decide +kernel) rfl
theorem r106_1 : am_T d 106 1 ls (.int x0 :: st) S I J Q = am_T d 106 2 ls (.long x0.toInt64 :: st) S I J Q := tr_i2l (by decide +kernel)
theorem r106_2 : am_T d 106 2 [l0, l1, l2, l3, l4, l5, l6, l7] (.long u0 :: st) S I J Q = am_T d 106 3 [l0, l1, am_clr l2, some (.long u0), none, l5, l6, l7] st S I J Q := tr_lstore_n (m := 3) (by decide +kernel) (Nat.le_of_ble_eq_true rfl) rfl
theorem r106_3 : am_T d 106 3 ls st S I J Q = am_T d 106 4 ls (.int 0 :: st) S I J Q := tr_iconst (m := 0) (by decide +kernel) (by decide)
theorem r106_4 : am_T d 106 4 [l0, l1, l2, l3, l4, l5, l6, l7] (.int x0 :: st) S I J Q = am_T d 106 6 [l0, l1, l2, l3, am_clr l4, some (.int x0), l6, l7] st S I J Q := tr_istore (k := 5) (by decide +kernel) (Nat.le_of_ble_eq_true rfl) rfl
theorem r106_6 : am_T d 106 6 [l0, l1, l2, l3, l4, some (.int x0), l6, l7] st S I J Q = am_T d 106 8 [l0, l1, l2, l3, l4, some (.int x0), l6, l7] (.int x0 :: st) S I J Q := tr_iload (k := 5) (by decide +kernel) rfl
theorem r106_8 : am_T d 106 8 [l0, some (.int x0), l2, l3, l4, l5, l6, l7] st S I J Q = am_T d 106 9 [l0, some (.int x0), l2, l3, l4, l5, l6, l7] (.int x0 :: st) S I J Q := tr_iload_n (m := 1) (by decide +kernel) rfl
theorem r106_9 : am_T d 106 9 ls (.int x1 :: .int x0 :: st) S I J Q = if x1 ≤ x0 then am_T d 106 79 ls st S I J Q else am_T d 106 12 ls st S I J Q := tr_icmpge (o := 70) (by decide +kernel) rfl
theorem r106_12 : am_T d 106 12 [l0, l1, l2, some (.long u0), l4, l5, l6, l7] st S I J Q = am_T d 106 13 [l0, l1, l2, some (.long u0), l4, l5, l6, l7] (.long u0 :: st) S I J Q := tr_lload_n (m := 3) (by decide +kernel) rfl
theorem r106_13 : am_T d 106 13 ls [.long u0] S I J Q = am_C d 107 [.long u0] S I J (fun r S I J => am_T d 106 16 ls (am_psh r []) S I J Q) := tr_stat (k := 273) (by decide +kernel) (Or.inl (by decide +kernel)) (Nat.le_of_ble_eq_true rfl) rfl rfl (Nat.le_of_ble_eq_true rfl)
theorem r106_16 : am_T d 106 16 [l0, l1, l2, l3, l4, l5, l6, l7] (.long u0 :: st) S I J Q = am_T d 106 17 [l0, l1, am_clr l2, some (.long u0), none, l5, l6, l7] st S I J Q := tr_lstore_n (m := 3) (by decide +kernel) (Nat.le_of_ble_eq_true rfl) rfl
theorem r106_17 : am_T d 106 17 [some (.ref a0), l1, l2, l3, l4, l5, l6, l7] st S I J Q = am_T d 106 18 [some (.ref a0), l1, l2, l3, l4, l5, l6, l7] (.ref a0 :: st) S I J Q := tr_aload_n (m := 0) (by decide +kernel) rfl
theorem r106_18 : am_T d 106 18 ls (.ref a0 :: st) S I J Q = (am_is S a0 1 ∧ am_T d 106 21 ls (.int (I a0 0) :: st) S I J Q) := tr_geti (k := 72) (by decide +kernel) (by decide +kernel) (Or.inl (by decide +kernel))
theorem r106_21 : am_T d 106 21 [l0, l1, l2, some (.long u0), l4, l5, l6, l7] st S I J Q = am_T d 106 22 [l0, l1, l2, some (.long u0), l4, l5, l6, l7] (.long u0 :: st) S I J Q := tr_lload_n (m := 3) (by decide +kernel) rfl
theorem r106_22 : am_T d 106 22 ls [.long u1, .int x0] S I J Q = am_C d 108 [.int x0, .long u1] S I J (fun r S I J => am_T d 106 25 ls (am_psh r []) S I J Q) := tr_stat (k := 277) (by decide +kernel) (Or.inl (by decide +kernel)) (Nat.le_of_ble_eq_true rfl) rfl rfl (Nat.le_of_ble_eq_true rfl)
theorem r106_25 : am_T d 106 25 [l0, l1, l2, l3, l4, l5, l6, l7] (.int x0 :: st) S I J Q = am_T d 106 27 [l0, l1, l2, l3, l4, am_clr l5, some (.int x0), l7] st S I J Q := tr_istore (k := 6) (by decide +kernel) (Nat.le_of_ble_eq_true rfl) rfl
theorem r106_27 : am_T d 106 27 [l0, l1, l2, some (.long u0), l4, l5, l6, l7] st S I J Q = am_T d 106 28 [l0, l1, l2, some (.long u0), l4, l5, l6, l7] (.long u0 :: st) S I J Q := tr_lload_n (m := 3) (by decide +kernel) rfl
theorem r106_28 : am_T d 106 28 ls [.long u0] S I J Q = am_C d 107 [.long u0] S I J (fun r S I J => am_T d 106 31 ls (am_psh r []) S I J Q) := tr_stat (k := 273) (by decide +kernel) (Or.inl (by decide +kernel)) (Nat.le_of_ble_eq_true rfl) rfl rfl (Nat.le_of_ble_eq_true rfl)
theorem r106_31 : am_T d 106 31 [l0, l1, l2, l3, l4, l5, l6, l7] (.long u0 :: st) S I J Q = am_T d 106 32 [l0, l1, am_clr l2, some (.long u0), none, l5, l6, l7] st S I J Q := tr_lstore_n (m := 3) (by decide +kernel) (Nat.le_of_ble_eq_true rfl) rfl
theorem r106_32 : am_T d 106 32 [some (.ref a0), l1, l2, l3, l4, l5, l6, l7] st S I J Q = am_T d 106 33 [some (.ref a0), l1, l2, l3, l4, l5, l6, l7] (.ref a0 :: st) S I J Q := tr_aload_n (m := 0) (by decide +kernel) rfl
theorem r106_33 : am_T d 106 33 ls (.ref a0 :: st) S I J Q = (am_is S a0 1 ∧ am_T d 106 36 ls (.int (I a0 0) :: st) S I J Q) := tr_geti (k := 72) (by decide +kernel) (by decide +kernel) (Or.inl (by decide +kernel))
theorem r106_36 : am_T d 106 36 ls st S I J Q = am_T d 106 37 ls (.int 1 :: st) S I J Q := tr_iconst (m := 1) (by decide +kernel) (by decide)
theorem r106_37 : am_T d 106 37 ls (.int x1 :: .int x0 :: st) S I J Q = am_T d 106 38 ls (.int (x0 - x1) :: st) S I J Q := tr_isub (by decide +kernel)
theorem r106_38 : am_T d 106 38 [l0, l1, l2, some (.long u0), l4, l5, l6, l7] st S I J Q = am_T d 106 39 [l0, l1, l2, some (.long u0), l4, l5, l6, l7] (.long u0 :: st) S I J Q := tr_lload_n (m := 3) (by decide +kernel) rfl
theorem r106_39 : am_T d 106 39 ls [.long u1, .int x0] S I J Q = am_C d 108 [.int x0, .long u1] S I J (fun r S I J => am_T d 106 42 ls (am_psh r []) S I J Q) := tr_stat (k := 277) (by decide +kernel) (Or.inl (by decide +kernel)) (Nat.le_of_ble_eq_true rfl) rfl rfl (Nat.le_of_ble_eq_true rfl)
theorem r106_42 : am_T d 106 42 [l0, l1, l2, l3, l4, l5, l6, l7] (.int x0 :: st) S I J Q = am_T d 106 44 [l0, l1, l2, l3, l4, l5, am_clr l6, some (.int x0)] st S I J Q := tr_istore (k := 7) (by decide +kernel) (Nat.le_of_ble_eq_true rfl) rfl
theorem r106_44 : am_T d 106 44 [l0, l1, l2, l3, l4, l5, l6, some (.int x0)] st S I J Q = am_T d 106 46 [l0, l1, l2, l3, l4, l5, l6, some (.int x0)] (.int x0 :: st) S I J Q := tr_iload (k := 7) (by decide +kernel) rfl
theorem r106_46 : am_T d 106 46 [l0, l1, l2, l3, l4, l5, some (.int x0), l7] st S I J Q = am_T d 106 48 [l0, l1, l2, l3, l4, l5, some (.int x0), l7] (.int x0 :: st) S I J Q := tr_iload (k := 6) (by decide +kernel) rfl
theorem r106_48 : am_T d 106 48 ls (.int x1 :: .int x0 :: st) S I J Q = if x0 < x1 then am_T d 106 54 ls st S I J Q else am_T d 106 51 ls st S I J Q := tr_icmplt (o := 6) (by decide +kernel) rfl
theorem r106_51 : am_T d 106 51 [l0, l1, l2, l3, l4, l5, l6, some (.int x0)] st S I J Q = am_T d 106 54 [l0, l1, l2, l3, l4, l5, am_clr l6, some (.int (x0 + 1))] st S I J Q := tr_iinc (k := 7) (m := 1) (by decide +kernel) rfl (Nat.le_of_ble_eq_true rfl) (by decide) rfl
theorem r106_54 : am_T d 106 54 [l0, l1, l2, some (.long u0), l4, l5, l6, l7] st S I J Q = am_T d 106 55 [l0, l1, l2, some (.long u0), l4, l5, l6, l7] (.long u0 :: st) S I J Q := tr_lload_n (m := 3) (by decide +kernel) rfl
theorem r106_55 : am_T d 106 55 ls [.long u0] S I J Q = am_C d 107 [.long u0] S I J (fun r S I J => am_T d 106 58 ls (am_psh r []) S I J Q) := tr_stat (k := 273) (by decide +kernel) (Or.inl (by decide +kernel)) (Nat.le_of_ble_eq_true rfl) rfl rfl (Nat.le_of_ble_eq_true rfl)
theorem r106_58 : am_T d 106 58 [l0, l1, l2, l3, l4, l5, l6, l7] (.long u0 :: st) S I J Q = am_T d 106 59 [l0, l1, am_clr l2, some (.long u0), none, l5, l6, l7] st S I J Q := tr_lstore_n (m := 3) (by decide +kernel) (Nat.le_of_ble_eq_true rfl) rfl
theorem r106_59 : am_T d 106 59 [some (.ref a0), l1, l2, l3, l4, l5, l6, l7] st S I J Q = am_T d 106 60 [some (.ref a0), l1, l2, l3, l4, l5, l6, l7] (.ref a0 :: st) S I J Q := tr_aload_n (m := 0) (by decide +kernel) rfl
theorem r106_60 : am_T d 106 60 [l0, l1, l2, l3, l4, l5, some (.int x0), l7] st S I J Q = am_T d 106 62 [l0, l1, l2, l3, l4, l5, some (.int x0), l7] (.int x0 :: st) S I J Q := tr_iload (k := 6) (by decide +kernel) rfl
theorem r106_62 : am_T d 106 62 [l0, l1, l2, l3, l4, l5, l6, some (.int x0)] st S I J Q = am_T d 106 64 [l0, l1, l2, l3, l4, l5, l6, some (.int x0)] (.int x0 :: st) S I J Q := tr_iload (k := 7) (by decide +kernel) rfl
theorem r106_64 : am_T d 106 64 ls st S I J Q = am_T d 106 66 ls (.int 100 :: st) S I J Q := tr_bipush (m := 100) (by decide +kernel) (by decide)
theorem r106_66 : am_T d 106 66 [l0, l1, l2, some (.long u0), l4, l5, l6, l7] st S I J Q = am_T d 106 67 [l0, l1, l2, some (.long u0), l4, l5, l6, l7] (.long u0 :: st) S I J Q := tr_lload_n (m := 3) (by decide +kernel) rfl
theorem r106_67 : am_T d 106 67 ls [.long u1, .int x0, .int x12, .int x11, .ref a10] S I J Q = am_C d 108 [.int x0, .long u1] S I J (fun r S I J => am_T d 106 70 ls (am_psh r [.int x12, .int x11, .ref a10]) S I J Q) := tr_stat (k := 277) (by decide +kernel) (Or.inl (by decide +kernel)) (Nat.le_of_ble_eq_true rfl) rfl rfl (Nat.le_of_ble_eq_true rfl)
theorem r106_70 : am_T d 106 70 ls [.int x3, .int x2, .int x1, .ref a0] S I J Q = (am_is S a0 1 ∧ am_C d 15 [.ref a0, .int x1, .int x2, .int x3] S I J (fun r S I J => am_T d 106 73 ls (am_psh r []) S I J Q)) := tr_virt (k := 94) (by decide +kernel) (by decide +kernel) rfl rfl (Nat.le_of_ble_eq_true rfl) (by decide +kernel)
theorem r106_73 : am_T d 106 73 [l0, l1, l2, l3, l4, some (.int x0), l6, l7] st S I J Q = am_T d 106 76 [l0, l1, l2, l3, am_clr l4, some (.int (x0 + 1)), l6, l7] st S I J Q := tr_iinc (k := 5) (m := 1) (by decide +kernel) rfl (Nat.le_of_ble_eq_true rfl) (by decide) rfl
theorem r106_76 : am_T d 106 76 ls st S I J Q = am_T d 106 6 ls st S I J Q := tr_goto (o := -70) (by decide +kernel) rfl
theorem r106_79 : am_T d 106 79 ls [] S I J Q = Q none S I J := tr_vret (by decide +kernel) (by decide +kernel)
-- 107 Fin.nextRandom(J)J; heads []
theorem e107 : am_C (d + 1) 107 [.long u0] S I J Q = am_T d 107 0 [some (.long u0), none] [] S I J Q := tr_en (Nat.le_of_ble_eq_true rfl) rfl
theorem r107_0 : am_T d 107 0 ls st S I J Q = am_T d 107 3 ls (.long 1103515245 :: st) S I J Q := tr_ldc2 (k := 281) (by decide +kernel) (by decide +kernel)
theorem r107_3 : am_T d 107 3 [some (.long u0), l1] st S I J Q = am_T d 107 4 [some (.long u0), l1] (.long u0 :: st) S I J Q := tr_lload_n (m := 0) (by decide +kernel) rfl
theorem r107_4 : am_T d 107 4 ls (.long u1 :: .long u0 :: st) S I J Q = am_T d 107 5 ls (.long (u0 * u1) :: st) S I J Q := tr_lmul (by decide +kernel)
theorem r107_5 : am_T d 107 5 ls st S I J Q = am_T d 107 8 ls (.long 12345 :: st) S I J Q := tr_ldc2 (k := 283) (by decide +kernel) (by decide +kernel)
theorem r107_8 : am_T d 107 8 ls (.long u1 :: .long u0 :: st) S I J Q = am_T d 107 9 ls (.long (u0 + u1) :: st) S I J Q := tr_ladd (by decide +kernel)
theorem r107_9 : am_T d 107 9 ls st S I J Q = am_T d 107 12 ls (.long 2147483648 :: st) S I J Q := tr_ldc2 (k := 285) (by decide +kernel) (by decide +kernel)
theorem r107_12 : am_T d 107 12 ls (.long u1 :: .long u0 :: st) S I J Q = (u1 ≠ 0 ∧ am_T d 107 13 ls (.long (u0 - u0 / u1 * u1) :: st) S I J Q) := tr_lrem (by decide +kernel)
theorem r107_13 : am_T d 107 13 ls [.long u0] S I J Q = Q (some (.long u0)) S I J := tr_lret (by decide +kernel) (by decide +kernel)
-- 108 Fin.randomBelow(IJ)I; heads []
theorem e108 : am_C (d + 1) 108 [.int x0, .long u1] S I J Q = am_T d 108 0 [some (.int x0), some (.long u1), none] [] S I J Q := tr_en (Nat.le_of_ble_eq_true rfl) rfl
theorem r108_0 : am_T d 108 0 [some (.int x0), l1, l2] st S I J Q = am_T d 108 1 [some (.int x0), l1, l2] (.int x0 :: st) S I J Q := tr_iload_n (m := 0) (by decide +kernel) rfl
theorem r108_1 : am_T d 108 1 ls st S I J Q = am_T d 108 2 ls (.int 1 :: st) S I J Q := tr_iconst (m := 1) (by decide +kernel) (by decide)
theorem r108_2 : am_T d 108 2 ls (.int x1 :: .int x0 :: st) S I J Q = if x1 ≤ x0 then am_T d 108 9 ls st S I J Q else am_T d 108 5 ls st S I J Q := tr_icmpge (o := 7) (by decide +kernel) rfl
theorem r108_5 : am_T d 108 5 ls st S I J Q = am_T d 108 6 ls (.int 0 :: st) S I J Q := tr_iconst (m := 0) (by decide +kernel) (by decide)
theorem r108_6 : am_T d 108 6 ls st S I J Q = am_T d 108 18 ls st S I J Q := tr_goto (o := 12) (by decide +kernel) rfl
theorem r108_9 : am_T d 108 9 [l0, some (.long u0), l2] st S I J Q = am_T d 108 10 [l0, some (.long u0), l2] (.long u0 :: st) S I J Q := tr_lload_n (m := 1) (by decide +kernel) rfl
theorem r108_10 : am_T d 108 10 ls st S I J Q = am_T d 108 13 ls (.long 65536 :: st) S I J Q := tr_ldc2 (k := 287) (by decide +kernel) (by decide +kernel)
theorem r108_13 : am_T d 108 13 ls (.long u1 :: .long u0 :: st) S I J Q = (u1 ≠ 0 ∧ am_T d 108 14 ls (.long (u0 / u1) :: st) S I J Q) := tr_ldiv (by decide +kernel)
theorem r108_14 : am_T d 108 14 [some (.int x0), l1, l2] st S I J Q = am_T d 108 15 [some (.int x0), l1, l2] (.int x0 :: st) S I J Q := tr_iload_n (m := 0) (by decide +kernel) rfl
theorem r108_15 : am_T d 108 15 ls (.int x0 :: st) S I J Q = am_T d 108 16 ls (.long x0.toInt64 :: st) S I J Q := tr_i2l (by decide +kernel)
theorem r108_16 : am_T d 108 16 ls (.long u1 :: .long u0 :: st) S I J Q = (u1 ≠ 0 ∧ am_T d 108 17 ls (.long (u0 - u0 / u1 * u1) :: st) S I J Q) := tr_lrem (by decide +kernel)
theorem r108_17 : am_T d 108 17 ls (.long u0 :: st) S I J Q = am_T d 108 18 ls (.int u0.toInt32 :: st) S I J Q := tr_l2i (by decide +kernel)
theorem r108_18 : am_T d 108 18 ls [.int x0] S I J Q = Q (some (.int x0)) S I J := tr_ireti (by decide +kernel) (by decide +kernel)
-- 109 Fin.isIn(II)Z; heads []
theorem e109 : am_C (d + 1) 109 [.int x0, .int x1] S I J Q = am_T d 109 0 [some (.int x0), some (.int x1)] [] S I J Q := tr_en (Nat.le_of_ble_eq_true rfl) rfl
theorem r109_0 : am_T d 109 0 [some (.int x0), l1] st S I J Q = am_T d 109 1 [some (.int x0), l1] (.int x0 :: st) S I J Q := tr_iload_n (m := 0) (by decide +kernel) rfl
theorem r109_1 : am_T d 109 1 [l0, some (.int x0)] st S I J Q = am_T d 109 2 [l0, some (.int x0)] (.int x0 :: st) S I J Q := tr_iload_n (m := 1) (by decide +kernel) rfl
theorem r109_2 : am_T d 109 2 ls (.int x1 :: .int x0 :: st) S I J Q = am_T d 109 3 ls (.int (x0 >>> (x1 &&& 31)) :: st) S I J Q := tr_ishr (by decide +kernel)
theorem r109_3 : am_T d 109 3 ls st S I J Q = am_T d 109 4 ls (.int 1 :: st) S I J Q := tr_iconst (m := 1) (by decide +kernel) (by decide)
theorem r109_4 : am_T d 109 4 ls (.int x1 :: .int x0 :: st) S I J Q = am_T d 109 5 ls (.int (x0 &&& x1) :: st) S I J Q := tr_iand (by decide +kernel)
theorem r109_5 : am_T d 109 5 ls (.int x0 :: st) S I J Q = if x0 = 0 then am_T d 109 12 ls st S I J Q else am_T d 109 8 ls st S I J Q := tr_ifeq (o := 7) (by decide +kernel) rfl
theorem r109_8 : am_T d 109 8 ls st S I J Q = am_T d 109 9 ls (.int 1 :: st) S I J Q := tr_iconst (m := 1) (by decide +kernel) (by decide)
theorem r109_9 : am_T d 109 9 ls st S I J Q = am_T d 109 13 ls st S I J Q := tr_goto (o := 4) (by decide +kernel) rfl
theorem r109_12 : am_T d 109 12 ls st S I J Q = am_T d 109 13 ls (.int 0 :: st) S I J Q := tr_iconst (m := 0) (by decide +kernel) (by decide)
theorem r109_13 : am_T d 109 13 ls [.int x0] S I J Q = ((x0 = 0 ∨ x0 = 1) ∧ Q (some (.int x0)) S I J) := tr_iretz (by decide +kernel) (by decide +kernel)
-- 110 Fin.isAllowed(II)Z; heads []
theorem e110 : am_C (d + 1) 110 [.int x0, .int x1] S I J Q = am_T d 110 0 [some (.int x0), some (.int x1)] [] S I J Q := tr_en (Nat.le_of_ble_eq_true rfl) rfl
theorem r110_0 : am_T d 110 0 [some (.int x0), l1] st S I J Q = am_T d 110 1 [some (.int x0), l1] (.int x0 :: st) S I J Q := tr_iload_n (m := 0) (by decide +kernel) rfl
theorem r110_1 : am_T d 110 1 [l0, some (.int x0)] st S I J Q = am_T d 110 2 [l0, some (.int x0)] (.int x0 :: st) S I J Q := tr_iload_n (m := 1) (by decide +kernel) rfl
theorem r110_2 : am_T d 110 2 ls (.int x1 :: .int x0 :: st) S I J Q = am_T d 110 3 ls (.int (am_ush x0 x1) :: st) S I J Q := tr_iushr (by decide +kernel)
theorem r110_3 : am_T d 110 3 ls st S I J Q = am_T d 110 4 ls (.int 1 :: st) S I J Q := tr_iconst (m := 1) (by decide +kernel) (by decide)
theorem r110_4 : am_T d 110 4 ls (.int x1 :: .int x0 :: st) S I J Q = am_T d 110 5 ls (.int (x0 &&& x1) :: st) S I J Q := tr_iand (by decide +kernel)
theorem r110_5 : am_T d 110 5 ls (.int x0 :: st) S I J Q = if x0 = 0 then am_T d 110 12 ls st S I J Q else am_T d 110 8 ls st S I J Q := tr_ifeq (o := 7) (by decide +kernel) rfl
theorem r110_8 : am_T d 110 8 ls st S I J Q = am_T d 110 9 ls (.int 1 :: st) S I J Q := tr_iconst (m := 1) (by decide +kernel) (by decide)
theorem r110_9 : am_T d 110 9 ls st S I J Q = am_T d 110 13 ls st S I J Q := tr_goto (o := 4) (by decide +kernel) rfl
theorem r110_12 : am_T d 110 12 ls st S I J Q = am_T d 110 13 ls (.int 0 :: st) S I J Q := tr_iconst (m := 0) (by decide +kernel) (by decide)
theorem r110_13 : am_T d 110 13 ls [.int x0] S I J Q = ((x0 = 0 ∨ x0 = 1) ∧ Q (some (.int x0)) S I J) := tr_iretz (by decide +kernel) (by decide +kernel)
end RU
