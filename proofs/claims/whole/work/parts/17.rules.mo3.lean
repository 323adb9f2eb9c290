section RU
variable {d : Nat} {ls : am_L} {l0 l1 l2 l3 l4 l5 l6 l7 : Option Value} {st : List Value} {S : am_S} {I : am_I} {J : am_J} {Q : am_Q} {x0 x1 x2 x3 x4 x5 x10 x11 x12 x13 x14 x15 : Int32} {u0 u1 u2 u3 u10 u11 u12 u13 : Int64} {a0 a1 a2 a3 a4 a10 a11 a12 a13 a14 a15 : Nat}
-- 155 Mod.runs()I; heads []
theorem e155 : am_C (d + 1) 155 [.ref a0] S I J Q = am_T d 155 0 [some (.ref a0)] [] S I J Q := tr_en (Nat.le_of_ble_eq_true rfl) rfl
theorem r155_0 : am_T d 155 0 [some (.ref a0)] st S I J Q = am_T d 155 1 [some (.ref a0)] (.ref a0 :: st) S I J Q := tr_aload_n (m := 0) (by decide +kernel) rfl
theorem r155_1 : am_T d 155 1 ls (.ref a0 :: st) S I J Q = (am_is S a0 9 ∧ am_T d 155 4 ls (.int (I a0 5) :: st) S I J Q) := tr_geti (k := 159) (by decide +kernel) (by decide +kernel) (Or.inl (by decide +kernel))
theorem r155_4 : am_T d 155 4 ls [.int x0] S I J Q = Q (some (.int x0)) S I J := tr_ireti (by decide +kernel) (by decide +kernel)
-- 156 Mod.reuses()I; heads []
theorem e156 : am_C (d + 1) 156 [.ref a0] S I J Q = am_T d 156 0 [some (.ref a0)] [] S I J Q := tr_en (Nat.le_of_ble_eq_true rfl) rfl
theorem r156_0 : am_T d 156 0 [some (.ref a0)] st S I J Q = am_T d 156 1 [some (.ref a0)] (.ref a0 :: st) S I J Q := tr_aload_n (m := 0) (by decide +kernel) rfl
theorem r156_1 : am_T d 156 1 ls (.ref a0 :: st) S I J Q = (am_is S a0 9 ∧ am_T d 156 4 ls (.int (I a0 6) :: st) S I J Q) := tr_geti (k := 68) (by decide +kernel) (by decide +kernel) (Or.inl (by decide +kernel))
theorem r156_4 : am_T d 156 4 ls [.int x0] S I J Q = Q (some (.int x0)) S I J := tr_ireti (by decide +kernel) (by decide +kernel)
-- 157 Mod.costOfRecord()I; heads [4]
theorem e157 : am_C (d + 1) 157 [.ref a0] S I J Q = am_T d 157 0 [some (.ref a0), none, none] [] S I J Q := tr_en (Nat.le_of_ble_eq_true rfl) rfl
theorem r157_0 : am_T d 157 0 ls st S I J Q = am_T d 157 1 ls (.int 0 :: st) S I J Q := tr_iconst (m := 0) (by decide +kernel) (by decide)
theorem r157_1 : am_T d 157 1 [l0, l1, l2] (.int x0 :: st) S I J Q = am_T d 157 2 [am_clr l0, some (.int x0), l2] st S I J Q := tr_istore_n (m := 1) (by decide +kernel) (Nat.le_of_ble_eq_true rfl) rfl
theorem r157_2 : am_T d 157 2 ls st S I J Q = am_T d 157 3 ls (.int 0 :: st) S I J Q := tr_iconst (m := 0) (by decide +kernel) (by decide)
theorem r157_3 : am_T d 157 3 [l0, l1, l2] (.int x0 :: st) S I J Q = am_T d 157 4 [l0, am_clr l1, some (.int x0)] st S I J Q := tr_istore_n (m := 2) (by decide +kernel) (Nat.le_of_ble_eq_true rfl) rfl
theorem r157_4 : am_T d 157 4 [l0, l1, some (.int x0)] st S I J Q = am_T d 157 5 [l0, l1, some (.int x0)] (.int x0 :: st) S I J Q := tr_iload_n (m := 2) (by decide +kernel) rfl
theorem r157_5 : am_T d 157 5 [some (.ref a0), l1, l2] st S I J Q = am_T d 157 6 [some (.ref a0), l1, l2] (.ref a0 :: st) S I J Q := tr_aload_n (m := 0) (by decide +kernel) rfl
theorem r157_6 : am_T d 157 6 ls (.ref a0 :: st) S I J Q = ((am_is S a0 9 ∧ am_rf S a0 0 ≠ 0) ∧ am_T d 157 9 ls (.ref (am_rf S a0 0) :: st) S I J Q) := tr_geta (k := 7) (by decide +kernel) (by decide +kernel) (by decide +kernel)
theorem r157_9 : am_T d 157 9 ls st S I J Q = am_T d 157 10 ls (.int 0 :: st) S I J Q := tr_iconst (m := 0) (by decide +kernel) (by decide)
theorem r157_10 : am_T d 157 10 ls (.int x0 :: .ref a0 :: st) S I J Q = (am_ix S a0 20 x0 ∧ am_T d 157 11 ls (.int (I a0 x0.toNatClampNeg) :: st) S I J Q) := tr_iald (by decide +kernel)
theorem r157_11 : am_T d 157 11 ls (.int x1 :: .int x0 :: st) S I J Q = if x1 ≤ x0 then am_T d 157 55 ls st S I J Q else am_T d 157 14 ls st S I J Q := tr_icmpge (o := 44) (by decide +kernel) rfl
theorem r157_14 : am_T d 157 14 [l0, some (.int x0), l2] st S I J Q = am_T d 157 15 [l0, some (.int x0), l2] (.int x0 :: st) S I J Q := tr_iload_n (m := 1) (by decide +kernel) rfl
theorem r157_15 : am_T d 157 15 [l0, l1, some (.int x0)] st S I J Q = am_T d 157 16 [l0, l1, some (.int x0)] (.int x0 :: st) S I J Q := tr_iload_n (m := 2) (by decide +kernel) rfl
theorem r157_16 : am_T d 157 16 [some (.ref a0), l1, l2] st S I J Q = am_T d 157 17 [some (.ref a0), l1, l2] (.ref a0 :: st) S I J Q := tr_aload_n (m := 0) (by decide +kernel) rfl
theorem r157_17 : am_T d 157 17 ls (.ref a0 :: st) S I J Q = ((am_is S a0 9 ∧ am_rf S a0 0 ≠ 0) ∧ am_T d 157 20 ls (.ref (am_rf S a0 0) :: st) S I J Q) := tr_geta (k := 7) (by decide +kernel) (by decide +kernel) (by decide +kernel)
theorem r157_20 : am_T d 157 20 ls st S I J Q = am_T d 157 21 ls (.int 1 :: st) S I J Q := tr_iconst (m := 1) (by decide +kernel) (by decide)
theorem r157_21 : am_T d 157 21 ls (.int x0 :: .ref a0 :: st) S I J Q = (am_ix S a0 20 x0 ∧ am_T d 157 22 ls (.int (I a0 x0.toNatClampNeg) :: st) S I J Q) := tr_iald (by decide +kernel)
theorem r157_22 : am_T d 157 22 ls (.int x1 :: .int x0 :: st) S I J Q = if x0 = x1 then am_T d 157 25 ls st S I J Q else am_T d 157 29 ls st S I J Q := tr_icmpne (o := 7) (by decide +kernel) rfl
theorem r157_25 : am_T d 157 25 ls st S I J Q = am_T d 157 26 ls (.int 0 :: st) S I J Q := tr_iconst (m := 0) (by decide +kernel) (by decide)
theorem r157_26 : am_T d 157 26 ls st S I J Q = am_T d 157 47 ls st S I J Q := tr_goto (o := 21) (by decide +kernel) rfl
theorem r157_29 : am_T d 157 29 [some (.ref a0), l1, l2] st S I J Q = am_T d 157 30 [some (.ref a0), l1, l2] (.ref a0 :: st) S I J Q := tr_aload_n (m := 0) (by decide +kernel) rfl
theorem r157_30 : am_T d 157 30 ls (.ref a0 :: st) S I J Q = ((am_is S a0 9 ∧ am_rf S a0 0 ≠ 0) ∧ am_T d 157 33 ls (.ref (am_rf S a0 0) :: st) S I J Q) := tr_geta (k := 7) (by decide +kernel) (by decide +kernel) (by decide +kernel)
theorem r157_33 : am_T d 157 33 ls st S I J Q = am_T d 157 35 ls (.int 67 :: st) S I J Q := tr_bipush (m := 67) (by decide +kernel) (by decide)
theorem r157_35 : am_T d 157 35 [some (.ref a0), l1, l2] st S I J Q = am_T d 157 36 [some (.ref a0), l1, l2] (.ref a0 :: st) S I J Q := tr_aload_n (m := 0) (by decide +kernel) rfl
theorem r157_36 : am_T d 157 36 ls (.ref a0 :: st) S I J Q = ((am_is S a0 9 ∧ am_rf S a0 0 ≠ 0) ∧ am_T d 157 39 ls (.ref (am_rf S a0 0) :: st) S I J Q) := tr_geta (k := 7) (by decide +kernel) (by decide +kernel) (by decide +kernel)
theorem r157_39 : am_T d 157 39 ls st S I J Q = am_T d 157 42 ls (.int 157 :: st) S I J Q := tr_sipush (m := 157) (by decide +kernel) (by decide)
theorem r157_42 : am_T d 157 42 [l0, l1, some (.int x0)] st S I J Q = am_T d 157 43 [l0, l1, some (.int x0)] (.int x0 :: st) S I J Q := tr_iload_n (m := 2) (by decide +kernel) rfl
theorem r157_43 : am_T d 157 43 ls (.int x1 :: .int x0 :: st) S I J Q = am_T d 157 44 ls (.int (x0 + x1) :: st) S I J Q := tr_iadd (by decide +kernel)
theorem r157_44 : am_T d 157 44 ls (.int x0 :: .ref a0 :: st) S I J Q = (am_ix S a0 20 x0 ∧ am_T d 157 45 ls (.int (I a0 x0.toNatClampNeg) :: st) S I J Q) := tr_iald (by decide +kernel)
theorem r157_45 : am_T d 157 45 ls (.int x1 :: .int x0 :: st) S I J Q = am_T d 157 46 ls (.int (x0 + x1) :: st) S I J Q := tr_iadd (by decide +kernel)
theorem r157_46 : am_T d 157 46 ls (.int x0 :: .ref a0 :: st) S I J Q = (am_ix S a0 20 x0 ∧ am_T d 157 47 ls (.int (I a0 x0.toNatClampNeg) :: st) S I J Q) := tr_iald (by decide +kernel)
theorem r157_47 : am_T d 157 47 ls (.int x1 :: .int x0 :: st) S I J Q = am_T d 157 48 ls (.int (x0 + x1) :: st) S I J Q := tr_iadd (by decide +kernel)
theorem r157_48 : am_T d 157 48 [l0, l1, l2] (.int x0 :: st) S I J Q = am_T d 157 49 [am_clr l0, some (.int x0), l2] st S I J Q := tr_istore_n (m := 1) (by decide +kernel) (Nat.le_of_ble_eq_true rfl) rfl
theorem r157_49 : am_T d 157 49 [l0, l1, some (.int x0)] st S I J Q = am_T d 157 52 [l0, am_clr l1, some (.int (x0 + 1))] st S I J Q := tr_iinc (k := 2) (m := 1) (by decide +kernel) rfl (Nat.le_of_ble_eq_true rfl) (by decide) rfl
theorem r157_52 : am_T d 157 52 ls st S I J Q = am_T d 157 4 ls st S I J Q := tr_goto (o := -48) (by decide +kernel) rfl
theorem r157_55 : am_T d 157 55 [l0, some (.int x0), l2] st S I J Q = am_T d 157 56 [l0, some (.int x0), l2] (.int x0 :: st) S I J Q := tr_iload_n (m := 1) (by decide +kernel) rfl
theorem r157_56 : am_T d 157 56 ls [.int x0] S I J Q = Q (some (.int x0)) S I J := tr_ireti (by decide +kernel) (by decide +kernel)
-- 158 Mod.cost()I; heads []
theorem e158 : am_C (d + 1) 158 [.ref a0] S I J Q = am_T d 158 0 [some (.ref a0)] [] S I J Q := tr_en (Nat.le_of_ble_eq_true rfl) rfl
theorem r158_0 : am_T d 158 0 [some (.ref a0)] st S I J Q = am_T d 158 1 [some (.ref a0)] (.ref a0 :: st) S I J Q := tr_aload_n (m := 0) (by decide +kernel) rfl
theorem r158_1 : am_T d 158 1 ls [.ref a0] S I J Q = (am_is S a0 9 ∧ am_C d 152 [.ref a0] S I J (fun r S I J => am_T d 158 4 ls (am_psh r []) S I J Q)) := tr_virt (k := 169) (by decide +kernel) (by decide +kernel) rfl rfl (Nat.le_of_ble_eq_true rfl) (by decide +kernel)
theorem r158_4 : am_T d 158 4 ls (.int x0 :: st) S I J Q = if x0 = 0 then am_T d 158 14 ls st S I J Q else am_T d 158 7 ls st S I J Q := tr_ifeq (o := 10) (by decide +kernel) rfl
theorem r158_7 : am_T d 158 7 [some (.ref a0)] st S I J Q = am_T d 158 8 [some (.ref a0)] (.ref a0 :: st) S I J Q := tr_aload_n (m := 0) (by decide +kernel) rfl
theorem r158_8 : am_T d 158 8 ls [.ref a0] S I J Q = (am_is S a0 9 ∧ am_C d 157 [.ref a0] S I J (fun r S I J => am_T d 158 11 ls (am_psh r []) S I J Q)) := tr_virt (k := 172) (by decide +kernel) (by decide +kernel) rfl rfl (Nat.le_of_ble_eq_true rfl) (by decide +kernel)
theorem r158_11 : am_T d 158 11 ls st S I J Q = am_T d 158 16 ls st S I J Q := tr_goto (o := 5) (by decide +kernel) rfl
theorem r158_14 : am_T d 158 14 ls st S I J Q = am_T d 158 16 ls (.int (-106) :: st) S I J Q := tr_bipush (m := -106) (by decide +kernel) (by decide)
theorem r158_16 : am_T d 158 16 ls [.int x0] S I J Q = Q (some (.int x0)) S I J := tr_ireti (by decide +kernel) (by decide +kernel)
-- 159 Mod.enteringArc(I)I; heads []
theorem e159 : am_C (d + 1) 159 [.ref a0, .int x1] S I J Q = am_T d 159 0 [some (.ref a0), some (.int x1)] [] S I J Q := tr_en (Nat.le_of_ble_eq_true rfl) rfl
theorem r159_0 : am_T d 159 0 [some (.ref a0), l1] st S I J Q = am_T d 159 1 [some (.ref a0), l1] (.ref a0 :: st) S I J Q := tr_aload_n (m := 0) (by decide +kernel) rfl
theorem r159_1 : am_T d 159 1 [l0, some (.int x0)] st S I J Q = am_T d 159 2 [l0, some (.int x0)] (.int x0 :: st) S I J Q := tr_iload_n (m := 1) (by decide +kernel) rfl
theorem r159_2 : am_T d 159 2 ls [.int x1, .ref a0] S I J Q = (am_is S a0 9 ∧ am_C d 113 [.ref a0, .int x1] S I J (fun r S I J => am_T d 159 5 ls (am_psh r []) S I J Q)) := tr_virt (k := 74) (by decide +kernel) (by decide +kernel) rfl rfl (Nat.le_of_ble_eq_true rfl) (by decide +kernel)
theorem r159_5 : am_T d 159 5 ls (.int x0 :: st) S I J Q = if x0 = 0 then am_T d 159 8 ls st S I J Q else am_T d 159 11 ls st S I J Q := tr_ifne (o := 6) (by decide +kernel) rfl
theorem r159_8 : am_T d 159 8 ls st S I J Q = am_T d 159 10 ls (.int (-101) :: st) S I J Q := tr_bipush (m := -101) (by decide +kernel) (by decide)
theorem r159_10 : am_T d 159 10 ls [.int x0] S I J Q = Q (some (.int x0)) S I J := tr_ireti (by decide +kernel) (by decide +kernel)
theorem r159_11 : am_T d 159 11 [some (.ref a0), l1] st S I J Q = am_T d 159 12 [some (.ref a0), l1] (.ref a0 :: st) S I J Q := tr_aload_n (m := 0) (by decide +kernel) rfl
theorem r159_12 : am_T d 159 12 ls [.ref a0] S I J Q = (am_is S a0 9 ∧ am_C d 152 [.ref a0] S I J (fun r S I J => am_T d 159 15 ls (am_psh r []) S I J Q)) := tr_virt (k := 169) (by decide +kernel) (by decide +kernel) rfl rfl (Nat.le_of_ble_eq_true rfl) (by decide +kernel)
theorem r159_15 : am_T d 159 15 ls (.int x0 :: st) S I J Q = if x0 = 0 then am_T d 159 31 ls st S I J Q else am_T d 159 18 ls st S I J Q := tr_ifeq (o := 16) (by decide +kernel) rfl
theorem r159_18 : am_T d 159 18 [some (.ref a0), l1] st S I J Q = am_T d 159 19 [some (.ref a0), l1] (.ref a0 :: st) S I J Q := tr_aload_n (m := 0) (by decide +kernel) rfl
theorem r159_19 : am_T d 159 19 ls (.ref a0 :: st) S I J Q = ((am_is S a0 9 ∧ am_rf S a0 0 ≠ 0) ∧ am_T d 159 22 ls (.ref (am_rf S a0 0) :: st) S I J Q) := tr_geta (k := 7) (by decide +kernel) (by decide +kernel) (by decide +kernel)
theorem r159_22 : am_T d 159 22 ls st S I J Q = am_T d 159 25 ls (.int 157 :: st) S I J Q := tr_sipush (m := 157) (by decide +kernel) (by decide)
theorem r159_25 : am_T d 159 25 [l0, some (.int x0)] st S I J Q = am_T d 159 26 [l0, some (.int x0)] (.int x0 :: st) S I J Q := tr_iload_n (m := 1) (by decide +kernel) rfl
theorem r159_26 : am_T d 159 26 ls (.int x1 :: .int x0 :: st) S I J Q = am_T d 159 27 ls (.int (x0 + x1) :: st) S I J Q := tr_iadd (by decide +kernel)
theorem r159_27 : am_T d 159 27 ls (.int x0 :: .ref a0 :: st) S I J Q = (am_ix S a0 20 x0 ∧ am_T d 159 28 ls (.int (I a0 x0.toNatClampNeg) :: st) S I J Q) := tr_iald (by decide +kernel)
theorem r159_28 : am_T d 159 28 ls st S I J Q = am_T d 159 33 ls st S I J Q := tr_goto (o := 5) (by decide +kernel) rfl
theorem r159_31 : am_T d 159 31 ls st S I J Q = am_T d 159 33 ls (.int (-106) :: st) S I J Q := tr_bipush (m := -106) (by decide +kernel) (by decide)
theorem r159_33 : am_T d 159 33 ls [.int x0] S I J Q = Q (some (.int x0)) S I J := tr_ireti (by decide +kernel) (by decide +kernel)
-- 160 Mod.outDegree(I)I; heads [25]
theorem e160 : am_C (d + 1) 160 [.ref a0, .int x1] S I J Q = am_T d 160 0 [some (.ref a0), some (.int x1), none, none] [] S I J Q := tr_en (Nat.le_of_ble_eq_true rfl) rfl
theorem r160_0 : am_T d 160 0 [some (.ref a0), l1, l2, l3] st S I J Q = am_T d 160 1 [some (.ref a0), l1, l2, l3] (.ref a0 :: st) S I J Q := tr_aload_n (m := 0) (by decide +kernel) rfl
theorem r160_1 : am_T d 160 1 [l0, some (.int x0), l2, l3] st S I J Q = am_T d 160 2 [l0, some (.int x0), l2, l3] (.int x0 :: st) S I J Q := tr_iload_n (m := 1) (by decide +kernel) rfl
theorem r160_2 : am_T d 160 2 ls [.int x1, .ref a0] S I J Q = (am_is S a0 9 ∧ am_C d 113 [.ref a0, .int x1] S I J (fun r S I J => am_T d 160 5 ls (am_psh r []) S I J Q)) := tr_virt (k := 74) (by decide +kernel) (by decide +kernel) rfl rfl (Nat.le_of_ble_eq_true rfl) (by decide +kernel)
theorem r160_5 : am_T d 160 5 ls (.int x0 :: st) S I J Q = if x0 = 0 then am_T d 160 8 ls st S I J Q else am_T d 160 11 ls st S I J Q := tr_ifne (o := 6) (by decide +kernel) rfl
theorem r160_8 : am_T d 160 8 ls st S I J Q = am_T d 160 10 ls (.int (-101) :: st) S I J Q := tr_bipush (m := -101) (by decide +kernel) (by decide)
theorem r160_10 : am_T d 160 10 ls [.int x0] S I J Q = Q (some (.int x0)) S I J := tr_ireti (by decide +kernel) (by decide +kernel)
theorem r160_11 : am_T d 160 11 [some (.ref a0), l1, l2, l3] st S I J Q = am_T d 160 12 [some (.ref a0), l1, l2, l3] (.ref a0 :: st) S I J Q := tr_aload_n (m := 0) (by decide +kernel) rfl
theorem r160_12 : am_T d 160 12 ls [.ref a0] S I J Q = (am_is S a0 9 ∧ am_C d 152 [.ref a0] S I J (fun r S I J => am_T d 160 15 ls (am_psh r []) S I J Q)) := tr_virt (k := 169) (by decide +kernel) (by decide +kernel) rfl rfl (Nat.le_of_ble_eq_true rfl) (by decide +kernel)
theorem r160_15 : am_T d 160 15 ls (.int x0 :: st) S I J Q = if x0 = 0 then am_T d 160 18 ls st S I J Q else am_T d 160 21 ls st S I J Q := tr_ifne (o := 6) (by decide +kernel) rfl
theorem r160_18 : am_T d 160 18 ls st S I J Q = am_T d 160 20 ls (.int (-106) :: st) S I J Q := tr_bipush (m := -106) (by decide +kernel) (by decide)
theorem r160_20 : am_T d 160 20 ls [.int x0] S I J Q = Q (some (.int x0)) S I J := tr_ireti (by decide +kernel) (by decide +kernel)
theorem r160_21 : am_T d 160 21 ls st S I J Q = am_T d 160 22 ls (.int 0 :: st) S I J Q := tr_iconst (m := 0) (by decide +kernel) (by decide)
theorem r160_22 : am_T d 160 22 [l0, l1, l2, l3] (.int x0 :: st) S I J Q = am_T d 160 23 [l0, am_clr l1, some (.int x0), l3] st S I J Q := tr_istore_n (m := 2) (by decide +kernel) (Nat.le_of_ble_eq_true rfl) rfl
theorem r160_23 : am_T d 160 23 ls st S I J Q = am_T d 160 24 ls (.int 0 :: st) S I J Q := tr_iconst (m := 0) (by decide +kernel) (by decide)
theorem r160_24 : am_T d 160 24 [l0, l1, l2, l3] (.int x0 :: st) S I J Q = am_T d 160 25 [l0, l1, am_clr l2, some (.int x0)] st S I J Q := tr_istore_n (m := 3) (by decide +kernel) (Nat.le_of_ble_eq_true rfl) rfl
theorem r160_25 : am_T d 160 25 [l0, l1, l2, some (.int x0)] st S I J Q = am_T d 160 26 [l0, l1, l2, some (.int x0)] (.int x0 :: st) S I J Q := tr_iload_n (m := 3) (by decide +kernel) rfl
theorem r160_26 : am_T d 160 26 [some (.ref a0), l1, l2, l3] st S I J Q = am_T d 160 27 [some (.ref a0), l1, l2, l3] (.ref a0 :: st) S I J Q := tr_aload_n (m := 0) (by decide +kernel) rfl
theorem r160_27 : am_T d 160 27 ls (.ref a0 :: st) S I J Q = ((am_is S a0 9 ∧ am_rf S a0 0 ≠ 0) ∧ am_T d 160 30 ls (.ref (am_rf S a0 0) :: st) S I J Q) := tr_geta (k := 7) (by decide +kernel) (by decide +kernel) (by decide +kernel)
theorem r160_30 : am_T d 160 30 ls st S I J Q = am_T d 160 31 ls (.int 0 :: st) S I J Q := tr_iconst (m := 0) (by decide +kernel) (by decide)
theorem r160_31 : am_T d 160 31 ls (.int x0 :: .ref a0 :: st) S I J Q = (am_ix S a0 20 x0 ∧ am_T d 160 32 ls (.int (I a0 x0.toNatClampNeg) :: st) S I J Q) := tr_iald (by decide +kernel)
theorem r160_32 : am_T d 160 32 ls (.int x1 :: .int x0 :: st) S I J Q = if x1 ≤ x0 then am_T d 160 80 ls st S I J Q else am_T d 160 35 ls st S I J Q := tr_icmpge (o := 48) (by decide +kernel) rfl
theorem r160_35 : am_T d 160 35 [l0, l1, some (.int x0), l3] st S I J Q = am_T d 160 36 [l0, l1, some (.int x0), l3] (.int x0 :: st) S I J Q := tr_iload_n (m := 2) (by decide +kernel) rfl
theorem r160_36 : am_T d 160 36 [l0, l1, l2, some (.int x0)] st S I J Q = am_T d 160 37 [l0, l1, l2, some (.int x0)] (.int x0 :: st) S I J Q := tr_iload_n (m := 3) (by decide +kernel) rfl
theorem r160_37 : am_T d 160 37 [some (.ref a0), l1, l2, l3] st S I J Q = am_T d 160 38 [some (.ref a0), l1, l2, l3] (.ref a0 :: st) S I J Q := tr_aload_n (m := 0) (by decide +kernel) rfl
theorem r160_38 : am_T d 160 38 ls (.ref a0 :: st) S I J Q = ((am_is S a0 9 ∧ am_rf S a0 0 ≠ 0) ∧ am_T d 160 41 ls (.ref (am_rf S a0 0) :: st) S I J Q) := tr_geta (k := 7) (by decide +kernel) (by decide +kernel) (by decide +kernel)
theorem r160_41 : am_T d 160 41 ls st S I J Q = am_T d 160 42 ls (.int 1 :: st) S I J Q := tr_iconst (m := 1) (by decide +kernel) (by decide)
theorem r160_42 : am_T d 160 42 ls (.int x0 :: .ref a0 :: st) S I J Q = (am_ix S a0 20 x0 ∧ am_T d 160 43 ls (.int (I a0 x0.toNatClampNeg) :: st) S I J Q) := tr_iald (by decide +kernel)
theorem r160_43 : am_T d 160 43 ls (.int x1 :: .int x0 :: st) S I J Q = if x0 = x1 then am_T d 160 71 ls st S I J Q else am_T d 160 46 ls st S I J Q := tr_icmpeq (o := 28) (by decide +kernel) rfl
theorem r160_46 : am_T d 160 46 [some (.ref a0), l1, l2, l3] st S I J Q = am_T d 160 47 [some (.ref a0), l1, l2, l3] (.ref a0 :: st) S I J Q := tr_aload_n (m := 0) (by decide +kernel) rfl
theorem r160_47 : am_T d 160 47 ls (.ref a0 :: st) S I J Q = ((am_is S a0 9 ∧ am_rf S a0 0 ≠ 0) ∧ am_T d 160 50 ls (.ref (am_rf S a0 0) :: st) S I J Q) := tr_geta (k := 7) (by decide +kernel) (by decide +kernel) (by decide +kernel)
theorem r160_50 : am_T d 160 50 ls st S I J Q = am_T d 160 51 ls (.int 3 :: st) S I J Q := tr_iconst (m := 3) (by decide +kernel) (by decide)
theorem r160_51 : am_T d 160 51 [some (.ref a0), l1, l2, l3] st S I J Q = am_T d 160 52 [some (.ref a0), l1, l2, l3] (.ref a0 :: st) S I J Q := tr_aload_n (m := 0) (by decide +kernel) rfl
theorem r160_52 : am_T d 160 52 ls (.ref a0 :: st) S I J Q = ((am_is S a0 9 ∧ am_rf S a0 0 ≠ 0) ∧ am_T d 160 55 ls (.ref (am_rf S a0 0) :: st) S I J Q) := tr_geta (k := 7) (by decide +kernel) (by decide +kernel) (by decide +kernel)
theorem r160_55 : am_T d 160 55 ls st S I J Q = am_T d 160 58 ls (.int 157 :: st) S I J Q := tr_sipush (m := 157) (by decide +kernel) (by decide)
theorem r160_58 : am_T d 160 58 [l0, l1, l2, some (.int x0)] st S I J Q = am_T d 160 59 [l0, l1, l2, some (.int x0)] (.int x0 :: st) S I J Q := tr_iload_n (m := 3) (by decide +kernel) rfl
theorem r160_59 : am_T d 160 59 ls (.int x1 :: .int x0 :: st) S I J Q = am_T d 160 60 ls (.int (x0 + x1) :: st) S I J Q := tr_iadd (by decide +kernel)
theorem r160_60 : am_T d 160 60 ls (.int x0 :: .ref a0 :: st) S I J Q = (am_ix S a0 20 x0 ∧ am_T d 160 61 ls (.int (I a0 x0.toNatClampNeg) :: st) S I J Q) := tr_iald (by decide +kernel)
theorem r160_61 : am_T d 160 61 ls (.int x1 :: .int x0 :: st) S I J Q = am_T d 160 62 ls (.int (x0 + x1) :: st) S I J Q := tr_iadd (by decide +kernel)
theorem r160_62 : am_T d 160 62 ls (.int x0 :: .ref a0 :: st) S I J Q = (am_ix S a0 20 x0 ∧ am_T d 160 63 ls (.int (I a0 x0.toNatClampNeg) :: st) S I J Q) := tr_iald (by decide +kernel)
theorem r160_63 : am_T d 160 63 [l0, some (.int x0), l2, l3] st S I J Q = am_T d 160 64 [l0, some (.int x0), l2, l3] (.int x0 :: st) S I J Q := tr_iload_n (m := 1) (by decide +kernel) rfl
theorem r160_64 : am_T d 160 64 ls (.int x1 :: .int x0 :: st) S I J Q = if x0 = x1 then am_T d 160 67 ls st S I J Q else am_T d 160 71 ls st S I J Q := tr_icmpne (o := 7) (by decide +kernel) rfl
theorem r160_67 : am_T d 160 67 ls st S I J Q = am_T d 160 68 ls (.int 1 :: st) S I J Q := tr_iconst (m := 1) (by decide +kernel) (by decide)
theorem r160_68 : am_T d 160 68 ls st S I J Q = am_T d 160 72 ls st S I J Q := tr_goto (o := 4) (by decide +kernel) rfl
theorem r160_71 : am_T d 160 71 ls st S I J Q = am_T d 160 72 ls (.int 0 :: st) S I J Q := tr_iconst (m := 0) (by decide +kernel) (by decide)
theorem r160_72 : am_T d 160 72 ls (.int x1 :: .int x0 :: st) S I J Q = am_T d 160 73 ls (.int (x0 + x1) :: st) S I J Q := tr_iadd (by decide +kernel)
theorem r160_73 : am_T d 160 73 [l0, l1, l2, l3] (.int x0 :: st) S I J Q = am_T d 160 74 [l0, am_clr l1, some (.int x0), l3] st S I J Q := tr_istore_n (m := 2) (by decide +kernel) (Nat.le_of_ble_eq_true rfl) rfl
theorem r160_74 : am_T d 160 74 [l0, l1, l2, some (.int x0)] st S I J Q = am_T d 160 77 [l0, l1, am_clr l2, some (.int (x0 + 1))] st S I J Q := tr_iinc (k := 3) (m := 1) (by decide +kernel) rfl (Nat.le_of_ble_eq_true rfl) (by decide) rfl
theorem r160_77 : am_T d 160 77 ls st S I J Q = am_T d 160 25 ls st S I J Q := tr_goto (o := -52) (by decide +kernel) rfl
theorem r160_80 : am_T d 160 80 [l0, l1, some (.int x0), l3] st S I J Q = am_T d 160 81 [l0, l1, some (.int x0), l3] (.int x0 :: st) S I J Q := tr_iload_n (m := 2) (by decide +kernel) rfl
theorem r160_81 : am_T d 160 81 ls [.int x0] S I J Q = Q (some (.int x0)) S I J := tr_ireti (by decide +kernel) (by decide +kernel)
-- 161 Mod.groups()I; heads []
theorem e161 : am_C (d + 1) 161 [.ref a0] S I J Q = am_T d 161 0 [some (.ref a0)] [] S I J Q := tr_en (Nat.le_of_ble_eq_true rfl) rfl
theorem r161_0 : am_T d 161 0 [some (.ref a0)] st S I J Q = am_T d 161 1 [some (.ref a0)] (.ref a0 :: st) S I J Q := tr_aload_n (m := 0) (by decide +kernel) rfl
theorem r161_1 : am_T d 161 1 ls [.ref a0] S I J Q = (am_is S a0 9 ∧ am_C d 152 [.ref a0] S I J (fun r S I J => am_T d 161 4 ls (am_psh r []) S I J Q)) := tr_virt (k := 169) (by decide +kernel) (by decide +kernel) rfl rfl (Nat.le_of_ble_eq_true rfl) (by decide +kernel)
theorem r161_4 : am_T d 161 4 ls (.int x0 :: st) S I J Q = if x0 = 0 then am_T d 161 17 ls st S I J Q else am_T d 161 7 ls st S I J Q := tr_ifeq (o := 13) (by decide +kernel) rfl
theorem r161_7 : am_T d 161 7 [some (.ref a0)] st S I J Q = am_T d 161 8 [some (.ref a0)] (.ref a0 :: st) S I J Q := tr_aload_n (m := 0) (by decide +kernel) rfl
theorem r161_8 : am_T d 161 8 ls (.ref a0 :: st) S I J Q = ((am_is S a0 9 ∧ am_rf S a0 0 ≠ 0) ∧ am_T d 161 11 ls (.ref (am_rf S a0 0) :: st) S I J Q) := tr_geta (k := 7) (by decide +kernel) (by decide +kernel) (by decide +kernel)
theorem r161_11 : am_T d 161 11 ls st S I J Q = am_T d 161 13 ls (.int 108 :: st) S I J Q := tr_bipush (m := 108) (by decide +kernel) (by decide)
theorem r161_13 : am_T d 161 13 ls (.int x0 :: .ref a0 :: st) S I J Q = (am_ix S a0 20 x0 ∧ am_T d 161 14 ls (.int (I a0 x0.toNatClampNeg) :: st) S I J Q) := tr_iald (by decide +kernel)
theorem r161_14 : am_T d 161 14 ls st S I J Q = am_T d 161 19 ls st S I J Q := tr_goto (o := 5) (by decide +kernel) rfl
theorem r161_17 : am_T d 161 17 ls st S I J Q = am_T d 161 19 ls (.int (-106) :: st) S I J Q := tr_bipush (m := -106) (by decide +kernel) (by decide)
theorem r161_19 : am_T d 161 19 ls [.int x0] S I J Q = Q (some (.int x0)) S I J := tr_ireti (by decide +kernel) (by decide +kernel)
-- 162 Mod.group(II)I; heads []
theorem e162 : am_C (d + 1) 162 [.ref a0, .int x1, .int x2] S I J Q = am_T d 162 0 [some (.ref a0), some (.int x1), some (.int x2)] [] S I J Q := tr_en (Nat.le_of_ble_eq_true rfl) rfl
theorem r162_0 : am_T d 162 0 [l0, some (.int x0), l2] st S I J Q = am_T d 162 1 [l0, some (.int x0), l2] (.int x0 :: st) S I J Q := tr_iload_n (m := 1) (by decide +kernel) rfl
theorem r162_1 : am_T d 162 1 ls (.int x0 :: st) S I J Q = if x0 < 0 then am_T d 162 13 ls st S I J Q else am_T d 162 4 ls st S I J Q := tr_iflt (o := 12) (by decide +kernel) rfl
theorem r162_4 : am_T d 162 4 [l0, l1, some (.int x0)] st S I J Q = am_T d 162 5 [l0, l1, some (.int x0)] (.int x0 :: st) S I J Q := tr_iload_n (m := 2) (by decide +kernel) rfl
theorem r162_5 : am_T d 162 5 ls st S I J Q = am_T d 162 6 ls (.int 0 :: st) S I J Q := tr_iconst (m := 0) (by decide +kernel) (by decide)
theorem r162_6 : am_T d 162 6 ls st S I J Q = am_T d 162 7 ls (.int 2 :: st) S I J Q := tr_iconst (m := 2) (by decide +kernel) (by decide)
theorem r162_7 : am_T d 162 7 ls [.int x2, .int x1, .int x0] S I J Q = am_C d 112 [.int x0, .int x1, .int x2] S I J (fun r S I J => am_T d 162 10 ls (am_psh r []) S I J Q) := tr_stat (k := 60) (by decide +kernel) (Or.inl (by decide +kernel)) (Nat.le_of_ble_eq_true rfl) rfl rfl (Nat.le_of_ble_eq_true rfl)
theorem r162_10 : am_T d 162 10 ls (.int x0 :: st) S I J Q = if x0 = 0 then am_T d 162 13 ls st S I J Q else am_T d 162 16 ls st S I J Q := tr_ifne (o := 6) (by decide +kernel) rfl
theorem r162_13 : am_T d 162 13 ls st S I J Q = am_T d 162 15 ls (.int (-103) :: st) S I J Q := tr_bipush (m := -103) (by decide +kernel) (by decide)
theorem r162_15 : am_T d 162 15 ls [.int x0] S I J Q = Q (some (.int x0)) S I J := tr_ireti (by decide +kernel) (by decide +kernel)
theorem r162_16 : am_T d 162 16 [some (.ref a0), l1, l2] st S I J Q = am_T d 162 17 [some (.ref a0), l1, l2] (.ref a0 :: st) S I J Q := tr_aload_n (m := 0) (by decide +kernel) rfl
theorem r162_17 : am_T d 162 17 ls [.ref a0] S I J Q = (am_is S a0 9 ∧ am_C d 152 [.ref a0] S I J (fun r S I J => am_T d 162 20 ls (am_psh r []) S I J Q)) := tr_virt (k := 169) (by decide +kernel) (by decide +kernel) rfl rfl (Nat.le_of_ble_eq_true rfl) (by decide +kernel)
theorem r162_20 : am_T d 162 20 ls (.int x0 :: st) S I J Q = if x0 = 0 then am_T d 162 23 ls st S I J Q else am_T d 162 26 ls st S I J Q := tr_ifne (o := 6) (by decide +kernel) rfl
theorem r162_23 : am_T d 162 23 ls st S I J Q = am_T d 162 25 ls (.int (-106) :: st) S I J Q := tr_bipush (m := -106) (by decide +kernel) (by decide)
theorem r162_25 : am_T d 162 25 ls [.int x0] S I J Q = Q (some (.int x0)) S I J := tr_ireti (by decide +kernel) (by decide +kernel)
theorem r162_26 : am_T d 162 26 [l0, some (.int x0), l2] st S I J Q = am_T d 162 27 [l0, some (.int x0), l2] (.int x0 :: st) S I J Q := tr_iload_n (m := 1) (by decide +kernel) rfl
theorem r162_27 : am_T d 162 27 [some (.ref a0), l1, l2] st S I J Q = am_T d 162 28 [some (.ref a0), l1, l2] (.ref a0 :: st) S I J Q := tr_aload_n (m := 0) (by decide +kernel) rfl
theorem r162_28 : am_T d 162 28 ls (.ref a0 :: st) S I J Q = ((am_is S a0 9 ∧ am_rf S a0 0 ≠ 0) ∧ am_T d 162 31 ls (.ref (am_rf S a0 0) :: st) S I J Q) := tr_geta (k := 7) (by decide +kernel) (by decide +kernel) (by decide +kernel)
theorem r162_31 : am_T d 162 31 ls st S I J Q = am_T d 162 33 ls (.int 108 :: st) S I J Q := tr_bipush (m := 108) (by decide +kernel) (by decide)
theorem r162_33 : am_T d 162 33 ls (.int x0 :: .ref a0 :: st) S I J Q = (am_ix S a0 20 x0 ∧ am_T d 162 34 ls (.int (I a0 x0.toNatClampNeg) :: st) S I J Q) := tr_iald (by decide +kernel)
theorem r162_34 : am_T d 162 34 ls (.int x1 :: .int x0 :: st) S I J Q = if x0 < x1 then am_T d 162 40 ls st S I J Q else am_T d 162 37 ls st S I J Q := tr_icmplt (o := 6) (by decide +kernel) rfl
theorem r162_37 : am_T d 162 37 ls st S I J Q = am_T d 162 39 ls (.int (-107) :: st) S I J Q := tr_bipush (m := -107) (by decide +kernel) (by decide)
theorem r162_39 : am_T d 162 39 ls [.int x0] S I J Q = Q (some (.int x0)) S I J := tr_ireti (by decide +kernel) (by decide +kernel)
theorem r162_40 : am_T d 162 40 [l0, l1, some (.int x0)] st S I J Q = am_T d 162 41 [l0, l1, some (.int x0)] (.int x0 :: st) S I J Q := tr_iload_n (m := 2) (by decide +kernel) rfl
theorem r162_41 : am_T d 162 41 ls (.int x0 :: st) S I J Q = if x0 = 0 then am_T d 162 44 ls st S I J Q else am_T d 162 56 ls st S I J Q := tr_ifne (o := 15) (by decide +kernel) rfl
theorem r162_44 : am_T d 162 44 [some (.ref a0), l1, l2] st S I J Q = am_T d 162 45 [some (.ref a0), l1, l2] (.ref a0 :: st) S I J Q := tr_aload_n (m := 0) (by decide +kernel) rfl
theorem r162_45 : am_T d 162 45 ls (.ref a0 :: st) S I J Q = ((am_is S a0 9 ∧ am_rf S a0 0 ≠ 0) ∧ am_T d 162 48 ls (.ref (am_rf S a0 0) :: st) S I J Q) := tr_geta (k := 7) (by decide +kernel) (by decide +kernel) (by decide +kernel)
theorem r162_48 : am_T d 162 48 ls st S I J Q = am_T d 162 50 ls (.int 109 :: st) S I J Q := tr_bipush (m := 109) (by decide +kernel) (by decide)
theorem r162_50 : am_T d 162 50 [l0, some (.int x0), l2] st S I J Q = am_T d 162 51 [l0, some (.int x0), l2] (.int x0 :: st) S I J Q := tr_iload_n (m := 1) (by decide +kernel) rfl
theorem r162_51 : am_T d 162 51 ls (.int x1 :: .int x0 :: st) S I J Q = am_T d 162 52 ls (.int (x0 + x1) :: st) S I J Q := tr_iadd (by decide +kernel)
theorem r162_52 : am_T d 162 52 ls (.int x0 :: .ref a0 :: st) S I J Q = (am_ix S a0 20 x0 ∧ am_T d 162 53 ls (.int (I a0 x0.toNatClampNeg) :: st) S I J Q) := tr_iald (by decide +kernel)
theorem r162_53 : am_T d 162 53 ls st S I J Q = am_T d 162 83 ls st S I J Q := tr_goto (o := 30) (by decide +kernel) rfl
theorem r162_56 : am_T d 162 56 [l0, l1, some (.int x0)] st S I J Q = am_T d 162 57 [l0, l1, some (.int x0)] (.int x0 :: st) S I J Q := tr_iload_n (m := 2) (by decide +kernel) rfl
theorem r162_57 : am_T d 162 57 ls st S I J Q = am_T d 162 58 ls (.int 1 :: st) S I J Q := tr_iconst (m := 1) (by decide +kernel) (by decide)
theorem r162_58 : am_T d 162 58 ls (.int x1 :: .int x0 :: st) S I J Q = if x0 = x1 then am_T d 162 61 ls st S I J Q else am_T d 162 73 ls st S I J Q := tr_icmpne (o := 15) (by decide +kernel) rfl
theorem r162_61 : am_T d 162 61 [some (.ref a0), l1, l2] st S I J Q = am_T d 162 62 [some (.ref a0), l1, l2] (.ref a0 :: st) S I J Q := tr_aload_n (m := 0) (by decide +kernel) rfl
theorem r162_62 : am_T d 162 62 ls (.ref a0 :: st) S I J Q = ((am_is S a0 9 ∧ am_rf S a0 0 ≠ 0) ∧ am_T d 162 65 ls (.ref (am_rf S a0 0) :: st) S I J Q) := tr_geta (k := 7) (by decide +kernel) (by decide +kernel) (by decide +kernel)
theorem r162_65 : am_T d 162 65 ls st S I J Q = am_T d 162 67 ls (.int 125 :: st) S I J Q := tr_bipush (m := 125) (by decide +kernel) (by decide)
theorem r162_67 : am_T d 162 67 [l0, some (.int x0), l2] st S I J Q = am_T d 162 68 [l0, some (.int x0), l2] (.int x0 :: st) S I J Q := tr_iload_n (m := 1) (by decide +kernel) rfl
theorem r162_68 : am_T d 162 68 ls (.int x1 :: .int x0 :: st) S I J Q = am_T d 162 69 ls (.int (x0 + x1) :: st) S I J Q := tr_iadd (by decide +kernel)
theorem r162_69 : am_T d 162 69 ls (.int x0 :: .ref a0 :: st) S I J Q = (am_ix S a0 20 x0 ∧ am_T d 162 70 ls (.int (I a0 x0.toNatClampNeg) :: st) S I J Q) := tr_iald (by decide +kernel)
theorem r162_70 : am_T d 162 70 ls st S I J Q = am_T d 162 83 ls st S I J Q := tr_goto (o := 13) (by decide +kernel) rfl
theorem r162_73 : am_T d 162 73 [some (.ref a0), l1, l2] st S I J Q = am_T d 162 74 [some (.ref a0), l1, l2] (.ref a0 :: st) S I J Q := tr_aload_n (m := 0) (by decide +kernel) rfl
theorem r162_74 : am_T d 162 74 ls (.ref a0 :: st) S I J Q = ((am_is S a0 9 ∧ am_rf S a0 0 ≠ 0) ∧ am_T d 162 77 ls (.ref (am_rf S a0 0) :: st) S I J Q) := tr_geta (k := 7) (by decide +kernel) (by decide +kernel) (by decide +kernel)
theorem r162_77 : am_T d 162 77 ls st S I J Q = am_T d 162 80 ls (.int 141 :: st) S I J Q := tr_sipush (m := 141) (by decide +kernel) (by decide)
theorem r162_80 : am_T d 162 80 [l0, some (.int x0), l2] st S I J Q = am_T d 162 81 [l0, some (.int x0), l2] (.int x0 :: st) S I J Q := tr_iload_n (m := 1) (by decide +kernel) rfl
theorem r162_81 : am_T d 162 81 ls (.int x1 :: .int x0 :: st) S I J Q = am_T d 162 82 ls (.int (x0 + x1) :: st) S I J Q := tr_iadd (by decide +kernel)
theorem r162_82 : am_T d 162 82 ls (.int x0 :: .ref a0 :: st) S I J Q = (am_ix S a0 20 x0 ∧ am_T d 162 83 ls (.int (I a0 x0.toNatClampNeg) :: st) S I J Q) := tr_iald (by decide +kernel)
theorem r162_83 : am_T d 162 83 ls [.int x0] S I J Q = Q (some (.int x0)) S I J := tr_ireti (by decide +kernel) (by decide +kernel)
-- 163 Mod.reducedCost(I)I; heads []
theorem e163 : am_C (d + 1) 163 [.ref a0, .int x1] S I J Q = am_T d 163 0 [some (.ref a0), some (.int x1)] [] S I J Q := tr_en (Nat.le_of_ble_eq_true rfl) rfl
theorem r163_0 : am_T d 163 0 [some (.ref a0), l1] st S I J Q = am_T d 163 1 [some (.ref a0), l1] (.ref a0 :: st) S I J Q := tr_aload_n (m := 0) (by decide +kernel) rfl
theorem r163_1 : am_T d 163 1 [l0, some (.int x0)] st S I J Q = am_T d 163 2 [l0, some (.int x0)] (.int x0 :: st) S I J Q := tr_iload_n (m := 1) (by decide +kernel) rfl
theorem r163_2 : am_T d 163 2 ls [.int x1, .ref a0] S I J Q = (am_is S a0 9 ∧ am_C d 114 [.ref a0, .int x1] S I J (fun r S I J => am_T d 163 5 ls (am_psh r []) S I J Q)) := tr_virt (k := 90) (by decide +kernel) (by decide +kernel) rfl rfl (Nat.le_of_ble_eq_true rfl) (by decide +kernel)
theorem r163_5 : am_T d 163 5 ls (.int x0 :: st) S I J Q = if x0 = 0 then am_T d 163 8 ls st S I J Q else am_T d 163 11 ls st S I J Q := tr_ifne (o := 6) (by decide +kernel) rfl
theorem r163_8 : am_T d 163 8 ls st S I J Q = am_T d 163 10 ls (.int (-102) :: st) S I J Q := tr_bipush (m := -102) (by decide +kernel) (by decide)
theorem r163_10 : am_T d 163 10 ls [.int x0] S I J Q = Q (some (.int x0)) S I J := tr_ireti (by decide +kernel) (by decide +kernel)
theorem r163_11 : am_T d 163 11 [some (.ref a0), l1] st S I J Q = am_T d 163 12 [some (.ref a0), l1] (.ref a0 :: st) S I J Q := tr_aload_n (m := 0) (by decide +kernel) rfl
theorem r163_12 : am_T d 163 12 ls [.ref a0] S I J Q = (am_is S a0 9 ∧ am_C d 152 [.ref a0] S I J (fun r S I J => am_T d 163 15 ls (am_psh r []) S I J Q)) := tr_virt (k := 169) (by decide +kernel) (by decide +kernel) rfl rfl (Nat.le_of_ble_eq_true rfl) (by decide +kernel)
theorem r163_15 : am_T d 163 15 ls (.int x0 :: st) S I J Q = if x0 = 0 then am_T d 163 26 ls st S I J Q else am_T d 163 18 ls st S I J Q := tr_ifeq (o := 11) (by decide +kernel) rfl
theorem r163_18 : am_T d 163 18 [some (.ref a0), l1] st S I J Q = am_T d 163 19 [some (.ref a0), l1] (.ref a0 :: st) S I J Q := tr_aload_n (m := 0) (by decide +kernel) rfl
theorem r163_19 : am_T d 163 19 [l0, some (.int x0)] st S I J Q = am_T d 163 20 [l0, some (.int x0)] (.int x0 :: st) S I J Q := tr_iload_n (m := 1) (by decide +kernel) rfl
theorem r163_20 : am_T d 163 20 ls [.int x1, .ref a0] S I J Q = (am_is S a0 9 ∧ am_C d 153 [.ref a0, .int x1] S I J (fun r S I J => am_T d 163 23 ls (am_psh r []) S I J Q)) := tr_virt (k := 82) (by decide +kernel) (by decide +kernel) rfl rfl (Nat.le_of_ble_eq_true rfl) (by decide +kernel)
theorem r163_23 : am_T d 163 23 ls st S I J Q = am_T d 163 28 ls st S I J Q := tr_goto (o := 5) (by decide +kernel) rfl
theorem r163_26 : am_T d 163 26 ls st S I J Q = am_T d 163 28 ls (.int (-106) :: st) S I J Q := tr_bipush (m := -106) (by decide +kernel) (by decide)
theorem r163_28 : am_T d 163 28 ls [.int x0] S I J Q = Q (some (.int x0)) S I J := tr_ireti (by decide +kernel) (by decide +kernel)
-- 164 Mod.without(I)I; heads []
theorem e164 : am_C (d + 1) 164 [.ref a0, .int x1] S I J Q = am_T d 164 0 [some (.ref a0), some (.int x1)] [] S I J Q := tr_en (Nat.le_of_ble_eq_true rfl) rfl
theorem r164_0 : am_T d 164 0 [some (.ref a0), l1] st S I J Q = am_T d 164 1 [some (.ref a0), l1] (.ref a0 :: st) S I J Q := tr_aload_n (m := 0) (by decide +kernel) rfl
theorem r164_1 : am_T d 164 1 ls [.ref a0] S I J Q = (am_is S a0 9 ∧ am_C d 150 [.ref a0] S I J (fun r S I J => am_T d 164 4 ls (am_psh r []) S I J Q)) := tr_virt (k := 162) (by decide +kernel) (by decide +kernel) rfl rfl (Nat.le_of_ble_eq_true rfl) (by decide +kernel)
theorem r164_4 : am_T d 164 4 [some (.ref a0), l1] st S I J Q = am_T d 164 5 [some (.ref a0), l1] (.ref a0 :: st) S I J Q := tr_aload_n (m := 0) (by decide +kernel) rfl
theorem r164_5 : am_T d 164 5 ls (.ref a0 :: st) S I J Q = ((am_is S a0 9 ∧ am_rf S a0 14 ≠ 0) ∧ am_T d 164 8 ls (.ref (am_rf S a0 14) :: st) S I J Q) := tr_geta (k := 28) (by decide +kernel) (by decide +kernel) (by decide +kernel)
theorem r164_8 : am_T d 164 8 [l0, some (.int x0)] st S I J Q = am_T d 164 9 [l0, some (.int x0)] (.int x0 :: st) S I J Q := tr_iload_n (m := 1) (by decide +kernel) rfl
theorem r164_9 : am_T d 164 9 ls st S I J Q = am_T d 164 10 ls (.int 0 :: st) S I J Q := tr_iconst (m := 0) (by decide +kernel) (by decide)
theorem r164_10 : am_T d 164 10 ls (.int x1 :: .int x0 :: .ref a0 :: st) S I J Q = ((am_ixw S a0 21 x0 ∧ (x1 = 0 ∨ x1 = 1)) ∧ am_T d 164 11 ls st S (am_up I a0 x0.toNatClampNeg x1) J Q) := tr_bast (by decide +kernel)
theorem r164_11 : am_T d 164 11 [some (.ref a0), l1] st S I J Q = am_T d 164 12 [some (.ref a0), l1] (.ref a0 :: st) S I J Q := tr_aload_n (m := 0) (by decide +kernel) rfl
theorem r164_12 : am_T d 164 12 ls [.ref a0] S I J Q = (am_is S a0 9 ∧ am_C d 149 [.ref a0] S I J (fun r S I J => am_T d 164 15 ls (am_psh r []) S I J Q)) := tr_virt (k := 165) (by decide +kernel) (by decide +kernel) rfl rfl (Nat.le_of_ble_eq_true rfl) (by decide +kernel)
theorem r164_15 : am_T d 164 15 ls (.int x0 :: st) S I J Q = if x0 = 0 then am_T d 164 25 ls st S I J Q else am_T d 164 18 ls st S I J Q := tr_ifeq (o := 10) (by decide +kernel) rfl
theorem r164_18 : am_T d 164 18 [some (.ref a0), l1] st S I J Q = am_T d 164 19 [some (.ref a0), l1] (.ref a0 :: st) S I J Q := tr_aload_n (m := 0) (by decide +kernel) rfl
theorem r164_19 : am_T d 164 19 ls [.ref a0] S I J Q = (am_is S a0 9 ∧ am_C d 151 [.ref a0] S I J (fun r S I J => am_T d 164 22 ls (am_psh r []) S I J Q)) := tr_virt (k := 175) (by decide +kernel) (by decide +kernel) rfl rfl (Nat.le_of_ble_eq_true rfl) (by decide +kernel)
theorem r164_22 : am_T d 164 22 ls st S I J Q = am_T d 164 27 ls st S I J Q := tr_goto (o := 5) (by decide +kernel) rfl
theorem r164_25 : am_T d 164 25 ls st S I J Q = am_T d 164 27 ls (.int (-107) :: st) S I J Q := tr_bipush (m := -107) (by decide +kernel) (by decide)
theorem r164_27 : am_T d 164 27 ls [.int x0] S I J Q = Q (some (.int x0)) S I J := tr_ireti (by decide +kernel) (by decide +kernel)
-- 165 Mod.with(I)I; heads [6]
theorem e165 : am_C (d + 1) 165 [.ref a0, .int x1] S I J Q = am_T d 165 0 [some (.ref a0), some (.int x1), none] [] S I J Q := tr_en (Nat.le_of_ble_eq_true rfl) rfl
theorem r165_0 : am_T d 165 0 [some (.ref a0), l1, l2] st S I J Q = am_T d 165 1 [some (.ref a0), l1, l2] (.ref a0 :: st) S I J Q := tr_aload_n (m := 0) (by decide +kernel) rfl
theorem r165_1 : am_T d 165 1 ls [.ref a0] S I J Q = (am_is S a0 9 ∧ am_C d 150 [.ref a0] S I J (fun r S I J => am_T d 165 4 ls (am_psh r []) S I J Q)) := tr_virt (k := 162) (by decide +kernel) (by decide +kernel) rfl rfl (Nat.le_of_ble_eq_true rfl) (by decide +kernel)
theorem r165_4 : am_T d 165 4 ls st S I J Q = am_T d 165 5 ls (.int 0 :: st) S I J Q := tr_iconst (m := 0) (by decide +kernel) (by decide)
theorem r165_5 : am_T d 165 5 [l0, l1, l2] (.int x0 :: st) S I J Q = am_T d 165 6 [l0, am_clr l1, some (.int x0)] st S I J Q := tr_istore_n (m := 2) (by decide +kernel) (Nat.le_of_ble_eq_true rfl) rfl
theorem r165_6 : am_T d 165 6 [l0, l1, some (.int x0)] st S I J Q = am_T d 165 7 [l0, l1, some (.int x0)] (.int x0 :: st) S I J Q := tr_iload_n (m := 2) (by decide +kernel) rfl
theorem r165_7 : am_T d 165 7 [some (.ref a0), l1, l2] st S I J Q = am_T d 165 8 [some (.ref a0), l1, l2] (.ref a0 :: st) S I J Q := tr_aload_n (m := 0) (by decide +kernel) rfl
theorem r165_8 : am_T d 165 8 ls (.ref a0 :: st) S I J Q = ((am_is S a0 9 ∧ am_rf S a0 0 ≠ 0) ∧ am_T d 165 11 ls (.ref (am_rf S a0 0) :: st) S I J Q) := tr_geta (k := 7) (by decide +kernel) (by decide +kernel) (by decide +kernel)
theorem r165_11 : am_T d 165 11 ls st S I J Q = am_T d 165 12 ls (.int 2 :: st) S I J Q := tr_iconst (m := 2) (by decide +kernel) (by decide)
theorem r165_12 : am_T d 165 12 ls (.int x0 :: .ref a0 :: st) S I J Q = (am_ix S a0 20 x0 ∧ am_T d 165 13 ls (.int (I a0 x0.toNatClampNeg) :: st) S I J Q) := tr_iald (by decide +kernel)
theorem r165_13 : am_T d 165 13 ls (.int x1 :: .int x0 :: st) S I J Q = if x1 ≤ x0 then am_T d 165 59 ls st S I J Q else am_T d 165 16 ls st S I J Q := tr_icmpge (o := 46) (by decide +kernel) rfl
theorem r165_16 : am_T d 165 16 [some (.ref a0), l1, l2] st S I J Q = am_T d 165 17 [some (.ref a0), l1, l2] (.ref a0 :: st) S I J Q := tr_aload_n (m := 0) (by decide +kernel) rfl
theorem r165_17 : am_T d 165 17 ls (.ref a0 :: st) S I J Q = ((am_is S a0 9 ∧ am_rf S a0 14 ≠ 0) ∧ am_T d 165 20 ls (.ref (am_rf S a0 14) :: st) S I J Q) := tr_geta (k := 28) (by decide +kernel) (by decide +kernel) (by decide +kernel)
theorem r165_20 : am_T d 165 20 [l0, l1, some (.int x0)] st S I J Q = am_T d 165 21 [l0, l1, some (.int x0)] (.int x0 :: st) S I J Q := tr_iload_n (m := 2) (by decide +kernel) rfl
theorem r165_21 : am_T d 165 21 [l0, l1, some (.int x0)] st S I J Q = am_T d 165 22 [l0, l1, some (.int x0)] (.int x0 :: st) S I J Q := tr_iload_n (m := 2) (by decide +kernel) rfl
theorem r165_22 : am_T d 165 22 [l0, some (.int x0), l2] st S I J Q = am_T d 165 23 [l0, some (.int x0), l2] (.int x0 :: st) S I J Q := tr_iload_n (m := 1) (by decide +kernel) rfl
theorem r165_23 : am_T d 165 23 ls (.int x1 :: .int x0 :: st) S I J Q = if x0 = x1 then am_T d 165 47 ls st S I J Q else am_T d 165 26 ls st S I J Q := tr_icmpeq (o := 24) (by decide +kernel) rfl
theorem r165_26 : am_T d 165 26 [some (.ref a0), l1, l2] st S I J Q = am_T d 165 27 [some (.ref a0), l1, l2] (.ref a0 :: st) S I J Q := tr_aload_n (m := 0) (by decide +kernel) rfl
theorem r165_27 : am_T d 165 27 ls (.ref a0 :: st) S I J Q = ((am_is S a0 9 ∧ am_rf S a0 0 ≠ 0) ∧ am_T d 165 30 ls (.ref (am_rf S a0 0) :: st) S I J Q) := tr_geta (k := 7) (by decide +kernel) (by decide +kernel) (by decide +kernel)
theorem r165_30 : am_T d 165 30 ls st S I J Q = am_T d 165 32 ls (.int 35 :: st) S I J Q := tr_bipush (m := 35) (by decide +kernel) (by decide)
theorem r165_32 : am_T d 165 32 [l0, l1, some (.int x0)] st S I J Q = am_T d 165 33 [l0, l1, some (.int x0)] (.int x0 :: st) S I J Q := tr_iload_n (m := 2) (by decide +kernel) rfl
theorem r165_33 : am_T d 165 33 ls (.int x1 :: .int x0 :: st) S I J Q = am_T d 165 34 ls (.int (x0 + x1) :: st) S I J Q := tr_iadd (by decide +kernel)
theorem r165_34 : am_T d 165 34 ls (.int x0 :: .ref a0 :: st) S I J Q = (am_ix S a0 20 x0 ∧ am_T d 165 35 ls (.int (I a0 x0.toNatClampNeg) :: st) S I J Q) := tr_iald (by decide +kernel)
theorem r165_35 : am_T d 165 35 [some (.ref a0), l1, l2] st S I J Q = am_T d 165 36 [some (.ref a0), l1, l2] (.ref a0 :: st) S I J Q := tr_aload_n (m := 0) (by decide +kernel) rfl
theorem r165_36 : am_T d 165 36 ls (.ref a0 :: st) S I J Q = ((am_is S a0 9 ∧ am_rf S a0 0 ≠ 0) ∧ am_T d 165 39 ls (.ref (am_rf S a0 0) :: st) S I J Q) := tr_geta (k := 7) (by decide +kernel) (by decide +kernel) (by decide +kernel)
theorem r165_39 : am_T d 165 39 ls st S I J Q = am_T d 165 41 ls (.int 35 :: st) S I J Q := tr_bipush (m := 35) (by decide +kernel) (by decide)
theorem r165_41 : am_T d 165 41 [l0, some (.int x0), l2] st S I J Q = am_T d 165 42 [l0, some (.int x0), l2] (.int x0 :: st) S I J Q := tr_iload_n (m := 1) (by decide +kernel) rfl
theorem r165_42 : am_T d 165 42 ls (.int x1 :: .int x0 :: st) S I J Q = am_T d 165 43 ls (.int (x0 + x1) :: st) S I J Q := tr_iadd (by decide +kernel)
theorem r165_43 : am_T d 165 43 ls (.int x0 :: .ref a0 :: st) S I J Q = (am_ix S a0 20 x0 ∧ am_T d 165 44 ls (.int (I a0 x0.toNatClampNeg) :: st) S I J Q) := tr_iald (by decide +kernel)
theorem r165_44 : am_T d 165 44 ls (.int x1 :: .int x0 :: st) S I J Q = if x0 = x1 then am_T d 165 51 ls st S I J Q else am_T d 165 47 ls st S I J Q := tr_icmpeq (o := 7) (by decide +kernel) rfl
theorem r165_47 : am_T d 165 47 ls st S I J Q = am_T d 165 48 ls (.int 1 :: st) S I J Q := tr_iconst (m := 1) (by decide +kernel) (by decide)
theorem r165_48 : am_T d 165 48 ls st S I J Q = am_T d 165 52 ls st S I J Q := tr_goto (o := 4) (by decide +kernel) rfl
theorem r165_51 : am_T d 165 51 ls st S I J Q = am_T d 165 52 ls (.int 0 :: st) S I J Q := tr_iconst (m := 0) (by decide +kernel) (by decide)
theorem r165_52 : am_T d 165 52 ls (.int x1 :: .int x0 :: .ref a0 :: st) S I J Q = ((am_ixw S a0 21 x0 ∧ (x1 = 0 ∨ x1 = 1)) ∧ am_T d 165 53 ls st S (am_up I a0 x0.toNatClampNeg x1) J Q) := tr_bast (by decide +kernel)
theorem r165_53 : am_T d 165 53 [l0, l1, some (.int x0)] st S I J Q = am_T d 165 56 [l0, am_clr l1, some (.int (x0 + 1))] st S I J Q := tr_iinc (k := 2) (m := 1) (by decide +kernel) rfl (Nat.le_of_ble_eq_true rfl) (by decide) rfl
theorem r165_56 : am_T d 165 56 ls st S I J Q = am_T d 165 6 ls st S I J Q := tr_goto (o := -50) (by decide +kernel) rfl
theorem r165_59 : am_T d 165 59 [some (.ref a0), l1, l2] st S I J Q = am_T d 165 60 [some (.ref a0), l1, l2] (.ref a0 :: st) S I J Q := tr_aload_n (m := 0) (by decide +kernel) rfl
theorem r165_60 : am_T d 165 60 ls (.ref a0 :: st) S I J Q = ((am_is S a0 9 ∧ am_rf S a0 0 ≠ 0) ∧ am_T d 165 63 ls (.ref (am_rf S a0 0) :: st) S I J Q) := tr_geta (k := 7) (by decide +kernel) (by decide +kernel) (by decide +kernel)
theorem r165_63 : am_T d 165 63 ls st S I J Q = am_T d 165 65 ls (.int 35 :: st) S I J Q := tr_bipush (m := 35) (by decide +kernel) (by decide)
theorem r165_65 : am_T d 165 65 [l0, some (.int x0), l2] st S I J Q = am_T d 165 66 [l0, some (.int x0), l2] (.int x0 :: st) S I J Q := tr_iload_n (m := 1) (by decide +kernel) rfl
theorem r165_66 : am_T d 165 66 ls (.int x1 :: .int x0 :: st) S I J Q = am_T d 165 67 ls (.int (x0 + x1) :: st) S I J Q := tr_iadd (by decide +kernel)
theorem r165_67 : am_T d 165 67 ls (.int x0 :: .ref a0 :: st) S I J Q = (am_ix S a0 20 x0 ∧ am_T d 165 68 ls (.int (I a0 x0.toNatClampNeg) :: st) S I J Q) := tr_iald (by decide +kernel)
theorem r165_68 : am_T d 165 68 [some (.ref a0), l1, l2] st S I J Q = am_T d 165 69 [some (.ref a0), l1, l2] (.ref a0 :: st) S I J Q := tr_aload_n (m := 0) (by decide +kernel) rfl
theorem r165_69 : am_T d 165 69 ls (.ref a0 :: st) S I J Q = ((am_is S a0 9 ∧ am_rf S a0 0 ≠ 0) ∧ am_T d 165 72 ls (.ref (am_rf S a0 0) :: st) S I J Q) := tr_geta (k := 7) (by decide +kernel) (by decide +kernel) (by decide +kernel)
theorem r165_72 : am_T d 165 72 ls st S I J Q = am_T d 165 73 ls (.int 1 :: st) S I J Q := tr_iconst (m := 1) (by decide +kernel) (by decide)
theorem r165_73 : am_T d 165 73 ls (.int x0 :: .ref a0 :: st) S I J Q = (am_ix S a0 20 x0 ∧ am_T d 165 74 ls (.int (I a0 x0.toNatClampNeg) :: st) S I J Q) := tr_iald (by decide +kernel)
theorem r165_74 : am_T d 165 74 ls (.int x1 :: .int x0 :: st) S I J Q = if x0 = x1 then am_T d 165 91 ls st S I J Q else am_T d 165 77 ls st S I J Q := tr_icmpeq (o := 17) (by decide +kernel) rfl
theorem r165_77 : am_T d 165 77 [some (.ref a0), l1, l2] st S I J Q = am_T d 165 78 [some (.ref a0), l1, l2] (.ref a0 :: st) S I J Q := tr_aload_n (m := 0) (by decide +kernel) rfl
theorem r165_78 : am_T d 165 78 ls [.ref a0] S I J Q = (am_is S a0 9 ∧ am_C d 149 [.ref a0] S I J (fun r S I J => am_T d 165 81 ls (am_psh r []) S I J Q)) := tr_virt (k := 165) (by decide +kernel) (by decide +kernel) rfl rfl (Nat.le_of_ble_eq_true rfl) (by decide +kernel)
theorem r165_81 : am_T d 165 81 ls (.int x0 :: st) S I J Q = if x0 = 0 then am_T d 165 91 ls st S I J Q else am_T d 165 84 ls st S I J Q := tr_ifeq (o := 10) (by decide +kernel) rfl
theorem r165_84 : am_T d 165 84 [some (.ref a0), l1, l2] st S I J Q = am_T d 165 85 [some (.ref a0), l1, l2] (.ref a0 :: st) S I J Q := tr_aload_n (m := 0) (by decide +kernel) rfl
theorem r165_85 : am_T d 165 85 ls [.ref a0] S I J Q = (am_is S a0 9 ∧ am_C d 151 [.ref a0] S I J (fun r S I J => am_T d 165 88 ls (am_psh r []) S I J Q)) := tr_virt (k := 175) (by decide +kernel) (by decide +kernel) rfl rfl (Nat.le_of_ble_eq_true rfl) (by decide +kernel)
theorem r165_88 : am_T d 165 88 ls st S I J Q = am_T d 165 93 ls st S I J Q := tr_goto (o := 5) (by decide +kernel) rfl
theorem r165_91 : am_T d 165 91 ls st S I J Q = am_T d 165 93 ls (.int (-107) :: st) S I J Q := tr_bipush (m := -107) (by decide +kernel) (by decide)
theorem r165_93 : am_T d 165 93 ls [.int x0] S I J Q = Q (some (.int x0)) S I J := tr_ireti (by decide +kernel) (by decide +kernel)
-- 166 Mod.costWithout(I)I; heads []
theorem e166 : am_C (d + 1) 166 [.ref a0, .int x1] S I J Q = am_T d 166 0 [some (.ref a0), some (.int x1)] [] S I J Q := tr_en (Nat.le_of_ble_eq_true rfl) rfl
theorem r166_0 : am_T d 166 0 [some (.ref a0), l1] st S I J Q = am_T d 166 1 [some (.ref a0), l1] (.ref a0 :: st) S I J Q := tr_aload_n (m := 0) (by decide +kernel) rfl
theorem r166_1 : am_T d 166 1 [l0, some (.int x0)] st S I J Q = am_T d 166 2 [l0, some (.int x0)] (.int x0 :: st) S I J Q := tr_iload_n (m := 1) (by decide +kernel) rfl
theorem r166_2 : am_T d 166 2 ls [.int x1, .ref a0] S I J Q = (am_is S a0 9 ∧ am_C d 114 [.ref a0, .int x1] S I J (fun r S I J => am_T d 166 5 ls (am_psh r []) S I J Q)) := tr_virt (k := 90) (by decide +kernel) (by decide +kernel) rfl rfl (Nat.le_of_ble_eq_true rfl) (by decide +kernel)
theorem r166_5 : am_T d 166 5 ls (.int x0 :: st) S I J Q = if x0 = 0 then am_T d 166 8 ls st S I J Q else am_T d 166 11 ls st S I J Q := tr_ifne (o := 6) (by decide +kernel) rfl
theorem r166_8 : am_T d 166 8 ls st S I J Q = am_T d 166 10 ls (.int (-102) :: st) S I J Q := tr_bipush (m := -102) (by decide +kernel) (by decide)
theorem r166_10 : am_T d 166 10 ls [.int x0] S I J Q = Q (some (.int x0)) S I J := tr_ireti (by decide +kernel) (by decide +kernel)
theorem r166_11 : am_T d 166 11 [some (.ref a0), l1] st S I J Q = am_T d 166 12 [some (.ref a0), l1] (.ref a0 :: st) S I J Q := tr_aload_n (m := 0) (by decide +kernel) rfl
theorem r166_12 : am_T d 166 12 ls [.ref a0] S I J Q = (am_is S a0 9 ∧ am_C d 152 [.ref a0] S I J (fun r S I J => am_T d 166 15 ls (am_psh r []) S I J Q)) := tr_virt (k := 169) (by decide +kernel) (by decide +kernel) rfl rfl (Nat.le_of_ble_eq_true rfl) (by decide +kernel)
theorem r166_15 : am_T d 166 15 ls (.int x0 :: st) S I J Q = if x0 = 0 then am_T d 166 26 ls st S I J Q else am_T d 166 18 ls st S I J Q := tr_ifeq (o := 11) (by decide +kernel) rfl
theorem r166_18 : am_T d 166 18 [some (.ref a0), l1] st S I J Q = am_T d 166 19 [some (.ref a0), l1] (.ref a0 :: st) S I J Q := tr_aload_n (m := 0) (by decide +kernel) rfl
theorem r166_19 : am_T d 166 19 [l0, some (.int x0)] st S I J Q = am_T d 166 20 [l0, some (.int x0)] (.int x0 :: st) S I J Q := tr_iload_n (m := 1) (by decide +kernel) rfl
theorem r166_20 : am_T d 166 20 ls [.int x1, .ref a0] S I J Q = (am_is S a0 9 ∧ am_C d 164 [.ref a0, .int x1] S I J (fun r S I J => am_T d 166 23 ls (am_psh r []) S I J Q)) := tr_virt (k := 178) (by decide +kernel) (by decide +kernel) rfl rfl (Nat.le_of_ble_eq_true rfl) (by decide +kernel)
theorem r166_23 : am_T d 166 23 ls st S I J Q = am_T d 166 28 ls st S I J Q := tr_goto (o := 5) (by decide +kernel) rfl
theorem r166_26 : am_T d 166 26 ls st S I J Q = am_T d 166 28 ls (.int (-106) :: st) S I J Q := tr_bipush (m := -106) (by decide +kernel) (by decide)
theorem r166_28 : am_T d 166 28 ls [.int x0] S I J Q = Q (some (.int x0)) S I J := tr_ireti (by decide +kernel) (by decide +kernel)
-- 167 Mod.costWith(I)I; heads []
theorem e167 : am_C (d + 1) 167 [.ref a0, .int x1] S I J Q = am_T d 167 0 [some (.ref a0), some (.int x1)] [] S I J Q := tr_en (Nat.le_of_ble_eq_true rfl) rfl
theorem r167_0 : am_T d 167 0 [some (.ref a0), l1] st S I J Q = am_T d 167 1 [some (.ref a0), l1] (.ref a0 :: st) S I J Q := tr_aload_n (m := 0) (by decide +kernel) rfl
theorem r167_1 : am_T d 167 1 [l0, some (.int x0)] st S I J Q = am_T d 167 2 [l0, some (.int x0)] (.int x0 :: st) S I J Q := tr_iload_n (m := 1) (by decide +kernel) rfl
theorem r167_2 : am_T d 167 2 ls [.int x1, .ref a0] S I J Q = (am_is S a0 9 ∧ am_C d 114 [.ref a0, .int x1] S I J (fun r S I J => am_T d 167 5 ls (am_psh r []) S I J Q)) := tr_virt (k := 90) (by decide +kernel) (by decide +kernel) rfl rfl (Nat.le_of_ble_eq_true rfl) (by decide +kernel)
theorem r167_5 : am_T d 167 5 ls (.int x0 :: st) S I J Q = if x0 = 0 then am_T d 167 8 ls st S I J Q else am_T d 167 11 ls st S I J Q := tr_ifne (o := 6) (by decide +kernel) rfl
theorem r167_8 : am_T d 167 8 ls st S I J Q = am_T d 167 10 ls (.int (-102) :: st) S I J Q := tr_bipush (m := -102) (by decide +kernel) (by decide)
theorem r167_10 : am_T d 167 10 ls [.int x0] S I J Q = Q (some (.int x0)) S I J := tr_ireti (by decide +kernel) (by decide +kernel)
theorem r167_11 : am_T d 167 11 [some (.ref a0), l1] st S I J Q = am_T d 167 12 [some (.ref a0), l1] (.ref a0 :: st) S I J Q := tr_aload_n (m := 0) (by decide +kernel) rfl
theorem r167_12 : am_T d 167 12 ls [.ref a0] S I J Q = (am_is S a0 9 ∧ am_C d 152 [.ref a0] S I J (fun r S I J => am_T d 167 15 ls (am_psh r []) S I J Q)) := tr_virt (k := 169) (by decide +kernel) (by decide +kernel) rfl rfl (Nat.le_of_ble_eq_true rfl) (by decide +kernel)
theorem r167_15 : am_T d 167 15 ls (.int x0 :: st) S I J Q = if x0 = 0 then am_T d 167 26 ls st S I J Q else am_T d 167 18 ls st S I J Q := tr_ifeq (o := 11) (by decide +kernel) rfl
theorem r167_18 : am_T d 167 18 [some (.ref a0), l1] st S I J Q = am_T d 167 19 [some (.ref a0), l1] (.ref a0 :: st) S I J Q := tr_aload_n (m := 0) (by decide +kernel) rfl
theorem r167_19 : am_T d 167 19 [l0, some (.int x0)] st S I J Q = am_T d 167 20 [l0, some (.int x0)] (.int x0 :: st) S I J Q := tr_iload_n (m := 1) (by decide +kernel) rfl
theorem r167_20 : am_T d 167 20 ls [.int x1, .ref a0] S I J Q = (am_is S a0 9 ∧ am_C d 165 [.ref a0, .int x1] S I J (fun r S I J => am_T d 167 23 ls (am_psh r []) S I J Q)) := tr_virt (k := 181) (by decide +kernel) (by decide +kernel) rfl rfl (Nat.le_of_ble_eq_true rfl) (by decide +kernel)
theorem r167_23 : am_T d 167 23 ls st S I J Q = am_T d 167 28 ls st S I J Q := tr_goto (o := 5) (by decide +kernel) rfl
theorem r167_26 : am_T d 167 26 ls st S I J Q = am_T d 167 28 ls (.int (-106) :: st) S I J Q := tr_bipush (m := -106) (by decide +kernel) (by decide)
theorem r167_28 : am_T d 167 28 ls [.int x0] S I J Q = Q (some (.int x0)) S I J := tr_ireti (by decide +kernel) (by decide +kernel)
-- 168 Mod.slack(I)I; heads []
theorem e168 : am_C (d + 1) 168 [.ref a0, .int x1] S I J Q = am_T d 168 0 [some (.ref a0), some (.int x1), none] [] S I J Q := tr_en (Nat.le_of_ble_eq_true rfl) rfl
theorem r168_0 : am_T d 168 0 [some (.ref a0), l1, l2] st S I J Q = am_T d 168 1 [some (.ref a0), l1, l2] (.ref a0 :: st) S I J Q := tr_aload_n (m := 0) (by decide +kernel) rfl
theorem r168_1 : am_T d 168 1 [l0, some (.int x0), l2] st S I J Q = am_T d 168 2 [l0, some (.int x0), l2] (.int x0 :: st) S I J Q := tr_iload_n (m := 1) (by decide +kernel) rfl
theorem r168_2 : am_T d 168 2 ls [.int x1, .ref a0] S I J Q = (am_is S a0 9 ∧ am_C d 114 [.ref a0, .int x1] S I J (fun r S I J => am_T d 168 5 ls (am_psh r []) S I J Q)) := tr_virt (k := 90) (by decide +kernel) (by decide +kernel) rfl rfl (Nat.le_of_ble_eq_true rfl) (by decide +kernel)
theorem r168_5 : am_T d 168 5 ls (.int x0 :: st) S I J Q = if x0 = 0 then am_T d 168 8 ls st S I J Q else am_T d 168 11 ls st S I J Q := tr_ifne (o := 6) (by decide +kernel) rfl
theorem r168_8 : am_T d 168 8 ls st S I J Q = am_T d 168 10 ls (.int (-102) :: st) S I J Q := tr_bipush (m := -102) (by decide +kernel) (by decide)
theorem r168_10 : am_T d 168 10 ls [.int x0] S I J Q = Q (some (.int x0)) S I J := tr_ireti (by decide +kernel) (by decide +kernel)
theorem r168_11 : am_T d 168 11 [some (.ref a0), l1, l2] st S I J Q = am_T d 168 12 [some (.ref a0), l1, l2] (.ref a0 :: st) S I J Q := tr_aload_n (m := 0) (by decide +kernel) rfl
theorem r168_12 : am_T d 168 12 ls [.ref a0] S I J Q = (am_is S a0 9 ∧ am_C d 152 [.ref a0] S I J (fun r S I J => am_T d 168 15 ls (am_psh r []) S I J Q)) := tr_virt (k := 169) (by decide +kernel) (by decide +kernel) rfl rfl (Nat.le_of_ble_eq_true rfl) (by decide +kernel)
theorem r168_15 : am_T d 168 15 ls (.int x0 :: st) S I J Q = if x0 = 0 then am_T d 168 18 ls st S I J Q else am_T d 168 21 ls st S I J Q := tr_ifne (o := 6) (by decide +kernel) rfl
theorem r168_18 : am_T d 168 18 ls st S I J Q = am_T d 168 20 ls (.int (-106) :: st) S I J Q := tr_bipush (m := -106) (by decide +kernel) (by decide)
theorem r168_20 : am_T d 168 20 ls [.int x0] S I J Q = Q (some (.int x0)) S I J := tr_ireti (by decide +kernel) (by decide +kernel)
theorem r168_21 : am_T d 168 21 [some (.ref a0), l1, l2] st S I J Q = am_T d 168 22 [some (.ref a0), l1, l2] (.ref a0 :: st) S I J Q := tr_aload_n (m := 0) (by decide +kernel) rfl
theorem r168_22 : am_T d 168 22 [l0, some (.int x0), l2] st S I J Q = am_T d 168 23 [l0, some (.int x0), l2] (.int x0 :: st) S I J Q := tr_iload_n (m := 1) (by decide +kernel) rfl
theorem r168_23 : am_T d 168 23 ls [.int x1, .ref a0] S I J Q = (am_is S a0 9 ∧ am_C d 121 [.ref a0, .int x1] S I J (fun r S I J => am_T d 168 26 ls (am_psh r []) S I J Q)) := tr_virt (k := 93) (by decide +kernel) (by decide +kernel) rfl rfl (Nat.le_of_ble_eq_true rfl) (by decide +kernel)
theorem r168_26 : am_T d 168 26 ls (.int x0 :: st) S I J Q = if x0 = 0 then am_T d 168 37 ls st S I J Q else am_T d 168 29 ls st S I J Q := tr_ifeq (o := 11) (by decide +kernel) rfl
theorem r168_29 : am_T d 168 29 [some (.ref a0), l1, l2] st S I J Q = am_T d 168 30 [some (.ref a0), l1, l2] (.ref a0 :: st) S I J Q := tr_aload_n (m := 0) (by decide +kernel) rfl
theorem r168_30 : am_T d 168 30 [l0, some (.int x0), l2] st S I J Q = am_T d 168 31 [l0, some (.int x0), l2] (.int x0 :: st) S I J Q := tr_iload_n (m := 1) (by decide +kernel) rfl
theorem r168_31 : am_T d 168 31 ls [.int x1, .ref a0] S I J Q = (am_is S a0 9 ∧ am_C d 164 [.ref a0, .int x1] S I J (fun r S I J => am_T d 168 34 ls (am_psh r []) S I J Q)) := tr_virt (k := 178) (by decide +kernel) (by decide +kernel) rfl rfl (Nat.le_of_ble_eq_true rfl) (by decide +kernel)
theorem r168_34 : am_T d 168 34 ls st S I J Q = am_T d 168 42 ls st S I J Q := tr_goto (o := 8) (by decide +kernel) rfl
theorem r168_37 : am_T d 168 37 [some (.ref a0), l1, l2] st S I J Q = am_T d 168 38 [some (.ref a0), l1, l2] (.ref a0 :: st) S I J Q := tr_aload_n (m := 0) (by decide +kernel) rfl
theorem r168_38 : am_T d 168 38 [l0, some (.int x0), l2] st S I J Q = am_T d 168 39 [l0, some (.int x0), l2] (.int x0 :: st) S I J Q := tr_iload_n (m := 1) (by decide +kernel) rfl
theorem r168_39 : am_T d 168 39 ls [.int x1, .ref a0] S I J Q = (am_is S a0 9 ∧ am_C d 165 [.ref a0, .int x1] S I J (fun r S I J => am_T d 168 42 ls (am_psh r []) S I J Q)) := tr_virt (k := 181) (by decide +kernel) (by decide +kernel) rfl rfl (Nat.le_of_ble_eq_true rfl) (by decide +kernel)
theorem r168_42 : am_T d 168 42 [l0, l1, l2] (.int x0 :: st) S I J Q = am_T d 168 43 [l0, am_clr l1, some (.int x0)] st S I J Q := tr_istore_n (m := 2) (by decide +kernel) (Nat.le_of_ble_eq_true rfl) rfl
theorem r168_43 : am_T d 168 43 [l0, l1, some (.int x0)] st S I J Q = am_T d 168 44 [l0, l1, some (.int x0)] (.int x0 :: st) S I J Q := tr_iload_n (m := 2) (by decide +kernel) rfl
theorem r168_44 : am_T d 168 44 ls st S I J Q = am_T d 168 46 ls (.int (-107) :: st) S I J Q := tr_bipush (m := -107) (by decide +kernel) (by decide)
theorem r168_46 : am_T d 168 46 ls (.int x1 :: .int x0 :: st) S I J Q = if x0 = x1 then am_T d 168 49 ls st S I J Q else am_T d 168 54 ls st S I J Q := tr_icmpne (o := 8) (by decide +kernel) rfl
theorem r168_49 : am_T d 168 49 ls st S I J Q = am_T d 168 51 ls (.int (-107) :: st) S I J Q := tr_bipush (m := -107) (by decide +kernel) (by decide)
theorem r168_51 : am_T d 168 51 ls st S I J Q = am_T d 168 60 ls st S I J Q := tr_goto (o := 9) (by decide +kernel) rfl
theorem r168_54 : am_T d 168 54 [l0, l1, some (.int x0)] st S I J Q = am_T d 168 55 [l0, l1, some (.int x0)] (.int x0 :: st) S I J Q := tr_iload_n (m := 2) (by decide +kernel) rfl
theorem r168_55 : am_T d 168 55 [some (.ref a0), l1, l2] st S I J Q = am_T d 168 56 [some (.ref a0), l1, l2] (.ref a0 :: st) S I J Q := tr_aload_n (m := 0) (by decide +kernel) rfl
theorem r168_56 : am_T d 168 56 ls [.ref a0, .int x10] S I J Q = (am_is S a0 9 ∧ am_C d 157 [.ref a0] S I J (fun r S I J => am_T d 168 59 ls (am_psh r [.int x10]) S I J Q)) := tr_virt (k := 172) (by decide +kernel) (by decide +kernel) rfl rfl (Nat.le_of_ble_eq_true rfl) (by decide +kernel)
theorem r168_59 : am_T d 168 59 ls (.int x1 :: .int x0 :: st) S I J Q = am_T d 168 60 ls (.int (x0 - x1) :: st) S I J Q := tr_isub (by decide +kernel)
theorem r168_60 : am_T d 168 60 ls [.int x0] S I J Q = Q (some (.int x0)) S I J := tr_ireti (by decide +kernel) (by decide +kernel)
-- 169 Mod.secondBest(I)I; heads [31]
theorem e169 : am_C (d + 1) 169 [.ref a0, .int x1] S I J Q = am_T d 169 0 [some (.ref a0), some (.int x1), none, none, none, none] [] S I J Q := tr_en (Nat.le_of_ble_eq_true rfl) rfl
theorem r169_0 : am_T d 169 0 [l0, some (.int x0), l2, l3, l4, l5] st S I J Q = am_T d 169 1 [l0, some (.int x0), l2, l3, l4, l5] (.int x0 :: st) S I J Q := tr_iload_n (m := 1) (by decide +kernel) rfl
theorem r169_1 : am_T d 169 1 ls st S I J Q = am_T d 169 2 ls (.int 0 :: st) S I J Q := tr_iconst (m := 0) (by decide +kernel) (by decide)
theorem r169_2 : am_T d 169 2 ls st S I J Q = am_T d 169 3 ls (.int 1 :: st) S I J Q := tr_iconst (m := 1) (by decide +kernel) (by decide)
theorem r169_3 : am_T d 169 3 ls [.int x2, .int x1, .int x0] S I J Q = am_C d 112 [.int x0, .int x1, .int x2] S I J (fun r S I J => am_T d 169 6 ls (am_psh r []) S I J Q) := tr_stat (k := 60) (by decide +kernel) (Or.inl (by decide +kernel)) (Nat.le_of_ble_eq_true rfl) rfl rfl (Nat.le_of_ble_eq_true rfl)
theorem r169_6 : am_T d 169 6 ls (.int x0 :: st) S I J Q = if x0 = 0 then am_T d 169 9 ls st S I J Q else am_T d 169 12 ls st S I J Q := tr_ifne (o := 6) (by decide +kernel) rfl
theorem r169_9 : am_T d 169 9 ls st S I J Q = am_T d 169 11 ls (.int (-103) :: st) S I J Q := tr_bipush (m := -103) (by decide +kernel) (by decide)
theorem r169_11 : am_T d 169 11 ls [.int x0] S I J Q = Q (some (.int x0)) S I J := tr_ireti (by decide +kernel) (by decide +kernel)
theorem r169_12 : am_T d 169 12 [some (.ref a0), l1, l2, l3, l4, l5] st S I J Q = am_T d 169 13 [some (.ref a0), l1, l2, l3, l4, l5] (.ref a0 :: st) S I J Q := tr_aload_n (m := 0) (by decide +kernel) rfl
theorem r169_13 : am_T d 169 13 ls [.ref a0] S I J Q = (am_is S a0 9 ∧ am_C d 152 [.ref a0] S I J (fun r S I J => am_T d 169 16 ls (am_psh r []) S I J Q)) := tr_virt (k := 169) (by decide +kernel) (by decide +kernel) rfl rfl (Nat.le_of_ble_eq_true rfl) (by decide +kernel)
theorem r169_16 : am_T d 169 16 ls (.int x0 :: st) S I J Q = if x0 = 0 then am_T d 169 19 ls st S I J Q else am_T d 169 22 ls st S I J Q := tr_ifne (o := 6) (by decide +kernel) rfl
theorem r169_19 : am_T d 169 19 ls st S I J Q = am_T d 169 21 ls (.int (-106) :: st) S I J Q := tr_bipush (m := -106) (by decide +kernel) (by decide)
theorem r169_21 : am_T d 169 21 ls [.int x0] S I J Q = Q (some (.int x0)) S I J := tr_ireti (by decide +kernel) (by decide +kernel)
theorem r169_22 : am_T d 169 22 ls st S I J Q = am_T d 169 24 ls (.int (-107) :: st) S I J Q := tr_bipush (m := -107) (by decide +kernel) (by decide)
theorem r169_24 : am_T d 169 24 [l0, l1, l2, l3, l4, l5] (.int x0 :: st) S I J Q = am_T d 169 25 [l0, am_clr l1, some (.int x0), l3, l4, l5] st S I J Q := tr_istore_n (m := 2) (by decide +kernel) (Nat.le_of_ble_eq_true rfl) rfl
theorem r169_25 : am_T d 169 25 ls st S I J Q = am_T d 169 27 ls (.int (-107) :: st) S I J Q := tr_bipush (m := -107) (by decide +kernel) (by decide)
theorem r169_27 : am_T d 169 27 [l0, l1, l2, l3, l4, l5] (.int x0 :: st) S I J Q = am_T d 169 28 [l0, l1, am_clr l2, some (.int x0), l4, l5] st S I J Q := tr_istore_n (m := 3) (by decide +kernel) (Nat.le_of_ble_eq_true rfl) rfl
theorem r169_28 : am_T d 169 28 ls st S I J Q = am_T d 169 29 ls (.int 0 :: st) S I J Q := tr_iconst (m := 0) (by decide +kernel) (by decide)
theorem r169_29 : am_T d 169 29 [l0, l1, l2, l3, l4, l5] (.int x0 :: st) S I J Q = am_T d 169 31 [l0, l1, l2, am_clr l3, some (.int x0), l5] st S I J Q := tr_istore (k := 4) (by decide +kernel) (Nat.le_of_ble_eq_true rfl) rfl
theorem r169_31 : am_T d 169 31 [l0, l1, l2, l3, some (.int x0), l5] st S I J Q = am_T d 169 33 [l0, l1, l2, l3, some (.int x0), l5] (.int x0 :: st) S I J Q := tr_iload (k := 4) (by decide +kernel) rfl
theorem r169_33 : am_T d 169 33 [some (.ref a0), l1, l2, l3, l4, l5] st S I J Q = am_T d 169 34 [some (.ref a0), l1, l2, l3, l4, l5] (.ref a0 :: st) S I J Q := tr_aload_n (m := 0) (by decide +kernel) rfl
theorem r169_34 : am_T d 169 34 ls (.ref a0 :: st) S I J Q = ((am_is S a0 9 ∧ am_rf S a0 0 ≠ 0) ∧ am_T d 169 37 ls (.ref (am_rf S a0 0) :: st) S I J Q) := tr_geta (k := 7) (by decide +kernel) (by decide +kernel) (by decide +kernel)
theorem r169_37 : am_T d 169 37 ls st S I J Q = am_T d 169 38 ls (.int 2 :: st) S I J Q := tr_iconst (m := 2) (by decide +kernel) (by decide)
theorem r169_38 : am_T d 169 38 ls (.int x0 :: .ref a0 :: st) S I J Q = (am_ix S a0 20 x0 ∧ am_T d 169 39 ls (.int (I a0 x0.toNatClampNeg) :: st) S I J Q) := tr_iald (by decide +kernel)
theorem r169_39 : am_T d 169 39 ls (.int x1 :: .int x0 :: st) S I J Q = if x1 ≤ x0 then am_T d 169 95 ls st S I J Q else am_T d 169 42 ls st S I J Q := tr_icmpge (o := 56) (by decide +kernel) rfl
theorem r169_42 : am_T d 169 42 [some (.ref a0), l1, l2, l3, l4, l5] st S I J Q = am_T d 169 43 [some (.ref a0), l1, l2, l3, l4, l5] (.ref a0 :: st) S I J Q := tr_aload_n (m := 0) (by decide +kernel) rfl
theorem r169_43 : am_T d 169 43 [l0, l1, l2, l3, some (.int x0), l5] st S I J Q = am_T d 169 45 [l0, l1, l2, l3, some (.int x0), l5] (.int x0 :: st) S I J Q := tr_iload (k := 4) (by decide +kernel) rfl
theorem r169_45 : am_T d 169 45 ls [.int x1, .ref a0] S I J Q = (am_is S a0 9 ∧ am_C d 121 [.ref a0, .int x1] S I J (fun r S I J => am_T d 169 48 ls (am_psh r []) S I J Q)) := tr_virt (k := 93) (by decide +kernel) (by decide +kernel) rfl rfl (Nat.le_of_ble_eq_true rfl) (by decide +kernel)
theorem r169_48 : am_T d 169 48 ls (.int x0 :: st) S I J Q = if x0 = 0 then am_T d 169 60 ls st S I J Q else am_T d 169 51 ls st S I J Q := tr_ifeq (o := 12) (by decide +kernel) rfl
theorem r169_51 : am_T d 169 51 [some (.ref a0), l1, l2, l3, l4, l5] st S I J Q = am_T d 169 52 [some (.ref a0), l1, l2, l3, l4, l5] (.ref a0 :: st) S I J Q := tr_aload_n (m := 0) (by decide +kernel) rfl
theorem r169_52 : am_T d 169 52 [l0, l1, l2, l3, some (.int x0), l5] st S I J Q = am_T d 169 54 [l0, l1, l2, l3, some (.int x0), l5] (.int x0 :: st) S I J Q := tr_iload (k := 4) (by decide +kernel) rfl
theorem r169_54 : am_T d 169 54 ls [.int x1, .ref a0] S I J Q = (am_is S a0 9 ∧ am_C d 164 [.ref a0, .int x1] S I J (fun r S I J => am_T d 169 57 ls (am_psh r []) S I J Q)) := tr_virt (k := 178) (by decide +kernel) (by decide +kernel) rfl rfl (Nat.le_of_ble_eq_true rfl) (by decide +kernel)
theorem r169_57 : am_T d 169 57 ls st S I J Q = am_T d 169 62 ls st S I J Q := tr_goto (o := 5) (by decide +kernel) rfl
theorem r169_60 : am_T d 169 60 ls st S I J Q = am_T d 169 62 ls (.int (-107) :: st) S I J Q := tr_bipush (m := -107) (by decide +kernel) (by decide)
theorem r169_62 : am_T d 169 62 [l0, l1, l2, l3, l4, l5] (.int x0 :: st) S I J Q = am_T d 169 64 [l0, l1, l2, l3, am_clr l4, some (.int x0)] st S I J Q := tr_istore (k := 5) (by decide +kernel) (Nat.le_of_ble_eq_true rfl) rfl
theorem r169_64 : am_T d 169 64 [l0, l1, l2, l3, l4, some (.int x0)] st S I J Q = am_T d 169 66 [l0, l1, l2, l3, l4, some (.int x0)] (.int x0 :: st) S I J Q := tr_iload (k := 5) (by decide +kernel) rfl
theorem r169_66 : am_T d 169 66 ls st S I J Q = am_T d 169 68 ls (.int (-107) :: st) S I J Q := tr_bipush (m := -107) (by decide +kernel) (by decide)
theorem r169_68 : am_T d 169 68 ls (.int x1 :: .int x0 :: st) S I J Q = if x0 = x1 then am_T d 169 89 ls st S I J Q else am_T d 169 71 ls st S I J Q := tr_icmpeq (o := 21) (by decide +kernel) rfl
theorem r169_71 : am_T d 169 71 [l0, l1, some (.int x0), l3, l4, l5] st S I J Q = am_T d 169 72 [l0, l1, some (.int x0), l3, l4, l5] (.int x0 :: st) S I J Q := tr_iload_n (m := 2) (by decide +kernel) rfl
theorem r169_72 : am_T d 169 72 ls st S I J Q = am_T d 169 74 ls (.int (-107) :: st) S I J Q := tr_bipush (m := -107) (by decide +kernel) (by decide)
theorem r169_74 : am_T d 169 74 ls (.int x1 :: .int x0 :: st) S I J Q = if x0 = x1 then am_T d 169 83 ls st S I J Q else am_T d 169 77 ls st S I J Q := tr_icmpeq (o := 9) (by decide +kernel) rfl
theorem r169_77 : am_T d 169 77 [l0, l1, l2, l3, l4, some (.int x0)] st S I J Q = am_T d 169 79 [l0, l1, l2, l3, l4, some (.int x0)] (.int x0 :: st) S I J Q := tr_iload (k := 5) (by decide +kernel) rfl
theorem r169_79 : am_T d 169 79 [l0, l1, l2, some (.int x0), l4, l5] st S I J Q = am_T d 169 80 [l0, l1, l2, some (.int x0), l4, l5] (.int x0 :: st) S I J Q := tr_iload_n (m := 3) (by decide +kernel) rfl
theorem r169_80 : am_T d 169 80 ls (.int x1 :: .int x0 :: st) S I J Q = if x1 ≤ x0 then am_T d 169 89 ls st S I J Q else am_T d 169 83 ls st S I J Q := tr_icmpge (o := 9) (by decide +kernel) rfl
theorem r169_83 : am_T d 169 83 [l0, l1, l2, l3, some (.int x0), l5] st S I J Q = am_T d 169 85 [l0, l1, l2, l3, some (.int x0), l5] (.int x0 :: st) S I J Q := tr_iload (k := 4) (by decide +kernel) rfl
theorem r169_85 : am_T d 169 85 [l0, l1, l2, l3, l4, l5] (.int x0 :: st) S I J Q = am_T d 169 86 [l0, am_clr l1, some (.int x0), l3, l4, l5] st S I J Q := tr_istore_n (m := 2) (by decide +kernel) (Nat.le_of_ble_eq_true rfl) rfl
theorem r169_86 : am_T d 169 86 [l0, l1, l2, l3, l4, some (.int x0)] st S I J Q = am_T d 169 88 [l0, l1, l2, l3, l4, some (.int x0)] (.int x0 :: st) S I J Q := tr_iload (k := 5) (by decide +kernel) rfl
theorem r169_88 : am_T d 169 88 [l0, l1, l2, l3, l4, l5] (.int x0 :: st) S I J Q = am_T d 169 89 [l0, l1, am_clr l2, some (.int x0), l4, l5] st S I J Q := tr_istore_n (m := 3) (by decide +kernel) (Nat.le_of_ble_eq_true rfl) rfl
theorem r169_89 : am_T d 169 89 [l0, l1, l2, l3, some (.int x0), l5] st S I J Q = am_T d 169 92 [l0, l1, l2, am_clr l3, some (.int (x0 + 1)), l5] st S I J Q := tr_iinc (k := 4) (m := 1) (by decide +kernel) rfl (Nat.le_of_ble_eq_true rfl) (by decide) rfl
theorem r169_92 : am_T d 169 92 ls st S I J Q = am_T d 169 31 ls st S I J Q := tr_goto (o := -61) (by decide +kernel) rfl
theorem r169_95 : am_T d 169 95 [l0, some (.int x0), l2, l3, l4, l5] st S I J Q = am_T d 169 96 [l0, some (.int x0), l2, l3, l4, l5] (.int x0 :: st) S I J Q := tr_iload_n (m := 1) (by decide +kernel) rfl
theorem r169_96 : am_T d 169 96 ls (.int x0 :: st) S I J Q = if x0 = 0 then am_T d 169 99 ls st S I J Q else am_T d 169 103 ls st S I J Q := tr_ifne (o := 7) (by decide +kernel) rfl
theorem r169_99 : am_T d 169 99 [l0, l1, l2, some (.int x0), l4, l5] st S I J Q = am_T d 169 100 [l0, l1, l2, some (.int x0), l4, l5] (.int x0 :: st) S I J Q := tr_iload_n (m := 3) (by decide +kernel) rfl
theorem r169_100 : am_T d 169 100 ls st S I J Q = am_T d 169 104 ls st S I J Q := tr_goto (o := 4) (by decide +kernel) rfl
theorem r169_103 : am_T d 169 103 [l0, l1, some (.int x0), l3, l4, l5] st S I J Q = am_T d 169 104 [l0, l1, some (.int x0), l3, l4, l5] (.int x0 :: st) S I J Q := tr_iload_n (m := 2) (by decide +kernel) rfl
theorem r169_104 : am_T d 169 104 ls [.int x0] S I J Q = Q (some (.int x0)) S I J := tr_ireti (by decide +kernel) (by decide +kernel)
-- 170 Mod.necessary(I)I; heads [21]
theorem e170 : am_C (d + 1) 170 [.ref a0, .int x1] S I J Q = am_T d 170 0 [some (.ref a0), some (.int x1), none, none, none] [] S I J Q := tr_en (Nat.le_of_ble_eq_true rfl) rfl
theorem r170_0 : am_T d 170 0 [l0, some (.int x0), l2, l3, l4] st S I J Q = am_T d 170 1 [l0, some (.int x0), l2, l3, l4] (.int x0 :: st) S I J Q := tr_iload_n (m := 1) (by decide +kernel) rfl
theorem r170_1 : am_T d 170 1 ls (.int x0 :: st) S I J Q = if 0 ≤ x0 then am_T d 170 7 ls st S I J Q else am_T d 170 4 ls st S I J Q := tr_ifge (o := 6) (by decide +kernel) rfl
theorem r170_4 : am_T d 170 4 ls st S I J Q = am_T d 170 6 ls (.int (-103) :: st) S I J Q := tr_bipush (m := -103) (by decide +kernel) (by decide)
theorem r170_6 : am_T d 170 6 ls [.int x0] S I J Q = Q (some (.int x0)) S I J := tr_ireti (by decide +kernel) (by decide +kernel)
theorem r170_7 : am_T d 170 7 [some (.ref a0), l1, l2, l3, l4] st S I J Q = am_T d 170 8 [some (.ref a0), l1, l2, l3, l4] (.ref a0 :: st) S I J Q := tr_aload_n (m := 0) (by decide +kernel) rfl
theorem r170_8 : am_T d 170 8 ls [.ref a0] S I J Q = (am_is S a0 9 ∧ am_C d 152 [.ref a0] S I J (fun r S I J => am_T d 170 11 ls (am_psh r []) S I J Q)) := tr_virt (k := 169) (by decide +kernel) (by decide +kernel) rfl rfl (Nat.le_of_ble_eq_true rfl) (by decide +kernel)
theorem r170_11 : am_T d 170 11 ls (.int x0 :: st) S I J Q = if x0 = 0 then am_T d 170 14 ls st S I J Q else am_T d 170 17 ls st S I J Q := tr_ifne (o := 6) (by decide +kernel) rfl
theorem r170_14 : am_T d 170 14 ls st S I J Q = am_T d 170 16 ls (.int (-106) :: st) S I J Q := tr_bipush (m := -106) (by decide +kernel) (by decide)
theorem r170_16 : am_T d 170 16 ls [.int x0] S I J Q = Q (some (.int x0)) S I J := tr_ireti (by decide +kernel) (by decide +kernel)
theorem r170_17 : am_T d 170 17 [l0, some (.int x0), l2, l3, l4] st S I J Q = am_T d 170 18 [l0, some (.int x0), l2, l3, l4] (.int x0 :: st) S I J Q := tr_iload_n (m := 1) (by decide +kernel) rfl
theorem r170_18 : am_T d 170 18 [l0, l1, l2, l3, l4] (.int x0 :: st) S I J Q = am_T d 170 19 [l0, am_clr l1, some (.int x0), l3, l4] st S I J Q := tr_istore_n (m := 2) (by decide +kernel) (Nat.le_of_ble_eq_true rfl) rfl
theorem r170_19 : am_T d 170 19 ls st S I J Q = am_T d 170 20 ls (.int 0 :: st) S I J Q := tr_iconst (m := 0) (by decide +kernel) (by decide)
theorem r170_20 : am_T d 170 20 [l0, l1, l2, l3, l4] (.int x0 :: st) S I J Q = am_T d 170 21 [l0, l1, am_clr l2, some (.int x0), l4] st S I J Q := tr_istore_n (m := 3) (by decide +kernel) (Nat.le_of_ble_eq_true rfl) rfl
theorem r170_21 : am_T d 170 21 [l0, l1, l2, some (.int x0), l4] st S I J Q = am_T d 170 22 [l0, l1, l2, some (.int x0), l4] (.int x0 :: st) S I J Q := tr_iload_n (m := 3) (by decide +kernel) rfl
theorem r170_22 : am_T d 170 22 [some (.ref a0), l1, l2, l3, l4] st S I J Q = am_T d 170 23 [some (.ref a0), l1, l2, l3, l4] (.ref a0 :: st) S I J Q := tr_aload_n (m := 0) (by decide +kernel) rfl
theorem r170_23 : am_T d 170 23 ls (.ref a0 :: st) S I J Q = ((am_is S a0 9 ∧ am_rf S a0 0 ≠ 0) ∧ am_T d 170 26 ls (.ref (am_rf S a0 0) :: st) S I J Q) := tr_geta (k := 7) (by decide +kernel) (by decide +kernel) (by decide +kernel)
theorem r170_26 : am_T d 170 26 ls st S I J Q = am_T d 170 27 ls (.int 2 :: st) S I J Q := tr_iconst (m := 2) (by decide +kernel) (by decide)
theorem r170_27 : am_T d 170 27 ls (.int x0 :: .ref a0 :: st) S I J Q = (am_ix S a0 20 x0 ∧ am_T d 170 28 ls (.int (I a0 x0.toNatClampNeg) :: st) S I J Q) := tr_iald (by decide +kernel)
theorem r170_28 : am_T d 170 28 ls (.int x1 :: .int x0 :: st) S I J Q = if x1 ≤ x0 then am_T d 170 77 ls st S I J Q else am_T d 170 31 ls st S I J Q := tr_icmpge (o := 49) (by decide +kernel) rfl
theorem r170_31 : am_T d 170 31 [some (.ref a0), l1, l2, l3, l4] st S I J Q = am_T d 170 32 [some (.ref a0), l1, l2, l3, l4] (.ref a0 :: st) S I J Q := tr_aload_n (m := 0) (by decide +kernel) rfl
theorem r170_32 : am_T d 170 32 [l0, l1, l2, some (.int x0), l4] st S I J Q = am_T d 170 33 [l0, l1, l2, some (.int x0), l4] (.int x0 :: st) S I J Q := tr_iload_n (m := 3) (by decide +kernel) rfl
theorem r170_33 : am_T d 170 33 ls [.int x1, .ref a0] S I J Q = (am_is S a0 9 ∧ am_C d 121 [.ref a0, .int x1] S I J (fun r S I J => am_T d 170 36 ls (am_psh r []) S I J Q)) := tr_virt (k := 93) (by decide +kernel) (by decide +kernel) rfl rfl (Nat.le_of_ble_eq_true rfl) (by decide +kernel)
theorem r170_36 : am_T d 170 36 ls (.int x0 :: st) S I J Q = if x0 = 0 then am_T d 170 71 ls st S I J Q else am_T d 170 39 ls st S I J Q := tr_ifeq (o := 35) (by decide +kernel) rfl
theorem r170_39 : am_T d 170 39 [some (.ref a0), l1, l2, l3, l4] st S I J Q = am_T d 170 40 [some (.ref a0), l1, l2, l3, l4] (.ref a0 :: st) S I J Q := tr_aload_n (m := 0) (by decide +kernel) rfl
theorem r170_40 : am_T d 170 40 [l0, l1, l2, some (.int x0), l4] st S I J Q = am_T d 170 41 [l0, l1, l2, some (.int x0), l4] (.int x0 :: st) S I J Q := tr_iload_n (m := 3) (by decide +kernel) rfl
theorem r170_41 : am_T d 170 41 ls [.int x1, .ref a0] S I J Q = (am_is S a0 9 ∧ am_C d 164 [.ref a0, .int x1] S I J (fun r S I J => am_T d 170 44 ls (am_psh r []) S I J Q)) := tr_virt (k := 178) (by decide +kernel) (by decide +kernel) rfl rfl (Nat.le_of_ble_eq_true rfl) (by decide +kernel)
theorem r170_44 : am_T d 170 44 [l0, l1, l2, l3, l4] (.int x0 :: st) S I J Q = am_T d 170 46 [l0, l1, l2, am_clr l3, some (.int x0)] st S I J Q := tr_istore (k := 4) (by decide +kernel) (Nat.le_of_ble_eq_true rfl) rfl
theorem r170_46 : am_T d 170 46 [l0, l1, l2, l3, some (.int x0)] st S I J Q = am_T d 170 48 [l0, l1, l2, l3, some (.int x0)] (.int x0 :: st) S I J Q := tr_iload (k := 4) (by decide +kernel) rfl
theorem r170_48 : am_T d 170 48 ls st S I J Q = am_T d 170 50 ls (.int (-107) :: st) S I J Q := tr_bipush (m := -107) (by decide +kernel) (by decide)
theorem r170_50 : am_T d 170 50 ls (.int x1 :: .int x0 :: st) S I J Q = if x0 = x1 then am_T d 170 62 ls st S I J Q else am_T d 170 53 ls st S I J Q := tr_icmpeq (o := 12) (by decide +kernel) rfl
theorem r170_53 : am_T d 170 53 [l0, l1, l2, l3, some (.int x0)] st S I J Q = am_T d 170 55 [l0, l1, l2, l3, some (.int x0)] (.int x0 :: st) S I J Q := tr_iload (k := 4) (by decide +kernel) rfl
theorem r170_55 : am_T d 170 55 [some (.ref a0), l1, l2, l3, l4] st S I J Q = am_T d 170 56 [some (.ref a0), l1, l2, l3, l4] (.ref a0 :: st) S I J Q := tr_aload_n (m := 0) (by decide +kernel) rfl
theorem r170_56 : am_T d 170 56 ls [.ref a0, .int x10] S I J Q = (am_is S a0 9 ∧ am_C d 157 [.ref a0] S I J (fun r S I J => am_T d 170 59 ls (am_psh r [.int x10]) S I J Q)) := tr_virt (k := 172) (by decide +kernel) (by decide +kernel) rfl rfl (Nat.le_of_ble_eq_true rfl) (by decide +kernel)
theorem r170_59 : am_T d 170 59 ls (.int x1 :: .int x0 :: st) S I J Q = if x0 ≤ x1 then am_T d 170 71 ls st S I J Q else am_T d 170 62 ls st S I J Q := tr_icmple (o := 12) (by decide +kernel) rfl
theorem r170_62 : am_T d 170 62 [l0, l1, some (.int x0), l3, l4] st S I J Q = am_T d 170 63 [l0, l1, some (.int x0), l3, l4] (.int x0 :: st) S I J Q := tr_iload_n (m := 2) (by decide +kernel) rfl
theorem r170_63 : am_T d 170 63 ls (.int x0 :: st) S I J Q = if x0 = 0 then am_T d 170 66 ls st S I J Q else am_T d 170 68 ls st S I J Q := tr_ifne (o := 5) (by decide +kernel) rfl
theorem r170_66 : am_T d 170 66 [l0, l1, l2, some (.int x0), l4] st S I J Q = am_T d 170 67 [l0, l1, l2, some (.int x0), l4] (.int x0 :: st) S I J Q := tr_iload_n (m := 3) (by decide +kernel) rfl
theorem r170_67 : am_T d 170 67 ls [.int x0] S I J Q = Q (some (.int x0)) S I J := tr_ireti (by decide +kernel) (by decide +kernel)
theorem r170_68 : am_T d 170 68 [l0, l1, some (.int x0), l3, l4] st S I J Q = am_T d 170 71 [l0, am_clr l1, some (.int (x0 + (-1))), l3, l4] st S I J Q := tr_iinc (k := 2) (m := -1) (by decide +kernel) rfl (Nat.le_of_ble_eq_true rfl) (by decide) rfl
theorem r170_71 : am_T d 170 71 [l0, l1, l2, some (.int x0), l4] st S I J Q = am_T d 170 74 [l0, l1, am_clr l2, some (.int (x0 + 1)), l4] st S I J Q := tr_iinc (k := 3) (m := 1) (by decide +kernel) rfl (Nat.le_of_ble_eq_true rfl) (by decide) rfl
theorem r170_74 : am_T d 170 74 ls st S I J Q = am_T d 170 21 ls st S I J Q := tr_goto (o := -53) (by decide +kernel) rfl
theorem r170_77 : am_T d 170 77 ls st S I J Q = am_T d 170 79 ls (.int (-107) :: st) S I J Q := tr_bipush (m := -107) (by decide +kernel) (by decide)
theorem r170_79 : am_T d 170 79 ls [.int x0] S I J Q = Q (some (.int x0)) S I J := tr_ireti (by decide +kernel) (by decide +kernel)
-- 171 Mod.nextArc(II)I; heads [4]
theorem e171 : am_C (d + 1) 171 [.ref a0, .int x1, .int x2] S I J Q = am_T d 171 0 [some (.ref a0), some (.int x1), some (.int x2), none] [] S I J Q := tr_en (Nat.le_of_ble_eq_true rfl) rfl
theorem r171_0 : am_T d 171 0 [l0, l1, some (.int x0), l3] st S I J Q = am_T d 171 1 [l0, l1, some (.int x0), l3] (.int x0 :: st) S I J Q := tr_iload_n (m := 2) (by decide +kernel) rfl
theorem r171_1 : am_T d 171 1 ls st S I J Q = am_T d 171 2 ls (.int 1 :: st) S I J Q := tr_iconst (m := 1) (by decide +kernel) (by decide)
theorem r171_2 : am_T d 171 2 ls (.int x1 :: .int x0 :: st) S I J Q = am_T d 171 3 ls (.int (x0 + x1) :: st) S I J Q := tr_iadd (by decide +kernel)
theorem r171_3 : am_T d 171 3 [l0, l1, l2, l3] (.int x0 :: st) S I J Q = am_T d 171 4 [l0, l1, am_clr l2, some (.int x0)] st S I J Q := tr_istore_n (m := 3) (by decide +kernel) (Nat.le_of_ble_eq_true rfl) rfl
theorem r171_4 : am_T d 171 4 [l0, l1, l2, some (.int x0)] st S I J Q = am_T d 171 5 [l0, l1, l2, some (.int x0)] (.int x0 :: st) S I J Q := tr_iload_n (m := 3) (by decide +kernel) rfl
theorem r171_5 : am_T d 171 5 [some (.ref a0), l1, l2, l3] st S I J Q = am_T d 171 6 [some (.ref a0), l1, l2, l3] (.ref a0 :: st) S I J Q := tr_aload_n (m := 0) (by decide +kernel) rfl
theorem r171_6 : am_T d 171 6 ls (.ref a0 :: st) S I J Q = ((am_is S a0 9 ∧ am_rf S a0 0 ≠ 0) ∧ am_T d 171 9 ls (.ref (am_rf S a0 0) :: st) S I J Q) := tr_geta (k := 7) (by decide +kernel) (by decide +kernel) (by decide +kernel)
theorem r171_9 : am_T d 171 9 ls st S I J Q = am_T d 171 10 ls (.int 2 :: st) S I J Q := tr_iconst (m := 2) (by decide +kernel) (by decide)
theorem r171_10 : am_T d 171 10 ls (.int x0 :: .ref a0 :: st) S I J Q = (am_ix S a0 20 x0 ∧ am_T d 171 11 ls (.int (I a0 x0.toNatClampNeg) :: st) S I J Q) := tr_iald (by decide +kernel)
theorem r171_11 : am_T d 171 11 ls (.int x1 :: .int x0 :: st) S I J Q = if x1 ≤ x0 then am_T d 171 35 ls st S I J Q else am_T d 171 14 ls st S I J Q := tr_icmpge (o := 24) (by decide +kernel) rfl
theorem r171_14 : am_T d 171 14 [some (.ref a0), l1, l2, l3] st S I J Q = am_T d 171 15 [some (.ref a0), l1, l2, l3] (.ref a0 :: st) S I J Q := tr_aload_n (m := 0) (by decide +kernel) rfl
theorem r171_15 : am_T d 171 15 ls (.ref a0 :: st) S I J Q = ((am_is S a0 9 ∧ am_rf S a0 0 ≠ 0) ∧ am_T d 171 18 ls (.ref (am_rf S a0 0) :: st) S I J Q) := tr_geta (k := 7) (by decide +kernel) (by decide +kernel) (by decide +kernel)
theorem r171_18 : am_T d 171 18 ls st S I J Q = am_T d 171 20 ls (.int 35 :: st) S I J Q := tr_bipush (m := 35) (by decide +kernel) (by decide)
theorem r171_20 : am_T d 171 20 [l0, l1, l2, some (.int x0)] st S I J Q = am_T d 171 21 [l0, l1, l2, some (.int x0)] (.int x0 :: st) S I J Q := tr_iload_n (m := 3) (by decide +kernel) rfl
theorem r171_21 : am_T d 171 21 ls (.int x1 :: .int x0 :: st) S I J Q = am_T d 171 22 ls (.int (x0 + x1) :: st) S I J Q := tr_iadd (by decide +kernel)
theorem r171_22 : am_T d 171 22 ls (.int x0 :: .ref a0 :: st) S I J Q = (am_ix S a0 20 x0 ∧ am_T d 171 23 ls (.int (I a0 x0.toNatClampNeg) :: st) S I J Q) := tr_iald (by decide +kernel)
theorem r171_23 : am_T d 171 23 [l0, some (.int x0), l2, l3] st S I J Q = am_T d 171 24 [l0, some (.int x0), l2, l3] (.int x0 :: st) S I J Q := tr_iload_n (m := 1) (by decide +kernel) rfl
theorem r171_24 : am_T d 171 24 ls (.int x1 :: .int x0 :: st) S I J Q = if x0 = x1 then am_T d 171 27 ls st S I J Q else am_T d 171 29 ls st S I J Q := tr_icmpne (o := 5) (by decide +kernel) rfl
theorem r171_27 : am_T d 171 27 [l0, l1, l2, some (.int x0)] st S I J Q = am_T d 171 28 [l0, l1, l2, some (.int x0)] (.int x0 :: st) S I J Q := tr_iload_n (m := 3) (by decide +kernel) rfl
theorem r171_28 : am_T d 171 28 ls [.int x0] S I J Q = Q (some (.int x0)) S I J := tr_ireti (by decide +kernel) (by decide +kernel)
theorem r171_29 : am_T d 171 29 [l0, l1, l2, some (.int x0)] st S I J Q = am_T d 171 32 [l0, l1, am_clr l2, some (.int (x0 + 1))] st S I J Q := tr_iinc (k := 3) (m := 1) (by decide +kernel) rfl (Nat.le_of_ble_eq_true rfl) (by decide) rfl
theorem r171_32 : am_T d 171 32 ls st S I J Q = am_T d 171 4 ls st S I J Q := tr_goto (o := -28) (by decide +kernel) rfl
theorem r171_35 : am_T d 171 35 ls st S I J Q = am_T d 171 37 ls (.int (-107) :: st) S I J Q := tr_bipush (m := -107) (by decide +kernel) (by decide)
theorem r171_37 : am_T d 171 37 ls [.int x0] S I J Q = Q (some (.int x0)) S I J := tr_ireti (by decide +kernel) (by decide +kernel)
-- 172 Mod.isArborescence()Z; heads [2, 16]
theorem e172 : am_C (d + 1) 172 [.ref a0] S I J Q = am_T d 172 0 [some (.ref a0), none, none, none] [] S I J Q := tr_en (Nat.le_of_ble_eq_true rfl) rfl
theorem r172_0 : am_T d 172 0 ls st S I J Q = am_T d 172 1 ls (.int 0 :: st) S I J Q := tr_iconst (m := 0) (by decide +kernel) (by decide)
theorem r172_1 : am_T d 172 1 [l0, l1, l2, l3] (.int x0 :: st) S I J Q = am_T d 172 2 [am_clr l0, some (.int x0), l2, l3] st S I J Q := tr_istore_n (m := 1) (by decide +kernel) (Nat.le_of_ble_eq_true rfl) rfl
theorem r172_2 : am_T d 172 2 [l0, some (.int x0), l2, l3] st S I J Q = am_T d 172 3 [l0, some (.int x0), l2, l3] (.int x0 :: st) S I J Q := tr_iload_n (m := 1) (by decide +kernel) rfl
theorem r172_3 : am_T d 172 3 [some (.ref a0), l1, l2, l3] st S I J Q = am_T d 172 4 [some (.ref a0), l1, l2, l3] (.ref a0 :: st) S I J Q := tr_aload_n (m := 0) (by decide +kernel) rfl
theorem r172_4 : am_T d 172 4 ls (.ref a0 :: st) S I J Q = ((am_is S a0 9 ∧ am_rf S a0 0 ≠ 0) ∧ am_T d 172 7 ls (.ref (am_rf S a0 0) :: st) S I J Q) := tr_geta (k := 7) (by decide +kernel) (by decide +kernel) (by decide +kernel)
theorem r172_7 : am_T d 172 7 ls st S I J Q = am_T d 172 8 ls (.int 0 :: st) S I J Q := tr_iconst (m := 0) (by decide +kernel) (by decide)
theorem r172_8 : am_T d 172 8 ls (.int x0 :: .ref a0 :: st) S I J Q = (am_ix S a0 20 x0 ∧ am_T d 172 9 ls (.int (I a0 x0.toNatClampNeg) :: st) S I J Q) := tr_iald (by decide +kernel)
theorem r172_9 : am_T d 172 9 ls (.int x1 :: .int x0 :: st) S I J Q = if x1 ≤ x0 then am_T d 172 74 ls st S I J Q else am_T d 172 12 ls st S I J Q := tr_icmpge (o := 65) (by decide +kernel) rfl
theorem r172_12 : am_T d 172 12 [l0, some (.int x0), l2, l3] st S I J Q = am_T d 172 13 [l0, some (.int x0), l2, l3] (.int x0 :: st) S I J Q := tr_iload_n (m := 1) (by decide +kernel) rfl
theorem r172_13 : am_T d 172 13 [l0, l1, l2, l3] (.int x0 :: st) S I J Q = am_T d 172 14 [l0, am_clr l1, some (.int x0), l3] st S I J Q := tr_istore_n (m := 2) (by decide +kernel) (Nat.le_of_ble_eq_true rfl) rfl
theorem r172_14 : am_T d 172 14 ls st S I J Q = am_T d 172 15 ls (.int 0 :: st) S I J Q := tr_iconst (m := 0) (by decide +kernel) (by decide)
theorem r172_15 : am_T d 172 15 [l0, l1, l2, l3] (.int x0 :: st) S I J Q = am_T d 172 16 [l0, l1, am_clr l2, some (.int x0)] st S I J Q := tr_istore_n (m := 3) (by decide +kernel) (Nat.le_of_ble_eq_true rfl) rfl
theorem r172_16 : am_T d 172 16 [l0, l1, l2, some (.int x0)] st S I J Q = am_T d 172 17 [l0, l1, l2, some (.int x0)] (.int x0 :: st) S I J Q := tr_iload_n (m := 3) (by decide +kernel) rfl
theorem r172_17 : am_T d 172 17 [some (.ref a0), l1, l2, l3] st S I J Q = am_T d 172 18 [some (.ref a0), l1, l2, l3] (.ref a0 :: st) S I J Q := tr_aload_n (m := 0) (by decide +kernel) rfl
theorem r172_18 : am_T d 172 18 ls (.ref a0 :: st) S I J Q = ((am_is S a0 9 ∧ am_rf S a0 0 ≠ 0) ∧ am_T d 172 21 ls (.ref (am_rf S a0 0) :: st) S I J Q) := tr_geta (k := 7) (by decide +kernel) (by decide +kernel) (by decide +kernel)
theorem r172_21 : am_T d 172 21 ls st S I J Q = am_T d 172 22 ls (.int 0 :: st) S I J Q := tr_iconst (m := 0) (by decide +kernel) (by decide)
theorem r172_22 : am_T d 172 22 ls (.int x0 :: .ref a0 :: st) S I J Q = (am_ix S a0 20 x0 ∧ am_T d 172 23 ls (.int (I a0 x0.toNatClampNeg) :: st) S I J Q) := tr_iald (by decide +kernel)
theorem r172_23 : am_T d 172 23 ls (.int x1 :: .int x0 :: st) S I J Q = if x1 ≤ x0 then am_T d 172 56 ls st S I J Q else am_T d 172 26 ls st S I J Q := tr_icmpge (o := 33) (by decide +kernel) rfl
theorem r172_26 : am_T d 172 26 [l0, l1, some (.int x0), l3] st S I J Q = am_T d 172 27 [l0, l1, some (.int x0), l3] (.int x0 :: st) S I J Q := tr_iload_n (m := 2) (by decide +kernel) rfl
theorem r172_27 : am_T d 172 27 [some (.ref a0), l1, l2, l3] st S I J Q = am_T d 172 28 [some (.ref a0), l1, l2, l3] (.ref a0 :: st) S I J Q := tr_aload_n (m := 0) (by decide +kernel) rfl
theorem r172_28 : am_T d 172 28 ls (.ref a0 :: st) S I J Q = ((am_is S a0 9 ∧ am_rf S a0 0 ≠ 0) ∧ am_T d 172 31 ls (.ref (am_rf S a0 0) :: st) S I J Q) := tr_geta (k := 7) (by decide +kernel) (by decide +kernel) (by decide +kernel)
theorem r172_31 : am_T d 172 31 ls st S I J Q = am_T d 172 32 ls (.int 1 :: st) S I J Q := tr_iconst (m := 1) (by decide +kernel) (by decide)
theorem r172_32 : am_T d 172 32 ls (.int x0 :: .ref a0 :: st) S I J Q = (am_ix S a0 20 x0 ∧ am_T d 172 33 ls (.int (I a0 x0.toNatClampNeg) :: st) S I J Q) := tr_iald (by decide +kernel)
theorem r172_33 : am_T d 172 33 ls (.int x1 :: .int x0 :: st) S I J Q = if x0 = x1 then am_T d 172 56 ls st S I J Q else am_T d 172 36 ls st S I J Q := tr_icmpeq (o := 23) (by decide +kernel) rfl
theorem r172_36 : am_T d 172 36 [some (.ref a0), l1, l2, l3] st S I J Q = am_T d 172 37 [some (.ref a0), l1, l2, l3] (.ref a0 :: st) S I J Q := tr_aload_n (m := 0) (by decide +kernel) rfl
theorem r172_37 : am_T d 172 37 ls (.ref a0 :: st) S I J Q = ((am_is S a0 9 ∧ am_rf S a0 0 ≠ 0) ∧ am_T d 172 40 ls (.ref (am_rf S a0 0) :: st) S I J Q) := tr_geta (k := 7) (by decide +kernel) (by decide +kernel) (by decide +kernel)
theorem r172_40 : am_T d 172 40 ls st S I J Q = am_T d 172 41 ls (.int 3 :: st) S I J Q := tr_iconst (m := 3) (by decide +kernel) (by decide)
theorem r172_41 : am_T d 172 41 [some (.ref a0), l1, l2, l3] st S I J Q = am_T d 172 42 [some (.ref a0), l1, l2, l3] (.ref a0 :: st) S I J Q := tr_aload_n (m := 0) (by decide +kernel) rfl
theorem r172_42 : am_T d 172 42 ls (.ref a0 :: st) S I J Q = ((am_is S a0 9 ∧ am_rf S a0 21 ≠ 0) ∧ am_T d 172 45 ls (.ref (am_rf S a0 21) :: st) S I J Q) := tr_geta (k := 47) (by decide +kernel) (by decide +kernel) (by decide +kernel)
theorem r172_45 : am_T d 172 45 [l0, l1, some (.int x0), l3] st S I J Q = am_T d 172 46 [l0, l1, some (.int x0), l3] (.int x0 :: st) S I J Q := tr_iload_n (m := 2) (by decide +kernel) rfl
theorem r172_46 : am_T d 172 46 ls (.int x0 :: .ref a0 :: st) S I J Q = (am_ix S a0 20 x0 ∧ am_T d 172 47 ls (.int (I a0 x0.toNatClampNeg) :: st) S I J Q) := tr_iald (by decide +kernel)
theorem r172_47 : am_T d 172 47 ls (.int x1 :: .int x0 :: st) S I J Q = am_T d 172 48 ls (.int (x0 + x1) :: st) S I J Q := tr_iadd (by decide +kernel)
theorem r172_48 : am_T d 172 48 ls (.int x0 :: .ref a0 :: st) S I J Q = (am_ix S a0 20 x0 ∧ am_T d 172 49 ls (.int (I a0 x0.toNatClampNeg) :: st) S I J Q) := tr_iald (by decide +kernel)
theorem r172_49 : am_T d 172 49 [l0, l1, l2, l3] (.int x0 :: st) S I J Q = am_T d 172 50 [l0, am_clr l1, some (.int x0), l3] st S I J Q := tr_istore_n (m := 2) (by decide +kernel) (Nat.le_of_ble_eq_true rfl) rfl
theorem r172_50 : am_T d 172 50 [l0, l1, l2, some (.int x0)] st S I J Q = am_T d 172 53 [l0, l1, am_clr l2, some (.int (x0 + 1))] st S I J Q := tr_iinc (k := 3) (m := 1) (by decide +kernel) rfl (Nat.le_of_ble_eq_true rfl) (by decide) rfl
theorem r172_53 : am_T d 172 53 ls st S I J Q = am_T d 172 16 ls st S I J Q := tr_goto (o := -37) (by decide +kernel) rfl
theorem r172_56 : am_T d 172 56 [l0, l1, some (.int x0), l3] st S I J Q = am_T d 172 57 [l0, l1, some (.int x0), l3] (.int x0 :: st) S I J Q := tr_iload_n (m := 2) (by decide +kernel) rfl
theorem r172_57 : am_T d 172 57 [some (.ref a0), l1, l2, l3] st S I J Q = am_T d 172 58 [some (.ref a0), l1, l2, l3] (.ref a0 :: st) S I J Q := tr_aload_n (m := 0) (by decide +kernel) rfl
theorem r172_58 : am_T d 172 58 ls (.ref a0 :: st) S I J Q = ((am_is S a0 9 ∧ am_rf S a0 0 ≠ 0) ∧ am_T d 172 61 ls (.ref (am_rf S a0 0) :: st) S I J Q) := tr_geta (k := 7) (by decide +kernel) (by decide +kernel) (by decide +kernel)
theorem r172_61 : am_T d 172 61 ls st S I J Q = am_T d 172 62 ls (.int 1 :: st) S I J Q := tr_iconst (m := 1) (by decide +kernel) (by decide)
theorem r172_62 : am_T d 172 62 ls (.int x0 :: .ref a0 :: st) S I J Q = (am_ix S a0 20 x0 ∧ am_T d 172 63 ls (.int (I a0 x0.toNatClampNeg) :: st) S I J Q) := tr_iald (by decide +kernel)
theorem r172_63 : am_T d 172 63 ls (.int x1 :: .int x0 :: st) S I J Q = if x0 = x1 then am_T d 172 68 ls st S I J Q else am_T d 172 66 ls st S I J Q := tr_icmpeq (o := 5) (by decide +kernel) rfl
theorem r172_66 : am_T d 172 66 ls st S I J Q = am_T d 172 67 ls (.int 0 :: st) S I J Q := tr_iconst (m := 0) (by decide +kernel) (by decide)
theorem r172_67 : am_T d 172 67 ls [.int x0] S I J Q = ((x0 = 0 ∨ x0 = 1) ∧ Q (some (.int x0)) S I J) := tr_iretz (by decide +kernel) (by decide +kernel)
theorem r172_68 : am_T d 172 68 [l0, some (.int x0), l2, l3] st S I J Q = am_T d 172 71 [am_clr l0, some (.int (x0 + 1)), l2, l3] st S I J Q := tr_iinc (k := 1) (m := 1) (by decide +kernel) rfl (Nat.le_of_ble_eq_true rfl) (by decide) rfl
theorem r172_71 : am_T d 172 71 ls st S I J Q = am_T d 172 2 ls st S I J Q := tr_goto (o := -69) (by decide +kernel) rfl
theorem r172_74 : am_T d 172 74 ls st S I J Q = am_T d 172 75 ls (.int 1 :: st) S I J Q := tr_iconst (m := 1) (by decide +kernel) (by decide)
theorem r172_75 : am_T d 172 75 ls [.int x0] S I J Q = ((x0 = 0 ∨ x0 = 1) ∧ Q (some (.int x0)) S I J) := tr_iretz (by decide +kernel) (by decide +kernel)
-- 173 Mod.isLimited()Z; heads [2, 16]
theorem e173 : am_C (d + 1) 173 [.ref a0] S I J Q = am_T d 173 0 [some (.ref a0), none, none, none] [] S I J Q := tr_en (Nat.le_of_ble_eq_true rfl) rfl
theorem r173_0 : am_T d 173 0 ls st S I J Q = am_T d 173 1 ls (.int 0 :: st) S I J Q := tr_iconst (m := 0) (by decide +kernel) (by decide)
theorem r173_1 : am_T d 173 1 [l0, l1, l2, l3] (.int x0 :: st) S I J Q = am_T d 173 2 [am_clr l0, some (.int x0), l2, l3] st S I J Q := tr_istore_n (m := 1) (by decide +kernel) (Nat.le_of_ble_eq_true rfl) rfl
theorem r173_2 : am_T d 173 2 [l0, some (.int x0), l2, l3] st S I J Q = am_T d 173 3 [l0, some (.int x0), l2, l3] (.int x0 :: st) S I J Q := tr_iload_n (m := 1) (by decide +kernel) rfl
theorem r173_3 : am_T d 173 3 [some (.ref a0), l1, l2, l3] st S I J Q = am_T d 173 4 [some (.ref a0), l1, l2, l3] (.ref a0 :: st) S I J Q := tr_aload_n (m := 0) (by decide +kernel) rfl
theorem r173_4 : am_T d 173 4 ls (.ref a0 :: st) S I J Q = ((am_is S a0 9 ∧ am_rf S a0 0 ≠ 0) ∧ am_T d 173 7 ls (.ref (am_rf S a0 0) :: st) S I J Q) := tr_geta (k := 7) (by decide +kernel) (by decide +kernel) (by decide +kernel)
theorem r173_7 : am_T d 173 7 ls st S I J Q = am_T d 173 8 ls (.int 0 :: st) S I J Q := tr_iconst (m := 0) (by decide +kernel) (by decide)
theorem r173_8 : am_T d 173 8 ls (.int x0 :: .ref a0 :: st) S I J Q = (am_ix S a0 20 x0 ∧ am_T d 173 9 ls (.int (I a0 x0.toNatClampNeg) :: st) S I J Q) := tr_iald (by decide +kernel)
theorem r173_9 : am_T d 173 9 ls (.int x1 :: .int x0 :: st) S I J Q = if x1 ≤ x0 then am_T d 173 88 ls st S I J Q else am_T d 173 12 ls st S I J Q := tr_icmpge (o := 79) (by decide +kernel) rfl
theorem r173_12 : am_T d 173 12 ls st S I J Q = am_T d 173 13 ls (.int 0 :: st) S I J Q := tr_iconst (m := 0) (by decide +kernel) (by decide)
theorem r173_13 : am_T d 173 13 [l0, l1, l2, l3] (.int x0 :: st) S I J Q = am_T d 173 14 [l0, am_clr l1, some (.int x0), l3] st S I J Q := tr_istore_n (m := 2) (by decide +kernel) (Nat.le_of_ble_eq_true rfl) rfl
theorem r173_14 : am_T d 173 14 ls st S I J Q = am_T d 173 15 ls (.int 0 :: st) S I J Q := tr_iconst (m := 0) (by decide +kernel) (by decide)
theorem r173_15 : am_T d 173 15 [l0, l1, l2, l3] (.int x0 :: st) S I J Q = am_T d 173 16 [l0, l1, am_clr l2, some (.int x0)] st S I J Q := tr_istore_n (m := 3) (by decide +kernel) (Nat.le_of_ble_eq_true rfl) rfl
theorem r173_16 : am_T d 173 16 [l0, l1, l2, some (.int x0)] st S I J Q = am_T d 173 17 [l0, l1, l2, some (.int x0)] (.int x0 :: st) S I J Q := tr_iload_n (m := 3) (by decide +kernel) rfl
theorem r173_17 : am_T d 173 17 [some (.ref a0), l1, l2, l3] st S I J Q = am_T d 173 18 [some (.ref a0), l1, l2, l3] (.ref a0 :: st) S I J Q := tr_aload_n (m := 0) (by decide +kernel) rfl
theorem r173_18 : am_T d 173 18 ls (.ref a0 :: st) S I J Q = ((am_is S a0 9 ∧ am_rf S a0 0 ≠ 0) ∧ am_T d 173 21 ls (.ref (am_rf S a0 0) :: st) S I J Q) := tr_geta (k := 7) (by decide +kernel) (by decide +kernel) (by decide +kernel)
theorem r173_21 : am_T d 173 21 ls st S I J Q = am_T d 173 22 ls (.int 0 :: st) S I J Q := tr_iconst (m := 0) (by decide +kernel) (by decide)
theorem r173_22 : am_T d 173 22 ls (.int x0 :: .ref a0 :: st) S I J Q = (am_ix S a0 20 x0 ∧ am_T d 173 23 ls (.int (I a0 x0.toNatClampNeg) :: st) S I J Q) := tr_iald (by decide +kernel)
theorem r173_23 : am_T d 173 23 ls (.int x1 :: .int x0 :: st) S I J Q = if x1 ≤ x0 then am_T d 173 67 ls st S I J Q else am_T d 173 26 ls st S I J Q := tr_icmpge (o := 44) (by decide +kernel) rfl
theorem r173_26 : am_T d 173 26 [l0, l1, some (.int x0), l3] st S I J Q = am_T d 173 27 [l0, l1, some (.int x0), l3] (.int x0 :: st) S I J Q := tr_iload_n (m := 2) (by decide +kernel) rfl
theorem r173_27 : am_T d 173 27 [l0, l1, l2, some (.int x0)] st S I J Q = am_T d 173 28 [l0, l1, l2, some (.int x0)] (.int x0 :: st) S I J Q := tr_iload_n (m := 3) (by decide +kernel) rfl
theorem r173_28 : am_T d 173 28 [some (.ref a0), l1, l2, l3] st S I J Q = am_T d 173 29 [some (.ref a0), l1, l2, l3] (.ref a0 :: st) S I J Q := tr_aload_n (m := 0) (by decide +kernel) rfl
theorem r173_29 : am_T d 173 29 ls (.ref a0 :: st) S I J Q = ((am_is S a0 9 ∧ am_rf S a0 0 ≠ 0) ∧ am_T d 173 32 ls (.ref (am_rf S a0 0) :: st) S I J Q) := tr_geta (k := 7) (by decide +kernel) (by decide +kernel) (by decide +kernel)
theorem r173_32 : am_T d 173 32 ls st S I J Q = am_T d 173 33 ls (.int 1 :: st) S I J Q := tr_iconst (m := 1) (by decide +kernel) (by decide)
theorem r173_33 : am_T d 173 33 ls (.int x0 :: .ref a0 :: st) S I J Q = (am_ix S a0 20 x0 ∧ am_T d 173 34 ls (.int (I a0 x0.toNatClampNeg) :: st) S I J Q) := tr_iald (by decide +kernel)
theorem r173_34 : am_T d 173 34 ls (.int x1 :: .int x0 :: st) S I J Q = if x0 = x1 then am_T d 173 58 ls st S I J Q else am_T d 173 37 ls st S I J Q := tr_icmpeq (o := 24) (by decide +kernel) rfl
theorem r173_37 : am_T d 173 37 [some (.ref a0), l1, l2, l3] st S I J Q = am_T d 173 38 [some (.ref a0), l1, l2, l3] (.ref a0 :: st) S I J Q := tr_aload_n (m := 0) (by decide +kernel) rfl
theorem r173_38 : am_T d 173 38 ls (.ref a0 :: st) S I J Q = ((am_is S a0 9 ∧ am_rf S a0 0 ≠ 0) ∧ am_T d 173 41 ls (.ref (am_rf S a0 0) :: st) S I J Q) := tr_geta (k := 7) (by decide +kernel) (by decide +kernel) (by decide +kernel)
theorem r173_41 : am_T d 173 41 ls st S I J Q = am_T d 173 42 ls (.int 3 :: st) S I J Q := tr_iconst (m := 3) (by decide +kernel) (by decide)
theorem r173_42 : am_T d 173 42 [some (.ref a0), l1, l2, l3] st S I J Q = am_T d 173 43 [some (.ref a0), l1, l2, l3] (.ref a0 :: st) S I J Q := tr_aload_n (m := 0) (by decide +kernel) rfl
theorem r173_43 : am_T d 173 43 ls (.ref a0 :: st) S I J Q = ((am_is S a0 9 ∧ am_rf S a0 21 ≠ 0) ∧ am_T d 173 46 ls (.ref (am_rf S a0 21) :: st) S I J Q) := tr_geta (k := 47) (by decide +kernel) (by decide +kernel) (by decide +kernel)
theorem r173_46 : am_T d 173 46 [l0, l1, l2, some (.int x0)] st S I J Q = am_T d 173 47 [l0, l1, l2, some (.int x0)] (.int x0 :: st) S I J Q := tr_iload_n (m := 3) (by decide +kernel) rfl
theorem r173_47 : am_T d 173 47 ls (.int x0 :: .ref a0 :: st) S I J Q = (am_ix S a0 20 x0 ∧ am_T d 173 48 ls (.int (I a0 x0.toNatClampNeg) :: st) S I J Q) := tr_iald (by decide +kernel)
theorem r173_48 : am_T d 173 48 ls (.int x1 :: .int x0 :: st) S I J Q = am_T d 173 49 ls (.int (x0 + x1) :: st) S I J Q := tr_iadd (by decide +kernel)
theorem r173_49 : am_T d 173 49 ls (.int x0 :: .ref a0 :: st) S I J Q = (am_ix S a0 20 x0 ∧ am_T d 173 50 ls (.int (I a0 x0.toNatClampNeg) :: st) S I J Q) := tr_iald (by decide +kernel)
theorem r173_50 : am_T d 173 50 [l0, some (.int x0), l2, l3] st S I J Q = am_T d 173 51 [l0, some (.int x0), l2, l3] (.int x0 :: st) S I J Q := tr_iload_n (m := 1) (by decide +kernel) rfl
theorem r173_51 : am_T d 173 51 ls (.int x1 :: .int x0 :: st) S I J Q = if x0 = x1 then am_T d 173 54 ls st S I J Q else am_T d 173 58 ls st S I J Q := tr_icmpne (o := 7) (by decide +kernel) rfl
theorem r173_54 : am_T d 173 54 ls st S I J Q = am_T d 173 55 ls (.int 1 :: st) S I J Q := tr_iconst (m := 1) (by decide +kernel) (by decide)
theorem r173_55 : am_T d 173 55 ls st S I J Q = am_T d 173 59 ls st S I J Q := tr_goto (o := 4) (by decide +kernel) rfl
theorem r173_58 : am_T d 173 58 ls st S I J Q = am_T d 173 59 ls (.int 0 :: st) S I J Q := tr_iconst (m := 0) (by decide +kernel) (by decide)
theorem r173_59 : am_T d 173 59 ls (.int x1 :: .int x0 :: st) S I J Q = am_T d 173 60 ls (.int (x0 + x1) :: st) S I J Q := tr_iadd (by decide +kernel)
theorem r173_60 : am_T d 173 60 [l0, l1, l2, l3] (.int x0 :: st) S I J Q = am_T d 173 61 [l0, am_clr l1, some (.int x0), l3] st S I J Q := tr_istore_n (m := 2) (by decide +kernel) (Nat.le_of_ble_eq_true rfl) rfl
theorem r173_61 : am_T d 173 61 [l0, l1, l2, some (.int x0)] st S I J Q = am_T d 173 64 [l0, l1, am_clr l2, some (.int (x0 + 1))] st S I J Q := tr_iinc (k := 3) (m := 1) (by decide +kernel) rfl (Nat.le_of_ble_eq_true rfl) (by decide) rfl
theorem r173_64 : am_T d 173 64 ls st S I J Q = am_T d 173 16 ls st S I J Q := tr_goto (o := -48) (by decide +kernel) rfl
theorem r173_67 : am_T d 173 67 [l0, l1, some (.int x0), l3] st S I J Q = am_T d 173 68 [l0, l1, some (.int x0), l3] (.int x0 :: st) S I J Q := tr_iload_n (m := 2) (by decide +kernel) rfl
theorem r173_68 : am_T d 173 68 [some (.ref a0), l1, l2, l3] st S I J Q = am_T d 173 69 [some (.ref a0), l1, l2, l3] (.ref a0 :: st) S I J Q := tr_aload_n (m := 0) (by decide +kernel) rfl
theorem r173_69 : am_T d 173 69 ls (.ref a0 :: st) S I J Q = ((am_is S a0 9 ∧ am_rf S a0 0 ≠ 0) ∧ am_T d 173 72 ls (.ref (am_rf S a0 0) :: st) S I J Q) := tr_geta (k := 7) (by decide +kernel) (by decide +kernel) (by decide +kernel)
theorem r173_72 : am_T d 173 72 ls st S I J Q = am_T d 173 74 ls (.int 99 :: st) S I J Q := tr_bipush (m := 99) (by decide +kernel) (by decide)
theorem r173_74 : am_T d 173 74 [l0, some (.int x0), l2, l3] st S I J Q = am_T d 173 75 [l0, some (.int x0), l2, l3] (.int x0 :: st) S I J Q := tr_iload_n (m := 1) (by decide +kernel) rfl
theorem r173_75 : am_T d 173 75 ls (.int x1 :: .int x0 :: st) S I J Q = am_T d 173 76 ls (.int (x0 + x1) :: st) S I J Q := tr_iadd (by decide +kernel)
theorem r173_76 : am_T d 173 76 ls (.int x0 :: .ref a0 :: st) S I J Q = (am_ix S a0 20 x0 ∧ am_T d 173 77 ls (.int (I a0 x0.toNatClampNeg) :: st) S I J Q) := tr_iald (by decide +kernel)
theorem r173_77 : am_T d 173 77 ls (.int x1 :: .int x0 :: st) S I J Q = if x0 ≤ x1 then am_T d 173 82 ls st S I J Q else am_T d 173 80 ls st S I J Q := tr_icmple (o := 5) (by decide +kernel) rfl
theorem r173_80 : am_T d 173 80 ls st S I J Q = am_T d 173 81 ls (.int 0 :: st) S I J Q := tr_iconst (m := 0) (by decide +kernel) (by decide)
theorem r173_81 : am_T d 173 81 ls [.int x0] S I J Q = ((x0 = 0 ∨ x0 = 1) ∧ Q (some (.int x0)) S I J) := tr_iretz (by decide +kernel) (by decide +kernel)
theorem r173_82 : am_T d 173 82 [l0, some (.int x0), l2, l3] st S I J Q = am_T d 173 85 [am_clr l0, some (.int (x0 + 1)), l2, l3] st S I J Q := tr_iinc (k := 1) (m := 1) (by decide +kernel) rfl (Nat.le_of_ble_eq_true rfl) (by decide) rfl
theorem r173_85 : am_T d 173 85 ls st S I J Q = am_T d 173 2 ls st S I J Q := tr_goto (o := -83) (by decide +kernel) rfl
theorem r173_88 : am_T d 173 88 ls st S I J Q = am_T d 173 89 ls (.int 1 :: st) S I J Q := tr_iconst (m := 1) (by decide +kernel) (by decide)
theorem r173_89 : am_T d 173 89 ls [.int x0] S I J Q = ((x0 = 0 ∨ x0 = 1) ∧ Q (some (.int x0)) S I J) := tr_iretz (by decide +kernel) (by decide +kernel)
-- 174 Mod.meetsOne(I)V; heads [25, 140]
theorem e174 : am_C (d + 1) 174 [.ref a0, .int x1] S I J Q = am_T d 174 0 [some (.ref a0), some (.int x1), none, none, none] [] S I J Q := tr_en (Nat.le_of_ble_eq_true rfl) rfl
theorem r174_0 : am_T d 174 0 [some (.ref a0), l1, l2, l3, l4] st S I J Q = am_T d 174 1 [some (.ref a0), l1, l2, l3, l4] (.ref a0 :: st) S I J Q := tr_aload_n (m := 0) (by decide +kernel) rfl
theorem r174_1 : am_T d 174 1 ls [.ref a0] S I J Q = (am_is S a0 9 ∧ am_C d 172 [.ref a0] S I J (fun r S I J => am_T d 174 4 ls (am_psh r []) S I J Q)) := tr_virt (k := 184) (by decide +kernel) (by decide +kernel) rfl rfl (Nat.le_of_ble_eq_true rfl) (by decide +kernel)
theorem r174_4 : am_T d 174 4 ls (.int x0 :: st) S I J Q = if x0 = 0 then am_T d 174 7 ls st S I J Q else am_T d 174 8 ls st S I J Q := tr_ifne (o := 4) (by decide +kernel) rfl
theorem r174_7 : am_T d 174 7 ls [] S I J Q = Q none S I J := tr_vret (by decide +kernel) (by decide +kernel)
theorem r174_8 : am_T d 174 8 [l0, some (.int x0), l2, l3, l4] st S I J Q = am_T d 174 9 [l0, some (.int x0), l2, l3, l4] (.int x0 :: st) S I J Q := tr_iload_n (m := 1) (by decide +kernel) rfl
theorem r174_9 : am_T d 174 9 ls st S I J Q = am_T d 174 11 ls (.int (-107) :: st) S I J Q := tr_bipush (m := -107) (by decide +kernel) (by decide)
theorem r174_11 : am_T d 174 11 ls (.int x1 :: .int x0 :: st) S I J Q = if x0 = x1 then am_T d 174 14 ls st S I J Q else am_T d 174 18 ls st S I J Q := tr_icmpne (o := 7) (by decide +kernel) rfl
theorem r174_14 : am_T d 174 14 ls st S I J Q = am_T d 174 15 ls (.int 1 :: st) S I J Q := tr_iconst (m := 1) (by decide +kernel) (by decide)
theorem r174_15 : am_T d 174 15 ls st S I J Q = am_T d 174 19 ls st S I J Q := tr_goto (o := 4) (by decide +kernel) rfl
theorem r174_18 : am_T d 174 18 ls st S I J Q = am_T d 174 19 ls (.int 0 :: st) S I J Q := tr_iconst (m := 0) (by decide +kernel) (by decide)
theorem r174_19 : am_T d 174 19 [l0, l1, l2, l3, l4] (.int x0 :: st) S I J Q = am_T d 174 20 [l0, am_clr l1, some (.int x0), l3, l4] st S I J Q := tr_istore_n (m := 2) (by decide +kernel) (Nat.le_of_ble_eq_true rfl) rfl
theorem r174_20 : am_T d 174 20 ls st S I J Q = am_T d 174 21 ls (.int 0 :: st) S I J Q := tr_iconst (m := 0) (by decide +kernel) (by decide)
theorem r174_21 : am_T d 174 21 [l0, l1, l2, l3, l4] (.int x0 :: st) S I J Q = am_T d 174 22 [l0, l1, am_clr l2, some (.int x0), l4] st S I J Q := tr_istore_n (m := 3) (by decide +kernel) (Nat.le_of_ble_eq_true rfl) rfl
theorem r174_22 : am_T d 174 22 ls st S I J Q = am_T d 174 23 ls (.int 0 :: st) S I J Q := tr_iconst (m := 0) (by decide +kernel) (by decide)
theorem r174_23 : am_T d 174 23 [l0, l1, l2, l3, l4] (.int x0 :: st) S I J Q = am_T d 174 25 [l0, l1, l2, am_clr l3, some (.int x0)] st S I J Q := tr_istore (k := 4) (by decide +kernel) (Nat.le_of_ble_eq_true rfl) rfl
theorem r174_25 : am_T d 174 25 [l0, l1, l2, l3, some (.int x0)] st S I J Q = am_T d 174 27 [l0, l1, l2, l3, some (.int x0)] (.int x0 :: st) S I J Q := tr_iload (k := 4) (by decide +kernel) rfl
theorem r174_27 : am_T d 174 27 [some (.ref a0), l1, l2, l3, l4] st S I J Q = am_T d 174 28 [some (.ref a0), l1, l2, l3, l4] (.ref a0 :: st) S I J Q := tr_aload_n (m := 0) (by decide +kernel) rfl
theorem r174_28 : am_T d 174 28 ls (.ref a0 :: st) S I J Q = ((am_is S a0 9 ∧ am_rf S a0 0 ≠ 0) ∧ am_T d 174 31 ls (.ref (am_rf S a0 0) :: st) S I J Q) := tr_geta (k := 7) (by decide +kernel) (by decide +kernel) (by decide +kernel)
theorem r174_31 : am_T d 174 31 ls st S I J Q = am_T d 174 32 ls (.int 0 :: st) S I J Q := tr_iconst (m := 0) (by decide +kernel) (by decide)
theorem r174_32 : am_T d 174 32 ls (.int x0 :: .ref a0 :: st) S I J Q = (am_ix S a0 20 x0 ∧ am_T d 174 33 ls (.int (I a0 x0.toNatClampNeg) :: st) S I J Q) := tr_iald (by decide +kernel)
theorem r174_33 : am_T d 174 33 ls (.int x1 :: .int x0 :: st) S I J Q = if x1 ≤ x0 then am_T d 174 90 ls st S I J Q else am_T d 174 36 ls st S I J Q := tr_icmpge (o := 57) (by decide +kernel) rfl
theorem r174_36 : am_T d 174 36 [l0, l1, l2, l3, some (.int x0)] st S I J Q = am_T d 174 38 [l0, l1, l2, l3, some (.int x0)] (.int x0 :: st) S I J Q := tr_iload (k := 4) (by decide +kernel) rfl
theorem r174_38 : am_T d 174 38 [some (.ref a0), l1, l2, l3, l4] st S I J Q = am_T d 174 39 [some (.ref a0), l1, l2, l3, l4] (.ref a0 :: st) S I J Q := tr_aload_n (m := 0) (by decide +kernel) rfl
theorem r174_39 : am_T d 174 39 ls (.ref a0 :: st) S I J Q = ((am_is S a0 9 ∧ am_rf S a0 0 ≠ 0) ∧ am_T d 174 42 ls (.ref (am_rf S a0 0) :: st) S I J Q) := tr_geta (k := 7) (by decide +kernel) (by decide +kernel) (by decide +kernel)
theorem r174_42 : am_T d 174 42 ls st S I J Q = am_T d 174 43 ls (.int 1 :: st) S I J Q := tr_iconst (m := 1) (by decide +kernel) (by decide)
theorem r174_43 : am_T d 174 43 ls (.int x0 :: .ref a0 :: st) S I J Q = (am_ix S a0 20 x0 ∧ am_T d 174 44 ls (.int (I a0 x0.toNatClampNeg) :: st) S I J Q) := tr_iald (by decide +kernel)
theorem r174_44 : am_T d 174 44 ls (.int x1 :: .int x0 :: st) S I J Q = if x0 = x1 then am_T d 174 84 ls st S I J Q else am_T d 174 47 ls st S I J Q := tr_icmpeq (o := 40) (by decide +kernel) rfl
theorem r174_47 : am_T d 174 47 [l0, l1, some (.int x0), l3, l4] st S I J Q = am_T d 174 48 [l0, l1, some (.int x0), l3, l4] (.int x0 :: st) S I J Q := tr_iload_n (m := 2) (by decide +kernel) rfl
theorem r174_48 : am_T d 174 48 [some (.ref a0), l1, l2, l3, l4] st S I J Q = am_T d 174 49 [some (.ref a0), l1, l2, l3, l4] (.ref a0 :: st) S I J Q := tr_aload_n (m := 0) (by decide +kernel) rfl
theorem r174_49 : am_T d 174 49 ls (.ref a0 :: st) S I J Q = ((am_is S a0 9 ∧ am_rf S a0 21 ≠ 0) ∧ am_T d 174 52 ls (.ref (am_rf S a0 21) :: st) S I J Q) := tr_geta (k := 47) (by decide +kernel) (by decide +kernel) (by decide +kernel)
theorem r174_52 : am_T d 174 52 [l0, l1, l2, l3, some (.int x0)] st S I J Q = am_T d 174 54 [l0, l1, l2, l3, some (.int x0)] (.int x0 :: st) S I J Q := tr_iload (k := 4) (by decide +kernel) rfl
theorem r174_54 : am_T d 174 54 ls (.int x0 :: .ref a0 :: st) S I J Q = (am_ix S a0 20 x0 ∧ am_T d 174 55 ls (.int (I a0 x0.toNatClampNeg) :: st) S I J Q) := tr_iald (by decide +kernel)
theorem r174_55 : am_T d 174 55 [l0, some (.int x0), l2, l3, l4] st S I J Q = am_T d 174 56 [l0, some (.int x0), l2, l3, l4] (.int x0 :: st) S I J Q := tr_iload_n (m := 1) (by decide +kernel) rfl
theorem r174_56 : am_T d 174 56 ls (.int x1 :: .int x0 :: st) S I J Q = if x0 = x1 then am_T d 174 59 ls st S I J Q else am_T d 174 63 ls st S I J Q := tr_icmpne (o := 7) (by decide +kernel) rfl
theorem r174_59 : am_T d 174 59 ls st S I J Q = am_T d 174 60 ls (.int 1 :: st) S I J Q := tr_iconst (m := 1) (by decide +kernel) (by decide)
theorem r174_60 : am_T d 174 60 ls st S I J Q = am_T d 174 64 ls st S I J Q := tr_goto (o := 4) (by decide +kernel) rfl
theorem r174_63 : am_T d 174 63 ls st S I J Q = am_T d 174 64 ls (.int 0 :: st) S I J Q := tr_iconst (m := 0) (by decide +kernel) (by decide)
theorem r174_64 : am_T d 174 64 ls (.int x1 :: .int x0 :: st) S I J Q = am_T d 174 65 ls (.int (x0 ||| x1) :: st) S I J Q := tr_ior (by decide +kernel)
theorem r174_65 : am_T d 174 65 [l0, l1, l2, l3, l4] (.int x0 :: st) S I J Q = am_T d 174 66 [l0, am_clr l1, some (.int x0), l3, l4] st S I J Q := tr_istore_n (m := 2) (by decide +kernel) (Nat.le_of_ble_eq_true rfl) rfl
theorem r174_66 : am_T d 174 66 [l0, l1, l2, some (.int x0), l4] st S I J Q = am_T d 174 67 [l0, l1, l2, some (.int x0), l4] (.int x0 :: st) S I J Q := tr_iload_n (m := 3) (by decide +kernel) rfl
theorem r174_67 : am_T d 174 67 [some (.ref a0), l1, l2, l3, l4] st S I J Q = am_T d 174 68 [some (.ref a0), l1, l2, l3, l4] (.ref a0 :: st) S I J Q := tr_aload_n (m := 0) (by decide +kernel) rfl
theorem r174_68 : am_T d 174 68 ls (.ref a0 :: st) S I J Q = ((am_is S a0 9 ∧ am_rf S a0 0 ≠ 0) ∧ am_T d 174 71 ls (.ref (am_rf S a0 0) :: st) S I J Q) := tr_geta (k := 7) (by decide +kernel) (by decide +kernel) (by decide +kernel)
theorem r174_71 : am_T d 174 71 ls st S I J Q = am_T d 174 73 ls (.int 67 :: st) S I J Q := tr_bipush (m := 67) (by decide +kernel) (by decide)
theorem r174_73 : am_T d 174 73 [some (.ref a0), l1, l2, l3, l4] st S I J Q = am_T d 174 74 [some (.ref a0), l1, l2, l3, l4] (.ref a0 :: st) S I J Q := tr_aload_n (m := 0) (by decide +kernel) rfl
theorem r174_74 : am_T d 174 74 ls (.ref a0 :: st) S I J Q = ((am_is S a0 9 ∧ am_rf S a0 21 ≠ 0) ∧ am_T d 174 77 ls (.ref (am_rf S a0 21) :: st) S I J Q) := tr_geta (k := 47) (by decide +kernel) (by decide +kernel) (by decide +kernel)
theorem r174_77 : am_T d 174 77 [l0, l1, l2, l3, some (.int x0)] st S I J Q = am_T d 174 79 [l0, l1, l2, l3, some (.int x0)] (.int x0 :: st) S I J Q := tr_iload (k := 4) (by decide +kernel) rfl
theorem r174_79 : am_T d 174 79 ls (.int x0 :: .ref a0 :: st) S I J Q = (am_ix S a0 20 x0 ∧ am_T d 174 80 ls (.int (I a0 x0.toNatClampNeg) :: st) S I J Q) := tr_iald (by decide +kernel)
theorem r174_80 : am_T d 174 80 ls (.int x1 :: .int x0 :: st) S I J Q = am_T d 174 81 ls (.int (x0 + x1) :: st) S I J Q := tr_iadd (by decide +kernel)
theorem r174_81 : am_T d 174 81 ls (.int x0 :: .ref a0 :: st) S I J Q = (am_ix S a0 20 x0 ∧ am_T d 174 82 ls (.int (I a0 x0.toNatClampNeg) :: st) S I J Q) := tr_iald (by decide +kernel)
theorem r174_82 : am_T d 174 82 ls (.int x1 :: .int x0 :: st) S I J Q = am_T d 174 83 ls (.int (x0 + x1) :: st) S I J Q := tr_iadd (by decide +kernel)
theorem r174_83 : am_T d 174 83 [l0, l1, l2, l3, l4] (.int x0 :: st) S I J Q = am_T d 174 84 [l0, l1, am_clr l2, some (.int x0), l4] st S I J Q := tr_istore_n (m := 3) (by decide +kernel) (Nat.le_of_ble_eq_true rfl) rfl
theorem r174_84 : am_T d 174 84 [l0, l1, l2, l3, some (.int x0)] st S I J Q = am_T d 174 87 [l0, l1, l2, am_clr l3, some (.int (x0 + 1))] st S I J Q := tr_iinc (k := 4) (m := 1) (by decide +kernel) rfl (Nat.le_of_ble_eq_true rfl) (by decide) rfl
theorem r174_87 : am_T d 174 87 ls st S I J Q = am_T d 174 25 ls st S I J Q := tr_goto (o := -62) (by decide +kernel) rfl
theorem r174_90 : am_T d 174 90 [some (.ref a0), l1, l2, l3, l4] st S I J Q = am_T d 174 91 [some (.ref a0), l1, l2, l3, l4] (.ref a0 :: st) S I J Q := tr_aload_n (m := 0) (by decide +kernel) rfl
theorem r174_91 : am_T d 174 91 ls (.ref a0 :: st) S I J Q = am_T d 174 92 ls (.ref a0 :: .ref a0 :: st) S I J Q := tr_dupa (by decide +kernel)
theorem r174_92 : am_T d 174 92 ls (.ref a0 :: st) S I J Q = (am_is S a0 9 ∧ am_T d 174 95 ls (.long (J a0 24) :: st) S I J Q) := tr_getl (k := 187) (by decide +kernel) (by decide +kernel) (by decide +kernel)
theorem r174_95 : am_T d 174 95 [l0, l1, some (.int x0), l3, l4] st S I J Q = am_T d 174 96 [l0, l1, some (.int x0), l3, l4] (.int x0 :: st) S I J Q := tr_iload_n (m := 2) (by decide +kernel) rfl
theorem r174_96 : am_T d 174 96 ls (.int x0 :: st) S I J Q = if x0 = 0 then am_T d 174 103 ls st S I J Q else am_T d 174 99 ls st S I J Q := tr_ifeq (o := 7) (by decide +kernel) rfl
theorem r174_99 : am_T d 174 99 ls st S I J Q = am_T d 174 100 ls (.long 1 :: st) S I J Q := tr_lconst (m := 1) (by decide +kernel) (by decide)
theorem r174_100 : am_T d 174 100 ls st S I J Q = am_T d 174 104 ls st S I J Q := tr_goto (o := 4) (by decide +kernel) rfl
theorem r174_103 : am_T d 174 103 ls st S I J Q = am_T d 174 104 ls (.long 0 :: st) S I J Q := tr_lconst (m := 0) (by decide +kernel) (by decide)
theorem r174_104 : am_T d 174 104 ls (.long u1 :: .long u0 :: st) S I J Q = am_T d 174 105 ls (.long (u0 + u1) :: st) S I J Q := tr_ladd (by decide +kernel)
theorem r174_105 : am_T d 174 105 ls (.long u0 :: .ref a0 :: st) S I J Q = (am_is S a0 9 ∧ am_T d 174 108 ls st S I (am_up J a0 24 u0) Q) := tr_putl (k := 187) (by decide +kernel) (by decide +kernel) (by decide +kernel) (by decide +kernel)
theorem r174_108 : am_T d 174 108 [some (.ref a0), l1, l2, l3, l4] st S I J Q = am_T d 174 109 [some (.ref a0), l1, l2, l3, l4] (.ref a0 :: st) S I J Q := tr_aload_n (m := 0) (by decide +kernel) rfl
theorem r174_109 : am_T d 174 109 ls (.ref a0 :: st) S I J Q = (am_is S a0 9 ∧ am_T d 174 112 ls (.int (I a0 23) :: st) S I J Q) := tr_geti (k := 190) (by decide +kernel) (by decide +kernel) (Or.inl (by decide +kernel))
theorem r174_112 : am_T d 174 112 ls st S I J Q = am_T d 174 114 ls (.int (-107) :: st) S I J Q := tr_bipush (m := -107) (by decide +kernel) (by decide)
theorem r174_114 : am_T d 174 114 ls (.int x1 :: .int x0 :: st) S I J Q = if x0 = x1 then am_T d 174 125 ls st S I J Q else am_T d 174 117 ls st S I J Q := tr_icmpeq (o := 11) (by decide +kernel) rfl
theorem r174_117 : am_T d 174 117 [l0, l1, l2, some (.int x0), l4] st S I J Q = am_T d 174 118 [l0, l1, l2, some (.int x0), l4] (.int x0 :: st) S I J Q := tr_iload_n (m := 3) (by decide +kernel) rfl
theorem r174_118 : am_T d 174 118 [some (.ref a0), l1, l2, l3, l4] st S I J Q = am_T d 174 119 [some (.ref a0), l1, l2, l3, l4] (.ref a0 :: st) S I J Q := tr_aload_n (m := 0) (by decide +kernel) rfl
theorem r174_119 : am_T d 174 119 ls (.ref a0 :: st) S I J Q = (am_is S a0 9 ∧ am_T d 174 122 ls (.int (I a0 23) :: st) S I J Q) := tr_geti (k := 190) (by decide +kernel) (by decide +kernel) (Or.inl (by decide +kernel))
theorem r174_122 : am_T d 174 122 ls (.int x1 :: .int x0 :: st) S I J Q = if x1 ≤ x0 then am_T d 174 167 ls st S I J Q else am_T d 174 125 ls st S I J Q := tr_icmpge (o := 45) (by decide +kernel) rfl
theorem r174_125 : am_T d 174 125 [some (.ref a0), l1, l2, l3, l4] st S I J Q = am_T d 174 126 [some (.ref a0), l1, l2, l3, l4] (.ref a0 :: st) S I J Q := tr_aload_n (m := 0) (by decide +kernel) rfl
theorem r174_126 : am_T d 174 126 ls [.ref a0] S I J Q = (am_is S a0 9 ∧ am_C d 173 [.ref a0] S I J (fun r S I J => am_T d 174 129 ls (am_psh r []) S I J Q)) := tr_virt (k := 193) (by decide +kernel) (by decide +kernel) rfl rfl (Nat.le_of_ble_eq_true rfl) (by decide +kernel)
theorem r174_129 : am_T d 174 129 ls (.int x0 :: st) S I J Q = if x0 = 0 then am_T d 174 167 ls st S I J Q else am_T d 174 132 ls st S I J Q := tr_ifeq (o := 38) (by decide +kernel) rfl
theorem r174_132 : am_T d 174 132 [some (.ref a0), l1, l2, l3, l4] st S I J Q = am_T d 174 133 [some (.ref a0), l1, l2, l3, l4] (.ref a0 :: st) S I J Q := tr_aload_n (m := 0) (by decide +kernel) rfl
theorem r174_133 : am_T d 174 133 [l0, l1, l2, some (.int x0), l4] st S I J Q = am_T d 174 134 [l0, l1, l2, some (.int x0), l4] (.int x0 :: st) S I J Q := tr_iload_n (m := 3) (by decide +kernel) rfl
theorem r174_134 : am_T d 174 134 ls (.int x0 :: .ref a0 :: st) S I J Q = (am_is S a0 9 ∧ am_T d 174 137 ls st S (am_up I a0 23 x0) J Q) := tr_puti (k := 190) (by decide +kernel) (by decide +kernel) (by decide +kernel) (by decide +kernel)
theorem r174_137 : am_T d 174 137 ls st S I J Q = am_T d 174 138 ls (.int 0 :: st) S I J Q := tr_iconst (m := 0) (by decide +kernel) (by decide)
theorem r174_138 : am_T d 174 138 [l0, l1, l2, l3, l4] (.int x0 :: st) S I J Q = am_T d 174 140 [l0, l1, l2, am_clr l3, some (.int x0)] st S I J Q := tr_istore (k := 4) (by decide +kernel) (Nat.le_of_ble_eq_true rfl) rfl
theorem r174_140 : am_T d 174 140 [l0, l1, l2, l3, some (.int x0)] st S I J Q = am_T d 174 142 [l0, l1, l2, l3, some (.int x0)] (.int x0 :: st) S I J Q := tr_iload (k := 4) (by decide +kernel) rfl
theorem r174_142 : am_T d 174 142 ls st S I J Q = am_T d 174 144 ls (.int 8 :: st) S I J Q := tr_bipush (m := 8) (by decide +kernel) (by decide)
theorem r174_144 : am_T d 174 144 ls (.int x1 :: .int x0 :: st) S I J Q = if x1 ≤ x0 then am_T d 174 167 ls st S I J Q else am_T d 174 147 ls st S I J Q := tr_icmpge (o := 23) (by decide +kernel) rfl
theorem r174_147 : am_T d 174 147 [some (.ref a0), l1, l2, l3, l4] st S I J Q = am_T d 174 148 [some (.ref a0), l1, l2, l3, l4] (.ref a0 :: st) S I J Q := tr_aload_n (m := 0) (by decide +kernel) rfl
theorem r174_148 : am_T d 174 148 ls (.ref a0 :: st) S I J Q = ((am_is S a0 9 ∧ am_rf S a0 22 ≠ 0) ∧ am_T d 174 151 ls (.ref (am_rf S a0 22) :: st) S I J Q) := tr_geta (k := 50) (by decide +kernel) (by decide +kernel) (by decide +kernel)
theorem r174_151 : am_T d 174 151 [l0, l1, l2, l3, some (.int x0)] st S I J Q = am_T d 174 153 [l0, l1, l2, l3, some (.int x0)] (.int x0 :: st) S I J Q := tr_iload (k := 4) (by decide +kernel) rfl
theorem r174_153 : am_T d 174 153 [some (.ref a0), l1, l2, l3, l4] st S I J Q = am_T d 174 154 [some (.ref a0), l1, l2, l3, l4] (.ref a0 :: st) S I J Q := tr_aload_n (m := 0) (by decide +kernel) rfl
theorem r174_154 : am_T d 174 154 ls (.ref a0 :: st) S I J Q = ((am_is S a0 9 ∧ am_rf S a0 21 ≠ 0) ∧ am_T d 174 157 ls (.ref (am_rf S a0 21) :: st) S I J Q) := tr_geta (k := 47) (by decide +kernel) (by decide +kernel) (by decide +kernel)
theorem r174_157 : am_T d 174 157 [l0, l1, l2, l3, some (.int x0)] st S I J Q = am_T d 174 159 [l0, l1, l2, l3, some (.int x0)] (.int x0 :: st) S I J Q := tr_iload (k := 4) (by decide +kernel) rfl
theorem r174_159 : am_T d 174 159 ls (.int x0 :: .ref a0 :: st) S I J Q = (am_ix S a0 20 x0 ∧ am_T d 174 160 ls (.int (I a0 x0.toNatClampNeg) :: st) S I J Q) := tr_iald (by decide +kernel)
theorem r174_160 : am_T d 174 160 ls (.int x1 :: .int x0 :: .ref a0 :: st) S I J Q = (am_ixw S a0 20 x0 ∧ am_T d 174 161 ls st S (am_up I a0 x0.toNatClampNeg x1) J Q) := tr_iast (by decide +kernel)
theorem r174_161 : am_T d 174 161 [l0, l1, l2, l3, some (.int x0)] st S I J Q = am_T d 174 164 [l0, l1, l2, am_clr l3, some (.int (x0 + 1))] st S I J Q := tr_iinc (k := 4) (m := 1) (by decide +kernel) rfl (Nat.le_of_ble_eq_true rfl) (by decide) rfl
theorem r174_164 : am_T d 174 164 ls st S I J Q = am_T d 174 140 ls st S I J Q := tr_goto (o := -24) (by decide +kernel) rfl
theorem r174_167 : am_T d 174 167 ls [] S I J Q = Q none S I J := tr_vret (by decide +kernel) (by decide +kernel)
-- 175 Mod.goThrough(I)V; heads [15, 34]
theorem e175 : am_C (d + 1) 175 [.ref a0, .int x1] S I J Q = am_T d 175 0 [some (.ref a0), some (.int x1), none, none] [] S I J Q := tr_en (Nat.le_of_ble_eq_true rfl) rfl
theorem r175_0 : am_T d 175 0 [some (.ref a0), l1, l2, l3] st S I J Q = am_T d 175 1 [some (.ref a0), l1, l2, l3] (.ref a0 :: st) S I J Q := tr_aload_n (m := 0) (by decide +kernel) rfl
theorem r175_1 : am_T d 175 1 ls st S I J Q = am_T d 175 3 ls (.int (-107) :: st) S I J Q := tr_bipush (m := -107) (by decide +kernel) (by decide)
theorem r175_3 : am_T d 175 3 ls (.int x0 :: .ref a0 :: st) S I J Q = (am_is S a0 9 ∧ am_T d 175 6 ls st S (am_up I a0 23 x0) J Q) := tr_puti (k := 190) (by decide +kernel) (by decide +kernel) (by decide +kernel) (by decide +kernel)
theorem r175_6 : am_T d 175 6 [some (.ref a0), l1, l2, l3] st S I J Q = am_T d 175 7 [some (.ref a0), l1, l2, l3] (.ref a0 :: st) S I J Q := tr_aload_n (m := 0) (by decide +kernel) rfl
theorem r175_7 : am_T d 175 7 ls st S I J Q = am_T d 175 8 ls (.long 0 :: st) S I J Q := tr_lconst (m := 0) (by decide +kernel) (by decide)
theorem r175_8 : am_T d 175 8 ls (.long u0 :: .ref a0 :: st) S I J Q = (am_is S a0 9 ∧ am_T d 175 11 ls st S I (am_up J a0 24 u0) Q) := tr_putl (k := 187) (by decide +kernel) (by decide +kernel) (by decide +kernel) (by decide +kernel)
theorem r175_11 : am_T d 175 11 ls st S I J Q = am_T d 175 12 ls (.int 0 :: st) S I J Q := tr_iconst (m := 0) (by decide +kernel) (by decide)
theorem r175_12 : am_T d 175 12 [l0, l1, l2, l3] (.int x0 :: st) S I J Q = am_T d 175 13 [l0, am_clr l1, some (.int x0), l3] st S I J Q := tr_istore_n (m := 2) (by decide +kernel) (Nat.le_of_ble_eq_true rfl) rfl
theorem r175_13 : am_T d 175 13 ls st S I J Q = am_T d 175 14 ls (.int 0 :: st) S I J Q := tr_iconst (m := 0) (by decide +kernel) (by decide)
theorem r175_14 : am_T d 175 14 [l0, l1, l2, l3] (.int x0 :: st) S I J Q = am_T d 175 15 [l0, l1, am_clr l2, some (.int x0)] st S I J Q := tr_istore_n (m := 3) (by decide +kernel) (Nat.le_of_ble_eq_true rfl) rfl
theorem r175_15 : am_T d 175 15 [l0, l1, l2, some (.int x0)] st S I J Q = am_T d 175 16 [l0, l1, l2, some (.int x0)] (.int x0 :: st) S I J Q := tr_iload_n (m := 3) (by decide +kernel) rfl
theorem r175_16 : am_T d 175 16 ls st S I J Q = am_T d 175 18 ls (.int 8 :: st) S I J Q := tr_bipush (m := 8) (by decide +kernel) (by decide)
theorem r175_18 : am_T d 175 18 ls (.int x1 :: .int x0 :: st) S I J Q = if x1 ≤ x0 then am_T d 175 34 ls st S I J Q else am_T d 175 21 ls st S I J Q := tr_icmpge (o := 16) (by decide +kernel) rfl
theorem r175_21 : am_T d 175 21 [some (.ref a0), l1, l2, l3] st S I J Q = am_T d 175 22 [some (.ref a0), l1, l2, l3] (.ref a0 :: st) S I J Q := tr_aload_n (m := 0) (by decide +kernel) rfl
theorem r175_22 : am_T d 175 22 ls (.ref a0 :: st) S I J Q = ((am_is S a0 9 ∧ am_rf S a0 21 ≠ 0) ∧ am_T d 175 25 ls (.ref (am_rf S a0 21) :: st) S I J Q) := tr_geta (k := 47) (by decide +kernel) (by decide +kernel) (by decide +kernel)
theorem r175_25 : am_T d 175 25 [l0, l1, l2, some (.int x0)] st S I J Q = am_T d 175 26 [l0, l1, l2, some (.int x0)] (.int x0 :: st) S I J Q := tr_iload_n (m := 3) (by decide +kernel) rfl
theorem r175_26 : am_T d 175 26 ls st S I J Q = am_T d 175 27 ls (.int (-1) :: st) S I J Q := tr_iconst (m := -1) (by decide +kernel) (by decide)
theorem r175_27 : am_T d 175 27 ls (.int x1 :: .int x0 :: .ref a0 :: st) S I J Q = (am_ixw S a0 20 x0 ∧ am_T d 175 28 ls st S (am_up I a0 x0.toNatClampNeg x1) J Q) := tr_iast (by decide +kernel)
theorem r175_28 : am_T d 175 28 [l0, l1, l2, some (.int x0)] st S I J Q = am_T d 175 31 [l0, l1, am_clr l2, some (.int (x0 + 1))] st S I J Q := tr_iinc (k := 3) (m := 1) (by decide +kernel) rfl (Nat.le_of_ble_eq_true rfl) (by decide) rfl
theorem r175_31 : am_T d 175 31 ls st S I J Q = am_T d 175 15 ls st S I J Q := tr_goto (o := -16) (by decide +kernel) rfl
theorem r175_34 : am_T d 175 34 [l0, l1, some (.int x0), l3] st S I J Q = am_T d 175 35 [l0, l1, some (.int x0), l3] (.int x0 :: st) S I J Q := tr_iload_n (m := 2) (by decide +kernel) rfl
theorem r175_35 : am_T d 175 35 ls (.int x0 :: st) S I J Q = if x0 < 0 then am_T d 175 156 ls st S I J Q else am_T d 175 38 ls st S I J Q := tr_iflt (o := 121) (by decide +kernel) rfl
theorem r175_38 : am_T d 175 38 [l0, l1, some (.int x0), l3] st S I J Q = am_T d 175 39 [l0, l1, some (.int x0), l3] (.int x0 :: st) S I J Q := tr_iload_n (m := 2) (by decide +kernel) rfl
theorem r175_39 : am_T d 175 39 [some (.ref a0), l1, l2, l3] st S I J Q = am_T d 175 40 [some (.ref a0), l1, l2, l3] (.ref a0 :: st) S I J Q := tr_aload_n (m := 0) (by decide +kernel) rfl
theorem r175_40 : am_T d 175 40 ls (.ref a0 :: st) S I J Q = ((am_is S a0 9 ∧ am_rf S a0 0 ≠ 0) ∧ am_T d 175 43 ls (.ref (am_rf S a0 0) :: st) S I J Q) := tr_geta (k := 7) (by decide +kernel) (by decide +kernel) (by decide +kernel)
theorem r175_43 : am_T d 175 43 ls st S I J Q = am_T d 175 44 ls (.int 0 :: st) S I J Q := tr_iconst (m := 0) (by decide +kernel) (by decide)
theorem r175_44 : am_T d 175 44 ls (.int x0 :: .ref a0 :: st) S I J Q = (am_ix S a0 20 x0 ∧ am_T d 175 45 ls (.int (I a0 x0.toNatClampNeg) :: st) S I J Q) := tr_iald (by decide +kernel)
theorem r175_45 : am_T d 175 45 ls (.int x1 :: .int x0 :: st) S I J Q = if x0 = x1 then am_T d 175 48 ls st S I J Q else am_T d 175 59 ls st S I J Q := tr_icmpne (o := 14) (by decide +kernel) rfl
theorem r175_48 : am_T d 175 48 [some (.ref a0), l1, l2, l3] st S I J Q = am_T d 175 49 [some (.ref a0), l1, l2, l3] (.ref a0 :: st) S I J Q := tr_aload_n (m := 0) (by decide +kernel) rfl
theorem r175_49 : am_T d 175 49 [l0, some (.int x0), l2, l3] st S I J Q = am_T d 175 50 [l0, some (.int x0), l2, l3] (.int x0 :: st) S I J Q := tr_iload_n (m := 1) (by decide +kernel) rfl
theorem r175_50 : am_T d 175 50 ls [.int x1, .ref a0] S I J Q = (am_is S a0 9 ∧ am_C d 174 [.ref a0, .int x1] S I J (fun r S I J => am_T d 175 53 ls (am_psh r []) S I J Q)) := tr_virt (k := 196) (by decide +kernel) (by decide +kernel) rfl rfl (Nat.le_of_ble_eq_true rfl) (by decide +kernel)
theorem r175_53 : am_T d 175 53 [l0, l1, some (.int x0), l3] st S I J Q = am_T d 175 56 [l0, am_clr l1, some (.int (x0 + (-1))), l3] st S I J Q := tr_iinc (k := 2) (m := -1) (by decide +kernel) rfl (Nat.le_of_ble_eq_true rfl) (by decide) rfl
theorem r175_56 : am_T d 175 56 ls st S I J Q = am_T d 175 34 ls st S I J Q := tr_goto (o := -22) (by decide +kernel) rfl
theorem r175_59 : am_T d 175 59 [l0, l1, some (.int x0), l3] st S I J Q = am_T d 175 60 [l0, l1, some (.int x0), l3] (.int x0 :: st) S I J Q := tr_iload_n (m := 2) (by decide +kernel) rfl
theorem r175_60 : am_T d 175 60 [some (.ref a0), l1, l2, l3] st S I J Q = am_T d 175 61 [some (.ref a0), l1, l2, l3] (.ref a0 :: st) S I J Q := tr_aload_n (m := 0) (by decide +kernel) rfl
theorem r175_61 : am_T d 175 61 ls (.ref a0 :: st) S I J Q = ((am_is S a0 9 ∧ am_rf S a0 0 ≠ 0) ∧ am_T d 175 64 ls (.ref (am_rf S a0 0) :: st) S I J Q) := tr_geta (k := 7) (by decide +kernel) (by decide +kernel) (by decide +kernel)
theorem r175_64 : am_T d 175 64 ls st S I J Q = am_T d 175 65 ls (.int 1 :: st) S I J Q := tr_iconst (m := 1) (by decide +kernel) (by decide)
theorem r175_65 : am_T d 175 65 ls (.int x0 :: .ref a0 :: st) S I J Q = (am_ix S a0 20 x0 ∧ am_T d 175 66 ls (.int (I a0 x0.toNatClampNeg) :: st) S I J Q) := tr_iald (by decide +kernel)
theorem r175_66 : am_T d 175 66 ls (.int x1 :: .int x0 :: st) S I J Q = if x0 = x1 then am_T d 175 69 ls st S I J Q else am_T d 175 110 ls st S I J Q := tr_icmpne (o := 44) (by decide +kernel) rfl
theorem r175_69 : am_T d 175 69 [some (.ref a0), l1, l2, l3] st S I J Q = am_T d 175 70 [some (.ref a0), l1, l2, l3] (.ref a0 :: st) S I J Q := tr_aload_n (m := 0) (by decide +kernel) rfl
theorem r175_70 : am_T d 175 70 ls (.ref a0 :: st) S I J Q = ((am_is S a0 9 ∧ am_rf S a0 21 ≠ 0) ∧ am_T d 175 73 ls (.ref (am_rf S a0 21) :: st) S I J Q) := tr_geta (k := 47) (by decide +kernel) (by decide +kernel) (by decide +kernel)
theorem r175_73 : am_T d 175 73 [l0, l1, some (.int x0), l3] st S I J Q = am_T d 175 74 [l0, l1, some (.int x0), l3] (.int x0 :: st) S I J Q := tr_iload_n (m := 2) (by decide +kernel) rfl
theorem r175_74 : am_T d 175 74 [some (.ref a0), l1, l2, l3] st S I J Q = am_T d 175 75 [some (.ref a0), l1, l2, l3] (.ref a0 :: st) S I J Q := tr_aload_n (m := 0) (by decide +kernel) rfl
theorem r175_75 : am_T d 175 75 ls (.ref a0 :: st) S I J Q = ((am_is S a0 9 ∧ am_rf S a0 21 ≠ 0) ∧ am_T d 175 78 ls (.ref (am_rf S a0 21) :: st) S I J Q) := tr_geta (k := 47) (by decide +kernel) (by decide +kernel) (by decide +kernel)
theorem r175_78 : am_T d 175 78 [l0, l1, some (.int x0), l3] st S I J Q = am_T d 175 79 [l0, l1, some (.int x0), l3] (.int x0 :: st) S I J Q := tr_iload_n (m := 2) (by decide +kernel) rfl
theorem r175_79 : am_T d 175 79 ls (.int x0 :: .ref a0 :: st) S I J Q = (am_ix S a0 20 x0 ∧ am_T d 175 80 ls (.int (I a0 x0.toNatClampNeg) :: st) S I J Q) := tr_iald (by decide +kernel)
theorem r175_80 : am_T d 175 80 ls st S I J Q = am_T d 175 81 ls (.int (-1) :: st) S I J Q := tr_iconst (m := -1) (by decide +kernel) (by decide)
theorem r175_81 : am_T d 175 81 ls (.int x1 :: .int x0 :: st) S I J Q = if x0 = x1 then am_T d 175 84 ls st S I J Q else am_T d 175 88 ls st S I J Q := tr_icmpne (o := 7) (by decide +kernel) rfl
theorem r175_84 : am_T d 175 84 ls st S I J Q = am_T d 175 85 ls (.int 0 :: st) S I J Q := tr_iconst (m := 0) (by decide +kernel) (by decide)
theorem r175_85 : am_T d 175 85 ls st S I J Q = am_T d 175 89 ls st S I J Q := tr_goto (o := 4) (by decide +kernel) rfl
theorem r175_88 : am_T d 175 88 ls st S I J Q = am_T d 175 89 ls (.int (-1) :: st) S I J Q := tr_iconst (m := -1) (by decide +kernel) (by decide)
theorem r175_89 : am_T d 175 89 ls (.int x1 :: .int x0 :: .ref a0 :: st) S I J Q = (am_ixw S a0 20 x0 ∧ am_T d 175 90 ls st S (am_up I a0 x0.toNatClampNeg x1) J Q) := tr_iast (by decide +kernel)
theorem r175_90 : am_T d 175 90 [l0, l1, some (.int x0), l3] st S I J Q = am_T d 175 91 [l0, l1, some (.int x0), l3] (.int x0 :: st) S I J Q := tr_iload_n (m := 2) (by decide +kernel) rfl
theorem r175_91 : am_T d 175 91 [some (.ref a0), l1, l2, l3] st S I J Q = am_T d 175 92 [some (.ref a0), l1, l2, l3] (.ref a0 :: st) S I J Q := tr_aload_n (m := 0) (by decide +kernel) rfl
theorem r175_92 : am_T d 175 92 ls (.ref a0 :: st) S I J Q = ((am_is S a0 9 ∧ am_rf S a0 21 ≠ 0) ∧ am_T d 175 95 ls (.ref (am_rf S a0 21) :: st) S I J Q) := tr_geta (k := 47) (by decide +kernel) (by decide +kernel) (by decide +kernel)
theorem r175_95 : am_T d 175 95 [l0, l1, some (.int x0), l3] st S I J Q = am_T d 175 96 [l0, l1, some (.int x0), l3] (.int x0 :: st) S I J Q := tr_iload_n (m := 2) (by decide +kernel) rfl
theorem r175_96 : am_T d 175 96 ls (.int x0 :: .ref a0 :: st) S I J Q = (am_ix S a0 20 x0 ∧ am_T d 175 97 ls (.int (I a0 x0.toNatClampNeg) :: st) S I J Q) := tr_iald (by decide +kernel)
theorem r175_97 : am_T d 175 97 ls (.int x0 :: st) S I J Q = if x0 = 0 then am_T d 175 100 ls st S I J Q else am_T d 175 104 ls st S I J Q := tr_ifne (o := 7) (by decide +kernel) rfl
theorem r175_100 : am_T d 175 100 ls st S I J Q = am_T d 175 101 ls (.int 1 :: st) S I J Q := tr_iconst (m := 1) (by decide +kernel) (by decide)
theorem r175_101 : am_T d 175 101 ls st S I J Q = am_T d 175 105 ls st S I J Q := tr_goto (o := 4) (by decide +kernel) rfl
theorem r175_104 : am_T d 175 104 ls st S I J Q = am_T d 175 105 ls (.int (-1) :: st) S I J Q := tr_iconst (m := -1) (by decide +kernel) (by decide)
theorem r175_105 : am_T d 175 105 ls (.int x1 :: .int x0 :: st) S I J Q = am_T d 175 106 ls (.int (x0 + x1) :: st) S I J Q := tr_iadd (by decide +kernel)
theorem r175_106 : am_T d 175 106 [l0, l1, l2, l3] (.int x0 :: st) S I J Q = am_T d 175 107 [l0, am_clr l1, some (.int x0), l3] st S I J Q := tr_istore_n (m := 2) (by decide +kernel) (Nat.le_of_ble_eq_true rfl) rfl
theorem r175_107 : am_T d 175 107 ls st S I J Q = am_T d 175 34 ls st S I J Q := tr_goto (o := -73) (by decide +kernel) rfl
theorem r175_110 : am_T d 175 110 [some (.ref a0), l1, l2, l3] st S I J Q = am_T d 175 111 [some (.ref a0), l1, l2, l3] (.ref a0 :: st) S I J Q := tr_aload_n (m := 0) (by decide +kernel) rfl
theorem r175_111 : am_T d 175 111 [l0, l1, some (.int x0), l3] st S I J Q = am_T d 175 112 [l0, l1, some (.int x0), l3] (.int x0 :: st) S I J Q := tr_iload_n (m := 2) (by decide +kernel) rfl
theorem r175_112 : am_T d 175 112 [some (.ref a0), l1, l2, l3] st S I J Q = am_T d 175 113 [some (.ref a0), l1, l2, l3] (.ref a0 :: st) S I J Q := tr_aload_n (m := 0) (by decide +kernel) rfl
theorem r175_113 : am_T d 175 113 ls (.ref a0 :: st) S I J Q = ((am_is S a0 9 ∧ am_rf S a0 21 ≠ 0) ∧ am_T d 175 116 ls (.ref (am_rf S a0 21) :: st) S I J Q) := tr_geta (k := 47) (by decide +kernel) (by decide +kernel) (by decide +kernel)
theorem r175_116 : am_T d 175 116 [l0, l1, some (.int x0), l3] st S I J Q = am_T d 175 117 [l0, l1, some (.int x0), l3] (.int x0 :: st) S I J Q := tr_iload_n (m := 2) (by decide +kernel) rfl
theorem r175_117 : am_T d 175 117 ls (.int x0 :: .ref a0 :: st) S I J Q = (am_ix S a0 20 x0 ∧ am_T d 175 118 ls (.int (I a0 x0.toNatClampNeg) :: st) S I J Q) := tr_iald (by decide +kernel)
theorem r175_118 : am_T d 175 118 ls [.int x2, .int x1, .ref a0] S I J Q = (am_is S a0 9 ∧ am_C d 171 [.ref a0, .int x1, .int x2] S I J (fun r S I J => am_T d 175 121 ls (am_psh r []) S I J Q)) := tr_virt (k := 199) (by decide +kernel) (by decide +kernel) rfl rfl (Nat.le_of_ble_eq_true rfl) (by decide +kernel)
theorem r175_121 : am_T d 175 121 [l0, l1, l2, l3] (.int x0 :: st) S I J Q = am_T d 175 122 [l0, l1, am_clr l2, some (.int x0)] st S I J Q := tr_istore_n (m := 3) (by decide +kernel) (Nat.le_of_ble_eq_true rfl) rfl
theorem r175_122 : am_T d 175 122 [some (.ref a0), l1, l2, l3] st S I J Q = am_T d 175 123 [some (.ref a0), l1, l2, l3] (.ref a0 :: st) S I J Q := tr_aload_n (m := 0) (by decide +kernel) rfl
theorem r175_123 : am_T d 175 123 ls (.ref a0 :: st) S I J Q = ((am_is S a0 9 ∧ am_rf S a0 21 ≠ 0) ∧ am_T d 175 126 ls (.ref (am_rf S a0 21) :: st) S I J Q) := tr_geta (k := 47) (by decide +kernel) (by decide +kernel) (by decide +kernel)
theorem r175_126 : am_T d 175 126 [l0, l1, some (.int x0), l3] st S I J Q = am_T d 175 127 [l0, l1, some (.int x0), l3] (.int x0 :: st) S I J Q := tr_iload_n (m := 2) (by decide +kernel) rfl
theorem r175_127 : am_T d 175 127 [l0, l1, l2, some (.int x0)] st S I J Q = am_T d 175 128 [l0, l1, l2, some (.int x0)] (.int x0 :: st) S I J Q := tr_iload_n (m := 3) (by decide +kernel) rfl
theorem r175_128 : am_T d 175 128 ls st S I J Q = am_T d 175 130 ls (.int (-107) :: st) S I J Q := tr_bipush (m := -107) (by decide +kernel) (by decide)
theorem r175_130 : am_T d 175 130 ls (.int x1 :: .int x0 :: st) S I J Q = if x0 = x1 then am_T d 175 133 ls st S I J Q else am_T d 175 137 ls st S I J Q := tr_icmpne (o := 7) (by decide +kernel) rfl
theorem r175_133 : am_T d 175 133 ls st S I J Q = am_T d 175 134 ls (.int (-1) :: st) S I J Q := tr_iconst (m := -1) (by decide +kernel) (by decide)
theorem r175_134 : am_T d 175 134 ls st S I J Q = am_T d 175 138 ls st S I J Q := tr_goto (o := 4) (by decide +kernel) rfl
theorem r175_137 : am_T d 175 137 [l0, l1, l2, some (.int x0)] st S I J Q = am_T d 175 138 [l0, l1, l2, some (.int x0)] (.int x0 :: st) S I J Q := tr_iload_n (m := 3) (by decide +kernel) rfl
theorem r175_138 : am_T d 175 138 ls (.int x1 :: .int x0 :: .ref a0 :: st) S I J Q = (am_ixw S a0 20 x0 ∧ am_T d 175 139 ls st S (am_up I a0 x0.toNatClampNeg x1) J Q) := tr_iast (by decide +kernel)
theorem r175_139 : am_T d 175 139 [l0, l1, some (.int x0), l3] st S I J Q = am_T d 175 140 [l0, l1, some (.int x0), l3] (.int x0 :: st) S I J Q := tr_iload_n (m := 2) (by decide +kernel) rfl
theorem r175_140 : am_T d 175 140 [l0, l1, l2, some (.int x0)] st S I J Q = am_T d 175 141 [l0, l1, l2, some (.int x0)] (.int x0 :: st) S I J Q := tr_iload_n (m := 3) (by decide +kernel) rfl
theorem r175_141 : am_T d 175 141 ls st S I J Q = am_T d 175 143 ls (.int (-107) :: st) S I J Q := tr_bipush (m := -107) (by decide +kernel) (by decide)
theorem r175_143 : am_T d 175 143 ls (.int x1 :: .int x0 :: st) S I J Q = if x0 = x1 then am_T d 175 146 ls st S I J Q else am_T d 175 150 ls st S I J Q := tr_icmpne (o := 7) (by decide +kernel) rfl
theorem r175_146 : am_T d 175 146 ls st S I J Q = am_T d 175 147 ls (.int (-1) :: st) S I J Q := tr_iconst (m := -1) (by decide +kernel) (by decide)
theorem r175_147 : am_T d 175 147 ls st S I J Q = am_T d 175 151 ls st S I J Q := tr_goto (o := 4) (by decide +kernel) rfl
theorem r175_150 : am_T d 175 150 ls st S I J Q = am_T d 175 151 ls (.int 1 :: st) S I J Q := tr_iconst (m := 1) (by decide +kernel) (by decide)
theorem r175_151 : am_T d 175 151 ls (.int x1 :: .int x0 :: st) S I J Q = am_T d 175 152 ls (.int (x0 + x1) :: st) S I J Q := tr_iadd (by decide +kernel)
theorem r175_152 : am_T d 175 152 [l0, l1, l2, l3] (.int x0 :: st) S I J Q = am_T d 175 153 [l0, am_clr l1, some (.int x0), l3] st S I J Q := tr_istore_n (m := 2) (by decide +kernel) (Nat.le_of_ble_eq_true rfl) rfl
theorem r175_153 : am_T d 175 153 ls st S I J Q = am_T d 175 34 ls st S I J Q := tr_goto (o := -119) (by decide +kernel) rfl
theorem r175_156 : am_T d 175 156 ls [] S I J Q = Q none S I J := tr_vret (by decide +kernel) (by decide +kernel)
-- 176 Mod.limitedCost()I; heads []
theorem e176 : am_C (d + 1) 176 [.ref a0] S I J Q = am_T d 176 0 [some (.ref a0)] [] S I J Q := tr_en (Nat.le_of_ble_eq_true rfl) rfl
theorem r176_0 : am_T d 176 0 [some (.ref a0)] st S I J Q = am_T d 176 1 [some (.ref a0)] (.ref a0 :: st) S I J Q := tr_aload_n (m := 0) (by decide +kernel) rfl
theorem r176_1 : am_T d 176 1 ls st S I J Q = am_T d 176 3 ls (.int (-107) :: st) S I J Q := tr_bipush (m := -107) (by decide +kernel) (by decide)
theorem r176_3 : am_T d 176 3 ls [.int x1, .ref a0] S I J Q = (am_is S a0 9 ∧ am_C d 175 [.ref a0, .int x1] S I J (fun r S I J => am_T d 176 6 ls (am_psh r []) S I J Q)) := tr_virt (k := 203) (by decide +kernel) (by decide +kernel) rfl rfl (Nat.le_of_ble_eq_true rfl) (by decide +kernel)
theorem r176_6 : am_T d 176 6 [some (.ref a0)] st S I J Q = am_T d 176 7 [some (.ref a0)] (.ref a0 :: st) S I J Q := tr_aload_n (m := 0) (by decide +kernel) rfl
theorem r176_7 : am_T d 176 7 ls (.ref a0 :: st) S I J Q = (am_is S a0 9 ∧ am_T d 176 10 ls (.int (I a0 23) :: st) S I J Q) := tr_geti (k := 190) (by decide +kernel) (by decide +kernel) (Or.inl (by decide +kernel))
theorem r176_10 : am_T d 176 10 ls st S I J Q = am_T d 176 12 ls (.int (-107) :: st) S I J Q := tr_bipush (m := -107) (by decide +kernel) (by decide)
theorem r176_12 : am_T d 176 12 ls (.int x1 :: .int x0 :: st) S I J Q = if x0 = x1 then am_T d 176 15 ls st S I J Q else am_T d 176 20 ls st S I J Q := tr_icmpne (o := 8) (by decide +kernel) rfl
theorem r176_15 : am_T d 176 15 ls st S I J Q = am_T d 176 17 ls (.int (-106) :: st) S I J Q := tr_bipush (m := -106) (by decide +kernel) (by decide)
theorem r176_17 : am_T d 176 17 ls st S I J Q = am_T d 176 24 ls st S I J Q := tr_goto (o := 7) (by decide +kernel) rfl
theorem r176_20 : am_T d 176 20 [some (.ref a0)] st S I J Q = am_T d 176 21 [some (.ref a0)] (.ref a0 :: st) S I J Q := tr_aload_n (m := 0) (by decide +kernel) rfl
theorem r176_21 : am_T d 176 21 ls (.ref a0 :: st) S I J Q = (am_is S a0 9 ∧ am_T d 176 24 ls (.int (I a0 23) :: st) S I J Q) := tr_geti (k := 190) (by decide +kernel) (by decide +kernel) (Or.inl (by decide +kernel))
theorem r176_24 : am_T d 176 24 ls [.int x0] S I J Q = Q (some (.int x0)) S I J := tr_ireti (by decide +kernel) (by decide +kernel)
-- 177 Mod.limitedArc(I)I; heads []
theorem e177 : am_C (d + 1) 177 [.ref a0, .int x1] S I J Q = am_T d 177 0 [some (.ref a0), some (.int x1)] [] S I J Q := tr_en (Nat.le_of_ble_eq_true rfl) rfl
theorem r177_0 : am_T d 177 0 [some (.ref a0), l1] st S I J Q = am_T d 177 1 [some (.ref a0), l1] (.ref a0 :: st) S I J Q := tr_aload_n (m := 0) (by decide +kernel) rfl
theorem r177_1 : am_T d 177 1 [l0, some (.int x0)] st S I J Q = am_T d 177 2 [l0, some (.int x0)] (.int x0 :: st) S I J Q := tr_iload_n (m := 1) (by decide +kernel) rfl
theorem r177_2 : am_T d 177 2 ls [.int x1, .ref a0] S I J Q = (am_is S a0 9 ∧ am_C d 113 [.ref a0, .int x1] S I J (fun r S I J => am_T d 177 5 ls (am_psh r []) S I J Q)) := tr_virt (k := 74) (by decide +kernel) (by decide +kernel) rfl rfl (Nat.le_of_ble_eq_true rfl) (by decide +kernel)
theorem r177_5 : am_T d 177 5 ls (.int x0 :: st) S I J Q = if x0 = 0 then am_T d 177 8 ls st S I J Q else am_T d 177 11 ls st S I J Q := tr_ifne (o := 6) (by decide +kernel) rfl
theorem r177_8 : am_T d 177 8 ls st S I J Q = am_T d 177 10 ls (.int (-101) :: st) S I J Q := tr_bipush (m := -101) (by decide +kernel) (by decide)
theorem r177_10 : am_T d 177 10 ls [.int x0] S I J Q = Q (some (.int x0)) S I J := tr_ireti (by decide +kernel) (by decide +kernel)
theorem r177_11 : am_T d 177 11 [some (.ref a0), l1] st S I J Q = am_T d 177 12 [some (.ref a0), l1] (.ref a0 :: st) S I J Q := tr_aload_n (m := 0) (by decide +kernel) rfl
theorem r177_12 : am_T d 177 12 ls st S I J Q = am_T d 177 14 ls (.int (-107) :: st) S I J Q := tr_bipush (m := -107) (by decide +kernel) (by decide)
theorem r177_14 : am_T d 177 14 ls [.int x1, .ref a0] S I J Q = (am_is S a0 9 ∧ am_C d 175 [.ref a0, .int x1] S I J (fun r S I J => am_T d 177 17 ls (am_psh r []) S I J Q)) := tr_virt (k := 203) (by decide +kernel) (by decide +kernel) rfl rfl (Nat.le_of_ble_eq_true rfl) (by decide +kernel)
theorem r177_17 : am_T d 177 17 [some (.ref a0), l1] st S I J Q = am_T d 177 18 [some (.ref a0), l1] (.ref a0 :: st) S I J Q := tr_aload_n (m := 0) (by decide +kernel) rfl
theorem r177_18 : am_T d 177 18 ls (.ref a0 :: st) S I J Q = (am_is S a0 9 ∧ am_T d 177 21 ls (.int (I a0 23) :: st) S I J Q) := tr_geti (k := 190) (by decide +kernel) (by decide +kernel) (Or.inl (by decide +kernel))
theorem r177_21 : am_T d 177 21 ls st S I J Q = am_T d 177 23 ls (.int (-107) :: st) S I J Q := tr_bipush (m := -107) (by decide +kernel) (by decide)
theorem r177_23 : am_T d 177 23 ls (.int x1 :: .int x0 :: st) S I J Q = if x0 = x1 then am_T d 177 26 ls st S I J Q else am_T d 177 29 ls st S I J Q := tr_icmpne (o := 6) (by decide +kernel) rfl
theorem r177_26 : am_T d 177 26 ls st S I J Q = am_T d 177 28 ls (.int (-106) :: st) S I J Q := tr_bipush (m := -106) (by decide +kernel) (by decide)
theorem r177_28 : am_T d 177 28 ls [.int x0] S I J Q = Q (some (.int x0)) S I J := tr_ireti (by decide +kernel) (by decide +kernel)
theorem r177_29 : am_T d 177 29 [l0, some (.int x0)] st S I J Q = am_T d 177 30 [l0, some (.int x0)] (.int x0 :: st) S I J Q := tr_iload_n (m := 1) (by decide +kernel) rfl
theorem r177_30 : am_T d 177 30 [some (.ref a0), l1] st S I J Q = am_T d 177 31 [some (.ref a0), l1] (.ref a0 :: st) S I J Q := tr_aload_n (m := 0) (by decide +kernel) rfl
theorem r177_31 : am_T d 177 31 ls (.ref a0 :: st) S I J Q = ((am_is S a0 9 ∧ am_rf S a0 0 ≠ 0) ∧ am_T d 177 34 ls (.ref (am_rf S a0 0) :: st) S I J Q) := tr_geta (k := 7) (by decide +kernel) (by decide +kernel) (by decide +kernel)
theorem r177_34 : am_T d 177 34 ls st S I J Q = am_T d 177 35 ls (.int 1 :: st) S I J Q := tr_iconst (m := 1) (by decide +kernel) (by decide)
theorem r177_35 : am_T d 177 35 ls (.int x0 :: .ref a0 :: st) S I J Q = (am_ix S a0 20 x0 ∧ am_T d 177 36 ls (.int (I a0 x0.toNatClampNeg) :: st) S I J Q) := tr_iald (by decide +kernel)
theorem r177_36 : am_T d 177 36 ls (.int x1 :: .int x0 :: st) S I J Q = if x0 = x1 then am_T d 177 39 ls st S I J Q else am_T d 177 44 ls st S I J Q := tr_icmpne (o := 8) (by decide +kernel) rfl
theorem r177_39 : am_T d 177 39 ls st S I J Q = am_T d 177 41 ls (.int (-107) :: st) S I J Q := tr_bipush (m := -107) (by decide +kernel) (by decide)
theorem r177_41 : am_T d 177 41 ls st S I J Q = am_T d 177 50 ls st S I J Q := tr_goto (o := 9) (by decide +kernel) rfl
theorem r177_44 : am_T d 177 44 [some (.ref a0), l1] st S I J Q = am_T d 177 45 [some (.ref a0), l1] (.ref a0 :: st) S I J Q := tr_aload_n (m := 0) (by decide +kernel) rfl
theorem r177_45 : am_T d 177 45 ls (.ref a0 :: st) S I J Q = ((am_is S a0 9 ∧ am_rf S a0 22 ≠ 0) ∧ am_T d 177 48 ls (.ref (am_rf S a0 22) :: st) S I J Q) := tr_geta (k := 50) (by decide +kernel) (by decide +kernel) (by decide +kernel)
theorem r177_48 : am_T d 177 48 [l0, some (.int x0)] st S I J Q = am_T d 177 49 [l0, some (.int x0)] (.int x0 :: st) S I J Q := tr_iload_n (m := 1) (by decide +kernel) rfl
theorem r177_49 : am_T d 177 49 ls (.int x0 :: .ref a0 :: st) S I J Q = (am_ix S a0 20 x0 ∧ am_T d 177 50 ls (.int (I a0 x0.toNatClampNeg) :: st) S I J Q) := tr_iald (by decide +kernel)
theorem r177_50 : am_T d 177 50 ls [.int x0] S I J Q = Q (some (.int x0)) S I J := tr_ireti (by decide +kernel) (by decide +kernel)
-- 178 Mod.bids(II)Z; heads [2, 23, 35, 94, 163, 180]
theorem e178 : am_C (d + 1) 178 [.ref a0, .int x1, .int x2] S I J Q = am_T d 178 0 [some (.ref a0), some (.int x1), some (.int x2), none, none, none, none, none] [] S I J Q := tr_en (Nat.le_of_ble_eq_true rfl) rfl
theorem r178_0 : am_T d 178 0 ls st S I J Q = am_T d 178 1 ls (.int 0 :: st) S I J Q := tr_iconst (m := 0) (by decide +kernel) (by decide)
theorem r178_1 : am_T d 178 1 [l0, l1, l2, l3, l4, l5, l6, l7] (.int x0 :: st) S I J Q = am_T d 178 2 [l0, l1, am_clr l2, some (.int x0), l4, l5, l6, l7] st S I J Q := tr_istore_n (m := 3) (by decide +kernel) (Nat.le_of_ble_eq_true rfl) rfl
theorem r178_2 : am_T d 178 2 [l0, l1, l2, some (.int x0), l4, l5, l6, l7] st S I J Q = am_T d 178 3 [l0, l1, l2, some (.int x0), l4, l5, l6, l7] (.int x0 :: st) S I J Q := tr_iload_n (m := 3) (by decide +kernel) rfl
theorem r178_3 : am_T d 178 3 ls st S I J Q = am_T d 178 5 ls (.int 8 :: st) S I J Q := tr_bipush (m := 8) (by decide +kernel) (by decide)
theorem r178_5 : am_T d 178 5 ls (.int x1 :: .int x0 :: st) S I J Q = if x1 ≤ x0 then am_T d 178 21 ls st S I J Q else am_T d 178 8 ls st S I J Q := tr_icmpge (o := 16) (by decide +kernel) rfl
theorem r178_8 : am_T d 178 8 [some (.ref a0), l1, l2, l3, l4, l5, l6, l7] st S I J Q = am_T d 178 9 [some (.ref a0), l1, l2, l3, l4, l5, l6, l7] (.ref a0 :: st) S I J Q := tr_aload_n (m := 0) (by decide +kernel) rfl
theorem r178_9 : am_T d 178 9 ls (.ref a0 :: st) S I J Q = ((am_is S a0 9 ∧ am_rf S a0 25 ≠ 0) ∧ am_T d 178 12 ls (.ref (am_rf S a0 25) :: st) S I J Q) := tr_geta (k := 53) (by decide +kernel) (by decide +kernel) (by decide +kernel)
theorem r178_12 : am_T d 178 12 [l0, l1, l2, some (.int x0), l4, l5, l6, l7] st S I J Q = am_T d 178 13 [l0, l1, l2, some (.int x0), l4, l5, l6, l7] (.int x0 :: st) S I J Q := tr_iload_n (m := 3) (by decide +kernel) rfl
theorem r178_13 : am_T d 178 13 ls st S I J Q = am_T d 178 14 ls (.int 0 :: st) S I J Q := tr_iconst (m := 0) (by decide +kernel) (by decide)
theorem r178_14 : am_T d 178 14 ls (.int x1 :: .int x0 :: .ref a0 :: st) S I J Q = (am_ixw S a0 20 x0 ∧ am_T d 178 15 ls st S (am_up I a0 x0.toNatClampNeg x1) J Q) := tr_iast (by decide +kernel)
theorem r178_15 : am_T d 178 15 [l0, l1, l2, some (.int x0), l4, l5, l6, l7] st S I J Q = am_T d 178 18 [l0, l1, am_clr l2, some (.int (x0 + 1)), l4, l5, l6, l7] st S I J Q := tr_iinc (k := 3) (m := 1) (by decide +kernel) rfl (Nat.le_of_ble_eq_true rfl) (by decide) rfl
theorem r178_18 : am_T d 178 18 ls st S I J Q = am_T d 178 2 ls st S I J Q := tr_goto (o := -16) (by decide +kernel) rfl
theorem r178_21 : am_T d 178 21 ls st S I J Q = am_T d 178 22 ls (.int 0 :: st) S I J Q := tr_iconst (m := 0) (by decide +kernel) (by decide)
theorem r178_22 : am_T d 178 22 [l0, l1, l2, l3, l4, l5, l6, l7] (.int x0 :: st) S I J Q = am_T d 178 23 [l0, l1, am_clr l2, some (.int x0), l4, l5, l6, l7] st S I J Q := tr_istore_n (m := 3) (by decide +kernel) (Nat.le_of_ble_eq_true rfl) rfl
theorem r178_23 : am_T d 178 23 [l0, l1, l2, some (.int x0), l4, l5, l6, l7] st S I J Q = am_T d 178 24 [l0, l1, l2, some (.int x0), l4, l5, l6, l7] (.int x0 :: st) S I J Q := tr_iload_n (m := 3) (by decide +kernel) rfl
theorem r178_24 : am_T d 178 24 [l0, some (.int x0), l2, l3, l4, l5, l6, l7] st S I J Q = am_T d 178 25 [l0, some (.int x0), l2, l3, l4, l5, l6, l7] (.int x0 :: st) S I J Q := tr_iload_n (m := 1) (by decide +kernel) rfl
theorem r178_25 : am_T d 178 25 ls (.int x1 :: .int x0 :: st) S I J Q = if x1 ≤ x0 then am_T d 178 330 ls st S I J Q else am_T d 178 28 ls st S I J Q := tr_icmpge (o := 305) (by decide +kernel) rfl
theorem r178_28 : am_T d 178 28 [some (.ref a0), l1, l2, l3, l4, l5, l6, l7] st S I J Q = am_T d 178 29 [some (.ref a0), l1, l2, l3, l4, l5, l6, l7] (.ref a0 :: st) S I J Q := tr_aload_n (m := 0) (by decide +kernel) rfl
theorem r178_29 : am_T d 178 29 ls [.ref a0] S I J Q = (am_is S a0 9 ∧ am_C d 150 [.ref a0] S I J (fun r S I J => am_T d 178 32 ls (am_psh r []) S I J Q)) := tr_virt (k := 162) (by decide +kernel) (by decide +kernel) rfl rfl (Nat.le_of_ble_eq_true rfl) (by decide +kernel)
theorem r178_32 : am_T d 178 32 ls st S I J Q = am_T d 178 33 ls (.int 0 :: st) S I J Q := tr_iconst (m := 0) (by decide +kernel) (by decide)
theorem r178_33 : am_T d 178 33 [l0, l1, l2, l3, l4, l5, l6, l7] (.int x0 :: st) S I J Q = am_T d 178 35 [l0, l1, l2, am_clr l3, some (.int x0), l5, l6, l7] st S I J Q := tr_istore (k := 4) (by decide +kernel) (Nat.le_of_ble_eq_true rfl) rfl
theorem r178_35 : am_T d 178 35 [l0, l1, l2, l3, some (.int x0), l5, l6, l7] st S I J Q = am_T d 178 37 [l0, l1, l2, l3, some (.int x0), l5, l6, l7] (.int x0 :: st) S I J Q := tr_iload (k := 4) (by decide +kernel) rfl
theorem r178_37 : am_T d 178 37 [some (.ref a0), l1, l2, l3, l4, l5, l6, l7] st S I J Q = am_T d 178 38 [some (.ref a0), l1, l2, l3, l4, l5, l6, l7] (.ref a0 :: st) S I J Q := tr_aload_n (m := 0) (by decide +kernel) rfl
theorem r178_38 : am_T d 178 38 ls (.ref a0 :: st) S I J Q = ((am_is S a0 9 ∧ am_rf S a0 0 ≠ 0) ∧ am_T d 178 41 ls (.ref (am_rf S a0 0) :: st) S I J Q) := tr_geta (k := 7) (by decide +kernel) (by decide +kernel) (by decide +kernel)
theorem r178_41 : am_T d 178 41 ls st S I J Q = am_T d 178 42 ls (.int 2 :: st) S I J Q := tr_iconst (m := 2) (by decide +kernel) (by decide)
theorem r178_42 : am_T d 178 42 ls (.int x0 :: .ref a0 :: st) S I J Q = (am_ix S a0 20 x0 ∧ am_T d 178 43 ls (.int (I a0 x0.toNatClampNeg) :: st) S I J Q) := tr_iald (by decide +kernel)
theorem r178_43 : am_T d 178 43 ls (.int x1 :: .int x0 :: st) S I J Q = if x1 ≤ x0 then am_T d 178 76 ls st S I J Q else am_T d 178 46 ls st S I J Q := tr_icmpge (o := 33) (by decide +kernel) rfl
theorem r178_46 : am_T d 178 46 [some (.ref a0), l1, l2, l3, l4, l5, l6, l7] st S I J Q = am_T d 178 47 [some (.ref a0), l1, l2, l3, l4, l5, l6, l7] (.ref a0 :: st) S I J Q := tr_aload_n (m := 0) (by decide +kernel) rfl
theorem r178_47 : am_T d 178 47 ls (.ref a0 :: st) S I J Q = ((am_is S a0 9 ∧ am_rf S a0 13 ≠ 0) ∧ am_T d 178 50 ls (.ref (am_rf S a0 13) :: st) S I J Q) := tr_geta (k := 25) (by decide +kernel) (by decide +kernel) (by decide +kernel)
theorem r178_50 : am_T d 178 50 [l0, l1, l2, l3, some (.int x0), l5, l6, l7] st S I J Q = am_T d 178 52 [l0, l1, l2, l3, some (.int x0), l5, l6, l7] (.int x0 :: st) S I J Q := tr_iload (k := 4) (by decide +kernel) rfl
theorem r178_52 : am_T d 178 52 ls (.int x0 :: .ref a0 :: st) S I J Q = am_T d 178 53 ls (.int x0 :: .ref a0 :: .int x0 :: .ref a0 :: st) S I J Q := tr_dup2 (by decide +kernel)
theorem r178_53 : am_T d 178 53 ls (.int x0 :: .ref a0 :: st) S I J Q = (am_ix S a0 20 x0 ∧ am_T d 178 54 ls (.int (I a0 x0.toNatClampNeg) :: st) S I J Q) := tr_iald (by decide +kernel)
theorem r178_54 : am_T d 178 54 [some (.ref a0), l1, l2, l3, l4, l5, l6, l7] st S I J Q = am_T d 178 55 [some (.ref a0), l1, l2, l3, l4, l5, l6, l7] (.ref a0 :: st) S I J Q := tr_aload_n (m := 0) (by decide +kernel) rfl
theorem r178_55 : am_T d 178 55 ls (.ref a0 :: st) S I J Q = ((am_is S a0 9 ∧ am_rf S a0 25 ≠ 0) ∧ am_T d 178 58 ls (.ref (am_rf S a0 25) :: st) S I J Q) := tr_geta (k := 53) (by decide +kernel) (by decide +kernel) (by decide +kernel)
theorem r178_58 : am_T d 178 58 [some (.ref a0), l1, l2, l3, l4, l5, l6, l7] st S I J Q = am_T d 178 59 [some (.ref a0), l1, l2, l3, l4, l5, l6, l7] (.ref a0 :: st) S I J Q := tr_aload_n (m := 0) (by decide +kernel) rfl
theorem r178_59 : am_T d 178 59 ls (.ref a0 :: st) S I J Q = ((am_is S a0 9 ∧ am_rf S a0 0 ≠ 0) ∧ am_T d 178 62 ls (.ref (am_rf S a0 0) :: st) S I J Q) := tr_geta (k := 7) (by decide +kernel) (by decide +kernel) (by decide +kernel)
theorem r178_62 : am_T d 178 62 ls st S I J Q = am_T d 178 63 ls (.int 3 :: st) S I J Q := tr_iconst (m := 3) (by decide +kernel) (by decide)
theorem r178_63 : am_T d 178 63 [l0, l1, l2, l3, some (.int x0), l5, l6, l7] st S I J Q = am_T d 178 65 [l0, l1, l2, l3, some (.int x0), l5, l6, l7] (.int x0 :: st) S I J Q := tr_iload (k := 4) (by decide +kernel) rfl
theorem r178_65 : am_T d 178 65 ls (.int x1 :: .int x0 :: st) S I J Q = am_T d 178 66 ls (.int (x0 + x1) :: st) S I J Q := tr_iadd (by decide +kernel)
theorem r178_66 : am_T d 178 66 ls (.int x0 :: .ref a0 :: st) S I J Q = (am_ix S a0 20 x0 ∧ am_T d 178 67 ls (.int (I a0 x0.toNatClampNeg) :: st) S I J Q) := tr_iald (by decide +kernel)
theorem r178_67 : am_T d 178 67 ls (.int x0 :: .ref a0 :: st) S I J Q = (am_ix S a0 20 x0 ∧ am_T d 178 68 ls (.int (I a0 x0.toNatClampNeg) :: st) S I J Q) := tr_iald (by decide +kernel)
theorem r178_68 : am_T d 178 68 ls (.int x1 :: .int x0 :: st) S I J Q = am_T d 178 69 ls (.int (x0 + x1) :: st) S I J Q := tr_iadd (by decide +kernel)
theorem r178_69 : am_T d 178 69 ls (.int x1 :: .int x0 :: .ref a0 :: st) S I J Q = (am_ixw S a0 20 x0 ∧ am_T d 178 70 ls st S (am_up I a0 x0.toNatClampNeg x1) J Q) := tr_iast (by decide +kernel)
theorem r178_70 : am_T d 178 70 [l0, l1, l2, l3, some (.int x0), l5, l6, l7] st S I J Q = am_T d 178 73 [l0, l1, l2, am_clr l3, some (.int (x0 + 1)), l5, l6, l7] st S I J Q := tr_iinc (k := 4) (m := 1) (by decide +kernel) rfl (Nat.le_of_ble_eq_true rfl) (by decide) rfl
theorem r178_73 : am_T d 178 73 ls st S I J Q = am_T d 178 35 ls st S I J Q := tr_goto (o := -38) (by decide +kernel) rfl
theorem r178_76 : am_T d 178 76 [some (.ref a0), l1, l2, l3, l4, l5, l6, l7] st S I J Q = am_T d 178 77 [some (.ref a0), l1, l2, l3, l4, l5, l6, l7] (.ref a0 :: st) S I J Q := tr_aload_n (m := 0) (by decide +kernel) rfl
theorem r178_77 : am_T d 178 77 ls [.ref a0] S I J Q = (am_is S a0 9 ∧ am_C d 149 [.ref a0] S I J (fun r S I J => am_T d 178 80 ls (am_psh r []) S I J Q)) := tr_virt (k := 165) (by decide +kernel) (by decide +kernel) rfl rfl (Nat.le_of_ble_eq_true rfl) (by decide +kernel)
theorem r178_80 : am_T d 178 80 ls (.int x0 :: st) S I J Q = if x0 = 0 then am_T d 178 83 ls st S I J Q else am_T d 178 85 ls st S I J Q := tr_ifne (o := 5) (by decide +kernel) rfl
theorem r178_83 : am_T d 178 83 ls st S I J Q = am_T d 178 84 ls (.int 0 :: st) S I J Q := tr_iconst (m := 0) (by decide +kernel) (by decide)
theorem r178_84 : am_T d 178 84 ls [.int x0] S I J Q = ((x0 = 0 ∨ x0 = 1) ∧ Q (some (.int x0)) S I J) := tr_iretz (by decide +kernel) (by decide +kernel)
theorem r178_85 : am_T d 178 85 [some (.ref a0), l1, l2, l3, l4, l5, l6, l7] st S I J Q = am_T d 178 86 [some (.ref a0), l1, l2, l3, l4, l5, l6, l7] (.ref a0 :: st) S I J Q := tr_aload_n (m := 0) (by decide +kernel) rfl
theorem r178_86 : am_T d 178 86 ls [.ref a0] S I J Q = (am_is S a0 9 ∧ am_C d 151 [.ref a0] S I J (fun r S I J => am_T d 178 89 ls (am_psh r []) S I J Q)) := tr_virt (k := 175) (by decide +kernel) (by decide +kernel) rfl rfl (Nat.le_of_ble_eq_true rfl) (by decide +kernel)
theorem r178_89 : am_T d 178 89 [l0, l1, l2, l3, l4, l5, l6, l7] (.int x0 :: st) S I J Q = am_T d 178 91 [l0, l1, l2, am_clr l3, some (.int x0), l5, l6, l7] st S I J Q := tr_istore (k := 4) (by decide +kernel) (Nat.le_of_ble_eq_true rfl) rfl
theorem r178_91 : am_T d 178 91 ls st S I J Q = am_T d 178 92 ls (.int 0 :: st) S I J Q := tr_iconst (m := 0) (by decide +kernel) (by decide)
theorem r178_92 : am_T d 178 92 [l0, l1, l2, l3, l4, l5, l6, l7] (.int x0 :: st) S I J Q = am_T d 178 94 [l0, l1, l2, l3, am_clr l4, some (.int x0), l6, l7] st S I J Q := tr_istore (k := 5) (by decide +kernel) (Nat.le_of_ble_eq_true rfl) rfl
theorem r178_94 : am_T d 178 94 [l0, l1, l2, l3, l4, some (.int x0), l6, l7] st S I J Q = am_T d 178 96 [l0, l1, l2, l3, l4, some (.int x0), l6, l7] (.int x0 :: st) S I J Q := tr_iload (k := 5) (by decide +kernel) rfl
theorem r178_96 : am_T d 178 96 [some (.ref a0), l1, l2, l3, l4, l5, l6, l7] st S I J Q = am_T d 178 97 [some (.ref a0), l1, l2, l3, l4, l5, l6, l7] (.ref a0 :: st) S I J Q := tr_aload_n (m := 0) (by decide +kernel) rfl
theorem r178_97 : am_T d 178 97 ls (.ref a0 :: st) S I J Q = ((am_is S a0 9 ∧ am_rf S a0 0 ≠ 0) ∧ am_T d 178 100 ls (.ref (am_rf S a0 0) :: st) S I J Q) := tr_geta (k := 7) (by decide +kernel) (by decide +kernel) (by decide +kernel)
theorem r178_100 : am_T d 178 100 ls st S I J Q = am_T d 178 101 ls (.int 0 :: st) S I J Q := tr_iconst (m := 0) (by decide +kernel) (by decide)
theorem r178_101 : am_T d 178 101 ls (.int x0 :: .ref a0 :: st) S I J Q = (am_ix S a0 20 x0 ∧ am_T d 178 102 ls (.int (I a0 x0.toNatClampNeg) :: st) S I J Q) := tr_iald (by decide +kernel)
theorem r178_102 : am_T d 178 102 ls (.int x1 :: .int x0 :: st) S I J Q = if x1 ≤ x0 then am_T d 178 134 ls st S I J Q else am_T d 178 105 ls st S I J Q := tr_icmpge (o := 32) (by decide +kernel) rfl
theorem r178_105 : am_T d 178 105 [l0, l1, l2, l3, some (.int x0), l5, l6, l7] st S I J Q = am_T d 178 107 [l0, l1, l2, l3, some (.int x0), l5, l6, l7] (.int x0 :: st) S I J Q := tr_iload (k := 4) (by decide +kernel) rfl
theorem r178_107 : am_T d 178 107 [some (.ref a0), l1, l2, l3, l4, l5, l6, l7] st S I J Q = am_T d 178 108 [some (.ref a0), l1, l2, l3, l4, l5, l6, l7] (.ref a0 :: st) S I J Q := tr_aload_n (m := 0) (by decide +kernel) rfl
theorem r178_108 : am_T d 178 108 ls (.ref a0 :: st) S I J Q = ((am_is S a0 9 ∧ am_rf S a0 25 ≠ 0) ∧ am_T d 178 111 ls (.ref (am_rf S a0 25) :: st) S I J Q) := tr_geta (k := 53) (by decide +kernel) (by decide +kernel) (by decide +kernel)
theorem r178_111 : am_T d 178 111 [l0, l1, l2, l3, l4, some (.int x0), l6, l7] st S I J Q = am_T d 178 113 [l0, l1, l2, l3, l4, some (.int x0), l6, l7] (.int x0 :: st) S I J Q := tr_iload (k := 5) (by decide +kernel) rfl
theorem r178_113 : am_T d 178 113 ls (.int x0 :: .ref a0 :: st) S I J Q = (am_ix S a0 20 x0 ∧ am_T d 178 114 ls (.int (I a0 x0.toNatClampNeg) :: st) S I J Q) := tr_iald (by decide +kernel)
theorem r178_114 : am_T d 178 114 [some (.ref a0), l1, l2, l3, l4, l5, l6, l7] st S I J Q = am_T d 178 115 [some (.ref a0), l1, l2, l3, l4, l5, l6, l7] (.ref a0 :: st) S I J Q := tr_aload_n (m := 0) (by decide +kernel) rfl
theorem r178_115 : am_T d 178 115 ls (.ref a0 :: st) S I J Q = ((am_is S a0 9 ∧ am_rf S a0 0 ≠ 0) ∧ am_T d 178 118 ls (.ref (am_rf S a0 0) :: st) S I J Q) := tr_geta (k := 7) (by decide +kernel) (by decide +kernel) (by decide +kernel)
theorem r178_118 : am_T d 178 118 ls st S I J Q = am_T d 178 120 ls (.int 99 :: st) S I J Q := tr_bipush (m := 99) (by decide +kernel) (by decide)
theorem r178_120 : am_T d 178 120 [l0, l1, l2, l3, l4, some (.int x0), l6, l7] st S I J Q = am_T d 178 122 [l0, l1, l2, l3, l4, some (.int x0), l6, l7] (.int x0 :: st) S I J Q := tr_iload (k := 5) (by decide +kernel) rfl
theorem r178_122 : am_T d 178 122 ls (.int x1 :: .int x0 :: st) S I J Q = am_T d 178 123 ls (.int (x0 + x1) :: st) S I J Q := tr_iadd (by decide +kernel)
theorem r178_123 : am_T d 178 123 ls (.int x0 :: .ref a0 :: st) S I J Q = (am_ix S a0 20 x0 ∧ am_T d 178 124 ls (.int (I a0 x0.toNatClampNeg) :: st) S I J Q) := tr_iald (by decide +kernel)
theorem r178_124 : am_T d 178 124 ls (.int x1 :: .int x0 :: st) S I J Q = am_T d 178 125 ls (.int (x0 * x1) :: st) S I J Q := tr_imul (by decide +kernel)
theorem r178_125 : am_T d 178 125 ls (.int x1 :: .int x0 :: st) S I J Q = am_T d 178 126 ls (.int (x0 - x1) :: st) S I J Q := tr_isub (by decide +kernel)
theorem r178_126 : am_T d 178 126 [l0, l1, l2, l3, l4, l5, l6, l7] (.int x0 :: st) S I J Q = am_T d 178 128 [l0, l1, l2, am_clr l3, some (.int x0), l5, l6, l7] st S I J Q := tr_istore (k := 4) (by decide +kernel) (Nat.le_of_ble_eq_true rfl) rfl
theorem r178_128 : am_T d 178 128 [l0, l1, l2, l3, l4, some (.int x0), l6, l7] st S I J Q = am_T d 178 131 [l0, l1, l2, l3, am_clr l4, some (.int (x0 + 1)), l6, l7] st S I J Q := tr_iinc (k := 5) (m := 1) (by decide +kernel) rfl (Nat.le_of_ble_eq_true rfl) (by decide) rfl
theorem r178_131 : am_T d 178 131 ls st S I J Q = am_T d 178 94 ls st S I J Q := tr_goto (o := -37) (by decide +kernel) rfl
theorem r178_134 : am_T d 178 134 [some (.ref a0), l1, l2, l3, l4, l5, l6, l7] st S I J Q = am_T d 178 135 [some (.ref a0), l1, l2, l3, l4, l5, l6, l7] (.ref a0 :: st) S I J Q := tr_aload_n (m := 0) (by decide +kernel) rfl
theorem r178_135 : am_T d 178 135 [l0, l1, l2, some (.int x0), l4, l5, l6, l7] st S I J Q = am_T d 178 136 [l0, l1, l2, some (.int x0), l4, l5, l6, l7] (.int x0 :: st) S I J Q := tr_iload_n (m := 3) (by decide +kernel) rfl
theorem r178_136 : am_T d 178 136 ls (.int x0 :: st) S I J Q = if x0 = 0 then am_T d 178 148 ls st S I J Q else am_T d 178 139 ls st S I J Q := tr_ifeq (o := 12) (by decide +kernel) rfl
theorem r178_139 : am_T d 178 139 [l0, l1, l2, l3, some (.int x0), l5, l6, l7] st S I J Q = am_T d 178 141 [l0, l1, l2, l3, some (.int x0), l5, l6, l7] (.int x0 :: st) S I J Q := tr_iload (k := 4) (by decide +kernel) rfl
theorem r178_141 : am_T d 178 141 [some (.ref a0), l1, l2, l3, l4, l5, l6, l7] st S I J Q = am_T d 178 142 [some (.ref a0), l1, l2, l3, l4, l5, l6, l7] (.ref a0 :: st) S I J Q := tr_aload_n (m := 0) (by decide +kernel) rfl
theorem r178_142 : am_T d 178 142 ls (.ref a0 :: st) S I J Q = (am_is S a0 9 ∧ am_T d 178 145 ls (.int (I a0 26) :: st) S I J Q) := tr_geti (k := 206) (by decide +kernel) (by decide +kernel) (Or.inl (by decide +kernel))
theorem r178_145 : am_T d 178 145 ls (.int x1 :: .int x0 :: st) S I J Q = if x0 ≤ x1 then am_T d 178 153 ls st S I J Q else am_T d 178 148 ls st S I J Q := tr_icmple (o := 8) (by decide +kernel) rfl
theorem r178_148 : am_T d 178 148 [l0, l1, l2, l3, some (.int x0), l5, l6, l7] st S I J Q = am_T d 178 150 [l0, l1, l2, l3, some (.int x0), l5, l6, l7] (.int x0 :: st) S I J Q := tr_iload (k := 4) (by decide +kernel) rfl
theorem r178_150 : am_T d 178 150 ls st S I J Q = am_T d 178 157 ls st S I J Q := tr_goto (o := 7) (by decide +kernel) rfl
theorem r178_153 : am_T d 178 153 [some (.ref a0), l1, l2, l3, l4, l5, l6, l7] st S I J Q = am_T d 178 154 [some (.ref a0), l1, l2, l3, l4, l5, l6, l7] (.ref a0 :: st) S I J Q := tr_aload_n (m := 0) (by decide +kernel) rfl
theorem r178_154 : am_T d 178 154 ls (.ref a0 :: st) S I J Q = (am_is S a0 9 ∧ am_T d 178 157 ls (.int (I a0 26) :: st) S I J Q) := tr_geti (k := 206) (by decide +kernel) (by decide +kernel) (Or.inl (by decide +kernel))
theorem r178_157 : am_T d 178 157 ls (.int x0 :: .ref a0 :: st) S I J Q = (am_is S a0 9 ∧ am_T d 178 160 ls st S (am_up I a0 26 x0) J Q) := tr_puti (k := 206) (by decide +kernel) (by decide +kernel) (by decide +kernel) (by decide +kernel)
theorem r178_160 : am_T d 178 160 ls st S I J Q = am_T d 178 161 ls (.int 0 :: st) S I J Q := tr_iconst (m := 0) (by decide +kernel) (by decide)
theorem r178_161 : am_T d 178 161 [l0, l1, l2, l3, l4, l5, l6, l7] (.int x0 :: st) S I J Q = am_T d 178 163 [l0, l1, l2, l3, am_clr l4, some (.int x0), l6, l7] st S I J Q := tr_istore (k := 5) (by decide +kernel) (Nat.le_of_ble_eq_true rfl) rfl
theorem r178_163 : am_T d 178 163 [l0, l1, l2, l3, l4, some (.int x0), l6, l7] st S I J Q = am_T d 178 165 [l0, l1, l2, l3, l4, some (.int x0), l6, l7] (.int x0 :: st) S I J Q := tr_iload (k := 5) (by decide +kernel) rfl
theorem r178_165 : am_T d 178 165 [some (.ref a0), l1, l2, l3, l4, l5, l6, l7] st S I J Q = am_T d 178 166 [some (.ref a0), l1, l2, l3, l4, l5, l6, l7] (.ref a0 :: st) S I J Q := tr_aload_n (m := 0) (by decide +kernel) rfl
theorem r178_166 : am_T d 178 166 ls (.ref a0 :: st) S I J Q = ((am_is S a0 9 ∧ am_rf S a0 0 ≠ 0) ∧ am_T d 178 169 ls (.ref (am_rf S a0 0) :: st) S I J Q) := tr_geta (k := 7) (by decide +kernel) (by decide +kernel) (by decide +kernel)
theorem r178_169 : am_T d 178 169 ls st S I J Q = am_T d 178 170 ls (.int 0 :: st) S I J Q := tr_iconst (m := 0) (by decide +kernel) (by decide)
theorem r178_170 : am_T d 178 170 ls (.int x0 :: .ref a0 :: st) S I J Q = (am_ix S a0 20 x0 ∧ am_T d 178 171 ls (.int (I a0 x0.toNatClampNeg) :: st) S I J Q) := tr_iald (by decide +kernel)
theorem r178_171 : am_T d 178 171 ls (.int x1 :: .int x0 :: st) S I J Q = if x1 ≤ x0 then am_T d 178 324 ls st S I J Q else am_T d 178 174 ls st S I J Q := tr_icmpge (o := 153) (by decide +kernel) rfl
theorem r178_174 : am_T d 178 174 ls st S I J Q = am_T d 178 175 ls (.int 0 :: st) S I J Q := tr_iconst (m := 0) (by decide +kernel) (by decide)
theorem r178_175 : am_T d 178 175 [l0, l1, l2, l3, l4, l5, l6, l7] (.int x0 :: st) S I J Q = am_T d 178 177 [l0, l1, l2, l3, l4, am_clr l5, some (.int x0), l7] st S I J Q := tr_istore (k := 6) (by decide +kernel) (Nat.le_of_ble_eq_true rfl) rfl
theorem r178_177 : am_T d 178 177 ls st S I J Q = am_T d 178 178 ls (.int 0 :: st) S I J Q := tr_iconst (m := 0) (by decide +kernel) (by decide)
theorem r178_178 : am_T d 178 178 [l0, l1, l2, l3, l4, l5, l6, l7] (.int x0 :: st) S I J Q = am_T d 178 180 [l0, l1, l2, l3, l4, l5, am_clr l6, some (.int x0)] st S I J Q := tr_istore (k := 7) (by decide +kernel) (Nat.le_of_ble_eq_true rfl) rfl
theorem r178_180 : am_T d 178 180 [l0, l1, l2, l3, l4, l5, l6, some (.int x0)] st S I J Q = am_T d 178 182 [l0, l1, l2, l3, l4, l5, l6, some (.int x0)] (.int x0 :: st) S I J Q := tr_iload (k := 7) (by decide +kernel) rfl
theorem r178_182 : am_T d 178 182 [some (.ref a0), l1, l2, l3, l4, l5, l6, l7] st S I J Q = am_T d 178 183 [some (.ref a0), l1, l2, l3, l4, l5, l6, l7] (.ref a0 :: st) S I J Q := tr_aload_n (m := 0) (by decide +kernel) rfl
theorem r178_183 : am_T d 178 183 ls (.ref a0 :: st) S I J Q = ((am_is S a0 9 ∧ am_rf S a0 0 ≠ 0) ∧ am_T d 178 186 ls (.ref (am_rf S a0 0) :: st) S I J Q) := tr_geta (k := 7) (by decide +kernel) (by decide +kernel) (by decide +kernel)
theorem r178_186 : am_T d 178 186 ls st S I J Q = am_T d 178 187 ls (.int 0 :: st) S I J Q := tr_iconst (m := 0) (by decide +kernel) (by decide)
theorem r178_187 : am_T d 178 187 ls (.int x0 :: .ref a0 :: st) S I J Q = (am_ix S a0 20 x0 ∧ am_T d 178 188 ls (.int (I a0 x0.toNatClampNeg) :: st) S I J Q) := tr_iald (by decide +kernel)
theorem r178_188 : am_T d 178 188 ls (.int x1 :: .int x0 :: st) S I J Q = if x1 ≤ x0 then am_T d 178 237 ls st S I J Q else am_T d 178 191 ls st S I J Q := tr_icmpge (o := 49) (by decide +kernel) rfl
theorem r178_191 : am_T d 178 191 [l0, l1, l2, l3, l4, l5, some (.int x0), l7] st S I J Q = am_T d 178 193 [l0, l1, l2, l3, l4, l5, some (.int x0), l7] (.int x0 :: st) S I J Q := tr_iload (k := 6) (by decide +kernel) rfl
theorem r178_193 : am_T d 178 193 [l0, l1, l2, l3, l4, l5, l6, some (.int x0)] st S I J Q = am_T d 178 195 [l0, l1, l2, l3, l4, l5, l6, some (.int x0)] (.int x0 :: st) S I J Q := tr_iload (k := 7) (by decide +kernel) rfl
theorem r178_195 : am_T d 178 195 [some (.ref a0), l1, l2, l3, l4, l5, l6, l7] st S I J Q = am_T d 178 196 [some (.ref a0), l1, l2, l3, l4, l5, l6, l7] (.ref a0 :: st) S I J Q := tr_aload_n (m := 0) (by decide +kernel) rfl
theorem r178_196 : am_T d 178 196 ls (.ref a0 :: st) S I J Q = ((am_is S a0 9 ∧ am_rf S a0 0 ≠ 0) ∧ am_T d 178 199 ls (.ref (am_rf S a0 0) :: st) S I J Q) := tr_geta (k := 7) (by decide +kernel) (by decide +kernel) (by decide +kernel)
theorem r178_199 : am_T d 178 199 ls st S I J Q = am_T d 178 200 ls (.int 1 :: st) S I J Q := tr_iconst (m := 1) (by decide +kernel) (by decide)
theorem r178_200 : am_T d 178 200 ls (.int x0 :: .ref a0 :: st) S I J Q = (am_ix S a0 20 x0 ∧ am_T d 178 201 ls (.int (I a0 x0.toNatClampNeg) :: st) S I J Q) := tr_iald (by decide +kernel)
theorem r178_201 : am_T d 178 201 ls (.int x1 :: .int x0 :: st) S I J Q = if x0 = x1 then am_T d 178 227 ls st S I J Q else am_T d 178 204 ls st S I J Q := tr_icmpeq (o := 26) (by decide +kernel) rfl
theorem r178_204 : am_T d 178 204 [some (.ref a0), l1, l2, l3, l4, l5, l6, l7] st S I J Q = am_T d 178 205 [some (.ref a0), l1, l2, l3, l4, l5, l6, l7] (.ref a0 :: st) S I J Q := tr_aload_n (m := 0) (by decide +kernel) rfl
theorem r178_205 : am_T d 178 205 ls (.ref a0 :: st) S I J Q = ((am_is S a0 9 ∧ am_rf S a0 0 ≠ 0) ∧ am_T d 178 208 ls (.ref (am_rf S a0 0) :: st) S I J Q) := tr_geta (k := 7) (by decide +kernel) (by decide +kernel) (by decide +kernel)
theorem r178_208 : am_T d 178 208 ls st S I J Q = am_T d 178 209 ls (.int 3 :: st) S I J Q := tr_iconst (m := 3) (by decide +kernel) (by decide)
theorem r178_209 : am_T d 178 209 [some (.ref a0), l1, l2, l3, l4, l5, l6, l7] st S I J Q = am_T d 178 210 [some (.ref a0), l1, l2, l3, l4, l5, l6, l7] (.ref a0 :: st) S I J Q := tr_aload_n (m := 0) (by decide +kernel) rfl
theorem r178_210 : am_T d 178 210 ls (.ref a0 :: st) S I J Q = ((am_is S a0 9 ∧ am_rf S a0 19 ≠ 0) ∧ am_T d 178 213 ls (.ref (am_rf S a0 19) :: st) S I J Q) := tr_geta (k := 44) (by decide +kernel) (by decide +kernel) (by decide +kernel)
theorem r178_213 : am_T d 178 213 [l0, l1, l2, l3, l4, l5, l6, some (.int x0)] st S I J Q = am_T d 178 215 [l0, l1, l2, l3, l4, l5, l6, some (.int x0)] (.int x0 :: st) S I J Q := tr_iload (k := 7) (by decide +kernel) rfl
theorem r178_215 : am_T d 178 215 ls (.int x0 :: .ref a0 :: st) S I J Q = (am_ix S a0 20 x0 ∧ am_T d 178 216 ls (.int (I a0 x0.toNatClampNeg) :: st) S I J Q) := tr_iald (by decide +kernel)
theorem r178_216 : am_T d 178 216 ls (.int x1 :: .int x0 :: st) S I J Q = am_T d 178 217 ls (.int (x0 + x1) :: st) S I J Q := tr_iadd (by decide +kernel)
theorem r178_217 : am_T d 178 217 ls (.int x0 :: .ref a0 :: st) S I J Q = (am_ix S a0 20 x0 ∧ am_T d 178 218 ls (.int (I a0 x0.toNatClampNeg) :: st) S I J Q) := tr_iald (by decide +kernel)
theorem r178_218 : am_T d 178 218 [l0, l1, l2, l3, l4, some (.int x0), l6, l7] st S I J Q = am_T d 178 220 [l0, l1, l2, l3, l4, some (.int x0), l6, l7] (.int x0 :: st) S I J Q := tr_iload (k := 5) (by decide +kernel) rfl
theorem r178_220 : am_T d 178 220 ls (.int x1 :: .int x0 :: st) S I J Q = if x0 = x1 then am_T d 178 223 ls st S I J Q else am_T d 178 227 ls st S I J Q := tr_icmpne (o := 7) (by decide +kernel) rfl
theorem r178_223 : am_T d 178 223 ls st S I J Q = am_T d 178 224 ls (.int 1 :: st) S I J Q := tr_iconst (m := 1) (by decide +kernel) (by decide)
theorem r178_224 : am_T d 178 224 ls st S I J Q = am_T d 178 228 ls st S I J Q := tr_goto (o := 4) (by decide +kernel) rfl
theorem r178_227 : am_T d 178 227 ls st S I J Q = am_T d 178 228 ls (.int 0 :: st) S I J Q := tr_iconst (m := 0) (by decide +kernel) (by decide)
theorem r178_228 : am_T d 178 228 ls (.int x1 :: .int x0 :: st) S I J Q = am_T d 178 229 ls (.int (x0 + x1) :: st) S I J Q := tr_iadd (by decide +kernel)
theorem r178_229 : am_T d 178 229 [l0, l1, l2, l3, l4, l5, l6, l7] (.int x0 :: st) S I J Q = am_T d 178 231 [l0, l1, l2, l3, l4, am_clr l5, some (.int x0), l7] st S I J Q := tr_istore (k := 6) (by decide +kernel) (Nat.le_of_ble_eq_true rfl) rfl
theorem r178_231 : am_T d 178 231 [l0, l1, l2, l3, l4, l5, l6, some (.int x0)] st S I J Q = am_T d 178 234 [l0, l1, l2, l3, l4, l5, am_clr l6, some (.int (x0 + 1))] st S I J Q := tr_iinc (k := 7) (m := 1) (by decide +kernel) rfl (Nat.le_of_ble_eq_true rfl) (by decide) rfl
theorem r178_234 : am_T d 178 234 ls st S I J Q = am_T d 178 180 ls st S I J Q := tr_goto (o := -54) (by decide +kernel) rfl
theorem r178_237 : am_T d 178 237 [l0, l1, l2, l3, l4, l5, some (.int x0), l7] st S I J Q = am_T d 178 239 [l0, l1, l2, l3, l4, l5, some (.int x0), l7] (.int x0 :: st) S I J Q := tr_iload (k := 6) (by decide +kernel) rfl
theorem r178_239 : am_T d 178 239 [some (.ref a0), l1, l2, l3, l4, l5, l6, l7] st S I J Q = am_T d 178 240 [some (.ref a0), l1, l2, l3, l4, l5, l6, l7] (.ref a0 :: st) S I J Q := tr_aload_n (m := 0) (by decide +kernel) rfl
theorem r178_240 : am_T d 178 240 ls (.ref a0 :: st) S I J Q = ((am_is S a0 9 ∧ am_rf S a0 0 ≠ 0) ∧ am_T d 178 243 ls (.ref (am_rf S a0 0) :: st) S I J Q) := tr_geta (k := 7) (by decide +kernel) (by decide +kernel) (by decide +kernel)
theorem r178_243 : am_T d 178 243 ls st S I J Q = am_T d 178 245 ls (.int 99 :: st) S I J Q := tr_bipush (m := 99) (by decide +kernel) (by decide)
theorem r178_245 : am_T d 178 245 [l0, l1, l2, l3, l4, some (.int x0), l6, l7] st S I J Q = am_T d 178 247 [l0, l1, l2, l3, l4, some (.int x0), l6, l7] (.int x0 :: st) S I J Q := tr_iload (k := 5) (by decide +kernel) rfl
theorem r178_247 : am_T d 178 247 ls (.int x1 :: .int x0 :: st) S I J Q = am_T d 178 248 ls (.int (x0 + x1) :: st) S I J Q := tr_iadd (by decide +kernel)
theorem r178_248 : am_T d 178 248 ls (.int x0 :: .ref a0 :: st) S I J Q = (am_ix S a0 20 x0 ∧ am_T d 178 249 ls (.int (I a0 x0.toNatClampNeg) :: st) S I J Q) := tr_iald (by decide +kernel)
theorem r178_249 : am_T d 178 249 ls (.int x1 :: .int x0 :: st) S I J Q = if x0 ≤ x1 then am_T d 178 264 ls st S I J Q else am_T d 178 252 ls st S I J Q := tr_icmple (o := 15) (by decide +kernel) rfl
theorem r178_252 : am_T d 178 252 [some (.ref a0), l1, l2, l3, l4, l5, l6, l7] st S I J Q = am_T d 178 253 [some (.ref a0), l1, l2, l3, l4, l5, l6, l7] (.ref a0 :: st) S I J Q := tr_aload_n (m := 0) (by decide +kernel) rfl
theorem r178_253 : am_T d 178 253 ls (.ref a0 :: st) S I J Q = ((am_is S a0 9 ∧ am_rf S a0 25 ≠ 0) ∧ am_T d 178 256 ls (.ref (am_rf S a0 25) :: st) S I J Q) := tr_geta (k := 53) (by decide +kernel) (by decide +kernel) (by decide +kernel)
theorem r178_256 : am_T d 178 256 [l0, l1, l2, l3, l4, some (.int x0), l6, l7] st S I J Q = am_T d 178 258 [l0, l1, l2, l3, l4, some (.int x0), l6, l7] (.int x0 :: st) S I J Q := tr_iload (k := 5) (by decide +kernel) rfl
theorem r178_258 : am_T d 178 258 ls (.int x0 :: .ref a0 :: st) S I J Q = (am_ix S a0 20 x0 ∧ am_T d 178 259 ls (.int (I a0 x0.toNatClampNeg) :: st) S I J Q) := tr_iald (by decide +kernel)
theorem r178_259 : am_T d 178 259 [l0, l1, some (.int x0), l3, l4, l5, l6, l7] st S I J Q = am_T d 178 260 [l0, l1, some (.int x0), l3, l4, l5, l6, l7] (.int x0 :: st) S I J Q := tr_iload_n (m := 2) (by decide +kernel) rfl
theorem r178_260 : am_T d 178 260 ls (.int x1 :: .int x0 :: st) S I J Q = am_T d 178 261 ls (.int (x0 + x1) :: st) S I J Q := tr_iadd (by decide +kernel)
theorem r178_261 : am_T d 178 261 ls st S I J Q = am_T d 178 298 ls st S I J Q := tr_goto (o := 37) (by decide +kernel) rfl
theorem r178_264 : am_T d 178 264 [l0, l1, l2, l3, l4, l5, some (.int x0), l7] st S I J Q = am_T d 178 266 [l0, l1, l2, l3, l4, l5, some (.int x0), l7] (.int x0 :: st) S I J Q := tr_iload (k := 6) (by decide +kernel) rfl
theorem r178_266 : am_T d 178 266 [some (.ref a0), l1, l2, l3, l4, l5, l6, l7] st S I J Q = am_T d 178 267 [some (.ref a0), l1, l2, l3, l4, l5, l6, l7] (.ref a0 :: st) S I J Q := tr_aload_n (m := 0) (by decide +kernel) rfl
theorem r178_267 : am_T d 178 267 ls (.ref a0 :: st) S I J Q = ((am_is S a0 9 ∧ am_rf S a0 0 ≠ 0) ∧ am_T d 178 270 ls (.ref (am_rf S a0 0) :: st) S I J Q) := tr_geta (k := 7) (by decide +kernel) (by decide +kernel) (by decide +kernel)
theorem r178_270 : am_T d 178 270 ls st S I J Q = am_T d 178 272 ls (.int 99 :: st) S I J Q := tr_bipush (m := 99) (by decide +kernel) (by decide)
theorem r178_272 : am_T d 178 272 [l0, l1, l2, l3, l4, some (.int x0), l6, l7] st S I J Q = am_T d 178 274 [l0, l1, l2, l3, l4, some (.int x0), l6, l7] (.int x0 :: st) S I J Q := tr_iload (k := 5) (by decide +kernel) rfl
theorem r178_274 : am_T d 178 274 ls (.int x1 :: .int x0 :: st) S I J Q = am_T d 178 275 ls (.int (x0 + x1) :: st) S I J Q := tr_iadd (by decide +kernel)
theorem r178_275 : am_T d 178 275 ls (.int x0 :: .ref a0 :: st) S I J Q = (am_ix S a0 20 x0 ∧ am_T d 178 276 ls (.int (I a0 x0.toNatClampNeg) :: st) S I J Q) := tr_iald (by decide +kernel)
theorem r178_276 : am_T d 178 276 ls (.int x1 :: .int x0 :: st) S I J Q = if x1 ≤ x0 then am_T d 178 291 ls st S I J Q else am_T d 178 279 ls st S I J Q := tr_icmpge (o := 15) (by decide +kernel) rfl
theorem r178_279 : am_T d 178 279 [some (.ref a0), l1, l2, l3, l4, l5, l6, l7] st S I J Q = am_T d 178 280 [some (.ref a0), l1, l2, l3, l4, l5, l6, l7] (.ref a0 :: st) S I J Q := tr_aload_n (m := 0) (by decide +kernel) rfl
theorem r178_280 : am_T d 178 280 ls (.ref a0 :: st) S I J Q = ((am_is S a0 9 ∧ am_rf S a0 25 ≠ 0) ∧ am_T d 178 283 ls (.ref (am_rf S a0 25) :: st) S I J Q) := tr_geta (k := 53) (by decide +kernel) (by decide +kernel) (by decide +kernel)
theorem r178_283 : am_T d 178 283 [l0, l1, l2, l3, l4, some (.int x0), l6, l7] st S I J Q = am_T d 178 285 [l0, l1, l2, l3, l4, some (.int x0), l6, l7] (.int x0 :: st) S I J Q := tr_iload (k := 5) (by decide +kernel) rfl
theorem r178_285 : am_T d 178 285 ls (.int x0 :: .ref a0 :: st) S I J Q = (am_ix S a0 20 x0 ∧ am_T d 178 286 ls (.int (I a0 x0.toNatClampNeg) :: st) S I J Q) := tr_iald (by decide +kernel)
theorem r178_286 : am_T d 178 286 [l0, l1, some (.int x0), l3, l4, l5, l6, l7] st S I J Q = am_T d 178 287 [l0, l1, some (.int x0), l3, l4, l5, l6, l7] (.int x0 :: st) S I J Q := tr_iload_n (m := 2) (by decide +kernel) rfl
theorem r178_287 : am_T d 178 287 ls (.int x1 :: .int x0 :: st) S I J Q = am_T d 178 288 ls (.int (x0 - x1) :: st) S I J Q := tr_isub (by decide +kernel)
theorem r178_288 : am_T d 178 288 ls st S I J Q = am_T d 178 298 ls st S I J Q := tr_goto (o := 10) (by decide +kernel) rfl
theorem r178_291 : am_T d 178 291 [some (.ref a0), l1, l2, l3, l4, l5, l6, l7] st S I J Q = am_T d 178 292 [some (.ref a0), l1, l2, l3, l4, l5, l6, l7] (.ref a0 :: st) S I J Q := tr_aload_n (m := 0) (by decide +kernel) rfl
theorem r178_292 : am_T d 178 292 ls (.ref a0 :: st) S I J Q = ((am_is S a0 9 ∧ am_rf S a0 25 ≠ 0) ∧ am_T d 178 295 ls (.ref (am_rf S a0 25) :: st) S I J Q) := tr_geta (k := 53) (by decide +kernel) (by decide +kernel) (by decide +kernel)
theorem r178_295 : am_T d 178 295 [l0, l1, l2, l3, l4, some (.int x0), l6, l7] st S I J Q = am_T d 178 297 [l0, l1, l2, l3, l4, some (.int x0), l6, l7] (.int x0 :: st) S I J Q := tr_iload (k := 5) (by decide +kernel) rfl
theorem r178_297 : am_T d 178 297 ls (.int x0 :: .ref a0 :: st) S I J Q = (am_ix S a0 20 x0 ∧ am_T d 178 298 ls (.int (I a0 x0.toNatClampNeg) :: st) S I J Q) := tr_iald (by decide +kernel)
theorem r178_298 : am_T d 178 298 [l0, l1, l2, l3, l4, l5, l6, l7] (.int x0 :: st) S I J Q = am_T d 178 300 [l0, l1, l2, l3, l4, l5, am_clr l6, some (.int x0)] st S I J Q := tr_istore (k := 7) (by decide +kernel) (Nat.le_of_ble_eq_true rfl) rfl
theorem r178_300 : am_T d 178 300 [some (.ref a0), l1, l2, l3, l4, l5, l6, l7] st S I J Q = am_T d 178 301 [some (.ref a0), l1, l2, l3, l4, l5, l6, l7] (.ref a0 :: st) S I J Q := tr_aload_n (m := 0) (by decide +kernel) rfl
theorem r178_301 : am_T d 178 301 ls (.ref a0 :: st) S I J Q = ((am_is S a0 9 ∧ am_rf S a0 25 ≠ 0) ∧ am_T d 178 304 ls (.ref (am_rf S a0 25) :: st) S I J Q) := tr_geta (k := 53) (by decide +kernel) (by decide +kernel) (by decide +kernel)
theorem r178_304 : am_T d 178 304 [l0, l1, l2, l3, l4, some (.int x0), l6, l7] st S I J Q = am_T d 178 306 [l0, l1, l2, l3, l4, some (.int x0), l6, l7] (.int x0 :: st) S I J Q := tr_iload (k := 5) (by decide +kernel) rfl
theorem r178_306 : am_T d 178 306 [l0, l1, l2, l3, l4, l5, l6, some (.int x0)] st S I J Q = am_T d 178 308 [l0, l1, l2, l3, l4, l5, l6, some (.int x0)] (.int x0 :: st) S I J Q := tr_iload (k := 7) (by decide +kernel) rfl
theorem r178_308 : am_T d 178 308 ls (.int x0 :: st) S I J Q = if 0 ≤ x0 then am_T d 178 315 ls st S I J Q else am_T d 178 311 ls st S I J Q := tr_ifge (o := 7) (by decide +kernel) rfl
theorem r178_311 : am_T d 178 311 ls st S I J Q = am_T d 178 312 ls (.int 0 :: st) S I J Q := tr_iconst (m := 0) (by decide +kernel) (by decide)
theorem r178_312 : am_T d 178 312 ls st S I J Q = am_T d 178 317 ls st S I J Q := tr_goto (o := 5) (by decide +kernel) rfl
theorem r178_315 : am_T d 178 315 [l0, l1, l2, l3, l4, l5, l6, some (.int x0)] st S I J Q = am_T d 178 317 [l0, l1, l2, l3, l4, l5, l6, some (.int x0)] (.int x0 :: st) S I J Q := tr_iload (k := 7) (by decide +kernel) rfl
theorem r178_317 : am_T d 178 317 ls (.int x1 :: .int x0 :: .ref a0 :: st) S I J Q = (am_ixw S a0 20 x0 ∧ am_T d 178 318 ls st S (am_up I a0 x0.toNatClampNeg x1) J Q) := tr_iast (by decide +kernel)
theorem r178_318 : am_T d 178 318 [l0, l1, l2, l3, l4, some (.int x0), l6, l7] st S I J Q = am_T d 178 321 [l0, l1, l2, l3, am_clr l4, some (.int (x0 + 1)), l6, l7] st S I J Q := tr_iinc (k := 5) (m := 1) (by decide +kernel) rfl (Nat.le_of_ble_eq_true rfl) (by decide) rfl
theorem r178_321 : am_T d 178 321 ls st S I J Q = am_T d 178 163 ls st S I J Q := tr_goto (o := -158) (by decide +kernel) rfl
theorem r178_324 : am_T d 178 324 [l0, l1, l2, some (.int x0), l4, l5, l6, l7] st S I J Q = am_T d 178 327 [l0, l1, am_clr l2, some (.int (x0 + 1)), l4, l5, l6, l7] st S I J Q := tr_iinc (k := 3) (m := 1) (by decide +kernel) rfl (Nat.le_of_ble_eq_true rfl) (by decide) rfl
theorem r178_327 : am_T d 178 327 ls st S I J Q = am_T d 178 23 ls st S I J Q := tr_goto (o := -304) (by decide +kernel) rfl
theorem r178_330 : am_T d 178 330 ls st S I J Q = am_T d 178 331 ls (.int 1 :: st) S I J Q := tr_iconst (m := 1) (by decide +kernel) (by decide)
theorem r178_331 : am_T d 178 331 ls [.int x0] S I J Q = ((x0 = 0 ∨ x0 = 1) ∧ Q (some (.int x0)) S I J) := tr_iretz (by decide +kernel) (by decide +kernel)
-- 179 Mod.priceBound(II)I; heads []
theorem e179 : am_C (d + 1) 179 [.ref a0, .int x1, .int x2] S I J Q = am_T d 179 0 [some (.ref a0), some (.int x1), some (.int x2)] [] S I J Q := tr_en (Nat.le_of_ble_eq_true rfl) rfl
theorem r179_0 : am_T d 179 0 [l0, some (.int x0), l2] st S I J Q = am_T d 179 1 [l0, some (.int x0), l2] (.int x0 :: st) S I J Q := tr_iload_n (m := 1) (by decide +kernel) rfl
theorem r179_1 : am_T d 179 1 ls st S I J Q = am_T d 179 2 ls (.int 1 :: st) S I J Q := tr_iconst (m := 1) (by decide +kernel) (by decide)
theorem r179_2 : am_T d 179 2 ls st S I J Q = am_T d 179 4 ls (.int 20 :: st) S I J Q := tr_bipush (m := 20) (by decide +kernel) (by decide)
theorem r179_4 : am_T d 179 4 ls [.int x2, .int x1, .int x0] S I J Q = am_C d 112 [.int x0, .int x1, .int x2] S I J (fun r S I J => am_T d 179 7 ls (am_psh r []) S I J Q) := tr_stat (k := 60) (by decide +kernel) (Or.inl (by decide +kernel)) (Nat.le_of_ble_eq_true rfl) rfl rfl (Nat.le_of_ble_eq_true rfl)
theorem r179_7 : am_T d 179 7 ls (.int x0 :: st) S I J Q = if x0 = 0 then am_T d 179 20 ls st S I J Q else am_T d 179 10 ls st S I J Q := tr_ifeq (o := 13) (by decide +kernel) rfl
theorem r179_10 : am_T d 179 10 [l0, l1, some (.int x0)] st S I J Q = am_T d 179 11 [l0, l1, some (.int x0)] (.int x0 :: st) S I J Q := tr_iload_n (m := 2) (by decide +kernel) rfl
theorem r179_11 : am_T d 179 11 ls st S I J Q = am_T d 179 12 ls (.int 1 :: st) S I J Q := tr_iconst (m := 1) (by decide +kernel) (by decide)
theorem r179_12 : am_T d 179 12 ls st S I J Q = am_T d 179 14 ls (.int 20 :: st) S I J Q := tr_bipush (m := 20) (by decide +kernel) (by decide)
theorem r179_14 : am_T d 179 14 ls [.int x2, .int x1, .int x0] S I J Q = am_C d 112 [.int x0, .int x1, .int x2] S I J (fun r S I J => am_T d 179 17 ls (am_psh r []) S I J Q) := tr_stat (k := 60) (by decide +kernel) (Or.inl (by decide +kernel)) (Nat.le_of_ble_eq_true rfl) rfl rfl (Nat.le_of_ble_eq_true rfl)
theorem r179_17 : am_T d 179 17 ls (.int x0 :: st) S I J Q = if x0 = 0 then am_T d 179 20 ls st S I J Q else am_T d 179 23 ls st S I J Q := tr_ifne (o := 6) (by decide +kernel) rfl
theorem r179_20 : am_T d 179 20 ls st S I J Q = am_T d 179 22 ls (.int (-103) :: st) S I J Q := tr_bipush (m := -103) (by decide +kernel) (by decide)
theorem r179_22 : am_T d 179 22 ls [.int x0] S I J Q = Q (some (.int x0)) S I J := tr_ireti (by decide +kernel) (by decide +kernel)
theorem r179_23 : am_T d 179 23 [some (.ref a0), l1, l2] st S I J Q = am_T d 179 24 [some (.ref a0), l1, l2] (.ref a0 :: st) S I J Q := tr_aload_n (m := 0) (by decide +kernel) rfl
theorem r179_24 : am_T d 179 24 [l0, some (.int x0), l2] st S I J Q = am_T d 179 25 [l0, some (.int x0), l2] (.int x0 :: st) S I J Q := tr_iload_n (m := 1) (by decide +kernel) rfl
theorem r179_25 : am_T d 179 25 [l0, l1, some (.int x0)] st S I J Q = am_T d 179 26 [l0, l1, some (.int x0)] (.int x0 :: st) S I J Q := tr_iload_n (m := 2) (by decide +kernel) rfl
theorem r179_26 : am_T d 179 26 ls [.int x2, .int x1, .ref a0] S I J Q = (am_is S a0 9 ∧ am_C d 178 [.ref a0, .int x1, .int x2] S I J (fun r S I J => am_T d 179 29 ls (am_psh r []) S I J Q)) := tr_virt (k := 209) (by decide +kernel) (by decide +kernel) rfl rfl (Nat.le_of_ble_eq_true rfl) (by decide +kernel)
theorem r179_29 : am_T d 179 29 ls (.int x0 :: st) S I J Q = if x0 = 0 then am_T d 179 39 ls st S I J Q else am_T d 179 32 ls st S I J Q := tr_ifeq (o := 10) (by decide +kernel) rfl
theorem r179_32 : am_T d 179 32 [some (.ref a0), l1, l2] st S I J Q = am_T d 179 33 [some (.ref a0), l1, l2] (.ref a0 :: st) S I J Q := tr_aload_n (m := 0) (by decide +kernel) rfl
theorem r179_33 : am_T d 179 33 ls (.ref a0 :: st) S I J Q = (am_is S a0 9 ∧ am_T d 179 36 ls (.int (I a0 26) :: st) S I J Q) := tr_geti (k := 206) (by decide +kernel) (by decide +kernel) (Or.inl (by decide +kernel))
theorem r179_36 : am_T d 179 36 ls st S I J Q = am_T d 179 41 ls st S I J Q := tr_goto (o := 5) (by decide +kernel) rfl
theorem r179_39 : am_T d 179 39 ls st S I J Q = am_T d 179 41 ls (.int (-106) :: st) S I J Q := tr_bipush (m := -106) (by decide +kernel) (by decide)
theorem r179_41 : am_T d 179 41 ls [.int x0] S I J Q = Q (some (.int x0)) S I J := tr_ireti (by decide +kernel) (by decide +kernel)
-- 180 Mod.price(III)I; heads []
theorem e180 : am_C (d + 1) 180 [.ref a0, .int x1, .int x2, .int x3] S I J Q = am_T d 180 0 [some (.ref a0), some (.int x1), some (.int x2), some (.int x3)] [] S I J Q := tr_en (Nat.le_of_ble_eq_true rfl) rfl
theorem r180_0 : am_T d 180 0 [some (.ref a0), l1, l2, l3] st S I J Q = am_T d 180 1 [some (.ref a0), l1, l2, l3] (.ref a0 :: st) S I J Q := tr_aload_n (m := 0) (by decide +kernel) rfl
theorem r180_1 : am_T d 180 1 [l0, some (.int x0), l2, l3] st S I J Q = am_T d 180 2 [l0, some (.int x0), l2, l3] (.int x0 :: st) S I J Q := tr_iload_n (m := 1) (by decide +kernel) rfl
theorem r180_2 : am_T d 180 2 ls [.int x1, .ref a0] S I J Q = (am_is S a0 9 ∧ am_C d 113 [.ref a0, .int x1] S I J (fun r S I J => am_T d 180 5 ls (am_psh r []) S I J Q)) := tr_virt (k := 74) (by decide +kernel) (by decide +kernel) rfl rfl (Nat.le_of_ble_eq_true rfl) (by decide +kernel)
theorem r180_5 : am_T d 180 5 ls (.int x0 :: st) S I J Q = if x0 = 0 then am_T d 180 8 ls st S I J Q else am_T d 180 11 ls st S I J Q := tr_ifne (o := 6) (by decide +kernel) rfl
theorem r180_8 : am_T d 180 8 ls st S I J Q = am_T d 180 10 ls (.int (-101) :: st) S I J Q := tr_bipush (m := -101) (by decide +kernel) (by decide)
theorem r180_10 : am_T d 180 10 ls [.int x0] S I J Q = Q (some (.int x0)) S I J := tr_ireti (by decide +kernel) (by decide +kernel)
theorem r180_11 : am_T d 180 11 [l0, l1, some (.int x0), l3] st S I J Q = am_T d 180 12 [l0, l1, some (.int x0), l3] (.int x0 :: st) S I J Q := tr_iload_n (m := 2) (by decide +kernel) rfl
theorem r180_12 : am_T d 180 12 ls st S I J Q = am_T d 180 13 ls (.int 1 :: st) S I J Q := tr_iconst (m := 1) (by decide +kernel) (by decide)
theorem r180_13 : am_T d 180 13 ls st S I J Q = am_T d 180 15 ls (.int 20 :: st) S I J Q := tr_bipush (m := 20) (by decide +kernel) (by decide)
theorem r180_15 : am_T d 180 15 ls [.int x2, .int x1, .int x0] S I J Q = am_C d 112 [.int x0, .int x1, .int x2] S I J (fun r S I J => am_T d 180 18 ls (am_psh r []) S I J Q) := tr_stat (k := 60) (by decide +kernel) (Or.inl (by decide +kernel)) (Nat.le_of_ble_eq_true rfl) rfl rfl (Nat.le_of_ble_eq_true rfl)
theorem r180_18 : am_T d 180 18 ls (.int x0 :: st) S I J Q = if x0 = 0 then am_T d 180 31 ls st S I J Q else am_T d 180 21 ls st S I J Q := tr_ifeq (o := 13) (by decide +kernel) rfl
theorem r180_21 : am_T d 180 21 [l0, l1, l2, some (.int x0)] st S I J Q = am_T d 180 22 [l0, l1, l2, some (.int x0)] (.int x0 :: st) S I J Q := tr_iload_n (m := 3) (by decide +kernel) rfl
theorem r180_22 : am_T d 180 22 ls st S I J Q = am_T d 180 23 ls (.int 1 :: st) S I J Q := tr_iconst (m := 1) (by decide +kernel) (by decide)
theorem r180_23 : am_T d 180 23 ls st S I J Q = am_T d 180 25 ls (.int 20 :: st) S I J Q := tr_bipush (m := 20) (by decide +kernel) (by decide)
theorem r180_25 : am_T d 180 25 ls [.int x2, .int x1, .int x0] S I J Q = am_C d 112 [.int x0, .int x1, .int x2] S I J (fun r S I J => am_T d 180 28 ls (am_psh r []) S I J Q) := tr_stat (k := 60) (by decide +kernel) (Or.inl (by decide +kernel)) (Nat.le_of_ble_eq_true rfl) rfl rfl (Nat.le_of_ble_eq_true rfl)
theorem r180_28 : am_T d 180 28 ls (.int x0 :: st) S I J Q = if x0 = 0 then am_T d 180 31 ls st S I J Q else am_T d 180 34 ls st S I J Q := tr_ifne (o := 6) (by decide +kernel) rfl
theorem r180_31 : am_T d 180 31 ls st S I J Q = am_T d 180 33 ls (.int (-103) :: st) S I J Q := tr_bipush (m := -103) (by decide +kernel) (by decide)
theorem r180_33 : am_T d 180 33 ls [.int x0] S I J Q = Q (some (.int x0)) S I J := tr_ireti (by decide +kernel) (by decide +kernel)
theorem r180_34 : am_T d 180 34 [some (.ref a0), l1, l2, l3] st S I J Q = am_T d 180 35 [some (.ref a0), l1, l2, l3] (.ref a0 :: st) S I J Q := tr_aload_n (m := 0) (by decide +kernel) rfl
theorem r180_35 : am_T d 180 35 [l0, l1, some (.int x0), l3] st S I J Q = am_T d 180 36 [l0, l1, some (.int x0), l3] (.int x0 :: st) S I J Q := tr_iload_n (m := 2) (by decide +kernel) rfl
theorem r180_36 : am_T d 180 36 [l0, l1, l2, some (.int x0)] st S I J Q = am_T d 180 37 [l0, l1, l2, some (.int x0)] (.int x0 :: st) S I J Q := tr_iload_n (m := 3) (by decide +kernel) rfl
theorem r180_37 : am_T d 180 37 ls [.int x2, .int x1, .ref a0] S I J Q = (am_is S a0 9 ∧ am_C d 178 [.ref a0, .int x1, .int x2] S I J (fun r S I J => am_T d 180 40 ls (am_psh r []) S I J Q)) := tr_virt (k := 209) (by decide +kernel) (by decide +kernel) rfl rfl (Nat.le_of_ble_eq_true rfl) (by decide +kernel)
theorem r180_40 : am_T d 180 40 ls (.int x0 :: st) S I J Q = if x0 = 0 then am_T d 180 52 ls st S I J Q else am_T d 180 43 ls st S I J Q := tr_ifeq (o := 12) (by decide +kernel) rfl
theorem r180_43 : am_T d 180 43 [some (.ref a0), l1, l2, l3] st S I J Q = am_T d 180 44 [some (.ref a0), l1, l2, l3] (.ref a0 :: st) S I J Q := tr_aload_n (m := 0) (by decide +kernel) rfl
theorem r180_44 : am_T d 180 44 ls (.ref a0 :: st) S I J Q = ((am_is S a0 9 ∧ am_rf S a0 25 ≠ 0) ∧ am_T d 180 47 ls (.ref (am_rf S a0 25) :: st) S I J Q) := tr_geta (k := 53) (by decide +kernel) (by decide +kernel) (by decide +kernel)
theorem r180_47 : am_T d 180 47 [l0, some (.int x0), l2, l3] st S I J Q = am_T d 180 48 [l0, some (.int x0), l2, l3] (.int x0 :: st) S I J Q := tr_iload_n (m := 1) (by decide +kernel) rfl
theorem r180_48 : am_T d 180 48 ls (.int x0 :: .ref a0 :: st) S I J Q = (am_ix S a0 20 x0 ∧ am_T d 180 49 ls (.int (I a0 x0.toNatClampNeg) :: st) S I J Q) := tr_iald (by decide +kernel)
theorem r180_49 : am_T d 180 49 ls st S I J Q = am_T d 180 54 ls st S I J Q := tr_goto (o := 5) (by decide +kernel) rfl
theorem r180_52 : am_T d 180 52 ls st S I J Q = am_T d 180 54 ls (.int (-106) :: st) S I J Q := tr_bipush (m := -106) (by decide +kernel) (by decide)
theorem r180_54 : am_T d 180 54 ls [.int x0] S I J Q = Q (some (.int x0)) S I J := tr_ireti (by decide +kernel) (by decide +kernel)
-- 181 Mod.arborescences()J; heads []
theorem e181 : am_C (d + 1) 181 [.ref a0] S I J Q = am_T d 181 0 [some (.ref a0)] [] S I J Q := tr_en (Nat.le_of_ble_eq_true rfl) rfl
theorem r181_0 : am_T d 181 0 [some (.ref a0)] st S I J Q = am_T d 181 1 [some (.ref a0)] (.ref a0 :: st) S I J Q := tr_aload_n (m := 0) (by decide +kernel) rfl
theorem r181_1 : am_T d 181 1 ls st S I J Q = am_T d 181 3 ls (.int (-107) :: st) S I J Q := tr_bipush (m := -107) (by decide +kernel) (by decide)
theorem r181_3 : am_T d 181 3 ls [.int x1, .ref a0] S I J Q = (am_is S a0 9 ∧ am_C d 175 [.ref a0, .int x1] S I J (fun r S I J => am_T d 181 6 ls (am_psh r []) S I J Q)) := tr_virt (k := 203) (by decide +kernel) (by decide +kernel) rfl rfl (Nat.le_of_ble_eq_true rfl) (by decide +kernel)
theorem r181_6 : am_T d 181 6 [some (.ref a0)] st S I J Q = am_T d 181 7 [some (.ref a0)] (.ref a0 :: st) S I J Q := tr_aload_n (m := 0) (by decide +kernel) rfl
theorem r181_7 : am_T d 181 7 ls (.ref a0 :: st) S I J Q = (am_is S a0 9 ∧ am_T d 181 10 ls (.long (J a0 24) :: st) S I J Q) := tr_getl (k := 187) (by decide +kernel) (by decide +kernel) (by decide +kernel)
theorem r181_10 : am_T d 181 10 ls [.long u0] S I J Q = Q (some (.long u0)) S I J := tr_lret (by decide +kernel) (by decide +kernel)
-- 182 Mod.arborescencesWith(I)J; heads []
theorem e182 : am_C (d + 1) 182 [.ref a0, .int x1] S I J Q = am_T d 182 0 [some (.ref a0), some (.int x1)] [] S I J Q := tr_en (Nat.le_of_ble_eq_true rfl) rfl
theorem r182_0 : am_T d 182 0 [some (.ref a0), l1] st S I J Q = am_T d 182 1 [some (.ref a0), l1] (.ref a0 :: st) S I J Q := tr_aload_n (m := 0) (by decide +kernel) rfl
theorem r182_1 : am_T d 182 1 [l0, some (.int x0)] st S I J Q = am_T d 182 2 [l0, some (.int x0)] (.int x0 :: st) S I J Q := tr_iload_n (m := 1) (by decide +kernel) rfl
theorem r182_2 : am_T d 182 2 ls [.int x1, .ref a0] S I J Q = (am_is S a0 9 ∧ am_C d 114 [.ref a0, .int x1] S I J (fun r S I J => am_T d 182 5 ls (am_psh r []) S I J Q)) := tr_virt (k := 90) (by decide +kernel) (by decide +kernel) rfl rfl (Nat.le_of_ble_eq_true rfl) (by decide +kernel)
theorem r182_5 : am_T d 182 5 ls (.int x0 :: st) S I J Q = if x0 = 0 then am_T d 182 8 ls st S I J Q else am_T d 182 12 ls st S I J Q := tr_ifne (o := 7) (by decide +kernel) rfl
theorem r182_8 : am_T d 182 8 ls st S I J Q = am_T d 182 11 ls (.long (-102) :: st) S I J Q := tr_ldc2 (k := 213) (by decide +kernel) (by decide +kernel)
theorem r182_11 : am_T d 182 11 ls [.long u0] S I J Q = Q (some (.long u0)) S I J := tr_lret (by decide +kernel) (by decide +kernel)
theorem r182_12 : am_T d 182 12 [some (.ref a0), l1] st S I J Q = am_T d 182 13 [some (.ref a0), l1] (.ref a0 :: st) S I J Q := tr_aload_n (m := 0) (by decide +kernel) rfl
theorem r182_13 : am_T d 182 13 [l0, some (.int x0)] st S I J Q = am_T d 182 14 [l0, some (.int x0)] (.int x0 :: st) S I J Q := tr_iload_n (m := 1) (by decide +kernel) rfl
theorem r182_14 : am_T d 182 14 ls [.int x1, .ref a0] S I J Q = (am_is S a0 9 ∧ am_C d 175 [.ref a0, .int x1] S I J (fun r S I J => am_T d 182 17 ls (am_psh r []) S I J Q)) := tr_virt (k := 203) (by decide +kernel) (by decide +kernel) rfl rfl (Nat.le_of_ble_eq_true rfl) (by decide +kernel)
theorem r182_17 : am_T d 182 17 [some (.ref a0), l1] st S I J Q = am_T d 182 18 [some (.ref a0), l1] (.ref a0 :: st) S I J Q := tr_aload_n (m := 0) (by decide +kernel) rfl
theorem r182_18 : am_T d 182 18 ls (.ref a0 :: st) S I J Q = (am_is S a0 9 ∧ am_T d 182 21 ls (.long (J a0 24) :: st) S I J Q) := tr_getl (k := 187) (by decide +kernel) (by decide +kernel) (by decide +kernel)
theorem r182_21 : am_T d 182 21 ls [.long u0] S I J Q = Q (some (.long u0)) S I J := tr_lret (by decide +kernel) (by decide +kernel)
-- 183 Mod.save(I)I; heads [14]
theorem e183 : am_C (d + 1) 183 [.ref a0, .int x1] S I J Q = am_T d 183 0 [some (.ref a0), some (.int x1), none] [] S I J Q := tr_en (Nat.le_of_ble_eq_true rfl) rfl
theorem r183_0 : am_T d 183 0 [l0, some (.int x0), l2] st S I J Q = am_T d 183 1 [l0, some (.int x0), l2] (.int x0 :: st) S I J Q := tr_iload_n (m := 1) (by decide +kernel) rfl
theorem r183_1 : am_T d 183 1 ls st S I J Q = am_T d 183 2 ls (.int 0 :: st) S I J Q := tr_iconst (m := 0) (by decide +kernel) (by decide)
theorem r183_2 : am_T d 183 2 ls st S I J Q = am_T d 183 3 ls (.int 1 :: st) S I J Q := tr_iconst (m := 1) (by decide +kernel) (by decide)
theorem r183_3 : am_T d 183 3 ls [.int x2, .int x1, .int x0] S I J Q = am_C d 112 [.int x0, .int x1, .int x2] S I J (fun r S I J => am_T d 183 6 ls (am_psh r []) S I J Q) := tr_stat (k := 60) (by decide +kernel) (Or.inl (by decide +kernel)) (Nat.le_of_ble_eq_true rfl) rfl rfl (Nat.le_of_ble_eq_true rfl)
theorem r183_6 : am_T d 183 6 ls (.int x0 :: st) S I J Q = if x0 = 0 then am_T d 183 9 ls st S I J Q else am_T d 183 12 ls st S I J Q := tr_ifne (o := 6) (by decide +kernel) rfl
theorem r183_9 : am_T d 183 9 ls st S I J Q = am_T d 183 11 ls (.int (-103) :: st) S I J Q := tr_bipush (m := -103) (by decide +kernel) (by decide)
theorem r183_11 : am_T d 183 11 ls [.int x0] S I J Q = Q (some (.int x0)) S I J := tr_ireti (by decide +kernel) (by decide +kernel)
theorem r183_12 : am_T d 183 12 ls st S I J Q = am_T d 183 13 ls (.int 0 :: st) S I J Q := tr_iconst (m := 0) (by decide +kernel) (by decide)
theorem r183_13 : am_T d 183 13 [l0, l1, l2] (.int x0 :: st) S I J Q = am_T d 183 14 [l0, am_clr l1, some (.int x0)] st S I J Q := tr_istore_n (m := 2) (by decide +kernel) (Nat.le_of_ble_eq_true rfl) rfl
theorem r183_14 : am_T d 183 14 [l0, l1, some (.int x0)] st S I J Q = am_T d 183 15 [l0, l1, some (.int x0)] (.int x0 :: st) S I J Q := tr_iload_n (m := 2) (by decide +kernel) rfl
theorem r183_15 : am_T d 183 15 ls st S I J Q = am_T d 183 18 ls (.int 165 :: st) S I J Q := tr_sipush (m := 165) (by decide +kernel) (by decide)
theorem r183_18 : am_T d 183 18 ls (.int x1 :: .int x0 :: st) S I J Q = if x1 ≤ x0 then am_T d 183 45 ls st S I J Q else am_T d 183 21 ls st S I J Q := tr_icmpge (o := 27) (by decide +kernel) rfl
theorem r183_21 : am_T d 183 21 [some (.ref a0), l1, l2] st S I J Q = am_T d 183 22 [some (.ref a0), l1, l2] (.ref a0 :: st) S I J Q := tr_aload_n (m := 0) (by decide +kernel) rfl
theorem r183_22 : am_T d 183 22 ls (.ref a0 :: st) S I J Q = ((am_is S a0 9 ∧ am_rf S a0 3 ≠ 0) ∧ am_T d 183 25 ls (.ref (am_rf S a0 3) :: st) S I J Q) := tr_geta (k := 16) (by decide +kernel) (by decide +kernel) (by decide +kernel)
theorem r183_25 : am_T d 183 25 ls st S I J Q = am_T d 183 28 ls (.int 165 :: st) S I J Q := tr_sipush (m := 165) (by decide +kernel) (by decide)
theorem r183_28 : am_T d 183 28 [l0, some (.int x0), l2] st S I J Q = am_T d 183 29 [l0, some (.int x0), l2] (.int x0 :: st) S I J Q := tr_iload_n (m := 1) (by decide +kernel) rfl
theorem r183_29 : am_T d 183 29 ls (.int x1 :: .int x0 :: st) S I J Q = am_T d 183 30 ls (.int (x0 * x1) :: st) S I J Q := tr_imul (by decide +kernel)
theorem r183_30 : am_T d 183 30 [l0, l1, some (.int x0)] st S I J Q = am_T d 183 31 [l0, l1, some (.int x0)] (.int x0 :: st) S I J Q := tr_iload_n (m := 2) (by decide +kernel) rfl
theorem r183_31 : am_T d 183 31 ls (.int x1 :: .int x0 :: st) S I J Q = am_T d 183 32 ls (.int (x0 + x1) :: st) S I J Q := tr_iadd (by decide +kernel)
theorem r183_32 : am_T d 183 32 [some (.ref a0), l1, l2] st S I J Q = am_T d 183 33 [some (.ref a0), l1, l2] (.ref a0 :: st) S I J Q := tr_aload_n (m := 0) (by decide +kernel) rfl
theorem r183_33 : am_T d 183 33 ls (.ref a0 :: st) S I J Q = ((am_is S a0 9 ∧ am_rf S a0 0 ≠ 0) ∧ am_T d 183 36 ls (.ref (am_rf S a0 0) :: st) S I J Q) := tr_geta (k := 7) (by decide +kernel) (by decide +kernel) (by decide +kernel)
theorem r183_36 : am_T d 183 36 [l0, l1, some (.int x0)] st S I J Q = am_T d 183 37 [l0, l1, some (.int x0)] (.int x0 :: st) S I J Q := tr_iload_n (m := 2) (by decide +kernel) rfl
theorem r183_37 : am_T d 183 37 ls (.int x0 :: .ref a0 :: st) S I J Q = (am_ix S a0 20 x0 ∧ am_T d 183 38 ls (.int (I a0 x0.toNatClampNeg) :: st) S I J Q) := tr_iald (by decide +kernel)
theorem r183_38 : am_T d 183 38 ls (.int x1 :: .int x0 :: .ref a0 :: st) S I J Q = (am_ixw S a0 20 x0 ∧ am_T d 183 39 ls st S (am_up I a0 x0.toNatClampNeg x1) J Q) := tr_iast (by decide +kernel)
theorem r183_39 : am_T d 183 39 [l0, l1, some (.int x0)] st S I J Q = am_T d 183 42 [l0, am_clr l1, some (.int (x0 + 1))] st S I J Q := tr_iinc (k := 2) (m := 1) (by decide +kernel) rfl (Nat.le_of_ble_eq_true rfl) (by decide) rfl
theorem r183_42 : am_T d 183 42 ls st S I J Q = am_T d 183 14 ls st S I J Q := tr_goto (o := -28) (by decide +kernel) rfl
theorem r183_45 : am_T d 183 45 [some (.ref a0), l1, l2] st S I J Q = am_T d 183 46 [some (.ref a0), l1, l2] (.ref a0 :: st) S I J Q := tr_aload_n (m := 0) (by decide +kernel) rfl
theorem r183_46 : am_T d 183 46 ls (.ref a0 :: st) S I J Q = am_T d 183 47 ls (.ref a0 :: .ref a0 :: st) S I J Q := tr_dupa (by decide +kernel)
theorem r183_47 : am_T d 183 47 ls (.ref a0 :: st) S I J Q = (am_is S a0 9 ∧ am_T d 183 50 ls (.int (I a0 4) :: st) S I J Q) := tr_geti (k := 215) (by decide +kernel) (by decide +kernel) (Or.inl (by decide +kernel))
theorem r183_50 : am_T d 183 50 ls st S I J Q = am_T d 183 51 ls (.int 1 :: st) S I J Q := tr_iconst (m := 1) (by decide +kernel) (by decide)
theorem r183_51 : am_T d 183 51 [l0, some (.int x0), l2] st S I J Q = am_T d 183 52 [l0, some (.int x0), l2] (.int x0 :: st) S I J Q := tr_iload_n (m := 1) (by decide +kernel) rfl
theorem r183_52 : am_T d 183 52 ls (.int x1 :: .int x0 :: st) S I J Q = am_T d 183 53 ls (.int (x0 <<< (x1 &&& 31)) :: st) S I J Q := tr_ishl (by decide +kernel)
theorem r183_53 : am_T d 183 53 ls (.int x1 :: .int x0 :: st) S I J Q = am_T d 183 54 ls (.int (x0 ||| x1) :: st) S I J Q := tr_ior (by decide +kernel)
theorem r183_54 : am_T d 183 54 ls (.int x0 :: .ref a0 :: st) S I J Q = (am_is S a0 9 ∧ am_T d 183 57 ls st S (am_up I a0 4 x0) J Q) := tr_puti (k := 215) (by decide +kernel) (by decide +kernel) (by decide +kernel) (by decide +kernel)
theorem r183_57 : am_T d 183 57 [some (.ref a0), l1, l2] st S I J Q = am_T d 183 58 [some (.ref a0), l1, l2] (.ref a0 :: st) S I J Q := tr_aload_n (m := 0) (by decide +kernel) rfl
theorem r183_58 : am_T d 183 58 ls (.ref a0 :: st) S I J Q = ((am_is S a0 9 ∧ am_rf S a0 0 ≠ 0) ∧ am_T d 183 61 ls (.ref (am_rf S a0 0) :: st) S I J Q) := tr_geta (k := 7) (by decide +kernel) (by decide +kernel) (by decide +kernel)
theorem r183_61 : am_T d 183 61 ls st S I J Q = am_T d 183 62 ls (.int 2 :: st) S I J Q := tr_iconst (m := 2) (by decide +kernel) (by decide)
theorem r183_62 : am_T d 183 62 ls (.int x0 :: .ref a0 :: st) S I J Q = (am_ix S a0 20 x0 ∧ am_T d 183 63 ls (.int (I a0 x0.toNatClampNeg) :: st) S I J Q) := tr_iald (by decide +kernel)
theorem r183_63 : am_T d 183 63 ls [.int x0] S I J Q = Q (some (.int x0)) S I J := tr_ireti (by decide +kernel) (by decide +kernel)
-- 184 Mod.restore(I)I; heads [28]
theorem e184 : am_C (d + 1) 184 [.ref a0, .int x1] S I J Q = am_T d 184 0 [some (.ref a0), some (.int x1), none] [] S I J Q := tr_en (Nat.le_of_ble_eq_true rfl) rfl
theorem r184_0 : am_T d 184 0 [l0, some (.int x0), l2] st S I J Q = am_T d 184 1 [l0, some (.int x0), l2] (.int x0 :: st) S I J Q := tr_iload_n (m := 1) (by decide +kernel) rfl
theorem r184_1 : am_T d 184 1 ls st S I J Q = am_T d 184 2 ls (.int 0 :: st) S I J Q := tr_iconst (m := 0) (by decide +kernel) (by decide)
theorem r184_2 : am_T d 184 2 ls st S I J Q = am_T d 184 3 ls (.int 1 :: st) S I J Q := tr_iconst (m := 1) (by decide +kernel) (by decide)
theorem r184_3 : am_T d 184 3 ls [.int x2, .int x1, .int x0] S I J Q = am_C d 112 [.int x0, .int x1, .int x2] S I J (fun r S I J => am_T d 184 6 ls (am_psh r []) S I J Q) := tr_stat (k := 60) (by decide +kernel) (Or.inl (by decide +kernel)) (Nat.le_of_ble_eq_true rfl) rfl rfl (Nat.le_of_ble_eq_true rfl)
theorem r184_6 : am_T d 184 6 ls (.int x0 :: st) S I J Q = if x0 = 0 then am_T d 184 9 ls st S I J Q else am_T d 184 12 ls st S I J Q := tr_ifne (o := 6) (by decide +kernel) rfl
theorem r184_9 : am_T d 184 9 ls st S I J Q = am_T d 184 11 ls (.int (-103) :: st) S I J Q := tr_bipush (m := -103) (by decide +kernel) (by decide)
theorem r184_11 : am_T d 184 11 ls [.int x0] S I J Q = Q (some (.int x0)) S I J := tr_ireti (by decide +kernel) (by decide +kernel)
theorem r184_12 : am_T d 184 12 [some (.ref a0), l1, l2] st S I J Q = am_T d 184 13 [some (.ref a0), l1, l2] (.ref a0 :: st) S I J Q := tr_aload_n (m := 0) (by decide +kernel) rfl
theorem r184_13 : am_T d 184 13 ls (.ref a0 :: st) S I J Q = (am_is S a0 9 ∧ am_T d 184 16 ls (.int (I a0 4) :: st) S I J Q) := tr_geti (k := 215) (by decide +kernel) (by decide +kernel) (Or.inl (by decide +kernel))
theorem r184_16 : am_T d 184 16 [l0, some (.int x0), l2] st S I J Q = am_T d 184 17 [l0, some (.int x0), l2] (.int x0 :: st) S I J Q := tr_iload_n (m := 1) (by decide +kernel) rfl
theorem r184_17 : am_T d 184 17 ls (.int x1 :: .int x0 :: st) S I J Q = am_T d 184 18 ls (.int (x0 >>> (x1 &&& 31)) :: st) S I J Q := tr_ishr (by decide +kernel)
theorem r184_18 : am_T d 184 18 ls st S I J Q = am_T d 184 19 ls (.int 1 :: st) S I J Q := tr_iconst (m := 1) (by decide +kernel) (by decide)
theorem r184_19 : am_T d 184 19 ls (.int x1 :: .int x0 :: st) S I J Q = am_T d 184 20 ls (.int (x0 &&& x1) :: st) S I J Q := tr_iand (by decide +kernel)
theorem r184_20 : am_T d 184 20 ls (.int x0 :: st) S I J Q = if x0 = 0 then am_T d 184 23 ls st S I J Q else am_T d 184 26 ls st S I J Q := tr_ifne (o := 6) (by decide +kernel) rfl
theorem r184_23 : am_T d 184 23 ls st S I J Q = am_T d 184 25 ls (.int (-105) :: st) S I J Q := tr_bipush (m := -105) (by decide +kernel) (by decide)
theorem r184_25 : am_T d 184 25 ls [.int x0] S I J Q = Q (some (.int x0)) S I J := tr_ireti (by decide +kernel) (by decide +kernel)
theorem r184_26 : am_T d 184 26 ls st S I J Q = am_T d 184 27 ls (.int 0 :: st) S I J Q := tr_iconst (m := 0) (by decide +kernel) (by decide)
theorem r184_27 : am_T d 184 27 [l0, l1, l2] (.int x0 :: st) S I J Q = am_T d 184 28 [l0, am_clr l1, some (.int x0)] st S I J Q := tr_istore_n (m := 2) (by decide +kernel) (Nat.le_of_ble_eq_true rfl) rfl
theorem r184_28 : am_T d 184 28 [l0, l1, some (.int x0)] st S I J Q = am_T d 184 29 [l0, l1, some (.int x0)] (.int x0 :: st) S I J Q := tr_iload_n (m := 2) (by decide +kernel) rfl
theorem r184_29 : am_T d 184 29 ls st S I J Q = am_T d 184 32 ls (.int 165 :: st) S I J Q := tr_sipush (m := 165) (by decide +kernel) (by decide)
theorem r184_32 : am_T d 184 32 ls (.int x1 :: .int x0 :: st) S I J Q = if x1 ≤ x0 then am_T d 184 59 ls st S I J Q else am_T d 184 35 ls st S I J Q := tr_icmpge (o := 27) (by decide +kernel) rfl
theorem r184_35 : am_T d 184 35 [some (.ref a0), l1, l2] st S I J Q = am_T d 184 36 [some (.ref a0), l1, l2] (.ref a0 :: st) S I J Q := tr_aload_n (m := 0) (by decide +kernel) rfl
theorem r184_36 : am_T d 184 36 ls (.ref a0 :: st) S I J Q = ((am_is S a0 9 ∧ am_rf S a0 0 ≠ 0) ∧ am_T d 184 39 ls (.ref (am_rf S a0 0) :: st) S I J Q) := tr_geta (k := 7) (by decide +kernel) (by decide +kernel) (by decide +kernel)
theorem r184_39 : am_T d 184 39 [l0, l1, some (.int x0)] st S I J Q = am_T d 184 40 [l0, l1, some (.int x0)] (.int x0 :: st) S I J Q := tr_iload_n (m := 2) (by decide +kernel) rfl
theorem r184_40 : am_T d 184 40 [some (.ref a0), l1, l2] st S I J Q = am_T d 184 41 [some (.ref a0), l1, l2] (.ref a0 :: st) S I J Q := tr_aload_n (m := 0) (by decide +kernel) rfl
theorem r184_41 : am_T d 184 41 ls (.ref a0 :: st) S I J Q = ((am_is S a0 9 ∧ am_rf S a0 3 ≠ 0) ∧ am_T d 184 44 ls (.ref (am_rf S a0 3) :: st) S I J Q) := tr_geta (k := 16) (by decide +kernel) (by decide +kernel) (by decide +kernel)
theorem r184_44 : am_T d 184 44 ls st S I J Q = am_T d 184 47 ls (.int 165 :: st) S I J Q := tr_sipush (m := 165) (by decide +kernel) (by decide)
theorem r184_47 : am_T d 184 47 [l0, some (.int x0), l2] st S I J Q = am_T d 184 48 [l0, some (.int x0), l2] (.int x0 :: st) S I J Q := tr_iload_n (m := 1) (by decide +kernel) rfl
theorem r184_48 : am_T d 184 48 ls (.int x1 :: .int x0 :: st) S I J Q = am_T d 184 49 ls (.int (x0 * x1) :: st) S I J Q := tr_imul (by decide +kernel)
theorem r184_49 : am_T d 184 49 [l0, l1, some (.int x0)] st S I J Q = am_T d 184 50 [l0, l1, some (.int x0)] (.int x0 :: st) S I J Q := tr_iload_n (m := 2) (by decide +kernel) rfl
theorem r184_50 : am_T d 184 50 ls (.int x1 :: .int x0 :: st) S I J Q = am_T d 184 51 ls (.int (x0 + x1) :: st) S I J Q := tr_iadd (by decide +kernel)
theorem r184_51 : am_T d 184 51 ls (.int x0 :: .ref a0 :: st) S I J Q = (am_ix S a0 20 x0 ∧ am_T d 184 52 ls (.int (I a0 x0.toNatClampNeg) :: st) S I J Q) := tr_iald (by decide +kernel)
theorem r184_52 : am_T d 184 52 ls (.int x1 :: .int x0 :: .ref a0 :: st) S I J Q = (am_ixw S a0 20 x0 ∧ am_T d 184 53 ls st S (am_up I a0 x0.toNatClampNeg x1) J Q) := tr_iast (by decide +kernel)
theorem r184_53 : am_T d 184 53 [l0, l1, some (.int x0)] st S I J Q = am_T d 184 56 [l0, am_clr l1, some (.int (x0 + 1))] st S I J Q := tr_iinc (k := 2) (m := 1) (by decide +kernel) rfl (Nat.le_of_ble_eq_true rfl) (by decide) rfl
theorem r184_56 : am_T d 184 56 ls st S I J Q = am_T d 184 28 ls st S I J Q := tr_goto (o := -28) (by decide +kernel) rfl
theorem r184_59 : am_T d 184 59 [some (.ref a0), l1, l2] st S I J Q = am_T d 184 60 [some (.ref a0), l1, l2] (.ref a0 :: st) S I J Q := tr_aload_n (m := 0) (by decide +kernel) rfl
theorem r184_60 : am_T d 184 60 ls st S I J Q = am_T d 184 61 ls (.int 0 :: st) S I J Q := tr_iconst (m := 0) (by decide +kernel) (by decide)
theorem r184_61 : am_T d 184 61 ls (.int x0 :: .ref a0 :: st) S I J Q = (am_is S a0 9 ∧ am_T d 184 64 ls st S (am_up I a0 2 x0) J Q) := tr_puti (k := 64) (by decide +kernel) (by decide +kernel) (by decide +kernel) (by decide +kernel)
theorem r184_64 : am_T d 184 64 [some (.ref a0), l1, l2] st S I J Q = am_T d 184 65 [some (.ref a0), l1, l2] (.ref a0 :: st) S I J Q := tr_aload_n (m := 0) (by decide +kernel) rfl
theorem r184_65 : am_T d 184 65 ls (.ref a0 :: st) S I J Q = ((am_is S a0 9 ∧ am_rf S a0 0 ≠ 0) ∧ am_T d 184 68 ls (.ref (am_rf S a0 0) :: st) S I J Q) := tr_geta (k := 7) (by decide +kernel) (by decide +kernel) (by decide +kernel)
theorem r184_68 : am_T d 184 68 ls st S I J Q = am_T d 184 69 ls (.int 2 :: st) S I J Q := tr_iconst (m := 2) (by decide +kernel) (by decide)
theorem r184_69 : am_T d 184 69 ls (.int x0 :: .ref a0 :: st) S I J Q = (am_ix S a0 20 x0 ∧ am_T d 184 70 ls (.int (I a0 x0.toNatClampNeg) :: st) S I J Q) := tr_iald (by decide +kernel)
theorem r184_70 : am_T d 184 70 ls [.int x0] S I J Q = Q (some (.int x0)) S I J := tr_ireti (by decide +kernel) (by decide +kernel)
end RU
