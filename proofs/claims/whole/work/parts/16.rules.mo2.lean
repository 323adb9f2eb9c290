section RU
variable {d : Nat} {ls : am_L} {l0 l1 l2 l3 l4 l5 l6 l7 : Option Value} {st : List Value} {S : am_S} {I : am_I} {J : am_J} {Q : am_Q} {x0 x1 x2 x3 x4 x5 x10 x11 x12 x13 x14 x15 : Int32} {u0 u1 u2 u3 u10 u11 u12 u13 : Int64} {a0 a1 a2 a3 a4 a10 a11 a12 a13 a14 a15 : Nat}
-- 135 Mod.wipe()I; heads []
theorem e135 : am_C (d + 1) 135 [.ref a0] S I J Q = am_T d 135 0 [some (.ref a0), none] [] S I J Q := tr_en (Nat.le_of_ble_eq_true rfl) rfl
theorem r135_0 : am_T d 135 0 [some (.ref a0), l1] st S I J Q = am_T d 135 1 [some (.ref a0), l1] (.ref a0 :: st) S I J Q := tr_aload_n (m := 0) (by decide +kernel) rfl
theorem r135_1 : am_T d 135 1 ls (.ref a0 :: st) S I J Q = (am_is S a0 9 ∧ am_T d 135 4 ls (.int (I a0 8) :: st) S I J Q) := tr_geti (k := 111) (by decide +kernel) (by decide +kernel) (Or.inl (by decide +kernel))
theorem r135_4 : am_T d 135 4 [l0, l1] (.int x0 :: st) S I J Q = am_T d 135 5 [am_clr l0, some (.int x0)] st S I J Q := tr_istore_n (m := 1) (by decide +kernel) (Nat.le_of_ble_eq_true rfl) rfl
theorem r135_5 : am_T d 135 5 [some (.ref a0), l1] st S I J Q = am_T d 135 6 [some (.ref a0), l1] (.ref a0 :: st) S I J Q := tr_aload_n (m := 0) (by decide +kernel) rfl
theorem r135_6 : am_T d 135 6 ls st S I J Q = am_T d 135 7 ls (.int 0 :: st) S I J Q := tr_iconst (m := 0) (by decide +kernel) (by decide)
theorem r135_7 : am_T d 135 7 ls (.int x0 :: .ref a0 :: st) S I J Q = (am_is S a0 9 ∧ am_T d 135 10 ls st S (am_up I a0 8 x0) J Q) := tr_puti (k := 111) (by decide +kernel) (by decide +kernel) (by decide +kernel) (by decide +kernel)
theorem r135_10 : am_T d 135 10 [l0, some (.int x0)] st S I J Q = am_T d 135 11 [l0, some (.int x0)] (.int x0 :: st) S I J Q := tr_iload_n (m := 1) (by decide +kernel) rfl
theorem r135_11 : am_T d 135 11 ls [.int x0] S I J Q = Q (some (.int x0)) S I J := tr_ireti (by decide +kernel) (by decide +kernel)
-- 136 Mod.digit(III)I; heads []
theorem e136 : am_C (d + 1) 136 [.ref a0, .int x1, .int x2, .int x3] S I J Q = am_T d 136 0 [some (.ref a0), some (.int x1), some (.int x2), some (.int x3), none] [] S I J Q := tr_en (Nat.le_of_ble_eq_true rfl) rfl
theorem r136_0 : am_T d 136 0 [some (.ref a0), l1, l2, l3, l4] st S I J Q = am_T d 136 1 [some (.ref a0), l1, l2, l3, l4] (.ref a0 :: st) S I J Q := tr_aload_n (m := 0) (by decide +kernel) rfl
theorem r136_1 : am_T d 136 1 ls (.ref a0 :: st) S I J Q = (am_is S a0 9 ∧ am_T d 136 4 ls (.int (I a0 10) :: st) S I J Q) := tr_geti (k := 114) (by decide +kernel) (by decide +kernel) (Or.inl (by decide +kernel))
theorem r136_4 : am_T d 136 4 [some (.ref a0), l1, l2, l3, l4] st S I J Q = am_T d 136 5 [some (.ref a0), l1, l2, l3, l4] (.ref a0 :: st) S I J Q := tr_aload_n (m := 0) (by decide +kernel) rfl
theorem r136_5 : am_T d 136 5 ls (.ref a0 :: st) S I J Q = (am_is S a0 9 ∧ am_T d 136 8 ls (.int (I a0 8) :: st) S I J Q) := tr_geti (k := 111) (by decide +kernel) (by decide +kernel) (Or.inl (by decide +kernel))
theorem r136_8 : am_T d 136 8 ls (.int x1 :: .int x0 :: st) S I J Q = if x1 ≤ x0 then am_T d 136 26 ls st S I J Q else am_T d 136 11 ls st S I J Q := tr_icmpge (o := 18) (by decide +kernel) rfl
theorem r136_11 : am_T d 136 11 [some (.ref a0), l1, l2, l3, l4] st S I J Q = am_T d 136 12 [some (.ref a0), l1, l2, l3, l4] (.ref a0 :: st) S I J Q := tr_aload_n (m := 0) (by decide +kernel) rfl
theorem r136_12 : am_T d 136 12 ls (.ref a0 :: st) S I J Q = ((am_is S a0 9 ∧ am_rf S a0 7 ≠ 0) ∧ am_T d 136 15 ls (.ref (am_rf S a0 7) :: st) S I J Q) := tr_geta (k := 19) (by decide +kernel) (by decide +kernel) (by decide +kernel)
theorem r136_15 : am_T d 136 15 [some (.ref a0), l1, l2, l3, l4] st S I J Q = am_T d 136 16 [some (.ref a0), l1, l2, l3, l4] (.ref a0 :: st) S I J Q := tr_aload_n (m := 0) (by decide +kernel) rfl
theorem r136_16 : am_T d 136 16 ls (.ref a0 :: st) S I J Q = (am_is S a0 9 ∧ am_T d 136 19 ls (.int (I a0 10) :: st) S I J Q) := tr_geti (k := 114) (by decide +kernel) (by decide +kernel) (Or.inl (by decide +kernel))
theorem r136_19 : am_T d 136 19 ls (.int x0 :: .ref a0 :: st) S I J Q = (am_ix S a0 20 x0 ∧ am_T d 136 20 ls (.int (I a0 x0.toNatClampNeg) :: st) S I J Q) := tr_iald (by decide +kernel)
theorem r136_20 : am_T d 136 20 ls st S I J Q = am_T d 136 22 ls (.int 48 :: st) S I J Q := tr_bipush (m := 48) (by decide +kernel) (by decide)
theorem r136_22 : am_T d 136 22 ls (.int x1 :: .int x0 :: st) S I J Q = am_T d 136 23 ls (.int (x0 - x1) :: st) S I J Q := tr_isub (by decide +kernel)
theorem r136_23 : am_T d 136 23 ls st S I J Q = am_T d 136 27 ls st S I J Q := tr_goto (o := 4) (by decide +kernel) rfl
theorem r136_26 : am_T d 136 26 ls st S I J Q = am_T d 136 27 ls (.int (-1) :: st) S I J Q := tr_iconst (m := -1) (by decide +kernel) (by decide)
theorem r136_27 : am_T d 136 27 [l0, l1, l2, l3, l4] (.int x0 :: st) S I J Q = am_T d 136 29 [l0, l1, l2, am_clr l3, some (.int x0)] st S I J Q := tr_istore (k := 4) (by decide +kernel) (Nat.le_of_ble_eq_true rfl) rfl
theorem r136_29 : am_T d 136 29 [some (.ref a0), l1, l2, l3, l4] st S I J Q = am_T d 136 30 [some (.ref a0), l1, l2, l3, l4] (.ref a0 :: st) S I J Q := tr_aload_n (m := 0) (by decide +kernel) rfl
theorem r136_30 : am_T d 136 30 ls (.ref a0 :: st) S I J Q = (am_is S a0 9 ∧ am_T d 136 33 ls (.int (I a0 11) :: st) S I J Q) := tr_geti (k := 117) (by decide +kernel) (by decide +kernel) (Or.inl (by decide +kernel))
theorem r136_33 : am_T d 136 33 ls st S I J Q = am_T d 136 35 ls (.int (-107) :: st) S I J Q := tr_bipush (m := -107) (by decide +kernel) (by decide)
theorem r136_35 : am_T d 136 35 ls (.int x1 :: .int x0 :: st) S I J Q = if x0 = x1 then am_T d 136 38 ls st S I J Q else am_T d 136 62 ls st S I J Q := tr_icmpne (o := 27) (by decide +kernel) rfl
theorem r136_38 : am_T d 136 38 [l0, l1, l2, l3, some (.int x0)] st S I J Q = am_T d 136 40 [l0, l1, l2, l3, some (.int x0)] (.int x0 :: st) S I J Q := tr_iload (k := 4) (by decide +kernel) rfl
theorem r136_40 : am_T d 136 40 [l0, some (.int x0), l2, l3, l4] st S I J Q = am_T d 136 41 [l0, some (.int x0), l2, l3, l4] (.int x0 :: st) S I J Q := tr_iload_n (m := 1) (by decide +kernel) rfl
theorem r136_41 : am_T d 136 41 [l0, l1, some (.int x0), l3, l4] st S I J Q = am_T d 136 42 [l0, l1, some (.int x0), l3, l4] (.int x0 :: st) S I J Q := tr_iload_n (m := 2) (by decide +kernel) rfl
theorem r136_42 : am_T d 136 42 ls [.int x2, .int x1, .int x0] S I J Q = am_C d 112 [.int x0, .int x1, .int x2] S I J (fun r S I J => am_T d 136 45 ls (am_psh r []) S I J Q) := tr_stat (k := 60) (by decide +kernel) (Or.inl (by decide +kernel)) (Nat.le_of_ble_eq_true rfl) rfl rfl (Nat.le_of_ble_eq_true rfl)
theorem r136_45 : am_T d 136 45 ls (.int x0 :: st) S I J Q = if x0 = 0 then am_T d 136 54 ls st S I J Q else am_T d 136 48 ls st S I J Q := tr_ifeq (o := 9) (by decide +kernel) rfl
theorem r136_48 : am_T d 136 48 [l0, l1, l2, l3, some (.int x0)] st S I J Q = am_T d 136 50 [l0, l1, l2, l3, some (.int x0)] (.int x0 :: st) S I J Q := tr_iload (k := 4) (by decide +kernel) rfl
theorem r136_50 : am_T d 136 50 [l0, l1, l2, some (.int x0), l4] st S I J Q = am_T d 136 51 [l0, l1, l2, some (.int x0), l4] (.int x0 :: st) S I J Q := tr_iload_n (m := 3) (by decide +kernel) rfl
theorem r136_51 : am_T d 136 51 ls (.int x1 :: .int x0 :: st) S I J Q = if x0 = x1 then am_T d 136 54 ls st S I J Q else am_T d 136 62 ls st S I J Q := tr_icmpne (o := 11) (by decide +kernel) rfl
theorem r136_54 : am_T d 136 54 [some (.ref a0), l1, l2, l3, l4] st S I J Q = am_T d 136 55 [some (.ref a0), l1, l2, l3, l4] (.ref a0 :: st) S I J Q := tr_aload_n (m := 0) (by decide +kernel) rfl
theorem r136_55 : am_T d 136 55 [some (.ref a0), l1, l2, l3, l4] st S I J Q = am_T d 136 56 [some (.ref a0), l1, l2, l3, l4] (.ref a0 :: st) S I J Q := tr_aload_n (m := 0) (by decide +kernel) rfl
theorem r136_56 : am_T d 136 56 ls (.ref a0 :: st) S I J Q = (am_is S a0 9 ∧ am_T d 136 59 ls (.int (I a0 10) :: st) S I J Q) := tr_geti (k := 114) (by decide +kernel) (by decide +kernel) (Or.inl (by decide +kernel))
theorem r136_59 : am_T d 136 59 ls (.int x0 :: .ref a0 :: st) S I J Q = (am_is S a0 9 ∧ am_T d 136 62 ls st S (am_up I a0 11 x0) J Q) := tr_puti (k := 117) (by decide +kernel) (by decide +kernel) (by decide +kernel) (by decide +kernel)
theorem r136_62 : am_T d 136 62 [some (.ref a0), l1, l2, l3, l4] st S I J Q = am_T d 136 63 [some (.ref a0), l1, l2, l3, l4] (.ref a0 :: st) S I J Q := tr_aload_n (m := 0) (by decide +kernel) rfl
theorem r136_63 : am_T d 136 63 ls (.ref a0 :: st) S I J Q = am_T d 136 64 ls (.ref a0 :: .ref a0 :: st) S I J Q := tr_dupa (by decide +kernel)
theorem r136_64 : am_T d 136 64 ls (.ref a0 :: st) S I J Q = (am_is S a0 9 ∧ am_T d 136 67 ls (.int (I a0 10) :: st) S I J Q) := tr_geti (k := 114) (by decide +kernel) (by decide +kernel) (Or.inl (by decide +kernel))
theorem r136_67 : am_T d 136 67 ls st S I J Q = am_T d 136 68 ls (.int 1 :: st) S I J Q := tr_iconst (m := 1) (by decide +kernel) (by decide)
theorem r136_68 : am_T d 136 68 ls (.int x1 :: .int x0 :: st) S I J Q = am_T d 136 69 ls (.int (x0 + x1) :: st) S I J Q := tr_iadd (by decide +kernel)
theorem r136_69 : am_T d 136 69 ls (.int x0 :: .ref a0 :: st) S I J Q = (am_is S a0 9 ∧ am_T d 136 72 ls st S (am_up I a0 10 x0) J Q) := tr_puti (k := 114) (by decide +kernel) (by decide +kernel) (by decide +kernel) (by decide +kernel)
theorem r136_72 : am_T d 136 72 [l0, l1, l2, l3, some (.int x0)] st S I J Q = am_T d 136 74 [l0, l1, l2, l3, some (.int x0)] (.int x0 :: st) S I J Q := tr_iload (k := 4) (by decide +kernel) rfl
theorem r136_74 : am_T d 136 74 ls [.int x0] S I J Q = Q (some (.int x0)) S I J := tr_ireti (by decide +kernel) (by decide +kernel)
-- 137 Mod.sign(I)V; heads []
theorem e137 : am_C (d + 1) 137 [.ref a0, .int x1] S I J Q = am_T d 137 0 [some (.ref a0), some (.int x1)] [] S I J Q := tr_en (Nat.le_of_ble_eq_true rfl) rfl
theorem r137_0 : am_T d 137 0 [some (.ref a0), l1] st S I J Q = am_T d 137 1 [some (.ref a0), l1] (.ref a0 :: st) S I J Q := tr_aload_n (m := 0) (by decide +kernel) rfl
theorem r137_1 : am_T d 137 1 ls (.ref a0 :: st) S I J Q = (am_is S a0 9 ∧ am_T d 137 4 ls (.int (I a0 11) :: st) S I J Q) := tr_geti (k := 117) (by decide +kernel) (by decide +kernel) (Or.inl (by decide +kernel))
theorem r137_4 : am_T d 137 4 ls st S I J Q = am_T d 137 6 ls (.int (-107) :: st) S I J Q := tr_bipush (m := -107) (by decide +kernel) (by decide)
theorem r137_6 : am_T d 137 6 ls (.int x1 :: .int x0 :: st) S I J Q = if x0 = x1 then am_T d 137 9 ls st S I J Q else am_T d 137 41 ls st S I J Q := tr_icmpne (o := 35) (by decide +kernel) rfl
theorem r137_9 : am_T d 137 9 [some (.ref a0), l1] st S I J Q = am_T d 137 10 [some (.ref a0), l1] (.ref a0 :: st) S I J Q := tr_aload_n (m := 0) (by decide +kernel) rfl
theorem r137_10 : am_T d 137 10 ls (.ref a0 :: st) S I J Q = (am_is S a0 9 ∧ am_T d 137 13 ls (.int (I a0 10) :: st) S I J Q) := tr_geti (k := 114) (by decide +kernel) (by decide +kernel) (Or.inl (by decide +kernel))
theorem r137_13 : am_T d 137 13 [some (.ref a0), l1] st S I J Q = am_T d 137 14 [some (.ref a0), l1] (.ref a0 :: st) S I J Q := tr_aload_n (m := 0) (by decide +kernel) rfl
theorem r137_14 : am_T d 137 14 ls (.ref a0 :: st) S I J Q = (am_is S a0 9 ∧ am_T d 137 17 ls (.int (I a0 8) :: st) S I J Q) := tr_geti (k := 111) (by decide +kernel) (by decide +kernel) (Or.inl (by decide +kernel))
theorem r137_17 : am_T d 137 17 ls (.int x1 :: .int x0 :: st) S I J Q = if x1 ≤ x0 then am_T d 137 33 ls st S I J Q else am_T d 137 20 ls st S I J Q := tr_icmpge (o := 16) (by decide +kernel) rfl
theorem r137_20 : am_T d 137 20 [some (.ref a0), l1] st S I J Q = am_T d 137 21 [some (.ref a0), l1] (.ref a0 :: st) S I J Q := tr_aload_n (m := 0) (by decide +kernel) rfl
theorem r137_21 : am_T d 137 21 ls (.ref a0 :: st) S I J Q = ((am_is S a0 9 ∧ am_rf S a0 7 ≠ 0) ∧ am_T d 137 24 ls (.ref (am_rf S a0 7) :: st) S I J Q) := tr_geta (k := 19) (by decide +kernel) (by decide +kernel) (by decide +kernel)
theorem r137_24 : am_T d 137 24 [some (.ref a0), l1] st S I J Q = am_T d 137 25 [some (.ref a0), l1] (.ref a0 :: st) S I J Q := tr_aload_n (m := 0) (by decide +kernel) rfl
theorem r137_25 : am_T d 137 25 ls (.ref a0 :: st) S I J Q = (am_is S a0 9 ∧ am_T d 137 28 ls (.int (I a0 10) :: st) S I J Q) := tr_geti (k := 114) (by decide +kernel) (by decide +kernel) (Or.inl (by decide +kernel))
theorem r137_28 : am_T d 137 28 ls (.int x0 :: .ref a0 :: st) S I J Q = (am_ix S a0 20 x0 ∧ am_T d 137 29 ls (.int (I a0 x0.toNatClampNeg) :: st) S I J Q) := tr_iald (by decide +kernel)
theorem r137_29 : am_T d 137 29 [l0, some (.int x0)] st S I J Q = am_T d 137 30 [l0, some (.int x0)] (.int x0 :: st) S I J Q := tr_iload_n (m := 1) (by decide +kernel) rfl
theorem r137_30 : am_T d 137 30 ls (.int x1 :: .int x0 :: st) S I J Q = if x0 = x1 then am_T d 137 41 ls st S I J Q else am_T d 137 33 ls st S I J Q := tr_icmpeq (o := 11) (by decide +kernel) rfl
theorem r137_33 : am_T d 137 33 [some (.ref a0), l1] st S I J Q = am_T d 137 34 [some (.ref a0), l1] (.ref a0 :: st) S I J Q := tr_aload_n (m := 0) (by decide +kernel) rfl
theorem r137_34 : am_T d 137 34 [some (.ref a0), l1] st S I J Q = am_T d 137 35 [some (.ref a0), l1] (.ref a0 :: st) S I J Q := tr_aload_n (m := 0) (by decide +kernel) rfl
theorem r137_35 : am_T d 137 35 ls (.ref a0 :: st) S I J Q = (am_is S a0 9 ∧ am_T d 137 38 ls (.int (I a0 10) :: st) S I J Q) := tr_geti (k := 114) (by decide +kernel) (by decide +kernel) (Or.inl (by decide +kernel))
theorem r137_38 : am_T d 137 38 ls (.int x0 :: .ref a0 :: st) S I J Q = (am_is S a0 9 ∧ am_T d 137 41 ls st S (am_up I a0 11 x0) J Q) := tr_puti (k := 117) (by decide +kernel) (by decide +kernel) (by decide +kernel) (by decide +kernel)
theorem r137_41 : am_T d 137 41 [some (.ref a0), l1] st S I J Q = am_T d 137 42 [some (.ref a0), l1] (.ref a0 :: st) S I J Q := tr_aload_n (m := 0) (by decide +kernel) rfl
theorem r137_42 : am_T d 137 42 ls (.ref a0 :: st) S I J Q = am_T d 137 43 ls (.ref a0 :: .ref a0 :: st) S I J Q := tr_dupa (by decide +kernel)
theorem r137_43 : am_T d 137 43 ls (.ref a0 :: st) S I J Q = (am_is S a0 9 ∧ am_T d 137 46 ls (.int (I a0 10) :: st) S I J Q) := tr_geti (k := 114) (by decide +kernel) (by decide +kernel) (Or.inl (by decide +kernel))
theorem r137_46 : am_T d 137 46 ls st S I J Q = am_T d 137 47 ls (.int 1 :: st) S I J Q := tr_iconst (m := 1) (by decide +kernel) (by decide)
theorem r137_47 : am_T d 137 47 ls (.int x1 :: .int x0 :: st) S I J Q = am_T d 137 48 ls (.int (x0 + x1) :: st) S I J Q := tr_iadd (by decide +kernel)
theorem r137_48 : am_T d 137 48 ls (.int x0 :: .ref a0 :: st) S I J Q = (am_is S a0 9 ∧ am_T d 137 51 ls st S (am_up I a0 10 x0) J Q) := tr_puti (k := 114) (by decide +kernel) (by decide +kernel) (by decide +kernel) (by decide +kernel)
theorem r137_51 : am_T d 137 51 ls [] S I J Q = Q none S I J := tr_vret (by decide +kernel) (by decide +kernel)
-- 138 Mod.parse()I; heads [50]
theorem e138 : am_C (d + 1) 138 [.ref a0] S I J Q = am_T d 138 0 [some (.ref a0), none, none, none, none, none] [] S I J Q := tr_en (Nat.le_of_ble_eq_true rfl) rfl
theorem r138_0 : am_T d 138 0 [some (.ref a0), l1, l2, l3, l4, l5] st S I J Q = am_T d 138 1 [some (.ref a0), l1, l2, l3, l4, l5] (.ref a0 :: st) S I J Q := tr_aload_n (m := 0) (by decide +kernel) rfl
theorem r138_1 : am_T d 138 1 ls st S I J Q = am_T d 138 2 ls (.int 0 :: st) S I J Q := tr_iconst (m := 0) (by decide +kernel) (by decide)
theorem r138_2 : am_T d 138 2 ls (.int x0 :: .ref a0 :: st) S I J Q = (am_is S a0 9 ∧ am_T d 138 5 ls st S (am_up I a0 10 x0) J Q) := tr_puti (k := 114) (by decide +kernel) (by decide +kernel) (by decide +kernel) (by decide +kernel)
theorem r138_5 : am_T d 138 5 [some (.ref a0), l1, l2, l3, l4, l5] st S I J Q = am_T d 138 6 [some (.ref a0), l1, l2, l3, l4, l5] (.ref a0 :: st) S I J Q := tr_aload_n (m := 0) (by decide +kernel) rfl
theorem r138_6 : am_T d 138 6 ls st S I J Q = am_T d 138 8 ls (.int (-107) :: st) S I J Q := tr_bipush (m := -107) (by decide +kernel) (by decide)
theorem r138_8 : am_T d 138 8 ls (.int x0 :: .ref a0 :: st) S I J Q = (am_is S a0 9 ∧ am_T d 138 11 ls st S (am_up I a0 11 x0) J Q) := tr_puti (k := 117) (by decide +kernel) (by decide +kernel) (by decide +kernel) (by decide +kernel)
theorem r138_11 : am_T d 138 11 [some (.ref a0), l1, l2, l3, l4, l5] st S I J Q = am_T d 138 12 [some (.ref a0), l1, l2, l3, l4, l5] (.ref a0 :: st) S I J Q := tr_aload_n (m := 0) (by decide +kernel) rfl
theorem r138_12 : am_T d 138 12 ls st S I J Q = am_T d 138 13 ls (.int 2 :: st) S I J Q := tr_iconst (m := 2) (by decide +kernel) (by decide)
theorem r138_13 : am_T d 138 13 ls st S I J Q = am_T d 138 15 ls (.int 8 :: st) S I J Q := tr_bipush (m := 8) (by decide +kernel) (by decide)
theorem r138_15 : am_T d 138 15 ls st S I J Q = am_T d 138 16 ls (.int (-1) :: st) S I J Q := tr_iconst (m := -1) (by decide +kernel) (by decide)
theorem r138_16 : am_T d 138 16 ls [.int x3, .int x2, .int x1, .ref a0] S I J Q = (am_is S a0 9 ∧ am_C d 136 [.ref a0, .int x1, .int x2, .int x3] S I J (fun r S I J => am_T d 138 19 ls (am_psh r []) S I J Q)) := tr_virt (k := 120) (by decide +kernel) (by decide +kernel) rfl rfl (Nat.le_of_ble_eq_true rfl) (by decide +kernel)
theorem r138_19 : am_T d 138 19 [l0, l1, l2, l3, l4, l5] (.int x0 :: st) S I J Q = am_T d 138 20 [am_clr l0, some (.int x0), l2, l3, l4, l5] st S I J Q := tr_istore_n (m := 1) (by decide +kernel) (Nat.le_of_ble_eq_true rfl) rfl
theorem r138_20 : am_T d 138 20 [some (.ref a0), l1, l2, l3, l4, l5] st S I J Q = am_T d 138 21 [some (.ref a0), l1, l2, l3, l4, l5] (.ref a0 :: st) S I J Q := tr_aload_n (m := 0) (by decide +kernel) rfl
theorem r138_21 : am_T d 138 21 ls st S I J Q = am_T d 138 23 ls (.int 47 :: st) S I J Q := tr_bipush (m := 47) (by decide +kernel) (by decide)
theorem r138_23 : am_T d 138 23 ls [.int x1, .ref a0] S I J Q = (am_is S a0 9 ∧ am_C d 137 [.ref a0, .int x1] S I J (fun r S I J => am_T d 138 26 ls (am_psh r []) S I J Q)) := tr_virt (k := 124) (by decide +kernel) (by decide +kernel) rfl rfl (Nat.le_of_ble_eq_true rfl) (by decide +kernel)
theorem r138_26 : am_T d 138 26 [some (.ref a0), l1, l2, l3, l4, l5] st S I J Q = am_T d 138 27 [some (.ref a0), l1, l2, l3, l4, l5] (.ref a0 :: st) S I J Q := tr_aload_n (m := 0) (by decide +kernel) rfl
theorem r138_27 : am_T d 138 27 ls (.ref a0 :: st) S I J Q = ((am_is S a0 9 ∧ am_rf S a0 12 ≠ 0) ∧ am_T d 138 30 ls (.ref (am_rf S a0 12) :: st) S I J Q) := tr_geta (k := 22) (by decide +kernel) (by decide +kernel) (by decide +kernel)
theorem r138_30 : am_T d 138 30 ls st S I J Q = am_T d 138 31 ls (.int 0 :: st) S I J Q := tr_iconst (m := 0) (by decide +kernel) (by decide)
theorem r138_31 : am_T d 138 31 [l0, some (.int x0), l2, l3, l4, l5] st S I J Q = am_T d 138 32 [l0, some (.int x0), l2, l3, l4, l5] (.int x0 :: st) S I J Q := tr_iload_n (m := 1) (by decide +kernel) rfl
theorem r138_32 : am_T d 138 32 ls (.int x1 :: .int x0 :: .ref a0 :: st) S I J Q = (am_ixw S a0 20 x0 ∧ am_T d 138 33 ls st S (am_up I a0 x0.toNatClampNeg x1) J Q) := tr_iast (by decide +kernel)
theorem r138_33 : am_T d 138 33 [some (.ref a0), l1, l2, l3, l4, l5] st S I J Q = am_T d 138 34 [some (.ref a0), l1, l2, l3, l4, l5] (.ref a0 :: st) S I J Q := tr_aload_n (m := 0) (by decide +kernel) rfl
theorem r138_34 : am_T d 138 34 ls (.ref a0 :: st) S I J Q = ((am_is S a0 9 ∧ am_rf S a0 12 ≠ 0) ∧ am_T d 138 37 ls (.ref (am_rf S a0 12) :: st) S I J Q) := tr_geta (k := 22) (by decide +kernel) (by decide +kernel) (by decide +kernel)
theorem r138_37 : am_T d 138 37 ls st S I J Q = am_T d 138 38 ls (.int 1 :: st) S I J Q := tr_iconst (m := 1) (by decide +kernel) (by decide)
theorem r138_38 : am_T d 138 38 [some (.ref a0), l1, l2, l3, l4, l5] st S I J Q = am_T d 138 39 [some (.ref a0), l1, l2, l3, l4, l5] (.ref a0 :: st) S I J Q := tr_aload_n (m := 0) (by decide +kernel) rfl
theorem r138_39 : am_T d 138 39 ls st S I J Q = am_T d 138 40 ls (.int 0 :: st) S I J Q := tr_iconst (m := 0) (by decide +kernel) (by decide)
theorem r138_40 : am_T d 138 40 [l0, some (.int x0), l2, l3, l4, l5] st S I J Q = am_T d 138 41 [l0, some (.int x0), l2, l3, l4, l5] (.int x0 :: st) S I J Q := tr_iload_n (m := 1) (by decide +kernel) rfl
theorem r138_41 : am_T d 138 41 ls st S I J Q = am_T d 138 42 ls (.int 1 :: st) S I J Q := tr_iconst (m := 1) (by decide +kernel) (by decide)
theorem r138_42 : am_T d 138 42 ls (.int x1 :: .int x0 :: st) S I J Q = am_T d 138 43 ls (.int (x0 - x1) :: st) S I J Q := tr_isub (by decide +kernel)
theorem r138_43 : am_T d 138 43 ls st S I J Q = am_T d 138 44 ls (.int (-1) :: st) S I J Q := tr_iconst (m := -1) (by decide +kernel) (by decide)
theorem r138_44 : am_T d 138 44 ls [.int x3, .int x2, .int x1, .ref a0, .int x11, .ref a10] S I J Q = (am_is S a0 9 ∧ am_C d 136 [.ref a0, .int x1, .int x2, .int x3] S I J (fun r S I J => am_T d 138 47 ls (am_psh r [.int x11, .ref a10]) S I J Q)) := tr_virt (k := 120) (by decide +kernel) (by decide +kernel) rfl rfl (Nat.le_of_ble_eq_true rfl) (by decide +kernel)
theorem r138_47 : am_T d 138 47 ls (.int x1 :: .int x0 :: .ref a0 :: st) S I J Q = (am_ixw S a0 20 x0 ∧ am_T d 138 48 ls st S (am_up I a0 x0.toNatClampNeg x1) J Q) := tr_iast (by decide +kernel)
theorem r138_48 : am_T d 138 48 ls st S I J Q = am_T d 138 49 ls (.int 0 :: st) S I J Q := tr_iconst (m := 0) (by decide +kernel) (by decide)
theorem r138_49 : am_T d 138 49 [l0, l1, l2, l3, l4, l5] (.int x0 :: st) S I J Q = am_T d 138 50 [l0, am_clr l1, some (.int x0), l3, l4, l5] st S I J Q := tr_istore_n (m := 2) (by decide +kernel) (Nat.le_of_ble_eq_true rfl) rfl
theorem r138_50 : am_T d 138 50 [some (.ref a0), l1, l2, l3, l4, l5] st S I J Q = am_T d 138 51 [some (.ref a0), l1, l2, l3, l4, l5] (.ref a0 :: st) S I J Q := tr_aload_n (m := 0) (by decide +kernel) rfl
theorem r138_51 : am_T d 138 51 ls (.ref a0 :: st) S I J Q = (am_is S a0 9 ∧ am_T d 138 54 ls (.int (I a0 11) :: st) S I J Q) := tr_geti (k := 117) (by decide +kernel) (by decide +kernel) (Or.inl (by decide +kernel))
theorem r138_54 : am_T d 138 54 ls st S I J Q = am_T d 138 56 ls (.int (-107) :: st) S I J Q := tr_bipush (m := -107) (by decide +kernel) (by decide)
theorem r138_56 : am_T d 138 56 ls (.int x1 :: .int x0 :: st) S I J Q = if x0 = x1 then am_T d 138 59 ls st S I J Q else am_T d 138 238 ls st S I J Q := tr_icmpne (o := 182) (by decide +kernel) rfl
theorem r138_59 : am_T d 138 59 [some (.ref a0), l1, l2, l3, l4, l5] st S I J Q = am_T d 138 60 [some (.ref a0), l1, l2, l3, l4, l5] (.ref a0 :: st) S I J Q := tr_aload_n (m := 0) (by decide +kernel) rfl
theorem r138_60 : am_T d 138 60 ls (.ref a0 :: st) S I J Q = (am_is S a0 9 ∧ am_T d 138 63 ls (.int (I a0 10) :: st) S I J Q) := tr_geti (k := 114) (by decide +kernel) (by decide +kernel) (Or.inl (by decide +kernel))
theorem r138_63 : am_T d 138 63 [some (.ref a0), l1, l2, l3, l4, l5] st S I J Q = am_T d 138 64 [some (.ref a0), l1, l2, l3, l4, l5] (.ref a0 :: st) S I J Q := tr_aload_n (m := 0) (by decide +kernel) rfl
theorem r138_64 : am_T d 138 64 ls (.ref a0 :: st) S I J Q = (am_is S a0 9 ∧ am_T d 138 67 ls (.int (I a0 8) :: st) S I J Q) := tr_geti (k := 111) (by decide +kernel) (by decide +kernel) (Or.inl (by decide +kernel))
theorem r138_67 : am_T d 138 67 ls (.int x1 :: .int x0 :: st) S I J Q = if x1 ≤ x0 then am_T d 138 238 ls st S I J Q else am_T d 138 70 ls st S I J Q := tr_icmpge (o := 171) (by decide +kernel) rfl
theorem r138_70 : am_T d 138 70 [l0, l1, some (.int x0), l3, l4, l5] st S I J Q = am_T d 138 71 [l0, l1, some (.int x0), l3, l4, l5] (.int x0 :: st) S I J Q := tr_iload_n (m := 2) (by decide +kernel) rfl
theorem r138_71 : am_T d 138 71 ls st S I J Q = am_T d 138 73 ls (.int 32 :: st) S I J Q := tr_bipush (m := 32) (by decide +kernel) (by decide)
theorem r138_73 : am_T d 138 73 ls (.int x1 :: .int x0 :: st) S I J Q = if x0 = x1 then am_T d 138 76 ls st S I J Q else am_T d 138 84 ls st S I J Q := tr_icmpne (o := 11) (by decide +kernel) rfl
theorem r138_76 : am_T d 138 76 [some (.ref a0), l1, l2, l3, l4, l5] st S I J Q = am_T d 138 77 [some (.ref a0), l1, l2, l3, l4, l5] (.ref a0 :: st) S I J Q := tr_aload_n (m := 0) (by decide +kernel) rfl
theorem r138_77 : am_T d 138 77 [some (.ref a0), l1, l2, l3, l4, l5] st S I J Q = am_T d 138 78 [some (.ref a0), l1, l2, l3, l4, l5] (.ref a0 :: st) S I J Q := tr_aload_n (m := 0) (by decide +kernel) rfl
theorem r138_78 : am_T d 138 78 ls (.ref a0 :: st) S I J Q = (am_is S a0 9 ∧ am_T d 138 81 ls (.int (I a0 10) :: st) S I J Q) := tr_geti (k := 114) (by decide +kernel) (by decide +kernel) (Or.inl (by decide +kernel))
theorem r138_81 : am_T d 138 81 ls (.int x0 :: .ref a0 :: st) S I J Q = (am_is S a0 9 ∧ am_T d 138 84 ls st S (am_up I a0 11 x0) J Q) := tr_puti (k := 117) (by decide +kernel) (by decide +kernel) (by decide +kernel) (by decide +kernel)
theorem r138_84 : am_T d 138 84 [some (.ref a0), l1, l2, l3, l4, l5] st S I J Q = am_T d 138 85 [some (.ref a0), l1, l2, l3, l4, l5] (.ref a0 :: st) S I J Q := tr_aload_n (m := 0) (by decide +kernel) rfl
theorem r138_85 : am_T d 138 85 ls st S I J Q = am_T d 138 87 ls (.int 44 :: st) S I J Q := tr_bipush (m := 44) (by decide +kernel) (by decide)
theorem r138_87 : am_T d 138 87 ls [.int x1, .ref a0] S I J Q = (am_is S a0 9 ∧ am_C d 137 [.ref a0, .int x1] S I J (fun r S I J => am_T d 138 90 ls (am_psh r []) S I J Q)) := tr_virt (k := 124) (by decide +kernel) (by decide +kernel) rfl rfl (Nat.le_of_ble_eq_true rfl) (by decide +kernel)
theorem r138_90 : am_T d 138 90 [some (.ref a0), l1, l2, l3, l4, l5] st S I J Q = am_T d 138 91 [some (.ref a0), l1, l2, l3, l4, l5] (.ref a0 :: st) S I J Q := tr_aload_n (m := 0) (by decide +kernel) rfl
theorem r138_91 : am_T d 138 91 ls st S I J Q = am_T d 138 92 ls (.int 0 :: st) S I J Q := tr_iconst (m := 0) (by decide +kernel) (by decide)
theorem r138_92 : am_T d 138 92 [l0, some (.int x0), l2, l3, l4, l5] st S I J Q = am_T d 138 93 [l0, some (.int x0), l2, l3, l4, l5] (.int x0 :: st) S I J Q := tr_iload_n (m := 1) (by decide +kernel) rfl
theorem r138_93 : am_T d 138 93 ls st S I J Q = am_T d 138 94 ls (.int 1 :: st) S I J Q := tr_iconst (m := 1) (by decide +kernel) (by decide)
theorem r138_94 : am_T d 138 94 ls (.int x1 :: .int x0 :: st) S I J Q = am_T d 138 95 ls (.int (x0 - x1) :: st) S I J Q := tr_isub (by decide +kernel)
theorem r138_95 : am_T d 138 95 ls st S I J Q = am_T d 138 96 ls (.int (-1) :: st) S I J Q := tr_iconst (m := -1) (by decide +kernel) (by decide)
theorem r138_96 : am_T d 138 96 ls [.int x3, .int x2, .int x1, .ref a0] S I J Q = (am_is S a0 9 ∧ am_C d 136 [.ref a0, .int x1, .int x2, .int x3] S I J (fun r S I J => am_T d 138 99 ls (am_psh r []) S I J Q)) := tr_virt (k := 120) (by decide +kernel) (by decide +kernel) rfl rfl (Nat.le_of_ble_eq_true rfl) (by decide +kernel)
theorem r138_99 : am_T d 138 99 [l0, l1, l2, l3, l4, l5] (.int x0 :: st) S I J Q = am_T d 138 100 [l0, l1, am_clr l2, some (.int x0), l4, l5] st S I J Q := tr_istore_n (m := 3) (by decide +kernel) (Nat.le_of_ble_eq_true rfl) rfl
theorem r138_100 : am_T d 138 100 [some (.ref a0), l1, l2, l3, l4, l5] st S I J Q = am_T d 138 101 [some (.ref a0), l1, l2, l3, l4, l5] (.ref a0 :: st) S I J Q := tr_aload_n (m := 0) (by decide +kernel) rfl
theorem r138_101 : am_T d 138 101 ls st S I J Q = am_T d 138 103 ls (.int 62 :: st) S I J Q := tr_bipush (m := 62) (by decide +kernel) (by decide)
theorem r138_103 : am_T d 138 103 ls [.int x1, .ref a0] S I J Q = (am_is S a0 9 ∧ am_C d 137 [.ref a0, .int x1] S I J (fun r S I J => am_T d 138 106 ls (am_psh r []) S I J Q)) := tr_virt (k := 124) (by decide +kernel) (by decide +kernel) rfl rfl (Nat.le_of_ble_eq_true rfl) (by decide +kernel)
theorem r138_106 : am_T d 138 106 [some (.ref a0), l1, l2, l3, l4, l5] st S I J Q = am_T d 138 107 [some (.ref a0), l1, l2, l3, l4, l5] (.ref a0 :: st) S I J Q := tr_aload_n (m := 0) (by decide +kernel) rfl
theorem r138_107 : am_T d 138 107 ls st S I J Q = am_T d 138 108 ls (.int 0 :: st) S I J Q := tr_iconst (m := 0) (by decide +kernel) (by decide)
theorem r138_108 : am_T d 138 108 [l0, some (.int x0), l2, l3, l4, l5] st S I J Q = am_T d 138 109 [l0, some (.int x0), l2, l3, l4, l5] (.int x0 :: st) S I J Q := tr_iload_n (m := 1) (by decide +kernel) rfl
theorem r138_109 : am_T d 138 109 ls st S I J Q = am_T d 138 110 ls (.int 1 :: st) S I J Q := tr_iconst (m := 1) (by decide +kernel) (by decide)
theorem r138_110 : am_T d 138 110 ls (.int x1 :: .int x0 :: st) S I J Q = am_T d 138 111 ls (.int (x0 - x1) :: st) S I J Q := tr_isub (by decide +kernel)
theorem r138_111 : am_T d 138 111 [l0, l1, l2, some (.int x0), l4, l5] st S I J Q = am_T d 138 112 [l0, l1, l2, some (.int x0), l4, l5] (.int x0 :: st) S I J Q := tr_iload_n (m := 3) (by decide +kernel) rfl
theorem r138_112 : am_T d 138 112 ls [.int x3, .int x2, .int x1, .ref a0] S I J Q = (am_is S a0 9 ∧ am_C d 136 [.ref a0, .int x1, .int x2, .int x3] S I J (fun r S I J => am_T d 138 115 ls (am_psh r []) S I J Q)) := tr_virt (k := 120) (by decide +kernel) (by decide +kernel) rfl rfl (Nat.le_of_ble_eq_true rfl) (by decide +kernel)
theorem r138_115 : am_T d 138 115 [l0, l1, l2, l3, l4, l5] (.int x0 :: st) S I J Q = am_T d 138 117 [l0, l1, l2, am_clr l3, some (.int x0), l5] st S I J Q := tr_istore (k := 4) (by decide +kernel) (Nat.le_of_ble_eq_true rfl) rfl
theorem r138_117 : am_T d 138 117 [some (.ref a0), l1, l2, l3, l4, l5] st S I J Q = am_T d 138 118 [some (.ref a0), l1, l2, l3, l4, l5] (.ref a0 :: st) S I J Q := tr_aload_n (m := 0) (by decide +kernel) rfl
theorem r138_118 : am_T d 138 118 ls st S I J Q = am_T d 138 120 ls (.int 58 :: st) S I J Q := tr_bipush (m := 58) (by decide +kernel) (by decide)
theorem r138_120 : am_T d 138 120 ls [.int x1, .ref a0] S I J Q = (am_is S a0 9 ∧ am_C d 137 [.ref a0, .int x1] S I J (fun r S I J => am_T d 138 123 ls (am_psh r []) S I J Q)) := tr_virt (k := 124) (by decide +kernel) (by decide +kernel) rfl rfl (Nat.le_of_ble_eq_true rfl) (by decide +kernel)
theorem r138_123 : am_T d 138 123 [some (.ref a0), l1, l2, l3, l4, l5] st S I J Q = am_T d 138 124 [some (.ref a0), l1, l2, l3, l4, l5] (.ref a0 :: st) S I J Q := tr_aload_n (m := 0) (by decide +kernel) rfl
theorem r138_124 : am_T d 138 124 ls st S I J Q = am_T d 138 125 ls (.int 0 :: st) S I J Q := tr_iconst (m := 0) (by decide +kernel) (by decide)
theorem r138_125 : am_T d 138 125 ls st S I J Q = am_T d 138 127 ls (.int 9 :: st) S I J Q := tr_bipush (m := 9) (by decide +kernel) (by decide)
theorem r138_127 : am_T d 138 127 ls st S I J Q = am_T d 138 128 ls (.int (-1) :: st) S I J Q := tr_iconst (m := -1) (by decide +kernel) (by decide)
theorem r138_128 : am_T d 138 128 ls [.int x3, .int x2, .int x1, .ref a0] S I J Q = (am_is S a0 9 ∧ am_C d 136 [.ref a0, .int x1, .int x2, .int x3] S I J (fun r S I J => am_T d 138 131 ls (am_psh r []) S I J Q)) := tr_virt (k := 120) (by decide +kernel) (by decide +kernel) rfl rfl (Nat.le_of_ble_eq_true rfl) (by decide +kernel)
theorem r138_131 : am_T d 138 131 [l0, l1, l2, l3, l4, l5] (.int x0 :: st) S I J Q = am_T d 138 133 [l0, l1, l2, l3, am_clr l4, some (.int x0)] st S I J Q := tr_istore (k := 5) (by decide +kernel) (Nat.le_of_ble_eq_true rfl) rfl
theorem r138_133 : am_T d 138 133 [some (.ref a0), l1, l2, l3, l4, l5] st S I J Q = am_T d 138 134 [some (.ref a0), l1, l2, l3, l4, l5] (.ref a0 :: st) S I J Q := tr_aload_n (m := 0) (by decide +kernel) rfl
theorem r138_134 : am_T d 138 134 ls (.ref a0 :: st) S I J Q = (am_is S a0 9 ∧ am_T d 138 137 ls (.int (I a0 11) :: st) S I J Q) := tr_geti (k := 117) (by decide +kernel) (by decide +kernel) (Or.inl (by decide +kernel))
theorem r138_137 : am_T d 138 137 ls st S I J Q = am_T d 138 139 ls (.int (-107) :: st) S I J Q := tr_bipush (m := -107) (by decide +kernel) (by decide)
theorem r138_139 : am_T d 138 139 ls (.int x1 :: .int x0 :: st) S I J Q = if x0 = x1 then am_T d 138 142 ls st S I J Q else am_T d 138 188 ls st S I J Q := tr_icmpne (o := 49) (by decide +kernel) rfl
theorem r138_142 : am_T d 138 142 [some (.ref a0), l1, l2, l3, l4, l5] st S I J Q = am_T d 138 143 [some (.ref a0), l1, l2, l3, l4, l5] (.ref a0 :: st) S I J Q := tr_aload_n (m := 0) (by decide +kernel) rfl
theorem r138_143 : am_T d 138 143 ls (.ref a0 :: st) S I J Q = (am_is S a0 9 ∧ am_T d 138 146 ls (.int (I a0 10) :: st) S I J Q) := tr_geti (k := 114) (by decide +kernel) (by decide +kernel) (Or.inl (by decide +kernel))
theorem r138_146 : am_T d 138 146 [some (.ref a0), l1, l2, l3, l4, l5] st S I J Q = am_T d 138 147 [some (.ref a0), l1, l2, l3, l4, l5] (.ref a0 :: st) S I J Q := tr_aload_n (m := 0) (by decide +kernel) rfl
theorem r138_147 : am_T d 138 147 ls (.ref a0 :: st) S I J Q = (am_is S a0 9 ∧ am_T d 138 150 ls (.int (I a0 8) :: st) S I J Q) := tr_geti (k := 111) (by decide +kernel) (by decide +kernel) (Or.inl (by decide +kernel))
theorem r138_150 : am_T d 138 150 ls (.int x1 :: .int x0 :: st) S I J Q = if x1 ≤ x0 then am_T d 138 188 ls st S I J Q else am_T d 138 153 ls st S I J Q := tr_icmpge (o := 38) (by decide +kernel) rfl
theorem r138_153 : am_T d 138 153 [some (.ref a0), l1, l2, l3, l4, l5] st S I J Q = am_T d 138 154 [some (.ref a0), l1, l2, l3, l4, l5] (.ref a0 :: st) S I J Q := tr_aload_n (m := 0) (by decide +kernel) rfl
theorem r138_154 : am_T d 138 154 ls (.ref a0 :: st) S I J Q = ((am_is S a0 9 ∧ am_rf S a0 7 ≠ 0) ∧ am_T d 138 157 ls (.ref (am_rf S a0 7) :: st) S I J Q) := tr_geta (k := 19) (by decide +kernel) (by decide +kernel) (by decide +kernel)
theorem r138_157 : am_T d 138 157 [some (.ref a0), l1, l2, l3, l4, l5] st S I J Q = am_T d 138 158 [some (.ref a0), l1, l2, l3, l4, l5] (.ref a0 :: st) S I J Q := tr_aload_n (m := 0) (by decide +kernel) rfl
theorem r138_158 : am_T d 138 158 ls (.ref a0 :: st) S I J Q = (am_is S a0 9 ∧ am_T d 138 161 ls (.int (I a0 10) :: st) S I J Q) := tr_geti (k := 114) (by decide +kernel) (by decide +kernel) (Or.inl (by decide +kernel))
theorem r138_161 : am_T d 138 161 ls (.int x0 :: .ref a0 :: st) S I J Q = (am_ix S a0 20 x0 ∧ am_T d 138 162 ls (.int (I a0 x0.toNatClampNeg) :: st) S I J Q) := tr_iald (by decide +kernel)
theorem r138_162 : am_T d 138 162 ls st S I J Q = am_T d 138 164 ls (.int 48 :: st) S I J Q := tr_bipush (m := 48) (by decide +kernel) (by decide)
theorem r138_164 : am_T d 138 164 ls st S I J Q = am_T d 138 166 ls (.int 57 :: st) S I J Q := tr_bipush (m := 57) (by decide +kernel) (by decide)
theorem r138_166 : am_T d 138 166 ls [.int x2, .int x1, .int x0] S I J Q = am_C d 112 [.int x0, .int x1, .int x2] S I J (fun r S I J => am_T d 138 169 ls (am_psh r []) S I J Q) := tr_stat (k := 60) (by decide +kernel) (Or.inl (by decide +kernel)) (Nat.le_of_ble_eq_true rfl) rfl rfl (Nat.le_of_ble_eq_true rfl)
theorem r138_169 : am_T d 138 169 ls (.int x0 :: st) S I J Q = if x0 = 0 then am_T d 138 188 ls st S I J Q else am_T d 138 172 ls st S I J Q := tr_ifeq (o := 19) (by decide +kernel) rfl
theorem r138_172 : am_T d 138 172 ls st S I J Q = am_T d 138 174 ls (.int 10 :: st) S I J Q := tr_bipush (m := 10) (by decide +kernel) (by decide)
theorem r138_174 : am_T d 138 174 [l0, l1, l2, l3, l4, some (.int x0)] st S I J Q = am_T d 138 176 [l0, l1, l2, l3, l4, some (.int x0)] (.int x0 :: st) S I J Q := tr_iload (k := 5) (by decide +kernel) rfl
theorem r138_176 : am_T d 138 176 ls (.int x1 :: .int x0 :: st) S I J Q = am_T d 138 177 ls (.int (x0 * x1) :: st) S I J Q := tr_imul (by decide +kernel)
theorem r138_177 : am_T d 138 177 [some (.ref a0), l1, l2, l3, l4, l5] st S I J Q = am_T d 138 178 [some (.ref a0), l1, l2, l3, l4, l5] (.ref a0 :: st) S I J Q := tr_aload_n (m := 0) (by decide +kernel) rfl
theorem r138_178 : am_T d 138 178 ls st S I J Q = am_T d 138 179 ls (.int 0 :: st) S I J Q := tr_iconst (m := 0) (by decide +kernel) (by decide)
theorem r138_179 : am_T d 138 179 ls st S I J Q = am_T d 138 181 ls (.int 9 :: st) S I J Q := tr_bipush (m := 9) (by decide +kernel) (by decide)
theorem r138_181 : am_T d 138 181 ls st S I J Q = am_T d 138 182 ls (.int (-1) :: st) S I J Q := tr_iconst (m := -1) (by decide +kernel) (by decide)
theorem r138_182 : am_T d 138 182 ls [.int x3, .int x2, .int x1, .ref a0, .int x10] S I J Q = (am_is S a0 9 ∧ am_C d 136 [.ref a0, .int x1, .int x2, .int x3] S I J (fun r S I J => am_T d 138 185 ls (am_psh r [.int x10]) S I J Q)) := tr_virt (k := 120) (by decide +kernel) (by decide +kernel) rfl rfl (Nat.le_of_ble_eq_true rfl) (by decide +kernel)
theorem r138_185 : am_T d 138 185 ls (.int x1 :: .int x0 :: st) S I J Q = am_T d 138 186 ls (.int (x0 + x1) :: st) S I J Q := tr_iadd (by decide +kernel)
theorem r138_186 : am_T d 138 186 [l0, l1, l2, l3, l4, l5] (.int x0 :: st) S I J Q = am_T d 138 188 [l0, l1, l2, l3, am_clr l4, some (.int x0)] st S I J Q := tr_istore (k := 5) (by decide +kernel) (Nat.le_of_ble_eq_true rfl) rfl
theorem r138_188 : am_T d 138 188 [some (.ref a0), l1, l2, l3, l4, l5] st S I J Q = am_T d 138 189 [some (.ref a0), l1, l2, l3, l4, l5] (.ref a0 :: st) S I J Q := tr_aload_n (m := 0) (by decide +kernel) rfl
theorem r138_189 : am_T d 138 189 ls (.ref a0 :: st) S I J Q = (am_is S a0 9 ∧ am_T d 138 192 ls (.int (I a0 11) :: st) S I J Q) := tr_geti (k := 117) (by decide +kernel) (by decide +kernel) (Or.inl (by decide +kernel))
theorem r138_192 : am_T d 138 192 ls st S I J Q = am_T d 138 194 ls (.int (-107) :: st) S I J Q := tr_bipush (m := -107) (by decide +kernel) (by decide)
theorem r138_194 : am_T d 138 194 ls (.int x1 :: .int x0 :: st) S I J Q = if x0 = x1 then am_T d 138 197 ls st S I J Q else am_T d 138 235 ls st S I J Q := tr_icmpne (o := 41) (by decide +kernel) rfl
theorem r138_197 : am_T d 138 197 [some (.ref a0), l1, l2, l3, l4, l5] st S I J Q = am_T d 138 198 [some (.ref a0), l1, l2, l3, l4, l5] (.ref a0 :: st) S I J Q := tr_aload_n (m := 0) (by decide +kernel) rfl
theorem r138_198 : am_T d 138 198 ls (.ref a0 :: st) S I J Q = ((am_is S a0 9 ∧ am_rf S a0 12 ≠ 0) ∧ am_T d 138 201 ls (.ref (am_rf S a0 12) :: st) S I J Q) := tr_geta (k := 22) (by decide +kernel) (by decide +kernel) (by decide +kernel)
theorem r138_201 : am_T d 138 201 ls st S I J Q = am_T d 138 202 ls (.int 2 :: st) S I J Q := tr_iconst (m := 2) (by decide +kernel) (by decide)
theorem r138_202 : am_T d 138 202 ls st S I J Q = am_T d 138 203 ls (.int 3 :: st) S I J Q := tr_iconst (m := 3) (by decide +kernel) (by decide)
theorem r138_203 : am_T d 138 203 [l0, l1, some (.int x0), l3, l4, l5] st S I J Q = am_T d 138 204 [l0, l1, some (.int x0), l3, l4, l5] (.int x0 :: st) S I J Q := tr_iload_n (m := 2) (by decide +kernel) rfl
theorem r138_204 : am_T d 138 204 ls (.int x1 :: .int x0 :: st) S I J Q = am_T d 138 205 ls (.int (x0 * x1) :: st) S I J Q := tr_imul (by decide +kernel)
theorem r138_205 : am_T d 138 205 ls (.int x1 :: .int x0 :: st) S I J Q = am_T d 138 206 ls (.int (x0 + x1) :: st) S I J Q := tr_iadd (by decide +kernel)
theorem r138_206 : am_T d 138 206 [l0, l1, l2, some (.int x0), l4, l5] st S I J Q = am_T d 138 207 [l0, l1, l2, some (.int x0), l4, l5] (.int x0 :: st) S I J Q := tr_iload_n (m := 3) (by decide +kernel) rfl
theorem r138_207 : am_T d 138 207 ls (.int x1 :: .int x0 :: .ref a0 :: st) S I J Q = (am_ixw S a0 20 x0 ∧ am_T d 138 208 ls st S (am_up I a0 x0.toNatClampNeg x1) J Q) := tr_iast (by decide +kernel)
theorem r138_208 : am_T d 138 208 [some (.ref a0), l1, l2, l3, l4, l5] st S I J Q = am_T d 138 209 [some (.ref a0), l1, l2, l3, l4, l5] (.ref a0 :: st) S I J Q := tr_aload_n (m := 0) (by decide +kernel) rfl
theorem r138_209 : am_T d 138 209 ls (.ref a0 :: st) S I J Q = ((am_is S a0 9 ∧ am_rf S a0 12 ≠ 0) ∧ am_T d 138 212 ls (.ref (am_rf S a0 12) :: st) S I J Q) := tr_geta (k := 22) (by decide +kernel) (by decide +kernel) (by decide +kernel)
theorem r138_212 : am_T d 138 212 ls st S I J Q = am_T d 138 213 ls (.int 3 :: st) S I J Q := tr_iconst (m := 3) (by decide +kernel) (by decide)
theorem r138_213 : am_T d 138 213 ls st S I J Q = am_T d 138 214 ls (.int 3 :: st) S I J Q := tr_iconst (m := 3) (by decide +kernel) (by decide)
theorem r138_214 : am_T d 138 214 [l0, l1, some (.int x0), l3, l4, l5] st S I J Q = am_T d 138 215 [l0, l1, some (.int x0), l3, l4, l5] (.int x0 :: st) S I J Q := tr_iload_n (m := 2) (by decide +kernel) rfl
theorem r138_215 : am_T d 138 215 ls (.int x1 :: .int x0 :: st) S I J Q = am_T d 138 216 ls (.int (x0 * x1) :: st) S I J Q := tr_imul (by decide +kernel)
theorem r138_216 : am_T d 138 216 ls (.int x1 :: .int x0 :: st) S I J Q = am_T d 138 217 ls (.int (x0 + x1) :: st) S I J Q := tr_iadd (by decide +kernel)
theorem r138_217 : am_T d 138 217 [l0, l1, l2, l3, some (.int x0), l5] st S I J Q = am_T d 138 219 [l0, l1, l2, l3, some (.int x0), l5] (.int x0 :: st) S I J Q := tr_iload (k := 4) (by decide +kernel) rfl
theorem r138_219 : am_T d 138 219 ls (.int x1 :: .int x0 :: .ref a0 :: st) S I J Q = (am_ixw S a0 20 x0 ∧ am_T d 138 220 ls st S (am_up I a0 x0.toNatClampNeg x1) J Q) := tr_iast (by decide +kernel)
theorem r138_220 : am_T d 138 220 [some (.ref a0), l1, l2, l3, l4, l5] st S I J Q = am_T d 138 221 [some (.ref a0), l1, l2, l3, l4, l5] (.ref a0 :: st) S I J Q := tr_aload_n (m := 0) (by decide +kernel) rfl
theorem r138_221 : am_T d 138 221 ls (.ref a0 :: st) S I J Q = ((am_is S a0 9 ∧ am_rf S a0 12 ≠ 0) ∧ am_T d 138 224 ls (.ref (am_rf S a0 12) :: st) S I J Q) := tr_geta (k := 22) (by decide +kernel) (by decide +kernel) (by decide +kernel)
theorem r138_224 : am_T d 138 224 ls st S I J Q = am_T d 138 225 ls (.int 4 :: st) S I J Q := tr_iconst (m := 4) (by decide +kernel) (by decide)
theorem r138_225 : am_T d 138 225 ls st S I J Q = am_T d 138 226 ls (.int 3 :: st) S I J Q := tr_iconst (m := 3) (by decide +kernel) (by decide)
theorem r138_226 : am_T d 138 226 [l0, l1, some (.int x0), l3, l4, l5] st S I J Q = am_T d 138 227 [l0, l1, some (.int x0), l3, l4, l5] (.int x0 :: st) S I J Q := tr_iload_n (m := 2) (by decide +kernel) rfl
theorem r138_227 : am_T d 138 227 ls (.int x1 :: .int x0 :: st) S I J Q = am_T d 138 228 ls (.int (x0 * x1) :: st) S I J Q := tr_imul (by decide +kernel)
theorem r138_228 : am_T d 138 228 ls (.int x1 :: .int x0 :: st) S I J Q = am_T d 138 229 ls (.int (x0 + x1) :: st) S I J Q := tr_iadd (by decide +kernel)
theorem r138_229 : am_T d 138 229 [l0, l1, l2, l3, l4, some (.int x0)] st S I J Q = am_T d 138 231 [l0, l1, l2, l3, l4, some (.int x0)] (.int x0 :: st) S I J Q := tr_iload (k := 5) (by decide +kernel) rfl
theorem r138_231 : am_T d 138 231 ls (.int x1 :: .int x0 :: .ref a0 :: st) S I J Q = (am_ixw S a0 20 x0 ∧ am_T d 138 232 ls st S (am_up I a0 x0.toNatClampNeg x1) J Q) := tr_iast (by decide +kernel)
theorem r138_232 : am_T d 138 232 [l0, l1, some (.int x0), l3, l4, l5] st S I J Q = am_T d 138 235 [l0, am_clr l1, some (.int (x0 + 1)), l3, l4, l5] st S I J Q := tr_iinc (k := 2) (m := 1) (by decide +kernel) rfl (Nat.le_of_ble_eq_true rfl) (by decide) rfl
theorem r138_235 : am_T d 138 235 ls st S I J Q = am_T d 138 50 ls st S I J Q := tr_goto (o := -185) (by decide +kernel) rfl
theorem r138_238 : am_T d 138 238 [some (.ref a0), l1, l2, l3, l4, l5] st S I J Q = am_T d 138 239 [some (.ref a0), l1, l2, l3, l4, l5] (.ref a0 :: st) S I J Q := tr_aload_n (m := 0) (by decide +kernel) rfl
theorem r138_239 : am_T d 138 239 ls (.ref a0 :: st) S I J Q = (am_is S a0 9 ∧ am_T d 138 242 ls (.int (I a0 11) :: st) S I J Q) := tr_geti (k := 117) (by decide +kernel) (by decide +kernel) (Or.inl (by decide +kernel))
theorem r138_242 : am_T d 138 242 ls st S I J Q = am_T d 138 244 ls (.int (-107) :: st) S I J Q := tr_bipush (m := -107) (by decide +kernel) (by decide)
theorem r138_244 : am_T d 138 244 ls (.int x1 :: .int x0 :: st) S I J Q = if x0 = x1 then am_T d 138 247 ls st S I J Q else am_T d 138 251 ls st S I J Q := tr_icmpne (o := 7) (by decide +kernel) rfl
theorem r138_247 : am_T d 138 247 [l0, l1, some (.int x0), l3, l4, l5] st S I J Q = am_T d 138 248 [l0, l1, some (.int x0), l3, l4, l5] (.int x0 :: st) S I J Q := tr_iload_n (m := 2) (by decide +kernel) rfl
theorem r138_248 : am_T d 138 248 ls st S I J Q = am_T d 138 252 ls st S I J Q := tr_goto (o := 4) (by decide +kernel) rfl
theorem r138_251 : am_T d 138 251 ls st S I J Q = am_T d 138 252 ls (.int (-1) :: st) S I J Q := tr_iconst (m := -1) (by decide +kernel) (by decide)
theorem r138_252 : am_T d 138 252 ls [.int x0] S I J Q = Q (some (.int x0)) S I J := tr_ireti (by decide +kernel) (by decide +kernel)
-- 139 Mod.fault()I; heads []
theorem e139 : am_C (d + 1) 139 [.ref a0] S I J Q = am_T d 139 0 [some (.ref a0), none] [] S I J Q := tr_en (Nat.le_of_ble_eq_true rfl) rfl
theorem r139_0 : am_T d 139 0 [some (.ref a0), l1] st S I J Q = am_T d 139 1 [some (.ref a0), l1] (.ref a0 :: st) S I J Q := tr_aload_n (m := 0) (by decide +kernel) rfl
theorem r139_1 : am_T d 139 1 ls [.ref a0] S I J Q = (am_is S a0 9 ∧ am_C d 138 [.ref a0] S I J (fun r S I J => am_T d 139 4 ls (am_psh r []) S I J Q)) := tr_virt (k := 128) (by decide +kernel) (by decide +kernel) rfl rfl (Nat.le_of_ble_eq_true rfl) (by decide +kernel)
theorem r139_4 : am_T d 139 4 [l0, l1] (.int x0 :: st) S I J Q = am_T d 139 5 [am_clr l0, some (.int x0)] st S I J Q := tr_istore_n (m := 1) (by decide +kernel) (Nat.le_of_ble_eq_true rfl) rfl
theorem r139_5 : am_T d 139 5 [l0, some (.int x0)] st S I J Q = am_T d 139 6 [l0, some (.int x0)] (.int x0 :: st) S I J Q := tr_iload_n (m := 1) (by decide +kernel) rfl
theorem r139_6 : am_T d 139 6 ls (.int x0 :: st) S I J Q = if 0 ≤ x0 then am_T d 139 16 ls st S I J Q else am_T d 139 9 ls st S I J Q := tr_ifge (o := 10) (by decide +kernel) rfl
theorem r139_9 : am_T d 139 9 [some (.ref a0), l1] st S I J Q = am_T d 139 10 [some (.ref a0), l1] (.ref a0 :: st) S I J Q := tr_aload_n (m := 0) (by decide +kernel) rfl
theorem r139_10 : am_T d 139 10 ls (.ref a0 :: st) S I J Q = (am_is S a0 9 ∧ am_T d 139 13 ls (.int (I a0 11) :: st) S I J Q) := tr_geti (k := 117) (by decide +kernel) (by decide +kernel) (Or.inl (by decide +kernel))
theorem r139_13 : am_T d 139 13 ls st S I J Q = am_T d 139 18 ls st S I J Q := tr_goto (o := 5) (by decide +kernel) rfl
theorem r139_16 : am_T d 139 16 ls st S I J Q = am_T d 139 18 ls (.int (-107) :: st) S I J Q := tr_bipush (m := -107) (by decide +kernel) (by decide)
theorem r139_18 : am_T d 139 18 ls [.int x0] S I J Q = Q (some (.int x0)) S I J := tr_ireti (by decide +kernel) (by decide +kernel)
-- 140 Mod.load()I; heads [34]
theorem e140 : am_C (d + 1) 140 [.ref a0] S I J Q = am_T d 140 0 [some (.ref a0), none, none] [] S I J Q := tr_en (Nat.le_of_ble_eq_true rfl) rfl
theorem r140_0 : am_T d 140 0 [some (.ref a0), l1, l2] st S I J Q = am_T d 140 1 [some (.ref a0), l1, l2] (.ref a0 :: st) S I J Q := tr_aload_n (m := 0) (by decide +kernel) rfl
theorem r140_1 : am_T d 140 1 ls [.ref a0] S I J Q = (am_is S a0 9 ∧ am_C d 138 [.ref a0] S I J (fun r S I J => am_T d 140 4 ls (am_psh r []) S I J Q)) := tr_virt (k := 128) (by decide +kernel) (by decide +kernel) rfl rfl (Nat.le_of_ble_eq_true rfl) (by decide +kernel)
theorem r140_4 : am_T d 140 4 [l0, l1, l2] (.int x0 :: st) S I J Q = am_T d 140 5 [am_clr l0, some (.int x0), l2] st S I J Q := tr_istore_n (m := 1) (by decide +kernel) (Nat.le_of_ble_eq_true rfl) rfl
theorem r140_5 : am_T d 140 5 [l0, some (.int x0), l2] st S I J Q = am_T d 140 6 [l0, some (.int x0), l2] (.int x0 :: st) S I J Q := tr_iload_n (m := 1) (by decide +kernel) rfl
theorem r140_6 : am_T d 140 6 ls (.int x0 :: st) S I J Q = if 0 ≤ x0 then am_T d 140 12 ls st S I J Q else am_T d 140 9 ls st S I J Q := tr_ifge (o := 6) (by decide +kernel) rfl
theorem r140_9 : am_T d 140 9 ls st S I J Q = am_T d 140 11 ls (.int (-105) :: st) S I J Q := tr_bipush (m := -105) (by decide +kernel) (by decide)
theorem r140_11 : am_T d 140 11 ls [.int x0] S I J Q = Q (some (.int x0)) S I J := tr_ireti (by decide +kernel) (by decide +kernel)
theorem r140_12 : am_T d 140 12 [some (.ref a0), l1, l2] st S I J Q = am_T d 140 13 [some (.ref a0), l1, l2] (.ref a0 :: st) S I J Q := tr_aload_n (m := 0) (by decide +kernel) rfl
theorem r140_13 : am_T d 140 13 ls [.ref a0] S I J Q = (am_is S a0 9 ∧ am_C d 116 [.ref a0] S I J (fun r S I J => am_T d 140 16 ls (am_psh r []) S I J Q)) := tr_virt (k := 71) (by decide +kernel) (by decide +kernel) rfl rfl (Nat.le_of_ble_eq_true rfl) (by decide +kernel)
theorem r140_16 : am_T d 140 16 [some (.ref a0), l1, l2] st S I J Q = am_T d 140 17 [some (.ref a0), l1, l2] (.ref a0 :: st) S I J Q := tr_aload_n (m := 0) (by decide +kernel) rfl
theorem r140_17 : am_T d 140 17 [some (.ref a0), l1, l2] st S I J Q = am_T d 140 18 [some (.ref a0), l1, l2] (.ref a0 :: st) S I J Q := tr_aload_n (m := 0) (by decide +kernel) rfl
theorem r140_18 : am_T d 140 18 ls (.ref a0 :: st) S I J Q = ((am_is S a0 9 ∧ am_rf S a0 12 ≠ 0) ∧ am_T d 140 21 ls (.ref (am_rf S a0 12) :: st) S I J Q) := tr_geta (k := 22) (by decide +kernel) (by decide +kernel) (by decide +kernel)
theorem r140_21 : am_T d 140 21 ls st S I J Q = am_T d 140 22 ls (.int 0 :: st) S I J Q := tr_iconst (m := 0) (by decide +kernel) (by decide)
theorem r140_22 : am_T d 140 22 ls (.int x0 :: .ref a0 :: st) S I J Q = (am_ix S a0 20 x0 ∧ am_T d 140 23 ls (.int (I a0 x0.toNatClampNeg) :: st) S I J Q) := tr_iald (by decide +kernel)
theorem r140_23 : am_T d 140 23 [some (.ref a0), l1, l2] st S I J Q = am_T d 140 24 [some (.ref a0), l1, l2] (.ref a0 :: st) S I J Q := tr_aload_n (m := 0) (by decide +kernel) rfl
theorem r140_24 : am_T d 140 24 ls (.ref a0 :: st) S I J Q = ((am_is S a0 9 ∧ am_rf S a0 12 ≠ 0) ∧ am_T d 140 27 ls (.ref (am_rf S a0 12) :: st) S I J Q) := tr_geta (k := 22) (by decide +kernel) (by decide +kernel) (by decide +kernel)
theorem r140_27 : am_T d 140 27 ls st S I J Q = am_T d 140 28 ls (.int 1 :: st) S I J Q := tr_iconst (m := 1) (by decide +kernel) (by decide)
theorem r140_28 : am_T d 140 28 ls (.int x0 :: .ref a0 :: st) S I J Q = (am_ix S a0 20 x0 ∧ am_T d 140 29 ls (.int (I a0 x0.toNatClampNeg) :: st) S I J Q) := tr_iald (by decide +kernel)
theorem r140_29 : am_T d 140 29 ls [.int x2, .int x1, .ref a0] S I J Q = (am_is S a0 9 ∧ am_C d 115 [.ref a0, .int x1, .int x2] S I J (fun r S I J => am_T d 140 32 ls (am_psh r []) S I J Q)) := tr_virt (k := 56) (by decide +kernel) (by decide +kernel) rfl rfl (Nat.le_of_ble_eq_true rfl) (by decide +kernel)
theorem r140_32 : am_T d 140 32 ls st S I J Q = am_T d 140 33 ls (.int 0 :: st) S I J Q := tr_iconst (m := 0) (by decide +kernel) (by decide)
theorem r140_33 : am_T d 140 33 [l0, l1, l2] (.int x0 :: st) S I J Q = am_T d 140 34 [l0, am_clr l1, some (.int x0)] st S I J Q := tr_istore_n (m := 2) (by decide +kernel) (Nat.le_of_ble_eq_true rfl) rfl
theorem r140_34 : am_T d 140 34 [l0, l1, some (.int x0)] st S I J Q = am_T d 140 35 [l0, l1, some (.int x0)] (.int x0 :: st) S I J Q := tr_iload_n (m := 2) (by decide +kernel) rfl
theorem r140_35 : am_T d 140 35 [l0, some (.int x0), l2] st S I J Q = am_T d 140 36 [l0, some (.int x0), l2] (.int x0 :: st) S I J Q := tr_iload_n (m := 1) (by decide +kernel) rfl
theorem r140_36 : am_T d 140 36 ls (.int x1 :: .int x0 :: st) S I J Q = if x1 ≤ x0 then am_T d 140 79 ls st S I J Q else am_T d 140 39 ls st S I J Q := tr_icmpge (o := 43) (by decide +kernel) rfl
theorem r140_39 : am_T d 140 39 [some (.ref a0), l1, l2] st S I J Q = am_T d 140 40 [some (.ref a0), l1, l2] (.ref a0 :: st) S I J Q := tr_aload_n (m := 0) (by decide +kernel) rfl
theorem r140_40 : am_T d 140 40 [some (.ref a0), l1, l2] st S I J Q = am_T d 140 41 [some (.ref a0), l1, l2] (.ref a0 :: st) S I J Q := tr_aload_n (m := 0) (by decide +kernel) rfl
theorem r140_41 : am_T d 140 41 ls (.ref a0 :: st) S I J Q = ((am_is S a0 9 ∧ am_rf S a0 12 ≠ 0) ∧ am_T d 140 44 ls (.ref (am_rf S a0 12) :: st) S I J Q) := tr_geta (k := 22) (by decide +kernel) (by decide +kernel) (by decide +kernel)
theorem r140_44 : am_T d 140 44 ls st S I J Q = am_T d 140 45 ls (.int 2 :: st) S I J Q := tr_iconst (m := 2) (by decide +kernel) (by decide)
theorem r140_45 : am_T d 140 45 ls st S I J Q = am_T d 140 46 ls (.int 3 :: st) S I J Q := tr_iconst (m := 3) (by decide +kernel) (by decide)
theorem r140_46 : am_T d 140 46 [l0, l1, some (.int x0)] st S I J Q = am_T d 140 47 [l0, l1, some (.int x0)] (.int x0 :: st) S I J Q := tr_iload_n (m := 2) (by decide +kernel) rfl
theorem r140_47 : am_T d 140 47 ls (.int x1 :: .int x0 :: st) S I J Q = am_T d 140 48 ls (.int (x0 * x1) :: st) S I J Q := tr_imul (by decide +kernel)
theorem r140_48 : am_T d 140 48 ls (.int x1 :: .int x0 :: st) S I J Q = am_T d 140 49 ls (.int (x0 + x1) :: st) S I J Q := tr_iadd (by decide +kernel)
theorem r140_49 : am_T d 140 49 ls (.int x0 :: .ref a0 :: st) S I J Q = (am_ix S a0 20 x0 ∧ am_T d 140 50 ls (.int (I a0 x0.toNatClampNeg) :: st) S I J Q) := tr_iald (by decide +kernel)
theorem r140_50 : am_T d 140 50 [some (.ref a0), l1, l2] st S I J Q = am_T d 140 51 [some (.ref a0), l1, l2] (.ref a0 :: st) S I J Q := tr_aload_n (m := 0) (by decide +kernel) rfl
theorem r140_51 : am_T d 140 51 ls (.ref a0 :: st) S I J Q = ((am_is S a0 9 ∧ am_rf S a0 12 ≠ 0) ∧ am_T d 140 54 ls (.ref (am_rf S a0 12) :: st) S I J Q) := tr_geta (k := 22) (by decide +kernel) (by decide +kernel) (by decide +kernel)
theorem r140_54 : am_T d 140 54 ls st S I J Q = am_T d 140 55 ls (.int 3 :: st) S I J Q := tr_iconst (m := 3) (by decide +kernel) (by decide)
theorem r140_55 : am_T d 140 55 ls st S I J Q = am_T d 140 56 ls (.int 3 :: st) S I J Q := tr_iconst (m := 3) (by decide +kernel) (by decide)
theorem r140_56 : am_T d 140 56 [l0, l1, some (.int x0)] st S I J Q = am_T d 140 57 [l0, l1, some (.int x0)] (.int x0 :: st) S I J Q := tr_iload_n (m := 2) (by decide +kernel) rfl
theorem r140_57 : am_T d 140 57 ls (.int x1 :: .int x0 :: st) S I J Q = am_T d 140 58 ls (.int (x0 * x1) :: st) S I J Q := tr_imul (by decide +kernel)
theorem r140_58 : am_T d 140 58 ls (.int x1 :: .int x0 :: st) S I J Q = am_T d 140 59 ls (.int (x0 + x1) :: st) S I J Q := tr_iadd (by decide +kernel)
theorem r140_59 : am_T d 140 59 ls (.int x0 :: .ref a0 :: st) S I J Q = (am_ix S a0 20 x0 ∧ am_T d 140 60 ls (.int (I a0 x0.toNatClampNeg) :: st) S I J Q) := tr_iald (by decide +kernel)
theorem r140_60 : am_T d 140 60 [some (.ref a0), l1, l2] st S I J Q = am_T d 140 61 [some (.ref a0), l1, l2] (.ref a0 :: st) S I J Q := tr_aload_n (m := 0) (by decide +kernel) rfl
theorem r140_61 : am_T d 140 61 ls (.ref a0 :: st) S I J Q = ((am_is S a0 9 ∧ am_rf S a0 12 ≠ 0) ∧ am_T d 140 64 ls (.ref (am_rf S a0 12) :: st) S I J Q) := tr_geta (k := 22) (by decide +kernel) (by decide +kernel) (by decide +kernel)
theorem r140_64 : am_T d 140 64 ls st S I J Q = am_T d 140 65 ls (.int 4 :: st) S I J Q := tr_iconst (m := 4) (by decide +kernel) (by decide)
theorem r140_65 : am_T d 140 65 ls st S I J Q = am_T d 140 66 ls (.int 3 :: st) S I J Q := tr_iconst (m := 3) (by decide +kernel) (by decide)
theorem r140_66 : am_T d 140 66 [l0, l1, some (.int x0)] st S I J Q = am_T d 140 67 [l0, l1, some (.int x0)] (.int x0 :: st) S I J Q := tr_iload_n (m := 2) (by decide +kernel) rfl
theorem r140_67 : am_T d 140 67 ls (.int x1 :: .int x0 :: st) S I J Q = am_T d 140 68 ls (.int (x0 * x1) :: st) S I J Q := tr_imul (by decide +kernel)
theorem r140_68 : am_T d 140 68 ls (.int x1 :: .int x0 :: st) S I J Q = am_T d 140 69 ls (.int (x0 + x1) :: st) S I J Q := tr_iadd (by decide +kernel)
theorem r140_69 : am_T d 140 69 ls (.int x0 :: .ref a0 :: st) S I J Q = (am_ix S a0 20 x0 ∧ am_T d 140 70 ls (.int (I a0 x0.toNatClampNeg) :: st) S I J Q) := tr_iald (by decide +kernel)
theorem r140_70 : am_T d 140 70 ls [.int x3, .int x2, .int x1, .ref a0] S I J Q = (am_is S a0 9 ∧ am_C d 119 [.ref a0, .int x1, .int x2, .int x3] S I J (fun r S I J => am_T d 140 73 ls (am_psh r []) S I J Q)) := tr_virt (k := 78) (by decide +kernel) (by decide +kernel) rfl rfl (Nat.le_of_ble_eq_true rfl) (by decide +kernel)
theorem r140_73 : am_T d 140 73 [l0, l1, some (.int x0)] st S I J Q = am_T d 140 76 [l0, am_clr l1, some (.int (x0 + 1))] st S I J Q := tr_iinc (k := 2) (m := 1) (by decide +kernel) rfl (Nat.le_of_ble_eq_true rfl) (by decide) rfl
theorem r140_76 : am_T d 140 76 ls st S I J Q = am_T d 140 34 ls st S I J Q := tr_goto (o := -42) (by decide +kernel) rfl
theorem r140_79 : am_T d 140 79 [l0, some (.int x0), l2] st S I J Q = am_T d 140 80 [l0, some (.int x0), l2] (.int x0 :: st) S I J Q := tr_iload_n (m := 1) (by decide +kernel) rfl
theorem r140_80 : am_T d 140 80 ls [.int x0] S I J Q = Q (some (.int x0)) S I J := tr_ireti (by decide +kernel) (by decide +kernel)
-- 141 Mod.isEntered(III)Z; heads []
theorem e141 : am_C (d + 1) 141 [.int x0, .int x1, .int x2] S I J Q = am_T d 141 0 [some (.int x0), some (.int x1), some (.int x2)] [] S I J Q := tr_en (Nat.le_of_ble_eq_true rfl) rfl
theorem r141_0 : am_T d 141 0 [some (.int x0), l1, l2] st S I J Q = am_T d 141 1 [some (.int x0), l1, l2] (.int x0 :: st) S I J Q := tr_iload_n (m := 0) (by decide +kernel) rfl
theorem r141_1 : am_T d 141 1 [l0, l1, some (.int x0)] st S I J Q = am_T d 141 2 [l0, l1, some (.int x0)] (.int x0 :: st) S I J Q := tr_iload_n (m := 2) (by decide +kernel) rfl
theorem r141_2 : am_T d 141 2 ls (.int x1 :: .int x0 :: st) S I J Q = am_T d 141 3 ls (.int (x0 >>> (x1 &&& 31)) :: st) S I J Q := tr_ishr (by decide +kernel)
theorem r141_3 : am_T d 141 3 ls st S I J Q = am_T d 141 4 ls (.int 1 :: st) S I J Q := tr_iconst (m := 1) (by decide +kernel) (by decide)
theorem r141_4 : am_T d 141 4 ls (.int x1 :: .int x0 :: st) S I J Q = am_T d 141 5 ls (.int (x0 &&& x1) :: st) S I J Q := tr_iand (by decide +kernel)
theorem r141_5 : am_T d 141 5 ls st S I J Q = am_T d 141 6 ls (.int 1 :: st) S I J Q := tr_iconst (m := 1) (by decide +kernel) (by decide)
theorem r141_6 : am_T d 141 6 ls (.int x1 :: .int x0 :: st) S I J Q = if x0 = x1 then am_T d 141 9 ls st S I J Q else am_T d 141 21 ls st S I J Q := tr_icmpne (o := 15) (by decide +kernel) rfl
theorem r141_9 : am_T d 141 9 [some (.int x0), l1, l2] st S I J Q = am_T d 141 10 [some (.int x0), l1, l2] (.int x0 :: st) S I J Q := tr_iload_n (m := 0) (by decide +kernel) rfl
theorem r141_10 : am_T d 141 10 [l0, some (.int x0), l2] st S I J Q = am_T d 141 11 [l0, some (.int x0), l2] (.int x0 :: st) S I J Q := tr_iload_n (m := 1) (by decide +kernel) rfl
theorem r141_11 : am_T d 141 11 ls (.int x1 :: .int x0 :: st) S I J Q = am_T d 141 12 ls (.int (x0 >>> (x1 &&& 31)) :: st) S I J Q := tr_ishr (by decide +kernel)
theorem r141_12 : am_T d 141 12 ls st S I J Q = am_T d 141 13 ls (.int 1 :: st) S I J Q := tr_iconst (m := 1) (by decide +kernel) (by decide)
theorem r141_13 : am_T d 141 13 ls (.int x1 :: .int x0 :: st) S I J Q = am_T d 141 14 ls (.int (x0 &&& x1) :: st) S I J Q := tr_iand (by decide +kernel)
theorem r141_14 : am_T d 141 14 ls (.int x0 :: st) S I J Q = if x0 = 0 then am_T d 141 17 ls st S I J Q else am_T d 141 21 ls st S I J Q := tr_ifne (o := 7) (by decide +kernel) rfl
theorem r141_17 : am_T d 141 17 ls st S I J Q = am_T d 141 18 ls (.int 1 :: st) S I J Q := tr_iconst (m := 1) (by decide +kernel) (by decide)
theorem r141_18 : am_T d 141 18 ls st S I J Q = am_T d 141 22 ls st S I J Q := tr_goto (o := 4) (by decide +kernel) rfl
theorem r141_21 : am_T d 141 21 ls st S I J Q = am_T d 141 22 ls (.int 0 :: st) S I J Q := tr_iconst (m := 0) (by decide +kernel) (by decide)
theorem r141_22 : am_T d 141 22 ls [.int x0] S I J Q = ((x0 = 0 ∨ x0 = 1) ∧ Q (some (.int x0)) S I J) := tr_iretz (by decide +kernel) (by decide +kernel)
-- 142 Mod.lowered(I)I; heads [9]
theorem e142 : am_C (d + 1) 142 [.ref a0, .int x1] S I J Q = am_T d 142 0 [some (.ref a0), some (.int x1), none, none] [] S I J Q := tr_en (Nat.le_of_ble_eq_true rfl) rfl
theorem r142_0 : am_T d 142 0 [some (.ref a0), l1, l2, l3] st S I J Q = am_T d 142 1 [some (.ref a0), l1, l2, l3] (.ref a0 :: st) S I J Q := tr_aload_n (m := 0) (by decide +kernel) rfl
theorem r142_1 : am_T d 142 1 ls (.ref a0 :: st) S I J Q = ((am_is S a0 9 ∧ am_rf S a0 13 ≠ 0) ∧ am_T d 142 4 ls (.ref (am_rf S a0 13) :: st) S I J Q) := tr_geta (k := 25) (by decide +kernel) (by decide +kernel) (by decide +kernel)
theorem r142_4 : am_T d 142 4 [l0, some (.int x0), l2, l3] st S I J Q = am_T d 142 5 [l0, some (.int x0), l2, l3] (.int x0 :: st) S I J Q := tr_iload_n (m := 1) (by decide +kernel) rfl
theorem r142_5 : am_T d 142 5 ls (.int x0 :: .ref a0 :: st) S I J Q = (am_ix S a0 20 x0 ∧ am_T d 142 6 ls (.int (I a0 x0.toNatClampNeg) :: st) S I J Q) := tr_iald (by decide +kernel)
theorem r142_6 : am_T d 142 6 [l0, l1, l2, l3] (.int x0 :: st) S I J Q = am_T d 142 7 [l0, am_clr l1, some (.int x0), l3] st S I J Q := tr_istore_n (m := 2) (by decide +kernel) (Nat.le_of_ble_eq_true rfl) rfl
theorem r142_7 : am_T d 142 7 ls st S I J Q = am_T d 142 8 ls (.int 0 :: st) S I J Q := tr_iconst (m := 0) (by decide +kernel) (by decide)
theorem r142_8 : am_T d 142 8 [l0, l1, l2, l3] (.int x0 :: st) S I J Q = am_T d 142 9 [l0, l1, am_clr l2, some (.int x0)] st S I J Q := tr_istore_n (m := 3) (by decide +kernel) (Nat.le_of_ble_eq_true rfl) rfl
theorem r142_9 : am_T d 142 9 [l0, l1, l2, some (.int x0)] st S I J Q = am_T d 142 10 [l0, l1, l2, some (.int x0)] (.int x0 :: st) S I J Q := tr_iload_n (m := 3) (by decide +kernel) rfl
theorem r142_10 : am_T d 142 10 [some (.ref a0), l1, l2, l3] st S I J Q = am_T d 142 11 [some (.ref a0), l1, l2, l3] (.ref a0 :: st) S I J Q := tr_aload_n (m := 0) (by decide +kernel) rfl
theorem r142_11 : am_T d 142 11 ls (.ref a0 :: st) S I J Q = (am_is S a0 9 ∧ am_T d 142 14 ls (.int (I a0 20) :: st) S I J Q) := tr_geti (k := 132) (by decide +kernel) (by decide +kernel) (Or.inl (by decide +kernel))
theorem r142_14 : am_T d 142 14 ls (.int x1 :: .int x0 :: st) S I J Q = if x1 ≤ x0 then am_T d 142 65 ls st S I J Q else am_T d 142 17 ls st S I J Q := tr_icmpge (o := 51) (by decide +kernel) rfl
theorem r142_17 : am_T d 142 17 [l0, l1, some (.int x0), l3] st S I J Q = am_T d 142 18 [l0, l1, some (.int x0), l3] (.int x0 :: st) S I J Q := tr_iload_n (m := 2) (by decide +kernel) rfl
theorem r142_18 : am_T d 142 18 [some (.ref a0), l1, l2, l3] st S I J Q = am_T d 142 19 [some (.ref a0), l1, l2, l3] (.ref a0 :: st) S I J Q := tr_aload_n (m := 0) (by decide +kernel) rfl
theorem r142_19 : am_T d 142 19 ls (.ref a0 :: st) S I J Q = ((am_is S a0 9 ∧ am_rf S a0 15 ≠ 0) ∧ am_T d 142 22 ls (.ref (am_rf S a0 15) :: st) S I J Q) := tr_geta (k := 32) (by decide +kernel) (by decide +kernel) (by decide +kernel)
theorem r142_22 : am_T d 142 22 [l0, l1, l2, some (.int x0)] st S I J Q = am_T d 142 23 [l0, l1, l2, some (.int x0)] (.int x0 :: st) S I J Q := tr_iload_n (m := 3) (by decide +kernel) rfl
theorem r142_23 : am_T d 142 23 ls (.int x0 :: .ref a0 :: st) S I J Q = (am_ix S a0 20 x0 ∧ am_T d 142 24 ls (.int (I a0 x0.toNatClampNeg) :: st) S I J Q) := tr_iald (by decide +kernel)
theorem r142_24 : am_T d 142 24 [some (.ref a0), l1, l2, l3] st S I J Q = am_T d 142 25 [some (.ref a0), l1, l2, l3] (.ref a0 :: st) S I J Q := tr_aload_n (m := 0) (by decide +kernel) rfl
theorem r142_25 : am_T d 142 25 ls (.ref a0 :: st) S I J Q = ((am_is S a0 9 ∧ am_rf S a0 0 ≠ 0) ∧ am_T d 142 28 ls (.ref (am_rf S a0 0) :: st) S I J Q) := tr_geta (k := 7) (by decide +kernel) (by decide +kernel) (by decide +kernel)
theorem r142_28 : am_T d 142 28 ls st S I J Q = am_T d 142 29 ls (.int 3 :: st) S I J Q := tr_iconst (m := 3) (by decide +kernel) (by decide)
theorem r142_29 : am_T d 142 29 [l0, some (.int x0), l2, l3] st S I J Q = am_T d 142 30 [l0, some (.int x0), l2, l3] (.int x0 :: st) S I J Q := tr_iload_n (m := 1) (by decide +kernel) rfl
theorem r142_30 : am_T d 142 30 ls (.int x1 :: .int x0 :: st) S I J Q = am_T d 142 31 ls (.int (x0 + x1) :: st) S I J Q := tr_iadd (by decide +kernel)
theorem r142_31 : am_T d 142 31 ls (.int x0 :: .ref a0 :: st) S I J Q = (am_ix S a0 20 x0 ∧ am_T d 142 32 ls (.int (I a0 x0.toNatClampNeg) :: st) S I J Q) := tr_iald (by decide +kernel)
theorem r142_32 : am_T d 142 32 [some (.ref a0), l1, l2, l3] st S I J Q = am_T d 142 33 [some (.ref a0), l1, l2, l3] (.ref a0 :: st) S I J Q := tr_aload_n (m := 0) (by decide +kernel) rfl
theorem r142_33 : am_T d 142 33 ls (.ref a0 :: st) S I J Q = ((am_is S a0 9 ∧ am_rf S a0 0 ≠ 0) ∧ am_T d 142 36 ls (.ref (am_rf S a0 0) :: st) S I J Q) := tr_geta (k := 7) (by decide +kernel) (by decide +kernel) (by decide +kernel)
theorem r142_36 : am_T d 142 36 ls st S I J Q = am_T d 142 38 ls (.int 35 :: st) S I J Q := tr_bipush (m := 35) (by decide +kernel) (by decide)
theorem r142_38 : am_T d 142 38 [l0, some (.int x0), l2, l3] st S I J Q = am_T d 142 39 [l0, some (.int x0), l2, l3] (.int x0 :: st) S I J Q := tr_iload_n (m := 1) (by decide +kernel) rfl
theorem r142_39 : am_T d 142 39 ls (.int x1 :: .int x0 :: st) S I J Q = am_T d 142 40 ls (.int (x0 + x1) :: st) S I J Q := tr_iadd (by decide +kernel)
theorem r142_40 : am_T d 142 40 ls (.int x0 :: .ref a0 :: st) S I J Q = (am_ix S a0 20 x0 ∧ am_T d 142 41 ls (.int (I a0 x0.toNatClampNeg) :: st) S I J Q) := tr_iald (by decide +kernel)
theorem r142_41 : am_T d 142 41 ls [.int x2, .int x1, .int x0, .int x10] S I J Q = am_C d 141 [.int x0, .int x1, .int x2] S I J (fun r S I J => am_T d 142 44 ls (am_psh r [.int x10]) S I J Q) := tr_stat (k := 135) (by decide +kernel) (Or.inl (by decide +kernel)) (Nat.le_of_ble_eq_true rfl) rfl rfl (Nat.le_of_ble_eq_true rfl)
theorem r142_44 : am_T d 142 44 ls (.int x0 :: st) S I J Q = if x0 = 0 then am_T d 142 56 ls st S I J Q else am_T d 142 47 ls st S I J Q := tr_ifeq (o := 12) (by decide +kernel) rfl
theorem r142_47 : am_T d 142 47 [some (.ref a0), l1, l2, l3] st S I J Q = am_T d 142 48 [some (.ref a0), l1, l2, l3] (.ref a0 :: st) S I J Q := tr_aload_n (m := 0) (by decide +kernel) rfl
theorem r142_48 : am_T d 142 48 ls (.ref a0 :: st) S I J Q = ((am_is S a0 9 ∧ am_rf S a0 16 ≠ 0) ∧ am_T d 142 51 ls (.ref (am_rf S a0 16) :: st) S I J Q) := tr_geta (k := 35) (by decide +kernel) (by decide +kernel) (by decide +kernel)
theorem r142_51 : am_T d 142 51 [l0, l1, l2, some (.int x0)] st S I J Q = am_T d 142 52 [l0, l1, l2, some (.int x0)] (.int x0 :: st) S I J Q := tr_iload_n (m := 3) (by decide +kernel) rfl
theorem r142_52 : am_T d 142 52 ls (.int x0 :: .ref a0 :: st) S I J Q = (am_ix S a0 20 x0 ∧ am_T d 142 53 ls (.int (I a0 x0.toNatClampNeg) :: st) S I J Q) := tr_iald (by decide +kernel)
theorem r142_53 : am_T d 142 53 ls st S I J Q = am_T d 142 57 ls st S I J Q := tr_goto (o := 4) (by decide +kernel) rfl
theorem r142_56 : am_T d 142 56 ls st S I J Q = am_T d 142 57 ls (.int 0 :: st) S I J Q := tr_iconst (m := 0) (by decide +kernel) (by decide)
theorem r142_57 : am_T d 142 57 ls (.int x1 :: .int x0 :: st) S I J Q = am_T d 142 58 ls (.int (x0 - x1) :: st) S I J Q := tr_isub (by decide +kernel)
theorem r142_58 : am_T d 142 58 [l0, l1, l2, l3] (.int x0 :: st) S I J Q = am_T d 142 59 [l0, am_clr l1, some (.int x0), l3] st S I J Q := tr_istore_n (m := 2) (by decide +kernel) (Nat.le_of_ble_eq_true rfl) rfl
theorem r142_59 : am_T d 142 59 [l0, l1, l2, some (.int x0)] st S I J Q = am_T d 142 62 [l0, l1, am_clr l2, some (.int (x0 + 1))] st S I J Q := tr_iinc (k := 3) (m := 1) (by decide +kernel) rfl (Nat.le_of_ble_eq_true rfl) (by decide) rfl
theorem r142_62 : am_T d 142 62 ls st S I J Q = am_T d 142 9 ls st S I J Q := tr_goto (o := -53) (by decide +kernel) rfl
theorem r142_65 : am_T d 142 65 [l0, l1, some (.int x0), l3] st S I J Q = am_T d 142 66 [l0, l1, some (.int x0), l3] (.int x0 :: st) S I J Q := tr_iload_n (m := 2) (by decide +kernel) rfl
theorem r142_66 : am_T d 142 66 ls [.int x0] S I J Q = Q (some (.int x0)) S I J := tr_ireti (by decide +kernel) (by decide +kernel)
-- 143 Mod.topOf(I)I; heads [2]
theorem e143 : am_C (d + 1) 143 [.ref a0, .int x1] S I J Q = am_T d 143 0 [some (.ref a0), some (.int x1), none] [] S I J Q := tr_en (Nat.le_of_ble_eq_true rfl) rfl
theorem r143_0 : am_T d 143 0 [l0, some (.int x0), l2] st S I J Q = am_T d 143 1 [l0, some (.int x0), l2] (.int x0 :: st) S I J Q := tr_iload_n (m := 1) (by decide +kernel) rfl
theorem r143_1 : am_T d 143 1 [l0, l1, l2] (.int x0 :: st) S I J Q = am_T d 143 2 [l0, am_clr l1, some (.int x0)] st S I J Q := tr_istore_n (m := 2) (by decide +kernel) (Nat.le_of_ble_eq_true rfl) rfl
theorem r143_2 : am_T d 143 2 [some (.ref a0), l1, l2] st S I J Q = am_T d 143 3 [some (.ref a0), l1, l2] (.ref a0 :: st) S I J Q := tr_aload_n (m := 0) (by decide +kernel) rfl
theorem r143_3 : am_T d 143 3 ls (.ref a0 :: st) S I J Q = ((am_is S a0 9 ∧ am_rf S a0 17 ≠ 0) ∧ am_T d 143 6 ls (.ref (am_rf S a0 17) :: st) S I J Q) := tr_geta (k := 38) (by decide +kernel) (by decide +kernel) (by decide +kernel)
theorem r143_6 : am_T d 143 6 [l0, l1, some (.int x0)] st S I J Q = am_T d 143 7 [l0, l1, some (.int x0)] (.int x0 :: st) S I J Q := tr_iload_n (m := 2) (by decide +kernel) rfl
theorem r143_7 : am_T d 143 7 ls (.int x0 :: .ref a0 :: st) S I J Q = (am_ix S a0 20 x0 ∧ am_T d 143 8 ls (.int (I a0 x0.toNatClampNeg) :: st) S I J Q) := tr_iald (by decide +kernel)
theorem r143_8 : am_T d 143 8 ls st S I J Q = am_T d 143 10 ls (.int (-107) :: st) S I J Q := tr_bipush (m := -107) (by decide +kernel) (by decide)
theorem r143_10 : am_T d 143 10 ls (.int x1 :: .int x0 :: st) S I J Q = if x0 = x1 then am_T d 143 23 ls st S I J Q else am_T d 143 13 ls st S I J Q := tr_icmpeq (o := 13) (by decide +kernel) rfl
theorem r143_13 : am_T d 143 13 [some (.ref a0), l1, l2] st S I J Q = am_T d 143 14 [some (.ref a0), l1, l2] (.ref a0 :: st) S I J Q := tr_aload_n (m := 0) (by decide +kernel) rfl
theorem r143_14 : am_T d 143 14 ls (.ref a0 :: st) S I J Q = ((am_is S a0 9 ∧ am_rf S a0 17 ≠ 0) ∧ am_T d 143 17 ls (.ref (am_rf S a0 17) :: st) S I J Q) := tr_geta (k := 38) (by decide +kernel) (by decide +kernel) (by decide +kernel)
theorem r143_17 : am_T d 143 17 [l0, l1, some (.int x0)] st S I J Q = am_T d 143 18 [l0, l1, some (.int x0)] (.int x0 :: st) S I J Q := tr_iload_n (m := 2) (by decide +kernel) rfl
theorem r143_18 : am_T d 143 18 ls (.int x0 :: .ref a0 :: st) S I J Q = (am_ix S a0 20 x0 ∧ am_T d 143 19 ls (.int (I a0 x0.toNatClampNeg) :: st) S I J Q) := tr_iald (by decide +kernel)
theorem r143_19 : am_T d 143 19 [l0, l1, l2] (.int x0 :: st) S I J Q = am_T d 143 20 [l0, am_clr l1, some (.int x0)] st S I J Q := tr_istore_n (m := 2) (by decide +kernel) (Nat.le_of_ble_eq_true rfl) rfl
theorem r143_20 : am_T d 143 20 ls st S I J Q = am_T d 143 2 ls st S I J Q := tr_goto (o := -18) (by decide +kernel) rfl
theorem r143_23 : am_T d 143 23 [l0, l1, some (.int x0)] st S I J Q = am_T d 143 24 [l0, l1, some (.int x0)] (.int x0 :: st) S I J Q := tr_iload_n (m := 2) (by decide +kernel) rfl
theorem r143_24 : am_T d 143 24 ls [.int x0] S I J Q = Q (some (.int x0)) S I J := tr_ireti (by decide +kernel) (by decide +kernel)
-- 144 Mod.newGroup(I)I; heads []
theorem e144 : am_C (d + 1) 144 [.ref a0, .int x1] S I J Q = am_T d 144 0 [some (.ref a0), some (.int x1)] [] S I J Q := tr_en (Nat.le_of_ble_eq_true rfl) rfl
theorem r144_0 : am_T d 144 0 [some (.ref a0), l1] st S I J Q = am_T d 144 1 [some (.ref a0), l1] (.ref a0 :: st) S I J Q := tr_aload_n (m := 0) (by decide +kernel) rfl
theorem r144_1 : am_T d 144 1 ls (.ref a0 :: st) S I J Q = ((am_is S a0 9 ∧ am_rf S a0 15 ≠ 0) ∧ am_T d 144 4 ls (.ref (am_rf S a0 15) :: st) S I J Q) := tr_geta (k := 32) (by decide +kernel) (by decide +kernel) (by decide +kernel)
theorem r144_4 : am_T d 144 4 [some (.ref a0), l1] st S I J Q = am_T d 144 5 [some (.ref a0), l1] (.ref a0 :: st) S I J Q := tr_aload_n (m := 0) (by decide +kernel) rfl
theorem r144_5 : am_T d 144 5 ls (.ref a0 :: st) S I J Q = (am_is S a0 9 ∧ am_T d 144 8 ls (.int (I a0 20) :: st) S I J Q) := tr_geti (k := 132) (by decide +kernel) (by decide +kernel) (Or.inl (by decide +kernel))
theorem r144_8 : am_T d 144 8 [l0, some (.int x0)] st S I J Q = am_T d 144 9 [l0, some (.int x0)] (.int x0 :: st) S I J Q := tr_iload_n (m := 1) (by decide +kernel) rfl
theorem r144_9 : am_T d 144 9 ls (.int x1 :: .int x0 :: .ref a0 :: st) S I J Q = (am_ixw S a0 20 x0 ∧ am_T d 144 10 ls st S (am_up I a0 x0.toNatClampNeg x1) J Q) := tr_iast (by decide +kernel)
theorem r144_10 : am_T d 144 10 [some (.ref a0), l1] st S I J Q = am_T d 144 11 [some (.ref a0), l1] (.ref a0 :: st) S I J Q := tr_aload_n (m := 0) (by decide +kernel) rfl
theorem r144_11 : am_T d 144 11 ls (.ref a0 :: st) S I J Q = ((am_is S a0 9 ∧ am_rf S a0 16 ≠ 0) ∧ am_T d 144 14 ls (.ref (am_rf S a0 16) :: st) S I J Q) := tr_geta (k := 35) (by decide +kernel) (by decide +kernel) (by decide +kernel)
theorem r144_14 : am_T d 144 14 [some (.ref a0), l1] st S I J Q = am_T d 144 15 [some (.ref a0), l1] (.ref a0 :: st) S I J Q := tr_aload_n (m := 0) (by decide +kernel) rfl
theorem r144_15 : am_T d 144 15 ls (.ref a0 :: st) S I J Q = (am_is S a0 9 ∧ am_T d 144 18 ls (.int (I a0 20) :: st) S I J Q) := tr_geti (k := 132) (by decide +kernel) (by decide +kernel) (Or.inl (by decide +kernel))
theorem r144_18 : am_T d 144 18 ls st S I J Q = am_T d 144 19 ls (.int 0 :: st) S I J Q := tr_iconst (m := 0) (by decide +kernel) (by decide)
theorem r144_19 : am_T d 144 19 ls (.int x1 :: .int x0 :: .ref a0 :: st) S I J Q = (am_ixw S a0 20 x0 ∧ am_T d 144 20 ls st S (am_up I a0 x0.toNatClampNeg x1) J Q) := tr_iast (by decide +kernel)
theorem r144_20 : am_T d 144 20 [some (.ref a0), l1] st S I J Q = am_T d 144 21 [some (.ref a0), l1] (.ref a0 :: st) S I J Q := tr_aload_n (m := 0) (by decide +kernel) rfl
theorem r144_21 : am_T d 144 21 ls (.ref a0 :: st) S I J Q = ((am_is S a0 9 ∧ am_rf S a0 17 ≠ 0) ∧ am_T d 144 24 ls (.ref (am_rf S a0 17) :: st) S I J Q) := tr_geta (k := 38) (by decide +kernel) (by decide +kernel) (by decide +kernel)
theorem r144_24 : am_T d 144 24 [some (.ref a0), l1] st S I J Q = am_T d 144 25 [some (.ref a0), l1] (.ref a0 :: st) S I J Q := tr_aload_n (m := 0) (by decide +kernel) rfl
theorem r144_25 : am_T d 144 25 ls (.ref a0 :: st) S I J Q = (am_is S a0 9 ∧ am_T d 144 28 ls (.int (I a0 20) :: st) S I J Q) := tr_geti (k := 132) (by decide +kernel) (by decide +kernel) (Or.inl (by decide +kernel))
theorem r144_28 : am_T d 144 28 ls st S I J Q = am_T d 144 30 ls (.int (-107) :: st) S I J Q := tr_bipush (m := -107) (by decide +kernel) (by decide)
theorem r144_30 : am_T d 144 30 ls (.int x1 :: .int x0 :: .ref a0 :: st) S I J Q = (am_ixw S a0 20 x0 ∧ am_T d 144 31 ls st S (am_up I a0 x0.toNatClampNeg x1) J Q) := tr_iast (by decide +kernel)
theorem r144_31 : am_T d 144 31 [some (.ref a0), l1] st S I J Q = am_T d 144 32 [some (.ref a0), l1] (.ref a0 :: st) S I J Q := tr_aload_n (m := 0) (by decide +kernel) rfl
theorem r144_32 : am_T d 144 32 ls (.ref a0 :: st) S I J Q = ((am_is S a0 9 ∧ am_rf S a0 18 ≠ 0) ∧ am_T d 144 35 ls (.ref (am_rf S a0 18) :: st) S I J Q) := tr_geta (k := 41) (by decide +kernel) (by decide +kernel) (by decide +kernel)
theorem r144_35 : am_T d 144 35 [some (.ref a0), l1] st S I J Q = am_T d 144 36 [some (.ref a0), l1] (.ref a0 :: st) S I J Q := tr_aload_n (m := 0) (by decide +kernel) rfl
theorem r144_36 : am_T d 144 36 ls (.ref a0 :: st) S I J Q = (am_is S a0 9 ∧ am_T d 144 39 ls (.int (I a0 20) :: st) S I J Q) := tr_geti (k := 132) (by decide +kernel) (by decide +kernel) (Or.inl (by decide +kernel))
theorem r144_39 : am_T d 144 39 ls st S I J Q = am_T d 144 41 ls (.int (-107) :: st) S I J Q := tr_bipush (m := -107) (by decide +kernel) (by decide)
theorem r144_41 : am_T d 144 41 ls (.int x1 :: .int x0 :: .ref a0 :: st) S I J Q = (am_ixw S a0 20 x0 ∧ am_T d 144 42 ls st S (am_up I a0 x0.toNatClampNeg x1) J Q) := tr_iast (by decide +kernel)
theorem r144_42 : am_T d 144 42 [some (.ref a0), l1] st S I J Q = am_T d 144 43 [some (.ref a0), l1] (.ref a0 :: st) S I J Q := tr_aload_n (m := 0) (by decide +kernel) rfl
theorem r144_43 : am_T d 144 43 ls (.ref a0 :: st) S I J Q = am_T d 144 44 ls (.ref a0 :: .ref a0 :: st) S I J Q := tr_dupa (by decide +kernel)
theorem r144_44 : am_T d 144 44 ls (.ref a0 :: st) S I J Q = (am_is S a0 9 ∧ am_T d 144 47 ls (.int (I a0 20) :: st) S I J Q) := tr_geti (k := 132) (by decide +kernel) (by decide +kernel) (Or.inl (by decide +kernel))
theorem r144_47 : am_T d 144 47 ls st S I J Q = am_T d 144 48 ls (.int 1 :: st) S I J Q := tr_iconst (m := 1) (by decide +kernel) (by decide)
theorem r144_48 : am_T d 144 48 ls (.int x1 :: .int x0 :: st) S I J Q = am_T d 144 49 ls (.int (x0 + x1) :: st) S I J Q := tr_iadd (by decide +kernel)
theorem r144_49 : am_T d 144 49 ls (.int x0 :: .ref a0 :: st) S I J Q = (am_is S a0 9 ∧ am_T d 144 52 ls st S (am_up I a0 20 x0) J Q) := tr_puti (k := 132) (by decide +kernel) (by decide +kernel) (by decide +kernel) (by decide +kernel)
theorem r144_52 : am_T d 144 52 [some (.ref a0), l1] st S I J Q = am_T d 144 53 [some (.ref a0), l1] (.ref a0 :: st) S I J Q := tr_aload_n (m := 0) (by decide +kernel) rfl
theorem r144_53 : am_T d 144 53 ls (.ref a0 :: st) S I J Q = (am_is S a0 9 ∧ am_T d 144 56 ls (.int (I a0 20) :: st) S I J Q) := tr_geti (k := 132) (by decide +kernel) (by decide +kernel) (Or.inl (by decide +kernel))
theorem r144_56 : am_T d 144 56 ls st S I J Q = am_T d 144 57 ls (.int 1 :: st) S I J Q := tr_iconst (m := 1) (by decide +kernel) (by decide)
theorem r144_57 : am_T d 144 57 ls (.int x1 :: .int x0 :: st) S I J Q = am_T d 144 58 ls (.int (x0 - x1) :: st) S I J Q := tr_isub (by decide +kernel)
theorem r144_58 : am_T d 144 58 ls [.int x0] S I J Q = Q (some (.int x0)) S I J := tr_ireti (by decide +kernel) (by decide +kernel)
-- 145 Mod.nextGroup()I; heads [2]
theorem e145 : am_C (d + 1) 145 [.ref a0] S I J Q = am_T d 145 0 [some (.ref a0), none, none] [] S I J Q := tr_en (Nat.le_of_ble_eq_true rfl) rfl
theorem r145_0 : am_T d 145 0 ls st S I J Q = am_T d 145 1 ls (.int 0 :: st) S I J Q := tr_iconst (m := 0) (by decide +kernel) (by decide)
theorem r145_1 : am_T d 145 1 [l0, l1, l2] (.int x0 :: st) S I J Q = am_T d 145 2 [am_clr l0, some (.int x0), l2] st S I J Q := tr_istore_n (m := 1) (by decide +kernel) (Nat.le_of_ble_eq_true rfl) rfl
theorem r145_2 : am_T d 145 2 [l0, some (.int x0), l2] st S I J Q = am_T d 145 3 [l0, some (.int x0), l2] (.int x0 :: st) S I J Q := tr_iload_n (m := 1) (by decide +kernel) rfl
theorem r145_3 : am_T d 145 3 [some (.ref a0), l1, l2] st S I J Q = am_T d 145 4 [some (.ref a0), l1, l2] (.ref a0 :: st) S I J Q := tr_aload_n (m := 0) (by decide +kernel) rfl
theorem r145_4 : am_T d 145 4 ls (.ref a0 :: st) S I J Q = ((am_is S a0 9 ∧ am_rf S a0 0 ≠ 0) ∧ am_T d 145 7 ls (.ref (am_rf S a0 0) :: st) S I J Q) := tr_geta (k := 7) (by decide +kernel) (by decide +kernel) (by decide +kernel)
theorem r145_7 : am_T d 145 7 ls st S I J Q = am_T d 145 8 ls (.int 0 :: st) S I J Q := tr_iconst (m := 0) (by decide +kernel) (by decide)
theorem r145_8 : am_T d 145 8 ls (.int x0 :: .ref a0 :: st) S I J Q = (am_ix S a0 20 x0 ∧ am_T d 145 9 ls (.int (I a0 x0.toNatClampNeg) :: st) S I J Q) := tr_iald (by decide +kernel)
theorem r145_9 : am_T d 145 9 ls (.int x1 :: .int x0 :: st) S I J Q = if x1 ≤ x0 then am_T d 145 55 ls st S I J Q else am_T d 145 12 ls st S I J Q := tr_icmpge (o := 46) (by decide +kernel) rfl
theorem r145_12 : am_T d 145 12 [some (.ref a0), l1, l2] st S I J Q = am_T d 145 13 [some (.ref a0), l1, l2] (.ref a0 :: st) S I J Q := tr_aload_n (m := 0) (by decide +kernel) rfl
theorem r145_13 : am_T d 145 13 [l0, some (.int x0), l2] st S I J Q = am_T d 145 14 [l0, some (.int x0), l2] (.int x0 :: st) S I J Q := tr_iload_n (m := 1) (by decide +kernel) rfl
theorem r145_14 : am_T d 145 14 ls [.int x1, .ref a0] S I J Q = (am_is S a0 9 ∧ am_C d 143 [.ref a0, .int x1] S I J (fun r S I J => am_T d 145 17 ls (am_psh r []) S I J Q)) := tr_virt (k := 138) (by decide +kernel) (by decide +kernel) rfl rfl (Nat.le_of_ble_eq_true rfl) (by decide +kernel)
theorem r145_17 : am_T d 145 17 [l0, l1, l2] (.int x0 :: st) S I J Q = am_T d 145 18 [l0, am_clr l1, some (.int x0)] st S I J Q := tr_istore_n (m := 2) (by decide +kernel) (Nat.le_of_ble_eq_true rfl) rfl
theorem r145_18 : am_T d 145 18 [some (.ref a0), l1, l2] st S I J Q = am_T d 145 19 [some (.ref a0), l1, l2] (.ref a0 :: st) S I J Q := tr_aload_n (m := 0) (by decide +kernel) rfl
theorem r145_19 : am_T d 145 19 ls (.ref a0 :: st) S I J Q = ((am_is S a0 9 ∧ am_rf S a0 18 ≠ 0) ∧ am_T d 145 22 ls (.ref (am_rf S a0 18) :: st) S I J Q) := tr_geta (k := 41) (by decide +kernel) (by decide +kernel) (by decide +kernel)
theorem r145_22 : am_T d 145 22 [l0, l1, some (.int x0)] st S I J Q = am_T d 145 23 [l0, l1, some (.int x0)] (.int x0 :: st) S I J Q := tr_iload_n (m := 2) (by decide +kernel) rfl
theorem r145_23 : am_T d 145 23 ls (.int x0 :: .ref a0 :: st) S I J Q = (am_ix S a0 20 x0 ∧ am_T d 145 24 ls (.int (I a0 x0.toNatClampNeg) :: st) S I J Q) := tr_iald (by decide +kernel)
theorem r145_24 : am_T d 145 24 ls st S I J Q = am_T d 145 26 ls (.int (-107) :: st) S I J Q := tr_bipush (m := -107) (by decide +kernel) (by decide)
theorem r145_26 : am_T d 145 26 ls (.int x1 :: .int x0 :: st) S I J Q = if x0 = x1 then am_T d 145 29 ls st S I J Q else am_T d 145 49 ls st S I J Q := tr_icmpne (o := 23) (by decide +kernel) rfl
theorem r145_29 : am_T d 145 29 [some (.ref a0), l1, l2] st S I J Q = am_T d 145 30 [some (.ref a0), l1, l2] (.ref a0 :: st) S I J Q := tr_aload_n (m := 0) (by decide +kernel) rfl
theorem r145_30 : am_T d 145 30 ls (.ref a0 :: st) S I J Q = ((am_is S a0 9 ∧ am_rf S a0 15 ≠ 0) ∧ am_T d 145 33 ls (.ref (am_rf S a0 15) :: st) S I J Q) := tr_geta (k := 32) (by decide +kernel) (by decide +kernel) (by decide +kernel)
theorem r145_33 : am_T d 145 33 [l0, l1, some (.int x0)] st S I J Q = am_T d 145 34 [l0, l1, some (.int x0)] (.int x0 :: st) S I J Q := tr_iload_n (m := 2) (by decide +kernel) rfl
theorem r145_34 : am_T d 145 34 ls (.int x0 :: .ref a0 :: st) S I J Q = (am_ix S a0 20 x0 ∧ am_T d 145 35 ls (.int (I a0 x0.toNatClampNeg) :: st) S I J Q) := tr_iald (by decide +kernel)
theorem r145_35 : am_T d 145 35 [some (.ref a0), l1, l2] st S I J Q = am_T d 145 36 [some (.ref a0), l1, l2] (.ref a0 :: st) S I J Q := tr_aload_n (m := 0) (by decide +kernel) rfl
theorem r145_36 : am_T d 145 36 ls (.ref a0 :: st) S I J Q = ((am_is S a0 9 ∧ am_rf S a0 0 ≠ 0) ∧ am_T d 145 39 ls (.ref (am_rf S a0 0) :: st) S I J Q) := tr_geta (k := 7) (by decide +kernel) (by decide +kernel) (by decide +kernel)
theorem r145_39 : am_T d 145 39 ls st S I J Q = am_T d 145 40 ls (.int 1 :: st) S I J Q := tr_iconst (m := 1) (by decide +kernel) (by decide)
theorem r145_40 : am_T d 145 40 ls (.int x0 :: .ref a0 :: st) S I J Q = (am_ix S a0 20 x0 ∧ am_T d 145 41 ls (.int (I a0 x0.toNatClampNeg) :: st) S I J Q) := tr_iald (by decide +kernel)
theorem r145_41 : am_T d 145 41 ls (.int x1 :: .int x0 :: st) S I J Q = am_T d 145 42 ls (.int (x0 >>> (x1 &&& 31)) :: st) S I J Q := tr_ishr (by decide +kernel)
theorem r145_42 : am_T d 145 42 ls st S I J Q = am_T d 145 43 ls (.int 1 :: st) S I J Q := tr_iconst (m := 1) (by decide +kernel) (by decide)
theorem r145_43 : am_T d 145 43 ls (.int x1 :: .int x0 :: st) S I J Q = am_T d 145 44 ls (.int (x0 &&& x1) :: st) S I J Q := tr_iand (by decide +kernel)
theorem r145_44 : am_T d 145 44 ls (.int x0 :: st) S I J Q = if x0 = 0 then am_T d 145 47 ls st S I J Q else am_T d 145 49 ls st S I J Q := tr_ifne (o := 5) (by decide +kernel) rfl
theorem r145_47 : am_T d 145 47 [l0, l1, some (.int x0)] st S I J Q = am_T d 145 48 [l0, l1, some (.int x0)] (.int x0 :: st) S I J Q := tr_iload_n (m := 2) (by decide +kernel) rfl
theorem r145_48 : am_T d 145 48 ls [.int x0] S I J Q = Q (some (.int x0)) S I J := tr_ireti (by decide +kernel) (by decide +kernel)
theorem r145_49 : am_T d 145 49 [l0, some (.int x0), l2] st S I J Q = am_T d 145 52 [am_clr l0, some (.int (x0 + 1)), l2] st S I J Q := tr_iinc (k := 1) (m := 1) (by decide +kernel) rfl (Nat.le_of_ble_eq_true rfl) (by decide) rfl
theorem r145_52 : am_T d 145 52 ls st S I J Q = am_T d 145 2 ls st S I J Q := tr_goto (o := -50) (by decide +kernel) rfl
theorem r145_55 : am_T d 145 55 ls st S I J Q = am_T d 145 57 ls (.int (-107) :: st) S I J Q := tr_bipush (m := -107) (by decide +kernel) (by decide)
theorem r145_57 : am_T d 145 57 ls [.int x0] S I J Q = Q (some (.int x0)) S I J := tr_ireti (by decide +kernel) (by decide +kernel)
-- 146 Mod.selects(I)Z; heads [8]
theorem e146 : am_C (d + 1) 146 [.ref a0, .int x1] S I J Q = am_T d 146 0 [some (.ref a0), some (.int x1), none, none, none, none] [] S I J Q := tr_en (Nat.le_of_ble_eq_true rfl) rfl
theorem r146_0 : am_T d 146 0 ls st S I J Q = am_T d 146 2 ls (.int (-107) :: st) S I J Q := tr_bipush (m := -107) (by decide +kernel) (by decide)
theorem r146_2 : am_T d 146 2 [l0, l1, l2, l3, l4, l5] (.int x0 :: st) S I J Q = am_T d 146 3 [l0, am_clr l1, some (.int x0), l3, l4, l5] st S I J Q := tr_istore_n (m := 2) (by decide +kernel) (Nat.le_of_ble_eq_true rfl) rfl
theorem r146_3 : am_T d 146 3 ls st S I J Q = am_T d 146 4 ls (.int 0 :: st) S I J Q := tr_iconst (m := 0) (by decide +kernel) (by decide)
theorem r146_4 : am_T d 146 4 [l0, l1, l2, l3, l4, l5] (.int x0 :: st) S I J Q = am_T d 146 5 [l0, l1, am_clr l2, some (.int x0), l4, l5] st S I J Q := tr_istore_n (m := 3) (by decide +kernel) (Nat.le_of_ble_eq_true rfl) rfl
theorem r146_5 : am_T d 146 5 ls st S I J Q = am_T d 146 6 ls (.int 0 :: st) S I J Q := tr_iconst (m := 0) (by decide +kernel) (by decide)
theorem r146_6 : am_T d 146 6 [l0, l1, l2, l3, l4, l5] (.int x0 :: st) S I J Q = am_T d 146 8 [l0, l1, l2, am_clr l3, some (.int x0), l5] st S I J Q := tr_istore (k := 4) (by decide +kernel) (Nat.le_of_ble_eq_true rfl) rfl
theorem r146_8 : am_T d 146 8 [l0, l1, l2, l3, some (.int x0), l5] st S I J Q = am_T d 146 10 [l0, l1, l2, l3, some (.int x0), l5] (.int x0 :: st) S I J Q := tr_iload (k := 4) (by decide +kernel) rfl
theorem r146_10 : am_T d 146 10 [some (.ref a0), l1, l2, l3, l4, l5] st S I J Q = am_T d 146 11 [some (.ref a0), l1, l2, l3, l4, l5] (.ref a0 :: st) S I J Q := tr_aload_n (m := 0) (by decide +kernel) rfl
theorem r146_11 : am_T d 146 11 ls (.ref a0 :: st) S I J Q = ((am_is S a0 9 ∧ am_rf S a0 0 ≠ 0) ∧ am_T d 146 14 ls (.ref (am_rf S a0 0) :: st) S I J Q) := tr_geta (k := 7) (by decide +kernel) (by decide +kernel) (by decide +kernel)
theorem r146_14 : am_T d 146 14 ls st S I J Q = am_T d 146 15 ls (.int 2 :: st) S I J Q := tr_iconst (m := 2) (by decide +kernel) (by decide)
theorem r146_15 : am_T d 146 15 ls (.int x0 :: .ref a0 :: st) S I J Q = (am_ix S a0 20 x0 ∧ am_T d 146 16 ls (.int (I a0 x0.toNatClampNeg) :: st) S I J Q) := tr_iald (by decide +kernel)
theorem r146_16 : am_T d 146 16 ls (.int x1 :: .int x0 :: st) S I J Q = if x1 ≤ x0 then am_T d 146 92 ls st S I J Q else am_T d 146 19 ls st S I J Q := tr_icmpge (o := 76) (by decide +kernel) rfl
theorem r146_19 : am_T d 146 19 [some (.ref a0), l1, l2, l3, l4, l5] st S I J Q = am_T d 146 20 [some (.ref a0), l1, l2, l3, l4, l5] (.ref a0 :: st) S I J Q := tr_aload_n (m := 0) (by decide +kernel) rfl
theorem r146_20 : am_T d 146 20 ls (.ref a0 :: st) S I J Q = ((am_is S a0 9 ∧ am_rf S a0 14 ≠ 0) ∧ am_T d 146 23 ls (.ref (am_rf S a0 14) :: st) S I J Q) := tr_geta (k := 28) (by decide +kernel) (by decide +kernel) (by decide +kernel)
theorem r146_23 : am_T d 146 23 [l0, l1, l2, l3, some (.int x0), l5] st S I J Q = am_T d 146 25 [l0, l1, l2, l3, some (.int x0), l5] (.int x0 :: st) S I J Q := tr_iload (k := 4) (by decide +kernel) rfl
theorem r146_25 : am_T d 146 25 ls (.int x0 :: .ref a0 :: st) S I J Q = (am_ix S a0 21 x0 ∧ am_T d 146 26 ls (.int (I a0 x0.toNatClampNeg) :: st) S I J Q) := tr_bald (by decide +kernel)
theorem r146_26 : am_T d 146 26 ls (.int x0 :: st) S I J Q = if x0 = 0 then am_T d 146 86 ls st S I J Q else am_T d 146 29 ls st S I J Q := tr_ifeq (o := 60) (by decide +kernel) rfl
theorem r146_29 : am_T d 146 29 [some (.ref a0), l1, l2, l3, l4, l5] st S I J Q = am_T d 146 30 [some (.ref a0), l1, l2, l3, l4, l5] (.ref a0 :: st) S I J Q := tr_aload_n (m := 0) (by decide +kernel) rfl
theorem r146_30 : am_T d 146 30 ls (.ref a0 :: st) S I J Q = ((am_is S a0 9 ∧ am_rf S a0 15 ≠ 0) ∧ am_T d 146 33 ls (.ref (am_rf S a0 15) :: st) S I J Q) := tr_geta (k := 32) (by decide +kernel) (by decide +kernel) (by decide +kernel)
theorem r146_33 : am_T d 146 33 [l0, some (.int x0), l2, l3, l4, l5] st S I J Q = am_T d 146 34 [l0, some (.int x0), l2, l3, l4, l5] (.int x0 :: st) S I J Q := tr_iload_n (m := 1) (by decide +kernel) rfl
theorem r146_34 : am_T d 146 34 ls (.int x0 :: .ref a0 :: st) S I J Q = (am_ix S a0 20 x0 ∧ am_T d 146 35 ls (.int (I a0 x0.toNatClampNeg) :: st) S I J Q) := tr_iald (by decide +kernel)
theorem r146_35 : am_T d 146 35 [some (.ref a0), l1, l2, l3, l4, l5] st S I J Q = am_T d 146 36 [some (.ref a0), l1, l2, l3, l4, l5] (.ref a0 :: st) S I J Q := tr_aload_n (m := 0) (by decide +kernel) rfl
theorem r146_36 : am_T d 146 36 ls (.ref a0 :: st) S I J Q = ((am_is S a0 9 ∧ am_rf S a0 0 ≠ 0) ∧ am_T d 146 39 ls (.ref (am_rf S a0 0) :: st) S I J Q) := tr_geta (k := 7) (by decide +kernel) (by decide +kernel) (by decide +kernel)
theorem r146_39 : am_T d 146 39 ls st S I J Q = am_T d 146 40 ls (.int 3 :: st) S I J Q := tr_iconst (m := 3) (by decide +kernel) (by decide)
theorem r146_40 : am_T d 146 40 [l0, l1, l2, l3, some (.int x0), l5] st S I J Q = am_T d 146 42 [l0, l1, l2, l3, some (.int x0), l5] (.int x0 :: st) S I J Q := tr_iload (k := 4) (by decide +kernel) rfl
theorem r146_42 : am_T d 146 42 ls (.int x1 :: .int x0 :: st) S I J Q = am_T d 146 43 ls (.int (x0 + x1) :: st) S I J Q := tr_iadd (by decide +kernel)
theorem r146_43 : am_T d 146 43 ls (.int x0 :: .ref a0 :: st) S I J Q = (am_ix S a0 20 x0 ∧ am_T d 146 44 ls (.int (I a0 x0.toNatClampNeg) :: st) S I J Q) := tr_iald (by decide +kernel)
theorem r146_44 : am_T d 146 44 [some (.ref a0), l1, l2, l3, l4, l5] st S I J Q = am_T d 146 45 [some (.ref a0), l1, l2, l3, l4, l5] (.ref a0 :: st) S I J Q := tr_aload_n (m := 0) (by decide +kernel) rfl
theorem r146_45 : am_T d 146 45 ls (.ref a0 :: st) S I J Q = ((am_is S a0 9 ∧ am_rf S a0 0 ≠ 0) ∧ am_T d 146 48 ls (.ref (am_rf S a0 0) :: st) S I J Q) := tr_geta (k := 7) (by decide +kernel) (by decide +kernel) (by decide +kernel)
theorem r146_48 : am_T d 146 48 ls st S I J Q = am_T d 146 50 ls (.int 35 :: st) S I J Q := tr_bipush (m := 35) (by decide +kernel) (by decide)
theorem r146_50 : am_T d 146 50 [l0, l1, l2, l3, some (.int x0), l5] st S I J Q = am_T d 146 52 [l0, l1, l2, l3, some (.int x0), l5] (.int x0 :: st) S I J Q := tr_iload (k := 4) (by decide +kernel) rfl
theorem r146_52 : am_T d 146 52 ls (.int x1 :: .int x0 :: st) S I J Q = am_T d 146 53 ls (.int (x0 + x1) :: st) S I J Q := tr_iadd (by decide +kernel)
theorem r146_53 : am_T d 146 53 ls (.int x0 :: .ref a0 :: st) S I J Q = (am_ix S a0 20 x0 ∧ am_T d 146 54 ls (.int (I a0 x0.toNatClampNeg) :: st) S I J Q) := tr_iald (by decide +kernel)
theorem r146_54 : am_T d 146 54 ls [.int x2, .int x1, .int x0] S I J Q = am_C d 141 [.int x0, .int x1, .int x2] S I J (fun r S I J => am_T d 146 57 ls (am_psh r []) S I J Q) := tr_stat (k := 135) (by decide +kernel) (Or.inl (by decide +kernel)) (Nat.le_of_ble_eq_true rfl) rfl rfl (Nat.le_of_ble_eq_true rfl)
theorem r146_57 : am_T d 146 57 ls (.int x0 :: st) S I J Q = if x0 = 0 then am_T d 146 86 ls st S I J Q else am_T d 146 60 ls st S I J Q := tr_ifeq (o := 29) (by decide +kernel) rfl
theorem r146_60 : am_T d 146 60 [some (.ref a0), l1, l2, l3, l4, l5] st S I J Q = am_T d 146 61 [some (.ref a0), l1, l2, l3, l4, l5] (.ref a0 :: st) S I J Q := tr_aload_n (m := 0) (by decide +kernel) rfl
theorem r146_61 : am_T d 146 61 [l0, l1, l2, l3, some (.int x0), l5] st S I J Q = am_T d 146 63 [l0, l1, l2, l3, some (.int x0), l5] (.int x0 :: st) S I J Q := tr_iload (k := 4) (by decide +kernel) rfl
theorem r146_63 : am_T d 146 63 ls [.int x1, .ref a0] S I J Q = (am_is S a0 9 ∧ am_C d 142 [.ref a0, .int x1] S I J (fun r S I J => am_T d 146 66 ls (am_psh r []) S I J Q)) := tr_virt (k := 141) (by decide +kernel) (by decide +kernel) rfl rfl (Nat.le_of_ble_eq_true rfl) (by decide +kernel)
theorem r146_66 : am_T d 146 66 [l0, l1, l2, l3, l4, l5] (.int x0 :: st) S I J Q = am_T d 146 68 [l0, l1, l2, l3, am_clr l4, some (.int x0)] st S I J Q := tr_istore (k := 5) (by decide +kernel) (Nat.le_of_ble_eq_true rfl) rfl
theorem r146_68 : am_T d 146 68 [l0, l1, some (.int x0), l3, l4, l5] st S I J Q = am_T d 146 69 [l0, l1, some (.int x0), l3, l4, l5] (.int x0 :: st) S I J Q := tr_iload_n (m := 2) (by decide +kernel) rfl
theorem r146_69 : am_T d 146 69 ls st S I J Q = am_T d 146 71 ls (.int (-107) :: st) S I J Q := tr_bipush (m := -107) (by decide +kernel) (by decide)
theorem r146_71 : am_T d 146 71 ls (.int x1 :: .int x0 :: st) S I J Q = if x0 = x1 then am_T d 146 80 ls st S I J Q else am_T d 146 74 ls st S I J Q := tr_icmpeq (o := 9) (by decide +kernel) rfl
theorem r146_74 : am_T d 146 74 [l0, l1, l2, l3, l4, some (.int x0)] st S I J Q = am_T d 146 76 [l0, l1, l2, l3, l4, some (.int x0)] (.int x0 :: st) S I J Q := tr_iload (k := 5) (by decide +kernel) rfl
theorem r146_76 : am_T d 146 76 [l0, l1, l2, some (.int x0), l4, l5] st S I J Q = am_T d 146 77 [l0, l1, l2, some (.int x0), l4, l5] (.int x0 :: st) S I J Q := tr_iload_n (m := 3) (by decide +kernel) rfl
theorem r146_77 : am_T d 146 77 ls (.int x1 :: .int x0 :: st) S I J Q = if x1 ≤ x0 then am_T d 146 86 ls st S I J Q else am_T d 146 80 ls st S I J Q := tr_icmpge (o := 9) (by decide +kernel) rfl
theorem r146_80 : am_T d 146 80 [l0, l1, l2, l3, some (.int x0), l5] st S I J Q = am_T d 146 82 [l0, l1, l2, l3, some (.int x0), l5] (.int x0 :: st) S I J Q := tr_iload (k := 4) (by decide +kernel) rfl
theorem r146_82 : am_T d 146 82 [l0, l1, l2, l3, l4, l5] (.int x0 :: st) S I J Q = am_T d 146 83 [l0, am_clr l1, some (.int x0), l3, l4, l5] st S I J Q := tr_istore_n (m := 2) (by decide +kernel) (Nat.le_of_ble_eq_true rfl) rfl
theorem r146_83 : am_T d 146 83 [l0, l1, l2, l3, l4, some (.int x0)] st S I J Q = am_T d 146 85 [l0, l1, l2, l3, l4, some (.int x0)] (.int x0 :: st) S I J Q := tr_iload (k := 5) (by decide +kernel) rfl
theorem r146_85 : am_T d 146 85 [l0, l1, l2, l3, l4, l5] (.int x0 :: st) S I J Q = am_T d 146 86 [l0, l1, am_clr l2, some (.int x0), l4, l5] st S I J Q := tr_istore_n (m := 3) (by decide +kernel) (Nat.le_of_ble_eq_true rfl) rfl
theorem r146_86 : am_T d 146 86 [l0, l1, l2, l3, some (.int x0), l5] st S I J Q = am_T d 146 89 [l0, l1, l2, am_clr l3, some (.int (x0 + 1)), l5] st S I J Q := tr_iinc (k := 4) (m := 1) (by decide +kernel) rfl (Nat.le_of_ble_eq_true rfl) (by decide) rfl
theorem r146_89 : am_T d 146 89 ls st S I J Q = am_T d 146 8 ls st S I J Q := tr_goto (o := -81) (by decide +kernel) rfl
theorem r146_92 : am_T d 146 92 [some (.ref a0), l1, l2, l3, l4, l5] st S I J Q = am_T d 146 93 [some (.ref a0), l1, l2, l3, l4, l5] (.ref a0 :: st) S I J Q := tr_aload_n (m := 0) (by decide +kernel) rfl
theorem r146_93 : am_T d 146 93 ls (.ref a0 :: st) S I J Q = ((am_is S a0 9 ∧ am_rf S a0 18 ≠ 0) ∧ am_T d 146 96 ls (.ref (am_rf S a0 18) :: st) S I J Q) := tr_geta (k := 41) (by decide +kernel) (by decide +kernel) (by decide +kernel)
theorem r146_96 : am_T d 146 96 [l0, some (.int x0), l2, l3, l4, l5] st S I J Q = am_T d 146 97 [l0, some (.int x0), l2, l3, l4, l5] (.int x0 :: st) S I J Q := tr_iload_n (m := 1) (by decide +kernel) rfl
theorem r146_97 : am_T d 146 97 [l0, l1, some (.int x0), l3, l4, l5] st S I J Q = am_T d 146 98 [l0, l1, some (.int x0), l3, l4, l5] (.int x0 :: st) S I J Q := tr_iload_n (m := 2) (by decide +kernel) rfl
theorem r146_98 : am_T d 146 98 ls (.int x1 :: .int x0 :: .ref a0 :: st) S I J Q = (am_ixw S a0 20 x0 ∧ am_T d 146 99 ls st S (am_up I a0 x0.toNatClampNeg x1) J Q) := tr_iast (by decide +kernel)
theorem r146_99 : am_T d 146 99 [some (.ref a0), l1, l2, l3, l4, l5] st S I J Q = am_T d 146 100 [some (.ref a0), l1, l2, l3, l4, l5] (.ref a0 :: st) S I J Q := tr_aload_n (m := 0) (by decide +kernel) rfl
theorem r146_100 : am_T d 146 100 ls (.ref a0 :: st) S I J Q = ((am_is S a0 9 ∧ am_rf S a0 16 ≠ 0) ∧ am_T d 146 103 ls (.ref (am_rf S a0 16) :: st) S I J Q) := tr_geta (k := 35) (by decide +kernel) (by decide +kernel) (by decide +kernel)
theorem r146_103 : am_T d 146 103 [l0, some (.int x0), l2, l3, l4, l5] st S I J Q = am_T d 146 104 [l0, some (.int x0), l2, l3, l4, l5] (.int x0 :: st) S I J Q := tr_iload_n (m := 1) (by decide +kernel) rfl
theorem r146_104 : am_T d 146 104 [l0, l1, l2, some (.int x0), l4, l5] st S I J Q = am_T d 146 105 [l0, l1, l2, some (.int x0), l4, l5] (.int x0 :: st) S I J Q := tr_iload_n (m := 3) (by decide +kernel) rfl
theorem r146_105 : am_T d 146 105 ls (.int x1 :: .int x0 :: .ref a0 :: st) S I J Q = (am_ixw S a0 20 x0 ∧ am_T d 146 106 ls st S (am_up I a0 x0.toNatClampNeg x1) J Q) := tr_iast (by decide +kernel)
theorem r146_106 : am_T d 146 106 [l0, l1, some (.int x0), l3, l4, l5] st S I J Q = am_T d 146 107 [l0, l1, some (.int x0), l3, l4, l5] (.int x0 :: st) S I J Q := tr_iload_n (m := 2) (by decide +kernel) rfl
theorem r146_107 : am_T d 146 107 ls st S I J Q = am_T d 146 109 ls (.int (-107) :: st) S I J Q := tr_bipush (m := -107) (by decide +kernel) (by decide)
theorem r146_109 : am_T d 146 109 ls (.int x1 :: .int x0 :: st) S I J Q = if x0 = x1 then am_T d 146 116 ls st S I J Q else am_T d 146 112 ls st S I J Q := tr_icmpeq (o := 7) (by decide +kernel) rfl
theorem r146_112 : am_T d 146 112 ls st S I J Q = am_T d 146 113 ls (.int 1 :: st) S I J Q := tr_iconst (m := 1) (by decide +kernel) (by decide)
theorem r146_113 : am_T d 146 113 ls st S I J Q = am_T d 146 117 ls st S I J Q := tr_goto (o := 4) (by decide +kernel) rfl
theorem r146_116 : am_T d 146 116 ls st S I J Q = am_T d 146 117 ls (.int 0 :: st) S I J Q := tr_iconst (m := 0) (by decide +kernel) (by decide)
theorem r146_117 : am_T d 146 117 ls [.int x0] S I J Q = ((x0 = 0 ∨ x0 = 1) ∧ Q (some (.int x0)) S I J) := tr_iretz (by decide +kernel) (by decide +kernel)
-- 147 Mod.behind(I)I; heads []
theorem e147 : am_C (d + 1) 147 [.ref a0, .int x1] S I J Q = am_T d 147 0 [some (.ref a0), some (.int x1)] [] S I J Q := tr_en (Nat.le_of_ble_eq_true rfl) rfl
theorem r147_0 : am_T d 147 0 [some (.ref a0), l1] st S I J Q = am_T d 147 1 [some (.ref a0), l1] (.ref a0 :: st) S I J Q := tr_aload_n (m := 0) (by decide +kernel) rfl
theorem r147_1 : am_T d 147 1 ls (.ref a0 :: st) S I J Q = ((am_is S a0 9 ∧ am_rf S a0 18 ≠ 0) ∧ am_T d 147 4 ls (.ref (am_rf S a0 18) :: st) S I J Q) := tr_geta (k := 41) (by decide +kernel) (by decide +kernel) (by decide +kernel)
theorem r147_4 : am_T d 147 4 [l0, some (.int x0)] st S I J Q = am_T d 147 5 [l0, some (.int x0)] (.int x0 :: st) S I J Q := tr_iload_n (m := 1) (by decide +kernel) rfl
theorem r147_5 : am_T d 147 5 ls (.int x0 :: .ref a0 :: st) S I J Q = (am_ix S a0 20 x0 ∧ am_T d 147 6 ls (.int (I a0 x0.toNatClampNeg) :: st) S I J Q) := tr_iald (by decide +kernel)
theorem r147_6 : am_T d 147 6 ls st S I J Q = am_T d 147 8 ls (.int (-107) :: st) S I J Q := tr_bipush (m := -107) (by decide +kernel) (by decide)
theorem r147_8 : am_T d 147 8 ls (.int x1 :: .int x0 :: st) S I J Q = if x0 = x1 then am_T d 147 11 ls st S I J Q else am_T d 147 16 ls st S I J Q := tr_icmpne (o := 8) (by decide +kernel) rfl
theorem r147_11 : am_T d 147 11 ls st S I J Q = am_T d 147 13 ls (.int (-107) :: st) S I J Q := tr_bipush (m := -107) (by decide +kernel) (by decide)
theorem r147_13 : am_T d 147 13 ls st S I J Q = am_T d 147 33 ls st S I J Q := tr_goto (o := 20) (by decide +kernel) rfl
theorem r147_16 : am_T d 147 16 [some (.ref a0), l1] st S I J Q = am_T d 147 17 [some (.ref a0), l1] (.ref a0 :: st) S I J Q := tr_aload_n (m := 0) (by decide +kernel) rfl
theorem r147_17 : am_T d 147 17 [some (.ref a0), l1] st S I J Q = am_T d 147 18 [some (.ref a0), l1] (.ref a0 :: st) S I J Q := tr_aload_n (m := 0) (by decide +kernel) rfl
theorem r147_18 : am_T d 147 18 ls (.ref a0 :: st) S I J Q = ((am_is S a0 9 ∧ am_rf S a0 0 ≠ 0) ∧ am_T d 147 21 ls (.ref (am_rf S a0 0) :: st) S I J Q) := tr_geta (k := 7) (by decide +kernel) (by decide +kernel) (by decide +kernel)
theorem r147_21 : am_T d 147 21 ls st S I J Q = am_T d 147 22 ls (.int 3 :: st) S I J Q := tr_iconst (m := 3) (by decide +kernel) (by decide)
theorem r147_22 : am_T d 147 22 [some (.ref a0), l1] st S I J Q = am_T d 147 23 [some (.ref a0), l1] (.ref a0 :: st) S I J Q := tr_aload_n (m := 0) (by decide +kernel) rfl
theorem r147_23 : am_T d 147 23 ls (.ref a0 :: st) S I J Q = ((am_is S a0 9 ∧ am_rf S a0 18 ≠ 0) ∧ am_T d 147 26 ls (.ref (am_rf S a0 18) :: st) S I J Q) := tr_geta (k := 41) (by decide +kernel) (by decide +kernel) (by decide +kernel)
theorem r147_26 : am_T d 147 26 [l0, some (.int x0)] st S I J Q = am_T d 147 27 [l0, some (.int x0)] (.int x0 :: st) S I J Q := tr_iload_n (m := 1) (by decide +kernel) rfl
theorem r147_27 : am_T d 147 27 ls (.int x0 :: .ref a0 :: st) S I J Q = (am_ix S a0 20 x0 ∧ am_T d 147 28 ls (.int (I a0 x0.toNatClampNeg) :: st) S I J Q) := tr_iald (by decide +kernel)
theorem r147_28 : am_T d 147 28 ls (.int x1 :: .int x0 :: st) S I J Q = am_T d 147 29 ls (.int (x0 + x1) :: st) S I J Q := tr_iadd (by decide +kernel)
theorem r147_29 : am_T d 147 29 ls (.int x0 :: .ref a0 :: st) S I J Q = (am_ix S a0 20 x0 ∧ am_T d 147 30 ls (.int (I a0 x0.toNatClampNeg) :: st) S I J Q) := tr_iald (by decide +kernel)
theorem r147_30 : am_T d 147 30 ls [.int x1, .ref a0] S I J Q = (am_is S a0 9 ∧ am_C d 143 [.ref a0, .int x1] S I J (fun r S I J => am_T d 147 33 ls (am_psh r []) S I J Q)) := tr_virt (k := 138) (by decide +kernel) (by decide +kernel) rfl rfl (Nat.le_of_ble_eq_true rfl) (by decide +kernel)
theorem r147_33 : am_T d 147 33 ls [.int x0] S I J Q = Q (some (.int x0)) S I J := tr_ireti (by decide +kernel) (by decide +kernel)
-- 148 Mod.closeCycle(I)V; heads [16, 70]
theorem e148 : am_C (d + 1) 148 [.ref a0, .int x1] S I J Q = am_T d 148 0 [some (.ref a0), some (.int x1), none, none, none, none] [] S I J Q := tr_en (Nat.le_of_ble_eq_true rfl) rfl
theorem r148_0 : am_T d 148 0 [some (.ref a0), l1, l2, l3, l4, l5] st S I J Q = am_T d 148 1 [some (.ref a0), l1, l2, l3, l4, l5] (.ref a0 :: st) S I J Q := tr_aload_n (m := 0) (by decide +kernel) rfl
theorem r148_1 : am_T d 148 1 [l0, some (.int x0), l2, l3, l4, l5] st S I J Q = am_T d 148 2 [l0, some (.int x0), l2, l3, l4, l5] (.int x0 :: st) S I J Q := tr_iload_n (m := 1) (by decide +kernel) rfl
theorem r148_2 : am_T d 148 2 ls [.int x1, .ref a0] S I J Q = (am_is S a0 9 ∧ am_C d 147 [.ref a0, .int x1] S I J (fun r S I J => am_T d 148 5 ls (am_psh r []) S I J Q)) := tr_virt (k := 144) (by decide +kernel) (by decide +kernel) rfl rfl (Nat.le_of_ble_eq_true rfl) (by decide +kernel)
theorem r148_5 : am_T d 148 5 [l0, l1, l2, l3, l4, l5] (.int x0 :: st) S I J Q = am_T d 148 6 [l0, am_clr l1, some (.int x0), l3, l4, l5] st S I J Q := tr_istore_n (m := 2) (by decide +kernel) (Nat.le_of_ble_eq_true rfl) rfl
theorem r148_6 : am_T d 148 6 [some (.ref a0), l1, l2, l3, l4, l5] st S I J Q = am_T d 148 7 [some (.ref a0), l1, l2, l3, l4, l5] (.ref a0 :: st) S I J Q := tr_aload_n (m := 0) (by decide +kernel) rfl
theorem r148_7 : am_T d 148 7 ls (.ref a0 :: st) S I J Q = ((am_is S a0 9 ∧ am_rf S a0 15 ≠ 0) ∧ am_T d 148 10 ls (.ref (am_rf S a0 15) :: st) S I J Q) := tr_geta (k := 32) (by decide +kernel) (by decide +kernel) (by decide +kernel)
theorem r148_10 : am_T d 148 10 [l0, some (.int x0), l2, l3, l4, l5] st S I J Q = am_T d 148 11 [l0, some (.int x0), l2, l3, l4, l5] (.int x0 :: st) S I J Q := tr_iload_n (m := 1) (by decide +kernel) rfl
theorem r148_11 : am_T d 148 11 ls (.int x0 :: .ref a0 :: st) S I J Q = (am_ix S a0 20 x0 ∧ am_T d 148 12 ls (.int (I a0 x0.toNatClampNeg) :: st) S I J Q) := tr_iald (by decide +kernel)
theorem r148_12 : am_T d 148 12 [l0, l1, l2, l3, l4, l5] (.int x0 :: st) S I J Q = am_T d 148 13 [l0, l1, am_clr l2, some (.int x0), l4, l5] st S I J Q := tr_istore_n (m := 3) (by decide +kernel) (Nat.le_of_ble_eq_true rfl) rfl
theorem r148_13 : am_T d 148 13 ls st S I J Q = am_T d 148 14 ls (.int 0 :: st) S I J Q := tr_iconst (m := 0) (by decide +kernel) (by decide)
theorem r148_14 : am_T d 148 14 [l0, l1, l2, l3, l4, l5] (.int x0 :: st) S I J Q = am_T d 148 16 [l0, l1, l2, am_clr l3, some (.int x0), l5] st S I J Q := tr_istore (k := 4) (by decide +kernel) (Nat.le_of_ble_eq_true rfl) rfl
theorem r148_16 : am_T d 148 16 [l0, l1, l2, l3, some (.int x0), l5] st S I J Q = am_T d 148 18 [l0, l1, l2, l3, some (.int x0), l5] (.int x0 :: st) S I J Q := tr_iload (k := 4) (by decide +kernel) rfl
theorem r148_18 : am_T d 148 18 ls st S I J Q = am_T d 148 20 ls (.int 16 :: st) S I J Q := tr_bipush (m := 16) (by decide +kernel) (by decide)
theorem r148_20 : am_T d 148 20 ls (.int x1 :: .int x0 :: st) S I J Q = if x1 ≤ x0 then am_T d 148 55 ls st S I J Q else am_T d 148 23 ls st S I J Q := tr_icmpge (o := 35) (by decide +kernel) rfl
theorem r148_23 : am_T d 148 23 [l0, l1, some (.int x0), l3, l4, l5] st S I J Q = am_T d 148 24 [l0, l1, some (.int x0), l3, l4, l5] (.int x0 :: st) S I J Q := tr_iload_n (m := 2) (by decide +kernel) rfl
theorem r148_24 : am_T d 148 24 ls st S I J Q = am_T d 148 26 ls (.int (-107) :: st) S I J Q := tr_bipush (m := -107) (by decide +kernel) (by decide)
theorem r148_26 : am_T d 148 26 ls (.int x1 :: .int x0 :: st) S I J Q = if x0 = x1 then am_T d 148 55 ls st S I J Q else am_T d 148 29 ls st S I J Q := tr_icmpeq (o := 29) (by decide +kernel) rfl
theorem r148_29 : am_T d 148 29 [l0, l1, some (.int x0), l3, l4, l5] st S I J Q = am_T d 148 30 [l0, l1, some (.int x0), l3, l4, l5] (.int x0 :: st) S I J Q := tr_iload_n (m := 2) (by decide +kernel) rfl
theorem r148_30 : am_T d 148 30 [l0, some (.int x0), l2, l3, l4, l5] st S I J Q = am_T d 148 31 [l0, some (.int x0), l2, l3, l4, l5] (.int x0 :: st) S I J Q := tr_iload_n (m := 1) (by decide +kernel) rfl
theorem r148_31 : am_T d 148 31 ls (.int x1 :: .int x0 :: st) S I J Q = if x0 = x1 then am_T d 148 55 ls st S I J Q else am_T d 148 34 ls st S I J Q := tr_icmpeq (o := 24) (by decide +kernel) rfl
theorem r148_34 : am_T d 148 34 [l0, l1, l2, some (.int x0), l4, l5] st S I J Q = am_T d 148 35 [l0, l1, l2, some (.int x0), l4, l5] (.int x0 :: st) S I J Q := tr_iload_n (m := 3) (by decide +kernel) rfl
theorem r148_35 : am_T d 148 35 [some (.ref a0), l1, l2, l3, l4, l5] st S I J Q = am_T d 148 36 [some (.ref a0), l1, l2, l3, l4, l5] (.ref a0 :: st) S I J Q := tr_aload_n (m := 0) (by decide +kernel) rfl
theorem r148_36 : am_T d 148 36 ls (.ref a0 :: st) S I J Q = ((am_is S a0 9 ∧ am_rf S a0 15 ≠ 0) ∧ am_T d 148 39 ls (.ref (am_rf S a0 15) :: st) S I J Q) := tr_geta (k := 32) (by decide +kernel) (by decide +kernel) (by decide +kernel)
theorem r148_39 : am_T d 148 39 [l0, l1, some (.int x0), l3, l4, l5] st S I J Q = am_T d 148 40 [l0, l1, some (.int x0), l3, l4, l5] (.int x0 :: st) S I J Q := tr_iload_n (m := 2) (by decide +kernel) rfl
theorem r148_40 : am_T d 148 40 ls (.int x0 :: .ref a0 :: st) S I J Q = (am_ix S a0 20 x0 ∧ am_T d 148 41 ls (.int (I a0 x0.toNatClampNeg) :: st) S I J Q) := tr_iald (by decide +kernel)
theorem r148_41 : am_T d 148 41 ls (.int x1 :: .int x0 :: st) S I J Q = am_T d 148 42 ls (.int (x0 ||| x1) :: st) S I J Q := tr_ior (by decide +kernel)
theorem r148_42 : am_T d 148 42 [l0, l1, l2, l3, l4, l5] (.int x0 :: st) S I J Q = am_T d 148 43 [l0, l1, am_clr l2, some (.int x0), l4, l5] st S I J Q := tr_istore_n (m := 3) (by decide +kernel) (Nat.le_of_ble_eq_true rfl) rfl
theorem r148_43 : am_T d 148 43 [some (.ref a0), l1, l2, l3, l4, l5] st S I J Q = am_T d 148 44 [some (.ref a0), l1, l2, l3, l4, l5] (.ref a0 :: st) S I J Q := tr_aload_n (m := 0) (by decide +kernel) rfl
theorem r148_44 : am_T d 148 44 [l0, l1, some (.int x0), l3, l4, l5] st S I J Q = am_T d 148 45 [l0, l1, some (.int x0), l3, l4, l5] (.int x0 :: st) S I J Q := tr_iload_n (m := 2) (by decide +kernel) rfl
theorem r148_45 : am_T d 148 45 ls [.int x1, .ref a0] S I J Q = (am_is S a0 9 ∧ am_C d 147 [.ref a0, .int x1] S I J (fun r S I J => am_T d 148 48 ls (am_psh r []) S I J Q)) := tr_virt (k := 144) (by decide +kernel) (by decide +kernel) rfl rfl (Nat.le_of_ble_eq_true rfl) (by decide +kernel)
theorem r148_48 : am_T d 148 48 [l0, l1, l2, l3, l4, l5] (.int x0 :: st) S I J Q = am_T d 148 49 [l0, am_clr l1, some (.int x0), l3, l4, l5] st S I J Q := tr_istore_n (m := 2) (by decide +kernel) (Nat.le_of_ble_eq_true rfl) rfl
theorem r148_49 : am_T d 148 49 [l0, l1, l2, l3, some (.int x0), l5] st S I J Q = am_T d 148 52 [l0, l1, l2, am_clr l3, some (.int (x0 + 1)), l5] st S I J Q := tr_iinc (k := 4) (m := 1) (by decide +kernel) rfl (Nat.le_of_ble_eq_true rfl) (by decide) rfl
theorem r148_52 : am_T d 148 52 ls st S I J Q = am_T d 148 16 ls st S I J Q := tr_goto (o := -36) (by decide +kernel) rfl
theorem r148_55 : am_T d 148 55 [l0, l1, some (.int x0), l3, l4, l5] st S I J Q = am_T d 148 56 [l0, l1, some (.int x0), l3, l4, l5] (.int x0 :: st) S I J Q := tr_iload_n (m := 2) (by decide +kernel) rfl
theorem r148_56 : am_T d 148 56 [l0, some (.int x0), l2, l3, l4, l5] st S I J Q = am_T d 148 57 [l0, some (.int x0), l2, l3, l4, l5] (.int x0 :: st) S I J Q := tr_iload_n (m := 1) (by decide +kernel) rfl
theorem r148_57 : am_T d 148 57 ls (.int x1 :: .int x0 :: st) S I J Q = if x0 = x1 then am_T d 148 60 ls st S I J Q else am_T d 148 116 ls st S I J Q := tr_icmpne (o := 59) (by decide +kernel) rfl
theorem r148_60 : am_T d 148 60 [some (.ref a0), l1, l2, l3, l4, l5] st S I J Q = am_T d 148 61 [some (.ref a0), l1, l2, l3, l4, l5] (.ref a0 :: st) S I J Q := tr_aload_n (m := 0) (by decide +kernel) rfl
theorem r148_61 : am_T d 148 61 [l0, l1, l2, some (.int x0), l4, l5] st S I J Q = am_T d 148 62 [l0, l1, l2, some (.int x0), l4, l5] (.int x0 :: st) S I J Q := tr_iload_n (m := 3) (by decide +kernel) rfl
theorem r148_62 : am_T d 148 62 ls [.int x1, .ref a0] S I J Q = (am_is S a0 9 ∧ am_C d 144 [.ref a0, .int x1] S I J (fun r S I J => am_T d 148 65 ls (am_psh r []) S I J Q)) := tr_virt (k := 147) (by decide +kernel) (by decide +kernel) rfl rfl (Nat.le_of_ble_eq_true rfl) (by decide +kernel)
theorem r148_65 : am_T d 148 65 [l0, l1, l2, l3, l4, l5] (.int x0 :: st) S I J Q = am_T d 148 67 [l0, l1, l2, am_clr l3, some (.int x0), l5] st S I J Q := tr_istore (k := 4) (by decide +kernel) (Nat.le_of_ble_eq_true rfl) rfl
theorem r148_67 : am_T d 148 67 ls st S I J Q = am_T d 148 68 ls (.int 0 :: st) S I J Q := tr_iconst (m := 0) (by decide +kernel) (by decide)
theorem r148_68 : am_T d 148 68 [l0, l1, l2, l3, l4, l5] (.int x0 :: st) S I J Q = am_T d 148 70 [l0, l1, l2, l3, am_clr l4, some (.int x0)] st S I J Q := tr_istore (k := 5) (by decide +kernel) (Nat.le_of_ble_eq_true rfl) rfl
theorem r148_70 : am_T d 148 70 [l0, l1, l2, l3, l4, some (.int x0)] st S I J Q = am_T d 148 72 [l0, l1, l2, l3, l4, some (.int x0)] (.int x0 :: st) S I J Q := tr_iload (k := 5) (by decide +kernel) rfl
theorem r148_72 : am_T d 148 72 [l0, l1, l2, l3, some (.int x0), l5] st S I J Q = am_T d 148 74 [l0, l1, l2, l3, some (.int x0), l5] (.int x0 :: st) S I J Q := tr_iload (k := 4) (by decide +kernel) rfl
theorem r148_74 : am_T d 148 74 ls (.int x1 :: .int x0 :: st) S I J Q = if x1 ≤ x0 then am_T d 148 116 ls st S I J Q else am_T d 148 77 ls st S I J Q := tr_icmpge (o := 42) (by decide +kernel) rfl
theorem r148_77 : am_T d 148 77 [some (.ref a0), l1, l2, l3, l4, l5] st S I J Q = am_T d 148 78 [some (.ref a0), l1, l2, l3, l4, l5] (.ref a0 :: st) S I J Q := tr_aload_n (m := 0) (by decide +kernel) rfl
theorem r148_78 : am_T d 148 78 ls (.ref a0 :: st) S I J Q = ((am_is S a0 9 ∧ am_rf S a0 17 ≠ 0) ∧ am_T d 148 81 ls (.ref (am_rf S a0 17) :: st) S I J Q) := tr_geta (k := 38) (by decide +kernel) (by decide +kernel) (by decide +kernel)
theorem r148_81 : am_T d 148 81 [l0, l1, l2, l3, l4, some (.int x0)] st S I J Q = am_T d 148 83 [l0, l1, l2, l3, l4, some (.int x0)] (.int x0 :: st) S I J Q := tr_iload (k := 5) (by decide +kernel) rfl
theorem r148_83 : am_T d 148 83 ls (.int x0 :: .ref a0 :: st) S I J Q = (am_ix S a0 20 x0 ∧ am_T d 148 84 ls (.int (I a0 x0.toNatClampNeg) :: st) S I J Q) := tr_iald (by decide +kernel)
theorem r148_84 : am_T d 148 84 ls st S I J Q = am_T d 148 86 ls (.int (-107) :: st) S I J Q := tr_bipush (m := -107) (by decide +kernel) (by decide)
theorem r148_86 : am_T d 148 86 ls (.int x1 :: .int x0 :: st) S I J Q = if x0 = x1 then am_T d 148 89 ls st S I J Q else am_T d 148 110 ls st S I J Q := tr_icmpne (o := 24) (by decide +kernel) rfl
theorem r148_89 : am_T d 148 89 [some (.ref a0), l1, l2, l3, l4, l5] st S I J Q = am_T d 148 90 [some (.ref a0), l1, l2, l3, l4, l5] (.ref a0 :: st) S I J Q := tr_aload_n (m := 0) (by decide +kernel) rfl
theorem r148_90 : am_T d 148 90 ls (.ref a0 :: st) S I J Q = ((am_is S a0 9 ∧ am_rf S a0 15 ≠ 0) ∧ am_T d 148 93 ls (.ref (am_rf S a0 15) :: st) S I J Q) := tr_geta (k := 32) (by decide +kernel) (by decide +kernel) (by decide +kernel)
theorem r148_93 : am_T d 148 93 [l0, l1, l2, l3, l4, some (.int x0)] st S I J Q = am_T d 148 95 [l0, l1, l2, l3, l4, some (.int x0)] (.int x0 :: st) S I J Q := tr_iload (k := 5) (by decide +kernel) rfl
theorem r148_95 : am_T d 148 95 ls (.int x0 :: .ref a0 :: st) S I J Q = (am_ix S a0 20 x0 ∧ am_T d 148 96 ls (.int (I a0 x0.toNatClampNeg) :: st) S I J Q) := tr_iald (by decide +kernel)
theorem r148_96 : am_T d 148 96 [l0, l1, l2, some (.int x0), l4, l5] st S I J Q = am_T d 148 97 [l0, l1, l2, some (.int x0), l4, l5] (.int x0 :: st) S I J Q := tr_iload_n (m := 3) (by decide +kernel) rfl
theorem r148_97 : am_T d 148 97 ls (.int x1 :: .int x0 :: st) S I J Q = am_T d 148 98 ls (.int (x0 &&& x1) :: st) S I J Q := tr_iand (by decide +kernel)
theorem r148_98 : am_T d 148 98 ls (.int x0 :: st) S I J Q = if x0 = 0 then am_T d 148 110 ls st S I J Q else am_T d 148 101 ls st S I J Q := tr_ifeq (o := 12) (by decide +kernel) rfl
theorem r148_101 : am_T d 148 101 [some (.ref a0), l1, l2, l3, l4, l5] st S I J Q = am_T d 148 102 [some (.ref a0), l1, l2, l3, l4, l5] (.ref a0 :: st) S I J Q := tr_aload_n (m := 0) (by decide +kernel) rfl
theorem r148_102 : am_T d 148 102 ls (.ref a0 :: st) S I J Q = ((am_is S a0 9 ∧ am_rf S a0 17 ≠ 0) ∧ am_T d 148 105 ls (.ref (am_rf S a0 17) :: st) S I J Q) := tr_geta (k := 38) (by decide +kernel) (by decide +kernel) (by decide +kernel)
theorem r148_105 : am_T d 148 105 [l0, l1, l2, l3, l4, some (.int x0)] st S I J Q = am_T d 148 107 [l0, l1, l2, l3, l4, some (.int x0)] (.int x0 :: st) S I J Q := tr_iload (k := 5) (by decide +kernel) rfl
theorem r148_107 : am_T d 148 107 [l0, l1, l2, l3, some (.int x0), l5] st S I J Q = am_T d 148 109 [l0, l1, l2, l3, some (.int x0), l5] (.int x0 :: st) S I J Q := tr_iload (k := 4) (by decide +kernel) rfl
theorem r148_109 : am_T d 148 109 ls (.int x1 :: .int x0 :: .ref a0 :: st) S I J Q = (am_ixw S a0 20 x0 ∧ am_T d 148 110 ls st S (am_up I a0 x0.toNatClampNeg x1) J Q) := tr_iast (by decide +kernel)
theorem r148_110 : am_T d 148 110 [l0, l1, l2, l3, l4, some (.int x0)] st S I J Q = am_T d 148 113 [l0, l1, l2, l3, am_clr l4, some (.int (x0 + 1))] st S I J Q := tr_iinc (k := 5) (m := 1) (by decide +kernel) rfl (Nat.le_of_ble_eq_true rfl) (by decide) rfl
theorem r148_113 : am_T d 148 113 ls st S I J Q = am_T d 148 70 ls st S I J Q := tr_goto (o := -43) (by decide +kernel) rfl
theorem r148_116 : am_T d 148 116 ls [] S I J Q = Q none S I J := tr_vret (by decide +kernel) (by decide +kernel)
-- 149 Mod.contracts()Z; heads [7, 36, 72]
theorem e149 : am_C (d + 1) 149 [.ref a0] S I J Q = am_T d 149 0 [some (.ref a0), none, none, none, none] [] S I J Q := tr_en (Nat.le_of_ble_eq_true rfl) rfl
theorem r149_0 : am_T d 149 0 [some (.ref a0), l1, l2, l3, l4] st S I J Q = am_T d 149 1 [some (.ref a0), l1, l2, l3, l4] (.ref a0 :: st) S I J Q := tr_aload_n (m := 0) (by decide +kernel) rfl
theorem r149_1 : am_T d 149 1 ls st S I J Q = am_T d 149 2 ls (.int 0 :: st) S I J Q := tr_iconst (m := 0) (by decide +kernel) (by decide)
theorem r149_2 : am_T d 149 2 ls (.int x0 :: .ref a0 :: st) S I J Q = (am_is S a0 9 ∧ am_T d 149 5 ls st S (am_up I a0 20 x0) J Q) := tr_puti (k := 132) (by decide +kernel) (by decide +kernel) (by decide +kernel) (by decide +kernel)
theorem r149_5 : am_T d 149 5 ls st S I J Q = am_T d 149 6 ls (.int 0 :: st) S I J Q := tr_iconst (m := 0) (by decide +kernel) (by decide)
theorem r149_6 : am_T d 149 6 [l0, l1, l2, l3, l4] (.int x0 :: st) S I J Q = am_T d 149 7 [am_clr l0, some (.int x0), l2, l3, l4] st S I J Q := tr_istore_n (m := 1) (by decide +kernel) (Nat.le_of_ble_eq_true rfl) rfl
theorem r149_7 : am_T d 149 7 [l0, some (.int x0), l2, l3, l4] st S I J Q = am_T d 149 8 [l0, some (.int x0), l2, l3, l4] (.int x0 :: st) S I J Q := tr_iload_n (m := 1) (by decide +kernel) rfl
theorem r149_8 : am_T d 149 8 [some (.ref a0), l1, l2, l3, l4] st S I J Q = am_T d 149 9 [some (.ref a0), l1, l2, l3, l4] (.ref a0 :: st) S I J Q := tr_aload_n (m := 0) (by decide +kernel) rfl
theorem r149_9 : am_T d 149 9 ls (.ref a0 :: st) S I J Q = ((am_is S a0 9 ∧ am_rf S a0 0 ≠ 0) ∧ am_T d 149 12 ls (.ref (am_rf S a0 0) :: st) S I J Q) := tr_geta (k := 7) (by decide +kernel) (by decide +kernel) (by decide +kernel)
theorem r149_12 : am_T d 149 12 ls st S I J Q = am_T d 149 13 ls (.int 0 :: st) S I J Q := tr_iconst (m := 0) (by decide +kernel) (by decide)
theorem r149_13 : am_T d 149 13 ls (.int x0 :: .ref a0 :: st) S I J Q = (am_ix S a0 20 x0 ∧ am_T d 149 14 ls (.int (I a0 x0.toNatClampNeg) :: st) S I J Q) := tr_iald (by decide +kernel)
theorem r149_14 : am_T d 149 14 ls (.int x1 :: .int x0 :: st) S I J Q = if x1 ≤ x0 then am_T d 149 31 ls st S I J Q else am_T d 149 17 ls st S I J Q := tr_icmpge (o := 17) (by decide +kernel) rfl
theorem r149_17 : am_T d 149 17 [some (.ref a0), l1, l2, l3, l4] st S I J Q = am_T d 149 18 [some (.ref a0), l1, l2, l3, l4] (.ref a0 :: st) S I J Q := tr_aload_n (m := 0) (by decide +kernel) rfl
theorem r149_18 : am_T d 149 18 ls st S I J Q = am_T d 149 19 ls (.int 1 :: st) S I J Q := tr_iconst (m := 1) (by decide +kernel) (by decide)
theorem r149_19 : am_T d 149 19 [l0, some (.int x0), l2, l3, l4] st S I J Q = am_T d 149 20 [l0, some (.int x0), l2, l3, l4] (.int x0 :: st) S I J Q := tr_iload_n (m := 1) (by decide +kernel) rfl
theorem r149_20 : am_T d 149 20 ls (.int x1 :: .int x0 :: st) S I J Q = am_T d 149 21 ls (.int (x0 <<< (x1 &&& 31)) :: st) S I J Q := tr_ishl (by decide +kernel)
theorem r149_21 : am_T d 149 21 ls [.int x1, .ref a0] S I J Q = (am_is S a0 9 ∧ am_C d 144 [.ref a0, .int x1] S I J (fun r S I J => am_T d 149 24 ls (am_psh r []) S I J Q)) := tr_virt (k := 147) (by decide +kernel) (by decide +kernel) rfl rfl (Nat.le_of_ble_eq_true rfl) (by decide +kernel)
theorem r149_24 : am_T d 149 24 [l0, l1, l2, l3, l4] (.int x0 :: st) S I J Q = am_T d 149 25 [l0, am_clr l1, some (.int x0), l3, l4] st S I J Q := tr_istore_n (m := 2) (by decide +kernel) (Nat.le_of_ble_eq_true rfl) rfl
theorem r149_25 : am_T d 149 25 [l0, some (.int x0), l2, l3, l4] st S I J Q = am_T d 149 28 [am_clr l0, some (.int (x0 + 1)), l2, l3, l4] st S I J Q := tr_iinc (k := 1) (m := 1) (by decide +kernel) rfl (Nat.le_of_ble_eq_true rfl) (by decide) rfl
theorem r149_28 : am_T d 149 28 ls st S I J Q = am_T d 149 7 ls st S I J Q := tr_goto (o := -21) (by decide +kernel) rfl
theorem r149_31 : am_T d 149 31 [some (.ref a0), l1, l2, l3, l4] st S I J Q = am_T d 149 32 [some (.ref a0), l1, l2, l3, l4] (.ref a0 :: st) S I J Q := tr_aload_n (m := 0) (by decide +kernel) rfl
theorem r149_32 : am_T d 149 32 ls [.ref a0] S I J Q = (am_is S a0 9 ∧ am_C d 145 [.ref a0] S I J (fun r S I J => am_T d 149 35 ls (am_psh r []) S I J Q)) := tr_virt (k := 150) (by decide +kernel) (by decide +kernel) rfl rfl (Nat.le_of_ble_eq_true rfl) (by decide +kernel)
theorem r149_35 : am_T d 149 35 [l0, l1, l2, l3, l4] (.int x0 :: st) S I J Q = am_T d 149 36 [am_clr l0, some (.int x0), l2, l3, l4] st S I J Q := tr_istore_n (m := 1) (by decide +kernel) (Nat.le_of_ble_eq_true rfl) rfl
theorem r149_36 : am_T d 149 36 [l0, some (.int x0), l2, l3, l4] st S I J Q = am_T d 149 37 [l0, some (.int x0), l2, l3, l4] (.int x0 :: st) S I J Q := tr_iload_n (m := 1) (by decide +kernel) rfl
theorem r149_37 : am_T d 149 37 ls st S I J Q = am_T d 149 39 ls (.int (-107) :: st) S I J Q := tr_bipush (m := -107) (by decide +kernel) (by decide)
theorem r149_39 : am_T d 149 39 ls (.int x1 :: .int x0 :: st) S I J Q = if x0 = x1 then am_T d 149 65 ls st S I J Q else am_T d 149 42 ls st S I J Q := tr_icmpeq (o := 26) (by decide +kernel) rfl
theorem r149_42 : am_T d 149 42 [some (.ref a0), l1, l2, l3, l4] st S I J Q = am_T d 149 43 [some (.ref a0), l1, l2, l3, l4] (.ref a0 :: st) S I J Q := tr_aload_n (m := 0) (by decide +kernel) rfl
theorem r149_43 : am_T d 149 43 [l0, some (.int x0), l2, l3, l4] st S I J Q = am_T d 149 44 [l0, some (.int x0), l2, l3, l4] (.int x0 :: st) S I J Q := tr_iload_n (m := 1) (by decide +kernel) rfl
theorem r149_44 : am_T d 149 44 ls [.int x1, .ref a0] S I J Q = (am_is S a0 9 ∧ am_C d 146 [.ref a0, .int x1] S I J (fun r S I J => am_T d 149 47 ls (am_psh r []) S I J Q)) := tr_virt (k := 153) (by decide +kernel) (by decide +kernel) rfl rfl (Nat.le_of_ble_eq_true rfl) (by decide +kernel)
theorem r149_47 : am_T d 149 47 ls (.int x0 :: st) S I J Q = if x0 = 0 then am_T d 149 50 ls st S I J Q else am_T d 149 52 ls st S I J Q := tr_ifne (o := 5) (by decide +kernel) rfl
theorem r149_50 : am_T d 149 50 ls st S I J Q = am_T d 149 51 ls (.int 0 :: st) S I J Q := tr_iconst (m := 0) (by decide +kernel) (by decide)
theorem r149_51 : am_T d 149 51 ls [.int x0] S I J Q = ((x0 = 0 ∨ x0 = 1) ∧ Q (some (.int x0)) S I J) := tr_iretz (by decide +kernel) (by decide +kernel)
theorem r149_52 : am_T d 149 52 [some (.ref a0), l1, l2, l3, l4] st S I J Q = am_T d 149 53 [some (.ref a0), l1, l2, l3, l4] (.ref a0 :: st) S I J Q := tr_aload_n (m := 0) (by decide +kernel) rfl
theorem r149_53 : am_T d 149 53 [l0, some (.int x0), l2, l3, l4] st S I J Q = am_T d 149 54 [l0, some (.int x0), l2, l3, l4] (.int x0 :: st) S I J Q := tr_iload_n (m := 1) (by decide +kernel) rfl
theorem r149_54 : am_T d 149 54 ls [.int x1, .ref a0] S I J Q = (am_is S a0 9 ∧ am_C d 148 [.ref a0, .int x1] S I J (fun r S I J => am_T d 149 57 ls (am_psh r []) S I J Q)) := tr_virt (k := 156) (by decide +kernel) (by decide +kernel) rfl rfl (Nat.le_of_ble_eq_true rfl) (by decide +kernel)
theorem r149_57 : am_T d 149 57 [some (.ref a0), l1, l2, l3, l4] st S I J Q = am_T d 149 58 [some (.ref a0), l1, l2, l3, l4] (.ref a0 :: st) S I J Q := tr_aload_n (m := 0) (by decide +kernel) rfl
theorem r149_58 : am_T d 149 58 ls [.ref a0] S I J Q = (am_is S a0 9 ∧ am_C d 145 [.ref a0] S I J (fun r S I J => am_T d 149 61 ls (am_psh r []) S I J Q)) := tr_virt (k := 150) (by decide +kernel) (by decide +kernel) rfl rfl (Nat.le_of_ble_eq_true rfl) (by decide +kernel)
theorem r149_61 : am_T d 149 61 [l0, l1, l2, l3, l4] (.int x0 :: st) S I J Q = am_T d 149 62 [am_clr l0, some (.int x0), l2, l3, l4] st S I J Q := tr_istore_n (m := 1) (by decide +kernel) (Nat.le_of_ble_eq_true rfl) rfl
theorem r149_62 : am_T d 149 62 ls st S I J Q = am_T d 149 36 ls st S I J Q := tr_goto (o := -26) (by decide +kernel) rfl
theorem r149_65 : am_T d 149 65 [some (.ref a0), l1, l2, l3, l4] st S I J Q = am_T d 149 66 [some (.ref a0), l1, l2, l3, l4] (.ref a0 :: st) S I J Q := tr_aload_n (m := 0) (by decide +kernel) rfl
theorem r149_66 : am_T d 149 66 ls (.ref a0 :: st) S I J Q = (am_is S a0 9 ∧ am_T d 149 69 ls (.int (I a0 20) :: st) S I J Q) := tr_geti (k := 132) (by decide +kernel) (by decide +kernel) (Or.inl (by decide +kernel))
theorem r149_69 : am_T d 149 69 ls st S I J Q = am_T d 149 70 ls (.int 1 :: st) S I J Q := tr_iconst (m := 1) (by decide +kernel) (by decide)
theorem r149_70 : am_T d 149 70 ls (.int x1 :: .int x0 :: st) S I J Q = am_T d 149 71 ls (.int (x0 - x1) :: st) S I J Q := tr_isub (by decide +kernel)
theorem r149_71 : am_T d 149 71 [l0, l1, l2, l3, l4] (.int x0 :: st) S I J Q = am_T d 149 72 [l0, am_clr l1, some (.int x0), l3, l4] st S I J Q := tr_istore_n (m := 2) (by decide +kernel) (Nat.le_of_ble_eq_true rfl) rfl
theorem r149_72 : am_T d 149 72 [l0, l1, some (.int x0), l3, l4] st S I J Q = am_T d 149 73 [l0, l1, some (.int x0), l3, l4] (.int x0 :: st) S I J Q := tr_iload_n (m := 2) (by decide +kernel) rfl
theorem r149_73 : am_T d 149 73 ls (.int x0 :: st) S I J Q = if x0 < 0 then am_T d 149 155 ls st S I J Q else am_T d 149 76 ls st S I J Q := tr_iflt (o := 82) (by decide +kernel) rfl
theorem r149_76 : am_T d 149 76 [some (.ref a0), l1, l2, l3, l4] st S I J Q = am_T d 149 77 [some (.ref a0), l1, l2, l3, l4] (.ref a0 :: st) S I J Q := tr_aload_n (m := 0) (by decide +kernel) rfl
theorem r149_77 : am_T d 149 77 ls (.ref a0 :: st) S I J Q = ((am_is S a0 9 ∧ am_rf S a0 17 ≠ 0) ∧ am_T d 149 80 ls (.ref (am_rf S a0 17) :: st) S I J Q) := tr_geta (k := 38) (by decide +kernel) (by decide +kernel) (by decide +kernel)
theorem r149_80 : am_T d 149 80 [l0, l1, some (.int x0), l3, l4] st S I J Q = am_T d 149 81 [l0, l1, some (.int x0), l3, l4] (.int x0 :: st) S I J Q := tr_iload_n (m := 2) (by decide +kernel) rfl
theorem r149_81 : am_T d 149 81 ls (.int x0 :: .ref a0 :: st) S I J Q = (am_ix S a0 20 x0 ∧ am_T d 149 82 ls (.int (I a0 x0.toNatClampNeg) :: st) S I J Q) := tr_iald (by decide +kernel)
theorem r149_82 : am_T d 149 82 [l0, l1, l2, l3, l4] (.int x0 :: st) S I J Q = am_T d 149 83 [l0, l1, am_clr l2, some (.int x0), l4] st S I J Q := tr_istore_n (m := 3) (by decide +kernel) (Nat.le_of_ble_eq_true rfl) rfl
theorem r149_83 : am_T d 149 83 [l0, l1, l2, some (.int x0), l4] st S I J Q = am_T d 149 84 [l0, l1, l2, some (.int x0), l4] (.int x0 :: st) S I J Q := tr_iload_n (m := 3) (by decide +kernel) rfl
theorem r149_84 : am_T d 149 84 ls st S I J Q = am_T d 149 86 ls (.int (-107) :: st) S I J Q := tr_bipush (m := -107) (by decide +kernel) (by decide)
theorem r149_86 : am_T d 149 86 ls (.int x1 :: .int x0 :: st) S I J Q = if x0 = x1 then am_T d 149 120 ls st S I J Q else am_T d 149 89 ls st S I J Q := tr_icmpeq (o := 34) (by decide +kernel) rfl
theorem r149_89 : am_T d 149 89 [some (.ref a0), l1, l2, l3, l4] st S I J Q = am_T d 149 90 [some (.ref a0), l1, l2, l3, l4] (.ref a0 :: st) S I J Q := tr_aload_n (m := 0) (by decide +kernel) rfl
theorem r149_90 : am_T d 149 90 ls (.ref a0 :: st) S I J Q = ((am_is S a0 9 ∧ am_rf S a0 15 ≠ 0) ∧ am_T d 149 93 ls (.ref (am_rf S a0 15) :: st) S I J Q) := tr_geta (k := 32) (by decide +kernel) (by decide +kernel) (by decide +kernel)
theorem r149_93 : am_T d 149 93 [l0, l1, some (.int x0), l3, l4] st S I J Q = am_T d 149 94 [l0, l1, some (.int x0), l3, l4] (.int x0 :: st) S I J Q := tr_iload_n (m := 2) (by decide +kernel) rfl
theorem r149_94 : am_T d 149 94 ls (.int x0 :: .ref a0 :: st) S I J Q = (am_ix S a0 20 x0 ∧ am_T d 149 95 ls (.int (I a0 x0.toNatClampNeg) :: st) S I J Q) := tr_iald (by decide +kernel)
theorem r149_95 : am_T d 149 95 [some (.ref a0), l1, l2, l3, l4] st S I J Q = am_T d 149 96 [some (.ref a0), l1, l2, l3, l4] (.ref a0 :: st) S I J Q := tr_aload_n (m := 0) (by decide +kernel) rfl
theorem r149_96 : am_T d 149 96 ls (.ref a0 :: st) S I J Q = ((am_is S a0 9 ∧ am_rf S a0 0 ≠ 0) ∧ am_T d 149 99 ls (.ref (am_rf S a0 0) :: st) S I J Q) := tr_geta (k := 7) (by decide +kernel) (by decide +kernel) (by decide +kernel)
theorem r149_99 : am_T d 149 99 ls st S I J Q = am_T d 149 101 ls (.int 35 :: st) S I J Q := tr_bipush (m := 35) (by decide +kernel) (by decide)
theorem r149_101 : am_T d 149 101 [some (.ref a0), l1, l2, l3, l4] st S I J Q = am_T d 149 102 [some (.ref a0), l1, l2, l3, l4] (.ref a0 :: st) S I J Q := tr_aload_n (m := 0) (by decide +kernel) rfl
theorem r149_102 : am_T d 149 102 ls (.ref a0 :: st) S I J Q = ((am_is S a0 9 ∧ am_rf S a0 19 ≠ 0) ∧ am_T d 149 105 ls (.ref (am_rf S a0 19) :: st) S I J Q) := tr_geta (k := 44) (by decide +kernel) (by decide +kernel) (by decide +kernel)
theorem r149_105 : am_T d 149 105 [l0, l1, l2, some (.int x0), l4] st S I J Q = am_T d 149 106 [l0, l1, l2, some (.int x0), l4] (.int x0 :: st) S I J Q := tr_iload_n (m := 3) (by decide +kernel) rfl
theorem r149_106 : am_T d 149 106 ls (.int x0 :: .ref a0 :: st) S I J Q = (am_ix S a0 20 x0 ∧ am_T d 149 107 ls (.int (I a0 x0.toNatClampNeg) :: st) S I J Q) := tr_iald (by decide +kernel)
theorem r149_107 : am_T d 149 107 ls (.int x1 :: .int x0 :: st) S I J Q = am_T d 149 108 ls (.int (x0 + x1) :: st) S I J Q := tr_iadd (by decide +kernel)
theorem r149_108 : am_T d 149 108 ls (.int x0 :: .ref a0 :: st) S I J Q = (am_ix S a0 20 x0 ∧ am_T d 149 109 ls (.int (I a0 x0.toNatClampNeg) :: st) S I J Q) := tr_iald (by decide +kernel)
theorem r149_109 : am_T d 149 109 ls (.int x1 :: .int x0 :: st) S I J Q = am_T d 149 110 ls (.int (x0 >>> (x1 &&& 31)) :: st) S I J Q := tr_ishr (by decide +kernel)
theorem r149_110 : am_T d 149 110 ls st S I J Q = am_T d 149 111 ls (.int 1 :: st) S I J Q := tr_iconst (m := 1) (by decide +kernel) (by decide)
theorem r149_111 : am_T d 149 111 ls (.int x1 :: .int x0 :: st) S I J Q = am_T d 149 112 ls (.int (x0 &&& x1) :: st) S I J Q := tr_iand (by decide +kernel)
theorem r149_112 : am_T d 149 112 ls st S I J Q = am_T d 149 113 ls (.int 1 :: st) S I J Q := tr_iconst (m := 1) (by decide +kernel) (by decide)
theorem r149_113 : am_T d 149 113 ls (.int x1 :: .int x0 :: st) S I J Q = if x0 = x1 then am_T d 149 116 ls st S I J Q else am_T d 149 120 ls st S I J Q := tr_icmpne (o := 7) (by decide +kernel) rfl
theorem r149_116 : am_T d 149 116 ls st S I J Q = am_T d 149 117 ls (.int 1 :: st) S I J Q := tr_iconst (m := 1) (by decide +kernel) (by decide)
theorem r149_117 : am_T d 149 117 ls st S I J Q = am_T d 149 121 ls st S I J Q := tr_goto (o := 4) (by decide +kernel) rfl
theorem r149_120 : am_T d 149 120 ls st S I J Q = am_T d 149 121 ls (.int 0 :: st) S I J Q := tr_iconst (m := 0) (by decide +kernel) (by decide)
theorem r149_121 : am_T d 149 121 [l0, l1, l2, l3, l4] (.int x0 :: st) S I J Q = am_T d 149 123 [l0, l1, l2, am_clr l3, some (.int x0)] st S I J Q := tr_istore (k := 4) (by decide +kernel) (Nat.le_of_ble_eq_true rfl) rfl
theorem r149_123 : am_T d 149 123 [some (.ref a0), l1, l2, l3, l4] st S I J Q = am_T d 149 124 [some (.ref a0), l1, l2, l3, l4] (.ref a0 :: st) S I J Q := tr_aload_n (m := 0) (by decide +kernel) rfl
theorem r149_124 : am_T d 149 124 ls (.ref a0 :: st) S I J Q = ((am_is S a0 9 ∧ am_rf S a0 19 ≠ 0) ∧ am_T d 149 127 ls (.ref (am_rf S a0 19) :: st) S I J Q) := tr_geta (k := 44) (by decide +kernel) (by decide +kernel) (by decide +kernel)
theorem r149_127 : am_T d 149 127 [l0, l1, some (.int x0), l3, l4] st S I J Q = am_T d 149 128 [l0, l1, some (.int x0), l3, l4] (.int x0 :: st) S I J Q := tr_iload_n (m := 2) (by decide +kernel) rfl
theorem r149_128 : am_T d 149 128 [l0, l1, l2, l3, some (.int x0)] st S I J Q = am_T d 149 130 [l0, l1, l2, l3, some (.int x0)] (.int x0 :: st) S I J Q := tr_iload (k := 4) (by decide +kernel) rfl
theorem r149_130 : am_T d 149 130 ls (.int x0 :: st) S I J Q = if x0 = 0 then am_T d 149 142 ls st S I J Q else am_T d 149 133 ls st S I J Q := tr_ifeq (o := 12) (by decide +kernel) rfl
theorem r149_133 : am_T d 149 133 [some (.ref a0), l1, l2, l3, l4] st S I J Q = am_T d 149 134 [some (.ref a0), l1, l2, l3, l4] (.ref a0 :: st) S I J Q := tr_aload_n (m := 0) (by decide +kernel) rfl
theorem r149_134 : am_T d 149 134 ls (.ref a0 :: st) S I J Q = ((am_is S a0 9 ∧ am_rf S a0 19 ≠ 0) ∧ am_T d 149 137 ls (.ref (am_rf S a0 19) :: st) S I J Q) := tr_geta (k := 44) (by decide +kernel) (by decide +kernel) (by decide +kernel)
theorem r149_137 : am_T d 149 137 [l0, l1, l2, some (.int x0), l4] st S I J Q = am_T d 149 138 [l0, l1, l2, some (.int x0), l4] (.int x0 :: st) S I J Q := tr_iload_n (m := 3) (by decide +kernel) rfl
theorem r149_138 : am_T d 149 138 ls (.int x0 :: .ref a0 :: st) S I J Q = (am_ix S a0 20 x0 ∧ am_T d 149 139 ls (.int (I a0 x0.toNatClampNeg) :: st) S I J Q) := tr_iald (by decide +kernel)
theorem r149_139 : am_T d 149 139 ls st S I J Q = am_T d 149 148 ls st S I J Q := tr_goto (o := 9) (by decide +kernel) rfl
theorem r149_142 : am_T d 149 142 [some (.ref a0), l1, l2, l3, l4] st S I J Q = am_T d 149 143 [some (.ref a0), l1, l2, l3, l4] (.ref a0 :: st) S I J Q := tr_aload_n (m := 0) (by decide +kernel) rfl
theorem r149_143 : am_T d 149 143 ls (.ref a0 :: st) S I J Q = ((am_is S a0 9 ∧ am_rf S a0 18 ≠ 0) ∧ am_T d 149 146 ls (.ref (am_rf S a0 18) :: st) S I J Q) := tr_geta (k := 41) (by decide +kernel) (by decide +kernel) (by decide +kernel)
theorem r149_146 : am_T d 149 146 [l0, l1, some (.int x0), l3, l4] st S I J Q = am_T d 149 147 [l0, l1, some (.int x0), l3, l4] (.int x0 :: st) S I J Q := tr_iload_n (m := 2) (by decide +kernel) rfl
theorem r149_147 : am_T d 149 147 ls (.int x0 :: .ref a0 :: st) S I J Q = (am_ix S a0 20 x0 ∧ am_T d 149 148 ls (.int (I a0 x0.toNatClampNeg) :: st) S I J Q) := tr_iald (by decide +kernel)
theorem r149_148 : am_T d 149 148 ls (.int x1 :: .int x0 :: .ref a0 :: st) S I J Q = (am_ixw S a0 20 x0 ∧ am_T d 149 149 ls st S (am_up I a0 x0.toNatClampNeg x1) J Q) := tr_iast (by decide +kernel)
theorem r149_149 : am_T d 149 149 [l0, l1, some (.int x0), l3, l4] st S I J Q = am_T d 149 152 [l0, am_clr l1, some (.int (x0 + (-1))), l3, l4] st S I J Q := tr_iinc (k := 2) (m := -1) (by decide +kernel) rfl (Nat.le_of_ble_eq_true rfl) (by decide) rfl
theorem r149_152 : am_T d 149 152 ls st S I J Q = am_T d 149 72 ls st S I J Q := tr_goto (o := -80) (by decide +kernel) rfl
theorem r149_155 : am_T d 149 155 ls st S I J Q = am_T d 149 156 ls (.int 1 :: st) S I J Q := tr_iconst (m := 1) (by decide +kernel) (by decide)
theorem r149_156 : am_T d 149 156 ls [.int x0] S I J Q = ((x0 = 0 ∨ x0 = 1) ∧ Q (some (.int x0)) S I J) := tr_iretz (by decide +kernel) (by decide +kernel)
-- 150 Mod.useAll()V; heads [2]
theorem e150 : am_C (d + 1) 150 [.ref a0] S I J Q = am_T d 150 0 [some (.ref a0), none] [] S I J Q := tr_en (Nat.le_of_ble_eq_true rfl) rfl
theorem r150_0 : am_T d 150 0 ls st S I J Q = am_T d 150 1 ls (.int 0 :: st) S I J Q := tr_iconst (m := 0) (by decide +kernel) (by decide)
theorem r150_1 : am_T d 150 1 [l0, l1] (.int x0 :: st) S I J Q = am_T d 150 2 [am_clr l0, some (.int x0)] st S I J Q := tr_istore_n (m := 1) (by decide +kernel) (Nat.le_of_ble_eq_true rfl) rfl
theorem r150_2 : am_T d 150 2 [l0, some (.int x0)] st S I J Q = am_T d 150 3 [l0, some (.int x0)] (.int x0 :: st) S I J Q := tr_iload_n (m := 1) (by decide +kernel) rfl
theorem r150_3 : am_T d 150 3 [some (.ref a0), l1] st S I J Q = am_T d 150 4 [some (.ref a0), l1] (.ref a0 :: st) S I J Q := tr_aload_n (m := 0) (by decide +kernel) rfl
theorem r150_4 : am_T d 150 4 ls (.ref a0 :: st) S I J Q = ((am_is S a0 9 ∧ am_rf S a0 0 ≠ 0) ∧ am_T d 150 7 ls (.ref (am_rf S a0 0) :: st) S I J Q) := tr_geta (k := 7) (by decide +kernel) (by decide +kernel) (by decide +kernel)
theorem r150_7 : am_T d 150 7 ls st S I J Q = am_T d 150 8 ls (.int 2 :: st) S I J Q := tr_iconst (m := 2) (by decide +kernel) (by decide)
theorem r150_8 : am_T d 150 8 ls (.int x0 :: .ref a0 :: st) S I J Q = (am_ix S a0 20 x0 ∧ am_T d 150 9 ls (.int (I a0 x0.toNatClampNeg) :: st) S I J Q) := tr_iald (by decide +kernel)
theorem r150_9 : am_T d 150 9 ls (.int x1 :: .int x0 :: st) S I J Q = if x1 ≤ x0 then am_T d 150 40 ls st S I J Q else am_T d 150 12 ls st S I J Q := tr_icmpge (o := 31) (by decide +kernel) rfl
theorem r150_12 : am_T d 150 12 [some (.ref a0), l1] st S I J Q = am_T d 150 13 [some (.ref a0), l1] (.ref a0 :: st) S I J Q := tr_aload_n (m := 0) (by decide +kernel) rfl
theorem r150_13 : am_T d 150 13 ls (.ref a0 :: st) S I J Q = ((am_is S a0 9 ∧ am_rf S a0 13 ≠ 0) ∧ am_T d 150 16 ls (.ref (am_rf S a0 13) :: st) S I J Q) := tr_geta (k := 25) (by decide +kernel) (by decide +kernel) (by decide +kernel)
theorem r150_16 : am_T d 150 16 [l0, some (.int x0)] st S I J Q = am_T d 150 17 [l0, some (.int x0)] (.int x0 :: st) S I J Q := tr_iload_n (m := 1) (by decide +kernel) rfl
theorem r150_17 : am_T d 150 17 [some (.ref a0), l1] st S I J Q = am_T d 150 18 [some (.ref a0), l1] (.ref a0 :: st) S I J Q := tr_aload_n (m := 0) (by decide +kernel) rfl
theorem r150_18 : am_T d 150 18 ls (.ref a0 :: st) S I J Q = ((am_is S a0 9 ∧ am_rf S a0 0 ≠ 0) ∧ am_T d 150 21 ls (.ref (am_rf S a0 0) :: st) S I J Q) := tr_geta (k := 7) (by decide +kernel) (by decide +kernel) (by decide +kernel)
theorem r150_21 : am_T d 150 21 ls st S I J Q = am_T d 150 23 ls (.int 67 :: st) S I J Q := tr_bipush (m := 67) (by decide +kernel) (by decide)
theorem r150_23 : am_T d 150 23 [l0, some (.int x0)] st S I J Q = am_T d 150 24 [l0, some (.int x0)] (.int x0 :: st) S I J Q := tr_iload_n (m := 1) (by decide +kernel) rfl
theorem r150_24 : am_T d 150 24 ls (.int x1 :: .int x0 :: st) S I J Q = am_T d 150 25 ls (.int (x0 + x1) :: st) S I J Q := tr_iadd (by decide +kernel)
theorem r150_25 : am_T d 150 25 ls (.int x0 :: .ref a0 :: st) S I J Q = (am_ix S a0 20 x0 ∧ am_T d 150 26 ls (.int (I a0 x0.toNatClampNeg) :: st) S I J Q) := tr_iald (by decide +kernel)
theorem r150_26 : am_T d 150 26 ls (.int x1 :: .int x0 :: .ref a0 :: st) S I J Q = (am_ixw S a0 20 x0 ∧ am_T d 150 27 ls st S (am_up I a0 x0.toNatClampNeg x1) J Q) := tr_iast (by decide +kernel)
theorem r150_27 : am_T d 150 27 [some (.ref a0), l1] st S I J Q = am_T d 150 28 [some (.ref a0), l1] (.ref a0 :: st) S I J Q := tr_aload_n (m := 0) (by decide +kernel) rfl
theorem r150_28 : am_T d 150 28 ls (.ref a0 :: st) S I J Q = ((am_is S a0 9 ∧ am_rf S a0 14 ≠ 0) ∧ am_T d 150 31 ls (.ref (am_rf S a0 14) :: st) S I J Q) := tr_geta (k := 28) (by decide +kernel) (by decide +kernel) (by decide +kernel)
theorem r150_31 : am_T d 150 31 [l0, some (.int x0)] st S I J Q = am_T d 150 32 [l0, some (.int x0)] (.int x0 :: st) S I J Q := tr_iload_n (m := 1) (by decide +kernel) rfl
theorem r150_32 : am_T d 150 32 ls st S I J Q = am_T d 150 33 ls (.int 1 :: st) S I J Q := tr_iconst (m := 1) (by decide +kernel) (by decide)
theorem r150_33 : am_T d 150 33 ls (.int x1 :: .int x0 :: .ref a0 :: st) S I J Q = ((am_ixw S a0 21 x0 ∧ (x1 = 0 ∨ x1 = 1)) ∧ am_T d 150 34 ls st S (am_up I a0 x0.toNatClampNeg x1) J Q) := tr_bast (by decide +kernel)
theorem r150_34 : am_T d 150 34 [l0, some (.int x0)] st S I J Q = am_T d 150 37 [am_clr l0, some (.int (x0 + 1))] st S I J Q := tr_iinc (k := 1) (m := 1) (by decide +kernel) rfl (Nat.le_of_ble_eq_true rfl) (by decide) rfl
theorem r150_37 : am_T d 150 37 ls st S I J Q = am_T d 150 2 ls st S I J Q := tr_goto (o := -35) (by decide +kernel) rfl
theorem r150_40 : am_T d 150 40 ls [] S I J Q = Q none S I J := tr_vret (by decide +kernel) (by decide +kernel)
-- 151 Mod.sum()I; heads [4]
theorem e151 : am_C (d + 1) 151 [.ref a0] S I J Q = am_T d 151 0 [some (.ref a0), none, none] [] S I J Q := tr_en (Nat.le_of_ble_eq_true rfl) rfl
theorem r151_0 : am_T d 151 0 ls st S I J Q = am_T d 151 1 ls (.int 0 :: st) S I J Q := tr_iconst (m := 0) (by decide +kernel) (by decide)
theorem r151_1 : am_T d 151 1 [l0, l1, l2] (.int x0 :: st) S I J Q = am_T d 151 2 [am_clr l0, some (.int x0), l2] st S I J Q := tr_istore_n (m := 1) (by decide +kernel) (Nat.le_of_ble_eq_true rfl) rfl
theorem r151_2 : am_T d 151 2 ls st S I J Q = am_T d 151 3 ls (.int 0 :: st) S I J Q := tr_iconst (m := 0) (by decide +kernel) (by decide)
theorem r151_3 : am_T d 151 3 [l0, l1, l2] (.int x0 :: st) S I J Q = am_T d 151 4 [l0, am_clr l1, some (.int x0)] st S I J Q := tr_istore_n (m := 2) (by decide +kernel) (Nat.le_of_ble_eq_true rfl) rfl
theorem r151_4 : am_T d 151 4 [l0, l1, some (.int x0)] st S I J Q = am_T d 151 5 [l0, l1, some (.int x0)] (.int x0 :: st) S I J Q := tr_iload_n (m := 2) (by decide +kernel) rfl
theorem r151_5 : am_T d 151 5 [some (.ref a0), l1, l2] st S I J Q = am_T d 151 6 [some (.ref a0), l1, l2] (.ref a0 :: st) S I J Q := tr_aload_n (m := 0) (by decide +kernel) rfl
theorem r151_6 : am_T d 151 6 ls (.ref a0 :: st) S I J Q = ((am_is S a0 9 ∧ am_rf S a0 0 ≠ 0) ∧ am_T d 151 9 ls (.ref (am_rf S a0 0) :: st) S I J Q) := tr_geta (k := 7) (by decide +kernel) (by decide +kernel) (by decide +kernel)
theorem r151_9 : am_T d 151 9 ls st S I J Q = am_T d 151 10 ls (.int 0 :: st) S I J Q := tr_iconst (m := 0) (by decide +kernel) (by decide)
theorem r151_10 : am_T d 151 10 ls (.int x0 :: .ref a0 :: st) S I J Q = (am_ix S a0 20 x0 ∧ am_T d 151 11 ls (.int (I a0 x0.toNatClampNeg) :: st) S I J Q) := tr_iald (by decide +kernel)
theorem r151_11 : am_T d 151 11 ls (.int x1 :: .int x0 :: st) S I J Q = if x1 ≤ x0 then am_T d 151 48 ls st S I J Q else am_T d 151 14 ls st S I J Q := tr_icmpge (o := 37) (by decide +kernel) rfl
theorem r151_14 : am_T d 151 14 [l0, some (.int x0), l2] st S I J Q = am_T d 151 15 [l0, some (.int x0), l2] (.int x0 :: st) S I J Q := tr_iload_n (m := 1) (by decide +kernel) rfl
theorem r151_15 : am_T d 151 15 [l0, l1, some (.int x0)] st S I J Q = am_T d 151 16 [l0, l1, some (.int x0)] (.int x0 :: st) S I J Q := tr_iload_n (m := 2) (by decide +kernel) rfl
theorem r151_16 : am_T d 151 16 [some (.ref a0), l1, l2] st S I J Q = am_T d 151 17 [some (.ref a0), l1, l2] (.ref a0 :: st) S I J Q := tr_aload_n (m := 0) (by decide +kernel) rfl
theorem r151_17 : am_T d 151 17 ls (.ref a0 :: st) S I J Q = ((am_is S a0 9 ∧ am_rf S a0 0 ≠ 0) ∧ am_T d 151 20 ls (.ref (am_rf S a0 0) :: st) S I J Q) := tr_geta (k := 7) (by decide +kernel) (by decide +kernel) (by decide +kernel)
theorem r151_20 : am_T d 151 20 ls st S I J Q = am_T d 151 21 ls (.int 1 :: st) S I J Q := tr_iconst (m := 1) (by decide +kernel) (by decide)
theorem r151_21 : am_T d 151 21 ls (.int x0 :: .ref a0 :: st) S I J Q = (am_ix S a0 20 x0 ∧ am_T d 151 22 ls (.int (I a0 x0.toNatClampNeg) :: st) S I J Q) := tr_iald (by decide +kernel)
theorem r151_22 : am_T d 151 22 ls (.int x1 :: .int x0 :: st) S I J Q = if x0 = x1 then am_T d 151 25 ls st S I J Q else am_T d 151 29 ls st S I J Q := tr_icmpne (o := 7) (by decide +kernel) rfl
theorem r151_25 : am_T d 151 25 ls st S I J Q = am_T d 151 26 ls (.int 0 :: st) S I J Q := tr_iconst (m := 0) (by decide +kernel) (by decide)
theorem r151_26 : am_T d 151 26 ls st S I J Q = am_T d 151 40 ls st S I J Q := tr_goto (o := 14) (by decide +kernel) rfl
theorem r151_29 : am_T d 151 29 [some (.ref a0), l1, l2] st S I J Q = am_T d 151 30 [some (.ref a0), l1, l2] (.ref a0 :: st) S I J Q := tr_aload_n (m := 0) (by decide +kernel) rfl
theorem r151_30 : am_T d 151 30 ls (.ref a0 :: st) S I J Q = ((am_is S a0 9 ∧ am_rf S a0 13 ≠ 0) ∧ am_T d 151 33 ls (.ref (am_rf S a0 13) :: st) S I J Q) := tr_geta (k := 25) (by decide +kernel) (by decide +kernel) (by decide +kernel)
theorem r151_33 : am_T d 151 33 [some (.ref a0), l1, l2] st S I J Q = am_T d 151 34 [some (.ref a0), l1, l2] (.ref a0 :: st) S I J Q := tr_aload_n (m := 0) (by decide +kernel) rfl
theorem r151_34 : am_T d 151 34 ls (.ref a0 :: st) S I J Q = ((am_is S a0 9 ∧ am_rf S a0 19 ≠ 0) ∧ am_T d 151 37 ls (.ref (am_rf S a0 19) :: st) S I J Q) := tr_geta (k := 44) (by decide +kernel) (by decide +kernel) (by decide +kernel)
theorem r151_37 : am_T d 151 37 [l0, l1, some (.int x0)] st S I J Q = am_T d 151 38 [l0, l1, some (.int x0)] (.int x0 :: st) S I J Q := tr_iload_n (m := 2) (by decide +kernel) rfl
theorem r151_38 : am_T d 151 38 ls (.int x0 :: .ref a0 :: st) S I J Q = (am_ix S a0 20 x0 ∧ am_T d 151 39 ls (.int (I a0 x0.toNatClampNeg) :: st) S I J Q) := tr_iald (by decide +kernel)
theorem r151_39 : am_T d 151 39 ls (.int x0 :: .ref a0 :: st) S I J Q = (am_ix S a0 20 x0 ∧ am_T d 151 40 ls (.int (I a0 x0.toNatClampNeg) :: st) S I J Q) := tr_iald (by decide +kernel)
theorem r151_40 : am_T d 151 40 ls (.int x1 :: .int x0 :: st) S I J Q = am_T d 151 41 ls (.int (x0 + x1) :: st) S I J Q := tr_iadd (by decide +kernel)
theorem r151_41 : am_T d 151 41 [l0, l1, l2] (.int x0 :: st) S I J Q = am_T d 151 42 [am_clr l0, some (.int x0), l2] st S I J Q := tr_istore_n (m := 1) (by decide +kernel) (Nat.le_of_ble_eq_true rfl) rfl
theorem r151_42 : am_T d 151 42 [l0, l1, some (.int x0)] st S I J Q = am_T d 151 45 [l0, am_clr l1, some (.int (x0 + 1))] st S I J Q := tr_iinc (k := 2) (m := 1) (by decide +kernel) rfl (Nat.le_of_ble_eq_true rfl) (by decide) rfl
theorem r151_45 : am_T d 151 45 ls st S I J Q = am_T d 151 4 ls st S I J Q := tr_goto (o := -41) (by decide +kernel) rfl
theorem r151_48 : am_T d 151 48 [l0, some (.int x0), l2] st S I J Q = am_T d 151 49 [l0, some (.int x0), l2] (.int x0 :: st) S I J Q := tr_iload_n (m := 1) (by decide +kernel) rfl
theorem r151_49 : am_T d 151 49 ls [.int x0] S I J Q = Q (some (.int x0)) S I J := tr_ireti (by decide +kernel) (by decide +kernel)
-- 152 Mod.hasRecord()Z; heads [57, 119]
theorem e152 : am_C (d + 1) 152 [.ref a0] S I J Q = am_T d 152 0 [some (.ref a0), none] [] S I J Q := tr_en (Nat.le_of_ble_eq_true rfl) rfl
theorem r152_0 : am_T d 152 0 [some (.ref a0), l1] st S I J Q = am_T d 152 1 [some (.ref a0), l1] (.ref a0 :: st) S I J Q := tr_aload_n (m := 0) (by decide +kernel) rfl
theorem r152_1 : am_T d 152 1 ls (.ref a0 :: st) S I J Q = ((am_is S a0 9 ∧ am_rf S a0 0 ≠ 0) ∧ am_T d 152 4 ls (.ref (am_rf S a0 0) :: st) S I J Q) := tr_geta (k := 7) (by decide +kernel) (by decide +kernel) (by decide +kernel)
theorem r152_4 : am_T d 152 4 ls st S I J Q = am_T d 152 6 ls (.int 107 :: st) S I J Q := tr_bipush (m := 107) (by decide +kernel) (by decide)
theorem r152_6 : am_T d 152 6 ls (.int x0 :: .ref a0 :: st) S I J Q = (am_ix S a0 20 x0 ∧ am_T d 152 7 ls (.int (I a0 x0.toNatClampNeg) :: st) S I J Q) := tr_iald (by decide +kernel)
theorem r152_7 : am_T d 152 7 ls st S I J Q = am_T d 152 8 ls (.int 1 :: st) S I J Q := tr_iconst (m := 1) (by decide +kernel) (by decide)
theorem r152_8 : am_T d 152 8 ls (.int x1 :: .int x0 :: st) S I J Q = if x0 = x1 then am_T d 152 11 ls st S I J Q else am_T d 152 13 ls st S I J Q := tr_icmpne (o := 5) (by decide +kernel) rfl
theorem r152_11 : am_T d 152 11 ls st S I J Q = am_T d 152 12 ls (.int 1 :: st) S I J Q := tr_iconst (m := 1) (by decide +kernel) (by decide)
theorem r152_12 : am_T d 152 12 ls [.int x0] S I J Q = ((x0 = 0 ∨ x0 = 1) ∧ Q (some (.int x0)) S I J) := tr_iretz (by decide +kernel) (by decide +kernel)
theorem r152_13 : am_T d 152 13 [some (.ref a0), l1] st S I J Q = am_T d 152 14 [some (.ref a0), l1] (.ref a0 :: st) S I J Q := tr_aload_n (m := 0) (by decide +kernel) rfl
theorem r152_14 : am_T d 152 14 ls (.ref a0 :: st) S I J Q = am_T d 152 15 ls (.ref a0 :: .ref a0 :: st) S I J Q := tr_dupa (by decide +kernel)
theorem r152_15 : am_T d 152 15 ls (.ref a0 :: st) S I J Q = (am_is S a0 9 ∧ am_T d 152 18 ls (.int (I a0 5) :: st) S I J Q) := tr_geti (k := 159) (by decide +kernel) (by decide +kernel) (Or.inl (by decide +kernel))
theorem r152_18 : am_T d 152 18 ls st S I J Q = am_T d 152 19 ls (.int 1 :: st) S I J Q := tr_iconst (m := 1) (by decide +kernel) (by decide)
theorem r152_19 : am_T d 152 19 ls (.int x1 :: .int x0 :: st) S I J Q = am_T d 152 20 ls (.int (x0 + x1) :: st) S I J Q := tr_iadd (by decide +kernel)
theorem r152_20 : am_T d 152 20 ls (.int x0 :: .ref a0 :: st) S I J Q = (am_is S a0 9 ∧ am_T d 152 23 ls st S (am_up I a0 5 x0) J Q) := tr_puti (k := 159) (by decide +kernel) (by decide +kernel) (by decide +kernel) (by decide +kernel)
theorem r152_23 : am_T d 152 23 [some (.ref a0), l1] st S I J Q = am_T d 152 24 [some (.ref a0), l1] (.ref a0 :: st) S I J Q := tr_aload_n (m := 0) (by decide +kernel) rfl
theorem r152_24 : am_T d 152 24 ls [.ref a0] S I J Q = (am_is S a0 9 ∧ am_C d 150 [.ref a0] S I J (fun r S I J => am_T d 152 27 ls (am_psh r []) S I J Q)) := tr_virt (k := 162) (by decide +kernel) (by decide +kernel) rfl rfl (Nat.le_of_ble_eq_true rfl) (by decide +kernel)
theorem r152_27 : am_T d 152 27 [some (.ref a0), l1] st S I J Q = am_T d 152 28 [some (.ref a0), l1] (.ref a0 :: st) S I J Q := tr_aload_n (m := 0) (by decide +kernel) rfl
theorem r152_28 : am_T d 152 28 ls [.ref a0] S I J Q = (am_is S a0 9 ∧ am_C d 149 [.ref a0] S I J (fun r S I J => am_T d 152 31 ls (am_psh r []) S I J Q)) := tr_virt (k := 165) (by decide +kernel) (by decide +kernel) rfl rfl (Nat.le_of_ble_eq_true rfl) (by decide +kernel)
theorem r152_31 : am_T d 152 31 ls (.int x0 :: st) S I J Q = if x0 = 0 then am_T d 152 34 ls st S I J Q else am_T d 152 36 ls st S I J Q := tr_ifne (o := 5) (by decide +kernel) rfl
theorem r152_34 : am_T d 152 34 ls st S I J Q = am_T d 152 35 ls (.int 0 :: st) S I J Q := tr_iconst (m := 0) (by decide +kernel) (by decide)
theorem r152_35 : am_T d 152 35 ls [.int x0] S I J Q = ((x0 = 0 ∨ x0 = 1) ∧ Q (some (.int x0)) S I J) := tr_iretz (by decide +kernel) (by decide +kernel)
theorem r152_36 : am_T d 152 36 [some (.ref a0), l1] st S I J Q = am_T d 152 37 [some (.ref a0), l1] (.ref a0 :: st) S I J Q := tr_aload_n (m := 0) (by decide +kernel) rfl
theorem r152_37 : am_T d 152 37 ls (.ref a0 :: st) S I J Q = ((am_is S a0 9 ∧ am_rf S a0 0 ≠ 0) ∧ am_T d 152 40 ls (.ref (am_rf S a0 0) :: st) S I J Q) := tr_geta (k := 7) (by decide +kernel) (by decide +kernel) (by decide +kernel)
theorem r152_40 : am_T d 152 40 ls st S I J Q = am_T d 152 42 ls (.int 107 :: st) S I J Q := tr_bipush (m := 107) (by decide +kernel) (by decide)
theorem r152_42 : am_T d 152 42 ls st S I J Q = am_T d 152 43 ls (.int 1 :: st) S I J Q := tr_iconst (m := 1) (by decide +kernel) (by decide)
theorem r152_43 : am_T d 152 43 ls (.int x1 :: .int x0 :: .ref a0 :: st) S I J Q = (am_ixw S a0 20 x0 ∧ am_T d 152 44 ls st S (am_up I a0 x0.toNatClampNeg x1) J Q) := tr_iast (by decide +kernel)
theorem r152_44 : am_T d 152 44 [some (.ref a0), l1] st S I J Q = am_T d 152 45 [some (.ref a0), l1] (.ref a0 :: st) S I J Q := tr_aload_n (m := 0) (by decide +kernel) rfl
theorem r152_45 : am_T d 152 45 ls (.ref a0 :: st) S I J Q = ((am_is S a0 9 ∧ am_rf S a0 0 ≠ 0) ∧ am_T d 152 48 ls (.ref (am_rf S a0 0) :: st) S I J Q) := tr_geta (k := 7) (by decide +kernel) (by decide +kernel) (by decide +kernel)
theorem r152_48 : am_T d 152 48 ls st S I J Q = am_T d 152 50 ls (.int 108 :: st) S I J Q := tr_bipush (m := 108) (by decide +kernel) (by decide)
theorem r152_50 : am_T d 152 50 [some (.ref a0), l1] st S I J Q = am_T d 152 51 [some (.ref a0), l1] (.ref a0 :: st) S I J Q := tr_aload_n (m := 0) (by decide +kernel) rfl
theorem r152_51 : am_T d 152 51 ls (.ref a0 :: st) S I J Q = (am_is S a0 9 ∧ am_T d 152 54 ls (.int (I a0 20) :: st) S I J Q) := tr_geti (k := 132) (by decide +kernel) (by decide +kernel) (Or.inl (by decide +kernel))
theorem r152_54 : am_T d 152 54 ls (.int x1 :: .int x0 :: .ref a0 :: st) S I J Q = (am_ixw S a0 20 x0 ∧ am_T d 152 55 ls st S (am_up I a0 x0.toNatClampNeg x1) J Q) := tr_iast (by decide +kernel)
theorem r152_55 : am_T d 152 55 ls st S I J Q = am_T d 152 56 ls (.int 0 :: st) S I J Q := tr_iconst (m := 0) (by decide +kernel) (by decide)
theorem r152_56 : am_T d 152 56 [l0, l1] (.int x0 :: st) S I J Q = am_T d 152 57 [am_clr l0, some (.int x0)] st S I J Q := tr_istore_n (m := 1) (by decide +kernel) (Nat.le_of_ble_eq_true rfl) rfl
theorem r152_57 : am_T d 152 57 [l0, some (.int x0)] st S I J Q = am_T d 152 58 [l0, some (.int x0)] (.int x0 :: st) S I J Q := tr_iload_n (m := 1) (by decide +kernel) rfl
theorem r152_58 : am_T d 152 58 [some (.ref a0), l1] st S I J Q = am_T d 152 59 [some (.ref a0), l1] (.ref a0 :: st) S I J Q := tr_aload_n (m := 0) (by decide +kernel) rfl
theorem r152_59 : am_T d 152 59 ls (.ref a0 :: st) S I J Q = (am_is S a0 9 ∧ am_T d 152 62 ls (.int (I a0 20) :: st) S I J Q) := tr_geti (k := 132) (by decide +kernel) (by decide +kernel) (Or.inl (by decide +kernel))
theorem r152_62 : am_T d 152 62 ls (.int x1 :: .int x0 :: st) S I J Q = if x1 ≤ x0 then am_T d 152 117 ls st S I J Q else am_T d 152 65 ls st S I J Q := tr_icmpge (o := 55) (by decide +kernel) rfl
theorem r152_65 : am_T d 152 65 [some (.ref a0), l1] st S I J Q = am_T d 152 66 [some (.ref a0), l1] (.ref a0 :: st) S I J Q := tr_aload_n (m := 0) (by decide +kernel) rfl
theorem r152_66 : am_T d 152 66 ls (.ref a0 :: st) S I J Q = ((am_is S a0 9 ∧ am_rf S a0 0 ≠ 0) ∧ am_T d 152 69 ls (.ref (am_rf S a0 0) :: st) S I J Q) := tr_geta (k := 7) (by decide +kernel) (by decide +kernel) (by decide +kernel)
theorem r152_69 : am_T d 152 69 ls st S I J Q = am_T d 152 71 ls (.int 109 :: st) S I J Q := tr_bipush (m := 109) (by decide +kernel) (by decide)
theorem r152_71 : am_T d 152 71 [l0, some (.int x0)] st S I J Q = am_T d 152 72 [l0, some (.int x0)] (.int x0 :: st) S I J Q := tr_iload_n (m := 1) (by decide +kernel) rfl
theorem r152_72 : am_T d 152 72 ls (.int x1 :: .int x0 :: st) S I J Q = am_T d 152 73 ls (.int (x0 + x1) :: st) S I J Q := tr_iadd (by decide +kernel)
theorem r152_73 : am_T d 152 73 [some (.ref a0), l1] st S I J Q = am_T d 152 74 [some (.ref a0), l1] (.ref a0 :: st) S I J Q := tr_aload_n (m := 0) (by decide +kernel) rfl
theorem r152_74 : am_T d 152 74 ls (.ref a0 :: st) S I J Q = ((am_is S a0 9 ∧ am_rf S a0 15 ≠ 0) ∧ am_T d 152 77 ls (.ref (am_rf S a0 15) :: st) S I J Q) := tr_geta (k := 32) (by decide +kernel) (by decide +kernel) (by decide +kernel)
theorem r152_77 : am_T d 152 77 [l0, some (.int x0)] st S I J Q = am_T d 152 78 [l0, some (.int x0)] (.int x0 :: st) S I J Q := tr_iload_n (m := 1) (by decide +kernel) rfl
theorem r152_78 : am_T d 152 78 ls (.int x0 :: .ref a0 :: st) S I J Q = (am_ix S a0 20 x0 ∧ am_T d 152 79 ls (.int (I a0 x0.toNatClampNeg) :: st) S I J Q) := tr_iald (by decide +kernel)
theorem r152_79 : am_T d 152 79 ls (.int x1 :: .int x0 :: .ref a0 :: st) S I J Q = (am_ixw S a0 20 x0 ∧ am_T d 152 80 ls st S (am_up I a0 x0.toNatClampNeg x1) J Q) := tr_iast (by decide +kernel)
theorem r152_80 : am_T d 152 80 [some (.ref a0), l1] st S I J Q = am_T d 152 81 [some (.ref a0), l1] (.ref a0 :: st) S I J Q := tr_aload_n (m := 0) (by decide +kernel) rfl
theorem r152_81 : am_T d 152 81 ls (.ref a0 :: st) S I J Q = ((am_is S a0 9 ∧ am_rf S a0 0 ≠ 0) ∧ am_T d 152 84 ls (.ref (am_rf S a0 0) :: st) S I J Q) := tr_geta (k := 7) (by decide +kernel) (by decide +kernel) (by decide +kernel)
theorem r152_84 : am_T d 152 84 ls st S I J Q = am_T d 152 86 ls (.int 125 :: st) S I J Q := tr_bipush (m := 125) (by decide +kernel) (by decide)
theorem r152_86 : am_T d 152 86 [l0, some (.int x0)] st S I J Q = am_T d 152 87 [l0, some (.int x0)] (.int x0 :: st) S I J Q := tr_iload_n (m := 1) (by decide +kernel) rfl
theorem r152_87 : am_T d 152 87 ls (.int x1 :: .int x0 :: st) S I J Q = am_T d 152 88 ls (.int (x0 + x1) :: st) S I J Q := tr_iadd (by decide +kernel)
theorem r152_88 : am_T d 152 88 [some (.ref a0), l1] st S I J Q = am_T d 152 89 [some (.ref a0), l1] (.ref a0 :: st) S I J Q := tr_aload_n (m := 0) (by decide +kernel) rfl
theorem r152_89 : am_T d 152 89 ls (.ref a0 :: st) S I J Q = ((am_is S a0 9 ∧ am_rf S a0 16 ≠ 0) ∧ am_T d 152 92 ls (.ref (am_rf S a0 16) :: st) S I J Q) := tr_geta (k := 35) (by decide +kernel) (by decide +kernel) (by decide +kernel)
theorem r152_92 : am_T d 152 92 [l0, some (.int x0)] st S I J Q = am_T d 152 93 [l0, some (.int x0)] (.int x0 :: st) S I J Q := tr_iload_n (m := 1) (by decide +kernel) rfl
theorem r152_93 : am_T d 152 93 ls (.int x0 :: .ref a0 :: st) S I J Q = (am_ix S a0 20 x0 ∧ am_T d 152 94 ls (.int (I a0 x0.toNatClampNeg) :: st) S I J Q) := tr_iald (by decide +kernel)
theorem r152_94 : am_T d 152 94 ls (.int x1 :: .int x0 :: .ref a0 :: st) S I J Q = (am_ixw S a0 20 x0 ∧ am_T d 152 95 ls st S (am_up I a0 x0.toNatClampNeg x1) J Q) := tr_iast (by decide +kernel)
theorem r152_95 : am_T d 152 95 [some (.ref a0), l1] st S I J Q = am_T d 152 96 [some (.ref a0), l1] (.ref a0 :: st) S I J Q := tr_aload_n (m := 0) (by decide +kernel) rfl
theorem r152_96 : am_T d 152 96 ls (.ref a0 :: st) S I J Q = ((am_is S a0 9 ∧ am_rf S a0 0 ≠ 0) ∧ am_T d 152 99 ls (.ref (am_rf S a0 0) :: st) S I J Q) := tr_geta (k := 7) (by decide +kernel) (by decide +kernel) (by decide +kernel)
theorem r152_99 : am_T d 152 99 ls st S I J Q = am_T d 152 102 ls (.int 141 :: st) S I J Q := tr_sipush (m := 141) (by decide +kernel) (by decide)
theorem r152_102 : am_T d 152 102 [l0, some (.int x0)] st S I J Q = am_T d 152 103 [l0, some (.int x0)] (.int x0 :: st) S I J Q := tr_iload_n (m := 1) (by decide +kernel) rfl
theorem r152_103 : am_T d 152 103 ls (.int x1 :: .int x0 :: st) S I J Q = am_T d 152 104 ls (.int (x0 + x1) :: st) S I J Q := tr_iadd (by decide +kernel)
theorem r152_104 : am_T d 152 104 [some (.ref a0), l1] st S I J Q = am_T d 152 105 [some (.ref a0), l1] (.ref a0 :: st) S I J Q := tr_aload_n (m := 0) (by decide +kernel) rfl
theorem r152_105 : am_T d 152 105 ls (.ref a0 :: st) S I J Q = ((am_is S a0 9 ∧ am_rf S a0 17 ≠ 0) ∧ am_T d 152 108 ls (.ref (am_rf S a0 17) :: st) S I J Q) := tr_geta (k := 38) (by decide +kernel) (by decide +kernel) (by decide +kernel)
theorem r152_108 : am_T d 152 108 [l0, some (.int x0)] st S I J Q = am_T d 152 109 [l0, some (.int x0)] (.int x0 :: st) S I J Q := tr_iload_n (m := 1) (by decide +kernel) rfl
theorem r152_109 : am_T d 152 109 ls (.int x0 :: .ref a0 :: st) S I J Q = (am_ix S a0 20 x0 ∧ am_T d 152 110 ls (.int (I a0 x0.toNatClampNeg) :: st) S I J Q) := tr_iald (by decide +kernel)
theorem r152_110 : am_T d 152 110 ls (.int x1 :: .int x0 :: .ref a0 :: st) S I J Q = (am_ixw S a0 20 x0 ∧ am_T d 152 111 ls st S (am_up I a0 x0.toNatClampNeg x1) J Q) := tr_iast (by decide +kernel)
theorem r152_111 : am_T d 152 111 [l0, some (.int x0)] st S I J Q = am_T d 152 114 [am_clr l0, some (.int (x0 + 1))] st S I J Q := tr_iinc (k := 1) (m := 1) (by decide +kernel) rfl (Nat.le_of_ble_eq_true rfl) (by decide) rfl
theorem r152_114 : am_T d 152 114 ls st S I J Q = am_T d 152 57 ls st S I J Q := tr_goto (o := -57) (by decide +kernel) rfl
theorem r152_117 : am_T d 152 117 ls st S I J Q = am_T d 152 118 ls (.int 0 :: st) S I J Q := tr_iconst (m := 0) (by decide +kernel) (by decide)
theorem r152_118 : am_T d 152 118 [l0, l1] (.int x0 :: st) S I J Q = am_T d 152 119 [am_clr l0, some (.int x0)] st S I J Q := tr_istore_n (m := 1) (by decide +kernel) (Nat.le_of_ble_eq_true rfl) rfl
theorem r152_119 : am_T d 152 119 [l0, some (.int x0)] st S I J Q = am_T d 152 120 [l0, some (.int x0)] (.int x0 :: st) S I J Q := tr_iload_n (m := 1) (by decide +kernel) rfl
theorem r152_120 : am_T d 152 120 [some (.ref a0), l1] st S I J Q = am_T d 152 121 [some (.ref a0), l1] (.ref a0 :: st) S I J Q := tr_aload_n (m := 0) (by decide +kernel) rfl
theorem r152_121 : am_T d 152 121 ls (.ref a0 :: st) S I J Q = ((am_is S a0 9 ∧ am_rf S a0 0 ≠ 0) ∧ am_T d 152 124 ls (.ref (am_rf S a0 0) :: st) S I J Q) := tr_geta (k := 7) (by decide +kernel) (by decide +kernel) (by decide +kernel)
theorem r152_124 : am_T d 152 124 ls st S I J Q = am_T d 152 125 ls (.int 0 :: st) S I J Q := tr_iconst (m := 0) (by decide +kernel) (by decide)
theorem r152_125 : am_T d 152 125 ls (.int x0 :: .ref a0 :: st) S I J Q = (am_ix S a0 20 x0 ∧ am_T d 152 126 ls (.int (I a0 x0.toNatClampNeg) :: st) S I J Q) := tr_iald (by decide +kernel)
theorem r152_126 : am_T d 152 126 ls (.int x1 :: .int x0 :: st) S I J Q = if x1 ≤ x0 then am_T d 152 166 ls st S I J Q else am_T d 152 129 ls st S I J Q := tr_icmpge (o := 40) (by decide +kernel) rfl
theorem r152_129 : am_T d 152 129 [some (.ref a0), l1] st S I J Q = am_T d 152 130 [some (.ref a0), l1] (.ref a0 :: st) S I J Q := tr_aload_n (m := 0) (by decide +kernel) rfl
theorem r152_130 : am_T d 152 130 ls (.ref a0 :: st) S I J Q = ((am_is S a0 9 ∧ am_rf S a0 0 ≠ 0) ∧ am_T d 152 133 ls (.ref (am_rf S a0 0) :: st) S I J Q) := tr_geta (k := 7) (by decide +kernel) (by decide +kernel) (by decide +kernel)
theorem r152_133 : am_T d 152 133 ls st S I J Q = am_T d 152 136 ls (.int 157 :: st) S I J Q := tr_sipush (m := 157) (by decide +kernel) (by decide)
theorem r152_136 : am_T d 152 136 [l0, some (.int x0)] st S I J Q = am_T d 152 137 [l0, some (.int x0)] (.int x0 :: st) S I J Q := tr_iload_n (m := 1) (by decide +kernel) rfl
theorem r152_137 : am_T d 152 137 ls (.int x1 :: .int x0 :: st) S I J Q = am_T d 152 138 ls (.int (x0 + x1) :: st) S I J Q := tr_iadd (by decide +kernel)
theorem r152_138 : am_T d 152 138 [l0, some (.int x0)] st S I J Q = am_T d 152 139 [l0, some (.int x0)] (.int x0 :: st) S I J Q := tr_iload_n (m := 1) (by decide +kernel) rfl
theorem r152_139 : am_T d 152 139 [some (.ref a0), l1] st S I J Q = am_T d 152 140 [some (.ref a0), l1] (.ref a0 :: st) S I J Q := tr_aload_n (m := 0) (by decide +kernel) rfl
theorem r152_140 : am_T d 152 140 ls (.ref a0 :: st) S I J Q = ((am_is S a0 9 ∧ am_rf S a0 0 ≠ 0) ∧ am_T d 152 143 ls (.ref (am_rf S a0 0) :: st) S I J Q) := tr_geta (k := 7) (by decide +kernel) (by decide +kernel) (by decide +kernel)
theorem r152_143 : am_T d 152 143 ls st S I J Q = am_T d 152 144 ls (.int 1 :: st) S I J Q := tr_iconst (m := 1) (by decide +kernel) (by decide)
theorem r152_144 : am_T d 152 144 ls (.int x0 :: .ref a0 :: st) S I J Q = (am_ix S a0 20 x0 ∧ am_T d 152 145 ls (.int (I a0 x0.toNatClampNeg) :: st) S I J Q) := tr_iald (by decide +kernel)
theorem r152_145 : am_T d 152 145 ls (.int x1 :: .int x0 :: st) S I J Q = if x0 = x1 then am_T d 152 148 ls st S I J Q else am_T d 152 153 ls st S I J Q := tr_icmpne (o := 8) (by decide +kernel) rfl
theorem r152_148 : am_T d 152 148 ls st S I J Q = am_T d 152 150 ls (.int (-107) :: st) S I J Q := tr_bipush (m := -107) (by decide +kernel) (by decide)
theorem r152_150 : am_T d 152 150 ls st S I J Q = am_T d 152 159 ls st S I J Q := tr_goto (o := 9) (by decide +kernel) rfl
theorem r152_153 : am_T d 152 153 [some (.ref a0), l1] st S I J Q = am_T d 152 154 [some (.ref a0), l1] (.ref a0 :: st) S I J Q := tr_aload_n (m := 0) (by decide +kernel) rfl
theorem r152_154 : am_T d 152 154 ls (.ref a0 :: st) S I J Q = ((am_is S a0 9 ∧ am_rf S a0 19 ≠ 0) ∧ am_T d 152 157 ls (.ref (am_rf S a0 19) :: st) S I J Q) := tr_geta (k := 44) (by decide +kernel) (by decide +kernel) (by decide +kernel)
theorem r152_157 : am_T d 152 157 [l0, some (.int x0)] st S I J Q = am_T d 152 158 [l0, some (.int x0)] (.int x0 :: st) S I J Q := tr_iload_n (m := 1) (by decide +kernel) rfl
theorem r152_158 : am_T d 152 158 ls (.int x0 :: .ref a0 :: st) S I J Q = (am_ix S a0 20 x0 ∧ am_T d 152 159 ls (.int (I a0 x0.toNatClampNeg) :: st) S I J Q) := tr_iald (by decide +kernel)
theorem r152_159 : am_T d 152 159 ls (.int x1 :: .int x0 :: .ref a0 :: st) S I J Q = (am_ixw S a0 20 x0 ∧ am_T d 152 160 ls st S (am_up I a0 x0.toNatClampNeg x1) J Q) := tr_iast (by decide +kernel)
theorem r152_160 : am_T d 152 160 [l0, some (.int x0)] st S I J Q = am_T d 152 163 [am_clr l0, some (.int (x0 + 1))] st S I J Q := tr_iinc (k := 1) (m := 1) (by decide +kernel) rfl (Nat.le_of_ble_eq_true rfl) (by decide) rfl
theorem r152_163 : am_T d 152 163 ls st S I J Q = am_T d 152 119 ls st S I J Q := tr_goto (o := -44) (by decide +kernel) rfl
theorem r152_166 : am_T d 152 166 ls st S I J Q = am_T d 152 167 ls (.int 1 :: st) S I J Q := tr_iconst (m := 1) (by decide +kernel) (by decide)
theorem r152_167 : am_T d 152 167 ls [.int x0] S I J Q = ((x0 = 0 ∨ x0 = 1) ∧ Q (some (.int x0)) S I J) := tr_iretz (by decide +kernel) (by decide +kernel)
-- 153 Mod.reduced(I)I; heads [12]
theorem e153 : am_C (d + 1) 153 [.ref a0, .int x1] S I J Q = am_T d 153 0 [some (.ref a0), some (.int x1), none, none] [] S I J Q := tr_en (Nat.le_of_ble_eq_true rfl) rfl
theorem r153_0 : am_T d 153 0 [some (.ref a0), l1, l2, l3] st S I J Q = am_T d 153 1 [some (.ref a0), l1, l2, l3] (.ref a0 :: st) S I J Q := tr_aload_n (m := 0) (by decide +kernel) rfl
theorem r153_1 : am_T d 153 1 ls (.ref a0 :: st) S I J Q = ((am_is S a0 9 ∧ am_rf S a0 0 ≠ 0) ∧ am_T d 153 4 ls (.ref (am_rf S a0 0) :: st) S I J Q) := tr_geta (k := 7) (by decide +kernel) (by decide +kernel) (by decide +kernel)
theorem r153_4 : am_T d 153 4 ls st S I J Q = am_T d 153 6 ls (.int 67 :: st) S I J Q := tr_bipush (m := 67) (by decide +kernel) (by decide)
theorem r153_6 : am_T d 153 6 [l0, some (.int x0), l2, l3] st S I J Q = am_T d 153 7 [l0, some (.int x0), l2, l3] (.int x0 :: st) S I J Q := tr_iload_n (m := 1) (by decide +kernel) rfl
theorem r153_7 : am_T d 153 7 ls (.int x1 :: .int x0 :: st) S I J Q = am_T d 153 8 ls (.int (x0 + x1) :: st) S I J Q := tr_iadd (by decide +kernel)
theorem r153_8 : am_T d 153 8 ls (.int x0 :: .ref a0 :: st) S I J Q = (am_ix S a0 20 x0 ∧ am_T d 153 9 ls (.int (I a0 x0.toNatClampNeg) :: st) S I J Q) := tr_iald (by decide +kernel)
theorem r153_9 : am_T d 153 9 [l0, l1, l2, l3] (.int x0 :: st) S I J Q = am_T d 153 10 [l0, am_clr l1, some (.int x0), l3] st S I J Q := tr_istore_n (m := 2) (by decide +kernel) (Nat.le_of_ble_eq_true rfl) rfl
theorem r153_10 : am_T d 153 10 ls st S I J Q = am_T d 153 11 ls (.int 0 :: st) S I J Q := tr_iconst (m := 0) (by decide +kernel) (by decide)
theorem r153_11 : am_T d 153 11 [l0, l1, l2, l3] (.int x0 :: st) S I J Q = am_T d 153 12 [l0, l1, am_clr l2, some (.int x0)] st S I J Q := tr_istore_n (m := 3) (by decide +kernel) (Nat.le_of_ble_eq_true rfl) rfl
theorem r153_12 : am_T d 153 12 [l0, l1, l2, some (.int x0)] st S I J Q = am_T d 153 13 [l0, l1, l2, some (.int x0)] (.int x0 :: st) S I J Q := tr_iload_n (m := 3) (by decide +kernel) rfl
theorem r153_13 : am_T d 153 13 [some (.ref a0), l1, l2, l3] st S I J Q = am_T d 153 14 [some (.ref a0), l1, l2, l3] (.ref a0 :: st) S I J Q := tr_aload_n (m := 0) (by decide +kernel) rfl
theorem r153_14 : am_T d 153 14 ls (.ref a0 :: st) S I J Q = ((am_is S a0 9 ∧ am_rf S a0 0 ≠ 0) ∧ am_T d 153 17 ls (.ref (am_rf S a0 0) :: st) S I J Q) := tr_geta (k := 7) (by decide +kernel) (by decide +kernel) (by decide +kernel)
theorem r153_17 : am_T d 153 17 ls st S I J Q = am_T d 153 19 ls (.int 108 :: st) S I J Q := tr_bipush (m := 108) (by decide +kernel) (by decide)
theorem r153_19 : am_T d 153 19 ls (.int x0 :: .ref a0 :: st) S I J Q = (am_ix S a0 20 x0 ∧ am_T d 153 20 ls (.int (I a0 x0.toNatClampNeg) :: st) S I J Q) := tr_iald (by decide +kernel)
theorem r153_20 : am_T d 153 20 ls (.int x1 :: .int x0 :: st) S I J Q = if x1 ≤ x0 then am_T d 153 77 ls st S I J Q else am_T d 153 23 ls st S I J Q := tr_icmpge (o := 57) (by decide +kernel) rfl
theorem r153_23 : am_T d 153 23 [l0, l1, some (.int x0), l3] st S I J Q = am_T d 153 24 [l0, l1, some (.int x0), l3] (.int x0 :: st) S I J Q := tr_iload_n (m := 2) (by decide +kernel) rfl
theorem r153_24 : am_T d 153 24 [some (.ref a0), l1, l2, l3] st S I J Q = am_T d 153 25 [some (.ref a0), l1, l2, l3] (.ref a0 :: st) S I J Q := tr_aload_n (m := 0) (by decide +kernel) rfl
theorem r153_25 : am_T d 153 25 ls (.ref a0 :: st) S I J Q = ((am_is S a0 9 ∧ am_rf S a0 0 ≠ 0) ∧ am_T d 153 28 ls (.ref (am_rf S a0 0) :: st) S I J Q) := tr_geta (k := 7) (by decide +kernel) (by decide +kernel) (by decide +kernel)
theorem r153_28 : am_T d 153 28 ls st S I J Q = am_T d 153 30 ls (.int 109 :: st) S I J Q := tr_bipush (m := 109) (by decide +kernel) (by decide)
theorem r153_30 : am_T d 153 30 [l0, l1, l2, some (.int x0)] st S I J Q = am_T d 153 31 [l0, l1, l2, some (.int x0)] (.int x0 :: st) S I J Q := tr_iload_n (m := 3) (by decide +kernel) rfl
theorem r153_31 : am_T d 153 31 ls (.int x1 :: .int x0 :: st) S I J Q = am_T d 153 32 ls (.int (x0 + x1) :: st) S I J Q := tr_iadd (by decide +kernel)
theorem r153_32 : am_T d 153 32 ls (.int x0 :: .ref a0 :: st) S I J Q = (am_ix S a0 20 x0 ∧ am_T d 153 33 ls (.int (I a0 x0.toNatClampNeg) :: st) S I J Q) := tr_iald (by decide +kernel)
theorem r153_33 : am_T d 153 33 [some (.ref a0), l1, l2, l3] st S I J Q = am_T d 153 34 [some (.ref a0), l1, l2, l3] (.ref a0 :: st) S I J Q := tr_aload_n (m := 0) (by decide +kernel) rfl
theorem r153_34 : am_T d 153 34 ls (.ref a0 :: st) S I J Q = ((am_is S a0 9 ∧ am_rf S a0 0 ≠ 0) ∧ am_T d 153 37 ls (.ref (am_rf S a0 0) :: st) S I J Q) := tr_geta (k := 7) (by decide +kernel) (by decide +kernel) (by decide +kernel)
theorem r153_37 : am_T d 153 37 ls st S I J Q = am_T d 153 38 ls (.int 3 :: st) S I J Q := tr_iconst (m := 3) (by decide +kernel) (by decide)
theorem r153_38 : am_T d 153 38 [l0, some (.int x0), l2, l3] st S I J Q = am_T d 153 39 [l0, some (.int x0), l2, l3] (.int x0 :: st) S I J Q := tr_iload_n (m := 1) (by decide +kernel) rfl
theorem r153_39 : am_T d 153 39 ls (.int x1 :: .int x0 :: st) S I J Q = am_T d 153 40 ls (.int (x0 + x1) :: st) S I J Q := tr_iadd (by decide +kernel)
theorem r153_40 : am_T d 153 40 ls (.int x0 :: .ref a0 :: st) S I J Q = (am_ix S a0 20 x0 ∧ am_T d 153 41 ls (.int (I a0 x0.toNatClampNeg) :: st) S I J Q) := tr_iald (by decide +kernel)
theorem r153_41 : am_T d 153 41 [some (.ref a0), l1, l2, l3] st S I J Q = am_T d 153 42 [some (.ref a0), l1, l2, l3] (.ref a0 :: st) S I J Q := tr_aload_n (m := 0) (by decide +kernel) rfl
theorem r153_42 : am_T d 153 42 ls (.ref a0 :: st) S I J Q = ((am_is S a0 9 ∧ am_rf S a0 0 ≠ 0) ∧ am_T d 153 45 ls (.ref (am_rf S a0 0) :: st) S I J Q) := tr_geta (k := 7) (by decide +kernel) (by decide +kernel) (by decide +kernel)
theorem r153_45 : am_T d 153 45 ls st S I J Q = am_T d 153 47 ls (.int 35 :: st) S I J Q := tr_bipush (m := 35) (by decide +kernel) (by decide)
theorem r153_47 : am_T d 153 47 [l0, some (.int x0), l2, l3] st S I J Q = am_T d 153 48 [l0, some (.int x0), l2, l3] (.int x0 :: st) S I J Q := tr_iload_n (m := 1) (by decide +kernel) rfl
theorem r153_48 : am_T d 153 48 ls (.int x1 :: .int x0 :: st) S I J Q = am_T d 153 49 ls (.int (x0 + x1) :: st) S I J Q := tr_iadd (by decide +kernel)
theorem r153_49 : am_T d 153 49 ls (.int x0 :: .ref a0 :: st) S I J Q = (am_ix S a0 20 x0 ∧ am_T d 153 50 ls (.int (I a0 x0.toNatClampNeg) :: st) S I J Q) := tr_iald (by decide +kernel)
theorem r153_50 : am_T d 153 50 ls [.int x2, .int x1, .int x0, .int x10] S I J Q = am_C d 141 [.int x0, .int x1, .int x2] S I J (fun r S I J => am_T d 153 53 ls (am_psh r [.int x10]) S I J Q) := tr_stat (k := 135) (by decide +kernel) (Or.inl (by decide +kernel)) (Nat.le_of_ble_eq_true rfl) rfl rfl (Nat.le_of_ble_eq_true rfl)
theorem r153_53 : am_T d 153 53 ls (.int x0 :: st) S I J Q = if x0 = 0 then am_T d 153 68 ls st S I J Q else am_T d 153 56 ls st S I J Q := tr_ifeq (o := 15) (by decide +kernel) rfl
theorem r153_56 : am_T d 153 56 [some (.ref a0), l1, l2, l3] st S I J Q = am_T d 153 57 [some (.ref a0), l1, l2, l3] (.ref a0 :: st) S I J Q := tr_aload_n (m := 0) (by decide +kernel) rfl
theorem r153_57 : am_T d 153 57 ls (.ref a0 :: st) S I J Q = ((am_is S a0 9 ∧ am_rf S a0 0 ≠ 0) ∧ am_T d 153 60 ls (.ref (am_rf S a0 0) :: st) S I J Q) := tr_geta (k := 7) (by decide +kernel) (by decide +kernel) (by decide +kernel)
theorem r153_60 : am_T d 153 60 ls st S I J Q = am_T d 153 62 ls (.int 125 :: st) S I J Q := tr_bipush (m := 125) (by decide +kernel) (by decide)
theorem r153_62 : am_T d 153 62 [l0, l1, l2, some (.int x0)] st S I J Q = am_T d 153 63 [l0, l1, l2, some (.int x0)] (.int x0 :: st) S I J Q := tr_iload_n (m := 3) (by decide +kernel) rfl
theorem r153_63 : am_T d 153 63 ls (.int x1 :: .int x0 :: st) S I J Q = am_T d 153 64 ls (.int (x0 + x1) :: st) S I J Q := tr_iadd (by decide +kernel)
theorem r153_64 : am_T d 153 64 ls (.int x0 :: .ref a0 :: st) S I J Q = (am_ix S a0 20 x0 ∧ am_T d 153 65 ls (.int (I a0 x0.toNatClampNeg) :: st) S I J Q) := tr_iald (by decide +kernel)
theorem r153_65 : am_T d 153 65 ls st S I J Q = am_T d 153 69 ls st S I J Q := tr_goto (o := 4) (by decide +kernel) rfl
theorem r153_68 : am_T d 153 68 ls st S I J Q = am_T d 153 69 ls (.int 0 :: st) S I J Q := tr_iconst (m := 0) (by decide +kernel) (by decide)
theorem r153_69 : am_T d 153 69 ls (.int x1 :: .int x0 :: st) S I J Q = am_T d 153 70 ls (.int (x0 - x1) :: st) S I J Q := tr_isub (by decide +kernel)
theorem r153_70 : am_T d 153 70 [l0, l1, l2, l3] (.int x0 :: st) S I J Q = am_T d 153 71 [l0, am_clr l1, some (.int x0), l3] st S I J Q := tr_istore_n (m := 2) (by decide +kernel) (Nat.le_of_ble_eq_true rfl) rfl
theorem r153_71 : am_T d 153 71 [l0, l1, l2, some (.int x0)] st S I J Q = am_T d 153 74 [l0, l1, am_clr l2, some (.int (x0 + 1))] st S I J Q := tr_iinc (k := 3) (m := 1) (by decide +kernel) rfl (Nat.le_of_ble_eq_true rfl) (by decide) rfl
theorem r153_74 : am_T d 153 74 ls st S I J Q = am_T d 153 12 ls st S I J Q := tr_goto (o := -62) (by decide +kernel) rfl
theorem r153_77 : am_T d 153 77 [l0, l1, some (.int x0), l3] st S I J Q = am_T d 153 78 [l0, l1, some (.int x0), l3] (.int x0 :: st) S I J Q := tr_iload_n (m := 2) (by decide +kernel) rfl
theorem r153_78 : am_T d 153 78 ls [.int x0] S I J Q = Q (some (.int x0)) S I J := tr_ireti (by decide +kernel) (by decide +kernel)
-- 154 Mod.isRecorded()I; heads []
theorem e154 : am_C (d + 1) 154 [.ref a0] S I J Q = am_T d 154 0 [some (.ref a0)] [] S I J Q := tr_en (Nat.le_of_ble_eq_true rfl) rfl
theorem r154_0 : am_T d 154 0 [some (.ref a0)] st S I J Q = am_T d 154 1 [some (.ref a0)] (.ref a0 :: st) S I J Q := tr_aload_n (m := 0) (by decide +kernel) rfl
theorem r154_1 : am_T d 154 1 ls (.ref a0 :: st) S I J Q = ((am_is S a0 9 ∧ am_rf S a0 0 ≠ 0) ∧ am_T d 154 4 ls (.ref (am_rf S a0 0) :: st) S I J Q) := tr_geta (k := 7) (by decide +kernel) (by decide +kernel) (by decide +kernel)
theorem r154_4 : am_T d 154 4 ls st S I J Q = am_T d 154 6 ls (.int 107 :: st) S I J Q := tr_bipush (m := 107) (by decide +kernel) (by decide)
theorem r154_6 : am_T d 154 6 ls (.int x0 :: .ref a0 :: st) S I J Q = (am_ix S a0 20 x0 ∧ am_T d 154 7 ls (.int (I a0 x0.toNatClampNeg) :: st) S I J Q) := tr_iald (by decide +kernel)
theorem r154_7 : am_T d 154 7 ls [.int x0] S I J Q = Q (some (.int x0)) S I J := tr_ireti (by decide +kernel) (by decide +kernel)
end RU
