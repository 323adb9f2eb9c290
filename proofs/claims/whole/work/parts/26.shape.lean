/-! the shapes behind the two constructors, cell by cell -/
def cS (L : Nat) : am_S := [(20, L, fun _ => 0), (8, 14, fun i => if i = 13 then 41 else if i = 12 then 38 else if i = 11 then 33 else if i = 10 then 23 else if i = 9 then 18 else if i = 8 then 16 else if i = 5 then 15 else if i = 4 then 14 else if i = 1 then 13 else if i = 0 then 2 else 0), (6, 2, fun i => if i = 1 then 8 else if i = 0 then 3 else 0), (1, 7, fun i => if i = 6 then 7 else if i = 5 then 6 else if i = 4 then 5 else if i = 3 then 4 else 0), (20, 32, fun _ => 0), (20, 32, fun _ => 0), (20, 32, fun _ => 0), (20, 8, fun _ => 0), (3, 6, fun i => if i = 5 then 12 else if i = 4 then 11 else if i = 3 then 10 else if i = 2 then 9 else 0), (20, 15, fun _ => 0), (20, 15, fun _ => 0), (20, 15, fun _ => 0), (20, 8, fun _ => 0), (24, 8, fun i => if i = 7 then 128 else if i = 6 then 117 else if i = 5 then 106 else if i = 4 then 95 else if i = 3 then 84 else if i = 2 then 73 else if i = 1 then 62 else if i = 0 then 51 else 0), (24, 2, fun i => if i = 1 then 150 else if i = 0 then 139 else 0), (21, 2, fun _ => 0), (2, 3, fun i => if i = 2 then 17 else 0), (22, 300, fun _ => 0), (1, 7, fun i => if i = 6 then 22 else if i = 5 then 21 else if i = 4 then 20 else if i = 3 then 19 else 0), (20, 32, fun _ => 0), (20, 32, fun _ => 0), (20, 32, fun _ => 0), (20, 8, fun _ => 0), (0, 5, fun i => if i = 4 then 32 else if i = 3 then 31 else if i = 2 then 30 else if i = 1 then 29 else if i = 0 then 24 else 0), (3, 6, fun i => if i = 5 then 28 else if i = 4 then 27 else if i = 3 then 26 else if i = 2 then 25 else 0), (20, 15, fun _ => 0), (20, 15, fun _ => 0), (20, 15, fun _ => 0), (20, 8, fun _ => 0), (20, 32, fun _ => 0), (20, 15, fun _ => 0), (20, 8, fun _ => 0), (20, 15, fun _ => 0), (4, 7, fun i => if i = 6 then 37 else if i = 5 then 36 else if i = 4 then 35 else if i = 3 then 34 else 0), (20, 8, fun _ => 0), (20, 8, fun _ => 0), (20, 8, fun _ => 0), (20, 32, fun _ => 0), (5, 3, fun i => if i = 2 then 40 else if i = 1 then 39 else 0), (20, 8, fun _ => 0), (20, 32, fun _ => 0), (7, 1, fun i => if i = 0 then 42 else 0), (25, 8, fun i => if i < 8 then 43 + i else 0), (23, 8, fun _ => 0), (23, 8, fun _ => 0), (23, 8, fun _ => 0), (23, 8, fun _ => 0), (23, 8, fun _ => 0), (23, 8, fun _ => 0), (23, 8, fun _ => 0), (23, 8, fun _ => 0), (6, 2, fun i => if i = 1 then 57 else if i = 0 then 52 else 0), (1, 7, fun i => if i = 6 then 56 else if i = 5 then 55 else if i = 4 then 54 else if i = 3 then 53 else 0), (20, 32, fun _ => 0), (20, 32, fun _ => 0), (20, 32, fun _ => 0), (20, 8, fun _ => 0), (3, 6, fun i => if i = 5 then 61 else if i = 4 then 60 else if i = 3 then 59 else if i = 2 then 58 else 0), (20, 15, fun _ => 0), (20, 15, fun _ => 0), (20, 15, fun _ => 0), (20, 8, fun _ => 0), (6, 2, fun i => if i = 1 then 68 else if i = 0 then 63 else 0), (1, 7, fun i => if i = 6 then 67 else if i = 5 then 66 else if i = 4 then 65 else if i = 3 then 64 else 0), (20, 32, fun _ => 0), (20, 32, fun _ => 0), (20, 32, fun _ => 0), (20, 8, fun _ => 0), (3, 6, fun i => if i = 5 then 72 else if i = 4 then 71 else if i = 3 then 70 else if i = 2 then 69 else 0), (20, 15, fun _ => 0), (20, 15, fun _ => 0), (20, 15, fun _ => 0), (20, 8, fun _ => 0), (6, 2, fun i => if i = 1 then 79 else if i = 0 then 74 else 0), (1, 7, fun i => if i = 6 then 78 else if i = 5 then 77 else if i = 4 then 76 else if i = 3 then 75 else 0), (20, 32, fun _ => 0), (20, 32, fun _ => 0), (20, 32, fun _ => 0), (20, 8, fun _ => 0), (3, 6, fun i => if i = 5 then 83 else if i = 4 then 82 else if i = 3 then 81 else if i = 2 then 80 else 0), (20, 15, fun _ => 0), (20, 15, fun _ => 0), (20, 15, fun _ => 0), (20, 8, fun _ => 0), (6, 2, fun i => if i = 1 then 90 else if i = 0 then 85 else 0), (1, 7, fun i => if i = 6 then 89 else if i = 5 then 88 else if i = 4 then 87 else if i = 3 then 86 else 0), (20, 32, fun _ => 0), (20, 32, fun _ => 0), (20, 32, fun _ => 0), (20, 8, fun _ => 0), (3, 6, fun i => if i = 5 then 94 else if i = 4 then 93 else if i = 3 then 92 else if i = 2 then 91 else 0), (20, 15, fun _ => 0), (20, 15, fun _ => 0), (20, 15, fun _ => 0), (20, 8, fun _ => 0), (6, 2, fun i => if i = 1 then 101 else if i = 0 then 96 else 0), (1, 7, fun i => if i = 6 then 100 else if i = 5 then 99 else if i = 4 then 98 else if i = 3 then 97 else 0), (20, 32, fun _ => 0), (20, 32, fun _ => 0), (20, 32, fun _ => 0), (20, 8, fun _ => 0), (3, 6, fun i => if i = 5 then 105 else if i = 4 then 104 else if i = 3 then 103 else if i = 2 then 102 else 0), (20, 15, fun _ => 0), (20, 15, fun _ => 0), (20, 15, fun _ => 0), (20, 8, fun _ => 0), (6, 2, fun i => if i = 1 then 112 else if i = 0 then 107 else 0), (1, 7, fun i => if i = 6 then 111 else if i = 5 then 110 else if i = 4 then 109 else if i = 3 then 108 else 0), (20, 32, fun _ => 0), (20, 32, fun _ => 0), (20, 32, fun _ => 0), (20, 8, fun _ => 0), (3, 6, fun i => if i = 5 then 116 else if i = 4 then 115 else if i = 3 then 114 else if i = 2 then 113 else 0), (20, 15, fun _ => 0), (20, 15, fun _ => 0), (20, 15, fun _ => 0), (20, 8, fun _ => 0), (6, 2, fun i => if i = 1 then 123 else if i = 0 then 118 else 0), (1, 7, fun i => if i = 6 then 122 else if i = 5 then 121 else if i = 4 then 120 else if i = 3 then 119 else 0), (20, 32, fun _ => 0), (20, 32, fun _ => 0), (20, 32, fun _ => 0), (20, 8, fun _ => 0), (3, 6, fun i => if i = 5 then 127 else if i = 4 then 126 else if i = 3 then 125 else if i = 2 then 124 else 0), (20, 15, fun _ => 0), (20, 15, fun _ => 0), (20, 15, fun _ => 0), (20, 8, fun _ => 0), (6, 2, fun i => if i = 1 then 134 else if i = 0 then 129 else 0), (1, 7, fun i => if i = 6 then 133 else if i = 5 then 132 else if i = 4 then 131 else if i = 3 then 130 else 0), (20, 32, fun _ => 0), (20, 32, fun _ => 0), (20, 32, fun _ => 0), (20, 8, fun _ => 0), (3, 6, fun i => if i = 5 then 138 else if i = 4 then 137 else if i = 3 then 136 else if i = 2 then 135 else 0), (20, 15, fun _ => 0), (20, 15, fun _ => 0), (20, 15, fun _ => 0), (20, 8, fun _ => 0), (6, 2, fun i => if i = 1 then 145 else if i = 0 then 140 else 0), (1, 7, fun i => if i = 6 then 144 else if i = 5 then 143 else if i = 4 then 142 else if i = 3 then 141 else 0), (20, 32, fun _ => 0), (20, 32, fun _ => 0), (20, 32, fun _ => 0), (20, 8, fun _ => 0), (3, 6, fun i => if i = 5 then 149 else if i = 4 then 148 else if i = 3 then 147 else if i = 2 then 146 else 0), (20, 15, fun _ => 0), (20, 15, fun _ => 0), (20, 15, fun _ => 0), (20, 8, fun _ => 0), (6, 2, fun i => if i = 1 then 156 else if i = 0 then 151 else 0), (1, 7, fun i => if i = 6 then 155 else if i = 5 then 154 else if i = 4 then 153 else if i = 3 then 152 else 0), (20, 32, fun _ => 0), (20, 32, fun _ => 0), (20, 32, fun _ => 0), (20, 8, fun _ => 0), (3, 6, fun i => if i = 5 then 160 else if i = 4 then 159 else if i = 3 then 158 else if i = 2 then 157 else 0), (20, 15, fun _ => 0), (20, 15, fun _ => 0), (20, 15, fun _ => 0), (20, 8, fun _ => 0), (9, 27, fun i => if i = 25 then 176 else if i = 22 then 175 else if i = 21 then 174 else if i = 19 then 173 else if i = 18 then 172 else if i = 17 then 171 else if i = 16 then 170 else if i = 15 then 169 else if i = 14 then 168 else if i = 13 then 167 else if i = 12 then 166 else if i = 7 then 165 else if i = 3 then 164 else if i = 1 then 163 else if i = 0 then 162 else 0), (20, 165, fun _ => 0), (20, 1320, fun _ => 0), (20, 330, fun _ => 0), (20, 300, fun _ => 0), (20, 100, fun _ => 0), (20, 32, fun _ => 0), (21, 32, fun _ => 0), (20, 16, fun _ => 0), (20, 16, fun _ => 0), (20, 16, fun _ => 0), (20, 16, fun _ => 0), (20, 16, fun _ => 0), (20, 8, fun _ => 0), (20, 8, fun _ => 0), (20, 8, fun _ => 0)]
set_option maxRecDepth 20000 in
theorem cS_eq (L : Nat) (I : am_I) : (cX L I).1 ++ b_Mod 161 = cS L := by
  rw [cX_eq]
  rfl
set_option maxRecDepth 20000 in
theorem cS_len (L : Nat) : (cS L).length = 177 := rfl
section SHP
variable (L : Nat)
theorem k_0 : am_kd (cS L) 0 = 20 := rfl
theorem n_0 : am_ln (cS L) 0 = L := rfl
theorem k_1 : am_kd (cS L) 1 = 8 := rfl
theorem s_1 : am_is (cS L) 1 8 = True := eq_true ⟨rfl, by decide⟩
theorem f_1_13 : am_rf (cS L) 1 13 = 41 := rfl
theorem f_1_12 : am_rf (cS L) 1 12 = 38 := rfl
theorem f_1_11 : am_rf (cS L) 1 11 = 33 := rfl
theorem f_1_10 : am_rf (cS L) 1 10 = 23 := rfl
theorem f_1_9 : am_rf (cS L) 1 9 = 18 := rfl
theorem f_1_8 : am_rf (cS L) 1 8 = 16 := rfl
theorem f_1_5 : am_rf (cS L) 1 5 = 15 := rfl
theorem f_1_4 : am_rf (cS L) 1 4 = 14 := rfl
theorem f_1_1 : am_rf (cS L) 1 1 = 13 := rfl
theorem f_1_0 : am_rf (cS L) 1 0 = 2 := rfl
theorem k_2 : am_kd (cS L) 2 = 6 := rfl
theorem s_2 : am_is (cS L) 2 6 = True := eq_true ⟨rfl, by decide⟩
theorem f_2_1 : am_rf (cS L) 2 1 = 8 := rfl
theorem f_2_0 : am_rf (cS L) 2 0 = 3 := rfl
theorem k_3 : am_kd (cS L) 3 = 1 := rfl
theorem s_3 : am_is (cS L) 3 1 = True := eq_true ⟨rfl, by decide⟩
theorem f_3_6 : am_rf (cS L) 3 6 = 7 := rfl
theorem f_3_5 : am_rf (cS L) 3 5 = 6 := rfl
theorem f_3_4 : am_rf (cS L) 3 4 = 5 := rfl
theorem f_3_3 : am_rf (cS L) 3 3 = 4 := rfl
theorem k_4 : am_kd (cS L) 4 = 20 := rfl
theorem n_4 : am_ln (cS L) 4 = 32 := rfl
theorem k_5 : am_kd (cS L) 5 = 20 := rfl
theorem n_5 : am_ln (cS L) 5 = 32 := rfl
theorem k_6 : am_kd (cS L) 6 = 20 := rfl
theorem n_6 : am_ln (cS L) 6 = 32 := rfl
theorem k_7 : am_kd (cS L) 7 = 20 := rfl
theorem n_7 : am_ln (cS L) 7 = 8 := rfl
theorem k_8 : am_kd (cS L) 8 = 3 := rfl
theorem s_8 : am_is (cS L) 8 3 = True := eq_true ⟨rfl, by decide⟩
theorem f_8_5 : am_rf (cS L) 8 5 = 12 := rfl
theorem f_8_4 : am_rf (cS L) 8 4 = 11 := rfl
theorem f_8_3 : am_rf (cS L) 8 3 = 10 := rfl
theorem f_8_2 : am_rf (cS L) 8 2 = 9 := rfl
theorem k_9 : am_kd (cS L) 9 = 20 := rfl
theorem n_9 : am_ln (cS L) 9 = 15 := rfl
theorem k_10 : am_kd (cS L) 10 = 20 := rfl
theorem n_10 : am_ln (cS L) 10 = 15 := rfl
theorem k_11 : am_kd (cS L) 11 = 20 := rfl
theorem n_11 : am_ln (cS L) 11 = 15 := rfl
theorem k_12 : am_kd (cS L) 12 = 20 := rfl
theorem n_12 : am_ln (cS L) 12 = 8 := rfl
theorem k_13 : am_kd (cS L) 13 = 24 := rfl
theorem n_13 : am_ln (cS L) 13 = 8 := rfl
theorem f_13_7 : am_rf (cS L) 13 7 = 128 := rfl
theorem f_13_6 : am_rf (cS L) 13 6 = 117 := rfl
theorem f_13_5 : am_rf (cS L) 13 5 = 106 := rfl
theorem f_13_4 : am_rf (cS L) 13 4 = 95 := rfl
theorem f_13_3 : am_rf (cS L) 13 3 = 84 := rfl
theorem f_13_2 : am_rf (cS L) 13 2 = 73 := rfl
theorem f_13_1 : am_rf (cS L) 13 1 = 62 := rfl
theorem f_13_0 : am_rf (cS L) 13 0 = 51 := rfl
theorem k_14 : am_kd (cS L) 14 = 24 := rfl
theorem n_14 : am_ln (cS L) 14 = 2 := rfl
theorem f_14_1 : am_rf (cS L) 14 1 = 150 := rfl
theorem f_14_0 : am_rf (cS L) 14 0 = 139 := rfl
theorem k_15 : am_kd (cS L) 15 = 21 := rfl
theorem n_15 : am_ln (cS L) 15 = 2 := rfl
theorem k_16 : am_kd (cS L) 16 = 2 := rfl
theorem s_16 : am_is (cS L) 16 2 = True := eq_true ⟨rfl, by decide⟩
theorem f_16_2 : am_rf (cS L) 16 2 = 17 := rfl
theorem k_17 : am_kd (cS L) 17 = 22 := rfl
theorem n_17 : am_ln (cS L) 17 = 300 := rfl
theorem k_18 : am_kd (cS L) 18 = 1 := rfl
theorem s_18 : am_is (cS L) 18 1 = True := eq_true ⟨rfl, by decide⟩
theorem f_18_6 : am_rf (cS L) 18 6 = 22 := rfl
theorem f_18_5 : am_rf (cS L) 18 5 = 21 := rfl
theorem f_18_4 : am_rf (cS L) 18 4 = 20 := rfl
theorem f_18_3 : am_rf (cS L) 18 3 = 19 := rfl
theorem k_19 : am_kd (cS L) 19 = 20 := rfl
theorem n_19 : am_ln (cS L) 19 = 32 := rfl
theorem k_20 : am_kd (cS L) 20 = 20 := rfl
theorem n_20 : am_ln (cS L) 20 = 32 := rfl
theorem k_21 : am_kd (cS L) 21 = 20 := rfl
theorem n_21 : am_ln (cS L) 21 = 32 := rfl
theorem k_22 : am_kd (cS L) 22 = 20 := rfl
theorem n_22 : am_ln (cS L) 22 = 8 := rfl
theorem k_23 : am_kd (cS L) 23 = 0 := rfl
theorem s_23 : am_is (cS L) 23 0 = True := eq_true ⟨rfl, by decide⟩
theorem f_23_4 : am_rf (cS L) 23 4 = 32 := rfl
theorem f_23_3 : am_rf (cS L) 23 3 = 31 := rfl
theorem f_23_2 : am_rf (cS L) 23 2 = 30 := rfl
theorem f_23_1 : am_rf (cS L) 23 1 = 29 := rfl
theorem f_23_0 : am_rf (cS L) 23 0 = 24 := rfl
theorem k_24 : am_kd (cS L) 24 = 3 := rfl
theorem s_24 : am_is (cS L) 24 3 = True := eq_true ⟨rfl, by decide⟩
theorem f_24_5 : am_rf (cS L) 24 5 = 28 := rfl
theorem f_24_4 : am_rf (cS L) 24 4 = 27 := rfl
theorem f_24_3 : am_rf (cS L) 24 3 = 26 := rfl
theorem f_24_2 : am_rf (cS L) 24 2 = 25 := rfl
theorem k_25 : am_kd (cS L) 25 = 20 := rfl
theorem n_25 : am_ln (cS L) 25 = 15 := rfl
theorem k_26 : am_kd (cS L) 26 = 20 := rfl
theorem n_26 : am_ln (cS L) 26 = 15 := rfl
theorem k_27 : am_kd (cS L) 27 = 20 := rfl
theorem n_27 : am_ln (cS L) 27 = 15 := rfl
theorem k_28 : am_kd (cS L) 28 = 20 := rfl
theorem n_28 : am_ln (cS L) 28 = 8 := rfl
theorem k_29 : am_kd (cS L) 29 = 20 := rfl
theorem n_29 : am_ln (cS L) 29 = 32 := rfl
theorem k_30 : am_kd (cS L) 30 = 20 := rfl
theorem n_30 : am_ln (cS L) 30 = 15 := rfl
theorem k_31 : am_kd (cS L) 31 = 20 := rfl
theorem n_31 : am_ln (cS L) 31 = 8 := rfl
theorem k_32 : am_kd (cS L) 32 = 20 := rfl
theorem n_32 : am_ln (cS L) 32 = 15 := rfl
theorem k_33 : am_kd (cS L) 33 = 4 := rfl
theorem s_33 : am_is (cS L) 33 4 = True := eq_true ⟨rfl, by decide⟩
theorem f_33_6 : am_rf (cS L) 33 6 = 37 := rfl
theorem f_33_5 : am_rf (cS L) 33 5 = 36 := rfl
theorem f_33_4 : am_rf (cS L) 33 4 = 35 := rfl
theorem f_33_3 : am_rf (cS L) 33 3 = 34 := rfl
theorem k_34 : am_kd (cS L) 34 = 20 := rfl
theorem n_34 : am_ln (cS L) 34 = 8 := rfl
theorem k_35 : am_kd (cS L) 35 = 20 := rfl
theorem n_35 : am_ln (cS L) 35 = 8 := rfl
theorem k_36 : am_kd (cS L) 36 = 20 := rfl
theorem n_36 : am_ln (cS L) 36 = 8 := rfl
theorem k_37 : am_kd (cS L) 37 = 20 := rfl
theorem n_37 : am_ln (cS L) 37 = 32 := rfl
theorem k_38 : am_kd (cS L) 38 = 5 := rfl
theorem s_38 : am_is (cS L) 38 5 = True := eq_true ⟨rfl, by decide⟩
theorem f_38_2 : am_rf (cS L) 38 2 = 40 := rfl
theorem f_38_1 : am_rf (cS L) 38 1 = 39 := rfl
theorem k_39 : am_kd (cS L) 39 = 20 := rfl
theorem n_39 : am_ln (cS L) 39 = 8 := rfl
theorem k_40 : am_kd (cS L) 40 = 20 := rfl
theorem n_40 : am_ln (cS L) 40 = 32 := rfl
theorem k_41 : am_kd (cS L) 41 = 7 := rfl
theorem s_41 : am_is (cS L) 41 7 = True := eq_true ⟨rfl, by decide⟩
theorem f_41_0 : am_rf (cS L) 41 0 = 42 := rfl
theorem k_42 : am_kd (cS L) 42 = 25 := rfl
theorem n_42 : am_ln (cS L) 42 = 8 := rfl
theorem k_43 : am_kd (cS L) 43 = 23 := rfl
theorem n_43 : am_ln (cS L) 43 = 8 := rfl
theorem k_44 : am_kd (cS L) 44 = 23 := rfl
theorem n_44 : am_ln (cS L) 44 = 8 := rfl
theorem k_45 : am_kd (cS L) 45 = 23 := rfl
theorem n_45 : am_ln (cS L) 45 = 8 := rfl
theorem k_46 : am_kd (cS L) 46 = 23 := rfl
theorem n_46 : am_ln (cS L) 46 = 8 := rfl
theorem k_47 : am_kd (cS L) 47 = 23 := rfl
theorem n_47 : am_ln (cS L) 47 = 8 := rfl
theorem k_48 : am_kd (cS L) 48 = 23 := rfl
theorem n_48 : am_ln (cS L) 48 = 8 := rfl
theorem k_49 : am_kd (cS L) 49 = 23 := rfl
theorem n_49 : am_ln (cS L) 49 = 8 := rfl
theorem k_50 : am_kd (cS L) 50 = 23 := rfl
theorem n_50 : am_ln (cS L) 50 = 8 := rfl
theorem k_51 : am_kd (cS L) 51 = 6 := rfl
theorem s_51 : am_is (cS L) 51 6 = True := eq_true ⟨rfl, by decide⟩
theorem f_51_1 : am_rf (cS L) 51 1 = 57 := rfl
theorem f_51_0 : am_rf (cS L) 51 0 = 52 := rfl
theorem k_52 : am_kd (cS L) 52 = 1 := rfl
theorem s_52 : am_is (cS L) 52 1 = True := eq_true ⟨rfl, by decide⟩
theorem f_52_6 : am_rf (cS L) 52 6 = 56 := rfl
theorem f_52_5 : am_rf (cS L) 52 5 = 55 := rfl
theorem f_52_4 : am_rf (cS L) 52 4 = 54 := rfl
theorem f_52_3 : am_rf (cS L) 52 3 = 53 := rfl
theorem k_53 : am_kd (cS L) 53 = 20 := rfl
theorem n_53 : am_ln (cS L) 53 = 32 := rfl
theorem k_54 : am_kd (cS L) 54 = 20 := rfl
theorem n_54 : am_ln (cS L) 54 = 32 := rfl
theorem k_55 : am_kd (cS L) 55 = 20 := rfl
theorem n_55 : am_ln (cS L) 55 = 32 := rfl
theorem k_56 : am_kd (cS L) 56 = 20 := rfl
theorem n_56 : am_ln (cS L) 56 = 8 := rfl
theorem k_57 : am_kd (cS L) 57 = 3 := rfl
theorem s_57 : am_is (cS L) 57 3 = True := eq_true ⟨rfl, by decide⟩
theorem f_57_5 : am_rf (cS L) 57 5 = 61 := rfl
theorem f_57_4 : am_rf (cS L) 57 4 = 60 := rfl
theorem f_57_3 : am_rf (cS L) 57 3 = 59 := rfl
theorem f_57_2 : am_rf (cS L) 57 2 = 58 := rfl
theorem k_58 : am_kd (cS L) 58 = 20 := rfl
theorem n_58 : am_ln (cS L) 58 = 15 := rfl
theorem k_59 : am_kd (cS L) 59 = 20 := rfl
theorem n_59 : am_ln (cS L) 59 = 15 := rfl
theorem k_60 : am_kd (cS L) 60 = 20 := rfl
theorem n_60 : am_ln (cS L) 60 = 15 := rfl
theorem k_61 : am_kd (cS L) 61 = 20 := rfl
theorem n_61 : am_ln (cS L) 61 = 8 := rfl
theorem k_62 : am_kd (cS L) 62 = 6 := rfl
theorem s_62 : am_is (cS L) 62 6 = True := eq_true ⟨rfl, by decide⟩
theorem f_62_1 : am_rf (cS L) 62 1 = 68 := rfl
theorem f_62_0 : am_rf (cS L) 62 0 = 63 := rfl
theorem k_63 : am_kd (cS L) 63 = 1 := rfl
theorem s_63 : am_is (cS L) 63 1 = True := eq_true ⟨rfl, by decide⟩
theorem f_63_6 : am_rf (cS L) 63 6 = 67 := rfl
theorem f_63_5 : am_rf (cS L) 63 5 = 66 := rfl
theorem f_63_4 : am_rf (cS L) 63 4 = 65 := rfl
theorem f_63_3 : am_rf (cS L) 63 3 = 64 := rfl
theorem k_64 : am_kd (cS L) 64 = 20 := rfl
theorem n_64 : am_ln (cS L) 64 = 32 := rfl
theorem k_65 : am_kd (cS L) 65 = 20 := rfl
theorem n_65 : am_ln (cS L) 65 = 32 := rfl
theorem k_66 : am_kd (cS L) 66 = 20 := rfl
theorem n_66 : am_ln (cS L) 66 = 32 := rfl
theorem k_67 : am_kd (cS L) 67 = 20 := rfl
theorem n_67 : am_ln (cS L) 67 = 8 := rfl
theorem k_68 : am_kd (cS L) 68 = 3 := rfl
theorem s_68 : am_is (cS L) 68 3 = True := eq_true ⟨rfl, by decide⟩
theorem f_68_5 : am_rf (cS L) 68 5 = 72 := rfl
theorem f_68_4 : am_rf (cS L) 68 4 = 71 := rfl
theorem f_68_3 : am_rf (cS L) 68 3 = 70 := rfl
theorem f_68_2 : am_rf (cS L) 68 2 = 69 := rfl
theorem k_69 : am_kd (cS L) 69 = 20 := rfl
theorem n_69 : am_ln (cS L) 69 = 15 := rfl
theorem k_70 : am_kd (cS L) 70 = 20 := rfl
theorem n_70 : am_ln (cS L) 70 = 15 := rfl
theorem k_71 : am_kd (cS L) 71 = 20 := rfl
theorem n_71 : am_ln (cS L) 71 = 15 := rfl
theorem k_72 : am_kd (cS L) 72 = 20 := rfl
theorem n_72 : am_ln (cS L) 72 = 8 := rfl
theorem k_73 : am_kd (cS L) 73 = 6 := rfl
theorem s_73 : am_is (cS L) 73 6 = True := eq_true ⟨rfl, by decide⟩
theorem f_73_1 : am_rf (cS L) 73 1 = 79 := rfl
theorem f_73_0 : am_rf (cS L) 73 0 = 74 := rfl
theorem k_74 : am_kd (cS L) 74 = 1 := rfl
theorem s_74 : am_is (cS L) 74 1 = True := eq_true ⟨rfl, by decide⟩
theorem f_74_6 : am_rf (cS L) 74 6 = 78 := rfl
theorem f_74_5 : am_rf (cS L) 74 5 = 77 := rfl
theorem f_74_4 : am_rf (cS L) 74 4 = 76 := rfl
theorem f_74_3 : am_rf (cS L) 74 3 = 75 := rfl
theorem k_75 : am_kd (cS L) 75 = 20 := rfl
theorem n_75 : am_ln (cS L) 75 = 32 := rfl
theorem k_76 : am_kd (cS L) 76 = 20 := rfl
theorem n_76 : am_ln (cS L) 76 = 32 := rfl
theorem k_77 : am_kd (cS L) 77 = 20 := rfl
theorem n_77 : am_ln (cS L) 77 = 32 := rfl
theorem k_78 : am_kd (cS L) 78 = 20 := rfl
theorem n_78 : am_ln (cS L) 78 = 8 := rfl
theorem k_79 : am_kd (cS L) 79 = 3 := rfl
theorem s_79 : am_is (cS L) 79 3 = True := eq_true ⟨rfl, by decide⟩
theorem f_79_5 : am_rf (cS L) 79 5 = 83 := rfl
theorem f_79_4 : am_rf (cS L) 79 4 = 82 := rfl
theorem f_79_3 : am_rf (cS L) 79 3 = 81 := rfl
theorem f_79_2 : am_rf (cS L) 79 2 = 80 := rfl
theorem k_80 : am_kd (cS L) 80 = 20 := rfl
theorem n_80 : am_ln (cS L) 80 = 15 := rfl
theorem k_81 : am_kd (cS L) 81 = 20 := rfl
theorem n_81 : am_ln (cS L) 81 = 15 := rfl
theorem k_82 : am_kd (cS L) 82 = 20 := rfl
theorem n_82 : am_ln (cS L) 82 = 15 := rfl
theorem k_83 : am_kd (cS L) 83 = 20 := rfl
theorem n_83 : am_ln (cS L) 83 = 8 := rfl
theorem k_84 : am_kd (cS L) 84 = 6 := rfl
theorem s_84 : am_is (cS L) 84 6 = True := eq_true ⟨rfl, by decide⟩
theorem f_84_1 : am_rf (cS L) 84 1 = 90 := rfl
theorem f_84_0 : am_rf (cS L) 84 0 = 85 := rfl
theorem k_85 : am_kd (cS L) 85 = 1 := rfl
theorem s_85 : am_is (cS L) 85 1 = True := eq_true ⟨rfl, by decide⟩
theorem f_85_6 : am_rf (cS L) 85 6 = 89 := rfl
theorem f_85_5 : am_rf (cS L) 85 5 = 88 := rfl
theorem f_85_4 : am_rf (cS L) 85 4 = 87 := rfl
theorem f_85_3 : am_rf (cS L) 85 3 = 86 := rfl
theorem k_86 : am_kd (cS L) 86 = 20 := rfl
theorem n_86 : am_ln (cS L) 86 = 32 := rfl
theorem k_87 : am_kd (cS L) 87 = 20 := rfl
theorem n_87 : am_ln (cS L) 87 = 32 := rfl
theorem k_88 : am_kd (cS L) 88 = 20 := rfl
theorem n_88 : am_ln (cS L) 88 = 32 := rfl
theorem k_89 : am_kd (cS L) 89 = 20 := rfl
theorem n_89 : am_ln (cS L) 89 = 8 := rfl
theorem k_90 : am_kd (cS L) 90 = 3 := rfl
theorem s_90 : am_is (cS L) 90 3 = True := eq_true ⟨rfl, by decide⟩
theorem f_90_5 : am_rf (cS L) 90 5 = 94 := rfl
theorem f_90_4 : am_rf (cS L) 90 4 = 93 := rfl
theorem f_90_3 : am_rf (cS L) 90 3 = 92 := rfl
theorem f_90_2 : am_rf (cS L) 90 2 = 91 := rfl
theorem k_91 : am_kd (cS L) 91 = 20 := rfl
theorem n_91 : am_ln (cS L) 91 = 15 := rfl
theorem k_92 : am_kd (cS L) 92 = 20 := rfl
theorem n_92 : am_ln (cS L) 92 = 15 := rfl
theorem k_93 : am_kd (cS L) 93 = 20 := rfl
theorem n_93 : am_ln (cS L) 93 = 15 := rfl
theorem k_94 : am_kd (cS L) 94 = 20 := rfl
theorem n_94 : am_ln (cS L) 94 = 8 := rfl
theorem k_95 : am_kd (cS L) 95 = 6 := rfl
theorem s_95 : am_is (cS L) 95 6 = True := eq_true ⟨rfl, by decide⟩
theorem f_95_1 : am_rf (cS L) 95 1 = 101 := rfl
theorem f_95_0 : am_rf (cS L) 95 0 = 96 := rfl
theorem k_96 : am_kd (cS L) 96 = 1 := rfl
theorem s_96 : am_is (cS L) 96 1 = True := eq_true ⟨rfl, by decide⟩
theorem f_96_6 : am_rf (cS L) 96 6 = 100 := rfl
theorem f_96_5 : am_rf (cS L) 96 5 = 99 := rfl
theorem f_96_4 : am_rf (cS L) 96 4 = 98 := rfl
theorem f_96_3 : am_rf (cS L) 96 3 = 97 := rfl
theorem k_97 : am_kd (cS L) 97 = 20 := rfl
theorem n_97 : am_ln (cS L) 97 = 32 := rfl
theorem k_98 : am_kd (cS L) 98 = 20 := rfl
theorem n_98 : am_ln (cS L) 98 = 32 := rfl
theorem k_99 : am_kd (cS L) 99 = 20 := rfl
theorem n_99 : am_ln (cS L) 99 = 32 := rfl
theorem k_100 : am_kd (cS L) 100 = 20 := rfl
theorem n_100 : am_ln (cS L) 100 = 8 := rfl
theorem k_101 : am_kd (cS L) 101 = 3 := rfl
theorem s_101 : am_is (cS L) 101 3 = True := eq_true ⟨rfl, by decide⟩
theorem f_101_5 : am_rf (cS L) 101 5 = 105 := rfl
theorem f_101_4 : am_rf (cS L) 101 4 = 104 := rfl
theorem f_101_3 : am_rf (cS L) 101 3 = 103 := rfl
theorem f_101_2 : am_rf (cS L) 101 2 = 102 := rfl
theorem k_102 : am_kd (cS L) 102 = 20 := rfl
theorem n_102 : am_ln (cS L) 102 = 15 := rfl
theorem k_103 : am_kd (cS L) 103 = 20 := rfl
theorem n_103 : am_ln (cS L) 103 = 15 := rfl
theorem k_104 : am_kd (cS L) 104 = 20 := rfl
theorem n_104 : am_ln (cS L) 104 = 15 := rfl
theorem k_105 : am_kd (cS L) 105 = 20 := rfl
theorem n_105 : am_ln (cS L) 105 = 8 := rfl
theorem k_106 : am_kd (cS L) 106 = 6 := rfl
theorem s_106 : am_is (cS L) 106 6 = True := eq_true ⟨rfl, by decide⟩
theorem f_106_1 : am_rf (cS L) 106 1 = 112 := rfl
theorem f_106_0 : am_rf (cS L) 106 0 = 107 := rfl
theorem k_107 : am_kd (cS L) 107 = 1 := rfl
theorem s_107 : am_is (cS L) 107 1 = True := eq_true ⟨rfl, by decide⟩
theorem f_107_6 : am_rf (cS L) 107 6 = 111 := rfl
theorem f_107_5 : am_rf (cS L) 107 5 = 110 := rfl
theorem f_107_4 : am_rf (cS L) 107 4 = 109 := rfl
theorem f_107_3 : am_rf (cS L) 107 3 = 108 := rfl
theorem k_108 : am_kd (cS L) 108 = 20 := rfl
theorem n_108 : am_ln (cS L) 108 = 32 := rfl
theorem k_109 : am_kd (cS L) 109 = 20 := rfl
theorem n_109 : am_ln (cS L) 109 = 32 := rfl
theorem k_110 : am_kd (cS L) 110 = 20 := rfl
theorem n_110 : am_ln (cS L) 110 = 32 := rfl
theorem k_111 : am_kd (cS L) 111 = 20 := rfl
theorem n_111 : am_ln (cS L) 111 = 8 := rfl
theorem k_112 : am_kd (cS L) 112 = 3 := rfl
theorem s_112 : am_is (cS L) 112 3 = True := eq_true ⟨rfl, by decide⟩
theorem f_112_5 : am_rf (cS L) 112 5 = 116 := rfl
theorem f_112_4 : am_rf (cS L) 112 4 = 115 := rfl
theorem f_112_3 : am_rf (cS L) 112 3 = 114 := rfl
theorem f_112_2 : am_rf (cS L) 112 2 = 113 := rfl
theorem k_113 : am_kd (cS L) 113 = 20 := rfl
theorem n_113 : am_ln (cS L) 113 = 15 := rfl
theorem k_114 : am_kd (cS L) 114 = 20 := rfl
theorem n_114 : am_ln (cS L) 114 = 15 := rfl
theorem k_115 : am_kd (cS L) 115 = 20 := rfl
theorem n_115 : am_ln (cS L) 115 = 15 := rfl
theorem k_116 : am_kd (cS L) 116 = 20 := rfl
theorem n_116 : am_ln (cS L) 116 = 8 := rfl
theorem k_117 : am_kd (cS L) 117 = 6 := rfl
theorem s_117 : am_is (cS L) 117 6 = True := eq_true ⟨rfl, by decide⟩
theorem f_117_1 : am_rf (cS L) 117 1 = 123 := rfl
theorem f_117_0 : am_rf (cS L) 117 0 = 118 := rfl
theorem k_118 : am_kd (cS L) 118 = 1 := rfl
theorem s_118 : am_is (cS L) 118 1 = True := eq_true ⟨rfl, by decide⟩
theorem f_118_6 : am_rf (cS L) 118 6 = 122 := rfl
theorem f_118_5 : am_rf (cS L) 118 5 = 121 := rfl
theorem f_118_4 : am_rf (cS L) 118 4 = 120 := rfl
theorem f_118_3 : am_rf (cS L) 118 3 = 119 := rfl
theorem k_119 : am_kd (cS L) 119 = 20 := rfl
theorem n_119 : am_ln (cS L) 119 = 32 := rfl
theorem k_120 : am_kd (cS L) 120 = 20 := rfl
theorem n_120 : am_ln (cS L) 120 = 32 := rfl
theorem k_121 : am_kd (cS L) 121 = 20 := rfl
theorem n_121 : am_ln (cS L) 121 = 32 := rfl
theorem k_122 : am_kd (cS L) 122 = 20 := rfl
theorem n_122 : am_ln (cS L) 122 = 8 := rfl
theorem k_123 : am_kd (cS L) 123 = 3 := rfl
theorem s_123 : am_is (cS L) 123 3 = True := eq_true ⟨rfl, by decide⟩
theorem f_123_5 : am_rf (cS L) 123 5 = 127 := rfl
theorem f_123_4 : am_rf (cS L) 123 4 = 126 := rfl
theorem f_123_3 : am_rf (cS L) 123 3 = 125 := rfl
theorem f_123_2 : am_rf (cS L) 123 2 = 124 := rfl
theorem k_124 : am_kd (cS L) 124 = 20 := rfl
theorem n_124 : am_ln (cS L) 124 = 15 := rfl
theorem k_125 : am_kd (cS L) 125 = 20 := rfl
theorem n_125 : am_ln (cS L) 125 = 15 := rfl
theorem k_126 : am_kd (cS L) 126 = 20 := rfl
theorem n_126 : am_ln (cS L) 126 = 15 := rfl
theorem k_127 : am_kd (cS L) 127 = 20 := rfl
theorem n_127 : am_ln (cS L) 127 = 8 := rfl
theorem k_128 : am_kd (cS L) 128 = 6 := rfl
theorem s_128 : am_is (cS L) 128 6 = True := eq_true ⟨rfl, by decide⟩
theorem f_128_1 : am_rf (cS L) 128 1 = 134 := rfl
theorem f_128_0 : am_rf (cS L) 128 0 = 129 := rfl
theorem k_129 : am_kd (cS L) 129 = 1 := rfl
theorem s_129 : am_is (cS L) 129 1 = True := eq_true ⟨rfl, by decide⟩
theorem f_129_6 : am_rf (cS L) 129 6 = 133 := rfl
theorem f_129_5 : am_rf (cS L) 129 5 = 132 := rfl
theorem f_129_4 : am_rf (cS L) 129 4 = 131 := rfl
theorem f_129_3 : am_rf (cS L) 129 3 = 130 := rfl
theorem k_130 : am_kd (cS L) 130 = 20 := rfl
theorem n_130 : am_ln (cS L) 130 = 32 := rfl
theorem k_131 : am_kd (cS L) 131 = 20 := rfl
theorem n_131 : am_ln (cS L) 131 = 32 := rfl
theorem k_132 : am_kd (cS L) 132 = 20 := rfl
theorem n_132 : am_ln (cS L) 132 = 32 := rfl
theorem k_133 : am_kd (cS L) 133 = 20 := rfl
theorem n_133 : am_ln (cS L) 133 = 8 := rfl
theorem k_134 : am_kd (cS L) 134 = 3 := rfl
theorem s_134 : am_is (cS L) 134 3 = True := eq_true ⟨rfl, by decide⟩
theorem f_134_5 : am_rf (cS L) 134 5 = 138 := rfl
theorem f_134_4 : am_rf (cS L) 134 4 = 137 := rfl
theorem f_134_3 : am_rf (cS L) 134 3 = 136 := rfl
theorem f_134_2 : am_rf (cS L) 134 2 = 135 := rfl
theorem k_135 : am_kd (cS L) 135 = 20 := rfl
theorem n_135 : am_ln (cS L) 135 = 15 := rfl
theorem k_136 : am_kd (cS L) 136 = 20 := rfl
theorem n_136 : am_ln (cS L) 136 = 15 := rfl
theorem k_137 : am_kd (cS L) 137 = 20 := rfl
theorem n_137 : am_ln (cS L) 137 = 15 := rfl
theorem k_138 : am_kd (cS L) 138 = 20 := rfl
theorem n_138 : am_ln (cS L) 138 = 8 := rfl
theorem k_139 : am_kd (cS L) 139 = 6 := rfl
theorem s_139 : am_is (cS L) 139 6 = True := eq_true ⟨rfl, by decide⟩
theorem f_139_1 : am_rf (cS L) 139 1 = 145 := rfl
theorem f_139_0 : am_rf (cS L) 139 0 = 140 := rfl
theorem k_140 : am_kd (cS L) 140 = 1 := rfl
theorem s_140 : am_is (cS L) 140 1 = True := eq_true ⟨rfl, by decide⟩
theorem f_140_6 : am_rf (cS L) 140 6 = 144 := rfl
theorem f_140_5 : am_rf (cS L) 140 5 = 143 := rfl
theorem f_140_4 : am_rf (cS L) 140 4 = 142 := rfl
theorem f_140_3 : am_rf (cS L) 140 3 = 141 := rfl
theorem k_141 : am_kd (cS L) 141 = 20 := rfl
theorem n_141 : am_ln (cS L) 141 = 32 := rfl
theorem k_142 : am_kd (cS L) 142 = 20 := rfl
theorem n_142 : am_ln (cS L) 142 = 32 := rfl
theorem k_143 : am_kd (cS L) 143 = 20 := rfl
theorem n_143 : am_ln (cS L) 143 = 32 := rfl
theorem k_144 : am_kd (cS L) 144 = 20 := rfl
theorem n_144 : am_ln (cS L) 144 = 8 := rfl
theorem k_145 : am_kd (cS L) 145 = 3 := rfl
theorem s_145 : am_is (cS L) 145 3 = True := eq_true ⟨rfl, by decide⟩
theorem f_145_5 : am_rf (cS L) 145 5 = 149 := rfl
theorem f_145_4 : am_rf (cS L) 145 4 = 148 := rfl
theorem f_145_3 : am_rf (cS L) 145 3 = 147 := rfl
theorem f_145_2 : am_rf (cS L) 145 2 = 146 := rfl
theorem k_146 : am_kd (cS L) 146 = 20 := rfl
theorem n_146 : am_ln (cS L) 146 = 15 := rfl
theorem k_147 : am_kd (cS L) 147 = 20 := rfl
theorem n_147 : am_ln (cS L) 147 = 15 := rfl
theorem k_148 : am_kd (cS L) 148 = 20 := rfl
theorem n_148 : am_ln (cS L) 148 = 15 := rfl
theorem k_149 : am_kd (cS L) 149 = 20 := rfl
theorem n_149 : am_ln (cS L) 149 = 8 := rfl
theorem k_150 : am_kd (cS L) 150 = 6 := rfl
theorem s_150 : am_is (cS L) 150 6 = True := eq_true ⟨rfl, by decide⟩
theorem f_150_1 : am_rf (cS L) 150 1 = 156 := rfl
theorem f_150_0 : am_rf (cS L) 150 0 = 151 := rfl
theorem k_151 : am_kd (cS L) 151 = 1 := rfl
theorem s_151 : am_is (cS L) 151 1 = True := eq_true ⟨rfl, by decide⟩
theorem f_151_6 : am_rf (cS L) 151 6 = 155 := rfl
theorem f_151_5 : am_rf (cS L) 151 5 = 154 := rfl
theorem f_151_4 : am_rf (cS L) 151 4 = 153 := rfl
theorem f_151_3 : am_rf (cS L) 151 3 = 152 := rfl
theorem k_152 : am_kd (cS L) 152 = 20 := rfl
theorem n_152 : am_ln (cS L) 152 = 32 := rfl
theorem k_153 : am_kd (cS L) 153 = 20 := rfl
theorem n_153 : am_ln (cS L) 153 = 32 := rfl
theorem k_154 : am_kd (cS L) 154 = 20 := rfl
theorem n_154 : am_ln (cS L) 154 = 32 := rfl
theorem k_155 : am_kd (cS L) 155 = 20 := rfl
theorem n_155 : am_ln (cS L) 155 = 8 := rfl
theorem k_156 : am_kd (cS L) 156 = 3 := rfl
theorem s_156 : am_is (cS L) 156 3 = True := eq_true ⟨rfl, by decide⟩
theorem f_156_5 : am_rf (cS L) 156 5 = 160 := rfl
theorem f_156_4 : am_rf (cS L) 156 4 = 159 := rfl
theorem f_156_3 : am_rf (cS L) 156 3 = 158 := rfl
theorem f_156_2 : am_rf (cS L) 156 2 = 157 := rfl
theorem k_157 : am_kd (cS L) 157 = 20 := rfl
theorem n_157 : am_ln (cS L) 157 = 15 := rfl
theorem k_158 : am_kd (cS L) 158 = 20 := rfl
theorem n_158 : am_ln (cS L) 158 = 15 := rfl
theorem k_159 : am_kd (cS L) 159 = 20 := rfl
theorem n_159 : am_ln (cS L) 159 = 15 := rfl
theorem k_160 : am_kd (cS L) 160 = 20 := rfl
theorem n_160 : am_ln (cS L) 160 = 8 := rfl
theorem k_161 : am_kd (cS L) 161 = 9 := rfl
theorem s_161 : am_is (cS L) 161 9 = True := eq_true ⟨rfl, by decide⟩
theorem f_161_0 : am_rf (cS L) 161 0 = 162 := rfl
theorem f_161_1 : am_rf (cS L) 161 1 = 163 := rfl
theorem f_161_3 : am_rf (cS L) 161 3 = 164 := rfl
theorem f_161_7 : am_rf (cS L) 161 7 = 165 := rfl
theorem f_161_12 : am_rf (cS L) 161 12 = 166 := rfl
theorem f_161_13 : am_rf (cS L) 161 13 = 167 := rfl
theorem f_161_14 : am_rf (cS L) 161 14 = 168 := rfl
theorem f_161_15 : am_rf (cS L) 161 15 = 169 := rfl
theorem f_161_16 : am_rf (cS L) 161 16 = 170 := rfl
theorem f_161_17 : am_rf (cS L) 161 17 = 171 := rfl
theorem f_161_18 : am_rf (cS L) 161 18 = 172 := rfl
theorem f_161_19 : am_rf (cS L) 161 19 = 173 := rfl
theorem f_161_21 : am_rf (cS L) 161 21 = 174 := rfl
theorem f_161_22 : am_rf (cS L) 161 22 = 175 := rfl
theorem f_161_25 : am_rf (cS L) 161 25 = 176 := rfl
theorem k_162 : am_kd (cS L) 162 = 20 := rfl
theorem n_162 : am_ln (cS L) 162 = 165 := rfl
theorem k_163 : am_kd (cS L) 163 = 20 := rfl
theorem n_163 : am_ln (cS L) 163 = 1320 := rfl
theorem k_164 : am_kd (cS L) 164 = 20 := rfl
theorem n_164 : am_ln (cS L) 164 = 330 := rfl
theorem k_165 : am_kd (cS L) 165 = 20 := rfl
theorem n_165 : am_ln (cS L) 165 = 300 := rfl
theorem k_166 : am_kd (cS L) 166 = 20 := rfl
theorem n_166 : am_ln (cS L) 166 = 100 := rfl
theorem k_167 : am_kd (cS L) 167 = 20 := rfl
theorem n_167 : am_ln (cS L) 167 = 32 := rfl
theorem k_168 : am_kd (cS L) 168 = 21 := rfl
theorem n_168 : am_ln (cS L) 168 = 32 := rfl
theorem k_169 : am_kd (cS L) 169 = 20 := rfl
theorem n_169 : am_ln (cS L) 169 = 16 := rfl
theorem k_170 : am_kd (cS L) 170 = 20 := rfl
theorem n_170 : am_ln (cS L) 170 = 16 := rfl
theorem k_171 : am_kd (cS L) 171 = 20 := rfl
theorem n_171 : am_ln (cS L) 171 = 16 := rfl
theorem k_172 : am_kd (cS L) 172 = 20 := rfl
theorem n_172 : am_ln (cS L) 172 = 16 := rfl
theorem k_173 : am_kd (cS L) 173 = 20 := rfl
theorem n_173 : am_ln (cS L) 173 = 16 := rfl
theorem k_174 : am_kd (cS L) 174 = 20 := rfl
theorem n_174 : am_ln (cS L) 174 = 8 := rfl
theorem k_175 : am_kd (cS L) 175 = 20 := rfl
theorem n_175 : am_ln (cS L) 175 = 8 := rfl
theorem k_176 : am_kd (cS L) 176 = 20 := rfl
theorem n_176 : am_ln (cS L) 176 = 8 := rfl
end SHP
