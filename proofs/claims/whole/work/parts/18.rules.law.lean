section RU
variable {d : Nat} {ls : am_L} {l0 l1 l2 l3 l4 l5 l6 l7 : Option Value} {st : List Value} {S : am_S} {I : am_I} {J : am_J} {Q : am_Q} {x0 x1 x2 x3 x4 x5 x10 x11 x12 x13 x14 x15 : Int32} {u0 u1 u2 u3 u10 u11 u12 u13 : Int64} {a0 a1 a2 a3 a4 a10 a11 a12 a13 a14 a15 : Nat}
-- 185 Law.law([I)Z; heads [18]
theorem e185 : am_C (d + 1) 185 [.ref a0] S I J Q = am_T d 185 0 [some (.ref a0), none, none, none] [] S I J Q := tr_en (Nat.le_of_ble_eq_true rfl) rfl
theorem r185_0 : am_T d 185 0 ls st S I J Q = am_T d 185 3 ls (.ref S.length :: st) (S ++ [(8, 14, fun _ => 0)]) (am_row I S.length (fun _ => 0)) (am_row J S.length (fun _ => 0)) Q := tr_new (k := 7) (by decide +kernel) (by decide +kernel)
theorem r185_3 : am_T d 185 3 ls (.ref a0 :: st) S I J Q = am_T d 185 4 ls (.ref a0 :: .ref a0 :: st) S I J Q := tr_dupa (by decide +kernel)
theorem r185_4 : am_T d 185 4 ls [.ref a0, .ref a10] S I J Q = am_C d 57 [.ref a0] S I J (fun r S I J => am_T d 185 7 ls (am_psh r [.ref a10]) S I J Q) := tr_spec (k := 9) (by decide +kernel) (Or.inl (by decide +kernel)) rfl rfl (Nat.le_of_ble_eq_true rfl)
theorem r185_7 : am_T d 185 7 [l0, l1, l2, l3] (.ref a0 :: st) S I J Q = am_T d 185 8 [am_clr l0, some (.ref a0), l2, l3] st S I J Q := tr_astore_n (m := 1) (by decide +kernel) (Nat.le_of_ble_eq_true rfl) rfl
theorem r185_8 : am_T d 185 8 ls st S I J Q = am_T d 185 11 ls (.ref S.length :: st) (S ++ [(9, 27, fun _ => 0)]) (am_row I S.length (fun _ => 0)) (am_row J S.length (fun _ => 0)) Q := tr_new (k := 10) (by decide +kernel) (by decide +kernel)
theorem r185_11 : am_T d 185 11 ls (.ref a0 :: st) S I J Q = am_T d 185 12 ls (.ref a0 :: .ref a0 :: st) S I J Q := tr_dupa (by decide +kernel)
theorem r185_12 : am_T d 185 12 ls [.ref a0, .ref a10] S I J Q = am_C d 111 [.ref a0] S I J (fun r S I J => am_T d 185 15 ls (am_psh r [.ref a10]) S I J Q) := tr_spec (k := 12) (by decide +kernel) (Or.inl (by decide +kernel)) rfl rfl (Nat.le_of_ble_eq_true rfl)
theorem r185_15 : am_T d 185 15 [l0, l1, l2, l3] (.ref a0 :: st) S I J Q = am_T d 185 16 [l0, am_clr l1, some (.ref a0), l3] st S I J Q := tr_astore_n (m := 2) (by decide +kernel) (Nat.le_of_ble_eq_true rfl) rfl
theorem r185_16 : am_T d 185 16 ls st S I J Q = am_T d 185 17 ls (.int 0 :: st) S I J Q := tr_iconst (m := 0) (by decide +kernel) (by decide)
theorem r185_17 : am_T d 185 17 [l0, l1, l2, l3] (.int x0 :: st) S I J Q = am_T d 185 18 [l0, l1, am_clr l2, some (.int x0)] st S I J Q := tr_istore_n (m := 3) (by decide +kernel) (Nat.le_of_ble_eq_true rfl) rfl
theorem r185_18 : am_T d 185 18 [l0, l1, l2, some (.int x0)] st S I J Q = am_T d 185 19 [l0, l1, l2, some (.int x0)] (.int x0 :: st) S I J Q := tr_iload_n (m := 3) (by decide +kernel) rfl
theorem r185_19 : am_T d 185 19 [some (.ref a0), l1, l2, l3] st S I J Q = am_T d 185 20 [some (.ref a0), l1, l2, l3] (.ref a0 :: st) S I J Q := tr_aload_n (m := 0) (by decide +kernel) rfl
theorem r185_20 : am_T d 185 20 ls (.ref a0 :: st) S I J Q = (am_kd S a0 = 20 ∧ am_T d 185 21 ls (.int (Int32.ofNat (am_ln S a0)) :: st) S I J Q) := tr_alen (by decide +kernel)
theorem r185_21 : am_T d 185 21 ls st S I J Q = am_T d 185 22 ls (.int 4 :: st) S I J Q := tr_iconst (m := 4) (by decide +kernel) (by decide)
theorem r185_22 : am_T d 185 22 ls (.int x1 :: .int x0 :: st) S I J Q = am_T d 185 23 ls (.int (x0 - x1) :: st) S I J Q := tr_isub (by decide +kernel)
theorem r185_23 : am_T d 185 23 ls (.int x1 :: .int x0 :: st) S I J Q = if x1 < x0 then am_T d 185 1079 ls st S I J Q else am_T d 185 26 ls st S I J Q := tr_icmpgt (o := 1056) (by decide +kernel) rfl
theorem r185_26 : am_T d 185 26 [some (.ref a0), l1, l2, l3] st S I J Q = am_T d 185 27 [some (.ref a0), l1, l2, l3] (.ref a0 :: st) S I J Q := tr_aload_n (m := 0) (by decide +kernel) rfl
theorem r185_27 : am_T d 185 27 [l0, l1, l2, some (.int x0)] st S I J Q = am_T d 185 28 [l0, l1, l2, some (.int x0)] (.int x0 :: st) S I J Q := tr_iload_n (m := 3) (by decide +kernel) rfl
theorem r185_28 : am_T d 185 28 ls (.int x0 :: .ref a0 :: st) S I J Q = (am_ix S a0 20 x0 ∧ am_T d 185 29 ls (.int (I a0 x0.toNatClampNeg) :: st) S I J Q) := tr_iald (by decide +kernel)
theorem r185_29 : am_T d 185 29 ls st S I J Q = am_T d 185 31 ls (.int 63 :: st) S I J Q := tr_bipush (m := 63) (by decide +kernel) (by decide)
theorem r185_31 : am_T d 185 31 ls (.int x1 :: .int x0 :: st) S I J Q = am_T d 185 32 ls (.int (x0 &&& x1) :: st) S I J Q := tr_iand (by decide +kernel)
theorem r185_204 : am_T d 185 204 [l0, some (.ref a0), l2, l3] st S I J Q = am_T d 185 205 [l0, some (.ref a0), l2, l3] (.ref a0 :: st) S I J Q := tr_aload_n (m := 1) (by decide +kernel) rfl
theorem r185_205 : am_T d 185 205 [some (.ref a0), l1, l2, l3] st S I J Q = am_T d 185 206 [some (.ref a0), l1, l2, l3] (.ref a0 :: st) S I J Q := tr_aload_n (m := 0) (by decide +kernel) rfl
theorem r185_206 : am_T d 185 206 [l0, l1, l2, some (.int x0)] st S I J Q = am_T d 185 207 [l0, l1, l2, some (.int x0)] (.int x0 :: st) S I J Q := tr_iload_n (m := 3) (by decide +kernel) rfl
theorem r185_207 : am_T d 185 207 ls st S I J Q = am_T d 185 208 ls (.int 1 :: st) S I J Q := tr_iconst (m := 1) (by decide +kernel) (by decide)
theorem r185_208 : am_T d 185 208 ls (.int x1 :: .int x0 :: st) S I J Q = am_T d 185 209 ls (.int (x0 + x1) :: st) S I J Q := tr_iadd (by decide +kernel)
theorem r185_209 : am_T d 185 209 ls (.int x0 :: .ref a0 :: st) S I J Q = (am_ix S a0 20 x0 ∧ am_T d 185 210 ls (.int (I a0 x0.toNatClampNeg) :: st) S I J Q) := tr_iald (by decide +kernel)
theorem r185_210 : am_T d 185 210 [some (.ref a0), l1, l2, l3] st S I J Q = am_T d 185 211 [some (.ref a0), l1, l2, l3] (.ref a0 :: st) S I J Q := tr_aload_n (m := 0) (by decide +kernel) rfl
theorem r185_211 : am_T d 185 211 [l0, l1, l2, some (.int x0)] st S I J Q = am_T d 185 212 [l0, l1, l2, some (.int x0)] (.int x0 :: st) S I J Q := tr_iload_n (m := 3) (by decide +kernel) rfl
theorem r185_212 : am_T d 185 212 ls st S I J Q = am_T d 185 213 ls (.int 2 :: st) S I J Q := tr_iconst (m := 2) (by decide +kernel) (by decide)
theorem r185_213 : am_T d 185 213 ls (.int x1 :: .int x0 :: st) S I J Q = am_T d 185 214 ls (.int (x0 + x1) :: st) S I J Q := tr_iadd (by decide +kernel)
theorem r185_214 : am_T d 185 214 ls (.int x0 :: .ref a0 :: st) S I J Q = (am_ix S a0 20 x0 ∧ am_T d 185 215 ls (.int (I a0 x0.toNatClampNeg) :: st) S I J Q) := tr_iald (by decide +kernel)
theorem r185_215 : am_T d 185 215 ls [.int x2, .int x1, .ref a0] S I J Q = (am_is S a0 8 ∧ am_C d 58 [.ref a0, .int x1, .int x2] S I J (fun r S I J => am_T d 185 218 ls (am_psh r []) S I J Q)) := tr_virt (k := 13) (by decide +kernel) (by decide +kernel) rfl rfl (Nat.le_of_ble_eq_true rfl) (by decide +kernel)
theorem r185_218 : am_T d 185 218 [l0, l1, some (.ref a0), l3] st S I J Q = am_T d 185 219 [l0, l1, some (.ref a0), l3] (.ref a0 :: st) S I J Q := tr_aload_n (m := 2) (by decide +kernel) rfl
theorem r185_219 : am_T d 185 219 [some (.ref a0), l1, l2, l3] st S I J Q = am_T d 185 220 [some (.ref a0), l1, l2, l3] (.ref a0 :: st) S I J Q := tr_aload_n (m := 0) (by decide +kernel) rfl
theorem r185_220 : am_T d 185 220 [l0, l1, l2, some (.int x0)] st S I J Q = am_T d 185 221 [l0, l1, l2, some (.int x0)] (.int x0 :: st) S I J Q := tr_iload_n (m := 3) (by decide +kernel) rfl
theorem r185_221 : am_T d 185 221 ls st S I J Q = am_T d 185 222 ls (.int 1 :: st) S I J Q := tr_iconst (m := 1) (by decide +kernel) (by decide)
theorem r185_222 : am_T d 185 222 ls (.int x1 :: .int x0 :: st) S I J Q = am_T d 185 223 ls (.int (x0 + x1) :: st) S I J Q := tr_iadd (by decide +kernel)
theorem r185_223 : am_T d 185 223 ls (.int x0 :: .ref a0 :: st) S I J Q = (am_ix S a0 20 x0 ∧ am_T d 185 224 ls (.int (I a0 x0.toNatClampNeg) :: st) S I J Q) := tr_iald (by decide +kernel)
theorem r185_224 : am_T d 185 224 [some (.ref a0), l1, l2, l3] st S I J Q = am_T d 185 225 [some (.ref a0), l1, l2, l3] (.ref a0 :: st) S I J Q := tr_aload_n (m := 0) (by decide +kernel) rfl
theorem r185_225 : am_T d 185 225 [l0, l1, l2, some (.int x0)] st S I J Q = am_T d 185 226 [l0, l1, l2, some (.int x0)] (.int x0 :: st) S I J Q := tr_iload_n (m := 3) (by decide +kernel) rfl
theorem r185_226 : am_T d 185 226 ls st S I J Q = am_T d 185 227 ls (.int 2 :: st) S I J Q := tr_iconst (m := 2) (by decide +kernel) (by decide)
theorem r185_227 : am_T d 185 227 ls (.int x1 :: .int x0 :: st) S I J Q = am_T d 185 228 ls (.int (x0 + x1) :: st) S I J Q := tr_iadd (by decide +kernel)
theorem r185_228 : am_T d 185 228 ls (.int x0 :: .ref a0 :: st) S I J Q = (am_ix S a0 20 x0 ∧ am_T d 185 229 ls (.int (I a0 x0.toNatClampNeg) :: st) S I J Q) := tr_iald (by decide +kernel)
theorem r185_229 : am_T d 185 229 ls [.int x2, .int x1, .ref a0, .int x10] S I J Q = (am_is S a0 9 ∧ am_C d 118 [.ref a0, .int x1, .int x2] S I J (fun r S I J => am_T d 185 232 ls (am_psh r [.int x10]) S I J Q)) := tr_virt (k := 17) (by decide +kernel) (by decide +kernel) rfl rfl (Nat.le_of_ble_eq_true rfl) (by decide +kernel)
theorem r185_232 : am_T d 185 232 ls (.int x1 :: .int x0 :: st) S I J Q = if x0 = x1 then am_T d 185 1073 ls st S I J Q else am_T d 185 235 ls st S I J Q := tr_icmpeq (o := 841) (by decide +kernel) rfl
theorem r185_235 : am_T d 185 235 ls st S I J Q = am_T d 185 236 ls (.int 0 :: st) S I J Q := tr_iconst (m := 0) (by decide +kernel) (by decide)
theorem r185_236 : am_T d 185 236 ls [.int x0] S I J Q = ((x0 = 0 ∨ x0 = 1) ∧ Q (some (.int x0)) S I J) := tr_iretz (by decide +kernel) (by decide +kernel)
theorem r185_237 : am_T d 185 237 [l0, some (.ref a0), l2, l3] st S I J Q = am_T d 185 238 [l0, some (.ref a0), l2, l3] (.ref a0 :: st) S I J Q := tr_aload_n (m := 1) (by decide +kernel) rfl
theorem r185_238 : am_T d 185 238 [some (.ref a0), l1, l2, l3] st S I J Q = am_T d 185 239 [some (.ref a0), l1, l2, l3] (.ref a0 :: st) S I J Q := tr_aload_n (m := 0) (by decide +kernel) rfl
theorem r185_239 : am_T d 185 239 [l0, l1, l2, some (.int x0)] st S I J Q = am_T d 185 240 [l0, l1, l2, some (.int x0)] (.int x0 :: st) S I J Q := tr_iload_n (m := 3) (by decide +kernel) rfl
theorem r185_240 : am_T d 185 240 ls st S I J Q = am_T d 185 241 ls (.int 1 :: st) S I J Q := tr_iconst (m := 1) (by decide +kernel) (by decide)
theorem r185_241 : am_T d 185 241 ls (.int x1 :: .int x0 :: st) S I J Q = am_T d 185 242 ls (.int (x0 + x1) :: st) S I J Q := tr_iadd (by decide +kernel)
theorem r185_242 : am_T d 185 242 ls (.int x0 :: .ref a0 :: st) S I J Q = (am_ix S a0 20 x0 ∧ am_T d 185 243 ls (.int (I a0 x0.toNatClampNeg) :: st) S I J Q) := tr_iald (by decide +kernel)
theorem r185_243 : am_T d 185 243 [some (.ref a0), l1, l2, l3] st S I J Q = am_T d 185 244 [some (.ref a0), l1, l2, l3] (.ref a0 :: st) S I J Q := tr_aload_n (m := 0) (by decide +kernel) rfl
theorem r185_244 : am_T d 185 244 [l0, l1, l2, some (.int x0)] st S I J Q = am_T d 185 245 [l0, l1, l2, some (.int x0)] (.int x0 :: st) S I J Q := tr_iload_n (m := 3) (by decide +kernel) rfl
theorem r185_245 : am_T d 185 245 ls st S I J Q = am_T d 185 246 ls (.int 2 :: st) S I J Q := tr_iconst (m := 2) (by decide +kernel) (by decide)
theorem r185_246 : am_T d 185 246 ls (.int x1 :: .int x0 :: st) S I J Q = am_T d 185 247 ls (.int (x0 + x1) :: st) S I J Q := tr_iadd (by decide +kernel)
theorem r185_247 : am_T d 185 247 ls (.int x0 :: .ref a0 :: st) S I J Q = (am_ix S a0 20 x0 ∧ am_T d 185 248 ls (.int (I a0 x0.toNatClampNeg) :: st) S I J Q) := tr_iald (by decide +kernel)
theorem r185_248 : am_T d 185 248 [some (.ref a0), l1, l2, l3] st S I J Q = am_T d 185 249 [some (.ref a0), l1, l2, l3] (.ref a0 :: st) S I J Q := tr_aload_n (m := 0) (by decide +kernel) rfl
theorem r185_249 : am_T d 185 249 [l0, l1, l2, some (.int x0)] st S I J Q = am_T d 185 250 [l0, l1, l2, some (.int x0)] (.int x0 :: st) S I J Q := tr_iload_n (m := 3) (by decide +kernel) rfl
theorem r185_250 : am_T d 185 250 ls st S I J Q = am_T d 185 251 ls (.int 3 :: st) S I J Q := tr_iconst (m := 3) (by decide +kernel) (by decide)
theorem r185_251 : am_T d 185 251 ls (.int x1 :: .int x0 :: st) S I J Q = am_T d 185 252 ls (.int (x0 + x1) :: st) S I J Q := tr_iadd (by decide +kernel)
theorem r185_252 : am_T d 185 252 ls (.int x0 :: .ref a0 :: st) S I J Q = (am_ix S a0 20 x0 ∧ am_T d 185 253 ls (.int (I a0 x0.toNatClampNeg) :: st) S I J Q) := tr_iald (by decide +kernel)
theorem r185_253 : am_T d 185 253 ls [.int x3, .int x2, .int x1, .ref a0] S I J Q = (am_is S a0 8 ∧ am_C d 59 [.ref a0, .int x1, .int x2, .int x3] S I J (fun r S I J => am_T d 185 256 ls (am_psh r []) S I J Q)) := tr_virt (k := 18) (by decide +kernel) (by decide +kernel) rfl rfl (Nat.le_of_ble_eq_true rfl) (by decide +kernel)
theorem r185_256 : am_T d 185 256 [l0, l1, some (.ref a0), l3] st S I J Q = am_T d 185 257 [l0, l1, some (.ref a0), l3] (.ref a0 :: st) S I J Q := tr_aload_n (m := 2) (by decide +kernel) rfl
theorem r185_257 : am_T d 185 257 [some (.ref a0), l1, l2, l3] st S I J Q = am_T d 185 258 [some (.ref a0), l1, l2, l3] (.ref a0 :: st) S I J Q := tr_aload_n (m := 0) (by decide +kernel) rfl
theorem r185_258 : am_T d 185 258 [l0, l1, l2, some (.int x0)] st S I J Q = am_T d 185 259 [l0, l1, l2, some (.int x0)] (.int x0 :: st) S I J Q := tr_iload_n (m := 3) (by decide +kernel) rfl
theorem r185_259 : am_T d 185 259 ls st S I J Q = am_T d 185 260 ls (.int 1 :: st) S I J Q := tr_iconst (m := 1) (by decide +kernel) (by decide)
theorem r185_260 : am_T d 185 260 ls (.int x1 :: .int x0 :: st) S I J Q = am_T d 185 261 ls (.int (x0 + x1) :: st) S I J Q := tr_iadd (by decide +kernel)
theorem r185_261 : am_T d 185 261 ls (.int x0 :: .ref a0 :: st) S I J Q = (am_ix S a0 20 x0 ∧ am_T d 185 262 ls (.int (I a0 x0.toNatClampNeg) :: st) S I J Q) := tr_iald (by decide +kernel)
theorem r185_262 : am_T d 185 262 [some (.ref a0), l1, l2, l3] st S I J Q = am_T d 185 263 [some (.ref a0), l1, l2, l3] (.ref a0 :: st) S I J Q := tr_aload_n (m := 0) (by decide +kernel) rfl
theorem r185_263 : am_T d 185 263 [l0, l1, l2, some (.int x0)] st S I J Q = am_T d 185 264 [l0, l1, l2, some (.int x0)] (.int x0 :: st) S I J Q := tr_iload_n (m := 3) (by decide +kernel) rfl
theorem r185_264 : am_T d 185 264 ls st S I J Q = am_T d 185 265 ls (.int 2 :: st) S I J Q := tr_iconst (m := 2) (by decide +kernel) (by decide)
theorem r185_265 : am_T d 185 265 ls (.int x1 :: .int x0 :: st) S I J Q = am_T d 185 266 ls (.int (x0 + x1) :: st) S I J Q := tr_iadd (by decide +kernel)
theorem r185_266 : am_T d 185 266 ls (.int x0 :: .ref a0 :: st) S I J Q = (am_ix S a0 20 x0 ∧ am_T d 185 267 ls (.int (I a0 x0.toNatClampNeg) :: st) S I J Q) := tr_iald (by decide +kernel)
theorem r185_267 : am_T d 185 267 [some (.ref a0), l1, l2, l3] st S I J Q = am_T d 185 268 [some (.ref a0), l1, l2, l3] (.ref a0 :: st) S I J Q := tr_aload_n (m := 0) (by decide +kernel) rfl
theorem r185_268 : am_T d 185 268 [l0, l1, l2, some (.int x0)] st S I J Q = am_T d 185 269 [l0, l1, l2, some (.int x0)] (.int x0 :: st) S I J Q := tr_iload_n (m := 3) (by decide +kernel) rfl
theorem r185_269 : am_T d 185 269 ls st S I J Q = am_T d 185 270 ls (.int 3 :: st) S I J Q := tr_iconst (m := 3) (by decide +kernel) (by decide)
theorem r185_270 : am_T d 185 270 ls (.int x1 :: .int x0 :: st) S I J Q = am_T d 185 271 ls (.int (x0 + x1) :: st) S I J Q := tr_iadd (by decide +kernel)
theorem r185_271 : am_T d 185 271 ls (.int x0 :: .ref a0 :: st) S I J Q = (am_ix S a0 20 x0 ∧ am_T d 185 272 ls (.int (I a0 x0.toNatClampNeg) :: st) S I J Q) := tr_iald (by decide +kernel)
theorem r185_272 : am_T d 185 272 ls [.int x3, .int x2, .int x1, .ref a0, .int x10] S I J Q = (am_is S a0 9 ∧ am_C d 120 [.ref a0, .int x1, .int x2, .int x3] S I J (fun r S I J => am_T d 185 275 ls (am_psh r [.int x10]) S I J Q)) := tr_virt (k := 22) (by decide +kernel) (by decide +kernel) rfl rfl (Nat.le_of_ble_eq_true rfl) (by decide +kernel)
theorem r185_275 : am_T d 185 275 ls (.int x1 :: .int x0 :: st) S I J Q = if x0 = x1 then am_T d 185 1073 ls st S I J Q else am_T d 185 278 ls st S I J Q := tr_icmpeq (o := 798) (by decide +kernel) rfl
theorem r185_278 : am_T d 185 278 ls st S I J Q = am_T d 185 279 ls (.int 0 :: st) S I J Q := tr_iconst (m := 0) (by decide +kernel) (by decide)
theorem r185_279 : am_T d 185 279 ls [.int x0] S I J Q = ((x0 = 0 ∨ x0 = 1) ∧ Q (some (.int x0)) S I J) := tr_iretz (by decide +kernel) (by decide +kernel)
theorem r185_280 : am_T d 185 280 [l0, some (.ref a0), l2, l3] st S I J Q = am_T d 185 281 [l0, some (.ref a0), l2, l3] (.ref a0 :: st) S I J Q := tr_aload_n (m := 1) (by decide +kernel) rfl
theorem r185_281 : am_T d 185 281 [some (.ref a0), l1, l2, l3] st S I J Q = am_T d 185 282 [some (.ref a0), l1, l2, l3] (.ref a0 :: st) S I J Q := tr_aload_n (m := 0) (by decide +kernel) rfl
theorem r185_282 : am_T d 185 282 [l0, l1, l2, some (.int x0)] st S I J Q = am_T d 185 283 [l0, l1, l2, some (.int x0)] (.int x0 :: st) S I J Q := tr_iload_n (m := 3) (by decide +kernel) rfl
theorem r185_283 : am_T d 185 283 ls st S I J Q = am_T d 185 284 ls (.int 1 :: st) S I J Q := tr_iconst (m := 1) (by decide +kernel) (by decide)
theorem r185_284 : am_T d 185 284 ls (.int x1 :: .int x0 :: st) S I J Q = am_T d 185 285 ls (.int (x0 + x1) :: st) S I J Q := tr_iadd (by decide +kernel)
theorem r185_285 : am_T d 185 285 ls (.int x0 :: .ref a0 :: st) S I J Q = (am_ix S a0 20 x0 ∧ am_T d 185 286 ls (.int (I a0 x0.toNatClampNeg) :: st) S I J Q) := tr_iald (by decide +kernel)
theorem r185_286 : am_T d 185 286 ls [.int x1, .ref a0] S I J Q = (am_is S a0 8 ∧ am_C d 60 [.ref a0, .int x1] S I J (fun r S I J => am_T d 185 289 ls (am_psh r []) S I J Q)) := tr_virt (k := 23) (by decide +kernel) (by decide +kernel) rfl rfl (Nat.le_of_ble_eq_true rfl) (by decide +kernel)
theorem r185_289 : am_T d 185 289 [l0, l1, some (.ref a0), l3] st S I J Q = am_T d 185 290 [l0, l1, some (.ref a0), l3] (.ref a0 :: st) S I J Q := tr_aload_n (m := 2) (by decide +kernel) rfl
theorem r185_290 : am_T d 185 290 [some (.ref a0), l1, l2, l3] st S I J Q = am_T d 185 291 [some (.ref a0), l1, l2, l3] (.ref a0 :: st) S I J Q := tr_aload_n (m := 0) (by decide +kernel) rfl
theorem r185_291 : am_T d 185 291 [l0, l1, l2, some (.int x0)] st S I J Q = am_T d 185 292 [l0, l1, l2, some (.int x0)] (.int x0 :: st) S I J Q := tr_iload_n (m := 3) (by decide +kernel) rfl
theorem r185_292 : am_T d 185 292 ls st S I J Q = am_T d 185 293 ls (.int 1 :: st) S I J Q := tr_iconst (m := 1) (by decide +kernel) (by decide)
theorem r185_293 : am_T d 185 293 ls (.int x1 :: .int x0 :: st) S I J Q = am_T d 185 294 ls (.int (x0 + x1) :: st) S I J Q := tr_iadd (by decide +kernel)
theorem r185_294 : am_T d 185 294 ls (.int x0 :: .ref a0 :: st) S I J Q = (am_ix S a0 20 x0 ∧ am_T d 185 295 ls (.int (I a0 x0.toNatClampNeg) :: st) S I J Q) := tr_iald (by decide +kernel)
theorem r185_295 : am_T d 185 295 ls [.int x1, .ref a0, .int x10] S I J Q = (am_is S a0 9 ∧ am_C d 122 [.ref a0, .int x1] S I J (fun r S I J => am_T d 185 298 ls (am_psh r [.int x10]) S I J Q)) := tr_virt (k := 27) (by decide +kernel) (by decide +kernel) rfl rfl (Nat.le_of_ble_eq_true rfl) (by decide +kernel)
theorem r185_298 : am_T d 185 298 ls (.int x1 :: .int x0 :: st) S I J Q = if x0 = x1 then am_T d 185 1073 ls st S I J Q else am_T d 185 301 ls st S I J Q := tr_icmpeq (o := 775) (by decide +kernel) rfl
theorem r185_301 : am_T d 185 301 ls st S I J Q = am_T d 185 302 ls (.int 0 :: st) S I J Q := tr_iconst (m := 0) (by decide +kernel) (by decide)
theorem r185_302 : am_T d 185 302 ls [.int x0] S I J Q = ((x0 = 0 ∨ x0 = 1) ∧ Q (some (.int x0)) S I J) := tr_iretz (by decide +kernel) (by decide +kernel)
theorem r185_303 : am_T d 185 303 [l0, some (.ref a0), l2, l3] st S I J Q = am_T d 185 304 [l0, some (.ref a0), l2, l3] (.ref a0 :: st) S I J Q := tr_aload_n (m := 1) (by decide +kernel) rfl
theorem r185_304 : am_T d 185 304 [some (.ref a0), l1, l2, l3] st S I J Q = am_T d 185 305 [some (.ref a0), l1, l2, l3] (.ref a0 :: st) S I J Q := tr_aload_n (m := 0) (by decide +kernel) rfl
theorem r185_305 : am_T d 185 305 [l0, l1, l2, some (.int x0)] st S I J Q = am_T d 185 306 [l0, l1, l2, some (.int x0)] (.int x0 :: st) S I J Q := tr_iload_n (m := 3) (by decide +kernel) rfl
theorem r185_306 : am_T d 185 306 ls st S I J Q = am_T d 185 307 ls (.int 1 :: st) S I J Q := tr_iconst (m := 1) (by decide +kernel) (by decide)
theorem r185_307 : am_T d 185 307 ls (.int x1 :: .int x0 :: st) S I J Q = am_T d 185 308 ls (.int (x0 + x1) :: st) S I J Q := tr_iadd (by decide +kernel)
theorem r185_308 : am_T d 185 308 ls (.int x0 :: .ref a0 :: st) S I J Q = (am_ix S a0 20 x0 ∧ am_T d 185 309 ls (.int (I a0 x0.toNatClampNeg) :: st) S I J Q) := tr_iald (by decide +kernel)
theorem r185_309 : am_T d 185 309 [some (.ref a0), l1, l2, l3] st S I J Q = am_T d 185 310 [some (.ref a0), l1, l2, l3] (.ref a0 :: st) S I J Q := tr_aload_n (m := 0) (by decide +kernel) rfl
theorem r185_310 : am_T d 185 310 [l0, l1, l2, some (.int x0)] st S I J Q = am_T d 185 311 [l0, l1, l2, some (.int x0)] (.int x0 :: st) S I J Q := tr_iload_n (m := 3) (by decide +kernel) rfl
theorem r185_311 : am_T d 185 311 ls st S I J Q = am_T d 185 312 ls (.int 2 :: st) S I J Q := tr_iconst (m := 2) (by decide +kernel) (by decide)
theorem r185_312 : am_T d 185 312 ls (.int x1 :: .int x0 :: st) S I J Q = am_T d 185 313 ls (.int (x0 + x1) :: st) S I J Q := tr_iadd (by decide +kernel)
theorem r185_313 : am_T d 185 313 ls (.int x0 :: .ref a0 :: st) S I J Q = (am_ix S a0 20 x0 ∧ am_T d 185 314 ls (.int (I a0 x0.toNatClampNeg) :: st) S I J Q) := tr_iald (by decide +kernel)
theorem r185_314 : am_T d 185 314 ls [.int x2, .int x1, .ref a0] S I J Q = (am_is S a0 8 ∧ am_C d 61 [.ref a0, .int x1, .int x2] S I J (fun r S I J => am_T d 185 317 ls (am_psh r []) S I J Q)) := tr_virt (k := 28) (by decide +kernel) (by decide +kernel) rfl rfl (Nat.le_of_ble_eq_true rfl) (by decide +kernel)
theorem r185_317 : am_T d 185 317 [l0, l1, some (.ref a0), l3] st S I J Q = am_T d 185 318 [l0, l1, some (.ref a0), l3] (.ref a0 :: st) S I J Q := tr_aload_n (m := 2) (by decide +kernel) rfl
theorem r185_318 : am_T d 185 318 [some (.ref a0), l1, l2, l3] st S I J Q = am_T d 185 319 [some (.ref a0), l1, l2, l3] (.ref a0 :: st) S I J Q := tr_aload_n (m := 0) (by decide +kernel) rfl
theorem r185_319 : am_T d 185 319 [l0, l1, l2, some (.int x0)] st S I J Q = am_T d 185 320 [l0, l1, l2, some (.int x0)] (.int x0 :: st) S I J Q := tr_iload_n (m := 3) (by decide +kernel) rfl
theorem r185_320 : am_T d 185 320 ls st S I J Q = am_T d 185 321 ls (.int 1 :: st) S I J Q := tr_iconst (m := 1) (by decide +kernel) (by decide)
theorem r185_321 : am_T d 185 321 ls (.int x1 :: .int x0 :: st) S I J Q = am_T d 185 322 ls (.int (x0 + x1) :: st) S I J Q := tr_iadd (by decide +kernel)
theorem r185_322 : am_T d 185 322 ls (.int x0 :: .ref a0 :: st) S I J Q = (am_ix S a0 20 x0 ∧ am_T d 185 323 ls (.int (I a0 x0.toNatClampNeg) :: st) S I J Q) := tr_iald (by decide +kernel)
theorem r185_323 : am_T d 185 323 [some (.ref a0), l1, l2, l3] st S I J Q = am_T d 185 324 [some (.ref a0), l1, l2, l3] (.ref a0 :: st) S I J Q := tr_aload_n (m := 0) (by decide +kernel) rfl
theorem r185_324 : am_T d 185 324 [l0, l1, l2, some (.int x0)] st S I J Q = am_T d 185 325 [l0, l1, l2, some (.int x0)] (.int x0 :: st) S I J Q := tr_iload_n (m := 3) (by decide +kernel) rfl
theorem r185_325 : am_T d 185 325 ls st S I J Q = am_T d 185 326 ls (.int 2 :: st) S I J Q := tr_iconst (m := 2) (by decide +kernel) (by decide)
theorem r185_326 : am_T d 185 326 ls (.int x1 :: .int x0 :: st) S I J Q = am_T d 185 327 ls (.int (x0 + x1) :: st) S I J Q := tr_iadd (by decide +kernel)
theorem r185_327 : am_T d 185 327 ls (.int x0 :: .ref a0 :: st) S I J Q = (am_ix S a0 20 x0 ∧ am_T d 185 328 ls (.int (I a0 x0.toNatClampNeg) :: st) S I J Q) := tr_iald (by decide +kernel)
theorem r185_328 : am_T d 185 328 ls [.int x2, .int x1, .ref a0, .int x10] S I J Q = (am_is S a0 9 ∧ am_C d 123 [.ref a0, .int x1, .int x2] S I J (fun r S I J => am_T d 185 331 ls (am_psh r [.int x10]) S I J Q)) := tr_virt (k := 31) (by decide +kernel) (by decide +kernel) rfl rfl (Nat.le_of_ble_eq_true rfl) (by decide +kernel)
theorem r185_331 : am_T d 185 331 ls (.int x1 :: .int x0 :: st) S I J Q = if x0 = x1 then am_T d 185 1073 ls st S I J Q else am_T d 185 334 ls st S I J Q := tr_icmpeq (o := 742) (by decide +kernel) rfl
theorem r185_334 : am_T d 185 334 ls st S I J Q = am_T d 185 335 ls (.int 0 :: st) S I J Q := tr_iconst (m := 0) (by decide +kernel) (by decide)
theorem r185_335 : am_T d 185 335 ls [.int x0] S I J Q = ((x0 = 0 ∨ x0 = 1) ∧ Q (some (.int x0)) S I J) := tr_iretz (by decide +kernel) (by decide +kernel)
theorem r185_336 : am_T d 185 336 [l0, some (.ref a0), l2, l3] st S I J Q = am_T d 185 337 [l0, some (.ref a0), l2, l3] (.ref a0 :: st) S I J Q := tr_aload_n (m := 1) (by decide +kernel) rfl
theorem r185_337 : am_T d 185 337 [some (.ref a0), l1, l2, l3] st S I J Q = am_T d 185 338 [some (.ref a0), l1, l2, l3] (.ref a0 :: st) S I J Q := tr_aload_n (m := 0) (by decide +kernel) rfl
theorem r185_338 : am_T d 185 338 [l0, l1, l2, some (.int x0)] st S I J Q = am_T d 185 339 [l0, l1, l2, some (.int x0)] (.int x0 :: st) S I J Q := tr_iload_n (m := 3) (by decide +kernel) rfl
theorem r185_339 : am_T d 185 339 ls st S I J Q = am_T d 185 340 ls (.int 1 :: st) S I J Q := tr_iconst (m := 1) (by decide +kernel) (by decide)
theorem r185_340 : am_T d 185 340 ls (.int x1 :: .int x0 :: st) S I J Q = am_T d 185 341 ls (.int (x0 + x1) :: st) S I J Q := tr_iadd (by decide +kernel)
theorem r185_341 : am_T d 185 341 ls (.int x0 :: .ref a0 :: st) S I J Q = (am_ix S a0 20 x0 ∧ am_T d 185 342 ls (.int (I a0 x0.toNatClampNeg) :: st) S I J Q) := tr_iald (by decide +kernel)
theorem r185_342 : am_T d 185 342 ls [.int x1, .ref a0] S I J Q = (am_is S a0 8 ∧ am_C d 62 [.ref a0, .int x1] S I J (fun r S I J => am_T d 185 345 ls (am_psh r []) S I J Q)) := tr_virt (k := 32) (by decide +kernel) (by decide +kernel) rfl rfl (Nat.le_of_ble_eq_true rfl) (by decide +kernel)
theorem r185_345 : am_T d 185 345 [l0, l1, some (.ref a0), l3] st S I J Q = am_T d 185 346 [l0, l1, some (.ref a0), l3] (.ref a0 :: st) S I J Q := tr_aload_n (m := 2) (by decide +kernel) rfl
theorem r185_346 : am_T d 185 346 [some (.ref a0), l1, l2, l3] st S I J Q = am_T d 185 347 [some (.ref a0), l1, l2, l3] (.ref a0 :: st) S I J Q := tr_aload_n (m := 0) (by decide +kernel) rfl
theorem r185_347 : am_T d 185 347 [l0, l1, l2, some (.int x0)] st S I J Q = am_T d 185 348 [l0, l1, l2, some (.int x0)] (.int x0 :: st) S I J Q := tr_iload_n (m := 3) (by decide +kernel) rfl
theorem r185_348 : am_T d 185 348 ls st S I J Q = am_T d 185 349 ls (.int 1 :: st) S I J Q := tr_iconst (m := 1) (by decide +kernel) (by decide)
theorem r185_349 : am_T d 185 349 ls (.int x1 :: .int x0 :: st) S I J Q = am_T d 185 350 ls (.int (x0 + x1) :: st) S I J Q := tr_iadd (by decide +kernel)
theorem r185_350 : am_T d 185 350 ls (.int x0 :: .ref a0 :: st) S I J Q = (am_ix S a0 20 x0 ∧ am_T d 185 351 ls (.int (I a0 x0.toNatClampNeg) :: st) S I J Q) := tr_iald (by decide +kernel)
theorem r185_351 : am_T d 185 351 ls [.int x1, .ref a0, .int x10] S I J Q = (am_is S a0 9 ∧ am_C d 124 [.ref a0, .int x1] S I J (fun r S I J => am_T d 185 354 ls (am_psh r [.int x10]) S I J Q)) := tr_virt (k := 35) (by decide +kernel) (by decide +kernel) rfl rfl (Nat.le_of_ble_eq_true rfl) (by decide +kernel)
theorem r185_354 : am_T d 185 354 ls (.int x1 :: .int x0 :: st) S I J Q = if x0 = x1 then am_T d 185 1073 ls st S I J Q else am_T d 185 357 ls st S I J Q := tr_icmpeq (o := 719) (by decide +kernel) rfl
theorem r185_357 : am_T d 185 357 ls st S I J Q = am_T d 185 358 ls (.int 0 :: st) S I J Q := tr_iconst (m := 0) (by decide +kernel) (by decide)
theorem r185_358 : am_T d 185 358 ls [.int x0] S I J Q = ((x0 = 0 ∨ x0 = 1) ∧ Q (some (.int x0)) S I J) := tr_iretz (by decide +kernel) (by decide +kernel)
theorem r185_359 : am_T d 185 359 [l0, some (.ref a0), l2, l3] st S I J Q = am_T d 185 360 [l0, some (.ref a0), l2, l3] (.ref a0 :: st) S I J Q := tr_aload_n (m := 1) (by decide +kernel) rfl
theorem r185_360 : am_T d 185 360 [some (.ref a0), l1, l2, l3] st S I J Q = am_T d 185 361 [some (.ref a0), l1, l2, l3] (.ref a0 :: st) S I J Q := tr_aload_n (m := 0) (by decide +kernel) rfl
theorem r185_361 : am_T d 185 361 [l0, l1, l2, some (.int x0)] st S I J Q = am_T d 185 362 [l0, l1, l2, some (.int x0)] (.int x0 :: st) S I J Q := tr_iload_n (m := 3) (by decide +kernel) rfl
theorem r185_362 : am_T d 185 362 ls st S I J Q = am_T d 185 363 ls (.int 1 :: st) S I J Q := tr_iconst (m := 1) (by decide +kernel) (by decide)
theorem r185_363 : am_T d 185 363 ls (.int x1 :: .int x0 :: st) S I J Q = am_T d 185 364 ls (.int (x0 + x1) :: st) S I J Q := tr_iadd (by decide +kernel)
theorem r185_364 : am_T d 185 364 ls (.int x0 :: .ref a0 :: st) S I J Q = (am_ix S a0 20 x0 ∧ am_T d 185 365 ls (.int (I a0 x0.toNatClampNeg) :: st) S I J Q) := tr_iald (by decide +kernel)
theorem r185_365 : am_T d 185 365 [some (.ref a0), l1, l2, l3] st S I J Q = am_T d 185 366 [some (.ref a0), l1, l2, l3] (.ref a0 :: st) S I J Q := tr_aload_n (m := 0) (by decide +kernel) rfl
theorem r185_366 : am_T d 185 366 [l0, l1, l2, some (.int x0)] st S I J Q = am_T d 185 367 [l0, l1, l2, some (.int x0)] (.int x0 :: st) S I J Q := tr_iload_n (m := 3) (by decide +kernel) rfl
theorem r185_367 : am_T d 185 367 ls st S I J Q = am_T d 185 368 ls (.int 2 :: st) S I J Q := tr_iconst (m := 2) (by decide +kernel) (by decide)
theorem r185_368 : am_T d 185 368 ls (.int x1 :: .int x0 :: st) S I J Q = am_T d 185 369 ls (.int (x0 + x1) :: st) S I J Q := tr_iadd (by decide +kernel)
theorem r185_369 : am_T d 185 369 ls (.int x0 :: .ref a0 :: st) S I J Q = (am_ix S a0 20 x0 ∧ am_T d 185 370 ls (.int (I a0 x0.toNatClampNeg) :: st) S I J Q) := tr_iald (by decide +kernel)
theorem r185_370 : am_T d 185 370 ls [.int x2, .int x1, .ref a0] S I J Q = (am_is S a0 8 ∧ am_C d 63 [.ref a0, .int x1, .int x2] S I J (fun r S I J => am_T d 185 373 ls (am_psh r []) S I J Q)) := tr_virt (k := 36) (by decide +kernel) (by decide +kernel) rfl rfl (Nat.le_of_ble_eq_true rfl) (by decide +kernel)
theorem r185_373 : am_T d 185 373 [l0, l1, some (.ref a0), l3] st S I J Q = am_T d 185 374 [l0, l1, some (.ref a0), l3] (.ref a0 :: st) S I J Q := tr_aload_n (m := 2) (by decide +kernel) rfl
theorem r185_374 : am_T d 185 374 [some (.ref a0), l1, l2, l3] st S I J Q = am_T d 185 375 [some (.ref a0), l1, l2, l3] (.ref a0 :: st) S I J Q := tr_aload_n (m := 0) (by decide +kernel) rfl
theorem r185_375 : am_T d 185 375 [l0, l1, l2, some (.int x0)] st S I J Q = am_T d 185 376 [l0, l1, l2, some (.int x0)] (.int x0 :: st) S I J Q := tr_iload_n (m := 3) (by decide +kernel) rfl
theorem r185_376 : am_T d 185 376 ls st S I J Q = am_T d 185 377 ls (.int 1 :: st) S I J Q := tr_iconst (m := 1) (by decide +kernel) (by decide)
theorem r185_377 : am_T d 185 377 ls (.int x1 :: .int x0 :: st) S I J Q = am_T d 185 378 ls (.int (x0 + x1) :: st) S I J Q := tr_iadd (by decide +kernel)
theorem r185_378 : am_T d 185 378 ls (.int x0 :: .ref a0 :: st) S I J Q = (am_ix S a0 20 x0 ∧ am_T d 185 379 ls (.int (I a0 x0.toNatClampNeg) :: st) S I J Q) := tr_iald (by decide +kernel)
theorem r185_379 : am_T d 185 379 [some (.ref a0), l1, l2, l3] st S I J Q = am_T d 185 380 [some (.ref a0), l1, l2, l3] (.ref a0 :: st) S I J Q := tr_aload_n (m := 0) (by decide +kernel) rfl
theorem r185_380 : am_T d 185 380 [l0, l1, l2, some (.int x0)] st S I J Q = am_T d 185 381 [l0, l1, l2, some (.int x0)] (.int x0 :: st) S I J Q := tr_iload_n (m := 3) (by decide +kernel) rfl
theorem r185_381 : am_T d 185 381 ls st S I J Q = am_T d 185 382 ls (.int 2 :: st) S I J Q := tr_iconst (m := 2) (by decide +kernel) (by decide)
theorem r185_382 : am_T d 185 382 ls (.int x1 :: .int x0 :: st) S I J Q = am_T d 185 383 ls (.int (x0 + x1) :: st) S I J Q := tr_iadd (by decide +kernel)
theorem r185_383 : am_T d 185 383 ls (.int x0 :: .ref a0 :: st) S I J Q = (am_ix S a0 20 x0 ∧ am_T d 185 384 ls (.int (I a0 x0.toNatClampNeg) :: st) S I J Q) := tr_iald (by decide +kernel)
theorem r185_384 : am_T d 185 384 ls [.int x2, .int x1, .ref a0, .int x10] S I J Q = (am_is S a0 9 ∧ am_C d 125 [.ref a0, .int x1, .int x2] S I J (fun r S I J => am_T d 185 387 ls (am_psh r [.int x10]) S I J Q)) := tr_virt (k := 39) (by decide +kernel) (by decide +kernel) rfl rfl (Nat.le_of_ble_eq_true rfl) (by decide +kernel)
theorem r185_387 : am_T d 185 387 ls (.int x1 :: .int x0 :: st) S I J Q = if x0 = x1 then am_T d 185 1073 ls st S I J Q else am_T d 185 390 ls st S I J Q := tr_icmpeq (o := 686) (by decide +kernel) rfl
theorem r185_390 : am_T d 185 390 ls st S I J Q = am_T d 185 391 ls (.int 0 :: st) S I J Q := tr_iconst (m := 0) (by decide +kernel) (by decide)
theorem r185_391 : am_T d 185 391 ls [.int x0] S I J Q = ((x0 = 0 ∨ x0 = 1) ∧ Q (some (.int x0)) S I J) := tr_iretz (by decide +kernel) (by decide +kernel)
theorem r185_392 : am_T d 185 392 [l0, some (.ref a0), l2, l3] st S I J Q = am_T d 185 393 [l0, some (.ref a0), l2, l3] (.ref a0 :: st) S I J Q := tr_aload_n (m := 1) (by decide +kernel) rfl
theorem r185_393 : am_T d 185 393 [some (.ref a0), l1, l2, l3] st S I J Q = am_T d 185 394 [some (.ref a0), l1, l2, l3] (.ref a0 :: st) S I J Q := tr_aload_n (m := 0) (by decide +kernel) rfl
theorem r185_394 : am_T d 185 394 [l0, l1, l2, some (.int x0)] st S I J Q = am_T d 185 395 [l0, l1, l2, some (.int x0)] (.int x0 :: st) S I J Q := tr_iload_n (m := 3) (by decide +kernel) rfl
theorem r185_395 : am_T d 185 395 ls st S I J Q = am_T d 185 396 ls (.int 1 :: st) S I J Q := tr_iconst (m := 1) (by decide +kernel) (by decide)
theorem r185_396 : am_T d 185 396 ls (.int x1 :: .int x0 :: st) S I J Q = am_T d 185 397 ls (.int (x0 + x1) :: st) S I J Q := tr_iadd (by decide +kernel)
theorem r185_397 : am_T d 185 397 ls (.int x0 :: .ref a0 :: st) S I J Q = (am_ix S a0 20 x0 ∧ am_T d 185 398 ls (.int (I a0 x0.toNatClampNeg) :: st) S I J Q) := tr_iald (by decide +kernel)
theorem r185_398 : am_T d 185 398 [some (.ref a0), l1, l2, l3] st S I J Q = am_T d 185 399 [some (.ref a0), l1, l2, l3] (.ref a0 :: st) S I J Q := tr_aload_n (m := 0) (by decide +kernel) rfl
theorem r185_399 : am_T d 185 399 [l0, l1, l2, some (.int x0)] st S I J Q = am_T d 185 400 [l0, l1, l2, some (.int x0)] (.int x0 :: st) S I J Q := tr_iload_n (m := 3) (by decide +kernel) rfl
theorem r185_400 : am_T d 185 400 ls st S I J Q = am_T d 185 401 ls (.int 2 :: st) S I J Q := tr_iconst (m := 2) (by decide +kernel) (by decide)
theorem r185_401 : am_T d 185 401 ls (.int x1 :: .int x0 :: st) S I J Q = am_T d 185 402 ls (.int (x0 + x1) :: st) S I J Q := tr_iadd (by decide +kernel)
theorem r185_402 : am_T d 185 402 ls (.int x0 :: .ref a0 :: st) S I J Q = (am_ix S a0 20 x0 ∧ am_T d 185 403 ls (.int (I a0 x0.toNatClampNeg) :: st) S I J Q) := tr_iald (by decide +kernel)
theorem r185_403 : am_T d 185 403 ls [.int x2, .int x1, .ref a0] S I J Q = (am_is S a0 8 ∧ am_C d 64 [.ref a0, .int x1, .int x2] S I J (fun r S I J => am_T d 185 406 ls (am_psh r []) S I J Q)) := tr_virt (k := 40) (by decide +kernel) (by decide +kernel) rfl rfl (Nat.le_of_ble_eq_true rfl) (by decide +kernel)
theorem r185_406 : am_T d 185 406 [l0, l1, some (.ref a0), l3] st S I J Q = am_T d 185 407 [l0, l1, some (.ref a0), l3] (.ref a0 :: st) S I J Q := tr_aload_n (m := 2) (by decide +kernel) rfl
theorem r185_407 : am_T d 185 407 [some (.ref a0), l1, l2, l3] st S I J Q = am_T d 185 408 [some (.ref a0), l1, l2, l3] (.ref a0 :: st) S I J Q := tr_aload_n (m := 0) (by decide +kernel) rfl
theorem r185_408 : am_T d 185 408 [l0, l1, l2, some (.int x0)] st S I J Q = am_T d 185 409 [l0, l1, l2, some (.int x0)] (.int x0 :: st) S I J Q := tr_iload_n (m := 3) (by decide +kernel) rfl
theorem r185_409 : am_T d 185 409 ls st S I J Q = am_T d 185 410 ls (.int 1 :: st) S I J Q := tr_iconst (m := 1) (by decide +kernel) (by decide)
theorem r185_410 : am_T d 185 410 ls (.int x1 :: .int x0 :: st) S I J Q = am_T d 185 411 ls (.int (x0 + x1) :: st) S I J Q := tr_iadd (by decide +kernel)
theorem r185_411 : am_T d 185 411 ls (.int x0 :: .ref a0 :: st) S I J Q = (am_ix S a0 20 x0 ∧ am_T d 185 412 ls (.int (I a0 x0.toNatClampNeg) :: st) S I J Q) := tr_iald (by decide +kernel)
theorem r185_412 : am_T d 185 412 [some (.ref a0), l1, l2, l3] st S I J Q = am_T d 185 413 [some (.ref a0), l1, l2, l3] (.ref a0 :: st) S I J Q := tr_aload_n (m := 0) (by decide +kernel) rfl
theorem r185_413 : am_T d 185 413 [l0, l1, l2, some (.int x0)] st S I J Q = am_T d 185 414 [l0, l1, l2, some (.int x0)] (.int x0 :: st) S I J Q := tr_iload_n (m := 3) (by decide +kernel) rfl
theorem r185_414 : am_T d 185 414 ls st S I J Q = am_T d 185 415 ls (.int 2 :: st) S I J Q := tr_iconst (m := 2) (by decide +kernel) (by decide)
theorem r185_415 : am_T d 185 415 ls (.int x1 :: .int x0 :: st) S I J Q = am_T d 185 416 ls (.int (x0 + x1) :: st) S I J Q := tr_iadd (by decide +kernel)
theorem r185_416 : am_T d 185 416 ls (.int x0 :: .ref a0 :: st) S I J Q = (am_ix S a0 20 x0 ∧ am_T d 185 417 ls (.int (I a0 x0.toNatClampNeg) :: st) S I J Q) := tr_iald (by decide +kernel)
theorem r185_417 : am_T d 185 417 ls [.int x2, .int x1, .ref a0, .int x10] S I J Q = (am_is S a0 9 ∧ am_C d 127 [.ref a0, .int x1, .int x2] S I J (fun r S I J => am_T d 185 420 ls (am_psh r [.int x10]) S I J Q)) := tr_virt (k := 43) (by decide +kernel) (by decide +kernel) rfl rfl (Nat.le_of_ble_eq_true rfl) (by decide +kernel)
theorem r185_420 : am_T d 185 420 ls (.int x1 :: .int x0 :: st) S I J Q = if x0 = x1 then am_T d 185 1073 ls st S I J Q else am_T d 185 423 ls st S I J Q := tr_icmpeq (o := 653) (by decide +kernel) rfl
theorem r185_423 : am_T d 185 423 ls st S I J Q = am_T d 185 424 ls (.int 0 :: st) S I J Q := tr_iconst (m := 0) (by decide +kernel) (by decide)
theorem r185_424 : am_T d 185 424 ls [.int x0] S I J Q = ((x0 = 0 ∨ x0 = 1) ∧ Q (some (.int x0)) S I J) := tr_iretz (by decide +kernel) (by decide +kernel)
theorem r185_425 : am_T d 185 425 [l0, some (.ref a0), l2, l3] st S I J Q = am_T d 185 426 [l0, some (.ref a0), l2, l3] (.ref a0 :: st) S I J Q := tr_aload_n (m := 1) (by decide +kernel) rfl
theorem r185_426 : am_T d 185 426 ls [.ref a0] S I J Q = (am_is S a0 8 ∧ am_C d 65 [.ref a0] S I J (fun r S I J => am_T d 185 429 ls (am_psh r []) S I J Q)) := tr_virt (k := 44) (by decide +kernel) (by decide +kernel) rfl rfl (Nat.le_of_ble_eq_true rfl) (by decide +kernel)
theorem r185_429 : am_T d 185 429 [l0, l1, some (.ref a0), l3] st S I J Q = am_T d 185 430 [l0, l1, some (.ref a0), l3] (.ref a0 :: st) S I J Q := tr_aload_n (m := 2) (by decide +kernel) rfl
theorem r185_430 : am_T d 185 430 ls [.ref a0, .int x10] S I J Q = (am_is S a0 9 ∧ am_C d 128 [.ref a0] S I J (fun r S I J => am_T d 185 433 ls (am_psh r [.int x10]) S I J Q)) := tr_virt (k := 48) (by decide +kernel) (by decide +kernel) rfl rfl (Nat.le_of_ble_eq_true rfl) (by decide +kernel)
theorem r185_433 : am_T d 185 433 ls (.int x1 :: .int x0 :: st) S I J Q = if x0 = x1 then am_T d 185 1073 ls st S I J Q else am_T d 185 436 ls st S I J Q := tr_icmpeq (o := 640) (by decide +kernel) rfl
theorem r185_436 : am_T d 185 436 ls st S I J Q = am_T d 185 437 ls (.int 0 :: st) S I J Q := tr_iconst (m := 0) (by decide +kernel) (by decide)
theorem r185_437 : am_T d 185 437 ls [.int x0] S I J Q = ((x0 = 0 ∨ x0 = 1) ∧ Q (some (.int x0)) S I J) := tr_iretz (by decide +kernel) (by decide +kernel)
theorem r185_438 : am_T d 185 438 [l0, some (.ref a0), l2, l3] st S I J Q = am_T d 185 439 [l0, some (.ref a0), l2, l3] (.ref a0 :: st) S I J Q := tr_aload_n (m := 1) (by decide +kernel) rfl
theorem r185_439 : am_T d 185 439 ls [.ref a0] S I J Q = (am_is S a0 8 ∧ am_C d 66 [.ref a0] S I J (fun r S I J => am_T d 185 442 ls (am_psh r []) S I J Q)) := tr_virt (k := 49) (by decide +kernel) (by decide +kernel) rfl rfl (Nat.le_of_ble_eq_true rfl) (by decide +kernel)
theorem r185_442 : am_T d 185 442 [l0, l1, some (.ref a0), l3] st S I J Q = am_T d 185 443 [l0, l1, some (.ref a0), l3] (.ref a0 :: st) S I J Q := tr_aload_n (m := 2) (by decide +kernel) rfl
theorem r185_443 : am_T d 185 443 ls [.ref a0, .int x10] S I J Q = (am_is S a0 9 ∧ am_C d 129 [.ref a0] S I J (fun r S I J => am_T d 185 446 ls (am_psh r [.int x10]) S I J Q)) := tr_virt (k := 52) (by decide +kernel) (by decide +kernel) rfl rfl (Nat.le_of_ble_eq_true rfl) (by decide +kernel)
theorem r185_446 : am_T d 185 446 ls (.int x1 :: .int x0 :: st) S I J Q = if x0 = x1 then am_T d 185 1073 ls st S I J Q else am_T d 185 449 ls st S I J Q := tr_icmpeq (o := 627) (by decide +kernel) rfl
theorem r185_449 : am_T d 185 449 ls st S I J Q = am_T d 185 450 ls (.int 0 :: st) S I J Q := tr_iconst (m := 0) (by decide +kernel) (by decide)
theorem r185_450 : am_T d 185 450 ls [.int x0] S I J Q = ((x0 = 0 ∨ x0 = 1) ∧ Q (some (.int x0)) S I J) := tr_iretz (by decide +kernel) (by decide +kernel)
theorem r185_451 : am_T d 185 451 [l0, some (.ref a0), l2, l3] st S I J Q = am_T d 185 452 [l0, some (.ref a0), l2, l3] (.ref a0 :: st) S I J Q := tr_aload_n (m := 1) (by decide +kernel) rfl
theorem r185_452 : am_T d 185 452 ls [.ref a0] S I J Q = (am_is S a0 8 ∧ am_C d 67 [.ref a0] S I J (fun r S I J => am_T d 185 455 ls (am_psh r []) S I J Q)) := tr_virt (k := 53) (by decide +kernel) (by decide +kernel) rfl rfl (Nat.le_of_ble_eq_true rfl) (by decide +kernel)
theorem r185_455 : am_T d 185 455 [l0, l1, some (.ref a0), l3] st S I J Q = am_T d 185 456 [l0, l1, some (.ref a0), l3] (.ref a0 :: st) S I J Q := tr_aload_n (m := 2) (by decide +kernel) rfl
theorem r185_456 : am_T d 185 456 ls [.ref a0, .int x10] S I J Q = (am_is S a0 9 ∧ am_C d 130 [.ref a0] S I J (fun r S I J => am_T d 185 459 ls (am_psh r [.int x10]) S I J Q)) := tr_virt (k := 56) (by decide +kernel) (by decide +kernel) rfl rfl (Nat.le_of_ble_eq_true rfl) (by decide +kernel)
theorem r185_459 : am_T d 185 459 ls (.int x1 :: .int x0 :: st) S I J Q = if x0 = x1 then am_T d 185 1073 ls st S I J Q else am_T d 185 462 ls st S I J Q := tr_icmpeq (o := 614) (by decide +kernel) rfl
theorem r185_462 : am_T d 185 462 ls st S I J Q = am_T d 185 463 ls (.int 0 :: st) S I J Q := tr_iconst (m := 0) (by decide +kernel) (by decide)
theorem r185_463 : am_T d 185 463 ls [.int x0] S I J Q = ((x0 = 0 ∨ x0 = 1) ∧ Q (some (.int x0)) S I J) := tr_iretz (by decide +kernel) (by decide +kernel)
theorem r185_464 : am_T d 185 464 [l0, some (.ref a0), l2, l3] st S I J Q = am_T d 185 465 [l0, some (.ref a0), l2, l3] (.ref a0 :: st) S I J Q := tr_aload_n (m := 1) (by decide +kernel) rfl
theorem r185_465 : am_T d 185 465 [some (.ref a0), l1, l2, l3] st S I J Q = am_T d 185 466 [some (.ref a0), l1, l2, l3] (.ref a0 :: st) S I J Q := tr_aload_n (m := 0) (by decide +kernel) rfl
theorem r185_466 : am_T d 185 466 [l0, l1, l2, some (.int x0)] st S I J Q = am_T d 185 467 [l0, l1, l2, some (.int x0)] (.int x0 :: st) S I J Q := tr_iload_n (m := 3) (by decide +kernel) rfl
theorem r185_467 : am_T d 185 467 ls st S I J Q = am_T d 185 468 ls (.int 1 :: st) S I J Q := tr_iconst (m := 1) (by decide +kernel) (by decide)
theorem r185_468 : am_T d 185 468 ls (.int x1 :: .int x0 :: st) S I J Q = am_T d 185 469 ls (.int (x0 + x1) :: st) S I J Q := tr_iadd (by decide +kernel)
theorem r185_469 : am_T d 185 469 ls (.int x0 :: .ref a0 :: st) S I J Q = (am_ix S a0 20 x0 ∧ am_T d 185 470 ls (.int (I a0 x0.toNatClampNeg) :: st) S I J Q) := tr_iald (by decide +kernel)
theorem r185_470 : am_T d 185 470 [some (.ref a0), l1, l2, l3] st S I J Q = am_T d 185 471 [some (.ref a0), l1, l2, l3] (.ref a0 :: st) S I J Q := tr_aload_n (m := 0) (by decide +kernel) rfl
theorem r185_471 : am_T d 185 471 [l0, l1, l2, some (.int x0)] st S I J Q = am_T d 185 472 [l0, l1, l2, some (.int x0)] (.int x0 :: st) S I J Q := tr_iload_n (m := 3) (by decide +kernel) rfl
theorem r185_472 : am_T d 185 472 ls st S I J Q = am_T d 185 473 ls (.int 2 :: st) S I J Q := tr_iconst (m := 2) (by decide +kernel) (by decide)
theorem r185_473 : am_T d 185 473 ls (.int x1 :: .int x0 :: st) S I J Q = am_T d 185 474 ls (.int (x0 + x1) :: st) S I J Q := tr_iadd (by decide +kernel)
theorem r185_474 : am_T d 185 474 ls (.int x0 :: .ref a0 :: st) S I J Q = (am_ix S a0 20 x0 ∧ am_T d 185 475 ls (.int (I a0 x0.toNatClampNeg) :: st) S I J Q) := tr_iald (by decide +kernel)
theorem r185_475 : am_T d 185 475 ls [.int x2, .int x1, .ref a0] S I J Q = (am_is S a0 8 ∧ am_C d 68 [.ref a0, .int x1, .int x2] S I J (fun r S I J => am_T d 185 478 ls (am_psh r []) S I J Q)) := tr_virt (k := 57) (by decide +kernel) (by decide +kernel) rfl rfl (Nat.le_of_ble_eq_true rfl) (by decide +kernel)
theorem r185_478 : am_T d 185 478 [l0, l1, some (.ref a0), l3] st S I J Q = am_T d 185 479 [l0, l1, some (.ref a0), l3] (.ref a0 :: st) S I J Q := tr_aload_n (m := 2) (by decide +kernel) rfl
theorem r185_479 : am_T d 185 479 [some (.ref a0), l1, l2, l3] st S I J Q = am_T d 185 480 [some (.ref a0), l1, l2, l3] (.ref a0 :: st) S I J Q := tr_aload_n (m := 0) (by decide +kernel) rfl
theorem r185_480 : am_T d 185 480 [l0, l1, l2, some (.int x0)] st S I J Q = am_T d 185 481 [l0, l1, l2, some (.int x0)] (.int x0 :: st) S I J Q := tr_iload_n (m := 3) (by decide +kernel) rfl
theorem r185_481 : am_T d 185 481 ls st S I J Q = am_T d 185 482 ls (.int 1 :: st) S I J Q := tr_iconst (m := 1) (by decide +kernel) (by decide)
theorem r185_482 : am_T d 185 482 ls (.int x1 :: .int x0 :: st) S I J Q = am_T d 185 483 ls (.int (x0 + x1) :: st) S I J Q := tr_iadd (by decide +kernel)
theorem r185_483 : am_T d 185 483 ls (.int x0 :: .ref a0 :: st) S I J Q = (am_ix S a0 20 x0 ∧ am_T d 185 484 ls (.int (I a0 x0.toNatClampNeg) :: st) S I J Q) := tr_iald (by decide +kernel)
theorem r185_484 : am_T d 185 484 [some (.ref a0), l1, l2, l3] st S I J Q = am_T d 185 485 [some (.ref a0), l1, l2, l3] (.ref a0 :: st) S I J Q := tr_aload_n (m := 0) (by decide +kernel) rfl
theorem r185_485 : am_T d 185 485 [l0, l1, l2, some (.int x0)] st S I J Q = am_T d 185 486 [l0, l1, l2, some (.int x0)] (.int x0 :: st) S I J Q := tr_iload_n (m := 3) (by decide +kernel) rfl
theorem r185_486 : am_T d 185 486 ls st S I J Q = am_T d 185 487 ls (.int 2 :: st) S I J Q := tr_iconst (m := 2) (by decide +kernel) (by decide)
theorem r185_487 : am_T d 185 487 ls (.int x1 :: .int x0 :: st) S I J Q = am_T d 185 488 ls (.int (x0 + x1) :: st) S I J Q := tr_iadd (by decide +kernel)
theorem r185_488 : am_T d 185 488 ls (.int x0 :: .ref a0 :: st) S I J Q = (am_ix S a0 20 x0 ∧ am_T d 185 489 ls (.int (I a0 x0.toNatClampNeg) :: st) S I J Q) := tr_iald (by decide +kernel)
theorem r185_489 : am_T d 185 489 ls [.int x2, .int x1, .ref a0, .int x10] S I J Q = (am_is S a0 9 ∧ am_C d 131 [.ref a0, .int x1, .int x2] S I J (fun r S I J => am_T d 185 492 ls (am_psh r [.int x10]) S I J Q)) := tr_virt (k := 60) (by decide +kernel) (by decide +kernel) rfl rfl (Nat.le_of_ble_eq_true rfl) (by decide +kernel)
theorem r185_492 : am_T d 185 492 ls (.int x1 :: .int x0 :: st) S I J Q = if x0 = x1 then am_T d 185 1073 ls st S I J Q else am_T d 185 495 ls st S I J Q := tr_icmpeq (o := 581) (by decide +kernel) rfl
theorem r185_495 : am_T d 185 495 ls st S I J Q = am_T d 185 496 ls (.int 0 :: st) S I J Q := tr_iconst (m := 0) (by decide +kernel) (by decide)
theorem r185_496 : am_T d 185 496 ls [.int x0] S I J Q = ((x0 = 0 ∨ x0 = 1) ∧ Q (some (.int x0)) S I J) := tr_iretz (by decide +kernel) (by decide +kernel)
theorem r185_497 : am_T d 185 497 [l0, some (.ref a0), l2, l3] st S I J Q = am_T d 185 498 [l0, some (.ref a0), l2, l3] (.ref a0 :: st) S I J Q := tr_aload_n (m := 1) (by decide +kernel) rfl
theorem r185_498 : am_T d 185 498 [some (.ref a0), l1, l2, l3] st S I J Q = am_T d 185 499 [some (.ref a0), l1, l2, l3] (.ref a0 :: st) S I J Q := tr_aload_n (m := 0) (by decide +kernel) rfl
theorem r185_499 : am_T d 185 499 [l0, l1, l2, some (.int x0)] st S I J Q = am_T d 185 500 [l0, l1, l2, some (.int x0)] (.int x0 :: st) S I J Q := tr_iload_n (m := 3) (by decide +kernel) rfl
theorem r185_500 : am_T d 185 500 ls st S I J Q = am_T d 185 501 ls (.int 1 :: st) S I J Q := tr_iconst (m := 1) (by decide +kernel) (by decide)
theorem r185_501 : am_T d 185 501 ls (.int x1 :: .int x0 :: st) S I J Q = am_T d 185 502 ls (.int (x0 + x1) :: st) S I J Q := tr_iadd (by decide +kernel)
theorem r185_502 : am_T d 185 502 ls (.int x0 :: .ref a0 :: st) S I J Q = (am_ix S a0 20 x0 ∧ am_T d 185 503 ls (.int (I a0 x0.toNatClampNeg) :: st) S I J Q) := tr_iald (by decide +kernel)
theorem r185_503 : am_T d 185 503 ls [.int x1, .ref a0] S I J Q = (am_is S a0 8 ∧ am_C d 69 [.ref a0, .int x1] S I J (fun r S I J => am_T d 185 506 ls (am_psh r []) S I J Q)) := tr_virt (k := 61) (by decide +kernel) (by decide +kernel) rfl rfl (Nat.le_of_ble_eq_true rfl) (by decide +kernel)
theorem r185_506 : am_T d 185 506 [l0, l1, some (.ref a0), l3] st S I J Q = am_T d 185 507 [l0, l1, some (.ref a0), l3] (.ref a0 :: st) S I J Q := tr_aload_n (m := 2) (by decide +kernel) rfl
theorem r185_507 : am_T d 185 507 [some (.ref a0), l1, l2, l3] st S I J Q = am_T d 185 508 [some (.ref a0), l1, l2, l3] (.ref a0 :: st) S I J Q := tr_aload_n (m := 0) (by decide +kernel) rfl
theorem r185_508 : am_T d 185 508 [l0, l1, l2, some (.int x0)] st S I J Q = am_T d 185 509 [l0, l1, l2, some (.int x0)] (.int x0 :: st) S I J Q := tr_iload_n (m := 3) (by decide +kernel) rfl
theorem r185_509 : am_T d 185 509 ls st S I J Q = am_T d 185 510 ls (.int 1 :: st) S I J Q := tr_iconst (m := 1) (by decide +kernel) (by decide)
theorem r185_510 : am_T d 185 510 ls (.int x1 :: .int x0 :: st) S I J Q = am_T d 185 511 ls (.int (x0 + x1) :: st) S I J Q := tr_iadd (by decide +kernel)
theorem r185_511 : am_T d 185 511 ls (.int x0 :: .ref a0 :: st) S I J Q = (am_ix S a0 20 x0 ∧ am_T d 185 512 ls (.int (I a0 x0.toNatClampNeg) :: st) S I J Q) := tr_iald (by decide +kernel)
theorem r185_512 : am_T d 185 512 ls [.int x1, .ref a0, .int x10] S I J Q = (am_is S a0 9 ∧ am_C d 132 [.ref a0, .int x1] S I J (fun r S I J => am_T d 185 515 ls (am_psh r [.int x10]) S I J Q)) := tr_virt (k := 64) (by decide +kernel) (by decide +kernel) rfl rfl (Nat.le_of_ble_eq_true rfl) (by decide +kernel)
theorem r185_515 : am_T d 185 515 ls (.int x1 :: .int x0 :: st) S I J Q = if x0 = x1 then am_T d 185 1073 ls st S I J Q else am_T d 185 518 ls st S I J Q := tr_icmpeq (o := 558) (by decide +kernel) rfl
theorem r185_518 : am_T d 185 518 ls st S I J Q = am_T d 185 519 ls (.int 0 :: st) S I J Q := tr_iconst (m := 0) (by decide +kernel) (by decide)
theorem r185_519 : am_T d 185 519 ls [.int x0] S I J Q = ((x0 = 0 ∨ x0 = 1) ∧ Q (some (.int x0)) S I J) := tr_iretz (by decide +kernel) (by decide +kernel)
theorem r185_520 : am_T d 185 520 [l0, some (.ref a0), l2, l3] st S I J Q = am_T d 185 521 [l0, some (.ref a0), l2, l3] (.ref a0 :: st) S I J Q := tr_aload_n (m := 1) (by decide +kernel) rfl
theorem r185_521 : am_T d 185 521 ls [.ref a0] S I J Q = (am_is S a0 8 ∧ am_C d 70 [.ref a0] S I J (fun r S I J => am_T d 185 524 ls (am_psh r []) S I J Q)) := tr_virt (k := 65) (by decide +kernel) (by decide +kernel) rfl rfl (Nat.le_of_ble_eq_true rfl) (by decide +kernel)
theorem r185_524 : am_T d 185 524 [l0, l1, some (.ref a0), l3] st S I J Q = am_T d 185 525 [l0, l1, some (.ref a0), l3] (.ref a0 :: st) S I J Q := tr_aload_n (m := 2) (by decide +kernel) rfl
theorem r185_525 : am_T d 185 525 ls [.ref a0, .int x10] S I J Q = (am_is S a0 9 ∧ am_C d 133 [.ref a0] S I J (fun r S I J => am_T d 185 528 ls (am_psh r [.int x10]) S I J Q)) := tr_virt (k := 68) (by decide +kernel) (by decide +kernel) rfl rfl (Nat.le_of_ble_eq_true rfl) (by decide +kernel)
theorem r185_528 : am_T d 185 528 ls (.int x1 :: .int x0 :: st) S I J Q = if x0 = x1 then am_T d 185 1073 ls st S I J Q else am_T d 185 531 ls st S I J Q := tr_icmpeq (o := 545) (by decide +kernel) rfl
theorem r185_531 : am_T d 185 531 ls st S I J Q = am_T d 185 532 ls (.int 0 :: st) S I J Q := tr_iconst (m := 0) (by decide +kernel) (by decide)
theorem r185_532 : am_T d 185 532 ls [.int x0] S I J Q = ((x0 = 0 ∨ x0 = 1) ∧ Q (some (.int x0)) S I J) := tr_iretz (by decide +kernel) (by decide +kernel)
theorem r185_533 : am_T d 185 533 [l0, some (.ref a0), l2, l3] st S I J Q = am_T d 185 534 [l0, some (.ref a0), l2, l3] (.ref a0 :: st) S I J Q := tr_aload_n (m := 1) (by decide +kernel) rfl
theorem r185_534 : am_T d 185 534 [some (.ref a0), l1, l2, l3] st S I J Q = am_T d 185 535 [some (.ref a0), l1, l2, l3] (.ref a0 :: st) S I J Q := tr_aload_n (m := 0) (by decide +kernel) rfl
theorem r185_535 : am_T d 185 535 [l0, l1, l2, some (.int x0)] st S I J Q = am_T d 185 536 [l0, l1, l2, some (.int x0)] (.int x0 :: st) S I J Q := tr_iload_n (m := 3) (by decide +kernel) rfl
theorem r185_536 : am_T d 185 536 ls st S I J Q = am_T d 185 537 ls (.int 1 :: st) S I J Q := tr_iconst (m := 1) (by decide +kernel) (by decide)
theorem r185_537 : am_T d 185 537 ls (.int x1 :: .int x0 :: st) S I J Q = am_T d 185 538 ls (.int (x0 + x1) :: st) S I J Q := tr_iadd (by decide +kernel)
theorem r185_538 : am_T d 185 538 ls (.int x0 :: .ref a0 :: st) S I J Q = (am_ix S a0 20 x0 ∧ am_T d 185 539 ls (.int (I a0 x0.toNatClampNeg) :: st) S I J Q) := tr_iald (by decide +kernel)
theorem r185_539 : am_T d 185 539 ls [.int x1, .ref a0] S I J Q = (am_is S a0 8 ∧ am_C d 71 [.ref a0, .int x1] S I J (fun r S I J => am_T d 185 542 ls (am_psh r []) S I J Q)) := tr_virt (k := 69) (by decide +kernel) (by decide +kernel) rfl rfl (Nat.le_of_ble_eq_true rfl) (by decide +kernel)
theorem r185_542 : am_T d 185 542 [l0, l1, some (.ref a0), l3] st S I J Q = am_T d 185 543 [l0, l1, some (.ref a0), l3] (.ref a0 :: st) S I J Q := tr_aload_n (m := 2) (by decide +kernel) rfl
theorem r185_543 : am_T d 185 543 [some (.ref a0), l1, l2, l3] st S I J Q = am_T d 185 544 [some (.ref a0), l1, l2, l3] (.ref a0 :: st) S I J Q := tr_aload_n (m := 0) (by decide +kernel) rfl
theorem r185_544 : am_T d 185 544 [l0, l1, l2, some (.int x0)] st S I J Q = am_T d 185 545 [l0, l1, l2, some (.int x0)] (.int x0 :: st) S I J Q := tr_iload_n (m := 3) (by decide +kernel) rfl
theorem r185_545 : am_T d 185 545 ls st S I J Q = am_T d 185 546 ls (.int 1 :: st) S I J Q := tr_iconst (m := 1) (by decide +kernel) (by decide)
theorem r185_546 : am_T d 185 546 ls (.int x1 :: .int x0 :: st) S I J Q = am_T d 185 547 ls (.int (x0 + x1) :: st) S I J Q := tr_iadd (by decide +kernel)
theorem r185_547 : am_T d 185 547 ls (.int x0 :: .ref a0 :: st) S I J Q = (am_ix S a0 20 x0 ∧ am_T d 185 548 ls (.int (I a0 x0.toNatClampNeg) :: st) S I J Q) := tr_iald (by decide +kernel)
theorem r185_548 : am_T d 185 548 ls [.int x1, .ref a0, .int x10] S I J Q = (am_is S a0 9 ∧ am_C d 134 [.ref a0, .int x1] S I J (fun r S I J => am_T d 185 551 ls (am_psh r [.int x10]) S I J Q)) := tr_virt (k := 72) (by decide +kernel) (by decide +kernel) rfl rfl (Nat.le_of_ble_eq_true rfl) (by decide +kernel)
theorem r185_551 : am_T d 185 551 ls (.int x1 :: .int x0 :: st) S I J Q = if x0 = x1 then am_T d 185 1073 ls st S I J Q else am_T d 185 554 ls st S I J Q := tr_icmpeq (o := 522) (by decide +kernel) rfl
theorem r185_554 : am_T d 185 554 ls st S I J Q = am_T d 185 555 ls (.int 0 :: st) S I J Q := tr_iconst (m := 0) (by decide +kernel) (by decide)
theorem r185_555 : am_T d 185 555 ls [.int x0] S I J Q = ((x0 = 0 ∨ x0 = 1) ∧ Q (some (.int x0)) S I J) := tr_iretz (by decide +kernel) (by decide +kernel)
theorem r185_556 : am_T d 185 556 [l0, some (.ref a0), l2, l3] st S I J Q = am_T d 185 557 [l0, some (.ref a0), l2, l3] (.ref a0 :: st) S I J Q := tr_aload_n (m := 1) (by decide +kernel) rfl
theorem r185_557 : am_T d 185 557 ls [.ref a0] S I J Q = (am_is S a0 8 ∧ am_C d 72 [.ref a0] S I J (fun r S I J => am_T d 185 560 ls (am_psh r []) S I J Q)) := tr_virt (k := 73) (by decide +kernel) (by decide +kernel) rfl rfl (Nat.le_of_ble_eq_true rfl) (by decide +kernel)
theorem r185_560 : am_T d 185 560 [l0, l1, some (.ref a0), l3] st S I J Q = am_T d 185 561 [l0, l1, some (.ref a0), l3] (.ref a0 :: st) S I J Q := tr_aload_n (m := 2) (by decide +kernel) rfl
theorem r185_561 : am_T d 185 561 ls [.ref a0, .int x10] S I J Q = (am_is S a0 9 ∧ am_C d 135 [.ref a0] S I J (fun r S I J => am_T d 185 564 ls (am_psh r [.int x10]) S I J Q)) := tr_virt (k := 76) (by decide +kernel) (by decide +kernel) rfl rfl (Nat.le_of_ble_eq_true rfl) (by decide +kernel)
theorem r185_564 : am_T d 185 564 ls (.int x1 :: .int x0 :: st) S I J Q = if x0 = x1 then am_T d 185 1073 ls st S I J Q else am_T d 185 567 ls st S I J Q := tr_icmpeq (o := 509) (by decide +kernel) rfl
theorem r185_567 : am_T d 185 567 ls st S I J Q = am_T d 185 568 ls (.int 0 :: st) S I J Q := tr_iconst (m := 0) (by decide +kernel) (by decide)
theorem r185_568 : am_T d 185 568 ls [.int x0] S I J Q = ((x0 = 0 ∨ x0 = 1) ∧ Q (some (.int x0)) S I J) := tr_iretz (by decide +kernel) (by decide +kernel)
theorem r185_569 : am_T d 185 569 [l0, some (.ref a0), l2, l3] st S I J Q = am_T d 185 570 [l0, some (.ref a0), l2, l3] (.ref a0 :: st) S I J Q := tr_aload_n (m := 1) (by decide +kernel) rfl
theorem r185_570 : am_T d 185 570 ls [.ref a0] S I J Q = (am_is S a0 8 ∧ am_C d 73 [.ref a0] S I J (fun r S I J => am_T d 185 573 ls (am_psh r []) S I J Q)) := tr_virt (k := 77) (by decide +kernel) (by decide +kernel) rfl rfl (Nat.le_of_ble_eq_true rfl) (by decide +kernel)
theorem r185_573 : am_T d 185 573 [l0, l1, some (.ref a0), l3] st S I J Q = am_T d 185 574 [l0, l1, some (.ref a0), l3] (.ref a0 :: st) S I J Q := tr_aload_n (m := 2) (by decide +kernel) rfl
theorem r185_574 : am_T d 185 574 ls [.ref a0, .int x10] S I J Q = (am_is S a0 9 ∧ am_C d 139 [.ref a0] S I J (fun r S I J => am_T d 185 577 ls (am_psh r [.int x10]) S I J Q)) := tr_virt (k := 80) (by decide +kernel) (by decide +kernel) rfl rfl (Nat.le_of_ble_eq_true rfl) (by decide +kernel)
theorem r185_577 : am_T d 185 577 ls (.int x1 :: .int x0 :: st) S I J Q = if x0 = x1 then am_T d 185 1073 ls st S I J Q else am_T d 185 580 ls st S I J Q := tr_icmpeq (o := 496) (by decide +kernel) rfl
theorem r185_580 : am_T d 185 580 ls st S I J Q = am_T d 185 581 ls (.int 0 :: st) S I J Q := tr_iconst (m := 0) (by decide +kernel) (by decide)
theorem r185_581 : am_T d 185 581 ls [.int x0] S I J Q = ((x0 = 0 ∨ x0 = 1) ∧ Q (some (.int x0)) S I J) := tr_iretz (by decide +kernel) (by decide +kernel)
theorem r185_582 : am_T d 185 582 [l0, some (.ref a0), l2, l3] st S I J Q = am_T d 185 583 [l0, some (.ref a0), l2, l3] (.ref a0 :: st) S I J Q := tr_aload_n (m := 1) (by decide +kernel) rfl
theorem r185_583 : am_T d 185 583 ls [.ref a0] S I J Q = (am_is S a0 8 ∧ am_C d 74 [.ref a0] S I J (fun r S I J => am_T d 185 586 ls (am_psh r []) S I J Q)) := tr_virt (k := 81) (by decide +kernel) (by decide +kernel) rfl rfl (Nat.le_of_ble_eq_true rfl) (by decide +kernel)
theorem r185_586 : am_T d 185 586 [l0, l1, some (.ref a0), l3] st S I J Q = am_T d 185 587 [l0, l1, some (.ref a0), l3] (.ref a0 :: st) S I J Q := tr_aload_n (m := 2) (by decide +kernel) rfl
theorem r185_587 : am_T d 185 587 ls [.ref a0, .int x10] S I J Q = (am_is S a0 9 ∧ am_C d 140 [.ref a0] S I J (fun r S I J => am_T d 185 590 ls (am_psh r [.int x10]) S I J Q)) := tr_virt (k := 84) (by decide +kernel) (by decide +kernel) rfl rfl (Nat.le_of_ble_eq_true rfl) (by decide +kernel)
theorem r185_590 : am_T d 185 590 ls (.int x1 :: .int x0 :: st) S I J Q = if x0 = x1 then am_T d 185 1073 ls st S I J Q else am_T d 185 593 ls st S I J Q := tr_icmpeq (o := 483) (by decide +kernel) rfl
theorem r185_593 : am_T d 185 593 ls st S I J Q = am_T d 185 594 ls (.int 0 :: st) S I J Q := tr_iconst (m := 0) (by decide +kernel) (by decide)
theorem r185_594 : am_T d 185 594 ls [.int x0] S I J Q = ((x0 = 0 ∨ x0 = 1) ∧ Q (some (.int x0)) S I J) := tr_iretz (by decide +kernel) (by decide +kernel)
theorem r185_595 : am_T d 185 595 [l0, some (.ref a0), l2, l3] st S I J Q = am_T d 185 596 [l0, some (.ref a0), l2, l3] (.ref a0 :: st) S I J Q := tr_aload_n (m := 1) (by decide +kernel) rfl
theorem r185_596 : am_T d 185 596 ls [.ref a0] S I J Q = (am_is S a0 8 ∧ am_C d 75 [.ref a0] S I J (fun r S I J => am_T d 185 599 ls (am_psh r []) S I J Q)) := tr_virt (k := 85) (by decide +kernel) (by decide +kernel) rfl rfl (Nat.le_of_ble_eq_true rfl) (by decide +kernel)
theorem r185_599 : am_T d 185 599 [l0, l1, some (.ref a0), l3] st S I J Q = am_T d 185 600 [l0, l1, some (.ref a0), l3] (.ref a0 :: st) S I J Q := tr_aload_n (m := 2) (by decide +kernel) rfl
theorem r185_600 : am_T d 185 600 ls [.ref a0, .int x10] S I J Q = (am_is S a0 9 ∧ am_C d 154 [.ref a0] S I J (fun r S I J => am_T d 185 603 ls (am_psh r [.int x10]) S I J Q)) := tr_virt (k := 88) (by decide +kernel) (by decide +kernel) rfl rfl (Nat.le_of_ble_eq_true rfl) (by decide +kernel)
theorem r185_603 : am_T d 185 603 ls (.int x1 :: .int x0 :: st) S I J Q = if x0 = x1 then am_T d 185 1073 ls st S I J Q else am_T d 185 606 ls st S I J Q := tr_icmpeq (o := 470) (by decide +kernel) rfl
theorem r185_606 : am_T d 185 606 ls st S I J Q = am_T d 185 607 ls (.int 0 :: st) S I J Q := tr_iconst (m := 0) (by decide +kernel) (by decide)
theorem r185_607 : am_T d 185 607 ls [.int x0] S I J Q = ((x0 = 0 ∨ x0 = 1) ∧ Q (some (.int x0)) S I J) := tr_iretz (by decide +kernel) (by decide +kernel)
theorem r185_608 : am_T d 185 608 [l0, some (.ref a0), l2, l3] st S I J Q = am_T d 185 609 [l0, some (.ref a0), l2, l3] (.ref a0 :: st) S I J Q := tr_aload_n (m := 1) (by decide +kernel) rfl
theorem r185_609 : am_T d 185 609 ls [.ref a0] S I J Q = (am_is S a0 8 ∧ am_C d 76 [.ref a0] S I J (fun r S I J => am_T d 185 612 ls (am_psh r []) S I J Q)) := tr_virt (k := 89) (by decide +kernel) (by decide +kernel) rfl rfl (Nat.le_of_ble_eq_true rfl) (by decide +kernel)
theorem r185_612 : am_T d 185 612 [l0, l1, some (.ref a0), l3] st S I J Q = am_T d 185 613 [l0, l1, some (.ref a0), l3] (.ref a0 :: st) S I J Q := tr_aload_n (m := 2) (by decide +kernel) rfl
theorem r185_613 : am_T d 185 613 ls [.ref a0, .int x10] S I J Q = (am_is S a0 9 ∧ am_C d 155 [.ref a0] S I J (fun r S I J => am_T d 185 616 ls (am_psh r [.int x10]) S I J Q)) := tr_virt (k := 92) (by decide +kernel) (by decide +kernel) rfl rfl (Nat.le_of_ble_eq_true rfl) (by decide +kernel)
theorem r185_616 : am_T d 185 616 ls (.int x1 :: .int x0 :: st) S I J Q = if x0 = x1 then am_T d 185 1073 ls st S I J Q else am_T d 185 619 ls st S I J Q := tr_icmpeq (o := 457) (by decide +kernel) rfl
theorem r185_619 : am_T d 185 619 ls st S I J Q = am_T d 185 620 ls (.int 0 :: st) S I J Q := tr_iconst (m := 0) (by decide +kernel) (by decide)
theorem r185_620 : am_T d 185 620 ls [.int x0] S I J Q = ((x0 = 0 ∨ x0 = 1) ∧ Q (some (.int x0)) S I J) := tr_iretz (by decide +kernel) (by decide +kernel)
theorem r185_621 : am_T d 185 621 [l0, some (.ref a0), l2, l3] st S I J Q = am_T d 185 622 [l0, some (.ref a0), l2, l3] (.ref a0 :: st) S I J Q := tr_aload_n (m := 1) (by decide +kernel) rfl
theorem r185_622 : am_T d 185 622 ls [.ref a0] S I J Q = (am_is S a0 8 ∧ am_C d 77 [.ref a0] S I J (fun r S I J => am_T d 185 625 ls (am_psh r []) S I J Q)) := tr_virt (k := 93) (by decide +kernel) (by decide +kernel) rfl rfl (Nat.le_of_ble_eq_true rfl) (by decide +kernel)
theorem r185_625 : am_T d 185 625 [l0, l1, some (.ref a0), l3] st S I J Q = am_T d 185 626 [l0, l1, some (.ref a0), l3] (.ref a0 :: st) S I J Q := tr_aload_n (m := 2) (by decide +kernel) rfl
theorem r185_626 : am_T d 185 626 ls [.ref a0, .int x10] S I J Q = (am_is S a0 9 ∧ am_C d 156 [.ref a0] S I J (fun r S I J => am_T d 185 629 ls (am_psh r [.int x10]) S I J Q)) := tr_virt (k := 96) (by decide +kernel) (by decide +kernel) rfl rfl (Nat.le_of_ble_eq_true rfl) (by decide +kernel)
theorem r185_629 : am_T d 185 629 ls (.int x1 :: .int x0 :: st) S I J Q = if x0 = x1 then am_T d 185 1073 ls st S I J Q else am_T d 185 632 ls st S I J Q := tr_icmpeq (o := 444) (by decide +kernel) rfl
theorem r185_632 : am_T d 185 632 ls st S I J Q = am_T d 185 633 ls (.int 0 :: st) S I J Q := tr_iconst (m := 0) (by decide +kernel) (by decide)
theorem r185_633 : am_T d 185 633 ls [.int x0] S I J Q = ((x0 = 0 ∨ x0 = 1) ∧ Q (some (.int x0)) S I J) := tr_iretz (by decide +kernel) (by decide +kernel)
theorem r185_634 : am_T d 185 634 [l0, some (.ref a0), l2, l3] st S I J Q = am_T d 185 635 [l0, some (.ref a0), l2, l3] (.ref a0 :: st) S I J Q := tr_aload_n (m := 1) (by decide +kernel) rfl
theorem r185_635 : am_T d 185 635 ls [.ref a0] S I J Q = (am_is S a0 8 ∧ am_C d 78 [.ref a0] S I J (fun r S I J => am_T d 185 638 ls (am_psh r []) S I J Q)) := tr_virt (k := 97) (by decide +kernel) (by decide +kernel) rfl rfl (Nat.le_of_ble_eq_true rfl) (by decide +kernel)
theorem r185_638 : am_T d 185 638 [l0, l1, some (.ref a0), l3] st S I J Q = am_T d 185 639 [l0, l1, some (.ref a0), l3] (.ref a0 :: st) S I J Q := tr_aload_n (m := 2) (by decide +kernel) rfl
theorem r185_639 : am_T d 185 639 ls [.ref a0, .int x10] S I J Q = (am_is S a0 9 ∧ am_C d 158 [.ref a0] S I J (fun r S I J => am_T d 185 642 ls (am_psh r [.int x10]) S I J Q)) := tr_virt (k := 100) (by decide +kernel) (by decide +kernel) rfl rfl (Nat.le_of_ble_eq_true rfl) (by decide +kernel)
theorem r185_642 : am_T d 185 642 ls (.int x1 :: .int x0 :: st) S I J Q = if x0 = x1 then am_T d 185 1073 ls st S I J Q else am_T d 185 645 ls st S I J Q := tr_icmpeq (o := 431) (by decide +kernel) rfl
theorem r185_645 : am_T d 185 645 ls st S I J Q = am_T d 185 646 ls (.int 0 :: st) S I J Q := tr_iconst (m := 0) (by decide +kernel) (by decide)
theorem r185_646 : am_T d 185 646 ls [.int x0] S I J Q = ((x0 = 0 ∨ x0 = 1) ∧ Q (some (.int x0)) S I J) := tr_iretz (by decide +kernel) (by decide +kernel)
theorem r185_647 : am_T d 185 647 [l0, some (.ref a0), l2, l3] st S I J Q = am_T d 185 648 [l0, some (.ref a0), l2, l3] (.ref a0 :: st) S I J Q := tr_aload_n (m := 1) (by decide +kernel) rfl
theorem r185_648 : am_T d 185 648 [some (.ref a0), l1, l2, l3] st S I J Q = am_T d 185 649 [some (.ref a0), l1, l2, l3] (.ref a0 :: st) S I J Q := tr_aload_n (m := 0) (by decide +kernel) rfl
theorem r185_649 : am_T d 185 649 [l0, l1, l2, some (.int x0)] st S I J Q = am_T d 185 650 [l0, l1, l2, some (.int x0)] (.int x0 :: st) S I J Q := tr_iload_n (m := 3) (by decide +kernel) rfl
theorem r185_650 : am_T d 185 650 ls st S I J Q = am_T d 185 651 ls (.int 1 :: st) S I J Q := tr_iconst (m := 1) (by decide +kernel) (by decide)
theorem r185_651 : am_T d 185 651 ls (.int x1 :: .int x0 :: st) S I J Q = am_T d 185 652 ls (.int (x0 + x1) :: st) S I J Q := tr_iadd (by decide +kernel)
theorem r185_652 : am_T d 185 652 ls (.int x0 :: .ref a0 :: st) S I J Q = (am_ix S a0 20 x0 ∧ am_T d 185 653 ls (.int (I a0 x0.toNatClampNeg) :: st) S I J Q) := tr_iald (by decide +kernel)
theorem r185_653 : am_T d 185 653 ls [.int x1, .ref a0] S I J Q = (am_is S a0 8 ∧ am_C d 79 [.ref a0, .int x1] S I J (fun r S I J => am_T d 185 656 ls (am_psh r []) S I J Q)) := tr_virt (k := 101) (by decide +kernel) (by decide +kernel) rfl rfl (Nat.le_of_ble_eq_true rfl) (by decide +kernel)
theorem r185_656 : am_T d 185 656 [l0, l1, some (.ref a0), l3] st S I J Q = am_T d 185 657 [l0, l1, some (.ref a0), l3] (.ref a0 :: st) S I J Q := tr_aload_n (m := 2) (by decide +kernel) rfl
theorem r185_657 : am_T d 185 657 [some (.ref a0), l1, l2, l3] st S I J Q = am_T d 185 658 [some (.ref a0), l1, l2, l3] (.ref a0 :: st) S I J Q := tr_aload_n (m := 0) (by decide +kernel) rfl
theorem r185_658 : am_T d 185 658 [l0, l1, l2, some (.int x0)] st S I J Q = am_T d 185 659 [l0, l1, l2, some (.int x0)] (.int x0 :: st) S I J Q := tr_iload_n (m := 3) (by decide +kernel) rfl
theorem r185_659 : am_T d 185 659 ls st S I J Q = am_T d 185 660 ls (.int 1 :: st) S I J Q := tr_iconst (m := 1) (by decide +kernel) (by decide)
theorem r185_660 : am_T d 185 660 ls (.int x1 :: .int x0 :: st) S I J Q = am_T d 185 661 ls (.int (x0 + x1) :: st) S I J Q := tr_iadd (by decide +kernel)
theorem r185_661 : am_T d 185 661 ls (.int x0 :: .ref a0 :: st) S I J Q = (am_ix S a0 20 x0 ∧ am_T d 185 662 ls (.int (I a0 x0.toNatClampNeg) :: st) S I J Q) := tr_iald (by decide +kernel)
theorem r185_662 : am_T d 185 662 ls [.int x1, .ref a0, .int x10] S I J Q = (am_is S a0 9 ∧ am_C d 159 [.ref a0, .int x1] S I J (fun r S I J => am_T d 185 665 ls (am_psh r [.int x10]) S I J Q)) := tr_virt (k := 104) (by decide +kernel) (by decide +kernel) rfl rfl (Nat.le_of_ble_eq_true rfl) (by decide +kernel)
theorem r185_665 : am_T d 185 665 ls (.int x1 :: .int x0 :: st) S I J Q = if x0 = x1 then am_T d 185 1073 ls st S I J Q else am_T d 185 668 ls st S I J Q := tr_icmpeq (o := 408) (by decide +kernel) rfl
theorem r185_668 : am_T d 185 668 ls st S I J Q = am_T d 185 669 ls (.int 0 :: st) S I J Q := tr_iconst (m := 0) (by decide +kernel) (by decide)
theorem r185_669 : am_T d 185 669 ls [.int x0] S I J Q = ((x0 = 0 ∨ x0 = 1) ∧ Q (some (.int x0)) S I J) := tr_iretz (by decide +kernel) (by decide +kernel)
theorem r185_670 : am_T d 185 670 [l0, some (.ref a0), l2, l3] st S I J Q = am_T d 185 671 [l0, some (.ref a0), l2, l3] (.ref a0 :: st) S I J Q := tr_aload_n (m := 1) (by decide +kernel) rfl
theorem r185_671 : am_T d 185 671 [some (.ref a0), l1, l2, l3] st S I J Q = am_T d 185 672 [some (.ref a0), l1, l2, l3] (.ref a0 :: st) S I J Q := tr_aload_n (m := 0) (by decide +kernel) rfl
theorem r185_672 : am_T d 185 672 [l0, l1, l2, some (.int x0)] st S I J Q = am_T d 185 673 [l0, l1, l2, some (.int x0)] (.int x0 :: st) S I J Q := tr_iload_n (m := 3) (by decide +kernel) rfl
theorem r185_673 : am_T d 185 673 ls st S I J Q = am_T d 185 674 ls (.int 1 :: st) S I J Q := tr_iconst (m := 1) (by decide +kernel) (by decide)
theorem r185_674 : am_T d 185 674 ls (.int x1 :: .int x0 :: st) S I J Q = am_T d 185 675 ls (.int (x0 + x1) :: st) S I J Q := tr_iadd (by decide +kernel)
theorem r185_675 : am_T d 185 675 ls (.int x0 :: .ref a0 :: st) S I J Q = (am_ix S a0 20 x0 ∧ am_T d 185 676 ls (.int (I a0 x0.toNatClampNeg) :: st) S I J Q) := tr_iald (by decide +kernel)
theorem r185_676 : am_T d 185 676 ls [.int x1, .ref a0] S I J Q = (am_is S a0 8 ∧ am_C d 80 [.ref a0, .int x1] S I J (fun r S I J => am_T d 185 679 ls (am_psh r []) S I J Q)) := tr_virt (k := 105) (by decide +kernel) (by decide +kernel) rfl rfl (Nat.le_of_ble_eq_true rfl) (by decide +kernel)
theorem r185_679 : am_T d 185 679 [l0, l1, some (.ref a0), l3] st S I J Q = am_T d 185 680 [l0, l1, some (.ref a0), l3] (.ref a0 :: st) S I J Q := tr_aload_n (m := 2) (by decide +kernel) rfl
theorem r185_680 : am_T d 185 680 [some (.ref a0), l1, l2, l3] st S I J Q = am_T d 185 681 [some (.ref a0), l1, l2, l3] (.ref a0 :: st) S I J Q := tr_aload_n (m := 0) (by decide +kernel) rfl
theorem r185_681 : am_T d 185 681 [l0, l1, l2, some (.int x0)] st S I J Q = am_T d 185 682 [l0, l1, l2, some (.int x0)] (.int x0 :: st) S I J Q := tr_iload_n (m := 3) (by decide +kernel) rfl
theorem r185_682 : am_T d 185 682 ls st S I J Q = am_T d 185 683 ls (.int 1 :: st) S I J Q := tr_iconst (m := 1) (by decide +kernel) (by decide)
theorem r185_683 : am_T d 185 683 ls (.int x1 :: .int x0 :: st) S I J Q = am_T d 185 684 ls (.int (x0 + x1) :: st) S I J Q := tr_iadd (by decide +kernel)
theorem r185_684 : am_T d 185 684 ls (.int x0 :: .ref a0 :: st) S I J Q = (am_ix S a0 20 x0 ∧ am_T d 185 685 ls (.int (I a0 x0.toNatClampNeg) :: st) S I J Q) := tr_iald (by decide +kernel)
theorem r185_685 : am_T d 185 685 ls [.int x1, .ref a0, .int x10] S I J Q = (am_is S a0 9 ∧ am_C d 160 [.ref a0, .int x1] S I J (fun r S I J => am_T d 185 688 ls (am_psh r [.int x10]) S I J Q)) := tr_virt (k := 108) (by decide +kernel) (by decide +kernel) rfl rfl (Nat.le_of_ble_eq_true rfl) (by decide +kernel)
theorem r185_688 : am_T d 185 688 ls (.int x1 :: .int x0 :: st) S I J Q = if x0 = x1 then am_T d 185 1073 ls st S I J Q else am_T d 185 691 ls st S I J Q := tr_icmpeq (o := 385) (by decide +kernel) rfl
theorem r185_691 : am_T d 185 691 ls st S I J Q = am_T d 185 692 ls (.int 0 :: st) S I J Q := tr_iconst (m := 0) (by decide +kernel) (by decide)
theorem r185_692 : am_T d 185 692 ls [.int x0] S I J Q = ((x0 = 0 ∨ x0 = 1) ∧ Q (some (.int x0)) S I J) := tr_iretz (by decide +kernel) (by decide +kernel)
theorem r185_693 : am_T d 185 693 [l0, some (.ref a0), l2, l3] st S I J Q = am_T d 185 694 [l0, some (.ref a0), l2, l3] (.ref a0 :: st) S I J Q := tr_aload_n (m := 1) (by decide +kernel) rfl
theorem r185_694 : am_T d 185 694 ls [.ref a0] S I J Q = (am_is S a0 8 ∧ am_C d 81 [.ref a0] S I J (fun r S I J => am_T d 185 697 ls (am_psh r []) S I J Q)) := tr_virt (k := 109) (by decide +kernel) (by decide +kernel) rfl rfl (Nat.le_of_ble_eq_true rfl) (by decide +kernel)
theorem r185_697 : am_T d 185 697 [l0, l1, some (.ref a0), l3] st S I J Q = am_T d 185 698 [l0, l1, some (.ref a0), l3] (.ref a0 :: st) S I J Q := tr_aload_n (m := 2) (by decide +kernel) rfl
theorem r185_698 : am_T d 185 698 ls [.ref a0, .int x10] S I J Q = (am_is S a0 9 ∧ am_C d 161 [.ref a0] S I J (fun r S I J => am_T d 185 701 ls (am_psh r [.int x10]) S I J Q)) := tr_virt (k := 112) (by decide +kernel) (by decide +kernel) rfl rfl (Nat.le_of_ble_eq_true rfl) (by decide +kernel)
theorem r185_701 : am_T d 185 701 ls (.int x1 :: .int x0 :: st) S I J Q = if x0 = x1 then am_T d 185 1073 ls st S I J Q else am_T d 185 704 ls st S I J Q := tr_icmpeq (o := 372) (by decide +kernel) rfl
theorem r185_704 : am_T d 185 704 ls st S I J Q = am_T d 185 705 ls (.int 0 :: st) S I J Q := tr_iconst (m := 0) (by decide +kernel) (by decide)
theorem r185_705 : am_T d 185 705 ls [.int x0] S I J Q = ((x0 = 0 ∨ x0 = 1) ∧ Q (some (.int x0)) S I J) := tr_iretz (by decide +kernel) (by decide +kernel)
theorem r185_706 : am_T d 185 706 [l0, some (.ref a0), l2, l3] st S I J Q = am_T d 185 707 [l0, some (.ref a0), l2, l3] (.ref a0 :: st) S I J Q := tr_aload_n (m := 1) (by decide +kernel) rfl
theorem r185_707 : am_T d 185 707 [some (.ref a0), l1, l2, l3] st S I J Q = am_T d 185 708 [some (.ref a0), l1, l2, l3] (.ref a0 :: st) S I J Q := tr_aload_n (m := 0) (by decide +kernel) rfl
theorem r185_708 : am_T d 185 708 [l0, l1, l2, some (.int x0)] st S I J Q = am_T d 185 709 [l0, l1, l2, some (.int x0)] (.int x0 :: st) S I J Q := tr_iload_n (m := 3) (by decide +kernel) rfl
theorem r185_709 : am_T d 185 709 ls st S I J Q = am_T d 185 710 ls (.int 1 :: st) S I J Q := tr_iconst (m := 1) (by decide +kernel) (by decide)
theorem r185_710 : am_T d 185 710 ls (.int x1 :: .int x0 :: st) S I J Q = am_T d 185 711 ls (.int (x0 + x1) :: st) S I J Q := tr_iadd (by decide +kernel)
theorem r185_711 : am_T d 185 711 ls (.int x0 :: .ref a0 :: st) S I J Q = (am_ix S a0 20 x0 ∧ am_T d 185 712 ls (.int (I a0 x0.toNatClampNeg) :: st) S I J Q) := tr_iald (by decide +kernel)
theorem r185_712 : am_T d 185 712 [some (.ref a0), l1, l2, l3] st S I J Q = am_T d 185 713 [some (.ref a0), l1, l2, l3] (.ref a0 :: st) S I J Q := tr_aload_n (m := 0) (by decide +kernel) rfl
theorem r185_713 : am_T d 185 713 [l0, l1, l2, some (.int x0)] st S I J Q = am_T d 185 714 [l0, l1, l2, some (.int x0)] (.int x0 :: st) S I J Q := tr_iload_n (m := 3) (by decide +kernel) rfl
theorem r185_714 : am_T d 185 714 ls st S I J Q = am_T d 185 715 ls (.int 2 :: st) S I J Q := tr_iconst (m := 2) (by decide +kernel) (by decide)
theorem r185_715 : am_T d 185 715 ls (.int x1 :: .int x0 :: st) S I J Q = am_T d 185 716 ls (.int (x0 + x1) :: st) S I J Q := tr_iadd (by decide +kernel)
theorem r185_716 : am_T d 185 716 ls (.int x0 :: .ref a0 :: st) S I J Q = (am_ix S a0 20 x0 ∧ am_T d 185 717 ls (.int (I a0 x0.toNatClampNeg) :: st) S I J Q) := tr_iald (by decide +kernel)
theorem r185_717 : am_T d 185 717 ls [.int x2, .int x1, .ref a0] S I J Q = (am_is S a0 8 ∧ am_C d 82 [.ref a0, .int x1, .int x2] S I J (fun r S I J => am_T d 185 720 ls (am_psh r []) S I J Q)) := tr_virt (k := 113) (by decide +kernel) (by decide +kernel) rfl rfl (Nat.le_of_ble_eq_true rfl) (by decide +kernel)
theorem r185_720 : am_T d 185 720 [l0, l1, some (.ref a0), l3] st S I J Q = am_T d 185 721 [l0, l1, some (.ref a0), l3] (.ref a0 :: st) S I J Q := tr_aload_n (m := 2) (by decide +kernel) rfl
theorem r185_721 : am_T d 185 721 [some (.ref a0), l1, l2, l3] st S I J Q = am_T d 185 722 [some (.ref a0), l1, l2, l3] (.ref a0 :: st) S I J Q := tr_aload_n (m := 0) (by decide +kernel) rfl
theorem r185_722 : am_T d 185 722 [l0, l1, l2, some (.int x0)] st S I J Q = am_T d 185 723 [l0, l1, l2, some (.int x0)] (.int x0 :: st) S I J Q := tr_iload_n (m := 3) (by decide +kernel) rfl
theorem r185_723 : am_T d 185 723 ls st S I J Q = am_T d 185 724 ls (.int 1 :: st) S I J Q := tr_iconst (m := 1) (by decide +kernel) (by decide)
theorem r185_724 : am_T d 185 724 ls (.int x1 :: .int x0 :: st) S I J Q = am_T d 185 725 ls (.int (x0 + x1) :: st) S I J Q := tr_iadd (by decide +kernel)
theorem r185_725 : am_T d 185 725 ls (.int x0 :: .ref a0 :: st) S I J Q = (am_ix S a0 20 x0 ∧ am_T d 185 726 ls (.int (I a0 x0.toNatClampNeg) :: st) S I J Q) := tr_iald (by decide +kernel)
theorem r185_726 : am_T d 185 726 [some (.ref a0), l1, l2, l3] st S I J Q = am_T d 185 727 [some (.ref a0), l1, l2, l3] (.ref a0 :: st) S I J Q := tr_aload_n (m := 0) (by decide +kernel) rfl
theorem r185_727 : am_T d 185 727 [l0, l1, l2, some (.int x0)] st S I J Q = am_T d 185 728 [l0, l1, l2, some (.int x0)] (.int x0 :: st) S I J Q := tr_iload_n (m := 3) (by decide +kernel) rfl
theorem r185_728 : am_T d 185 728 ls st S I J Q = am_T d 185 729 ls (.int 2 :: st) S I J Q := tr_iconst (m := 2) (by decide +kernel) (by decide)
theorem r185_729 : am_T d 185 729 ls (.int x1 :: .int x0 :: st) S I J Q = am_T d 185 730 ls (.int (x0 + x1) :: st) S I J Q := tr_iadd (by decide +kernel)
theorem r185_730 : am_T d 185 730 ls (.int x0 :: .ref a0 :: st) S I J Q = (am_ix S a0 20 x0 ∧ am_T d 185 731 ls (.int (I a0 x0.toNatClampNeg) :: st) S I J Q) := tr_iald (by decide +kernel)
theorem r185_731 : am_T d 185 731 ls [.int x2, .int x1, .ref a0, .int x10] S I J Q = (am_is S a0 9 ∧ am_C d 162 [.ref a0, .int x1, .int x2] S I J (fun r S I J => am_T d 185 734 ls (am_psh r [.int x10]) S I J Q)) := tr_virt (k := 116) (by decide +kernel) (by decide +kernel) rfl rfl (Nat.le_of_ble_eq_true rfl) (by decide +kernel)
theorem r185_734 : am_T d 185 734 ls (.int x1 :: .int x0 :: st) S I J Q = if x0 = x1 then am_T d 185 1073 ls st S I J Q else am_T d 185 737 ls st S I J Q := tr_icmpeq (o := 339) (by decide +kernel) rfl
theorem r185_737 : am_T d 185 737 ls st S I J Q = am_T d 185 738 ls (.int 0 :: st) S I J Q := tr_iconst (m := 0) (by decide +kernel) (by decide)
theorem r185_738 : am_T d 185 738 ls [.int x0] S I J Q = ((x0 = 0 ∨ x0 = 1) ∧ Q (some (.int x0)) S I J) := tr_iretz (by decide +kernel) (by decide +kernel)
theorem r185_739 : am_T d 185 739 [l0, some (.ref a0), l2, l3] st S I J Q = am_T d 185 740 [l0, some (.ref a0), l2, l3] (.ref a0 :: st) S I J Q := tr_aload_n (m := 1) (by decide +kernel) rfl
theorem r185_740 : am_T d 185 740 [some (.ref a0), l1, l2, l3] st S I J Q = am_T d 185 741 [some (.ref a0), l1, l2, l3] (.ref a0 :: st) S I J Q := tr_aload_n (m := 0) (by decide +kernel) rfl
theorem r185_741 : am_T d 185 741 [l0, l1, l2, some (.int x0)] st S I J Q = am_T d 185 742 [l0, l1, l2, some (.int x0)] (.int x0 :: st) S I J Q := tr_iload_n (m := 3) (by decide +kernel) rfl
theorem r185_742 : am_T d 185 742 ls st S I J Q = am_T d 185 743 ls (.int 1 :: st) S I J Q := tr_iconst (m := 1) (by decide +kernel) (by decide)
theorem r185_743 : am_T d 185 743 ls (.int x1 :: .int x0 :: st) S I J Q = am_T d 185 744 ls (.int (x0 + x1) :: st) S I J Q := tr_iadd (by decide +kernel)
theorem r185_744 : am_T d 185 744 ls (.int x0 :: .ref a0 :: st) S I J Q = (am_ix S a0 20 x0 ∧ am_T d 185 745 ls (.int (I a0 x0.toNatClampNeg) :: st) S I J Q) := tr_iald (by decide +kernel)
theorem r185_745 : am_T d 185 745 ls [.int x1, .ref a0] S I J Q = (am_is S a0 8 ∧ am_C d 83 [.ref a0, .int x1] S I J (fun r S I J => am_T d 185 748 ls (am_psh r []) S I J Q)) := tr_virt (k := 117) (by decide +kernel) (by decide +kernel) rfl rfl (Nat.le_of_ble_eq_true rfl) (by decide +kernel)
theorem r185_748 : am_T d 185 748 [l0, l1, some (.ref a0), l3] st S I J Q = am_T d 185 749 [l0, l1, some (.ref a0), l3] (.ref a0 :: st) S I J Q := tr_aload_n (m := 2) (by decide +kernel) rfl
theorem r185_749 : am_T d 185 749 [some (.ref a0), l1, l2, l3] st S I J Q = am_T d 185 750 [some (.ref a0), l1, l2, l3] (.ref a0 :: st) S I J Q := tr_aload_n (m := 0) (by decide +kernel) rfl
theorem r185_750 : am_T d 185 750 [l0, l1, l2, some (.int x0)] st S I J Q = am_T d 185 751 [l0, l1, l2, some (.int x0)] (.int x0 :: st) S I J Q := tr_iload_n (m := 3) (by decide +kernel) rfl
theorem r185_751 : am_T d 185 751 ls st S I J Q = am_T d 185 752 ls (.int 1 :: st) S I J Q := tr_iconst (m := 1) (by decide +kernel) (by decide)
theorem r185_752 : am_T d 185 752 ls (.int x1 :: .int x0 :: st) S I J Q = am_T d 185 753 ls (.int (x0 + x1) :: st) S I J Q := tr_iadd (by decide +kernel)
theorem r185_753 : am_T d 185 753 ls (.int x0 :: .ref a0 :: st) S I J Q = (am_ix S a0 20 x0 ∧ am_T d 185 754 ls (.int (I a0 x0.toNatClampNeg) :: st) S I J Q) := tr_iald (by decide +kernel)
theorem r185_754 : am_T d 185 754 ls [.int x1, .ref a0, .int x10] S I J Q = (am_is S a0 9 ∧ am_C d 163 [.ref a0, .int x1] S I J (fun r S I J => am_T d 185 757 ls (am_psh r [.int x10]) S I J Q)) := tr_virt (k := 120) (by decide +kernel) (by decide +kernel) rfl rfl (Nat.le_of_ble_eq_true rfl) (by decide +kernel)
theorem r185_757 : am_T d 185 757 ls (.int x1 :: .int x0 :: st) S I J Q = if x0 = x1 then am_T d 185 1073 ls st S I J Q else am_T d 185 760 ls st S I J Q := tr_icmpeq (o := 316) (by decide +kernel) rfl
theorem r185_760 : am_T d 185 760 ls st S I J Q = am_T d 185 761 ls (.int 0 :: st) S I J Q := tr_iconst (m := 0) (by decide +kernel) (by decide)
theorem r185_761 : am_T d 185 761 ls [.int x0] S I J Q = ((x0 = 0 ∨ x0 = 1) ∧ Q (some (.int x0)) S I J) := tr_iretz (by decide +kernel) (by decide +kernel)
theorem r185_762 : am_T d 185 762 [l0, some (.ref a0), l2, l3] st S I J Q = am_T d 185 763 [l0, some (.ref a0), l2, l3] (.ref a0 :: st) S I J Q := tr_aload_n (m := 1) (by decide +kernel) rfl
theorem r185_763 : am_T d 185 763 [some (.ref a0), l1, l2, l3] st S I J Q = am_T d 185 764 [some (.ref a0), l1, l2, l3] (.ref a0 :: st) S I J Q := tr_aload_n (m := 0) (by decide +kernel) rfl
theorem r185_764 : am_T d 185 764 [l0, l1, l2, some (.int x0)] st S I J Q = am_T d 185 765 [l0, l1, l2, some (.int x0)] (.int x0 :: st) S I J Q := tr_iload_n (m := 3) (by decide +kernel) rfl
theorem r185_765 : am_T d 185 765 ls st S I J Q = am_T d 185 766 ls (.int 1 :: st) S I J Q := tr_iconst (m := 1) (by decide +kernel) (by decide)
theorem r185_766 : am_T d 185 766 ls (.int x1 :: .int x0 :: st) S I J Q = am_T d 185 767 ls (.int (x0 + x1) :: st) S I J Q := tr_iadd (by decide +kernel)
theorem r185_767 : am_T d 185 767 ls (.int x0 :: .ref a0 :: st) S I J Q = (am_ix S a0 20 x0 ∧ am_T d 185 768 ls (.int (I a0 x0.toNatClampNeg) :: st) S I J Q) := tr_iald (by decide +kernel)
theorem r185_768 : am_T d 185 768 ls [.int x1, .ref a0] S I J Q = (am_is S a0 8 ∧ am_C d 84 [.ref a0, .int x1] S I J (fun r S I J => am_T d 185 771 ls (am_psh r []) S I J Q)) := tr_virt (k := 121) (by decide +kernel) (by decide +kernel) rfl rfl (Nat.le_of_ble_eq_true rfl) (by decide +kernel)
theorem r185_771 : am_T d 185 771 [l0, l1, some (.ref a0), l3] st S I J Q = am_T d 185 772 [l0, l1, some (.ref a0), l3] (.ref a0 :: st) S I J Q := tr_aload_n (m := 2) (by decide +kernel) rfl
theorem r185_772 : am_T d 185 772 [some (.ref a0), l1, l2, l3] st S I J Q = am_T d 185 773 [some (.ref a0), l1, l2, l3] (.ref a0 :: st) S I J Q := tr_aload_n (m := 0) (by decide +kernel) rfl
theorem r185_773 : am_T d 185 773 [l0, l1, l2, some (.int x0)] st S I J Q = am_T d 185 774 [l0, l1, l2, some (.int x0)] (.int x0 :: st) S I J Q := tr_iload_n (m := 3) (by decide +kernel) rfl
theorem r185_774 : am_T d 185 774 ls st S I J Q = am_T d 185 775 ls (.int 1 :: st) S I J Q := tr_iconst (m := 1) (by decide +kernel) (by decide)
theorem r185_775 : am_T d 185 775 ls (.int x1 :: .int x0 :: st) S I J Q = am_T d 185 776 ls (.int (x0 + x1) :: st) S I J Q := tr_iadd (by decide +kernel)
theorem r185_776 : am_T d 185 776 ls (.int x0 :: .ref a0 :: st) S I J Q = (am_ix S a0 20 x0 ∧ am_T d 185 777 ls (.int (I a0 x0.toNatClampNeg) :: st) S I J Q) := tr_iald (by decide +kernel)
theorem r185_777 : am_T d 185 777 ls [.int x1, .ref a0, .int x10] S I J Q = (am_is S a0 9 ∧ am_C d 166 [.ref a0, .int x1] S I J (fun r S I J => am_T d 185 780 ls (am_psh r [.int x10]) S I J Q)) := tr_virt (k := 124) (by decide +kernel) (by decide +kernel) rfl rfl (Nat.le_of_ble_eq_true rfl) (by decide +kernel)
theorem r185_780 : am_T d 185 780 ls (.int x1 :: .int x0 :: st) S I J Q = if x0 = x1 then am_T d 185 1073 ls st S I J Q else am_T d 185 783 ls st S I J Q := tr_icmpeq (o := 293) (by decide +kernel) rfl
theorem r185_783 : am_T d 185 783 ls st S I J Q = am_T d 185 784 ls (.int 0 :: st) S I J Q := tr_iconst (m := 0) (by decide +kernel) (by decide)
theorem r185_784 : am_T d 185 784 ls [.int x0] S I J Q = ((x0 = 0 ∨ x0 = 1) ∧ Q (some (.int x0)) S I J) := tr_iretz (by decide +kernel) (by decide +kernel)
theorem r185_785 : am_T d 185 785 [l0, some (.ref a0), l2, l3] st S I J Q = am_T d 185 786 [l0, some (.ref a0), l2, l3] (.ref a0 :: st) S I J Q := tr_aload_n (m := 1) (by decide +kernel) rfl
theorem r185_786 : am_T d 185 786 [some (.ref a0), l1, l2, l3] st S I J Q = am_T d 185 787 [some (.ref a0), l1, l2, l3] (.ref a0 :: st) S I J Q := tr_aload_n (m := 0) (by decide +kernel) rfl
theorem r185_787 : am_T d 185 787 [l0, l1, l2, some (.int x0)] st S I J Q = am_T d 185 788 [l0, l1, l2, some (.int x0)] (.int x0 :: st) S I J Q := tr_iload_n (m := 3) (by decide +kernel) rfl
theorem r185_788 : am_T d 185 788 ls st S I J Q = am_T d 185 789 ls (.int 1 :: st) S I J Q := tr_iconst (m := 1) (by decide +kernel) (by decide)
theorem r185_789 : am_T d 185 789 ls (.int x1 :: .int x0 :: st) S I J Q = am_T d 185 790 ls (.int (x0 + x1) :: st) S I J Q := tr_iadd (by decide +kernel)
theorem r185_790 : am_T d 185 790 ls (.int x0 :: .ref a0 :: st) S I J Q = (am_ix S a0 20 x0 ∧ am_T d 185 791 ls (.int (I a0 x0.toNatClampNeg) :: st) S I J Q) := tr_iald (by decide +kernel)
theorem r185_791 : am_T d 185 791 ls [.int x1, .ref a0] S I J Q = (am_is S a0 8 ∧ am_C d 85 [.ref a0, .int x1] S I J (fun r S I J => am_T d 185 794 ls (am_psh r []) S I J Q)) := tr_virt (k := 125) (by decide +kernel) (by decide +kernel) rfl rfl (Nat.le_of_ble_eq_true rfl) (by decide +kernel)
theorem r185_794 : am_T d 185 794 [l0, l1, some (.ref a0), l3] st S I J Q = am_T d 185 795 [l0, l1, some (.ref a0), l3] (.ref a0 :: st) S I J Q := tr_aload_n (m := 2) (by decide +kernel) rfl
theorem r185_795 : am_T d 185 795 [some (.ref a0), l1, l2, l3] st S I J Q = am_T d 185 796 [some (.ref a0), l1, l2, l3] (.ref a0 :: st) S I J Q := tr_aload_n (m := 0) (by decide +kernel) rfl
theorem r185_796 : am_T d 185 796 [l0, l1, l2, some (.int x0)] st S I J Q = am_T d 185 797 [l0, l1, l2, some (.int x0)] (.int x0 :: st) S I J Q := tr_iload_n (m := 3) (by decide +kernel) rfl
theorem r185_797 : am_T d 185 797 ls st S I J Q = am_T d 185 798 ls (.int 1 :: st) S I J Q := tr_iconst (m := 1) (by decide +kernel) (by decide)
theorem r185_798 : am_T d 185 798 ls (.int x1 :: .int x0 :: st) S I J Q = am_T d 185 799 ls (.int (x0 + x1) :: st) S I J Q := tr_iadd (by decide +kernel)
theorem r185_799 : am_T d 185 799 ls (.int x0 :: .ref a0 :: st) S I J Q = (am_ix S a0 20 x0 ∧ am_T d 185 800 ls (.int (I a0 x0.toNatClampNeg) :: st) S I J Q) := tr_iald (by decide +kernel)
theorem r185_800 : am_T d 185 800 ls [.int x1, .ref a0, .int x10] S I J Q = (am_is S a0 9 ∧ am_C d 167 [.ref a0, .int x1] S I J (fun r S I J => am_T d 185 803 ls (am_psh r [.int x10]) S I J Q)) := tr_virt (k := 128) (by decide +kernel) (by decide +kernel) rfl rfl (Nat.le_of_ble_eq_true rfl) (by decide +kernel)
theorem r185_803 : am_T d 185 803 ls (.int x1 :: .int x0 :: st) S I J Q = if x0 = x1 then am_T d 185 1073 ls st S I J Q else am_T d 185 806 ls st S I J Q := tr_icmpeq (o := 270) (by decide +kernel) rfl
theorem r185_806 : am_T d 185 806 ls st S I J Q = am_T d 185 807 ls (.int 0 :: st) S I J Q := tr_iconst (m := 0) (by decide +kernel) (by decide)
theorem r185_807 : am_T d 185 807 ls [.int x0] S I J Q = ((x0 = 0 ∨ x0 = 1) ∧ Q (some (.int x0)) S I J) := tr_iretz (by decide +kernel) (by decide +kernel)
theorem r185_808 : am_T d 185 808 [l0, some (.ref a0), l2, l3] st S I J Q = am_T d 185 809 [l0, some (.ref a0), l2, l3] (.ref a0 :: st) S I J Q := tr_aload_n (m := 1) (by decide +kernel) rfl
theorem r185_809 : am_T d 185 809 [some (.ref a0), l1, l2, l3] st S I J Q = am_T d 185 810 [some (.ref a0), l1, l2, l3] (.ref a0 :: st) S I J Q := tr_aload_n (m := 0) (by decide +kernel) rfl
theorem r185_810 : am_T d 185 810 [l0, l1, l2, some (.int x0)] st S I J Q = am_T d 185 811 [l0, l1, l2, some (.int x0)] (.int x0 :: st) S I J Q := tr_iload_n (m := 3) (by decide +kernel) rfl
theorem r185_811 : am_T d 185 811 ls st S I J Q = am_T d 185 812 ls (.int 1 :: st) S I J Q := tr_iconst (m := 1) (by decide +kernel) (by decide)
theorem r185_812 : am_T d 185 812 ls (.int x1 :: .int x0 :: st) S I J Q = am_T d 185 813 ls (.int (x0 + x1) :: st) S I J Q := tr_iadd (by decide +kernel)
theorem r185_813 : am_T d 185 813 ls (.int x0 :: .ref a0 :: st) S I J Q = (am_ix S a0 20 x0 ∧ am_T d 185 814 ls (.int (I a0 x0.toNatClampNeg) :: st) S I J Q) := tr_iald (by decide +kernel)
theorem r185_814 : am_T d 185 814 ls [.int x1, .ref a0] S I J Q = (am_is S a0 8 ∧ am_C d 86 [.ref a0, .int x1] S I J (fun r S I J => am_T d 185 817 ls (am_psh r []) S I J Q)) := tr_virt (k := 129) (by decide +kernel) (by decide +kernel) rfl rfl (Nat.le_of_ble_eq_true rfl) (by decide +kernel)
theorem r185_817 : am_T d 185 817 [l0, l1, some (.ref a0), l3] st S I J Q = am_T d 185 818 [l0, l1, some (.ref a0), l3] (.ref a0 :: st) S I J Q := tr_aload_n (m := 2) (by decide +kernel) rfl
theorem r185_818 : am_T d 185 818 [some (.ref a0), l1, l2, l3] st S I J Q = am_T d 185 819 [some (.ref a0), l1, l2, l3] (.ref a0 :: st) S I J Q := tr_aload_n (m := 0) (by decide +kernel) rfl
theorem r185_819 : am_T d 185 819 [l0, l1, l2, some (.int x0)] st S I J Q = am_T d 185 820 [l0, l1, l2, some (.int x0)] (.int x0 :: st) S I J Q := tr_iload_n (m := 3) (by decide +kernel) rfl
theorem r185_820 : am_T d 185 820 ls st S I J Q = am_T d 185 821 ls (.int 1 :: st) S I J Q := tr_iconst (m := 1) (by decide +kernel) (by decide)
theorem r185_821 : am_T d 185 821 ls (.int x1 :: .int x0 :: st) S I J Q = am_T d 185 822 ls (.int (x0 + x1) :: st) S I J Q := tr_iadd (by decide +kernel)
theorem r185_822 : am_T d 185 822 ls (.int x0 :: .ref a0 :: st) S I J Q = (am_ix S a0 20 x0 ∧ am_T d 185 823 ls (.int (I a0 x0.toNatClampNeg) :: st) S I J Q) := tr_iald (by decide +kernel)
theorem r185_823 : am_T d 185 823 ls [.int x1, .ref a0, .int x10] S I J Q = (am_is S a0 9 ∧ am_C d 168 [.ref a0, .int x1] S I J (fun r S I J => am_T d 185 826 ls (am_psh r [.int x10]) S I J Q)) := tr_virt (k := 132) (by decide +kernel) (by decide +kernel) rfl rfl (Nat.le_of_ble_eq_true rfl) (by decide +kernel)
theorem r185_826 : am_T d 185 826 ls (.int x1 :: .int x0 :: st) S I J Q = if x0 = x1 then am_T d 185 1073 ls st S I J Q else am_T d 185 829 ls st S I J Q := tr_icmpeq (o := 247) (by decide +kernel) rfl
theorem r185_829 : am_T d 185 829 ls st S I J Q = am_T d 185 830 ls (.int 0 :: st) S I J Q := tr_iconst (m := 0) (by decide +kernel) (by decide)
theorem r185_830 : am_T d 185 830 ls [.int x0] S I J Q = ((x0 = 0 ∨ x0 = 1) ∧ Q (some (.int x0)) S I J) := tr_iretz (by decide +kernel) (by decide +kernel)
theorem r185_831 : am_T d 185 831 [l0, some (.ref a0), l2, l3] st S I J Q = am_T d 185 832 [l0, some (.ref a0), l2, l3] (.ref a0 :: st) S I J Q := tr_aload_n (m := 1) (by decide +kernel) rfl
theorem r185_832 : am_T d 185 832 [some (.ref a0), l1, l2, l3] st S I J Q = am_T d 185 833 [some (.ref a0), l1, l2, l3] (.ref a0 :: st) S I J Q := tr_aload_n (m := 0) (by decide +kernel) rfl
theorem r185_833 : am_T d 185 833 [l0, l1, l2, some (.int x0)] st S I J Q = am_T d 185 834 [l0, l1, l2, some (.int x0)] (.int x0 :: st) S I J Q := tr_iload_n (m := 3) (by decide +kernel) rfl
theorem r185_834 : am_T d 185 834 ls st S I J Q = am_T d 185 835 ls (.int 1 :: st) S I J Q := tr_iconst (m := 1) (by decide +kernel) (by decide)
theorem r185_835 : am_T d 185 835 ls (.int x1 :: .int x0 :: st) S I J Q = am_T d 185 836 ls (.int (x0 + x1) :: st) S I J Q := tr_iadd (by decide +kernel)
theorem r185_836 : am_T d 185 836 ls (.int x0 :: .ref a0 :: st) S I J Q = (am_ix S a0 20 x0 ∧ am_T d 185 837 ls (.int (I a0 x0.toNatClampNeg) :: st) S I J Q) := tr_iald (by decide +kernel)
theorem r185_837 : am_T d 185 837 ls [.int x1, .ref a0] S I J Q = (am_is S a0 8 ∧ am_C d 87 [.ref a0, .int x1] S I J (fun r S I J => am_T d 185 840 ls (am_psh r []) S I J Q)) := tr_virt (k := 133) (by decide +kernel) (by decide +kernel) rfl rfl (Nat.le_of_ble_eq_true rfl) (by decide +kernel)
theorem r185_840 : am_T d 185 840 [l0, l1, some (.ref a0), l3] st S I J Q = am_T d 185 841 [l0, l1, some (.ref a0), l3] (.ref a0 :: st) S I J Q := tr_aload_n (m := 2) (by decide +kernel) rfl
theorem r185_841 : am_T d 185 841 [some (.ref a0), l1, l2, l3] st S I J Q = am_T d 185 842 [some (.ref a0), l1, l2, l3] (.ref a0 :: st) S I J Q := tr_aload_n (m := 0) (by decide +kernel) rfl
theorem r185_842 : am_T d 185 842 [l0, l1, l2, some (.int x0)] st S I J Q = am_T d 185 843 [l0, l1, l2, some (.int x0)] (.int x0 :: st) S I J Q := tr_iload_n (m := 3) (by decide +kernel) rfl
theorem r185_843 : am_T d 185 843 ls st S I J Q = am_T d 185 844 ls (.int 1 :: st) S I J Q := tr_iconst (m := 1) (by decide +kernel) (by decide)
theorem r185_844 : am_T d 185 844 ls (.int x1 :: .int x0 :: st) S I J Q = am_T d 185 845 ls (.int (x0 + x1) :: st) S I J Q := tr_iadd (by decide +kernel)
theorem r185_845 : am_T d 185 845 ls (.int x0 :: .ref a0 :: st) S I J Q = (am_ix S a0 20 x0 ∧ am_T d 185 846 ls (.int (I a0 x0.toNatClampNeg) :: st) S I J Q) := tr_iald (by decide +kernel)
theorem r185_846 : am_T d 185 846 ls [.int x1, .ref a0, .int x10] S I J Q = (am_is S a0 9 ∧ am_C d 169 [.ref a0, .int x1] S I J (fun r S I J => am_T d 185 849 ls (am_psh r [.int x10]) S I J Q)) := tr_virt (k := 136) (by decide +kernel) (by decide +kernel) rfl rfl (Nat.le_of_ble_eq_true rfl) (by decide +kernel)
theorem r185_849 : am_T d 185 849 ls (.int x1 :: .int x0 :: st) S I J Q = if x0 = x1 then am_T d 185 1073 ls st S I J Q else am_T d 185 852 ls st S I J Q := tr_icmpeq (o := 224) (by decide +kernel) rfl
theorem r185_852 : am_T d 185 852 ls st S I J Q = am_T d 185 853 ls (.int 0 :: st) S I J Q := tr_iconst (m := 0) (by decide +kernel) (by decide)
theorem r185_853 : am_T d 185 853 ls [.int x0] S I J Q = ((x0 = 0 ∨ x0 = 1) ∧ Q (some (.int x0)) S I J) := tr_iretz (by decide +kernel) (by decide +kernel)
theorem r185_854 : am_T d 185 854 [l0, some (.ref a0), l2, l3] st S I J Q = am_T d 185 855 [l0, some (.ref a0), l2, l3] (.ref a0 :: st) S I J Q := tr_aload_n (m := 1) (by decide +kernel) rfl
theorem r185_855 : am_T d 185 855 [some (.ref a0), l1, l2, l3] st S I J Q = am_T d 185 856 [some (.ref a0), l1, l2, l3] (.ref a0 :: st) S I J Q := tr_aload_n (m := 0) (by decide +kernel) rfl
theorem r185_856 : am_T d 185 856 [l0, l1, l2, some (.int x0)] st S I J Q = am_T d 185 857 [l0, l1, l2, some (.int x0)] (.int x0 :: st) S I J Q := tr_iload_n (m := 3) (by decide +kernel) rfl
theorem r185_857 : am_T d 185 857 ls st S I J Q = am_T d 185 858 ls (.int 1 :: st) S I J Q := tr_iconst (m := 1) (by decide +kernel) (by decide)
theorem r185_858 : am_T d 185 858 ls (.int x1 :: .int x0 :: st) S I J Q = am_T d 185 859 ls (.int (x0 + x1) :: st) S I J Q := tr_iadd (by decide +kernel)
theorem r185_859 : am_T d 185 859 ls (.int x0 :: .ref a0 :: st) S I J Q = (am_ix S a0 20 x0 ∧ am_T d 185 860 ls (.int (I a0 x0.toNatClampNeg) :: st) S I J Q) := tr_iald (by decide +kernel)
theorem r185_860 : am_T d 185 860 ls [.int x1, .ref a0] S I J Q = (am_is S a0 8 ∧ am_C d 88 [.ref a0, .int x1] S I J (fun r S I J => am_T d 185 863 ls (am_psh r []) S I J Q)) := tr_virt (k := 137) (by decide +kernel) (by decide +kernel) rfl rfl (Nat.le_of_ble_eq_true rfl) (by decide +kernel)
theorem r185_863 : am_T d 185 863 [l0, l1, some (.ref a0), l3] st S I J Q = am_T d 185 864 [l0, l1, some (.ref a0), l3] (.ref a0 :: st) S I J Q := tr_aload_n (m := 2) (by decide +kernel) rfl
theorem r185_864 : am_T d 185 864 [some (.ref a0), l1, l2, l3] st S I J Q = am_T d 185 865 [some (.ref a0), l1, l2, l3] (.ref a0 :: st) S I J Q := tr_aload_n (m := 0) (by decide +kernel) rfl
theorem r185_865 : am_T d 185 865 [l0, l1, l2, some (.int x0)] st S I J Q = am_T d 185 866 [l0, l1, l2, some (.int x0)] (.int x0 :: st) S I J Q := tr_iload_n (m := 3) (by decide +kernel) rfl
theorem r185_866 : am_T d 185 866 ls st S I J Q = am_T d 185 867 ls (.int 1 :: st) S I J Q := tr_iconst (m := 1) (by decide +kernel) (by decide)
theorem r185_867 : am_T d 185 867 ls (.int x1 :: .int x0 :: st) S I J Q = am_T d 185 868 ls (.int (x0 + x1) :: st) S I J Q := tr_iadd (by decide +kernel)
theorem r185_868 : am_T d 185 868 ls (.int x0 :: .ref a0 :: st) S I J Q = (am_ix S a0 20 x0 ∧ am_T d 185 869 ls (.int (I a0 x0.toNatClampNeg) :: st) S I J Q) := tr_iald (by decide +kernel)
theorem r185_869 : am_T d 185 869 ls [.int x1, .ref a0, .int x10] S I J Q = (am_is S a0 9 ∧ am_C d 170 [.ref a0, .int x1] S I J (fun r S I J => am_T d 185 872 ls (am_psh r [.int x10]) S I J Q)) := tr_virt (k := 140) (by decide +kernel) (by decide +kernel) rfl rfl (Nat.le_of_ble_eq_true rfl) (by decide +kernel)
theorem r185_872 : am_T d 185 872 ls (.int x1 :: .int x0 :: st) S I J Q = if x0 = x1 then am_T d 185 1073 ls st S I J Q else am_T d 185 875 ls st S I J Q := tr_icmpeq (o := 201) (by decide +kernel) rfl
theorem r185_875 : am_T d 185 875 ls st S I J Q = am_T d 185 876 ls (.int 0 :: st) S I J Q := tr_iconst (m := 0) (by decide +kernel) (by decide)
theorem r185_876 : am_T d 185 876 ls [.int x0] S I J Q = ((x0 = 0 ∨ x0 = 1) ∧ Q (some (.int x0)) S I J) := tr_iretz (by decide +kernel) (by decide +kernel)
theorem r185_877 : am_T d 185 877 [l0, some (.ref a0), l2, l3] st S I J Q = am_T d 185 878 [l0, some (.ref a0), l2, l3] (.ref a0 :: st) S I J Q := tr_aload_n (m := 1) (by decide +kernel) rfl
theorem r185_878 : am_T d 185 878 ls [.ref a0] S I J Q = (am_is S a0 8 ∧ am_C d 89 [.ref a0] S I J (fun r S I J => am_T d 185 881 ls (am_psh r []) S I J Q)) := tr_virt (k := 141) (by decide +kernel) (by decide +kernel) rfl rfl (Nat.le_of_ble_eq_true rfl) (by decide +kernel)
theorem r185_881 : am_T d 185 881 [l0, l1, some (.ref a0), l3] st S I J Q = am_T d 185 882 [l0, l1, some (.ref a0), l3] (.ref a0 :: st) S I J Q := tr_aload_n (m := 2) (by decide +kernel) rfl
theorem r185_882 : am_T d 185 882 ls [.ref a0, .int x10] S I J Q = (am_is S a0 9 ∧ am_C d 176 [.ref a0] S I J (fun r S I J => am_T d 185 885 ls (am_psh r [.int x10]) S I J Q)) := tr_virt (k := 144) (by decide +kernel) (by decide +kernel) rfl rfl (Nat.le_of_ble_eq_true rfl) (by decide +kernel)
theorem r185_885 : am_T d 185 885 ls (.int x1 :: .int x0 :: st) S I J Q = if x0 = x1 then am_T d 185 1073 ls st S I J Q else am_T d 185 888 ls st S I J Q := tr_icmpeq (o := 188) (by decide +kernel) rfl
theorem r185_888 : am_T d 185 888 ls st S I J Q = am_T d 185 889 ls (.int 0 :: st) S I J Q := tr_iconst (m := 0) (by decide +kernel) (by decide)
theorem r185_889 : am_T d 185 889 ls [.int x0] S I J Q = ((x0 = 0 ∨ x0 = 1) ∧ Q (some (.int x0)) S I J) := tr_iretz (by decide +kernel) (by decide +kernel)
theorem r185_890 : am_T d 185 890 [l0, some (.ref a0), l2, l3] st S I J Q = am_T d 185 891 [l0, some (.ref a0), l2, l3] (.ref a0 :: st) S I J Q := tr_aload_n (m := 1) (by decide +kernel) rfl
theorem r185_891 : am_T d 185 891 [some (.ref a0), l1, l2, l3] st S I J Q = am_T d 185 892 [some (.ref a0), l1, l2, l3] (.ref a0 :: st) S I J Q := tr_aload_n (m := 0) (by decide +kernel) rfl
theorem r185_892 : am_T d 185 892 [l0, l1, l2, some (.int x0)] st S I J Q = am_T d 185 893 [l0, l1, l2, some (.int x0)] (.int x0 :: st) S I J Q := tr_iload_n (m := 3) (by decide +kernel) rfl
theorem r185_893 : am_T d 185 893 ls st S I J Q = am_T d 185 894 ls (.int 1 :: st) S I J Q := tr_iconst (m := 1) (by decide +kernel) (by decide)
theorem r185_894 : am_T d 185 894 ls (.int x1 :: .int x0 :: st) S I J Q = am_T d 185 895 ls (.int (x0 + x1) :: st) S I J Q := tr_iadd (by decide +kernel)
theorem r185_895 : am_T d 185 895 ls (.int x0 :: .ref a0 :: st) S I J Q = (am_ix S a0 20 x0 ∧ am_T d 185 896 ls (.int (I a0 x0.toNatClampNeg) :: st) S I J Q) := tr_iald (by decide +kernel)
theorem r185_896 : am_T d 185 896 ls [.int x1, .ref a0] S I J Q = (am_is S a0 8 ∧ am_C d 90 [.ref a0, .int x1] S I J (fun r S I J => am_T d 185 899 ls (am_psh r []) S I J Q)) := tr_virt (k := 145) (by decide +kernel) (by decide +kernel) rfl rfl (Nat.le_of_ble_eq_true rfl) (by decide +kernel)
theorem r185_899 : am_T d 185 899 [l0, l1, some (.ref a0), l3] st S I J Q = am_T d 185 900 [l0, l1, some (.ref a0), l3] (.ref a0 :: st) S I J Q := tr_aload_n (m := 2) (by decide +kernel) rfl
theorem r185_900 : am_T d 185 900 [some (.ref a0), l1, l2, l3] st S I J Q = am_T d 185 901 [some (.ref a0), l1, l2, l3] (.ref a0 :: st) S I J Q := tr_aload_n (m := 0) (by decide +kernel) rfl
theorem r185_901 : am_T d 185 901 [l0, l1, l2, some (.int x0)] st S I J Q = am_T d 185 902 [l0, l1, l2, some (.int x0)] (.int x0 :: st) S I J Q := tr_iload_n (m := 3) (by decide +kernel) rfl
theorem r185_902 : am_T d 185 902 ls st S I J Q = am_T d 185 903 ls (.int 1 :: st) S I J Q := tr_iconst (m := 1) (by decide +kernel) (by decide)
theorem r185_903 : am_T d 185 903 ls (.int x1 :: .int x0 :: st) S I J Q = am_T d 185 904 ls (.int (x0 + x1) :: st) S I J Q := tr_iadd (by decide +kernel)
theorem r185_904 : am_T d 185 904 ls (.int x0 :: .ref a0 :: st) S I J Q = (am_ix S a0 20 x0 ∧ am_T d 185 905 ls (.int (I a0 x0.toNatClampNeg) :: st) S I J Q) := tr_iald (by decide +kernel)
theorem r185_905 : am_T d 185 905 ls [.int x1, .ref a0, .int x10] S I J Q = (am_is S a0 9 ∧ am_C d 177 [.ref a0, .int x1] S I J (fun r S I J => am_T d 185 908 ls (am_psh r [.int x10]) S I J Q)) := tr_virt (k := 148) (by decide +kernel) (by decide +kernel) rfl rfl (Nat.le_of_ble_eq_true rfl) (by decide +kernel)
theorem r185_908 : am_T d 185 908 ls (.int x1 :: .int x0 :: st) S I J Q = if x0 = x1 then am_T d 185 1073 ls st S I J Q else am_T d 185 911 ls st S I J Q := tr_icmpeq (o := 165) (by decide +kernel) rfl
theorem r185_911 : am_T d 185 911 ls st S I J Q = am_T d 185 912 ls (.int 0 :: st) S I J Q := tr_iconst (m := 0) (by decide +kernel) (by decide)
theorem r185_912 : am_T d 185 912 ls [.int x0] S I J Q = ((x0 = 0 ∨ x0 = 1) ∧ Q (some (.int x0)) S I J) := tr_iretz (by decide +kernel) (by decide +kernel)
theorem r185_913 : am_T d 185 913 [l0, some (.ref a0), l2, l3] st S I J Q = am_T d 185 914 [l0, some (.ref a0), l2, l3] (.ref a0 :: st) S I J Q := tr_aload_n (m := 1) (by decide +kernel) rfl
theorem r185_914 : am_T d 185 914 [some (.ref a0), l1, l2, l3] st S I J Q = am_T d 185 915 [some (.ref a0), l1, l2, l3] (.ref a0 :: st) S I J Q := tr_aload_n (m := 0) (by decide +kernel) rfl
theorem r185_915 : am_T d 185 915 [l0, l1, l2, some (.int x0)] st S I J Q = am_T d 185 916 [l0, l1, l2, some (.int x0)] (.int x0 :: st) S I J Q := tr_iload_n (m := 3) (by decide +kernel) rfl
theorem r185_916 : am_T d 185 916 ls st S I J Q = am_T d 185 917 ls (.int 1 :: st) S I J Q := tr_iconst (m := 1) (by decide +kernel) (by decide)
theorem r185_917 : am_T d 185 917 ls (.int x1 :: .int x0 :: st) S I J Q = am_T d 185 918 ls (.int (x0 + x1) :: st) S I J Q := tr_iadd (by decide +kernel)
theorem r185_918 : am_T d 185 918 ls (.int x0 :: .ref a0 :: st) S I J Q = (am_ix S a0 20 x0 ∧ am_T d 185 919 ls (.int (I a0 x0.toNatClampNeg) :: st) S I J Q) := tr_iald (by decide +kernel)
theorem r185_919 : am_T d 185 919 [some (.ref a0), l1, l2, l3] st S I J Q = am_T d 185 920 [some (.ref a0), l1, l2, l3] (.ref a0 :: st) S I J Q := tr_aload_n (m := 0) (by decide +kernel) rfl
theorem r185_920 : am_T d 185 920 [l0, l1, l2, some (.int x0)] st S I J Q = am_T d 185 921 [l0, l1, l2, some (.int x0)] (.int x0 :: st) S I J Q := tr_iload_n (m := 3) (by decide +kernel) rfl
theorem r185_921 : am_T d 185 921 ls st S I J Q = am_T d 185 922 ls (.int 2 :: st) S I J Q := tr_iconst (m := 2) (by decide +kernel) (by decide)
theorem r185_922 : am_T d 185 922 ls (.int x1 :: .int x0 :: st) S I J Q = am_T d 185 923 ls (.int (x0 + x1) :: st) S I J Q := tr_iadd (by decide +kernel)
theorem r185_923 : am_T d 185 923 ls (.int x0 :: .ref a0 :: st) S I J Q = (am_ix S a0 20 x0 ∧ am_T d 185 924 ls (.int (I a0 x0.toNatClampNeg) :: st) S I J Q) := tr_iald (by decide +kernel)
theorem r185_924 : am_T d 185 924 ls [.int x2, .int x1, .ref a0] S I J Q = (am_is S a0 8 ∧ am_C d 91 [.ref a0, .int x1, .int x2] S I J (fun r S I J => am_T d 185 927 ls (am_psh r []) S I J Q)) := tr_virt (k := 149) (by decide +kernel) (by decide +kernel) rfl rfl (Nat.le_of_ble_eq_true rfl) (by decide +kernel)
theorem r185_927 : am_T d 185 927 [l0, l1, some (.ref a0), l3] st S I J Q = am_T d 185 928 [l0, l1, some (.ref a0), l3] (.ref a0 :: st) S I J Q := tr_aload_n (m := 2) (by decide +kernel) rfl
theorem r185_928 : am_T d 185 928 [some (.ref a0), l1, l2, l3] st S I J Q = am_T d 185 929 [some (.ref a0), l1, l2, l3] (.ref a0 :: st) S I J Q := tr_aload_n (m := 0) (by decide +kernel) rfl
theorem r185_929 : am_T d 185 929 [l0, l1, l2, some (.int x0)] st S I J Q = am_T d 185 930 [l0, l1, l2, some (.int x0)] (.int x0 :: st) S I J Q := tr_iload_n (m := 3) (by decide +kernel) rfl
theorem r185_930 : am_T d 185 930 ls st S I J Q = am_T d 185 931 ls (.int 1 :: st) S I J Q := tr_iconst (m := 1) (by decide +kernel) (by decide)
theorem r185_931 : am_T d 185 931 ls (.int x1 :: .int x0 :: st) S I J Q = am_T d 185 932 ls (.int (x0 + x1) :: st) S I J Q := tr_iadd (by decide +kernel)
theorem r185_932 : am_T d 185 932 ls (.int x0 :: .ref a0 :: st) S I J Q = (am_ix S a0 20 x0 ∧ am_T d 185 933 ls (.int (I a0 x0.toNatClampNeg) :: st) S I J Q) := tr_iald (by decide +kernel)
theorem r185_933 : am_T d 185 933 [some (.ref a0), l1, l2, l3] st S I J Q = am_T d 185 934 [some (.ref a0), l1, l2, l3] (.ref a0 :: st) S I J Q := tr_aload_n (m := 0) (by decide +kernel) rfl
theorem r185_934 : am_T d 185 934 [l0, l1, l2, some (.int x0)] st S I J Q = am_T d 185 935 [l0, l1, l2, some (.int x0)] (.int x0 :: st) S I J Q := tr_iload_n (m := 3) (by decide +kernel) rfl
theorem r185_935 : am_T d 185 935 ls st S I J Q = am_T d 185 936 ls (.int 2 :: st) S I J Q := tr_iconst (m := 2) (by decide +kernel) (by decide)
theorem r185_936 : am_T d 185 936 ls (.int x1 :: .int x0 :: st) S I J Q = am_T d 185 937 ls (.int (x0 + x1) :: st) S I J Q := tr_iadd (by decide +kernel)
theorem r185_937 : am_T d 185 937 ls (.int x0 :: .ref a0 :: st) S I J Q = (am_ix S a0 20 x0 ∧ am_T d 185 938 ls (.int (I a0 x0.toNatClampNeg) :: st) S I J Q) := tr_iald (by decide +kernel)
theorem r185_938 : am_T d 185 938 ls [.int x2, .int x1, .ref a0, .int x10] S I J Q = (am_is S a0 9 ∧ am_C d 179 [.ref a0, .int x1, .int x2] S I J (fun r S I J => am_T d 185 941 ls (am_psh r [.int x10]) S I J Q)) := tr_virt (k := 152) (by decide +kernel) (by decide +kernel) rfl rfl (Nat.le_of_ble_eq_true rfl) (by decide +kernel)
theorem r185_941 : am_T d 185 941 ls (.int x1 :: .int x0 :: st) S I J Q = if x0 = x1 then am_T d 185 1073 ls st S I J Q else am_T d 185 944 ls st S I J Q := tr_icmpeq (o := 132) (by decide +kernel) rfl
theorem r185_944 : am_T d 185 944 ls st S I J Q = am_T d 185 945 ls (.int 0 :: st) S I J Q := tr_iconst (m := 0) (by decide +kernel) (by decide)
theorem r185_945 : am_T d 185 945 ls [.int x0] S I J Q = ((x0 = 0 ∨ x0 = 1) ∧ Q (some (.int x0)) S I J) := tr_iretz (by decide +kernel) (by decide +kernel)
theorem r185_946 : am_T d 185 946 [l0, some (.ref a0), l2, l3] st S I J Q = am_T d 185 947 [l0, some (.ref a0), l2, l3] (.ref a0 :: st) S I J Q := tr_aload_n (m := 1) (by decide +kernel) rfl
theorem r185_947 : am_T d 185 947 [some (.ref a0), l1, l2, l3] st S I J Q = am_T d 185 948 [some (.ref a0), l1, l2, l3] (.ref a0 :: st) S I J Q := tr_aload_n (m := 0) (by decide +kernel) rfl
theorem r185_948 : am_T d 185 948 [l0, l1, l2, some (.int x0)] st S I J Q = am_T d 185 949 [l0, l1, l2, some (.int x0)] (.int x0 :: st) S I J Q := tr_iload_n (m := 3) (by decide +kernel) rfl
theorem r185_949 : am_T d 185 949 ls st S I J Q = am_T d 185 950 ls (.int 1 :: st) S I J Q := tr_iconst (m := 1) (by decide +kernel) (by decide)
theorem r185_950 : am_T d 185 950 ls (.int x1 :: .int x0 :: st) S I J Q = am_T d 185 951 ls (.int (x0 + x1) :: st) S I J Q := tr_iadd (by decide +kernel)
theorem r185_951 : am_T d 185 951 ls (.int x0 :: .ref a0 :: st) S I J Q = (am_ix S a0 20 x0 ∧ am_T d 185 952 ls (.int (I a0 x0.toNatClampNeg) :: st) S I J Q) := tr_iald (by decide +kernel)
theorem r185_952 : am_T d 185 952 [some (.ref a0), l1, l2, l3] st S I J Q = am_T d 185 953 [some (.ref a0), l1, l2, l3] (.ref a0 :: st) S I J Q := tr_aload_n (m := 0) (by decide +kernel) rfl
theorem r185_953 : am_T d 185 953 [l0, l1, l2, some (.int x0)] st S I J Q = am_T d 185 954 [l0, l1, l2, some (.int x0)] (.int x0 :: st) S I J Q := tr_iload_n (m := 3) (by decide +kernel) rfl
theorem r185_954 : am_T d 185 954 ls st S I J Q = am_T d 185 955 ls (.int 2 :: st) S I J Q := tr_iconst (m := 2) (by decide +kernel) (by decide)
theorem r185_955 : am_T d 185 955 ls (.int x1 :: .int x0 :: st) S I J Q = am_T d 185 956 ls (.int (x0 + x1) :: st) S I J Q := tr_iadd (by decide +kernel)
theorem r185_956 : am_T d 185 956 ls (.int x0 :: .ref a0 :: st) S I J Q = (am_ix S a0 20 x0 ∧ am_T d 185 957 ls (.int (I a0 x0.toNatClampNeg) :: st) S I J Q) := tr_iald (by decide +kernel)
theorem r185_957 : am_T d 185 957 [some (.ref a0), l1, l2, l3] st S I J Q = am_T d 185 958 [some (.ref a0), l1, l2, l3] (.ref a0 :: st) S I J Q := tr_aload_n (m := 0) (by decide +kernel) rfl
theorem r185_958 : am_T d 185 958 [l0, l1, l2, some (.int x0)] st S I J Q = am_T d 185 959 [l0, l1, l2, some (.int x0)] (.int x0 :: st) S I J Q := tr_iload_n (m := 3) (by decide +kernel) rfl
theorem r185_959 : am_T d 185 959 ls st S I J Q = am_T d 185 960 ls (.int 3 :: st) S I J Q := tr_iconst (m := 3) (by decide +kernel) (by decide)
theorem r185_960 : am_T d 185 960 ls (.int x1 :: .int x0 :: st) S I J Q = am_T d 185 961 ls (.int (x0 + x1) :: st) S I J Q := tr_iadd (by decide +kernel)
theorem r185_961 : am_T d 185 961 ls (.int x0 :: .ref a0 :: st) S I J Q = (am_ix S a0 20 x0 ∧ am_T d 185 962 ls (.int (I a0 x0.toNatClampNeg) :: st) S I J Q) := tr_iald (by decide +kernel)
theorem r185_962 : am_T d 185 962 ls [.int x3, .int x2, .int x1, .ref a0] S I J Q = (am_is S a0 8 ∧ am_C d 92 [.ref a0, .int x1, .int x2, .int x3] S I J (fun r S I J => am_T d 185 965 ls (am_psh r []) S I J Q)) := tr_virt (k := 153) (by decide +kernel) (by decide +kernel) rfl rfl (Nat.le_of_ble_eq_true rfl) (by decide +kernel)
theorem r185_965 : am_T d 185 965 [l0, l1, some (.ref a0), l3] st S I J Q = am_T d 185 966 [l0, l1, some (.ref a0), l3] (.ref a0 :: st) S I J Q := tr_aload_n (m := 2) (by decide +kernel) rfl
theorem r185_966 : am_T d 185 966 [some (.ref a0), l1, l2, l3] st S I J Q = am_T d 185 967 [some (.ref a0), l1, l2, l3] (.ref a0 :: st) S I J Q := tr_aload_n (m := 0) (by decide +kernel) rfl
theorem r185_967 : am_T d 185 967 [l0, l1, l2, some (.int x0)] st S I J Q = am_T d 185 968 [l0, l1, l2, some (.int x0)] (.int x0 :: st) S I J Q := tr_iload_n (m := 3) (by decide +kernel) rfl
theorem r185_968 : am_T d 185 968 ls st S I J Q = am_T d 185 969 ls (.int 1 :: st) S I J Q := tr_iconst (m := 1) (by decide +kernel) (by decide)
theorem r185_969 : am_T d 185 969 ls (.int x1 :: .int x0 :: st) S I J Q = am_T d 185 970 ls (.int (x0 + x1) :: st) S I J Q := tr_iadd (by decide +kernel)
theorem r185_970 : am_T d 185 970 ls (.int x0 :: .ref a0 :: st) S I J Q = (am_ix S a0 20 x0 ∧ am_T d 185 971 ls (.int (I a0 x0.toNatClampNeg) :: st) S I J Q) := tr_iald (by decide +kernel)
theorem r185_971 : am_T d 185 971 [some (.ref a0), l1, l2, l3] st S I J Q = am_T d 185 972 [some (.ref a0), l1, l2, l3] (.ref a0 :: st) S I J Q := tr_aload_n (m := 0) (by decide +kernel) rfl
theorem r185_972 : am_T d 185 972 [l0, l1, l2, some (.int x0)] st S I J Q = am_T d 185 973 [l0, l1, l2, some (.int x0)] (.int x0 :: st) S I J Q := tr_iload_n (m := 3) (by decide +kernel) rfl
theorem r185_973 : am_T d 185 973 ls st S I J Q = am_T d 185 974 ls (.int 2 :: st) S I J Q := tr_iconst (m := 2) (by decide +kernel) (by decide)
theorem r185_974 : am_T d 185 974 ls (.int x1 :: .int x0 :: st) S I J Q = am_T d 185 975 ls (.int (x0 + x1) :: st) S I J Q := tr_iadd (by decide +kernel)
theorem r185_975 : am_T d 185 975 ls (.int x0 :: .ref a0 :: st) S I J Q = (am_ix S a0 20 x0 ∧ am_T d 185 976 ls (.int (I a0 x0.toNatClampNeg) :: st) S I J Q) := tr_iald (by decide +kernel)
theorem r185_976 : am_T d 185 976 [some (.ref a0), l1, l2, l3] st S I J Q = am_T d 185 977 [some (.ref a0), l1, l2, l3] (.ref a0 :: st) S I J Q := tr_aload_n (m := 0) (by decide +kernel) rfl
theorem r185_977 : am_T d 185 977 [l0, l1, l2, some (.int x0)] st S I J Q = am_T d 185 978 [l0, l1, l2, some (.int x0)] (.int x0 :: st) S I J Q := tr_iload_n (m := 3) (by decide +kernel) rfl
theorem r185_978 : am_T d 185 978 ls st S I J Q = am_T d 185 979 ls (.int 3 :: st) S I J Q := tr_iconst (m := 3) (by decide +kernel) (by decide)
theorem r185_979 : am_T d 185 979 ls (.int x1 :: .int x0 :: st) S I J Q = am_T d 185 980 ls (.int (x0 + x1) :: st) S I J Q := tr_iadd (by decide +kernel)
theorem r185_980 : am_T d 185 980 ls (.int x0 :: .ref a0 :: st) S I J Q = (am_ix S a0 20 x0 ∧ am_T d 185 981 ls (.int (I a0 x0.toNatClampNeg) :: st) S I J Q) := tr_iald (by decide +kernel)
theorem r185_981 : am_T d 185 981 ls [.int x3, .int x2, .int x1, .ref a0, .int x10] S I J Q = (am_is S a0 9 ∧ am_C d 180 [.ref a0, .int x1, .int x2, .int x3] S I J (fun r S I J => am_T d 185 984 ls (am_psh r [.int x10]) S I J Q)) := tr_virt (k := 156) (by decide +kernel) (by decide +kernel) rfl rfl (Nat.le_of_ble_eq_true rfl) (by decide +kernel)
theorem r185_984 : am_T d 185 984 ls (.int x1 :: .int x0 :: st) S I J Q = if x0 = x1 then am_T d 185 1073 ls st S I J Q else am_T d 185 987 ls st S I J Q := tr_icmpeq (o := 89) (by decide +kernel) rfl
theorem r185_987 : am_T d 185 987 ls st S I J Q = am_T d 185 988 ls (.int 0 :: st) S I J Q := tr_iconst (m := 0) (by decide +kernel) (by decide)
theorem r185_988 : am_T d 185 988 ls [.int x0] S I J Q = ((x0 = 0 ∨ x0 = 1) ∧ Q (some (.int x0)) S I J) := tr_iretz (by decide +kernel) (by decide +kernel)
theorem r185_989 : am_T d 185 989 [l0, some (.ref a0), l2, l3] st S I J Q = am_T d 185 990 [l0, some (.ref a0), l2, l3] (.ref a0 :: st) S I J Q := tr_aload_n (m := 1) (by decide +kernel) rfl
theorem r185_990 : am_T d 185 990 ls [.ref a0] S I J Q = (am_is S a0 8 ∧ am_C d 93 [.ref a0] S I J (fun r S I J => am_T d 185 993 ls (am_psh r []) S I J Q)) := tr_virt (k := 157) (by decide +kernel) (by decide +kernel) rfl rfl (Nat.le_of_ble_eq_true rfl) (by decide +kernel)
theorem r185_993 : am_T d 185 993 [l0, l1, some (.ref a0), l3] st S I J Q = am_T d 185 994 [l0, l1, some (.ref a0), l3] (.ref a0 :: st) S I J Q := tr_aload_n (m := 2) (by decide +kernel) rfl
theorem r185_994 : am_T d 185 994 ls [.ref a0, .long u10] S I J Q = (am_is S a0 9 ∧ am_C d 181 [.ref a0] S I J (fun r S I J => am_T d 185 997 ls (am_psh r [.long u10]) S I J Q)) := tr_virt (k := 161) (by decide +kernel) (by decide +kernel) rfl rfl (Nat.le_of_ble_eq_true rfl) (by decide +kernel)
theorem r185_997 : am_T d 185 997 ls (.long u1 :: .long u0 :: st) S I J Q = am_T d 185 998 ls (.int (lg_cmp u0 u1) :: st) S I J Q := tr_lcmp (by decide +kernel)
theorem r185_998 : am_T d 185 998 ls (.int x0 :: st) S I J Q = if x0 = 0 then am_T d 185 1073 ls st S I J Q else am_T d 185 1001 ls st S I J Q := tr_ifeq (o := 75) (by decide +kernel) rfl
theorem r185_1001 : am_T d 185 1001 ls st S I J Q = am_T d 185 1002 ls (.int 0 :: st) S I J Q := tr_iconst (m := 0) (by decide +kernel) (by decide)
theorem r185_1002 : am_T d 185 1002 ls [.int x0] S I J Q = ((x0 = 0 ∨ x0 = 1) ∧ Q (some (.int x0)) S I J) := tr_iretz (by decide +kernel) (by decide +kernel)
theorem r185_1003 : am_T d 185 1003 [l0, some (.ref a0), l2, l3] st S I J Q = am_T d 185 1004 [l0, some (.ref a0), l2, l3] (.ref a0 :: st) S I J Q := tr_aload_n (m := 1) (by decide +kernel) rfl
theorem r185_1004 : am_T d 185 1004 [some (.ref a0), l1, l2, l3] st S I J Q = am_T d 185 1005 [some (.ref a0), l1, l2, l3] (.ref a0 :: st) S I J Q := tr_aload_n (m := 0) (by decide +kernel) rfl
theorem r185_1005 : am_T d 185 1005 [l0, l1, l2, some (.int x0)] st S I J Q = am_T d 185 1006 [l0, l1, l2, some (.int x0)] (.int x0 :: st) S I J Q := tr_iload_n (m := 3) (by decide +kernel) rfl
theorem r185_1006 : am_T d 185 1006 ls st S I J Q = am_T d 185 1007 ls (.int 1 :: st) S I J Q := tr_iconst (m := 1) (by decide +kernel) (by decide)
theorem r185_1007 : am_T d 185 1007 ls (.int x1 :: .int x0 :: st) S I J Q = am_T d 185 1008 ls (.int (x0 + x1) :: st) S I J Q := tr_iadd (by decide +kernel)
theorem r185_1008 : am_T d 185 1008 ls (.int x0 :: .ref a0 :: st) S I J Q = (am_ix S a0 20 x0 ∧ am_T d 185 1009 ls (.int (I a0 x0.toNatClampNeg) :: st) S I J Q) := tr_iald (by decide +kernel)
theorem r185_1009 : am_T d 185 1009 ls [.int x1, .ref a0] S I J Q = (am_is S a0 8 ∧ am_C d 94 [.ref a0, .int x1] S I J (fun r S I J => am_T d 185 1012 ls (am_psh r []) S I J Q)) := tr_virt (k := 162) (by decide +kernel) (by decide +kernel) rfl rfl (Nat.le_of_ble_eq_true rfl) (by decide +kernel)
theorem r185_1012 : am_T d 185 1012 [l0, l1, some (.ref a0), l3] st S I J Q = am_T d 185 1013 [l0, l1, some (.ref a0), l3] (.ref a0 :: st) S I J Q := tr_aload_n (m := 2) (by decide +kernel) rfl
theorem r185_1013 : am_T d 185 1013 [some (.ref a0), l1, l2, l3] st S I J Q = am_T d 185 1014 [some (.ref a0), l1, l2, l3] (.ref a0 :: st) S I J Q := tr_aload_n (m := 0) (by decide +kernel) rfl
theorem r185_1014 : am_T d 185 1014 [l0, l1, l2, some (.int x0)] st S I J Q = am_T d 185 1015 [l0, l1, l2, some (.int x0)] (.int x0 :: st) S I J Q := tr_iload_n (m := 3) (by decide +kernel) rfl
theorem r185_1015 : am_T d 185 1015 ls st S I J Q = am_T d 185 1016 ls (.int 1 :: st) S I J Q := tr_iconst (m := 1) (by decide +kernel) (by decide)
theorem r185_1016 : am_T d 185 1016 ls (.int x1 :: .int x0 :: st) S I J Q = am_T d 185 1017 ls (.int (x0 + x1) :: st) S I J Q := tr_iadd (by decide +kernel)
theorem r185_1017 : am_T d 185 1017 ls (.int x0 :: .ref a0 :: st) S I J Q = (am_ix S a0 20 x0 ∧ am_T d 185 1018 ls (.int (I a0 x0.toNatClampNeg) :: st) S I J Q) := tr_iald (by decide +kernel)
theorem r185_1018 : am_T d 185 1018 ls [.int x1, .ref a0, .long u10] S I J Q = (am_is S a0 9 ∧ am_C d 182 [.ref a0, .int x1] S I J (fun r S I J => am_T d 185 1021 ls (am_psh r [.long u10]) S I J Q)) := tr_virt (k := 166) (by decide +kernel) (by decide +kernel) rfl rfl (Nat.le_of_ble_eq_true rfl) (by decide +kernel)
theorem r185_1021 : am_T d 185 1021 ls (.long u1 :: .long u0 :: st) S I J Q = am_T d 185 1022 ls (.int (lg_cmp u0 u1) :: st) S I J Q := tr_lcmp (by decide +kernel)
theorem r185_1022 : am_T d 185 1022 ls (.int x0 :: st) S I J Q = if x0 = 0 then am_T d 185 1073 ls st S I J Q else am_T d 185 1025 ls st S I J Q := tr_ifeq (o := 51) (by decide +kernel) rfl
theorem r185_1025 : am_T d 185 1025 ls st S I J Q = am_T d 185 1026 ls (.int 0 :: st) S I J Q := tr_iconst (m := 0) (by decide +kernel) (by decide)
theorem r185_1026 : am_T d 185 1026 ls [.int x0] S I J Q = ((x0 = 0 ∨ x0 = 1) ∧ Q (some (.int x0)) S I J) := tr_iretz (by decide +kernel) (by decide +kernel)
theorem r185_1027 : am_T d 185 1027 [l0, some (.ref a0), l2, l3] st S I J Q = am_T d 185 1028 [l0, some (.ref a0), l2, l3] (.ref a0 :: st) S I J Q := tr_aload_n (m := 1) (by decide +kernel) rfl
theorem r185_1028 : am_T d 185 1028 [some (.ref a0), l1, l2, l3] st S I J Q = am_T d 185 1029 [some (.ref a0), l1, l2, l3] (.ref a0 :: st) S I J Q := tr_aload_n (m := 0) (by decide +kernel) rfl
theorem r185_1029 : am_T d 185 1029 [l0, l1, l2, some (.int x0)] st S I J Q = am_T d 185 1030 [l0, l1, l2, some (.int x0)] (.int x0 :: st) S I J Q := tr_iload_n (m := 3) (by decide +kernel) rfl
theorem r185_1030 : am_T d 185 1030 ls st S I J Q = am_T d 185 1031 ls (.int 1 :: st) S I J Q := tr_iconst (m := 1) (by decide +kernel) (by decide)
theorem r185_1031 : am_T d 185 1031 ls (.int x1 :: .int x0 :: st) S I J Q = am_T d 185 1032 ls (.int (x0 + x1) :: st) S I J Q := tr_iadd (by decide +kernel)
theorem r185_1032 : am_T d 185 1032 ls (.int x0 :: .ref a0 :: st) S I J Q = (am_ix S a0 20 x0 ∧ am_T d 185 1033 ls (.int (I a0 x0.toNatClampNeg) :: st) S I J Q) := tr_iald (by decide +kernel)
theorem r185_1033 : am_T d 185 1033 ls [.int x1, .ref a0] S I J Q = (am_is S a0 8 ∧ am_C d 95 [.ref a0, .int x1] S I J (fun r S I J => am_T d 185 1036 ls (am_psh r []) S I J Q)) := tr_virt (k := 167) (by decide +kernel) (by decide +kernel) rfl rfl (Nat.le_of_ble_eq_true rfl) (by decide +kernel)
theorem r185_1036 : am_T d 185 1036 [l0, l1, some (.ref a0), l3] st S I J Q = am_T d 185 1037 [l0, l1, some (.ref a0), l3] (.ref a0 :: st) S I J Q := tr_aload_n (m := 2) (by decide +kernel) rfl
theorem r185_1037 : am_T d 185 1037 [some (.ref a0), l1, l2, l3] st S I J Q = am_T d 185 1038 [some (.ref a0), l1, l2, l3] (.ref a0 :: st) S I J Q := tr_aload_n (m := 0) (by decide +kernel) rfl
theorem r185_1038 : am_T d 185 1038 [l0, l1, l2, some (.int x0)] st S I J Q = am_T d 185 1039 [l0, l1, l2, some (.int x0)] (.int x0 :: st) S I J Q := tr_iload_n (m := 3) (by decide +kernel) rfl
theorem r185_1039 : am_T d 185 1039 ls st S I J Q = am_T d 185 1040 ls (.int 1 :: st) S I J Q := tr_iconst (m := 1) (by decide +kernel) (by decide)
theorem r185_1040 : am_T d 185 1040 ls (.int x1 :: .int x0 :: st) S I J Q = am_T d 185 1041 ls (.int (x0 + x1) :: st) S I J Q := tr_iadd (by decide +kernel)
theorem r185_1041 : am_T d 185 1041 ls (.int x0 :: .ref a0 :: st) S I J Q = (am_ix S a0 20 x0 ∧ am_T d 185 1042 ls (.int (I a0 x0.toNatClampNeg) :: st) S I J Q) := tr_iald (by decide +kernel)
theorem r185_1042 : am_T d 185 1042 ls [.int x1, .ref a0, .int x10] S I J Q = (am_is S a0 9 ∧ am_C d 183 [.ref a0, .int x1] S I J (fun r S I J => am_T d 185 1045 ls (am_psh r [.int x10]) S I J Q)) := tr_virt (k := 170) (by decide +kernel) (by decide +kernel) rfl rfl (Nat.le_of_ble_eq_true rfl) (by decide +kernel)
theorem r185_1045 : am_T d 185 1045 ls (.int x1 :: .int x0 :: st) S I J Q = if x0 = x1 then am_T d 185 1073 ls st S I J Q else am_T d 185 1048 ls st S I J Q := tr_icmpeq (o := 28) (by decide +kernel) rfl
theorem r185_1048 : am_T d 185 1048 ls st S I J Q = am_T d 185 1049 ls (.int 0 :: st) S I J Q := tr_iconst (m := 0) (by decide +kernel) (by decide)
theorem r185_1049 : am_T d 185 1049 ls [.int x0] S I J Q = ((x0 = 0 ∨ x0 = 1) ∧ Q (some (.int x0)) S I J) := tr_iretz (by decide +kernel) (by decide +kernel)
theorem r185_1050 : am_T d 185 1050 [l0, some (.ref a0), l2, l3] st S I J Q = am_T d 185 1051 [l0, some (.ref a0), l2, l3] (.ref a0 :: st) S I J Q := tr_aload_n (m := 1) (by decide +kernel) rfl
theorem r185_1051 : am_T d 185 1051 [some (.ref a0), l1, l2, l3] st S I J Q = am_T d 185 1052 [some (.ref a0), l1, l2, l3] (.ref a0 :: st) S I J Q := tr_aload_n (m := 0) (by decide +kernel) rfl
theorem r185_1052 : am_T d 185 1052 [l0, l1, l2, some (.int x0)] st S I J Q = am_T d 185 1053 [l0, l1, l2, some (.int x0)] (.int x0 :: st) S I J Q := tr_iload_n (m := 3) (by decide +kernel) rfl
theorem r185_1053 : am_T d 185 1053 ls st S I J Q = am_T d 185 1054 ls (.int 1 :: st) S I J Q := tr_iconst (m := 1) (by decide +kernel) (by decide)
theorem r185_1054 : am_T d 185 1054 ls (.int x1 :: .int x0 :: st) S I J Q = am_T d 185 1055 ls (.int (x0 + x1) :: st) S I J Q := tr_iadd (by decide +kernel)
theorem r185_1055 : am_T d 185 1055 ls (.int x0 :: .ref a0 :: st) S I J Q = (am_ix S a0 20 x0 ∧ am_T d 185 1056 ls (.int (I a0 x0.toNatClampNeg) :: st) S I J Q) := tr_iald (by decide +kernel)
theorem r185_1056 : am_T d 185 1056 ls [.int x1, .ref a0] S I J Q = (am_is S a0 8 ∧ am_C d 96 [.ref a0, .int x1] S I J (fun r S I J => am_T d 185 1059 ls (am_psh r []) S I J Q)) := tr_virt (k := 171) (by decide +kernel) (by decide +kernel) rfl rfl (Nat.le_of_ble_eq_true rfl) (by decide +kernel)
theorem r185_1059 : am_T d 185 1059 [l0, l1, some (.ref a0), l3] st S I J Q = am_T d 185 1060 [l0, l1, some (.ref a0), l3] (.ref a0 :: st) S I J Q := tr_aload_n (m := 2) (by decide +kernel) rfl
theorem r185_1060 : am_T d 185 1060 [some (.ref a0), l1, l2, l3] st S I J Q = am_T d 185 1061 [some (.ref a0), l1, l2, l3] (.ref a0 :: st) S I J Q := tr_aload_n (m := 0) (by decide +kernel) rfl
theorem r185_1061 : am_T d 185 1061 [l0, l1, l2, some (.int x0)] st S I J Q = am_T d 185 1062 [l0, l1, l2, some (.int x0)] (.int x0 :: st) S I J Q := tr_iload_n (m := 3) (by decide +kernel) rfl
theorem r185_1062 : am_T d 185 1062 ls st S I J Q = am_T d 185 1063 ls (.int 1 :: st) S I J Q := tr_iconst (m := 1) (by decide +kernel) (by decide)
theorem r185_1063 : am_T d 185 1063 ls (.int x1 :: .int x0 :: st) S I J Q = am_T d 185 1064 ls (.int (x0 + x1) :: st) S I J Q := tr_iadd (by decide +kernel)
theorem r185_1064 : am_T d 185 1064 ls (.int x0 :: .ref a0 :: st) S I J Q = (am_ix S a0 20 x0 ∧ am_T d 185 1065 ls (.int (I a0 x0.toNatClampNeg) :: st) S I J Q) := tr_iald (by decide +kernel)
theorem r185_1065 : am_T d 185 1065 ls [.int x1, .ref a0, .int x10] S I J Q = (am_is S a0 9 ∧ am_C d 184 [.ref a0, .int x1] S I J (fun r S I J => am_T d 185 1068 ls (am_psh r [.int x10]) S I J Q)) := tr_virt (k := 174) (by decide +kernel) (by decide +kernel) rfl rfl (Nat.le_of_ble_eq_true rfl) (by decide +kernel)
theorem r185_1068 : am_T d 185 1068 ls (.int x1 :: .int x0 :: st) S I J Q = if x0 = x1 then am_T d 185 1073 ls st S I J Q else am_T d 185 1071 ls st S I J Q := tr_icmpeq (o := 5) (by decide +kernel) rfl
theorem r185_1071 : am_T d 185 1071 ls st S I J Q = am_T d 185 1072 ls (.int 0 :: st) S I J Q := tr_iconst (m := 0) (by decide +kernel) (by decide)
theorem r185_1072 : am_T d 185 1072 ls [.int x0] S I J Q = ((x0 = 0 ∨ x0 = 1) ∧ Q (some (.int x0)) S I J) := tr_iretz (by decide +kernel) (by decide +kernel)
theorem r185_1073 : am_T d 185 1073 [l0, l1, l2, some (.int x0)] st S I J Q = am_T d 185 1076 [l0, l1, am_clr l2, some (.int (x0 + 4))] st S I J Q := tr_iinc (k := 3) (m := 4) (by decide +kernel) rfl (Nat.le_of_ble_eq_true rfl) (by decide) rfl
theorem r185_1076 : am_T d 185 1076 ls st S I J Q = am_T d 185 18 ls st S I J Q := tr_goto (o := -1058) (by decide +kernel) rfl
theorem r185_1079 : am_T d 185 1079 ls st S I J Q = am_T d 185 1080 ls (.int 1 :: st) S I J Q := tr_iconst (m := 1) (by decide +kernel) (by decide)
theorem r185_1080 : am_T d 185 1080 ls [.int x0] S I J Q = ((x0 = 0 ∨ x0 = 1) ∧ Q (some (.int x0)) S I J) := tr_iretz (by decide +kernel) (by decide +kernel)
end RU
