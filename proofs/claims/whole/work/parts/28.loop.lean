/-! the law's loop: an operation of each object, and their answers alike -/
/-- a call that ends, over the two objects' shapes -/
def am_V (L d y : Nat) (as : List Value) (I : am_I) (J : am_J) (r : Value) (I' : am_I) (J' : am_J) : Prop := ∀ Q : am_Q, am_C d y as (cS L) I J Q = Q (some r) (cS L) I' J'
/-- an operation of both, from every state that Inv allows: alike answers, and Inv again -/
def am_OK (L : Nat) (Inv : am_I → am_J → Prop) (yx ym : Nat) (as : List Value) : Prop := ∀ I J, Inv I J → ∃ r I1 J1 I2 J2, am_V L 40 yx (.ref 1 :: as) I J r I1 J1 ∧ I1 0 = I 0 ∧ am_V L 40 ym (.ref 161 :: as) I1 J1 r I2 J2 ∧ I2 0 = I 0 ∧ Inv I2 J2 ∧ (∃ x, r = .int x) 
def am_OKl (L : Nat) (Inv : am_I → am_J → Prop) (yx ym : Nat) (as : List Value) : Prop := ∀ I J, Inv I J → ∃ (u : Int64) (I1 : am_I) (J1 : am_J) (I2 : am_I) (J2 : am_J), am_V L 40 yx (.ref 1 :: as) I J (.long u) I1 J1 ∧ I1 0 = I 0 ∧ am_V L 40 ym (.ref 161 :: as) I1 J1 (.long u) I2 J2 ∧ I2 0 = I 0 ∧ Inv I2 J2
theorem tr_tsw {d y pc n t : Nat} {ls : am_L} {st : List Value} {S : am_S} {I : am_I} {J : am_J} {Q : am_Q} {x : Int32} {df lo hi : Int} {os : Array Int} (hd : decode (am_by y) pc = .ok (.tableswitch df lo hi os, n)) (h : am_tsw pc ls (.int x :: st) df lo hi os = some (t, ls, st)) : am_T d y pc ls (.int x :: st) S I J Q = am_T d y t ls st S I J Q := tr_pu hd rfl h
section LL
variable {Q : am_Q} {L i : Nat} {I : am_I} {J : am_J} {Inv : am_I → am_J → Prop}
theorem lx (hi : i + 4 ≤ L) (hL : L ≤ 2048) (k : Nat) (hk : k < 4) : am_ix (cS L) 0 20 (nI (i + k)) := ix_nI (k_0 L) (n_0 L) (by omega) (by omega)
theorem lc (hi : i + 4 ≤ L) (hL : L ≤ 2048) (k : Nat) (hk : k < 4) : (nI (i + k)).toNatClampNeg = i + k := n_cl (by omega)
theorem la (i : Nat) : nI i + 1 = nI (i + 1) ∧ nI i + 2 = nI (i + 2) ∧ nI i + 3 = nI (i + 3) ∧ nI i + 4 = nI (i + 4) := ⟨nI_add i 1, nI_add i 2, nI_add i 3, nI_add i 4⟩
theorem law_c0 (hi : i + 4 ≤ L) (hL : L ≤ 2048) (hI : Inv I J) (hOK : am_OK L Inv 58 118 [.int (I 0 (i + 1)), .int (I 0 (i + 2))]) : ∃ I2 J2, Inv I2 J2 ∧ I2 0 = I 0 ∧ am_T 40 185 204 [some (.ref 0), some (.ref 1), some (.ref 161), some (.int (nI i))] [] (cS L) I J Q = am_T 40 185 18 [some (.ref 0), some (.ref 1), some (.ref 161), some (.int (nI (i + 4)))] [] (cS L) I2 J2 Q := by
  obtain ⟨r, I1, J1, I2, J2, h1, e1, h2, e2, h3, x, rfl⟩ := hOK I J hI
  refine ⟨I2, J2, h3, e2, ?_⟩
  simp only [r185_204, r185_205, r185_206, r185_207, r185_208, r185_209, r185_210, r185_211, r185_212, r185_213, r185_214, r185_215, la i, lx hi hL 1 (by omega), lx hi hL 2 (by omega), lx hi hL 3 (by omega), lc hi hL 1 (by omega), lc hi hL 2 (by omega), lc hi hL 3 (by omega), s_1 L, s_161 L, true_and]
  rw [h1]
  simp only [am_psh, r185_218, r185_219, r185_220, r185_221, r185_222, r185_223, r185_224, r185_225, r185_226, r185_227, r185_228, r185_229, la i, lx hi hL 1 (by omega), lx hi hL 2 (by omega), lx hi hL 3 (by omega), lc hi hL 1 (by omega), lc hi hL 2 (by omega), lc hi hL 3 (by omega), s_1 L, s_161 L, true_and, e1]
  rw [h2]
  simp only [am_psh, r185_232, r185_235, r185_236, r185_1073, r185_1076, la i, am_clr, if_true]
theorem law_c1 (hi : i + 4 ≤ L) (hL : L ≤ 2048) (hI : Inv I J) (hOK : am_OK L Inv 59 120 [.int (I 0 (i + 1)), .int (I 0 (i + 2)), .int (I 0 (i + 3))]) : ∃ I2 J2, Inv I2 J2 ∧ I2 0 = I 0 ∧ am_T 40 185 237 [some (.ref 0), some (.ref 1), some (.ref 161), some (.int (nI i))] [] (cS L) I J Q = am_T 40 185 18 [some (.ref 0), some (.ref 1), some (.ref 161), some (.int (nI (i + 4)))] [] (cS L) I2 J2 Q := by
  obtain ⟨r, I1, J1, I2, J2, h1, e1, h2, e2, h3, x, rfl⟩ := hOK I J hI
  refine ⟨I2, J2, h3, e2, ?_⟩
  simp only [r185_237, r185_238, r185_239, r185_240, r185_241, r185_242, r185_243, r185_244, r185_245, r185_246, r185_247, r185_248, r185_249, r185_250, r185_251, r185_252, r185_253, la i, lx hi hL 1 (by omega), lx hi hL 2 (by omega), lx hi hL 3 (by omega), lc hi hL 1 (by omega), lc hi hL 2 (by omega), lc hi hL 3 (by omega), s_1 L, s_161 L, true_and]
  rw [h1]
  simp only [am_psh, r185_256, r185_257, r185_258, r185_259, r185_260, r185_261, r185_262, r185_263, r185_264, r185_265, r185_266, r185_267, r185_268, r185_269, r185_270, r185_271, r185_272, la i, lx hi hL 1 (by omega), lx hi hL 2 (by omega), lx hi hL 3 (by omega), lc hi hL 1 (by omega), lc hi hL 2 (by omega), lc hi hL 3 (by omega), s_1 L, s_161 L, true_and, e1]
  rw [h2]
  simp only [am_psh, r185_275, r185_278, r185_279, r185_1073, r185_1076, la i, am_clr, if_true]
theorem law_c2 (hi : i + 4 ≤ L) (hL : L ≤ 2048) (hI : Inv I J) (hOK : am_OK L Inv 60 122 [.int (I 0 (i + 1))]) : ∃ I2 J2, Inv I2 J2 ∧ I2 0 = I 0 ∧ am_T 40 185 280 [some (.ref 0), some (.ref 1), some (.ref 161), some (.int (nI i))] [] (cS L) I J Q = am_T 40 185 18 [some (.ref 0), some (.ref 1), some (.ref 161), some (.int (nI (i + 4)))] [] (cS L) I2 J2 Q := by
  obtain ⟨r, I1, J1, I2, J2, h1, e1, h2, e2, h3, x, rfl⟩ := hOK I J hI
  refine ⟨I2, J2, h3, e2, ?_⟩
  simp only [r185_280, r185_281, r185_282, r185_283, r185_284, r185_285, r185_286, la i, lx hi hL 1 (by omega), lx hi hL 2 (by omega), lx hi hL 3 (by omega), lc hi hL 1 (by omega), lc hi hL 2 (by omega), lc hi hL 3 (by omega), s_1 L, s_161 L, true_and]
  rw [h1]
  simp only [am_psh, r185_289, r185_290, r185_291, r185_292, r185_293, r185_294, r185_295, la i, lx hi hL 1 (by omega), lx hi hL 2 (by omega), lx hi hL 3 (by omega), lc hi hL 1 (by omega), lc hi hL 2 (by omega), lc hi hL 3 (by omega), s_1 L, s_161 L, true_and, e1]
  rw [h2]
  simp only [am_psh, r185_298, r185_301, r185_302, r185_1073, r185_1076, la i, am_clr, if_true]
theorem law_c3 (hi : i + 4 ≤ L) (hL : L ≤ 2048) (hI : Inv I J) (hOK : am_OK L Inv 61 123 [.int (I 0 (i + 1)), .int (I 0 (i + 2))]) : ∃ I2 J2, Inv I2 J2 ∧ I2 0 = I 0 ∧ am_T 40 185 303 [some (.ref 0), some (.ref 1), some (.ref 161), some (.int (nI i))] [] (cS L) I J Q = am_T 40 185 18 [some (.ref 0), some (.ref 1), some (.ref 161), some (.int (nI (i + 4)))] [] (cS L) I2 J2 Q := by
  obtain ⟨r, I1, J1, I2, J2, h1, e1, h2, e2, h3, x, rfl⟩ := hOK I J hI
  refine ⟨I2, J2, h3, e2, ?_⟩
  simp only [r185_303, r185_304, r185_305, r185_306, r185_307, r185_308, r185_309, r185_310, r185_311, r185_312, r185_313, r185_314, la i, lx hi hL 1 (by omega), lx hi hL 2 (by omega), lx hi hL 3 (by omega), lc hi hL 1 (by omega), lc hi hL 2 (by omega), lc hi hL 3 (by omega), s_1 L, s_161 L, true_and]
  rw [h1]
  simp only [am_psh, r185_317, r185_318, r185_319, r185_320, r185_321, r185_322, r185_323, r185_324, r185_325, r185_326, r185_327, r185_328, la i, lx hi hL 1 (by omega), lx hi hL 2 (by omega), lx hi hL 3 (by omega), lc hi hL 1 (by omega), lc hi hL 2 (by omega), lc hi hL 3 (by omega), s_1 L, s_161 L, true_and, e1]
  rw [h2]
  simp only [am_psh, r185_331, r185_334, r185_335, r185_1073, r185_1076, la i, am_clr, if_true]
theorem law_c4 (hi : i + 4 ≤ L) (hL : L ≤ 2048) (hI : Inv I J) (hOK : am_OK L Inv 62 124 [.int (I 0 (i + 1))]) : ∃ I2 J2, Inv I2 J2 ∧ I2 0 = I 0 ∧ am_T 40 185 336 [some (.ref 0), some (.ref 1), some (.ref 161), some (.int (nI i))] [] (cS L) I J Q = am_T 40 185 18 [some (.ref 0), some (.ref 1), some (.ref 161), some (.int (nI (i + 4)))] [] (cS L) I2 J2 Q := by
  obtain ⟨r, I1, J1, I2, J2, h1, e1, h2, e2, h3, x, rfl⟩ := hOK I J hI
  refine ⟨I2, J2, h3, e2, ?_⟩
  simp only [r185_336, r185_337, r185_338, r185_339, r185_340, r185_341, r185_342, la i, lx hi hL 1 (by omega), lx hi hL 2 (by omega), lx hi hL 3 (by omega), lc hi hL 1 (by omega), lc hi hL 2 (by omega), lc hi hL 3 (by omega), s_1 L, s_161 L, true_and]
  rw [h1]
  simp only [am_psh, r185_345, r185_346, r185_347, r185_348, r185_349, r185_350, r185_351, la i, lx hi hL 1 (by omega), lx hi hL 2 (by omega), lx hi hL 3 (by omega), lc hi hL 1 (by omega), lc hi hL 2 (by omega), lc hi hL 3 (by omega), s_1 L, s_161 L, true_and, e1]
  rw [h2]
  simp only [am_psh, r185_354, r185_357, r185_358, r185_1073, r185_1076, la i, am_clr, if_true]
theorem law_c5 (hi : i + 4 ≤ L) (hL : L ≤ 2048) (hI : Inv I J) (hOK : am_OK L Inv 63 125 [.int (I 0 (i + 1)), .int (I 0 (i + 2))]) : ∃ I2 J2, Inv I2 J2 ∧ I2 0 = I 0 ∧ am_T 40 185 359 [some (.ref 0), some (.ref 1), some (.ref 161), some (.int (nI i))] [] (cS L) I J Q = am_T 40 185 18 [some (.ref 0), some (.ref 1), some (.ref 161), some (.int (nI (i + 4)))] [] (cS L) I2 J2 Q := by
  obtain ⟨r, I1, J1, I2, J2, h1, e1, h2, e2, h3, x, rfl⟩ := hOK I J hI
  refine ⟨I2, J2, h3, e2, ?_⟩
  simp only [r185_359, r185_360, r185_361, r185_362, r185_363, r185_364, r185_365, r185_366, r185_367, r185_368, r185_369, r185_370, la i, lx hi hL 1 (by omega), lx hi hL 2 (by omega), lx hi hL 3 (by omega), lc hi hL 1 (by omega), lc hi hL 2 (by omega), lc hi hL 3 (by omega), s_1 L, s_161 L, true_and]
  rw [h1]
  simp only [am_psh, r185_373, r185_374, r185_375, r185_376, r185_377, r185_378, r185_379, r185_380, r185_381, r185_382, r185_383, r185_384, la i, lx hi hL 1 (by omega), lx hi hL 2 (by omega), lx hi hL 3 (by omega), lc hi hL 1 (by omega), lc hi hL 2 (by omega), lc hi hL 3 (by omega), s_1 L, s_161 L, true_and, e1]
  rw [h2]
  simp only [am_psh, r185_387, r185_390, r185_391, r185_1073, r185_1076, la i, am_clr, if_true]
theorem law_c6 (hi : i + 4 ≤ L) (hL : L ≤ 2048) (hI : Inv I J) (hOK : am_OK L Inv 64 127 [.int (I 0 (i + 1)), .int (I 0 (i + 2))]) : ∃ I2 J2, Inv I2 J2 ∧ I2 0 = I 0 ∧ am_T 40 185 392 [some (.ref 0), some (.ref 1), some (.ref 161), some (.int (nI i))] [] (cS L) I J Q = am_T 40 185 18 [some (.ref 0), some (.ref 1), some (.ref 161), some (.int (nI (i + 4)))] [] (cS L) I2 J2 Q := by
  obtain ⟨r, I1, J1, I2, J2, h1, e1, h2, e2, h3, x, rfl⟩ := hOK I J hI
  refine ⟨I2, J2, h3, e2, ?_⟩
  simp only [r185_392, r185_393, r185_394, r185_395, r185_396, r185_397, r185_398, r185_399, r185_400, r185_401, r185_402, r185_403, la i, lx hi hL 1 (by omega), lx hi hL 2 (by omega), lx hi hL 3 (by omega), lc hi hL 1 (by omega), lc hi hL 2 (by omega), lc hi hL 3 (by omega), s_1 L, s_161 L, true_and]
  rw [h1]
  simp only [am_psh, r185_406, r185_407, r185_408, r185_409, r185_410, r185_411, r185_412, r185_413, r185_414, r185_415, r185_416, r185_417, la i, lx hi hL 1 (by omega), lx hi hL 2 (by omega), lx hi hL 3 (by omega), lc hi hL 1 (by omega), lc hi hL 2 (by omega), lc hi hL 3 (by omega), s_1 L, s_161 L, true_and, e1]
  rw [h2]
  simp only [am_psh, r185_420, r185_423, r185_424, r185_1073, r185_1076, la i, am_clr, if_true]
theorem law_c7 (hi : i + 4 ≤ L) (hL : L ≤ 2048) (hI : Inv I J) (hOK : am_OK L Inv 65 128 []) : ∃ I2 J2, Inv I2 J2 ∧ I2 0 = I 0 ∧ am_T 40 185 425 [some (.ref 0), some (.ref 1), some (.ref 161), some (.int (nI i))] [] (cS L) I J Q = am_T 40 185 18 [some (.ref 0), some (.ref 1), some (.ref 161), some (.int (nI (i + 4)))] [] (cS L) I2 J2 Q := by
  obtain ⟨r, I1, J1, I2, J2, h1, e1, h2, e2, h3, x, rfl⟩ := hOK I J hI
  refine ⟨I2, J2, h3, e2, ?_⟩
  simp only [r185_425, r185_426, la i, lx hi hL 1 (by omega), lx hi hL 2 (by omega), lx hi hL 3 (by omega), lc hi hL 1 (by omega), lc hi hL 2 (by omega), lc hi hL 3 (by omega), s_1 L, s_161 L, true_and]
  rw [h1]
  simp only [am_psh, r185_429, r185_430, la i, lx hi hL 1 (by omega), lx hi hL 2 (by omega), lx hi hL 3 (by omega), lc hi hL 1 (by omega), lc hi hL 2 (by omega), lc hi hL 3 (by omega), s_1 L, s_161 L, true_and, e1]
  rw [h2]
  simp only [am_psh, r185_433, r185_436, r185_437, r185_1073, r185_1076, la i, am_clr, if_true]
theorem law_c8 (hi : i + 4 ≤ L) (hL : L ≤ 2048) (hI : Inv I J) (hOK : am_OK L Inv 66 129 []) : ∃ I2 J2, Inv I2 J2 ∧ I2 0 = I 0 ∧ am_T 40 185 438 [some (.ref 0), some (.ref 1), some (.ref 161), some (.int (nI i))] [] (cS L) I J Q = am_T 40 185 18 [some (.ref 0), some (.ref 1), some (.ref 161), some (.int (nI (i + 4)))] [] (cS L) I2 J2 Q := by
  obtain ⟨r, I1, J1, I2, J2, h1, e1, h2, e2, h3, x, rfl⟩ := hOK I J hI
  refine ⟨I2, J2, h3, e2, ?_⟩
  simp only [r185_438, r185_439, la i, lx hi hL 1 (by omega), lx hi hL 2 (by omega), lx hi hL 3 (by omega), lc hi hL 1 (by omega), lc hi hL 2 (by omega), lc hi hL 3 (by omega), s_1 L, s_161 L, true_and]
  rw [h1]
  simp only [am_psh, r185_442, r185_443, la i, lx hi hL 1 (by omega), lx hi hL 2 (by omega), lx hi hL 3 (by omega), lc hi hL 1 (by omega), lc hi hL 2 (by omega), lc hi hL 3 (by omega), s_1 L, s_161 L, true_and, e1]
  rw [h2]
  simp only [am_psh, r185_446, r185_449, r185_450, r185_1073, r185_1076, la i, am_clr, if_true]
theorem law_c9 (hi : i + 4 ≤ L) (hL : L ≤ 2048) (hI : Inv I J) (hOK : am_OK L Inv 67 130 []) : ∃ I2 J2, Inv I2 J2 ∧ I2 0 = I 0 ∧ am_T 40 185 451 [some (.ref 0), some (.ref 1), some (.ref 161), some (.int (nI i))] [] (cS L) I J Q = am_T 40 185 18 [some (.ref 0), some (.ref 1), some (.ref 161), some (.int (nI (i + 4)))] [] (cS L) I2 J2 Q := by
  obtain ⟨r, I1, J1, I2, J2, h1, e1, h2, e2, h3, x, rfl⟩ := hOK I J hI
  refine ⟨I2, J2, h3, e2, ?_⟩
  simp only [r185_451, r185_452, la i, lx hi hL 1 (by omega), lx hi hL 2 (by omega), lx hi hL 3 (by omega), lc hi hL 1 (by omega), lc hi hL 2 (by omega), lc hi hL 3 (by omega), s_1 L, s_161 L, true_and]
  rw [h1]
  simp only [am_psh, r185_455, r185_456, la i, lx hi hL 1 (by omega), lx hi hL 2 (by omega), lx hi hL 3 (by omega), lc hi hL 1 (by omega), lc hi hL 2 (by omega), lc hi hL 3 (by omega), s_1 L, s_161 L, true_and, e1]
  rw [h2]
  simp only [am_psh, r185_459, r185_462, r185_463, r185_1073, r185_1076, la i, am_clr, if_true]
theorem law_c10 (hi : i + 4 ≤ L) (hL : L ≤ 2048) (hI : Inv I J) (hOK : am_OK L Inv 68 131 [.int (I 0 (i + 1)), .int (I 0 (i + 2))]) : ∃ I2 J2, Inv I2 J2 ∧ I2 0 = I 0 ∧ am_T 40 185 464 [some (.ref 0), some (.ref 1), some (.ref 161), some (.int (nI i))] [] (cS L) I J Q = am_T 40 185 18 [some (.ref 0), some (.ref 1), some (.ref 161), some (.int (nI (i + 4)))] [] (cS L) I2 J2 Q := by
  obtain ⟨r, I1, J1, I2, J2, h1, e1, h2, e2, h3, x, rfl⟩ := hOK I J hI
  refine ⟨I2, J2, h3, e2, ?_⟩
  simp only [r185_464, r185_465, r185_466, r185_467, r185_468, r185_469, r185_470, r185_471, r185_472, r185_473, r185_474, r185_475, la i, lx hi hL 1 (by omega), lx hi hL 2 (by omega), lx hi hL 3 (by omega), lc hi hL 1 (by omega), lc hi hL 2 (by omega), lc hi hL 3 (by omega), s_1 L, s_161 L, true_and]
  rw [h1]
  simp only [am_psh, r185_478, r185_479, r185_480, r185_481, r185_482, r185_483, r185_484, r185_485, r185_486, r185_487, r185_488, r185_489, la i, lx hi hL 1 (by omega), lx hi hL 2 (by omega), lx hi hL 3 (by omega), lc hi hL 1 (by omega), lc hi hL 2 (by omega), lc hi hL 3 (by omega), s_1 L, s_161 L, true_and, e1]
  rw [h2]
  simp only [am_psh, r185_492, r185_495, r185_496, r185_1073, r185_1076, la i, am_clr, if_true]
theorem law_c11 (hi : i + 4 ≤ L) (hL : L ≤ 2048) (hI : Inv I J) (hOK : am_OK L Inv 69 132 [.int (I 0 (i + 1))]) : ∃ I2 J2, Inv I2 J2 ∧ I2 0 = I 0 ∧ am_T 40 185 497 [some (.ref 0), some (.ref 1), some (.ref 161), some (.int (nI i))] [] (cS L) I J Q = am_T 40 185 18 [some (.ref 0), some (.ref 1), some (.ref 161), some (.int (nI (i + 4)))] [] (cS L) I2 J2 Q := by
  obtain ⟨r, I1, J1, I2, J2, h1, e1, h2, e2, h3, x, rfl⟩ := hOK I J hI
  refine ⟨I2, J2, h3, e2, ?_⟩
  simp only [r185_497, r185_498, r185_499, r185_500, r185_501, r185_502, r185_503, la i, lx hi hL 1 (by omega), lx hi hL 2 (by omega), lx hi hL 3 (by omega), lc hi hL 1 (by omega), lc hi hL 2 (by omega), lc hi hL 3 (by omega), s_1 L, s_161 L, true_and]
  rw [h1]
  simp only [am_psh, r185_506, r185_507, r185_508, r185_509, r185_510, r185_511, r185_512, la i, lx hi hL 1 (by omega), lx hi hL 2 (by omega), lx hi hL 3 (by omega), lc hi hL 1 (by omega), lc hi hL 2 (by omega), lc hi hL 3 (by omega), s_1 L, s_161 L, true_and, e1]
  rw [h2]
  simp only [am_psh, r185_515, r185_518, r185_519, r185_1073, r185_1076, la i, am_clr, if_true]
theorem law_c12 (hi : i + 4 ≤ L) (hL : L ≤ 2048) (hI : Inv I J) (hOK : am_OK L Inv 70 133 []) : ∃ I2 J2, Inv I2 J2 ∧ I2 0 = I 0 ∧ am_T 40 185 520 [some (.ref 0), some (.ref 1), some (.ref 161), some (.int (nI i))] [] (cS L) I J Q = am_T 40 185 18 [some (.ref 0), some (.ref 1), some (.ref 161), some (.int (nI (i + 4)))] [] (cS L) I2 J2 Q := by
  obtain ⟨r, I1, J1, I2, J2, h1, e1, h2, e2, h3, x, rfl⟩ := hOK I J hI
  refine ⟨I2, J2, h3, e2, ?_⟩
  simp only [r185_520, r185_521, la i, lx hi hL 1 (by omega), lx hi hL 2 (by omega), lx hi hL 3 (by omega), lc hi hL 1 (by omega), lc hi hL 2 (by omega), lc hi hL 3 (by omega), s_1 L, s_161 L, true_and]
  rw [h1]
  simp only [am_psh, r185_524, r185_525, la i, lx hi hL 1 (by omega), lx hi hL 2 (by omega), lx hi hL 3 (by omega), lc hi hL 1 (by omega), lc hi hL 2 (by omega), lc hi hL 3 (by omega), s_1 L, s_161 L, true_and, e1]
  rw [h2]
  simp only [am_psh, r185_528, r185_531, r185_532, r185_1073, r185_1076, la i, am_clr, if_true]
theorem law_c13 (hi : i + 4 ≤ L) (hL : L ≤ 2048) (hI : Inv I J) (hOK : am_OK L Inv 71 134 [.int (I 0 (i + 1))]) : ∃ I2 J2, Inv I2 J2 ∧ I2 0 = I 0 ∧ am_T 40 185 533 [some (.ref 0), some (.ref 1), some (.ref 161), some (.int (nI i))] [] (cS L) I J Q = am_T 40 185 18 [some (.ref 0), some (.ref 1), some (.ref 161), some (.int (nI (i + 4)))] [] (cS L) I2 J2 Q := by
  obtain ⟨r, I1, J1, I2, J2, h1, e1, h2, e2, h3, x, rfl⟩ := hOK I J hI
  refine ⟨I2, J2, h3, e2, ?_⟩
  simp only [r185_533, r185_534, r185_535, r185_536, r185_537, r185_538, r185_539, la i, lx hi hL 1 (by omega), lx hi hL 2 (by omega), lx hi hL 3 (by omega), lc hi hL 1 (by omega), lc hi hL 2 (by omega), lc hi hL 3 (by omega), s_1 L, s_161 L, true_and]
  rw [h1]
  simp only [am_psh, r185_542, r185_543, r185_544, r185_545, r185_546, r185_547, r185_548, la i, lx hi hL 1 (by omega), lx hi hL 2 (by omega), lx hi hL 3 (by omega), lc hi hL 1 (by omega), lc hi hL 2 (by omega), lc hi hL 3 (by omega), s_1 L, s_161 L, true_and, e1]
  rw [h2]
  simp only [am_psh, r185_551, r185_554, r185_555, r185_1073, r185_1076, la i, am_clr, if_true]
theorem law_c14 (hi : i + 4 ≤ L) (hL : L ≤ 2048) (hI : Inv I J) (hOK : am_OK L Inv 72 135 []) : ∃ I2 J2, Inv I2 J2 ∧ I2 0 = I 0 ∧ am_T 40 185 556 [some (.ref 0), some (.ref 1), some (.ref 161), some (.int (nI i))] [] (cS L) I J Q = am_T 40 185 18 [some (.ref 0), some (.ref 1), some (.ref 161), some (.int (nI (i + 4)))] [] (cS L) I2 J2 Q := by
  obtain ⟨r, I1, J1, I2, J2, h1, e1, h2, e2, h3, x, rfl⟩ := hOK I J hI
  refine ⟨I2, J2, h3, e2, ?_⟩
  simp only [r185_556, r185_557, la i, lx hi hL 1 (by omega), lx hi hL 2 (by omega), lx hi hL 3 (by omega), lc hi hL 1 (by omega), lc hi hL 2 (by omega), lc hi hL 3 (by omega), s_1 L, s_161 L, true_and]
  rw [h1]
  simp only [am_psh, r185_560, r185_561, la i, lx hi hL 1 (by omega), lx hi hL 2 (by omega), lx hi hL 3 (by omega), lc hi hL 1 (by omega), lc hi hL 2 (by omega), lc hi hL 3 (by omega), s_1 L, s_161 L, true_and, e1]
  rw [h2]
  simp only [am_psh, r185_564, r185_567, r185_568, r185_1073, r185_1076, la i, am_clr, if_true]
theorem law_c15 (hi : i + 4 ≤ L) (hL : L ≤ 2048) (hI : Inv I J) (hOK : am_OK L Inv 73 139 []) : ∃ I2 J2, Inv I2 J2 ∧ I2 0 = I 0 ∧ am_T 40 185 569 [some (.ref 0), some (.ref 1), some (.ref 161), some (.int (nI i))] [] (cS L) I J Q = am_T 40 185 18 [some (.ref 0), some (.ref 1), some (.ref 161), some (.int (nI (i + 4)))] [] (cS L) I2 J2 Q := by
  obtain ⟨r, I1, J1, I2, J2, h1, e1, h2, e2, h3, x, rfl⟩ := hOK I J hI
  refine ⟨I2, J2, h3, e2, ?_⟩
  simp only [r185_569, r185_570, la i, lx hi hL 1 (by omega), lx hi hL 2 (by omega), lx hi hL 3 (by omega), lc hi hL 1 (by omega), lc hi hL 2 (by omega), lc hi hL 3 (by omega), s_1 L, s_161 L, true_and]
  rw [h1]
  simp only [am_psh, r185_573, r185_574, la i, lx hi hL 1 (by omega), lx hi hL 2 (by omega), lx hi hL 3 (by omega), lc hi hL 1 (by omega), lc hi hL 2 (by omega), lc hi hL 3 (by omega), s_1 L, s_161 L, true_and, e1]
  rw [h2]
  simp only [am_psh, r185_577, r185_580, r185_581, r185_1073, r185_1076, la i, am_clr, if_true]
theorem law_c16 (hi : i + 4 ≤ L) (hL : L ≤ 2048) (hI : Inv I J) (hOK : am_OK L Inv 74 140 []) : ∃ I2 J2, Inv I2 J2 ∧ I2 0 = I 0 ∧ am_T 40 185 582 [some (.ref 0), some (.ref 1), some (.ref 161), some (.int (nI i))] [] (cS L) I J Q = am_T 40 185 18 [some (.ref 0), some (.ref 1), some (.ref 161), some (.int (nI (i + 4)))] [] (cS L) I2 J2 Q := by
  obtain ⟨r, I1, J1, I2, J2, h1, e1, h2, e2, h3, x, rfl⟩ := hOK I J hI
  refine ⟨I2, J2, h3, e2, ?_⟩
  simp only [r185_582, r185_583, la i, lx hi hL 1 (by omega), lx hi hL 2 (by omega), lx hi hL 3 (by omega), lc hi hL 1 (by omega), lc hi hL 2 (by omega), lc hi hL 3 (by omega), s_1 L, s_161 L, true_and]
  rw [h1]
  simp only [am_psh, r185_586, r185_587, la i, lx hi hL 1 (by omega), lx hi hL 2 (by omega), lx hi hL 3 (by omega), lc hi hL 1 (by omega), lc hi hL 2 (by omega), lc hi hL 3 (by omega), s_1 L, s_161 L, true_and, e1]
  rw [h2]
  simp only [am_psh, r185_590, r185_593, r185_594, r185_1073, r185_1076, la i, am_clr, if_true]
theorem law_c17 (hi : i + 4 ≤ L) (hL : L ≤ 2048) (hI : Inv I J) (hOK : am_OK L Inv 75 154 []) : ∃ I2 J2, Inv I2 J2 ∧ I2 0 = I 0 ∧ am_T 40 185 595 [some (.ref 0), some (.ref 1), some (.ref 161), some (.int (nI i))] [] (cS L) I J Q = am_T 40 185 18 [some (.ref 0), some (.ref 1), some (.ref 161), some (.int (nI (i + 4)))] [] (cS L) I2 J2 Q := by
  obtain ⟨r, I1, J1, I2, J2, h1, e1, h2, e2, h3, x, rfl⟩ := hOK I J hI
  refine ⟨I2, J2, h3, e2, ?_⟩
  simp only [r185_595, r185_596, la i, lx hi hL 1 (by omega), lx hi hL 2 (by omega), lx hi hL 3 (by omega), lc hi hL 1 (by omega), lc hi hL 2 (by omega), lc hi hL 3 (by omega), s_1 L, s_161 L, true_and]
  rw [h1]
  simp only [am_psh, r185_599, r185_600, la i, lx hi hL 1 (by omega), lx hi hL 2 (by omega), lx hi hL 3 (by omega), lc hi hL 1 (by omega), lc hi hL 2 (by omega), lc hi hL 3 (by omega), s_1 L, s_161 L, true_and, e1]
  rw [h2]
  simp only [am_psh, r185_603, r185_606, r185_607, r185_1073, r185_1076, la i, am_clr, if_true]
theorem law_c18 (hi : i + 4 ≤ L) (hL : L ≤ 2048) (hI : Inv I J) (hOK : am_OK L Inv 76 155 []) : ∃ I2 J2, Inv I2 J2 ∧ I2 0 = I 0 ∧ am_T 40 185 608 [some (.ref 0), some (.ref 1), some (.ref 161), some (.int (nI i))] [] (cS L) I J Q = am_T 40 185 18 [some (.ref 0), some (.ref 1), some (.ref 161), some (.int (nI (i + 4)))] [] (cS L) I2 J2 Q := by
  obtain ⟨r, I1, J1, I2, J2, h1, e1, h2, e2, h3, x, rfl⟩ := hOK I J hI
  refine ⟨I2, J2, h3, e2, ?_⟩
  simp only [r185_608, r185_609, la i, lx hi hL 1 (by omega), lx hi hL 2 (by omega), lx hi hL 3 (by omega), lc hi hL 1 (by omega), lc hi hL 2 (by omega), lc hi hL 3 (by omega), s_1 L, s_161 L, true_and]
  rw [h1]
  simp only [am_psh, r185_612, r185_613, la i, lx hi hL 1 (by omega), lx hi hL 2 (by omega), lx hi hL 3 (by omega), lc hi hL 1 (by omega), lc hi hL 2 (by omega), lc hi hL 3 (by omega), s_1 L, s_161 L, true_and, e1]
  rw [h2]
  simp only [am_psh, r185_616, r185_619, r185_620, r185_1073, r185_1076, la i, am_clr, if_true]
theorem law_c19 (hi : i + 4 ≤ L) (hL : L ≤ 2048) (hI : Inv I J) (hOK : am_OK L Inv 77 156 []) : ∃ I2 J2, Inv I2 J2 ∧ I2 0 = I 0 ∧ am_T 40 185 621 [some (.ref 0), some (.ref 1), some (.ref 161), some (.int (nI i))] [] (cS L) I J Q = am_T 40 185 18 [some (.ref 0), some (.ref 1), some (.ref 161), some (.int (nI (i + 4)))] [] (cS L) I2 J2 Q := by
  obtain ⟨r, I1, J1, I2, J2, h1, e1, h2, e2, h3, x, rfl⟩ := hOK I J hI
  refine ⟨I2, J2, h3, e2, ?_⟩
  simp only [r185_621, r185_622, la i, lx hi hL 1 (by omega), lx hi hL 2 (by omega), lx hi hL 3 (by omega), lc hi hL 1 (by omega), lc hi hL 2 (by omega), lc hi hL 3 (by omega), s_1 L, s_161 L, true_and]
  rw [h1]
  simp only [am_psh, r185_625, r185_626, la i, lx hi hL 1 (by omega), lx hi hL 2 (by omega), lx hi hL 3 (by omega), lc hi hL 1 (by omega), lc hi hL 2 (by omega), lc hi hL 3 (by omega), s_1 L, s_161 L, true_and, e1]
  rw [h2]
  simp only [am_psh, r185_629, r185_632, r185_633, r185_1073, r185_1076, la i, am_clr, if_true]
theorem law_c20 (hi : i + 4 ≤ L) (hL : L ≤ 2048) (hI : Inv I J) (hOK : am_OK L Inv 78 158 []) : ∃ I2 J2, Inv I2 J2 ∧ I2 0 = I 0 ∧ am_T 40 185 634 [some (.ref 0), some (.ref 1), some (.ref 161), some (.int (nI i))] [] (cS L) I J Q = am_T 40 185 18 [some (.ref 0), some (.ref 1), some (.ref 161), some (.int (nI (i + 4)))] [] (cS L) I2 J2 Q := by
  obtain ⟨r, I1, J1, I2, J2, h1, e1, h2, e2, h3, x, rfl⟩ := hOK I J hI
  refine ⟨I2, J2, h3, e2, ?_⟩
  simp only [r185_634, r185_635, la i, lx hi hL 1 (by omega), lx hi hL 2 (by omega), lx hi hL 3 (by omega), lc hi hL 1 (by omega), lc hi hL 2 (by omega), lc hi hL 3 (by omega), s_1 L, s_161 L, true_and]
  rw [h1]
  simp only [am_psh, r185_638, r185_639, la i, lx hi hL 1 (by omega), lx hi hL 2 (by omega), lx hi hL 3 (by omega), lc hi hL 1 (by omega), lc hi hL 2 (by omega), lc hi hL 3 (by omega), s_1 L, s_161 L, true_and, e1]
  rw [h2]
  simp only [am_psh, r185_642, r185_645, r185_646, r185_1073, r185_1076, la i, am_clr, if_true]
theorem law_c21 (hi : i + 4 ≤ L) (hL : L ≤ 2048) (hI : Inv I J) (hOK : am_OK L Inv 79 159 [.int (I 0 (i + 1))]) : ∃ I2 J2, Inv I2 J2 ∧ I2 0 = I 0 ∧ am_T 40 185 647 [some (.ref 0), some (.ref 1), some (.ref 161), some (.int (nI i))] [] (cS L) I J Q = am_T 40 185 18 [some (.ref 0), some (.ref 1), some (.ref 161), some (.int (nI (i + 4)))] [] (cS L) I2 J2 Q := by
  obtain ⟨r, I1, J1, I2, J2, h1, e1, h2, e2, h3, x, rfl⟩ := hOK I J hI
  refine ⟨I2, J2, h3, e2, ?_⟩
  simp only [r185_647, r185_648, r185_649, r185_650, r185_651, r185_652, r185_653, la i, lx hi hL 1 (by omega), lx hi hL 2 (by omega), lx hi hL 3 (by omega), lc hi hL 1 (by omega), lc hi hL 2 (by omega), lc hi hL 3 (by omega), s_1 L, s_161 L, true_and]
  rw [h1]
  simp only [am_psh, r185_656, r185_657, r185_658, r185_659, r185_660, r185_661, r185_662, la i, lx hi hL 1 (by omega), lx hi hL 2 (by omega), lx hi hL 3 (by omega), lc hi hL 1 (by omega), lc hi hL 2 (by omega), lc hi hL 3 (by omega), s_1 L, s_161 L, true_and, e1]
  rw [h2]
  simp only [am_psh, r185_665, r185_668, r185_669, r185_1073, r185_1076, la i, am_clr, if_true]
theorem law_c22 (hi : i + 4 ≤ L) (hL : L ≤ 2048) (hI : Inv I J) (hOK : am_OK L Inv 80 160 [.int (I 0 (i + 1))]) : ∃ I2 J2, Inv I2 J2 ∧ I2 0 = I 0 ∧ am_T 40 185 670 [some (.ref 0), some (.ref 1), some (.ref 161), some (.int (nI i))] [] (cS L) I J Q = am_T 40 185 18 [some (.ref 0), some (.ref 1), some (.ref 161), some (.int (nI (i + 4)))] [] (cS L) I2 J2 Q := by
  obtain ⟨r, I1, J1, I2, J2, h1, e1, h2, e2, h3, x, rfl⟩ := hOK I J hI
  refine ⟨I2, J2, h3, e2, ?_⟩
  simp only [r185_670, r185_671, r185_672, r185_673, r185_674, r185_675, r185_676, la i, lx hi hL 1 (by omega), lx hi hL 2 (by omega), lx hi hL 3 (by omega), lc hi hL 1 (by omega), lc hi hL 2 (by omega), lc hi hL 3 (by omega), s_1 L, s_161 L, true_and]
  rw [h1]
  simp only [am_psh, r185_679, r185_680, r185_681, r185_682, r185_683, r185_684, r185_685, la i, lx hi hL 1 (by omega), lx hi hL 2 (by omega), lx hi hL 3 (by omega), lc hi hL 1 (by omega), lc hi hL 2 (by omega), lc hi hL 3 (by omega), s_1 L, s_161 L, true_and, e1]
  rw [h2]
  simp only [am_psh, r185_688, r185_691, r185_692, r185_1073, r185_1076, la i, am_clr, if_true]
theorem law_c23 (hi : i + 4 ≤ L) (hL : L ≤ 2048) (hI : Inv I J) (hOK : am_OK L Inv 81 161 []) : ∃ I2 J2, Inv I2 J2 ∧ I2 0 = I 0 ∧ am_T 40 185 693 [some (.ref 0), some (.ref 1), some (.ref 161), some (.int (nI i))] [] (cS L) I J Q = am_T 40 185 18 [some (.ref 0), some (.ref 1), some (.ref 161), some (.int (nI (i + 4)))] [] (cS L) I2 J2 Q := by
  obtain ⟨r, I1, J1, I2, J2, h1, e1, h2, e2, h3, x, rfl⟩ := hOK I J hI
  refine ⟨I2, J2, h3, e2, ?_⟩
  simp only [r185_693, r185_694, la i, lx hi hL 1 (by omega), lx hi hL 2 (by omega), lx hi hL 3 (by omega), lc hi hL 1 (by omega), lc hi hL 2 (by omega), lc hi hL 3 (by omega), s_1 L, s_161 L, true_and]
  rw [h1]
  simp only [am_psh, r185_697, r185_698, la i, lx hi hL 1 (by omega), lx hi hL 2 (by omega), lx hi hL 3 (by omega), lc hi hL 1 (by omega), lc hi hL 2 (by omega), lc hi hL 3 (by omega), s_1 L, s_161 L, true_and, e1]
  rw [h2]
  simp only [am_psh, r185_701, r185_704, r185_705, r185_1073, r185_1076, la i, am_clr, if_true]
theorem law_c24 (hi : i + 4 ≤ L) (hL : L ≤ 2048) (hI : Inv I J) (hOK : am_OK L Inv 82 162 [.int (I 0 (i + 1)), .int (I 0 (i + 2))]) : ∃ I2 J2, Inv I2 J2 ∧ I2 0 = I 0 ∧ am_T 40 185 706 [some (.ref 0), some (.ref 1), some (.ref 161), some (.int (nI i))] [] (cS L) I J Q = am_T 40 185 18 [some (.ref 0), some (.ref 1), some (.ref 161), some (.int (nI (i + 4)))] [] (cS L) I2 J2 Q := by
  obtain ⟨r, I1, J1, I2, J2, h1, e1, h2, e2, h3, x, rfl⟩ := hOK I J hI
  refine ⟨I2, J2, h3, e2, ?_⟩
  simp only [r185_706, r185_707, r185_708, r185_709, r185_710, r185_711, r185_712, r185_713, r185_714, r185_715, r185_716, r185_717, la i, lx hi hL 1 (by omega), lx hi hL 2 (by omega), lx hi hL 3 (by omega), lc hi hL 1 (by omega), lc hi hL 2 (by omega), lc hi hL 3 (by omega), s_1 L, s_161 L, true_and]
  rw [h1]
  simp only [am_psh, r185_720, r185_721, r185_722, r185_723, r185_724, r185_725, r185_726, r185_727, r185_728, r185_729, r185_730, r185_731, la i, lx hi hL 1 (by omega), lx hi hL 2 (by omega), lx hi hL 3 (by omega), lc hi hL 1 (by omega), lc hi hL 2 (by omega), lc hi hL 3 (by omega), s_1 L, s_161 L, true_and, e1]
  rw [h2]
  simp only [am_psh, r185_734, r185_737, r185_738, r185_1073, r185_1076, la i, am_clr, if_true]
theorem law_c25 (hi : i + 4 ≤ L) (hL : L ≤ 2048) (hI : Inv I J) (hOK : am_OK L Inv 83 163 [.int (I 0 (i + 1))]) : ∃ I2 J2, Inv I2 J2 ∧ I2 0 = I 0 ∧ am_T 40 185 739 [some (.ref 0), some (.ref 1), some (.ref 161), some (.int (nI i))] [] (cS L) I J Q = am_T 40 185 18 [some (.ref 0), some (.ref 1), some (.ref 161), some (.int (nI (i + 4)))] [] (cS L) I2 J2 Q := by
  obtain ⟨r, I1, J1, I2, J2, h1, e1, h2, e2, h3, x, rfl⟩ := hOK I J hI
  refine ⟨I2, J2, h3, e2, ?_⟩
  simp only [r185_739, r185_740, r185_741, r185_742, r185_743, r185_744, r185_745, la i, lx hi hL 1 (by omega), lx hi hL 2 (by omega), lx hi hL 3 (by omega), lc hi hL 1 (by omega), lc hi hL 2 (by omega), lc hi hL 3 (by omega), s_1 L, s_161 L, true_and]
  rw [h1]
  simp only [am_psh, r185_748, r185_749, r185_750, r185_751, r185_752, r185_753, r185_754, la i, lx hi hL 1 (by omega), lx hi hL 2 (by omega), lx hi hL 3 (by omega), lc hi hL 1 (by omega), lc hi hL 2 (by omega), lc hi hL 3 (by omega), s_1 L, s_161 L, true_and, e1]
  rw [h2]
  simp only [am_psh, r185_757, r185_760, r185_761, r185_1073, r185_1076, la i, am_clr, if_true]
theorem law_c26 (hi : i + 4 ≤ L) (hL : L ≤ 2048) (hI : Inv I J) (hOK : am_OK L Inv 84 166 [.int (I 0 (i + 1))]) : ∃ I2 J2, Inv I2 J2 ∧ I2 0 = I 0 ∧ am_T 40 185 762 [some (.ref 0), some (.ref 1), some (.ref 161), some (.int (nI i))] [] (cS L) I J Q = am_T 40 185 18 [some (.ref 0), some (.ref 1), some (.ref 161), some (.int (nI (i + 4)))] [] (cS L) I2 J2 Q := by
  obtain ⟨r, I1, J1, I2, J2, h1, e1, h2, e2, h3, x, rfl⟩ := hOK I J hI
  refine ⟨I2, J2, h3, e2, ?_⟩
  simp only [r185_762, r185_763, r185_764, r185_765, r185_766, r185_767, r185_768, la i, lx hi hL 1 (by omega), lx hi hL 2 (by omega), lx hi hL 3 (by omega), lc hi hL 1 (by omega), lc hi hL 2 (by omega), lc hi hL 3 (by omega), s_1 L, s_161 L, true_and]
  rw [h1]
  simp only [am_psh, r185_771, r185_772, r185_773, r185_774, r185_775, r185_776, r185_777, la i, lx hi hL 1 (by omega), lx hi hL 2 (by omega), lx hi hL 3 (by omega), lc hi hL 1 (by omega), lc hi hL 2 (by omega), lc hi hL 3 (by omega), s_1 L, s_161 L, true_and, e1]
  rw [h2]
  simp only [am_psh, r185_780, r185_783, r185_784, r185_1073, r185_1076, la i, am_clr, if_true]
theorem law_c27 (hi : i + 4 ≤ L) (hL : L ≤ 2048) (hI : Inv I J) (hOK : am_OK L Inv 85 167 [.int (I 0 (i + 1))]) : ∃ I2 J2, Inv I2 J2 ∧ I2 0 = I 0 ∧ am_T 40 185 785 [some (.ref 0), some (.ref 1), some (.ref 161), some (.int (nI i))] [] (cS L) I J Q = am_T 40 185 18 [some (.ref 0), some (.ref 1), some (.ref 161), some (.int (nI (i + 4)))] [] (cS L) I2 J2 Q := by
  obtain ⟨r, I1, J1, I2, J2, h1, e1, h2, e2, h3, x, rfl⟩ := hOK I J hI
  refine ⟨I2, J2, h3, e2, ?_⟩
  simp only [r185_785, r185_786, r185_787, r185_788, r185_789, r185_790, r185_791, la i, lx hi hL 1 (by omega), lx hi hL 2 (by omega), lx hi hL 3 (by omega), lc hi hL 1 (by omega), lc hi hL 2 (by omega), lc hi hL 3 (by omega), s_1 L, s_161 L, true_and]
  rw [h1]
  simp only [am_psh, r185_794, r185_795, r185_796, r185_797, r185_798, r185_799, r185_800, la i, lx hi hL 1 (by omega), lx hi hL 2 (by omega), lx hi hL 3 (by omega), lc hi hL 1 (by omega), lc hi hL 2 (by omega), lc hi hL 3 (by omega), s_1 L, s_161 L, true_and, e1]
  rw [h2]
  simp only [am_psh, r185_803, r185_806, r185_807, r185_1073, r185_1076, la i, am_clr, if_true]
theorem law_c28 (hi : i + 4 ≤ L) (hL : L ≤ 2048) (hI : Inv I J) (hOK : am_OK L Inv 86 168 [.int (I 0 (i + 1))]) : ∃ I2 J2, Inv I2 J2 ∧ I2 0 = I 0 ∧ am_T 40 185 808 [some (.ref 0), some (.ref 1), some (.ref 161), some (.int (nI i))] [] (cS L) I J Q = am_T 40 185 18 [some (.ref 0), some (.ref 1), some (.ref 161), some (.int (nI (i + 4)))] [] (cS L) I2 J2 Q := by
  obtain ⟨r, I1, J1, I2, J2, h1, e1, h2, e2, h3, x, rfl⟩ := hOK I J hI
  refine ⟨I2, J2, h3, e2, ?_⟩
  simp only [r185_808, r185_809, r185_810, r185_811, r185_812, r185_813, r185_814, la i, lx hi hL 1 (by omega), lx hi hL 2 (by omega), lx hi hL 3 (by omega), lc hi hL 1 (by omega), lc hi hL 2 (by omega), lc hi hL 3 (by omega), s_1 L, s_161 L, true_and]
  rw [h1]
  simp only [am_psh, r185_817, r185_818, r185_819, r185_820, r185_821, r185_822, r185_823, la i, lx hi hL 1 (by omega), lx hi hL 2 (by omega), lx hi hL 3 (by omega), lc hi hL 1 (by omega), lc hi hL 2 (by omega), lc hi hL 3 (by omega), s_1 L, s_161 L, true_and, e1]
  rw [h2]
  simp only [am_psh, r185_826, r185_829, r185_830, r185_1073, r185_1076, la i, am_clr, if_true]
theorem law_c29 (hi : i + 4 ≤ L) (hL : L ≤ 2048) (hI : Inv I J) (hOK : am_OK L Inv 87 169 [.int (I 0 (i + 1))]) : ∃ I2 J2, Inv I2 J2 ∧ I2 0 = I 0 ∧ am_T 40 185 831 [some (.ref 0), some (.ref 1), some (.ref 161), some (.int (nI i))] [] (cS L) I J Q = am_T 40 185 18 [some (.ref 0), some (.ref 1), some (.ref 161), some (.int (nI (i + 4)))] [] (cS L) I2 J2 Q := by
  obtain ⟨r, I1, J1, I2, J2, h1, e1, h2, e2, h3, x, rfl⟩ := hOK I J hI
  refine ⟨I2, J2, h3, e2, ?_⟩
  simp only [r185_831, r185_832, r185_833, r185_834, r185_835, r185_836, r185_837, la i, lx hi hL 1 (by omega), lx hi hL 2 (by omega), lx hi hL 3 (by omega), lc hi hL 1 (by omega), lc hi hL 2 (by omega), lc hi hL 3 (by omega), s_1 L, s_161 L, true_and]
  rw [h1]
  simp only [am_psh, r185_840, r185_841, r185_842, r185_843, r185_844, r185_845, r185_846, la i, lx hi hL 1 (by omega), lx hi hL 2 (by omega), lx hi hL 3 (by omega), lc hi hL 1 (by omega), lc hi hL 2 (by omega), lc hi hL 3 (by omega), s_1 L, s_161 L, true_and, e1]
  rw [h2]
  simp only [am_psh, r185_849, r185_852, r185_853, r185_1073, r185_1076, la i, am_clr, if_true]
theorem law_c30 (hi : i + 4 ≤ L) (hL : L ≤ 2048) (hI : Inv I J) (hOK : am_OK L Inv 88 170 [.int (I 0 (i + 1))]) : ∃ I2 J2, Inv I2 J2 ∧ I2 0 = I 0 ∧ am_T 40 185 854 [some (.ref 0), some (.ref 1), some (.ref 161), some (.int (nI i))] [] (cS L) I J Q = am_T 40 185 18 [some (.ref 0), some (.ref 1), some (.ref 161), some (.int (nI (i + 4)))] [] (cS L) I2 J2 Q := by
  obtain ⟨r, I1, J1, I2, J2, h1, e1, h2, e2, h3, x, rfl⟩ := hOK I J hI
  refine ⟨I2, J2, h3, e2, ?_⟩
  simp only [r185_854, r185_855, r185_856, r185_857, r185_858, r185_859, r185_860, la i, lx hi hL 1 (by omega), lx hi hL 2 (by omega), lx hi hL 3 (by omega), lc hi hL 1 (by omega), lc hi hL 2 (by omega), lc hi hL 3 (by omega), s_1 L, s_161 L, true_and]
  rw [h1]
  simp only [am_psh, r185_863, r185_864, r185_865, r185_866, r185_867, r185_868, r185_869, la i, lx hi hL 1 (by omega), lx hi hL 2 (by omega), lx hi hL 3 (by omega), lc hi hL 1 (by omega), lc hi hL 2 (by omega), lc hi hL 3 (by omega), s_1 L, s_161 L, true_and, e1]
  rw [h2]
  simp only [am_psh, r185_872, r185_875, r185_876, r185_1073, r185_1076, la i, am_clr, if_true]
theorem law_c31 (hi : i + 4 ≤ L) (hL : L ≤ 2048) (hI : Inv I J) (hOK : am_OK L Inv 89 176 []) : ∃ I2 J2, Inv I2 J2 ∧ I2 0 = I 0 ∧ am_T 40 185 877 [some (.ref 0), some (.ref 1), some (.ref 161), some (.int (nI i))] [] (cS L) I J Q = am_T 40 185 18 [some (.ref 0), some (.ref 1), some (.ref 161), some (.int (nI (i + 4)))] [] (cS L) I2 J2 Q := by
  obtain ⟨r, I1, J1, I2, J2, h1, e1, h2, e2, h3, x, rfl⟩ := hOK I J hI
  refine ⟨I2, J2, h3, e2, ?_⟩
  simp only [r185_877, r185_878, la i, lx hi hL 1 (by omega), lx hi hL 2 (by omega), lx hi hL 3 (by omega), lc hi hL 1 (by omega), lc hi hL 2 (by omega), lc hi hL 3 (by omega), s_1 L, s_161 L, true_and]
  rw [h1]
  simp only [am_psh, r185_881, r185_882, la i, lx hi hL 1 (by omega), lx hi hL 2 (by omega), lx hi hL 3 (by omega), lc hi hL 1 (by omega), lc hi hL 2 (by omega), lc hi hL 3 (by omega), s_1 L, s_161 L, true_and, e1]
  rw [h2]
  simp only [am_psh, r185_885, r185_888, r185_889, r185_1073, r185_1076, la i, am_clr, if_true]
theorem law_c32 (hi : i + 4 ≤ L) (hL : L ≤ 2048) (hI : Inv I J) (hOK : am_OK L Inv 90 177 [.int (I 0 (i + 1))]) : ∃ I2 J2, Inv I2 J2 ∧ I2 0 = I 0 ∧ am_T 40 185 890 [some (.ref 0), some (.ref 1), some (.ref 161), some (.int (nI i))] [] (cS L) I J Q = am_T 40 185 18 [some (.ref 0), some (.ref 1), some (.ref 161), some (.int (nI (i + 4)))] [] (cS L) I2 J2 Q := by
  obtain ⟨r, I1, J1, I2, J2, h1, e1, h2, e2, h3, x, rfl⟩ := hOK I J hI
  refine ⟨I2, J2, h3, e2, ?_⟩
  simp only [r185_890, r185_891, r185_892, r185_893, r185_894, r185_895, r185_896, la i, lx hi hL 1 (by omega), lx hi hL 2 (by omega), lx hi hL 3 (by omega), lc hi hL 1 (by omega), lc hi hL 2 (by omega), lc hi hL 3 (by omega), s_1 L, s_161 L, true_and]
  rw [h1]
  simp only [am_psh, r185_899, r185_900, r185_901, r185_902, r185_903, r185_904, r185_905, la i, lx hi hL 1 (by omega), lx hi hL 2 (by omega), lx hi hL 3 (by omega), lc hi hL 1 (by omega), lc hi hL 2 (by omega), lc hi hL 3 (by omega), s_1 L, s_161 L, true_and, e1]
  rw [h2]
  simp only [am_psh, r185_908, r185_911, r185_912, r185_1073, r185_1076, la i, am_clr, if_true]
theorem law_c33 (hi : i + 4 ≤ L) (hL : L ≤ 2048) (hI : Inv I J) (hOK : am_OK L Inv 91 179 [.int (I 0 (i + 1)), .int (I 0 (i + 2))]) : ∃ I2 J2, Inv I2 J2 ∧ I2 0 = I 0 ∧ am_T 40 185 913 [some (.ref 0), some (.ref 1), some (.ref 161), some (.int (nI i))] [] (cS L) I J Q = am_T 40 185 18 [some (.ref 0), some (.ref 1), some (.ref 161), some (.int (nI (i + 4)))] [] (cS L) I2 J2 Q := by
  obtain ⟨r, I1, J1, I2, J2, h1, e1, h2, e2, h3, x, rfl⟩ := hOK I J hI
  refine ⟨I2, J2, h3, e2, ?_⟩
  simp only [r185_913, r185_914, r185_915, r185_916, r185_917, r185_918, r185_919, r185_920, r185_921, r185_922, r185_923, r185_924, la i, lx hi hL 1 (by omega), lx hi hL 2 (by omega), lx hi hL 3 (by omega), lc hi hL 1 (by omega), lc hi hL 2 (by omega), lc hi hL 3 (by omega), s_1 L, s_161 L, true_and]
  rw [h1]
  simp only [am_psh, r185_927, r185_928, r185_929, r185_930, r185_931, r185_932, r185_933, r185_934, r185_935, r185_936, r185_937, r185_938, la i, lx hi hL 1 (by omega), lx hi hL 2 (by omega), lx hi hL 3 (by omega), lc hi hL 1 (by omega), lc hi hL 2 (by omega), lc hi hL 3 (by omega), s_1 L, s_161 L, true_and, e1]
  rw [h2]
  simp only [am_psh, r185_941, r185_944, r185_945, r185_1073, r185_1076, la i, am_clr, if_true]
theorem law_c34 (hi : i + 4 ≤ L) (hL : L ≤ 2048) (hI : Inv I J) (hOK : am_OK L Inv 92 180 [.int (I 0 (i + 1)), .int (I 0 (i + 2)), .int (I 0 (i + 3))]) : ∃ I2 J2, Inv I2 J2 ∧ I2 0 = I 0 ∧ am_T 40 185 946 [some (.ref 0), some (.ref 1), some (.ref 161), some (.int (nI i))] [] (cS L) I J Q = am_T 40 185 18 [some (.ref 0), some (.ref 1), some (.ref 161), some (.int (nI (i + 4)))] [] (cS L) I2 J2 Q := by
  obtain ⟨r, I1, J1, I2, J2, h1, e1, h2, e2, h3, x, rfl⟩ := hOK I J hI
  refine ⟨I2, J2, h3, e2, ?_⟩
  simp only [r185_946, r185_947, r185_948, r185_949, r185_950, r185_951, r185_952, r185_953, r185_954, r185_955, r185_956, r185_957, r185_958, r185_959, r185_960, r185_961, r185_962, la i, lx hi hL 1 (by omega), lx hi hL 2 (by omega), lx hi hL 3 (by omega), lc hi hL 1 (by omega), lc hi hL 2 (by omega), lc hi hL 3 (by omega), s_1 L, s_161 L, true_and]
  rw [h1]
  simp only [am_psh, r185_965, r185_966, r185_967, r185_968, r185_969, r185_970, r185_971, r185_972, r185_973, r185_974, r185_975, r185_976, r185_977, r185_978, r185_979, r185_980, r185_981, la i, lx hi hL 1 (by omega), lx hi hL 2 (by omega), lx hi hL 3 (by omega), lc hi hL 1 (by omega), lc hi hL 2 (by omega), lc hi hL 3 (by omega), s_1 L, s_161 L, true_and, e1]
  rw [h2]
  simp only [am_psh, r185_984, r185_987, r185_988, r185_1073, r185_1076, la i, am_clr, if_true]
theorem law_c35 (hi : i + 4 ≤ L) (hL : L ≤ 2048) (hI : Inv I J) (hOK : am_OKl L Inv 93 181 []) : ∃ I2 J2, Inv I2 J2 ∧ I2 0 = I 0 ∧ am_T 40 185 989 [some (.ref 0), some (.ref 1), some (.ref 161), some (.int (nI i))] [] (cS L) I J Q = am_T 40 185 18 [some (.ref 0), some (.ref 1), some (.ref 161), some (.int (nI (i + 4)))] [] (cS L) I2 J2 Q := by
  obtain ⟨u, I1, J1, I2, J2, h1, e1, h2, e2, h3⟩ := hOK I J hI
  refine ⟨I2, J2, h3, e2, ?_⟩
  simp only [r185_989, r185_990, la i, lx hi hL 1 (by omega), lx hi hL 2 (by omega), lx hi hL 3 (by omega), lc hi hL 1 (by omega), lc hi hL 2 (by omega), lc hi hL 3 (by omega), s_1 L, s_161 L, true_and]
  rw [h1]
  simp only [am_psh, r185_993, r185_994, la i, lx hi hL 1 (by omega), lx hi hL 2 (by omega), lx hi hL 3 (by omega), lc hi hL 1 (by omega), lc hi hL 2 (by omega), lc hi hL 3 (by omega), s_1 L, s_161 L, true_and, e1]
  rw [h2]
  simp only [am_psh, r185_997, r185_998, r185_1001, r185_1002, r185_1073, r185_1076, la i, am_clr]
  rw [if_pos (show lg_cmp u u = 0 by unfold lg_cmp; simp)]
theorem law_c36 (hi : i + 4 ≤ L) (hL : L ≤ 2048) (hI : Inv I J) (hOK : am_OKl L Inv 94 182 [.int (I 0 (i + 1))]) : ∃ I2 J2, Inv I2 J2 ∧ I2 0 = I 0 ∧ am_T 40 185 1003 [some (.ref 0), some (.ref 1), some (.ref 161), some (.int (nI i))] [] (cS L) I J Q = am_T 40 185 18 [some (.ref 0), some (.ref 1), some (.ref 161), some (.int (nI (i + 4)))] [] (cS L) I2 J2 Q := by
  obtain ⟨u, I1, J1, I2, J2, h1, e1, h2, e2, h3⟩ := hOK I J hI
  refine ⟨I2, J2, h3, e2, ?_⟩
  simp only [r185_1003, r185_1004, r185_1005, r185_1006, r185_1007, r185_1008, r185_1009, la i, lx hi hL 1 (by omega), lx hi hL 2 (by omega), lx hi hL 3 (by omega), lc hi hL 1 (by omega), lc hi hL 2 (by omega), lc hi hL 3 (by omega), s_1 L, s_161 L, true_and]
  rw [h1]
  simp only [am_psh, r185_1012, r185_1013, r185_1014, r185_1015, r185_1016, r185_1017, r185_1018, la i, lx hi hL 1 (by omega), lx hi hL 2 (by omega), lx hi hL 3 (by omega), lc hi hL 1 (by omega), lc hi hL 2 (by omega), lc hi hL 3 (by omega), s_1 L, s_161 L, true_and, e1]
  rw [h2]
  simp only [am_psh, r185_1021, r185_1022, r185_1025, r185_1026, r185_1073, r185_1076, la i, am_clr]
  rw [if_pos (show lg_cmp u u = 0 by unfold lg_cmp; simp)]
theorem law_c37 (hi : i + 4 ≤ L) (hL : L ≤ 2048) (hI : Inv I J) (hOK : am_OK L Inv 95 183 [.int (I 0 (i + 1))]) : ∃ I2 J2, Inv I2 J2 ∧ I2 0 = I 0 ∧ am_T 40 185 1027 [some (.ref 0), some (.ref 1), some (.ref 161), some (.int (nI i))] [] (cS L) I J Q = am_T 40 185 18 [some (.ref 0), some (.ref 1), some (.ref 161), some (.int (nI (i + 4)))] [] (cS L) I2 J2 Q := by
  obtain ⟨r, I1, J1, I2, J2, h1, e1, h2, e2, h3, x, rfl⟩ := hOK I J hI
  refine ⟨I2, J2, h3, e2, ?_⟩
  simp only [r185_1027, r185_1028, r185_1029, r185_1030, r185_1031, r185_1032, r185_1033, la i, lx hi hL 1 (by omega), lx hi hL 2 (by omega), lx hi hL 3 (by omega), lc hi hL 1 (by omega), lc hi hL 2 (by omega), lc hi hL 3 (by omega), s_1 L, s_161 L, true_and]
  rw [h1]
  simp only [am_psh, r185_1036, r185_1037, r185_1038, r185_1039, r185_1040, r185_1041, r185_1042, la i, lx hi hL 1 (by omega), lx hi hL 2 (by omega), lx hi hL 3 (by omega), lc hi hL 1 (by omega), lc hi hL 2 (by omega), lc hi hL 3 (by omega), s_1 L, s_161 L, true_and, e1]
  rw [h2]
  simp only [am_psh, r185_1045, r185_1048, r185_1049, r185_1073, r185_1076, la i, am_clr, if_true]
theorem law_c38 (hi : i + 4 ≤ L) (hL : L ≤ 2048) (hI : Inv I J) (hOK : am_OK L Inv 96 184 [.int (I 0 (i + 1))]) : ∃ I2 J2, Inv I2 J2 ∧ I2 0 = I 0 ∧ am_T 40 185 1050 [some (.ref 0), some (.ref 1), some (.ref 161), some (.int (nI i))] [] (cS L) I J Q = am_T 40 185 18 [some (.ref 0), some (.ref 1), some (.ref 161), some (.int (nI (i + 4)))] [] (cS L) I2 J2 Q := by
  obtain ⟨r, I1, J1, I2, J2, h1, e1, h2, e2, h3, x, rfl⟩ := hOK I J hI
  refine ⟨I2, J2, h3, e2, ?_⟩
  simp only [r185_1050, r185_1051, r185_1052, r185_1053, r185_1054, r185_1055, r185_1056, la i, lx hi hL 1 (by omega), lx hi hL 2 (by omega), lx hi hL 3 (by omega), lc hi hL 1 (by omega), lc hi hL 2 (by omega), lc hi hL 3 (by omega), s_1 L, s_161 L, true_and]
  rw [h1]
  simp only [am_psh, r185_1059, r185_1060, r185_1061, r185_1062, r185_1063, r185_1064, r185_1065, la i, lx hi hL 1 (by omega), lx hi hL 2 (by omega), lx hi hL 3 (by omega), lc hi hL 1 (by omega), lc hi hL 2 (by omega), lc hi hL 3 (by omega), s_1 L, s_161 L, true_and, e1]
  rw [h2]
  simp only [am_psh, r185_1068, r185_1071, r185_1072, r185_1073, r185_1076, la i, am_clr, if_true]
/-- all operations, one by one -/
def am_All (L : Nat) (Inv : am_I → am_J → Prop) : Prop :=
  (∀ (a1 : Int32) (a2 : Int32), am_OK L Inv 58 118 [.int a1, .int a2]) ∧
  (∀ (a1 : Int32) (a2 : Int32) (a3 : Int32), am_OK L Inv 59 120 [.int a1, .int a2, .int a3]) ∧
  (∀ (a1 : Int32), am_OK L Inv 60 122 [.int a1]) ∧
  (∀ (a1 : Int32) (a2 : Int32), am_OK L Inv 61 123 [.int a1, .int a2]) ∧
  (∀ (a1 : Int32), am_OK L Inv 62 124 [.int a1]) ∧
  (∀ (a1 : Int32) (a2 : Int32), am_OK L Inv 63 125 [.int a1, .int a2]) ∧
  (∀ (a1 : Int32) (a2 : Int32), am_OK L Inv 64 127 [.int a1, .int a2]) ∧
  (∀ (_ : Int32), am_OK L Inv 65 128 []) ∧
  (∀ (_ : Int32), am_OK L Inv 66 129 []) ∧
  (∀ (_ : Int32), am_OK L Inv 67 130 []) ∧
  (∀ (a1 : Int32) (a2 : Int32), am_OK L Inv 68 131 [.int a1, .int a2]) ∧
  (∀ (a1 : Int32), am_OK L Inv 69 132 [.int a1]) ∧
  (∀ (_ : Int32), am_OK L Inv 70 133 []) ∧
  (∀ (a1 : Int32), am_OK L Inv 71 134 [.int a1]) ∧
  (∀ (_ : Int32), am_OK L Inv 72 135 []) ∧
  (∀ (_ : Int32), am_OK L Inv 73 139 []) ∧
  (∀ (_ : Int32), am_OK L Inv 74 140 []) ∧
  (∀ (_ : Int32), am_OK L Inv 75 154 []) ∧
  (∀ (_ : Int32), am_OK L Inv 76 155 []) ∧
  (∀ (_ : Int32), am_OK L Inv 77 156 []) ∧
  (∀ (_ : Int32), am_OK L Inv 78 158 []) ∧
  (∀ (a1 : Int32), am_OK L Inv 79 159 [.int a1]) ∧
  (∀ (a1 : Int32), am_OK L Inv 80 160 [.int a1]) ∧
  (∀ (_ : Int32), am_OK L Inv 81 161 []) ∧
  (∀ (a1 : Int32) (a2 : Int32), am_OK L Inv 82 162 [.int a1, .int a2]) ∧
  (∀ (a1 : Int32), am_OK L Inv 83 163 [.int a1]) ∧
  (∀ (a1 : Int32), am_OK L Inv 84 166 [.int a1]) ∧
  (∀ (a1 : Int32), am_OK L Inv 85 167 [.int a1]) ∧
  (∀ (a1 : Int32), am_OK L Inv 86 168 [.int a1]) ∧
  (∀ (a1 : Int32), am_OK L Inv 87 169 [.int a1]) ∧
  (∀ (a1 : Int32), am_OK L Inv 88 170 [.int a1]) ∧
  (∀ (_ : Int32), am_OK L Inv 89 176 []) ∧
  (∀ (a1 : Int32), am_OK L Inv 90 177 [.int a1]) ∧
  (∀ (a1 : Int32) (a2 : Int32), am_OK L Inv 91 179 [.int a1, .int a2]) ∧
  (∀ (a1 : Int32) (a2 : Int32) (a3 : Int32), am_OK L Inv 92 180 [.int a1, .int a2, .int a3]) ∧
  (∀ (_ : Int32), am_OKl L Inv 93 181 []) ∧
  (∀ (a1 : Int32), am_OKl L Inv 94 182 [.int a1]) ∧
  (∀ (a1 : Int32), am_OK L Inv 95 183 [.int a1]) ∧
  (∀ (a1 : Int32), am_OK L Inv 96 184 [.int a1])
theorem law_sw {k : Nat} {ls : am_L} (hi : i + 4 ≤ L) (hL : L ≤ 2048) (hI : Inv I J) (hAll : am_All L Inv) (hk : k < 64) : ∃ I2 J2, Inv I2 J2 ∧ I2 0 = I 0 ∧ am_T 40 185 32 [some (.ref 0), some (.ref 1), some (.ref 161), some (.int (nI i))] [.int (nI k)] (cS L) I J Q = am_T 40 185 18 [some (.ref 0), some (.ref 1), some (.ref 161), some (.int (nI (i + 4)))] [] (cS L) I2 J2 Q := by
  obtain ⟨o0, o1, o2, o3, o4, o5, o6, o7, o8, o9, o10, o11, o12, o13, o14, o15, o16, o17, o18, o19, o20, o21, o22, o23, o24, o25, o26, o27, o28, o29, o30, o31, o32, o33, o34, o35, o36, o37, o38⟩ := hAll
  have hd : decode (am_by 185) 32 = .ok (.tableswitch 1041 0 38 #[172, 205, 248, 271, 304, 327, 360, 393, 406, 419, 432, 465, 488, 501, 524, 537, 550, 563, 576, 589, 602, 615, 638, 661, 674, 707, 730, 753, 776, 799, 822, 845, 858, 881, 914, 957, 971, 995, 1018], 172) := by decide +kernel
  match k, hk with
  | 0, _ =>
    rw [tr_tsw (t := 204) hd (by simp only [am_tsw]; rw [if_neg (by decide)]; rfl)]
    exact law_c0 hi hL hI (o0 _ _)
  | 1, _ =>
    rw [tr_tsw (t := 237) hd (by simp only [am_tsw]; rw [if_neg (by decide)]; rfl)]
    exact law_c1 hi hL hI (o1 _ _ _)
  | 2, _ =>
    rw [tr_tsw (t := 280) hd (by simp only [am_tsw]; rw [if_neg (by decide)]; rfl)]
    exact law_c2 hi hL hI (o2 _)
  | 3, _ =>
    rw [tr_tsw (t := 303) hd (by simp only [am_tsw]; rw [if_neg (by decide)]; rfl)]
    exact law_c3 hi hL hI (o3 _ _)
  | 4, _ =>
    rw [tr_tsw (t := 336) hd (by simp only [am_tsw]; rw [if_neg (by decide)]; rfl)]
    exact law_c4 hi hL hI (o4 _)
  | 5, _ =>
    rw [tr_tsw (t := 359) hd (by simp only [am_tsw]; rw [if_neg (by decide)]; rfl)]
    exact law_c5 hi hL hI (o5 _ _)
  | 6, _ =>
    rw [tr_tsw (t := 392) hd (by simp only [am_tsw]; rw [if_neg (by decide)]; rfl)]
    exact law_c6 hi hL hI (o6 _ _)
  | 7, _ =>
    rw [tr_tsw (t := 425) hd (by simp only [am_tsw]; rw [if_neg (by decide)]; rfl)]
    exact law_c7 hi hL hI (o7 0)
  | 8, _ =>
    rw [tr_tsw (t := 438) hd (by simp only [am_tsw]; rw [if_neg (by decide)]; rfl)]
    exact law_c8 hi hL hI (o8 0)
  | 9, _ =>
    rw [tr_tsw (t := 451) hd (by simp only [am_tsw]; rw [if_neg (by decide)]; rfl)]
    exact law_c9 hi hL hI (o9 0)
  | 10, _ =>
    rw [tr_tsw (t := 464) hd (by simp only [am_tsw]; rw [if_neg (by decide)]; rfl)]
    exact law_c10 hi hL hI (o10 _ _)
  | 11, _ =>
    rw [tr_tsw (t := 497) hd (by simp only [am_tsw]; rw [if_neg (by decide)]; rfl)]
    exact law_c11 hi hL hI (o11 _)
  | 12, _ =>
    rw [tr_tsw (t := 520) hd (by simp only [am_tsw]; rw [if_neg (by decide)]; rfl)]
    exact law_c12 hi hL hI (o12 0)
  | 13, _ =>
    rw [tr_tsw (t := 533) hd (by simp only [am_tsw]; rw [if_neg (by decide)]; rfl)]
    exact law_c13 hi hL hI (o13 _)
  | 14, _ =>
    rw [tr_tsw (t := 556) hd (by simp only [am_tsw]; rw [if_neg (by decide)]; rfl)]
    exact law_c14 hi hL hI (o14 0)
  | 15, _ =>
    rw [tr_tsw (t := 569) hd (by simp only [am_tsw]; rw [if_neg (by decide)]; rfl)]
    exact law_c15 hi hL hI (o15 0)
  | 16, _ =>
    rw [tr_tsw (t := 582) hd (by simp only [am_tsw]; rw [if_neg (by decide)]; rfl)]
    exact law_c16 hi hL hI (o16 0)
  | 17, _ =>
    rw [tr_tsw (t := 595) hd (by simp only [am_tsw]; rw [if_neg (by decide)]; rfl)]
    exact law_c17 hi hL hI (o17 0)
  | 18, _ =>
    rw [tr_tsw (t := 608) hd (by simp only [am_tsw]; rw [if_neg (by decide)]; rfl)]
    exact law_c18 hi hL hI (o18 0)
  | 19, _ =>
    rw [tr_tsw (t := 621) hd (by simp only [am_tsw]; rw [if_neg (by decide)]; rfl)]
    exact law_c19 hi hL hI (o19 0)
  | 20, _ =>
    rw [tr_tsw (t := 634) hd (by simp only [am_tsw]; rw [if_neg (by decide)]; rfl)]
    exact law_c20 hi hL hI (o20 0)
  | 21, _ =>
    rw [tr_tsw (t := 647) hd (by simp only [am_tsw]; rw [if_neg (by decide)]; rfl)]
    exact law_c21 hi hL hI (o21 _)
  | 22, _ =>
    rw [tr_tsw (t := 670) hd (by simp only [am_tsw]; rw [if_neg (by decide)]; rfl)]
    exact law_c22 hi hL hI (o22 _)
  | 23, _ =>
    rw [tr_tsw (t := 693) hd (by simp only [am_tsw]; rw [if_neg (by decide)]; rfl)]
    exact law_c23 hi hL hI (o23 0)
  | 24, _ =>
    rw [tr_tsw (t := 706) hd (by simp only [am_tsw]; rw [if_neg (by decide)]; rfl)]
    exact law_c24 hi hL hI (o24 _ _)
  | 25, _ =>
    rw [tr_tsw (t := 739) hd (by simp only [am_tsw]; rw [if_neg (by decide)]; rfl)]
    exact law_c25 hi hL hI (o25 _)
  | 26, _ =>
    rw [tr_tsw (t := 762) hd (by simp only [am_tsw]; rw [if_neg (by decide)]; rfl)]
    exact law_c26 hi hL hI (o26 _)
  | 27, _ =>
    rw [tr_tsw (t := 785) hd (by simp only [am_tsw]; rw [if_neg (by decide)]; rfl)]
    exact law_c27 hi hL hI (o27 _)
  | 28, _ =>
    rw [tr_tsw (t := 808) hd (by simp only [am_tsw]; rw [if_neg (by decide)]; rfl)]
    exact law_c28 hi hL hI (o28 _)
  | 29, _ =>
    rw [tr_tsw (t := 831) hd (by simp only [am_tsw]; rw [if_neg (by decide)]; rfl)]
    exact law_c29 hi hL hI (o29 _)
  | 30, _ =>
    rw [tr_tsw (t := 854) hd (by simp only [am_tsw]; rw [if_neg (by decide)]; rfl)]
    exact law_c30 hi hL hI (o30 _)
  | 31, _ =>
    rw [tr_tsw (t := 877) hd (by simp only [am_tsw]; rw [if_neg (by decide)]; rfl)]
    exact law_c31 hi hL hI (o31 0)
  | 32, _ =>
    rw [tr_tsw (t := 890) hd (by simp only [am_tsw]; rw [if_neg (by decide)]; rfl)]
    exact law_c32 hi hL hI (o32 _)
  | 33, _ =>
    rw [tr_tsw (t := 913) hd (by simp only [am_tsw]; rw [if_neg (by decide)]; rfl)]
    exact law_c33 hi hL hI (o33 _ _)
  | 34, _ =>
    rw [tr_tsw (t := 946) hd (by simp only [am_tsw]; rw [if_neg (by decide)]; rfl)]
    exact law_c34 hi hL hI (o34 _ _ _)
  | 35, _ =>
    rw [tr_tsw (t := 989) hd (by simp only [am_tsw]; rw [if_neg (by decide)]; rfl)]
    exact law_c35 hi hL hI (o35 0)
  | 36, _ =>
    rw [tr_tsw (t := 1003) hd (by simp only [am_tsw]; rw [if_neg (by decide)]; rfl)]
    exact law_c36 hi hL hI (o36 _)
  | 37, _ =>
    rw [tr_tsw (t := 1027) hd (by simp only [am_tsw]; rw [if_neg (by decide)]; rfl)]
    exact law_c37 hi hL hI (o37 _)
  | 38, _ =>
    rw [tr_tsw (t := 1050) hd (by simp only [am_tsw]; rw [if_neg (by decide)]; rfl)]
    exact law_c38 hi hL hI (o38 _)
  | k + 39, hk =>
    refine ⟨I, J, hI, rfl, ?_⟩
    rw [tr_tsw (t := 1073) hd (by
      have e : (nI (k + 39)).toInt = ((k + 39 : Nat) : Int) := n_ti (by omega)
      simp only [am_tsw]
      rw [if_pos (Or.inr (by rw [e]; omega))]
      rfl)]
    simp only [r185_1073, r185_1076, la i, am_clr]
theorem law_loop (hL : L ≤ 2048) (hAll : am_All L Inv) (hQ : ∀ I J, Q (some (.int 1)) (cS L) I J) : ∀ (n i : Nat) (I : am_I) (J : am_J), Inv I J → L < i + 4 * n + 4 → i < 9000 - 4 * n → am_T 40 185 18 [some (.ref 0), some (.ref 1), some (.ref 161), some (.int (nI i))] [] (cS L) I J Q := by
  have hc : ∀ i : Nat, i < 10000 → ((Int32.ofNat L - 4 < nI i) ↔ L < i + 4) := by
    intro i hi
    have e : (Int32.ofNat L - 4).toInt = (L : Int) - 4 := pk_sub_toInt (a := L) (b := 4) (by omega) (by omega)
    rw [Int32.lt_iff_toInt_lt, e, n_ti (by omega)]
    omega
  have hend : ∀ (i : Nat) (I : am_I) (J : am_J), am_T 40 185 1079 [some (.ref 0), some (.ref 1), some (.ref 161), some (.int (nI i))] [] (cS L) I J Q := by
    intro i I J
    simp only [r185_1079, r185_1080]
    exact ⟨Or.inr trivial, hQ I J⟩
  intro n
  induction n with
  | zero =>
    intro i I J hI hi hib
    simp only [r185_18, r185_19, r185_20, r185_21, r185_22, r185_23, r185_26, r185_27, r185_28, r185_29, r185_31, k_0, n_0, true_and]
    rw [if_pos ((hc i (by omega)).mpr (by omega))]
    exact hend i I J
  | succ n ih =>
    intro i I J hI hi hib
    simp only [r185_18, r185_19, r185_20, r185_21, r185_22, r185_23, r185_26, r185_27, r185_28, r185_29, r185_31, k_0, n_0, true_and]
    by_cases g : L < i + 4
    · rw [if_pos ((hc i (by omega)).mpr g)]
      exact hend i I J
    · rw [if_neg (fun q => g ((hc i (by omega)).mp q))]
      have e0 : (nI i).toNatClampNeg = i := n_cl (by omega)
      refine ⟨ix_nI (k_0 L) (n_0 L) (by omega) (by omega), ?_⟩
      rw [e0]
      obtain ⟨k, hk, ek⟩ := pk_andE (I 0 i) (m := 63) 6 (by decide)
      rw [ek]
      obtain ⟨I2, J2, h1, h2, h3⟩ := law_sw (Q := Q) (J := J) (I := I) (i := i) (ls := []) (by omega) hL hI hAll hk
      rw [h3]
      exact ih (i + 4) I2 J2 h1 (by omega) (by omega)
/-- the law on the small machine, out of an invariant that all operations keep -/
theorem am_law_of (hInv : ∀ (L : Nat), L ≤ 2048 → ∃ Inv : am_I → am_J → Prop, am_All L Inv ∧ ∀ xs, Inv (cI xs) am_J0) : am_LawOK := by
  intro L xs hL
  obtain ⟨Inv, hAll, h0⟩ := hInv L hL
  rw [show (40 : Nat) = 36 + 4 from rfl, law_0]
  refine law_loop (n := 512) (i := 0) hL hAll (fun I J => ⟨rfl, ?_, ?_⟩) (cI xs) am_J0 (h0 xs) (by omega) (by omega)
  · rw [cS_len]; omega
  · show am_nS (cS L) ≤ 100000
    have e : am_nS (cS L) = L + am_nS (cS 0) := by
      unfold am_nS
      show (L :: _).sum = L + (0 :: _).sum
      simp only [List.sum_cons]
      omega
    rw [e]
    have : am_nS (cS 0) = 5055 := by decide +kernel
    omega
end LL
