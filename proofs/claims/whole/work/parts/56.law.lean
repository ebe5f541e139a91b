/-! The law's loop. -/
theorem sm_obj {xs : List Int32} {h : ox_H} (hS : Sm xs h) : (ox_obj h 4 2).isSome = true := by
  obtain ⟨h0, X, c, A, H, I, K, T, U, Y, hC, hM, hR⟩ := hS
  rw [(CS_facts hC).1]
  rfl
theorem xs_at {xs : List Int32} {i : Int} (i0 : 0 ≤ i) (i1 : i < xs.length) (i2 : i < 2147483648) : ∃ x, ox_at xs (iI i) = some x := by
  rw [ox_at_i i0 i2]
  exact ⟨_, List.getElem?_eq_getElem (by omega)⟩
theorem and31 (x : Int32) : ∃ k : Int, 0 ≤ k ∧ k < 32 ∧ x &&& iI 31 = iI k := by
  have hb : (x &&& iI 31).toBitVec.toNat ≤ 31 := by
    rw [Int32.toBitVec_and, BitVec.toNat_and]
    exact Nat.le_trans Nat.and_le_right (by decide)
  have he : (x &&& iI 31).toInt = ((x &&& iI 31).toBitVec.toNat : Int) := by
    show (x &&& iI 31).toBitVec.toInt = _
    exact BitVec.toInt_eq_toNat_of_lt (by omega)
  exact ⟨(x &&& iI 31).toInt, by omega, by omega, iI_of _⟩
theorem lw_add {xs : List Int32} {h : ox_H} (hx : xs.length ≤ 2048) (hS : Sm xs h) {i : Int} (i0 : 0 ≤ i) (i1 : i + 3 < xs.length) : ∃ h2, Sm xs h2 ∧ oe 154 160 [.ref 0, .ref 4, .ref 133, .int (iI i)] [] h = oe 154 954 [.ref 0, .ref 4, .ref 133, .int (iI i)] [] h2 := by
  have q0 : ox_ints h 0 ox_isI = some xs := ox_ints_of hS.1 rfl
  have o4 := sm_obj hS
  obtain ⟨x1, e1⟩ := xs_at (xs := xs) (i := i + 1) (by omega) (by omega) (by omega)
  obtain ⟨x2, e2⟩ := xs_at (xs := xs) (i := i + 2) (by omega) (by omega) (by omega)
  obtain ⟨x3, e3⟩ := xs_at (xs := xs) (i := i + 3) (by omega) (by omega) (by omega)
  obtain ⟨v, h1, h2, hf, hg, hS2, hob, hsc⟩ := st_add hS x1 x2 x3
  have q1 : ox_ints h1 0 ox_isI = some xs := ox_ints_of hsc rfl
  replace hf : oe 47 0 [.ref 4, .int x1, .int x2, .int x3, .null] [] h = some (some (.int v), h1) := hf
  replace hg : oe 97 0 [.ref 133, .int x1, .int x2, .int x3, .null, .null, .null] [] h1 = some (some (.int v), h2) := hg
  refine ⟨h2, hS2, ?_⟩
  simp (disch := omega) only [eL_law_160, eL_law_161, eL_law_162, eL_law_163, eL_law_164, eL_law_165, eL_law_166, eL_law_167, eL_law_168, eL_law_169, eL_law_170, eL_law_171, eL_law_172, eL_law_173, eL_law_174, eL_law_175, eL_law_176, eL_law_179, eL_law_180, eL_law_181, eL_law_182, eL_law_183, eL_law_184, eL_law_185, eL_law_186, eL_law_187, eL_law_188, eL_law_189, eL_law_190, eL_law_191, eL_law_192, eL_law_193, eL_law_194, eL_law_195, eL_law_198, eL_law_201, eL_law_202, ox_O_s, ox_B_s, ox_g_t, ox_A_s, ox_push_s, ox_push_n, ox_some, ox_z0, ox_z1, iI_lt, iI_eq, iI_add, iI_sub, if_true, if_false, if_pos, if_neg, q0, q1, o4, hob, hf, hg, e1, e2, e3]
theorem lw_remove {xs : List Int32} {h : ox_H} (hx : xs.length ≤ 2048) (hS : Sm xs h) {i : Int} (i0 : 0 ≤ i) (i1 : i + 3 < xs.length) : ∃ h2, Sm xs h2 ∧ oe 154 203 [.ref 0, .ref 4, .ref 133, .int (iI i)] [] h = oe 154 954 [.ref 0, .ref 4, .ref 133, .int (iI i)] [] h2 := by
  have q0 : ox_ints h 0 ox_isI = some xs := ox_ints_of hS.1 rfl
  have o4 := sm_obj hS
  obtain ⟨x1, e1⟩ := xs_at (xs := xs) (i := i + 1) (by omega) (by omega) (by omega)
  obtain ⟨x2, e2⟩ := xs_at (xs := xs) (i := i + 2) (by omega) (by omega) (by omega)
  obtain ⟨v, h1, h2, hf, hg, hS2, hob, hsc⟩ := st_remove hS x1 x2
  have q1 : ox_ints h1 0 ox_isI = some xs := ox_ints_of hsc rfl
  replace hf : oe 48 0 [.ref 4, .int x1, .int x2, .null, .null, .null, .null] [] h = some (some (.int v), h1) := hf
  replace hg : oe 103 0 [.ref 133, .int x1, .int x2, .null, .null] [] h1 = some (some (.int v), h2) := hg
  refine ⟨h2, hS2, ?_⟩
  simp (disch := omega) only [eL_law_203, eL_law_204, eL_law_205, eL_law_206, eL_law_207, eL_law_208, eL_law_209, eL_law_210, eL_law_211, eL_law_212, eL_law_213, eL_law_214, eL_law_217, eL_law_218, eL_law_219, eL_law_220, eL_law_221, eL_law_222, eL_law_223, eL_law_224, eL_law_225, eL_law_226, eL_law_227, eL_law_228, eL_law_231, eL_law_234, eL_law_235, ox_O_s, ox_B_s, ox_g_t, ox_A_s, ox_push_s, ox_push_n, ox_some, ox_z0, ox_z1, iI_lt, iI_eq, iI_add, iI_sub, if_true, if_false, if_pos, if_neg, q0, q1, o4, hob, hf, hg, e1, e2]
theorem lw_promote {xs : List Int32} {h : ox_H} (hx : xs.length ≤ 2048) (hS : Sm xs h) {i : Int} (i0 : 0 ≤ i) (i1 : i + 3 < xs.length) : ∃ h2, Sm xs h2 ∧ oe 154 236 [.ref 0, .ref 4, .ref 133, .int (iI i)] [] h = oe 154 954 [.ref 0, .ref 4, .ref 133, .int (iI i)] [] h2 := by
  have q0 : ox_ints h 0 ox_isI = some xs := ox_ints_of hS.1 rfl
  have o4 := sm_obj hS
  obtain ⟨x1, e1⟩ := xs_at (xs := xs) (i := i + 1) (by omega) (by omega) (by omega)
  obtain ⟨v, h1, h2, hf, hg, hS2, hob, hsc⟩ := st_promote hS x1
  have q1 : ox_ints h1 0 ox_isI = some xs := ox_ints_of hsc rfl
  replace hf : oe 49 0 [.ref 4, .int x1, .null, .null, .null, .null, .null] [] h = some (some (.int v), h1) := hf
  replace hg : oe 104 0 [.ref 133, .int x1, .null, .null, .null] [] h1 = some (some (.int v), h2) := hg
  refine ⟨h2, hS2, ?_⟩
  simp (disch := omega) only [eL_law_236, eL_law_237, eL_law_238, eL_law_239, eL_law_240, eL_law_241, eL_law_242, eL_law_245, eL_law_246, eL_law_247, eL_law_248, eL_law_249, eL_law_250, eL_law_251, eL_law_254, eL_law_257, eL_law_258, ox_O_s, ox_B_s, ox_g_t, ox_A_s, ox_push_s, ox_push_n, ox_some, ox_z0, ox_z1, iI_lt, iI_eq, iI_add, iI_sub, if_true, if_false, if_pos, if_neg, q0, q1, o4, hob, hf, hg, e1]
theorem lw_demote {xs : List Int32} {h : ox_H} (hx : xs.length ≤ 2048) (hS : Sm xs h) {i : Int} (i0 : 0 ≤ i) (i1 : i + 3 < xs.length) : ∃ h2, Sm xs h2 ∧ oe 154 259 [.ref 0, .ref 4, .ref 133, .int (iI i)] [] h = oe 154 954 [.ref 0, .ref 4, .ref 133, .int (iI i)] [] h2 := by
  have q0 : ox_ints h 0 ox_isI = some xs := ox_ints_of hS.1 rfl
  have o4 := sm_obj hS
  obtain ⟨x1, e1⟩ := xs_at (xs := xs) (i := i + 1) (by omega) (by omega) (by omega)
  obtain ⟨v, h1, h2, hf, hg, hS2, hob, hsc⟩ := st_demote hS x1
  have q1 : ox_ints h1 0 ox_isI = some xs := ox_ints_of hsc rfl
  replace hf : oe 50 0 [.ref 4, .int x1, .null, .null, .null, .null] [] h = some (some (.int v), h1) := hf
  replace hg : oe 106 0 [.ref 133, .int x1, .null, .null, .null] [] h1 = some (some (.int v), h2) := hg
  refine ⟨h2, hS2, ?_⟩
  simp (disch := omega) only [eL_law_259, eL_law_260, eL_law_261, eL_law_262, eL_law_263, eL_law_264, eL_law_265, eL_law_268, eL_law_269, eL_law_270, eL_law_271, eL_law_272, eL_law_273, eL_law_274, eL_law_277, eL_law_280, eL_law_281, ox_O_s, ox_B_s, ox_g_t, ox_A_s, ox_push_s, ox_push_n, ox_some, ox_z0, ox_z1, iI_lt, iI_eq, iI_add, iI_sub, if_true, if_false, if_pos, if_neg, q0, q1, o4, hob, hf, hg, e1]
theorem lw_drag {xs : List Int32} {h : ox_H} (hx : xs.length ≤ 2048) (hS : Sm xs h) {i : Int} (i0 : 0 ≤ i) (i1 : i + 3 < xs.length) : ∃ h2, Sm xs h2 ∧ oe 154 282 [.ref 0, .ref 4, .ref 133, .int (iI i)] [] h = oe 154 954 [.ref 0, .ref 4, .ref 133, .int (iI i)] [] h2 := by
  have q0 : ox_ints h 0 ox_isI = some xs := ox_ints_of hS.1 rfl
  have o4 := sm_obj hS
  obtain ⟨x1, e1⟩ := xs_at (xs := xs) (i := i + 1) (by omega) (by omega) (by omega)
  obtain ⟨x2, e2⟩ := xs_at (xs := xs) (i := i + 2) (by omega) (by omega) (by omega)
  obtain ⟨x3, e3⟩ := xs_at (xs := xs) (i := i + 3) (by omega) (by omega) (by omega)
  obtain ⟨v, h1, h2, hf, hg, hS2, hob, hsc⟩ := st_drag hS x1 x2 x3
  have q1 : ox_ints h1 0 ox_isI = some xs := ox_ints_of hsc rfl
  replace hf : oe 51 0 [.ref 4, .int x1, .int x2, .int x3, .null, .null, .null, .null, .null, .null, .null] [] h = some (some (.int v), h1) := hf
  replace hg : oe 107 0 [.ref 133, .int x1, .int x2, .int x3, .null, .null, .null, .null, .null, .null, .null, .null, .null] [] h1 = some (some (.int v), h2) := hg
  refine ⟨h2, hS2, ?_⟩
  simp (disch := omega) only [eL_law_282, eL_law_283, eL_law_284, eL_law_285, eL_law_286, eL_law_287, eL_law_288, eL_law_289, eL_law_290, eL_law_291, eL_law_292, eL_law_293, eL_law_294, eL_law_295, eL_law_296, eL_law_297, eL_law_298, eL_law_301, eL_law_302, eL_law_303, eL_law_304, eL_law_305, eL_law_306, eL_law_307, eL_law_308, eL_law_309, eL_law_310, eL_law_311, eL_law_312, eL_law_313, eL_law_314, eL_law_315, eL_law_316, eL_law_317, eL_law_320, eL_law_323, eL_law_324, ox_O_s, ox_B_s, ox_g_t, ox_A_s, ox_push_s, ox_push_n, ox_some, ox_z0, ox_z1, iI_lt, iI_eq, iI_add, iI_sub, if_true, if_false, if_pos, if_neg, q0, q1, o4, hob, hf, hg, e1, e2, e3]
theorem lw_setKind {xs : List Int32} {h : ox_H} (hx : xs.length ≤ 2048) (hS : Sm xs h) {i : Int} (i0 : 0 ≤ i) (i1 : i + 3 < xs.length) : ∃ h2, Sm xs h2 ∧ oe 154 325 [.ref 0, .ref 4, .ref 133, .int (iI i)] [] h = oe 154 954 [.ref 0, .ref 4, .ref 133, .int (iI i)] [] h2 := by
  have q0 : ox_ints h 0 ox_isI = some xs := ox_ints_of hS.1 rfl
  have o4 := sm_obj hS
  obtain ⟨x1, e1⟩ := xs_at (xs := xs) (i := i + 1) (by omega) (by omega) (by omega)
  obtain ⟨x2, e2⟩ := xs_at (xs := xs) (i := i + 2) (by omega) (by omega) (by omega)
  obtain ⟨v, h1, h2, hf, hg, hS2, hob, hsc⟩ := st_setKind hS x1 x2
  have q1 : ox_ints h1 0 ox_isI = some xs := ox_ints_of hsc rfl
  replace hf : oe 52 0 [.ref 4, .int x1, .int x2, .null, .null, .null, .null] [] h = some (some (.int v), h1) := hf
  replace hg : oe 108 0 [.ref 133, .int x1, .int x2, .null, .null] [] h1 = some (some (.int v), h2) := hg
  refine ⟨h2, hS2, ?_⟩
  simp (disch := omega) only [eL_law_325, eL_law_326, eL_law_327, eL_law_328, eL_law_329, eL_law_330, eL_law_331, eL_law_332, eL_law_333, eL_law_334, eL_law_335, eL_law_336, eL_law_339, eL_law_340, eL_law_341, eL_law_342, eL_law_343, eL_law_344, eL_law_345, eL_law_346, eL_law_347, eL_law_348, eL_law_349, eL_law_350, eL_law_353, eL_law_356, eL_law_357, ox_O_s, ox_B_s, ox_g_t, ox_A_s, ox_push_s, ox_push_n, ox_some, ox_z0, ox_z1, iI_lt, iI_eq, iI_add, iI_sub, if_true, if_false, if_pos, if_neg, q0, q1, o4, hob, hf, hg, e1, e2]
theorem lw_setTags {xs : List Int32} {h : ox_H} (hx : xs.length ≤ 2048) (hS : Sm xs h) {i : Int} (i0 : 0 ≤ i) (i1 : i + 3 < xs.length) : ∃ h2, Sm xs h2 ∧ oe 154 358 [.ref 0, .ref 4, .ref 133, .int (iI i)] [] h = oe 154 954 [.ref 0, .ref 4, .ref 133, .int (iI i)] [] h2 := by
  have q0 : ox_ints h 0 ox_isI = some xs := ox_ints_of hS.1 rfl
  have o4 := sm_obj hS
  obtain ⟨x1, e1⟩ := xs_at (xs := xs) (i := i + 1) (by omega) (by omega) (by omega)
  obtain ⟨x2, e2⟩ := xs_at (xs := xs) (i := i + 2) (by omega) (by omega) (by omega)
  obtain ⟨v, h1, h2, hf, hg, hS2, hob, hsc⟩ := st_setTags hS x1 x2
  have q1 : ox_ints h1 0 ox_isI = some xs := ox_ints_of hsc rfl
  replace hf : oe 53 0 [.ref 4, .int x1, .int x2, .null] [] h = some (some (.int v), h1) := hf
  replace hg : oe 110 0 [.ref 133, .int x1, .int x2] [] h1 = some (some (.int v), h2) := hg
  refine ⟨h2, hS2, ?_⟩
  simp (disch := omega) only [eL_law_358, eL_law_359, eL_law_360, eL_law_361, eL_law_362, eL_law_363, eL_law_364, eL_law_365, eL_law_366, eL_law_367, eL_law_368, eL_law_369, eL_law_372, eL_law_373, eL_law_374, eL_law_375, eL_law_376, eL_law_377, eL_law_378, eL_law_379, eL_law_380, eL_law_381, eL_law_382, eL_law_383, eL_law_386, eL_law_389, eL_law_390, ox_O_s, ox_B_s, ox_g_t, ox_A_s, ox_push_s, ox_push_n, ox_some, ox_z0, ox_z1, iI_lt, iI_eq, iI_add, iI_sub, if_true, if_false, if_pos, if_neg, q0, q1, o4, hob, hf, hg, e1, e2]
theorem lw_fold {xs : List Int32} {h : ox_H} (hx : xs.length ≤ 2048) (hS : Sm xs h) {i : Int} (i0 : 0 ≤ i) (i1 : i + 3 < xs.length) : ∃ h2, Sm xs h2 ∧ oe 154 391 [.ref 0, .ref 4, .ref 133, .int (iI i)] [] h = oe 154 954 [.ref 0, .ref 4, .ref 133, .int (iI i)] [] h2 := by
  have q0 : ox_ints h 0 ox_isI = some xs := ox_ints_of hS.1 rfl
  have o4 := sm_obj hS
  obtain ⟨x1, e1⟩ := xs_at (xs := xs) (i := i + 1) (by omega) (by omega) (by omega)
  obtain ⟨x2, e2⟩ := xs_at (xs := xs) (i := i + 2) (by omega) (by omega) (by omega)
  obtain ⟨v, h1, h2, hf, hg, hS2, hob, hsc⟩ := st_fold hS x1 x2
  have q1 : ox_ints h1 0 ox_isI = some xs := ox_ints_of hsc rfl
  replace hf : oe 54 0 [.ref 4, .int x1, .int x2, .null] [] h = some (some (.int v), h1) := hf
  replace hg : oe 111 0 [.ref 133, .int x1, .int x2] [] h1 = some (some (.int v), h2) := hg
  refine ⟨h2, hS2, ?_⟩
  simp (disch := omega) only [eL_law_391, eL_law_392, eL_law_393, eL_law_394, eL_law_395, eL_law_396, eL_law_397, eL_law_398, eL_law_399, eL_law_400, eL_law_401, eL_law_402, eL_law_405, eL_law_406, eL_law_407, eL_law_408, eL_law_409, eL_law_410, eL_law_411, eL_law_412, eL_law_413, eL_law_414, eL_law_415, eL_law_416, eL_law_419, eL_law_422, eL_law_423, ox_O_s, ox_B_s, ox_g_t, ox_A_s, ox_push_s, ox_push_n, ox_some, ox_z0, ox_z1, iI_lt, iI_eq, iI_add, iI_sub, if_true, if_false, if_pos, if_neg, q0, q1, o4, hob, hf, hg, e1, e2]
theorem lw_setStart {xs : List Int32} {h : ox_H} (hx : xs.length ≤ 2048) (hS : Sm xs h) {i : Int} (i0 : 0 ≤ i) (i1 : i + 3 < xs.length) : ∃ h2, Sm xs h2 ∧ oe 154 424 [.ref 0, .ref 4, .ref 133, .int (iI i)] [] h = oe 154 954 [.ref 0, .ref 4, .ref 133, .int (iI i)] [] h2 := by
  have q0 : ox_ints h 0 ox_isI = some xs := ox_ints_of hS.1 rfl
  have o4 := sm_obj hS
  obtain ⟨x1, e1⟩ := xs_at (xs := xs) (i := i + 1) (by omega) (by omega) (by omega)
  obtain ⟨x2, e2⟩ := xs_at (xs := xs) (i := i + 2) (by omega) (by omega) (by omega)
  obtain ⟨v, h1, h2, hf, hg, hS2, hob, hsc⟩ := st_setStart hS x1 x2
  have q1 : ox_ints h1 0 ox_isI = some xs := ox_ints_of hsc rfl
  replace hf : oe 55 0 [.ref 4, .int x1, .int x2, .null] [] h = some (some (.int v), h1) := hf
  replace hg : oe 112 0 [.ref 133, .int x1, .int x2] [] h1 = some (some (.int v), h2) := hg
  refine ⟨h2, hS2, ?_⟩
  simp (disch := omega) only [eL_law_424, eL_law_425, eL_law_426, eL_law_427, eL_law_428, eL_law_429, eL_law_430, eL_law_431, eL_law_432, eL_law_433, eL_law_434, eL_law_435, eL_law_438, eL_law_439, eL_law_440, eL_law_441, eL_law_442, eL_law_443, eL_law_444, eL_law_445, eL_law_446, eL_law_447, eL_law_448, eL_law_449, eL_law_452, eL_law_455, eL_law_456, ox_O_s, ox_B_s, ox_g_t, ox_A_s, ox_push_s, ox_push_n, ox_some, ox_z0, ox_z1, iI_lt, iI_eq, iI_add, iI_sub, if_true, if_false, if_pos, if_neg, q0, q1, o4, hob, hf, hg, e1, e2]
theorem lw_setScheme {xs : List Int32} {h : ox_H} (hx : xs.length ≤ 2048) (hS : Sm xs h) {i : Int} (i0 : 0 ≤ i) (i1 : i + 3 < xs.length) : ∃ h2, Sm xs h2 ∧ oe 154 457 [.ref 0, .ref 4, .ref 133, .int (iI i)] [] h = oe 154 954 [.ref 0, .ref 4, .ref 133, .int (iI i)] [] h2 := by
  have q0 : ox_ints h 0 ox_isI = some xs := ox_ints_of hS.1 rfl
  have o4 := sm_obj hS
  obtain ⟨x1, e1⟩ := xs_at (xs := xs) (i := i + 1) (by omega) (by omega) (by omega)
  obtain ⟨x2, e2⟩ := xs_at (xs := xs) (i := i + 2) (by omega) (by omega) (by omega)
  obtain ⟨v, h1, h2, hf, hg, hS2, hob, hsc⟩ := st_setScheme hS x1 x2
  have q1 : ox_ints h1 0 ox_isI = some xs := ox_ints_of hsc rfl
  replace hf : oe 56 0 [.ref 4, .int x1, .int x2, .null] [] h = some (some (.int v), h1) := hf
  replace hg : oe 113 0 [.ref 133, .int x1, .int x2] [] h1 = some (some (.int v), h2) := hg
  refine ⟨h2, hS2, ?_⟩
  simp (disch := omega) only [eL_law_457, eL_law_458, eL_law_459, eL_law_460, eL_law_461, eL_law_462, eL_law_463, eL_law_464, eL_law_465, eL_law_466, eL_law_467, eL_law_468, eL_law_471, eL_law_472, eL_law_473, eL_law_474, eL_law_475, eL_law_476, eL_law_477, eL_law_478, eL_law_479, eL_law_480, eL_law_481, eL_law_482, eL_law_485, eL_law_488, eL_law_489, ox_O_s, ox_B_s, ox_g_t, ox_A_s, ox_push_s, ox_push_n, ox_some, ox_z0, ox_z1, iI_lt, iI_eq, iI_add, iI_sub, if_true, if_false, if_pos, if_neg, q0, q1, o4, hob, hf, hg, e1, e2]
theorem lw_setRule {xs : List Int32} {h : ox_H} (hx : xs.length ≤ 2048) (hS : Sm xs h) {i : Int} (i0 : 0 ≤ i) (i1 : i + 3 < xs.length) : ∃ h2, Sm xs h2 ∧ oe 154 490 [.ref 0, .ref 4, .ref 133, .int (iI i)] [] h = oe 154 954 [.ref 0, .ref 4, .ref 133, .int (iI i)] [] h2 := by
  have q0 : ox_ints h 0 ox_isI = some xs := ox_ints_of hS.1 rfl
  have o4 := sm_obj hS
  obtain ⟨x1, e1⟩ := xs_at (xs := xs) (i := i + 1) (by omega) (by omega) (by omega)
  obtain ⟨x2, e2⟩ := xs_at (xs := xs) (i := i + 2) (by omega) (by omega) (by omega)
  obtain ⟨v, h1, h2, hf, hg, hS2, hob, hsc⟩ := st_setRule hS x1 x2
  have q1 : ox_ints h1 0 ox_isI = some xs := ox_ints_of hsc rfl
  replace hf : oe 57 0 [.ref 4, .int x1, .int x2, .null] [] h = some (some (.int v), h1) := hf
  replace hg : oe 114 0 [.ref 133, .int x1, .int x2] [] h1 = some (some (.int v), h2) := hg
  refine ⟨h2, hS2, ?_⟩
  simp (disch := omega) only [eL_law_490, eL_law_491, eL_law_492, eL_law_493, eL_law_494, eL_law_495, eL_law_496, eL_law_497, eL_law_498, eL_law_499, eL_law_500, eL_law_501, eL_law_504, eL_law_505, eL_law_506, eL_law_507, eL_law_508, eL_law_509, eL_law_510, eL_law_511, eL_law_512, eL_law_513, eL_law_514, eL_law_515, eL_law_518, eL_law_521, eL_law_522, ox_O_s, ox_B_s, ox_g_t, ox_A_s, ox_push_s, ox_push_n, ox_some, ox_z0, ox_z1, iI_lt, iI_eq, iI_add, iI_sub, if_true, if_false, if_pos, if_neg, q0, q1, o4, hob, hf, hg, e1, e2]
theorem lw_setFilter {xs : List Int32} {h : ox_H} (hx : xs.length ≤ 2048) (hS : Sm xs h) {i : Int} (i0 : 0 ≤ i) (i1 : i + 3 < xs.length) : ∃ h2, Sm xs h2 ∧ oe 154 523 [.ref 0, .ref 4, .ref 133, .int (iI i)] [] h = oe 154 954 [.ref 0, .ref 4, .ref 133, .int (iI i)] [] h2 := by
  have q0 : ox_ints h 0 ox_isI = some xs := ox_ints_of hS.1 rfl
  have o4 := sm_obj hS
  obtain ⟨x1, e1⟩ := xs_at (xs := xs) (i := i + 1) (by omega) (by omega) (by omega)
  obtain ⟨v, h1, h2, hf, hg, hS2, hob, hsc⟩ := st_setFilter hS x1
  have q1 : ox_ints h1 0 ox_isI = some xs := ox_ints_of hsc rfl
  replace hf : oe 58 0 [.ref 4, .int x1, .null] [] h = some (some (.int v), h1) := hf
  replace hg : oe 115 0 [.ref 133, .int x1] [] h1 = some (some (.int v), h2) := hg
  refine ⟨h2, hS2, ?_⟩
  simp (disch := omega) only [eL_law_523, eL_law_524, eL_law_525, eL_law_526, eL_law_527, eL_law_528, eL_law_529, eL_law_532, eL_law_533, eL_law_534, eL_law_535, eL_law_536, eL_law_537, eL_law_538, eL_law_541, eL_law_544, eL_law_545, ox_O_s, ox_B_s, ox_g_t, ox_A_s, ox_push_s, ox_push_n, ox_some, ox_z0, ox_z1, iI_lt, iI_eq, iI_add, iI_sub, if_true, if_false, if_pos, if_neg, q0, q1, o4, hob, hf, hg, e1]
theorem lw_undo {xs : List Int32} {h : ox_H} (hx : xs.length ≤ 2048) (hS : Sm xs h) {i : Int} (i0 : 0 ≤ i) (i1 : i + 3 < xs.length) : ∃ h2, Sm xs h2 ∧ oe 154 546 [.ref 0, .ref 4, .ref 133, .int (iI i)] [] h = oe 154 954 [.ref 0, .ref 4, .ref 133, .int (iI i)] [] h2 := by
  have q0 : ox_ints h 0 ox_isI = some xs := ox_ints_of hS.1 rfl
  have o4 := sm_obj hS
  obtain ⟨v, h1, h2, hf, hg, hS2, hob, hsc⟩ := st_undo hS
  have q1 : ox_ints h1 0 ox_isI = some xs := ox_ints_of hsc rfl
  replace hf : oe 59 0 [.ref 4] [] h = some (some (.int v), h1) := hf
  replace hg : oe 116 0 [.ref 133, .null] [] h1 = some (some (.int v), h2) := hg
  refine ⟨h2, hS2, ?_⟩
  simp (disch := omega) only [eL_law_546, eL_law_547, eL_law_550, eL_law_551, eL_law_554, eL_law_557, eL_law_558, ox_O_s, ox_B_s, ox_g_t, ox_A_s, ox_push_s, ox_push_n, ox_some, ox_z0, ox_z1, iI_lt, iI_eq, iI_add, iI_sub, if_true, if_false, if_pos, if_neg, q0, q1, o4, hob, hf, hg]
theorem lw_refer {xs : List Int32} {h : ox_H} (hx : xs.length ≤ 2048) (hS : Sm xs h) {i : Int} (i0 : 0 ≤ i) (i1 : i + 3 < xs.length) : ∃ h2, Sm xs h2 ∧ oe 154 559 [.ref 0, .ref 4, .ref 133, .int (iI i)] [] h = oe 154 954 [.ref 0, .ref 4, .ref 133, .int (iI i)] [] h2 := by
  have q0 : ox_ints h 0 ox_isI = some xs := ox_ints_of hS.1 rfl
  have o4 := sm_obj hS
  obtain ⟨x1, e1⟩ := xs_at (xs := xs) (i := i + 1) (by omega) (by omega) (by omega)
  obtain ⟨x2, e2⟩ := xs_at (xs := xs) (i := i + 2) (by omega) (by omega) (by omega)
  obtain ⟨v, h1, h2, hf, hg, hS2, hob, hsc⟩ := st_refer hS x1 x2
  have q1 : ox_ints h1 0 ox_isI = some xs := ox_ints_of hsc rfl
  replace hf : oe 60 0 [.ref 4, .int x1, .int x2] [] h = some (some (.int v), h1) := hf
  replace hg : oe 128 0 [.ref 133, .int x1, .int x2, .null] [] h1 = some (some (.int v), h2) := hg
  refine ⟨h2, hS2, ?_⟩
  simp (disch := omega) only [eL_law_559, eL_law_560, eL_law_561, eL_law_562, eL_law_563, eL_law_564, eL_law_565, eL_law_566, eL_law_567, eL_law_568, eL_law_569, eL_law_570, eL_law_573, eL_law_574, eL_law_575, eL_law_576, eL_law_577, eL_law_578, eL_law_579, eL_law_580, eL_law_581, eL_law_582, eL_law_583, eL_law_584, eL_law_587, eL_law_590, eL_law_591, ox_O_s, ox_B_s, ox_g_t, ox_A_s, ox_push_s, ox_push_n, ox_some, ox_z0, ox_z1, iI_lt, iI_eq, iI_add, iI_sub, if_true, if_false, if_pos, if_neg, q0, q1, o4, hob, hf, hg, e1, e2]
theorem lw_forget {xs : List Int32} {h : ox_H} (hx : xs.length ≤ 2048) (hS : Sm xs h) {i : Int} (i0 : 0 ≤ i) (i1 : i + 3 < xs.length) : ∃ h2, Sm xs h2 ∧ oe 154 592 [.ref 0, .ref 4, .ref 133, .int (iI i)] [] h = oe 154 954 [.ref 0, .ref 4, .ref 133, .int (iI i)] [] h2 := by
  have q0 : ox_ints h 0 ox_isI = some xs := ox_ints_of hS.1 rfl
  have o4 := sm_obj hS
  obtain ⟨x1, e1⟩ := xs_at (xs := xs) (i := i + 1) (by omega) (by omega) (by omega)
  obtain ⟨v, h1, h2, hf, hg, hS2, hob, hsc⟩ := st_forget hS x1
  have q1 : ox_ints h1 0 ox_isI = some xs := ox_ints_of hsc rfl
  replace hf : oe 61 0 [.ref 4, .int x1] [] h = some (some (.int v), h1) := hf
  replace hg : oe 129 0 [.ref 133, .int x1] [] h1 = some (some (.int v), h2) := hg
  refine ⟨h2, hS2, ?_⟩
  simp (disch := omega) only [eL_law_592, eL_law_593, eL_law_594, eL_law_595, eL_law_596, eL_law_597, eL_law_598, eL_law_601, eL_law_602, eL_law_603, eL_law_604, eL_law_605, eL_law_606, eL_law_607, eL_law_610, eL_law_613, eL_law_614, ox_O_s, ox_B_s, ox_g_t, ox_A_s, ox_push_s, ox_push_n, ox_some, ox_z0, ox_z1, iI_lt, iI_eq, iI_add, iI_sub, if_true, if_false, if_pos, if_neg, q0, q1, o4, hob, hf, hg, e1]
theorem lw_reference {xs : List Int32} {h : ox_H} (hx : xs.length ≤ 2048) (hS : Sm xs h) {i : Int} (i0 : 0 ≤ i) (i1 : i + 3 < xs.length) : ∃ h2, Sm xs h2 ∧ oe 154 615 [.ref 0, .ref 4, .ref 133, .int (iI i)] [] h = oe 154 954 [.ref 0, .ref 4, .ref 133, .int (iI i)] [] h2 := by
  have q0 : ox_ints h 0 ox_isI = some xs := ox_ints_of hS.1 rfl
  have o4 := sm_obj hS
  obtain ⟨x1, e1⟩ := xs_at (xs := xs) (i := i + 1) (by omega) (by omega) (by omega)
  obtain ⟨x2, e2⟩ := xs_at (xs := xs) (i := i + 2) (by omega) (by omega) (by omega)
  obtain ⟨v, h1, h2, hf, hg, hS2, hob, hsc⟩ := st_reference hS x1 x2
  have q1 : ox_ints h1 0 ox_isI = some xs := ox_ints_of hsc rfl
  replace hf : oe 62 0 [.ref 4, .int x1, .int x2, .null, .null, .null, .null] [] h = some (some (.int v), h1) := hf
  replace hg : oe 132 0 [.ref 133, .int x1, .int x2, .null, .null] [] h1 = some (some (.int v), h2) := hg
  refine ⟨h2, hS2, ?_⟩
  simp (disch := omega) only [eL_law_615, eL_law_616, eL_law_617, eL_law_618, eL_law_619, eL_law_620, eL_law_621, eL_law_622, eL_law_623, eL_law_624, eL_law_625, eL_law_626, eL_law_629, eL_law_630, eL_law_631, eL_law_632, eL_law_633, eL_law_634, eL_law_635, eL_law_636, eL_law_637, eL_law_638, eL_law_639, eL_law_640, eL_law_643, eL_law_646, eL_law_647, ox_O_s, ox_B_s, ox_g_t, ox_A_s, ox_push_s, ox_push_n, ox_some, ox_z0, ox_z1, iI_lt, iI_eq, iI_add, iI_sub, if_true, if_false, if_pos, if_neg, q0, q1, o4, hob, hf, hg, e1, e2]
theorem lw_referenceText {xs : List Int32} {h : ox_H} (hx : xs.length ≤ 2048) (hS : Sm xs h) {i : Int} (i0 : 0 ≤ i) (i1 : i + 3 < xs.length) : ∃ h2, Sm xs h2 ∧ oe 154 648 [.ref 0, .ref 4, .ref 133, .int (iI i)] [] h = oe 154 954 [.ref 0, .ref 4, .ref 133, .int (iI i)] [] h2 := by
  have q0 : ox_ints h 0 ox_isI = some xs := ox_ints_of hS.1 rfl
  have o4 := sm_obj hS
  obtain ⟨x1, e1⟩ := xs_at (xs := xs) (i := i + 1) (by omega) (by omega) (by omega)
  obtain ⟨x2, e2⟩ := xs_at (xs := xs) (i := i + 2) (by omega) (by omega) (by omega)
  obtain ⟨v, h1, h2, hf, hg, hS2, hob, hsc⟩ := st_referenceText hS x1 x2
  have q1 : ox_ints h1 0 ox_isI = some xs := ox_ints_of hsc rfl
  replace hf : oe 63 0 [.ref 4, .int x1, .int x2] [] h = some (some (.int v), h1) := hf
  replace hg : oe 133 0 [.ref 133, .int x1, .int x2] [] h1 = some (some (.int v), h2) := hg
  refine ⟨h2, hS2, ?_⟩
  simp (disch := omega) only [eL_law_648, eL_law_649, eL_law_650, eL_law_651, eL_law_652, eL_law_653, eL_law_654, eL_law_655, eL_law_656, eL_law_657, eL_law_658, eL_law_659, eL_law_662, eL_law_663, eL_law_664, eL_law_665, eL_law_666, eL_law_667, eL_law_668, eL_law_669, eL_law_670, eL_law_671, eL_law_672, eL_law_673, eL_law_676, eL_law_679, eL_law_680, ox_O_s, ox_B_s, ox_g_t, ox_A_s, ox_push_s, ox_push_n, ox_some, ox_z0, ox_z1, iI_lt, iI_eq, iI_add, iI_sub, if_true, if_false, if_pos, if_neg, q0, q1, o4, hob, hf, hg, e1, e2]
theorem lw_told {xs : List Int32} {h : ox_H} (hx : xs.length ≤ 2048) (hS : Sm xs h) {i : Int} (i0 : 0 ≤ i) (i1 : i + 3 < xs.length) : ∃ h2, Sm xs h2 ∧ oe 154 681 [.ref 0, .ref 4, .ref 133, .int (iI i)] [] h = oe 154 954 [.ref 0, .ref 4, .ref 133, .int (iI i)] [] h2 := by
  have q0 : ox_ints h 0 ox_isI = some xs := ox_ints_of hS.1 rfl
  have o4 := sm_obj hS
  obtain ⟨x1, e1⟩ := xs_at (xs := xs) (i := i + 1) (by omega) (by omega) (by omega)
  obtain ⟨v, h1, h2, hf, hg, hS2, hob, hsc⟩ := st_told hS x1
  have q1 : ox_ints h1 0 ox_isI = some xs := ox_ints_of hsc rfl
  replace hf : oe 64 0 [.ref 4, .int x1] [] h = some (some (.int v), h1) := hf
  replace hg : oe 138 0 [.ref 133, .int x1] [] h1 = some (some (.int v), h2) := hg
  refine ⟨h2, hS2, ?_⟩
  simp (disch := omega) only [eL_law_681, eL_law_682, eL_law_683, eL_law_684, eL_law_685, eL_law_686, eL_law_687, eL_law_690, eL_law_691, eL_law_692, eL_law_693, eL_law_694, eL_law_695, eL_law_696, eL_law_699, eL_law_702, eL_law_703, ox_O_s, ox_B_s, ox_g_t, ox_A_s, ox_push_s, ox_push_n, ox_some, ox_z0, ox_z1, iI_lt, iI_eq, iI_add, iI_sub, if_true, if_false, if_pos, if_neg, q0, q1, o4, hob, hf, hg, e1]
theorem lw_headingAt {xs : List Int32} {h : ox_H} (hx : xs.length ≤ 2048) (hS : Sm xs h) {i : Int} (i0 : 0 ≤ i) (i1 : i + 3 < xs.length) : ∃ h2, Sm xs h2 ∧ oe 154 704 [.ref 0, .ref 4, .ref 133, .int (iI i)] [] h = oe 154 954 [.ref 0, .ref 4, .ref 133, .int (iI i)] [] h2 := by
  have q0 : ox_ints h 0 ox_isI = some xs := ox_ints_of hS.1 rfl
  have o4 := sm_obj hS
  obtain ⟨x1, e1⟩ := xs_at (xs := xs) (i := i + 1) (by omega) (by omega) (by omega)
  obtain ⟨v, h1, h2, hf, hg, hS2, hob, hsc⟩ := st_headingAt hS x1
  have q1 : ox_ints h1 0 ox_isI = some xs := ox_ints_of hsc rfl
  replace hf : oe 65 0 [.ref 4, .int x1] [] h = some (some (.int v), h1) := hf
  replace hg : oe 139 0 [.ref 133, .int x1] [] h1 = some (some (.int v), h2) := hg
  refine ⟨h2, hS2, ?_⟩
  simp (disch := omega) only [eL_law_704, eL_law_705, eL_law_706, eL_law_707, eL_law_708, eL_law_709, eL_law_710, eL_law_713, eL_law_714, eL_law_715, eL_law_716, eL_law_717, eL_law_718, eL_law_719, eL_law_722, eL_law_725, eL_law_726, ox_O_s, ox_B_s, ox_g_t, ox_A_s, ox_push_s, ox_push_n, ox_some, ox_z0, ox_z1, iI_lt, iI_eq, iI_add, iI_sub, if_true, if_false, if_pos, if_neg, q0, q1, o4, hob, hf, hg, e1]
theorem lw_shownAt {xs : List Int32} {h : ox_H} (hx : xs.length ≤ 2048) (hS : Sm xs h) {i : Int} (i0 : 0 ≤ i) (i1 : i + 3 < xs.length) : ∃ h2, Sm xs h2 ∧ oe 154 727 [.ref 0, .ref 4, .ref 133, .int (iI i)] [] h = oe 154 954 [.ref 0, .ref 4, .ref 133, .int (iI i)] [] h2 := by
  have q0 : ox_ints h 0 ox_isI = some xs := ox_ints_of hS.1 rfl
  have o4 := sm_obj hS
  obtain ⟨x1, e1⟩ := xs_at (xs := xs) (i := i + 1) (by omega) (by omega) (by omega)
  obtain ⟨v, h1, h2, hf, hg, hS2, hob, hsc⟩ := st_shownAt hS x1
  have q1 : ox_ints h1 0 ox_isI = some xs := ox_ints_of hsc rfl
  replace hf : oe 66 0 [.ref 4, .int x1, .null, .null] [] h = some (some (.int v), h1) := hf
  replace hg : oe 140 0 [.ref 133, .int x1, .null, .null] [] h1 = some (some (.int v), h2) := hg
  refine ⟨h2, hS2, ?_⟩
  simp (disch := omega) only [eL_law_727, eL_law_728, eL_law_729, eL_law_730, eL_law_731, eL_law_732, eL_law_733, eL_law_736, eL_law_737, eL_law_738, eL_law_739, eL_law_740, eL_law_741, eL_law_742, eL_law_745, eL_law_748, eL_law_749, ox_O_s, ox_B_s, ox_g_t, ox_A_s, ox_push_s, ox_push_n, ox_some, ox_z0, ox_z1, iI_lt, iI_eq, iI_add, iI_sub, if_true, if_false, if_pos, if_neg, q0, q1, o4, hob, hf, hg, e1]
theorem lw_heading {xs : List Int32} {h : ox_H} (hx : xs.length ≤ 2048) (hS : Sm xs h) {i : Int} (i0 : 0 ≤ i) (i1 : i + 3 < xs.length) : ∃ h2, Sm xs h2 ∧ oe 154 750 [.ref 0, .ref 4, .ref 133, .int (iI i)] [] h = oe 154 954 [.ref 0, .ref 4, .ref 133, .int (iI i)] [] h2 := by
  have q0 : ox_ints h 0 ox_isI = some xs := ox_ints_of hS.1 rfl
  have o4 := sm_obj hS
  obtain ⟨x1, e1⟩ := xs_at (xs := xs) (i := i + 1) (by omega) (by omega) (by omega)
  obtain ⟨x2, e2⟩ := xs_at (xs := xs) (i := i + 2) (by omega) (by omega) (by omega)
  obtain ⟨v, h1, h2, hf, hg, hS2, hob, hsc⟩ := st_heading hS x1 x2
  have q1 : ox_ints h1 0 ox_isI = some xs := ox_ints_of hsc rfl
  replace hf : oe 67 0 [.ref 4, .int x1, .int x2, .null] [] h = some (some (.int v), h1) := hf
  replace hg : oe 145 0 [.ref 133, .int x1, .int x2, .null] [] h1 = some (some (.int v), h2) := hg
  refine ⟨h2, hS2, ?_⟩
  simp (disch := omega) only [eL_law_750, eL_law_751, eL_law_752, eL_law_753, eL_law_754, eL_law_755, eL_law_756, eL_law_757, eL_law_758, eL_law_759, eL_law_760, eL_law_761, eL_law_764, eL_law_765, eL_law_766, eL_law_767, eL_law_768, eL_law_769, eL_law_770, eL_law_771, eL_law_772, eL_law_773, eL_law_774, eL_law_775, eL_law_778, eL_law_781, eL_law_782, ox_O_s, ox_B_s, ox_g_t, ox_A_s, ox_push_s, ox_push_n, ox_some, ox_z0, ox_z1, iI_lt, iI_eq, iI_add, iI_sub, if_true, if_false, if_pos, if_neg, q0, q1, o4, hob, hf, hg, e1, e2]
theorem lw_child {xs : List Int32} {h : ox_H} (hx : xs.length ≤ 2048) (hS : Sm xs h) {i : Int} (i0 : 0 ≤ i) (i1 : i + 3 < xs.length) : ∃ h2, Sm xs h2 ∧ oe 154 783 [.ref 0, .ref 4, .ref 133, .int (iI i)] [] h = oe 154 954 [.ref 0, .ref 4, .ref 133, .int (iI i)] [] h2 := by
  have q0 : ox_ints h 0 ox_isI = some xs := ox_ints_of hS.1 rfl
  have o4 := sm_obj hS
  obtain ⟨x1, e1⟩ := xs_at (xs := xs) (i := i + 1) (by omega) (by omega) (by omega)
  obtain ⟨x2, e2⟩ := xs_at (xs := xs) (i := i + 2) (by omega) (by omega) (by omega)
  obtain ⟨v, h1, h2, hf, hg, hS2, hob, hsc⟩ := st_child hS x1 x2
  have q1 : ox_ints h1 0 ox_isI = some xs := ox_ints_of hsc rfl
  replace hf : oe 68 0 [.ref 4, .int x1, .int x2, .null] [] h = some (some (.int v), h1) := hf
  replace hg : oe 146 0 [.ref 133, .int x1, .int x2] [] h1 = some (some (.int v), h2) := hg
  refine ⟨h2, hS2, ?_⟩
  simp (disch := omega) only [eL_law_783, eL_law_784, eL_law_785, eL_law_786, eL_law_787, eL_law_788, eL_law_789, eL_law_790, eL_law_791, eL_law_792, eL_law_793, eL_law_794, eL_law_797, eL_law_798, eL_law_799, eL_law_800, eL_law_801, eL_law_802, eL_law_803, eL_law_804, eL_law_805, eL_law_806, eL_law_807, eL_law_808, eL_law_811, eL_law_814, eL_law_815, ox_O_s, ox_B_s, ox_g_t, ox_A_s, ox_push_s, ox_push_n, ox_some, ox_z0, ox_z1, iI_lt, iI_eq, iI_add, iI_sub, if_true, if_false, if_pos, if_neg, q0, q1, o4, hob, hf, hg, e1, e2]
theorem lw_numberText {xs : List Int32} {h : ox_H} (hx : xs.length ≤ 2048) (hS : Sm xs h) {i : Int} (i0 : 0 ≤ i) (i1 : i + 3 < xs.length) : ∃ h2, Sm xs h2 ∧ oe 154 816 [.ref 0, .ref 4, .ref 133, .int (iI i)] [] h = oe 154 954 [.ref 0, .ref 4, .ref 133, .int (iI i)] [] h2 := by
  have q0 : ox_ints h 0 ox_isI = some xs := ox_ints_of hS.1 rfl
  have o4 := sm_obj hS
  obtain ⟨x1, e1⟩ := xs_at (xs := xs) (i := i + 1) (by omega) (by omega) (by omega)
  obtain ⟨x2, e2⟩ := xs_at (xs := xs) (i := i + 2) (by omega) (by omega) (by omega)
  obtain ⟨v, h1, h2, hf, hg, hS2, hob, hsc⟩ := st_numberText hS x1 x2
  have q1 : ox_ints h1 0 ox_isI = some xs := ox_ints_of hsc rfl
  replace hf : oe 69 0 [.ref 4, .int x1, .int x2, .null] [] h = some (some (.int v), h1) := hf
  replace hg : oe 147 0 [.ref 133, .int x1, .int x2] [] h1 = some (some (.int v), h2) := hg
  refine ⟨h2, hS2, ?_⟩
  simp (disch := omega) only [eL_law_816, eL_law_817, eL_law_818, eL_law_819, eL_law_820, eL_law_821, eL_law_822, eL_law_823, eL_law_824, eL_law_825, eL_law_826, eL_law_827, eL_law_830, eL_law_831, eL_law_832, eL_law_833, eL_law_834, eL_law_835, eL_law_836, eL_law_837, eL_law_838, eL_law_839, eL_law_840, eL_law_841, eL_law_844, eL_law_847, eL_law_848, ox_O_s, ox_B_s, ox_g_t, ox_A_s, ox_push_s, ox_push_n, ox_some, ox_z0, ox_z1, iI_lt, iI_eq, iI_add, iI_sub, if_true, if_false, if_pos, if_neg, q0, q1, o4, hob, hf, hg, e1, e2]
theorem lw_write {xs : List Int32} {h : ox_H} (hx : xs.length ≤ 2048) (hS : Sm xs h) {i : Int} (i0 : 0 ≤ i) (i1 : i + 3 < xs.length) : ∃ h2, Sm xs h2 ∧ oe 154 849 [.ref 0, .ref 4, .ref 133, .int (iI i)] [] h = oe 154 954 [.ref 0, .ref 4, .ref 133, .int (iI i)] [] h2 := by
  have q0 : ox_ints h 0 ox_isI = some xs := ox_ints_of hS.1 rfl
  have o4 := sm_obj hS
  obtain ⟨x1, e1⟩ := xs_at (xs := xs) (i := i + 1) (by omega) (by omega) (by omega)
  obtain ⟨v, h1, h2, hf, hg, hS2, hob, hsc⟩ := st_write hS x1
  have q1 : ox_ints h1 0 ox_isI = some xs := ox_ints_of hsc rfl
  replace hf : oe 70 0 [.ref 4, .int x1] [] h = some (some (.int v), h1) := hf
  replace hg : oe 148 0 [.ref 133, .int x1] [] h1 = some (some (.int v), h2) := hg
  refine ⟨h2, hS2, ?_⟩
  simp (disch := omega) only [eL_law_849, eL_law_850, eL_law_851, eL_law_852, eL_law_853, eL_law_854, eL_law_855, eL_law_858, eL_law_859, eL_law_860, eL_law_861, eL_law_862, eL_law_863, eL_law_864, eL_law_867, eL_law_870, eL_law_871, ox_O_s, ox_B_s, ox_g_t, ox_A_s, ox_push_s, ox_push_n, ox_some, ox_z0, ox_z1, iI_lt, iI_eq, iI_add, iI_sub, if_true, if_false, if_pos, if_neg, q0, q1, o4, hob, hf, hg, e1]
theorem lw_wipe {xs : List Int32} {h : ox_H} (hx : xs.length ≤ 2048) (hS : Sm xs h) {i : Int} (i0 : 0 ≤ i) (i1 : i + 3 < xs.length) : ∃ h2, Sm xs h2 ∧ oe 154 872 [.ref 0, .ref 4, .ref 133, .int (iI i)] [] h = oe 154 954 [.ref 0, .ref 4, .ref 133, .int (iI i)] [] h2 := by
  have q0 : ox_ints h 0 ox_isI = some xs := ox_ints_of hS.1 rfl
  have o4 := sm_obj hS
  obtain ⟨v, h1, h2, hf, hg, hS2, hob, hsc⟩ := st_wipe hS
  have q1 : ox_ints h1 0 ox_isI = some xs := ox_ints_of hsc rfl
  replace hf : oe 71 0 [.ref 4, .null] [] h = some (some (.int v), h1) := hf
  replace hg : oe 149 0 [.ref 133, .null] [] h1 = some (some (.int v), h2) := hg
  refine ⟨h2, hS2, ?_⟩
  simp (disch := omega) only [eL_law_872, eL_law_873, eL_law_876, eL_law_877, eL_law_880, eL_law_883, eL_law_884, ox_O_s, ox_B_s, ox_g_t, ox_A_s, ox_push_s, ox_push_n, ox_some, ox_z0, ox_z1, iI_lt, iI_eq, iI_add, iI_sub, if_true, if_false, if_pos, if_neg, q0, q1, o4, hob, hf, hg]
theorem lw_find {xs : List Int32} {h : ox_H} (hx : xs.length ≤ 2048) (hS : Sm xs h) {i : Int} (i0 : 0 ≤ i) (i1 : i + 3 < xs.length) : ∃ h2, Sm xs h2 ∧ oe 154 885 [.ref 0, .ref 4, .ref 133, .int (iI i)] [] h = oe 154 954 [.ref 0, .ref 4, .ref 133, .int (iI i)] [] h2 := by
  have q0 : ox_ints h 0 ox_isI = some xs := ox_ints_of hS.1 rfl
  have o4 := sm_obj hS
  obtain ⟨x1, e1⟩ := xs_at (xs := xs) (i := i + 1) (by omega) (by omega) (by omega)
  obtain ⟨v, h1, h2, hf, hg, hS2, hob, hsc⟩ := st_find hS x1
  have q1 : ox_ints h1 0 ox_isI = some xs := ox_ints_of hsc rfl
  replace hf : oe 72 0 [.ref 4, .int x1, .null, .null] [] h = some (some (.int v), h1) := hf
  replace hg : oe 151 0 [.ref 133, .int x1, .null, .null] [] h1 = some (some (.int v), h2) := hg
  refine ⟨h2, hS2, ?_⟩
  simp (disch := omega) only [eL_law_885, eL_law_886, eL_law_887, eL_law_888, eL_law_889, eL_law_890, eL_law_891, eL_law_894, eL_law_895, eL_law_896, eL_law_897, eL_law_898, eL_law_899, eL_law_900, eL_law_903, eL_law_906, eL_law_907, ox_O_s, ox_B_s, ox_g_t, ox_A_s, ox_push_s, ox_push_n, ox_some, ox_z0, ox_z1, iI_lt, iI_eq, iI_add, iI_sub, if_true, if_false, if_pos, if_neg, q0, q1, o4, hob, hf, hg, e1]
theorem lw_keep {xs : List Int32} {h : ox_H} (hx : xs.length ≤ 2048) (hS : Sm xs h) {i : Int} (i0 : 0 ≤ i) (i1 : i + 3 < xs.length) : ∃ h2, Sm xs h2 ∧ oe 154 908 [.ref 0, .ref 4, .ref 133, .int (iI i)] [] h = oe 154 954 [.ref 0, .ref 4, .ref 133, .int (iI i)] [] h2 := by
  have q0 : ox_ints h 0 ox_isI = some xs := ox_ints_of hS.1 rfl
  have o4 := sm_obj hS
  obtain ⟨x1, e1⟩ := xs_at (xs := xs) (i := i + 1) (by omega) (by omega) (by omega)
  obtain ⟨v, h1, h2, hf, hg, hS2, hob, hsc⟩ := st_keep hS x1
  have q1 : ox_ints h1 0 ox_isI = some xs := ox_ints_of hsc rfl
  replace hf : oe 73 0 [.ref 4, .int x1] [] h = some (some (.int v), h1) := hf
  replace hg : oe 152 0 [.ref 133, .int x1, .null] [] h1 = some (some (.int v), h2) := hg
  refine ⟨h2, hS2, ?_⟩
  simp (disch := omega) only [eL_law_908, eL_law_909, eL_law_910, eL_law_911, eL_law_912, eL_law_913, eL_law_914, eL_law_917, eL_law_918, eL_law_919, eL_law_920, eL_law_921, eL_law_922, eL_law_923, eL_law_926, eL_law_929, eL_law_930, ox_O_s, ox_B_s, ox_g_t, ox_A_s, ox_push_s, ox_push_n, ox_some, ox_z0, ox_z1, iI_lt, iI_eq, iI_add, iI_sub, if_true, if_false, if_pos, if_neg, q0, q1, o4, hob, hf, hg, e1]
theorem lw_back {xs : List Int32} {h : ox_H} (hx : xs.length ≤ 2048) (hS : Sm xs h) {i : Int} (i0 : 0 ≤ i) (i1 : i + 3 < xs.length) : ∃ h2, Sm xs h2 ∧ oe 154 931 [.ref 0, .ref 4, .ref 133, .int (iI i)] [] h = oe 154 954 [.ref 0, .ref 4, .ref 133, .int (iI i)] [] h2 := by
  have q0 : ox_ints h 0 ox_isI = some xs := ox_ints_of hS.1 rfl
  have o4 := sm_obj hS
  obtain ⟨x1, e1⟩ := xs_at (xs := xs) (i := i + 1) (by omega) (by omega) (by omega)
  obtain ⟨v, h1, h2, hf, hg, hS2, hob, hsc⟩ := st_back hS x1
  have q1 : ox_ints h1 0 ox_isI = some xs := ox_ints_of hsc rfl
  replace hf : oe 74 0 [.ref 4, .int x1] [] h = some (some (.int v), h1) := hf
  replace hg : oe 153 0 [.ref 133, .int x1, .null] [] h1 = some (some (.int v), h2) := hg
  refine ⟨h2, hS2, ?_⟩
  simp (disch := omega) only [eL_law_931, eL_law_932, eL_law_933, eL_law_934, eL_law_935, eL_law_936, eL_law_937, eL_law_940, eL_law_941, eL_law_942, eL_law_943, eL_law_944, eL_law_945, eL_law_946, eL_law_949, eL_law_952, eL_law_953, ox_O_s, ox_B_s, ox_g_t, ox_A_s, ox_push_s, ox_push_n, ox_some, ox_z0, ox_z1, iI_lt, iI_eq, iI_add, iI_sub, if_true, if_false, if_pos, if_neg, q0, q1, o4, hob, hf, hg, e1]
theorem lw_disp {xs : List Int32} {h : ox_H} (hx : xs.length ≤ 2048) (hS : Sm xs h) {i : Int} (i0 : 0 ≤ i) (i1 : i + 3 < xs.length) {k : Int} (k0 : 0 ≤ k) (k1 : k < 32) : ∃ h2, Sm xs h2 ∧ oe 154 32 [.ref 0, .ref 4, .ref 133, .int (iI i)] [.int (iI k)] h = oe 154 954 [.ref 0, .ref 4, .ref 133, .int (iI i)] [] h2 := by
  by_cases q : 27 < k
  · exact ⟨h, hS, eL_law_32_d (by rw [iI_toInt (by omega) (by omega)]; exact Or.inr q)⟩
  · have hc : k = 0 ∨ k = 1 ∨ k = 2 ∨ k = 3 ∨ k = 4 ∨ k = 5 ∨ k = 6 ∨ k = 7 ∨ k = 8 ∨ k = 9 ∨ k = 10 ∨ k = 11 ∨ k = 12 ∨ k = 13 ∨ k = 14 ∨ k = 15 ∨ k = 16 ∨ k = 17 ∨ k = 18 ∨ k = 19 ∨ k = 20 ∨ k = 21 ∨ k = 22 ∨ k = 23 ∨ k = 24 ∨ k = 25 ∨ k = 26 ∨ k = 27 := by omega
    rcases hc with rfl | rfl | rfl | rfl | rfl | rfl | rfl | rfl | rfl | rfl | rfl | rfl | rfl | rfl | rfl | rfl | rfl | rfl | rfl | rfl | rfl | rfl | rfl | rfl | rfl | rfl | rfl | rfl
    · obtain ⟨h2, a, b⟩ := lw_add hx hS i0 i1
      exact ⟨h2, a, eL_law_32_k0.trans b⟩
    · obtain ⟨h2, a, b⟩ := lw_remove hx hS i0 i1
      exact ⟨h2, a, eL_law_32_k1.trans b⟩
    · obtain ⟨h2, a, b⟩ := lw_promote hx hS i0 i1
      exact ⟨h2, a, eL_law_32_k2.trans b⟩
    · obtain ⟨h2, a, b⟩ := lw_demote hx hS i0 i1
      exact ⟨h2, a, eL_law_32_k3.trans b⟩
    · obtain ⟨h2, a, b⟩ := lw_drag hx hS i0 i1
      exact ⟨h2, a, eL_law_32_k4.trans b⟩
    · obtain ⟨h2, a, b⟩ := lw_setKind hx hS i0 i1
      exact ⟨h2, a, eL_law_32_k5.trans b⟩
    · obtain ⟨h2, a, b⟩ := lw_setTags hx hS i0 i1
      exact ⟨h2, a, eL_law_32_k6.trans b⟩
    · obtain ⟨h2, a, b⟩ := lw_fold hx hS i0 i1
      exact ⟨h2, a, eL_law_32_k7.trans b⟩
    · obtain ⟨h2, a, b⟩ := lw_setStart hx hS i0 i1
      exact ⟨h2, a, eL_law_32_k8.trans b⟩
    · obtain ⟨h2, a, b⟩ := lw_setScheme hx hS i0 i1
      exact ⟨h2, a, eL_law_32_k9.trans b⟩
    · obtain ⟨h2, a, b⟩ := lw_setRule hx hS i0 i1
      exact ⟨h2, a, eL_law_32_k10.trans b⟩
    · obtain ⟨h2, a, b⟩ := lw_setFilter hx hS i0 i1
      exact ⟨h2, a, eL_law_32_k11.trans b⟩
    · obtain ⟨h2, a, b⟩ := lw_undo hx hS i0 i1
      exact ⟨h2, a, eL_law_32_k12.trans b⟩
    · obtain ⟨h2, a, b⟩ := lw_refer hx hS i0 i1
      exact ⟨h2, a, eL_law_32_k13.trans b⟩
    · obtain ⟨h2, a, b⟩ := lw_forget hx hS i0 i1
      exact ⟨h2, a, eL_law_32_k14.trans b⟩
    · obtain ⟨h2, a, b⟩ := lw_reference hx hS i0 i1
      exact ⟨h2, a, eL_law_32_k15.trans b⟩
    · obtain ⟨h2, a, b⟩ := lw_referenceText hx hS i0 i1
      exact ⟨h2, a, eL_law_32_k16.trans b⟩
    · obtain ⟨h2, a, b⟩ := lw_told hx hS i0 i1
      exact ⟨h2, a, eL_law_32_k17.trans b⟩
    · obtain ⟨h2, a, b⟩ := lw_headingAt hx hS i0 i1
      exact ⟨h2, a, eL_law_32_k18.trans b⟩
    · obtain ⟨h2, a, b⟩ := lw_shownAt hx hS i0 i1
      exact ⟨h2, a, eL_law_32_k19.trans b⟩
    · obtain ⟨h2, a, b⟩ := lw_heading hx hS i0 i1
      exact ⟨h2, a, eL_law_32_k20.trans b⟩
    · obtain ⟨h2, a, b⟩ := lw_child hx hS i0 i1
      exact ⟨h2, a, eL_law_32_k21.trans b⟩
    · obtain ⟨h2, a, b⟩ := lw_numberText hx hS i0 i1
      exact ⟨h2, a, eL_law_32_k22.trans b⟩
    · obtain ⟨h2, a, b⟩ := lw_write hx hS i0 i1
      exact ⟨h2, a, eL_law_32_k23.trans b⟩
    · obtain ⟨h2, a, b⟩ := lw_wipe hx hS i0 i1
      exact ⟨h2, a, eL_law_32_k24.trans b⟩
    · obtain ⟨h2, a, b⟩ := lw_find hx hS i0 i1
      exact ⟨h2, a, eL_law_32_k25.trans b⟩
    · obtain ⟨h2, a, b⟩ := lw_keep hx hS i0 i1
      exact ⟨h2, a, eL_law_32_k26.trans b⟩
    · obtain ⟨h2, a, b⟩ := lw_back hx hS i0 i1
      exact ⟨h2, a, eL_law_32_k27.trans b⟩
theorem lw_loop {xs : List Int32} (hx : xs.length ≤ 2048) : ∀ (n : Nat) (i : Int) (h : ox_H), Sm xs h → 0 ≤ i → i < 5000 → (xs.length : Int) - i < n → ∃ h', Sm xs h' ∧ oe 154 18 [.ref 0, .ref 4, .ref 133, .int (iI i)] [] h = some (some (.int (iI 1)), h')
  | 0, i, h, hS, i0, i1, hn => by
    have q0 : ox_len h 0 = some xs.length := ox_len_of hS.1
    refine ⟨h, hS, ?_⟩
    rw [eL_law_18]
    simp (disch := omega) only [eL_law_19, eL_law_20, eL_law_21, eL_law_22, eL_law_23, eL_law_26, eL_law_27, eL_law_28, eL_law_29, eL_law_31, eL_law_960, eL_law_961, ox_O_s, ox_B_s, ox_g_t, ox_A_s, ox_push_s, ox_push_n, ox_some, ox_z0, ox_z1, iI_lt, iI_eq, iI_add, iI_sub, if_true, if_false, if_pos, if_neg, iI_len, q0]
  | n + 1, i, h, hS, i0, i1, hn => by
    have q0 : ox_len h 0 = some xs.length := ox_len_of hS.1
    have q1 : ox_ints h 0 ox_isI = some xs := ox_ints_of hS.1 rfl
    by_cases c : (xs.length : Int) - 4 < i
    · refine ⟨h, hS, ?_⟩
      rw [eL_law_18]
      simp (disch := omega) only [eL_law_19, eL_law_20, eL_law_21, eL_law_22, eL_law_23, eL_law_26, eL_law_27, eL_law_28, eL_law_29, eL_law_31, eL_law_960, eL_law_961, ox_O_s, ox_B_s, ox_g_t, ox_A_s, ox_push_s, ox_push_n, ox_some, ox_z0, ox_z1, iI_lt, iI_eq, iI_add, iI_sub, if_true, if_false, if_pos, if_neg, iI_len, q0]
    · obtain ⟨x, e⟩ := xs_at (xs := xs) (i := i) i0 (by omega) (by omega)
      obtain ⟨k, k0, k1, ek⟩ := and31 x
      obtain ⟨h2, hS2, hd⟩ := lw_disp hx hS i0 (by omega) k0 k1
      obtain ⟨h', hS', hl⟩ := lw_loop hx n (i + 4) h2 hS2 (by omega) (by omega) (by omega)
      refine ⟨h', hS', ?_⟩
      rw [eL_law_18]
      simp (disch := omega) only [eL_law_19, eL_law_20, eL_law_21, eL_law_22, eL_law_23, eL_law_26, eL_law_27, eL_law_28, eL_law_29, eL_law_31, eL_law_960, eL_law_961, ox_O_s, ox_B_s, ox_g_t, ox_A_s, ox_push_s, ox_push_n, ox_some, ox_z0, ox_z1, iI_lt, iI_eq, iI_add, iI_sub, if_true, if_false, if_pos, if_neg, iI_len, q0, q1, e, ek, hd]
      simp (disch := omega) only [eL_law_954, eL_law_957, iI_add]
      exact hl
theorem ow_fin : ow_Fin := by
  intro xs hx
  have l4 : (ow_K4 xs).length = 4 := rfl
  have k2 := k2_init (K := ow_K4 xs) l4
  have o2 : ox_obj (ow_K4 xs ++ [.inr (2, ox_dfl 2)]) 4 2 = some (ox_dfl 2) := rfl
  have l133 : (HS (ow_K4 xs) fF aF MF).length = 133 := rfl
  have k3 := k3_init (g := HS (ow_K4 xs) fF aF MF)
  rw [l133] at k3
  have o3 := gl_obj0 (g := HS (ow_K4 xs) fF aF MF) (L := []) (ci := 3) (fs := ox_dfl 3)
  rw [l133] at o3
  obtain ⟨h', hS', hl⟩ := lw_loop hx (xs.length + 1) 0 (hF xs) (hF_Sm xs) (by omega) (by omega) (by omega)
  have key : oe 154 0 [.ref 0, .null, .null, .null] [] (ow_K4 xs) = some (some (.int 1), h') := by
    simp (disch := omega) only [eL_law_0, eL_law_3, eL_law_4, eL_law_7, eL_law_8, eL_law_11, eL_law_12, eL_law_15, eL_law_16, eL_law_17, ox_O_s, ox_B_s, ox_g_t, ox_A_s, ox_push_s, ox_push_n, ox_some, ox_z0, ox_z1, iI_lt, iI_eq, iI_add, iI_sub, if_true, if_false, if_pos, if_neg, l4, o2, k2, l133, o3, k3]
    exact hl
  obtain ⟨n, hn⟩ := oe_iff.mp key
  have hs := sm_sl hx hS'
  exact ⟨n, h', hn, by rw [hs.1]; decide, hs.2⟩
