def kw_4_0 : List (Nat × Cond) := [(400, Cond.classLink "FractalMapsLaw" 13 "java/lang/IndexOutOfBoundsException"), (401, Cond.classLink "FractalMapsLaw" 15 "java/lang/IllegalArgumentException"), (402, Cond.methodLink "FractalMapsLaw" 7 y_F_put), (403, Cond.instanceMethod y_F_put), (404, Cond.selects "FractalMaps" y_F_put y_F_put), (405, Cond.code y_F_put b_F_put 5 (some .int)), (406, Cond.methodLink "FractalMaps" 81 y_G_has), (407, Cond.classLink "FractalMaps" 85 "java/lang/IndexOutOfBoundsException"), (408, Cond.instantiable "java/lang/IndexOutOfBoundsException" 6), (476, Cond.classLink "FractalMaps" 92 "java/lang/IllegalArgumentException"), (477, Cond.instantiable "java/lang/IllegalArgumentException" 6), (492, Cond.methodLink "FractalMapsLaw" 79 y_L_encode), (493, Cond.static y_L_encode), (494, Cond.codeWith y_L_encode b_L_encode 5 (some .int) [(0, 10, 13, 15)]), (495, Cond.methodLink "FractalMapsLaw" 17 y_F_encode)]
theorem kk_4_0 : ∀ (i : Nat) (q : Nat × Cond), kw_4_0[i]? = some q → q.2 ∈ BIG := z_words (by decide +kernel)
theorem k_400 : (Cond.classLink "FractalMapsLaw" 13 "java/lang/IndexOutOfBoundsException") ∈ BIG := kk_4_0 0 (400, Cond.classLink "FractalMapsLaw" 13 "java/lang/IndexOutOfBoundsException") rfl
theorem k_401 : (Cond.classLink "FractalMapsLaw" 15 "java/lang/IllegalArgumentException") ∈ BIG := kk_4_0 1 (401, Cond.classLink "FractalMapsLaw" 15 "java/lang/IllegalArgumentException") rfl
theorem k_402 : (Cond.methodLink "FractalMapsLaw" 7 y_F_put) ∈ BIG := kk_4_0 2 (402, Cond.methodLink "FractalMapsLaw" 7 y_F_put) rfl
theorem k_403 : (Cond.instanceMethod y_F_put) ∈ BIG := kk_4_0 3 (403, Cond.instanceMethod y_F_put) rfl
theorem k_404 : (Cond.selects "FractalMaps" y_F_put y_F_put) ∈ BIG := kk_4_0 4 (404, Cond.selects "FractalMaps" y_F_put y_F_put) rfl
theorem k_405 : (Cond.code y_F_put b_F_put 5 (some .int)) ∈ BIG := kk_4_0 5 (405, Cond.code y_F_put b_F_put 5 (some .int)) rfl
theorem k_406 : (Cond.methodLink "FractalMaps" 81 y_G_has) ∈ BIG := kk_4_0 6 (406, Cond.methodLink "FractalMaps" 81 y_G_has) rfl
theorem k_407 : (Cond.classLink "FractalMaps" 85 "java/lang/IndexOutOfBoundsException") ∈ BIG := kk_4_0 7 (407, Cond.classLink "FractalMaps" 85 "java/lang/IndexOutOfBoundsException") rfl
theorem k_408 : (Cond.instantiable "java/lang/IndexOutOfBoundsException" 6) ∈ BIG := kk_4_0 8 (408, Cond.instantiable "java/lang/IndexOutOfBoundsException" 6) rfl
theorem k_476 : (Cond.classLink "FractalMaps" 92 "java/lang/IllegalArgumentException") ∈ BIG := kk_4_0 9 (476, Cond.classLink "FractalMaps" 92 "java/lang/IllegalArgumentException") rfl
theorem k_477 : (Cond.instantiable "java/lang/IllegalArgumentException" 6) ∈ BIG := kk_4_0 10 (477, Cond.instantiable "java/lang/IllegalArgumentException" 6) rfl
theorem k_492 : (Cond.methodLink "FractalMapsLaw" 79 y_L_encode) ∈ BIG := kk_4_0 11 (492, Cond.methodLink "FractalMapsLaw" 79 y_L_encode) rfl
theorem k_493 : (Cond.static y_L_encode) ∈ BIG := kk_4_0 12 (493, Cond.static y_L_encode) rfl
theorem k_494 : (Cond.codeWith y_L_encode b_L_encode 5 (some .int) [(0, 10, 13, 15)]) ∈ BIG := kk_4_0 13 (494, Cond.codeWith y_L_encode b_L_encode 5 (some .int) [(0, 10, 13, 15)]) rfl
theorem k_495 : (Cond.methodLink "FractalMapsLaw" 17 y_F_encode) ∈ BIG := kk_4_0 14 (495, Cond.methodLink "FractalMapsLaw" 17 y_F_encode) rfl
def kw_4_1 : List (Nat × Cond) := [(496, Cond.instanceMethod y_F_encode), (497, Cond.selects "FractalMaps" y_F_encode y_F_encode), (498, Cond.code y_F_encode b_F_encode 3 (some .int))]
theorem kk_4_1 : ∀ (i : Nat) (q : Nat × Cond), kw_4_1[i]? = some q → q.2 ∈ BIG := z_words (by decide +kernel)
theorem k_496 : (Cond.instanceMethod y_F_encode) ∈ BIG := kk_4_1 0 (496, Cond.instanceMethod y_F_encode) rfl
theorem k_497 : (Cond.selects "FractalMaps" y_F_encode y_F_encode) ∈ BIG := kk_4_1 1 (497, Cond.selects "FractalMaps" y_F_encode y_F_encode) rfl
theorem k_498 : (Cond.code y_F_encode b_F_encode 3 (some .int)) ∈ BIG := kk_4_1 2 (498, Cond.code y_F_encode b_F_encode 3 (some .int)) rfl
