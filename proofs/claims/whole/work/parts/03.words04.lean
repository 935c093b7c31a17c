def kw_4_0 : List (Nat × Cond) := [(405, Cond.code y_F_put b_F_put 5 (some .int)), (406, Cond.methodLink "FractalMaps" 81 y_G_has), (407, Cond.classLink "FractalMaps" 85 "java/lang/IndexOutOfBoundsException"), (408, Cond.instantiable "java/lang/IndexOutOfBoundsException" 6), (476, Cond.classLink "FractalMaps" 92 "java/lang/IllegalArgumentException"), (477, Cond.instantiable "java/lang/IllegalArgumentException" 6), (498, Cond.code y_F_encode b_F_encode 3 (some .int))]
theorem kk_4_0 : ∀ (i : Nat) (q : Nat × Cond), kw_4_0[i]? = some q → q.2 ∈ BIG := z_words (by decide +kernel)
theorem k_405 : (Cond.code y_F_put b_F_put 5 (some .int)) ∈ BIG := kk_4_0 0 (405, Cond.code y_F_put b_F_put 5 (some .int)) rfl
theorem k_406 : (Cond.methodLink "FractalMaps" 81 y_G_has) ∈ BIG := kk_4_0 1 (406, Cond.methodLink "FractalMaps" 81 y_G_has) rfl
theorem k_407 : (Cond.classLink "FractalMaps" 85 "java/lang/IndexOutOfBoundsException") ∈ BIG := kk_4_0 2 (407, Cond.classLink "FractalMaps" 85 "java/lang/IndexOutOfBoundsException") rfl
theorem k_408 : (Cond.instantiable "java/lang/IndexOutOfBoundsException" 6) ∈ BIG := kk_4_0 3 (408, Cond.instantiable "java/lang/IndexOutOfBoundsException" 6) rfl
theorem k_476 : (Cond.classLink "FractalMaps" 92 "java/lang/IllegalArgumentException") ∈ BIG := kk_4_0 4 (476, Cond.classLink "FractalMaps" 92 "java/lang/IllegalArgumentException") rfl
theorem k_477 : (Cond.instantiable "java/lang/IllegalArgumentException" 6) ∈ BIG := kk_4_0 5 (477, Cond.instantiable "java/lang/IllegalArgumentException" 6) rfl
theorem k_498 : (Cond.code y_F_encode b_F_encode 3 (some .int)) ∈ BIG := kk_4_0 6 (498, Cond.code y_F_encode b_F_encode 3 (some .int)) rfl
