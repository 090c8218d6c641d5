theorem zxl_IA : Cond.castable "java/lang/IllegalArgumentException" "java/lang/IllegalArgumentException" ∈ zXl := List.mem_of_getElem? (i := 0) rfl
theorem zxl_IS : Cond.castable "java/lang/IllegalStateException" "java/lang/IllegalStateException" ∈ zXl := List.mem_of_getElem? (i := 1) rfl
theorem zxl_IO : Cond.castable "java/lang/IndexOutOfBoundsException" "java/lang/IndexOutOfBoundsException" ∈ zXl := List.mem_of_getElem? (i := 2) rfl
theorem znc_IS_IA : ("java/lang/IllegalStateException", "java/lang/IllegalArgumentException") ∈ zNcs := List.mem_of_getElem? (i := 0) rfl
theorem znc_IA_IO : ("java/lang/IllegalArgumentException", "java/lang/IndexOutOfBoundsException") ∈ zNcs := List.mem_of_getElem? (i := 1) rfl
