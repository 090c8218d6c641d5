theorem zkd_X4_240 : Cond.constantDouble RX4 240 (4611686018427387904) ∈ zTbl := zq2 (List.mem_of_getElem? (i := 158) rfl) rfl
theorem zkd_X4_242 : Cond.constantDouble RX4 242 (4841369599423283200) ∈ zTbl := zq2 (List.mem_of_getElem? (i := 159) rfl) rfl
theorem zc_L_zone : Cond.codeWith yL_zone cL_zone 5 (some FieldType.int) [(0, 10, 13, 13), (0, 10, 17, 15)] ∈ zTbl := zq2 (List.mem_of_getElem? (i := 162) rfl) rfl
theorem zca_IllegalArgumentException : Cond.castable "java/lang/IllegalArgumentException" "java/lang/IllegalArgumentException" ∈ lw_tbl := zq2_in (List.mem_of_getElem? (i := 172) rfl)
theorem zls_UNASSIGNED_STACK : Cond.laysStatic "java/lang/Throwable" "UNASSIGNED_STACK" "[Ljava/lang/StackTraceElement;" ∈ lw_tbl := zq2_in (List.mem_of_getElem? (i := 197) rfl)
theorem zls_SUPPRESSED_SENTINEL : Cond.laysStatic "java/lang/Throwable" "SUPPRESSED_SENTINEL" "Ljava/util/List;" ∈ lw_tbl := zq2_in (List.mem_of_getElem? (i := 199) rfl)
theorem zsr_47 : Cond.stringRef RX4 47 "density is 0 to 24, wanted is 0 to 10" ∈ lw_tbl := zq2_in (List.mem_of_getElem? (i := 211) rfl)
theorem zca_IllegalStateException : Cond.castable "java/lang/IllegalStateException" "java/lang/IllegalStateException" ∈ lw_tbl := zq3_in (List.mem_of_getElem? (i := 4) rfl)
theorem zsr_58 : Cond.stringRef RX4 58 "there are 8 zones" ∈ lw_tbl := zq3_in (List.mem_of_getElem? (i := 11) rfl)
theorem zc_L_want : Cond.codeWith yL_want cL_want 5 (some FieldType.int) [(0, 10, 13, 20), (0, 10, 17, 13)] ∈ zTbl := zq3 (List.mem_of_getElem? (i := 24) rfl) rfl
theorem zca_IndexOutOfBoundsException : Cond.castable "java/lang/IndexOutOfBoundsException" "java/lang/IndexOutOfBoundsException" ∈ lw_tbl := zq3_in (List.mem_of_getElem? (i := 32) rfl)
theorem zsr_75 : Cond.stringRef RX4 75 "no such zone" ∈ lw_tbl := zq3_in (List.mem_of_getElem? (i := 39) rfl)
theorem zsr_78 : Cond.stringRef RX4 78 "wanted is 0 to 10" ∈ lw_tbl := zq3_in (List.mem_of_getElem? (i := 46) rfl)
theorem zc_L_link : Cond.codeWith yL_link cL_link 5 (some FieldType.int) [(0, 10, 13, 20), (0, 10, 17, 13)] ∈ zTbl := zq3 (List.mem_of_getElem? (i := 49) rfl) rfl
theorem zsr_83 : Cond.stringRef RX4 83 "a zone is not its own neighbour" ∈ lw_tbl := zq3_in (List.mem_of_getElem? (i := 54) rfl)
theorem zc_L_expose : Cond.codeWith yL_expose cL_expose 4 (some FieldType.int) [(0, 9, 12, 13)] ∈ zTbl := zq3 (List.mem_of_getElem? (i := 65) rfl) rfl
theorem zsr_93 : Cond.stringRef RX4 93 "time is 1 to 2000" ∈ lw_tbl := zq3_in (List.mem_of_getElem? (i := 70) rfl)
theorem zc_L_burn : Cond.codeWith yL_burn cL_burn 5 (some FieldType.int) [(0, 10, 13, 20), (0, 10, 17, 13)] ∈ zTbl := zq3 (List.mem_of_getElem? (i := 73) rfl) rfl
theorem zsr_102 : Cond.stringRef RX4 102 "time is 0 to 999" ∈ lw_tbl := zq3_in (List.mem_of_getElem? (i := 78) rfl)
theorem zc_L_hold : Cond.codeWith yL_hold cL_hold 5 (some FieldType.int) [(0, 10, 13, 20), (0, 10, 17, 13)] ∈ zTbl := zq3 (List.mem_of_getElem? (i := 81) rfl) rfl
theorem zc_L_paper : Cond.codeWith yL_paper cL_paper 5 (some FieldType.int) [(0, 10, 13, 13)] ∈ zTbl := zq3 (List.mem_of_getElem? (i := 88) rfl) rfl
theorem zsr_113 : Cond.stringRef RX4 113 "grade is 0 to 5, speed is 10 to 999" ∈ lw_tbl := zq3_in (List.mem_of_getElem? (i := 93) rfl)
theorem zc_L_set : Cond.codeWith yL_set cL_set 4 (some FieldType.int) [(0, 9, 12, 13)] ∈ zTbl := zq3 (List.mem_of_getElem? (i := 96) rfl) rfl
theorem zsr_128 : Cond.stringRef RX4 128 "spill is 0 to 50" ∈ lw_tbl := zq3_in (List.mem_of_getElem? (i := 101) rfl)
theorem zc_L_append : Cond.codeWith yL_append cL_append 4 (some FieldType.int) [(0, 9, 12, 13), (0, 9, 15, 15)] ∈ zTbl := zq3 (List.mem_of_getElem? (i := 104) rfl) rfl
theorem zsr_133 : Cond.stringRef RX4 133 "code is 33 to 126" ∈ lw_tbl := zq3_in (List.mem_of_getElem? (i := 109) rfl)
theorem zsr_135 : Cond.stringRef RX4 135 "the buffer has 60 characters" ∈ lw_tbl := zq3_in (List.mem_of_getElem? (i := 110) rfl)
theorem zc_L_run : Cond.codeWith yL_run cL_run 3 (some FieldType.int) [(0, 8, 11, 13)] ∈ zTbl := zq3 (List.mem_of_getElem? (i := 113) rfl) rfl
theorem zsr_150 : Cond.stringRef RX4 150 "the buffer is not a complete print" ∈ lw_tbl := zq3_in (List.mem_of_getElem? (i := 123) rfl)
theorem zc_L_undo : Cond.codeWith yL_undo cL_undo 3 (some FieldType.int) [(0, 8, 11, 15)] ∈ zTbl := zq3 (List.mem_of_getElem? (i := 138) rfl) rfl
theorem zsr_158 : Cond.stringRef RX4 158 "there is no saved state" ∈ lw_tbl := zq3_in (List.mem_of_getElem? (i := 143) rfl)
theorem zc_L_zoneOf : Cond.codeWith yL_zoneOf cL_zoneOf 5 (some FieldType.int) [(0, 10, 13, 20), (0, 10, 17, 13)] ∈ zTbl := zq3 (List.mem_of_getElem? (i := 150) rfl) rfl
theorem zsr_163 : Cond.stringRef RX4 163 "what is 0 to 10" ∈ lw_tbl := zq3_in (List.mem_of_getElem? (i := 155) rfl)
theorem zc_L_mark : Cond.codeWith yL_mark cL_mark 4 (some FieldType.int) [(0, 9, 12, 13)] ∈ zTbl := zq3 (List.mem_of_getElem? (i := 158) rfl) rfl
theorem zsr_168 : Cond.stringRef RX4 168 "tone is 1 to 10" ∈ lw_tbl := zq3_in (List.mem_of_getElem? (i := 163) rfl)
theorem zc_L_strip : Cond.codeWith yL_strip cL_strip 7 (some FieldType.int) [(0, 14, 17, 20), (0, 14, 21, 13)] ∈ zTbl := zq3 (List.mem_of_getElem? (i := 166) rfl) rfl
theorem zsr_173 : Cond.stringRef RX4 173 "first is 1 to 999, times is 1 to 9, what is 0 to 3" ∈ lw_tbl := zq3_in (List.mem_of_getElem? (i := 171) rfl)
theorem zc_L_count : Cond.codeWith yL_count cL_count 4 (some FieldType.int) [(0, 9, 12, 13)] ∈ zTbl := zq3 (List.mem_of_getElem? (i := 174) rfl) rfl
theorem zsr_179 : Cond.stringRef RX4 179 "what is 0 to 11" ∈ lw_tbl := zq3_in (List.mem_of_getElem? (i := 179) rfl)
theorem zc_L_ifExposed : Cond.codeWith yL_ifExposed cL_ifExposed 5 (some FieldType.int) [(0, 10, 13, 13)] ∈ zTbl := zq3 (List.mem_of_getElem? (i := 182) rfl) rfl
theorem zsr_184 : Cond.stringRef RX4 184 "time is 1 to 2000, what is 0 or 1" ∈ lw_tbl := zq3_in (List.mem_of_getElem? (i := 187) rfl)
theorem zc_L_ifBurned : Cond.codeWith yL_ifBurned cL_ifBurned 6 (some FieldType.int) [(0, 12, 15, 20), (0, 12, 19, 13)] ∈ zTbl := zq3 (List.mem_of_getElem? (i := 190) rfl) rfl
theorem zsr_202 : Cond.stringRef RX4 202 "time is 0 to 999, what is 0 or 1" ∈ lw_tbl := zq3_in (List.mem_of_getElem? (i := 195) rfl)
theorem zc_L_common : Cond.codeWith yL_common cL_common 4 (some FieldType.int) [(0, 9, 12, 13)] ∈ zTbl := zq3 (List.mem_of_getElem? (i := 198) rfl) rfl
theorem zsr_208 : Cond.stringRef RX4 208 "what is 0 or 1" ∈ lw_tbl := zq3_in (List.mem_of_getElem? (i := 203) rfl)
theorem zkd_X5_215 : Cond.constantDouble RX5 215 (4611686018427387904) ∈ zTbl := zq5 (List.mem_of_getElem? (i := 76) rfl) rfl
theorem zkd_X5_219 : Cond.constantDouble RX5 219 (4841369599423283200) ∈ zTbl := zq5 (List.mem_of_getElem? (i := 78) rfl) rfl
