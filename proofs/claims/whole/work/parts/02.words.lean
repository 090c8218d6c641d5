def zTbl : List Cond := lw_tbl.filter goodWord
theorem zTbl_in : ∀ w ∈ zTbl, w ∈ lw_tbl := fun _ h => (List.mem_filter.mp h).1
theorem zTbl_good : ∀ w ∈ zTbl, goodWord w = true := fun _ h => (List.mem_filter.mp h).2
theorem zq0 {w : Cond} (h : w ∈ k2_sels lw_privs) (g : goodWord w = true) : w ∈ zTbl := List.mem_filter.mpr ⟨List.mem_append_left _ h, g⟩
theorem zq1_in {w : Cond} (h : w ∈ tables_1_1) : w ∈ lw_tbl := List.mem_append_right _ (show w ∈ tables_1 from List.mem_append_left _ h)
theorem zq1 {w : Cond} (h : w ∈ tables_1_1) (g : goodWord w = true) : w ∈ zTbl := List.mem_filter.mpr ⟨zq1_in h, g⟩
theorem zq2_in {w : Cond} (h : w ∈ tables_1_2) : w ∈ lw_tbl := List.mem_append_right _ (show w ∈ tables_1 from List.mem_append_right _ (List.mem_append_left _ h))
theorem zq2 {w : Cond} (h : w ∈ tables_1_2) (g : goodWord w = true) : w ∈ zTbl := List.mem_filter.mpr ⟨zq2_in h, g⟩
theorem zq3_in {w : Cond} (h : w ∈ tables_1_3) : w ∈ lw_tbl := List.mem_append_right _ (show w ∈ tables_1 from List.mem_append_right _ (List.mem_append_right _ (List.mem_append_left _ h)))
theorem zq3 {w : Cond} (h : w ∈ tables_1_3) (g : goodWord w = true) : w ∈ zTbl := List.mem_filter.mpr ⟨zq3_in h, g⟩
theorem zq4_in {w : Cond} (h : w ∈ tables_1_4) : w ∈ lw_tbl := List.mem_append_right _ (show w ∈ tables_1 from List.mem_append_right _ (List.mem_append_right _ (List.mem_append_right _ (List.mem_append_left _ h))))
theorem zq4 {w : Cond} (h : w ∈ tables_1_4) (g : goodWord w = true) : w ∈ zTbl := List.mem_filter.mpr ⟨zq4_in h, g⟩
theorem zq5_in {w : Cond} (h : w ∈ tables_1_5) : w ∈ lw_tbl := List.mem_append_right _ (show w ∈ tables_1 from List.mem_append_right _ (List.mem_append_right _ (List.mem_append_right _ (List.mem_append_right _ h))))
theorem zq5 {w : Cond} (h : w ∈ tables_1_5) (g : goodWord w = true) : w ∈ zTbl := List.mem_filter.mpr ⟨zq5_in h, g⟩
theorem zs_X3_middleNeed : Cond.selects RX3 yX3_middleNeed yX3_middleNeed ∈ zTbl := zq0 (List.mem_of_getElem? (i := 0) rfl) rfl
theorem zs_X3_sortIn : Cond.selects RX3 yX3_sortIn yX3_sortIn ∈ zTbl := zq0 (List.mem_of_getElem? (i := 1) rfl) rfl
theorem zs_X3_correct : Cond.selects RX3 yX3_correct yX3_correct ∈ zTbl := zq0 (List.mem_of_getElem? (i := 2) rfl) rfl
theorem zs_X1_acceptsLetter : Cond.selects RX1 yX1_acceptsLetter yX1_acceptsLetter ∈ zTbl := zq0 (List.mem_of_getElem? (i := 3) rfl) rfl
theorem zs_X1_acceptsFirst : Cond.selects RX1 yX1_acceptsFirst yX1_acceptsFirst ∈ zTbl := zq0 (List.mem_of_getElem? (i := 4) rfl) rfl
theorem zs_X1_separator : Cond.selects RX1 yX1_separator yX1_separator ∈ zTbl := zq0 (List.mem_of_getElem? (i := 5) rfl) rfl
theorem zs_X1_mostFirst : Cond.selects RX1 yX1_mostFirst yX1_mostFirst ∈ zTbl := zq0 (List.mem_of_getElem? (i := 6) rfl) rfl
theorem zs_X1_acceptsLast : Cond.selects RX1 yX1_acceptsLast yX1_acceptsLast ∈ zTbl := zq0 (List.mem_of_getElem? (i := 7) rfl) rfl
theorem zs_X1_leastLast : Cond.selects RX1 yX1_leastLast yX1_leastLast ∈ zTbl := zq0 (List.mem_of_getElem? (i := 8) rfl) rfl
theorem zs_X1_mostLast : Cond.selects RX1 yX1_mostLast yX1_mostLast ∈ zTbl := zq0 (List.mem_of_getElem? (i := 9) rfl) rfl
theorem zs_X4_numberOf : Cond.selects RX4 yX4_numberOf yX4_numberOf ∈ zTbl := zq0 (List.mem_of_getElem? (i := 10) rfl) rfl
theorem zs_X4_tryBurn : Cond.selects RX4 yX4_tryBurn yX4_tryBurn ∈ zTbl := zq0 (List.mem_of_getElem? (i := 11) rfl) rfl
theorem zs_X4_tryTime : Cond.selects RX4 yX4_tryTime yX4_tryTime ∈ zTbl := zq0 (List.mem_of_getElem? (i := 12) rfl) rfl
theorem zs_X4_doOrders : Cond.selects RX4 yX4_doOrders yX4_doOrders ∈ zTbl := zq0 (List.mem_of_getElem? (i := 14) rfl) rfl
theorem zs_X4_isLastOfOrder : Cond.selects RX4 yX4_isLastOfOrder yX4_isLastOfOrder ∈ zTbl := zq0 (List.mem_of_getElem? (i := 15) rfl) rfl
theorem zs_X4_doOrder : Cond.selects RX4 yX4_doOrder yX4_doOrder ∈ zTbl := zq0 (List.mem_of_getElem? (i := 16) rfl) rfl
theorem zs_X5_zoneFault : Cond.selects RX5 yX5_zoneFault yX5_zoneFault ∈ zTbl := zq0 (List.mem_of_getElem? (i := 17) rfl) rfl
theorem zs_X5_holds : Cond.selects RX5 yX5_holds yX5_holds ∈ zTbl := zq0 (List.mem_of_getElem? (i := 18) rfl) rfl
theorem zs_X5_save : Cond.selects RX5 yX5_save yX5_save ∈ zTbl := zq0 (List.mem_of_getElem? (i := 19) rfl) rfl
theorem zs_X5_zones : Cond.selects RX5 yX5_zones yX5_zones ∈ zTbl := zq0 (List.mem_of_getElem? (i := 20) rfl) rfl
theorem zs_X5_isZone : Cond.selects RX5 yX5_isZone yX5_isZone ∈ zTbl := zq0 (List.mem_of_getElem? (i := 21) rfl) rfl
theorem zs_X5_turnLink : Cond.selects RX5 yX5_turnLink yX5_turnLink ∈ zTbl := zq0 (List.mem_of_getElem? (i := 22) rfl) rfl
theorem zs_X5_areLinked : Cond.selects RX5 yX5_areLinked yX5_areLinked ∈ zTbl := zq0 (List.mem_of_getElem? (i := 23) rfl) rfl
theorem zs_X5_exposes : Cond.selects RX5 yX5_exposes yX5_exposes ∈ zTbl := zq0 (List.mem_of_getElem? (i := 24) rfl) rfl
theorem zs_X5_right : Cond.selects RX5 yX5_right yX5_right ∈ zTbl := zq0 (List.mem_of_getElem? (i := 25) rfl) rfl
theorem zs_X5_isRight : Cond.selects RX5 yX5_isRight yX5_isRight ∈ zTbl := zq0 (List.mem_of_getElem? (i := 26) rfl) rfl
theorem zs_X5_tone : Cond.selects RX5 yX5_tone yX5_tone ∈ zTbl := zq0 (List.mem_of_getElem? (i := 27) rfl) rfl
theorem zs_X5_timeOf : Cond.selects RX5 yX5_timeOf yX5_timeOf ∈ zTbl := zq0 (List.mem_of_getElem? (i := 28) rfl) rfl
theorem zs_X5_spilled : Cond.selects RX5 yX5_spilled yX5_spilled ∈ zTbl := zq0 (List.mem_of_getElem? (i := 29) rfl) rfl
theorem zs_X5_toneBy : Cond.selects RX5 yX5_toneBy yX5_toneBy ∈ zTbl := zq0 (List.mem_of_getElem? (i := 30) rfl) rfl
theorem zs_X5_toneOf : Cond.selects RX5 yX5_toneOf yX5_toneOf ∈ zTbl := zq0 (List.mem_of_getElem? (i := 31) rfl) rfl
theorem zs_X5_findMarks : Cond.selects RX5 yX5_findMarks yX5_findMarks ∈ zTbl := zq0 (List.mem_of_getElem? (i := 32) rfl) rfl
theorem zs_X5_partFault : Cond.selects RX5 yX5_partFault yX5_partFault ∈ zTbl := zq0 (List.mem_of_getElem? (i := 33) rfl) rfl
theorem zs_X5_parts : Cond.selects RX5 yX5_parts yX5_parts ∈ zTbl := zq0 (List.mem_of_getElem? (i := 34) rfl) rfl
theorem zs_X5_plans : Cond.selects RX5 yX5_plans yX5_plans ∈ zTbl := zq0 (List.mem_of_getElem? (i := 35) rfl) rfl
theorem zs_X5_middleTime : Cond.selects RX5 yX5_middleTime yX5_middleTime ∈ zTbl := zq0 (List.mem_of_getElem? (i := 36) rfl) rfl
theorem zs_X5_leastNeeded : Cond.selects RX5 yX5_leastNeeded yX5_leastNeeded ∈ zTbl := zq0 (List.mem_of_getElem? (i := 37) rfl) rfl
theorem zs_X5_leastFor : Cond.selects RX5 yX5_leastFor yX5_leastFor ∈ zTbl := zq0 (List.mem_of_getElem? (i := 38) rfl) rfl
theorem zs_X5_go : Cond.selects RX5 yX5_go yX5_go ∈ zTbl := zq0 (List.mem_of_getElem? (i := 39) rfl) rfl
theorem zs_X5_order : Cond.selects RX5 yX5_order yX5_order ∈ zTbl := zq0 (List.mem_of_getElem? (i := 40) rfl) rfl
theorem zs_X5_number : Cond.selects RX5 yX5_number yX5_number ∈ zTbl := zq0 (List.mem_of_getElem? (i := 41) rfl) rfl
theorem zs_X5_sign : Cond.selects RX5 yX5_sign yX5_sign ∈ zTbl := zq0 (List.mem_of_getElem? (i := 42) rfl) rfl
theorem zs_X5_does : Cond.selects RX5 yX5_does yX5_does ∈ zTbl := zq0 (List.mem_of_getElem? (i := 43) rfl) rfl
theorem zs_X5_ofZone : Cond.selects RX5 yX5_ofZone yX5_ofZone ∈ zTbl := zq0 (List.mem_of_getElem? (i := 44) rfl) rfl
theorem zs_X5_greatestNeeded : Cond.selects RX5 yX5_greatestNeeded yX5_greatestNeeded ∈ zTbl := zq0 (List.mem_of_getElem? (i := 45) rfl) rfl
theorem zs_X5_markOf : Cond.selects RX5 yX5_markOf yX5_markOf ∈ zTbl := zq0 (List.mem_of_getElem? (i := 46) rfl) rfl
theorem zs_X5_stripOf : Cond.selects RX5 yX5_stripOf yX5_stripOf ∈ zTbl := zq0 (List.mem_of_getElem? (i := 47) rfl) rfl
theorem zs_X5_counted : Cond.selects RX5 yX5_counted yX5_counted ∈ zTbl := zq0 (List.mem_of_getElem? (i := 48) rfl) rfl
theorem zs_X5_sum : Cond.selects RX5 yX5_sum yX5_sum ∈ zTbl := zq0 (List.mem_of_getElem? (i := 49) rfl) rfl
theorem zs_X5_exposed : Cond.selects RX5 yX5_exposed yX5_exposed ∈ zTbl := zq0 (List.mem_of_getElem? (i := 50) rfl) rfl
theorem zs_X5_off : Cond.selects RX5 yX5_off yX5_off ∈ zTbl := zq0 (List.mem_of_getElem? (i := 51) rfl) rfl
theorem zs_X5_best : Cond.selects RX5 yX5_best yX5_best ∈ zTbl := zq0 (List.mem_of_getElem? (i := 52) rfl) rfl
theorem zs_X5_bestPaper : Cond.selects RX5 yX5_bestPaper yX5_bestPaper ∈ zTbl := zq0 (List.mem_of_getElem? (i := 53) rfl) rfl
theorem zs_X5_putAside : Cond.selects RX5 yX5_putAside yX5_putAside ∈ zTbl := zq0 (List.mem_of_getElem? (i := 54) rfl) rfl
theorem zs_X5_putBack : Cond.selects RX5 yX5_putBack yX5_putBack ∈ zTbl := zq0 (List.mem_of_getElem? (i := 55) rfl) rfl
theorem zs_X5_burned : Cond.selects RX5 yX5_burned yX5_burned ∈ zTbl := zq0 (List.mem_of_getElem? (i := 56) rfl) rfl
theorem zs_X5_together : Cond.selects RX5 yX5_together yX5_together ∈ zTbl := zq0 (List.mem_of_getElem? (i := 57) rfl) rfl
theorem zs_X5_share : Cond.selects RX5 yX5_share yX5_share ∈ zTbl := zq0 (List.mem_of_getElem? (i := 58) rfl) rfl
theorem zs_X5_digestOne : Cond.selects RX5 yX5_digestOne yX5_digestOne ∈ zTbl := zq0 (List.mem_of_getElem? (i := 59) rfl) rfl
theorem zn_L : Cond.initialized RL ∈ zTbl := zq1 (List.mem_of_getElem? (i := 0) rfl) rfl
theorem zn_X4 : Cond.initialized RX4 ∈ zTbl := zq1 (List.mem_of_getElem? (i := 1) rfl) rfl
theorem zn_X3 : Cond.initialized RX3 ∈ zTbl := zq1 (List.mem_of_getElem? (i := 2) rfl) rfl
theorem zn_X2 : Cond.initialized RX2 ∈ zTbl := zq1 (List.mem_of_getElem? (i := 3) rfl) rfl
theorem zn_J9 : Cond.initialized RJ9 ∈ zTbl := zq1 (List.mem_of_getElem? (i := 4) rfl) rfl
theorem zn_X0 : Cond.initialized RX0 ∈ zTbl := zq1 (List.mem_of_getElem? (i := 5) rfl) rfl
theorem zn_X1 : Cond.initialized RX1 ∈ zTbl := zq1 (List.mem_of_getElem? (i := 6) rfl) rfl
theorem zn_X5 : Cond.initialized RX5 ∈ zTbl := zq1 (List.mem_of_getElem? (i := 7) rfl) rfl
theorem zn_Throwable : Cond.initialized "java/lang/Throwable" ∈ zTbl := zq1 (List.mem_of_getElem? (i := 8) rfl) rfl
theorem zn_Exception : Cond.initialized "java/lang/Exception" ∈ zTbl := zq1 (List.mem_of_getElem? (i := 9) rfl) rfl
theorem zn_RuntimeException : Cond.initialized "java/lang/RuntimeException" ∈ zTbl := zq1 (List.mem_of_getElem? (i := 10) rfl) rfl
theorem zn_IllegalArgumentException : Cond.initialized "java/lang/IllegalArgumentException" ∈ zTbl := zq1 (List.mem_of_getElem? (i := 11) rfl) rfl
theorem zn_IllegalStateException : Cond.initialized "java/lang/IllegalStateException" ∈ zTbl := zq1 (List.mem_of_getElem? (i := 12) rfl) rfl
theorem zn_IndexOutOfBoundsException : Cond.initialized "java/lang/IndexOutOfBoundsException" ∈ zTbl := zq1 (List.mem_of_getElem? (i := 13) rfl) rfl
theorem zn_J6 : Cond.initialized RJ6 ∈ zTbl := zq1 (List.mem_of_getElem? (i := 14) rfl) rfl
theorem zl_L_8 : Cond.classLink RL 8 RX4 ∈ zTbl := zq1 (List.mem_of_getElem? (i := 15) rfl) rfl
theorem zo_X4 : Cond.instantiable RX4 6 ∈ zTbl := zq1 (List.mem_of_getElem? (i := 16) rfl) rfl
theorem zm_L_74 : Cond.methodLink RL 74 yX4_init ∈ zTbl := zq1 (List.mem_of_getElem? (i := 17) rfl) rfl
theorem zi_X4_init : Cond.instanceMethod yX4_init ∈ zTbl := zq1 (List.mem_of_getElem? (i := 18) rfl) rfl
theorem zc_X4_init : Cond.code yX4_init cX4_init 1 (none : Option FieldType) ∈ zTbl := zq1 (List.mem_of_getElem? (i := 19) rfl) rfl
theorem zm_X4_1 : Cond.methodLink RX4 1 objectInit ∈ zTbl := zq1 (List.mem_of_getElem? (i := 20) rfl) rfl
theorem zi_objectInit : Cond.instanceMethod objectInit ∈ zTbl := zq1 (List.mem_of_getElem? (i := 21) rfl) rfl
theorem zc_objectInit : Cond.code objectInit ⟨#[0xb1]⟩ 1 none ∈ zTbl := zq1 (List.mem_of_getElem? (i := 22) rfl) rfl
theorem zl_X4_7 : Cond.classLink RX4 7 RX3 ∈ zTbl := zq1 (List.mem_of_getElem? (i := 23) rfl) rfl
theorem zo_X3 : Cond.instantiable RX3 10 ∈ zTbl := zq1 (List.mem_of_getElem? (i := 24) rfl) rfl
theorem zm_X4_9 : Cond.methodLink RX4 9 yX3_init ∈ zTbl := zq1 (List.mem_of_getElem? (i := 25) rfl) rfl
theorem zi_X3_init : Cond.instanceMethod yX3_init ∈ zTbl := zq1 (List.mem_of_getElem? (i := 26) rfl) rfl
theorem zc_X3_init : Cond.code yX3_init cX3_init 1 (none : Option FieldType) ∈ zTbl := zq1 (List.mem_of_getElem? (i := 27) rfl) rfl
theorem zm_X3_3 : Cond.methodLink RX3 3 objectInit ∈ zTbl := zq1 (List.mem_of_getElem? (i := 28) rfl) rfl
theorem zl_X3_9 : Cond.classLink RX3 9 RX2 ∈ zTbl := zq1 (List.mem_of_getElem? (i := 29) rfl) rfl
theorem zo_X2 : Cond.instantiable RX2 3 ∈ zTbl := zq1 (List.mem_of_getElem? (i := 30) rfl) rfl
theorem zm_X3_11 : Cond.methodLink RX3 11 yX2_init ∈ zTbl := zq1 (List.mem_of_getElem? (i := 31) rfl) rfl
theorem zi_X2_init : Cond.instanceMethod yX2_init ∈ zTbl := zq1 (List.mem_of_getElem? (i := 32) rfl) rfl
theorem zc_X2_init : Cond.code yX2_init cX2_init 1 (none : Option FieldType) ∈ zTbl := zq1 (List.mem_of_getElem? (i := 33) rfl) rfl
theorem zm_X2_3 : Cond.methodLink RX2 3 objectInit ∈ zTbl := zq1 (List.mem_of_getElem? (i := 34) rfl) rfl
theorem zm_X2_15 : Cond.methodLink RX2 15 yX2_take ∈ zTbl := zq1 (List.mem_of_getElem? (i := 35) rfl) rfl
theorem zi_X2_take : Cond.instanceMethod yX2_take ∈ zTbl := zq1 (List.mem_of_getElem? (i := 36) rfl) rfl
theorem zs_X2_take : Cond.selects RX2 yX2_take yX2_take ∈ zTbl := zq1 (List.mem_of_getElem? (i := 37) rfl) rfl
theorem zc_X2_take : Cond.code yX2_take cX2_take 6 (none : Option FieldType) ∈ zTbl := zq1 (List.mem_of_getElem? (i := 38) rfl) rfl
theorem zf_X2_19 : Cond.fieldLink RX2 19 "ZonePrint$Paper" "STEPS" "[I" ∈ zTbl := zq1 (List.mem_of_getElem? (i := 39) rfl) rfl
theorem zk_X2_29 : Cond.constantLong RX2 29 (100) ∈ zTbl := zq1 (List.mem_of_getElem? (i := 41) rfl) rfl
theorem zk_X2_31 : Cond.constantLong RX2 31 (1000) ∈ zTbl := zq1 (List.mem_of_getElem? (i := 42) rfl) rfl
theorem zm_X2_33 : Cond.methodLink RX2 33 yJ9_max_f86c9 ∈ zTbl := zq1 (List.mem_of_getElem? (i := 43) rfl) rfl
theorem zt_J9_max_f86c9 : Cond.static yJ9_max_f86c9 ∈ zTbl := zq1 (List.mem_of_getElem? (i := 44) rfl) rfl
theorem zc_J9_max_f86c9 : Cond.code yJ9_max_f86c9 cJ9_max_f86c9 4 (some FieldType.long) ∈ zTbl := zq1 (List.mem_of_getElem? (i := 45) rfl) rfl
theorem zf_X2_9 : Cond.fieldLink RX2 9 "ZonePrint$Paper" "marks" "[I" ∈ zTbl := zq1 (List.mem_of_getElem? (i := 46) rfl) rfl
theorem zf_X2_22 : Cond.fieldLink RX2 22 "ZonePrint$Paper" "grade" "I" ∈ zTbl := zq1 (List.mem_of_getElem? (i := 48) rfl) rfl
theorem zf_X2_26 : Cond.fieldLink RX2 26 "ZonePrint$Paper" "speed" "I" ∈ zTbl := zq1 (List.mem_of_getElem? (i := 51) rfl) rfl
theorem zy_113 : Cond.laysFinal "ZonePrint$Paper" "ZonePrint$Paper" "marks" "[I" ∈ zTbl := zq1 (List.mem_of_getElem? (i := 53) rfl) rfl
theorem zy_114 : Cond.soleField "ZonePrint$Paper" "marks" ∈ zTbl := zq1 (List.mem_of_getElem? (i := 54) rfl) rfl
theorem zy_115 : Cond.lays "ZonePrint$Paper" "ZonePrint$Paper" "grade" "I" ∈ zTbl := zq1 (List.mem_of_getElem? (i := 55) rfl) rfl
theorem zy_116 : Cond.soleField "ZonePrint$Paper" "grade" ∈ zTbl := zq1 (List.mem_of_getElem? (i := 56) rfl) rfl
theorem zy_117 : Cond.lays "ZonePrint$Paper" "ZonePrint$Paper" "speed" "I" ∈ zTbl := zq1 (List.mem_of_getElem? (i := 57) rfl) rfl
theorem zy_118 : Cond.soleField "ZonePrint$Paper" "speed" ∈ zTbl := zq1 (List.mem_of_getElem? (i := 58) rfl) rfl
theorem za_120 : Cond.arrayClass FieldType.int ∈ zTbl := zq1 (List.mem_of_getElem? (i := 60) rfl) rfl
theorem zf_X3_12 : Cond.fieldLink RX3 12 "ZonePrint$Print" "paper" "LZonePrint$Paper;" ∈ zTbl := zq1 (List.mem_of_getElem? (i := 61) rfl) rfl
theorem zf_X3_18 : Cond.fieldLink RX3 18 "ZonePrint$Print" "densities" "[I" ∈ zTbl := zq1 (List.mem_of_getElem? (i := 63) rfl) rfl
theorem zf_X3_22 : Cond.fieldLink RX3 22 "ZonePrint$Print" "wanteds" "[I" ∈ zTbl := zq1 (List.mem_of_getElem? (i := 64) rfl) rfl
theorem zf_X3_25 : Cond.fieldLink RX3 25 "ZonePrint$Print" "burns" "[I" ∈ zTbl := zq1 (List.mem_of_getElem? (i := 66) rfl) rfl
theorem zf_X3_28 : Cond.fieldLink RX3 28 "ZonePrint$Print" "holds" "[I" ∈ zTbl := zq1 (List.mem_of_getElem? (i := 68) rfl) rfl
theorem zf_X3_31 : Cond.fieldLink RX3 31 "ZonePrint$Print" "neighbours" "[I" ∈ zTbl := zq1 (List.mem_of_getElem? (i := 70) rfl) rfl
theorem zf_X3_34 : Cond.fieldLink RX3 34 "ZonePrint$Print" "sortedNeeds" "[I" ∈ zTbl := zq1 (List.mem_of_getElem? (i := 71) rfl) rfl
theorem zf_X3_37 : Cond.fieldLink RX3 37 "ZonePrint$Print" "zones" "I" ∈ zTbl := zq1 (List.mem_of_getElem? (i := 72) rfl) rfl
theorem zf_X3_41 : Cond.fieldLink RX3 41 "ZonePrint$Print" "time" "I" ∈ zTbl := zq1 (List.mem_of_getElem? (i := 74) rfl) rfl
theorem zf_X3_44 : Cond.fieldLink RX3 44 "ZonePrint$Print" "spill" "I" ∈ zTbl := zq1 (List.mem_of_getElem? (i := 76) rfl) rfl
theorem zy_138 : Cond.laysFinal "ZonePrint$Print" "ZonePrint$Print" "paper" "LZonePrint$Paper;" ∈ zTbl := zq1 (List.mem_of_getElem? (i := 78) rfl) rfl
theorem zy_139 : Cond.soleField "ZonePrint$Print" "paper" ∈ zTbl := zq1 (List.mem_of_getElem? (i := 79) rfl) rfl
theorem zy_140 : Cond.laysFinal "ZonePrint$Print" "ZonePrint$Print" "densities" "[I" ∈ zTbl := zq1 (List.mem_of_getElem? (i := 80) rfl) rfl
theorem zy_141 : Cond.soleField "ZonePrint$Print" "densities" ∈ zTbl := zq1 (List.mem_of_getElem? (i := 81) rfl) rfl
theorem zy_142 : Cond.laysFinal "ZonePrint$Print" "ZonePrint$Print" "wanteds" "[I" ∈ zTbl := zq1 (List.mem_of_getElem? (i := 82) rfl) rfl
theorem zy_143 : Cond.soleField "ZonePrint$Print" "wanteds" ∈ zTbl := zq1 (List.mem_of_getElem? (i := 83) rfl) rfl
theorem zy_144 : Cond.laysFinal "ZonePrint$Print" "ZonePrint$Print" "burns" "[I" ∈ zTbl := zq1 (List.mem_of_getElem? (i := 84) rfl) rfl
theorem zy_145 : Cond.soleField "ZonePrint$Print" "burns" ∈ zTbl := zq1 (List.mem_of_getElem? (i := 85) rfl) rfl
theorem zy_146 : Cond.laysFinal "ZonePrint$Print" "ZonePrint$Print" "holds" "[I" ∈ zTbl := zq1 (List.mem_of_getElem? (i := 86) rfl) rfl
theorem zy_147 : Cond.soleField "ZonePrint$Print" "holds" ∈ zTbl := zq1 (List.mem_of_getElem? (i := 87) rfl) rfl
theorem zy_148 : Cond.laysFinal "ZonePrint$Print" "ZonePrint$Print" "neighbours" "[I" ∈ zTbl := zq1 (List.mem_of_getElem? (i := 88) rfl) rfl
theorem zy_149 : Cond.soleField "ZonePrint$Print" "neighbours" ∈ zTbl := zq1 (List.mem_of_getElem? (i := 89) rfl) rfl
theorem zy_150 : Cond.laysFinal "ZonePrint$Print" "ZonePrint$Print" "sortedNeeds" "[I" ∈ zTbl := zq1 (List.mem_of_getElem? (i := 90) rfl) rfl
theorem zy_151 : Cond.soleField "ZonePrint$Print" "sortedNeeds" ∈ zTbl := zq1 (List.mem_of_getElem? (i := 91) rfl) rfl
theorem zy_152 : Cond.lays "ZonePrint$Print" "ZonePrint$Print" "zones" "I" ∈ zTbl := zq1 (List.mem_of_getElem? (i := 92) rfl) rfl
theorem zy_153 : Cond.soleField "ZonePrint$Print" "zones" ∈ zTbl := zq1 (List.mem_of_getElem? (i := 93) rfl) rfl
theorem zy_154 : Cond.lays "ZonePrint$Print" "ZonePrint$Print" "time" "I" ∈ zTbl := zq1 (List.mem_of_getElem? (i := 94) rfl) rfl
theorem zy_155 : Cond.soleField "ZonePrint$Print" "time" ∈ zTbl := zq1 (List.mem_of_getElem? (i := 95) rfl) rfl
theorem zy_156 : Cond.lays "ZonePrint$Print" "ZonePrint$Print" "spill" "I" ∈ zTbl := zq1 (List.mem_of_getElem? (i := 96) rfl) rfl
theorem zy_157 : Cond.soleField "ZonePrint$Print" "spill" ∈ zTbl := zq1 (List.mem_of_getElem? (i := 97) rfl) rfl
theorem zl_X4_19 : Cond.classLink RX4 19 RX0 ∈ zTbl := zq1 (List.mem_of_getElem? (i := 99) rfl) rfl
theorem zo_X0 : Cond.instantiable RX0 3 ∈ zTbl := zq1 (List.mem_of_getElem? (i := 100) rfl) rfl
theorem zm_X4_21 : Cond.methodLink RX4 21 yX0_init ∈ zTbl := zq1 (List.mem_of_getElem? (i := 101) rfl) rfl
theorem zi_X0_init : Cond.instanceMethod yX0_init ∈ zTbl := zq1 (List.mem_of_getElem? (i := 102) rfl) rfl
theorem zc_X0_init : Cond.code yX0_init cX0_init 2 (none : Option FieldType) ∈ zTbl := zq1 (List.mem_of_getElem? (i := 103) rfl) rfl
theorem zm_X0_3 : Cond.methodLink RX0 3 objectInit ∈ zTbl := zq1 (List.mem_of_getElem? (i := 104) rfl) rfl
theorem zl_X0_9 : Cond.classLink RX0 9 RX3 ∈ zTbl := zq1 (List.mem_of_getElem? (i := 105) rfl) rfl
theorem zm_X0_17 : Cond.methodLink RX0 17 yX3_init ∈ zTbl := zq1 (List.mem_of_getElem? (i := 107) rfl) rfl
theorem zf_X0_11 : Cond.fieldLink RX0 11 "ZonePrint$History" "states" "[LZonePrint$Print;" ∈ zTbl := zq1 (List.mem_of_getElem? (i := 108) rfl) rfl
theorem zf_X0_18 : Cond.fieldLink RX0 18 "ZonePrint$History" "size" "I" ∈ zTbl := zq1 (List.mem_of_getElem? (i := 109) rfl) rfl
theorem zf_X0_22 : Cond.fieldLink RX0 22 "ZonePrint$History" "next" "I" ∈ zTbl := zq1 (List.mem_of_getElem? (i := 110) rfl) rfl
theorem zy_171 : Cond.laysFinal "ZonePrint$History" "ZonePrint$History" "states" "[LZonePrint$Print;" ∈ zTbl := zq1 (List.mem_of_getElem? (i := 111) rfl) rfl
theorem zy_172 : Cond.soleField "ZonePrint$History" "states" ∈ zTbl := zq1 (List.mem_of_getElem? (i := 112) rfl) rfl
theorem zy_173 : Cond.lays "ZonePrint$History" "ZonePrint$History" "size" "I" ∈ zTbl := zq1 (List.mem_of_getElem? (i := 113) rfl) rfl
theorem zy_174 : Cond.soleField "ZonePrint$History" "size" ∈ zTbl := zq1 (List.mem_of_getElem? (i := 114) rfl) rfl
theorem zy_175 : Cond.lays "ZonePrint$History" "ZonePrint$History" "next" "I" ∈ zTbl := zq1 (List.mem_of_getElem? (i := 115) rfl) rfl
theorem zy_176 : Cond.soleField "ZonePrint$History" "next" ∈ zTbl := zq1 (List.mem_of_getElem? (i := 116) rfl) rfl
theorem zl_X4_26 : Cond.classLink RX4 26 RX1 ∈ zTbl := zq1 (List.mem_of_getElem? (i := 118) rfl) rfl
theorem zo_X1 : Cond.instantiable RX1 4 ∈ zTbl := zq1 (List.mem_of_getElem? (i := 119) rfl) rfl
theorem zm_X4_28 : Cond.methodLink RX4 28 yX1_init ∈ zTbl := zq1 (List.mem_of_getElem? (i := 120) rfl) rfl
theorem zi_X1_init : Cond.instanceMethod yX1_init ∈ zTbl := zq1 (List.mem_of_getElem? (i := 121) rfl) rfl
theorem zc_X1_init : Cond.code yX1_init cX1_init 1 (none : Option FieldType) ∈ zTbl := zq1 (List.mem_of_getElem? (i := 122) rfl) rfl
theorem zm_X1_3 : Cond.methodLink RX1 3 objectInit ∈ zTbl := zq1 (List.mem_of_getElem? (i := 123) rfl) rfl
theorem zf_X1_11 : Cond.fieldLink RX1 11 "ZonePrint$OrderReader" "part" "I" ∈ zTbl := zq1 (List.mem_of_getElem? (i := 124) rfl) rfl
theorem zf_X1_15 : Cond.fieldLink RX1 15 "ZonePrint$OrderReader" "kind" "I" ∈ zTbl := zq1 (List.mem_of_getElem? (i := 125) rfl) rfl
theorem zf_X1_18 : Cond.fieldLink RX1 18 "ZonePrint$OrderReader" "first" "I" ∈ zTbl := zq1 (List.mem_of_getElem? (i := 127) rfl) rfl
theorem zf_X1_21 : Cond.fieldLink RX1 21 "ZonePrint$OrderReader" "last" "I" ∈ zTbl := zq1 (List.mem_of_getElem? (i := 129) rfl) rfl
theorem zy_191 : Cond.lays "ZonePrint$OrderReader" "ZonePrint$OrderReader" "part" "I" ∈ zTbl := zq1 (List.mem_of_getElem? (i := 131) rfl) rfl
theorem zy_192 : Cond.soleField "ZonePrint$OrderReader" "part" ∈ zTbl := zq1 (List.mem_of_getElem? (i := 132) rfl) rfl
theorem zy_193 : Cond.lays "ZonePrint$OrderReader" "ZonePrint$OrderReader" "kind" "I" ∈ zTbl := zq1 (List.mem_of_getElem? (i := 133) rfl) rfl
theorem zy_194 : Cond.soleField "ZonePrint$OrderReader" "kind" ∈ zTbl := zq1 (List.mem_of_getElem? (i := 134) rfl) rfl
theorem zy_195 : Cond.lays "ZonePrint$OrderReader" "ZonePrint$OrderReader" "first" "I" ∈ zTbl := zq1 (List.mem_of_getElem? (i := 135) rfl) rfl
theorem zy_196 : Cond.soleField "ZonePrint$OrderReader" "first" ∈ zTbl := zq1 (List.mem_of_getElem? (i := 136) rfl) rfl
theorem zy_197 : Cond.lays "ZonePrint$OrderReader" "ZonePrint$OrderReader" "last" "I" ∈ zTbl := zq1 (List.mem_of_getElem? (i := 137) rfl) rfl
theorem zy_198 : Cond.soleField "ZonePrint$OrderReader" "last" ∈ zTbl := zq1 (List.mem_of_getElem? (i := 138) rfl) rfl
theorem zf_X4_10 : Cond.fieldLink RX4 10 "ZonePrint" "print" "LZonePrint$Print;" ∈ zTbl := zq1 (List.mem_of_getElem? (i := 140) rfl) rfl
theorem zf_X4_16 : Cond.fieldLink RX4 16 "ZonePrint" "trial" "LZonePrint$Print;" ∈ zTbl := zq1 (List.mem_of_getElem? (i := 141) rfl) rfl
theorem zf_X4_22 : Cond.fieldLink RX4 22 "ZonePrint" "history" "LZonePrint$History;" ∈ zTbl := zq1 (List.mem_of_getElem? (i := 142) rfl) rfl
theorem zf_X4_29 : Cond.fieldLink RX4 29 "ZonePrint" "reader" "LZonePrint$OrderReader;" ∈ zTbl := zq1 (List.mem_of_getElem? (i := 143) rfl) rfl
theorem zf_X4_33 : Cond.fieldLink RX4 33 "ZonePrint" "buffer" "[I" ∈ zTbl := zq1 (List.mem_of_getElem? (i := 144) rfl) rfl
theorem zf_X4_37 : Cond.fieldLink RX4 37 "ZonePrint" "length" "I" ∈ zTbl := zq1 (List.mem_of_getElem? (i := 145) rfl) rfl
theorem zy_206 : Cond.laysFinal "ZonePrint" "ZonePrint" "print" "LZonePrint$Print;" ∈ zTbl := zq1 (List.mem_of_getElem? (i := 146) rfl) rfl
theorem zy_207 : Cond.soleField "ZonePrint" "print" ∈ zTbl := zq1 (List.mem_of_getElem? (i := 147) rfl) rfl
theorem zy_208 : Cond.laysFinal "ZonePrint" "ZonePrint" "trial" "LZonePrint$Print;" ∈ zTbl := zq1 (List.mem_of_getElem? (i := 148) rfl) rfl
theorem zy_209 : Cond.soleField "ZonePrint" "trial" ∈ zTbl := zq1 (List.mem_of_getElem? (i := 149) rfl) rfl
theorem zy_210 : Cond.laysFinal "ZonePrint" "ZonePrint" "history" "LZonePrint$History;" ∈ zTbl := zq1 (List.mem_of_getElem? (i := 150) rfl) rfl
theorem zy_211 : Cond.soleField "ZonePrint" "history" ∈ zTbl := zq1 (List.mem_of_getElem? (i := 151) rfl) rfl
theorem zy_212 : Cond.laysFinal "ZonePrint" "ZonePrint" "reader" "LZonePrint$OrderReader;" ∈ zTbl := zq1 (List.mem_of_getElem? (i := 152) rfl) rfl
theorem zy_213 : Cond.soleField "ZonePrint" "reader" ∈ zTbl := zq1 (List.mem_of_getElem? (i := 153) rfl) rfl
theorem zy_214 : Cond.laysFinal "ZonePrint" "ZonePrint" "buffer" "[I" ∈ zTbl := zq1 (List.mem_of_getElem? (i := 154) rfl) rfl
theorem zy_215 : Cond.soleField "ZonePrint" "buffer" ∈ zTbl := zq1 (List.mem_of_getElem? (i := 155) rfl) rfl
theorem zy_216 : Cond.lays "ZonePrint" "ZonePrint" "length" "I" ∈ zTbl := zq1 (List.mem_of_getElem? (i := 156) rfl) rfl
theorem zy_217 : Cond.soleField "ZonePrint" "length" ∈ zTbl := zq1 (List.mem_of_getElem? (i := 157) rfl) rfl
theorem zm_L_106 : Cond.methodLink RL 106 yX4_plan ∈ zTbl := zq1 (List.mem_of_getElem? (i := 159) rfl) rfl
theorem zi_X4_plan : Cond.instanceMethod yX4_plan ∈ zTbl := zq1 (List.mem_of_getElem? (i := 160) rfl) rfl
theorem zs_X4_plan : Cond.selects RX4 yX4_plan yX4_plan ∈ zTbl := zq1 (List.mem_of_getElem? (i := 161) rfl) rfl
theorem zc_X4_plan : Cond.code yX4_plan cX4_plan 1 (some FieldType.int) ∈ zTbl := zq1 (List.mem_of_getElem? (i := 162) rfl) rfl
theorem zm_X4_61 : Cond.methodLink RX4 61 yX0_keep ∈ zTbl := zq1 (List.mem_of_getElem? (i := 163) rfl) rfl
theorem zi_X0_keep : Cond.instanceMethod yX0_keep ∈ zTbl := zq1 (List.mem_of_getElem? (i := 164) rfl) rfl
theorem zs_X0_keep : Cond.selects RX0 yX0_keep yX0_keep ∈ zTbl := zq1 (List.mem_of_getElem? (i := 165) rfl) rfl
theorem zc_X0_keep : Cond.code yX0_keep cX0_keep 3 (none : Option FieldType) ∈ zTbl := zq1 (List.mem_of_getElem? (i := 166) rfl) rfl
theorem zm_X0_25 : Cond.methodLink RX0 25 yJ9_floorMod_7cf53 ∈ zTbl := zq1 (List.mem_of_getElem? (i := 167) rfl) rfl
theorem zt_J9_floorMod_7cf53 : Cond.static yJ9_floorMod_7cf53 ∈ zTbl := zq1 (List.mem_of_getElem? (i := 168) rfl) rfl
theorem zc_J9_floorMod_7cf53 : Cond.code yJ9_floorMod_7cf53 cJ9_floorMod_7cf53 3 (some FieldType.int) ∈ zTbl := zq1 (List.mem_of_getElem? (i := 169) rfl) rfl
theorem zm_X0_31 : Cond.methodLink RX0 31 yX3_copyFrom ∈ zTbl := zq1 (List.mem_of_getElem? (i := 170) rfl) rfl
theorem zi_X3_copyFrom : Cond.instanceMethod yX3_copyFrom ∈ zTbl := zq1 (List.mem_of_getElem? (i := 171) rfl) rfl
theorem zs_X3_copyFrom : Cond.selects RX3 yX3_copyFrom yX3_copyFrom ∈ zTbl := zq1 (List.mem_of_getElem? (i := 172) rfl) rfl
theorem zc_X3_copyFrom : Cond.code yX3_copyFrom cX3_copyFrom 3 (none : Option FieldType) ∈ zTbl := zq1 (List.mem_of_getElem? (i := 173) rfl) rfl
theorem zm_X3_53 : Cond.methodLink RX3 53 yX2_take ∈ zTbl := zq1 (List.mem_of_getElem? (i := 174) rfl) rfl
theorem zm_X0_35 : Cond.methodLink RX0 35 yJ9_min_7cf53 ∈ zTbl := zq1 (List.mem_of_getElem? (i := 175) rfl) rfl
theorem zt_J9_min_7cf53 : Cond.static yJ9_min_7cf53 ∈ zTbl := zq1 (List.mem_of_getElem? (i := 176) rfl) rfl
theorem zc_J9_min_7cf53 : Cond.code yJ9_min_7cf53 cJ9_min_7cf53 2 (some FieldType.int) ∈ zTbl := zq1 (List.mem_of_getElem? (i := 177) rfl) rfl
theorem zm_X4_125 : Cond.methodLink RX4 125 yX3_makePlan ∈ zTbl := zq1 (List.mem_of_getElem? (i := 178) rfl) rfl
theorem zi_X3_makePlan : Cond.instanceMethod yX3_makePlan ∈ zTbl := zq1 (List.mem_of_getElem? (i := 179) rfl) rfl
theorem zs_X3_makePlan : Cond.selects RX3 yX3_makePlan yX3_makePlan ∈ zTbl := zq1 (List.mem_of_getElem? (i := 180) rfl) rfl
theorem zc_X3_makePlan : Cond.code yX3_makePlan cX3_makePlan 3 (none : Option FieldType) ∈ zTbl := zq1 (List.mem_of_getElem? (i := 181) rfl) rfl
theorem zm_X3_116 : Cond.methodLink RX3 116 yX3_middleNeed ∈ zTbl := zq1 (List.mem_of_getElem? (i := 182) rfl) rfl
theorem zi_X3_middleNeed : Cond.instanceMethod yX3_middleNeed ∈ zTbl := zq1 (List.mem_of_getElem? (i := 184) rfl) rfl
theorem zc_X3_middleNeed : Cond.code yX3_middleNeed cX3_middleNeed 4 (some FieldType.int) ∈ zTbl := zq1 (List.mem_of_getElem? (i := 185) rfl) rfl
theorem zm_X3_72 : Cond.methodLink RX3 72 yX3_leastNeed ∈ zTbl := zq1 (List.mem_of_getElem? (i := 186) rfl) rfl
theorem zi_X3_leastNeed : Cond.instanceMethod yX3_leastNeed ∈ zTbl := zq1 (List.mem_of_getElem? (i := 187) rfl) rfl
theorem zs_X3_leastNeed : Cond.selects RX3 yX3_leastNeed yX3_leastNeed ∈ zTbl := zq1 (List.mem_of_getElem? (i := 188) rfl) rfl
theorem zc_X3_leastNeed : Cond.code yX3_leastNeed cX3_leastNeed 4 (some FieldType.int) ∈ zTbl := zq1 (List.mem_of_getElem? (i := 189) rfl) rfl
theorem zm_X3_104 : Cond.methodLink RX3 104 yX2_leastTime ∈ zTbl := zq1 (List.mem_of_getElem? (i := 190) rfl) rfl
theorem zi_X2_leastTime : Cond.instanceMethod yX2_leastTime ∈ zTbl := zq1 (List.mem_of_getElem? (i := 191) rfl) rfl
theorem zs_X2_leastTime : Cond.selects RX2 yX2_leastTime yX2_leastTime ∈ zTbl := zq1 (List.mem_of_getElem? (i := 192) rfl) rfl
theorem zc_X2_leastTime : Cond.code yX2_leastTime cX2_leastTime 6 (some FieldType.int) ∈ zTbl := zq1 (List.mem_of_getElem? (i := 193) rfl) rfl
theorem zf_X2_39 : Cond.fieldLink RX2 39 "ZonePrint$Paper" "THROUGH" "[I" ∈ zTbl := zq1 (List.mem_of_getElem? (i := 194) rfl) rfl
theorem zk_X2_42 : Cond.constantLong RX2 42 (10000) ∈ zTbl := zq1 (List.mem_of_getElem? (i := 196) rfl) rfl
theorem zm_X2_44 : Cond.methodLink RX2 44 yJ9_min_f86c9 ∈ zTbl := zq1 (List.mem_of_getElem? (i := 197) rfl) rfl
theorem zt_J9_min_f86c9 : Cond.static yJ9_min_f86c9 ∈ zTbl := zq1 (List.mem_of_getElem? (i := 198) rfl) rfl
theorem zc_J9_min_f86c9 : Cond.code yJ9_min_f86c9 cJ9_min_f86c9 4 (some FieldType.long) ∈ zTbl := zq1 (List.mem_of_getElem? (i := 199) rfl) rfl
theorem zm_X3_124 : Cond.methodLink RX3 124 yX3_sortIn ∈ zTbl := zq1 (List.mem_of_getElem? (i := 200) rfl) rfl
theorem zi_X3_sortIn : Cond.instanceMethod yX3_sortIn ∈ zTbl := zq1 (List.mem_of_getElem? (i := 202) rfl) rfl
theorem zc_X3_sortIn : Cond.code yX3_sortIn cX3_sortIn 4 (none : Option FieldType) ∈ zTbl := zq1 (List.mem_of_getElem? (i := 203) rfl) rfl
theorem zm_X3_107 : Cond.methodLink RX3 107 yJ9_min_7cf53 ∈ zTbl := zq1 (List.mem_of_getElem? (i := 204) rfl) rfl
theorem zm_X3_120 : Cond.methodLink RX3 120 yX3_correct ∈ zTbl := zq1 (List.mem_of_getElem? (i := 205) rfl) rfl
theorem zi_X3_correct : Cond.instanceMethod yX3_correct ∈ zTbl := zq1 (List.mem_of_getElem? (i := 207) rfl) rfl
theorem zc_X3_correct : Cond.code yX3_correct cX3_correct 4 (none : Option FieldType) ∈ zTbl := zq1 (List.mem_of_getElem? (i := 208) rfl) rfl
theorem zm_X3_90 : Cond.methodLink RX3 90 yX3_tooDarkBy ∈ zTbl := zq1 (List.mem_of_getElem? (i := 209) rfl) rfl
theorem zi_X3_tooDarkBy : Cond.instanceMethod yX3_tooDarkBy ∈ zTbl := zq1 (List.mem_of_getElem? (i := 210) rfl) rfl
theorem zs_X3_tooDarkBy : Cond.selects RX3 yX3_tooDarkBy yX3_tooDarkBy ∈ zTbl := zq1 (List.mem_of_getElem? (i := 211) rfl) rfl
theorem zc_X3_tooDarkBy : Cond.code yX3_tooDarkBy cX3_tooDarkBy 2 (some FieldType.int) ∈ zTbl := zq1 (List.mem_of_getElem? (i := 212) rfl) rfl
theorem zm_X3_61 : Cond.methodLink RX3 61 yX3_timeOf ∈ zTbl := zq1 (List.mem_of_getElem? (i := 213) rfl) rfl
theorem zi_X3_timeOf : Cond.instanceMethod yX3_timeOf ∈ zTbl := zq1 (List.mem_of_getElem? (i := 214) rfl) rfl
theorem zs_X3_timeOf : Cond.selects RX3 yX3_timeOf yX3_timeOf ∈ zTbl := zq1 (List.mem_of_getElem? (i := 215) rfl) rfl
theorem zc_X3_timeOf : Cond.code yX3_timeOf cX3_timeOf 2 (some FieldType.int) ∈ zTbl := zq1 (List.mem_of_getElem? (i := 216) rfl) rfl
theorem zm_X3_81 : Cond.methodLink RX3 81 yJ9_max_7cf53 ∈ zTbl := zq1 (List.mem_of_getElem? (i := 217) rfl) rfl
theorem zt_J9_max_7cf53 : Cond.static yJ9_max_7cf53 ∈ zTbl := zq1 (List.mem_of_getElem? (i := 218) rfl) rfl
theorem zc_J9_max_7cf53 : Cond.code yJ9_max_7cf53 cJ9_max_7cf53 2 (some FieldType.int) ∈ zTbl := zq1 (List.mem_of_getElem? (i := 219) rfl) rfl
theorem zm_X3_78 : Cond.methodLink RX3 78 yX3_spillOnto ∈ zTbl := zq1 (List.mem_of_getElem? (i := 220) rfl) rfl
theorem zi_X3_spillOnto : Cond.instanceMethod yX3_spillOnto ∈ zTbl := zq1 (List.mem_of_getElem? (i := 221) rfl) rfl
theorem zs_X3_spillOnto : Cond.selects RX3 yX3_spillOnto yX3_spillOnto ∈ zTbl := zq1 (List.mem_of_getElem? (i := 222) rfl) rfl
theorem zc_X3_spillOnto : Cond.code yX3_spillOnto cX3_spillOnto 4 (some FieldType.int) ∈ zTbl := zq1 (List.mem_of_getElem? (i := 223) rfl) rfl
theorem zm_X3_86 : Cond.methodLink RX3 86 yX3_toneAfter ∈ zTbl := zq1 (List.mem_of_getElem? (i := 224) rfl) rfl
theorem zi_X3_toneAfter : Cond.instanceMethod yX3_toneAfter ∈ zTbl := zq1 (List.mem_of_getElem? (i := 225) rfl) rfl
theorem zs_X3_toneAfter : Cond.selects RX3 yX3_toneAfter yX3_toneAfter ∈ zTbl := zq1 (List.mem_of_getElem? (i := 226) rfl) rfl
theorem zc_X3_toneAfter : Cond.code yX3_toneAfter cX3_toneAfter 3 (some FieldType.int) ∈ zTbl := zq1 (List.mem_of_getElem? (i := 227) rfl) rfl
theorem zm_X3_65 : Cond.methodLink RX3 65 yX2_lightThrough ∈ zTbl := zq1 (List.mem_of_getElem? (i := 228) rfl) rfl
theorem zt_X2_lightThrough : Cond.static yX2_lightThrough ∈ zTbl := zq1 (List.mem_of_getElem? (i := 229) rfl) rfl
theorem zc_X2_lightThrough : Cond.code yX2_lightThrough cX2_lightThrough 5 (some FieldType.int) ∈ zTbl := zq1 (List.mem_of_getElem? (i := 230) rfl) rfl
theorem zm_X3_89 : Cond.methodLink RX3 89 yX2_toneOf ∈ zTbl := zq1 (List.mem_of_getElem? (i := 231) rfl) rfl
theorem zi_X2_toneOf : Cond.instanceMethod yX2_toneOf ∈ zTbl := zq1 (List.mem_of_getElem? (i := 232) rfl) rfl
theorem zs_X2_toneOf : Cond.selects RX2 yX2_toneOf yX2_toneOf ∈ zTbl := zq1 (List.mem_of_getElem? (i := 233) rfl) rfl
theorem zc_X2_toneOf : Cond.code yX2_toneOf cX2_toneOf 4 (some FieldType.int) ∈ zTbl := zq1 (List.mem_of_getElem? (i := 234) rfl) rfl
theorem zt_X4_isWithin : Cond.static yX4_isWithin ∈ zTbl := zq1 (List.mem_of_getElem? (i := 236) rfl) rfl
theorem zc_X4_isWithin : Cond.code yX4_isWithin cX4_isWithin 3 (some FieldType.boolean) ∈ zTbl := zq1 (List.mem_of_getElem? (i := 237) rfl) rfl
theorem zm_X4_98 : Cond.methodLink RX4 98 yX3_zonesOff ∈ zTbl := zq1 (List.mem_of_getElem? (i := 238) rfl) rfl
theorem zi_X3_zonesOff : Cond.instanceMethod yX3_zonesOff ∈ zTbl := zq1 (List.mem_of_getElem? (i := 239) rfl) rfl
theorem zs_X3_zonesOff : Cond.selects RX3 yX3_zonesOff yX3_zonesOff ∈ zTbl := zq2 (List.mem_of_getElem? (i := 0) rfl) rfl
theorem zc_X3_zonesOff : Cond.code yX3_zonesOff cX3_zonesOff 4 (some FieldType.int) ∈ zTbl := zq2 (List.mem_of_getElem? (i := 1) rfl) rfl
theorem zm_X3_93 : Cond.methodLink RX3 93 yJ6_compare_7cf53 ∈ zTbl := zq2 (List.mem_of_getElem? (i := 2) rfl) rfl
theorem zt_J6_compare_7cf53 : Cond.static yJ6_compare_7cf53 ∈ zTbl := zq2 (List.mem_of_getElem? (i := 3) rfl) rfl
theorem zc_J6_compare_7cf53 : Cond.code yJ6_compare_7cf53 cJ6_compare_7cf53 2 (some FieldType.int) ∈ zTbl := zq2 (List.mem_of_getElem? (i := 4) rfl) rfl
theorem zm_L_116 : Cond.methodLink RL 116 yX4_clearBuffer ∈ zTbl := zq2 (List.mem_of_getElem? (i := 5) rfl) rfl
theorem zi_X4_clearBuffer : Cond.instanceMethod yX4_clearBuffer ∈ zTbl := zq2 (List.mem_of_getElem? (i := 6) rfl) rfl
theorem zs_X4_clearBuffer : Cond.selects RX4 yX4_clearBuffer yX4_clearBuffer ∈ zTbl := zq2 (List.mem_of_getElem? (i := 7) rfl) rfl
theorem zc_X4_clearBuffer : Cond.code yX4_clearBuffer cX4_clearBuffer 2 (some FieldType.int) ∈ zTbl := zq2 (List.mem_of_getElem? (i := 8) rfl) rfl
theorem zm_L_120 : Cond.methodLink RL 120 yX4_firstError ∈ zTbl := zq2 (List.mem_of_getElem? (i := 9) rfl) rfl
theorem zi_X4_firstError : Cond.instanceMethod yX4_firstError ∈ zTbl := zq2 (List.mem_of_getElem? (i := 10) rfl) rfl
theorem zs_X4_firstError : Cond.selects RX4 yX4_firstError yX4_firstError ∈ zTbl := zq2 (List.mem_of_getElem? (i := 11) rfl) rfl
theorem zc_X4_firstError : Cond.code yX4_firstError cX4_firstError 2 (some FieldType.int) ∈ zTbl := zq2 (List.mem_of_getElem? (i := 12) rfl) rfl
theorem zm_X4_137 : Cond.methodLink RX4 137 yX1_restart ∈ zTbl := zq2 (List.mem_of_getElem? (i := 13) rfl) rfl
theorem zi_X1_restart : Cond.instanceMethod yX1_restart ∈ zTbl := zq2 (List.mem_of_getElem? (i := 14) rfl) rfl
theorem zs_X1_restart : Cond.selects RX1 yX1_restart yX1_restart ∈ zTbl := zq2 (List.mem_of_getElem? (i := 15) rfl) rfl
theorem zc_X1_restart : Cond.code yX1_restart cX1_restart 1 (none : Option FieldType) ∈ zTbl := zq2 (List.mem_of_getElem? (i := 16) rfl) rfl
theorem zm_X4_140 : Cond.methodLink RX4 140 yX1_accepts ∈ zTbl := zq2 (List.mem_of_getElem? (i := 17) rfl) rfl
theorem zi_X1_accepts : Cond.instanceMethod yX1_accepts ∈ zTbl := zq2 (List.mem_of_getElem? (i := 18) rfl) rfl
theorem zs_X1_accepts : Cond.selects RX1 yX1_accepts yX1_accepts ∈ zTbl := zq2 (List.mem_of_getElem? (i := 19) rfl) rfl
theorem zc_X1_accepts : Cond.code yX1_accepts cX1_accepts 2 (some FieldType.boolean) ∈ zTbl := zq2 (List.mem_of_getElem? (i := 20) rfl) rfl
theorem zm_X1_24 : Cond.methodLink RX1 24 yX1_acceptsLetter ∈ zTbl := zq2 (List.mem_of_getElem? (i := 21) rfl) rfl
theorem zi_X1_acceptsLetter : Cond.instanceMethod yX1_acceptsLetter ∈ zTbl := zq2 (List.mem_of_getElem? (i := 23) rfl) rfl
theorem zc_X1_acceptsLetter : Cond.code yX1_acceptsLetter cX1_acceptsLetter 2 (some FieldType.boolean) ∈ zTbl := zq2 (List.mem_of_getElem? (i := 24) rfl) rfl
theorem zm_X1_28 : Cond.methodLink RX1 28 yX1_acceptsFirst ∈ zTbl := zq2 (List.mem_of_getElem? (i := 25) rfl) rfl
theorem zi_X1_acceptsFirst : Cond.instanceMethod yX1_acceptsFirst ∈ zTbl := zq2 (List.mem_of_getElem? (i := 27) rfl) rfl
theorem zc_X1_acceptsFirst : Cond.code yX1_acceptsFirst cX1_acceptsFirst 3 (some FieldType.boolean) ∈ zTbl := zq2 (List.mem_of_getElem? (i := 28) rfl) rfl
theorem zm_X1_34 : Cond.methodLink RX1 34 yX1_separator ∈ zTbl := zq2 (List.mem_of_getElem? (i := 29) rfl) rfl
theorem zi_X1_separator : Cond.instanceMethod yX1_separator ∈ zTbl := zq2 (List.mem_of_getElem? (i := 31) rfl) rfl
theorem zc_X1_separator : Cond.code yX1_separator cX1_separator 1 (some FieldType.int) ∈ zTbl := zq2 (List.mem_of_getElem? (i := 32) rfl) rfl
theorem zm_X1_38 : Cond.methodLink RX1 38 yX1_withDigit ∈ zTbl := zq2 (List.mem_of_getElem? (i := 33) rfl) rfl
theorem zt_X1_withDigit : Cond.static yX1_withDigit ∈ zTbl := zq2 (List.mem_of_getElem? (i := 34) rfl) rfl
theorem zc_X1_withDigit : Cond.code yX1_withDigit cX1_withDigit 2 (some FieldType.int) ∈ zTbl := zq2 (List.mem_of_getElem? (i := 35) rfl) rfl
theorem zm_X1_42 : Cond.methodLink RX1 42 yX1_mostFirst ∈ zTbl := zq2 (List.mem_of_getElem? (i := 36) rfl) rfl
theorem zi_X1_mostFirst : Cond.instanceMethod yX1_mostFirst ∈ zTbl := zq2 (List.mem_of_getElem? (i := 38) rfl) rfl
theorem zc_X1_mostFirst : Cond.code yX1_mostFirst cX1_mostFirst 1 (some FieldType.int) ∈ zTbl := zq2 (List.mem_of_getElem? (i := 39) rfl) rfl
theorem zm_X1_31 : Cond.methodLink RX1 31 yX1_acceptsLast ∈ zTbl := zq2 (List.mem_of_getElem? (i := 40) rfl) rfl
theorem zi_X1_acceptsLast : Cond.instanceMethod yX1_acceptsLast ∈ zTbl := zq2 (List.mem_of_getElem? (i := 42) rfl) rfl
theorem zc_X1_acceptsLast : Cond.code yX1_acceptsLast cX1_acceptsLast 3 (some FieldType.boolean) ∈ zTbl := zq2 (List.mem_of_getElem? (i := 43) rfl) rfl
theorem zm_X1_45 : Cond.methodLink RX1 45 yX1_leastLast ∈ zTbl := zq2 (List.mem_of_getElem? (i := 44) rfl) rfl
theorem zi_X1_leastLast : Cond.instanceMethod yX1_leastLast ∈ zTbl := zq2 (List.mem_of_getElem? (i := 46) rfl) rfl
theorem zc_X1_leastLast : Cond.code yX1_leastLast cX1_leastLast 1 (some FieldType.int) ∈ zTbl := zq2 (List.mem_of_getElem? (i := 47) rfl) rfl
theorem zm_X1_48 : Cond.methodLink RX1 48 yX1_mostLast ∈ zTbl := zq2 (List.mem_of_getElem? (i := 48) rfl) rfl
theorem zi_X1_mostLast : Cond.instanceMethod yX1_mostLast ∈ zTbl := zq2 (List.mem_of_getElem? (i := 50) rfl) rfl
theorem zc_X1_mostLast : Cond.code yX1_mostLast cX1_mostLast 1 (some FieldType.int) ∈ zTbl := zq2 (List.mem_of_getElem? (i := 51) rfl) rfl
theorem zm_L_147 : Cond.methodLink RL 147 yX4_bestTime ∈ zTbl := zq2 (List.mem_of_getElem? (i := 52) rfl) rfl
theorem zi_X4_bestTime : Cond.instanceMethod yX4_bestTime ∈ zTbl := zq2 (List.mem_of_getElem? (i := 53) rfl) rfl
theorem zs_X4_bestTime : Cond.selects RX4 yX4_bestTime yX4_bestTime ∈ zTbl := zq2 (List.mem_of_getElem? (i := 54) rfl) rfl
theorem zc_X4_bestTime : Cond.code yX4_bestTime cX4_bestTime 5 (some FieldType.int) ∈ zTbl := zq2 (List.mem_of_getElem? (i := 55) rfl) rfl
theorem zm_X4_189 : Cond.methodLink RX4 189 yX3_copyFrom ∈ zTbl := zq2 (List.mem_of_getElem? (i := 56) rfl) rfl
theorem zm_X4_192 : Cond.methodLink RX4 192 yX3_missedTones ∈ zTbl := zq2 (List.mem_of_getElem? (i := 57) rfl) rfl
theorem zi_X3_missedTones : Cond.instanceMethod yX3_missedTones ∈ zTbl := zq2 (List.mem_of_getElem? (i := 58) rfl) rfl
theorem zs_X3_missedTones : Cond.selects RX3 yX3_missedTones yX3_missedTones ∈ zTbl := zq2 (List.mem_of_getElem? (i := 59) rfl) rfl
theorem zc_X3_missedTones : Cond.code yX3_missedTones cX3_missedTones 3 (some FieldType.int) ∈ zTbl := zq2 (List.mem_of_getElem? (i := 60) rfl) rfl
theorem zm_X3_98 : Cond.methodLink RX3 98 yJ9_abs_0f7a4 ∈ zTbl := zq2 (List.mem_of_getElem? (i := 61) rfl) rfl
theorem zt_J9_abs_0f7a4 : Cond.static yJ9_abs_0f7a4 ∈ zTbl := zq2 (List.mem_of_getElem? (i := 62) rfl) rfl
theorem zc_J9_abs_0f7a4 : Cond.code yJ9_abs_0f7a4 cJ9_abs_0f7a4 1 (some FieldType.int) ∈ zTbl := zq2 (List.mem_of_getElem? (i := 63) rfl) rfl
theorem zm_L_151 : Cond.methodLink RL 151 yX4_bestGrade ∈ zTbl := zq2 (List.mem_of_getElem? (i := 64) rfl) rfl
theorem zi_X4_bestGrade : Cond.instanceMethod yX4_bestGrade ∈ zTbl := zq2 (List.mem_of_getElem? (i := 65) rfl) rfl
theorem zs_X4_bestGrade : Cond.selects RX4 yX4_bestGrade yX4_bestGrade ∈ zTbl := zq2 (List.mem_of_getElem? (i := 66) rfl) rfl
theorem zc_X4_bestGrade : Cond.code yX4_bestGrade cX4_bestGrade 7 (some FieldType.int) ∈ zTbl := zq2 (List.mem_of_getElem? (i := 67) rfl) rfl
theorem zm_X4_119 : Cond.methodLink RX4 119 yX2_take ∈ zTbl := zq2 (List.mem_of_getElem? (i := 68) rfl) rfl
theorem zm_X4_198 : Cond.methodLink RX4 198 yX3_sumOf ∈ zTbl := zq2 (List.mem_of_getElem? (i := 69) rfl) rfl
theorem zi_X3_sumOf : Cond.instanceMethod yX3_sumOf ∈ zTbl := zq2 (List.mem_of_getElem? (i := 70) rfl) rfl
theorem zs_X3_sumOf : Cond.selects RX3 yX3_sumOf yX3_sumOf ∈ zTbl := zq2 (List.mem_of_getElem? (i := 71) rfl) rfl
theorem zc_X3_sumOf : Cond.code yX3_sumOf cX3_sumOf 4 (some FieldType.int) ∈ zTbl := zq2 (List.mem_of_getElem? (i := 72) rfl) rfl
theorem zm_L_162 : Cond.methodLink RL 162 yX4_rightShare ∈ zTbl := zq2 (List.mem_of_getElem? (i := 73) rfl) rfl
theorem zi_X4_rightShare : Cond.instanceMethod yX4_rightShare ∈ zTbl := zq2 (List.mem_of_getElem? (i := 74) rfl) rfl
theorem zs_X4_rightShare : Cond.selects RX4 yX4_rightShare yX4_rightShare ∈ zTbl := zq2 (List.mem_of_getElem? (i := 75) rfl) rfl
theorem zc_X4_rightShare : Cond.code yX4_rightShare cX4_rightShare 1 (some FieldType.double) ∈ zTbl := zq2 (List.mem_of_getElem? (i := 76) rfl) rfl
theorem zm_L_167 : Cond.methodLink RL 167 yX4_digest ∈ zTbl := zq2 (List.mem_of_getElem? (i := 77) rfl) rfl
theorem zi_X4_digest : Cond.instanceMethod yX4_digest ∈ zTbl := zq2 (List.mem_of_getElem? (i := 78) rfl) rfl
theorem zs_X4_digest : Cond.selects RX4 yX4_digest yX4_digest ∈ zTbl := zq2 (List.mem_of_getElem? (i := 79) rfl) rfl
theorem zc_X4_digest : Cond.code yX4_digest cX4_digest 5 (some FieldType.long) ∈ zTbl := zq2 (List.mem_of_getElem? (i := 80) rfl) rfl
theorem zk_X4_216 : Cond.constantLong RX4 216 (2879) ∈ zTbl := zq2 (List.mem_of_getElem? (i := 81) rfl) rfl
theorem zm_X4_181 : Cond.methodLink RX4 181 yX4_numberOf ∈ zTbl := zq2 (List.mem_of_getElem? (i := 82) rfl) rfl
theorem zi_X4_numberOf : Cond.instanceMethod yX4_numberOf ∈ zTbl := zq2 (List.mem_of_getElem? (i := 84) rfl) rfl
theorem zc_X4_numberOf : Cond.code yX4_numberOf cX4_numberOf 2 (some FieldType.int) ∈ zTbl := zq2 (List.mem_of_getElem? (i := 85) rfl) rfl
theorem zm_X4_247 : Cond.methodLink RX4 247 yX3_zonesWithoutNeed ∈ zTbl := zq2 (List.mem_of_getElem? (i := 86) rfl) rfl
theorem zi_X3_zonesWithoutNeed : Cond.instanceMethod yX3_zonesWithoutNeed ∈ zTbl := zq2 (List.mem_of_getElem? (i := 87) rfl) rfl
theorem zs_X3_zonesWithoutNeed : Cond.selects RX3 yX3_zonesWithoutNeed yX3_zonesWithoutNeed ∈ zTbl := zq2 (List.mem_of_getElem? (i := 88) rfl) rfl
theorem zc_X3_zonesWithoutNeed : Cond.code yX3_zonesWithoutNeed cX3_zonesWithoutNeed 3 (some FieldType.int) ∈ zTbl := zq2 (List.mem_of_getElem? (i := 89) rfl) rfl
theorem zm_X4_250 : Cond.methodLink RX4 250 yX3_pairs ∈ zTbl := zq2 (List.mem_of_getElem? (i := 90) rfl) rfl
theorem zi_X3_pairs : Cond.instanceMethod yX3_pairs ∈ zTbl := zq2 (List.mem_of_getElem? (i := 91) rfl) rfl
theorem zs_X3_pairs : Cond.selects RX3 yX3_pairs yX3_pairs ∈ zTbl := zq2 (List.mem_of_getElem? (i := 92) rfl) rfl
theorem zc_X3_pairs : Cond.code yX3_pairs cX3_pairs 3 (some FieldType.int) ∈ zTbl := zq2 (List.mem_of_getElem? (i := 93) rfl) rfl
theorem zm_X3_101 : Cond.methodLink RX3 101 yJ6_bitCount_0f7a4 ∈ zTbl := zq2 (List.mem_of_getElem? (i := 94) rfl) rfl
theorem zt_J6_bitCount_0f7a4 : Cond.static yJ6_bitCount_0f7a4 ∈ zTbl := zq2 (List.mem_of_getElem? (i := 95) rfl) rfl
theorem zc_J6_bitCount_0f7a4 : Cond.code yJ6_bitCount_0f7a4 cJ6_bitCount_0f7a4 1 (some FieldType.int) ∈ zTbl := zq2 (List.mem_of_getElem? (i := 96) rfl) rfl
theorem zk_J6_265 : Cond.constant RJ6 265 (1431655765) ∈ zTbl := zq2 (List.mem_of_getElem? (i := 97) rfl) rfl
theorem zk_J6_266 : Cond.constant RJ6 266 (858993459) ∈ zTbl := zq2 (List.mem_of_getElem? (i := 98) rfl) rfl
theorem zk_J6_267 : Cond.constant RJ6 267 (252645135) ∈ zTbl := zq2 (List.mem_of_getElem? (i := 99) rfl) rfl
theorem zm_X4_155 : Cond.methodLink RX4 155 yX0_size ∈ zTbl := zq2 (List.mem_of_getElem? (i := 100) rfl) rfl
theorem zi_X0_size : Cond.instanceMethod yX0_size ∈ zTbl := zq2 (List.mem_of_getElem? (i := 101) rfl) rfl
theorem zs_X0_size : Cond.selects RX0 yX0_size yX0_size ∈ zTbl := zq2 (List.mem_of_getElem? (i := 102) rfl) rfl
theorem zc_X0_size : Cond.code yX0_size cX0_size 1 (some FieldType.int) ∈ zTbl := zq2 (List.mem_of_getElem? (i := 103) rfl) rfl
theorem zm_X4_218 : Cond.methodLink RX4 218 yX4_mixed ∈ zTbl := zq2 (List.mem_of_getElem? (i := 104) rfl) rfl
theorem zt_X4_mixed : Cond.static yX4_mixed ∈ zTbl := zq2 (List.mem_of_getElem? (i := 105) rfl) rfl
theorem zc_X4_mixed : Cond.code yX4_mixed cX4_mixed 4 (some FieldType.long) ∈ zTbl := zq2 (List.mem_of_getElem? (i := 106) rfl) rfl
theorem zk_X4_236 : Cond.constantLong RX4 236 (31) ∈ zTbl := zq2 (List.mem_of_getElem? (i := 107) rfl) rfl
theorem zm_X4_170 : Cond.methodLink RX4 170 yX2_markOf ∈ zTbl := zq2 (List.mem_of_getElem? (i := 108) rfl) rfl
theorem zi_X2_markOf : Cond.instanceMethod yX2_markOf ∈ zTbl := zq2 (List.mem_of_getElem? (i := 109) rfl) rfl
theorem zs_X2_markOf : Cond.selects RX2 yX2_markOf yX2_markOf ∈ zTbl := zq2 (List.mem_of_getElem? (i := 110) rfl) rfl
theorem zc_X2_markOf : Cond.code yX2_markOf cX2_markOf 2 (some FieldType.int) ∈ zTbl := zq2 (List.mem_of_getElem? (i := 111) rfl) rfl
theorem zm_X4_165 : Cond.methodLink RX4 165 yX3_property ∈ zTbl := zq2 (List.mem_of_getElem? (i := 112) rfl) rfl
theorem zi_X3_property : Cond.instanceMethod yX3_property ∈ zTbl := zq2 (List.mem_of_getElem? (i := 113) rfl) rfl
theorem zs_X3_property : Cond.selects RX3 yX3_property yX3_property ∈ zTbl := zq2 (List.mem_of_getElem? (i := 114) rfl) rfl
theorem zc_X3_property : Cond.code yX3_property cX3_property 3 (some FieldType.int) ∈ zTbl := zq2 (List.mem_of_getElem? (i := 115) rfl) rfl
theorem zm_X3_57 : Cond.methodLink RX3 57 yX3_hasZone ∈ zTbl := zq2 (List.mem_of_getElem? (i := 116) rfl) rfl
theorem zi_X3_hasZone : Cond.instanceMethod yX3_hasZone ∈ zTbl := zq2 (List.mem_of_getElem? (i := 117) rfl) rfl
theorem zs_X3_hasZone : Cond.selects RX3 yX3_hasZone yX3_hasZone ∈ zTbl := zq2 (List.mem_of_getElem? (i := 118) rfl) rfl
theorem zc_X3_hasZone : Cond.code yX3_hasZone cX3_hasZone 2 (some FieldType.boolean) ∈ zTbl := zq2 (List.mem_of_getElem? (i := 119) rfl) rfl
theorem zm_X3_69 : Cond.methodLink RX3 69 yX3_toneOf ∈ zTbl := zq2 (List.mem_of_getElem? (i := 120) rfl) rfl
theorem zi_X3_toneOf : Cond.instanceMethod yX3_toneOf ∈ zTbl := zq2 (List.mem_of_getElem? (i := 121) rfl) rfl
theorem zs_X3_toneOf : Cond.selects RX3 yX3_toneOf yX3_toneOf ∈ zTbl := zq2 (List.mem_of_getElem? (i := 122) rfl) rfl
theorem zc_X3_toneOf : Cond.code yX3_toneOf cX3_toneOf 2 (some FieldType.int) ∈ zTbl := zq2 (List.mem_of_getElem? (i := 123) rfl) rfl
theorem zm_X3_75 : Cond.methodLink RX3 75 yX3_greatestNeed ∈ zTbl := zq2 (List.mem_of_getElem? (i := 124) rfl) rfl
theorem zi_X3_greatestNeed : Cond.instanceMethod yX3_greatestNeed ∈ zTbl := zq2 (List.mem_of_getElem? (i := 125) rfl) rfl
theorem zs_X3_greatestNeed : Cond.selects RX3 yX3_greatestNeed yX3_greatestNeed ∈ zTbl := zq2 (List.mem_of_getElem? (i := 126) rfl) rfl
theorem zc_X3_greatestNeed : Cond.code yX3_greatestNeed cX3_greatestNeed 4 (some FieldType.int) ∈ zTbl := zq2 (List.mem_of_getElem? (i := 127) rfl) rfl
theorem zm_X4_175 : Cond.methodLink RX4 175 yX3_readStrip ∈ zTbl := zq2 (List.mem_of_getElem? (i := 128) rfl) rfl
theorem zi_X3_readStrip : Cond.instanceMethod yX3_readStrip ∈ zTbl := zq2 (List.mem_of_getElem? (i := 129) rfl) rfl
theorem zs_X3_readStrip : Cond.selects RX3 yX3_readStrip yX3_readStrip ∈ zTbl := zq2 (List.mem_of_getElem? (i := 130) rfl) rfl
theorem zc_X3_readStrip : Cond.code yX3_readStrip cX3_readStrip 8 (some FieldType.int) ∈ zTbl := zq2 (List.mem_of_getElem? (i := 131) rfl) rfl
theorem zm_X3_110 : Cond.methodLink RX3 110 yX3_stripTime ∈ zTbl := zq2 (List.mem_of_getElem? (i := 132) rfl) rfl
theorem zt_X3_stripTime : Cond.static yX3_stripTime ∈ zTbl := zq2 (List.mem_of_getElem? (i := 133) rfl) rfl
theorem zc_X3_stripTime : Cond.code yX3_stripTime cX3_stripTime 3 (some FieldType.int) ∈ zTbl := zq2 (List.mem_of_getElem? (i := 134) rfl) rfl
theorem zf_X3_113 : Cond.fieldLink RX3 113 "ZonePrint$Print" "THIRDS" "[I" ∈ zTbl := zq2 (List.mem_of_getElem? (i := 135) rfl) rfl
theorem zm_X4_204 : Cond.methodLink RX4 204 yX4_tryBurn ∈ zTbl := zq2 (List.mem_of_getElem? (i := 137) rfl) rfl
theorem zi_X4_tryBurn : Cond.instanceMethod yX4_tryBurn ∈ zTbl := zq2 (List.mem_of_getElem? (i := 139) rfl) rfl
theorem zc_X4_tryBurn : Cond.code yX4_tryBurn cX4_tryBurn 4 (some FieldType.int) ∈ zTbl := zq2 (List.mem_of_getElem? (i := 140) rfl) rfl
theorem zm_X4_69 : Cond.methodLink RX4 69 yX3_hasZone ∈ zTbl := zq2 (List.mem_of_getElem? (i := 141) rfl) rfl
theorem zm_X4_107 : Cond.methodLink RX4 107 yX3_toneOf ∈ zTbl := zq2 (List.mem_of_getElem? (i := 142) rfl) rfl
theorem zm_X4_186 : Cond.methodLink RX4 186 yX4_tryTime ∈ zTbl := zq2 (List.mem_of_getElem? (i := 143) rfl) rfl
theorem zi_X4_tryTime : Cond.instanceMethod yX4_tryTime ∈ zTbl := zq2 (List.mem_of_getElem? (i := 145) rfl) rfl
theorem zc_X4_tryTime : Cond.code yX4_tryTime cX4_tryTime 3 (some FieldType.int) ∈ zTbl := zq2 (List.mem_of_getElem? (i := 146) rfl) rfl
theorem zm_X4_222 : Cond.methodLink RX4 222 yX4_bestTime ∈ zTbl := zq2 (List.mem_of_getElem? (i := 147) rfl) rfl
theorem zm_X4_225 : Cond.methodLink RX4 225 yX4_bestGrade ∈ zTbl := zq2 (List.mem_of_getElem? (i := 148) rfl) rfl
theorem zm_X4_210 : Cond.methodLink RX4 210 yX3_commonNeed ∈ zTbl := zq2 (List.mem_of_getElem? (i := 149) rfl) rfl
theorem zi_X3_commonNeed : Cond.instanceMethod yX3_commonNeed ∈ zTbl := zq2 (List.mem_of_getElem? (i := 150) rfl) rfl
theorem zs_X3_commonNeed : Cond.selects RX3 yX3_commonNeed yX3_commonNeed ∈ zTbl := zq2 (List.mem_of_getElem? (i := 151) rfl) rfl
theorem zc_X3_commonNeed : Cond.code yX3_commonNeed cX3_commonNeed 5 (some FieldType.int) ∈ zTbl := zq2 (List.mem_of_getElem? (i := 152) rfl) rfl
theorem zm_X4_228 : Cond.methodLink RX4 228 yX4_rightShare ∈ zTbl := zq2 (List.mem_of_getElem? (i := 153) rfl) rfl
theorem zm_X4_232 : Cond.methodLink RX4 232 yX4_bitsOf ∈ zTbl := zq2 (List.mem_of_getElem? (i := 154) rfl) rfl
theorem zt_X4_bitsOf : Cond.static yX4_bitsOf ∈ zTbl := zq2 (List.mem_of_getElem? (i := 155) rfl) rfl
theorem zc_X4_bitsOf : Cond.code yX4_bitsOf cX4_bitsOf 6 (some FieldType.long) ∈ zTbl := zq2 (List.mem_of_getElem? (i := 156) rfl) rfl
theorem zk_X4_238 : Cond.constantLong RX4 238 (1023) ∈ zTbl := zq2 (List.mem_of_getElem? (i := 157) rfl) rfl
theorem zm_L_78 : Cond.methodLink RL 78 yL_zone ∈ zTbl := zq2 (List.mem_of_getElem? (i := 160) rfl) rfl
theorem zt_L_zone : Cond.static yL_zone ∈ zTbl := zq2 (List.mem_of_getElem? (i := 161) rfl) rfl
theorem zl_L_13 : Cond.classLink RL 13 "java/lang/IllegalArgumentException" ∈ zTbl := zq2 (List.mem_of_getElem? (i := 163) rfl) rfl
theorem zl_L_15 : Cond.classLink RL 15 "java/lang/IllegalStateException" ∈ zTbl := zq2 (List.mem_of_getElem? (i := 164) rfl) rfl
theorem zm_L_7 : Cond.methodLink RL 7 yX4_zone ∈ zTbl := zq2 (List.mem_of_getElem? (i := 165) rfl) rfl
theorem zi_X4_zone : Cond.instanceMethod yX4_zone ∈ zTbl := zq2 (List.mem_of_getElem? (i := 166) rfl) rfl
theorem zs_X4_zone : Cond.selects RX4 yX4_zone yX4_zone ∈ zTbl := zq2 (List.mem_of_getElem? (i := 167) rfl) rfl
theorem zc_X4_zone : Cond.code yX4_zone cX4_zone 3 (some FieldType.int) ∈ zTbl := zq2 (List.mem_of_getElem? (i := 168) rfl) rfl
theorem zm_X4_41 : Cond.methodLink RX4 41 yX4_isWithin ∈ zTbl := zq2 (List.mem_of_getElem? (i := 169) rfl) rfl
theorem zl_X4_45 : Cond.classLink RX4 45 "java/lang/IllegalArgumentException" ∈ zTbl := zq2 (List.mem_of_getElem? (i := 170) rfl) rfl
theorem zo_IllegalArgumentException : Cond.instantiable "java/lang/IllegalArgumentException" 6 ∈ zTbl := zq2 (List.mem_of_getElem? (i := 171) rfl) rfl
theorem zy_481 : Cond.lays "java/lang/IllegalArgumentException" "java/lang/Throwable" "cause" "Ljava/lang/Throwable;" ∈ zTbl := zq2 (List.mem_of_getElem? (i := 181) rfl) rfl
theorem zy_482 : Cond.lays "java/lang/Throwable" "java/lang/Throwable" "cause" "Ljava/lang/Throwable;" ∈ zTbl := zq2 (List.mem_of_getElem? (i := 182) rfl) rfl
theorem zy_483 : Cond.lays "java/lang/IllegalArgumentException" "java/lang/Throwable" "stackTrace" "[Ljava/lang/StackTraceElement;" ∈ zTbl := zq2 (List.mem_of_getElem? (i := 183) rfl) rfl
theorem zy_484 : Cond.lays "java/lang/Throwable" "java/lang/Throwable" "stackTrace" "[Ljava/lang/StackTraceElement;" ∈ zTbl := zq2 (List.mem_of_getElem? (i := 184) rfl) rfl
theorem zy_485 : Cond.lays "java/lang/IllegalArgumentException" "java/lang/Throwable" "suppressedExceptions" "Ljava/util/List;" ∈ zTbl := zq2 (List.mem_of_getElem? (i := 185) rfl) rfl
theorem zy_486 : Cond.lays "java/lang/Throwable" "java/lang/Throwable" "suppressedExceptions" "Ljava/util/List;" ∈ zTbl := zq2 (List.mem_of_getElem? (i := 186) rfl) rfl
theorem zy_487 : Cond.lays "java/lang/IllegalArgumentException" "java/lang/Throwable" "detailMessage" "Ljava/lang/String;" ∈ zTbl := zq2 (List.mem_of_getElem? (i := 187) rfl) rfl
theorem zy_488 : Cond.lays "java/lang/Throwable" "java/lang/Throwable" "detailMessage" "Ljava/lang/String;" ∈ zTbl := zq2 (List.mem_of_getElem? (i := 188) rfl) rfl
theorem zy_489 : Cond.lays "java/lang/IllegalArgumentException" "java/lang/Throwable" "backtrace" "Ljava/lang/Object;" ∈ zTbl := zq2 (List.mem_of_getElem? (i := 189) rfl) rfl
theorem zy_490 : Cond.lays "java/lang/Throwable" "java/lang/Throwable" "backtrace" "Ljava/lang/Object;" ∈ zTbl := zq2 (List.mem_of_getElem? (i := 190) rfl) rfl
theorem zo_Throwable : Cond.instantiable "java/lang/Throwable" 6 ∈ zTbl := zq2 (List.mem_of_getElem? (i := 209) rfl) rfl
theorem zy_529 : Cond.soleField "java/lang/Throwable" "backtrace" ∈ zTbl := zq2 (List.mem_of_getElem? (i := 229) rfl) rfl
theorem zy_530 : Cond.soleField "java/lang/Throwable" "detailMessage" ∈ zTbl := zq2 (List.mem_of_getElem? (i := 230) rfl) rfl
theorem zy_531 : Cond.soleField "java/lang/Throwable" "cause" ∈ zTbl := zq2 (List.mem_of_getElem? (i := 231) rfl) rfl
theorem zy_532 : Cond.soleField "java/lang/Throwable" "stackTrace" ∈ zTbl := zq2 (List.mem_of_getElem? (i := 232) rfl) rfl
theorem zy_533 : Cond.lays "java/lang/IllegalArgumentException" "java/lang/Throwable" "depth" "I" ∈ zTbl := zq2 (List.mem_of_getElem? (i := 233) rfl) rfl
theorem zy_534 : Cond.soleField "java/lang/Throwable" "depth" ∈ zTbl := zq2 (List.mem_of_getElem? (i := 234) rfl) rfl
theorem zy_535 : Cond.soleField "java/lang/Throwable" "suppressedExceptions" ∈ zTbl := zq2 (List.mem_of_getElem? (i := 235) rfl) rfl
theorem za_537 : Cond.arrayClass FieldType.byte ∈ zTbl := zq2 (List.mem_of_getElem? (i := 237) rfl) rfl
theorem zm_X4_52 : Cond.methodLink RX4 52 yX3_isFull ∈ zTbl := zq2 (List.mem_of_getElem? (i := 238) rfl) rfl
theorem zi_X3_isFull : Cond.instanceMethod yX3_isFull ∈ zTbl := zq2 (List.mem_of_getElem? (i := 239) rfl) rfl
theorem zs_X3_isFull : Cond.selects RX3 yX3_isFull yX3_isFull ∈ zTbl := zq3 (List.mem_of_getElem? (i := 0) rfl) rfl
theorem zc_X3_isFull : Cond.code yX3_isFull cX3_isFull 1 (some FieldType.boolean) ∈ zTbl := zq3 (List.mem_of_getElem? (i := 1) rfl) rfl
theorem zl_X4_56 : Cond.classLink RX4 56 "java/lang/IllegalStateException" ∈ zTbl := zq3 (List.mem_of_getElem? (i := 2) rfl) rfl
theorem zo_IllegalStateException : Cond.instantiable "java/lang/IllegalStateException" 6 ∈ zTbl := zq3 (List.mem_of_getElem? (i := 3) rfl) rfl
theorem zy_546 : Cond.lays "java/lang/IllegalStateException" "java/lang/Throwable" "cause" "Ljava/lang/Throwable;" ∈ zTbl := zq3 (List.mem_of_getElem? (i := 6) rfl) rfl
theorem zy_547 : Cond.lays "java/lang/IllegalStateException" "java/lang/Throwable" "stackTrace" "[Ljava/lang/StackTraceElement;" ∈ zTbl := zq3 (List.mem_of_getElem? (i := 7) rfl) rfl
theorem zy_548 : Cond.lays "java/lang/IllegalStateException" "java/lang/Throwable" "suppressedExceptions" "Ljava/util/List;" ∈ zTbl := zq3 (List.mem_of_getElem? (i := 8) rfl) rfl
theorem zy_549 : Cond.lays "java/lang/IllegalStateException" "java/lang/Throwable" "detailMessage" "Ljava/lang/String;" ∈ zTbl := zq3 (List.mem_of_getElem? (i := 9) rfl) rfl
theorem zy_550 : Cond.lays "java/lang/IllegalStateException" "java/lang/Throwable" "backtrace" "Ljava/lang/Object;" ∈ zTbl := zq3 (List.mem_of_getElem? (i := 10) rfl) rfl
theorem zy_556 : Cond.lays "java/lang/IllegalStateException" "java/lang/Throwable" "depth" "I" ∈ zTbl := zq3 (List.mem_of_getElem? (i := 16) rfl) rfl
theorem zm_X4_65 : Cond.methodLink RX4 65 yX3_addZone ∈ zTbl := zq3 (List.mem_of_getElem? (i := 18) rfl) rfl
theorem zi_X3_addZone : Cond.instanceMethod yX3_addZone ∈ zTbl := zq3 (List.mem_of_getElem? (i := 19) rfl) rfl
theorem zs_X3_addZone : Cond.selects RX3 yX3_addZone yX3_addZone ∈ zTbl := zq3 (List.mem_of_getElem? (i := 20) rfl) rfl
theorem zc_X3_addZone : Cond.code yX3_addZone cX3_addZone 4 (some FieldType.int) ∈ zTbl := zq3 (List.mem_of_getElem? (i := 21) rfl) rfl
theorem zm_L_87 : Cond.methodLink RL 87 yL_want ∈ zTbl := zq3 (List.mem_of_getElem? (i := 22) rfl) rfl
theorem zt_L_want : Cond.static yL_want ∈ zTbl := zq3 (List.mem_of_getElem? (i := 23) rfl) rfl
theorem zl_L_20 : Cond.classLink RL 20 "java/lang/IndexOutOfBoundsException" ∈ zTbl := zq3 (List.mem_of_getElem? (i := 25) rfl) rfl
theorem zm_L_17 : Cond.methodLink RL 17 yX4_want ∈ zTbl := zq3 (List.mem_of_getElem? (i := 26) rfl) rfl
theorem zi_X4_want : Cond.instanceMethod yX4_want ∈ zTbl := zq3 (List.mem_of_getElem? (i := 27) rfl) rfl
theorem zs_X4_want : Cond.selects RX4 yX4_want yX4_want ∈ zTbl := zq3 (List.mem_of_getElem? (i := 28) rfl) rfl
theorem zc_X4_want : Cond.code yX4_want cX4_want 4 (some FieldType.int) ∈ zTbl := zq3 (List.mem_of_getElem? (i := 29) rfl) rfl
theorem zl_X4_73 : Cond.classLink RX4 73 "java/lang/IndexOutOfBoundsException" ∈ zTbl := zq3 (List.mem_of_getElem? (i := 30) rfl) rfl
theorem zo_IndexOutOfBoundsException : Cond.instantiable "java/lang/IndexOutOfBoundsException" 6 ∈ zTbl := zq3 (List.mem_of_getElem? (i := 31) rfl) rfl
theorem zy_574 : Cond.lays "java/lang/IndexOutOfBoundsException" "java/lang/Throwable" "cause" "Ljava/lang/Throwable;" ∈ zTbl := zq3 (List.mem_of_getElem? (i := 34) rfl) rfl
theorem zy_575 : Cond.lays "java/lang/IndexOutOfBoundsException" "java/lang/Throwable" "stackTrace" "[Ljava/lang/StackTraceElement;" ∈ zTbl := zq3 (List.mem_of_getElem? (i := 35) rfl) rfl
theorem zy_576 : Cond.lays "java/lang/IndexOutOfBoundsException" "java/lang/Throwable" "suppressedExceptions" "Ljava/util/List;" ∈ zTbl := zq3 (List.mem_of_getElem? (i := 36) rfl) rfl
theorem zy_577 : Cond.lays "java/lang/IndexOutOfBoundsException" "java/lang/Throwable" "detailMessage" "Ljava/lang/String;" ∈ zTbl := zq3 (List.mem_of_getElem? (i := 37) rfl) rfl
theorem zy_578 : Cond.lays "java/lang/IndexOutOfBoundsException" "java/lang/Throwable" "backtrace" "Ljava/lang/Object;" ∈ zTbl := zq3 (List.mem_of_getElem? (i := 38) rfl) rfl
theorem zy_584 : Cond.lays "java/lang/IndexOutOfBoundsException" "java/lang/Throwable" "depth" "I" ∈ zTbl := zq3 (List.mem_of_getElem? (i := 44) rfl) rfl
theorem zm_L_90 : Cond.methodLink RL 90 yL_link ∈ zTbl := zq3 (List.mem_of_getElem? (i := 47) rfl) rfl
theorem zt_L_link : Cond.static yL_link ∈ zTbl := zq3 (List.mem_of_getElem? (i := 48) rfl) rfl
theorem zm_L_22 : Cond.methodLink RL 22 yX4_link ∈ zTbl := zq3 (List.mem_of_getElem? (i := 50) rfl) rfl
theorem zi_X4_link : Cond.instanceMethod yX4_link ∈ zTbl := zq3 (List.mem_of_getElem? (i := 51) rfl) rfl
theorem zs_X4_link : Cond.selects RX4 yX4_link yX4_link ∈ zTbl := zq3 (List.mem_of_getElem? (i := 52) rfl) rfl
theorem zc_X4_link : Cond.code yX4_link cX4_link 4 (some FieldType.int) ∈ zTbl := zq3 (List.mem_of_getElem? (i := 53) rfl) rfl
theorem zm_X4_85 : Cond.methodLink RX4 85 yX3_areNeighbours ∈ zTbl := zq3 (List.mem_of_getElem? (i := 55) rfl) rfl
theorem zi_X3_areNeighbours : Cond.instanceMethod yX3_areNeighbours ∈ zTbl := zq3 (List.mem_of_getElem? (i := 56) rfl) rfl
theorem zs_X3_areNeighbours : Cond.selects RX3 yX3_areNeighbours yX3_areNeighbours ∈ zTbl := zq3 (List.mem_of_getElem? (i := 57) rfl) rfl
theorem zc_X3_areNeighbours : Cond.code yX3_areNeighbours cX3_areNeighbours 3 (some FieldType.boolean) ∈ zTbl := zq3 (List.mem_of_getElem? (i := 58) rfl) rfl
theorem zm_X4_89 : Cond.methodLink RX4 89 yX3_setNeighbours ∈ zTbl := zq3 (List.mem_of_getElem? (i := 59) rfl) rfl
theorem zi_X3_setNeighbours : Cond.instanceMethod yX3_setNeighbours ∈ zTbl := zq3 (List.mem_of_getElem? (i := 60) rfl) rfl
theorem zs_X3_setNeighbours : Cond.selects RX3 yX3_setNeighbours yX3_setNeighbours ∈ zTbl := zq3 (List.mem_of_getElem? (i := 61) rfl) rfl
theorem zc_X3_setNeighbours : Cond.code yX3_setNeighbours cX3_setNeighbours 4 (none : Option FieldType) ∈ zTbl := zq3 (List.mem_of_getElem? (i := 62) rfl) rfl
theorem zm_L_93 : Cond.methodLink RL 93 yL_expose ∈ zTbl := zq3 (List.mem_of_getElem? (i := 63) rfl) rfl
theorem zt_L_expose : Cond.static yL_expose ∈ zTbl := zq3 (List.mem_of_getElem? (i := 64) rfl) rfl
theorem zm_L_25 : Cond.methodLink RL 25 yX4_expose ∈ zTbl := zq3 (List.mem_of_getElem? (i := 66) rfl) rfl
theorem zi_X4_expose : Cond.instanceMethod yX4_expose ∈ zTbl := zq3 (List.mem_of_getElem? (i := 67) rfl) rfl
theorem zs_X4_expose : Cond.selects RX4 yX4_expose yX4_expose ∈ zTbl := zq3 (List.mem_of_getElem? (i := 68) rfl) rfl
theorem zc_X4_expose : Cond.code yX4_expose cX4_expose 2 (some FieldType.int) ∈ zTbl := zq3 (List.mem_of_getElem? (i := 69) rfl) rfl
theorem zm_L_97 : Cond.methodLink RL 97 yL_burn ∈ zTbl := zq3 (List.mem_of_getElem? (i := 71) rfl) rfl
theorem zt_L_burn : Cond.static yL_burn ∈ zTbl := zq3 (List.mem_of_getElem? (i := 72) rfl) rfl
theorem zm_L_29 : Cond.methodLink RL 29 yX4_burn ∈ zTbl := zq3 (List.mem_of_getElem? (i := 74) rfl) rfl
theorem zi_X4_burn : Cond.instanceMethod yX4_burn ∈ zTbl := zq3 (List.mem_of_getElem? (i := 75) rfl) rfl
theorem zs_X4_burn : Cond.selects RX4 yX4_burn yX4_burn ∈ zTbl := zq3 (List.mem_of_getElem? (i := 76) rfl) rfl
theorem zc_X4_burn : Cond.code yX4_burn cX4_burn 3 (some FieldType.int) ∈ zTbl := zq3 (List.mem_of_getElem? (i := 77) rfl) rfl
theorem zm_L_100 : Cond.methodLink RL 100 yL_hold ∈ zTbl := zq3 (List.mem_of_getElem? (i := 79) rfl) rfl
theorem zt_L_hold : Cond.static yL_hold ∈ zTbl := zq3 (List.mem_of_getElem? (i := 80) rfl) rfl
theorem zm_L_32 : Cond.methodLink RL 32 yX4_hold ∈ zTbl := zq3 (List.mem_of_getElem? (i := 82) rfl) rfl
theorem zi_X4_hold : Cond.instanceMethod yX4_hold ∈ zTbl := zq3 (List.mem_of_getElem? (i := 83) rfl) rfl
theorem zs_X4_hold : Cond.selects RX4 yX4_hold yX4_hold ∈ zTbl := zq3 (List.mem_of_getElem? (i := 84) rfl) rfl
theorem zc_X4_hold : Cond.code yX4_hold cX4_hold 3 (some FieldType.int) ∈ zTbl := zq3 (List.mem_of_getElem? (i := 85) rfl) rfl
theorem zm_L_103 : Cond.methodLink RL 103 yL_paper ∈ zTbl := zq3 (List.mem_of_getElem? (i := 86) rfl) rfl
theorem zt_L_paper : Cond.static yL_paper ∈ zTbl := zq3 (List.mem_of_getElem? (i := 87) rfl) rfl
theorem zm_L_35 : Cond.methodLink RL 35 yX4_paper ∈ zTbl := zq3 (List.mem_of_getElem? (i := 89) rfl) rfl
theorem zi_X4_paper : Cond.instanceMethod yX4_paper ∈ zTbl := zq3 (List.mem_of_getElem? (i := 90) rfl) rfl
theorem zs_X4_paper : Cond.selects RX4 yX4_paper yX4_paper ∈ zTbl := zq3 (List.mem_of_getElem? (i := 91) rfl) rfl
theorem zc_X4_paper : Cond.code yX4_paper cX4_paper 3 (some FieldType.int) ∈ zTbl := zq3 (List.mem_of_getElem? (i := 92) rfl) rfl
theorem zm_L_110 : Cond.methodLink RL 110 yL_set ∈ zTbl := zq3 (List.mem_of_getElem? (i := 94) rfl) rfl
theorem zt_L_set : Cond.static yL_set ∈ zTbl := zq3 (List.mem_of_getElem? (i := 95) rfl) rfl
theorem zm_L_38 : Cond.methodLink RL 38 yX4_set ∈ zTbl := zq3 (List.mem_of_getElem? (i := 97) rfl) rfl
theorem zi_X4_set : Cond.instanceMethod yX4_set ∈ zTbl := zq3 (List.mem_of_getElem? (i := 98) rfl) rfl
theorem zs_X4_set : Cond.selects RX4 yX4_set yX4_set ∈ zTbl := zq3 (List.mem_of_getElem? (i := 99) rfl) rfl
theorem zc_X4_set : Cond.code yX4_set cX4_set 3 (some FieldType.int) ∈ zTbl := zq3 (List.mem_of_getElem? (i := 100) rfl) rfl
theorem zm_L_113 : Cond.methodLink RL 113 yL_append ∈ zTbl := zq3 (List.mem_of_getElem? (i := 102) rfl) rfl
theorem zt_L_append : Cond.static yL_append ∈ zTbl := zq3 (List.mem_of_getElem? (i := 103) rfl) rfl
theorem zm_L_41 : Cond.methodLink RL 41 yX4_append ∈ zTbl := zq3 (List.mem_of_getElem? (i := 105) rfl) rfl
theorem zi_X4_append : Cond.instanceMethod yX4_append ∈ zTbl := zq3 (List.mem_of_getElem? (i := 106) rfl) rfl
theorem zs_X4_append : Cond.selects RX4 yX4_append yX4_append ∈ zTbl := zq3 (List.mem_of_getElem? (i := 107) rfl) rfl
theorem zc_X4_append : Cond.code yX4_append cX4_append 2 (some FieldType.int) ∈ zTbl := zq3 (List.mem_of_getElem? (i := 108) rfl) rfl
theorem zm_L_124 : Cond.methodLink RL 124 yL_run ∈ zTbl := zq3 (List.mem_of_getElem? (i := 111) rfl) rfl
theorem zt_L_run : Cond.static yL_run ∈ zTbl := zq3 (List.mem_of_getElem? (i := 112) rfl) rfl
theorem zm_L_44 : Cond.methodLink RL 44 yX4_run ∈ zTbl := zq3 (List.mem_of_getElem? (i := 114) rfl) rfl
theorem zi_X4_run : Cond.instanceMethod yX4_run ∈ zTbl := zq3 (List.mem_of_getElem? (i := 115) rfl) rfl
theorem zs_X4_run : Cond.selects RX4 yX4_run yX4_run ∈ zTbl := zq3 (List.mem_of_getElem? (i := 116) rfl) rfl
theorem zc_X4_run : Cond.code yX4_run cX4_run 2 (some FieldType.int) ∈ zTbl := zq3 (List.mem_of_getElem? (i := 117) rfl) rfl
theorem zm_X4_143 : Cond.methodLink RX4 143 yX4_firstError ∈ zTbl := zq3 (List.mem_of_getElem? (i := 118) rfl) rfl
theorem zm_X4_147 : Cond.methodLink RX4 147 yX1_endsAnOrder ∈ zTbl := zq3 (List.mem_of_getElem? (i := 119) rfl) rfl
theorem zi_X1_endsAnOrder : Cond.instanceMethod yX1_endsAnOrder ∈ zTbl := zq3 (List.mem_of_getElem? (i := 120) rfl) rfl
theorem zs_X1_endsAnOrder : Cond.selects RX1 yX1_endsAnOrder yX1_endsAnOrder ∈ zTbl := zq3 (List.mem_of_getElem? (i := 121) rfl) rfl
theorem zc_X1_endsAnOrder : Cond.code yX1_endsAnOrder cX1_endsAnOrder 1 (some FieldType.boolean) ∈ zTbl := zq3 (List.mem_of_getElem? (i := 122) rfl) rfl
theorem zm_X4_152 : Cond.methodLink RX4 152 yX4_doOrders ∈ zTbl := zq3 (List.mem_of_getElem? (i := 124) rfl) rfl
theorem zi_X4_doOrders : Cond.instanceMethod yX4_doOrders ∈ zTbl := zq3 (List.mem_of_getElem? (i := 126) rfl) rfl
theorem zc_X4_doOrders : Cond.code yX4_doOrders cX4_doOrders 3 (some FieldType.int) ∈ zTbl := zq3 (List.mem_of_getElem? (i := 127) rfl) rfl
theorem zm_X4_253 : Cond.methodLink RX4 253 yX4_isLastOfOrder ∈ zTbl := zq3 (List.mem_of_getElem? (i := 128) rfl) rfl
theorem zi_X4_isLastOfOrder : Cond.instanceMethod yX4_isLastOfOrder ∈ zTbl := zq3 (List.mem_of_getElem? (i := 130) rfl) rfl
theorem zc_X4_isLastOfOrder : Cond.code yX4_isLastOfOrder cX4_isLastOfOrder 3 (some FieldType.boolean) ∈ zTbl := zq3 (List.mem_of_getElem? (i := 131) rfl) rfl
theorem zm_X4_256 : Cond.methodLink RX4 256 yX4_doOrder ∈ zTbl := zq3 (List.mem_of_getElem? (i := 132) rfl) rfl
theorem zi_X4_doOrder : Cond.instanceMethod yX4_doOrder ∈ zTbl := zq3 (List.mem_of_getElem? (i := 134) rfl) rfl
theorem zc_X4_doOrder : Cond.code yX4_doOrder cX4_doOrder 3 (some FieldType.boolean) ∈ zTbl := zq3 (List.mem_of_getElem? (i := 135) rfl) rfl
theorem zm_L_128 : Cond.methodLink RL 128 yL_undo ∈ zTbl := zq3 (List.mem_of_getElem? (i := 136) rfl) rfl
theorem zt_L_undo : Cond.static yL_undo ∈ zTbl := zq3 (List.mem_of_getElem? (i := 137) rfl) rfl
theorem zm_L_48 : Cond.methodLink RL 48 yX4_undo ∈ zTbl := zq3 (List.mem_of_getElem? (i := 139) rfl) rfl
theorem zi_X4_undo : Cond.instanceMethod yX4_undo ∈ zTbl := zq3 (List.mem_of_getElem? (i := 140) rfl) rfl
theorem zs_X4_undo : Cond.selects RX4 yX4_undo yX4_undo ∈ zTbl := zq3 (List.mem_of_getElem? (i := 141) rfl) rfl
theorem zc_X4_undo : Cond.code yX4_undo cX4_undo 1 (some FieldType.int) ∈ zTbl := zq3 (List.mem_of_getElem? (i := 142) rfl) rfl
theorem zm_X4_160 : Cond.methodLink RX4 160 yX0_giveBack ∈ zTbl := zq3 (List.mem_of_getElem? (i := 144) rfl) rfl
theorem zi_X0_giveBack : Cond.instanceMethod yX0_giveBack ∈ zTbl := zq3 (List.mem_of_getElem? (i := 145) rfl) rfl
theorem zs_X0_giveBack : Cond.selects RX0 yX0_giveBack yX0_giveBack ∈ zTbl := zq3 (List.mem_of_getElem? (i := 146) rfl) rfl
theorem zc_X0_giveBack : Cond.code yX0_giveBack cX0_giveBack 3 (none : Option FieldType) ∈ zTbl := zq3 (List.mem_of_getElem? (i := 147) rfl) rfl
theorem zm_L_131 : Cond.methodLink RL 131 yL_zoneOf ∈ zTbl := zq3 (List.mem_of_getElem? (i := 148) rfl) rfl
theorem zt_L_zoneOf : Cond.static yL_zoneOf ∈ zTbl := zq3 (List.mem_of_getElem? (i := 149) rfl) rfl
theorem zm_L_51 : Cond.methodLink RL 51 yX4_zoneOf ∈ zTbl := zq3 (List.mem_of_getElem? (i := 151) rfl) rfl
theorem zi_X4_zoneOf : Cond.instanceMethod yX4_zoneOf ∈ zTbl := zq3 (List.mem_of_getElem? (i := 152) rfl) rfl
theorem zs_X4_zoneOf : Cond.selects RX4 yX4_zoneOf yX4_zoneOf ∈ zTbl := zq3 (List.mem_of_getElem? (i := 153) rfl) rfl
theorem zc_X4_zoneOf : Cond.code yX4_zoneOf cX4_zoneOf 3 (some FieldType.int) ∈ zTbl := zq3 (List.mem_of_getElem? (i := 154) rfl) rfl
theorem zm_L_134 : Cond.methodLink RL 134 yL_mark ∈ zTbl := zq3 (List.mem_of_getElem? (i := 156) rfl) rfl
theorem zt_L_mark : Cond.static yL_mark ∈ zTbl := zq3 (List.mem_of_getElem? (i := 157) rfl) rfl
theorem zm_L_54 : Cond.methodLink RL 54 yX4_mark ∈ zTbl := zq3 (List.mem_of_getElem? (i := 159) rfl) rfl
theorem zi_X4_mark : Cond.instanceMethod yX4_mark ∈ zTbl := zq3 (List.mem_of_getElem? (i := 160) rfl) rfl
theorem zs_X4_mark : Cond.selects RX4 yX4_mark yX4_mark ∈ zTbl := zq3 (List.mem_of_getElem? (i := 161) rfl) rfl
theorem zc_X4_mark : Cond.code yX4_mark cX4_mark 2 (some FieldType.int) ∈ zTbl := zq3 (List.mem_of_getElem? (i := 162) rfl) rfl
theorem zm_L_137 : Cond.methodLink RL 137 yL_strip ∈ zTbl := zq3 (List.mem_of_getElem? (i := 164) rfl) rfl
theorem zt_L_strip : Cond.static yL_strip ∈ zTbl := zq3 (List.mem_of_getElem? (i := 165) rfl) rfl
theorem zm_L_57 : Cond.methodLink RL 57 yX4_strip ∈ zTbl := zq3 (List.mem_of_getElem? (i := 167) rfl) rfl
theorem zi_X4_strip : Cond.instanceMethod yX4_strip ∈ zTbl := zq3 (List.mem_of_getElem? (i := 168) rfl) rfl
theorem zs_X4_strip : Cond.selects RX4 yX4_strip yX4_strip ∈ zTbl := zq3 (List.mem_of_getElem? (i := 169) rfl) rfl
theorem zc_X4_strip : Cond.code yX4_strip cX4_strip 5 (some FieldType.int) ∈ zTbl := zq3 (List.mem_of_getElem? (i := 170) rfl) rfl
theorem zm_L_141 : Cond.methodLink RL 141 yL_count ∈ zTbl := zq3 (List.mem_of_getElem? (i := 172) rfl) rfl
theorem zt_L_count : Cond.static yL_count ∈ zTbl := zq3 (List.mem_of_getElem? (i := 173) rfl) rfl
theorem zm_L_61 : Cond.methodLink RL 61 yX4_count ∈ zTbl := zq3 (List.mem_of_getElem? (i := 175) rfl) rfl
theorem zi_X4_count : Cond.instanceMethod yX4_count ∈ zTbl := zq3 (List.mem_of_getElem? (i := 176) rfl) rfl
theorem zs_X4_count : Cond.selects RX4 yX4_count yX4_count ∈ zTbl := zq3 (List.mem_of_getElem? (i := 177) rfl) rfl
theorem zc_X4_count : Cond.code yX4_count cX4_count 2 (some FieldType.int) ∈ zTbl := zq3 (List.mem_of_getElem? (i := 178) rfl) rfl
theorem zm_L_144 : Cond.methodLink RL 144 yL_ifExposed ∈ zTbl := zq3 (List.mem_of_getElem? (i := 180) rfl) rfl
theorem zt_L_ifExposed : Cond.static yL_ifExposed ∈ zTbl := zq3 (List.mem_of_getElem? (i := 181) rfl) rfl
theorem zm_L_64 : Cond.methodLink RL 64 yX4_ifExposed ∈ zTbl := zq3 (List.mem_of_getElem? (i := 183) rfl) rfl
theorem zi_X4_ifExposed : Cond.instanceMethod yX4_ifExposed ∈ zTbl := zq3 (List.mem_of_getElem? (i := 184) rfl) rfl
theorem zs_X4_ifExposed : Cond.selects RX4 yX4_ifExposed yX4_ifExposed ∈ zTbl := zq3 (List.mem_of_getElem? (i := 185) rfl) rfl
theorem zc_X4_ifExposed : Cond.code yX4_ifExposed cX4_ifExposed 3 (some FieldType.int) ∈ zTbl := zq3 (List.mem_of_getElem? (i := 186) rfl) rfl
theorem zm_L_155 : Cond.methodLink RL 155 yL_ifBurned ∈ zTbl := zq3 (List.mem_of_getElem? (i := 188) rfl) rfl
theorem zt_L_ifBurned : Cond.static yL_ifBurned ∈ zTbl := zq3 (List.mem_of_getElem? (i := 189) rfl) rfl
theorem zm_L_67 : Cond.methodLink RL 67 yX4_ifBurned ∈ zTbl := zq3 (List.mem_of_getElem? (i := 191) rfl) rfl
theorem zi_X4_ifBurned : Cond.instanceMethod yX4_ifBurned ∈ zTbl := zq3 (List.mem_of_getElem? (i := 192) rfl) rfl
theorem zs_X4_ifBurned : Cond.selects RX4 yX4_ifBurned yX4_ifBurned ∈ zTbl := zq3 (List.mem_of_getElem? (i := 193) rfl) rfl
theorem zc_X4_ifBurned : Cond.code yX4_ifBurned cX4_ifBurned 4 (some FieldType.int) ∈ zTbl := zq3 (List.mem_of_getElem? (i := 194) rfl) rfl
theorem zm_L_159 : Cond.methodLink RL 159 yL_common ∈ zTbl := zq3 (List.mem_of_getElem? (i := 196) rfl) rfl
theorem zt_L_common : Cond.static yL_common ∈ zTbl := zq3 (List.mem_of_getElem? (i := 197) rfl) rfl
theorem zm_L_71 : Cond.methodLink RL 71 yX4_common ∈ zTbl := zq3 (List.mem_of_getElem? (i := 199) rfl) rfl
theorem zi_X4_common : Cond.instanceMethod yX4_common ∈ zTbl := zq3 (List.mem_of_getElem? (i := 200) rfl) rfl
theorem zs_X4_common : Cond.selects RX4 yX4_common yX4_common ∈ zTbl := zq3 (List.mem_of_getElem? (i := 201) rfl) rfl
theorem zc_X4_common : Cond.code yX4_common cX4_common 2 (some FieldType.int) ∈ zTbl := zq3 (List.mem_of_getElem? (i := 202) rfl) rfl
theorem zl_L_75 : Cond.classLink RL 75 RX5 ∈ zTbl := zq3 (List.mem_of_getElem? (i := 204) rfl) rfl
theorem zo_X5 : Cond.instantiable RX5 15 ∈ zTbl := zq3 (List.mem_of_getElem? (i := 205) rfl) rfl
theorem zm_L_77 : Cond.methodLink RL 77 yX5_init ∈ zTbl := zq3 (List.mem_of_getElem? (i := 206) rfl) rfl
theorem zi_X5_init : Cond.instanceMethod yX5_init ∈ zTbl := zq3 (List.mem_of_getElem? (i := 207) rfl) rfl
theorem zc_X5_init : Cond.code yX5_init cX5_init 1 (none : Option FieldType) ∈ zTbl := zq3 (List.mem_of_getElem? (i := 208) rfl) rfl
theorem zm_X5_1 : Cond.methodLink RX5 1 objectInit ∈ zTbl := zq3 (List.mem_of_getElem? (i := 209) rfl) rfl
theorem zf_X5_28 : Cond.fieldLink RX5 28 "ZonePrintModel" "thrown" "I" ∈ zTbl := zq3 (List.mem_of_getElem? (i := 210) rfl) rfl
theorem zf_X5_7 : Cond.fieldLink RX5 7 "ZonePrintModel" "s" "[I" ∈ zTbl := zq3 (List.mem_of_getElem? (i := 211) rfl) rfl
theorem zf_X5_13 : Cond.fieldLink RX5 13 "ZonePrintModel" "aside" "[I" ∈ zTbl := zq3 (List.mem_of_getElem? (i := 212) rfl) rfl
theorem zf_X5_16 : Cond.fieldLink RX5 16 "ZonePrintModel" "saved" "[I" ∈ zTbl := zq3 (List.mem_of_getElem? (i := 213) rfl) rfl
theorem zf_X5_36 : Cond.fieldLink RX5 36 "ZonePrintModel" "savedMany" "I" ∈ zTbl := zq3 (List.mem_of_getElem? (i := 214) rfl) rfl
theorem zf_X5_19 : Cond.fieldLink RX5 19 "ZonePrintModel" "text" "[I" ∈ zTbl := zq3 (List.mem_of_getElem? (i := 215) rfl) rfl
theorem zf_X5_127 : Cond.fieldLink RX5 127 "ZonePrintModel" "length" "I" ∈ zTbl := zq3 (List.mem_of_getElem? (i := 216) rfl) rfl
theorem zf_X5_22 : Cond.fieldLink RX5 22 "ZonePrintModel" "marks" "[I" ∈ zTbl := zq3 (List.mem_of_getElem? (i := 217) rfl) rfl
theorem zf_X5_25 : Cond.fieldLink RX5 25 "ZonePrintModel" "leasts" "[I" ∈ zTbl := zq3 (List.mem_of_getElem? (i := 218) rfl) rfl
theorem zf_X5_130 : Cond.fieldLink RX5 130 "ZonePrintModel" "at" "I" ∈ zTbl := zq3 (List.mem_of_getElem? (i := 219) rfl) rfl
theorem zf_X5_133 : Cond.fieldLink RX5 133 "ZonePrintModel" "isWrong" "Z" ∈ zTbl := zq3 (List.mem_of_getElem? (i := 220) rfl) rfl
theorem zf_X5_140 : Cond.fieldLink RX5 140 "ZonePrintModel" "letter" "I" ∈ zTbl := zq3 (List.mem_of_getElem? (i := 221) rfl) rfl
theorem zf_X5_143 : Cond.fieldLink RX5 143 "ZonePrintModel" "one" "I" ∈ zTbl := zq3 (List.mem_of_getElem? (i := 222) rfl) rfl
theorem zf_X5_146 : Cond.fieldLink RX5 146 "ZonePrintModel" "two" "I" ∈ zTbl := zq3 (List.mem_of_getElem? (i := 223) rfl) rfl
theorem zf_X5_223 : Cond.fieldLink RX5 223 "ZonePrintModel" "digested" "J" ∈ zTbl := zq3 (List.mem_of_getElem? (i := 224) rfl) rfl
theorem zy_765 : Cond.lays "ZonePrintModel" "ZonePrintModel" "thrown" "I" ∈ zTbl := zq3 (List.mem_of_getElem? (i := 225) rfl) rfl
theorem zy_766 : Cond.soleField "ZonePrintModel" "thrown" ∈ zTbl := zq3 (List.mem_of_getElem? (i := 226) rfl) rfl
theorem zy_767 : Cond.laysFinal "ZonePrintModel" "ZonePrintModel" "s" "[I" ∈ zTbl := zq3 (List.mem_of_getElem? (i := 227) rfl) rfl
theorem zy_768 : Cond.soleField "ZonePrintModel" "s" ∈ zTbl := zq3 (List.mem_of_getElem? (i := 228) rfl) rfl
theorem zy_769 : Cond.laysFinal "ZonePrintModel" "ZonePrintModel" "aside" "[I" ∈ zTbl := zq3 (List.mem_of_getElem? (i := 229) rfl) rfl
theorem zy_770 : Cond.soleField "ZonePrintModel" "aside" ∈ zTbl := zq3 (List.mem_of_getElem? (i := 230) rfl) rfl
theorem zy_771 : Cond.laysFinal "ZonePrintModel" "ZonePrintModel" "saved" "[I" ∈ zTbl := zq3 (List.mem_of_getElem? (i := 231) rfl) rfl
theorem zy_772 : Cond.soleField "ZonePrintModel" "saved" ∈ zTbl := zq3 (List.mem_of_getElem? (i := 232) rfl) rfl
theorem zy_773 : Cond.lays "ZonePrintModel" "ZonePrintModel" "savedMany" "I" ∈ zTbl := zq3 (List.mem_of_getElem? (i := 233) rfl) rfl
theorem zy_774 : Cond.soleField "ZonePrintModel" "savedMany" ∈ zTbl := zq3 (List.mem_of_getElem? (i := 234) rfl) rfl
theorem zy_775 : Cond.laysFinal "ZonePrintModel" "ZonePrintModel" "text" "[I" ∈ zTbl := zq3 (List.mem_of_getElem? (i := 235) rfl) rfl
theorem zy_776 : Cond.soleField "ZonePrintModel" "text" ∈ zTbl := zq3 (List.mem_of_getElem? (i := 236) rfl) rfl
theorem zy_777 : Cond.lays "ZonePrintModel" "ZonePrintModel" "length" "I" ∈ zTbl := zq3 (List.mem_of_getElem? (i := 237) rfl) rfl
theorem zy_778 : Cond.soleField "ZonePrintModel" "length" ∈ zTbl := zq3 (List.mem_of_getElem? (i := 238) rfl) rfl
theorem zy_779 : Cond.laysFinal "ZonePrintModel" "ZonePrintModel" "marks" "[I" ∈ zTbl := zq3 (List.mem_of_getElem? (i := 239) rfl) rfl
theorem zy_780 : Cond.soleField "ZonePrintModel" "marks" ∈ zTbl := zq4 (List.mem_of_getElem? (i := 0) rfl) rfl
theorem zy_781 : Cond.laysFinal "ZonePrintModel" "ZonePrintModel" "leasts" "[I" ∈ zTbl := zq4 (List.mem_of_getElem? (i := 1) rfl) rfl
theorem zy_782 : Cond.soleField "ZonePrintModel" "leasts" ∈ zTbl := zq4 (List.mem_of_getElem? (i := 2) rfl) rfl
theorem zy_783 : Cond.lays "ZonePrintModel" "ZonePrintModel" "at" "I" ∈ zTbl := zq4 (List.mem_of_getElem? (i := 3) rfl) rfl
theorem zy_784 : Cond.soleField "ZonePrintModel" "at" ∈ zTbl := zq4 (List.mem_of_getElem? (i := 4) rfl) rfl
theorem zy_785 : Cond.lays "ZonePrintModel" "ZonePrintModel" "isWrong" "Z" ∈ zTbl := zq4 (List.mem_of_getElem? (i := 5) rfl) rfl
theorem zy_786 : Cond.soleField "ZonePrintModel" "isWrong" ∈ zTbl := zq4 (List.mem_of_getElem? (i := 6) rfl) rfl
theorem zy_787 : Cond.lays "ZonePrintModel" "ZonePrintModel" "letter" "I" ∈ zTbl := zq4 (List.mem_of_getElem? (i := 7) rfl) rfl
theorem zy_788 : Cond.soleField "ZonePrintModel" "letter" ∈ zTbl := zq4 (List.mem_of_getElem? (i := 8) rfl) rfl
theorem zy_789 : Cond.lays "ZonePrintModel" "ZonePrintModel" "one" "I" ∈ zTbl := zq4 (List.mem_of_getElem? (i := 9) rfl) rfl
theorem zy_790 : Cond.soleField "ZonePrintModel" "one" ∈ zTbl := zq4 (List.mem_of_getElem? (i := 10) rfl) rfl
theorem zy_791 : Cond.lays "ZonePrintModel" "ZonePrintModel" "two" "I" ∈ zTbl := zq4 (List.mem_of_getElem? (i := 11) rfl) rfl
theorem zy_792 : Cond.soleField "ZonePrintModel" "two" ∈ zTbl := zq4 (List.mem_of_getElem? (i := 12) rfl) rfl
theorem zy_793 : Cond.lays "ZonePrintModel" "ZonePrintModel" "digested" "J" ∈ zTbl := zq4 (List.mem_of_getElem? (i := 13) rfl) rfl
theorem zy_794 : Cond.soleField "ZonePrintModel" "digested" ∈ zTbl := zq4 (List.mem_of_getElem? (i := 14) rfl) rfl
theorem zm_L_84 : Cond.methodLink RL 84 yX5_thrown ∈ zTbl := zq4 (List.mem_of_getElem? (i := 16) rfl) rfl
theorem zi_X5_thrown : Cond.instanceMethod yX5_thrown ∈ zTbl := zq4 (List.mem_of_getElem? (i := 17) rfl) rfl
theorem zs_X5_thrown : Cond.selects RX5 yX5_thrown yX5_thrown ∈ zTbl := zq4 (List.mem_of_getElem? (i := 18) rfl) rfl
theorem zc_X5_thrown : Cond.code yX5_thrown cX5_thrown 1 (some FieldType.int) ∈ zTbl := zq4 (List.mem_of_getElem? (i := 19) rfl) rfl
theorem zm_L_83 : Cond.methodLink RL 83 yX5_zone ∈ zTbl := zq4 (List.mem_of_getElem? (i := 20) rfl) rfl
theorem zi_X5_zone : Cond.instanceMethod yX5_zone ∈ zTbl := zq4 (List.mem_of_getElem? (i := 21) rfl) rfl
theorem zs_X5_zone : Cond.selects RX5 yX5_zone yX5_zone ∈ zTbl := zq4 (List.mem_of_getElem? (i := 22) rfl) rfl
theorem zc_X5_zone : Cond.code yX5_zone cX5_zone 3 (some FieldType.int) ∈ zTbl := zq4 (List.mem_of_getElem? (i := 23) rfl) rfl
theorem zm_X5_84 : Cond.methodLink RX5 84 yX5_zoneFault ∈ zTbl := zq4 (List.mem_of_getElem? (i := 24) rfl) rfl
theorem zi_X5_zoneFault : Cond.instanceMethod yX5_zoneFault ∈ zTbl := zq4 (List.mem_of_getElem? (i := 26) rfl) rfl
theorem zc_X5_zoneFault : Cond.code yX5_zoneFault cX5_zoneFault 3 (some FieldType.int) ∈ zTbl := zq4 (List.mem_of_getElem? (i := 27) rfl) rfl
theorem zm_X5_32 : Cond.methodLink RX5 32 yX5_in ∈ zTbl := zq4 (List.mem_of_getElem? (i := 28) rfl) rfl
theorem zt_X5_in : Cond.static yX5_in ∈ zTbl := zq4 (List.mem_of_getElem? (i := 29) rfl) rfl
theorem zc_X5_in : Cond.code yX5_in cX5_in 3 (some FieldType.boolean) ∈ zTbl := zq4 (List.mem_of_getElem? (i := 30) rfl) rfl
theorem zm_X5_87 : Cond.methodLink RX5 87 yX5_holds ∈ zTbl := zq4 (List.mem_of_getElem? (i := 31) rfl) rfl
theorem zi_X5_holds : Cond.instanceMethod yX5_holds ∈ zTbl := zq4 (List.mem_of_getElem? (i := 33) rfl) rfl
theorem zc_X5_holds : Cond.code yX5_holds cX5_holds 2 (some FieldType.boolean) ∈ zTbl := zq4 (List.mem_of_getElem? (i := 34) rfl) rfl
theorem zm_X5_90 : Cond.methodLink RX5 90 yX5_save ∈ zTbl := zq4 (List.mem_of_getElem? (i := 35) rfl) rfl
theorem zi_X5_save : Cond.instanceMethod yX5_save ∈ zTbl := zq4 (List.mem_of_getElem? (i := 37) rfl) rfl
theorem zc_X5_save : Cond.code yX5_save cX5_save 2 (none : Option FieldType) ∈ zTbl := zq4 (List.mem_of_getElem? (i := 38) rfl) rfl
theorem zm_X5_93 : Cond.methodLink RX5 93 yX5_zones ∈ zTbl := zq4 (List.mem_of_getElem? (i := 39) rfl) rfl
theorem zi_X5_zones : Cond.instanceMethod yX5_zones ∈ zTbl := zq4 (List.mem_of_getElem? (i := 41) rfl) rfl
theorem zc_X5_zones : Cond.code yX5_zones cX5_zones 4 (some FieldType.int) ∈ zTbl := zq4 (List.mem_of_getElem? (i := 42) rfl) rfl
theorem zm_X5_51 : Cond.methodLink RX5 51 yX5_of ∈ zTbl := zq4 (List.mem_of_getElem? (i := 43) rfl) rfl
theorem zt_X5_of : Cond.static yX5_of ∈ zTbl := zq4 (List.mem_of_getElem? (i := 44) rfl) rfl
theorem zc_X5_of : Cond.code yX5_of cX5_of 2 (some FieldType.int) ∈ zTbl := zq4 (List.mem_of_getElem? (i := 45) rfl) rfl
theorem zm_L_89 : Cond.methodLink RL 89 yX5_want ∈ zTbl := zq4 (List.mem_of_getElem? (i := 46) rfl) rfl
theorem zi_X5_want : Cond.instanceMethod yX5_want ∈ zTbl := zq4 (List.mem_of_getElem? (i := 47) rfl) rfl
theorem zs_X5_want : Cond.selects RX5 yX5_want yX5_want ∈ zTbl := zq4 (List.mem_of_getElem? (i := 48) rfl) rfl
theorem zc_X5_want : Cond.code yX5_want cX5_want 4 (some FieldType.int) ∈ zTbl := zq4 (List.mem_of_getElem? (i := 49) rfl) rfl
theorem zm_X5_96 : Cond.methodLink RX5 96 yX5_isZone ∈ zTbl := zq4 (List.mem_of_getElem? (i := 50) rfl) rfl
theorem zi_X5_isZone : Cond.instanceMethod yX5_isZone ∈ zTbl := zq4 (List.mem_of_getElem? (i := 52) rfl) rfl
theorem zc_X5_isZone : Cond.code yX5_isZone cX5_isZone 2 (some FieldType.boolean) ∈ zTbl := zq4 (List.mem_of_getElem? (i := 53) rfl) rfl
theorem zm_L_92 : Cond.methodLink RL 92 yX5_link ∈ zTbl := zq4 (List.mem_of_getElem? (i := 54) rfl) rfl
theorem zi_X5_link : Cond.instanceMethod yX5_link ∈ zTbl := zq4 (List.mem_of_getElem? (i := 55) rfl) rfl
theorem zs_X5_link : Cond.selects RX5 yX5_link yX5_link ∈ zTbl := zq4 (List.mem_of_getElem? (i := 56) rfl) rfl
theorem zc_X5_link : Cond.code yX5_link cX5_link 3 (some FieldType.int) ∈ zTbl := zq4 (List.mem_of_getElem? (i := 57) rfl) rfl
theorem zm_X5_99 : Cond.methodLink RX5 99 yX5_turnLink ∈ zTbl := zq4 (List.mem_of_getElem? (i := 58) rfl) rfl
theorem zi_X5_turnLink : Cond.instanceMethod yX5_turnLink ∈ zTbl := zq4 (List.mem_of_getElem? (i := 60) rfl) rfl
theorem zc_X5_turnLink : Cond.code yX5_turnLink cX5_turnLink 3 (none : Option FieldType) ∈ zTbl := zq4 (List.mem_of_getElem? (i := 61) rfl) rfl
theorem zm_X5_103 : Cond.methodLink RX5 103 yX5_areLinked ∈ zTbl := zq4 (List.mem_of_getElem? (i := 62) rfl) rfl
theorem zi_X5_areLinked : Cond.instanceMethod yX5_areLinked ∈ zTbl := zq4 (List.mem_of_getElem? (i := 64) rfl) rfl
theorem zc_X5_areLinked : Cond.code yX5_areLinked cX5_areLinked 3 (some FieldType.boolean) ∈ zTbl := zq4 (List.mem_of_getElem? (i := 65) rfl) rfl
theorem zm_L_96 : Cond.methodLink RL 96 yX5_expose ∈ zTbl := zq4 (List.mem_of_getElem? (i := 66) rfl) rfl
theorem zi_X5_expose : Cond.instanceMethod yX5_expose ∈ zTbl := zq4 (List.mem_of_getElem? (i := 67) rfl) rfl
theorem zs_X5_expose : Cond.selects RX5 yX5_expose yX5_expose ∈ zTbl := zq4 (List.mem_of_getElem? (i := 68) rfl) rfl
theorem zc_X5_expose : Cond.code yX5_expose cX5_expose 2 (some FieldType.int) ∈ zTbl := zq4 (List.mem_of_getElem? (i := 69) rfl) rfl
theorem zm_X5_111 : Cond.methodLink RX5 111 yX5_exposes ∈ zTbl := zq4 (List.mem_of_getElem? (i := 70) rfl) rfl
theorem zi_X5_exposes : Cond.instanceMethod yX5_exposes ∈ zTbl := zq4 (List.mem_of_getElem? (i := 72) rfl) rfl
theorem zc_X5_exposes : Cond.code yX5_exposes cX5_exposes 2 (some FieldType.int) ∈ zTbl := zq4 (List.mem_of_getElem? (i := 73) rfl) rfl
theorem zm_X5_107 : Cond.methodLink RX5 107 yX5_right ∈ zTbl := zq4 (List.mem_of_getElem? (i := 74) rfl) rfl
theorem zi_X5_right : Cond.instanceMethod yX5_right ∈ zTbl := zq4 (List.mem_of_getElem? (i := 76) rfl) rfl
theorem zc_X5_right : Cond.code yX5_right cX5_right 3 (some FieldType.int) ∈ zTbl := zq4 (List.mem_of_getElem? (i := 77) rfl) rfl
theorem zm_X5_74 : Cond.methodLink RX5 74 yX5_isRight ∈ zTbl := zq4 (List.mem_of_getElem? (i := 78) rfl) rfl
theorem zi_X5_isRight : Cond.instanceMethod yX5_isRight ∈ zTbl := zq4 (List.mem_of_getElem? (i := 80) rfl) rfl
theorem zc_X5_isRight : Cond.code yX5_isRight cX5_isRight 2 (some FieldType.boolean) ∈ zTbl := zq4 (List.mem_of_getElem? (i := 81) rfl) rfl
theorem zm_X5_71 : Cond.methodLink RX5 71 yX5_tone ∈ zTbl := zq4 (List.mem_of_getElem? (i := 82) rfl) rfl
theorem zi_X5_tone : Cond.instanceMethod yX5_tone ∈ zTbl := zq4 (List.mem_of_getElem? (i := 84) rfl) rfl
theorem zc_X5_tone : Cond.code yX5_tone cX5_tone 2 (some FieldType.int) ∈ zTbl := zq4 (List.mem_of_getElem? (i := 85) rfl) rfl
theorem zm_X5_65 : Cond.methodLink RX5 65 yX5_timeOf ∈ zTbl := zq4 (List.mem_of_getElem? (i := 86) rfl) rfl
theorem zi_X5_timeOf : Cond.instanceMethod yX5_timeOf ∈ zTbl := zq4 (List.mem_of_getElem? (i := 88) rfl) rfl
theorem zc_X5_timeOf : Cond.code yX5_timeOf cX5_timeOf 4 (some FieldType.int) ∈ zTbl := zq4 (List.mem_of_getElem? (i := 89) rfl) rfl
theorem zm_X5_62 : Cond.methodLink RX5 62 yX5_spilled ∈ zTbl := zq4 (List.mem_of_getElem? (i := 90) rfl) rfl
theorem zi_X5_spilled : Cond.instanceMethod yX5_spilled ∈ zTbl := zq4 (List.mem_of_getElem? (i := 92) rfl) rfl
theorem zc_X5_spilled : Cond.code yX5_spilled cX5_spilled 4 (some FieldType.int) ∈ zTbl := zq4 (List.mem_of_getElem? (i := 93) rfl) rfl
theorem zm_X5_68 : Cond.methodLink RX5 68 yX5_toneBy ∈ zTbl := zq4 (List.mem_of_getElem? (i := 94) rfl) rfl
theorem zi_X5_toneBy : Cond.instanceMethod yX5_toneBy ∈ zTbl := zq4 (List.mem_of_getElem? (i := 96) rfl) rfl
theorem zc_X5_toneBy : Cond.code yX5_toneBy cX5_toneBy 3 (some FieldType.int) ∈ zTbl := zq4 (List.mem_of_getElem? (i := 97) rfl) rfl
theorem zm_X5_55 : Cond.methodLink RX5 55 yX5_lightOf ∈ zTbl := zq4 (List.mem_of_getElem? (i := 98) rfl) rfl
theorem zt_X5_lightOf : Cond.static yX5_lightOf ∈ zTbl := zq4 (List.mem_of_getElem? (i := 99) rfl) rfl
theorem zc_X5_lightOf : Cond.code yX5_lightOf cX5_lightOf 6 (some FieldType.int) ∈ zTbl := zq4 (List.mem_of_getElem? (i := 100) rfl) rfl
theorem zk_X5_39 : Cond.constant RX5 39 (100000) ∈ zTbl := zq4 (List.mem_of_getElem? (i := 101) rfl) rfl
theorem zk_X5_40 : Cond.constant RX5 40 (79370) ∈ zTbl := zq4 (List.mem_of_getElem? (i := 102) rfl) rfl
theorem zk_X5_41 : Cond.constant RX5 41 (63000) ∈ zTbl := zq4 (List.mem_of_getElem? (i := 103) rfl) rfl
theorem zk_X5_42 : Cond.constantLong RX5 42 (2) ∈ zTbl := zq4 (List.mem_of_getElem? (i := 104) rfl) rfl
theorem zk_X5_44 : Cond.constantLong RX5 44 (100) ∈ zTbl := zq4 (List.mem_of_getElem? (i := 105) rfl) rfl
theorem zm_X5_58 : Cond.methodLink RX5 58 yX5_toneOf ∈ zTbl := zq4 (List.mem_of_getElem? (i := 106) rfl) rfl
theorem zi_X5_toneOf : Cond.instanceMethod yX5_toneOf ∈ zTbl := zq4 (List.mem_of_getElem? (i := 108) rfl) rfl
theorem zc_X5_toneOf : Cond.code yX5_toneOf cX5_toneOf 4 (some FieldType.int) ∈ zTbl := zq4 (List.mem_of_getElem? (i := 109) rfl) rfl
theorem zm_X5_48 : Cond.methodLink RX5 48 yX5_findMarks ∈ zTbl := zq4 (List.mem_of_getElem? (i := 110) rfl) rfl
theorem zi_X5_findMarks : Cond.instanceMethod yX5_findMarks ∈ zTbl := zq4 (List.mem_of_getElem? (i := 112) rfl) rfl
theorem zc_X5_findMarks : Cond.code yX5_findMarks cX5_findMarks 5 (none : Option FieldType) ∈ zTbl := zq4 (List.mem_of_getElem? (i := 113) rfl) rfl
theorem zk_X5_46 : Cond.constantLong RX5 46 (1000) ∈ zTbl := zq4 (List.mem_of_getElem? (i := 114) rfl) rfl
theorem zm_L_99 : Cond.methodLink RL 99 yX5_burn ∈ zTbl := zq4 (List.mem_of_getElem? (i := 115) rfl) rfl
theorem zi_X5_burn : Cond.instanceMethod yX5_burn ∈ zTbl := zq4 (List.mem_of_getElem? (i := 116) rfl) rfl
theorem zs_X5_burn : Cond.selects RX5 yX5_burn yX5_burn ∈ zTbl := zq4 (List.mem_of_getElem? (i := 117) rfl) rfl
theorem zc_X5_burn : Cond.code yX5_burn cX5_burn 3 (some FieldType.int) ∈ zTbl := zq4 (List.mem_of_getElem? (i := 118) rfl) rfl
theorem zm_X5_114 : Cond.methodLink RX5 114 yX5_partFault ∈ zTbl := zq4 (List.mem_of_getElem? (i := 119) rfl) rfl
theorem zi_X5_partFault : Cond.instanceMethod yX5_partFault ∈ zTbl := zq4 (List.mem_of_getElem? (i := 121) rfl) rfl
theorem zc_X5_partFault : Cond.code yX5_partFault cX5_partFault 3 (some FieldType.int) ∈ zTbl := zq4 (List.mem_of_getElem? (i := 122) rfl) rfl
theorem zm_X5_117 : Cond.methodLink RX5 117 yX5_parts ∈ zTbl := zq4 (List.mem_of_getElem? (i := 123) rfl) rfl
theorem zi_X5_parts : Cond.instanceMethod yX5_parts ∈ zTbl := zq4 (List.mem_of_getElem? (i := 125) rfl) rfl
theorem zc_X5_parts : Cond.code yX5_parts cX5_parts 4 (some FieldType.int) ∈ zTbl := zq4 (List.mem_of_getElem? (i := 126) rfl) rfl
theorem zm_L_102 : Cond.methodLink RL 102 yX5_hold ∈ zTbl := zq4 (List.mem_of_getElem? (i := 127) rfl) rfl
theorem zi_X5_hold : Cond.instanceMethod yX5_hold ∈ zTbl := zq4 (List.mem_of_getElem? (i := 128) rfl) rfl
theorem zs_X5_hold : Cond.selects RX5 yX5_hold yX5_hold ∈ zTbl := zq4 (List.mem_of_getElem? (i := 129) rfl) rfl
theorem zc_X5_hold : Cond.code yX5_hold cX5_hold 3 (some FieldType.int) ∈ zTbl := zq4 (List.mem_of_getElem? (i := 130) rfl) rfl
theorem zm_L_105 : Cond.methodLink RL 105 yX5_paper ∈ zTbl := zq4 (List.mem_of_getElem? (i := 131) rfl) rfl
theorem zi_X5_paper : Cond.instanceMethod yX5_paper ∈ zTbl := zq4 (List.mem_of_getElem? (i := 132) rfl) rfl
theorem zs_X5_paper : Cond.selects RX5 yX5_paper yX5_paper ∈ zTbl := zq4 (List.mem_of_getElem? (i := 133) rfl) rfl
theorem zc_X5_paper : Cond.code yX5_paper cX5_paper 3 (some FieldType.int) ∈ zTbl := zq4 (List.mem_of_getElem? (i := 134) rfl) rfl
theorem zm_L_109 : Cond.methodLink RL 109 yX5_plan ∈ zTbl := zq4 (List.mem_of_getElem? (i := 135) rfl) rfl
theorem zi_X5_plan : Cond.instanceMethod yX5_plan ∈ zTbl := zq4 (List.mem_of_getElem? (i := 136) rfl) rfl
theorem zs_X5_plan : Cond.selects RX5 yX5_plan yX5_plan ∈ zTbl := zq4 (List.mem_of_getElem? (i := 137) rfl) rfl
theorem zc_X5_plan : Cond.code yX5_plan cX5_plan 1 (some FieldType.int) ∈ zTbl := zq4 (List.mem_of_getElem? (i := 138) rfl) rfl
theorem zm_X5_124 : Cond.methodLink RX5 124 yX5_plans ∈ zTbl := zq4 (List.mem_of_getElem? (i := 139) rfl) rfl
theorem zi_X5_plans : Cond.instanceMethod yX5_plans ∈ zTbl := zq4 (List.mem_of_getElem? (i := 141) rfl) rfl
theorem zc_X5_plans : Cond.code yX5_plans cX5_plans 6 (some FieldType.int) ∈ zTbl := zq4 (List.mem_of_getElem? (i := 142) rfl) rfl
theorem zm_X5_121 : Cond.methodLink RX5 121 yX5_middleTime ∈ zTbl := zq4 (List.mem_of_getElem? (i := 143) rfl) rfl
theorem zi_X5_middleTime : Cond.instanceMethod yX5_middleTime ∈ zTbl := zq4 (List.mem_of_getElem? (i := 145) rfl) rfl
theorem zc_X5_middleTime : Cond.code yX5_middleTime cX5_middleTime 5 (some FieldType.int) ∈ zTbl := zq4 (List.mem_of_getElem? (i := 146) rfl) rfl
theorem zm_X5_81 : Cond.methodLink RX5 81 yX5_leastNeeded ∈ zTbl := zq4 (List.mem_of_getElem? (i := 147) rfl) rfl
theorem zi_X5_leastNeeded : Cond.instanceMethod yX5_leastNeeded ∈ zTbl := zq4 (List.mem_of_getElem? (i := 149) rfl) rfl
theorem zc_X5_leastNeeded : Cond.code yX5_leastNeeded cX5_leastNeeded 3 (some FieldType.int) ∈ zTbl := zq4 (List.mem_of_getElem? (i := 150) rfl) rfl
theorem zm_X5_78 : Cond.methodLink RX5 78 yX5_leastFor ∈ zTbl := zq4 (List.mem_of_getElem? (i := 151) rfl) rfl
theorem zi_X5_leastFor : Cond.instanceMethod yX5_leastFor ∈ zTbl := zq4 (List.mem_of_getElem? (i := 153) rfl) rfl
theorem zc_X5_leastFor : Cond.code yX5_leastFor cX5_leastFor 6 (some FieldType.int) ∈ zTbl := zq4 (List.mem_of_getElem? (i := 154) rfl) rfl
theorem zm_L_112 : Cond.methodLink RL 112 yX5_set ∈ zTbl := zq4 (List.mem_of_getElem? (i := 155) rfl) rfl
theorem zi_X5_set : Cond.instanceMethod yX5_set ∈ zTbl := zq4 (List.mem_of_getElem? (i := 156) rfl) rfl
theorem zs_X5_set : Cond.selects RX5 yX5_set yX5_set ∈ zTbl := zq4 (List.mem_of_getElem? (i := 157) rfl) rfl
theorem zc_X5_set : Cond.code yX5_set cX5_set 3 (some FieldType.int) ∈ zTbl := zq4 (List.mem_of_getElem? (i := 158) rfl) rfl
theorem zm_L_115 : Cond.methodLink RL 115 yX5_append ∈ zTbl := zq4 (List.mem_of_getElem? (i := 159) rfl) rfl
theorem zi_X5_append : Cond.instanceMethod yX5_append ∈ zTbl := zq4 (List.mem_of_getElem? (i := 160) rfl) rfl
theorem zs_X5_append : Cond.selects RX5 yX5_append yX5_append ∈ zTbl := zq4 (List.mem_of_getElem? (i := 161) rfl) rfl
theorem zc_X5_append : Cond.code yX5_append cX5_append 2 (some FieldType.int) ∈ zTbl := zq4 (List.mem_of_getElem? (i := 162) rfl) rfl
theorem zm_L_119 : Cond.methodLink RL 119 yX5_clearBuffer ∈ zTbl := zq4 (List.mem_of_getElem? (i := 163) rfl) rfl
theorem zi_X5_clearBuffer : Cond.instanceMethod yX5_clearBuffer ∈ zTbl := zq4 (List.mem_of_getElem? (i := 164) rfl) rfl
theorem zs_X5_clearBuffer : Cond.selects RX5 yX5_clearBuffer yX5_clearBuffer ∈ zTbl := zq4 (List.mem_of_getElem? (i := 165) rfl) rfl
theorem zc_X5_clearBuffer : Cond.code yX5_clearBuffer cX5_clearBuffer 2 (some FieldType.int) ∈ zTbl := zq4 (List.mem_of_getElem? (i := 166) rfl) rfl
theorem zm_L_123 : Cond.methodLink RL 123 yX5_firstError ∈ zTbl := zq4 (List.mem_of_getElem? (i := 167) rfl) rfl
theorem zi_X5_firstError : Cond.instanceMethod yX5_firstError ∈ zTbl := zq4 (List.mem_of_getElem? (i := 168) rfl) rfl
theorem zs_X5_firstError : Cond.selects RX5 yX5_firstError yX5_firstError ∈ zTbl := zq4 (List.mem_of_getElem? (i := 169) rfl) rfl
theorem zc_X5_firstError : Cond.code yX5_firstError cX5_firstError 2 (some FieldType.int) ∈ zTbl := zq4 (List.mem_of_getElem? (i := 170) rfl) rfl
theorem zm_X5_159 : Cond.methodLink RX5 159 yX5_go ∈ zTbl := zq4 (List.mem_of_getElem? (i := 171) rfl) rfl
theorem zi_X5_go : Cond.instanceMethod yX5_go ∈ zTbl := zq4 (List.mem_of_getElem? (i := 173) rfl) rfl
theorem zc_X5_go : Cond.code yX5_go cX5_go 6 (some FieldType.int) ∈ zTbl := zq4 (List.mem_of_getElem? (i := 174) rfl) rfl
theorem zm_X5_152 : Cond.methodLink RX5 152 yX5_order ∈ zTbl := zq4 (List.mem_of_getElem? (i := 175) rfl) rfl
theorem zi_X5_order : Cond.instanceMethod yX5_order ∈ zTbl := zq4 (List.mem_of_getElem? (i := 177) rfl) rfl
theorem zc_X5_order : Cond.code yX5_order cX5_order 3 (none : Option FieldType) ∈ zTbl := zq4 (List.mem_of_getElem? (i := 178) rfl) rfl
theorem zm_X5_149 : Cond.methodLink RX5 149 yX5_number ∈ zTbl := zq4 (List.mem_of_getElem? (i := 179) rfl) rfl
theorem zi_X5_number : Cond.instanceMethod yX5_number ∈ zTbl := zq4 (List.mem_of_getElem? (i := 181) rfl) rfl
theorem zc_X5_number : Cond.code yX5_number cX5_number 4 (some FieldType.int) ∈ zTbl := zq4 (List.mem_of_getElem? (i := 182) rfl) rfl
theorem zm_X5_137 : Cond.methodLink RX5 137 yX5_sign ∈ zTbl := zq4 (List.mem_of_getElem? (i := 183) rfl) rfl
theorem zi_X5_sign : Cond.instanceMethod yX5_sign ∈ zTbl := zq4 (List.mem_of_getElem? (i := 185) rfl) rfl
theorem zc_X5_sign : Cond.code yX5_sign cX5_sign 4 (some FieldType.int) ∈ zTbl := zq4 (List.mem_of_getElem? (i := 186) rfl) rfl
theorem zm_X5_155 : Cond.methodLink RX5 155 yX5_does ∈ zTbl := zq4 (List.mem_of_getElem? (i := 187) rfl) rfl
theorem zi_X5_does : Cond.instanceMethod yX5_does ∈ zTbl := zq4 (List.mem_of_getElem? (i := 189) rfl) rfl
theorem zc_X5_does : Cond.code yX5_does cX5_does 3 (some FieldType.boolean) ∈ zTbl := zq4 (List.mem_of_getElem? (i := 190) rfl) rfl
theorem zm_L_127 : Cond.methodLink RL 127 yX5_run ∈ zTbl := zq4 (List.mem_of_getElem? (i := 191) rfl) rfl
theorem zi_X5_run : Cond.instanceMethod yX5_run ∈ zTbl := zq4 (List.mem_of_getElem? (i := 192) rfl) rfl
theorem zs_X5_run : Cond.selects RX5 yX5_run yX5_run ∈ zTbl := zq4 (List.mem_of_getElem? (i := 193) rfl) rfl
theorem zc_X5_run : Cond.code yX5_run cX5_run 3 (some FieldType.int) ∈ zTbl := zq4 (List.mem_of_getElem? (i := 194) rfl) rfl
theorem zm_L_130 : Cond.methodLink RL 130 yX5_undo ∈ zTbl := zq4 (List.mem_of_getElem? (i := 195) rfl) rfl
theorem zi_X5_undo : Cond.instanceMethod yX5_undo ∈ zTbl := zq4 (List.mem_of_getElem? (i := 196) rfl) rfl
theorem zs_X5_undo : Cond.selects RX5 yX5_undo yX5_undo ∈ zTbl := zq4 (List.mem_of_getElem? (i := 197) rfl) rfl
theorem zc_X5_undo : Cond.code yX5_undo cX5_undo 2 (some FieldType.int) ∈ zTbl := zq4 (List.mem_of_getElem? (i := 198) rfl) rfl
theorem zm_L_133 : Cond.methodLink RL 133 yX5_zoneOf ∈ zTbl := zq4 (List.mem_of_getElem? (i := 199) rfl) rfl
theorem zi_X5_zoneOf : Cond.instanceMethod yX5_zoneOf ∈ zTbl := zq4 (List.mem_of_getElem? (i := 200) rfl) rfl
theorem zs_X5_zoneOf : Cond.selects RX5 yX5_zoneOf yX5_zoneOf ∈ zTbl := zq4 (List.mem_of_getElem? (i := 201) rfl) rfl
theorem zc_X5_zoneOf : Cond.code yX5_zoneOf cX5_zoneOf 3 (some FieldType.int) ∈ zTbl := zq4 (List.mem_of_getElem? (i := 202) rfl) rfl
theorem zm_X5_166 : Cond.methodLink RX5 166 yX5_ofZone ∈ zTbl := zq4 (List.mem_of_getElem? (i := 203) rfl) rfl
theorem zi_X5_ofZone : Cond.instanceMethod yX5_ofZone ∈ zTbl := zq4 (List.mem_of_getElem? (i := 205) rfl) rfl
theorem zc_X5_ofZone : Cond.code yX5_ofZone cX5_ofZone 3 (some FieldType.int) ∈ zTbl := zq4 (List.mem_of_getElem? (i := 206) rfl) rfl
theorem zm_X5_163 : Cond.methodLink RX5 163 yX5_greatestNeeded ∈ zTbl := zq4 (List.mem_of_getElem? (i := 207) rfl) rfl
theorem zi_X5_greatestNeeded : Cond.instanceMethod yX5_greatestNeeded ∈ zTbl := zq4 (List.mem_of_getElem? (i := 209) rfl) rfl
theorem zc_X5_greatestNeeded : Cond.code yX5_greatestNeeded cX5_greatestNeeded 2 (some FieldType.int) ∈ zTbl := zq4 (List.mem_of_getElem? (i := 210) rfl) rfl
theorem zm_L_136 : Cond.methodLink RL 136 yX5_mark ∈ zTbl := zq4 (List.mem_of_getElem? (i := 211) rfl) rfl
theorem zi_X5_mark : Cond.instanceMethod yX5_mark ∈ zTbl := zq4 (List.mem_of_getElem? (i := 212) rfl) rfl
theorem zs_X5_mark : Cond.selects RX5 yX5_mark yX5_mark ∈ zTbl := zq4 (List.mem_of_getElem? (i := 213) rfl) rfl
theorem zc_X5_mark : Cond.code yX5_mark cX5_mark 2 (some FieldType.int) ∈ zTbl := zq4 (List.mem_of_getElem? (i := 214) rfl) rfl
theorem zm_X5_169 : Cond.methodLink RX5 169 yX5_markOf ∈ zTbl := zq4 (List.mem_of_getElem? (i := 215) rfl) rfl
theorem zi_X5_markOf : Cond.instanceMethod yX5_markOf ∈ zTbl := zq4 (List.mem_of_getElem? (i := 217) rfl) rfl
theorem zc_X5_markOf : Cond.code yX5_markOf cX5_markOf 2 (some FieldType.int) ∈ zTbl := zq4 (List.mem_of_getElem? (i := 218) rfl) rfl
theorem zm_L_140 : Cond.methodLink RL 140 yX5_strip ∈ zTbl := zq4 (List.mem_of_getElem? (i := 219) rfl) rfl
theorem zi_X5_strip : Cond.instanceMethod yX5_strip ∈ zTbl := zq4 (List.mem_of_getElem? (i := 220) rfl) rfl
theorem zs_X5_strip : Cond.selects RX5 yX5_strip yX5_strip ∈ zTbl := zq4 (List.mem_of_getElem? (i := 221) rfl) rfl
theorem zc_X5_strip : Cond.code yX5_strip cX5_strip 6 (some FieldType.int) ∈ zTbl := zq4 (List.mem_of_getElem? (i := 222) rfl) rfl
theorem zm_X5_175 : Cond.methodLink RX5 175 yX5_stripOf ∈ zTbl := zq4 (List.mem_of_getElem? (i := 223) rfl) rfl
theorem zi_X5_stripOf : Cond.instanceMethod yX5_stripOf ∈ zTbl := zq4 (List.mem_of_getElem? (i := 225) rfl) rfl
theorem zc_X5_stripOf : Cond.code yX5_stripOf cX5_stripOf 10 (some FieldType.int) ∈ zTbl := zq4 (List.mem_of_getElem? (i := 226) rfl) rfl
theorem zm_X5_172 : Cond.methodLink RX5 172 yX5_stripTime ∈ zTbl := zq4 (List.mem_of_getElem? (i := 227) rfl) rfl
theorem zt_X5_stripTime : Cond.static yX5_stripTime ∈ zTbl := zq4 (List.mem_of_getElem? (i := 228) rfl) rfl
theorem zc_X5_stripTime : Cond.code yX5_stripTime cX5_stripTime 3 (some FieldType.int) ∈ zTbl := zq4 (List.mem_of_getElem? (i := 229) rfl) rfl
theorem zm_L_143 : Cond.methodLink RL 143 yX5_count ∈ zTbl := zq4 (List.mem_of_getElem? (i := 230) rfl) rfl
theorem zi_X5_count : Cond.instanceMethod yX5_count ∈ zTbl := zq4 (List.mem_of_getElem? (i := 231) rfl) rfl
theorem zs_X5_count : Cond.selects RX5 yX5_count yX5_count ∈ zTbl := zq4 (List.mem_of_getElem? (i := 232) rfl) rfl
theorem zc_X5_count : Cond.code yX5_count cX5_count 2 (some FieldType.int) ∈ zTbl := zq4 (List.mem_of_getElem? (i := 233) rfl) rfl
theorem zm_X5_182 : Cond.methodLink RX5 182 yX5_counted ∈ zTbl := zq4 (List.mem_of_getElem? (i := 234) rfl) rfl
theorem zi_X5_counted : Cond.instanceMethod yX5_counted ∈ zTbl := zq4 (List.mem_of_getElem? (i := 236) rfl) rfl
theorem zc_X5_counted : Cond.code yX5_counted cX5_counted 2 (some FieldType.int) ∈ zTbl := zq4 (List.mem_of_getElem? (i := 237) rfl) rfl
theorem zm_X5_179 : Cond.methodLink RX5 179 yX5_sum ∈ zTbl := zq4 (List.mem_of_getElem? (i := 238) rfl) rfl
theorem zi_X5_sum : Cond.instanceMethod yX5_sum ∈ zTbl := zq5 (List.mem_of_getElem? (i := 0) rfl) rfl
theorem zc_X5_sum : Cond.code yX5_sum cX5_sum 7 (some FieldType.int) ∈ zTbl := zq5 (List.mem_of_getElem? (i := 1) rfl) rfl
theorem zm_L_146 : Cond.methodLink RL 146 yX5_ifExposed ∈ zTbl := zq5 (List.mem_of_getElem? (i := 2) rfl) rfl
theorem zi_X5_ifExposed : Cond.instanceMethod yX5_ifExposed ∈ zTbl := zq5 (List.mem_of_getElem? (i := 3) rfl) rfl
theorem zs_X5_ifExposed : Cond.selects RX5 yX5_ifExposed yX5_ifExposed ∈ zTbl := zq5 (List.mem_of_getElem? (i := 4) rfl) rfl
theorem zc_X5_ifExposed : Cond.code yX5_ifExposed cX5_ifExposed 3 (some FieldType.int) ∈ zTbl := zq5 (List.mem_of_getElem? (i := 5) rfl) rfl
theorem zm_X5_188 : Cond.methodLink RX5 188 yX5_exposed ∈ zTbl := zq5 (List.mem_of_getElem? (i := 6) rfl) rfl
theorem zi_X5_exposed : Cond.instanceMethod yX5_exposed ∈ zTbl := zq5 (List.mem_of_getElem? (i := 8) rfl) rfl
theorem zc_X5_exposed : Cond.code yX5_exposed cX5_exposed 5 (some FieldType.int) ∈ zTbl := zq5 (List.mem_of_getElem? (i := 9) rfl) rfl
theorem zm_X5_185 : Cond.methodLink RX5 185 yX5_off ∈ zTbl := zq5 (List.mem_of_getElem? (i := 10) rfl) rfl
theorem zi_X5_off : Cond.instanceMethod yX5_off ∈ zTbl := zq5 (List.mem_of_getElem? (i := 12) rfl) rfl
theorem zc_X5_off : Cond.code yX5_off cX5_off 4 (some FieldType.int) ∈ zTbl := zq5 (List.mem_of_getElem? (i := 13) rfl) rfl
theorem zm_L_150 : Cond.methodLink RL 150 yX5_bestTime ∈ zTbl := zq5 (List.mem_of_getElem? (i := 14) rfl) rfl
theorem zi_X5_bestTime : Cond.instanceMethod yX5_bestTime ∈ zTbl := zq5 (List.mem_of_getElem? (i := 15) rfl) rfl
theorem zs_X5_bestTime : Cond.selects RX5 yX5_bestTime yX5_bestTime ∈ zTbl := zq5 (List.mem_of_getElem? (i := 16) rfl) rfl
theorem zc_X5_bestTime : Cond.code yX5_bestTime cX5_bestTime 1 (some FieldType.int) ∈ zTbl := zq5 (List.mem_of_getElem? (i := 17) rfl) rfl
theorem zm_X5_191 : Cond.methodLink RX5 191 yX5_best ∈ zTbl := zq5 (List.mem_of_getElem? (i := 18) rfl) rfl
theorem zi_X5_best : Cond.instanceMethod yX5_best ∈ zTbl := zq5 (List.mem_of_getElem? (i := 20) rfl) rfl
theorem zc_X5_best : Cond.code yX5_best cX5_best 5 (some FieldType.int) ∈ zTbl := zq5 (List.mem_of_getElem? (i := 21) rfl) rfl
theorem zm_L_154 : Cond.methodLink RL 154 yX5_bestGrade ∈ zTbl := zq5 (List.mem_of_getElem? (i := 22) rfl) rfl
theorem zi_X5_bestGrade : Cond.instanceMethod yX5_bestGrade ∈ zTbl := zq5 (List.mem_of_getElem? (i := 23) rfl) rfl
theorem zs_X5_bestGrade : Cond.selects RX5 yX5_bestGrade yX5_bestGrade ∈ zTbl := zq5 (List.mem_of_getElem? (i := 24) rfl) rfl
theorem zc_X5_bestGrade : Cond.code yX5_bestGrade cX5_bestGrade 1 (some FieldType.int) ∈ zTbl := zq5 (List.mem_of_getElem? (i := 25) rfl) rfl
theorem zm_X5_200 : Cond.methodLink RX5 200 yX5_bestPaper ∈ zTbl := zq5 (List.mem_of_getElem? (i := 26) rfl) rfl
theorem zi_X5_bestPaper : Cond.instanceMethod yX5_bestPaper ∈ zTbl := zq5 (List.mem_of_getElem? (i := 28) rfl) rfl
theorem zc_X5_bestPaper : Cond.code yX5_bestPaper cX5_bestPaper 8 (some FieldType.int) ∈ zTbl := zq5 (List.mem_of_getElem? (i := 29) rfl) rfl
theorem zm_X5_194 : Cond.methodLink RX5 194 yX5_putAside ∈ zTbl := zq5 (List.mem_of_getElem? (i := 30) rfl) rfl
theorem zi_X5_putAside : Cond.instanceMethod yX5_putAside ∈ zTbl := zq5 (List.mem_of_getElem? (i := 32) rfl) rfl
theorem zc_X5_putAside : Cond.code yX5_putAside cX5_putAside 2 (none : Option FieldType) ∈ zTbl := zq5 (List.mem_of_getElem? (i := 33) rfl) rfl
theorem zm_X5_197 : Cond.methodLink RX5 197 yX5_putBack ∈ zTbl := zq5 (List.mem_of_getElem? (i := 34) rfl) rfl
theorem zi_X5_putBack : Cond.instanceMethod yX5_putBack ∈ zTbl := zq5 (List.mem_of_getElem? (i := 36) rfl) rfl
theorem zc_X5_putBack : Cond.code yX5_putBack cX5_putBack 2 (none : Option FieldType) ∈ zTbl := zq5 (List.mem_of_getElem? (i := 37) rfl) rfl
theorem zm_L_158 : Cond.methodLink RL 158 yX5_ifBurned ∈ zTbl := zq5 (List.mem_of_getElem? (i := 38) rfl) rfl
theorem zi_X5_ifBurned : Cond.instanceMethod yX5_ifBurned ∈ zTbl := zq5 (List.mem_of_getElem? (i := 39) rfl) rfl
theorem zs_X5_ifBurned : Cond.selects RX5 yX5_ifBurned yX5_ifBurned ∈ zTbl := zq5 (List.mem_of_getElem? (i := 40) rfl) rfl
theorem zc_X5_ifBurned : Cond.code yX5_ifBurned cX5_ifBurned 5 (some FieldType.int) ∈ zTbl := zq5 (List.mem_of_getElem? (i := 41) rfl) rfl
theorem zm_X5_203 : Cond.methodLink RX5 203 yX5_burned ∈ zTbl := zq5 (List.mem_of_getElem? (i := 42) rfl) rfl
theorem zi_X5_burned : Cond.instanceMethod yX5_burned ∈ zTbl := zq5 (List.mem_of_getElem? (i := 44) rfl) rfl
theorem zc_X5_burned : Cond.code yX5_burned cX5_burned 6 (some FieldType.int) ∈ zTbl := zq5 (List.mem_of_getElem? (i := 45) rfl) rfl
theorem zm_L_161 : Cond.methodLink RL 161 yX5_common ∈ zTbl := zq5 (List.mem_of_getElem? (i := 46) rfl) rfl
theorem zi_X5_common : Cond.instanceMethod yX5_common ∈ zTbl := zq5 (List.mem_of_getElem? (i := 47) rfl) rfl
theorem zs_X5_common : Cond.selects RX5 yX5_common yX5_common ∈ zTbl := zq5 (List.mem_of_getElem? (i := 48) rfl) rfl
theorem zc_X5_common : Cond.code yX5_common cX5_common 2 (some FieldType.int) ∈ zTbl := zq5 (List.mem_of_getElem? (i := 49) rfl) rfl
theorem zm_X5_206 : Cond.methodLink RX5 206 yX5_together ∈ zTbl := zq5 (List.mem_of_getElem? (i := 50) rfl) rfl
theorem zi_X5_together : Cond.instanceMethod yX5_together ∈ zTbl := zq5 (List.mem_of_getElem? (i := 52) rfl) rfl
theorem zc_X5_together : Cond.code yX5_together cX5_together 7 (some FieldType.int) ∈ zTbl := zq5 (List.mem_of_getElem? (i := 53) rfl) rfl
theorem zm_L_166 : Cond.methodLink RL 166 yX5_rightShare ∈ zTbl := zq5 (List.mem_of_getElem? (i := 54) rfl) rfl
theorem zi_X5_rightShare : Cond.instanceMethod yX5_rightShare ∈ zTbl := zq5 (List.mem_of_getElem? (i := 55) rfl) rfl
theorem zs_X5_rightShare : Cond.selects RX5 yX5_rightShare yX5_rightShare ∈ zTbl := zq5 (List.mem_of_getElem? (i := 56) rfl) rfl
theorem zc_X5_rightShare : Cond.code yX5_rightShare cX5_rightShare 1 (some FieldType.double) ∈ zTbl := zq5 (List.mem_of_getElem? (i := 57) rfl) rfl
theorem zm_X5_209 : Cond.methodLink RX5 209 yX5_share ∈ zTbl := zq5 (List.mem_of_getElem? (i := 58) rfl) rfl
theorem zi_X5_share : Cond.instanceMethod yX5_share ∈ zTbl := zq5 (List.mem_of_getElem? (i := 60) rfl) rfl
theorem zc_X5_share : Cond.code yX5_share cX5_share 1 (some FieldType.double) ∈ zTbl := zq5 (List.mem_of_getElem? (i := 61) rfl) rfl
theorem zm_L_171 : Cond.methodLink RL 171 yX5_digest ∈ zTbl := zq5 (List.mem_of_getElem? (i := 62) rfl) rfl
theorem zi_X5_digest : Cond.instanceMethod yX5_digest ∈ zTbl := zq5 (List.mem_of_getElem? (i := 63) rfl) rfl
theorem zs_X5_digest : Cond.selects RX5 yX5_digest yX5_digest ∈ zTbl := zq5 (List.mem_of_getElem? (i := 64) rfl) rfl
theorem zc_X5_digest : Cond.code yX5_digest cX5_digest 3 (some FieldType.long) ∈ zTbl := zq5 (List.mem_of_getElem? (i := 65) rfl) rfl
theorem zk_X5_227 : Cond.constantLong RX5 227 (2879) ∈ zTbl := zq5 (List.mem_of_getElem? (i := 66) rfl) rfl
theorem zm_X5_229 : Cond.methodLink RX5 229 yX5_digestOne ∈ zTbl := zq5 (List.mem_of_getElem? (i := 67) rfl) rfl
theorem zi_X5_digestOne : Cond.instanceMethod yX5_digestOne ∈ zTbl := zq5 (List.mem_of_getElem? (i := 69) rfl) rfl
theorem zc_X5_digestOne : Cond.code yX5_digestOne cX5_digestOne 3 (none : Option FieldType) ∈ zTbl := zq5 (List.mem_of_getElem? (i := 70) rfl) rfl
theorem zk_X5_221 : Cond.constantLong RX5 221 (31) ∈ zTbl := zq5 (List.mem_of_getElem? (i := 71) rfl) rfl
theorem zm_X5_233 : Cond.methodLink RX5 233 yX5_bitsOf ∈ zTbl := zq5 (List.mem_of_getElem? (i := 72) rfl) rfl
theorem zt_X5_bitsOf : Cond.static yX5_bitsOf ∈ zTbl := zq5 (List.mem_of_getElem? (i := 73) rfl) rfl
theorem zc_X5_bitsOf : Cond.code yX5_bitsOf cX5_bitsOf 6 (some FieldType.long) ∈ zTbl := zq5 (List.mem_of_getElem? (i := 74) rfl) rfl
theorem zk_X5_213 : Cond.constantLong RX5 213 (1023) ∈ zTbl := zq5 (List.mem_of_getElem? (i := 75) rfl) rfl
theorem zk_X5_217 : Cond.constantLong RX5 217 (4503599627370496) ∈ zTbl := zq5 (List.mem_of_getElem? (i := 77) rfl) rfl
theorem za_1099 : Cond.arrayClass FieldType.long ∈ zTbl := zq5 (List.mem_of_getElem? (i := 79) rfl) rfl
def zNest : List Cond := [Cond.fieldLinkNest RX3 47 "ZonePrint$Paper" "grade" "I" "ZonePrint", Cond.fieldLinkNest RX4 244 "ZonePrint$Paper" "grade" "I" "ZonePrint", Cond.fieldLinkNest RX3 50 "ZonePrint$Paper" "speed" "I" "ZonePrint", Cond.fieldLinkNest RX4 195 "ZonePrint$Paper" "speed" "I" "ZonePrint", Cond.fieldLinkNest RX4 115 "ZonePrint$Print" "paper" "LZonePrint$Paper;" "ZonePrint", Cond.fieldLinkNest RX4 80 "ZonePrint$Print" "wanteds" "[I" "ZonePrint", Cond.fieldLinkNest RX4 104 "ZonePrint$Print" "burns" "[I" "ZonePrint", Cond.fieldLinkNest RX4 110 "ZonePrint$Print" "holds" "[I" "ZonePrint", Cond.fieldLinkNest RX4 213 "ZonePrint$Print" "zones" "I" "ZonePrint", Cond.fieldLinkNest RX4 95 "ZonePrint$Print" "time" "I" "ZonePrint", Cond.fieldLinkNest RX4 130 "ZonePrint$Print" "spill" "I" "ZonePrint", Cond.fieldLinkNest RX4 265 "ZonePrint$OrderReader" "kind" "I" "ZonePrint", Cond.fieldLinkNest RX4 259 "ZonePrint$OrderReader" "first" "I" "ZonePrint", Cond.fieldLinkNest RX4 262 "ZonePrint$OrderReader" "last" "I" "ZonePrint", Cond.methodLinkNest RX3 127 yX4_isWithin "ZonePrint"]
theorem zfn_X3_47 : Cond.fieldLinkNest RX3 47 "ZonePrint$Paper" "grade" "I" "ZonePrint" ∈ zNest := List.mem_of_getElem? (i := 0) rfl
theorem zfn_X3_47_t : Cond.fieldLinkNest RX3 47 "ZonePrint$Paper" "grade" "I" "ZonePrint" ∈ lw_tbl := zq1_in (List.mem_of_getElem? (i := 47) rfl)
theorem zfn_X4_244 : Cond.fieldLinkNest RX4 244 "ZonePrint$Paper" "grade" "I" "ZonePrint" ∈ zNest := List.mem_of_getElem? (i := 1) rfl
theorem zfn_X4_244_t : Cond.fieldLinkNest RX4 244 "ZonePrint$Paper" "grade" "I" "ZonePrint" ∈ lw_tbl := zq1_in (List.mem_of_getElem? (i := 49) rfl)
theorem zfn_X3_50 : Cond.fieldLinkNest RX3 50 "ZonePrint$Paper" "speed" "I" "ZonePrint" ∈ zNest := List.mem_of_getElem? (i := 2) rfl
theorem zfn_X3_50_t : Cond.fieldLinkNest RX3 50 "ZonePrint$Paper" "speed" "I" "ZonePrint" ∈ lw_tbl := zq1_in (List.mem_of_getElem? (i := 50) rfl)
theorem zfn_X4_195 : Cond.fieldLinkNest RX4 195 "ZonePrint$Paper" "speed" "I" "ZonePrint" ∈ zNest := List.mem_of_getElem? (i := 3) rfl
theorem zfn_X4_195_t : Cond.fieldLinkNest RX4 195 "ZonePrint$Paper" "speed" "I" "ZonePrint" ∈ lw_tbl := zq1_in (List.mem_of_getElem? (i := 52) rfl)
theorem zfn_X4_115 : Cond.fieldLinkNest RX4 115 "ZonePrint$Print" "paper" "LZonePrint$Paper;" "ZonePrint" ∈ zNest := List.mem_of_getElem? (i := 4) rfl
theorem zfn_X4_115_t : Cond.fieldLinkNest RX4 115 "ZonePrint$Print" "paper" "LZonePrint$Paper;" "ZonePrint" ∈ lw_tbl := zq1_in (List.mem_of_getElem? (i := 62) rfl)
theorem zfn_X4_80 : Cond.fieldLinkNest RX4 80 "ZonePrint$Print" "wanteds" "[I" "ZonePrint" ∈ zNest := List.mem_of_getElem? (i := 5) rfl
theorem zfn_X4_80_t : Cond.fieldLinkNest RX4 80 "ZonePrint$Print" "wanteds" "[I" "ZonePrint" ∈ lw_tbl := zq1_in (List.mem_of_getElem? (i := 65) rfl)
theorem zfn_X4_104 : Cond.fieldLinkNest RX4 104 "ZonePrint$Print" "burns" "[I" "ZonePrint" ∈ zNest := List.mem_of_getElem? (i := 6) rfl
theorem zfn_X4_104_t : Cond.fieldLinkNest RX4 104 "ZonePrint$Print" "burns" "[I" "ZonePrint" ∈ lw_tbl := zq1_in (List.mem_of_getElem? (i := 67) rfl)
theorem zfn_X4_110 : Cond.fieldLinkNest RX4 110 "ZonePrint$Print" "holds" "[I" "ZonePrint" ∈ zNest := List.mem_of_getElem? (i := 7) rfl
theorem zfn_X4_110_t : Cond.fieldLinkNest RX4 110 "ZonePrint$Print" "holds" "[I" "ZonePrint" ∈ lw_tbl := zq1_in (List.mem_of_getElem? (i := 69) rfl)
theorem zfn_X4_213 : Cond.fieldLinkNest RX4 213 "ZonePrint$Print" "zones" "I" "ZonePrint" ∈ zNest := List.mem_of_getElem? (i := 8) rfl
theorem zfn_X4_213_t : Cond.fieldLinkNest RX4 213 "ZonePrint$Print" "zones" "I" "ZonePrint" ∈ lw_tbl := zq1_in (List.mem_of_getElem? (i := 73) rfl)
theorem zfn_X4_95 : Cond.fieldLinkNest RX4 95 "ZonePrint$Print" "time" "I" "ZonePrint" ∈ zNest := List.mem_of_getElem? (i := 9) rfl
theorem zfn_X4_95_t : Cond.fieldLinkNest RX4 95 "ZonePrint$Print" "time" "I" "ZonePrint" ∈ lw_tbl := zq1_in (List.mem_of_getElem? (i := 75) rfl)
theorem zfn_X4_130 : Cond.fieldLinkNest RX4 130 "ZonePrint$Print" "spill" "I" "ZonePrint" ∈ zNest := List.mem_of_getElem? (i := 10) rfl
theorem zfn_X4_130_t : Cond.fieldLinkNest RX4 130 "ZonePrint$Print" "spill" "I" "ZonePrint" ∈ lw_tbl := zq1_in (List.mem_of_getElem? (i := 77) rfl)
theorem zfn_X4_265 : Cond.fieldLinkNest RX4 265 "ZonePrint$OrderReader" "kind" "I" "ZonePrint" ∈ zNest := List.mem_of_getElem? (i := 11) rfl
theorem zfn_X4_265_t : Cond.fieldLinkNest RX4 265 "ZonePrint$OrderReader" "kind" "I" "ZonePrint" ∈ lw_tbl := zq1_in (List.mem_of_getElem? (i := 126) rfl)
theorem zfn_X4_259 : Cond.fieldLinkNest RX4 259 "ZonePrint$OrderReader" "first" "I" "ZonePrint" ∈ zNest := List.mem_of_getElem? (i := 12) rfl
theorem zfn_X4_259_t : Cond.fieldLinkNest RX4 259 "ZonePrint$OrderReader" "first" "I" "ZonePrint" ∈ lw_tbl := zq1_in (List.mem_of_getElem? (i := 128) rfl)
theorem zfn_X4_262 : Cond.fieldLinkNest RX4 262 "ZonePrint$OrderReader" "last" "I" "ZonePrint" ∈ zNest := List.mem_of_getElem? (i := 13) rfl
theorem zfn_X4_262_t : Cond.fieldLinkNest RX4 262 "ZonePrint$OrderReader" "last" "I" "ZonePrint" ∈ lw_tbl := zq1_in (List.mem_of_getElem? (i := 130) rfl)
theorem zmn_X3_127 : Cond.methodLinkNest RX3 127 yX4_isWithin "ZonePrint" ∈ zNest := List.mem_of_getElem? (i := 14) rfl
theorem zmn_X3_127_t : Cond.methodLinkNest RX3 127 yX4_isWithin "ZonePrint" ∈ lw_tbl := zq1_in (List.mem_of_getElem? (i := 235) rfl)
theorem zNest_in : ∀ w ∈ zNest, w ∈ lw_tbl := List.forall_mem_cons.mpr ⟨zfn_X3_47_t, List.forall_mem_cons.mpr ⟨zfn_X4_244_t, List.forall_mem_cons.mpr ⟨zfn_X3_50_t, List.forall_mem_cons.mpr ⟨zfn_X4_195_t, List.forall_mem_cons.mpr ⟨zfn_X4_115_t, List.forall_mem_cons.mpr ⟨zfn_X4_80_t, List.forall_mem_cons.mpr ⟨zfn_X4_104_t, List.forall_mem_cons.mpr ⟨zfn_X4_110_t, List.forall_mem_cons.mpr ⟨zfn_X4_213_t, List.forall_mem_cons.mpr ⟨zfn_X4_95_t, List.forall_mem_cons.mpr ⟨zfn_X4_130_t, List.forall_mem_cons.mpr ⟨zfn_X4_265_t, List.forall_mem_cons.mpr ⟨zfn_X4_259_t, List.forall_mem_cons.mpr ⟨zfn_X4_262_t, List.forall_mem_cons.mpr ⟨zmn_X3_127_t, fun _ h => absurd h List.not_mem_nil⟩⟩⟩⟩⟩⟩⟩⟩⟩⟩⟩⟩⟩⟩⟩
theorem zin_X0 : ∀ w ∈ u_ws RX0 TX0 3, w ∈ zTbl := List.forall_mem_cons.mpr ⟨zy_171, List.forall_mem_cons.mpr ⟨zy_173, List.forall_mem_cons.mpr ⟨zy_175, fun _ h => absurd h List.not_mem_nil⟩⟩⟩
theorem zin_X1 : ∀ w ∈ u_ws RX1 TX1 4, w ∈ zTbl := List.forall_mem_cons.mpr ⟨zy_191, List.forall_mem_cons.mpr ⟨zy_193, List.forall_mem_cons.mpr ⟨zy_195, List.forall_mem_cons.mpr ⟨zy_197, fun _ h => absurd h List.not_mem_nil⟩⟩⟩⟩
theorem zin_X2 : ∀ w ∈ u_ws RX2 TX2 3, w ∈ zTbl := List.forall_mem_cons.mpr ⟨zy_113, List.forall_mem_cons.mpr ⟨zy_115, List.forall_mem_cons.mpr ⟨zy_117, fun _ h => absurd h List.not_mem_nil⟩⟩⟩
theorem zin_X3 : ∀ w ∈ u_ws RX3 TX3 10, w ∈ zTbl := List.forall_mem_cons.mpr ⟨zy_138, List.forall_mem_cons.mpr ⟨zy_140, List.forall_mem_cons.mpr ⟨zy_142, List.forall_mem_cons.mpr ⟨zy_144, List.forall_mem_cons.mpr ⟨zy_146, List.forall_mem_cons.mpr ⟨zy_148, List.forall_mem_cons.mpr ⟨zy_150, List.forall_mem_cons.mpr ⟨zy_152, List.forall_mem_cons.mpr ⟨zy_154, List.forall_mem_cons.mpr ⟨zy_156, fun _ h => absurd h List.not_mem_nil⟩⟩⟩⟩⟩⟩⟩⟩⟩⟩
theorem zin_X4 : ∀ w ∈ u_ws RX4 TX4 6, w ∈ zTbl := List.forall_mem_cons.mpr ⟨zy_206, List.forall_mem_cons.mpr ⟨zy_208, List.forall_mem_cons.mpr ⟨zy_210, List.forall_mem_cons.mpr ⟨zy_212, List.forall_mem_cons.mpr ⟨zy_214, List.forall_mem_cons.mpr ⟨zy_216, fun _ h => absurd h List.not_mem_nil⟩⟩⟩⟩⟩⟩
theorem zin_X5 : ∀ w ∈ u_ws RX5 TX5 15, w ∈ zTbl := List.forall_mem_cons.mpr ⟨zy_765, List.forall_mem_cons.mpr ⟨zy_767, List.forall_mem_cons.mpr ⟨zy_769, List.forall_mem_cons.mpr ⟨zy_771, List.forall_mem_cons.mpr ⟨zy_773, List.forall_mem_cons.mpr ⟨zy_775, List.forall_mem_cons.mpr ⟨zy_777, List.forall_mem_cons.mpr ⟨zy_779, List.forall_mem_cons.mpr ⟨zy_781, List.forall_mem_cons.mpr ⟨zy_783, List.forall_mem_cons.mpr ⟨zy_785, List.forall_mem_cons.mpr ⟨zy_787, List.forall_mem_cons.mpr ⟨zy_789, List.forall_mem_cons.mpr ⟨zy_791, List.forall_mem_cons.mpr ⟨zy_793, fun _ h => absurd h List.not_mem_nil⟩⟩⟩⟩⟩⟩⟩⟩⟩⟩⟩⟩⟩⟩⟩
