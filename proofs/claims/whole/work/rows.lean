section
-- ===== PART A: goes FIRST, ahead of the names: the tables' words, and 'selects' of the private methods out of them =====
/-- a private method of a class that the tables say can be made, by its rows of tables_1 -/
def lw_okq (q : MethodName × Nat) : Prop := (q.1.cls ≠ "java/lang/invoke/MethodHandle" ∧ q.1.cls ≠ "java/lang/invoke/VarHandle") ∧ Cond.instantiable q.1.cls q.2 ∈ tables_1 ∧ Cond.privateMethod q.1 ∈ tables_1 ∧ Cond.instanceMethod q.1 ∈ tables_1
theorem lw_p0 : lw_okq (⟨"ZonePrint$Print", "middleNeed", "()I"⟩, 10) := ⟨⟨by decide +kernel, by decide +kernel⟩, List.mem_of_getElem? (i := 24) (by decide +kernel), List.mem_of_getElem? (i := 183) (by decide +kernel), List.mem_of_getElem? (i := 184) (by decide +kernel)⟩
theorem lw_p1 : lw_okq (⟨"ZonePrint$Print", "sortIn", "(II)V"⟩, 10) := ⟨⟨by decide +kernel, by decide +kernel⟩, List.mem_of_getElem? (i := 24) (by decide +kernel), List.mem_of_getElem? (i := 201) (by decide +kernel), List.mem_of_getElem? (i := 202) (by decide +kernel)⟩
theorem lw_p2 : lw_okq (⟨"ZonePrint$Print", "correct", "(I)V"⟩, 10) := ⟨⟨by decide +kernel, by decide +kernel⟩, List.mem_of_getElem? (i := 24) (by decide +kernel), List.mem_of_getElem? (i := 206) (by decide +kernel), List.mem_of_getElem? (i := 207) (by decide +kernel)⟩
theorem lw_p3 : lw_okq (⟨"ZonePrint$OrderReader", "acceptsLetter", "(I)Z"⟩, 4) := ⟨⟨by decide +kernel, by decide +kernel⟩, List.mem_of_getElem? (i := 119) (by decide +kernel), List.mem_of_getElem? (i := 262) (by decide +kernel), List.mem_of_getElem? (i := 263) (by decide +kernel)⟩
theorem lw_p4 : lw_okq (⟨"ZonePrint$OrderReader", "acceptsFirst", "(I)Z"⟩, 4) := ⟨⟨by decide +kernel, by decide +kernel⟩, List.mem_of_getElem? (i := 119) (by decide +kernel), List.mem_of_getElem? (i := 266) (by decide +kernel), List.mem_of_getElem? (i := 267) (by decide +kernel)⟩
theorem lw_p5 : lw_okq (⟨"ZonePrint$OrderReader", "separator", "()I"⟩, 4) := ⟨⟨by decide +kernel, by decide +kernel⟩, List.mem_of_getElem? (i := 119) (by decide +kernel), List.mem_of_getElem? (i := 270) (by decide +kernel), List.mem_of_getElem? (i := 271) (by decide +kernel)⟩
theorem lw_p6 : lw_okq (⟨"ZonePrint$OrderReader", "mostFirst", "()I"⟩, 4) := ⟨⟨by decide +kernel, by decide +kernel⟩, List.mem_of_getElem? (i := 119) (by decide +kernel), List.mem_of_getElem? (i := 277) (by decide +kernel), List.mem_of_getElem? (i := 278) (by decide +kernel)⟩
theorem lw_p7 : lw_okq (⟨"ZonePrint$OrderReader", "acceptsLast", "(I)Z"⟩, 4) := ⟨⟨by decide +kernel, by decide +kernel⟩, List.mem_of_getElem? (i := 119) (by decide +kernel), List.mem_of_getElem? (i := 281) (by decide +kernel), List.mem_of_getElem? (i := 282) (by decide +kernel)⟩
theorem lw_p8 : lw_okq (⟨"ZonePrint$OrderReader", "leastLast", "()I"⟩, 4) := ⟨⟨by decide +kernel, by decide +kernel⟩, List.mem_of_getElem? (i := 119) (by decide +kernel), List.mem_of_getElem? (i := 285) (by decide +kernel), List.mem_of_getElem? (i := 286) (by decide +kernel)⟩
theorem lw_p9 : lw_okq (⟨"ZonePrint$OrderReader", "mostLast", "()I"⟩, 4) := ⟨⟨by decide +kernel, by decide +kernel⟩, List.mem_of_getElem? (i := 119) (by decide +kernel), List.mem_of_getElem? (i := 289) (by decide +kernel), List.mem_of_getElem? (i := 290) (by decide +kernel)⟩
theorem lw_p10 : lw_okq (⟨"ZonePrint", "numberOf", "(I)I"⟩, 6) := ⟨⟨by decide +kernel, by decide +kernel⟩, List.mem_of_getElem? (i := 16) (by decide +kernel), List.mem_of_getElem? (i := 323) (by decide +kernel), List.mem_of_getElem? (i := 324) (by decide +kernel)⟩
theorem lw_p11 : lw_okq (⟨"ZonePrint", "tryBurn", "(III)I"⟩, 6) := ⟨⟨by decide +kernel, by decide +kernel⟩, List.mem_of_getElem? (i := 16) (by decide +kernel), List.mem_of_getElem? (i := 378) (by decide +kernel), List.mem_of_getElem? (i := 379) (by decide +kernel)⟩
theorem lw_p12 : lw_okq (⟨"ZonePrint", "tryTime", "(II)I"⟩, 6) := ⟨⟨by decide +kernel, by decide +kernel⟩, List.mem_of_getElem? (i := 16) (by decide +kernel), List.mem_of_getElem? (i := 384) (by decide +kernel), List.mem_of_getElem? (i := 385) (by decide +kernel)⟩
theorem lw_p13 : lw_okq (⟨"java/lang/Throwable", "fillInStackTrace", "(I)Ljava/lang/Throwable;"⟩, 6) := ⟨⟨by decide +kernel, by decide +kernel⟩, List.mem_of_getElem? (i := 449) (by decide +kernel), List.mem_of_getElem? (i := 447) (by decide +kernel), List.mem_of_getElem? (i := 448) (by decide +kernel)⟩
theorem lw_p14 : lw_okq (⟨"ZonePrint", "doOrders", "()I"⟩, 6) := ⟨⟨by decide +kernel, by decide +kernel⟩, List.mem_of_getElem? (i := 16) (by decide +kernel), List.mem_of_getElem? (i := 605) (by decide +kernel), List.mem_of_getElem? (i := 606) (by decide +kernel)⟩
theorem lw_p15 : lw_okq (⟨"ZonePrint", "isLastOfOrder", "(I)Z"⟩, 6) := ⟨⟨by decide +kernel, by decide +kernel⟩, List.mem_of_getElem? (i := 16) (by decide +kernel), List.mem_of_getElem? (i := 609) (by decide +kernel), List.mem_of_getElem? (i := 610) (by decide +kernel)⟩
def lw_privs_1 : List (MethodName × Nat) := [(⟨"ZonePrint$Print", "middleNeed", "()I"⟩, 10), (⟨"ZonePrint$Print", "sortIn", "(II)V"⟩, 10), (⟨"ZonePrint$Print", "correct", "(I)V"⟩, 10), (⟨"ZonePrint$OrderReader", "acceptsLetter", "(I)Z"⟩, 4), (⟨"ZonePrint$OrderReader", "acceptsFirst", "(I)Z"⟩, 4), (⟨"ZonePrint$OrderReader", "separator", "()I"⟩, 4), (⟨"ZonePrint$OrderReader", "mostFirst", "()I"⟩, 4), (⟨"ZonePrint$OrderReader", "acceptsLast", "(I)Z"⟩, 4), (⟨"ZonePrint$OrderReader", "leastLast", "()I"⟩, 4), (⟨"ZonePrint$OrderReader", "mostLast", "()I"⟩, 4), (⟨"ZonePrint", "numberOf", "(I)I"⟩, 6), (⟨"ZonePrint", "tryBurn", "(III)I"⟩, 6), (⟨"ZonePrint", "tryTime", "(II)I"⟩, 6), (⟨"java/lang/Throwable", "fillInStackTrace", "(I)Ljava/lang/Throwable;"⟩, 6), (⟨"ZonePrint", "doOrders", "()I"⟩, 6), (⟨"ZonePrint", "isLastOfOrder", "(I)Z"⟩, 6)]
theorem lw_r1 : ∀ q ∈ lw_privs_1, lw_okq q := List.forall_mem_cons.mpr ⟨lw_p0, List.forall_mem_cons.mpr ⟨lw_p1, List.forall_mem_cons.mpr ⟨lw_p2, List.forall_mem_cons.mpr ⟨lw_p3, List.forall_mem_cons.mpr ⟨lw_p4, List.forall_mem_cons.mpr ⟨lw_p5, List.forall_mem_cons.mpr ⟨lw_p6, List.forall_mem_cons.mpr ⟨lw_p7, List.forall_mem_cons.mpr ⟨lw_p8, List.forall_mem_cons.mpr ⟨lw_p9, List.forall_mem_cons.mpr ⟨lw_p10, List.forall_mem_cons.mpr ⟨lw_p11, List.forall_mem_cons.mpr ⟨lw_p12, List.forall_mem_cons.mpr ⟨lw_p13, List.forall_mem_cons.mpr ⟨lw_p14, List.forall_mem_cons.mpr ⟨lw_p15, fun _ h => absurd h List.not_mem_nil⟩⟩⟩⟩⟩⟩⟩⟩⟩⟩⟩⟩⟩⟩⟩⟩
theorem lw_p16 : lw_okq (⟨"ZonePrint", "doOrder", "()Z"⟩, 6) := ⟨⟨by decide +kernel, by decide +kernel⟩, List.mem_of_getElem? (i := 16) (by decide +kernel), List.mem_of_getElem? (i := 613) (by decide +kernel), List.mem_of_getElem? (i := 614) (by decide +kernel)⟩
theorem lw_p17 : lw_okq (⟨"ZonePrintModel", "zoneFault", "(II)I"⟩, 15) := ⟨⟨by decide +kernel, by decide +kernel⟩, List.mem_of_getElem? (i := 685) (by decide +kernel), List.mem_of_getElem? (i := 745) (by decide +kernel), List.mem_of_getElem? (i := 746) (by decide +kernel)⟩
theorem lw_p18 : lw_okq (⟨"ZonePrintModel", "holds", "(I)Z"⟩, 15) := ⟨⟨by decide +kernel, by decide +kernel⟩, List.mem_of_getElem? (i := 685) (by decide +kernel), List.mem_of_getElem? (i := 752) (by decide +kernel), List.mem_of_getElem? (i := 753) (by decide +kernel)⟩
theorem lw_p19 : lw_okq (⟨"ZonePrintModel", "save", "()V"⟩, 15) := ⟨⟨by decide +kernel, by decide +kernel⟩, List.mem_of_getElem? (i := 685) (by decide +kernel), List.mem_of_getElem? (i := 756) (by decide +kernel), List.mem_of_getElem? (i := 757) (by decide +kernel)⟩
theorem lw_p20 : lw_okq (⟨"ZonePrintModel", "zones", "(II)I"⟩, 15) := ⟨⟨by decide +kernel, by decide +kernel⟩, List.mem_of_getElem? (i := 685) (by decide +kernel), List.mem_of_getElem? (i := 760) (by decide +kernel), List.mem_of_getElem? (i := 761) (by decide +kernel)⟩
theorem lw_p21 : lw_okq (⟨"ZonePrintModel", "isZone", "(I)Z"⟩, 15) := ⟨⟨by decide +kernel, by decide +kernel⟩, List.mem_of_getElem? (i := 685) (by decide +kernel), List.mem_of_getElem? (i := 771) (by decide +kernel), List.mem_of_getElem? (i := 772) (by decide +kernel)⟩
theorem lw_p22 : lw_okq (⟨"ZonePrintModel", "turnLink", "(II)V"⟩, 15) := ⟨⟨by decide +kernel, by decide +kernel⟩, List.mem_of_getElem? (i := 685) (by decide +kernel), List.mem_of_getElem? (i := 779) (by decide +kernel), List.mem_of_getElem? (i := 780) (by decide +kernel)⟩
theorem lw_p23 : lw_okq (⟨"ZonePrintModel", "areLinked", "(II)Z"⟩, 15) := ⟨⟨by decide +kernel, by decide +kernel⟩, List.mem_of_getElem? (i := 685) (by decide +kernel), List.mem_of_getElem? (i := 783) (by decide +kernel), List.mem_of_getElem? (i := 784) (by decide +kernel)⟩
theorem lw_p24 : lw_okq (⟨"ZonePrintModel", "exposes", "(I)I"⟩, 15) := ⟨⟨by decide +kernel, by decide +kernel⟩, List.mem_of_getElem? (i := 685) (by decide +kernel), List.mem_of_getElem? (i := 791) (by decide +kernel), List.mem_of_getElem? (i := 792) (by decide +kernel)⟩
theorem lw_p25 : lw_okq (⟨"ZonePrintModel", "right", "()I"⟩, 15) := ⟨⟨by decide +kernel, by decide +kernel⟩, List.mem_of_getElem? (i := 685) (by decide +kernel), List.mem_of_getElem? (i := 795) (by decide +kernel), List.mem_of_getElem? (i := 796) (by decide +kernel)⟩
theorem lw_p26 : lw_okq (⟨"ZonePrintModel", "isRight", "(I)Z"⟩, 15) := ⟨⟨by decide +kernel, by decide +kernel⟩, List.mem_of_getElem? (i := 685) (by decide +kernel), List.mem_of_getElem? (i := 799) (by decide +kernel), List.mem_of_getElem? (i := 800) (by decide +kernel)⟩
theorem lw_p27 : lw_okq (⟨"ZonePrintModel", "tone", "(I)I"⟩, 15) := ⟨⟨by decide +kernel, by decide +kernel⟩, List.mem_of_getElem? (i := 685) (by decide +kernel), List.mem_of_getElem? (i := 803) (by decide +kernel), List.mem_of_getElem? (i := 804) (by decide +kernel)⟩
theorem lw_p28 : lw_okq (⟨"ZonePrintModel", "timeOf", "(I)I"⟩, 15) := ⟨⟨by decide +kernel, by decide +kernel⟩, List.mem_of_getElem? (i := 685) (by decide +kernel), List.mem_of_getElem? (i := 807) (by decide +kernel), List.mem_of_getElem? (i := 808) (by decide +kernel)⟩
theorem lw_p29 : lw_okq (⟨"ZonePrintModel", "spilled", "(I)I"⟩, 15) := ⟨⟨by decide +kernel, by decide +kernel⟩, List.mem_of_getElem? (i := 685) (by decide +kernel), List.mem_of_getElem? (i := 811) (by decide +kernel), List.mem_of_getElem? (i := 812) (by decide +kernel)⟩
theorem lw_p30 : lw_okq (⟨"ZonePrintModel", "toneBy", "(II)I"⟩, 15) := ⟨⟨by decide +kernel, by decide +kernel⟩, List.mem_of_getElem? (i := 685) (by decide +kernel), List.mem_of_getElem? (i := 815) (by decide +kernel), List.mem_of_getElem? (i := 816) (by decide +kernel)⟩
theorem lw_p31 : lw_okq (⟨"ZonePrintModel", "toneOf", "(I)I"⟩, 15) := ⟨⟨by decide +kernel, by decide +kernel⟩, List.mem_of_getElem? (i := 685) (by decide +kernel), List.mem_of_getElem? (i := 827) (by decide +kernel), List.mem_of_getElem? (i := 828) (by decide +kernel)⟩
def lw_privs_2 : List (MethodName × Nat) := [(⟨"ZonePrint", "doOrder", "()Z"⟩, 6), (⟨"ZonePrintModel", "zoneFault", "(II)I"⟩, 15), (⟨"ZonePrintModel", "holds", "(I)Z"⟩, 15), (⟨"ZonePrintModel", "save", "()V"⟩, 15), (⟨"ZonePrintModel", "zones", "(II)I"⟩, 15), (⟨"ZonePrintModel", "isZone", "(I)Z"⟩, 15), (⟨"ZonePrintModel", "turnLink", "(II)V"⟩, 15), (⟨"ZonePrintModel", "areLinked", "(II)Z"⟩, 15), (⟨"ZonePrintModel", "exposes", "(I)I"⟩, 15), (⟨"ZonePrintModel", "right", "()I"⟩, 15), (⟨"ZonePrintModel", "isRight", "(I)Z"⟩, 15), (⟨"ZonePrintModel", "tone", "(I)I"⟩, 15), (⟨"ZonePrintModel", "timeOf", "(I)I"⟩, 15), (⟨"ZonePrintModel", "spilled", "(I)I"⟩, 15), (⟨"ZonePrintModel", "toneBy", "(II)I"⟩, 15), (⟨"ZonePrintModel", "toneOf", "(I)I"⟩, 15)]
theorem lw_r2 : ∀ q ∈ lw_privs_2, lw_okq q := List.forall_mem_cons.mpr ⟨lw_p16, List.forall_mem_cons.mpr ⟨lw_p17, List.forall_mem_cons.mpr ⟨lw_p18, List.forall_mem_cons.mpr ⟨lw_p19, List.forall_mem_cons.mpr ⟨lw_p20, List.forall_mem_cons.mpr ⟨lw_p21, List.forall_mem_cons.mpr ⟨lw_p22, List.forall_mem_cons.mpr ⟨lw_p23, List.forall_mem_cons.mpr ⟨lw_p24, List.forall_mem_cons.mpr ⟨lw_p25, List.forall_mem_cons.mpr ⟨lw_p26, List.forall_mem_cons.mpr ⟨lw_p27, List.forall_mem_cons.mpr ⟨lw_p28, List.forall_mem_cons.mpr ⟨lw_p29, List.forall_mem_cons.mpr ⟨lw_p30, List.forall_mem_cons.mpr ⟨lw_p31, fun _ h => absurd h List.not_mem_nil⟩⟩⟩⟩⟩⟩⟩⟩⟩⟩⟩⟩⟩⟩⟩⟩
theorem lw_p32 : lw_okq (⟨"ZonePrintModel", "findMarks", "()V"⟩, 15) := ⟨⟨by decide +kernel, by decide +kernel⟩, List.mem_of_getElem? (i := 685) (by decide +kernel), List.mem_of_getElem? (i := 831) (by decide +kernel), List.mem_of_getElem? (i := 832) (by decide +kernel)⟩
theorem lw_p33 : lw_okq (⟨"ZonePrintModel", "partFault", "(II)I"⟩, 15) := ⟨⟨by decide +kernel, by decide +kernel⟩, List.mem_of_getElem? (i := 685) (by decide +kernel), List.mem_of_getElem? (i := 840) (by decide +kernel), List.mem_of_getElem? (i := 841) (by decide +kernel)⟩
theorem lw_p34 : lw_okq (⟨"ZonePrintModel", "parts", "(III)I"⟩, 15) := ⟨⟨by decide +kernel, by decide +kernel⟩, List.mem_of_getElem? (i := 685) (by decide +kernel), List.mem_of_getElem? (i := 844) (by decide +kernel), List.mem_of_getElem? (i := 845) (by decide +kernel)⟩
theorem lw_p35 : lw_okq (⟨"ZonePrintModel", "plans", "()I"⟩, 15) := ⟨⟨by decide +kernel, by decide +kernel⟩, List.mem_of_getElem? (i := 685) (by decide +kernel), List.mem_of_getElem? (i := 860) (by decide +kernel), List.mem_of_getElem? (i := 861) (by decide +kernel)⟩
theorem lw_p36 : lw_okq (⟨"ZonePrintModel", "middleTime", "()I"⟩, 15) := ⟨⟨by decide +kernel, by decide +kernel⟩, List.mem_of_getElem? (i := 685) (by decide +kernel), List.mem_of_getElem? (i := 864) (by decide +kernel), List.mem_of_getElem? (i := 865) (by decide +kernel)⟩
theorem lw_p37 : lw_okq (⟨"ZonePrintModel", "leastNeeded", "(I)I"⟩, 15) := ⟨⟨by decide +kernel, by decide +kernel⟩, List.mem_of_getElem? (i := 685) (by decide +kernel), List.mem_of_getElem? (i := 868) (by decide +kernel), List.mem_of_getElem? (i := 869) (by decide +kernel)⟩
theorem lw_p38 : lw_okq (⟨"ZonePrintModel", "leastFor", "(II)I"⟩, 15) := ⟨⟨by decide +kernel, by decide +kernel⟩, List.mem_of_getElem? (i := 685) (by decide +kernel), List.mem_of_getElem? (i := 872) (by decide +kernel), List.mem_of_getElem? (i := 873) (by decide +kernel)⟩
theorem lw_p39 : lw_okq (⟨"ZonePrintModel", "go", "(Z)I"⟩, 15) := ⟨⟨by decide +kernel, by decide +kernel⟩, List.mem_of_getElem? (i := 685) (by decide +kernel), List.mem_of_getElem? (i := 892) (by decide +kernel), List.mem_of_getElem? (i := 893) (by decide +kernel)⟩
theorem lw_p40 : lw_okq (⟨"ZonePrintModel", "order", "()V"⟩, 15) := ⟨⟨by decide +kernel, by decide +kernel⟩, List.mem_of_getElem? (i := 685) (by decide +kernel), List.mem_of_getElem? (i := 896) (by decide +kernel), List.mem_of_getElem? (i := 897) (by decide +kernel)⟩
theorem lw_p41 : lw_okq (⟨"ZonePrintModel", "number", "(II)I"⟩, 15) := ⟨⟨by decide +kernel, by decide +kernel⟩, List.mem_of_getElem? (i := 685) (by decide +kernel), List.mem_of_getElem? (i := 900) (by decide +kernel), List.mem_of_getElem? (i := 901) (by decide +kernel)⟩
theorem lw_p42 : lw_okq (⟨"ZonePrintModel", "sign", "(II)I"⟩, 15) := ⟨⟨by decide +kernel, by decide +kernel⟩, List.mem_of_getElem? (i := 685) (by decide +kernel), List.mem_of_getElem? (i := 904) (by decide +kernel), List.mem_of_getElem? (i := 905) (by decide +kernel)⟩
theorem lw_p43 : lw_okq (⟨"ZonePrintModel", "does", "()Z"⟩, 15) := ⟨⟨by decide +kernel, by decide +kernel⟩, List.mem_of_getElem? (i := 685) (by decide +kernel), List.mem_of_getElem? (i := 908) (by decide +kernel), List.mem_of_getElem? (i := 909) (by decide +kernel)⟩
theorem lw_p44 : lw_okq (⟨"ZonePrintModel", "ofZone", "(II)I"⟩, 15) := ⟨⟨by decide +kernel, by decide +kernel⟩, List.mem_of_getElem? (i := 685) (by decide +kernel), List.mem_of_getElem? (i := 924) (by decide +kernel), List.mem_of_getElem? (i := 925) (by decide +kernel)⟩
theorem lw_p45 : lw_okq (⟨"ZonePrintModel", "greatestNeeded", "(I)I"⟩, 15) := ⟨⟨by decide +kernel, by decide +kernel⟩, List.mem_of_getElem? (i := 685) (by decide +kernel), List.mem_of_getElem? (i := 928) (by decide +kernel), List.mem_of_getElem? (i := 929) (by decide +kernel)⟩
theorem lw_p46 : lw_okq (⟨"ZonePrintModel", "markOf", "(I)I"⟩, 15) := ⟨⟨by decide +kernel, by decide +kernel⟩, List.mem_of_getElem? (i := 685) (by decide +kernel), List.mem_of_getElem? (i := 936) (by decide +kernel), List.mem_of_getElem? (i := 937) (by decide +kernel)⟩
theorem lw_p47 : lw_okq (⟨"ZonePrintModel", "stripOf", "(IIII)I"⟩, 15) := ⟨⟨by decide +kernel, by decide +kernel⟩, List.mem_of_getElem? (i := 685) (by decide +kernel), List.mem_of_getElem? (i := 944) (by decide +kernel), List.mem_of_getElem? (i := 945) (by decide +kernel)⟩
def lw_privs_3 : List (MethodName × Nat) := [(⟨"ZonePrintModel", "findMarks", "()V"⟩, 15), (⟨"ZonePrintModel", "partFault", "(II)I"⟩, 15), (⟨"ZonePrintModel", "parts", "(III)I"⟩, 15), (⟨"ZonePrintModel", "plans", "()I"⟩, 15), (⟨"ZonePrintModel", "middleTime", "()I"⟩, 15), (⟨"ZonePrintModel", "leastNeeded", "(I)I"⟩, 15), (⟨"ZonePrintModel", "leastFor", "(II)I"⟩, 15), (⟨"ZonePrintModel", "go", "(Z)I"⟩, 15), (⟨"ZonePrintModel", "order", "()V"⟩, 15), (⟨"ZonePrintModel", "number", "(II)I"⟩, 15), (⟨"ZonePrintModel", "sign", "(II)I"⟩, 15), (⟨"ZonePrintModel", "does", "()Z"⟩, 15), (⟨"ZonePrintModel", "ofZone", "(II)I"⟩, 15), (⟨"ZonePrintModel", "greatestNeeded", "(I)I"⟩, 15), (⟨"ZonePrintModel", "markOf", "(I)I"⟩, 15), (⟨"ZonePrintModel", "stripOf", "(IIII)I"⟩, 15)]
theorem lw_r3 : ∀ q ∈ lw_privs_3, lw_okq q := List.forall_mem_cons.mpr ⟨lw_p32, List.forall_mem_cons.mpr ⟨lw_p33, List.forall_mem_cons.mpr ⟨lw_p34, List.forall_mem_cons.mpr ⟨lw_p35, List.forall_mem_cons.mpr ⟨lw_p36, List.forall_mem_cons.mpr ⟨lw_p37, List.forall_mem_cons.mpr ⟨lw_p38, List.forall_mem_cons.mpr ⟨lw_p39, List.forall_mem_cons.mpr ⟨lw_p40, List.forall_mem_cons.mpr ⟨lw_p41, List.forall_mem_cons.mpr ⟨lw_p42, List.forall_mem_cons.mpr ⟨lw_p43, List.forall_mem_cons.mpr ⟨lw_p44, List.forall_mem_cons.mpr ⟨lw_p45, List.forall_mem_cons.mpr ⟨lw_p46, List.forall_mem_cons.mpr ⟨lw_p47, fun _ h => absurd h List.not_mem_nil⟩⟩⟩⟩⟩⟩⟩⟩⟩⟩⟩⟩⟩⟩⟩⟩
theorem lw_p48 : lw_okq (⟨"ZonePrintModel", "counted", "(I)I"⟩, 15) := ⟨⟨by decide +kernel, by decide +kernel⟩, List.mem_of_getElem? (i := 685) (by decide +kernel), List.mem_of_getElem? (i := 955) (by decide +kernel), List.mem_of_getElem? (i := 956) (by decide +kernel)⟩
theorem lw_p49 : lw_okq (⟨"ZonePrintModel", "sum", "(I)I"⟩, 15) := ⟨⟨by decide +kernel, by decide +kernel⟩, List.mem_of_getElem? (i := 685) (by decide +kernel), List.mem_of_getElem? (i := 959) (by decide +kernel), List.mem_of_getElem? (i := 960) (by decide +kernel)⟩
theorem lw_p50 : lw_okq (⟨"ZonePrintModel", "exposed", "(II)I"⟩, 15) := ⟨⟨by decide +kernel, by decide +kernel⟩, List.mem_of_getElem? (i := 685) (by decide +kernel), List.mem_of_getElem? (i := 967) (by decide +kernel), List.mem_of_getElem? (i := 968) (by decide +kernel)⟩
theorem lw_p51 : lw_okq (⟨"ZonePrintModel", "off", "()I"⟩, 15) := ⟨⟨by decide +kernel, by decide +kernel⟩, List.mem_of_getElem? (i := 685) (by decide +kernel), List.mem_of_getElem? (i := 971) (by decide +kernel), List.mem_of_getElem? (i := 972) (by decide +kernel)⟩
theorem lw_p52 : lw_okq (⟨"ZonePrintModel", "best", "()I"⟩, 15) := ⟨⟨by decide +kernel, by decide +kernel⟩, List.mem_of_getElem? (i := 685) (by decide +kernel), List.mem_of_getElem? (i := 979) (by decide +kernel), List.mem_of_getElem? (i := 980) (by decide +kernel)⟩
theorem lw_p53 : lw_okq (⟨"ZonePrintModel", "bestPaper", "()I"⟩, 15) := ⟨⟨by decide +kernel, by decide +kernel⟩, List.mem_of_getElem? (i := 685) (by decide +kernel), List.mem_of_getElem? (i := 987) (by decide +kernel), List.mem_of_getElem? (i := 988) (by decide +kernel)⟩
theorem lw_p54 : lw_okq (⟨"ZonePrintModel", "putAside", "()V"⟩, 15) := ⟨⟨by decide +kernel, by decide +kernel⟩, List.mem_of_getElem? (i := 685) (by decide +kernel), List.mem_of_getElem? (i := 991) (by decide +kernel), List.mem_of_getElem? (i := 992) (by decide +kernel)⟩
theorem lw_p55 : lw_okq (⟨"ZonePrintModel", "putBack", "()V"⟩, 15) := ⟨⟨by decide +kernel, by decide +kernel⟩, List.mem_of_getElem? (i := 685) (by decide +kernel), List.mem_of_getElem? (i := 995) (by decide +kernel), List.mem_of_getElem? (i := 996) (by decide +kernel)⟩
theorem lw_p56 : lw_okq (⟨"ZonePrintModel", "burned", "(III)I"⟩, 15) := ⟨⟨by decide +kernel, by decide +kernel⟩, List.mem_of_getElem? (i := 685) (by decide +kernel), List.mem_of_getElem? (i := 1003) (by decide +kernel), List.mem_of_getElem? (i := 1004) (by decide +kernel)⟩
theorem lw_p57 : lw_okq (⟨"ZonePrintModel", "together", "(I)I"⟩, 15) := ⟨⟨by decide +kernel, by decide +kernel⟩, List.mem_of_getElem? (i := 685) (by decide +kernel), List.mem_of_getElem? (i := 1011) (by decide +kernel), List.mem_of_getElem? (i := 1012) (by decide +kernel)⟩
theorem lw_p58 : lw_okq (⟨"ZonePrintModel", "share", "()D"⟩, 15) := ⟨⟨by decide +kernel, by decide +kernel⟩, List.mem_of_getElem? (i := 685) (by decide +kernel), List.mem_of_getElem? (i := 1019) (by decide +kernel), List.mem_of_getElem? (i := 1020) (by decide +kernel)⟩
theorem lw_p59 : lw_okq (⟨"ZonePrintModel", "digestOne", "(J)V"⟩, 15) := ⟨⟨by decide +kernel, by decide +kernel⟩, List.mem_of_getElem? (i := 685) (by decide +kernel), List.mem_of_getElem? (i := 1028) (by decide +kernel), List.mem_of_getElem? (i := 1029) (by decide +kernel)⟩
def lw_privs_4 : List (MethodName × Nat) := [(⟨"ZonePrintModel", "counted", "(I)I"⟩, 15), (⟨"ZonePrintModel", "sum", "(I)I"⟩, 15), (⟨"ZonePrintModel", "exposed", "(II)I"⟩, 15), (⟨"ZonePrintModel", "off", "()I"⟩, 15), (⟨"ZonePrintModel", "best", "()I"⟩, 15), (⟨"ZonePrintModel", "bestPaper", "()I"⟩, 15), (⟨"ZonePrintModel", "putAside", "()V"⟩, 15), (⟨"ZonePrintModel", "putBack", "()V"⟩, 15), (⟨"ZonePrintModel", "burned", "(III)I"⟩, 15), (⟨"ZonePrintModel", "together", "(I)I"⟩, 15), (⟨"ZonePrintModel", "share", "()D"⟩, 15), (⟨"ZonePrintModel", "digestOne", "(J)V"⟩, 15)]
theorem lw_r4 : ∀ q ∈ lw_privs_4, lw_okq q := List.forall_mem_cons.mpr ⟨lw_p48, List.forall_mem_cons.mpr ⟨lw_p49, List.forall_mem_cons.mpr ⟨lw_p50, List.forall_mem_cons.mpr ⟨lw_p51, List.forall_mem_cons.mpr ⟨lw_p52, List.forall_mem_cons.mpr ⟨lw_p53, List.forall_mem_cons.mpr ⟨lw_p54, List.forall_mem_cons.mpr ⟨lw_p55, List.forall_mem_cons.mpr ⟨lw_p56, List.forall_mem_cons.mpr ⟨lw_p57, List.forall_mem_cons.mpr ⟨lw_p58, List.forall_mem_cons.mpr ⟨lw_p59, fun _ h => absurd h List.not_mem_nil⟩⟩⟩⟩⟩⟩⟩⟩⟩⟩⟩⟩
def lw_privs : List (MethodName × Nat) := lw_privs_1 ++ (lw_privs_2 ++ (lw_privs_3 ++ (lw_privs_4)))
def lw_tbl : List Cond := k2_sels lw_privs ++ tables_1
theorem lw_privs_ok : ∀ q ∈ lw_privs, lw_okq q := by
  show ∀ q ∈ lw_privs_1 ++ (lw_privs_2 ++ (lw_privs_3 ++ (lw_privs_4))), lw_okq q
  exact List.forall_mem_append.mpr ⟨lw_r1, List.forall_mem_append.mpr ⟨lw_r2, List.forall_mem_append.mpr ⟨lw_r3, lw_r4⟩⟩⟩
/-- the streams that the claim lets the run draw from -/
abbrev lw_cs : List Choice := [Jvm.Choice.named "NaN.bits"]
theorem lw_bits : nanBits ∈ lw_cs := by first | decide | exact List.mem_cons_self | simp [lw_cs, nanBits]
-- ===== end of PART A; then your names; then what follows =====
end
section
def RX0 : String := "ZonePrint$History"
def TX0 : u_T := fun k => match k with
  | 0 => ("ZonePrint$History", "states", "[LZonePrint$Print;", true)
  | 1 => ("ZonePrint$History", "size", "I", false)
  | _ => ("ZonePrint$History", "next", "I", false)
def tyX0 : Nat → FieldType := fun k => match k with
  | 0 => .array (.object "ZonePrint$Print")
  | 1 => .int
  | _ => .int
theorem nmX0 : ∀ a, a < 3 → ∀ b, b < 3 → a ≠ b → (TX0 a).2.1 ≠ (TX0 b).2.1 := by decide +kernel
theorem tyX0_ok : ∀ k, k < 3 → parseFieldDescriptor (TX0 k).2.2.1 = some (tyX0 k) := by decide +kernel
abbrev cX0_init : ByteArray := prog_2_method_1_code
def yX0_init : MethodName := ⟨RX0, "<init>", "()V"⟩
abbrev cX0_size : ByteArray := prog_2_method_2_code
def yX0_size : MethodName := ⟨RX0, "size", "()I"⟩
abbrev cX0_keep : ByteArray := prog_2_method_3_code
def yX0_keep : MethodName := ⟨RX0, "keep", "(LZonePrint$Print;)V"⟩
abbrev cX0_giveBack : ByteArray := prog_2_method_4_code
def yX0_giveBack : MethodName := ⟨RX0, "giveBack", "(LZonePrint$Print;)V"⟩
def RX1 : String := "ZonePrint$OrderReader"
def TX1 : u_T := fun k => match k with
  | 0 => ("ZonePrint$OrderReader", "part", "I", false)
  | 1 => ("ZonePrint$OrderReader", "kind", "I", false)
  | 2 => ("ZonePrint$OrderReader", "first", "I", false)
  | _ => ("ZonePrint$OrderReader", "last", "I", false)
def tyX1 : Nat → FieldType := fun k => match k with
  | 0 => .int
  | 1 => .int
  | 2 => .int
  | _ => .int
theorem nmX1 : ∀ a, a < 4 → ∀ b, b < 4 → a ≠ b → (TX1 a).2.1 ≠ (TX1 b).2.1 := by decide +kernel
theorem tyX1_ok : ∀ k, k < 4 → parseFieldDescriptor (TX1 k).2.2.1 = some (tyX1 k) := by decide +kernel
abbrev cX1_init : ByteArray := prog_3_method_1_code
def yX1_init : MethodName := ⟨RX1, "<init>", "()V"⟩
abbrev cX1_restart : ByteArray := prog_3_method_2_code
def yX1_restart : MethodName := ⟨RX1, "restart", "()V"⟩
abbrev cX1_endsAnOrder : ByteArray := prog_3_method_3_code
def yX1_endsAnOrder : MethodName := ⟨RX1, "endsAnOrder", "()Z"⟩
abbrev cX1_accepts : ByteArray := prog_3_method_4_code
def yX1_accepts : MethodName := ⟨RX1, "accepts", "(I)Z"⟩
abbrev cX1_acceptsLetter : ByteArray := prog_3_method_5_code
def yX1_acceptsLetter : MethodName := ⟨RX1, "acceptsLetter", "(I)Z"⟩
abbrev cX1_acceptsFirst : ByteArray := prog_3_method_6_code
def yX1_acceptsFirst : MethodName := ⟨RX1, "acceptsFirst", "(I)Z"⟩
abbrev cX1_acceptsLast : ByteArray := prog_3_method_7_code
def yX1_acceptsLast : MethodName := ⟨RX1, "acceptsLast", "(I)Z"⟩
abbrev cX1_withDigit : ByteArray := prog_3_method_8_code
def yX1_withDigit : MethodName := ⟨RX1, "withDigit", "(II)I"⟩
abbrev cX1_separator : ByteArray := prog_3_method_9_code
def yX1_separator : MethodName := ⟨RX1, "separator", "()I"⟩
abbrev cX1_mostFirst : ByteArray := prog_3_method_10_code
def yX1_mostFirst : MethodName := ⟨RX1, "mostFirst", "()I"⟩
abbrev cX1_leastLast : ByteArray := prog_3_method_11_code
def yX1_leastLast : MethodName := ⟨RX1, "leastLast", "()I"⟩
abbrev cX1_mostLast : ByteArray := prog_3_method_12_code
def yX1_mostLast : MethodName := ⟨RX1, "mostLast", "()I"⟩
def RX2 : String := "ZonePrint$Paper"
def TX2 : u_T := fun k => match k with
  | 0 => ("ZonePrint$Paper", "marks", "[I", true)
  | 1 => ("ZonePrint$Paper", "grade", "I", false)
  | _ => ("ZonePrint$Paper", "speed", "I", false)
def tyX2 : Nat → FieldType := fun k => match k with
  | 0 => .array .int
  | 1 => .int
  | _ => .int
theorem nmX2 : ∀ a, a < 3 → ∀ b, b < 3 → a ≠ b → (TX2 a).2.1 ≠ (TX2 b).2.1 := by decide +kernel
theorem tyX2_ok : ∀ k, k < 3 → parseFieldDescriptor (TX2 k).2.2.1 = some (tyX2 k) := by decide +kernel
abbrev cX2_init : ByteArray := prog_4_method_1_code
def yX2_init : MethodName := ⟨RX2, "<init>", "()V"⟩
abbrev cX2_take : ByteArray := prog_4_method_2_code
def yX2_take : MethodName := ⟨RX2, "take", "(II)V"⟩
abbrev cX2_markOf : ByteArray := prog_4_method_3_code
def yX2_markOf : MethodName := ⟨RX2, "markOf", "(I)I"⟩
abbrev cX2_toneOf : ByteArray := prog_4_method_4_code
def yX2_toneOf : MethodName := ⟨RX2, "toneOf", "(I)I"⟩
abbrev cX2_lightThrough : ByteArray := prog_4_method_5_code
def yX2_lightThrough : MethodName := ⟨RX2, "lightThrough", "(II)I"⟩
abbrev cX2_leastTime : ByteArray := prog_4_method_6_code
def yX2_leastTime : MethodName := ⟨RX2, "leastTime", "(II)I"⟩
def RX3 : String := "ZonePrint$Print"
def TX3 : u_T := fun k => match k with
  | 0 => ("ZonePrint$Print", "paper", "LZonePrint$Paper;", true)
  | 1 => ("ZonePrint$Print", "densities", "[I", true)
  | 2 => ("ZonePrint$Print", "wanteds", "[I", true)
  | 3 => ("ZonePrint$Print", "burns", "[I", true)
  | 4 => ("ZonePrint$Print", "holds", "[I", true)
  | 5 => ("ZonePrint$Print", "neighbours", "[I", true)
  | 6 => ("ZonePrint$Print", "sortedNeeds", "[I", true)
  | 7 => ("ZonePrint$Print", "zones", "I", false)
  | 8 => ("ZonePrint$Print", "time", "I", false)
  | _ => ("ZonePrint$Print", "spill", "I", false)
def tyX3 : Nat → FieldType := fun k => match k with
  | 0 => .object "ZonePrint$Paper"
  | 1 => .array .int
  | 2 => .array .int
  | 3 => .array .int
  | 4 => .array .int
  | 5 => .array .int
  | 6 => .array .int
  | 7 => .int
  | 8 => .int
  | _ => .int
theorem nmX3 : ∀ a, a < 10 → ∀ b, b < 10 → a ≠ b → (TX3 a).2.1 ≠ (TX3 b).2.1 := by decide +kernel
theorem tyX3_ok : ∀ k, k < 10 → parseFieldDescriptor (TX3 k).2.2.1 = some (tyX3 k) := by decide +kernel
abbrev cX3_init : ByteArray := prog_5_method_1_code
def yX3_init : MethodName := ⟨RX3, "<init>", "()V"⟩
abbrev cX3_copyFrom : ByteArray := prog_5_method_2_code
def yX3_copyFrom : MethodName := ⟨RX3, "copyFrom", "(LZonePrint$Print;)V"⟩
abbrev cX3_isFull : ByteArray := prog_5_method_3_code
def yX3_isFull : MethodName := ⟨RX3, "isFull", "()Z"⟩
abbrev cX3_hasZone : ByteArray := prog_5_method_4_code
def yX3_hasZone : MethodName := ⟨RX3, "hasZone", "(I)Z"⟩
abbrev cX3_addZone : ByteArray := prog_5_method_5_code
def yX3_addZone : MethodName := ⟨RX3, "addZone", "(II)I"⟩
abbrev cX3_areNeighbours : ByteArray := prog_5_method_6_code
def yX3_areNeighbours : MethodName := ⟨RX3, "areNeighbours", "(II)Z"⟩
abbrev cX3_setNeighbours : ByteArray := prog_5_method_7_code
def yX3_setNeighbours : MethodName := ⟨RX3, "setNeighbours", "(IIZ)V"⟩
abbrev cX3_property : ByteArray := prog_5_method_8_code
def yX3_property : MethodName := ⟨RX3, "property", "(II)I"⟩
abbrev cX3_spillOnto : ByteArray := prog_5_method_9_code
def yX3_spillOnto : MethodName := ⟨RX3, "spillOnto", "(I)I"⟩
abbrev cX3_timeOf : ByteArray := prog_5_method_10_code
def yX3_timeOf : MethodName := ⟨RX3, "timeOf", "(I)I"⟩
abbrev cX3_toneOf : ByteArray := prog_5_method_11_code
def yX3_toneOf : MethodName := ⟨RX3, "toneOf", "(I)I"⟩
abbrev cX3_toneAfter : ByteArray := prog_5_method_12_code
def yX3_toneAfter : MethodName := ⟨RX3, "toneAfter", "(II)I"⟩
abbrev cX3_tooDarkBy : ByteArray := prog_5_method_13_code
def yX3_tooDarkBy : MethodName := ⟨RX3, "tooDarkBy", "(I)I"⟩
abbrev cX3_zonesOff : ByteArray := prog_5_method_14_code
def yX3_zonesOff : MethodName := ⟨RX3, "zonesOff", "(I)I"⟩
abbrev cX3_missedTones : ByteArray := prog_5_method_15_code
def yX3_missedTones : MethodName := ⟨RX3, "missedTones", "()I"⟩
abbrev cX3_sumOf : ByteArray := prog_5_method_16_code
def yX3_sumOf : MethodName := ⟨RX3, "sumOf", "([I)I"⟩
abbrev cX3_pairs : ByteArray := prog_5_method_17_code
def yX3_pairs : MethodName := ⟨RX3, "pairs", "()I"⟩
abbrev cX3_leastNeed : ByteArray := prog_5_method_18_code
def yX3_leastNeed : MethodName := ⟨RX3, "leastNeed", "(I)I"⟩
abbrev cX3_greatestNeed : ByteArray := prog_5_method_19_code
def yX3_greatestNeed : MethodName := ⟨RX3, "greatestNeed", "(I)I"⟩
abbrev cX3_zonesWithoutNeed : ByteArray := prog_5_method_20_code
def yX3_zonesWithoutNeed : MethodName := ⟨RX3, "zonesWithoutNeed", "()I"⟩
abbrev cX3_commonNeed : ByteArray := prog_5_method_21_code
def yX3_commonNeed : MethodName := ⟨RX3, "commonNeed", "(I)I"⟩
abbrev cX3_readStrip : ByteArray := prog_5_method_22_code
def yX3_readStrip : MethodName := ⟨RX3, "readStrip", "(IIII)I"⟩
abbrev cX3_stripTime : ByteArray := prog_5_method_23_code
def yX3_stripTime : MethodName := ⟨RX3, "stripTime", "(II)I"⟩
abbrev cX3_makePlan : ByteArray := prog_5_method_24_code
def yX3_makePlan : MethodName := ⟨RX3, "makePlan", "()V"⟩
abbrev cX3_middleNeed : ByteArray := prog_5_method_25_code
def yX3_middleNeed : MethodName := ⟨RX3, "middleNeed", "()I"⟩
abbrev cX3_sortIn : ByteArray := prog_5_method_26_code
def yX3_sortIn : MethodName := ⟨RX3, "sortIn", "(II)V"⟩
abbrev cX3_correct : ByteArray := prog_5_method_27_code
def yX3_correct : MethodName := ⟨RX3, "correct", "(I)V"⟩
def RX4 : String := "ZonePrint"
def TX4 : u_T := fun k => match k with
  | 0 => ("ZonePrint", "print", "LZonePrint$Print;", true)
  | 1 => ("ZonePrint", "trial", "LZonePrint$Print;", true)
  | 2 => ("ZonePrint", "history", "LZonePrint$History;", true)
  | 3 => ("ZonePrint", "reader", "LZonePrint$OrderReader;", true)
  | 4 => ("ZonePrint", "buffer", "[I", true)
  | _ => ("ZonePrint", "length", "I", false)
def tyX4 : Nat → FieldType := fun k => match k with
  | 0 => .object "ZonePrint$Print"
  | 1 => .object "ZonePrint$Print"
  | 2 => .object "ZonePrint$History"
  | 3 => .object "ZonePrint$OrderReader"
  | 4 => .array .int
  | _ => .int
theorem nmX4 : ∀ a, a < 6 → ∀ b, b < 6 → a ≠ b → (TX4 a).2.1 ≠ (TX4 b).2.1 := by decide +kernel
theorem tyX4_ok : ∀ k, k < 6 → parseFieldDescriptor (TX4 k).2.2.1 = some (tyX4 k) := by decide +kernel
abbrev cX4_init : ByteArray := prog_1_method_1_code
def yX4_init : MethodName := ⟨RX4, "<init>", "()V"⟩
abbrev cX4_zone : ByteArray := prog_1_method_2_code
def yX4_zone : MethodName := ⟨RX4, "zone", "(II)I"⟩
abbrev cX4_want : ByteArray := prog_1_method_3_code
def yX4_want : MethodName := ⟨RX4, "want", "(II)I"⟩
abbrev cX4_link : ByteArray := prog_1_method_4_code
def yX4_link : MethodName := ⟨RX4, "link", "(II)I"⟩
abbrev cX4_expose : ByteArray := prog_1_method_5_code
def yX4_expose : MethodName := ⟨RX4, "expose", "(I)I"⟩
abbrev cX4_burn : ByteArray := prog_1_method_6_code
def yX4_burn : MethodName := ⟨RX4, "burn", "(II)I"⟩
abbrev cX4_hold : ByteArray := prog_1_method_7_code
def yX4_hold : MethodName := ⟨RX4, "hold", "(II)I"⟩
abbrev cX4_paper : ByteArray := prog_1_method_8_code
def yX4_paper : MethodName := ⟨RX4, "paper", "(II)I"⟩
abbrev cX4_plan : ByteArray := prog_1_method_9_code
def yX4_plan : MethodName := ⟨RX4, "plan", "()I"⟩
abbrev cX4_set : ByteArray := prog_1_method_10_code
def yX4_set : MethodName := ⟨RX4, "set", "(I)I"⟩
abbrev cX4_append : ByteArray := prog_1_method_11_code
def yX4_append : MethodName := ⟨RX4, "append", "(I)I"⟩
abbrev cX4_clearBuffer : ByteArray := prog_1_method_12_code
def yX4_clearBuffer : MethodName := ⟨RX4, "clearBuffer", "()I"⟩
abbrev cX4_firstError : ByteArray := prog_1_method_13_code
def yX4_firstError : MethodName := ⟨RX4, "firstError", "()I"⟩
abbrev cX4_run : ByteArray := prog_1_method_14_code
def yX4_run : MethodName := ⟨RX4, "run", "()I"⟩
abbrev cX4_undo : ByteArray := prog_1_method_15_code
def yX4_undo : MethodName := ⟨RX4, "undo", "()I"⟩
abbrev cX4_zoneOf : ByteArray := prog_1_method_16_code
def yX4_zoneOf : MethodName := ⟨RX4, "zoneOf", "(II)I"⟩
abbrev cX4_mark : ByteArray := prog_1_method_17_code
def yX4_mark : MethodName := ⟨RX4, "mark", "(I)I"⟩
abbrev cX4_strip : ByteArray := prog_1_method_18_code
def yX4_strip : MethodName := ⟨RX4, "strip", "(IIII)I"⟩
abbrev cX4_count : ByteArray := prog_1_method_19_code
def yX4_count : MethodName := ⟨RX4, "count", "(I)I"⟩
abbrev cX4_ifExposed : ByteArray := prog_1_method_20_code
def yX4_ifExposed : MethodName := ⟨RX4, "ifExposed", "(II)I"⟩
abbrev cX4_bestTime : ByteArray := prog_1_method_21_code
def yX4_bestTime : MethodName := ⟨RX4, "bestTime", "()I"⟩
abbrev cX4_bestGrade : ByteArray := prog_1_method_22_code
def yX4_bestGrade : MethodName := ⟨RX4, "bestGrade", "()I"⟩
abbrev cX4_ifBurned : ByteArray := prog_1_method_23_code
def yX4_ifBurned : MethodName := ⟨RX4, "ifBurned", "(III)I"⟩
abbrev cX4_common : ByteArray := prog_1_method_24_code
def yX4_common : MethodName := ⟨RX4, "common", "(I)I"⟩
abbrev cX4_rightShare : ByteArray := prog_1_method_25_code
def yX4_rightShare : MethodName := ⟨RX4, "rightShare", "()D"⟩
abbrev cX4_digest : ByteArray := prog_1_method_26_code
def yX4_digest : MethodName := ⟨RX4, "digest", "()J"⟩
abbrev cX4_mixed : ByteArray := prog_1_method_27_code
def yX4_mixed : MethodName := ⟨RX4, "mixed", "(JJ)J"⟩
abbrev cX4_bitsOf : ByteArray := prog_1_method_28_code
def yX4_bitsOf : MethodName := ⟨RX4, "bitsOf", "(D)J"⟩
abbrev cX4_isWithin : ByteArray := prog_1_method_29_code
def yX4_isWithin : MethodName := ⟨RX4, "isWithin", "(III)Z"⟩
abbrev cX4_numberOf : ByteArray := prog_1_method_30_code
def yX4_numberOf : MethodName := ⟨RX4, "numberOf", "(I)I"⟩
abbrev cX4_tryTime : ByteArray := prog_1_method_31_code
def yX4_tryTime : MethodName := ⟨RX4, "tryTime", "(II)I"⟩
abbrev cX4_tryBurn : ByteArray := prog_1_method_32_code
def yX4_tryBurn : MethodName := ⟨RX4, "tryBurn", "(III)I"⟩
abbrev cX4_doOrders : ByteArray := prog_1_method_33_code
def yX4_doOrders : MethodName := ⟨RX4, "doOrders", "()I"⟩
abbrev cX4_isLastOfOrder : ByteArray := prog_1_method_34_code
def yX4_isLastOfOrder : MethodName := ⟨RX4, "isLastOfOrder", "(I)Z"⟩
abbrev cX4_doOrder : ByteArray := prog_1_method_35_code
def yX4_doOrder : MethodName := ⟨RX4, "doOrder", "()Z"⟩
def RX5 : String := "ZonePrintModel"
def TX5 : u_T := fun k => match k with
  | 0 => ("ZonePrintModel", "thrown", "I", false)
  | 1 => ("ZonePrintModel", "s", "[I", true)
  | 2 => ("ZonePrintModel", "aside", "[I", true)
  | 3 => ("ZonePrintModel", "saved", "[I", true)
  | 4 => ("ZonePrintModel", "savedMany", "I", false)
  | 5 => ("ZonePrintModel", "text", "[I", true)
  | 6 => ("ZonePrintModel", "length", "I", false)
  | 7 => ("ZonePrintModel", "marks", "[I", true)
  | 8 => ("ZonePrintModel", "leasts", "[I", true)
  | 9 => ("ZonePrintModel", "at", "I", false)
  | 10 => ("ZonePrintModel", "isWrong", "Z", false)
  | 11 => ("ZonePrintModel", "letter", "I", false)
  | 12 => ("ZonePrintModel", "one", "I", false)
  | 13 => ("ZonePrintModel", "two", "I", false)
  | _ => ("ZonePrintModel", "digested", "J", false)
def tyX5 : Nat → FieldType := fun k => match k with
  | 0 => .int
  | 1 => .array .int
  | 2 => .array .int
  | 3 => .array .int
  | 4 => .int
  | 5 => .array .int
  | 6 => .int
  | 7 => .array .int
  | 8 => .array .int
  | 9 => .int
  | 10 => .boolean
  | 11 => .int
  | 12 => .int
  | 13 => .int
  | _ => .long
theorem nmX5 : ∀ a, a < 15 → ∀ b, b < 15 → a ≠ b → (TX5 a).2.1 ≠ (TX5 b).2.1 := by decide +kernel
theorem tyX5_ok : ∀ k, k < 15 → parseFieldDescriptor (TX5 k).2.2.1 = some (tyX5 k) := by decide +kernel
abbrev cX5_init : ByteArray := prog_7_method_1_code
def yX5_init : MethodName := ⟨RX5, "<init>", "()V"⟩
abbrev cX5_thrown : ByteArray := prog_7_method_2_code
def yX5_thrown : MethodName := ⟨RX5, "thrown", "()I"⟩
abbrev cX5_in : ByteArray := prog_7_method_3_code
def yX5_in : MethodName := ⟨RX5, "in", "(III)Z"⟩
abbrev cX5_holds : ByteArray := prog_7_method_4_code
def yX5_holds : MethodName := ⟨RX5, "holds", "(I)Z"⟩
abbrev cX5_of : ByteArray := prog_7_method_5_code
def yX5_of : MethodName := ⟨RX5, "of", "(II)I"⟩
abbrev cX5_isZone : ByteArray := prog_7_method_6_code
def yX5_isZone : MethodName := ⟨RX5, "isZone", "(I)Z"⟩
abbrev cX5_save : ByteArray := prog_7_method_7_code
def yX5_save : MethodName := ⟨RX5, "save", "()V"⟩
abbrev cX5_putAside : ByteArray := prog_7_method_8_code
def yX5_putAside : MethodName := ⟨RX5, "putAside", "()V"⟩
abbrev cX5_putBack : ByteArray := prog_7_method_9_code
def yX5_putBack : MethodName := ⟨RX5, "putBack", "()V"⟩
abbrev cX5_lightOf : ByteArray := prog_7_method_10_code
def yX5_lightOf : MethodName := ⟨RX5, "lightOf", "(II)I"⟩
abbrev cX5_findMarks : ByteArray := prog_7_method_11_code
def yX5_findMarks : MethodName := ⟨RX5, "findMarks", "()V"⟩
abbrev cX5_toneOf : ByteArray := prog_7_method_12_code
def yX5_toneOf : MethodName := ⟨RX5, "toneOf", "(I)I"⟩
abbrev cX5_toneBy : ByteArray := prog_7_method_13_code
def yX5_toneBy : MethodName := ⟨RX5, "toneBy", "(II)I"⟩
abbrev cX5_spilled : ByteArray := prog_7_method_14_code
def yX5_spilled : MethodName := ⟨RX5, "spilled", "(I)I"⟩
abbrev cX5_timeOf : ByteArray := prog_7_method_15_code
def yX5_timeOf : MethodName := ⟨RX5, "timeOf", "(I)I"⟩
abbrev cX5_tone : ByteArray := prog_7_method_16_code
def yX5_tone : MethodName := ⟨RX5, "tone", "(I)I"⟩
abbrev cX5_isRight : ByteArray := prog_7_method_17_code
def yX5_isRight : MethodName := ⟨RX5, "isRight", "(I)Z"⟩
abbrev cX5_right : ByteArray := prog_7_method_18_code
def yX5_right : MethodName := ⟨RX5, "right", "()I"⟩
abbrev cX5_leastFor : ByteArray := prog_7_method_19_code
def yX5_leastFor : MethodName := ⟨RX5, "leastFor", "(II)I"⟩
abbrev cX5_leastNeeded : ByteArray := prog_7_method_20_code
def yX5_leastNeeded : MethodName := ⟨RX5, "leastNeeded", "(I)I"⟩
abbrev cX5_greatestNeeded : ByteArray := prog_7_method_21_code
def yX5_greatestNeeded : MethodName := ⟨RX5, "greatestNeeded", "(I)I"⟩
abbrev cX5_zones : ByteArray := prog_7_method_22_code
def yX5_zones : MethodName := ⟨RX5, "zones", "(II)I"⟩
abbrev cX5_zoneFault : ByteArray := prog_7_method_23_code
def yX5_zoneFault : MethodName := ⟨RX5, "zoneFault", "(II)I"⟩
abbrev cX5_zone : ByteArray := prog_7_method_24_code
def yX5_zone : MethodName := ⟨RX5, "zone", "(II)I"⟩
abbrev cX5_want : ByteArray := prog_7_method_25_code
def yX5_want : MethodName := ⟨RX5, "want", "(II)I"⟩
abbrev cX5_areLinked : ByteArray := prog_7_method_26_code
def yX5_areLinked : MethodName := ⟨RX5, "areLinked", "(II)Z"⟩
abbrev cX5_turnLink : ByteArray := prog_7_method_27_code
def yX5_turnLink : MethodName := ⟨RX5, "turnLink", "(II)V"⟩
abbrev cX5_link : ByteArray := prog_7_method_28_code
def yX5_link : MethodName := ⟨RX5, "link", "(II)I"⟩
abbrev cX5_exposes : ByteArray := prog_7_method_29_code
def yX5_exposes : MethodName := ⟨RX5, "exposes", "(I)I"⟩
abbrev cX5_expose : ByteArray := prog_7_method_30_code
def yX5_expose : MethodName := ⟨RX5, "expose", "(I)I"⟩
abbrev cX5_partFault : ByteArray := prog_7_method_31_code
def yX5_partFault : MethodName := ⟨RX5, "partFault", "(II)I"⟩
abbrev cX5_parts : ByteArray := prog_7_method_32_code
def yX5_parts : MethodName := ⟨RX5, "parts", "(III)I"⟩
abbrev cX5_burn : ByteArray := prog_7_method_33_code
def yX5_burn : MethodName := ⟨RX5, "burn", "(II)I"⟩
abbrev cX5_hold : ByteArray := prog_7_method_34_code
def yX5_hold : MethodName := ⟨RX5, "hold", "(II)I"⟩
abbrev cX5_paper : ByteArray := prog_7_method_35_code
def yX5_paper : MethodName := ⟨RX5, "paper", "(II)I"⟩
abbrev cX5_middleTime : ByteArray := prog_7_method_36_code
def yX5_middleTime : MethodName := ⟨RX5, "middleTime", "()I"⟩
abbrev cX5_plans : ByteArray := prog_7_method_37_code
def yX5_plans : MethodName := ⟨RX5, "plans", "()I"⟩
abbrev cX5_plan : ByteArray := prog_7_method_38_code
def yX5_plan : MethodName := ⟨RX5, "plan", "()I"⟩
abbrev cX5_set : ByteArray := prog_7_method_39_code
def yX5_set : MethodName := ⟨RX5, "set", "(I)I"⟩
abbrev cX5_append : ByteArray := prog_7_method_40_code
def yX5_append : MethodName := ⟨RX5, "append", "(I)I"⟩
abbrev cX5_clearBuffer : ByteArray := prog_7_method_41_code
def yX5_clearBuffer : MethodName := ⟨RX5, "clearBuffer", "()I"⟩
abbrev cX5_sign : ByteArray := prog_7_method_42_code
def yX5_sign : MethodName := ⟨RX5, "sign", "(II)I"⟩
abbrev cX5_number : ByteArray := prog_7_method_43_code
def yX5_number : MethodName := ⟨RX5, "number", "(II)I"⟩
abbrev cX5_order : ByteArray := prog_7_method_44_code
def yX5_order : MethodName := ⟨RX5, "order", "()V"⟩
abbrev cX5_does : ByteArray := prog_7_method_45_code
def yX5_does : MethodName := ⟨RX5, "does", "()Z"⟩
abbrev cX5_go : ByteArray := prog_7_method_46_code
def yX5_go : MethodName := ⟨RX5, "go", "(Z)I"⟩
abbrev cX5_firstError : ByteArray := prog_7_method_47_code
def yX5_firstError : MethodName := ⟨RX5, "firstError", "()I"⟩
abbrev cX5_run : ByteArray := prog_7_method_48_code
def yX5_run : MethodName := ⟨RX5, "run", "()I"⟩
abbrev cX5_undo : ByteArray := prog_7_method_49_code
def yX5_undo : MethodName := ⟨RX5, "undo", "()I"⟩
abbrev cX5_ofZone : ByteArray := prog_7_method_50_code
def yX5_ofZone : MethodName := ⟨RX5, "ofZone", "(II)I"⟩
abbrev cX5_zoneOf : ByteArray := prog_7_method_51_code
def yX5_zoneOf : MethodName := ⟨RX5, "zoneOf", "(II)I"⟩
abbrev cX5_markOf : ByteArray := prog_7_method_52_code
def yX5_markOf : MethodName := ⟨RX5, "markOf", "(I)I"⟩
abbrev cX5_mark : ByteArray := prog_7_method_53_code
def yX5_mark : MethodName := ⟨RX5, "mark", "(I)I"⟩
abbrev cX5_stripTime : ByteArray := prog_7_method_54_code
def yX5_stripTime : MethodName := ⟨RX5, "stripTime", "(II)I"⟩
abbrev cX5_stripOf : ByteArray := prog_7_method_55_code
def yX5_stripOf : MethodName := ⟨RX5, "stripOf", "(IIII)I"⟩
abbrev cX5_strip : ByteArray := prog_7_method_56_code
def yX5_strip : MethodName := ⟨RX5, "strip", "(IIII)I"⟩
abbrev cX5_sum : ByteArray := prog_7_method_57_code
def yX5_sum : MethodName := ⟨RX5, "sum", "(I)I"⟩
abbrev cX5_counted : ByteArray := prog_7_method_58_code
def yX5_counted : MethodName := ⟨RX5, "counted", "(I)I"⟩
abbrev cX5_count : ByteArray := prog_7_method_59_code
def yX5_count : MethodName := ⟨RX5, "count", "(I)I"⟩
abbrev cX5_off : ByteArray := prog_7_method_60_code
def yX5_off : MethodName := ⟨RX5, "off", "()I"⟩
abbrev cX5_exposed : ByteArray := prog_7_method_61_code
def yX5_exposed : MethodName := ⟨RX5, "exposed", "(II)I"⟩
abbrev cX5_ifExposed : ByteArray := prog_7_method_62_code
def yX5_ifExposed : MethodName := ⟨RX5, "ifExposed", "(II)I"⟩
abbrev cX5_best : ByteArray := prog_7_method_63_code
def yX5_best : MethodName := ⟨RX5, "best", "()I"⟩
abbrev cX5_bestTime : ByteArray := prog_7_method_64_code
def yX5_bestTime : MethodName := ⟨RX5, "bestTime", "()I"⟩
abbrev cX5_bestPaper : ByteArray := prog_7_method_65_code
def yX5_bestPaper : MethodName := ⟨RX5, "bestPaper", "()I"⟩
abbrev cX5_bestGrade : ByteArray := prog_7_method_66_code
def yX5_bestGrade : MethodName := ⟨RX5, "bestGrade", "()I"⟩
abbrev cX5_burned : ByteArray := prog_7_method_67_code
def yX5_burned : MethodName := ⟨RX5, "burned", "(III)I"⟩
abbrev cX5_ifBurned : ByteArray := prog_7_method_68_code
def yX5_ifBurned : MethodName := ⟨RX5, "ifBurned", "(III)I"⟩
abbrev cX5_together : ByteArray := prog_7_method_69_code
def yX5_together : MethodName := ⟨RX5, "together", "(I)I"⟩
abbrev cX5_common : ByteArray := prog_7_method_70_code
def yX5_common : MethodName := ⟨RX5, "common", "(I)I"⟩
abbrev cX5_share : ByteArray := prog_7_method_71_code
def yX5_share : MethodName := ⟨RX5, "share", "()D"⟩
abbrev cX5_rightShare : ByteArray := prog_7_method_72_code
def yX5_rightShare : MethodName := ⟨RX5, "rightShare", "()D"⟩
abbrev cX5_bitsOf : ByteArray := prog_7_method_73_code
def yX5_bitsOf : MethodName := ⟨RX5, "bitsOf", "(D)J"⟩
abbrev cX5_digestOne : ByteArray := prog_7_method_74_code
def yX5_digestOne : MethodName := ⟨RX5, "digestOne", "(J)V"⟩
abbrev cX5_digest : ByteArray := prog_7_method_75_code
def yX5_digest : MethodName := ⟨RX5, "digest", "()J"⟩
def RJ6 : String := "java/lang/Integer"
abbrev cJ6_compare_7cf53 : ByteArray := prog_12_method_40_code
def yJ6_compare_7cf53 : MethodName := ⟨RJ6, "compare", "(II)I"⟩
abbrev cJ6_bitCount_0f7a4 : ByteArray := prog_12_method_49_code
def yJ6_bitCount_0f7a4 : MethodName := ⟨RJ6, "bitCount", "(I)I"⟩
def RJ9 : String := "java/lang/Math"
abbrev cJ9_floorMod_7cf53 : ByteArray := prog_13_method_50_code
def yJ9_floorMod_7cf53 : MethodName := ⟨RJ9, "floorMod", "(II)I"⟩
abbrev cJ9_abs_0f7a4 : ByteArray := prog_13_method_59_code
def yJ9_abs_0f7a4 : MethodName := ⟨RJ9, "abs", "(I)I"⟩
abbrev cJ9_max_7cf53 : ByteArray := prog_13_method_65_code
def yJ9_max_7cf53 : MethodName := ⟨RJ9, "max", "(II)I"⟩
abbrev cJ9_max_f86c9 : ByteArray := prog_13_method_66_code
def yJ9_max_f86c9 : MethodName := ⟨RJ9, "max", "(JJ)J"⟩
abbrev cJ9_min_7cf53 : ByteArray := prog_13_method_69_code
def yJ9_min_7cf53 : MethodName := ⟨RJ9, "min", "(II)I"⟩
abbrev cJ9_min_f86c9 : ByteArray := prog_13_method_70_code
def yJ9_min_f86c9 : MethodName := ⟨RJ9, "min", "(JJ)J"⟩
def RJ0 : String := "java/lang/String"
def RL : String := "ZonePrintLaw"
abbrev cL_zone : ByteArray := method_3_code
def yL_zone : MethodName := ⟨RL, "zone", "(LZonePrint;II[J)I"⟩
abbrev cL_want : ByteArray := method_4_code
def yL_want : MethodName := ⟨RL, "want", "(LZonePrint;II[J)I"⟩
abbrev cL_link : ByteArray := method_5_code
def yL_link : MethodName := ⟨RL, "link", "(LZonePrint;II[J)I"⟩
abbrev cL_expose : ByteArray := method_6_code
def yL_expose : MethodName := ⟨RL, "expose", "(LZonePrint;I[J)I"⟩
abbrev cL_burn : ByteArray := method_7_code
def yL_burn : MethodName := ⟨RL, "burn", "(LZonePrint;II[J)I"⟩
abbrev cL_hold : ByteArray := method_8_code
def yL_hold : MethodName := ⟨RL, "hold", "(LZonePrint;II[J)I"⟩
abbrev cL_paper : ByteArray := method_9_code
def yL_paper : MethodName := ⟨RL, "paper", "(LZonePrint;II[J)I"⟩
abbrev cL_set : ByteArray := method_10_code
def yL_set : MethodName := ⟨RL, "set", "(LZonePrint;I[J)I"⟩
abbrev cL_append : ByteArray := method_11_code
def yL_append : MethodName := ⟨RL, "append", "(LZonePrint;I[J)I"⟩
abbrev cL_run : ByteArray := method_12_code
def yL_run : MethodName := ⟨RL, "run", "(LZonePrint;[J)I"⟩
abbrev cL_undo : ByteArray := method_13_code
def yL_undo : MethodName := ⟨RL, "undo", "(LZonePrint;[J)I"⟩
abbrev cL_zoneOf : ByteArray := method_14_code
def yL_zoneOf : MethodName := ⟨RL, "zoneOf", "(LZonePrint;II[J)I"⟩
abbrev cL_mark : ByteArray := method_15_code
def yL_mark : MethodName := ⟨RL, "mark", "(LZonePrint;I[J)I"⟩
abbrev cL_strip : ByteArray := method_16_code
def yL_strip : MethodName := ⟨RL, "strip", "(LZonePrint;IIII[J)I"⟩
abbrev cL_count : ByteArray := method_17_code
def yL_count : MethodName := ⟨RL, "count", "(LZonePrint;I[J)I"⟩
abbrev cL_ifExposed : ByteArray := method_18_code
def yL_ifExposed : MethodName := ⟨RL, "ifExposed", "(LZonePrint;II[J)I"⟩
abbrev cL_ifBurned : ByteArray := method_19_code
def yL_ifBurned : MethodName := ⟨RL, "ifBurned", "(LZonePrint;III[J)I"⟩
abbrev cL_common : ByteArray := method_20_code
def yL_common : MethodName := ⟨RL, "common", "(LZonePrint;I[J)I"⟩
abbrev cL_law : ByteArray := code
def yL_law : MethodName := ⟨RL, "law", "([I)Z"⟩
abbrev vwCl : List vw_C := [(RX0, TX0, 3), (RX1, TX1, 4), (RX2, TX2, 3), (RX3, TX3, 10), (RX4, TX4, 6), (RX5, TX5, 15)]
end
section
def zTbl : List Cond := lw_tbl.filter goodWord
theorem zTbl_in : ∀ w ∈ zTbl, w ∈ lw_tbl := fun _ h => (List.mem_filter.mp h).1
theorem zTbl_good : ∀ w ∈ zTbl, goodWord w = true := fun _ h => (List.mem_filter.mp h).2
theorem zq0 {w : Cond} (h : w ∈ k2_sels lw_privs) (g : goodWord w = true) : w ∈ zTbl := List.mem_filter.mpr ⟨List.mem_append_left _ h, g⟩
theorem zq1_in {w : Cond} (h : w ∈ tables_1_1) : w ∈ lw_tbl := List.mem_append_right _ (show w ∈ tables_1 from List.mem_append_left _ h)
theorem zq1 {w : Cond} (h : w ∈ tables_1_1) (g : goodWord w = true) : w ∈ zTbl := List.mem_filter.mpr ⟨zq1_in h, g⟩
theorem zq2_in {w : Cond} (h : w ∈ tables_1_2) : w ∈ lw_tbl := List.mem_append_right _ (show w ∈ tables_1 from List.mem_append_right _ (List.mem_append_left _ h))
theorem zq2 {w : Cond} (h : w ∈ tables_1_2) (g : goodWord w = true) : w ∈ zTbl := List.mem_filter.mpr ⟨zq2_in h, g⟩
theorem zq3_in {w : Cond} (h : w ∈ tables_1_3) : w ∈ lw_tbl := List.mem_append_right _ (show w ∈ tables_1 from List.mem_append_right _ (List.mem_append_right _ (List.mem_append_left _ h)))
theorem zq3 {w : Cond} (h : w ∈ tables_1_3) (g : goodWord w = true) : w ∈ zTbl := List.mem_filter.mpr ⟨zq3_in h, g⟩
theorem zq4_in {w : Cond} (h : w ∈ tables_1_4) : w ∈ lw_tbl := List.mem_append_right _ (show w ∈ tables_1 from List.mem_append_right _ (List.mem_append_right _ (List.mem_append_right _ (List.mem_append_left _ h))))
theorem zq4 {w : Cond} (h : w ∈ tables_1_4) (g : goodWord w = true) : w ∈ zTbl := List.mem_filter.mpr ⟨zq4_in h, g⟩
theorem zq5_in {w : Cond} (h : w ∈ tables_1_5) : w ∈ lw_tbl := List.mem_append_right _ (show w ∈ tables_1 from List.mem_append_right _ (List.mem_append_right _ (List.mem_append_right _ (List.mem_append_right _ h))))
theorem zq5 {w : Cond} (h : w ∈ tables_1_5) (g : goodWord w = true) : w ∈ zTbl := List.mem_filter.mpr ⟨zq5_in h, g⟩
theorem zs_X3_middleNeed : Cond.selects RX3 yX3_middleNeed yX3_middleNeed ∈ zTbl := zq0 (List.mem_of_getElem? (i := 0) rfl) rfl
theorem zs_X3_sortIn : Cond.selects RX3 yX3_sortIn yX3_sortIn ∈ zTbl := zq0 (List.mem_of_getElem? (i := 1) rfl) rfl
theorem zs_X3_correct : Cond.selects RX3 yX3_correct yX3_correct ∈ zTbl := zq0 (List.mem_of_getElem? (i := 2) rfl) rfl
theorem zs_X1_acceptsLetter : Cond.selects RX1 yX1_acceptsLetter yX1_acceptsLetter ∈ zTbl := zq0 (List.mem_of_getElem? (i := 3) rfl) rfl
theorem zs_X1_acceptsFirst : Cond.selects RX1 yX1_acceptsFirst yX1_acceptsFirst ∈ zTbl := zq0 (List.mem_of_getElem? (i := 4) rfl) rfl
theorem zs_X1_separator : Cond.selects RX1 yX1_separator yX1_separator ∈ zTbl := zq0 (List.mem_of_getElem? (i := 5) rfl) rfl
theorem zs_X1_mostFirst : Cond.selects RX1 yX1_mostFirst yX1_mostFirst ∈ zTbl := zq0 (List.mem_of_getElem? (i := 6) rfl) rfl
theorem zs_X1_acceptsLast : Cond.selects RX1 yX1_acceptsLast yX1_acceptsLast ∈ zTbl := zq0 (List.mem_of_getElem? (i := 7) rfl) rfl
theorem zs_X1_leastLast : Cond.selects RX1 yX1_leastLast yX1_leastLast ∈ zTbl := zq0 (List.mem_of_getElem? (i := 8) rfl) rfl
theorem zs_X1_mostLast : Cond.selects RX1 yX1_mostLast yX1_mostLast ∈ zTbl := zq0 (List.mem_of_getElem? (i := 9) rfl) rfl
theorem zs_X4_numberOf : Cond.selects RX4 yX4_numberOf yX4_numberOf ∈ zTbl := zq0 (List.mem_of_getElem? (i := 10) rfl) rfl
theorem zs_X4_tryBurn : Cond.selects RX4 yX4_tryBurn yX4_tryBurn ∈ zTbl := zq0 (List.mem_of_getElem? (i := 11) rfl) rfl
theorem zs_X4_tryTime : Cond.selects RX4 yX4_tryTime yX4_tryTime ∈ zTbl := zq0 (List.mem_of_getElem? (i := 12) rfl) rfl
theorem zs_X4_doOrders : Cond.selects RX4 yX4_doOrders yX4_doOrders ∈ zTbl := zq0 (List.mem_of_getElem? (i := 14) rfl) rfl
theorem zs_X4_isLastOfOrder : Cond.selects RX4 yX4_isLastOfOrder yX4_isLastOfOrder ∈ zTbl := zq0 (List.mem_of_getElem? (i := 15) rfl) rfl
theorem zs_X4_doOrder : Cond.selects RX4 yX4_doOrder yX4_doOrder ∈ zTbl := zq0 (List.mem_of_getElem? (i := 16) rfl) rfl
theorem zs_X5_zoneFault : Cond.selects RX5 yX5_zoneFault yX5_zoneFault ∈ zTbl := zq0 (List.mem_of_getElem? (i := 17) rfl) rfl
theorem zs_X5_holds : Cond.selects RX5 yX5_holds yX5_holds ∈ zTbl := zq0 (List.mem_of_getElem? (i := 18) rfl) rfl
theorem zs_X5_save : Cond.selects RX5 yX5_save yX5_save ∈ zTbl := zq0 (List.mem_of_getElem? (i := 19) rfl) rfl
theorem zs_X5_zones : Cond.selects RX5 yX5_zones yX5_zones ∈ zTbl := zq0 (List.mem_of_getElem? (i := 20) rfl) rfl
theorem zs_X5_isZone : Cond.selects RX5 yX5_isZone yX5_isZone ∈ zTbl := zq0 (List.mem_of_getElem? (i := 21) rfl) rfl
theorem zs_X5_turnLink : Cond.selects RX5 yX5_turnLink yX5_turnLink ∈ zTbl := zq0 (List.mem_of_getElem? (i := 22) rfl) rfl
theorem zs_X5_areLinked : Cond.selects RX5 yX5_areLinked yX5_areLinked ∈ zTbl := zq0 (List.mem_of_getElem? (i := 23) rfl) rfl
theorem zs_X5_exposes : Cond.selects RX5 yX5_exposes yX5_exposes ∈ zTbl := zq0 (List.mem_of_getElem? (i := 24) rfl) rfl
theorem zs_X5_right : Cond.selects RX5 yX5_right yX5_right ∈ zTbl := zq0 (List.mem_of_getElem? (i := 25) rfl) rfl
theorem zs_X5_isRight : Cond.selects RX5 yX5_isRight yX5_isRight ∈ zTbl := zq0 (List.mem_of_getElem? (i := 26) rfl) rfl
theorem zs_X5_tone : Cond.selects RX5 yX5_tone yX5_tone ∈ zTbl := zq0 (List.mem_of_getElem? (i := 27) rfl) rfl
theorem zs_X5_timeOf : Cond.selects RX5 yX5_timeOf yX5_timeOf ∈ zTbl := zq0 (List.mem_of_getElem? (i := 28) rfl) rfl
theorem zs_X5_spilled : Cond.selects RX5 yX5_spilled yX5_spilled ∈ zTbl := zq0 (List.mem_of_getElem? (i := 29) rfl) rfl
theorem zs_X5_toneBy : Cond.selects RX5 yX5_toneBy yX5_toneBy ∈ zTbl := zq0 (List.mem_of_getElem? (i := 30) rfl) rfl
theorem zs_X5_toneOf : Cond.selects RX5 yX5_toneOf yX5_toneOf ∈ zTbl := zq0 (List.mem_of_getElem? (i := 31) rfl) rfl
theorem zs_X5_findMarks : Cond.selects RX5 yX5_findMarks yX5_findMarks ∈ zTbl := zq0 (List.mem_of_getElem? (i := 32) rfl) rfl
theorem zs_X5_partFault : Cond.selects RX5 yX5_partFault yX5_partFault ∈ zTbl := zq0 (List.mem_of_getElem? (i := 33) rfl) rfl
theorem zs_X5_parts : Cond.selects RX5 yX5_parts yX5_parts ∈ zTbl := zq0 (List.mem_of_getElem? (i := 34) rfl) rfl
theorem zs_X5_plans : Cond.selects RX5 yX5_plans yX5_plans ∈ zTbl := zq0 (List.mem_of_getElem? (i := 35) rfl) rfl
theorem zs_X5_middleTime : Cond.selects RX5 yX5_middleTime yX5_middleTime ∈ zTbl := zq0 (List.mem_of_getElem? (i := 36) rfl) rfl
theorem zs_X5_leastNeeded : Cond.selects RX5 yX5_leastNeeded yX5_leastNeeded ∈ zTbl := zq0 (List.mem_of_getElem? (i := 37) rfl) rfl
theorem zs_X5_leastFor : Cond.selects RX5 yX5_leastFor yX5_leastFor ∈ zTbl := zq0 (List.mem_of_getElem? (i := 38) rfl) rfl
theorem zs_X5_go : Cond.selects RX5 yX5_go yX5_go ∈ zTbl := zq0 (List.mem_of_getElem? (i := 39) rfl) rfl
theorem zs_X5_order : Cond.selects RX5 yX5_order yX5_order ∈ zTbl := zq0 (List.mem_of_getElem? (i := 40) rfl) rfl
theorem zs_X5_number : Cond.selects RX5 yX5_number yX5_number ∈ zTbl := zq0 (List.mem_of_getElem? (i := 41) rfl) rfl
theorem zs_X5_sign : Cond.selects RX5 yX5_sign yX5_sign ∈ zTbl := zq0 (List.mem_of_getElem? (i := 42) rfl) rfl
theorem zs_X5_does : Cond.selects RX5 yX5_does yX5_does ∈ zTbl := zq0 (List.mem_of_getElem? (i := 43) rfl) rfl
theorem zs_X5_ofZone : Cond.selects RX5 yX5_ofZone yX5_ofZone ∈ zTbl := zq0 (List.mem_of_getElem? (i := 44) rfl) rfl
theorem zs_X5_greatestNeeded : Cond.selects RX5 yX5_greatestNeeded yX5_greatestNeeded ∈ zTbl := zq0 (List.mem_of_getElem? (i := 45) rfl) rfl
theorem zs_X5_markOf : Cond.selects RX5 yX5_markOf yX5_markOf ∈ zTbl := zq0 (List.mem_of_getElem? (i := 46) rfl) rfl
theorem zs_X5_stripOf : Cond.selects RX5 yX5_stripOf yX5_stripOf ∈ zTbl := zq0 (List.mem_of_getElem? (i := 47) rfl) rfl
theorem zs_X5_counted : Cond.selects RX5 yX5_counted yX5_counted ∈ zTbl := zq0 (List.mem_of_getElem? (i := 48) rfl) rfl
theorem zs_X5_sum : Cond.selects RX5 yX5_sum yX5_sum ∈ zTbl := zq0 (List.mem_of_getElem? (i := 49) rfl) rfl
theorem zs_X5_exposed : Cond.selects RX5 yX5_exposed yX5_exposed ∈ zTbl := zq0 (List.mem_of_getElem? (i := 50) rfl) rfl
theorem zs_X5_off : Cond.selects RX5 yX5_off yX5_off ∈ zTbl := zq0 (List.mem_of_getElem? (i := 51) rfl) rfl
theorem zs_X5_best : Cond.selects RX5 yX5_best yX5_best ∈ zTbl := zq0 (List.mem_of_getElem? (i := 52) rfl) rfl
theorem zs_X5_bestPaper : Cond.selects RX5 yX5_bestPaper yX5_bestPaper ∈ zTbl := zq0 (List.mem_of_getElem? (i := 53) rfl) rfl
theorem zs_X5_putAside : Cond.selects RX5 yX5_putAside yX5_putAside ∈ zTbl := zq0 (List.mem_of_getElem? (i := 54) rfl) rfl
theorem zs_X5_putBack : Cond.selects RX5 yX5_putBack yX5_putBack ∈ zTbl := zq0 (List.mem_of_getElem? (i := 55) rfl) rfl
theorem zs_X5_burned : Cond.selects RX5 yX5_burned yX5_burned ∈ zTbl := zq0 (List.mem_of_getElem? (i := 56) rfl) rfl
theorem zs_X5_together : Cond.selects RX5 yX5_together yX5_together ∈ zTbl := zq0 (List.mem_of_getElem? (i := 57) rfl) rfl
theorem zs_X5_share : Cond.selects RX5 yX5_share yX5_share ∈ zTbl := zq0 (List.mem_of_getElem? (i := 58) rfl) rfl
theorem zs_X5_digestOne : Cond.selects RX5 yX5_digestOne yX5_digestOne ∈ zTbl := zq0 (List.mem_of_getElem? (i := 59) rfl) rfl
theorem zn_L : Cond.initialized RL ∈ zTbl := zq1 (List.mem_of_getElem? (i := 0) rfl) rfl
theorem zn_X4 : Cond.initialized RX4 ∈ zTbl := zq1 (List.mem_of_getElem? (i := 1) rfl) rfl
theorem zn_X3 : Cond.initialized RX3 ∈ zTbl := zq1 (List.mem_of_getElem? (i := 2) rfl) rfl
theorem zn_X2 : Cond.initialized RX2 ∈ zTbl := zq1 (List.mem_of_getElem? (i := 3) rfl) rfl
theorem zn_J9 : Cond.initialized RJ9 ∈ zTbl := zq1 (List.mem_of_getElem? (i := 4) rfl) rfl
theorem zn_X0 : Cond.initialized RX0 ∈ zTbl := zq1 (List.mem_of_getElem? (i := 5) rfl) rfl
theorem zn_X1 : Cond.initialized RX1 ∈ zTbl := zq1 (List.mem_of_getElem? (i := 6) rfl) rfl
theorem zn_X5 : Cond.initialized RX5 ∈ zTbl := zq1 (List.mem_of_getElem? (i := 7) rfl) rfl
theorem zn_Throwable : Cond.initialized "java/lang/Throwable" ∈ zTbl := zq1 (List.mem_of_getElem? (i := 8) rfl) rfl
theorem zn_Exception : Cond.initialized "java/lang/Exception" ∈ zTbl := zq1 (List.mem_of_getElem? (i := 9) rfl) rfl
theorem zn_RuntimeException : Cond.initialized "java/lang/RuntimeException" ∈ zTbl := zq1 (List.mem_of_getElem? (i := 10) rfl) rfl
theorem zn_IllegalArgumentException : Cond.initialized "java/lang/IllegalArgumentException" ∈ zTbl := zq1 (List.mem_of_getElem? (i := 11) rfl) rfl
theorem zn_IllegalStateException : Cond.initialized "java/lang/IllegalStateException" ∈ zTbl := zq1 (List.mem_of_getElem? (i := 12) rfl) rfl
theorem zn_IndexOutOfBoundsException : Cond.initialized "java/lang/IndexOutOfBoundsException" ∈ zTbl := zq1 (List.mem_of_getElem? (i := 13) rfl) rfl
theorem zn_J6 : Cond.initialized RJ6 ∈ zTbl := zq1 (List.mem_of_getElem? (i := 14) rfl) rfl
theorem zl_L_8 : Cond.classLink RL 8 RX4 ∈ zTbl := zq1 (List.mem_of_getElem? (i := 15) rfl) rfl
theorem zo_X4 : Cond.instantiable RX4 6 ∈ zTbl := zq1 (List.mem_of_getElem? (i := 16) rfl) rfl
theorem zm_L_74 : Cond.methodLink RL 74 yX4_init ∈ zTbl := zq1 (List.mem_of_getElem? (i := 17) rfl) rfl
theorem zi_X4_init : Cond.instanceMethod yX4_init ∈ zTbl := zq1 (List.mem_of_getElem? (i := 18) rfl) rfl
theorem zc_X4_init : Cond.code yX4_init cX4_init 1 (none : Option FieldType) ∈ zTbl := zq1 (List.mem_of_getElem? (i := 19) rfl) rfl
theorem zm_X4_1 : Cond.methodLink RX4 1 objectInit ∈ zTbl := zq1 (List.mem_of_getElem? (i := 20) rfl) rfl
theorem zi_objectInit : Cond.instanceMethod objectInit ∈ zTbl := zq1 (List.mem_of_getElem? (i := 21) rfl) rfl
theorem zc_objectInit : Cond.code objectInit ⟨#[0xb1]⟩ 1 none ∈ zTbl := zq1 (List.mem_of_getElem? (i := 22) rfl) rfl
theorem zl_X4_7 : Cond.classLink RX4 7 RX3 ∈ zTbl := zq1 (List.mem_of_getElem? (i := 23) rfl) rfl
theorem zo_X3 : Cond.instantiable RX3 10 ∈ zTbl := zq1 (List.mem_of_getElem? (i := 24) rfl) rfl
theorem zm_X4_9 : Cond.methodLink RX4 9 yX3_init ∈ zTbl := zq1 (List.mem_of_getElem? (i := 25) rfl) rfl
theorem zi_X3_init : Cond.instanceMethod yX3_init ∈ zTbl := zq1 (List.mem_of_getElem? (i := 26) rfl) rfl
theorem zc_X3_init : Cond.code yX3_init cX3_init 1 (none : Option FieldType) ∈ zTbl := zq1 (List.mem_of_getElem? (i := 27) rfl) rfl
theorem zm_X3_3 : Cond.methodLink RX3 3 objectInit ∈ zTbl := zq1 (List.mem_of_getElem? (i := 28) rfl) rfl
theorem zl_X3_9 : Cond.classLink RX3 9 RX2 ∈ zTbl := zq1 (List.mem_of_getElem? (i := 29) rfl) rfl
theorem zo_X2 : Cond.instantiable RX2 3 ∈ zTbl := zq1 (List.mem_of_getElem? (i := 30) rfl) rfl
theorem zm_X3_11 : Cond.methodLink RX3 11 yX2_init ∈ zTbl := zq1 (List.mem_of_getElem? (i := 31) rfl) rfl
theorem zi_X2_init : Cond.instanceMethod yX2_init ∈ zTbl := zq1 (List.mem_of_getElem? (i := 32) rfl) rfl
theorem zc_X2_init : Cond.code yX2_init cX2_init 1 (none : Option FieldType) ∈ zTbl := zq1 (List.mem_of_getElem? (i := 33) rfl) rfl
theorem zm_X2_3 : Cond.methodLink RX2 3 objectInit ∈ zTbl := zq1 (List.mem_of_getElem? (i := 34) rfl) rfl
theorem zm_X2_15 : Cond.methodLink RX2 15 yX2_take ∈ zTbl := zq1 (List.mem_of_getElem? (i := 35) rfl) rfl
theorem zi_X2_take : Cond.instanceMethod yX2_take ∈ zTbl := zq1 (List.mem_of_getElem? (i := 36) rfl) rfl
theorem zs_X2_take : Cond.selects RX2 yX2_take yX2_take ∈ zTbl := zq1 (List.mem_of_getElem? (i := 37) rfl) rfl
theorem zc_X2_take : Cond.code yX2_take cX2_take 6 (none : Option FieldType) ∈ zTbl := zq1 (List.mem_of_getElem? (i := 38) rfl) rfl
theorem zf_X2_19 : Cond.fieldLink RX2 19 "ZonePrint$Paper" "STEPS" "[I" ∈ zTbl := zq1 (List.mem_of_getElem? (i := 39) rfl) rfl
theorem zk_X2_29 : Cond.constantLong RX2 29 (100) ∈ zTbl := zq1 (List.mem_of_getElem? (i := 41) rfl) rfl
theorem zk_X2_31 : Cond.constantLong RX2 31 (1000) ∈ zTbl := zq1 (List.mem_of_getElem? (i := 42) rfl) rfl
theorem zm_X2_33 : Cond.methodLink RX2 33 yJ9_max_f86c9 ∈ zTbl := zq1 (List.mem_of_getElem? (i := 43) rfl) rfl
theorem zt_J9_max_f86c9 : Cond.static yJ9_max_f86c9 ∈ zTbl := zq1 (List.mem_of_getElem? (i := 44) rfl) rfl
theorem zc_J9_max_f86c9 : Cond.code yJ9_max_f86c9 cJ9_max_f86c9 4 (some FieldType.long) ∈ zTbl := zq1 (List.mem_of_getElem? (i := 45) rfl) rfl
theorem zf_X2_9 : Cond.fieldLink RX2 9 "ZonePrint$Paper" "marks" "[I" ∈ zTbl := zq1 (List.mem_of_getElem? (i := 46) rfl) rfl
theorem zf_X2_22 : Cond.fieldLink RX2 22 "ZonePrint$Paper" "grade" "I" ∈ zTbl := zq1 (List.mem_of_getElem? (i := 48) rfl) rfl
theorem zf_X2_26 : Cond.fieldLink RX2 26 "ZonePrint$Paper" "speed" "I" ∈ zTbl := zq1 (List.mem_of_getElem? (i := 51) rfl) rfl
theorem zy_113 : Cond.laysFinal "ZonePrint$Paper" "ZonePrint$Paper" "marks" "[I" ∈ zTbl := zq1 (List.mem_of_getElem? (i := 53) rfl) rfl
theorem zy_114 : Cond.soleField "ZonePrint$Paper" "marks" ∈ zTbl := zq1 (List.mem_of_getElem? (i := 54) rfl) rfl
theorem zy_115 : Cond.lays "ZonePrint$Paper" "ZonePrint$Paper" "grade" "I" ∈ zTbl := zq1 (List.mem_of_getElem? (i := 55) rfl) rfl
theorem zy_116 : Cond.soleField "ZonePrint$Paper" "grade" ∈ zTbl := zq1 (List.mem_of_getElem? (i := 56) rfl) rfl
theorem zy_117 : Cond.lays "ZonePrint$Paper" "ZonePrint$Paper" "speed" "I" ∈ zTbl := zq1 (List.mem_of_getElem? (i := 57) rfl) rfl
theorem zy_118 : Cond.soleField "ZonePrint$Paper" "speed" ∈ zTbl := zq1 (List.mem_of_getElem? (i := 58) rfl) rfl
theorem za_120 : Cond.arrayClass FieldType.int ∈ zTbl := zq1 (List.mem_of_getElem? (i := 60) rfl) rfl
theorem zf_X3_12 : Cond.fieldLink RX3 12 "ZonePrint$Print" "paper" "LZonePrint$Paper;" ∈ zTbl := zq1 (List.mem_of_getElem? (i := 61) rfl) rfl
theorem zf_X3_18 : Cond.fieldLink RX3 18 "ZonePrint$Print" "densities" "[I" ∈ zTbl := zq1 (List.mem_of_getElem? (i := 63) rfl) rfl
theorem zf_X3_22 : Cond.fieldLink RX3 22 "ZonePrint$Print" "wanteds" "[I" ∈ zTbl := zq1 (List.mem_of_getElem? (i := 64) rfl) rfl
theorem zf_X3_25 : Cond.fieldLink RX3 25 "ZonePrint$Print" "burns" "[I" ∈ zTbl := zq1 (List.mem_of_getElem? (i := 66) rfl) rfl
theorem zf_X3_28 : Cond.fieldLink RX3 28 "ZonePrint$Print" "holds" "[I" ∈ zTbl := zq1 (List.mem_of_getElem? (i := 68) rfl) rfl
theorem zf_X3_31 : Cond.fieldLink RX3 31 "ZonePrint$Print" "neighbours" "[I" ∈ zTbl := zq1 (List.mem_of_getElem? (i := 70) rfl) rfl
theorem zf_X3_34 : Cond.fieldLink RX3 34 "ZonePrint$Print" "sortedNeeds" "[I" ∈ zTbl := zq1 (List.mem_of_getElem? (i := 71) rfl) rfl
theorem zf_X3_37 : Cond.fieldLink RX3 37 "ZonePrint$Print" "zones" "I" ∈ zTbl := zq1 (List.mem_of_getElem? (i := 72) rfl) rfl
theorem zf_X3_41 : Cond.fieldLink RX3 41 "ZonePrint$Print" "time" "I" ∈ zTbl := zq1 (List.mem_of_getElem? (i := 74) rfl) rfl
theorem zf_X3_44 : Cond.fieldLink RX3 44 "ZonePrint$Print" "spill" "I" ∈ zTbl := zq1 (List.mem_of_getElem? (i := 76) rfl) rfl
theorem zy_138 : Cond.laysFinal "ZonePrint$Print" "ZonePrint$Print" "paper" "LZonePrint$Paper;" ∈ zTbl := zq1 (List.mem_of_getElem? (i := 78) rfl) rfl
theorem zy_139 : Cond.soleField "ZonePrint$Print" "paper" ∈ zTbl := zq1 (List.mem_of_getElem? (i := 79) rfl) rfl
theorem zy_140 : Cond.laysFinal "ZonePrint$Print" "ZonePrint$Print" "densities" "[I" ∈ zTbl := zq1 (List.mem_of_getElem? (i := 80) rfl) rfl
theorem zy_141 : Cond.soleField "ZonePrint$Print" "densities" ∈ zTbl := zq1 (List.mem_of_getElem? (i := 81) rfl) rfl
theorem zy_142 : Cond.laysFinal "ZonePrint$Print" "ZonePrint$Print" "wanteds" "[I" ∈ zTbl := zq1 (List.mem_of_getElem? (i := 82) rfl) rfl
theorem zy_143 : Cond.soleField "ZonePrint$Print" "wanteds" ∈ zTbl := zq1 (List.mem_of_getElem? (i := 83) rfl) rfl
theorem zy_144 : Cond.laysFinal "ZonePrint$Print" "ZonePrint$Print" "burns" "[I" ∈ zTbl := zq1 (List.mem_of_getElem? (i := 84) rfl) rfl
theorem zy_145 : Cond.soleField "ZonePrint$Print" "burns" ∈ zTbl := zq1 (List.mem_of_getElem? (i := 85) rfl) rfl
theorem zy_146 : Cond.laysFinal "ZonePrint$Print" "ZonePrint$Print" "holds" "[I" ∈ zTbl := zq1 (List.mem_of_getElem? (i := 86) rfl) rfl
theorem zy_147 : Cond.soleField "ZonePrint$Print" "holds" ∈ zTbl := zq1 (List.mem_of_getElem? (i := 87) rfl) rfl
theorem zy_148 : Cond.laysFinal "ZonePrint$Print" "ZonePrint$Print" "neighbours" "[I" ∈ zTbl := zq1 (List.mem_of_getElem? (i := 88) rfl) rfl
theorem zy_149 : Cond.soleField "ZonePrint$Print" "neighbours" ∈ zTbl := zq1 (List.mem_of_getElem? (i := 89) rfl) rfl
theorem zy_150 : Cond.laysFinal "ZonePrint$Print" "ZonePrint$Print" "sortedNeeds" "[I" ∈ zTbl := zq1 (List.mem_of_getElem? (i := 90) rfl) rfl
theorem zy_151 : Cond.soleField "ZonePrint$Print" "sortedNeeds" ∈ zTbl := zq1 (List.mem_of_getElem? (i := 91) rfl) rfl
theorem zy_152 : Cond.lays "ZonePrint$Print" "ZonePrint$Print" "zones" "I" ∈ zTbl := zq1 (List.mem_of_getElem? (i := 92) rfl) rfl
theorem zy_153 : Cond.soleField "ZonePrint$Print" "zones" ∈ zTbl := zq1 (List.mem_of_getElem? (i := 93) rfl) rfl
theorem zy_154 : Cond.lays "ZonePrint$Print" "ZonePrint$Print" "time" "I" ∈ zTbl := zq1 (List.mem_of_getElem? (i := 94) rfl) rfl
theorem zy_155 : Cond.soleField "ZonePrint$Print" "time" ∈ zTbl := zq1 (List.mem_of_getElem? (i := 95) rfl) rfl
theorem zy_156 : Cond.lays "ZonePrint$Print" "ZonePrint$Print" "spill" "I" ∈ zTbl := zq1 (List.mem_of_getElem? (i := 96) rfl) rfl
theorem zy_157 : Cond.soleField "ZonePrint$Print" "spill" ∈ zTbl := zq1 (List.mem_of_getElem? (i := 97) rfl) rfl
theorem zl_X4_19 : Cond.classLink RX4 19 RX0 ∈ zTbl := zq1 (List.mem_of_getElem? (i := 99) rfl) rfl
theorem zo_X0 : Cond.instantiable RX0 3 ∈ zTbl := zq1 (List.mem_of_getElem? (i := 100) rfl) rfl
theorem zm_X4_21 : Cond.methodLink RX4 21 yX0_init ∈ zTbl := zq1 (List.mem_of_getElem? (i := 101) rfl) rfl
theorem zi_X0_init : Cond.instanceMethod yX0_init ∈ zTbl := zq1 (List.mem_of_getElem? (i := 102) rfl) rfl
theorem zc_X0_init : Cond.code yX0_init cX0_init 2 (none : Option FieldType) ∈ zTbl := zq1 (List.mem_of_getElem? (i := 103) rfl) rfl
theorem zm_X0_3 : Cond.methodLink RX0 3 objectInit ∈ zTbl := zq1 (List.mem_of_getElem? (i := 104) rfl) rfl
theorem zl_X0_9 : Cond.classLink RX0 9 RX3 ∈ zTbl := zq1 (List.mem_of_getElem? (i := 105) rfl) rfl
theorem zm_X0_17 : Cond.methodLink RX0 17 yX3_init ∈ zTbl := zq1 (List.mem_of_getElem? (i := 107) rfl) rfl
theorem zf_X0_11 : Cond.fieldLink RX0 11 "ZonePrint$History" "states" "[LZonePrint$Print;" ∈ zTbl := zq1 (List.mem_of_getElem? (i := 108) rfl) rfl
theorem zf_X0_18 : Cond.fieldLink RX0 18 "ZonePrint$History" "size" "I" ∈ zTbl := zq1 (List.mem_of_getElem? (i := 109) rfl) rfl
theorem zf_X0_22 : Cond.fieldLink RX0 22 "ZonePrint$History" "next" "I" ∈ zTbl := zq1 (List.mem_of_getElem? (i := 110) rfl) rfl
theorem zy_171 : Cond.laysFinal "ZonePrint$History" "ZonePrint$History" "states" "[LZonePrint$Print;" ∈ zTbl := zq1 (List.mem_of_getElem? (i := 111) rfl) rfl
theorem zy_172 : Cond.soleField "ZonePrint$History" "states" ∈ zTbl := zq1 (List.mem_of_getElem? (i := 112) rfl) rfl
theorem zy_173 : Cond.lays "ZonePrint$History" "ZonePrint$History" "size" "I" ∈ zTbl := zq1 (List.mem_of_getElem? (i := 113) rfl) rfl
theorem zy_174 : Cond.soleField "ZonePrint$History" "size" ∈ zTbl := zq1 (List.mem_of_getElem? (i := 114) rfl) rfl
theorem zy_175 : Cond.lays "ZonePrint$History" "ZonePrint$History" "next" "I" ∈ zTbl := zq1 (List.mem_of_getElem? (i := 115) rfl) rfl
theorem zy_176 : Cond.soleField "ZonePrint$History" "next" ∈ zTbl := zq1 (List.mem_of_getElem? (i := 116) rfl) rfl
theorem zl_X4_26 : Cond.classLink RX4 26 RX1 ∈ zTbl := zq1 (List.mem_of_getElem? (i := 118) rfl) rfl
theorem zo_X1 : Cond.instantiable RX1 4 ∈ zTbl := zq1 (List.mem_of_getElem? (i := 119) rfl) rfl
theorem zm_X4_28 : Cond.methodLink RX4 28 yX1_init ∈ zTbl := zq1 (List.mem_of_getElem? (i := 120) rfl) rfl
theorem zi_X1_init : Cond.instanceMethod yX1_init ∈ zTbl := zq1 (List.mem_of_getElem? (i := 121) rfl) rfl
theorem zc_X1_init : Cond.code yX1_init cX1_init 1 (none : Option FieldType) ∈ zTbl := zq1 (List.mem_of_getElem? (i := 122) rfl) rfl
theorem zm_X1_3 : Cond.methodLink RX1 3 objectInit ∈ zTbl := zq1 (List.mem_of_getElem? (i := 123) rfl) rfl
theorem zf_X1_11 : Cond.fieldLink RX1 11 "ZonePrint$OrderReader" "part" "I" ∈ zTbl := zq1 (List.mem_of_getElem? (i := 124) rfl) rfl
theorem zf_X1_15 : Cond.fieldLink RX1 15 "ZonePrint$OrderReader" "kind" "I" ∈ zTbl := zq1 (List.mem_of_getElem? (i := 125) rfl) rfl
theorem zf_X1_18 : Cond.fieldLink RX1 18 "ZonePrint$OrderReader" "first" "I" ∈ zTbl := zq1 (List.mem_of_getElem? (i := 127) rfl) rfl
theorem zf_X1_21 : Cond.fieldLink RX1 21 "ZonePrint$OrderReader" "last" "I" ∈ zTbl := zq1 (List.mem_of_getElem? (i := 129) rfl) rfl
theorem zy_191 : Cond.lays "ZonePrint$OrderReader" "ZonePrint$OrderReader" "part" "I" ∈ zTbl := zq1 (List.mem_of_getElem? (i := 131) rfl) rfl
theorem zy_192 : Cond.soleField "ZonePrint$OrderReader" "part" ∈ zTbl := zq1 (List.mem_of_getElem? (i := 132) rfl) rfl
theorem zy_193 : Cond.lays "ZonePrint$OrderReader" "ZonePrint$OrderReader" "kind" "I" ∈ zTbl := zq1 (List.mem_of_getElem? (i := 133) rfl) rfl
theorem zy_194 : Cond.soleField "ZonePrint$OrderReader" "kind" ∈ zTbl := zq1 (List.mem_of_getElem? (i := 134) rfl) rfl
theorem zy_195 : Cond.lays "ZonePrint$OrderReader" "ZonePrint$OrderReader" "first" "I" ∈ zTbl := zq1 (List.mem_of_getElem? (i := 135) rfl) rfl
theorem zy_196 : Cond.soleField "ZonePrint$OrderReader" "first" ∈ zTbl := zq1 (List.mem_of_getElem? (i := 136) rfl) rfl
theorem zy_197 : Cond.lays "ZonePrint$OrderReader" "ZonePrint$OrderReader" "last" "I" ∈ zTbl := zq1 (List.mem_of_getElem? (i := 137) rfl) rfl
theorem zy_198 : Cond.soleField "ZonePrint$OrderReader" "last" ∈ zTbl := zq1 (List.mem_of_getElem? (i := 138) rfl) rfl
theorem zf_X4_10 : Cond.fieldLink RX4 10 "ZonePrint" "print" "LZonePrint$Print;" ∈ zTbl := zq1 (List.mem_of_getElem? (i := 140) rfl) rfl
theorem zf_X4_16 : Cond.fieldLink RX4 16 "ZonePrint" "trial" "LZonePrint$Print;" ∈ zTbl := zq1 (List.mem_of_getElem? (i := 141) rfl) rfl
theorem zf_X4_22 : Cond.fieldLink RX4 22 "ZonePrint" "history" "LZonePrint$History;" ∈ zTbl := zq1 (List.mem_of_getElem? (i := 142) rfl) rfl
theorem zf_X4_29 : Cond.fieldLink RX4 29 "ZonePrint" "reader" "LZonePrint$OrderReader;" ∈ zTbl := zq1 (List.mem_of_getElem? (i := 143) rfl) rfl
theorem zf_X4_33 : Cond.fieldLink RX4 33 "ZonePrint" "buffer" "[I" ∈ zTbl := zq1 (List.mem_of_getElem? (i := 144) rfl) rfl
theorem zf_X4_37 : Cond.fieldLink RX4 37 "ZonePrint" "length" "I" ∈ zTbl := zq1 (List.mem_of_getElem? (i := 145) rfl) rfl
theorem zy_206 : Cond.laysFinal "ZonePrint" "ZonePrint" "print" "LZonePrint$Print;" ∈ zTbl := zq1 (List.mem_of_getElem? (i := 146) rfl) rfl
theorem zy_207 : Cond.soleField "ZonePrint" "print" ∈ zTbl := zq1 (List.mem_of_getElem? (i := 147) rfl) rfl
theorem zy_208 : Cond.laysFinal "ZonePrint" "ZonePrint" "trial" "LZonePrint$Print;" ∈ zTbl := zq1 (List.mem_of_getElem? (i := 148) rfl) rfl
theorem zy_209 : Cond.soleField "ZonePrint" "trial" ∈ zTbl := zq1 (List.mem_of_getElem? (i := 149) rfl) rfl
theorem zy_210 : Cond.laysFinal "ZonePrint" "ZonePrint" "history" "LZonePrint$History;" ∈ zTbl := zq1 (List.mem_of_getElem? (i := 150) rfl) rfl
theorem zy_211 : Cond.soleField "ZonePrint" "history" ∈ zTbl := zq1 (List.mem_of_getElem? (i := 151) rfl) rfl
theorem zy_212 : Cond.laysFinal "ZonePrint" "ZonePrint" "reader" "LZonePrint$OrderReader;" ∈ zTbl := zq1 (List.mem_of_getElem? (i := 152) rfl) rfl
theorem zy_213 : Cond.soleField "ZonePrint" "reader" ∈ zTbl := zq1 (List.mem_of_getElem? (i := 153) rfl) rfl
theorem zy_214 : Cond.laysFinal "ZonePrint" "ZonePrint" "buffer" "[I" ∈ zTbl := zq1 (List.mem_of_getElem? (i := 154) rfl) rfl
theorem zy_215 : Cond.soleField "ZonePrint" "buffer" ∈ zTbl := zq1 (List.mem_of_getElem? (i := 155) rfl) rfl
theorem zy_216 : Cond.lays "ZonePrint" "ZonePrint" "length" "I" ∈ zTbl := zq1 (List.mem_of_getElem? (i := 156) rfl) rfl
theorem zy_217 : Cond.soleField "ZonePrint" "length" ∈ zTbl := zq1 (List.mem_of_getElem? (i := 157) rfl) rfl
theorem zm_L_106 : Cond.methodLink RL 106 yX4_plan ∈ zTbl := zq1 (List.mem_of_getElem? (i := 159) rfl) rfl
theorem zi_X4_plan : Cond.instanceMethod yX4_plan ∈ zTbl := zq1 (List.mem_of_getElem? (i := 160) rfl) rfl
theorem zs_X4_plan : Cond.selects RX4 yX4_plan yX4_plan ∈ zTbl := zq1 (List.mem_of_getElem? (i := 161) rfl) rfl
theorem zc_X4_plan : Cond.code yX4_plan cX4_plan 1 (some FieldType.int) ∈ zTbl := zq1 (List.mem_of_getElem? (i := 162) rfl) rfl
theorem zm_X4_61 : Cond.methodLink RX4 61 yX0_keep ∈ zTbl := zq1 (List.mem_of_getElem? (i := 163) rfl) rfl
theorem zi_X0_keep : Cond.instanceMethod yX0_keep ∈ zTbl := zq1 (List.mem_of_getElem? (i := 164) rfl) rfl
theorem zs_X0_keep : Cond.selects RX0 yX0_keep yX0_keep ∈ zTbl := zq1 (List.mem_of_getElem? (i := 165) rfl) rfl
theorem zc_X0_keep : Cond.code yX0_keep cX0_keep 3 (none : Option FieldType) ∈ zTbl := zq1 (List.mem_of_getElem? (i := 166) rfl) rfl
theorem zm_X0_25 : Cond.methodLink RX0 25 yJ9_floorMod_7cf53 ∈ zTbl := zq1 (List.mem_of_getElem? (i := 167) rfl) rfl
theorem zt_J9_floorMod_7cf53 : Cond.static yJ9_floorMod_7cf53 ∈ zTbl := zq1 (List.mem_of_getElem? (i := 168) rfl) rfl
theorem zc_J9_floorMod_7cf53 : Cond.code yJ9_floorMod_7cf53 cJ9_floorMod_7cf53 3 (some FieldType.int) ∈ zTbl := zq1 (List.mem_of_getElem? (i := 169) rfl) rfl
theorem zm_X0_31 : Cond.methodLink RX0 31 yX3_copyFrom ∈ zTbl := zq1 (List.mem_of_getElem? (i := 170) rfl) rfl
theorem zi_X3_copyFrom : Cond.instanceMethod yX3_copyFrom ∈ zTbl := zq1 (List.mem_of_getElem? (i := 171) rfl) rfl
theorem zs_X3_copyFrom : Cond.selects RX3 yX3_copyFrom yX3_copyFrom ∈ zTbl := zq1 (List.mem_of_getElem? (i := 172) rfl) rfl
theorem zc_X3_copyFrom : Cond.code yX3_copyFrom cX3_copyFrom 3 (none : Option FieldType) ∈ zTbl := zq1 (List.mem_of_getElem? (i := 173) rfl) rfl
theorem zm_X3_53 : Cond.methodLink RX3 53 yX2_take ∈ zTbl := zq1 (List.mem_of_getElem? (i := 174) rfl) rfl
theorem zm_X0_35 : Cond.methodLink RX0 35 yJ9_min_7cf53 ∈ zTbl := zq1 (List.mem_of_getElem? (i := 175) rfl) rfl
theorem zt_J9_min_7cf53 : Cond.static yJ9_min_7cf53 ∈ zTbl := zq1 (List.mem_of_getElem? (i := 176) rfl) rfl
theorem zc_J9_min_7cf53 : Cond.code yJ9_min_7cf53 cJ9_min_7cf53 2 (some FieldType.int) ∈ zTbl := zq1 (List.mem_of_getElem? (i := 177) rfl) rfl
theorem zm_X4_125 : Cond.methodLink RX4 125 yX3_makePlan ∈ zTbl := zq1 (List.mem_of_getElem? (i := 178) rfl) rfl
theorem zi_X3_makePlan : Cond.instanceMethod yX3_makePlan ∈ zTbl := zq1 (List.mem_of_getElem? (i := 179) rfl) rfl
theorem zs_X3_makePlan : Cond.selects RX3 yX3_makePlan yX3_makePlan ∈ zTbl := zq1 (List.mem_of_getElem? (i := 180) rfl) rfl
theorem zc_X3_makePlan : Cond.code yX3_makePlan cX3_makePlan 3 (none : Option FieldType) ∈ zTbl := zq1 (List.mem_of_getElem? (i := 181) rfl) rfl
theorem zm_X3_116 : Cond.methodLink RX3 116 yX3_middleNeed ∈ zTbl := zq1 (List.mem_of_getElem? (i := 182) rfl) rfl
theorem zi_X3_middleNeed : Cond.instanceMethod yX3_middleNeed ∈ zTbl := zq1 (List.mem_of_getElem? (i := 184) rfl) rfl
theorem zc_X3_middleNeed : Cond.code yX3_middleNeed cX3_middleNeed 4 (some FieldType.int) ∈ zTbl := zq1 (List.mem_of_getElem? (i := 185) rfl) rfl
theorem zm_X3_72 : Cond.methodLink RX3 72 yX3_leastNeed ∈ zTbl := zq1 (List.mem_of_getElem? (i := 186) rfl) rfl
theorem zi_X3_leastNeed : Cond.instanceMethod yX3_leastNeed ∈ zTbl := zq1 (List.mem_of_getElem? (i := 187) rfl) rfl
theorem zs_X3_leastNeed : Cond.selects RX3 yX3_leastNeed yX3_leastNeed ∈ zTbl := zq1 (List.mem_of_getElem? (i := 188) rfl) rfl
theorem zc_X3_leastNeed : Cond.code yX3_leastNeed cX3_leastNeed 4 (some FieldType.int) ∈ zTbl := zq1 (List.mem_of_getElem? (i := 189) rfl) rfl
theorem zm_X3_104 : Cond.methodLink RX3 104 yX2_leastTime ∈ zTbl := zq1 (List.mem_of_getElem? (i := 190) rfl) rfl
theorem zi_X2_leastTime : Cond.instanceMethod yX2_leastTime ∈ zTbl := zq1 (List.mem_of_getElem? (i := 191) rfl) rfl
theorem zs_X2_leastTime : Cond.selects RX2 yX2_leastTime yX2_leastTime ∈ zTbl := zq1 (List.mem_of_getElem? (i := 192) rfl) rfl
theorem zc_X2_leastTime : Cond.code yX2_leastTime cX2_leastTime 6 (some FieldType.int) ∈ zTbl := zq1 (List.mem_of_getElem? (i := 193) rfl) rfl
theorem zf_X2_39 : Cond.fieldLink RX2 39 "ZonePrint$Paper" "THROUGH" "[I" ∈ zTbl := zq1 (List.mem_of_getElem? (i := 194) rfl) rfl
theorem zk_X2_42 : Cond.constantLong RX2 42 (10000) ∈ zTbl := zq1 (List.mem_of_getElem? (i := 196) rfl) rfl
theorem zm_X2_44 : Cond.methodLink RX2 44 yJ9_min_f86c9 ∈ zTbl := zq1 (List.mem_of_getElem? (i := 197) rfl) rfl
theorem zt_J9_min_f86c9 : Cond.static yJ9_min_f86c9 ∈ zTbl := zq1 (List.mem_of_getElem? (i := 198) rfl) rfl
theorem zc_J9_min_f86c9 : Cond.code yJ9_min_f86c9 cJ9_min_f86c9 4 (some FieldType.long) ∈ zTbl := zq1 (List.mem_of_getElem? (i := 199) rfl) rfl
theorem zm_X3_124 : Cond.methodLink RX3 124 yX3_sortIn ∈ zTbl := zq1 (List.mem_of_getElem? (i := 200) rfl) rfl
theorem zi_X3_sortIn : Cond.instanceMethod yX3_sortIn ∈ zTbl := zq1 (List.mem_of_getElem? (i := 202) rfl) rfl
theorem zc_X3_sortIn : Cond.code yX3_sortIn cX3_sortIn 4 (none : Option FieldType) ∈ zTbl := zq1 (List.mem_of_getElem? (i := 203) rfl) rfl
theorem zm_X3_107 : Cond.methodLink RX3 107 yJ9_min_7cf53 ∈ zTbl := zq1 (List.mem_of_getElem? (i := 204) rfl) rfl
theorem zm_X3_120 : Cond.methodLink RX3 120 yX3_correct ∈ zTbl := zq1 (List.mem_of_getElem? (i := 205) rfl) rfl
theorem zi_X3_correct : Cond.instanceMethod yX3_correct ∈ zTbl := zq1 (List.mem_of_getElem? (i := 207) rfl) rfl
theorem zc_X3_correct : Cond.code yX3_correct cX3_correct 4 (none : Option FieldType) ∈ zTbl := zq1 (List.mem_of_getElem? (i := 208) rfl) rfl
theorem zm_X3_90 : Cond.methodLink RX3 90 yX3_tooDarkBy ∈ zTbl := zq1 (List.mem_of_getElem? (i := 209) rfl) rfl
theorem zi_X3_tooDarkBy : Cond.instanceMethod yX3_tooDarkBy ∈ zTbl := zq1 (List.mem_of_getElem? (i := 210) rfl) rfl
theorem zs_X3_tooDarkBy : Cond.selects RX3 yX3_tooDarkBy yX3_tooDarkBy ∈ zTbl := zq1 (List.mem_of_getElem? (i := 211) rfl) rfl
theorem zc_X3_tooDarkBy : Cond.code yX3_tooDarkBy cX3_tooDarkBy 2 (some FieldType.int) ∈ zTbl := zq1 (List.mem_of_getElem? (i := 212) rfl) rfl
theorem zm_X3_61 : Cond.methodLink RX3 61 yX3_timeOf ∈ zTbl := zq1 (List.mem_of_getElem? (i := 213) rfl) rfl
theorem zi_X3_timeOf : Cond.instanceMethod yX3_timeOf ∈ zTbl := zq1 (List.mem_of_getElem? (i := 214) rfl) rfl
theorem zs_X3_timeOf : Cond.selects RX3 yX3_timeOf yX3_timeOf ∈ zTbl := zq1 (List.mem_of_getElem? (i := 215) rfl) rfl
theorem zc_X3_timeOf : Cond.code yX3_timeOf cX3_timeOf 2 (some FieldType.int) ∈ zTbl := zq1 (List.mem_of_getElem? (i := 216) rfl) rfl
theorem zm_X3_81 : Cond.methodLink RX3 81 yJ9_max_7cf53 ∈ zTbl := zq1 (List.mem_of_getElem? (i := 217) rfl) rfl
theorem zt_J9_max_7cf53 : Cond.static yJ9_max_7cf53 ∈ zTbl := zq1 (List.mem_of_getElem? (i := 218) rfl) rfl
theorem zc_J9_max_7cf53 : Cond.code yJ9_max_7cf53 cJ9_max_7cf53 2 (some FieldType.int) ∈ zTbl := zq1 (List.mem_of_getElem? (i := 219) rfl) rfl
theorem zm_X3_78 : Cond.methodLink RX3 78 yX3_spillOnto ∈ zTbl := zq1 (List.mem_of_getElem? (i := 220) rfl) rfl
theorem zi_X3_spillOnto : Cond.instanceMethod yX3_spillOnto ∈ zTbl := zq1 (List.mem_of_getElem? (i := 221) rfl) rfl
theorem zs_X3_spillOnto : Cond.selects RX3 yX3_spillOnto yX3_spillOnto ∈ zTbl := zq1 (List.mem_of_getElem? (i := 222) rfl) rfl
theorem zc_X3_spillOnto : Cond.code yX3_spillOnto cX3_spillOnto 4 (some FieldType.int) ∈ zTbl := zq1 (List.mem_of_getElem? (i := 223) rfl) rfl
theorem zm_X3_86 : Cond.methodLink RX3 86 yX3_toneAfter ∈ zTbl := zq1 (List.mem_of_getElem? (i := 224) rfl) rfl
theorem zi_X3_toneAfter : Cond.instanceMethod yX3_toneAfter ∈ zTbl := zq1 (List.mem_of_getElem? (i := 225) rfl) rfl
theorem zs_X3_toneAfter : Cond.selects RX3 yX3_toneAfter yX3_toneAfter ∈ zTbl := zq1 (List.mem_of_getElem? (i := 226) rfl) rfl
theorem zc_X3_toneAfter : Cond.code yX3_toneAfter cX3_toneAfter 3 (some FieldType.int) ∈ zTbl := zq1 (List.mem_of_getElem? (i := 227) rfl) rfl
theorem zm_X3_65 : Cond.methodLink RX3 65 yX2_lightThrough ∈ zTbl := zq1 (List.mem_of_getElem? (i := 228) rfl) rfl
theorem zt_X2_lightThrough : Cond.static yX2_lightThrough ∈ zTbl := zq1 (List.mem_of_getElem? (i := 229) rfl) rfl
theorem zc_X2_lightThrough : Cond.code yX2_lightThrough cX2_lightThrough 5 (some FieldType.int) ∈ zTbl := zq1 (List.mem_of_getElem? (i := 230) rfl) rfl
theorem zm_X3_89 : Cond.methodLink RX3 89 yX2_toneOf ∈ zTbl := zq1 (List.mem_of_getElem? (i := 231) rfl) rfl
theorem zi_X2_toneOf : Cond.instanceMethod yX2_toneOf ∈ zTbl := zq1 (List.mem_of_getElem? (i := 232) rfl) rfl
theorem zs_X2_toneOf : Cond.selects RX2 yX2_toneOf yX2_toneOf ∈ zTbl := zq1 (List.mem_of_getElem? (i := 233) rfl) rfl
theorem zc_X2_toneOf : Cond.code yX2_toneOf cX2_toneOf 4 (some FieldType.int) ∈ zTbl := zq1 (List.mem_of_getElem? (i := 234) rfl) rfl
theorem zt_X4_isWithin : Cond.static yX4_isWithin ∈ zTbl := zq1 (List.mem_of_getElem? (i := 236) rfl) rfl
theorem zc_X4_isWithin : Cond.code yX4_isWithin cX4_isWithin 3 (some FieldType.boolean) ∈ zTbl := zq1 (List.mem_of_getElem? (i := 237) rfl) rfl
theorem zm_X4_98 : Cond.methodLink RX4 98 yX3_zonesOff ∈ zTbl := zq1 (List.mem_of_getElem? (i := 238) rfl) rfl
theorem zi_X3_zonesOff : Cond.instanceMethod yX3_zonesOff ∈ zTbl := zq1 (List.mem_of_getElem? (i := 239) rfl) rfl
theorem zs_X3_zonesOff : Cond.selects RX3 yX3_zonesOff yX3_zonesOff ∈ zTbl := zq2 (List.mem_of_getElem? (i := 0) rfl) rfl
theorem zc_X3_zonesOff : Cond.code yX3_zonesOff cX3_zonesOff 4 (some FieldType.int) ∈ zTbl := zq2 (List.mem_of_getElem? (i := 1) rfl) rfl
theorem zm_X3_93 : Cond.methodLink RX3 93 yJ6_compare_7cf53 ∈ zTbl := zq2 (List.mem_of_getElem? (i := 2) rfl) rfl
theorem zt_J6_compare_7cf53 : Cond.static yJ6_compare_7cf53 ∈ zTbl := zq2 (List.mem_of_getElem? (i := 3) rfl) rfl
theorem zc_J6_compare_7cf53 : Cond.code yJ6_compare_7cf53 cJ6_compare_7cf53 2 (some FieldType.int) ∈ zTbl := zq2 (List.mem_of_getElem? (i := 4) rfl) rfl
theorem zm_L_116 : Cond.methodLink RL 116 yX4_clearBuffer ∈ zTbl := zq2 (List.mem_of_getElem? (i := 5) rfl) rfl
theorem zi_X4_clearBuffer : Cond.instanceMethod yX4_clearBuffer ∈ zTbl := zq2 (List.mem_of_getElem? (i := 6) rfl) rfl
theorem zs_X4_clearBuffer : Cond.selects RX4 yX4_clearBuffer yX4_clearBuffer ∈ zTbl := zq2 (List.mem_of_getElem? (i := 7) rfl) rfl
theorem zc_X4_clearBuffer : Cond.code yX4_clearBuffer cX4_clearBuffer 2 (some FieldType.int) ∈ zTbl := zq2 (List.mem_of_getElem? (i := 8) rfl) rfl
theorem zm_L_120 : Cond.methodLink RL 120 yX4_firstError ∈ zTbl := zq2 (List.mem_of_getElem? (i := 9) rfl) rfl
theorem zi_X4_firstError : Cond.instanceMethod yX4_firstError ∈ zTbl := zq2 (List.mem_of_getElem? (i := 10) rfl) rfl
theorem zs_X4_firstError : Cond.selects RX4 yX4_firstError yX4_firstError ∈ zTbl := zq2 (List.mem_of_getElem? (i := 11) rfl) rfl
theorem zc_X4_firstError : Cond.code yX4_firstError cX4_firstError 2 (some FieldType.int) ∈ zTbl := zq2 (List.mem_of_getElem? (i := 12) rfl) rfl
theorem zm_X4_137 : Cond.methodLink RX4 137 yX1_restart ∈ zTbl := zq2 (List.mem_of_getElem? (i := 13) rfl) rfl
theorem zi_X1_restart : Cond.instanceMethod yX1_restart ∈ zTbl := zq2 (List.mem_of_getElem? (i := 14) rfl) rfl
theorem zs_X1_restart : Cond.selects RX1 yX1_restart yX1_restart ∈ zTbl := zq2 (List.mem_of_getElem? (i := 15) rfl) rfl
theorem zc_X1_restart : Cond.code yX1_restart cX1_restart 1 (none : Option FieldType) ∈ zTbl := zq2 (List.mem_of_getElem? (i := 16) rfl) rfl
theorem zm_X4_140 : Cond.methodLink RX4 140 yX1_accepts ∈ zTbl := zq2 (List.mem_of_getElem? (i := 17) rfl) rfl
theorem zi_X1_accepts : Cond.instanceMethod yX1_accepts ∈ zTbl := zq2 (List.mem_of_getElem? (i := 18) rfl) rfl
theorem zs_X1_accepts : Cond.selects RX1 yX1_accepts yX1_accepts ∈ zTbl := zq2 (List.mem_of_getElem? (i := 19) rfl) rfl
theorem zc_X1_accepts : Cond.code yX1_accepts cX1_accepts 2 (some FieldType.boolean) ∈ zTbl := zq2 (List.mem_of_getElem? (i := 20) rfl) rfl
theorem zm_X1_24 : Cond.methodLink RX1 24 yX1_acceptsLetter ∈ zTbl := zq2 (List.mem_of_getElem? (i := 21) rfl) rfl
theorem zi_X1_acceptsLetter : Cond.instanceMethod yX1_acceptsLetter ∈ zTbl := zq2 (List.mem_of_getElem? (i := 23) rfl) rfl
theorem zc_X1_acceptsLetter : Cond.code yX1_acceptsLetter cX1_acceptsLetter 2 (some FieldType.boolean) ∈ zTbl := zq2 (List.mem_of_getElem? (i := 24) rfl) rfl
theorem zm_X1_28 : Cond.methodLink RX1 28 yX1_acceptsFirst ∈ zTbl := zq2 (List.mem_of_getElem? (i := 25) rfl) rfl
theorem zi_X1_acceptsFirst : Cond.instanceMethod yX1_acceptsFirst ∈ zTbl := zq2 (List.mem_of_getElem? (i := 27) rfl) rfl
theorem zc_X1_acceptsFirst : Cond.code yX1_acceptsFirst cX1_acceptsFirst 3 (some FieldType.boolean) ∈ zTbl := zq2 (List.mem_of_getElem? (i := 28) rfl) rfl
theorem zm_X1_34 : Cond.methodLink RX1 34 yX1_separator ∈ zTbl := zq2 (List.mem_of_getElem? (i := 29) rfl) rfl
theorem zi_X1_separator : Cond.instanceMethod yX1_separator ∈ zTbl := zq2 (List.mem_of_getElem? (i := 31) rfl) rfl
theorem zc_X1_separator : Cond.code yX1_separator cX1_separator 1 (some FieldType.int) ∈ zTbl := zq2 (List.mem_of_getElem? (i := 32) rfl) rfl
theorem zm_X1_38 : Cond.methodLink RX1 38 yX1_withDigit ∈ zTbl := zq2 (List.mem_of_getElem? (i := 33) rfl) rfl
theorem zt_X1_withDigit : Cond.static yX1_withDigit ∈ zTbl := zq2 (List.mem_of_getElem? (i := 34) rfl) rfl
theorem zc_X1_withDigit : Cond.code yX1_withDigit cX1_withDigit 2 (some FieldType.int) ∈ zTbl := zq2 (List.mem_of_getElem? (i := 35) rfl) rfl
theorem zm_X1_42 : Cond.methodLink RX1 42 yX1_mostFirst ∈ zTbl := zq2 (List.mem_of_getElem? (i := 36) rfl) rfl
theorem zi_X1_mostFirst : Cond.instanceMethod yX1_mostFirst ∈ zTbl := zq2 (List.mem_of_getElem? (i := 38) rfl) rfl
theorem zc_X1_mostFirst : Cond.code yX1_mostFirst cX1_mostFirst 1 (some FieldType.int) ∈ zTbl := zq2 (List.mem_of_getElem? (i := 39) rfl) rfl
theorem zm_X1_31 : Cond.methodLink RX1 31 yX1_acceptsLast ∈ zTbl := zq2 (List.mem_of_getElem? (i := 40) rfl) rfl
theorem zi_X1_acceptsLast : Cond.instanceMethod yX1_acceptsLast ∈ zTbl := zq2 (List.mem_of_getElem? (i := 42) rfl) rfl
theorem zc_X1_acceptsLast : Cond.code yX1_acceptsLast cX1_acceptsLast 3 (some FieldType.boolean) ∈ zTbl := zq2 (List.mem_of_getElem? (i := 43) rfl) rfl
theorem zm_X1_45 : Cond.methodLink RX1 45 yX1_leastLast ∈ zTbl := zq2 (List.mem_of_getElem? (i := 44) rfl) rfl
theorem zi_X1_leastLast : Cond.instanceMethod yX1_leastLast ∈ zTbl := zq2 (List.mem_of_getElem? (i := 46) rfl) rfl
theorem zc_X1_leastLast : Cond.code yX1_leastLast cX1_leastLast 1 (some FieldType.int) ∈ zTbl := zq2 (List.mem_of_getElem? (i := 47) rfl) rfl
theorem zm_X1_48 : Cond.methodLink RX1 48 yX1_mostLast ∈ zTbl := zq2 (List.mem_of_getElem? (i := 48) rfl) rfl
theorem zi_X1_mostLast : Cond.instanceMethod yX1_mostLast ∈ zTbl := zq2 (List.mem_of_getElem? (i := 50) rfl) rfl
theorem zc_X1_mostLast : Cond.code yX1_mostLast cX1_mostLast 1 (some FieldType.int) ∈ zTbl := zq2 (List.mem_of_getElem? (i := 51) rfl) rfl
theorem zm_L_147 : Cond.methodLink RL 147 yX4_bestTime ∈ zTbl := zq2 (List.mem_of_getElem? (i := 52) rfl) rfl
theorem zi_X4_bestTime : Cond.instanceMethod yX4_bestTime ∈ zTbl := zq2 (List.mem_of_getElem? (i := 53) rfl) rfl
theorem zs_X4_bestTime : Cond.selects RX4 yX4_bestTime yX4_bestTime ∈ zTbl := zq2 (List.mem_of_getElem? (i := 54) rfl) rfl
theorem zc_X4_bestTime : Cond.code yX4_bestTime cX4_bestTime 5 (some FieldType.int) ∈ zTbl := zq2 (List.mem_of_getElem? (i := 55) rfl) rfl
theorem zm_X4_189 : Cond.methodLink RX4 189 yX3_copyFrom ∈ zTbl := zq2 (List.mem_of_getElem? (i := 56) rfl) rfl
theorem zm_X4_192 : Cond.methodLink RX4 192 yX3_missedTones ∈ zTbl := zq2 (List.mem_of_getElem? (i := 57) rfl) rfl
theorem zi_X3_missedTones : Cond.instanceMethod yX3_missedTones ∈ zTbl := zq2 (List.mem_of_getElem? (i := 58) rfl) rfl
theorem zs_X3_missedTones : Cond.selects RX3 yX3_missedTones yX3_missedTones ∈ zTbl := zq2 (List.mem_of_getElem? (i := 59) rfl) rfl
theorem zc_X3_missedTones : Cond.code yX3_missedTones cX3_missedTones 3 (some FieldType.int) ∈ zTbl := zq2 (List.mem_of_getElem? (i := 60) rfl) rfl
theorem zm_X3_98 : Cond.methodLink RX3 98 yJ9_abs_0f7a4 ∈ zTbl := zq2 (List.mem_of_getElem? (i := 61) rfl) rfl
theorem zt_J9_abs_0f7a4 : Cond.static yJ9_abs_0f7a4 ∈ zTbl := zq2 (List.mem_of_getElem? (i := 62) rfl) rfl
theorem zc_J9_abs_0f7a4 : Cond.code yJ9_abs_0f7a4 cJ9_abs_0f7a4 1 (some FieldType.int) ∈ zTbl := zq2 (List.mem_of_getElem? (i := 63) rfl) rfl
theorem zm_L_151 : Cond.methodLink RL 151 yX4_bestGrade ∈ zTbl := zq2 (List.mem_of_getElem? (i := 64) rfl) rfl
theorem zi_X4_bestGrade : Cond.instanceMethod yX4_bestGrade ∈ zTbl := zq2 (List.mem_of_getElem? (i := 65) rfl) rfl
theorem zs_X4_bestGrade : Cond.selects RX4 yX4_bestGrade yX4_bestGrade ∈ zTbl := zq2 (List.mem_of_getElem? (i := 66) rfl) rfl
theorem zc_X4_bestGrade : Cond.code yX4_bestGrade cX4_bestGrade 7 (some FieldType.int) ∈ zTbl := zq2 (List.mem_of_getElem? (i := 67) rfl) rfl
theorem zm_X4_119 : Cond.methodLink RX4 119 yX2_take ∈ zTbl := zq2 (List.mem_of_getElem? (i := 68) rfl) rfl
theorem zm_X4_198 : Cond.methodLink RX4 198 yX3_sumOf ∈ zTbl := zq2 (List.mem_of_getElem? (i := 69) rfl) rfl
theorem zi_X3_sumOf : Cond.instanceMethod yX3_sumOf ∈ zTbl := zq2 (List.mem_of_getElem? (i := 70) rfl) rfl
theorem zs_X3_sumOf : Cond.selects RX3 yX3_sumOf yX3_sumOf ∈ zTbl := zq2 (List.mem_of_getElem? (i := 71) rfl) rfl
theorem zc_X3_sumOf : Cond.code yX3_sumOf cX3_sumOf 4 (some FieldType.int) ∈ zTbl := zq2 (List.mem_of_getElem? (i := 72) rfl) rfl
theorem zm_L_162 : Cond.methodLink RL 162 yX4_rightShare ∈ zTbl := zq2 (List.mem_of_getElem? (i := 73) rfl) rfl
theorem zi_X4_rightShare : Cond.instanceMethod yX4_rightShare ∈ zTbl := zq2 (List.mem_of_getElem? (i := 74) rfl) rfl
theorem zs_X4_rightShare : Cond.selects RX4 yX4_rightShare yX4_rightShare ∈ zTbl := zq2 (List.mem_of_getElem? (i := 75) rfl) rfl
theorem zc_X4_rightShare : Cond.code yX4_rightShare cX4_rightShare 1 (some FieldType.double) ∈ zTbl := zq2 (List.mem_of_getElem? (i := 76) rfl) rfl
theorem zm_L_167 : Cond.methodLink RL 167 yX4_digest ∈ zTbl := zq2 (List.mem_of_getElem? (i := 77) rfl) rfl
theorem zi_X4_digest : Cond.instanceMethod yX4_digest ∈ zTbl := zq2 (List.mem_of_getElem? (i := 78) rfl) rfl
theorem zs_X4_digest : Cond.selects RX4 yX4_digest yX4_digest ∈ zTbl := zq2 (List.mem_of_getElem? (i := 79) rfl) rfl
theorem zc_X4_digest : Cond.code yX4_digest cX4_digest 5 (some FieldType.long) ∈ zTbl := zq2 (List.mem_of_getElem? (i := 80) rfl) rfl
theorem zk_X4_216 : Cond.constantLong RX4 216 (2879) ∈ zTbl := zq2 (List.mem_of_getElem? (i := 81) rfl) rfl
theorem zm_X4_181 : Cond.methodLink RX4 181 yX4_numberOf ∈ zTbl := zq2 (List.mem_of_getElem? (i := 82) rfl) rfl
theorem zi_X4_numberOf : Cond.instanceMethod yX4_numberOf ∈ zTbl := zq2 (List.mem_of_getElem? (i := 84) rfl) rfl
theorem zc_X4_numberOf : Cond.code yX4_numberOf cX4_numberOf 2 (some FieldType.int) ∈ zTbl := zq2 (List.mem_of_getElem? (i := 85) rfl) rfl
theorem zm_X4_247 : Cond.methodLink RX4 247 yX3_zonesWithoutNeed ∈ zTbl := zq2 (List.mem_of_getElem? (i := 86) rfl) rfl
theorem zi_X3_zonesWithoutNeed : Cond.instanceMethod yX3_zonesWithoutNeed ∈ zTbl := zq2 (List.mem_of_getElem? (i := 87) rfl) rfl
theorem zs_X3_zonesWithoutNeed : Cond.selects RX3 yX3_zonesWithoutNeed yX3_zonesWithoutNeed ∈ zTbl := zq2 (List.mem_of_getElem? (i := 88) rfl) rfl
theorem zc_X3_zonesWithoutNeed : Cond.code yX3_zonesWithoutNeed cX3_zonesWithoutNeed 3 (some FieldType.int) ∈ zTbl := zq2 (List.mem_of_getElem? (i := 89) rfl) rfl
theorem zm_X4_250 : Cond.methodLink RX4 250 yX3_pairs ∈ zTbl := zq2 (List.mem_of_getElem? (i := 90) rfl) rfl
theorem zi_X3_pairs : Cond.instanceMethod yX3_pairs ∈ zTbl := zq2 (List.mem_of_getElem? (i := 91) rfl) rfl
theorem zs_X3_pairs : Cond.selects RX3 yX3_pairs yX3_pairs ∈ zTbl := zq2 (List.mem_of_getElem? (i := 92) rfl) rfl
theorem zc_X3_pairs : Cond.code yX3_pairs cX3_pairs 3 (some FieldType.int) ∈ zTbl := zq2 (List.mem_of_getElem? (i := 93) rfl) rfl
theorem zm_X3_101 : Cond.methodLink RX3 101 yJ6_bitCount_0f7a4 ∈ zTbl := zq2 (List.mem_of_getElem? (i := 94) rfl) rfl
theorem zt_J6_bitCount_0f7a4 : Cond.static yJ6_bitCount_0f7a4 ∈ zTbl := zq2 (List.mem_of_getElem? (i := 95) rfl) rfl
theorem zc_J6_bitCount_0f7a4 : Cond.code yJ6_bitCount_0f7a4 cJ6_bitCount_0f7a4 1 (some FieldType.int) ∈ zTbl := zq2 (List.mem_of_getElem? (i := 96) rfl) rfl
theorem zk_J6_265 : Cond.constant RJ6 265 (1431655765) ∈ zTbl := zq2 (List.mem_of_getElem? (i := 97) rfl) rfl
theorem zk_J6_266 : Cond.constant RJ6 266 (858993459) ∈ zTbl := zq2 (List.mem_of_getElem? (i := 98) rfl) rfl
theorem zk_J6_267 : Cond.constant RJ6 267 (252645135) ∈ zTbl := zq2 (List.mem_of_getElem? (i := 99) rfl) rfl
theorem zm_X4_155 : Cond.methodLink RX4 155 yX0_size ∈ zTbl := zq2 (List.mem_of_getElem? (i := 100) rfl) rfl
theorem zi_X0_size : Cond.instanceMethod yX0_size ∈ zTbl := zq2 (List.mem_of_getElem? (i := 101) rfl) rfl
theorem zs_X0_size : Cond.selects RX0 yX0_size yX0_size ∈ zTbl := zq2 (List.mem_of_getElem? (i := 102) rfl) rfl
theorem zc_X0_size : Cond.code yX0_size cX0_size 1 (some FieldType.int) ∈ zTbl := zq2 (List.mem_of_getElem? (i := 103) rfl) rfl
theorem zm_X4_218 : Cond.methodLink RX4 218 yX4_mixed ∈ zTbl := zq2 (List.mem_of_getElem? (i := 104) rfl) rfl
theorem zt_X4_mixed : Cond.static yX4_mixed ∈ zTbl := zq2 (List.mem_of_getElem? (i := 105) rfl) rfl
theorem zc_X4_mixed : Cond.code yX4_mixed cX4_mixed 4 (some FieldType.long) ∈ zTbl := zq2 (List.mem_of_getElem? (i := 106) rfl) rfl
theorem zk_X4_236 : Cond.constantLong RX4 236 (31) ∈ zTbl := zq2 (List.mem_of_getElem? (i := 107) rfl) rfl
theorem zm_X4_170 : Cond.methodLink RX4 170 yX2_markOf ∈ zTbl := zq2 (List.mem_of_getElem? (i := 108) rfl) rfl
theorem zi_X2_markOf : Cond.instanceMethod yX2_markOf ∈ zTbl := zq2 (List.mem_of_getElem? (i := 109) rfl) rfl
theorem zs_X2_markOf : Cond.selects RX2 yX2_markOf yX2_markOf ∈ zTbl := zq2 (List.mem_of_getElem? (i := 110) rfl) rfl
theorem zc_X2_markOf : Cond.code yX2_markOf cX2_markOf 2 (some FieldType.int) ∈ zTbl := zq2 (List.mem_of_getElem? (i := 111) rfl) rfl
theorem zm_X4_165 : Cond.methodLink RX4 165 yX3_property ∈ zTbl := zq2 (List.mem_of_getElem? (i := 112) rfl) rfl
theorem zi_X3_property : Cond.instanceMethod yX3_property ∈ zTbl := zq2 (List.mem_of_getElem? (i := 113) rfl) rfl
theorem zs_X3_property : Cond.selects RX3 yX3_property yX3_property ∈ zTbl := zq2 (List.mem_of_getElem? (i := 114) rfl) rfl
theorem zc_X3_property : Cond.code yX3_property cX3_property 3 (some FieldType.int) ∈ zTbl := zq2 (List.mem_of_getElem? (i := 115) rfl) rfl
theorem zm_X3_57 : Cond.methodLink RX3 57 yX3_hasZone ∈ zTbl := zq2 (List.mem_of_getElem? (i := 116) rfl) rfl
theorem zi_X3_hasZone : Cond.instanceMethod yX3_hasZone ∈ zTbl := zq2 (List.mem_of_getElem? (i := 117) rfl) rfl
theorem zs_X3_hasZone : Cond.selects RX3 yX3_hasZone yX3_hasZone ∈ zTbl := zq2 (List.mem_of_getElem? (i := 118) rfl) rfl
theorem zc_X3_hasZone : Cond.code yX3_hasZone cX3_hasZone 2 (some FieldType.boolean) ∈ zTbl := zq2 (List.mem_of_getElem? (i := 119) rfl) rfl
theorem zm_X3_69 : Cond.methodLink RX3 69 yX3_toneOf ∈ zTbl := zq2 (List.mem_of_getElem? (i := 120) rfl) rfl
theorem zi_X3_toneOf : Cond.instanceMethod yX3_toneOf ∈ zTbl := zq2 (List.mem_of_getElem? (i := 121) rfl) rfl
theorem zs_X3_toneOf : Cond.selects RX3 yX3_toneOf yX3_toneOf ∈ zTbl := zq2 (List.mem_of_getElem? (i := 122) rfl) rfl
theorem zc_X3_toneOf : Cond.code yX3_toneOf cX3_toneOf 2 (some FieldType.int) ∈ zTbl := zq2 (List.mem_of_getElem? (i := 123) rfl) rfl
theorem zm_X3_75 : Cond.methodLink RX3 75 yX3_greatestNeed ∈ zTbl := zq2 (List.mem_of_getElem? (i := 124) rfl) rfl
theorem zi_X3_greatestNeed : Cond.instanceMethod yX3_greatestNeed ∈ zTbl := zq2 (List.mem_of_getElem? (i := 125) rfl) rfl
theorem zs_X3_greatestNeed : Cond.selects RX3 yX3_greatestNeed yX3_greatestNeed ∈ zTbl := zq2 (List.mem_of_getElem? (i := 126) rfl) rfl
theorem zc_X3_greatestNeed : Cond.code yX3_greatestNeed cX3_greatestNeed 4 (some FieldType.int) ∈ zTbl := zq2 (List.mem_of_getElem? (i := 127) rfl) rfl
theorem zm_X4_175 : Cond.methodLink RX4 175 yX3_readStrip ∈ zTbl := zq2 (List.mem_of_getElem? (i := 128) rfl) rfl
theorem zi_X3_readStrip : Cond.instanceMethod yX3_readStrip ∈ zTbl := zq2 (List.mem_of_getElem? (i := 129) rfl) rfl
theorem zs_X3_readStrip : Cond.selects RX3 yX3_readStrip yX3_readStrip ∈ zTbl := zq2 (List.mem_of_getElem? (i := 130) rfl) rfl
theorem zc_X3_readStrip : Cond.code yX3_readStrip cX3_readStrip 8 (some FieldType.int) ∈ zTbl := zq2 (List.mem_of_getElem? (i := 131) rfl) rfl
theorem zm_X3_110 : Cond.methodLink RX3 110 yX3_stripTime ∈ zTbl := zq2 (List.mem_of_getElem? (i := 132) rfl) rfl
theorem zt_X3_stripTime : Cond.static yX3_stripTime ∈ zTbl := zq2 (List.mem_of_getElem? (i := 133) rfl) rfl
theorem zc_X3_stripTime : Cond.code yX3_stripTime cX3_stripTime 3 (some FieldType.int) ∈ zTbl := zq2 (List.mem_of_getElem? (i := 134) rfl) rfl
theorem zf_X3_113 : Cond.fieldLink RX3 113 "ZonePrint$Print" "THIRDS" "[I" ∈ zTbl := zq2 (List.mem_of_getElem? (i := 135) rfl) rfl
theorem zm_X4_204 : Cond.methodLink RX4 204 yX4_tryBurn ∈ zTbl := zq2 (List.mem_of_getElem? (i := 137) rfl) rfl
theorem zi_X4_tryBurn : Cond.instanceMethod yX4_tryBurn ∈ zTbl := zq2 (List.mem_of_getElem? (i := 139) rfl) rfl
theorem zc_X4_tryBurn : Cond.code yX4_tryBurn cX4_tryBurn 4 (some FieldType.int) ∈ zTbl := zq2 (List.mem_of_getElem? (i := 140) rfl) rfl
theorem zm_X4_69 : Cond.methodLink RX4 69 yX3_hasZone ∈ zTbl := zq2 (List.mem_of_getElem? (i := 141) rfl) rfl
theorem zm_X4_107 : Cond.methodLink RX4 107 yX3_toneOf ∈ zTbl := zq2 (List.mem_of_getElem? (i := 142) rfl) rfl
theorem zm_X4_186 : Cond.methodLink RX4 186 yX4_tryTime ∈ zTbl := zq2 (List.mem_of_getElem? (i := 143) rfl) rfl
theorem zi_X4_tryTime : Cond.instanceMethod yX4_tryTime ∈ zTbl := zq2 (List.mem_of_getElem? (i := 145) rfl) rfl
theorem zc_X4_tryTime : Cond.code yX4_tryTime cX4_tryTime 3 (some FieldType.int) ∈ zTbl := zq2 (List.mem_of_getElem? (i := 146) rfl) rfl
theorem zm_X4_222 : Cond.methodLink RX4 222 yX4_bestTime ∈ zTbl := zq2 (List.mem_of_getElem? (i := 147) rfl) rfl
theorem zm_X4_225 : Cond.methodLink RX4 225 yX4_bestGrade ∈ zTbl := zq2 (List.mem_of_getElem? (i := 148) rfl) rfl
theorem zm_X4_210 : Cond.methodLink RX4 210 yX3_commonNeed ∈ zTbl := zq2 (List.mem_of_getElem? (i := 149) rfl) rfl
theorem zi_X3_commonNeed : Cond.instanceMethod yX3_commonNeed ∈ zTbl := zq2 (List.mem_of_getElem? (i := 150) rfl) rfl
theorem zs_X3_commonNeed : Cond.selects RX3 yX3_commonNeed yX3_commonNeed ∈ zTbl := zq2 (List.mem_of_getElem? (i := 151) rfl) rfl
theorem zc_X3_commonNeed : Cond.code yX3_commonNeed cX3_commonNeed 5 (some FieldType.int) ∈ zTbl := zq2 (List.mem_of_getElem? (i := 152) rfl) rfl
theorem zm_X4_228 : Cond.methodLink RX4 228 yX4_rightShare ∈ zTbl := zq2 (List.mem_of_getElem? (i := 153) rfl) rfl
theorem zm_X4_232 : Cond.methodLink RX4 232 yX4_bitsOf ∈ zTbl := zq2 (List.mem_of_getElem? (i := 154) rfl) rfl
theorem zt_X4_bitsOf : Cond.static yX4_bitsOf ∈ zTbl := zq2 (List.mem_of_getElem? (i := 155) rfl) rfl
theorem zc_X4_bitsOf : Cond.code yX4_bitsOf cX4_bitsOf 6 (some FieldType.long) ∈ zTbl := zq2 (List.mem_of_getElem? (i := 156) rfl) rfl
theorem zk_X4_238 : Cond.constantLong RX4 238 (1023) ∈ zTbl := zq2 (List.mem_of_getElem? (i := 157) rfl) rfl
theorem zm_L_78 : Cond.methodLink RL 78 yL_zone ∈ zTbl := zq2 (List.mem_of_getElem? (i := 160) rfl) rfl
theorem zt_L_zone : Cond.static yL_zone ∈ zTbl := zq2 (List.mem_of_getElem? (i := 161) rfl) rfl
theorem zl_L_13 : Cond.classLink RL 13 "java/lang/IllegalArgumentException" ∈ zTbl := zq2 (List.mem_of_getElem? (i := 163) rfl) rfl
theorem zl_L_15 : Cond.classLink RL 15 "java/lang/IllegalStateException" ∈ zTbl := zq2 (List.mem_of_getElem? (i := 164) rfl) rfl
theorem zm_L_7 : Cond.methodLink RL 7 yX4_zone ∈ zTbl := zq2 (List.mem_of_getElem? (i := 165) rfl) rfl
theorem zi_X4_zone : Cond.instanceMethod yX4_zone ∈ zTbl := zq2 (List.mem_of_getElem? (i := 166) rfl) rfl
theorem zs_X4_zone : Cond.selects RX4 yX4_zone yX4_zone ∈ zTbl := zq2 (List.mem_of_getElem? (i := 167) rfl) rfl
theorem zc_X4_zone : Cond.code yX4_zone cX4_zone 3 (some FieldType.int) ∈ zTbl := zq2 (List.mem_of_getElem? (i := 168) rfl) rfl
theorem zm_X4_41 : Cond.methodLink RX4 41 yX4_isWithin ∈ zTbl := zq2 (List.mem_of_getElem? (i := 169) rfl) rfl
theorem zl_X4_45 : Cond.classLink RX4 45 "java/lang/IllegalArgumentException" ∈ zTbl := zq2 (List.mem_of_getElem? (i := 170) rfl) rfl
theorem zo_IllegalArgumentException : Cond.instantiable "java/lang/IllegalArgumentException" 6 ∈ zTbl := zq2 (List.mem_of_getElem? (i := 171) rfl) rfl
theorem zy_481 : Cond.lays "java/lang/IllegalArgumentException" "java/lang/Throwable" "cause" "Ljava/lang/Throwable;" ∈ zTbl := zq2 (List.mem_of_getElem? (i := 181) rfl) rfl
theorem zy_482 : Cond.lays "java/lang/Throwable" "java/lang/Throwable" "cause" "Ljava/lang/Throwable;" ∈ zTbl := zq2 (List.mem_of_getElem? (i := 182) rfl) rfl
theorem zy_483 : Cond.lays "java/lang/IllegalArgumentException" "java/lang/Throwable" "stackTrace" "[Ljava/lang/StackTraceElement;" ∈ zTbl := zq2 (List.mem_of_getElem? (i := 183) rfl) rfl
theorem zy_484 : Cond.lays "java/lang/Throwable" "java/lang/Throwable" "stackTrace" "[Ljava/lang/StackTraceElement;" ∈ zTbl := zq2 (List.mem_of_getElem? (i := 184) rfl) rfl
theorem zy_485 : Cond.lays "java/lang/IllegalArgumentException" "java/lang/Throwable" "suppressedExceptions" "Ljava/util/List;" ∈ zTbl := zq2 (List.mem_of_getElem? (i := 185) rfl) rfl
theorem zy_486 : Cond.lays "java/lang/Throwable" "java/lang/Throwable" "suppressedExceptions" "Ljava/util/List;" ∈ zTbl := zq2 (List.mem_of_getElem? (i := 186) rfl) rfl
theorem zy_487 : Cond.lays "java/lang/IllegalArgumentException" "java/lang/Throwable" "detailMessage" "Ljava/lang/String;" ∈ zTbl := zq2 (List.mem_of_getElem? (i := 187) rfl) rfl
theorem zy_488 : Cond.lays "java/lang/Throwable" "java/lang/Throwable" "detailMessage" "Ljava/lang/String;" ∈ zTbl := zq2 (List.mem_of_getElem? (i := 188) rfl) rfl
theorem zy_489 : Cond.lays "java/lang/IllegalArgumentException" "java/lang/Throwable" "backtrace" "Ljava/lang/Object;" ∈ zTbl := zq2 (List.mem_of_getElem? (i := 189) rfl) rfl
theorem zy_490 : Cond.lays "java/lang/Throwable" "java/lang/Throwable" "backtrace" "Ljava/lang/Object;" ∈ zTbl := zq2 (List.mem_of_getElem? (i := 190) rfl) rfl
theorem zo_Throwable : Cond.instantiable "java/lang/Throwable" 6 ∈ zTbl := zq2 (List.mem_of_getElem? (i := 209) rfl) rfl
theorem zy_529 : Cond.soleField "java/lang/Throwable" "backtrace" ∈ zTbl := zq2 (List.mem_of_getElem? (i := 229) rfl) rfl
theorem zy_530 : Cond.soleField "java/lang/Throwable" "detailMessage" ∈ zTbl := zq2 (List.mem_of_getElem? (i := 230) rfl) rfl
theorem zy_531 : Cond.soleField "java/lang/Throwable" "cause" ∈ zTbl := zq2 (List.mem_of_getElem? (i := 231) rfl) rfl
theorem zy_532 : Cond.soleField "java/lang/Throwable" "stackTrace" ∈ zTbl := zq2 (List.mem_of_getElem? (i := 232) rfl) rfl
theorem zy_533 : Cond.lays "java/lang/IllegalArgumentException" "java/lang/Throwable" "depth" "I" ∈ zTbl := zq2 (List.mem_of_getElem? (i := 233) rfl) rfl
theorem zy_534 : Cond.soleField "java/lang/Throwable" "depth" ∈ zTbl := zq2 (List.mem_of_getElem? (i := 234) rfl) rfl
theorem zy_535 : Cond.soleField "java/lang/Throwable" "suppressedExceptions" ∈ zTbl := zq2 (List.mem_of_getElem? (i := 235) rfl) rfl
theorem za_537 : Cond.arrayClass FieldType.byte ∈ zTbl := zq2 (List.mem_of_getElem? (i := 237) rfl) rfl
theorem zm_X4_52 : Cond.methodLink RX4 52 yX3_isFull ∈ zTbl := zq2 (List.mem_of_getElem? (i := 238) rfl) rfl
theorem zi_X3_isFull : Cond.instanceMethod yX3_isFull ∈ zTbl := zq2 (List.mem_of_getElem? (i := 239) rfl) rfl
theorem zs_X3_isFull : Cond.selects RX3 yX3_isFull yX3_isFull ∈ zTbl := zq3 (List.mem_of_getElem? (i := 0) rfl) rfl
theorem zc_X3_isFull : Cond.code yX3_isFull cX3_isFull 1 (some FieldType.boolean) ∈ zTbl := zq3 (List.mem_of_getElem? (i := 1) rfl) rfl
theorem zl_X4_56 : Cond.classLink RX4 56 "java/lang/IllegalStateException" ∈ zTbl := zq3 (List.mem_of_getElem? (i := 2) rfl) rfl
theorem zo_IllegalStateException : Cond.instantiable "java/lang/IllegalStateException" 6 ∈ zTbl := zq3 (List.mem_of_getElem? (i := 3) rfl) rfl
theorem zy_546 : Cond.lays "java/lang/IllegalStateException" "java/lang/Throwable" "cause" "Ljava/lang/Throwable;" ∈ zTbl := zq3 (List.mem_of_getElem? (i := 6) rfl) rfl
theorem zy_547 : Cond.lays "java/lang/IllegalStateException" "java/lang/Throwable" "stackTrace" "[Ljava/lang/StackTraceElement;" ∈ zTbl := zq3 (List.mem_of_getElem? (i := 7) rfl) rfl
theorem zy_548 : Cond.lays "java/lang/IllegalStateException" "java/lang/Throwable" "suppressedExceptions" "Ljava/util/List;" ∈ zTbl := zq3 (List.mem_of_getElem? (i := 8) rfl) rfl
theorem zy_549 : Cond.lays "java/lang/IllegalStateException" "java/lang/Throwable" "detailMessage" "Ljava/lang/String;" ∈ zTbl := zq3 (List.mem_of_getElem? (i := 9) rfl) rfl
theorem zy_550 : Cond.lays "java/lang/IllegalStateException" "java/lang/Throwable" "backtrace" "Ljava/lang/Object;" ∈ zTbl := zq3 (List.mem_of_getElem? (i := 10) rfl) rfl
theorem zy_556 : Cond.lays "java/lang/IllegalStateException" "java/lang/Throwable" "depth" "I" ∈ zTbl := zq3 (List.mem_of_getElem? (i := 16) rfl) rfl
theorem zm_X4_65 : Cond.methodLink RX4 65 yX3_addZone ∈ zTbl := zq3 (List.mem_of_getElem? (i := 18) rfl) rfl
theorem zi_X3_addZone : Cond.instanceMethod yX3_addZone ∈ zTbl := zq3 (List.mem_of_getElem? (i := 19) rfl) rfl
theorem zs_X3_addZone : Cond.selects RX3 yX3_addZone yX3_addZone ∈ zTbl := zq3 (List.mem_of_getElem? (i := 20) rfl) rfl
theorem zc_X3_addZone : Cond.code yX3_addZone cX3_addZone 4 (some FieldType.int) ∈ zTbl := zq3 (List.mem_of_getElem? (i := 21) rfl) rfl
theorem zm_L_87 : Cond.methodLink RL 87 yL_want ∈ zTbl := zq3 (List.mem_of_getElem? (i := 22) rfl) rfl
theorem zt_L_want : Cond.static yL_want ∈ zTbl := zq3 (List.mem_of_getElem? (i := 23) rfl) rfl
theorem zl_L_20 : Cond.classLink RL 20 "java/lang/IndexOutOfBoundsException" ∈ zTbl := zq3 (List.mem_of_getElem? (i := 25) rfl) rfl
theorem zm_L_17 : Cond.methodLink RL 17 yX4_want ∈ zTbl := zq3 (List.mem_of_getElem? (i := 26) rfl) rfl
theorem zi_X4_want : Cond.instanceMethod yX4_want ∈ zTbl := zq3 (List.mem_of_getElem? (i := 27) rfl) rfl
theorem zs_X4_want : Cond.selects RX4 yX4_want yX4_want ∈ zTbl := zq3 (List.mem_of_getElem? (i := 28) rfl) rfl
theorem zc_X4_want : Cond.code yX4_want cX4_want 4 (some FieldType.int) ∈ zTbl := zq3 (List.mem_of_getElem? (i := 29) rfl) rfl
theorem zl_X4_73 : Cond.classLink RX4 73 "java/lang/IndexOutOfBoundsException" ∈ zTbl := zq3 (List.mem_of_getElem? (i := 30) rfl) rfl
theorem zo_IndexOutOfBoundsException : Cond.instantiable "java/lang/IndexOutOfBoundsException" 6 ∈ zTbl := zq3 (List.mem_of_getElem? (i := 31) rfl) rfl
theorem zy_574 : Cond.lays "java/lang/IndexOutOfBoundsException" "java/lang/Throwable" "cause" "Ljava/lang/Throwable;" ∈ zTbl := zq3 (List.mem_of_getElem? (i := 34) rfl) rfl
theorem zy_575 : Cond.lays "java/lang/IndexOutOfBoundsException" "java/lang/Throwable" "stackTrace" "[Ljava/lang/StackTraceElement;" ∈ zTbl := zq3 (List.mem_of_getElem? (i := 35) rfl) rfl
theorem zy_576 : Cond.lays "java/lang/IndexOutOfBoundsException" "java/lang/Throwable" "suppressedExceptions" "Ljava/util/List;" ∈ zTbl := zq3 (List.mem_of_getElem? (i := 36) rfl) rfl
theorem zy_577 : Cond.lays "java/lang/IndexOutOfBoundsException" "java/lang/Throwable" "detailMessage" "Ljava/lang/String;" ∈ zTbl := zq3 (List.mem_of_getElem? (i := 37) rfl) rfl
theorem zy_578 : Cond.lays "java/lang/IndexOutOfBoundsException" "java/lang/Throwable" "backtrace" "Ljava/lang/Object;" ∈ zTbl := zq3 (List.mem_of_getElem? (i := 38) rfl) rfl
theorem zy_584 : Cond.lays "java/lang/IndexOutOfBoundsException" "java/lang/Throwable" "depth" "I" ∈ zTbl := zq3 (List.mem_of_getElem? (i := 44) rfl) rfl
theorem zm_L_90 : Cond.methodLink RL 90 yL_link ∈ zTbl := zq3 (List.mem_of_getElem? (i := 47) rfl) rfl
theorem zt_L_link : Cond.static yL_link ∈ zTbl := zq3 (List.mem_of_getElem? (i := 48) rfl) rfl
theorem zm_L_22 : Cond.methodLink RL 22 yX4_link ∈ zTbl := zq3 (List.mem_of_getElem? (i := 50) rfl) rfl
theorem zi_X4_link : Cond.instanceMethod yX4_link ∈ zTbl := zq3 (List.mem_of_getElem? (i := 51) rfl) rfl
theorem zs_X4_link : Cond.selects RX4 yX4_link yX4_link ∈ zTbl := zq3 (List.mem_of_getElem? (i := 52) rfl) rfl
theorem zc_X4_link : Cond.code yX4_link cX4_link 4 (some FieldType.int) ∈ zTbl := zq3 (List.mem_of_getElem? (i := 53) rfl) rfl
theorem zm_X4_85 : Cond.methodLink RX4 85 yX3_areNeighbours ∈ zTbl := zq3 (List.mem_of_getElem? (i := 55) rfl) rfl
theorem zi_X3_areNeighbours : Cond.instanceMethod yX3_areNeighbours ∈ zTbl := zq3 (List.mem_of_getElem? (i := 56) rfl) rfl
theorem zs_X3_areNeighbours : Cond.selects RX3 yX3_areNeighbours yX3_areNeighbours ∈ zTbl := zq3 (List.mem_of_getElem? (i := 57) rfl) rfl
theorem zc_X3_areNeighbours : Cond.code yX3_areNeighbours cX3_areNeighbours 3 (some FieldType.boolean) ∈ zTbl := zq3 (List.mem_of_getElem? (i := 58) rfl) rfl
theorem zm_X4_89 : Cond.methodLink RX4 89 yX3_setNeighbours ∈ zTbl := zq3 (List.mem_of_getElem? (i := 59) rfl) rfl
theorem zi_X3_setNeighbours : Cond.instanceMethod yX3_setNeighbours ∈ zTbl := zq3 (List.mem_of_getElem? (i := 60) rfl) rfl
theorem zs_X3_setNeighbours : Cond.selects RX3 yX3_setNeighbours yX3_setNeighbours ∈ zTbl := zq3 (List.mem_of_getElem? (i := 61) rfl) rfl
theorem zc_X3_setNeighbours : Cond.code yX3_setNeighbours cX3_setNeighbours 4 (none : Option FieldType) ∈ zTbl := zq3 (List.mem_of_getElem? (i := 62) rfl) rfl
theorem zm_L_93 : Cond.methodLink RL 93 yL_expose ∈ zTbl := zq3 (List.mem_of_getElem? (i := 63) rfl) rfl
theorem zt_L_expose : Cond.static yL_expose ∈ zTbl := zq3 (List.mem_of_getElem? (i := 64) rfl) rfl
theorem zm_L_25 : Cond.methodLink RL 25 yX4_expose ∈ zTbl := zq3 (List.mem_of_getElem? (i := 66) rfl) rfl
theorem zi_X4_expose : Cond.instanceMethod yX4_expose ∈ zTbl := zq3 (List.mem_of_getElem? (i := 67) rfl) rfl
theorem zs_X4_expose : Cond.selects RX4 yX4_expose yX4_expose ∈ zTbl := zq3 (List.mem_of_getElem? (i := 68) rfl) rfl
theorem zc_X4_expose : Cond.code yX4_expose cX4_expose 2 (some FieldType.int) ∈ zTbl := zq3 (List.mem_of_getElem? (i := 69) rfl) rfl
theorem zm_L_97 : Cond.methodLink RL 97 yL_burn ∈ zTbl := zq3 (List.mem_of_getElem? (i := 71) rfl) rfl
theorem zt_L_burn : Cond.static yL_burn ∈ zTbl := zq3 (List.mem_of_getElem? (i := 72) rfl) rfl
theorem zm_L_29 : Cond.methodLink RL 29 yX4_burn ∈ zTbl := zq3 (List.mem_of_getElem? (i := 74) rfl) rfl
theorem zi_X4_burn : Cond.instanceMethod yX4_burn ∈ zTbl := zq3 (List.mem_of_getElem? (i := 75) rfl) rfl
theorem zs_X4_burn : Cond.selects RX4 yX4_burn yX4_burn ∈ zTbl := zq3 (List.mem_of_getElem? (i := 76) rfl) rfl
theorem zc_X4_burn : Cond.code yX4_burn cX4_burn 3 (some FieldType.int) ∈ zTbl := zq3 (List.mem_of_getElem? (i := 77) rfl) rfl
theorem zm_L_100 : Cond.methodLink RL 100 yL_hold ∈ zTbl := zq3 (List.mem_of_getElem? (i := 79) rfl) rfl
theorem zt_L_hold : Cond.static yL_hold ∈ zTbl := zq3 (List.mem_of_getElem? (i := 80) rfl) rfl
theorem zm_L_32 : Cond.methodLink RL 32 yX4_hold ∈ zTbl := zq3 (List.mem_of_getElem? (i := 82) rfl) rfl
theorem zi_X4_hold : Cond.instanceMethod yX4_hold ∈ zTbl := zq3 (List.mem_of_getElem? (i := 83) rfl) rfl
theorem zs_X4_hold : Cond.selects RX4 yX4_hold yX4_hold ∈ zTbl := zq3 (List.mem_of_getElem? (i := 84) rfl) rfl
theorem zc_X4_hold : Cond.code yX4_hold cX4_hold 3 (some FieldType.int) ∈ zTbl := zq3 (List.mem_of_getElem? (i := 85) rfl) rfl
theorem zm_L_103 : Cond.methodLink RL 103 yL_paper ∈ zTbl := zq3 (List.mem_of_getElem? (i := 86) rfl) rfl
theorem zt_L_paper : Cond.static yL_paper ∈ zTbl := zq3 (List.mem_of_getElem? (i := 87) rfl) rfl
theorem zm_L_35 : Cond.methodLink RL 35 yX4_paper ∈ zTbl := zq3 (List.mem_of_getElem? (i := 89) rfl) rfl
theorem zi_X4_paper : Cond.instanceMethod yX4_paper ∈ zTbl := zq3 (List.mem_of_getElem? (i := 90) rfl) rfl
theorem zs_X4_paper : Cond.selects RX4 yX4_paper yX4_paper ∈ zTbl := zq3 (List.mem_of_getElem? (i := 91) rfl) rfl
theorem zc_X4_paper : Cond.code yX4_paper cX4_paper 3 (some FieldType.int) ∈ zTbl := zq3 (List.mem_of_getElem? (i := 92) rfl) rfl
theorem zm_L_110 : Cond.methodLink RL 110 yL_set ∈ zTbl := zq3 (List.mem_of_getElem? (i := 94) rfl) rfl
theorem zt_L_set : Cond.static yL_set ∈ zTbl := zq3 (List.mem_of_getElem? (i := 95) rfl) rfl
theorem zm_L_38 : Cond.methodLink RL 38 yX4_set ∈ zTbl := zq3 (List.mem_of_getElem? (i := 97) rfl) rfl
theorem zi_X4_set : Cond.instanceMethod yX4_set ∈ zTbl := zq3 (List.mem_of_getElem? (i := 98) rfl) rfl
theorem zs_X4_set : Cond.selects RX4 yX4_set yX4_set ∈ zTbl := zq3 (List.mem_of_getElem? (i := 99) rfl) rfl
theorem zc_X4_set : Cond.code yX4_set cX4_set 3 (some FieldType.int) ∈ zTbl := zq3 (List.mem_of_getElem? (i := 100) rfl) rfl
theorem zm_L_113 : Cond.methodLink RL 113 yL_append ∈ zTbl := zq3 (List.mem_of_getElem? (i := 102) rfl) rfl
theorem zt_L_append : Cond.static yL_append ∈ zTbl := zq3 (List.mem_of_getElem? (i := 103) rfl) rfl
theorem zm_L_41 : Cond.methodLink RL 41 yX4_append ∈ zTbl := zq3 (List.mem_of_getElem? (i := 105) rfl) rfl
theorem zi_X4_append : Cond.instanceMethod yX4_append ∈ zTbl := zq3 (List.mem_of_getElem? (i := 106) rfl) rfl
theorem zs_X4_append : Cond.selects RX4 yX4_append yX4_append ∈ zTbl := zq3 (List.mem_of_getElem? (i := 107) rfl) rfl
theorem zc_X4_append : Cond.code yX4_append cX4_append 2 (some FieldType.int) ∈ zTbl := zq3 (List.mem_of_getElem? (i := 108) rfl) rfl
theorem zm_L_124 : Cond.methodLink RL 124 yL_run ∈ zTbl := zq3 (List.mem_of_getElem? (i := 111) rfl) rfl
theorem zt_L_run : Cond.static yL_run ∈ zTbl := zq3 (List.mem_of_getElem? (i := 112) rfl) rfl
theorem zm_L_44 : Cond.methodLink RL 44 yX4_run ∈ zTbl := zq3 (List.mem_of_getElem? (i := 114) rfl) rfl
theorem zi_X4_run : Cond.instanceMethod yX4_run ∈ zTbl := zq3 (List.mem_of_getElem? (i := 115) rfl) rfl
theorem zs_X4_run : Cond.selects RX4 yX4_run yX4_run ∈ zTbl := zq3 (List.mem_of_getElem? (i := 116) rfl) rfl
theorem zc_X4_run : Cond.code yX4_run cX4_run 2 (some FieldType.int) ∈ zTbl := zq3 (List.mem_of_getElem? (i := 117) rfl) rfl
theorem zm_X4_143 : Cond.methodLink RX4 143 yX4_firstError ∈ zTbl := zq3 (List.mem_of_getElem? (i := 118) rfl) rfl
theorem zm_X4_147 : Cond.methodLink RX4 147 yX1_endsAnOrder ∈ zTbl := zq3 (List.mem_of_getElem? (i := 119) rfl) rfl
theorem zi_X1_endsAnOrder : Cond.instanceMethod yX1_endsAnOrder ∈ zTbl := zq3 (List.mem_of_getElem? (i := 120) rfl) rfl
theorem zs_X1_endsAnOrder : Cond.selects RX1 yX1_endsAnOrder yX1_endsAnOrder ∈ zTbl := zq3 (List.mem_of_getElem? (i := 121) rfl) rfl
theorem zc_X1_endsAnOrder : Cond.code yX1_endsAnOrder cX1_endsAnOrder 1 (some FieldType.boolean) ∈ zTbl := zq3 (List.mem_of_getElem? (i := 122) rfl) rfl
theorem zm_X4_152 : Cond.methodLink RX4 152 yX4_doOrders ∈ zTbl := zq3 (List.mem_of_getElem? (i := 124) rfl) rfl
theorem zi_X4_doOrders : Cond.instanceMethod yX4_doOrders ∈ zTbl := zq3 (List.mem_of_getElem? (i := 126) rfl) rfl
theorem zc_X4_doOrders : Cond.code yX4_doOrders cX4_doOrders 3 (some FieldType.int) ∈ zTbl := zq3 (List.mem_of_getElem? (i := 127) rfl) rfl
theorem zm_X4_253 : Cond.methodLink RX4 253 yX4_isLastOfOrder ∈ zTbl := zq3 (List.mem_of_getElem? (i := 128) rfl) rfl
theorem zi_X4_isLastOfOrder : Cond.instanceMethod yX4_isLastOfOrder ∈ zTbl := zq3 (List.mem_of_getElem? (i := 130) rfl) rfl
theorem zc_X4_isLastOfOrder : Cond.code yX4_isLastOfOrder cX4_isLastOfOrder 3 (some FieldType.boolean) ∈ zTbl := zq3 (List.mem_of_getElem? (i := 131) rfl) rfl
theorem zm_X4_256 : Cond.methodLink RX4 256 yX4_doOrder ∈ zTbl := zq3 (List.mem_of_getElem? (i := 132) rfl) rfl
theorem zi_X4_doOrder : Cond.instanceMethod yX4_doOrder ∈ zTbl := zq3 (List.mem_of_getElem? (i := 134) rfl) rfl
theorem zc_X4_doOrder : Cond.code yX4_doOrder cX4_doOrder 3 (some FieldType.boolean) ∈ zTbl := zq3 (List.mem_of_getElem? (i := 135) rfl) rfl
theorem zm_L_128 : Cond.methodLink RL 128 yL_undo ∈ zTbl := zq3 (List.mem_of_getElem? (i := 136) rfl) rfl
theorem zt_L_undo : Cond.static yL_undo ∈ zTbl := zq3 (List.mem_of_getElem? (i := 137) rfl) rfl
theorem zm_L_48 : Cond.methodLink RL 48 yX4_undo ∈ zTbl := zq3 (List.mem_of_getElem? (i := 139) rfl) rfl
theorem zi_X4_undo : Cond.instanceMethod yX4_undo ∈ zTbl := zq3 (List.mem_of_getElem? (i := 140) rfl) rfl
theorem zs_X4_undo : Cond.selects RX4 yX4_undo yX4_undo ∈ zTbl := zq3 (List.mem_of_getElem? (i := 141) rfl) rfl
theorem zc_X4_undo : Cond.code yX4_undo cX4_undo 1 (some FieldType.int) ∈ zTbl := zq3 (List.mem_of_getElem? (i := 142) rfl) rfl
theorem zm_X4_160 : Cond.methodLink RX4 160 yX0_giveBack ∈ zTbl := zq3 (List.mem_of_getElem? (i := 144) rfl) rfl
theorem zi_X0_giveBack : Cond.instanceMethod yX0_giveBack ∈ zTbl := zq3 (List.mem_of_getElem? (i := 145) rfl) rfl
theorem zs_X0_giveBack : Cond.selects RX0 yX0_giveBack yX0_giveBack ∈ zTbl := zq3 (List.mem_of_getElem? (i := 146) rfl) rfl
theorem zc_X0_giveBack : Cond.code yX0_giveBack cX0_giveBack 3 (none : Option FieldType) ∈ zTbl := zq3 (List.mem_of_getElem? (i := 147) rfl) rfl
theorem zm_L_131 : Cond.methodLink RL 131 yL_zoneOf ∈ zTbl := zq3 (List.mem_of_getElem? (i := 148) rfl) rfl
theorem zt_L_zoneOf : Cond.static yL_zoneOf ∈ zTbl := zq3 (List.mem_of_getElem? (i := 149) rfl) rfl
theorem zm_L_51 : Cond.methodLink RL 51 yX4_zoneOf ∈ zTbl := zq3 (List.mem_of_getElem? (i := 151) rfl) rfl
theorem zi_X4_zoneOf : Cond.instanceMethod yX4_zoneOf ∈ zTbl := zq3 (List.mem_of_getElem? (i := 152) rfl) rfl
theorem zs_X4_zoneOf : Cond.selects RX4 yX4_zoneOf yX4_zoneOf ∈ zTbl := zq3 (List.mem_of_getElem? (i := 153) rfl) rfl
theorem zc_X4_zoneOf : Cond.code yX4_zoneOf cX4_zoneOf 3 (some FieldType.int) ∈ zTbl := zq3 (List.mem_of_getElem? (i := 154) rfl) rfl
theorem zm_L_134 : Cond.methodLink RL 134 yL_mark ∈ zTbl := zq3 (List.mem_of_getElem? (i := 156) rfl) rfl
theorem zt_L_mark : Cond.static yL_mark ∈ zTbl := zq3 (List.mem_of_getElem? (i := 157) rfl) rfl
theorem zm_L_54 : Cond.methodLink RL 54 yX4_mark ∈ zTbl := zq3 (List.mem_of_getElem? (i := 159) rfl) rfl
theorem zi_X4_mark : Cond.instanceMethod yX4_mark ∈ zTbl := zq3 (List.mem_of_getElem? (i := 160) rfl) rfl
theorem zs_X4_mark : Cond.selects RX4 yX4_mark yX4_mark ∈ zTbl := zq3 (List.mem_of_getElem? (i := 161) rfl) rfl
theorem zc_X4_mark : Cond.code yX4_mark cX4_mark 2 (some FieldType.int) ∈ zTbl := zq3 (List.mem_of_getElem? (i := 162) rfl) rfl
theorem zm_L_137 : Cond.methodLink RL 137 yL_strip ∈ zTbl := zq3 (List.mem_of_getElem? (i := 164) rfl) rfl
theorem zt_L_strip : Cond.static yL_strip ∈ zTbl := zq3 (List.mem_of_getElem? (i := 165) rfl) rfl
theorem zm_L_57 : Cond.methodLink RL 57 yX4_strip ∈ zTbl := zq3 (List.mem_of_getElem? (i := 167) rfl) rfl
theorem zi_X4_strip : Cond.instanceMethod yX4_strip ∈ zTbl := zq3 (List.mem_of_getElem? (i := 168) rfl) rfl
theorem zs_X4_strip : Cond.selects RX4 yX4_strip yX4_strip ∈ zTbl := zq3 (List.mem_of_getElem? (i := 169) rfl) rfl
theorem zc_X4_strip : Cond.code yX4_strip cX4_strip 5 (some FieldType.int) ∈ zTbl := zq3 (List.mem_of_getElem? (i := 170) rfl) rfl
theorem zm_L_141 : Cond.methodLink RL 141 yL_count ∈ zTbl := zq3 (List.mem_of_getElem? (i := 172) rfl) rfl
theorem zt_L_count : Cond.static yL_count ∈ zTbl := zq3 (List.mem_of_getElem? (i := 173) rfl) rfl
theorem zm_L_61 : Cond.methodLink RL 61 yX4_count ∈ zTbl := zq3 (List.mem_of_getElem? (i := 175) rfl) rfl
theorem zi_X4_count : Cond.instanceMethod yX4_count ∈ zTbl := zq3 (List.mem_of_getElem? (i := 176) rfl) rfl
theorem zs_X4_count : Cond.selects RX4 yX4_count yX4_count ∈ zTbl := zq3 (List.mem_of_getElem? (i := 177) rfl) rfl
theorem zc_X4_count : Cond.code yX4_count cX4_count 2 (some FieldType.int) ∈ zTbl := zq3 (List.mem_of_getElem? (i := 178) rfl) rfl
theorem zm_L_144 : Cond.methodLink RL 144 yL_ifExposed ∈ zTbl := zq3 (List.mem_of_getElem? (i := 180) rfl) rfl
theorem zt_L_ifExposed : Cond.static yL_ifExposed ∈ zTbl := zq3 (List.mem_of_getElem? (i := 181) rfl) rfl
theorem zm_L_64 : Cond.methodLink RL 64 yX4_ifExposed ∈ zTbl := zq3 (List.mem_of_getElem? (i := 183) rfl) rfl
theorem zi_X4_ifExposed : Cond.instanceMethod yX4_ifExposed ∈ zTbl := zq3 (List.mem_of_getElem? (i := 184) rfl) rfl
theorem zs_X4_ifExposed : Cond.selects RX4 yX4_ifExposed yX4_ifExposed ∈ zTbl := zq3 (List.mem_of_getElem? (i := 185) rfl) rfl
theorem zc_X4_ifExposed : Cond.code yX4_ifExposed cX4_ifExposed 3 (some FieldType.int) ∈ zTbl := zq3 (List.mem_of_getElem? (i := 186) rfl) rfl
theorem zm_L_155 : Cond.methodLink RL 155 yL_ifBurned ∈ zTbl := zq3 (List.mem_of_getElem? (i := 188) rfl) rfl
theorem zt_L_ifBurned : Cond.static yL_ifBurned ∈ zTbl := zq3 (List.mem_of_getElem? (i := 189) rfl) rfl
theorem zm_L_67 : Cond.methodLink RL 67 yX4_ifBurned ∈ zTbl := zq3 (List.mem_of_getElem? (i := 191) rfl) rfl
theorem zi_X4_ifBurned : Cond.instanceMethod yX4_ifBurned ∈ zTbl := zq3 (List.mem_of_getElem? (i := 192) rfl) rfl
theorem zs_X4_ifBurned : Cond.selects RX4 yX4_ifBurned yX4_ifBurned ∈ zTbl := zq3 (List.mem_of_getElem? (i := 193) rfl) rfl
theorem zc_X4_ifBurned : Cond.code yX4_ifBurned cX4_ifBurned 4 (some FieldType.int) ∈ zTbl := zq3 (List.mem_of_getElem? (i := 194) rfl) rfl
theorem zm_L_159 : Cond.methodLink RL 159 yL_common ∈ zTbl := zq3 (List.mem_of_getElem? (i := 196) rfl) rfl
theorem zt_L_common : Cond.static yL_common ∈ zTbl := zq3 (List.mem_of_getElem? (i := 197) rfl) rfl
theorem zm_L_71 : Cond.methodLink RL 71 yX4_common ∈ zTbl := zq3 (List.mem_of_getElem? (i := 199) rfl) rfl
theorem zi_X4_common : Cond.instanceMethod yX4_common ∈ zTbl := zq3 (List.mem_of_getElem? (i := 200) rfl) rfl
theorem zs_X4_common : Cond.selects RX4 yX4_common yX4_common ∈ zTbl := zq3 (List.mem_of_getElem? (i := 201) rfl) rfl
theorem zc_X4_common : Cond.code yX4_common cX4_common 2 (some FieldType.int) ∈ zTbl := zq3 (List.mem_of_getElem? (i := 202) rfl) rfl
theorem zl_L_75 : Cond.classLink RL 75 RX5 ∈ zTbl := zq3 (List.mem_of_getElem? (i := 204) rfl) rfl
theorem zo_X5 : Cond.instantiable RX5 15 ∈ zTbl := zq3 (List.mem_of_getElem? (i := 205) rfl) rfl
theorem zm_L_77 : Cond.methodLink RL 77 yX5_init ∈ zTbl := zq3 (List.mem_of_getElem? (i := 206) rfl) rfl
theorem zi_X5_init : Cond.instanceMethod yX5_init ∈ zTbl := zq3 (List.mem_of_getElem? (i := 207) rfl) rfl
theorem zc_X5_init : Cond.code yX5_init cX5_init 1 (none : Option FieldType) ∈ zTbl := zq3 (List.mem_of_getElem? (i := 208) rfl) rfl
theorem zm_X5_1 : Cond.methodLink RX5 1 objectInit ∈ zTbl := zq3 (List.mem_of_getElem? (i := 209) rfl) rfl
theorem zf_X5_28 : Cond.fieldLink RX5 28 "ZonePrintModel" "thrown" "I" ∈ zTbl := zq3 (List.mem_of_getElem? (i := 210) rfl) rfl
theorem zf_X5_7 : Cond.fieldLink RX5 7 "ZonePrintModel" "s" "[I" ∈ zTbl := zq3 (List.mem_of_getElem? (i := 211) rfl) rfl
theorem zf_X5_13 : Cond.fieldLink RX5 13 "ZonePrintModel" "aside" "[I" ∈ zTbl := zq3 (List.mem_of_getElem? (i := 212) rfl) rfl
theorem zf_X5_16 : Cond.fieldLink RX5 16 "ZonePrintModel" "saved" "[I" ∈ zTbl := zq3 (List.mem_of_getElem? (i := 213) rfl) rfl
theorem zf_X5_36 : Cond.fieldLink RX5 36 "ZonePrintModel" "savedMany" "I" ∈ zTbl := zq3 (List.mem_of_getElem? (i := 214) rfl) rfl
theorem zf_X5_19 : Cond.fieldLink RX5 19 "ZonePrintModel" "text" "[I" ∈ zTbl := zq3 (List.mem_of_getElem? (i := 215) rfl) rfl
theorem zf_X5_127 : Cond.fieldLink RX5 127 "ZonePrintModel" "length" "I" ∈ zTbl := zq3 (List.mem_of_getElem? (i := 216) rfl) rfl
theorem zf_X5_22 : Cond.fieldLink RX5 22 "ZonePrintModel" "marks" "[I" ∈ zTbl := zq3 (List.mem_of_getElem? (i := 217) rfl) rfl
theorem zf_X5_25 : Cond.fieldLink RX5 25 "ZonePrintModel" "leasts" "[I" ∈ zTbl := zq3 (List.mem_of_getElem? (i := 218) rfl) rfl
theorem zf_X5_130 : Cond.fieldLink RX5 130 "ZonePrintModel" "at" "I" ∈ zTbl := zq3 (List.mem_of_getElem? (i := 219) rfl) rfl
theorem zf_X5_133 : Cond.fieldLink RX5 133 "ZonePrintModel" "isWrong" "Z" ∈ zTbl := zq3 (List.mem_of_getElem? (i := 220) rfl) rfl
theorem zf_X5_140 : Cond.fieldLink RX5 140 "ZonePrintModel" "letter" "I" ∈ zTbl := zq3 (List.mem_of_getElem? (i := 221) rfl) rfl
theorem zf_X5_143 : Cond.fieldLink RX5 143 "ZonePrintModel" "one" "I" ∈ zTbl := zq3 (List.mem_of_getElem? (i := 222) rfl) rfl
theorem zf_X5_146 : Cond.fieldLink RX5 146 "ZonePrintModel" "two" "I" ∈ zTbl := zq3 (List.mem_of_getElem? (i := 223) rfl) rfl
theorem zf_X5_223 : Cond.fieldLink RX5 223 "ZonePrintModel" "digested" "J" ∈ zTbl := zq3 (List.mem_of_getElem? (i := 224) rfl) rfl
theorem zy_765 : Cond.lays "ZonePrintModel" "ZonePrintModel" "thrown" "I" ∈ zTbl := zq3 (List.mem_of_getElem? (i := 225) rfl) rfl
theorem zy_766 : Cond.soleField "ZonePrintModel" "thrown" ∈ zTbl := zq3 (List.mem_of_getElem? (i := 226) rfl) rfl
theorem zy_767 : Cond.laysFinal "ZonePrintModel" "ZonePrintModel" "s" "[I" ∈ zTbl := zq3 (List.mem_of_getElem? (i := 227) rfl) rfl
theorem zy_768 : Cond.soleField "ZonePrintModel" "s" ∈ zTbl := zq3 (List.mem_of_getElem? (i := 228) rfl) rfl
theorem zy_769 : Cond.laysFinal "ZonePrintModel" "ZonePrintModel" "aside" "[I" ∈ zTbl := zq3 (List.mem_of_getElem? (i := 229) rfl) rfl
theorem zy_770 : Cond.soleField "ZonePrintModel" "aside" ∈ zTbl := zq3 (List.mem_of_getElem? (i := 230) rfl) rfl
theorem zy_771 : Cond.laysFinal "ZonePrintModel" "ZonePrintModel" "saved" "[I" ∈ zTbl := zq3 (List.mem_of_getElem? (i := 231) rfl) rfl
theorem zy_772 : Cond.soleField "ZonePrintModel" "saved" ∈ zTbl := zq3 (List.mem_of_getElem? (i := 232) rfl) rfl
theorem zy_773 : Cond.lays "ZonePrintModel" "ZonePrintModel" "savedMany" "I" ∈ zTbl := zq3 (List.mem_of_getElem? (i := 233) rfl) rfl
theorem zy_774 : Cond.soleField "ZonePrintModel" "savedMany" ∈ zTbl := zq3 (List.mem_of_getElem? (i := 234) rfl) rfl
theorem zy_775 : Cond.laysFinal "ZonePrintModel" "ZonePrintModel" "text" "[I" ∈ zTbl := zq3 (List.mem_of_getElem? (i := 235) rfl) rfl
theorem zy_776 : Cond.soleField "ZonePrintModel" "text" ∈ zTbl := zq3 (List.mem_of_getElem? (i := 236) rfl) rfl
theorem zy_777 : Cond.lays "ZonePrintModel" "ZonePrintModel" "length" "I" ∈ zTbl := zq3 (List.mem_of_getElem? (i := 237) rfl) rfl
theorem zy_778 : Cond.soleField "ZonePrintModel" "length" ∈ zTbl := zq3 (List.mem_of_getElem? (i := 238) rfl) rfl
theorem zy_779 : Cond.laysFinal "ZonePrintModel" "ZonePrintModel" "marks" "[I" ∈ zTbl := zq3 (List.mem_of_getElem? (i := 239) rfl) rfl
theorem zy_780 : Cond.soleField "ZonePrintModel" "marks" ∈ zTbl := zq4 (List.mem_of_getElem? (i := 0) rfl) rfl
theorem zy_781 : Cond.laysFinal "ZonePrintModel" "ZonePrintModel" "leasts" "[I" ∈ zTbl := zq4 (List.mem_of_getElem? (i := 1) rfl) rfl
theorem zy_782 : Cond.soleField "ZonePrintModel" "leasts" ∈ zTbl := zq4 (List.mem_of_getElem? (i := 2) rfl) rfl
theorem zy_783 : Cond.lays "ZonePrintModel" "ZonePrintModel" "at" "I" ∈ zTbl := zq4 (List.mem_of_getElem? (i := 3) rfl) rfl
theorem zy_784 : Cond.soleField "ZonePrintModel" "at" ∈ zTbl := zq4 (List.mem_of_getElem? (i := 4) rfl) rfl
theorem zy_785 : Cond.lays "ZonePrintModel" "ZonePrintModel" "isWrong" "Z" ∈ zTbl := zq4 (List.mem_of_getElem? (i := 5) rfl) rfl
theorem zy_786 : Cond.soleField "ZonePrintModel" "isWrong" ∈ zTbl := zq4 (List.mem_of_getElem? (i := 6) rfl) rfl
theorem zy_787 : Cond.lays "ZonePrintModel" "ZonePrintModel" "letter" "I" ∈ zTbl := zq4 (List.mem_of_getElem? (i := 7) rfl) rfl
theorem zy_788 : Cond.soleField "ZonePrintModel" "letter" ∈ zTbl := zq4 (List.mem_of_getElem? (i := 8) rfl) rfl
theorem zy_789 : Cond.lays "ZonePrintModel" "ZonePrintModel" "one" "I" ∈ zTbl := zq4 (List.mem_of_getElem? (i := 9) rfl) rfl
theorem zy_790 : Cond.soleField "ZonePrintModel" "one" ∈ zTbl := zq4 (List.mem_of_getElem? (i := 10) rfl) rfl
theorem zy_791 : Cond.lays "ZonePrintModel" "ZonePrintModel" "two" "I" ∈ zTbl := zq4 (List.mem_of_getElem? (i := 11) rfl) rfl
theorem zy_792 : Cond.soleField "ZonePrintModel" "two" ∈ zTbl := zq4 (List.mem_of_getElem? (i := 12) rfl) rfl
theorem zy_793 : Cond.lays "ZonePrintModel" "ZonePrintModel" "digested" "J" ∈ zTbl := zq4 (List.mem_of_getElem? (i := 13) rfl) rfl
theorem zy_794 : Cond.soleField "ZonePrintModel" "digested" ∈ zTbl := zq4 (List.mem_of_getElem? (i := 14) rfl) rfl
theorem zm_L_84 : Cond.methodLink RL 84 yX5_thrown ∈ zTbl := zq4 (List.mem_of_getElem? (i := 16) rfl) rfl
theorem zi_X5_thrown : Cond.instanceMethod yX5_thrown ∈ zTbl := zq4 (List.mem_of_getElem? (i := 17) rfl) rfl
theorem zs_X5_thrown : Cond.selects RX5 yX5_thrown yX5_thrown ∈ zTbl := zq4 (List.mem_of_getElem? (i := 18) rfl) rfl
theorem zc_X5_thrown : Cond.code yX5_thrown cX5_thrown 1 (some FieldType.int) ∈ zTbl := zq4 (List.mem_of_getElem? (i := 19) rfl) rfl
theorem zm_L_83 : Cond.methodLink RL 83 yX5_zone ∈ zTbl := zq4 (List.mem_of_getElem? (i := 20) rfl) rfl
theorem zi_X5_zone : Cond.instanceMethod yX5_zone ∈ zTbl := zq4 (List.mem_of_getElem? (i := 21) rfl) rfl
theorem zs_X5_zone : Cond.selects RX5 yX5_zone yX5_zone ∈ zTbl := zq4 (List.mem_of_getElem? (i := 22) rfl) rfl
theorem zc_X5_zone : Cond.code yX5_zone cX5_zone 3 (some FieldType.int) ∈ zTbl := zq4 (List.mem_of_getElem? (i := 23) rfl) rfl
theorem zm_X5_84 : Cond.methodLink RX5 84 yX5_zoneFault ∈ zTbl := zq4 (List.mem_of_getElem? (i := 24) rfl) rfl
theorem zi_X5_zoneFault : Cond.instanceMethod yX5_zoneFault ∈ zTbl := zq4 (List.mem_of_getElem? (i := 26) rfl) rfl
theorem zc_X5_zoneFault : Cond.code yX5_zoneFault cX5_zoneFault 3 (some FieldType.int) ∈ zTbl := zq4 (List.mem_of_getElem? (i := 27) rfl) rfl
theorem zm_X5_32 : Cond.methodLink RX5 32 yX5_in ∈ zTbl := zq4 (List.mem_of_getElem? (i := 28) rfl) rfl
theorem zt_X5_in : Cond.static yX5_in ∈ zTbl := zq4 (List.mem_of_getElem? (i := 29) rfl) rfl
theorem zc_X5_in : Cond.code yX5_in cX5_in 3 (some FieldType.boolean) ∈ zTbl := zq4 (List.mem_of_getElem? (i := 30) rfl) rfl
theorem zm_X5_87 : Cond.methodLink RX5 87 yX5_holds ∈ zTbl := zq4 (List.mem_of_getElem? (i := 31) rfl) rfl
theorem zi_X5_holds : Cond.instanceMethod yX5_holds ∈ zTbl := zq4 (List.mem_of_getElem? (i := 33) rfl) rfl
theorem zc_X5_holds : Cond.code yX5_holds cX5_holds 2 (some FieldType.boolean) ∈ zTbl := zq4 (List.mem_of_getElem? (i := 34) rfl) rfl
theorem zm_X5_90 : Cond.methodLink RX5 90 yX5_save ∈ zTbl := zq4 (List.mem_of_getElem? (i := 35) rfl) rfl
theorem zi_X5_save : Cond.instanceMethod yX5_save ∈ zTbl := zq4 (List.mem_of_getElem? (i := 37) rfl) rfl
theorem zc_X5_save : Cond.code yX5_save cX5_save 2 (none : Option FieldType) ∈ zTbl := zq4 (List.mem_of_getElem? (i := 38) rfl) rfl
theorem zm_X5_93 : Cond.methodLink RX5 93 yX5_zones ∈ zTbl := zq4 (List.mem_of_getElem? (i := 39) rfl) rfl
theorem zi_X5_zones : Cond.instanceMethod yX5_zones ∈ zTbl := zq4 (List.mem_of_getElem? (i := 41) rfl) rfl
theorem zc_X5_zones : Cond.code yX5_zones cX5_zones 4 (some FieldType.int) ∈ zTbl := zq4 (List.mem_of_getElem? (i := 42) rfl) rfl
theorem zm_X5_51 : Cond.methodLink RX5 51 yX5_of ∈ zTbl := zq4 (List.mem_of_getElem? (i := 43) rfl) rfl
theorem zt_X5_of : Cond.static yX5_of ∈ zTbl := zq4 (List.mem_of_getElem? (i := 44) rfl) rfl
theorem zc_X5_of : Cond.code yX5_of cX5_of 2 (some FieldType.int) ∈ zTbl := zq4 (List.mem_of_getElem? (i := 45) rfl) rfl
theorem zm_L_89 : Cond.methodLink RL 89 yX5_want ∈ zTbl := zq4 (List.mem_of_getElem? (i := 46) rfl) rfl
theorem zi_X5_want : Cond.instanceMethod yX5_want ∈ zTbl := zq4 (List.mem_of_getElem? (i := 47) rfl) rfl
theorem zs_X5_want : Cond.selects RX5 yX5_want yX5_want ∈ zTbl := zq4 (List.mem_of_getElem? (i := 48) rfl) rfl
theorem zc_X5_want : Cond.code yX5_want cX5_want 4 (some FieldType.int) ∈ zTbl := zq4 (List.mem_of_getElem? (i := 49) rfl) rfl
theorem zm_X5_96 : Cond.methodLink RX5 96 yX5_isZone ∈ zTbl := zq4 (List.mem_of_getElem? (i := 50) rfl) rfl
theorem zi_X5_isZone : Cond.instanceMethod yX5_isZone ∈ zTbl := zq4 (List.mem_of_getElem? (i := 52) rfl) rfl
theorem zc_X5_isZone : Cond.code yX5_isZone cX5_isZone 2 (some FieldType.boolean) ∈ zTbl := zq4 (List.mem_of_getElem? (i := 53) rfl) rfl
theorem zm_L_92 : Cond.methodLink RL 92 yX5_link ∈ zTbl := zq4 (List.mem_of_getElem? (i := 54) rfl) rfl
theorem zi_X5_link : Cond.instanceMethod yX5_link ∈ zTbl := zq4 (List.mem_of_getElem? (i := 55) rfl) rfl
theorem zs_X5_link : Cond.selects RX5 yX5_link yX5_link ∈ zTbl := zq4 (List.mem_of_getElem? (i := 56) rfl) rfl
theorem zc_X5_link : Cond.code yX5_link cX5_link 3 (some FieldType.int) ∈ zTbl := zq4 (List.mem_of_getElem? (i := 57) rfl) rfl
theorem zm_X5_99 : Cond.methodLink RX5 99 yX5_turnLink ∈ zTbl := zq4 (List.mem_of_getElem? (i := 58) rfl) rfl
theorem zi_X5_turnLink : Cond.instanceMethod yX5_turnLink ∈ zTbl := zq4 (List.mem_of_getElem? (i := 60) rfl) rfl
theorem zc_X5_turnLink : Cond.code yX5_turnLink cX5_turnLink 3 (none : Option FieldType) ∈ zTbl := zq4 (List.mem_of_getElem? (i := 61) rfl) rfl
theorem zm_X5_103 : Cond.methodLink RX5 103 yX5_areLinked ∈ zTbl := zq4 (List.mem_of_getElem? (i := 62) rfl) rfl
theorem zi_X5_areLinked : Cond.instanceMethod yX5_areLinked ∈ zTbl := zq4 (List.mem_of_getElem? (i := 64) rfl) rfl
theorem zc_X5_areLinked : Cond.code yX5_areLinked cX5_areLinked 3 (some FieldType.boolean) ∈ zTbl := zq4 (List.mem_of_getElem? (i := 65) rfl) rfl
theorem zm_L_96 : Cond.methodLink RL 96 yX5_expose ∈ zTbl := zq4 (List.mem_of_getElem? (i := 66) rfl) rfl
theorem zi_X5_expose : Cond.instanceMethod yX5_expose ∈ zTbl := zq4 (List.mem_of_getElem? (i := 67) rfl) rfl
theorem zs_X5_expose : Cond.selects RX5 yX5_expose yX5_expose ∈ zTbl := zq4 (List.mem_of_getElem? (i := 68) rfl) rfl
theorem zc_X5_expose : Cond.code yX5_expose cX5_expose 2 (some FieldType.int) ∈ zTbl := zq4 (List.mem_of_getElem? (i := 69) rfl) rfl
theorem zm_X5_111 : Cond.methodLink RX5 111 yX5_exposes ∈ zTbl := zq4 (List.mem_of_getElem? (i := 70) rfl) rfl
theorem zi_X5_exposes : Cond.instanceMethod yX5_exposes ∈ zTbl := zq4 (List.mem_of_getElem? (i := 72) rfl) rfl
theorem zc_X5_exposes : Cond.code yX5_exposes cX5_exposes 2 (some FieldType.int) ∈ zTbl := zq4 (List.mem_of_getElem? (i := 73) rfl) rfl
theorem zm_X5_107 : Cond.methodLink RX5 107 yX5_right ∈ zTbl := zq4 (List.mem_of_getElem? (i := 74) rfl) rfl
theorem zi_X5_right : Cond.instanceMethod yX5_right ∈ zTbl := zq4 (List.mem_of_getElem? (i := 76) rfl) rfl
theorem zc_X5_right : Cond.code yX5_right cX5_right 3 (some FieldType.int) ∈ zTbl := zq4 (List.mem_of_getElem? (i := 77) rfl) rfl
theorem zm_X5_74 : Cond.methodLink RX5 74 yX5_isRight ∈ zTbl := zq4 (List.mem_of_getElem? (i := 78) rfl) rfl
theorem zi_X5_isRight : Cond.instanceMethod yX5_isRight ∈ zTbl := zq4 (List.mem_of_getElem? (i := 80) rfl) rfl
theorem zc_X5_isRight : Cond.code yX5_isRight cX5_isRight 2 (some FieldType.boolean) ∈ zTbl := zq4 (List.mem_of_getElem? (i := 81) rfl) rfl
theorem zm_X5_71 : Cond.methodLink RX5 71 yX5_tone ∈ zTbl := zq4 (List.mem_of_getElem? (i := 82) rfl) rfl
theorem zi_X5_tone : Cond.instanceMethod yX5_tone ∈ zTbl := zq4 (List.mem_of_getElem? (i := 84) rfl) rfl
theorem zc_X5_tone : Cond.code yX5_tone cX5_tone 2 (some FieldType.int) ∈ zTbl := zq4 (List.mem_of_getElem? (i := 85) rfl) rfl
theorem zm_X5_65 : Cond.methodLink RX5 65 yX5_timeOf ∈ zTbl := zq4 (List.mem_of_getElem? (i := 86) rfl) rfl
theorem zi_X5_timeOf : Cond.instanceMethod yX5_timeOf ∈ zTbl := zq4 (List.mem_of_getElem? (i := 88) rfl) rfl
theorem zc_X5_timeOf : Cond.code yX5_timeOf cX5_timeOf 4 (some FieldType.int) ∈ zTbl := zq4 (List.mem_of_getElem? (i := 89) rfl) rfl
theorem zm_X5_62 : Cond.methodLink RX5 62 yX5_spilled ∈ zTbl := zq4 (List.mem_of_getElem? (i := 90) rfl) rfl
theorem zi_X5_spilled : Cond.instanceMethod yX5_spilled ∈ zTbl := zq4 (List.mem_of_getElem? (i := 92) rfl) rfl
theorem zc_X5_spilled : Cond.code yX5_spilled cX5_spilled 4 (some FieldType.int) ∈ zTbl := zq4 (List.mem_of_getElem? (i := 93) rfl) rfl
theorem zm_X5_68 : Cond.methodLink RX5 68 yX5_toneBy ∈ zTbl := zq4 (List.mem_of_getElem? (i := 94) rfl) rfl
theorem zi_X5_toneBy : Cond.instanceMethod yX5_toneBy ∈ zTbl := zq4 (List.mem_of_getElem? (i := 96) rfl) rfl
theorem zc_X5_toneBy : Cond.code yX5_toneBy cX5_toneBy 3 (some FieldType.int) ∈ zTbl := zq4 (List.mem_of_getElem? (i := 97) rfl) rfl
theorem zm_X5_55 : Cond.methodLink RX5 55 yX5_lightOf ∈ zTbl := zq4 (List.mem_of_getElem? (i := 98) rfl) rfl
theorem zt_X5_lightOf : Cond.static yX5_lightOf ∈ zTbl := zq4 (List.mem_of_getElem? (i := 99) rfl) rfl
theorem zc_X5_lightOf : Cond.code yX5_lightOf cX5_lightOf 6 (some FieldType.int) ∈ zTbl := zq4 (List.mem_of_getElem? (i := 100) rfl) rfl
theorem zk_X5_39 : Cond.constant RX5 39 (100000) ∈ zTbl := zq4 (List.mem_of_getElem? (i := 101) rfl) rfl
theorem zk_X5_40 : Cond.constant RX5 40 (79370) ∈ zTbl := zq4 (List.mem_of_getElem? (i := 102) rfl) rfl
theorem zk_X5_41 : Cond.constant RX5 41 (63000) ∈ zTbl := zq4 (List.mem_of_getElem? (i := 103) rfl) rfl
theorem zk_X5_42 : Cond.constantLong RX5 42 (2) ∈ zTbl := zq4 (List.mem_of_getElem? (i := 104) rfl) rfl
theorem zk_X5_44 : Cond.constantLong RX5 44 (100) ∈ zTbl := zq4 (List.mem_of_getElem? (i := 105) rfl) rfl
theorem zm_X5_58 : Cond.methodLink RX5 58 yX5_toneOf ∈ zTbl := zq4 (List.mem_of_getElem? (i := 106) rfl) rfl
theorem zi_X5_toneOf : Cond.instanceMethod yX5_toneOf ∈ zTbl := zq4 (List.mem_of_getElem? (i := 108) rfl) rfl
theorem zc_X5_toneOf : Cond.code yX5_toneOf cX5_toneOf 4 (some FieldType.int) ∈ zTbl := zq4 (List.mem_of_getElem? (i := 109) rfl) rfl
theorem zm_X5_48 : Cond.methodLink RX5 48 yX5_findMarks ∈ zTbl := zq4 (List.mem_of_getElem? (i := 110) rfl) rfl
theorem zi_X5_findMarks : Cond.instanceMethod yX5_findMarks ∈ zTbl := zq4 (List.mem_of_getElem? (i := 112) rfl) rfl
theorem zc_X5_findMarks : Cond.code yX5_findMarks cX5_findMarks 5 (none : Option FieldType) ∈ zTbl := zq4 (List.mem_of_getElem? (i := 113) rfl) rfl
theorem zk_X5_46 : Cond.constantLong RX5 46 (1000) ∈ zTbl := zq4 (List.mem_of_getElem? (i := 114) rfl) rfl
theorem zm_L_99 : Cond.methodLink RL 99 yX5_burn ∈ zTbl := zq4 (List.mem_of_getElem? (i := 115) rfl) rfl
theorem zi_X5_burn : Cond.instanceMethod yX5_burn ∈ zTbl := zq4 (List.mem_of_getElem? (i := 116) rfl) rfl
theorem zs_X5_burn : Cond.selects RX5 yX5_burn yX5_burn ∈ zTbl := zq4 (List.mem_of_getElem? (i := 117) rfl) rfl
theorem zc_X5_burn : Cond.code yX5_burn cX5_burn 3 (some FieldType.int) ∈ zTbl := zq4 (List.mem_of_getElem? (i := 118) rfl) rfl
theorem zm_X5_114 : Cond.methodLink RX5 114 yX5_partFault ∈ zTbl := zq4 (List.mem_of_getElem? (i := 119) rfl) rfl
theorem zi_X5_partFault : Cond.instanceMethod yX5_partFault ∈ zTbl := zq4 (List.mem_of_getElem? (i := 121) rfl) rfl
theorem zc_X5_partFault : Cond.code yX5_partFault cX5_partFault 3 (some FieldType.int) ∈ zTbl := zq4 (List.mem_of_getElem? (i := 122) rfl) rfl
theorem zm_X5_117 : Cond.methodLink RX5 117 yX5_parts ∈ zTbl := zq4 (List.mem_of_getElem? (i := 123) rfl) rfl
theorem zi_X5_parts : Cond.instanceMethod yX5_parts ∈ zTbl := zq4 (List.mem_of_getElem? (i := 125) rfl) rfl
theorem zc_X5_parts : Cond.code yX5_parts cX5_parts 4 (some FieldType.int) ∈ zTbl := zq4 (List.mem_of_getElem? (i := 126) rfl) rfl
theorem zm_L_102 : Cond.methodLink RL 102 yX5_hold ∈ zTbl := zq4 (List.mem_of_getElem? (i := 127) rfl) rfl
theorem zi_X5_hold : Cond.instanceMethod yX5_hold ∈ zTbl := zq4 (List.mem_of_getElem? (i := 128) rfl) rfl
theorem zs_X5_hold : Cond.selects RX5 yX5_hold yX5_hold ∈ zTbl := zq4 (List.mem_of_getElem? (i := 129) rfl) rfl
theorem zc_X5_hold : Cond.code yX5_hold cX5_hold 3 (some FieldType.int) ∈ zTbl := zq4 (List.mem_of_getElem? (i := 130) rfl) rfl
theorem zm_L_105 : Cond.methodLink RL 105 yX5_paper ∈ zTbl := zq4 (List.mem_of_getElem? (i := 131) rfl) rfl
theorem zi_X5_paper : Cond.instanceMethod yX5_paper ∈ zTbl := zq4 (List.mem_of_getElem? (i := 132) rfl) rfl
theorem zs_X5_paper : Cond.selects RX5 yX5_paper yX5_paper ∈ zTbl := zq4 (List.mem_of_getElem? (i := 133) rfl) rfl
theorem zc_X5_paper : Cond.code yX5_paper cX5_paper 3 (some FieldType.int) ∈ zTbl := zq4 (List.mem_of_getElem? (i := 134) rfl) rfl
theorem zm_L_109 : Cond.methodLink RL 109 yX5_plan ∈ zTbl := zq4 (List.mem_of_getElem? (i := 135) rfl) rfl
theorem zi_X5_plan : Cond.instanceMethod yX5_plan ∈ zTbl := zq4 (List.mem_of_getElem? (i := 136) rfl) rfl
theorem zs_X5_plan : Cond.selects RX5 yX5_plan yX5_plan ∈ zTbl := zq4 (List.mem_of_getElem? (i := 137) rfl) rfl
theorem zc_X5_plan : Cond.code yX5_plan cX5_plan 1 (some FieldType.int) ∈ zTbl := zq4 (List.mem_of_getElem? (i := 138) rfl) rfl
theorem zm_X5_124 : Cond.methodLink RX5 124 yX5_plans ∈ zTbl := zq4 (List.mem_of_getElem? (i := 139) rfl) rfl
theorem zi_X5_plans : Cond.instanceMethod yX5_plans ∈ zTbl := zq4 (List.mem_of_getElem? (i := 141) rfl) rfl
theorem zc_X5_plans : Cond.code yX5_plans cX5_plans 6 (some FieldType.int) ∈ zTbl := zq4 (List.mem_of_getElem? (i := 142) rfl) rfl
theorem zm_X5_121 : Cond.methodLink RX5 121 yX5_middleTime ∈ zTbl := zq4 (List.mem_of_getElem? (i := 143) rfl) rfl
theorem zi_X5_middleTime : Cond.instanceMethod yX5_middleTime ∈ zTbl := zq4 (List.mem_of_getElem? (i := 145) rfl) rfl
theorem zc_X5_middleTime : Cond.code yX5_middleTime cX5_middleTime 5 (some FieldType.int) ∈ zTbl := zq4 (List.mem_of_getElem? (i := 146) rfl) rfl
theorem zm_X5_81 : Cond.methodLink RX5 81 yX5_leastNeeded ∈ zTbl := zq4 (List.mem_of_getElem? (i := 147) rfl) rfl
theorem zi_X5_leastNeeded : Cond.instanceMethod yX5_leastNeeded ∈ zTbl := zq4 (List.mem_of_getElem? (i := 149) rfl) rfl
theorem zc_X5_leastNeeded : Cond.code yX5_leastNeeded cX5_leastNeeded 3 (some FieldType.int) ∈ zTbl := zq4 (List.mem_of_getElem? (i := 150) rfl) rfl
theorem zm_X5_78 : Cond.methodLink RX5 78 yX5_leastFor ∈ zTbl := zq4 (List.mem_of_getElem? (i := 151) rfl) rfl
theorem zi_X5_leastFor : Cond.instanceMethod yX5_leastFor ∈ zTbl := zq4 (List.mem_of_getElem? (i := 153) rfl) rfl
theorem zc_X5_leastFor : Cond.code yX5_leastFor cX5_leastFor 6 (some FieldType.int) ∈ zTbl := zq4 (List.mem_of_getElem? (i := 154) rfl) rfl
theorem zm_L_112 : Cond.methodLink RL 112 yX5_set ∈ zTbl := zq4 (List.mem_of_getElem? (i := 155) rfl) rfl
theorem zi_X5_set : Cond.instanceMethod yX5_set ∈ zTbl := zq4 (List.mem_of_getElem? (i := 156) rfl) rfl
theorem zs_X5_set : Cond.selects RX5 yX5_set yX5_set ∈ zTbl := zq4 (List.mem_of_getElem? (i := 157) rfl) rfl
theorem zc_X5_set : Cond.code yX5_set cX5_set 3 (some FieldType.int) ∈ zTbl := zq4 (List.mem_of_getElem? (i := 158) rfl) rfl
theorem zm_L_115 : Cond.methodLink RL 115 yX5_append ∈ zTbl := zq4 (List.mem_of_getElem? (i := 159) rfl) rfl
theorem zi_X5_append : Cond.instanceMethod yX5_append ∈ zTbl := zq4 (List.mem_of_getElem? (i := 160) rfl) rfl
theorem zs_X5_append : Cond.selects RX5 yX5_append yX5_append ∈ zTbl := zq4 (List.mem_of_getElem? (i := 161) rfl) rfl
theorem zc_X5_append : Cond.code yX5_append cX5_append 2 (some FieldType.int) ∈ zTbl := zq4 (List.mem_of_getElem? (i := 162) rfl) rfl
theorem zm_L_119 : Cond.methodLink RL 119 yX5_clearBuffer ∈ zTbl := zq4 (List.mem_of_getElem? (i := 163) rfl) rfl
theorem zi_X5_clearBuffer : Cond.instanceMethod yX5_clearBuffer ∈ zTbl := zq4 (List.mem_of_getElem? (i := 164) rfl) rfl
theorem zs_X5_clearBuffer : Cond.selects RX5 yX5_clearBuffer yX5_clearBuffer ∈ zTbl := zq4 (List.mem_of_getElem? (i := 165) rfl) rfl
theorem zc_X5_clearBuffer : Cond.code yX5_clearBuffer cX5_clearBuffer 2 (some FieldType.int) ∈ zTbl := zq4 (List.mem_of_getElem? (i := 166) rfl) rfl
theorem zm_L_123 : Cond.methodLink RL 123 yX5_firstError ∈ zTbl := zq4 (List.mem_of_getElem? (i := 167) rfl) rfl
theorem zi_X5_firstError : Cond.instanceMethod yX5_firstError ∈ zTbl := zq4 (List.mem_of_getElem? (i := 168) rfl) rfl
theorem zs_X5_firstError : Cond.selects RX5 yX5_firstError yX5_firstError ∈ zTbl := zq4 (List.mem_of_getElem? (i := 169) rfl) rfl
theorem zc_X5_firstError : Cond.code yX5_firstError cX5_firstError 2 (some FieldType.int) ∈ zTbl := zq4 (List.mem_of_getElem? (i := 170) rfl) rfl
theorem zm_X5_159 : Cond.methodLink RX5 159 yX5_go ∈ zTbl := zq4 (List.mem_of_getElem? (i := 171) rfl) rfl
theorem zi_X5_go : Cond.instanceMethod yX5_go ∈ zTbl := zq4 (List.mem_of_getElem? (i := 173) rfl) rfl
theorem zc_X5_go : Cond.code yX5_go cX5_go 6 (some FieldType.int) ∈ zTbl := zq4 (List.mem_of_getElem? (i := 174) rfl) rfl
theorem zm_X5_152 : Cond.methodLink RX5 152 yX5_order ∈ zTbl := zq4 (List.mem_of_getElem? (i := 175) rfl) rfl
theorem zi_X5_order : Cond.instanceMethod yX5_order ∈ zTbl := zq4 (List.mem_of_getElem? (i := 177) rfl) rfl
theorem zc_X5_order : Cond.code yX5_order cX5_order 3 (none : Option FieldType) ∈ zTbl := zq4 (List.mem_of_getElem? (i := 178) rfl) rfl
theorem zm_X5_149 : Cond.methodLink RX5 149 yX5_number ∈ zTbl := zq4 (List.mem_of_getElem? (i := 179) rfl) rfl
theorem zi_X5_number : Cond.instanceMethod yX5_number ∈ zTbl := zq4 (List.mem_of_getElem? (i := 181) rfl) rfl
theorem zc_X5_number : Cond.code yX5_number cX5_number 4 (some FieldType.int) ∈ zTbl := zq4 (List.mem_of_getElem? (i := 182) rfl) rfl
theorem zm_X5_137 : Cond.methodLink RX5 137 yX5_sign ∈ zTbl := zq4 (List.mem_of_getElem? (i := 183) rfl) rfl
theorem zi_X5_sign : Cond.instanceMethod yX5_sign ∈ zTbl := zq4 (List.mem_of_getElem? (i := 185) rfl) rfl
theorem zc_X5_sign : Cond.code yX5_sign cX5_sign 4 (some FieldType.int) ∈ zTbl := zq4 (List.mem_of_getElem? (i := 186) rfl) rfl
theorem zm_X5_155 : Cond.methodLink RX5 155 yX5_does ∈ zTbl := zq4 (List.mem_of_getElem? (i := 187) rfl) rfl
theorem zi_X5_does : Cond.instanceMethod yX5_does ∈ zTbl := zq4 (List.mem_of_getElem? (i := 189) rfl) rfl
theorem zc_X5_does : Cond.code yX5_does cX5_does 3 (some FieldType.boolean) ∈ zTbl := zq4 (List.mem_of_getElem? (i := 190) rfl) rfl
theorem zm_L_127 : Cond.methodLink RL 127 yX5_run ∈ zTbl := zq4 (List.mem_of_getElem? (i := 191) rfl) rfl
theorem zi_X5_run : Cond.instanceMethod yX5_run ∈ zTbl := zq4 (List.mem_of_getElem? (i := 192) rfl) rfl
theorem zs_X5_run : Cond.selects RX5 yX5_run yX5_run ∈ zTbl := zq4 (List.mem_of_getElem? (i := 193) rfl) rfl
theorem zc_X5_run : Cond.code yX5_run cX5_run 3 (some FieldType.int) ∈ zTbl := zq4 (List.mem_of_getElem? (i := 194) rfl) rfl
theorem zm_L_130 : Cond.methodLink RL 130 yX5_undo ∈ zTbl := zq4 (List.mem_of_getElem? (i := 195) rfl) rfl
theorem zi_X5_undo : Cond.instanceMethod yX5_undo ∈ zTbl := zq4 (List.mem_of_getElem? (i := 196) rfl) rfl
theorem zs_X5_undo : Cond.selects RX5 yX5_undo yX5_undo ∈ zTbl := zq4 (List.mem_of_getElem? (i := 197) rfl) rfl
theorem zc_X5_undo : Cond.code yX5_undo cX5_undo 2 (some FieldType.int) ∈ zTbl := zq4 (List.mem_of_getElem? (i := 198) rfl) rfl
theorem zm_L_133 : Cond.methodLink RL 133 yX5_zoneOf ∈ zTbl := zq4 (List.mem_of_getElem? (i := 199) rfl) rfl
theorem zi_X5_zoneOf : Cond.instanceMethod yX5_zoneOf ∈ zTbl := zq4 (List.mem_of_getElem? (i := 200) rfl) rfl
theorem zs_X5_zoneOf : Cond.selects RX5 yX5_zoneOf yX5_zoneOf ∈ zTbl := zq4 (List.mem_of_getElem? (i := 201) rfl) rfl
theorem zc_X5_zoneOf : Cond.code yX5_zoneOf cX5_zoneOf 3 (some FieldType.int) ∈ zTbl := zq4 (List.mem_of_getElem? (i := 202) rfl) rfl
theorem zm_X5_166 : Cond.methodLink RX5 166 yX5_ofZone ∈ zTbl := zq4 (List.mem_of_getElem? (i := 203) rfl) rfl
theorem zi_X5_ofZone : Cond.instanceMethod yX5_ofZone ∈ zTbl := zq4 (List.mem_of_getElem? (i := 205) rfl) rfl
theorem zc_X5_ofZone : Cond.code yX5_ofZone cX5_ofZone 3 (some FieldType.int) ∈ zTbl := zq4 (List.mem_of_getElem? (i := 206) rfl) rfl
theorem zm_X5_163 : Cond.methodLink RX5 163 yX5_greatestNeeded ∈ zTbl := zq4 (List.mem_of_getElem? (i := 207) rfl) rfl
theorem zi_X5_greatestNeeded : Cond.instanceMethod yX5_greatestNeeded ∈ zTbl := zq4 (List.mem_of_getElem? (i := 209) rfl) rfl
theorem zc_X5_greatestNeeded : Cond.code yX5_greatestNeeded cX5_greatestNeeded 2 (some FieldType.int) ∈ zTbl := zq4 (List.mem_of_getElem? (i := 210) rfl) rfl
theorem zm_L_136 : Cond.methodLink RL 136 yX5_mark ∈ zTbl := zq4 (List.mem_of_getElem? (i := 211) rfl) rfl
theorem zi_X5_mark : Cond.instanceMethod yX5_mark ∈ zTbl := zq4 (List.mem_of_getElem? (i := 212) rfl) rfl
theorem zs_X5_mark : Cond.selects RX5 yX5_mark yX5_mark ∈ zTbl := zq4 (List.mem_of_getElem? (i := 213) rfl) rfl
theorem zc_X5_mark : Cond.code yX5_mark cX5_mark 2 (some FieldType.int) ∈ zTbl := zq4 (List.mem_of_getElem? (i := 214) rfl) rfl
theorem zm_X5_169 : Cond.methodLink RX5 169 yX5_markOf ∈ zTbl := zq4 (List.mem_of_getElem? (i := 215) rfl) rfl
theorem zi_X5_markOf : Cond.instanceMethod yX5_markOf ∈ zTbl := zq4 (List.mem_of_getElem? (i := 217) rfl) rfl
theorem zc_X5_markOf : Cond.code yX5_markOf cX5_markOf 2 (some FieldType.int) ∈ zTbl := zq4 (List.mem_of_getElem? (i := 218) rfl) rfl
theorem zm_L_140 : Cond.methodLink RL 140 yX5_strip ∈ zTbl := zq4 (List.mem_of_getElem? (i := 219) rfl) rfl
theorem zi_X5_strip : Cond.instanceMethod yX5_strip ∈ zTbl := zq4 (List.mem_of_getElem? (i := 220) rfl) rfl
theorem zs_X5_strip : Cond.selects RX5 yX5_strip yX5_strip ∈ zTbl := zq4 (List.mem_of_getElem? (i := 221) rfl) rfl
theorem zc_X5_strip : Cond.code yX5_strip cX5_strip 6 (some FieldType.int) ∈ zTbl := zq4 (List.mem_of_getElem? (i := 222) rfl) rfl
theorem zm_X5_175 : Cond.methodLink RX5 175 yX5_stripOf ∈ zTbl := zq4 (List.mem_of_getElem? (i := 223) rfl) rfl
theorem zi_X5_stripOf : Cond.instanceMethod yX5_stripOf ∈ zTbl := zq4 (List.mem_of_getElem? (i := 225) rfl) rfl
theorem zc_X5_stripOf : Cond.code yX5_stripOf cX5_stripOf 10 (some FieldType.int) ∈ zTbl := zq4 (List.mem_of_getElem? (i := 226) rfl) rfl
theorem zm_X5_172 : Cond.methodLink RX5 172 yX5_stripTime ∈ zTbl := zq4 (List.mem_of_getElem? (i := 227) rfl) rfl
theorem zt_X5_stripTime : Cond.static yX5_stripTime ∈ zTbl := zq4 (List.mem_of_getElem? (i := 228) rfl) rfl
theorem zc_X5_stripTime : Cond.code yX5_stripTime cX5_stripTime 3 (some FieldType.int) ∈ zTbl := zq4 (List.mem_of_getElem? (i := 229) rfl) rfl
theorem zm_L_143 : Cond.methodLink RL 143 yX5_count ∈ zTbl := zq4 (List.mem_of_getElem? (i := 230) rfl) rfl
theorem zi_X5_count : Cond.instanceMethod yX5_count ∈ zTbl := zq4 (List.mem_of_getElem? (i := 231) rfl) rfl
theorem zs_X5_count : Cond.selects RX5 yX5_count yX5_count ∈ zTbl := zq4 (List.mem_of_getElem? (i := 232) rfl) rfl
theorem zc_X5_count : Cond.code yX5_count cX5_count 2 (some FieldType.int) ∈ zTbl := zq4 (List.mem_of_getElem? (i := 233) rfl) rfl
theorem zm_X5_182 : Cond.methodLink RX5 182 yX5_counted ∈ zTbl := zq4 (List.mem_of_getElem? (i := 234) rfl) rfl
theorem zi_X5_counted : Cond.instanceMethod yX5_counted ∈ zTbl := zq4 (List.mem_of_getElem? (i := 236) rfl) rfl
theorem zc_X5_counted : Cond.code yX5_counted cX5_counted 2 (some FieldType.int) ∈ zTbl := zq4 (List.mem_of_getElem? (i := 237) rfl) rfl
theorem zm_X5_179 : Cond.methodLink RX5 179 yX5_sum ∈ zTbl := zq4 (List.mem_of_getElem? (i := 238) rfl) rfl
theorem zi_X5_sum : Cond.instanceMethod yX5_sum ∈ zTbl := zq5 (List.mem_of_getElem? (i := 0) rfl) rfl
theorem zc_X5_sum : Cond.code yX5_sum cX5_sum 7 (some FieldType.int) ∈ zTbl := zq5 (List.mem_of_getElem? (i := 1) rfl) rfl
theorem zm_L_146 : Cond.methodLink RL 146 yX5_ifExposed ∈ zTbl := zq5 (List.mem_of_getElem? (i := 2) rfl) rfl
theorem zi_X5_ifExposed : Cond.instanceMethod yX5_ifExposed ∈ zTbl := zq5 (List.mem_of_getElem? (i := 3) rfl) rfl
theorem zs_X5_ifExposed : Cond.selects RX5 yX5_ifExposed yX5_ifExposed ∈ zTbl := zq5 (List.mem_of_getElem? (i := 4) rfl) rfl
theorem zc_X5_ifExposed : Cond.code yX5_ifExposed cX5_ifExposed 3 (some FieldType.int) ∈ zTbl := zq5 (List.mem_of_getElem? (i := 5) rfl) rfl
theorem zm_X5_188 : Cond.methodLink RX5 188 yX5_exposed ∈ zTbl := zq5 (List.mem_of_getElem? (i := 6) rfl) rfl
theorem zi_X5_exposed : Cond.instanceMethod yX5_exposed ∈ zTbl := zq5 (List.mem_of_getElem? (i := 8) rfl) rfl
theorem zc_X5_exposed : Cond.code yX5_exposed cX5_exposed 5 (some FieldType.int) ∈ zTbl := zq5 (List.mem_of_getElem? (i := 9) rfl) rfl
theorem zm_X5_185 : Cond.methodLink RX5 185 yX5_off ∈ zTbl := zq5 (List.mem_of_getElem? (i := 10) rfl) rfl
theorem zi_X5_off : Cond.instanceMethod yX5_off ∈ zTbl := zq5 (List.mem_of_getElem? (i := 12) rfl) rfl
theorem zc_X5_off : Cond.code yX5_off cX5_off 4 (some FieldType.int) ∈ zTbl := zq5 (List.mem_of_getElem? (i := 13) rfl) rfl
theorem zm_L_150 : Cond.methodLink RL 150 yX5_bestTime ∈ zTbl := zq5 (List.mem_of_getElem? (i := 14) rfl) rfl
theorem zi_X5_bestTime : Cond.instanceMethod yX5_bestTime ∈ zTbl := zq5 (List.mem_of_getElem? (i := 15) rfl) rfl
theorem zs_X5_bestTime : Cond.selects RX5 yX5_bestTime yX5_bestTime ∈ zTbl := zq5 (List.mem_of_getElem? (i := 16) rfl) rfl
theorem zc_X5_bestTime : Cond.code yX5_bestTime cX5_bestTime 1 (some FieldType.int) ∈ zTbl := zq5 (List.mem_of_getElem? (i := 17) rfl) rfl
theorem zm_X5_191 : Cond.methodLink RX5 191 yX5_best ∈ zTbl := zq5 (List.mem_of_getElem? (i := 18) rfl) rfl
theorem zi_X5_best : Cond.instanceMethod yX5_best ∈ zTbl := zq5 (List.mem_of_getElem? (i := 20) rfl) rfl
theorem zc_X5_best : Cond.code yX5_best cX5_best 5 (some FieldType.int) ∈ zTbl := zq5 (List.mem_of_getElem? (i := 21) rfl) rfl
theorem zm_L_154 : Cond.methodLink RL 154 yX5_bestGrade ∈ zTbl := zq5 (List.mem_of_getElem? (i := 22) rfl) rfl
theorem zi_X5_bestGrade : Cond.instanceMethod yX5_bestGrade ∈ zTbl := zq5 (List.mem_of_getElem? (i := 23) rfl) rfl
theorem zs_X5_bestGrade : Cond.selects RX5 yX5_bestGrade yX5_bestGrade ∈ zTbl := zq5 (List.mem_of_getElem? (i := 24) rfl) rfl
theorem zc_X5_bestGrade : Cond.code yX5_bestGrade cX5_bestGrade 1 (some FieldType.int) ∈ zTbl := zq5 (List.mem_of_getElem? (i := 25) rfl) rfl
theorem zm_X5_200 : Cond.methodLink RX5 200 yX5_bestPaper ∈ zTbl := zq5 (List.mem_of_getElem? (i := 26) rfl) rfl
theorem zi_X5_bestPaper : Cond.instanceMethod yX5_bestPaper ∈ zTbl := zq5 (List.mem_of_getElem? (i := 28) rfl) rfl
theorem zc_X5_bestPaper : Cond.code yX5_bestPaper cX5_bestPaper 8 (some FieldType.int) ∈ zTbl := zq5 (List.mem_of_getElem? (i := 29) rfl) rfl
theorem zm_X5_194 : Cond.methodLink RX5 194 yX5_putAside ∈ zTbl := zq5 (List.mem_of_getElem? (i := 30) rfl) rfl
theorem zi_X5_putAside : Cond.instanceMethod yX5_putAside ∈ zTbl := zq5 (List.mem_of_getElem? (i := 32) rfl) rfl
theorem zc_X5_putAside : Cond.code yX5_putAside cX5_putAside 2 (none : Option FieldType) ∈ zTbl := zq5 (List.mem_of_getElem? (i := 33) rfl) rfl
theorem zm_X5_197 : Cond.methodLink RX5 197 yX5_putBack ∈ zTbl := zq5 (List.mem_of_getElem? (i := 34) rfl) rfl
theorem zi_X5_putBack : Cond.instanceMethod yX5_putBack ∈ zTbl := zq5 (List.mem_of_getElem? (i := 36) rfl) rfl
theorem zc_X5_putBack : Cond.code yX5_putBack cX5_putBack 2 (none : Option FieldType) ∈ zTbl := zq5 (List.mem_of_getElem? (i := 37) rfl) rfl
theorem zm_L_158 : Cond.methodLink RL 158 yX5_ifBurned ∈ zTbl := zq5 (List.mem_of_getElem? (i := 38) rfl) rfl
theorem zi_X5_ifBurned : Cond.instanceMethod yX5_ifBurned ∈ zTbl := zq5 (List.mem_of_getElem? (i := 39) rfl) rfl
theorem zs_X5_ifBurned : Cond.selects RX5 yX5_ifBurned yX5_ifBurned ∈ zTbl := zq5 (List.mem_of_getElem? (i := 40) rfl) rfl
theorem zc_X5_ifBurned : Cond.code yX5_ifBurned cX5_ifBurned 5 (some FieldType.int) ∈ zTbl := zq5 (List.mem_of_getElem? (i := 41) rfl) rfl
theorem zm_X5_203 : Cond.methodLink RX5 203 yX5_burned ∈ zTbl := zq5 (List.mem_of_getElem? (i := 42) rfl) rfl
theorem zi_X5_burned : Cond.instanceMethod yX5_burned ∈ zTbl := zq5 (List.mem_of_getElem? (i := 44) rfl) rfl
theorem zc_X5_burned : Cond.code yX5_burned cX5_burned 6 (some FieldType.int) ∈ zTbl := zq5 (List.mem_of_getElem? (i := 45) rfl) rfl
theorem zm_L_161 : Cond.methodLink RL 161 yX5_common ∈ zTbl := zq5 (List.mem_of_getElem? (i := 46) rfl) rfl
theorem zi_X5_common : Cond.instanceMethod yX5_common ∈ zTbl := zq5 (List.mem_of_getElem? (i := 47) rfl) rfl
theorem zs_X5_common : Cond.selects RX5 yX5_common yX5_common ∈ zTbl := zq5 (List.mem_of_getElem? (i := 48) rfl) rfl
theorem zc_X5_common : Cond.code yX5_common cX5_common 2 (some FieldType.int) ∈ zTbl := zq5 (List.mem_of_getElem? (i := 49) rfl) rfl
theorem zm_X5_206 : Cond.methodLink RX5 206 yX5_together ∈ zTbl := zq5 (List.mem_of_getElem? (i := 50) rfl) rfl
theorem zi_X5_together : Cond.instanceMethod yX5_together ∈ zTbl := zq5 (List.mem_of_getElem? (i := 52) rfl) rfl
theorem zc_X5_together : Cond.code yX5_together cX5_together 7 (some FieldType.int) ∈ zTbl := zq5 (List.mem_of_getElem? (i := 53) rfl) rfl
theorem zm_L_166 : Cond.methodLink RL 166 yX5_rightShare ∈ zTbl := zq5 (List.mem_of_getElem? (i := 54) rfl) rfl
theorem zi_X5_rightShare : Cond.instanceMethod yX5_rightShare ∈ zTbl := zq5 (List.mem_of_getElem? (i := 55) rfl) rfl
theorem zs_X5_rightShare : Cond.selects RX5 yX5_rightShare yX5_rightShare ∈ zTbl := zq5 (List.mem_of_getElem? (i := 56) rfl) rfl
theorem zc_X5_rightShare : Cond.code yX5_rightShare cX5_rightShare 1 (some FieldType.double) ∈ zTbl := zq5 (List.mem_of_getElem? (i := 57) rfl) rfl
theorem zm_X5_209 : Cond.methodLink RX5 209 yX5_share ∈ zTbl := zq5 (List.mem_of_getElem? (i := 58) rfl) rfl
theorem zi_X5_share : Cond.instanceMethod yX5_share ∈ zTbl := zq5 (List.mem_of_getElem? (i := 60) rfl) rfl
theorem zc_X5_share : Cond.code yX5_share cX5_share 1 (some FieldType.double) ∈ zTbl := zq5 (List.mem_of_getElem? (i := 61) rfl) rfl
theorem zm_L_171 : Cond.methodLink RL 171 yX5_digest ∈ zTbl := zq5 (List.mem_of_getElem? (i := 62) rfl) rfl
theorem zi_X5_digest : Cond.instanceMethod yX5_digest ∈ zTbl := zq5 (List.mem_of_getElem? (i := 63) rfl) rfl
theorem zs_X5_digest : Cond.selects RX5 yX5_digest yX5_digest ∈ zTbl := zq5 (List.mem_of_getElem? (i := 64) rfl) rfl
theorem zc_X5_digest : Cond.code yX5_digest cX5_digest 3 (some FieldType.long) ∈ zTbl := zq5 (List.mem_of_getElem? (i := 65) rfl) rfl
theorem zk_X5_227 : Cond.constantLong RX5 227 (2879) ∈ zTbl := zq5 (List.mem_of_getElem? (i := 66) rfl) rfl
theorem zm_X5_229 : Cond.methodLink RX5 229 yX5_digestOne ∈ zTbl := zq5 (List.mem_of_getElem? (i := 67) rfl) rfl
theorem zi_X5_digestOne : Cond.instanceMethod yX5_digestOne ∈ zTbl := zq5 (List.mem_of_getElem? (i := 69) rfl) rfl
theorem zc_X5_digestOne : Cond.code yX5_digestOne cX5_digestOne 3 (none : Option FieldType) ∈ zTbl := zq5 (List.mem_of_getElem? (i := 70) rfl) rfl
theorem zk_X5_221 : Cond.constantLong RX5 221 (31) ∈ zTbl := zq5 (List.mem_of_getElem? (i := 71) rfl) rfl
theorem zm_X5_233 : Cond.methodLink RX5 233 yX5_bitsOf ∈ zTbl := zq5 (List.mem_of_getElem? (i := 72) rfl) rfl
theorem zt_X5_bitsOf : Cond.static yX5_bitsOf ∈ zTbl := zq5 (List.mem_of_getElem? (i := 73) rfl) rfl
theorem zc_X5_bitsOf : Cond.code yX5_bitsOf cX5_bitsOf 6 (some FieldType.long) ∈ zTbl := zq5 (List.mem_of_getElem? (i := 74) rfl) rfl
theorem zk_X5_213 : Cond.constantLong RX5 213 (1023) ∈ zTbl := zq5 (List.mem_of_getElem? (i := 75) rfl) rfl
theorem zk_X5_217 : Cond.constantLong RX5 217 (4503599627370496) ∈ zTbl := zq5 (List.mem_of_getElem? (i := 77) rfl) rfl
theorem za_1099 : Cond.arrayClass FieldType.long ∈ zTbl := zq5 (List.mem_of_getElem? (i := 79) rfl) rfl
def zNest : List Cond := [Cond.fieldLinkNest RX3 47 "ZonePrint$Paper" "grade" "I" "ZonePrint", Cond.fieldLinkNest RX4 244 "ZonePrint$Paper" "grade" "I" "ZonePrint", Cond.fieldLinkNest RX3 50 "ZonePrint$Paper" "speed" "I" "ZonePrint", Cond.fieldLinkNest RX4 195 "ZonePrint$Paper" "speed" "I" "ZonePrint", Cond.fieldLinkNest RX4 115 "ZonePrint$Print" "paper" "LZonePrint$Paper;" "ZonePrint", Cond.fieldLinkNest RX4 80 "ZonePrint$Print" "wanteds" "[I" "ZonePrint", Cond.fieldLinkNest RX4 104 "ZonePrint$Print" "burns" "[I" "ZonePrint", Cond.fieldLinkNest RX4 110 "ZonePrint$Print" "holds" "[I" "ZonePrint", Cond.fieldLinkNest RX4 213 "ZonePrint$Print" "zones" "I" "ZonePrint", Cond.fieldLinkNest RX4 95 "ZonePrint$Print" "time" "I" "ZonePrint", Cond.fieldLinkNest RX4 130 "ZonePrint$Print" "spill" "I" "ZonePrint", Cond.fieldLinkNest RX4 265 "ZonePrint$OrderReader" "kind" "I" "ZonePrint", Cond.fieldLinkNest RX4 259 "ZonePrint$OrderReader" "first" "I" "ZonePrint", Cond.fieldLinkNest RX4 262 "ZonePrint$OrderReader" "last" "I" "ZonePrint", Cond.methodLinkNest RX3 127 yX4_isWithin "ZonePrint"]
theorem zfn_X3_47 : Cond.fieldLinkNest RX3 47 "ZonePrint$Paper" "grade" "I" "ZonePrint" ∈ zNest := List.mem_of_getElem? (i := 0) rfl
theorem zfn_X3_47_t : Cond.fieldLinkNest RX3 47 "ZonePrint$Paper" "grade" "I" "ZonePrint" ∈ lw_tbl := zq1_in (List.mem_of_getElem? (i := 47) rfl)
theorem zfn_X4_244 : Cond.fieldLinkNest RX4 244 "ZonePrint$Paper" "grade" "I" "ZonePrint" ∈ zNest := List.mem_of_getElem? (i := 1) rfl
theorem zfn_X4_244_t : Cond.fieldLinkNest RX4 244 "ZonePrint$Paper" "grade" "I" "ZonePrint" ∈ lw_tbl := zq1_in (List.mem_of_getElem? (i := 49) rfl)
theorem zfn_X3_50 : Cond.fieldLinkNest RX3 50 "ZonePrint$Paper" "speed" "I" "ZonePrint" ∈ zNest := List.mem_of_getElem? (i := 2) rfl
theorem zfn_X3_50_t : Cond.fieldLinkNest RX3 50 "ZonePrint$Paper" "speed" "I" "ZonePrint" ∈ lw_tbl := zq1_in (List.mem_of_getElem? (i := 50) rfl)
theorem zfn_X4_195 : Cond.fieldLinkNest RX4 195 "ZonePrint$Paper" "speed" "I" "ZonePrint" ∈ zNest := List.mem_of_getElem? (i := 3) rfl
theorem zfn_X4_195_t : Cond.fieldLinkNest RX4 195 "ZonePrint$Paper" "speed" "I" "ZonePrint" ∈ lw_tbl := zq1_in (List.mem_of_getElem? (i := 52) rfl)
theorem zfn_X4_115 : Cond.fieldLinkNest RX4 115 "ZonePrint$Print" "paper" "LZonePrint$Paper;" "ZonePrint" ∈ zNest := List.mem_of_getElem? (i := 4) rfl
theorem zfn_X4_115_t : Cond.fieldLinkNest RX4 115 "ZonePrint$Print" "paper" "LZonePrint$Paper;" "ZonePrint" ∈ lw_tbl := zq1_in (List.mem_of_getElem? (i := 62) rfl)
theorem zfn_X4_80 : Cond.fieldLinkNest RX4 80 "ZonePrint$Print" "wanteds" "[I" "ZonePrint" ∈ zNest := List.mem_of_getElem? (i := 5) rfl
theorem zfn_X4_80_t : Cond.fieldLinkNest RX4 80 "ZonePrint$Print" "wanteds" "[I" "ZonePrint" ∈ lw_tbl := zq1_in (List.mem_of_getElem? (i := 65) rfl)
theorem zfn_X4_104 : Cond.fieldLinkNest RX4 104 "ZonePrint$Print" "burns" "[I" "ZonePrint" ∈ zNest := List.mem_of_getElem? (i := 6) rfl
theorem zfn_X4_104_t : Cond.fieldLinkNest RX4 104 "ZonePrint$Print" "burns" "[I" "ZonePrint" ∈ lw_tbl := zq1_in (List.mem_of_getElem? (i := 67) rfl)
theorem zfn_X4_110 : Cond.fieldLinkNest RX4 110 "ZonePrint$Print" "holds" "[I" "ZonePrint" ∈ zNest := List.mem_of_getElem? (i := 7) rfl
theorem zfn_X4_110_t : Cond.fieldLinkNest RX4 110 "ZonePrint$Print" "holds" "[I" "ZonePrint" ∈ lw_tbl := zq1_in (List.mem_of_getElem? (i := 69) rfl)
theorem zfn_X4_213 : Cond.fieldLinkNest RX4 213 "ZonePrint$Print" "zones" "I" "ZonePrint" ∈ zNest := List.mem_of_getElem? (i := 8) rfl
theorem zfn_X4_213_t : Cond.fieldLinkNest RX4 213 "ZonePrint$Print" "zones" "I" "ZonePrint" ∈ lw_tbl := zq1_in (List.mem_of_getElem? (i := 73) rfl)
theorem zfn_X4_95 : Cond.fieldLinkNest RX4 95 "ZonePrint$Print" "time" "I" "ZonePrint" ∈ zNest := List.mem_of_getElem? (i := 9) rfl
theorem zfn_X4_95_t : Cond.fieldLinkNest RX4 95 "ZonePrint$Print" "time" "I" "ZonePrint" ∈ lw_tbl := zq1_in (List.mem_of_getElem? (i := 75) rfl)
theorem zfn_X4_130 : Cond.fieldLinkNest RX4 130 "ZonePrint$Print" "spill" "I" "ZonePrint" ∈ zNest := List.mem_of_getElem? (i := 10) rfl
theorem zfn_X4_130_t : Cond.fieldLinkNest RX4 130 "ZonePrint$Print" "spill" "I" "ZonePrint" ∈ lw_tbl := zq1_in (List.mem_of_getElem? (i := 77) rfl)
theorem zfn_X4_265 : Cond.fieldLinkNest RX4 265 "ZonePrint$OrderReader" "kind" "I" "ZonePrint" ∈ zNest := List.mem_of_getElem? (i := 11) rfl
theorem zfn_X4_265_t : Cond.fieldLinkNest RX4 265 "ZonePrint$OrderReader" "kind" "I" "ZonePrint" ∈ lw_tbl := zq1_in (List.mem_of_getElem? (i := 126) rfl)
theorem zfn_X4_259 : Cond.fieldLinkNest RX4 259 "ZonePrint$OrderReader" "first" "I" "ZonePrint" ∈ zNest := List.mem_of_getElem? (i := 12) rfl
theorem zfn_X4_259_t : Cond.fieldLinkNest RX4 259 "ZonePrint$OrderReader" "first" "I" "ZonePrint" ∈ lw_tbl := zq1_in (List.mem_of_getElem? (i := 128) rfl)
theorem zfn_X4_262 : Cond.fieldLinkNest RX4 262 "ZonePrint$OrderReader" "last" "I" "ZonePrint" ∈ zNest := List.mem_of_getElem? (i := 13) rfl
theorem zfn_X4_262_t : Cond.fieldLinkNest RX4 262 "ZonePrint$OrderReader" "last" "I" "ZonePrint" ∈ lw_tbl := zq1_in (List.mem_of_getElem? (i := 130) rfl)
theorem zmn_X3_127 : Cond.methodLinkNest RX3 127 yX4_isWithin "ZonePrint" ∈ zNest := List.mem_of_getElem? (i := 14) rfl
theorem zmn_X3_127_t : Cond.methodLinkNest RX3 127 yX4_isWithin "ZonePrint" ∈ lw_tbl := zq1_in (List.mem_of_getElem? (i := 235) rfl)
theorem zNest_in : ∀ w ∈ zNest, w ∈ lw_tbl := List.forall_mem_cons.mpr ⟨zfn_X3_47_t, List.forall_mem_cons.mpr ⟨zfn_X4_244_t, List.forall_mem_cons.mpr ⟨zfn_X3_50_t, List.forall_mem_cons.mpr ⟨zfn_X4_195_t, List.forall_mem_cons.mpr ⟨zfn_X4_115_t, List.forall_mem_cons.mpr ⟨zfn_X4_80_t, List.forall_mem_cons.mpr ⟨zfn_X4_104_t, List.forall_mem_cons.mpr ⟨zfn_X4_110_t, List.forall_mem_cons.mpr ⟨zfn_X4_213_t, List.forall_mem_cons.mpr ⟨zfn_X4_95_t, List.forall_mem_cons.mpr ⟨zfn_X4_130_t, List.forall_mem_cons.mpr ⟨zfn_X4_265_t, List.forall_mem_cons.mpr ⟨zfn_X4_259_t, List.forall_mem_cons.mpr ⟨zfn_X4_262_t, List.forall_mem_cons.mpr ⟨zmn_X3_127_t, fun _ h => absurd h List.not_mem_nil⟩⟩⟩⟩⟩⟩⟩⟩⟩⟩⟩⟩⟩⟩⟩
theorem zin_X0 : ∀ w ∈ u_ws RX0 TX0 3, w ∈ zTbl := List.forall_mem_cons.mpr ⟨zy_171, List.forall_mem_cons.mpr ⟨zy_173, List.forall_mem_cons.mpr ⟨zy_175, fun _ h => absurd h List.not_mem_nil⟩⟩⟩
theorem zin_X1 : ∀ w ∈ u_ws RX1 TX1 4, w ∈ zTbl := List.forall_mem_cons.mpr ⟨zy_191, List.forall_mem_cons.mpr ⟨zy_193, List.forall_mem_cons.mpr ⟨zy_195, List.forall_mem_cons.mpr ⟨zy_197, fun _ h => absurd h List.not_mem_nil⟩⟩⟩⟩
theorem zin_X2 : ∀ w ∈ u_ws RX2 TX2 3, w ∈ zTbl := List.forall_mem_cons.mpr ⟨zy_113, List.forall_mem_cons.mpr ⟨zy_115, List.forall_mem_cons.mpr ⟨zy_117, fun _ h => absurd h List.not_mem_nil⟩⟩⟩
theorem zin_X3 : ∀ w ∈ u_ws RX3 TX3 10, w ∈ zTbl := List.forall_mem_cons.mpr ⟨zy_138, List.forall_mem_cons.mpr ⟨zy_140, List.forall_mem_cons.mpr ⟨zy_142, List.forall_mem_cons.mpr ⟨zy_144, List.forall_mem_cons.mpr ⟨zy_146, List.forall_mem_cons.mpr ⟨zy_148, List.forall_mem_cons.mpr ⟨zy_150, List.forall_mem_cons.mpr ⟨zy_152, List.forall_mem_cons.mpr ⟨zy_154, List.forall_mem_cons.mpr ⟨zy_156, fun _ h => absurd h List.not_mem_nil⟩⟩⟩⟩⟩⟩⟩⟩⟩⟩
theorem zin_X4 : ∀ w ∈ u_ws RX4 TX4 6, w ∈ zTbl := List.forall_mem_cons.mpr ⟨zy_206, List.forall_mem_cons.mpr ⟨zy_208, List.forall_mem_cons.mpr ⟨zy_210, List.forall_mem_cons.mpr ⟨zy_212, List.forall_mem_cons.mpr ⟨zy_214, List.forall_mem_cons.mpr ⟨zy_216, fun _ h => absurd h List.not_mem_nil⟩⟩⟩⟩⟩⟩
theorem zin_X5 : ∀ w ∈ u_ws RX5 TX5 15, w ∈ zTbl := List.forall_mem_cons.mpr ⟨zy_765, List.forall_mem_cons.mpr ⟨zy_767, List.forall_mem_cons.mpr ⟨zy_769, List.forall_mem_cons.mpr ⟨zy_771, List.forall_mem_cons.mpr ⟨zy_773, List.forall_mem_cons.mpr ⟨zy_775, List.forall_mem_cons.mpr ⟨zy_777, List.forall_mem_cons.mpr ⟨zy_779, List.forall_mem_cons.mpr ⟨zy_781, List.forall_mem_cons.mpr ⟨zy_783, List.forall_mem_cons.mpr ⟨zy_785, List.forall_mem_cons.mpr ⟨zy_787, List.forall_mem_cons.mpr ⟨zy_789, List.forall_mem_cons.mpr ⟨zy_791, List.forall_mem_cons.mpr ⟨zy_793, fun _ h => absurd h List.not_mem_nil⟩⟩⟩⟩⟩⟩⟩⟩⟩⟩⟩⟩⟩⟩⟩
end
section
/-! numbers: an Int32 by an Int -/
def zI (z : Int) : Int32 := Int32.ofInt z
def zL (z : Int) : Int64 := Int64.ofInt z
theorem zI_add (a b : Int) : zI a + zI b = zI (a + b) := (Int32.ofInt_add a b).symm
theorem zI_sub (a b : Int) : zI a - zI b = zI (a - b) := (Int32.ofInt_sub a b).symm
theorem zI_mul (a b : Int) : zI a * zI b = zI (a * b) := (Int32.ofInt_mul a b).symm
theorem zI_neg (a : Int) : - zI a = zI (-a) := (Int32.ofInt_neg a).symm
theorem zL_add (a b : Int) : zL a + zL b = zL (a + b) := (Int64.ofInt_add a b).symm
theorem zL_sub (a b : Int) : zL a - zL b = zL (a - b) := (Int64.ofInt_sub a b).symm
theorem zL_mul (a b : Int) : zL a * zL b = zL (a * b) := (Int64.ofInt_mul a b).symm
theorem zI_toInt {a : Int} (h : -2147483648 ≤ a) (h2 : a ≤ 2147483647) : (zI a).toInt = a := Int32.toInt_ofInt_of_le (by omega) (by omega)
theorem zL_toInt {a : Int} (h : -9223372036854775808 ≤ a) (h2 : a ≤ 9223372036854775807) : (zL a).toInt = a := Int64.toInt_ofInt_of_le (by omega) (by omega)
theorem zI_of (x : Int32) : ∃ a : Int, -2147483648 ≤ a ∧ a ≤ 2147483647 ∧ x = zI a := ⟨x.toInt, by have := x.le_toInt; omega, by have := x.toInt_lt; omega, (Int32.ofInt_toInt x).symm⟩
theorem zL_of (x : Int64) : ∃ a : Int, x = zL a := ⟨x.toInt, (Int64.ofInt_toInt x).symm⟩
theorem zI_lt {a b : Int} (ha : -2147483648 ≤ a ∧ a ≤ 2147483647) (hb : -2147483648 ≤ b ∧ b ≤ 2147483647) : zI a < zI b ↔ a < b := by
  rw [Int32.lt_iff_toInt_lt, zI_toInt ha.1 ha.2, zI_toInt hb.1 hb.2]
theorem zI_le {a b : Int} (ha : -2147483648 ≤ a ∧ a ≤ 2147483647) (hb : -2147483648 ≤ b ∧ b ≤ 2147483647) : zI a ≤ zI b ↔ a ≤ b := by
  rw [Int32.le_iff_toInt_le, zI_toInt ha.1 ha.2, zI_toInt hb.1 hb.2]
theorem zI_eq {a b : Int} (ha : -2147483648 ≤ a ∧ a ≤ 2147483647) (hb : -2147483648 ≤ b ∧ b ≤ 2147483647) : zI a = zI b ↔ a = b :=
  ⟨fun h => by rw [← zI_toInt ha.1 ha.2, h, zI_toInt hb.1 hb.2], fun h => by rw [h]⟩
theorem zL_lt {a b : Int} (ha : -9223372036854775808 ≤ a ∧ a ≤ 9223372036854775807) (hb : -9223372036854775808 ≤ b ∧ b ≤ 9223372036854775807) : zL a < zL b ↔ a < b := by
  rw [Int64.lt_iff_toInt_lt, zL_toInt ha.1 ha.2, zL_toInt hb.1 hb.2]
theorem zL_eq {a b : Int} (ha : -9223372036854775808 ≤ a ∧ a ≤ 9223372036854775807) (hb : -9223372036854775808 ≤ b ∧ b ≤ 9223372036854775807) : zL a = zL b ↔ a = b :=
  ⟨fun h => by rw [← zL_toInt ha.1 ha.2, h, zL_toInt hb.1 hb.2], fun h => by rw [h]⟩
theorem zI_div {a b : Int} (ha : 0 ≤ a ∧ a ≤ 2147483647) (hb : 0 < b ∧ b ≤ 2147483647) : zI a / zI b = zI (a / b) := by
  refine (Int32.ofInt_toInt _).symm.trans ?_
  rw [Int32.toInt_div_of_ne_right _ _ (by intro h; have h2 := congrArg Int32.toInt h; rw [zI_toInt (by omega) hb.2, show (-1 : Int32).toInt = -1 from by decide +kernel] at h2; omega), zI_toInt (by omega) ha.2, zI_toInt (by omega) hb.2, Int.tdiv_eq_ediv_of_nonneg ha.1]
  rfl
theorem zI_rem {a b : Int} (ha : 0 ≤ a ∧ a ≤ 2147483647) (hb : 0 < b ∧ b ≤ 2147483647) : zI a - zI a / zI b * zI b = zI (a % b) := by
  rw [zI_div ha hb, zI_mul, zI_sub]
  exact congrArg zI (by rw [Int.emod_def, Int.mul_comm])
theorem zL_div {a b : Int} (ha : 0 ≤ a ∧ a ≤ 9223372036854775807) (hb : 0 < b ∧ b ≤ 9223372036854775807) : zL a / zL b = zL (a / b) := by
  refine (Int64.ofInt_toInt _).symm.trans ?_
  rw [Int64.toInt_div_of_ne_right _ _ (by intro h; have h2 := congrArg Int64.toInt h; rw [zL_toInt (by omega) hb.2, show (-1 : Int64).toInt = -1 from by decide +kernel] at h2; omega), zL_toInt (by omega) ha.2, zL_toInt (by omega) hb.2, Int.tdiv_eq_ediv_of_nonneg ha.1]
  rfl
theorem zI_long {a : Int} (ha : -2147483648 ≤ a ∧ a ≤ 2147483647) : (zI a).toInt64 = zL a := by
  refine (Int64.ofInt_toInt _).symm.trans ?_
  rw [Int32.toInt_toInt64, zI_toInt ha.1 ha.2]
  rfl
theorem zL_int (a : Int) : (zL a).toInt32 = zI a := Int64.toInt32_ofInt
theorem zI_clamp {a : Int} (h : 0 ≤ a) (h2 : a ≤ 2147483647) : ((zI a).toNatClampNeg : Int) = a := by
  rw [Int32.toNatClampNeg, zI_toInt (by omega) h2]; omega
theorem zI_in {a : Int} {n : Nat} (h : 0 ≤ a) (h2 : a < n) (hn : n ≤ 2147483647) : vp_in (zI a) n := by
  rw [vp_in_iff, zI_toInt (by omega) (by omega)]; omega
theorem zI_nat (n : Nat) : Int32.ofNat n = zI n := (Int32.ofInt_eq_ofNat (n := n)).symm
theorem zI_nN (n : Nat) : nI n = zI n := zI_nat n
theorem zI_0 : (0 : Int32) = zI 0 := by decide +kernel
theorem zI_i8 {n : Int} (h : -128 ≤ n) (h2 : n ≤ 127) : (Int8.ofInt n).toInt32 = zI n := by
  refine (Int32.ofInt_toInt _).symm.trans ?_
  rw [Int8.toInt_toInt32, Int8.toInt_ofInt_of_le (by omega) (by omega)]
  rfl
theorem zI_i16 {n : Int} (h : -32768 ≤ n) (h2 : n ≤ 32767) : (Int16.ofInt n).toInt32 = zI n := by
  refine (Int32.ofInt_toInt _).symm.trans ?_
  rw [Int16.toInt_toInt32, Int16.toInt_ofInt_of_le (by omega) (by omega)]
  rfl
def zand (a b : Int) : Int := (zI a &&& zI b).toInt
def zor (a b : Int) : Int := (zI a ||| zI b).toInt
def zxor (a b : Int) : Int := (zI a ^^^ zI b).toInt
theorem zI_and (a b : Int) : zI a &&& zI b = zI (zand a b) := (Int32.ofInt_toInt _).symm
theorem zI_or (a b : Int) : zI a ||| zI b = zI (zor a b) := (Int32.ofInt_toInt _).symm
theorem zI_xor (a b : Int) : zI a ^^^ zI b = zI (zxor a b) := (Int32.ofInt_toInt _).symm
theorem zand_1 {a : Int} (h : 0 ≤ a) (h2 : a ≤ 2147483647) : zand a 1 = a % 2 := by
  obtain ⟨n, rfl⟩ := Int.eq_ofNat_of_zero_le h
  have e := pk_andN (n := n) (by omega) (m := zI 1) 1 (by decide +kernel)
  rw [zI_nN] at e
  unfold zand
  rw [e, zI_nN, zI_toInt (by omega) (by omega)]
  omega
theorem zI_sm : ∀ n, n < 32 → ((zI (n : Nat) &&& 31).toBitVec.smod 32).toNat = n := by decide +kernel
theorem zI_shr {a b : Int} (ha : 0 ≤ a ∧ a ≤ 2147483647) (hb : 0 ≤ b ∧ b < 32) : zI a >>> (zI b &&& 31) = zI (a / 2 ^ b.toNat) := by
  obtain ⟨n, rfl⟩ := Int.eq_ofNat_of_zero_le ha.1
  obtain ⟨k, rfl⟩ := Int.eq_ofNat_of_zero_le hb.1
  rw [← zI_nN, pk_shrN (by omega) _ k (zI_sm k (by omega)), zI_nN]
  congr 1
theorem zI_shl {a b : Int} (ha : 0 ≤ a) (hb : 0 ≤ b ∧ b < 32) (h : a * 2 ^ b.toNat < 4294967296) : zI a <<< (zI b &&& 31) = zI (a * 2 ^ b.toNat) := by
  obtain ⟨n, rfl⟩ := Int.eq_ofNat_of_zero_le ha
  obtain ⟨k, rfl⟩ := Int.eq_ofNat_of_zero_le hb.1
  have h2 : n * 2 ^ k < 2 ^ 32 := by
    have h3 : ((n * 2 ^ k : Nat) : Int) < 4294967296 := by rw [Int.natCast_mul, Int.natCast_pow]; exact h
    omega
  rw [← zI_nN, pk_shlN _ k (zI_sm k (by omega)) h2, zI_nN]
  congr 1
theorem zI_r0 : -2147483648 ≤ (0 : Int) ∧ (0 : Int) ≤ 2147483647 := by omega
/-! the world: all objects of the class, of the reference, and the law's row. Prints 0..7 (print, trial, the six saved ones): groups 0..7; the class: 8; the reference: 9. -/
abbrev zM : Type := Nat → Nat → Int → Int
abbrev zG : Type := va_G × (ClassId × ClassId × ClassId) × (Nat → Nat → Nat) × Nat × (Nat × Nat × Nat)
abbrev zD (G : zG) : va_G := G.1
abbrev zcI (G : zG) : ClassId := G.2.1.1
abbrev zcO (G : zG) : ClassId := G.2.1.2.1
abbrev zcJ (G : zG) : ClassId := G.2.1.2.2
abbrev za (G : zG) : Nat → Nat → Nat := G.2.2.1
abbrev zn (G : zG) : Nat := G.2.2.2.1
abbrev zt1 (G : zG) : Nat := G.2.2.2.2.1
abbrev zt2 (G : zG) : Nat := G.2.2.2.2.2.1
abbrev zt3 (G : zG) : Nat := G.2.2.2.2.2.2
abbrev zA (G : zG) : Nat → Prop := fun q => zn G ≤ q
abbrev zty (G : zG) : List (ClassId × FieldType) := [(zcI G, .int), (zcO G, .object "ZonePrint$Print"), (zcJ G, .long)]
def zpr (G : zG) (k j : Nat) (r : Nat → Int → Int) : va_E := match j with
  | 0 => .inr (3, [.ref (za G k 1), .ref (za G k 3), .ref (za G k 4), .ref (za G k 5), .ref (za G k 6), .ref (za G k 7), .ref (za G k 8), .int (zI (r 0 4)), .int (zI (r 0 0)), .int (zI (r 0 3))])
  | 1 => .inr (2, [.ref (za G k 2), .int (zI (r 0 1)), .int (zI (r 0 2))])
  | 2 => .inl (zcI G, 10, .inl (fun i => zI (r 2 i)))
  | 3 => .inl (zcI G, 8, .inl (fun i => zI (r 0 (5 + 5 * i))))
  | 4 => .inl (zcI G, 8, .inl (fun i => zI (r 0 (5 + 5 * i + 1))))
  | 5 => .inl (zcI G, 8, .inl (fun i => zI (r 0 (5 + 5 * i + 2))))
  | 6 => .inl (zcI G, 8, .inl (fun i => zI (r 0 (5 + 5 * i + 3))))
  | 7 => .inl (zcI G, 8, .inl (fun i => zI (r 0 (5 + 5 * i + 4))))
  | _ => .inl (zcI G, 8, .inl (fun i => zI (r 8 i)))
def zcl (G : zG) (j : Nat) (r : Nat → Int → Int) : va_E := match j with
  | 0 => .inr (4, [.ref (za G 0 0), .ref (za G 1 0), .ref (za G 8 1), .ref (za G 8 3), .ref (za G 8 4), .int (zI (r 0 5))])
  | 1 => .inr (0, [.ref (za G 8 2), .int (zI (r 1 1)), .int (zI (r 1 2))])
  | 2 => .inl (zcO G, 6, .inr (.inr (.inr (.inr (fun i => some (za G (i + 2) 0))))))
  | 3 => .inr (1, [.int (zI (r 3 0)), .int (zI (r 3 1)), .int (zI (r 3 2)), .int (zI (r 3 3))])
  | 4 => .inl (zcI G, 60, .inl (fun i => zI (r 4 i)))
  | _ => .inl (zcJ G, 1, .inr (.inl (fun i => zL (r 5 i))))
def zmo (G : zG) (j : Nat) (r : Nat → Int → Int) : va_E := match j with
  | 0 => .inr (5, [.int (zI (r 0 0)), .ref (za G 9 1), .ref (za G 9 2), .ref (za G 9 3), .int (zI (r 0 4)), .ref (za G 9 4), .int (zI (r 0 6)), .ref (za G 9 5), .ref (za G 9 6), .int (zI (r 0 9)), .int (zI (r 0 10)), .int (zI (r 0 11)), .int (zI (r 0 12)), .int (zI (r 0 13)), .long (zL (r 0 14))])
  | 1 => .inl (zcI G, 45, .inl (fun i => zI (r 1 i)))
  | 2 => .inl (zcI G, 45, .inl (fun i => zI (r 2 i)))
  | 3 => .inl (zcI G, 270, .inl (fun i => zI (r 3 i)))
  | 4 => .inl (zcI G, 60, .inl (fun i => zI (r 4 i)))
  | 5 => .inl (zcI G, 10, .inl (fun i => zI (r 5 i)))
  | _ => .inl (zcI G, 8, .inl (fun i => zI (r 6 i)))
def ze (G : zG) (k j : Nat) (r : Nat → Int → Int) : va_E := if k < 8 then zpr G k j r else if k = 8 then zcl G j r else zmo G j r
theorem ze_pr {G : zG} {k j : Nat} {r : Nat → Int → Int} (hk : k < 8) : ze G k j r = zpr G k j r := if_pos hk
theorem ze_cl {G : zG} {j : Nat} {r : Nat → Int → Int} : ze G 8 j r = zcl G j r := rfl
theorem ze_mo {G : zG} {j : Nat} {r : Nat → Int → Int} : ze G 9 j r = zmo G j r := rfl
abbrev zin (k j : Nat) : Prop := k < 8 ∧ j < 9 ∨ k = 8 ∧ j < 6 ∨ k = 9 ∧ j < 7
def zp (k j : Nat) : Nat := if k < 8 then 9 * k + j else if k = 8 then 72 + j else 78 + j
def zix : List (Nat × Nat) := (List.range 72).map (fun n => (n / 9, n % 9)) ++ [(8, 0), (8, 1), (8, 2), (8, 3), (8, 4), (8, 5), (9, 0), (9, 1), (9, 2), (9, 3), (9, 4), (9, 5), (9, 6)]
theorem zix_at0 : (List.range 10).all (fun k => (List.range 9).all fun j => !(decide (k < 8 ∧ j < 9 ∨ k = 8 ∧ j < 6 ∨ k = 9 ∧ j < 7)) || decide (zix[zp k j]? = some (k, j))) = true := by decide +kernel
theorem zix_at {k j : Nat} (h : zin k j) : zix[zp k j]? = some (k, j) := by
  have h1 := List.all_eq_true.mp zix_at0 k (List.mem_range.mpr (by omega))
  have h2 := List.all_eq_true.mp h1 j (List.mem_range.mpr (by omega))
  rw [decide_eq_true (show k < 8 ∧ j < 9 ∨ k = 8 ∧ j < 6 ∨ k = 9 ∧ j < 7 from h)] at h2
  exact of_decide_eq_true h2
theorem zix_len : zix.length = 85 := by decide +kernel
theorem zix_inj0 : ∀ a, a < 85 → ∀ b, b < 85 → zix[a]? = zix[b]? → a = b := by decide +kernel
theorem zix_in0 : ∀ q ∈ zix, zin q.1 q.2 := by decide +kernel
theorem zix_lt {a : Nat} {q : Nat × Nat} (h : zix[a]? = some q) : a < 85 := by
  rw [← zix_len]; exact (List.getElem?_eq_some_iff.mp h).1
theorem zix_inj {a b : Nat} {q : Nat × Nat} (ha : zix[a]? = some q) (hb : zix[b]? = some q) : a = b := zix_inj0 a (zix_lt ha) b (zix_lt hb) (ha.trans hb.symm)
def zw (G : zG) (S : zM) : va_W := zix.map (fun q => (za G q.1 q.2, ze G q.1 q.2 (S q.1)))
theorem zw_at {G : zG} {S : zM} {k j : Nat} (h : zin k j) : (zw G S)[zp k j]? = some (za G k j, ze G k j (S k)) := by
  unfold zw
  rw [List.getElem?_map, zix_at h]
  rfl
theorem zw_set {G : zG} {S S' : zM} {k j : Nat} (h : zin k j) (hS : ∀ k' j', zin k' j' → ¬ (k' = k ∧ j' = j) → ze G k' j' (S' k') = ze G k' j' (S k')) {e : va_E} (he : ze G k j (S' k) = e) : (zw G S).set (zp k j) (za G k j, e) = zw G S' := by
  subst he
  apply List.ext_getElem?
  intro n
  rw [List.getElem?_set]
  by_cases hn : zp k j = n
  · subst hn
    rw [if_pos rfl]
    have hl : zp k j < (zw G S).length := (List.getElem?_eq_some_iff.mp (zw_at (S := S) h)).1
    rw [if_pos hl, zw_at h]
  · rw [if_neg hn]
    unfold zw
    rw [List.getElem?_map, List.getElem?_map]
    cases hq : zix[n]? with
    | none => rfl
    | some q =>
      have hne : ¬ (q.1 = k ∧ q.2 = j) := fun hh => hn (zix_inj (zix_at h) (hq.trans (by rw [← hh.1, ← hh.2])))
      show some (za G q.1 q.2, ze G q.1 q.2 (S q.1)) = some (za G q.1 q.2, ze G q.1 q.2 (S' q.1))
      rw [hS q.1 q.2 (zix_in0 _ (List.mem_of_getElem? hq)) hne]
def zok (G : zG) : Prop := (∀ k j k' j', zin k j → zin k' j' → za G k j = za G k' j' → k = k' ∧ j = j') ∧ ∀ k j, zin k j → zn G ≤ za G k j
theorem zw_D {G : zG} (hG : zok G) (S : zM) : va_D (zA G) (zw G S) := by
  have hx : ∀ (i : Nat) (p : Nat × va_E), (zw G S)[i]? = some p → ∃ q : Nat × Nat, zix[i]? = some q ∧ p.1 = za G q.1 q.2 := by
    intro i p h
    unfold zw at h
    rw [List.getElem?_map] at h
    cases hq : zix[i]? with
    | none => rw [hq] at h; cases h
    | some q => rw [hq] at h; cases h; exact ⟨q, rfl, rfl⟩
  have hi : ∀ {i : Nat} {q : Nat × Nat}, zix[i]? = some q → zin q.1 q.2 := fun h => zix_in0 _ (List.mem_of_getElem? h)
  refine ⟨?_, ?_⟩
  · intro i j p q h1 h2 h3
    obtain ⟨a, ha, ea⟩ := hx i p h1
    obtain ⟨b, hb, eb⟩ := hx j q h2
    have := hG.1 _ _ _ _ (hi ha) (hi hb) (by rw [← ea, ← eb, h3])
    have hab : a = b := Prod.ext this.1 this.2
    subst hab
    exact zix_inj ha hb
  · intro i p h
    obtain ⟨a, ha, ea⟩ := hx i p h
    rw [ea]
    exact hG.2 _ _ (hi ha)
/-! memory -/
def zs (S : zM) (k j : Nat) (i : Int) (v : Int) : zM := fun k' j' i' => if k' = k ∧ j' = j ∧ i' = i then v else S k' j' i'
theorem zs_ne {S : zM} {k j : Nat} {i v : Int} {k' j' : Nat} (h : ¬ (k' = k ∧ j' = j)) : zs S k j i v k' j' = S k' j' := by
  funext i'
  show (if k' = k ∧ j' = j ∧ i' = i then v else S k' j' i') = S k' j' i'
  rw [if_neg (fun hh => h ⟨hh.1, hh.2.1⟩)]
theorem zs_at (S : zM) (k j : Nat) (i v i' : Int) : zs S k j i v k j i' = if i' = i then v else S k j i' := by
  by_cases h : i' = i
  · rw [if_pos h]; exact if_pos ⟨rfl, rfl, h⟩
  · rw [if_neg h]; exact if_neg (fun hh => h hh.2.2)
theorem zs_k {S : zM} {k j : Nat} {i v : Int} {k' : Nat} (h : k' ≠ k) : zs S k j i v k' = S k' := by
  funext j'; exact zs_ne (fun hh => h hh.1)
theorem zs_j {S : zM} {k j : Nat} {i v : Int} {j' : Nat} (h : j' ≠ j) : zs S k j i v k j' = S k j' := zs_ne (fun hh => h hh.2)
theorem zs_x {S : zM} {k j : Nat} {i v x : Int} (h : x ≠ i) : zs S k j i v k j x = S k j x := by rw [zs_at, if_neg h]
theorem zs_s {S : zM} {k j : Nat} {i v : Int} : zs S k j i v k j i = v := by rw [zs_at, if_pos rfl]
theorem zs_arr {f : Int → Int} {S : zM} {k j : Nat} {a v : Int} (h : 0 ≤ a) (h2 : a ≤ 2147483647) (hf : ∀ x y : Int, f x = f y → x = y) : upd (fun i : Nat => zI (S k j (f i))) (zI a).toNatClampNeg (zI v) = fun i : Nat => zI (zs S k j (f a) v k j (f i)) := by
  have e := zI_clamp h h2
  funext n
  rw [zs_at]
  by_cases hn : n = (zI a).toNatClampNeg
  · subst hn; rw [pk_us, e, if_pos rfl]
  · rw [pk_un hn, if_neg (by intro h3; have := hf _ _ h3; omega)]
/-- group 8, 9: one cell a row -/
theorem zw_set8 {G : zG} {S : zM} {k j : Nat} {i v : Int} (hk : k = 8 ∨ k = 9) (h : zin k j) {e : va_E} (he : ze G k j (zs S k j i v k) = e) : (zw G S).set (zp k j) (za G k j, e) = zw G (zs S k j i v) := by
  refine zw_set h (fun k' j' hin hh => ?_) he
  by_cases e1 : k' = k
  · subst e1
    have hj : j' ≠ j := fun q => hh ⟨rfl, q⟩
    rcases hk with rfl | rfl
    · rcases (show j' = 0 ∨ j' = 1 ∨ j' = 2 ∨ j' = 3 ∨ j' = 4 ∨ j' = 5 by omega) with rfl | rfl | rfl | rfl | rfl | rfl <;> simp only [ze_cl, zcl, zs_j hj]
    · rcases (show j' = 0 ∨ j' = 1 ∨ j' = 2 ∨ j' = 3 ∨ j' = 4 ∨ j' = 5 ∨ j' = 6 by omega) with rfl | rfl | rfl | rfl | rfl | rfl | rfl <;> simp only [ze_mo, zmo, zs_j hj]
  · rw [zs_k e1]
theorem zs_fw (w : Int) {S : zM} {k : Nat} {i v : Int} (h : ∀ n : Nat, 5 + 5 * (n : Int) + w ≠ i) : (fun n : Nat => zI (zs S k 0 i v k 0 (5 + 5 * (n : Int) + w))) = fun n : Nat => zI (S k 0 (5 + 5 * (n : Int) + w)) := funext fun n => by rw [zs_x (h n)]
theorem zs_f0 {S : zM} {k : Nat} {i v : Int} (h : ∀ n : Nat, 5 + 5 * (n : Int) ≠ i) : (fun n : Nat => zI (zs S k 0 i v k 0 (5 + 5 * (n : Int)))) = fun n : Nat => zI (S k 0 (5 + 5 * (n : Int))) := funext fun n => by rw [zs_x (h n)]
/-- a print's scalars: 0 time, 1 grade, 2 speed, 3 spill, 4 zones -/
theorem zw_setS {G : zG} {S : zM} {k j : Nat} {i v : Int} (hk : k < 8) (hi : j = 0 ∧ (i = 4 ∨ i = 0 ∨ i = 3) ∨ j = 1 ∧ (i = 1 ∨ i = 2)) {e : va_E} (he : ze G k j (zs S k 0 i v k) = e) : (zw G S).set (zp k j) (za G k j, e) = zw G (zs S k 0 i v) := by
  refine zw_set (by omega) (fun k' j' hin hh => ?_) he
  by_cases e1 : k' = k
  · subst e1
    have hj : j' ≠ j := fun q => hh ⟨rfl, q⟩
    rw [ze_pr hk, ze_pr hk]
    rcases (show j' = 0 ∨ j' = 1 ∨ j' = 2 ∨ j' = 3 ∨ j' = 4 ∨ j' = 5 ∨ j' = 6 ∨ j' = 7 ∨ j' = 8 by omega) with rfl | rfl | rfl | rfl | rfl | rfl | rfl | rfl | rfl
    · have hx : ∀ x : Int, x = 4 ∨ x = 0 ∨ x = 3 → zs S k' 0 i v k' 0 x = S k' 0 x := fun x h => zs_x (by omega)
      simp only [zpr, hx 4 (by omega), hx 0 (by omega), hx 3 (by omega)]
    · have hx : ∀ x : Int, x = 1 ∨ x = 2 → zs S k' 0 i v k' 0 x = S k' 0 x := fun x h => zs_x (by omega)
      simp only [zpr, hx 1 (by omega), hx 2 (by omega)]
    · simp only [zpr, zs_j (show 2 ≠ 0 by omega)]
    · simp only [zpr, zs_f0 (S := S) (k := k') (i := i) (v := v) (fun n => by omega)]
    · simp only [zpr, zs_fw 1 (S := S) (k := k') (i := i) (v := v) (fun n => by omega)]
    · simp only [zpr, zs_fw 2 (S := S) (k := k') (i := i) (v := v) (fun n => by omega)]
    · simp only [zpr, zs_fw 3 (S := S) (k := k') (i := i) (v := v) (fun n => by omega)]
    · simp only [zpr, zs_fw 4 (S := S) (k := k') (i := i) (v := v) (fun n => by omega)]
    · simp only [zpr, zs_j (show 8 ≠ 0 by omega)]
  · rw [zs_k e1]
/-- a print's rows of numbers by zones: w 0 density, 1 wanted, 2 burn, 3 hold, 4 neighbours -/
theorem zw_setA {G : zG} {S : zM} {k w : Nat} {i z v : Int} (hk : k < 8) (hw : w < 5) (hz : 0 ≤ z) (hi : i = 5 + 5 * z + w) {e : va_E} (he : ze G k (w + 3) (zs S k 0 i v k) = e) : (zw G S).set (zp k (w + 3)) (za G k (w + 3), e) = zw G (zs S k 0 i v) := by
  refine zw_set (by omega) (fun k' j' hin hh => ?_) he
  by_cases e1 : k' = k
  · subst e1
    have hj : j' ≠ w + 3 := fun q => hh ⟨rfl, q⟩
    rw [ze_pr hk, ze_pr hk]
    rcases (show j' = 0 ∨ j' = 1 ∨ j' = 2 ∨ j' = 3 ∨ j' = 4 ∨ j' = 5 ∨ j' = 6 ∨ j' = 7 ∨ j' = 8 by omega) with rfl | rfl | rfl | rfl | rfl | rfl | rfl | rfl | rfl
    · have hx : ∀ x : Int, x = 4 ∨ x = 0 ∨ x = 3 → zs S k' 0 i v k' 0 x = S k' 0 x := fun x h => zs_x (by omega)
      simp only [zpr, hx 4 (by omega), hx 0 (by omega), hx 3 (by omega)]
    · have hx : ∀ x : Int, x = 1 ∨ x = 2 → zs S k' 0 i v k' 0 x = S k' 0 x := fun x h => zs_x (by omega)
      simp only [zpr, hx 1 (by omega), hx 2 (by omega)]
    · simp only [zpr, zs_j (show 2 ≠ 0 by omega)]
    · simp only [zpr, zs_f0 (S := S) (k := k') (i := i) (v := v) (fun n => by omega)]
    · simp only [zpr, zs_fw 1 (S := S) (k := k') (i := i) (v := v) (fun n => by omega)]
    · simp only [zpr, zs_fw 2 (S := S) (k := k') (i := i) (v := v) (fun n => by omega)]
    · simp only [zpr, zs_fw 3 (S := S) (k := k') (i := i) (v := v) (fun n => by omega)]
    · simp only [zpr, zs_fw 4 (S := S) (k := k') (i := i) (v := v) (fun n => by omega)]
    · simp only [zpr, zs_j (show 8 ≠ 0 by omega)]
  · rw [zs_k e1]
/-- a print's marks (j 2) and its sorted needs (j 8) -/
theorem zw_setM {G : zG} {S : zM} {k j : Nat} {i v : Int} (hk : k < 8) (hj2 : j = 2 ∨ j = 8) {e : va_E} (he : ze G k j (zs S k j i v k) = e) : (zw G S).set (zp k j) (za G k j, e) = zw G (zs S k j i v) := by
  refine zw_set (by omega) (fun k' j' hin hh => ?_) he
  by_cases e1 : k' = k
  · subst e1
    have hj : j' ≠ j := fun q => hh ⟨rfl, q⟩
    rw [ze_pr hk, ze_pr hk]
    rcases (show j' = 0 ∨ j' = 1 ∨ j' = 2 ∨ j' = 3 ∨ j' = 4 ∨ j' = 5 ∨ j' = 6 ∨ j' = 7 ∨ j' = 8 by omega) with rfl | rfl | rfl | rfl | rfl | rfl | rfl | rfl | rfl <;> first | (simp only [zpr, zs_j hj]; done) | simp only [zpr, zs_j (show 0 ≠ j by omega)]
  · rw [zs_k e1]
/-! what a method knows -/
def zSteps (j : Int) : Int := if j = 0 then 1400 else if j = 1 then 1320 else if j = 2 then 1260 else if j = 3 then 1200 else if j = 4 then 1160 else 1120
def zThr (j : Int) : Int := if j = 0 then 100000 else if j = 1 then 79370 else 63000
def zThi (j : Int) : Int := if j = 0 then 100 else if j = 1 then 126 else 159
def zTs (G : zG) (U : State) (H : Heap) : Prop := (va_Z "ZonePrint$Paper" "STEPS" "[I" (.ref (zt1 G)) (zA G) U H ∧ va_T .int (zt1 G) 6 (fun j => .int (zI (zSteps j))) (zA G) U H) ∧ (va_Z "ZonePrint$Paper" "THROUGH" "[I" (.ref (zt2 G)) (zA G) U H ∧ va_T .int (zt2 G) 3 (fun j => .int (zI (zThr j))) (zA G) U H) ∧ (va_Z "ZonePrint$Print" "THIRDS" "[I" (.ref (zt3 G)) (zA G) U H ∧ va_T .int (zt3 G) 3 (fun j => .int (zI (zThi j))) (zA G) U H)
theorem zTs.moved {G : zG} {u U : State} {H H1 : Heap} (hvm : u.vm.Alike U.vm) (hq : ∀ a : Nat, a < H.size → ¬ zA G a → H1[a]? = H[a]?) (h : zTs G u H) : zTs G U H1 :=
  ⟨⟨((h.1.1).moved hvm).kept hq, ((h.1.2).moved hvm).kept hq⟩, ⟨((h.2.1.1).moved hvm).kept hq, ((h.2.1.2).moved hvm).kept hq⟩, ⟨((h.2.2.1).moved hvm).kept hq, ((h.2.2.2).moved hvm).kept hq⟩⟩
def zNs (U : State) : Prop := ∀ w ∈ zNest, va_Nw w U
theorem zNs.warm {s U : State} (hW : s.WarmedH U.vm) (h : zNs s) : zNs U := by
  intro w hw
  have h1 := h w hw
  unfold zNest at hw
  simp only [List.mem_cons, List.not_mem_nil, or_false] at hw
  rcases hw with rfl | rfl | rfl | rfl | rfl | rfl | rfl | rfl | rfl | rfl | rfl | rfl | rfl | rfl | rfl <;> first | exact va_Nw.warmF hW h1 | exact va_Nw.warmM hW h1
theorem zNs.same {s U : State} (hvm : s.vm = U.vm) (h : zNs s) : zNs U := by
  intro w hw
  have h1 := h w hw
  unfold zNest at hw
  simp only [List.mem_cons, List.not_mem_nil, or_false] at hw
  rcases hw with rfl | rfl | rfl | rfl | rfl | rfl | rfl | rfl | rfl | rfl | rfl | rfl | rfl | rfl | rfl <;> exact va_Nw.same rfl hvm h1
def zU (G : zG) (U : State) : Prop := va_K (zD G) vwCl (zty G) U ∧ zn G ≤ U.heap.size ∧ zNs U ∧ zTs G U U.heap
def zB (G : zG) (S : zM) (U : State) : Prop := va_P (zD G) vwCl (zw G S) U.heap ∧ zU G U
def zH (G : zG) (S : zM) (s : State) (H : Heap) (locs : List Loc) : Prop := va_P (zD G) vwCl (zw G S) H ∧ va_S (zA G) s.heap H locs
def zE (p : Program) (s : State) (m : MethodId) (args : Array Value) (meth : Method) (c : Code) (cc : ByteArray) (nL : Nat) (own : String) (G : zG) : Prop := p.tables.exec = Jvm.exec ∧ c.code = cc ∧ c.maxLocals = nL ∧ s.vm.findClass own = some m.cls ∧ (∀ w ∈ zTbl, w.before args s = true) ∧ meth.locks = false ∧ zU G s ∧ zok G
theorem zU.go {G : zG} {s U : State} {H : Heap} {locs : List Loc} (h : zU G s) (hS : va_S (zA G) s.heap H locs) (hU : U.heap = H) (hW : s.WarmedH U.vm) : zU G U :=
  ⟨va_K.moved hW.alike h.1, by rw [hU]; exact Nat.le_trans h.2.1 hS.1, h.2.2.1.warm hW, by rw [hU]; exact zTs.moved hW.alike hS.2.1 h.2.2.2⟩
theorem zB.go {G : zG} {S : zM} {s U : State} {H : Heap} {locs : List Loc} (h : zU G s) (hH : zH G S s H locs) (hU : U.heap = H) (hW : s.WarmedH U.vm) : zB G S U :=
  ⟨by rw [hU]; exact hH.1, h.go hH.2 hU hW⟩
theorem zB.blind (G : zG) (S : zM) (avs : List Value) : FrameBlind (va_Pc avs (zB G S)) := by
  intro a U g mk q
  exact ⟨q.1, q.2.1, va_K.moved (u := U) (U := U.calling g mk a) (Vm.Alike.refl U.vm) q.2.2.1, q.2.2.2.1, zNs.same (s := U) (U := U.calling g mk a) rfl q.2.2.2.2.1, zTs.moved (u := U) (U := U.calling g mk a) (H := U.heap) (H1 := U.heap) (Vm.Alike.refl U.vm) (fun _ _ _ => rfl) q.2.2.2.2.2⟩
end
section
section ZK
variable {p : Program} {l : Launch} {e : Env} {R : Room} {s : State} {m : MethodId} {args : Array Value} {below : List Frame} {meth : Method} {c : Code} {H : Heap} {locs : List Loc} {cells slots : Nat} {Q : State → Prop} {cc : ByteArray} {pc : Nat} {ls : Array Slot} {rest : List Value} {nL : Nat} {own : String} {G : zG} {S : zM}
theorem zb_ic (h : zE p s m args meth c cc nL own G) {n : Int} (hdg : decode cc pc = .ok (.iconst n, 1)) (k : W p l e R s m args below meth c H locs cells slots Q (F0 m (pc + 1) ls (.int (zI n) :: rest))) : W p l e R s m args below meth c H locs cells slots Q (F0 m pc ls rest) := lv_iconst h.1 h.2.1 hdg rfl k
theorem zb_bi (h : zE p s m args meth c cc nL own G) {n : Int} (hdg : decode cc pc = .ok (.bipush n, 2)) (h1 : -128 ≤ n) (h2 : n ≤ 127) (k : W p l e R s m args below meth c H locs cells slots Q (F0 m (pc + 2) ls (.int (zI n) :: rest))) : W p l e R s m args below meth c H locs cells slots Q (F0 m pc ls rest) := lv_bipush h.1 h.2.1 hdg (zI_i8 h1 h2) k
theorem zb_si (h : zE p s m args meth c cc nL own G) {n : Int} (hdg : decode cc pc = .ok (.sipush n, 3)) (h1 : -32768 ≤ n) (h2 : n ≤ 32767) (k : W p l e R s m args below meth c H locs cells slots Q (F0 m (pc + 3) ls (.int (zI n) :: rest))) : W p l e R s m args below meth c H locs cells slots Q (F0 m pc ls rest) := lv_sipush h.1 h.2.1 hdg (zI_i16 h1 h2) k
theorem zb_lc (h : zE p s m args meth c cc nL own G) {n : Fin 2} {v : Int} (hdg : decode cc pc = .ok (.lconst n, 1)) (hv : Int64.ofNat n = zL v) (k : W p l e R s m args below meth c H locs cells slots Q (F0 m (pc + 1) ls (.long (zL v) :: rest))) : W p l e R s m args below meth c H locs cells slots Q (F0 m pc ls rest) := lv_lconst h.1 h.2.1 hdg hv k
theorem zb_ldc (h : zE p s m args meth c cc nL own G) {n : Int} {w : Int32} {idx : Nat} (hw : Cond.constant own idx w ∈ zTbl) (hv : w = zI n) (hdg : decode cc pc = .ok (.ldc idx, 2)) (k : W p l e R s m args below meth c H locs cells slots Q (F0 m (pc + 2) ls (.int (zI n) :: rest))) : W p l e R s m args below meth c H locs cells slots Q (F0 m pc ls rest) := lv_ldc h.1 h.2.1 h.2.2.2.1 (h.2.2.2.2.1 _ (hv ▸ hw)) hdg k
theorem zb_ldc2 (h : zE p s m args meth c cc nL own G) {n : Int} {w : Int64} {idx : Nat} (hw : Cond.constantLong own idx w ∈ zTbl) (hv : w = zL n) (hdg : decode cc pc = .ok (.ldc2_w idx, 3)) (k : W p l e R s m args below meth c H locs cells slots Q (F0 m (pc + 3) ls (.long (zL n) :: rest))) : W p l e R s m args below meth c H locs cells slots Q (F0 m pc ls rest) := lv_ldc2 h.1 h.2.1 h.2.2.2.1 (h.2.2.2.2.1 _ (hv ▸ hw)) hdg k
theorem zb_iadd (h : zE p s m args meth c cc nL own G) {x y : Int} (hdg : decode cc pc = .ok (.iadd, 1)) (k : W p l e R s m args below meth c H locs cells slots Q (F0 m (pc + 1) ls (.int (zI (x + y)) :: rest))) : W p l e R s m args below meth c H locs cells slots Q (F0 m pc ls (.int (zI y) :: .int (zI x) :: rest)) := lv_iadd h.1 h.2.1 hdg (zI_add x y ▸ k)
theorem zb_isub (h : zE p s m args meth c cc nL own G) {x y : Int} (hdg : decode cc pc = .ok (.isub, 1)) (k : W p l e R s m args below meth c H locs cells slots Q (F0 m (pc + 1) ls (.int (zI (x - y)) :: rest))) : W p l e R s m args below meth c H locs cells slots Q (F0 m pc ls (.int (zI y) :: .int (zI x) :: rest)) := lv_isub h.1 h.2.1 hdg (zI_sub x y ▸ k)
theorem zb_imul (h : zE p s m args meth c cc nL own G) {x y : Int} (hdg : decode cc pc = .ok (.imul, 1)) (k : W p l e R s m args below meth c H locs cells slots Q (F0 m (pc + 1) ls (.int (zI (x * y)) :: rest))) : W p l e R s m args below meth c H locs cells slots Q (F0 m pc ls (.int (zI y) :: .int (zI x) :: rest)) := lv_imul h.1 h.2.1 hdg (zI_mul x y ▸ k)
theorem zb_iand (h : zE p s m args meth c cc nL own G) {x y : Int} (hdg : decode cc pc = .ok (.iand, 1)) (k : W p l e R s m args below meth c H locs cells slots Q (F0 m (pc + 1) ls (.int (zI (zand x y)) :: rest))) : W p l e R s m args below meth c H locs cells slots Q (F0 m pc ls (.int (zI y) :: .int (zI x) :: rest)) := lv_iand h.1 h.2.1 hdg (zI_and x y ▸ k)
theorem zb_ior (h : zE p s m args meth c cc nL own G) {x y : Int} (hdg : decode cc pc = .ok (.ior, 1)) (k : W p l e R s m args below meth c H locs cells slots Q (F0 m (pc + 1) ls (.int (zI (zor x y)) :: rest))) : W p l e R s m args below meth c H locs cells slots Q (F0 m pc ls (.int (zI y) :: .int (zI x) :: rest)) := lv_ior h.1 h.2.1 hdg (zI_or x y ▸ k)
theorem zb_ixor (h : zE p s m args meth c cc nL own G) {x y : Int} (hdg : decode cc pc = .ok (.ixor, 1)) (k : W p l e R s m args below meth c H locs cells slots Q (F0 m (pc + 1) ls (.int (zI (zxor x y)) :: rest))) : W p l e R s m args below meth c H locs cells slots Q (F0 m pc ls (.int (zI y) :: .int (zI x) :: rest)) := lv_ixor h.1 h.2.1 hdg (zI_xor x y ▸ k)
theorem zb_ineg (h : zE p s m args meth c cc nL own G) {x : Int} (hdg : decode cc pc = .ok (.ineg, 1)) (k : W p l e R s m args below meth c H locs cells slots Q (F0 m (pc + 1) ls (.int (zI (-x)) :: rest))) : W p l e R s m args below meth c H locs cells slots Q (F0 m pc ls (.int (zI x) :: rest)) := lv_ineg h.1 h.2.1 hdg (by first | exact zI_neg x ▸ k | (rw [show (0 : Int32) = zI 0 from zI_0, zI_sub]; rwa [Int.zero_sub]))
theorem zb_ladd (h : zE p s m args meth c cc nL own G) {x y : Int} (hdg : decode cc pc = .ok (.ladd, 1)) (k : W p l e R s m args below meth c H locs cells slots Q (F0 m (pc + 1) ls (.long (zL (x + y)) :: rest))) : W p l e R s m args below meth c H locs cells slots Q (F0 m pc ls (.long (zL y) :: .long (zL x) :: rest)) := lv_ladd h.1 h.2.1 hdg (zL_add x y ▸ k)
theorem zb_lsub (h : zE p s m args meth c cc nL own G) {x y : Int} (hdg : decode cc pc = .ok (.lsub, 1)) (k : W p l e R s m args below meth c H locs cells slots Q (F0 m (pc + 1) ls (.long (zL (x - y)) :: rest))) : W p l e R s m args below meth c H locs cells slots Q (F0 m pc ls (.long (zL y) :: .long (zL x) :: rest)) := lv_lsub h.1 h.2.1 hdg (zL_sub x y ▸ k)
theorem zb_lmul (h : zE p s m args meth c cc nL own G) {x y : Int} (hdg : decode cc pc = .ok (.lmul, 1)) (k : W p l e R s m args below meth c H locs cells slots Q (F0 m (pc + 1) ls (.long (zL (x * y)) :: rest))) : W p l e R s m args below meth c H locs cells slots Q (F0 m pc ls (.long (zL y) :: .long (zL x) :: rest)) := lv_lmul h.1 h.2.1 hdg (zL_mul x y ▸ k)
theorem zb_and1 (h : zE p s m args meth c cc nL own G) {x : Int} (h0 : 0 ≤ x ∧ x ≤ 2147483647) (hdg : decode cc pc = .ok (.iand, 1)) (k : W p l e R s m args below meth c H locs cells slots Q (F0 m (pc + 1) ls (.int (zI (x % 2)) :: rest))) : W p l e R s m args below meth c H locs cells slots Q (F0 m pc ls (.int (zI 1) :: .int (zI x) :: rest)) := lv_iand h.1 h.2.1 hdg (by rw [zI_and, zand_1 h0.1 h0.2]; exact k)
theorem zb_ishr (h : zE p s m args meth c cc nL own G) {x y : Int} (h0 : 0 ≤ x ∧ x ≤ 2147483647) (h1 : 0 ≤ y ∧ y < 32) (hdg : decode cc pc = .ok (.ishr, 1)) (k : W p l e R s m args below meth c H locs cells slots Q (F0 m (pc + 1) ls (.int (zI (x / 2 ^ y.toNat)) :: rest))) : W p l e R s m args below meth c H locs cells slots Q (F0 m pc ls (.int (zI y) :: .int (zI x) :: rest)) := lv_ishr h.1 h.2.1 hdg (by rw [zI_shr h0 h1]; exact k)
theorem zb_ishl (h : zE p s m args meth c cc nL own G) {x y : Int} (h0 : 0 ≤ x) (h1 : 0 ≤ y ∧ y < 32) (h2 : x * 2 ^ y.toNat < 4294967296) (hdg : decode cc pc = .ok (.ishl, 1)) (k : W p l e R s m args below meth c H locs cells slots Q (F0 m (pc + 1) ls (.int (zI (x * 2 ^ y.toNat)) :: rest))) : W p l e R s m args below meth c H locs cells slots Q (F0 m pc ls (.int (zI y) :: .int (zI x) :: rest)) := lv_ishl h.1 h.2.1 hdg (by rw [zI_shl h0 h1 h2]; exact k)
theorem zb_idiv (h : zE p s m args meth c cc nL own G) {x y : Int} (h0 : 0 ≤ x ∧ x ≤ 2147483647) (h1 : 0 < y ∧ y ≤ 2147483647) (hdg : decode cc pc = .ok (.idiv, 1)) (k : W p l e R s m args below meth c H locs cells slots Q (F0 m (pc + 1) ls (.int (zI (x / y)) :: rest))) : W p l e R s m args below meth c H locs cells slots Q (F0 m pc ls (.int (zI y) :: .int (zI x) :: rest)) := lv_idiv h.1 h.2.1 hdg (by rw [zI_0, zI_eq (by omega) (by omega)]; omega) (by rw [zI_div h0 h1]; exact k)
theorem zb_irem (h : zE p s m args meth c cc nL own G) {x y : Int} (h0 : 0 ≤ x ∧ x ≤ 2147483647) (h1 : 0 < y ∧ y ≤ 2147483647) (hdg : decode cc pc = .ok (.irem, 1)) (k : W p l e R s m args below meth c H locs cells slots Q (F0 m (pc + 1) ls (.int (zI (x % y)) :: rest))) : W p l e R s m args below meth c H locs cells slots Q (F0 m pc ls (.int (zI y) :: .int (zI x) :: rest)) := lv_irem h.1 h.2.1 hdg (by rw [zI_0, zI_eq (by omega) (by omega)]; omega) (by rw [zI_rem h0 h1]; exact k)
theorem zb_ldiv (h : zE p s m args meth c cc nL own G) {x y : Int} (h0 : 0 ≤ x ∧ x ≤ 9223372036854775807) (h1 : 0 < y ∧ y ≤ 9223372036854775807) (hdg : decode cc pc = .ok (.ldiv, 1)) (k : W p l e R s m args below meth c H locs cells slots Q (F0 m (pc + 1) ls (.long (zL (x / y)) :: rest))) : W p l e R s m args below meth c H locs cells slots Q (F0 m pc ls (.long (zL y) :: .long (zL x) :: rest)) := lv_ldiv h.1 h.2.1 hdg (by rw [show (0 : Int64) = zL 0 from by decide +kernel, zL_eq (by omega) (by omega)]; omega) (by rw [zL_div h0 h1]; exact k)
theorem zb_i2l (h : zE p s m args meth c cc nL own G) {x : Int} (h0 : -2147483648 ≤ x ∧ x ≤ 2147483647) (hdg : decode cc pc = .ok (.i2l, 1)) (k : W p l e R s m args below meth c H locs cells slots Q (F0 m (pc + 1) ls (.long (zL x) :: rest))) : W p l e R s m args below meth c H locs cells slots Q (F0 m pc ls (.int (zI x) :: rest)) := lv_i2l h.1 h.2.1 hdg (zI_long h0) k
theorem zb_l2i (h : zE p s m args meth c cc nL own G) {x : Int} (hdg : decode cc pc = .ok (.l2i, 1)) (k : W p l e R s m args below meth c H locs cells slots Q (F0 m (pc + 1) ls (.int (zI x) :: rest))) : W p l e R s m args below meth c H locs cells slots Q (F0 m pc ls (.long (zL x) :: rest)) := lv_l2i h.1 h.2.1 hdg (zL_int x) k
theorem zb_lcmp (h : zE p s m args meth c cc nL own G) {x y : Int} (hx : -9223372036854775808 ≤ x ∧ x ≤ 9223372036854775807) (hy : -9223372036854775808 ≤ y ∧ y ≤ 9223372036854775807) (hdg : decode cc pc = .ok (.lcmp, 1)) (k : W p l e R s m args below meth c H locs cells slots Q (F0 m (pc + 1) ls (.int (zI (if x > y then 1 else if x = y then 0 else -1)) :: rest))) : W p l e R s m args below meth c H locs cells slots Q (F0 m pc ls (.long (zL y) :: .long (zL x) :: rest)) := W.lcmp h.1 h.2.1 hdg (by
  have e : lg_cmp (zL x) (zL y) = zI (if x > y then 1 else if x = y then 0 else -1) := by
    unfold lg_cmp
    by_cases h1 : x > y
    · rw [if_pos ((zL_lt hy hx).mpr h1), if_pos h1]; decide +kernel
    · rw [if_neg (fun q => h1 ((zL_lt hy hx).mp q)), if_neg h1]
      by_cases h2 : x = y
      · rw [if_pos (congrArg zL h2), if_pos h2]; decide +kernel
      · rw [if_neg (fun q => h2 ((zL_eq hx hy).mp q)), if_neg h2]; decide +kernel
  rw [e]; exact k)
theorem zb_ceq (h : zE p s m args meth c cc nL own G) {x y : Int} {off : Int} {tgt : Nat} (hx : -2147483648 ≤ x ∧ x ≤ 2147483647) (hy : -2147483648 ≤ y ∧ y ≤ 2147483647) (hdg : decode cc pc = .ok (.if_icmp .eq off, 3)) (ht : (pc : Int) + off = (tgt : Int)) (kt : x = y → W p l e R s m args below meth c H locs cells slots Q (F0 m tgt ls rest)) (kf : x ≠ y → W p l e R s m args below meth c H locs cells slots Q (F0 m (pc + 3) ls rest)) : W p l e R s m args below meth c H locs cells slots Q (F0 m pc ls (.int (zI y) :: .int (zI x) :: rest)) := lv_icmp_eq h.1 h.2.1 hdg ht (fun q => kt ((zI_eq hx hy).mp q)) (fun q => kf (by have q2 : ¬ (x = y) := fun q3 => q ((zI_eq hx hy).mpr q3); omega))
theorem zb_ieq (h : zE p s m args meth c cc nL own G) {x : Int} {off : Int} {tgt : Nat} (hx : -2147483648 ≤ x ∧ x ≤ 2147483647) (hdg : decode cc pc = .ok (.ifCond .eq off, 3)) (ht : (pc : Int) + off = (tgt : Int)) (kt : x = 0 → W p l e R s m args below meth c H locs cells slots Q (F0 m tgt ls rest)) (kf : x ≠ 0 → W p l e R s m args below meth c H locs cells slots Q (F0 m (pc + 3) ls rest)) : W p l e R s m args below meth c H locs cells slots Q (F0 m pc ls (.int (zI x) :: rest)) := lv_if_eq h.1 h.2.1 hdg ht (by rw [zI_0]; exact (fun q => kt ((zI_eq hx zI_r0).mp q))) (by rw [zI_0]; exact (fun q => kf (by have q2 : ¬ (x = 0) := fun q3 => q ((zI_eq hx zI_r0).mpr q3); omega)))
theorem zb_cne (h : zE p s m args meth c cc nL own G) {x y : Int} {off : Int} {tgt : Nat} (hx : -2147483648 ≤ x ∧ x ≤ 2147483647) (hy : -2147483648 ≤ y ∧ y ≤ 2147483647) (hdg : decode cc pc = .ok (.if_icmp .ne off, 3)) (ht : (pc : Int) + off = (tgt : Int)) (kt : x ≠ y → W p l e R s m args below meth c H locs cells slots Q (F0 m tgt ls rest)) (kf : x = y → W p l e R s m args below meth c H locs cells slots Q (F0 m (pc + 3) ls rest)) : W p l e R s m args below meth c H locs cells slots Q (F0 m pc ls (.int (zI y) :: .int (zI x) :: rest)) := lv_icmp_ne h.1 h.2.1 hdg ht (fun q => kt (fun q2 => q ((zI_eq hx hy).mpr q2))) (fun q => kf ((zI_eq hx hy).mp q))
theorem zb_ine (h : zE p s m args meth c cc nL own G) {x : Int} {off : Int} {tgt : Nat} (hx : -2147483648 ≤ x ∧ x ≤ 2147483647) (hdg : decode cc pc = .ok (.ifCond .ne off, 3)) (ht : (pc : Int) + off = (tgt : Int)) (kt : x ≠ 0 → W p l e R s m args below meth c H locs cells slots Q (F0 m tgt ls rest)) (kf : x = 0 → W p l e R s m args below meth c H locs cells slots Q (F0 m (pc + 3) ls rest)) : W p l e R s m args below meth c H locs cells slots Q (F0 m pc ls (.int (zI x) :: rest)) := lv_if_ne h.1 h.2.1 hdg ht (by rw [zI_0]; exact (fun q => kt (fun q2 => q ((zI_eq hx zI_r0).mpr q2)))) (by rw [zI_0]; exact (fun q => kf ((zI_eq hx zI_r0).mp q)))
theorem zb_clt (h : zE p s m args meth c cc nL own G) {x y : Int} {off : Int} {tgt : Nat} (hx : -2147483648 ≤ x ∧ x ≤ 2147483647) (hy : -2147483648 ≤ y ∧ y ≤ 2147483647) (hdg : decode cc pc = .ok (.if_icmp .lt off, 3)) (ht : (pc : Int) + off = (tgt : Int)) (kt : x < y → W p l e R s m args below meth c H locs cells slots Q (F0 m tgt ls rest)) (kf : y ≤ x → W p l e R s m args below meth c H locs cells slots Q (F0 m (pc + 3) ls rest)) : W p l e R s m args below meth c H locs cells slots Q (F0 m pc ls (.int (zI y) :: .int (zI x) :: rest)) := lv_icmp_lt h.1 h.2.1 hdg ht (fun q => kt ((zI_lt hx hy).mp q)) (fun q => kf (by have q2 : ¬ (x < y) := fun q3 => q ((zI_lt hx hy).mpr q3); omega))
theorem zb_ilt (h : zE p s m args meth c cc nL own G) {x : Int} {off : Int} {tgt : Nat} (hx : -2147483648 ≤ x ∧ x ≤ 2147483647) (hdg : decode cc pc = .ok (.ifCond .lt off, 3)) (ht : (pc : Int) + off = (tgt : Int)) (kt : x < 0 → W p l e R s m args below meth c H locs cells slots Q (F0 m tgt ls rest)) (kf : 0 ≤ x → W p l e R s m args below meth c H locs cells slots Q (F0 m (pc + 3) ls rest)) : W p l e R s m args below meth c H locs cells slots Q (F0 m pc ls (.int (zI x) :: rest)) := lv_if_lt h.1 h.2.1 hdg ht (by rw [zI_0]; exact (fun q => kt ((zI_lt hx zI_r0).mp q))) (by rw [zI_0]; exact (fun q => kf (by have q2 : ¬ (x < 0) := fun q3 => q ((zI_lt hx zI_r0).mpr q3); omega)))
theorem zb_cge (h : zE p s m args meth c cc nL own G) {x y : Int} {off : Int} {tgt : Nat} (hx : -2147483648 ≤ x ∧ x ≤ 2147483647) (hy : -2147483648 ≤ y ∧ y ≤ 2147483647) (hdg : decode cc pc = .ok (.if_icmp .ge off, 3)) (ht : (pc : Int) + off = (tgt : Int)) (kt : y ≤ x → W p l e R s m args below meth c H locs cells slots Q (F0 m tgt ls rest)) (kf : x < y → W p l e R s m args below meth c H locs cells slots Q (F0 m (pc + 3) ls rest)) : W p l e R s m args below meth c H locs cells slots Q (F0 m pc ls (.int (zI y) :: .int (zI x) :: rest)) := lv_icmp_ge h.1 h.2.1 hdg ht (fun q => kt ((zI_le hy hx).mp q)) (fun q => kf (by have q2 : ¬ (y ≤ x) := fun q3 => q ((zI_le hy hx).mpr q3); omega))
theorem zb_ige (h : zE p s m args meth c cc nL own G) {x : Int} {off : Int} {tgt : Nat} (hx : -2147483648 ≤ x ∧ x ≤ 2147483647) (hdg : decode cc pc = .ok (.ifCond .ge off, 3)) (ht : (pc : Int) + off = (tgt : Int)) (kt : 0 ≤ x → W p l e R s m args below meth c H locs cells slots Q (F0 m tgt ls rest)) (kf : x < 0 → W p l e R s m args below meth c H locs cells slots Q (F0 m (pc + 3) ls rest)) : W p l e R s m args below meth c H locs cells slots Q (F0 m pc ls (.int (zI x) :: rest)) := lv_if_ge h.1 h.2.1 hdg ht (by rw [zI_0]; exact (fun q => kt ((zI_le zI_r0 hx).mp q))) (by rw [zI_0]; exact (fun q => kf (by have q2 : ¬ (0 ≤ x) := fun q3 => q ((zI_le zI_r0 hx).mpr q3); omega)))
theorem zb_cgt (h : zE p s m args meth c cc nL own G) {x y : Int} {off : Int} {tgt : Nat} (hx : -2147483648 ≤ x ∧ x ≤ 2147483647) (hy : -2147483648 ≤ y ∧ y ≤ 2147483647) (hdg : decode cc pc = .ok (.if_icmp .gt off, 3)) (ht : (pc : Int) + off = (tgt : Int)) (kt : y < x → W p l e R s m args below meth c H locs cells slots Q (F0 m tgt ls rest)) (kf : x ≤ y → W p l e R s m args below meth c H locs cells slots Q (F0 m (pc + 3) ls rest)) : W p l e R s m args below meth c H locs cells slots Q (F0 m pc ls (.int (zI y) :: .int (zI x) :: rest)) := lv_icmp_gt h.1 h.2.1 hdg ht (fun q => kt ((zI_lt hy hx).mp q)) (fun q => kf (by have q2 : ¬ (y < x) := fun q3 => q ((zI_lt hy hx).mpr q3); omega))
theorem zb_igt (h : zE p s m args meth c cc nL own G) {x : Int} {off : Int} {tgt : Nat} (hx : -2147483648 ≤ x ∧ x ≤ 2147483647) (hdg : decode cc pc = .ok (.ifCond .gt off, 3)) (ht : (pc : Int) + off = (tgt : Int)) (kt : 0 < x → W p l e R s m args below meth c H locs cells slots Q (F0 m tgt ls rest)) (kf : x ≤ 0 → W p l e R s m args below meth c H locs cells slots Q (F0 m (pc + 3) ls rest)) : W p l e R s m args below meth c H locs cells slots Q (F0 m pc ls (.int (zI x) :: rest)) := lv_if_gt h.1 h.2.1 hdg ht (by rw [zI_0]; exact (fun q => kt ((zI_lt zI_r0 hx).mp q))) (by rw [zI_0]; exact (fun q => kf (by have q2 : ¬ (0 < x) := fun q3 => q ((zI_lt zI_r0 hx).mpr q3); omega)))
theorem zb_cle (h : zE p s m args meth c cc nL own G) {x y : Int} {off : Int} {tgt : Nat} (hx : -2147483648 ≤ x ∧ x ≤ 2147483647) (hy : -2147483648 ≤ y ∧ y ≤ 2147483647) (hdg : decode cc pc = .ok (.if_icmp .le off, 3)) (ht : (pc : Int) + off = (tgt : Int)) (kt : x ≤ y → W p l e R s m args below meth c H locs cells slots Q (F0 m tgt ls rest)) (kf : y < x → W p l e R s m args below meth c H locs cells slots Q (F0 m (pc + 3) ls rest)) : W p l e R s m args below meth c H locs cells slots Q (F0 m pc ls (.int (zI y) :: .int (zI x) :: rest)) := lv_icmp_le h.1 h.2.1 hdg ht (fun q => kt ((zI_le hx hy).mp q)) (fun q => kf (by have q2 : ¬ (x ≤ y) := fun q3 => q ((zI_le hx hy).mpr q3); omega))
theorem zb_ile (h : zE p s m args meth c cc nL own G) {x : Int} {off : Int} {tgt : Nat} (hx : -2147483648 ≤ x ∧ x ≤ 2147483647) (hdg : decode cc pc = .ok (.ifCond .le off, 3)) (ht : (pc : Int) + off = (tgt : Int)) (kt : x ≤ 0 → W p l e R s m args below meth c H locs cells slots Q (F0 m tgt ls rest)) (kf : 0 < x → W p l e R s m args below meth c H locs cells slots Q (F0 m (pc + 3) ls rest)) : W p l e R s m args below meth c H locs cells slots Q (F0 m pc ls (.int (zI x) :: rest)) := lv_if_le h.1 h.2.1 hdg ht (by rw [zI_0]; exact (fun q => kt ((zI_le hx zI_r0).mp q))) (by rw [zI_0]; exact (fun q => kf (by have q2 : ¬ (x ≤ 0) := fun q3 => q ((zI_le hx zI_r0).mpr q3); omega)))
theorem zr_0 (h : zE p s m args meth c cc nL own G) (hH : zH G S s H locs)  : ∃ cell : Cell, H[za G 8 1]? = some cell ∧ cell.vm.isStatics = false ∧ s.vm.findClass RX0 = some cell.cls := va_recv h.2.2.2.2.2.2.1.1 hH.1 (ci := 0) (q0 := zp 8 1) rfl ((zw_at (Or.inr (Or.inl ⟨rfl, by omega⟩))).trans (congrArg (fun z => some (za G 8 1, z)) rfl))
theorem zg_0_0 (h : zE p s m args meth c cc nL own G) (hH : zH G S s H locs)  {ix : Nat} (hl : Cond.fieldLink own ix RX0 (TX0 0).2.1 (TX0 0).2.2.1 ∈ zTbl) (hdg : decode cc pc = .ok (.getfield ix, 3)) (k0 : W p l e R s m args below meth c H locs cells slots Q (F0 m (pc + 3) ls (.ref (za G 8 2) :: rest))) : W p l e R s m args below meth c H locs cells slots Q (F0 m pc ls (.ref (za G 8 1) :: rest)) := va_get (D := zD G) (C := RX0) (T := TX0) (N := 3) (ci := 0) h.1 h.2.1 h.2.2.2.2.1 zin_X0 h.2.2.2.1 h.2.2.2.2.2.2.1.1 hH.1 (zp 8 1) ((zw_at (Or.inr (Or.inl ⟨rfl, by omega⟩))).trans (congrArg (fun z => some (za G 8 1, z)) rfl)) rfl 0 (by omega) (h.2.2.2.2.1 _ hl) (fun _ h9 => h9) rfl hdg k0
theorem zgn_0_0 (h : zE p s m args meth c cc nL own G) (hH : zH G S s H locs)  {ix : Nat} {host : String} (hl : Cond.fieldLinkNest own ix RX0 (TX0 0).2.1 (TX0 0).2.2.1 host ∈ zNest) (hdg : decode cc pc = .ok (.getfield ix, 3)) (k0 : W p l e R s m args below meth c H locs cells slots Q (F0 m (pc + 3) ls (.ref (za G 8 2) :: rest))) : W p l e R s m args below meth c H locs cells slots Q (F0 m pc ls (.ref (za G 8 1) :: rest)) := va_getN (D := zD G) (C := RX0) (T := TX0) (N := 3) (ci := 0) h.1 h.2.1 h.2.2.2.2.1 zin_X0 h.2.2.2.1 h.2.2.2.2.2.2.1.1 hH.1 (zp 8 1) ((zw_at (Or.inr (Or.inl ⟨rfl, by omega⟩))).trans (congrArg (fun z => some (za G 8 1, z)) rfl)) rfl 0 (by omega) (va_Nw.use rfl (h.2.2.2.2.2.2.1.2.2.1 _ hl)) (fun _ h9 => h9) rfl hdg k0
theorem zg_0_1 (h : zE p s m args meth c cc nL own G) (hH : zH G S s H locs)  {ix : Nat} (hl : Cond.fieldLink own ix RX0 (TX0 1).2.1 (TX0 1).2.2.1 ∈ zTbl) (hdg : decode cc pc = .ok (.getfield ix, 3)) (k0 : W p l e R s m args below meth c H locs cells slots Q (F0 m (pc + 3) ls (.int (zI (S 8 1 1)) :: rest))) : W p l e R s m args below meth c H locs cells slots Q (F0 m pc ls (.ref (za G 8 1) :: rest)) := va_get (D := zD G) (C := RX0) (T := TX0) (N := 3) (ci := 0) h.1 h.2.1 h.2.2.2.2.1 zin_X0 h.2.2.2.1 h.2.2.2.2.2.2.1.1 hH.1 (zp 8 1) ((zw_at (Or.inr (Or.inl ⟨rfl, by omega⟩))).trans (congrArg (fun z => some (za G 8 1, z)) rfl)) rfl 1 (by omega) (h.2.2.2.2.1 _ hl) (fun _ h9 => h9) rfl hdg k0
theorem zu_0_1 (h : zE p s m args meth c cc nL own G) (hH : zH G S s H locs)  {ix : Nat} {v : Int}  (hl : Cond.fieldLink own ix RX0 (TX0 1).2.1 (TX0 1).2.2.1 ∈ zTbl) (hdg : decode cc pc = .ok (.putfield ix, 3)) (k0 : ∀ (H1 : Heap) (locs1 : List Loc), zH G (zs S 8 1 1 v) s H1 locs1 → W p l e R s m args below meth c H1 locs1 cells slots Q (F0 m (pc + 3) ls rest)) : W p l e R s m args below meth c H locs cells slots Q (F0 m pc ls (.int (zI v) :: .ref (za G 8 1) :: rest)) := va_put (D := zD G) (C := RX0) (T := TX0) (N := 3) (ci := 0) (ty := .int) h.1 h.2.1 h.2.2.2.2.1 zin_X0 tyX0 tyX0_ok nmX0 h.2.2.2.1 h.2.2.2.2.2.2.1.1 hH.1 (zw_D h.2.2.2.2.2.2.2 S) hH.2 (zp 8 1) ((zw_at (Or.inr (Or.inl ⟨rfl, by omega⟩))).trans (congrArg (fun z => some (za G 8 1, z)) rfl)) rfl 1 (by omega) (h.2.2.2.2.1 _ hl) (fun _ h9 => h9) rfl (by decide +kernel) rfl rfl (Nat.le_of_ble_eq_true rfl) hdg (fun H1 locs1 hP _ hS => k0 H1 locs1 ⟨(zw_set8 (G := G) (S := S) (k := 8) (j := 1) (e := .inr (0, [.ref (za G 8 2), .int (zI v), .int (zI (S 8 1 2))])) (i := 1) (v := v) (Or.inl rfl) (Or.inr (Or.inl ⟨rfl, by omega⟩)) (by rw [ze_cl]; simp only [zcl, zs_s, zs_x (S := S) (k := 8) (j := 1) (i := 1) (v := v) (show (2 : Int) ≠ 1 by omega)])) ▸ hP, hS⟩)
theorem zgn_0_1 (h : zE p s m args meth c cc nL own G) (hH : zH G S s H locs)  {ix : Nat} {host : String} (hl : Cond.fieldLinkNest own ix RX0 (TX0 1).2.1 (TX0 1).2.2.1 host ∈ zNest) (hdg : decode cc pc = .ok (.getfield ix, 3)) (k0 : W p l e R s m args below meth c H locs cells slots Q (F0 m (pc + 3) ls (.int (zI (S 8 1 1)) :: rest))) : W p l e R s m args below meth c H locs cells slots Q (F0 m pc ls (.ref (za G 8 1) :: rest)) := va_getN (D := zD G) (C := RX0) (T := TX0) (N := 3) (ci := 0) h.1 h.2.1 h.2.2.2.2.1 zin_X0 h.2.2.2.1 h.2.2.2.2.2.2.1.1 hH.1 (zp 8 1) ((zw_at (Or.inr (Or.inl ⟨rfl, by omega⟩))).trans (congrArg (fun z => some (za G 8 1, z)) rfl)) rfl 1 (by omega) (va_Nw.use rfl (h.2.2.2.2.2.2.1.2.2.1 _ hl)) (fun _ h9 => h9) rfl hdg k0
theorem zun_0_1 (h : zE p s m args meth c cc nL own G) (hH : zH G S s H locs)  {ix : Nat} {v : Int}  {host : String} (hl : Cond.fieldLinkNest own ix RX0 (TX0 1).2.1 (TX0 1).2.2.1 host ∈ zNest) (hdg : decode cc pc = .ok (.putfield ix, 3)) (k0 : ∀ (H1 : Heap) (locs1 : List Loc), zH G (zs S 8 1 1 v) s H1 locs1 → W p l e R s m args below meth c H1 locs1 cells slots Q (F0 m (pc + 3) ls rest)) : W p l e R s m args below meth c H locs cells slots Q (F0 m pc ls (.int (zI v) :: .ref (za G 8 1) :: rest)) := va_putN (D := zD G) (C := RX0) (T := TX0) (N := 3) (ci := 0) (ty := .int) h.1 h.2.1 h.2.2.2.2.1 zin_X0 tyX0 tyX0_ok nmX0 h.2.2.2.1 h.2.2.2.2.2.2.1.1 hH.1 (zw_D h.2.2.2.2.2.2.2 S) hH.2 (zp 8 1) ((zw_at (Or.inr (Or.inl ⟨rfl, by omega⟩))).trans (congrArg (fun z => some (za G 8 1, z)) rfl)) rfl 1 (by omega) (va_Nw.use rfl (h.2.2.2.2.2.2.1.2.2.1 _ hl)) (fun _ h9 => h9) rfl (by decide +kernel) rfl rfl (Nat.le_of_ble_eq_true rfl) hdg (fun H1 locs1 hP _ hS => k0 H1 locs1 ⟨(zw_set8 (G := G) (S := S) (k := 8) (j := 1) (e := .inr (0, [.ref (za G 8 2), .int (zI v), .int (zI (S 8 1 2))])) (i := 1) (v := v) (Or.inl rfl) (Or.inr (Or.inl ⟨rfl, by omega⟩)) (by rw [ze_cl]; simp only [zcl, zs_s, zs_x (S := S) (k := 8) (j := 1) (i := 1) (v := v) (show (2 : Int) ≠ 1 by omega)])) ▸ hP, hS⟩)
theorem zg_0_2 (h : zE p s m args meth c cc nL own G) (hH : zH G S s H locs)  {ix : Nat} (hl : Cond.fieldLink own ix RX0 (TX0 2).2.1 (TX0 2).2.2.1 ∈ zTbl) (hdg : decode cc pc = .ok (.getfield ix, 3)) (k0 : W p l e R s m args below meth c H locs cells slots Q (F0 m (pc + 3) ls (.int (zI (S 8 1 2)) :: rest))) : W p l e R s m args below meth c H locs cells slots Q (F0 m pc ls (.ref (za G 8 1) :: rest)) := va_get (D := zD G) (C := RX0) (T := TX0) (N := 3) (ci := 0) h.1 h.2.1 h.2.2.2.2.1 zin_X0 h.2.2.2.1 h.2.2.2.2.2.2.1.1 hH.1 (zp 8 1) ((zw_at (Or.inr (Or.inl ⟨rfl, by omega⟩))).trans (congrArg (fun z => some (za G 8 1, z)) rfl)) rfl 2 (by omega) (h.2.2.2.2.1 _ hl) (fun _ h9 => h9) rfl hdg k0
theorem zu_0_2 (h : zE p s m args meth c cc nL own G) (hH : zH G S s H locs)  {ix : Nat} {v : Int}  (hl : Cond.fieldLink own ix RX0 (TX0 2).2.1 (TX0 2).2.2.1 ∈ zTbl) (hdg : decode cc pc = .ok (.putfield ix, 3)) (k0 : ∀ (H1 : Heap) (locs1 : List Loc), zH G (zs S 8 1 2 v) s H1 locs1 → W p l e R s m args below meth c H1 locs1 cells slots Q (F0 m (pc + 3) ls rest)) : W p l e R s m args below meth c H locs cells slots Q (F0 m pc ls (.int (zI v) :: .ref (za G 8 1) :: rest)) := va_put (D := zD G) (C := RX0) (T := TX0) (N := 3) (ci := 0) (ty := .int) h.1 h.2.1 h.2.2.2.2.1 zin_X0 tyX0 tyX0_ok nmX0 h.2.2.2.1 h.2.2.2.2.2.2.1.1 hH.1 (zw_D h.2.2.2.2.2.2.2 S) hH.2 (zp 8 1) ((zw_at (Or.inr (Or.inl ⟨rfl, by omega⟩))).trans (congrArg (fun z => some (za G 8 1, z)) rfl)) rfl 2 (by omega) (h.2.2.2.2.1 _ hl) (fun _ h9 => h9) rfl (by decide +kernel) rfl rfl (Nat.le_of_ble_eq_true rfl) hdg (fun H1 locs1 hP _ hS => k0 H1 locs1 ⟨(zw_set8 (G := G) (S := S) (k := 8) (j := 1) (e := .inr (0, [.ref (za G 8 2), .int (zI (S 8 1 1)), .int (zI v)])) (i := 2) (v := v) (Or.inl rfl) (Or.inr (Or.inl ⟨rfl, by omega⟩)) (by rw [ze_cl]; simp only [zcl, zs_s, zs_x (S := S) (k := 8) (j := 1) (i := 2) (v := v) (show (1 : Int) ≠ 2 by omega)])) ▸ hP, hS⟩)
theorem zgn_0_2 (h : zE p s m args meth c cc nL own G) (hH : zH G S s H locs)  {ix : Nat} {host : String} (hl : Cond.fieldLinkNest own ix RX0 (TX0 2).2.1 (TX0 2).2.2.1 host ∈ zNest) (hdg : decode cc pc = .ok (.getfield ix, 3)) (k0 : W p l e R s m args below meth c H locs cells slots Q (F0 m (pc + 3) ls (.int (zI (S 8 1 2)) :: rest))) : W p l e R s m args below meth c H locs cells slots Q (F0 m pc ls (.ref (za G 8 1) :: rest)) := va_getN (D := zD G) (C := RX0) (T := TX0) (N := 3) (ci := 0) h.1 h.2.1 h.2.2.2.2.1 zin_X0 h.2.2.2.1 h.2.2.2.2.2.2.1.1 hH.1 (zp 8 1) ((zw_at (Or.inr (Or.inl ⟨rfl, by omega⟩))).trans (congrArg (fun z => some (za G 8 1, z)) rfl)) rfl 2 (by omega) (va_Nw.use rfl (h.2.2.2.2.2.2.1.2.2.1 _ hl)) (fun _ h9 => h9) rfl hdg k0
theorem zun_0_2 (h : zE p s m args meth c cc nL own G) (hH : zH G S s H locs)  {ix : Nat} {v : Int}  {host : String} (hl : Cond.fieldLinkNest own ix RX0 (TX0 2).2.1 (TX0 2).2.2.1 host ∈ zNest) (hdg : decode cc pc = .ok (.putfield ix, 3)) (k0 : ∀ (H1 : Heap) (locs1 : List Loc), zH G (zs S 8 1 2 v) s H1 locs1 → W p l e R s m args below meth c H1 locs1 cells slots Q (F0 m (pc + 3) ls rest)) : W p l e R s m args below meth c H locs cells slots Q (F0 m pc ls (.int (zI v) :: .ref (za G 8 1) :: rest)) := va_putN (D := zD G) (C := RX0) (T := TX0) (N := 3) (ci := 0) (ty := .int) h.1 h.2.1 h.2.2.2.2.1 zin_X0 tyX0 tyX0_ok nmX0 h.2.2.2.1 h.2.2.2.2.2.2.1.1 hH.1 (zw_D h.2.2.2.2.2.2.2 S) hH.2 (zp 8 1) ((zw_at (Or.inr (Or.inl ⟨rfl, by omega⟩))).trans (congrArg (fun z => some (za G 8 1, z)) rfl)) rfl 2 (by omega) (va_Nw.use rfl (h.2.2.2.2.2.2.1.2.2.1 _ hl)) (fun _ h9 => h9) rfl (by decide +kernel) rfl rfl (Nat.le_of_ble_eq_true rfl) hdg (fun H1 locs1 hP _ hS => k0 H1 locs1 ⟨(zw_set8 (G := G) (S := S) (k := 8) (j := 1) (e := .inr (0, [.ref (za G 8 2), .int (zI (S 8 1 1)), .int (zI v)])) (i := 2) (v := v) (Or.inl rfl) (Or.inr (Or.inl ⟨rfl, by omega⟩)) (by rw [ze_cl]; simp only [zcl, zs_s, zs_x (S := S) (k := 8) (j := 1) (i := 2) (v := v) (show (1 : Int) ≠ 2 by omega)])) ▸ hP, hS⟩)
theorem zr_1 (h : zE p s m args meth c cc nL own G) (hH : zH G S s H locs)  : ∃ cell : Cell, H[za G 8 3]? = some cell ∧ cell.vm.isStatics = false ∧ s.vm.findClass RX1 = some cell.cls := va_recv h.2.2.2.2.2.2.1.1 hH.1 (ci := 1) (q0 := zp 8 3) rfl ((zw_at (Or.inr (Or.inl ⟨rfl, by omega⟩))).trans (congrArg (fun z => some (za G 8 3, z)) rfl))
theorem zg_1_0 (h : zE p s m args meth c cc nL own G) (hH : zH G S s H locs)  {ix : Nat} (hl : Cond.fieldLink own ix RX1 (TX1 0).2.1 (TX1 0).2.2.1 ∈ zTbl) (hdg : decode cc pc = .ok (.getfield ix, 3)) (k0 : W p l e R s m args below meth c H locs cells slots Q (F0 m (pc + 3) ls (.int (zI (S 8 3 0)) :: rest))) : W p l e R s m args below meth c H locs cells slots Q (F0 m pc ls (.ref (za G 8 3) :: rest)) := va_get (D := zD G) (C := RX1) (T := TX1) (N := 4) (ci := 1) h.1 h.2.1 h.2.2.2.2.1 zin_X1 h.2.2.2.1 h.2.2.2.2.2.2.1.1 hH.1 (zp 8 3) ((zw_at (Or.inr (Or.inl ⟨rfl, by omega⟩))).trans (congrArg (fun z => some (za G 8 3, z)) rfl)) rfl 0 (by omega) (h.2.2.2.2.1 _ hl) (fun _ h9 => h9) rfl hdg k0
theorem zu_1_0 (h : zE p s m args meth c cc nL own G) (hH : zH G S s H locs)  {ix : Nat} {v : Int}  (hl : Cond.fieldLink own ix RX1 (TX1 0).2.1 (TX1 0).2.2.1 ∈ zTbl) (hdg : decode cc pc = .ok (.putfield ix, 3)) (k0 : ∀ (H1 : Heap) (locs1 : List Loc), zH G (zs S 8 3 0 v) s H1 locs1 → W p l e R s m args below meth c H1 locs1 cells slots Q (F0 m (pc + 3) ls rest)) : W p l e R s m args below meth c H locs cells slots Q (F0 m pc ls (.int (zI v) :: .ref (za G 8 3) :: rest)) := va_put (D := zD G) (C := RX1) (T := TX1) (N := 4) (ci := 1) (ty := .int) h.1 h.2.1 h.2.2.2.2.1 zin_X1 tyX1 tyX1_ok nmX1 h.2.2.2.1 h.2.2.2.2.2.2.1.1 hH.1 (zw_D h.2.2.2.2.2.2.2 S) hH.2 (zp 8 3) ((zw_at (Or.inr (Or.inl ⟨rfl, by omega⟩))).trans (congrArg (fun z => some (za G 8 3, z)) rfl)) rfl 0 (by omega) (h.2.2.2.2.1 _ hl) (fun _ h9 => h9) rfl (by decide +kernel) rfl rfl (Nat.le_of_ble_eq_true rfl) hdg (fun H1 locs1 hP _ hS => k0 H1 locs1 ⟨(zw_set8 (G := G) (S := S) (k := 8) (j := 3) (e := .inr (1, [.int (zI v), .int (zI (S 8 3 1)), .int (zI (S 8 3 2)), .int (zI (S 8 3 3))])) (i := 0) (v := v) (Or.inl rfl) (Or.inr (Or.inl ⟨rfl, by omega⟩)) (by rw [ze_cl]; simp only [zcl, zs_s, zs_x (S := S) (k := 8) (j := 3) (i := 0) (v := v) (show (1 : Int) ≠ 0 by omega), zs_x (S := S) (k := 8) (j := 3) (i := 0) (v := v) (show (2 : Int) ≠ 0 by omega), zs_x (S := S) (k := 8) (j := 3) (i := 0) (v := v) (show (3 : Int) ≠ 0 by omega)])) ▸ hP, hS⟩)
theorem zgn_1_0 (h : zE p s m args meth c cc nL own G) (hH : zH G S s H locs)  {ix : Nat} {host : String} (hl : Cond.fieldLinkNest own ix RX1 (TX1 0).2.1 (TX1 0).2.2.1 host ∈ zNest) (hdg : decode cc pc = .ok (.getfield ix, 3)) (k0 : W p l e R s m args below meth c H locs cells slots Q (F0 m (pc + 3) ls (.int (zI (S 8 3 0)) :: rest))) : W p l e R s m args below meth c H locs cells slots Q (F0 m pc ls (.ref (za G 8 3) :: rest)) := va_getN (D := zD G) (C := RX1) (T := TX1) (N := 4) (ci := 1) h.1 h.2.1 h.2.2.2.2.1 zin_X1 h.2.2.2.1 h.2.2.2.2.2.2.1.1 hH.1 (zp 8 3) ((zw_at (Or.inr (Or.inl ⟨rfl, by omega⟩))).trans (congrArg (fun z => some (za G 8 3, z)) rfl)) rfl 0 (by omega) (va_Nw.use rfl (h.2.2.2.2.2.2.1.2.2.1 _ hl)) (fun _ h9 => h9) rfl hdg k0
theorem zun_1_0 (h : zE p s m args meth c cc nL own G) (hH : zH G S s H locs)  {ix : Nat} {v : Int}  {host : String} (hl : Cond.fieldLinkNest own ix RX1 (TX1 0).2.1 (TX1 0).2.2.1 host ∈ zNest) (hdg : decode cc pc = .ok (.putfield ix, 3)) (k0 : ∀ (H1 : Heap) (locs1 : List Loc), zH G (zs S 8 3 0 v) s H1 locs1 → W p l e R s m args below meth c H1 locs1 cells slots Q (F0 m (pc + 3) ls rest)) : W p l e R s m args below meth c H locs cells slots Q (F0 m pc ls (.int (zI v) :: .ref (za G 8 3) :: rest)) := va_putN (D := zD G) (C := RX1) (T := TX1) (N := 4) (ci := 1) (ty := .int) h.1 h.2.1 h.2.2.2.2.1 zin_X1 tyX1 tyX1_ok nmX1 h.2.2.2.1 h.2.2.2.2.2.2.1.1 hH.1 (zw_D h.2.2.2.2.2.2.2 S) hH.2 (zp 8 3) ((zw_at (Or.inr (Or.inl ⟨rfl, by omega⟩))).trans (congrArg (fun z => some (za G 8 3, z)) rfl)) rfl 0 (by omega) (va_Nw.use rfl (h.2.2.2.2.2.2.1.2.2.1 _ hl)) (fun _ h9 => h9) rfl (by decide +kernel) rfl rfl (Nat.le_of_ble_eq_true rfl) hdg (fun H1 locs1 hP _ hS => k0 H1 locs1 ⟨(zw_set8 (G := G) (S := S) (k := 8) (j := 3) (e := .inr (1, [.int (zI v), .int (zI (S 8 3 1)), .int (zI (S 8 3 2)), .int (zI (S 8 3 3))])) (i := 0) (v := v) (Or.inl rfl) (Or.inr (Or.inl ⟨rfl, by omega⟩)) (by rw [ze_cl]; simp only [zcl, zs_s, zs_x (S := S) (k := 8) (j := 3) (i := 0) (v := v) (show (1 : Int) ≠ 0 by omega), zs_x (S := S) (k := 8) (j := 3) (i := 0) (v := v) (show (2 : Int) ≠ 0 by omega), zs_x (S := S) (k := 8) (j := 3) (i := 0) (v := v) (show (3 : Int) ≠ 0 by omega)])) ▸ hP, hS⟩)
theorem zg_1_1 (h : zE p s m args meth c cc nL own G) (hH : zH G S s H locs)  {ix : Nat} (hl : Cond.fieldLink own ix RX1 (TX1 1).2.1 (TX1 1).2.2.1 ∈ zTbl) (hdg : decode cc pc = .ok (.getfield ix, 3)) (k0 : W p l e R s m args below meth c H locs cells slots Q (F0 m (pc + 3) ls (.int (zI (S 8 3 1)) :: rest))) : W p l e R s m args below meth c H locs cells slots Q (F0 m pc ls (.ref (za G 8 3) :: rest)) := va_get (D := zD G) (C := RX1) (T := TX1) (N := 4) (ci := 1) h.1 h.2.1 h.2.2.2.2.1 zin_X1 h.2.2.2.1 h.2.2.2.2.2.2.1.1 hH.1 (zp 8 3) ((zw_at (Or.inr (Or.inl ⟨rfl, by omega⟩))).trans (congrArg (fun z => some (za G 8 3, z)) rfl)) rfl 1 (by omega) (h.2.2.2.2.1 _ hl) (fun _ h9 => h9) rfl hdg k0
theorem zu_1_1 (h : zE p s m args meth c cc nL own G) (hH : zH G S s H locs)  {ix : Nat} {v : Int}  (hl : Cond.fieldLink own ix RX1 (TX1 1).2.1 (TX1 1).2.2.1 ∈ zTbl) (hdg : decode cc pc = .ok (.putfield ix, 3)) (k0 : ∀ (H1 : Heap) (locs1 : List Loc), zH G (zs S 8 3 1 v) s H1 locs1 → W p l e R s m args below meth c H1 locs1 cells slots Q (F0 m (pc + 3) ls rest)) : W p l e R s m args below meth c H locs cells slots Q (F0 m pc ls (.int (zI v) :: .ref (za G 8 3) :: rest)) := va_put (D := zD G) (C := RX1) (T := TX1) (N := 4) (ci := 1) (ty := .int) h.1 h.2.1 h.2.2.2.2.1 zin_X1 tyX1 tyX1_ok nmX1 h.2.2.2.1 h.2.2.2.2.2.2.1.1 hH.1 (zw_D h.2.2.2.2.2.2.2 S) hH.2 (zp 8 3) ((zw_at (Or.inr (Or.inl ⟨rfl, by omega⟩))).trans (congrArg (fun z => some (za G 8 3, z)) rfl)) rfl 1 (by omega) (h.2.2.2.2.1 _ hl) (fun _ h9 => h9) rfl (by decide +kernel) rfl rfl (Nat.le_of_ble_eq_true rfl) hdg (fun H1 locs1 hP _ hS => k0 H1 locs1 ⟨(zw_set8 (G := G) (S := S) (k := 8) (j := 3) (e := .inr (1, [.int (zI (S 8 3 0)), .int (zI v), .int (zI (S 8 3 2)), .int (zI (S 8 3 3))])) (i := 1) (v := v) (Or.inl rfl) (Or.inr (Or.inl ⟨rfl, by omega⟩)) (by rw [ze_cl]; simp only [zcl, zs_s, zs_x (S := S) (k := 8) (j := 3) (i := 1) (v := v) (show (0 : Int) ≠ 1 by omega), zs_x (S := S) (k := 8) (j := 3) (i := 1) (v := v) (show (2 : Int) ≠ 1 by omega), zs_x (S := S) (k := 8) (j := 3) (i := 1) (v := v) (show (3 : Int) ≠ 1 by omega)])) ▸ hP, hS⟩)
theorem zgn_1_1 (h : zE p s m args meth c cc nL own G) (hH : zH G S s H locs)  {ix : Nat} {host : String} (hl : Cond.fieldLinkNest own ix RX1 (TX1 1).2.1 (TX1 1).2.2.1 host ∈ zNest) (hdg : decode cc pc = .ok (.getfield ix, 3)) (k0 : W p l e R s m args below meth c H locs cells slots Q (F0 m (pc + 3) ls (.int (zI (S 8 3 1)) :: rest))) : W p l e R s m args below meth c H locs cells slots Q (F0 m pc ls (.ref (za G 8 3) :: rest)) := va_getN (D := zD G) (C := RX1) (T := TX1) (N := 4) (ci := 1) h.1 h.2.1 h.2.2.2.2.1 zin_X1 h.2.2.2.1 h.2.2.2.2.2.2.1.1 hH.1 (zp 8 3) ((zw_at (Or.inr (Or.inl ⟨rfl, by omega⟩))).trans (congrArg (fun z => some (za G 8 3, z)) rfl)) rfl 1 (by omega) (va_Nw.use rfl (h.2.2.2.2.2.2.1.2.2.1 _ hl)) (fun _ h9 => h9) rfl hdg k0
theorem zun_1_1 (h : zE p s m args meth c cc nL own G) (hH : zH G S s H locs)  {ix : Nat} {v : Int}  {host : String} (hl : Cond.fieldLinkNest own ix RX1 (TX1 1).2.1 (TX1 1).2.2.1 host ∈ zNest) (hdg : decode cc pc = .ok (.putfield ix, 3)) (k0 : ∀ (H1 : Heap) (locs1 : List Loc), zH G (zs S 8 3 1 v) s H1 locs1 → W p l e R s m args below meth c H1 locs1 cells slots Q (F0 m (pc + 3) ls rest)) : W p l e R s m args below meth c H locs cells slots Q (F0 m pc ls (.int (zI v) :: .ref (za G 8 3) :: rest)) := va_putN (D := zD G) (C := RX1) (T := TX1) (N := 4) (ci := 1) (ty := .int) h.1 h.2.1 h.2.2.2.2.1 zin_X1 tyX1 tyX1_ok nmX1 h.2.2.2.1 h.2.2.2.2.2.2.1.1 hH.1 (zw_D h.2.2.2.2.2.2.2 S) hH.2 (zp 8 3) ((zw_at (Or.inr (Or.inl ⟨rfl, by omega⟩))).trans (congrArg (fun z => some (za G 8 3, z)) rfl)) rfl 1 (by omega) (va_Nw.use rfl (h.2.2.2.2.2.2.1.2.2.1 _ hl)) (fun _ h9 => h9) rfl (by decide +kernel) rfl rfl (Nat.le_of_ble_eq_true rfl) hdg (fun H1 locs1 hP _ hS => k0 H1 locs1 ⟨(zw_set8 (G := G) (S := S) (k := 8) (j := 3) (e := .inr (1, [.int (zI (S 8 3 0)), .int (zI v), .int (zI (S 8 3 2)), .int (zI (S 8 3 3))])) (i := 1) (v := v) (Or.inl rfl) (Or.inr (Or.inl ⟨rfl, by omega⟩)) (by rw [ze_cl]; simp only [zcl, zs_s, zs_x (S := S) (k := 8) (j := 3) (i := 1) (v := v) (show (0 : Int) ≠ 1 by omega), zs_x (S := S) (k := 8) (j := 3) (i := 1) (v := v) (show (2 : Int) ≠ 1 by omega), zs_x (S := S) (k := 8) (j := 3) (i := 1) (v := v) (show (3 : Int) ≠ 1 by omega)])) ▸ hP, hS⟩)
theorem zg_1_2 (h : zE p s m args meth c cc nL own G) (hH : zH G S s H locs)  {ix : Nat} (hl : Cond.fieldLink own ix RX1 (TX1 2).2.1 (TX1 2).2.2.1 ∈ zTbl) (hdg : decode cc pc = .ok (.getfield ix, 3)) (k0 : W p l e R s m args below meth c H locs cells slots Q (F0 m (pc + 3) ls (.int (zI (S 8 3 2)) :: rest))) : W p l e R s m args below meth c H locs cells slots Q (F0 m pc ls (.ref (za G 8 3) :: rest)) := va_get (D := zD G) (C := RX1) (T := TX1) (N := 4) (ci := 1) h.1 h.2.1 h.2.2.2.2.1 zin_X1 h.2.2.2.1 h.2.2.2.2.2.2.1.1 hH.1 (zp 8 3) ((zw_at (Or.inr (Or.inl ⟨rfl, by omega⟩))).trans (congrArg (fun z => some (za G 8 3, z)) rfl)) rfl 2 (by omega) (h.2.2.2.2.1 _ hl) (fun _ h9 => h9) rfl hdg k0
theorem zu_1_2 (h : zE p s m args meth c cc nL own G) (hH : zH G S s H locs)  {ix : Nat} {v : Int}  (hl : Cond.fieldLink own ix RX1 (TX1 2).2.1 (TX1 2).2.2.1 ∈ zTbl) (hdg : decode cc pc = .ok (.putfield ix, 3)) (k0 : ∀ (H1 : Heap) (locs1 : List Loc), zH G (zs S 8 3 2 v) s H1 locs1 → W p l e R s m args below meth c H1 locs1 cells slots Q (F0 m (pc + 3) ls rest)) : W p l e R s m args below meth c H locs cells slots Q (F0 m pc ls (.int (zI v) :: .ref (za G 8 3) :: rest)) := va_put (D := zD G) (C := RX1) (T := TX1) (N := 4) (ci := 1) (ty := .int) h.1 h.2.1 h.2.2.2.2.1 zin_X1 tyX1 tyX1_ok nmX1 h.2.2.2.1 h.2.2.2.2.2.2.1.1 hH.1 (zw_D h.2.2.2.2.2.2.2 S) hH.2 (zp 8 3) ((zw_at (Or.inr (Or.inl ⟨rfl, by omega⟩))).trans (congrArg (fun z => some (za G 8 3, z)) rfl)) rfl 2 (by omega) (h.2.2.2.2.1 _ hl) (fun _ h9 => h9) rfl (by decide +kernel) rfl rfl (Nat.le_of_ble_eq_true rfl) hdg (fun H1 locs1 hP _ hS => k0 H1 locs1 ⟨(zw_set8 (G := G) (S := S) (k := 8) (j := 3) (e := .inr (1, [.int (zI (S 8 3 0)), .int (zI (S 8 3 1)), .int (zI v), .int (zI (S 8 3 3))])) (i := 2) (v := v) (Or.inl rfl) (Or.inr (Or.inl ⟨rfl, by omega⟩)) (by rw [ze_cl]; simp only [zcl, zs_s, zs_x (S := S) (k := 8) (j := 3) (i := 2) (v := v) (show (0 : Int) ≠ 2 by omega), zs_x (S := S) (k := 8) (j := 3) (i := 2) (v := v) (show (1 : Int) ≠ 2 by omega), zs_x (S := S) (k := 8) (j := 3) (i := 2) (v := v) (show (3 : Int) ≠ 2 by omega)])) ▸ hP, hS⟩)
theorem zgn_1_2 (h : zE p s m args meth c cc nL own G) (hH : zH G S s H locs)  {ix : Nat} {host : String} (hl : Cond.fieldLinkNest own ix RX1 (TX1 2).2.1 (TX1 2).2.2.1 host ∈ zNest) (hdg : decode cc pc = .ok (.getfield ix, 3)) (k0 : W p l e R s m args below meth c H locs cells slots Q (F0 m (pc + 3) ls (.int (zI (S 8 3 2)) :: rest))) : W p l e R s m args below meth c H locs cells slots Q (F0 m pc ls (.ref (za G 8 3) :: rest)) := va_getN (D := zD G) (C := RX1) (T := TX1) (N := 4) (ci := 1) h.1 h.2.1 h.2.2.2.2.1 zin_X1 h.2.2.2.1 h.2.2.2.2.2.2.1.1 hH.1 (zp 8 3) ((zw_at (Or.inr (Or.inl ⟨rfl, by omega⟩))).trans (congrArg (fun z => some (za G 8 3, z)) rfl)) rfl 2 (by omega) (va_Nw.use rfl (h.2.2.2.2.2.2.1.2.2.1 _ hl)) (fun _ h9 => h9) rfl hdg k0
theorem zun_1_2 (h : zE p s m args meth c cc nL own G) (hH : zH G S s H locs)  {ix : Nat} {v : Int}  {host : String} (hl : Cond.fieldLinkNest own ix RX1 (TX1 2).2.1 (TX1 2).2.2.1 host ∈ zNest) (hdg : decode cc pc = .ok (.putfield ix, 3)) (k0 : ∀ (H1 : Heap) (locs1 : List Loc), zH G (zs S 8 3 2 v) s H1 locs1 → W p l e R s m args below meth c H1 locs1 cells slots Q (F0 m (pc + 3) ls rest)) : W p l e R s m args below meth c H locs cells slots Q (F0 m pc ls (.int (zI v) :: .ref (za G 8 3) :: rest)) := va_putN (D := zD G) (C := RX1) (T := TX1) (N := 4) (ci := 1) (ty := .int) h.1 h.2.1 h.2.2.2.2.1 zin_X1 tyX1 tyX1_ok nmX1 h.2.2.2.1 h.2.2.2.2.2.2.1.1 hH.1 (zw_D h.2.2.2.2.2.2.2 S) hH.2 (zp 8 3) ((zw_at (Or.inr (Or.inl ⟨rfl, by omega⟩))).trans (congrArg (fun z => some (za G 8 3, z)) rfl)) rfl 2 (by omega) (va_Nw.use rfl (h.2.2.2.2.2.2.1.2.2.1 _ hl)) (fun _ h9 => h9) rfl (by decide +kernel) rfl rfl (Nat.le_of_ble_eq_true rfl) hdg (fun H1 locs1 hP _ hS => k0 H1 locs1 ⟨(zw_set8 (G := G) (S := S) (k := 8) (j := 3) (e := .inr (1, [.int (zI (S 8 3 0)), .int (zI (S 8 3 1)), .int (zI v), .int (zI (S 8 3 3))])) (i := 2) (v := v) (Or.inl rfl) (Or.inr (Or.inl ⟨rfl, by omega⟩)) (by rw [ze_cl]; simp only [zcl, zs_s, zs_x (S := S) (k := 8) (j := 3) (i := 2) (v := v) (show (0 : Int) ≠ 2 by omega), zs_x (S := S) (k := 8) (j := 3) (i := 2) (v := v) (show (1 : Int) ≠ 2 by omega), zs_x (S := S) (k := 8) (j := 3) (i := 2) (v := v) (show (3 : Int) ≠ 2 by omega)])) ▸ hP, hS⟩)
theorem zg_1_3 (h : zE p s m args meth c cc nL own G) (hH : zH G S s H locs)  {ix : Nat} (hl : Cond.fieldLink own ix RX1 (TX1 3).2.1 (TX1 3).2.2.1 ∈ zTbl) (hdg : decode cc pc = .ok (.getfield ix, 3)) (k0 : W p l e R s m args below meth c H locs cells slots Q (F0 m (pc + 3) ls (.int (zI (S 8 3 3)) :: rest))) : W p l e R s m args below meth c H locs cells slots Q (F0 m pc ls (.ref (za G 8 3) :: rest)) := va_get (D := zD G) (C := RX1) (T := TX1) (N := 4) (ci := 1) h.1 h.2.1 h.2.2.2.2.1 zin_X1 h.2.2.2.1 h.2.2.2.2.2.2.1.1 hH.1 (zp 8 3) ((zw_at (Or.inr (Or.inl ⟨rfl, by omega⟩))).trans (congrArg (fun z => some (za G 8 3, z)) rfl)) rfl 3 (by omega) (h.2.2.2.2.1 _ hl) (fun _ h9 => h9) rfl hdg k0
theorem zu_1_3 (h : zE p s m args meth c cc nL own G) (hH : zH G S s H locs)  {ix : Nat} {v : Int}  (hl : Cond.fieldLink own ix RX1 (TX1 3).2.1 (TX1 3).2.2.1 ∈ zTbl) (hdg : decode cc pc = .ok (.putfield ix, 3)) (k0 : ∀ (H1 : Heap) (locs1 : List Loc), zH G (zs S 8 3 3 v) s H1 locs1 → W p l e R s m args below meth c H1 locs1 cells slots Q (F0 m (pc + 3) ls rest)) : W p l e R s m args below meth c H locs cells slots Q (F0 m pc ls (.int (zI v) :: .ref (za G 8 3) :: rest)) := va_put (D := zD G) (C := RX1) (T := TX1) (N := 4) (ci := 1) (ty := .int) h.1 h.2.1 h.2.2.2.2.1 zin_X1 tyX1 tyX1_ok nmX1 h.2.2.2.1 h.2.2.2.2.2.2.1.1 hH.1 (zw_D h.2.2.2.2.2.2.2 S) hH.2 (zp 8 3) ((zw_at (Or.inr (Or.inl ⟨rfl, by omega⟩))).trans (congrArg (fun z => some (za G 8 3, z)) rfl)) rfl 3 (by omega) (h.2.2.2.2.1 _ hl) (fun _ h9 => h9) rfl (by decide +kernel) rfl rfl (Nat.le_of_ble_eq_true rfl) hdg (fun H1 locs1 hP _ hS => k0 H1 locs1 ⟨(zw_set8 (G := G) (S := S) (k := 8) (j := 3) (e := .inr (1, [.int (zI (S 8 3 0)), .int (zI (S 8 3 1)), .int (zI (S 8 3 2)), .int (zI v)])) (i := 3) (v := v) (Or.inl rfl) (Or.inr (Or.inl ⟨rfl, by omega⟩)) (by rw [ze_cl]; simp only [zcl, zs_s, zs_x (S := S) (k := 8) (j := 3) (i := 3) (v := v) (show (0 : Int) ≠ 3 by omega), zs_x (S := S) (k := 8) (j := 3) (i := 3) (v := v) (show (1 : Int) ≠ 3 by omega), zs_x (S := S) (k := 8) (j := 3) (i := 3) (v := v) (show (2 : Int) ≠ 3 by omega)])) ▸ hP, hS⟩)
theorem zgn_1_3 (h : zE p s m args meth c cc nL own G) (hH : zH G S s H locs)  {ix : Nat} {host : String} (hl : Cond.fieldLinkNest own ix RX1 (TX1 3).2.1 (TX1 3).2.2.1 host ∈ zNest) (hdg : decode cc pc = .ok (.getfield ix, 3)) (k0 : W p l e R s m args below meth c H locs cells slots Q (F0 m (pc + 3) ls (.int (zI (S 8 3 3)) :: rest))) : W p l e R s m args below meth c H locs cells slots Q (F0 m pc ls (.ref (za G 8 3) :: rest)) := va_getN (D := zD G) (C := RX1) (T := TX1) (N := 4) (ci := 1) h.1 h.2.1 h.2.2.2.2.1 zin_X1 h.2.2.2.1 h.2.2.2.2.2.2.1.1 hH.1 (zp 8 3) ((zw_at (Or.inr (Or.inl ⟨rfl, by omega⟩))).trans (congrArg (fun z => some (za G 8 3, z)) rfl)) rfl 3 (by omega) (va_Nw.use rfl (h.2.2.2.2.2.2.1.2.2.1 _ hl)) (fun _ h9 => h9) rfl hdg k0
theorem zun_1_3 (h : zE p s m args meth c cc nL own G) (hH : zH G S s H locs)  {ix : Nat} {v : Int}  {host : String} (hl : Cond.fieldLinkNest own ix RX1 (TX1 3).2.1 (TX1 3).2.2.1 host ∈ zNest) (hdg : decode cc pc = .ok (.putfield ix, 3)) (k0 : ∀ (H1 : Heap) (locs1 : List Loc), zH G (zs S 8 3 3 v) s H1 locs1 → W p l e R s m args below meth c H1 locs1 cells slots Q (F0 m (pc + 3) ls rest)) : W p l e R s m args below meth c H locs cells slots Q (F0 m pc ls (.int (zI v) :: .ref (za G 8 3) :: rest)) := va_putN (D := zD G) (C := RX1) (T := TX1) (N := 4) (ci := 1) (ty := .int) h.1 h.2.1 h.2.2.2.2.1 zin_X1 tyX1 tyX1_ok nmX1 h.2.2.2.1 h.2.2.2.2.2.2.1.1 hH.1 (zw_D h.2.2.2.2.2.2.2 S) hH.2 (zp 8 3) ((zw_at (Or.inr (Or.inl ⟨rfl, by omega⟩))).trans (congrArg (fun z => some (za G 8 3, z)) rfl)) rfl 3 (by omega) (va_Nw.use rfl (h.2.2.2.2.2.2.1.2.2.1 _ hl)) (fun _ h9 => h9) rfl (by decide +kernel) rfl rfl (Nat.le_of_ble_eq_true rfl) hdg (fun H1 locs1 hP _ hS => k0 H1 locs1 ⟨(zw_set8 (G := G) (S := S) (k := 8) (j := 3) (e := .inr (1, [.int (zI (S 8 3 0)), .int (zI (S 8 3 1)), .int (zI (S 8 3 2)), .int (zI v)])) (i := 3) (v := v) (Or.inl rfl) (Or.inr (Or.inl ⟨rfl, by omega⟩)) (by rw [ze_cl]; simp only [zcl, zs_s, zs_x (S := S) (k := 8) (j := 3) (i := 3) (v := v) (show (0 : Int) ≠ 3 by omega), zs_x (S := S) (k := 8) (j := 3) (i := 3) (v := v) (show (1 : Int) ≠ 3 by omega), zs_x (S := S) (k := 8) (j := 3) (i := 3) (v := v) (show (2 : Int) ≠ 3 by omega)])) ▸ hP, hS⟩)
theorem zr_2 (h : zE p s m args meth c cc nL own G) (hH : zH G S s H locs) {k : Nat} (hk : k < 8) : ∃ cell : Cell, H[za G k 1]? = some cell ∧ cell.vm.isStatics = false ∧ s.vm.findClass RX2 = some cell.cls := va_recv h.2.2.2.2.2.2.1.1 hH.1 (ci := 2) (q0 := zp k 1) rfl ((zw_at (Or.inl ⟨hk, by omega⟩)).trans (congrArg (fun z => some (za G k 1, z)) (ze_pr hk)))
theorem zg_2_0 (h : zE p s m args meth c cc nL own G) (hH : zH G S s H locs) {k : Nat} (hk : k < 8) {ix : Nat} (hl : Cond.fieldLink own ix RX2 (TX2 0).2.1 (TX2 0).2.2.1 ∈ zTbl) (hdg : decode cc pc = .ok (.getfield ix, 3)) (k0 : W p l e R s m args below meth c H locs cells slots Q (F0 m (pc + 3) ls (.ref (za G k 2) :: rest))) : W p l e R s m args below meth c H locs cells slots Q (F0 m pc ls (.ref (za G k 1) :: rest)) := va_get (D := zD G) (C := RX2) (T := TX2) (N := 3) (ci := 2) h.1 h.2.1 h.2.2.2.2.1 zin_X2 h.2.2.2.1 h.2.2.2.2.2.2.1.1 hH.1 (zp k 1) ((zw_at (Or.inl ⟨hk, by omega⟩)).trans (congrArg (fun z => some (za G k 1, z)) (ze_pr hk))) rfl 0 (by omega) (h.2.2.2.2.1 _ hl) (fun _ h9 => h9) rfl hdg k0
theorem zgn_2_0 (h : zE p s m args meth c cc nL own G) (hH : zH G S s H locs) {k : Nat} (hk : k < 8) {ix : Nat} {host : String} (hl : Cond.fieldLinkNest own ix RX2 (TX2 0).2.1 (TX2 0).2.2.1 host ∈ zNest) (hdg : decode cc pc = .ok (.getfield ix, 3)) (k0 : W p l e R s m args below meth c H locs cells slots Q (F0 m (pc + 3) ls (.ref (za G k 2) :: rest))) : W p l e R s m args below meth c H locs cells slots Q (F0 m pc ls (.ref (za G k 1) :: rest)) := va_getN (D := zD G) (C := RX2) (T := TX2) (N := 3) (ci := 2) h.1 h.2.1 h.2.2.2.2.1 zin_X2 h.2.2.2.1 h.2.2.2.2.2.2.1.1 hH.1 (zp k 1) ((zw_at (Or.inl ⟨hk, by omega⟩)).trans (congrArg (fun z => some (za G k 1, z)) (ze_pr hk))) rfl 0 (by omega) (va_Nw.use rfl (h.2.2.2.2.2.2.1.2.2.1 _ hl)) (fun _ h9 => h9) rfl hdg k0
theorem zg_2_1 (h : zE p s m args meth c cc nL own G) (hH : zH G S s H locs) {k : Nat} (hk : k < 8) {ix : Nat} (hl : Cond.fieldLink own ix RX2 (TX2 1).2.1 (TX2 1).2.2.1 ∈ zTbl) (hdg : decode cc pc = .ok (.getfield ix, 3)) (k0 : W p l e R s m args below meth c H locs cells slots Q (F0 m (pc + 3) ls (.int (zI (S k 0 1)) :: rest))) : W p l e R s m args below meth c H locs cells slots Q (F0 m pc ls (.ref (za G k 1) :: rest)) := va_get (D := zD G) (C := RX2) (T := TX2) (N := 3) (ci := 2) h.1 h.2.1 h.2.2.2.2.1 zin_X2 h.2.2.2.1 h.2.2.2.2.2.2.1.1 hH.1 (zp k 1) ((zw_at (Or.inl ⟨hk, by omega⟩)).trans (congrArg (fun z => some (za G k 1, z)) (ze_pr hk))) rfl 1 (by omega) (h.2.2.2.2.1 _ hl) (fun _ h9 => h9) rfl hdg k0
theorem zu_2_1 (h : zE p s m args meth c cc nL own G) (hH : zH G S s H locs) {k : Nat} (hk : k < 8) {ix : Nat} {v : Int}  (hl : Cond.fieldLink own ix RX2 (TX2 1).2.1 (TX2 1).2.2.1 ∈ zTbl) (hdg : decode cc pc = .ok (.putfield ix, 3)) (k0 : ∀ (H1 : Heap) (locs1 : List Loc), zH G (zs S k 0 1 v) s H1 locs1 → W p l e R s m args below meth c H1 locs1 cells slots Q (F0 m (pc + 3) ls rest)) : W p l e R s m args below meth c H locs cells slots Q (F0 m pc ls (.int (zI v) :: .ref (za G k 1) :: rest)) := va_put (D := zD G) (C := RX2) (T := TX2) (N := 3) (ci := 2) (ty := .int) h.1 h.2.1 h.2.2.2.2.1 zin_X2 tyX2 tyX2_ok nmX2 h.2.2.2.1 h.2.2.2.2.2.2.1.1 hH.1 (zw_D h.2.2.2.2.2.2.2 S) hH.2 (zp k 1) ((zw_at (Or.inl ⟨hk, by omega⟩)).trans (congrArg (fun z => some (za G k 1, z)) (ze_pr hk))) rfl 1 (by omega) (h.2.2.2.2.1 _ hl) (fun _ h9 => h9) rfl (by decide +kernel) rfl rfl (Nat.le_of_ble_eq_true rfl) hdg (fun H1 locs1 hP _ hS => k0 H1 locs1 ⟨(zw_setS (G := G) (S := S) (k := k) (j := 1) (e := .inr (2, [.ref (za G k 2), .int (zI v), .int (zI (S k 0 2))])) (i := 1) (v := v) hk (by omega) (by rw [ze_pr hk]; simp only [zpr, zs_s, zs_x (S := S) (k := k) (j := 0) (i := 1) (v := v) (show (2 : Int) ≠ 1 by omega)])) ▸ hP, hS⟩)
theorem zgn_2_1 (h : zE p s m args meth c cc nL own G) (hH : zH G S s H locs) {k : Nat} (hk : k < 8) {ix : Nat} {host : String} (hl : Cond.fieldLinkNest own ix RX2 (TX2 1).2.1 (TX2 1).2.2.1 host ∈ zNest) (hdg : decode cc pc = .ok (.getfield ix, 3)) (k0 : W p l e R s m args below meth c H locs cells slots Q (F0 m (pc + 3) ls (.int (zI (S k 0 1)) :: rest))) : W p l e R s m args below meth c H locs cells slots Q (F0 m pc ls (.ref (za G k 1) :: rest)) := va_getN (D := zD G) (C := RX2) (T := TX2) (N := 3) (ci := 2) h.1 h.2.1 h.2.2.2.2.1 zin_X2 h.2.2.2.1 h.2.2.2.2.2.2.1.1 hH.1 (zp k 1) ((zw_at (Or.inl ⟨hk, by omega⟩)).trans (congrArg (fun z => some (za G k 1, z)) (ze_pr hk))) rfl 1 (by omega) (va_Nw.use rfl (h.2.2.2.2.2.2.1.2.2.1 _ hl)) (fun _ h9 => h9) rfl hdg k0
theorem zun_2_1 (h : zE p s m args meth c cc nL own G) (hH : zH G S s H locs) {k : Nat} (hk : k < 8) {ix : Nat} {v : Int}  {host : String} (hl : Cond.fieldLinkNest own ix RX2 (TX2 1).2.1 (TX2 1).2.2.1 host ∈ zNest) (hdg : decode cc pc = .ok (.putfield ix, 3)) (k0 : ∀ (H1 : Heap) (locs1 : List Loc), zH G (zs S k 0 1 v) s H1 locs1 → W p l e R s m args below meth c H1 locs1 cells slots Q (F0 m (pc + 3) ls rest)) : W p l e R s m args below meth c H locs cells slots Q (F0 m pc ls (.int (zI v) :: .ref (za G k 1) :: rest)) := va_putN (D := zD G) (C := RX2) (T := TX2) (N := 3) (ci := 2) (ty := .int) h.1 h.2.1 h.2.2.2.2.1 zin_X2 tyX2 tyX2_ok nmX2 h.2.2.2.1 h.2.2.2.2.2.2.1.1 hH.1 (zw_D h.2.2.2.2.2.2.2 S) hH.2 (zp k 1) ((zw_at (Or.inl ⟨hk, by omega⟩)).trans (congrArg (fun z => some (za G k 1, z)) (ze_pr hk))) rfl 1 (by omega) (va_Nw.use rfl (h.2.2.2.2.2.2.1.2.2.1 _ hl)) (fun _ h9 => h9) rfl (by decide +kernel) rfl rfl (Nat.le_of_ble_eq_true rfl) hdg (fun H1 locs1 hP _ hS => k0 H1 locs1 ⟨(zw_setS (G := G) (S := S) (k := k) (j := 1) (e := .inr (2, [.ref (za G k 2), .int (zI v), .int (zI (S k 0 2))])) (i := 1) (v := v) hk (by omega) (by rw [ze_pr hk]; simp only [zpr, zs_s, zs_x (S := S) (k := k) (j := 0) (i := 1) (v := v) (show (2 : Int) ≠ 1 by omega)])) ▸ hP, hS⟩)
theorem zg_2_2 (h : zE p s m args meth c cc nL own G) (hH : zH G S s H locs) {k : Nat} (hk : k < 8) {ix : Nat} (hl : Cond.fieldLink own ix RX2 (TX2 2).2.1 (TX2 2).2.2.1 ∈ zTbl) (hdg : decode cc pc = .ok (.getfield ix, 3)) (k0 : W p l e R s m args below meth c H locs cells slots Q (F0 m (pc + 3) ls (.int (zI (S k 0 2)) :: rest))) : W p l e R s m args below meth c H locs cells slots Q (F0 m pc ls (.ref (za G k 1) :: rest)) := va_get (D := zD G) (C := RX2) (T := TX2) (N := 3) (ci := 2) h.1 h.2.1 h.2.2.2.2.1 zin_X2 h.2.2.2.1 h.2.2.2.2.2.2.1.1 hH.1 (zp k 1) ((zw_at (Or.inl ⟨hk, by omega⟩)).trans (congrArg (fun z => some (za G k 1, z)) (ze_pr hk))) rfl 2 (by omega) (h.2.2.2.2.1 _ hl) (fun _ h9 => h9) rfl hdg k0
theorem zu_2_2 (h : zE p s m args meth c cc nL own G) (hH : zH G S s H locs) {k : Nat} (hk : k < 8) {ix : Nat} {v : Int}  (hl : Cond.fieldLink own ix RX2 (TX2 2).2.1 (TX2 2).2.2.1 ∈ zTbl) (hdg : decode cc pc = .ok (.putfield ix, 3)) (k0 : ∀ (H1 : Heap) (locs1 : List Loc), zH G (zs S k 0 2 v) s H1 locs1 → W p l e R s m args below meth c H1 locs1 cells slots Q (F0 m (pc + 3) ls rest)) : W p l e R s m args below meth c H locs cells slots Q (F0 m pc ls (.int (zI v) :: .ref (za G k 1) :: rest)) := va_put (D := zD G) (C := RX2) (T := TX2) (N := 3) (ci := 2) (ty := .int) h.1 h.2.1 h.2.2.2.2.1 zin_X2 tyX2 tyX2_ok nmX2 h.2.2.2.1 h.2.2.2.2.2.2.1.1 hH.1 (zw_D h.2.2.2.2.2.2.2 S) hH.2 (zp k 1) ((zw_at (Or.inl ⟨hk, by omega⟩)).trans (congrArg (fun z => some (za G k 1, z)) (ze_pr hk))) rfl 2 (by omega) (h.2.2.2.2.1 _ hl) (fun _ h9 => h9) rfl (by decide +kernel) rfl rfl (Nat.le_of_ble_eq_true rfl) hdg (fun H1 locs1 hP _ hS => k0 H1 locs1 ⟨(zw_setS (G := G) (S := S) (k := k) (j := 1) (e := .inr (2, [.ref (za G k 2), .int (zI (S k 0 1)), .int (zI v)])) (i := 2) (v := v) hk (by omega) (by rw [ze_pr hk]; simp only [zpr, zs_s, zs_x (S := S) (k := k) (j := 0) (i := 2) (v := v) (show (1 : Int) ≠ 2 by omega)])) ▸ hP, hS⟩)
theorem zgn_2_2 (h : zE p s m args meth c cc nL own G) (hH : zH G S s H locs) {k : Nat} (hk : k < 8) {ix : Nat} {host : String} (hl : Cond.fieldLinkNest own ix RX2 (TX2 2).2.1 (TX2 2).2.2.1 host ∈ zNest) (hdg : decode cc pc = .ok (.getfield ix, 3)) (k0 : W p l e R s m args below meth c H locs cells slots Q (F0 m (pc + 3) ls (.int (zI (S k 0 2)) :: rest))) : W p l e R s m args below meth c H locs cells slots Q (F0 m pc ls (.ref (za G k 1) :: rest)) := va_getN (D := zD G) (C := RX2) (T := TX2) (N := 3) (ci := 2) h.1 h.2.1 h.2.2.2.2.1 zin_X2 h.2.2.2.1 h.2.2.2.2.2.2.1.1 hH.1 (zp k 1) ((zw_at (Or.inl ⟨hk, by omega⟩)).trans (congrArg (fun z => some (za G k 1, z)) (ze_pr hk))) rfl 2 (by omega) (va_Nw.use rfl (h.2.2.2.2.2.2.1.2.2.1 _ hl)) (fun _ h9 => h9) rfl hdg k0
theorem zun_2_2 (h : zE p s m args meth c cc nL own G) (hH : zH G S s H locs) {k : Nat} (hk : k < 8) {ix : Nat} {v : Int}  {host : String} (hl : Cond.fieldLinkNest own ix RX2 (TX2 2).2.1 (TX2 2).2.2.1 host ∈ zNest) (hdg : decode cc pc = .ok (.putfield ix, 3)) (k0 : ∀ (H1 : Heap) (locs1 : List Loc), zH G (zs S k 0 2 v) s H1 locs1 → W p l e R s m args below meth c H1 locs1 cells slots Q (F0 m (pc + 3) ls rest)) : W p l e R s m args below meth c H locs cells slots Q (F0 m pc ls (.int (zI v) :: .ref (za G k 1) :: rest)) := va_putN (D := zD G) (C := RX2) (T := TX2) (N := 3) (ci := 2) (ty := .int) h.1 h.2.1 h.2.2.2.2.1 zin_X2 tyX2 tyX2_ok nmX2 h.2.2.2.1 h.2.2.2.2.2.2.1.1 hH.1 (zw_D h.2.2.2.2.2.2.2 S) hH.2 (zp k 1) ((zw_at (Or.inl ⟨hk, by omega⟩)).trans (congrArg (fun z => some (za G k 1, z)) (ze_pr hk))) rfl 2 (by omega) (va_Nw.use rfl (h.2.2.2.2.2.2.1.2.2.1 _ hl)) (fun _ h9 => h9) rfl (by decide +kernel) rfl rfl (Nat.le_of_ble_eq_true rfl) hdg (fun H1 locs1 hP _ hS => k0 H1 locs1 ⟨(zw_setS (G := G) (S := S) (k := k) (j := 1) (e := .inr (2, [.ref (za G k 2), .int (zI (S k 0 1)), .int (zI v)])) (i := 2) (v := v) hk (by omega) (by rw [ze_pr hk]; simp only [zpr, zs_s, zs_x (S := S) (k := k) (j := 0) (i := 2) (v := v) (show (1 : Int) ≠ 2 by omega)])) ▸ hP, hS⟩)
theorem zr_3 (h : zE p s m args meth c cc nL own G) (hH : zH G S s H locs) {k : Nat} (hk : k < 8) : ∃ cell : Cell, H[za G k 0]? = some cell ∧ cell.vm.isStatics = false ∧ s.vm.findClass RX3 = some cell.cls := va_recv h.2.2.2.2.2.2.1.1 hH.1 (ci := 3) (q0 := zp k 0) rfl ((zw_at (Or.inl ⟨hk, by omega⟩)).trans (congrArg (fun z => some (za G k 0, z)) (ze_pr hk)))
theorem zg_3_0 (h : zE p s m args meth c cc nL own G) (hH : zH G S s H locs) {k : Nat} (hk : k < 8) {ix : Nat} (hl : Cond.fieldLink own ix RX3 (TX3 0).2.1 (TX3 0).2.2.1 ∈ zTbl) (hdg : decode cc pc = .ok (.getfield ix, 3)) (k0 : W p l e R s m args below meth c H locs cells slots Q (F0 m (pc + 3) ls (.ref (za G k 1) :: rest))) : W p l e R s m args below meth c H locs cells slots Q (F0 m pc ls (.ref (za G k 0) :: rest)) := va_get (D := zD G) (C := RX3) (T := TX3) (N := 10) (ci := 3) h.1 h.2.1 h.2.2.2.2.1 zin_X3 h.2.2.2.1 h.2.2.2.2.2.2.1.1 hH.1 (zp k 0) ((zw_at (Or.inl ⟨hk, by omega⟩)).trans (congrArg (fun z => some (za G k 0, z)) (ze_pr hk))) rfl 0 (by omega) (h.2.2.2.2.1 _ hl) (fun _ h9 => h9) rfl hdg k0
theorem zgn_3_0 (h : zE p s m args meth c cc nL own G) (hH : zH G S s H locs) {k : Nat} (hk : k < 8) {ix : Nat} {host : String} (hl : Cond.fieldLinkNest own ix RX3 (TX3 0).2.1 (TX3 0).2.2.1 host ∈ zNest) (hdg : decode cc pc = .ok (.getfield ix, 3)) (k0 : W p l e R s m args below meth c H locs cells slots Q (F0 m (pc + 3) ls (.ref (za G k 1) :: rest))) : W p l e R s m args below meth c H locs cells slots Q (F0 m pc ls (.ref (za G k 0) :: rest)) := va_getN (D := zD G) (C := RX3) (T := TX3) (N := 10) (ci := 3) h.1 h.2.1 h.2.2.2.2.1 zin_X3 h.2.2.2.1 h.2.2.2.2.2.2.1.1 hH.1 (zp k 0) ((zw_at (Or.inl ⟨hk, by omega⟩)).trans (congrArg (fun z => some (za G k 0, z)) (ze_pr hk))) rfl 0 (by omega) (va_Nw.use rfl (h.2.2.2.2.2.2.1.2.2.1 _ hl)) (fun _ h9 => h9) rfl hdg k0
theorem zg_3_1 (h : zE p s m args meth c cc nL own G) (hH : zH G S s H locs) {k : Nat} (hk : k < 8) {ix : Nat} (hl : Cond.fieldLink own ix RX3 (TX3 1).2.1 (TX3 1).2.2.1 ∈ zTbl) (hdg : decode cc pc = .ok (.getfield ix, 3)) (k0 : W p l e R s m args below meth c H locs cells slots Q (F0 m (pc + 3) ls (.ref (za G k 3) :: rest))) : W p l e R s m args below meth c H locs cells slots Q (F0 m pc ls (.ref (za G k 0) :: rest)) := va_get (D := zD G) (C := RX3) (T := TX3) (N := 10) (ci := 3) h.1 h.2.1 h.2.2.2.2.1 zin_X3 h.2.2.2.1 h.2.2.2.2.2.2.1.1 hH.1 (zp k 0) ((zw_at (Or.inl ⟨hk, by omega⟩)).trans (congrArg (fun z => some (za G k 0, z)) (ze_pr hk))) rfl 1 (by omega) (h.2.2.2.2.1 _ hl) (fun _ h9 => h9) rfl hdg k0
theorem zgn_3_1 (h : zE p s m args meth c cc nL own G) (hH : zH G S s H locs) {k : Nat} (hk : k < 8) {ix : Nat} {host : String} (hl : Cond.fieldLinkNest own ix RX3 (TX3 1).2.1 (TX3 1).2.2.1 host ∈ zNest) (hdg : decode cc pc = .ok (.getfield ix, 3)) (k0 : W p l e R s m args below meth c H locs cells slots Q (F0 m (pc + 3) ls (.ref (za G k 3) :: rest))) : W p l e R s m args below meth c H locs cells slots Q (F0 m pc ls (.ref (za G k 0) :: rest)) := va_getN (D := zD G) (C := RX3) (T := TX3) (N := 10) (ci := 3) h.1 h.2.1 h.2.2.2.2.1 zin_X3 h.2.2.2.1 h.2.2.2.2.2.2.1.1 hH.1 (zp k 0) ((zw_at (Or.inl ⟨hk, by omega⟩)).trans (congrArg (fun z => some (za G k 0, z)) (ze_pr hk))) rfl 1 (by omega) (va_Nw.use rfl (h.2.2.2.2.2.2.1.2.2.1 _ hl)) (fun _ h9 => h9) rfl hdg k0
theorem zg_3_2 (h : zE p s m args meth c cc nL own G) (hH : zH G S s H locs) {k : Nat} (hk : k < 8) {ix : Nat} (hl : Cond.fieldLink own ix RX3 (TX3 2).2.1 (TX3 2).2.2.1 ∈ zTbl) (hdg : decode cc pc = .ok (.getfield ix, 3)) (k0 : W p l e R s m args below meth c H locs cells slots Q (F0 m (pc + 3) ls (.ref (za G k 4) :: rest))) : W p l e R s m args below meth c H locs cells slots Q (F0 m pc ls (.ref (za G k 0) :: rest)) := va_get (D := zD G) (C := RX3) (T := TX3) (N := 10) (ci := 3) h.1 h.2.1 h.2.2.2.2.1 zin_X3 h.2.2.2.1 h.2.2.2.2.2.2.1.1 hH.1 (zp k 0) ((zw_at (Or.inl ⟨hk, by omega⟩)).trans (congrArg (fun z => some (za G k 0, z)) (ze_pr hk))) rfl 2 (by omega) (h.2.2.2.2.1 _ hl) (fun _ h9 => h9) rfl hdg k0
theorem zgn_3_2 (h : zE p s m args meth c cc nL own G) (hH : zH G S s H locs) {k : Nat} (hk : k < 8) {ix : Nat} {host : String} (hl : Cond.fieldLinkNest own ix RX3 (TX3 2).2.1 (TX3 2).2.2.1 host ∈ zNest) (hdg : decode cc pc = .ok (.getfield ix, 3)) (k0 : W p l e R s m args below meth c H locs cells slots Q (F0 m (pc + 3) ls (.ref (za G k 4) :: rest))) : W p l e R s m args below meth c H locs cells slots Q (F0 m pc ls (.ref (za G k 0) :: rest)) := va_getN (D := zD G) (C := RX3) (T := TX3) (N := 10) (ci := 3) h.1 h.2.1 h.2.2.2.2.1 zin_X3 h.2.2.2.1 h.2.2.2.2.2.2.1.1 hH.1 (zp k 0) ((zw_at (Or.inl ⟨hk, by omega⟩)).trans (congrArg (fun z => some (za G k 0, z)) (ze_pr hk))) rfl 2 (by omega) (va_Nw.use rfl (h.2.2.2.2.2.2.1.2.2.1 _ hl)) (fun _ h9 => h9) rfl hdg k0
theorem zg_3_3 (h : zE p s m args meth c cc nL own G) (hH : zH G S s H locs) {k : Nat} (hk : k < 8) {ix : Nat} (hl : Cond.fieldLink own ix RX3 (TX3 3).2.1 (TX3 3).2.2.1 ∈ zTbl) (hdg : decode cc pc = .ok (.getfield ix, 3)) (k0 : W p l e R s m args below meth c H locs cells slots Q (F0 m (pc + 3) ls (.ref (za G k 5) :: rest))) : W p l e R s m args below meth c H locs cells slots Q (F0 m pc ls (.ref (za G k 0) :: rest)) := va_get (D := zD G) (C := RX3) (T := TX3) (N := 10) (ci := 3) h.1 h.2.1 h.2.2.2.2.1 zin_X3 h.2.2.2.1 h.2.2.2.2.2.2.1.1 hH.1 (zp k 0) ((zw_at (Or.inl ⟨hk, by omega⟩)).trans (congrArg (fun z => some (za G k 0, z)) (ze_pr hk))) rfl 3 (by omega) (h.2.2.2.2.1 _ hl) (fun _ h9 => h9) rfl hdg k0
theorem zgn_3_3 (h : zE p s m args meth c cc nL own G) (hH : zH G S s H locs) {k : Nat} (hk : k < 8) {ix : Nat} {host : String} (hl : Cond.fieldLinkNest own ix RX3 (TX3 3).2.1 (TX3 3).2.2.1 host ∈ zNest) (hdg : decode cc pc = .ok (.getfield ix, 3)) (k0 : W p l e R s m args below meth c H locs cells slots Q (F0 m (pc + 3) ls (.ref (za G k 5) :: rest))) : W p l e R s m args below meth c H locs cells slots Q (F0 m pc ls (.ref (za G k 0) :: rest)) := va_getN (D := zD G) (C := RX3) (T := TX3) (N := 10) (ci := 3) h.1 h.2.1 h.2.2.2.2.1 zin_X3 h.2.2.2.1 h.2.2.2.2.2.2.1.1 hH.1 (zp k 0) ((zw_at (Or.inl ⟨hk, by omega⟩)).trans (congrArg (fun z => some (za G k 0, z)) (ze_pr hk))) rfl 3 (by omega) (va_Nw.use rfl (h.2.2.2.2.2.2.1.2.2.1 _ hl)) (fun _ h9 => h9) rfl hdg k0
theorem zg_3_4 (h : zE p s m args meth c cc nL own G) (hH : zH G S s H locs) {k : Nat} (hk : k < 8) {ix : Nat} (hl : Cond.fieldLink own ix RX3 (TX3 4).2.1 (TX3 4).2.2.1 ∈ zTbl) (hdg : decode cc pc = .ok (.getfield ix, 3)) (k0 : W p l e R s m args below meth c H locs cells slots Q (F0 m (pc + 3) ls (.ref (za G k 6) :: rest))) : W p l e R s m args below meth c H locs cells slots Q (F0 m pc ls (.ref (za G k 0) :: rest)) := va_get (D := zD G) (C := RX3) (T := TX3) (N := 10) (ci := 3) h.1 h.2.1 h.2.2.2.2.1 zin_X3 h.2.2.2.1 h.2.2.2.2.2.2.1.1 hH.1 (zp k 0) ((zw_at (Or.inl ⟨hk, by omega⟩)).trans (congrArg (fun z => some (za G k 0, z)) (ze_pr hk))) rfl 4 (by omega) (h.2.2.2.2.1 _ hl) (fun _ h9 => h9) rfl hdg k0
theorem zgn_3_4 (h : zE p s m args meth c cc nL own G) (hH : zH G S s H locs) {k : Nat} (hk : k < 8) {ix : Nat} {host : String} (hl : Cond.fieldLinkNest own ix RX3 (TX3 4).2.1 (TX3 4).2.2.1 host ∈ zNest) (hdg : decode cc pc = .ok (.getfield ix, 3)) (k0 : W p l e R s m args below meth c H locs cells slots Q (F0 m (pc + 3) ls (.ref (za G k 6) :: rest))) : W p l e R s m args below meth c H locs cells slots Q (F0 m pc ls (.ref (za G k 0) :: rest)) := va_getN (D := zD G) (C := RX3) (T := TX3) (N := 10) (ci := 3) h.1 h.2.1 h.2.2.2.2.1 zin_X3 h.2.2.2.1 h.2.2.2.2.2.2.1.1 hH.1 (zp k 0) ((zw_at (Or.inl ⟨hk, by omega⟩)).trans (congrArg (fun z => some (za G k 0, z)) (ze_pr hk))) rfl 4 (by omega) (va_Nw.use rfl (h.2.2.2.2.2.2.1.2.2.1 _ hl)) (fun _ h9 => h9) rfl hdg k0
theorem zg_3_5 (h : zE p s m args meth c cc nL own G) (hH : zH G S s H locs) {k : Nat} (hk : k < 8) {ix : Nat} (hl : Cond.fieldLink own ix RX3 (TX3 5).2.1 (TX3 5).2.2.1 ∈ zTbl) (hdg : decode cc pc = .ok (.getfield ix, 3)) (k0 : W p l e R s m args below meth c H locs cells slots Q (F0 m (pc + 3) ls (.ref (za G k 7) :: rest))) : W p l e R s m args below meth c H locs cells slots Q (F0 m pc ls (.ref (za G k 0) :: rest)) := va_get (D := zD G) (C := RX3) (T := TX3) (N := 10) (ci := 3) h.1 h.2.1 h.2.2.2.2.1 zin_X3 h.2.2.2.1 h.2.2.2.2.2.2.1.1 hH.1 (zp k 0) ((zw_at (Or.inl ⟨hk, by omega⟩)).trans (congrArg (fun z => some (za G k 0, z)) (ze_pr hk))) rfl 5 (by omega) (h.2.2.2.2.1 _ hl) (fun _ h9 => h9) rfl hdg k0
theorem zgn_3_5 (h : zE p s m args meth c cc nL own G) (hH : zH G S s H locs) {k : Nat} (hk : k < 8) {ix : Nat} {host : String} (hl : Cond.fieldLinkNest own ix RX3 (TX3 5).2.1 (TX3 5).2.2.1 host ∈ zNest) (hdg : decode cc pc = .ok (.getfield ix, 3)) (k0 : W p l e R s m args below meth c H locs cells slots Q (F0 m (pc + 3) ls (.ref (za G k 7) :: rest))) : W p l e R s m args below meth c H locs cells slots Q (F0 m pc ls (.ref (za G k 0) :: rest)) := va_getN (D := zD G) (C := RX3) (T := TX3) (N := 10) (ci := 3) h.1 h.2.1 h.2.2.2.2.1 zin_X3 h.2.2.2.1 h.2.2.2.2.2.2.1.1 hH.1 (zp k 0) ((zw_at (Or.inl ⟨hk, by omega⟩)).trans (congrArg (fun z => some (za G k 0, z)) (ze_pr hk))) rfl 5 (by omega) (va_Nw.use rfl (h.2.2.2.2.2.2.1.2.2.1 _ hl)) (fun _ h9 => h9) rfl hdg k0
theorem zg_3_6 (h : zE p s m args meth c cc nL own G) (hH : zH G S s H locs) {k : Nat} (hk : k < 8) {ix : Nat} (hl : Cond.fieldLink own ix RX3 (TX3 6).2.1 (TX3 6).2.2.1 ∈ zTbl) (hdg : decode cc pc = .ok (.getfield ix, 3)) (k0 : W p l e R s m args below meth c H locs cells slots Q (F0 m (pc + 3) ls (.ref (za G k 8) :: rest))) : W p l e R s m args below meth c H locs cells slots Q (F0 m pc ls (.ref (za G k 0) :: rest)) := va_get (D := zD G) (C := RX3) (T := TX3) (N := 10) (ci := 3) h.1 h.2.1 h.2.2.2.2.1 zin_X3 h.2.2.2.1 h.2.2.2.2.2.2.1.1 hH.1 (zp k 0) ((zw_at (Or.inl ⟨hk, by omega⟩)).trans (congrArg (fun z => some (za G k 0, z)) (ze_pr hk))) rfl 6 (by omega) (h.2.2.2.2.1 _ hl) (fun _ h9 => h9) rfl hdg k0
theorem zgn_3_6 (h : zE p s m args meth c cc nL own G) (hH : zH G S s H locs) {k : Nat} (hk : k < 8) {ix : Nat} {host : String} (hl : Cond.fieldLinkNest own ix RX3 (TX3 6).2.1 (TX3 6).2.2.1 host ∈ zNest) (hdg : decode cc pc = .ok (.getfield ix, 3)) (k0 : W p l e R s m args below meth c H locs cells slots Q (F0 m (pc + 3) ls (.ref (za G k 8) :: rest))) : W p l e R s m args below meth c H locs cells slots Q (F0 m pc ls (.ref (za G k 0) :: rest)) := va_getN (D := zD G) (C := RX3) (T := TX3) (N := 10) (ci := 3) h.1 h.2.1 h.2.2.2.2.1 zin_X3 h.2.2.2.1 h.2.2.2.2.2.2.1.1 hH.1 (zp k 0) ((zw_at (Or.inl ⟨hk, by omega⟩)).trans (congrArg (fun z => some (za G k 0, z)) (ze_pr hk))) rfl 6 (by omega) (va_Nw.use rfl (h.2.2.2.2.2.2.1.2.2.1 _ hl)) (fun _ h9 => h9) rfl hdg k0
theorem zg_3_7 (h : zE p s m args meth c cc nL own G) (hH : zH G S s H locs) {k : Nat} (hk : k < 8) {ix : Nat} (hl : Cond.fieldLink own ix RX3 (TX3 7).2.1 (TX3 7).2.2.1 ∈ zTbl) (hdg : decode cc pc = .ok (.getfield ix, 3)) (k0 : W p l e R s m args below meth c H locs cells slots Q (F0 m (pc + 3) ls (.int (zI (S k 0 4)) :: rest))) : W p l e R s m args below meth c H locs cells slots Q (F0 m pc ls (.ref (za G k 0) :: rest)) := va_get (D := zD G) (C := RX3) (T := TX3) (N := 10) (ci := 3) h.1 h.2.1 h.2.2.2.2.1 zin_X3 h.2.2.2.1 h.2.2.2.2.2.2.1.1 hH.1 (zp k 0) ((zw_at (Or.inl ⟨hk, by omega⟩)).trans (congrArg (fun z => some (za G k 0, z)) (ze_pr hk))) rfl 7 (by omega) (h.2.2.2.2.1 _ hl) (fun _ h9 => h9) rfl hdg k0
theorem zu_3_7 (h : zE p s m args meth c cc nL own G) (hH : zH G S s H locs) {k : Nat} (hk : k < 8) {ix : Nat} {v : Int}  (hl : Cond.fieldLink own ix RX3 (TX3 7).2.1 (TX3 7).2.2.1 ∈ zTbl) (hdg : decode cc pc = .ok (.putfield ix, 3)) (k0 : ∀ (H1 : Heap) (locs1 : List Loc), zH G (zs S k 0 4 v) s H1 locs1 → W p l e R s m args below meth c H1 locs1 cells slots Q (F0 m (pc + 3) ls rest)) : W p l e R s m args below meth c H locs cells slots Q (F0 m pc ls (.int (zI v) :: .ref (za G k 0) :: rest)) := va_put (D := zD G) (C := RX3) (T := TX3) (N := 10) (ci := 3) (ty := .int) h.1 h.2.1 h.2.2.2.2.1 zin_X3 tyX3 tyX3_ok nmX3 h.2.2.2.1 h.2.2.2.2.2.2.1.1 hH.1 (zw_D h.2.2.2.2.2.2.2 S) hH.2 (zp k 0) ((zw_at (Or.inl ⟨hk, by omega⟩)).trans (congrArg (fun z => some (za G k 0, z)) (ze_pr hk))) rfl 7 (by omega) (h.2.2.2.2.1 _ hl) (fun _ h9 => h9) rfl (by decide +kernel) rfl rfl (Nat.le_of_ble_eq_true rfl) hdg (fun H1 locs1 hP _ hS => k0 H1 locs1 ⟨(zw_setS (G := G) (S := S) (k := k) (j := 0) (e := .inr (3, [.ref (za G k 1), .ref (za G k 3), .ref (za G k 4), .ref (za G k 5), .ref (za G k 6), .ref (za G k 7), .ref (za G k 8), .int (zI v), .int (zI (S k 0 0)), .int (zI (S k 0 3))])) (i := 4) (v := v) hk (by omega) (by rw [ze_pr hk]; simp only [zpr, zs_s, zs_x (S := S) (k := k) (j := 0) (i := 4) (v := v) (show (0 : Int) ≠ 4 by omega), zs_x (S := S) (k := k) (j := 0) (i := 4) (v := v) (show (3 : Int) ≠ 4 by omega)])) ▸ hP, hS⟩)
theorem zgn_3_7 (h : zE p s m args meth c cc nL own G) (hH : zH G S s H locs) {k : Nat} (hk : k < 8) {ix : Nat} {host : String} (hl : Cond.fieldLinkNest own ix RX3 (TX3 7).2.1 (TX3 7).2.2.1 host ∈ zNest) (hdg : decode cc pc = .ok (.getfield ix, 3)) (k0 : W p l e R s m args below meth c H locs cells slots Q (F0 m (pc + 3) ls (.int (zI (S k 0 4)) :: rest))) : W p l e R s m args below meth c H locs cells slots Q (F0 m pc ls (.ref (za G k 0) :: rest)) := va_getN (D := zD G) (C := RX3) (T := TX3) (N := 10) (ci := 3) h.1 h.2.1 h.2.2.2.2.1 zin_X3 h.2.2.2.1 h.2.2.2.2.2.2.1.1 hH.1 (zp k 0) ((zw_at (Or.inl ⟨hk, by omega⟩)).trans (congrArg (fun z => some (za G k 0, z)) (ze_pr hk))) rfl 7 (by omega) (va_Nw.use rfl (h.2.2.2.2.2.2.1.2.2.1 _ hl)) (fun _ h9 => h9) rfl hdg k0
theorem zun_3_7 (h : zE p s m args meth c cc nL own G) (hH : zH G S s H locs) {k : Nat} (hk : k < 8) {ix : Nat} {v : Int}  {host : String} (hl : Cond.fieldLinkNest own ix RX3 (TX3 7).2.1 (TX3 7).2.2.1 host ∈ zNest) (hdg : decode cc pc = .ok (.putfield ix, 3)) (k0 : ∀ (H1 : Heap) (locs1 : List Loc), zH G (zs S k 0 4 v) s H1 locs1 → W p l e R s m args below meth c H1 locs1 cells slots Q (F0 m (pc + 3) ls rest)) : W p l e R s m args below meth c H locs cells slots Q (F0 m pc ls (.int (zI v) :: .ref (za G k 0) :: rest)) := va_putN (D := zD G) (C := RX3) (T := TX3) (N := 10) (ci := 3) (ty := .int) h.1 h.2.1 h.2.2.2.2.1 zin_X3 tyX3 tyX3_ok nmX3 h.2.2.2.1 h.2.2.2.2.2.2.1.1 hH.1 (zw_D h.2.2.2.2.2.2.2 S) hH.2 (zp k 0) ((zw_at (Or.inl ⟨hk, by omega⟩)).trans (congrArg (fun z => some (za G k 0, z)) (ze_pr hk))) rfl 7 (by omega) (va_Nw.use rfl (h.2.2.2.2.2.2.1.2.2.1 _ hl)) (fun _ h9 => h9) rfl (by decide +kernel) rfl rfl (Nat.le_of_ble_eq_true rfl) hdg (fun H1 locs1 hP _ hS => k0 H1 locs1 ⟨(zw_setS (G := G) (S := S) (k := k) (j := 0) (e := .inr (3, [.ref (za G k 1), .ref (za G k 3), .ref (za G k 4), .ref (za G k 5), .ref (za G k 6), .ref (za G k 7), .ref (za G k 8), .int (zI v), .int (zI (S k 0 0)), .int (zI (S k 0 3))])) (i := 4) (v := v) hk (by omega) (by rw [ze_pr hk]; simp only [zpr, zs_s, zs_x (S := S) (k := k) (j := 0) (i := 4) (v := v) (show (0 : Int) ≠ 4 by omega), zs_x (S := S) (k := k) (j := 0) (i := 4) (v := v) (show (3 : Int) ≠ 4 by omega)])) ▸ hP, hS⟩)
theorem zg_3_8 (h : zE p s m args meth c cc nL own G) (hH : zH G S s H locs) {k : Nat} (hk : k < 8) {ix : Nat} (hl : Cond.fieldLink own ix RX3 (TX3 8).2.1 (TX3 8).2.2.1 ∈ zTbl) (hdg : decode cc pc = .ok (.getfield ix, 3)) (k0 : W p l e R s m args below meth c H locs cells slots Q (F0 m (pc + 3) ls (.int (zI (S k 0 0)) :: rest))) : W p l e R s m args below meth c H locs cells slots Q (F0 m pc ls (.ref (za G k 0) :: rest)) := va_get (D := zD G) (C := RX3) (T := TX3) (N := 10) (ci := 3) h.1 h.2.1 h.2.2.2.2.1 zin_X3 h.2.2.2.1 h.2.2.2.2.2.2.1.1 hH.1 (zp k 0) ((zw_at (Or.inl ⟨hk, by omega⟩)).trans (congrArg (fun z => some (za G k 0, z)) (ze_pr hk))) rfl 8 (by omega) (h.2.2.2.2.1 _ hl) (fun _ h9 => h9) rfl hdg k0
theorem zu_3_8 (h : zE p s m args meth c cc nL own G) (hH : zH G S s H locs) {k : Nat} (hk : k < 8) {ix : Nat} {v : Int}  (hl : Cond.fieldLink own ix RX3 (TX3 8).2.1 (TX3 8).2.2.1 ∈ zTbl) (hdg : decode cc pc = .ok (.putfield ix, 3)) (k0 : ∀ (H1 : Heap) (locs1 : List Loc), zH G (zs S k 0 0 v) s H1 locs1 → W p l e R s m args below meth c H1 locs1 cells slots Q (F0 m (pc + 3) ls rest)) : W p l e R s m args below meth c H locs cells slots Q (F0 m pc ls (.int (zI v) :: .ref (za G k 0) :: rest)) := va_put (D := zD G) (C := RX3) (T := TX3) (N := 10) (ci := 3) (ty := .int) h.1 h.2.1 h.2.2.2.2.1 zin_X3 tyX3 tyX3_ok nmX3 h.2.2.2.1 h.2.2.2.2.2.2.1.1 hH.1 (zw_D h.2.2.2.2.2.2.2 S) hH.2 (zp k 0) ((zw_at (Or.inl ⟨hk, by omega⟩)).trans (congrArg (fun z => some (za G k 0, z)) (ze_pr hk))) rfl 8 (by omega) (h.2.2.2.2.1 _ hl) (fun _ h9 => h9) rfl (by decide +kernel) rfl rfl (Nat.le_of_ble_eq_true rfl) hdg (fun H1 locs1 hP _ hS => k0 H1 locs1 ⟨(zw_setS (G := G) (S := S) (k := k) (j := 0) (e := .inr (3, [.ref (za G k 1), .ref (za G k 3), .ref (za G k 4), .ref (za G k 5), .ref (za G k 6), .ref (za G k 7), .ref (za G k 8), .int (zI (S k 0 4)), .int (zI v), .int (zI (S k 0 3))])) (i := 0) (v := v) hk (by omega) (by rw [ze_pr hk]; simp only [zpr, zs_s, zs_x (S := S) (k := k) (j := 0) (i := 0) (v := v) (show (4 : Int) ≠ 0 by omega), zs_x (S := S) (k := k) (j := 0) (i := 0) (v := v) (show (3 : Int) ≠ 0 by omega)])) ▸ hP, hS⟩)
theorem zgn_3_8 (h : zE p s m args meth c cc nL own G) (hH : zH G S s H locs) {k : Nat} (hk : k < 8) {ix : Nat} {host : String} (hl : Cond.fieldLinkNest own ix RX3 (TX3 8).2.1 (TX3 8).2.2.1 host ∈ zNest) (hdg : decode cc pc = .ok (.getfield ix, 3)) (k0 : W p l e R s m args below meth c H locs cells slots Q (F0 m (pc + 3) ls (.int (zI (S k 0 0)) :: rest))) : W p l e R s m args below meth c H locs cells slots Q (F0 m pc ls (.ref (za G k 0) :: rest)) := va_getN (D := zD G) (C := RX3) (T := TX3) (N := 10) (ci := 3) h.1 h.2.1 h.2.2.2.2.1 zin_X3 h.2.2.2.1 h.2.2.2.2.2.2.1.1 hH.1 (zp k 0) ((zw_at (Or.inl ⟨hk, by omega⟩)).trans (congrArg (fun z => some (za G k 0, z)) (ze_pr hk))) rfl 8 (by omega) (va_Nw.use rfl (h.2.2.2.2.2.2.1.2.2.1 _ hl)) (fun _ h9 => h9) rfl hdg k0
theorem zun_3_8 (h : zE p s m args meth c cc nL own G) (hH : zH G S s H locs) {k : Nat} (hk : k < 8) {ix : Nat} {v : Int}  {host : String} (hl : Cond.fieldLinkNest own ix RX3 (TX3 8).2.1 (TX3 8).2.2.1 host ∈ zNest) (hdg : decode cc pc = .ok (.putfield ix, 3)) (k0 : ∀ (H1 : Heap) (locs1 : List Loc), zH G (zs S k 0 0 v) s H1 locs1 → W p l e R s m args below meth c H1 locs1 cells slots Q (F0 m (pc + 3) ls rest)) : W p l e R s m args below meth c H locs cells slots Q (F0 m pc ls (.int (zI v) :: .ref (za G k 0) :: rest)) := va_putN (D := zD G) (C := RX3) (T := TX3) (N := 10) (ci := 3) (ty := .int) h.1 h.2.1 h.2.2.2.2.1 zin_X3 tyX3 tyX3_ok nmX3 h.2.2.2.1 h.2.2.2.2.2.2.1.1 hH.1 (zw_D h.2.2.2.2.2.2.2 S) hH.2 (zp k 0) ((zw_at (Or.inl ⟨hk, by omega⟩)).trans (congrArg (fun z => some (za G k 0, z)) (ze_pr hk))) rfl 8 (by omega) (va_Nw.use rfl (h.2.2.2.2.2.2.1.2.2.1 _ hl)) (fun _ h9 => h9) rfl (by decide +kernel) rfl rfl (Nat.le_of_ble_eq_true rfl) hdg (fun H1 locs1 hP _ hS => k0 H1 locs1 ⟨(zw_setS (G := G) (S := S) (k := k) (j := 0) (e := .inr (3, [.ref (za G k 1), .ref (za G k 3), .ref (za G k 4), .ref (za G k 5), .ref (za G k 6), .ref (za G k 7), .ref (za G k 8), .int (zI (S k 0 4)), .int (zI v), .int (zI (S k 0 3))])) (i := 0) (v := v) hk (by omega) (by rw [ze_pr hk]; simp only [zpr, zs_s, zs_x (S := S) (k := k) (j := 0) (i := 0) (v := v) (show (4 : Int) ≠ 0 by omega), zs_x (S := S) (k := k) (j := 0) (i := 0) (v := v) (show (3 : Int) ≠ 0 by omega)])) ▸ hP, hS⟩)
theorem zg_3_9 (h : zE p s m args meth c cc nL own G) (hH : zH G S s H locs) {k : Nat} (hk : k < 8) {ix : Nat} (hl : Cond.fieldLink own ix RX3 (TX3 9).2.1 (TX3 9).2.2.1 ∈ zTbl) (hdg : decode cc pc = .ok (.getfield ix, 3)) (k0 : W p l e R s m args below meth c H locs cells slots Q (F0 m (pc + 3) ls (.int (zI (S k 0 3)) :: rest))) : W p l e R s m args below meth c H locs cells slots Q (F0 m pc ls (.ref (za G k 0) :: rest)) := va_get (D := zD G) (C := RX3) (T := TX3) (N := 10) (ci := 3) h.1 h.2.1 h.2.2.2.2.1 zin_X3 h.2.2.2.1 h.2.2.2.2.2.2.1.1 hH.1 (zp k 0) ((zw_at (Or.inl ⟨hk, by omega⟩)).trans (congrArg (fun z => some (za G k 0, z)) (ze_pr hk))) rfl 9 (by omega) (h.2.2.2.2.1 _ hl) (fun _ h9 => h9) rfl hdg k0
theorem zu_3_9 (h : zE p s m args meth c cc nL own G) (hH : zH G S s H locs) {k : Nat} (hk : k < 8) {ix : Nat} {v : Int}  (hl : Cond.fieldLink own ix RX3 (TX3 9).2.1 (TX3 9).2.2.1 ∈ zTbl) (hdg : decode cc pc = .ok (.putfield ix, 3)) (k0 : ∀ (H1 : Heap) (locs1 : List Loc), zH G (zs S k 0 3 v) s H1 locs1 → W p l e R s m args below meth c H1 locs1 cells slots Q (F0 m (pc + 3) ls rest)) : W p l e R s m args below meth c H locs cells slots Q (F0 m pc ls (.int (zI v) :: .ref (za G k 0) :: rest)) := va_put (D := zD G) (C := RX3) (T := TX3) (N := 10) (ci := 3) (ty := .int) h.1 h.2.1 h.2.2.2.2.1 zin_X3 tyX3 tyX3_ok nmX3 h.2.2.2.1 h.2.2.2.2.2.2.1.1 hH.1 (zw_D h.2.2.2.2.2.2.2 S) hH.2 (zp k 0) ((zw_at (Or.inl ⟨hk, by omega⟩)).trans (congrArg (fun z => some (za G k 0, z)) (ze_pr hk))) rfl 9 (by omega) (h.2.2.2.2.1 _ hl) (fun _ h9 => h9) rfl (by decide +kernel) rfl rfl (Nat.le_of_ble_eq_true rfl) hdg (fun H1 locs1 hP _ hS => k0 H1 locs1 ⟨(zw_setS (G := G) (S := S) (k := k) (j := 0) (e := .inr (3, [.ref (za G k 1), .ref (za G k 3), .ref (za G k 4), .ref (za G k 5), .ref (za G k 6), .ref (za G k 7), .ref (za G k 8), .int (zI (S k 0 4)), .int (zI (S k 0 0)), .int (zI v)])) (i := 3) (v := v) hk (by omega) (by rw [ze_pr hk]; simp only [zpr, zs_s, zs_x (S := S) (k := k) (j := 0) (i := 3) (v := v) (show (4 : Int) ≠ 3 by omega), zs_x (S := S) (k := k) (j := 0) (i := 3) (v := v) (show (0 : Int) ≠ 3 by omega)])) ▸ hP, hS⟩)
theorem zgn_3_9 (h : zE p s m args meth c cc nL own G) (hH : zH G S s H locs) {k : Nat} (hk : k < 8) {ix : Nat} {host : String} (hl : Cond.fieldLinkNest own ix RX3 (TX3 9).2.1 (TX3 9).2.2.1 host ∈ zNest) (hdg : decode cc pc = .ok (.getfield ix, 3)) (k0 : W p l e R s m args below meth c H locs cells slots Q (F0 m (pc + 3) ls (.int (zI (S k 0 3)) :: rest))) : W p l e R s m args below meth c H locs cells slots Q (F0 m pc ls (.ref (za G k 0) :: rest)) := va_getN (D := zD G) (C := RX3) (T := TX3) (N := 10) (ci := 3) h.1 h.2.1 h.2.2.2.2.1 zin_X3 h.2.2.2.1 h.2.2.2.2.2.2.1.1 hH.1 (zp k 0) ((zw_at (Or.inl ⟨hk, by omega⟩)).trans (congrArg (fun z => some (za G k 0, z)) (ze_pr hk))) rfl 9 (by omega) (va_Nw.use rfl (h.2.2.2.2.2.2.1.2.2.1 _ hl)) (fun _ h9 => h9) rfl hdg k0
theorem zun_3_9 (h : zE p s m args meth c cc nL own G) (hH : zH G S s H locs) {k : Nat} (hk : k < 8) {ix : Nat} {v : Int}  {host : String} (hl : Cond.fieldLinkNest own ix RX3 (TX3 9).2.1 (TX3 9).2.2.1 host ∈ zNest) (hdg : decode cc pc = .ok (.putfield ix, 3)) (k0 : ∀ (H1 : Heap) (locs1 : List Loc), zH G (zs S k 0 3 v) s H1 locs1 → W p l e R s m args below meth c H1 locs1 cells slots Q (F0 m (pc + 3) ls rest)) : W p l e R s m args below meth c H locs cells slots Q (F0 m pc ls (.int (zI v) :: .ref (za G k 0) :: rest)) := va_putN (D := zD G) (C := RX3) (T := TX3) (N := 10) (ci := 3) (ty := .int) h.1 h.2.1 h.2.2.2.2.1 zin_X3 tyX3 tyX3_ok nmX3 h.2.2.2.1 h.2.2.2.2.2.2.1.1 hH.1 (zw_D h.2.2.2.2.2.2.2 S) hH.2 (zp k 0) ((zw_at (Or.inl ⟨hk, by omega⟩)).trans (congrArg (fun z => some (za G k 0, z)) (ze_pr hk))) rfl 9 (by omega) (va_Nw.use rfl (h.2.2.2.2.2.2.1.2.2.1 _ hl)) (fun _ h9 => h9) rfl (by decide +kernel) rfl rfl (Nat.le_of_ble_eq_true rfl) hdg (fun H1 locs1 hP _ hS => k0 H1 locs1 ⟨(zw_setS (G := G) (S := S) (k := k) (j := 0) (e := .inr (3, [.ref (za G k 1), .ref (za G k 3), .ref (za G k 4), .ref (za G k 5), .ref (za G k 6), .ref (za G k 7), .ref (za G k 8), .int (zI (S k 0 4)), .int (zI (S k 0 0)), .int (zI v)])) (i := 3) (v := v) hk (by omega) (by rw [ze_pr hk]; simp only [zpr, zs_s, zs_x (S := S) (k := k) (j := 0) (i := 3) (v := v) (show (4 : Int) ≠ 3 by omega), zs_x (S := S) (k := k) (j := 0) (i := 3) (v := v) (show (0 : Int) ≠ 3 by omega)])) ▸ hP, hS⟩)
theorem zr_4 (h : zE p s m args meth c cc nL own G) (hH : zH G S s H locs)  : ∃ cell : Cell, H[za G 8 0]? = some cell ∧ cell.vm.isStatics = false ∧ s.vm.findClass RX4 = some cell.cls := va_recv h.2.2.2.2.2.2.1.1 hH.1 (ci := 4) (q0 := zp 8 0) rfl ((zw_at (Or.inr (Or.inl ⟨rfl, by omega⟩))).trans (congrArg (fun z => some (za G 8 0, z)) rfl))
theorem zg_4_0 (h : zE p s m args meth c cc nL own G) (hH : zH G S s H locs)  {ix : Nat} (hl : Cond.fieldLink own ix RX4 (TX4 0).2.1 (TX4 0).2.2.1 ∈ zTbl) (hdg : decode cc pc = .ok (.getfield ix, 3)) (k0 : W p l e R s m args below meth c H locs cells slots Q (F0 m (pc + 3) ls (.ref (za G 0 0) :: rest))) : W p l e R s m args below meth c H locs cells slots Q (F0 m pc ls (.ref (za G 8 0) :: rest)) := va_get (D := zD G) (C := RX4) (T := TX4) (N := 6) (ci := 4) h.1 h.2.1 h.2.2.2.2.1 zin_X4 h.2.2.2.1 h.2.2.2.2.2.2.1.1 hH.1 (zp 8 0) ((zw_at (Or.inr (Or.inl ⟨rfl, by omega⟩))).trans (congrArg (fun z => some (za G 8 0, z)) rfl)) rfl 0 (by omega) (h.2.2.2.2.1 _ hl) (fun _ h9 => h9) rfl hdg k0
theorem zgn_4_0 (h : zE p s m args meth c cc nL own G) (hH : zH G S s H locs)  {ix : Nat} {host : String} (hl : Cond.fieldLinkNest own ix RX4 (TX4 0).2.1 (TX4 0).2.2.1 host ∈ zNest) (hdg : decode cc pc = .ok (.getfield ix, 3)) (k0 : W p l e R s m args below meth c H locs cells slots Q (F0 m (pc + 3) ls (.ref (za G 0 0) :: rest))) : W p l e R s m args below meth c H locs cells slots Q (F0 m pc ls (.ref (za G 8 0) :: rest)) := va_getN (D := zD G) (C := RX4) (T := TX4) (N := 6) (ci := 4) h.1 h.2.1 h.2.2.2.2.1 zin_X4 h.2.2.2.1 h.2.2.2.2.2.2.1.1 hH.1 (zp 8 0) ((zw_at (Or.inr (Or.inl ⟨rfl, by omega⟩))).trans (congrArg (fun z => some (za G 8 0, z)) rfl)) rfl 0 (by omega) (va_Nw.use rfl (h.2.2.2.2.2.2.1.2.2.1 _ hl)) (fun _ h9 => h9) rfl hdg k0
theorem zg_4_1 (h : zE p s m args meth c cc nL own G) (hH : zH G S s H locs)  {ix : Nat} (hl : Cond.fieldLink own ix RX4 (TX4 1).2.1 (TX4 1).2.2.1 ∈ zTbl) (hdg : decode cc pc = .ok (.getfield ix, 3)) (k0 : W p l e R s m args below meth c H locs cells slots Q (F0 m (pc + 3) ls (.ref (za G 1 0) :: rest))) : W p l e R s m args below meth c H locs cells slots Q (F0 m pc ls (.ref (za G 8 0) :: rest)) := va_get (D := zD G) (C := RX4) (T := TX4) (N := 6) (ci := 4) h.1 h.2.1 h.2.2.2.2.1 zin_X4 h.2.2.2.1 h.2.2.2.2.2.2.1.1 hH.1 (zp 8 0) ((zw_at (Or.inr (Or.inl ⟨rfl, by omega⟩))).trans (congrArg (fun z => some (za G 8 0, z)) rfl)) rfl 1 (by omega) (h.2.2.2.2.1 _ hl) (fun _ h9 => h9) rfl hdg k0
theorem zgn_4_1 (h : zE p s m args meth c cc nL own G) (hH : zH G S s H locs)  {ix : Nat} {host : String} (hl : Cond.fieldLinkNest own ix RX4 (TX4 1).2.1 (TX4 1).2.2.1 host ∈ zNest) (hdg : decode cc pc = .ok (.getfield ix, 3)) (k0 : W p l e R s m args below meth c H locs cells slots Q (F0 m (pc + 3) ls (.ref (za G 1 0) :: rest))) : W p l e R s m args below meth c H locs cells slots Q (F0 m pc ls (.ref (za G 8 0) :: rest)) := va_getN (D := zD G) (C := RX4) (T := TX4) (N := 6) (ci := 4) h.1 h.2.1 h.2.2.2.2.1 zin_X4 h.2.2.2.1 h.2.2.2.2.2.2.1.1 hH.1 (zp 8 0) ((zw_at (Or.inr (Or.inl ⟨rfl, by omega⟩))).trans (congrArg (fun z => some (za G 8 0, z)) rfl)) rfl 1 (by omega) (va_Nw.use rfl (h.2.2.2.2.2.2.1.2.2.1 _ hl)) (fun _ h9 => h9) rfl hdg k0
theorem zg_4_2 (h : zE p s m args meth c cc nL own G) (hH : zH G S s H locs)  {ix : Nat} (hl : Cond.fieldLink own ix RX4 (TX4 2).2.1 (TX4 2).2.2.1 ∈ zTbl) (hdg : decode cc pc = .ok (.getfield ix, 3)) (k0 : W p l e R s m args below meth c H locs cells slots Q (F0 m (pc + 3) ls (.ref (za G 8 1) :: rest))) : W p l e R s m args below meth c H locs cells slots Q (F0 m pc ls (.ref (za G 8 0) :: rest)) := va_get (D := zD G) (C := RX4) (T := TX4) (N := 6) (ci := 4) h.1 h.2.1 h.2.2.2.2.1 zin_X4 h.2.2.2.1 h.2.2.2.2.2.2.1.1 hH.1 (zp 8 0) ((zw_at (Or.inr (Or.inl ⟨rfl, by omega⟩))).trans (congrArg (fun z => some (za G 8 0, z)) rfl)) rfl 2 (by omega) (h.2.2.2.2.1 _ hl) (fun _ h9 => h9) rfl hdg k0
theorem zgn_4_2 (h : zE p s m args meth c cc nL own G) (hH : zH G S s H locs)  {ix : Nat} {host : String} (hl : Cond.fieldLinkNest own ix RX4 (TX4 2).2.1 (TX4 2).2.2.1 host ∈ zNest) (hdg : decode cc pc = .ok (.getfield ix, 3)) (k0 : W p l e R s m args below meth c H locs cells slots Q (F0 m (pc + 3) ls (.ref (za G 8 1) :: rest))) : W p l e R s m args below meth c H locs cells slots Q (F0 m pc ls (.ref (za G 8 0) :: rest)) := va_getN (D := zD G) (C := RX4) (T := TX4) (N := 6) (ci := 4) h.1 h.2.1 h.2.2.2.2.1 zin_X4 h.2.2.2.1 h.2.2.2.2.2.2.1.1 hH.1 (zp 8 0) ((zw_at (Or.inr (Or.inl ⟨rfl, by omega⟩))).trans (congrArg (fun z => some (za G 8 0, z)) rfl)) rfl 2 (by omega) (va_Nw.use rfl (h.2.2.2.2.2.2.1.2.2.1 _ hl)) (fun _ h9 => h9) rfl hdg k0
theorem zg_4_3 (h : zE p s m args meth c cc nL own G) (hH : zH G S s H locs)  {ix : Nat} (hl : Cond.fieldLink own ix RX4 (TX4 3).2.1 (TX4 3).2.2.1 ∈ zTbl) (hdg : decode cc pc = .ok (.getfield ix, 3)) (k0 : W p l e R s m args below meth c H locs cells slots Q (F0 m (pc + 3) ls (.ref (za G 8 3) :: rest))) : W p l e R s m args below meth c H locs cells slots Q (F0 m pc ls (.ref (za G 8 0) :: rest)) := va_get (D := zD G) (C := RX4) (T := TX4) (N := 6) (ci := 4) h.1 h.2.1 h.2.2.2.2.1 zin_X4 h.2.2.2.1 h.2.2.2.2.2.2.1.1 hH.1 (zp 8 0) ((zw_at (Or.inr (Or.inl ⟨rfl, by omega⟩))).trans (congrArg (fun z => some (za G 8 0, z)) rfl)) rfl 3 (by omega) (h.2.2.2.2.1 _ hl) (fun _ h9 => h9) rfl hdg k0
theorem zgn_4_3 (h : zE p s m args meth c cc nL own G) (hH : zH G S s H locs)  {ix : Nat} {host : String} (hl : Cond.fieldLinkNest own ix RX4 (TX4 3).2.1 (TX4 3).2.2.1 host ∈ zNest) (hdg : decode cc pc = .ok (.getfield ix, 3)) (k0 : W p l e R s m args below meth c H locs cells slots Q (F0 m (pc + 3) ls (.ref (za G 8 3) :: rest))) : W p l e R s m args below meth c H locs cells slots Q (F0 m pc ls (.ref (za G 8 0) :: rest)) := va_getN (D := zD G) (C := RX4) (T := TX4) (N := 6) (ci := 4) h.1 h.2.1 h.2.2.2.2.1 zin_X4 h.2.2.2.1 h.2.2.2.2.2.2.1.1 hH.1 (zp 8 0) ((zw_at (Or.inr (Or.inl ⟨rfl, by omega⟩))).trans (congrArg (fun z => some (za G 8 0, z)) rfl)) rfl 3 (by omega) (va_Nw.use rfl (h.2.2.2.2.2.2.1.2.2.1 _ hl)) (fun _ h9 => h9) rfl hdg k0
theorem zg_4_4 (h : zE p s m args meth c cc nL own G) (hH : zH G S s H locs)  {ix : Nat} (hl : Cond.fieldLink own ix RX4 (TX4 4).2.1 (TX4 4).2.2.1 ∈ zTbl) (hdg : decode cc pc = .ok (.getfield ix, 3)) (k0 : W p l e R s m args below meth c H locs cells slots Q (F0 m (pc + 3) ls (.ref (za G 8 4) :: rest))) : W p l e R s m args below meth c H locs cells slots Q (F0 m pc ls (.ref (za G 8 0) :: rest)) := va_get (D := zD G) (C := RX4) (T := TX4) (N := 6) (ci := 4) h.1 h.2.1 h.2.2.2.2.1 zin_X4 h.2.2.2.1 h.2.2.2.2.2.2.1.1 hH.1 (zp 8 0) ((zw_at (Or.inr (Or.inl ⟨rfl, by omega⟩))).trans (congrArg (fun z => some (za G 8 0, z)) rfl)) rfl 4 (by omega) (h.2.2.2.2.1 _ hl) (fun _ h9 => h9) rfl hdg k0
theorem zgn_4_4 (h : zE p s m args meth c cc nL own G) (hH : zH G S s H locs)  {ix : Nat} {host : String} (hl : Cond.fieldLinkNest own ix RX4 (TX4 4).2.1 (TX4 4).2.2.1 host ∈ zNest) (hdg : decode cc pc = .ok (.getfield ix, 3)) (k0 : W p l e R s m args below meth c H locs cells slots Q (F0 m (pc + 3) ls (.ref (za G 8 4) :: rest))) : W p l e R s m args below meth c H locs cells slots Q (F0 m pc ls (.ref (za G 8 0) :: rest)) := va_getN (D := zD G) (C := RX4) (T := TX4) (N := 6) (ci := 4) h.1 h.2.1 h.2.2.2.2.1 zin_X4 h.2.2.2.1 h.2.2.2.2.2.2.1.1 hH.1 (zp 8 0) ((zw_at (Or.inr (Or.inl ⟨rfl, by omega⟩))).trans (congrArg (fun z => some (za G 8 0, z)) rfl)) rfl 4 (by omega) (va_Nw.use rfl (h.2.2.2.2.2.2.1.2.2.1 _ hl)) (fun _ h9 => h9) rfl hdg k0
theorem zg_4_5 (h : zE p s m args meth c cc nL own G) (hH : zH G S s H locs)  {ix : Nat} (hl : Cond.fieldLink own ix RX4 (TX4 5).2.1 (TX4 5).2.2.1 ∈ zTbl) (hdg : decode cc pc = .ok (.getfield ix, 3)) (k0 : W p l e R s m args below meth c H locs cells slots Q (F0 m (pc + 3) ls (.int (zI (S 8 0 5)) :: rest))) : W p l e R s m args below meth c H locs cells slots Q (F0 m pc ls (.ref (za G 8 0) :: rest)) := va_get (D := zD G) (C := RX4) (T := TX4) (N := 6) (ci := 4) h.1 h.2.1 h.2.2.2.2.1 zin_X4 h.2.2.2.1 h.2.2.2.2.2.2.1.1 hH.1 (zp 8 0) ((zw_at (Or.inr (Or.inl ⟨rfl, by omega⟩))).trans (congrArg (fun z => some (za G 8 0, z)) rfl)) rfl 5 (by omega) (h.2.2.2.2.1 _ hl) (fun _ h9 => h9) rfl hdg k0
theorem zu_4_5 (h : zE p s m args meth c cc nL own G) (hH : zH G S s H locs)  {ix : Nat} {v : Int}  (hl : Cond.fieldLink own ix RX4 (TX4 5).2.1 (TX4 5).2.2.1 ∈ zTbl) (hdg : decode cc pc = .ok (.putfield ix, 3)) (k0 : ∀ (H1 : Heap) (locs1 : List Loc), zH G (zs S 8 0 5 v) s H1 locs1 → W p l e R s m args below meth c H1 locs1 cells slots Q (F0 m (pc + 3) ls rest)) : W p l e R s m args below meth c H locs cells slots Q (F0 m pc ls (.int (zI v) :: .ref (za G 8 0) :: rest)) := va_put (D := zD G) (C := RX4) (T := TX4) (N := 6) (ci := 4) (ty := .int) h.1 h.2.1 h.2.2.2.2.1 zin_X4 tyX4 tyX4_ok nmX4 h.2.2.2.1 h.2.2.2.2.2.2.1.1 hH.1 (zw_D h.2.2.2.2.2.2.2 S) hH.2 (zp 8 0) ((zw_at (Or.inr (Or.inl ⟨rfl, by omega⟩))).trans (congrArg (fun z => some (za G 8 0, z)) rfl)) rfl 5 (by omega) (h.2.2.2.2.1 _ hl) (fun _ h9 => h9) rfl (by decide +kernel) rfl rfl (Nat.le_of_ble_eq_true rfl) hdg (fun H1 locs1 hP _ hS => k0 H1 locs1 ⟨(zw_set8 (G := G) (S := S) (k := 8) (j := 0) (e := .inr (4, [.ref (za G 0 0), .ref (za G 1 0), .ref (za G 8 1), .ref (za G 8 3), .ref (za G 8 4), .int (zI v)])) (i := 5) (v := v) (Or.inl rfl) (Or.inr (Or.inl ⟨rfl, by omega⟩)) (by rw [ze_cl]; simp only [zcl, zs_s])) ▸ hP, hS⟩)
theorem zgn_4_5 (h : zE p s m args meth c cc nL own G) (hH : zH G S s H locs)  {ix : Nat} {host : String} (hl : Cond.fieldLinkNest own ix RX4 (TX4 5).2.1 (TX4 5).2.2.1 host ∈ zNest) (hdg : decode cc pc = .ok (.getfield ix, 3)) (k0 : W p l e R s m args below meth c H locs cells slots Q (F0 m (pc + 3) ls (.int (zI (S 8 0 5)) :: rest))) : W p l e R s m args below meth c H locs cells slots Q (F0 m pc ls (.ref (za G 8 0) :: rest)) := va_getN (D := zD G) (C := RX4) (T := TX4) (N := 6) (ci := 4) h.1 h.2.1 h.2.2.2.2.1 zin_X4 h.2.2.2.1 h.2.2.2.2.2.2.1.1 hH.1 (zp 8 0) ((zw_at (Or.inr (Or.inl ⟨rfl, by omega⟩))).trans (congrArg (fun z => some (za G 8 0, z)) rfl)) rfl 5 (by omega) (va_Nw.use rfl (h.2.2.2.2.2.2.1.2.2.1 _ hl)) (fun _ h9 => h9) rfl hdg k0
theorem zun_4_5 (h : zE p s m args meth c cc nL own G) (hH : zH G S s H locs)  {ix : Nat} {v : Int}  {host : String} (hl : Cond.fieldLinkNest own ix RX4 (TX4 5).2.1 (TX4 5).2.2.1 host ∈ zNest) (hdg : decode cc pc = .ok (.putfield ix, 3)) (k0 : ∀ (H1 : Heap) (locs1 : List Loc), zH G (zs S 8 0 5 v) s H1 locs1 → W p l e R s m args below meth c H1 locs1 cells slots Q (F0 m (pc + 3) ls rest)) : W p l e R s m args below meth c H locs cells slots Q (F0 m pc ls (.int (zI v) :: .ref (za G 8 0) :: rest)) := va_putN (D := zD G) (C := RX4) (T := TX4) (N := 6) (ci := 4) (ty := .int) h.1 h.2.1 h.2.2.2.2.1 zin_X4 tyX4 tyX4_ok nmX4 h.2.2.2.1 h.2.2.2.2.2.2.1.1 hH.1 (zw_D h.2.2.2.2.2.2.2 S) hH.2 (zp 8 0) ((zw_at (Or.inr (Or.inl ⟨rfl, by omega⟩))).trans (congrArg (fun z => some (za G 8 0, z)) rfl)) rfl 5 (by omega) (va_Nw.use rfl (h.2.2.2.2.2.2.1.2.2.1 _ hl)) (fun _ h9 => h9) rfl (by decide +kernel) rfl rfl (Nat.le_of_ble_eq_true rfl) hdg (fun H1 locs1 hP _ hS => k0 H1 locs1 ⟨(zw_set8 (G := G) (S := S) (k := 8) (j := 0) (e := .inr (4, [.ref (za G 0 0), .ref (za G 1 0), .ref (za G 8 1), .ref (za G 8 3), .ref (za G 8 4), .int (zI v)])) (i := 5) (v := v) (Or.inl rfl) (Or.inr (Or.inl ⟨rfl, by omega⟩)) (by rw [ze_cl]; simp only [zcl, zs_s])) ▸ hP, hS⟩)
theorem zr_5 (h : zE p s m args meth c cc nL own G) (hH : zH G S s H locs)  : ∃ cell : Cell, H[za G 9 0]? = some cell ∧ cell.vm.isStatics = false ∧ s.vm.findClass RX5 = some cell.cls := va_recv h.2.2.2.2.2.2.1.1 hH.1 (ci := 5) (q0 := zp 9 0) rfl ((zw_at (Or.inr (Or.inr ⟨rfl, by omega⟩))).trans (congrArg (fun z => some (za G 9 0, z)) rfl))
theorem zg_5_0 (h : zE p s m args meth c cc nL own G) (hH : zH G S s H locs)  {ix : Nat} (hl : Cond.fieldLink own ix RX5 (TX5 0).2.1 (TX5 0).2.2.1 ∈ zTbl) (hdg : decode cc pc = .ok (.getfield ix, 3)) (k0 : W p l e R s m args below meth c H locs cells slots Q (F0 m (pc + 3) ls (.int (zI (S 9 0 0)) :: rest))) : W p l e R s m args below meth c H locs cells slots Q (F0 m pc ls (.ref (za G 9 0) :: rest)) := va_get (D := zD G) (C := RX5) (T := TX5) (N := 15) (ci := 5) h.1 h.2.1 h.2.2.2.2.1 zin_X5 h.2.2.2.1 h.2.2.2.2.2.2.1.1 hH.1 (zp 9 0) ((zw_at (Or.inr (Or.inr ⟨rfl, by omega⟩))).trans (congrArg (fun z => some (za G 9 0, z)) rfl)) rfl 0 (by omega) (h.2.2.2.2.1 _ hl) (fun _ h9 => h9) rfl hdg k0
theorem zu_5_0 (h : zE p s m args meth c cc nL own G) (hH : zH G S s H locs)  {ix : Nat} {v : Int}  (hl : Cond.fieldLink own ix RX5 (TX5 0).2.1 (TX5 0).2.2.1 ∈ zTbl) (hdg : decode cc pc = .ok (.putfield ix, 3)) (k0 : ∀ (H1 : Heap) (locs1 : List Loc), zH G (zs S 9 0 0 v) s H1 locs1 → W p l e R s m args below meth c H1 locs1 cells slots Q (F0 m (pc + 3) ls rest)) : W p l e R s m args below meth c H locs cells slots Q (F0 m pc ls (.int (zI v) :: .ref (za G 9 0) :: rest)) := va_put (D := zD G) (C := RX5) (T := TX5) (N := 15) (ci := 5) (ty := .int) h.1 h.2.1 h.2.2.2.2.1 zin_X5 tyX5 tyX5_ok nmX5 h.2.2.2.1 h.2.2.2.2.2.2.1.1 hH.1 (zw_D h.2.2.2.2.2.2.2 S) hH.2 (zp 9 0) ((zw_at (Or.inr (Or.inr ⟨rfl, by omega⟩))).trans (congrArg (fun z => some (za G 9 0, z)) rfl)) rfl 0 (by omega) (h.2.2.2.2.1 _ hl) (fun _ h9 => h9) rfl (by decide +kernel) rfl rfl (Nat.le_of_ble_eq_true rfl) hdg (fun H1 locs1 hP _ hS => k0 H1 locs1 ⟨(zw_set8 (G := G) (S := S) (k := 9) (j := 0) (e := .inr (5, [.int (zI v), .ref (za G 9 1), .ref (za G 9 2), .ref (za G 9 3), .int (zI (S 9 0 4)), .ref (za G 9 4), .int (zI (S 9 0 6)), .ref (za G 9 5), .ref (za G 9 6), .int (zI (S 9 0 9)), .int (zI (S 9 0 10)), .int (zI (S 9 0 11)), .int (zI (S 9 0 12)), .int (zI (S 9 0 13)), .long (zL (S 9 0 14))])) (i := 0) (v := v) (Or.inr rfl) (Or.inr (Or.inr ⟨rfl, by omega⟩)) (by rw [ze_mo]; simp only [zmo, zs_s, zs_x (S := S) (k := 9) (j := 0) (i := 0) (v := v) (show (4 : Int) ≠ 0 by omega), zs_x (S := S) (k := 9) (j := 0) (i := 0) (v := v) (show (6 : Int) ≠ 0 by omega), zs_x (S := S) (k := 9) (j := 0) (i := 0) (v := v) (show (9 : Int) ≠ 0 by omega), zs_x (S := S) (k := 9) (j := 0) (i := 0) (v := v) (show (10 : Int) ≠ 0 by omega), zs_x (S := S) (k := 9) (j := 0) (i := 0) (v := v) (show (11 : Int) ≠ 0 by omega), zs_x (S := S) (k := 9) (j := 0) (i := 0) (v := v) (show (12 : Int) ≠ 0 by omega), zs_x (S := S) (k := 9) (j := 0) (i := 0) (v := v) (show (13 : Int) ≠ 0 by omega), zs_x (S := S) (k := 9) (j := 0) (i := 0) (v := v) (show (14 : Int) ≠ 0 by omega)])) ▸ hP, hS⟩)
theorem zgn_5_0 (h : zE p s m args meth c cc nL own G) (hH : zH G S s H locs)  {ix : Nat} {host : String} (hl : Cond.fieldLinkNest own ix RX5 (TX5 0).2.1 (TX5 0).2.2.1 host ∈ zNest) (hdg : decode cc pc = .ok (.getfield ix, 3)) (k0 : W p l e R s m args below meth c H locs cells slots Q (F0 m (pc + 3) ls (.int (zI (S 9 0 0)) :: rest))) : W p l e R s m args below meth c H locs cells slots Q (F0 m pc ls (.ref (za G 9 0) :: rest)) := va_getN (D := zD G) (C := RX5) (T := TX5) (N := 15) (ci := 5) h.1 h.2.1 h.2.2.2.2.1 zin_X5 h.2.2.2.1 h.2.2.2.2.2.2.1.1 hH.1 (zp 9 0) ((zw_at (Or.inr (Or.inr ⟨rfl, by omega⟩))).trans (congrArg (fun z => some (za G 9 0, z)) rfl)) rfl 0 (by omega) (va_Nw.use rfl (h.2.2.2.2.2.2.1.2.2.1 _ hl)) (fun _ h9 => h9) rfl hdg k0
theorem zun_5_0 (h : zE p s m args meth c cc nL own G) (hH : zH G S s H locs)  {ix : Nat} {v : Int}  {host : String} (hl : Cond.fieldLinkNest own ix RX5 (TX5 0).2.1 (TX5 0).2.2.1 host ∈ zNest) (hdg : decode cc pc = .ok (.putfield ix, 3)) (k0 : ∀ (H1 : Heap) (locs1 : List Loc), zH G (zs S 9 0 0 v) s H1 locs1 → W p l e R s m args below meth c H1 locs1 cells slots Q (F0 m (pc + 3) ls rest)) : W p l e R s m args below meth c H locs cells slots Q (F0 m pc ls (.int (zI v) :: .ref (za G 9 0) :: rest)) := va_putN (D := zD G) (C := RX5) (T := TX5) (N := 15) (ci := 5) (ty := .int) h.1 h.2.1 h.2.2.2.2.1 zin_X5 tyX5 tyX5_ok nmX5 h.2.2.2.1 h.2.2.2.2.2.2.1.1 hH.1 (zw_D h.2.2.2.2.2.2.2 S) hH.2 (zp 9 0) ((zw_at (Or.inr (Or.inr ⟨rfl, by omega⟩))).trans (congrArg (fun z => some (za G 9 0, z)) rfl)) rfl 0 (by omega) (va_Nw.use rfl (h.2.2.2.2.2.2.1.2.2.1 _ hl)) (fun _ h9 => h9) rfl (by decide +kernel) rfl rfl (Nat.le_of_ble_eq_true rfl) hdg (fun H1 locs1 hP _ hS => k0 H1 locs1 ⟨(zw_set8 (G := G) (S := S) (k := 9) (j := 0) (e := .inr (5, [.int (zI v), .ref (za G 9 1), .ref (za G 9 2), .ref (za G 9 3), .int (zI (S 9 0 4)), .ref (za G 9 4), .int (zI (S 9 0 6)), .ref (za G 9 5), .ref (za G 9 6), .int (zI (S 9 0 9)), .int (zI (S 9 0 10)), .int (zI (S 9 0 11)), .int (zI (S 9 0 12)), .int (zI (S 9 0 13)), .long (zL (S 9 0 14))])) (i := 0) (v := v) (Or.inr rfl) (Or.inr (Or.inr ⟨rfl, by omega⟩)) (by rw [ze_mo]; simp only [zmo, zs_s, zs_x (S := S) (k := 9) (j := 0) (i := 0) (v := v) (show (4 : Int) ≠ 0 by omega), zs_x (S := S) (k := 9) (j := 0) (i := 0) (v := v) (show (6 : Int) ≠ 0 by omega), zs_x (S := S) (k := 9) (j := 0) (i := 0) (v := v) (show (9 : Int) ≠ 0 by omega), zs_x (S := S) (k := 9) (j := 0) (i := 0) (v := v) (show (10 : Int) ≠ 0 by omega), zs_x (S := S) (k := 9) (j := 0) (i := 0) (v := v) (show (11 : Int) ≠ 0 by omega), zs_x (S := S) (k := 9) (j := 0) (i := 0) (v := v) (show (12 : Int) ≠ 0 by omega), zs_x (S := S) (k := 9) (j := 0) (i := 0) (v := v) (show (13 : Int) ≠ 0 by omega), zs_x (S := S) (k := 9) (j := 0) (i := 0) (v := v) (show (14 : Int) ≠ 0 by omega)])) ▸ hP, hS⟩)
theorem zg_5_1 (h : zE p s m args meth c cc nL own G) (hH : zH G S s H locs)  {ix : Nat} (hl : Cond.fieldLink own ix RX5 (TX5 1).2.1 (TX5 1).2.2.1 ∈ zTbl) (hdg : decode cc pc = .ok (.getfield ix, 3)) (k0 : W p l e R s m args below meth c H locs cells slots Q (F0 m (pc + 3) ls (.ref (za G 9 1) :: rest))) : W p l e R s m args below meth c H locs cells slots Q (F0 m pc ls (.ref (za G 9 0) :: rest)) := va_get (D := zD G) (C := RX5) (T := TX5) (N := 15) (ci := 5) h.1 h.2.1 h.2.2.2.2.1 zin_X5 h.2.2.2.1 h.2.2.2.2.2.2.1.1 hH.1 (zp 9 0) ((zw_at (Or.inr (Or.inr ⟨rfl, by omega⟩))).trans (congrArg (fun z => some (za G 9 0, z)) rfl)) rfl 1 (by omega) (h.2.2.2.2.1 _ hl) (fun _ h9 => h9) rfl hdg k0
theorem zgn_5_1 (h : zE p s m args meth c cc nL own G) (hH : zH G S s H locs)  {ix : Nat} {host : String} (hl : Cond.fieldLinkNest own ix RX5 (TX5 1).2.1 (TX5 1).2.2.1 host ∈ zNest) (hdg : decode cc pc = .ok (.getfield ix, 3)) (k0 : W p l e R s m args below meth c H locs cells slots Q (F0 m (pc + 3) ls (.ref (za G 9 1) :: rest))) : W p l e R s m args below meth c H locs cells slots Q (F0 m pc ls (.ref (za G 9 0) :: rest)) := va_getN (D := zD G) (C := RX5) (T := TX5) (N := 15) (ci := 5) h.1 h.2.1 h.2.2.2.2.1 zin_X5 h.2.2.2.1 h.2.2.2.2.2.2.1.1 hH.1 (zp 9 0) ((zw_at (Or.inr (Or.inr ⟨rfl, by omega⟩))).trans (congrArg (fun z => some (za G 9 0, z)) rfl)) rfl 1 (by omega) (va_Nw.use rfl (h.2.2.2.2.2.2.1.2.2.1 _ hl)) (fun _ h9 => h9) rfl hdg k0
theorem zg_5_2 (h : zE p s m args meth c cc nL own G) (hH : zH G S s H locs)  {ix : Nat} (hl : Cond.fieldLink own ix RX5 (TX5 2).2.1 (TX5 2).2.2.1 ∈ zTbl) (hdg : decode cc pc = .ok (.getfield ix, 3)) (k0 : W p l e R s m args below meth c H locs cells slots Q (F0 m (pc + 3) ls (.ref (za G 9 2) :: rest))) : W p l e R s m args below meth c H locs cells slots Q (F0 m pc ls (.ref (za G 9 0) :: rest)) := va_get (D := zD G) (C := RX5) (T := TX5) (N := 15) (ci := 5) h.1 h.2.1 h.2.2.2.2.1 zin_X5 h.2.2.2.1 h.2.2.2.2.2.2.1.1 hH.1 (zp 9 0) ((zw_at (Or.inr (Or.inr ⟨rfl, by omega⟩))).trans (congrArg (fun z => some (za G 9 0, z)) rfl)) rfl 2 (by omega) (h.2.2.2.2.1 _ hl) (fun _ h9 => h9) rfl hdg k0
theorem zgn_5_2 (h : zE p s m args meth c cc nL own G) (hH : zH G S s H locs)  {ix : Nat} {host : String} (hl : Cond.fieldLinkNest own ix RX5 (TX5 2).2.1 (TX5 2).2.2.1 host ∈ zNest) (hdg : decode cc pc = .ok (.getfield ix, 3)) (k0 : W p l e R s m args below meth c H locs cells slots Q (F0 m (pc + 3) ls (.ref (za G 9 2) :: rest))) : W p l e R s m args below meth c H locs cells slots Q (F0 m pc ls (.ref (za G 9 0) :: rest)) := va_getN (D := zD G) (C := RX5) (T := TX5) (N := 15) (ci := 5) h.1 h.2.1 h.2.2.2.2.1 zin_X5 h.2.2.2.1 h.2.2.2.2.2.2.1.1 hH.1 (zp 9 0) ((zw_at (Or.inr (Or.inr ⟨rfl, by omega⟩))).trans (congrArg (fun z => some (za G 9 0, z)) rfl)) rfl 2 (by omega) (va_Nw.use rfl (h.2.2.2.2.2.2.1.2.2.1 _ hl)) (fun _ h9 => h9) rfl hdg k0
theorem zg_5_3 (h : zE p s m args meth c cc nL own G) (hH : zH G S s H locs)  {ix : Nat} (hl : Cond.fieldLink own ix RX5 (TX5 3).2.1 (TX5 3).2.2.1 ∈ zTbl) (hdg : decode cc pc = .ok (.getfield ix, 3)) (k0 : W p l e R s m args below meth c H locs cells slots Q (F0 m (pc + 3) ls (.ref (za G 9 3) :: rest))) : W p l e R s m args below meth c H locs cells slots Q (F0 m pc ls (.ref (za G 9 0) :: rest)) := va_get (D := zD G) (C := RX5) (T := TX5) (N := 15) (ci := 5) h.1 h.2.1 h.2.2.2.2.1 zin_X5 h.2.2.2.1 h.2.2.2.2.2.2.1.1 hH.1 (zp 9 0) ((zw_at (Or.inr (Or.inr ⟨rfl, by omega⟩))).trans (congrArg (fun z => some (za G 9 0, z)) rfl)) rfl 3 (by omega) (h.2.2.2.2.1 _ hl) (fun _ h9 => h9) rfl hdg k0
theorem zgn_5_3 (h : zE p s m args meth c cc nL own G) (hH : zH G S s H locs)  {ix : Nat} {host : String} (hl : Cond.fieldLinkNest own ix RX5 (TX5 3).2.1 (TX5 3).2.2.1 host ∈ zNest) (hdg : decode cc pc = .ok (.getfield ix, 3)) (k0 : W p l e R s m args below meth c H locs cells slots Q (F0 m (pc + 3) ls (.ref (za G 9 3) :: rest))) : W p l e R s m args below meth c H locs cells slots Q (F0 m pc ls (.ref (za G 9 0) :: rest)) := va_getN (D := zD G) (C := RX5) (T := TX5) (N := 15) (ci := 5) h.1 h.2.1 h.2.2.2.2.1 zin_X5 h.2.2.2.1 h.2.2.2.2.2.2.1.1 hH.1 (zp 9 0) ((zw_at (Or.inr (Or.inr ⟨rfl, by omega⟩))).trans (congrArg (fun z => some (za G 9 0, z)) rfl)) rfl 3 (by omega) (va_Nw.use rfl (h.2.2.2.2.2.2.1.2.2.1 _ hl)) (fun _ h9 => h9) rfl hdg k0
theorem zg_5_4 (h : zE p s m args meth c cc nL own G) (hH : zH G S s H locs)  {ix : Nat} (hl : Cond.fieldLink own ix RX5 (TX5 4).2.1 (TX5 4).2.2.1 ∈ zTbl) (hdg : decode cc pc = .ok (.getfield ix, 3)) (k0 : W p l e R s m args below meth c H locs cells slots Q (F0 m (pc + 3) ls (.int (zI (S 9 0 4)) :: rest))) : W p l e R s m args below meth c H locs cells slots Q (F0 m pc ls (.ref (za G 9 0) :: rest)) := va_get (D := zD G) (C := RX5) (T := TX5) (N := 15) (ci := 5) h.1 h.2.1 h.2.2.2.2.1 zin_X5 h.2.2.2.1 h.2.2.2.2.2.2.1.1 hH.1 (zp 9 0) ((zw_at (Or.inr (Or.inr ⟨rfl, by omega⟩))).trans (congrArg (fun z => some (za G 9 0, z)) rfl)) rfl 4 (by omega) (h.2.2.2.2.1 _ hl) (fun _ h9 => h9) rfl hdg k0
theorem zu_5_4 (h : zE p s m args meth c cc nL own G) (hH : zH G S s H locs)  {ix : Nat} {v : Int}  (hl : Cond.fieldLink own ix RX5 (TX5 4).2.1 (TX5 4).2.2.1 ∈ zTbl) (hdg : decode cc pc = .ok (.putfield ix, 3)) (k0 : ∀ (H1 : Heap) (locs1 : List Loc), zH G (zs S 9 0 4 v) s H1 locs1 → W p l e R s m args below meth c H1 locs1 cells slots Q (F0 m (pc + 3) ls rest)) : W p l e R s m args below meth c H locs cells slots Q (F0 m pc ls (.int (zI v) :: .ref (za G 9 0) :: rest)) := va_put (D := zD G) (C := RX5) (T := TX5) (N := 15) (ci := 5) (ty := .int) h.1 h.2.1 h.2.2.2.2.1 zin_X5 tyX5 tyX5_ok nmX5 h.2.2.2.1 h.2.2.2.2.2.2.1.1 hH.1 (zw_D h.2.2.2.2.2.2.2 S) hH.2 (zp 9 0) ((zw_at (Or.inr (Or.inr ⟨rfl, by omega⟩))).trans (congrArg (fun z => some (za G 9 0, z)) rfl)) rfl 4 (by omega) (h.2.2.2.2.1 _ hl) (fun _ h9 => h9) rfl (by decide +kernel) rfl rfl (Nat.le_of_ble_eq_true rfl) hdg (fun H1 locs1 hP _ hS => k0 H1 locs1 ⟨(zw_set8 (G := G) (S := S) (k := 9) (j := 0) (e := .inr (5, [.int (zI (S 9 0 0)), .ref (za G 9 1), .ref (za G 9 2), .ref (za G 9 3), .int (zI v), .ref (za G 9 4), .int (zI (S 9 0 6)), .ref (za G 9 5), .ref (za G 9 6), .int (zI (S 9 0 9)), .int (zI (S 9 0 10)), .int (zI (S 9 0 11)), .int (zI (S 9 0 12)), .int (zI (S 9 0 13)), .long (zL (S 9 0 14))])) (i := 4) (v := v) (Or.inr rfl) (Or.inr (Or.inr ⟨rfl, by omega⟩)) (by rw [ze_mo]; simp only [zmo, zs_s, zs_x (S := S) (k := 9) (j := 0) (i := 4) (v := v) (show (0 : Int) ≠ 4 by omega), zs_x (S := S) (k := 9) (j := 0) (i := 4) (v := v) (show (6 : Int) ≠ 4 by omega), zs_x (S := S) (k := 9) (j := 0) (i := 4) (v := v) (show (9 : Int) ≠ 4 by omega), zs_x (S := S) (k := 9) (j := 0) (i := 4) (v := v) (show (10 : Int) ≠ 4 by omega), zs_x (S := S) (k := 9) (j := 0) (i := 4) (v := v) (show (11 : Int) ≠ 4 by omega), zs_x (S := S) (k := 9) (j := 0) (i := 4) (v := v) (show (12 : Int) ≠ 4 by omega), zs_x (S := S) (k := 9) (j := 0) (i := 4) (v := v) (show (13 : Int) ≠ 4 by omega), zs_x (S := S) (k := 9) (j := 0) (i := 4) (v := v) (show (14 : Int) ≠ 4 by omega)])) ▸ hP, hS⟩)
theorem zgn_5_4 (h : zE p s m args meth c cc nL own G) (hH : zH G S s H locs)  {ix : Nat} {host : String} (hl : Cond.fieldLinkNest own ix RX5 (TX5 4).2.1 (TX5 4).2.2.1 host ∈ zNest) (hdg : decode cc pc = .ok (.getfield ix, 3)) (k0 : W p l e R s m args below meth c H locs cells slots Q (F0 m (pc + 3) ls (.int (zI (S 9 0 4)) :: rest))) : W p l e R s m args below meth c H locs cells slots Q (F0 m pc ls (.ref (za G 9 0) :: rest)) := va_getN (D := zD G) (C := RX5) (T := TX5) (N := 15) (ci := 5) h.1 h.2.1 h.2.2.2.2.1 zin_X5 h.2.2.2.1 h.2.2.2.2.2.2.1.1 hH.1 (zp 9 0) ((zw_at (Or.inr (Or.inr ⟨rfl, by omega⟩))).trans (congrArg (fun z => some (za G 9 0, z)) rfl)) rfl 4 (by omega) (va_Nw.use rfl (h.2.2.2.2.2.2.1.2.2.1 _ hl)) (fun _ h9 => h9) rfl hdg k0
theorem zun_5_4 (h : zE p s m args meth c cc nL own G) (hH : zH G S s H locs)  {ix : Nat} {v : Int}  {host : String} (hl : Cond.fieldLinkNest own ix RX5 (TX5 4).2.1 (TX5 4).2.2.1 host ∈ zNest) (hdg : decode cc pc = .ok (.putfield ix, 3)) (k0 : ∀ (H1 : Heap) (locs1 : List Loc), zH G (zs S 9 0 4 v) s H1 locs1 → W p l e R s m args below meth c H1 locs1 cells slots Q (F0 m (pc + 3) ls rest)) : W p l e R s m args below meth c H locs cells slots Q (F0 m pc ls (.int (zI v) :: .ref (za G 9 0) :: rest)) := va_putN (D := zD G) (C := RX5) (T := TX5) (N := 15) (ci := 5) (ty := .int) h.1 h.2.1 h.2.2.2.2.1 zin_X5 tyX5 tyX5_ok nmX5 h.2.2.2.1 h.2.2.2.2.2.2.1.1 hH.1 (zw_D h.2.2.2.2.2.2.2 S) hH.2 (zp 9 0) ((zw_at (Or.inr (Or.inr ⟨rfl, by omega⟩))).trans (congrArg (fun z => some (za G 9 0, z)) rfl)) rfl 4 (by omega) (va_Nw.use rfl (h.2.2.2.2.2.2.1.2.2.1 _ hl)) (fun _ h9 => h9) rfl (by decide +kernel) rfl rfl (Nat.le_of_ble_eq_true rfl) hdg (fun H1 locs1 hP _ hS => k0 H1 locs1 ⟨(zw_set8 (G := G) (S := S) (k := 9) (j := 0) (e := .inr (5, [.int (zI (S 9 0 0)), .ref (za G 9 1), .ref (za G 9 2), .ref (za G 9 3), .int (zI v), .ref (za G 9 4), .int (zI (S 9 0 6)), .ref (za G 9 5), .ref (za G 9 6), .int (zI (S 9 0 9)), .int (zI (S 9 0 10)), .int (zI (S 9 0 11)), .int (zI (S 9 0 12)), .int (zI (S 9 0 13)), .long (zL (S 9 0 14))])) (i := 4) (v := v) (Or.inr rfl) (Or.inr (Or.inr ⟨rfl, by omega⟩)) (by rw [ze_mo]; simp only [zmo, zs_s, zs_x (S := S) (k := 9) (j := 0) (i := 4) (v := v) (show (0 : Int) ≠ 4 by omega), zs_x (S := S) (k := 9) (j := 0) (i := 4) (v := v) (show (6 : Int) ≠ 4 by omega), zs_x (S := S) (k := 9) (j := 0) (i := 4) (v := v) (show (9 : Int) ≠ 4 by omega), zs_x (S := S) (k := 9) (j := 0) (i := 4) (v := v) (show (10 : Int) ≠ 4 by omega), zs_x (S := S) (k := 9) (j := 0) (i := 4) (v := v) (show (11 : Int) ≠ 4 by omega), zs_x (S := S) (k := 9) (j := 0) (i := 4) (v := v) (show (12 : Int) ≠ 4 by omega), zs_x (S := S) (k := 9) (j := 0) (i := 4) (v := v) (show (13 : Int) ≠ 4 by omega), zs_x (S := S) (k := 9) (j := 0) (i := 4) (v := v) (show (14 : Int) ≠ 4 by omega)])) ▸ hP, hS⟩)
theorem zg_5_5 (h : zE p s m args meth c cc nL own G) (hH : zH G S s H locs)  {ix : Nat} (hl : Cond.fieldLink own ix RX5 (TX5 5).2.1 (TX5 5).2.2.1 ∈ zTbl) (hdg : decode cc pc = .ok (.getfield ix, 3)) (k0 : W p l e R s m args below meth c H locs cells slots Q (F0 m (pc + 3) ls (.ref (za G 9 4) :: rest))) : W p l e R s m args below meth c H locs cells slots Q (F0 m pc ls (.ref (za G 9 0) :: rest)) := va_get (D := zD G) (C := RX5) (T := TX5) (N := 15) (ci := 5) h.1 h.2.1 h.2.2.2.2.1 zin_X5 h.2.2.2.1 h.2.2.2.2.2.2.1.1 hH.1 (zp 9 0) ((zw_at (Or.inr (Or.inr ⟨rfl, by omega⟩))).trans (congrArg (fun z => some (za G 9 0, z)) rfl)) rfl 5 (by omega) (h.2.2.2.2.1 _ hl) (fun _ h9 => h9) rfl hdg k0
theorem zgn_5_5 (h : zE p s m args meth c cc nL own G) (hH : zH G S s H locs)  {ix : Nat} {host : String} (hl : Cond.fieldLinkNest own ix RX5 (TX5 5).2.1 (TX5 5).2.2.1 host ∈ zNest) (hdg : decode cc pc = .ok (.getfield ix, 3)) (k0 : W p l e R s m args below meth c H locs cells slots Q (F0 m (pc + 3) ls (.ref (za G 9 4) :: rest))) : W p l e R s m args below meth c H locs cells slots Q (F0 m pc ls (.ref (za G 9 0) :: rest)) := va_getN (D := zD G) (C := RX5) (T := TX5) (N := 15) (ci := 5) h.1 h.2.1 h.2.2.2.2.1 zin_X5 h.2.2.2.1 h.2.2.2.2.2.2.1.1 hH.1 (zp 9 0) ((zw_at (Or.inr (Or.inr ⟨rfl, by omega⟩))).trans (congrArg (fun z => some (za G 9 0, z)) rfl)) rfl 5 (by omega) (va_Nw.use rfl (h.2.2.2.2.2.2.1.2.2.1 _ hl)) (fun _ h9 => h9) rfl hdg k0
theorem zg_5_6 (h : zE p s m args meth c cc nL own G) (hH : zH G S s H locs)  {ix : Nat} (hl : Cond.fieldLink own ix RX5 (TX5 6).2.1 (TX5 6).2.2.1 ∈ zTbl) (hdg : decode cc pc = .ok (.getfield ix, 3)) (k0 : W p l e R s m args below meth c H locs cells slots Q (F0 m (pc + 3) ls (.int (zI (S 9 0 6)) :: rest))) : W p l e R s m args below meth c H locs cells slots Q (F0 m pc ls (.ref (za G 9 0) :: rest)) := va_get (D := zD G) (C := RX5) (T := TX5) (N := 15) (ci := 5) h.1 h.2.1 h.2.2.2.2.1 zin_X5 h.2.2.2.1 h.2.2.2.2.2.2.1.1 hH.1 (zp 9 0) ((zw_at (Or.inr (Or.inr ⟨rfl, by omega⟩))).trans (congrArg (fun z => some (za G 9 0, z)) rfl)) rfl 6 (by omega) (h.2.2.2.2.1 _ hl) (fun _ h9 => h9) rfl hdg k0
theorem zu_5_6 (h : zE p s m args meth c cc nL own G) (hH : zH G S s H locs)  {ix : Nat} {v : Int}  (hl : Cond.fieldLink own ix RX5 (TX5 6).2.1 (TX5 6).2.2.1 ∈ zTbl) (hdg : decode cc pc = .ok (.putfield ix, 3)) (k0 : ∀ (H1 : Heap) (locs1 : List Loc), zH G (zs S 9 0 6 v) s H1 locs1 → W p l e R s m args below meth c H1 locs1 cells slots Q (F0 m (pc + 3) ls rest)) : W p l e R s m args below meth c H locs cells slots Q (F0 m pc ls (.int (zI v) :: .ref (za G 9 0) :: rest)) := va_put (D := zD G) (C := RX5) (T := TX5) (N := 15) (ci := 5) (ty := .int) h.1 h.2.1 h.2.2.2.2.1 zin_X5 tyX5 tyX5_ok nmX5 h.2.2.2.1 h.2.2.2.2.2.2.1.1 hH.1 (zw_D h.2.2.2.2.2.2.2 S) hH.2 (zp 9 0) ((zw_at (Or.inr (Or.inr ⟨rfl, by omega⟩))).trans (congrArg (fun z => some (za G 9 0, z)) rfl)) rfl 6 (by omega) (h.2.2.2.2.1 _ hl) (fun _ h9 => h9) rfl (by decide +kernel) rfl rfl (Nat.le_of_ble_eq_true rfl) hdg (fun H1 locs1 hP _ hS => k0 H1 locs1 ⟨(zw_set8 (G := G) (S := S) (k := 9) (j := 0) (e := .inr (5, [.int (zI (S 9 0 0)), .ref (za G 9 1), .ref (za G 9 2), .ref (za G 9 3), .int (zI (S 9 0 4)), .ref (za G 9 4), .int (zI v), .ref (za G 9 5), .ref (za G 9 6), .int (zI (S 9 0 9)), .int (zI (S 9 0 10)), .int (zI (S 9 0 11)), .int (zI (S 9 0 12)), .int (zI (S 9 0 13)), .long (zL (S 9 0 14))])) (i := 6) (v := v) (Or.inr rfl) (Or.inr (Or.inr ⟨rfl, by omega⟩)) (by rw [ze_mo]; simp only [zmo, zs_s, zs_x (S := S) (k := 9) (j := 0) (i := 6) (v := v) (show (0 : Int) ≠ 6 by omega), zs_x (S := S) (k := 9) (j := 0) (i := 6) (v := v) (show (4 : Int) ≠ 6 by omega), zs_x (S := S) (k := 9) (j := 0) (i := 6) (v := v) (show (9 : Int) ≠ 6 by omega), zs_x (S := S) (k := 9) (j := 0) (i := 6) (v := v) (show (10 : Int) ≠ 6 by omega), zs_x (S := S) (k := 9) (j := 0) (i := 6) (v := v) (show (11 : Int) ≠ 6 by omega), zs_x (S := S) (k := 9) (j := 0) (i := 6) (v := v) (show (12 : Int) ≠ 6 by omega), zs_x (S := S) (k := 9) (j := 0) (i := 6) (v := v) (show (13 : Int) ≠ 6 by omega), zs_x (S := S) (k := 9) (j := 0) (i := 6) (v := v) (show (14 : Int) ≠ 6 by omega)])) ▸ hP, hS⟩)
theorem zgn_5_6 (h : zE p s m args meth c cc nL own G) (hH : zH G S s H locs)  {ix : Nat} {host : String} (hl : Cond.fieldLinkNest own ix RX5 (TX5 6).2.1 (TX5 6).2.2.1 host ∈ zNest) (hdg : decode cc pc = .ok (.getfield ix, 3)) (k0 : W p l e R s m args below meth c H locs cells slots Q (F0 m (pc + 3) ls (.int (zI (S 9 0 6)) :: rest))) : W p l e R s m args below meth c H locs cells slots Q (F0 m pc ls (.ref (za G 9 0) :: rest)) := va_getN (D := zD G) (C := RX5) (T := TX5) (N := 15) (ci := 5) h.1 h.2.1 h.2.2.2.2.1 zin_X5 h.2.2.2.1 h.2.2.2.2.2.2.1.1 hH.1 (zp 9 0) ((zw_at (Or.inr (Or.inr ⟨rfl, by omega⟩))).trans (congrArg (fun z => some (za G 9 0, z)) rfl)) rfl 6 (by omega) (va_Nw.use rfl (h.2.2.2.2.2.2.1.2.2.1 _ hl)) (fun _ h9 => h9) rfl hdg k0
theorem zun_5_6 (h : zE p s m args meth c cc nL own G) (hH : zH G S s H locs)  {ix : Nat} {v : Int}  {host : String} (hl : Cond.fieldLinkNest own ix RX5 (TX5 6).2.1 (TX5 6).2.2.1 host ∈ zNest) (hdg : decode cc pc = .ok (.putfield ix, 3)) (k0 : ∀ (H1 : Heap) (locs1 : List Loc), zH G (zs S 9 0 6 v) s H1 locs1 → W p l e R s m args below meth c H1 locs1 cells slots Q (F0 m (pc + 3) ls rest)) : W p l e R s m args below meth c H locs cells slots Q (F0 m pc ls (.int (zI v) :: .ref (za G 9 0) :: rest)) := va_putN (D := zD G) (C := RX5) (T := TX5) (N := 15) (ci := 5) (ty := .int) h.1 h.2.1 h.2.2.2.2.1 zin_X5 tyX5 tyX5_ok nmX5 h.2.2.2.1 h.2.2.2.2.2.2.1.1 hH.1 (zw_D h.2.2.2.2.2.2.2 S) hH.2 (zp 9 0) ((zw_at (Or.inr (Or.inr ⟨rfl, by omega⟩))).trans (congrArg (fun z => some (za G 9 0, z)) rfl)) rfl 6 (by omega) (va_Nw.use rfl (h.2.2.2.2.2.2.1.2.2.1 _ hl)) (fun _ h9 => h9) rfl (by decide +kernel) rfl rfl (Nat.le_of_ble_eq_true rfl) hdg (fun H1 locs1 hP _ hS => k0 H1 locs1 ⟨(zw_set8 (G := G) (S := S) (k := 9) (j := 0) (e := .inr (5, [.int (zI (S 9 0 0)), .ref (za G 9 1), .ref (za G 9 2), .ref (za G 9 3), .int (zI (S 9 0 4)), .ref (za G 9 4), .int (zI v), .ref (za G 9 5), .ref (za G 9 6), .int (zI (S 9 0 9)), .int (zI (S 9 0 10)), .int (zI (S 9 0 11)), .int (zI (S 9 0 12)), .int (zI (S 9 0 13)), .long (zL (S 9 0 14))])) (i := 6) (v := v) (Or.inr rfl) (Or.inr (Or.inr ⟨rfl, by omega⟩)) (by rw [ze_mo]; simp only [zmo, zs_s, zs_x (S := S) (k := 9) (j := 0) (i := 6) (v := v) (show (0 : Int) ≠ 6 by omega), zs_x (S := S) (k := 9) (j := 0) (i := 6) (v := v) (show (4 : Int) ≠ 6 by omega), zs_x (S := S) (k := 9) (j := 0) (i := 6) (v := v) (show (9 : Int) ≠ 6 by omega), zs_x (S := S) (k := 9) (j := 0) (i := 6) (v := v) (show (10 : Int) ≠ 6 by omega), zs_x (S := S) (k := 9) (j := 0) (i := 6) (v := v) (show (11 : Int) ≠ 6 by omega), zs_x (S := S) (k := 9) (j := 0) (i := 6) (v := v) (show (12 : Int) ≠ 6 by omega), zs_x (S := S) (k := 9) (j := 0) (i := 6) (v := v) (show (13 : Int) ≠ 6 by omega), zs_x (S := S) (k := 9) (j := 0) (i := 6) (v := v) (show (14 : Int) ≠ 6 by omega)])) ▸ hP, hS⟩)
theorem zg_5_7 (h : zE p s m args meth c cc nL own G) (hH : zH G S s H locs)  {ix : Nat} (hl : Cond.fieldLink own ix RX5 (TX5 7).2.1 (TX5 7).2.2.1 ∈ zTbl) (hdg : decode cc pc = .ok (.getfield ix, 3)) (k0 : W p l e R s m args below meth c H locs cells slots Q (F0 m (pc + 3) ls (.ref (za G 9 5) :: rest))) : W p l e R s m args below meth c H locs cells slots Q (F0 m pc ls (.ref (za G 9 0) :: rest)) := va_get (D := zD G) (C := RX5) (T := TX5) (N := 15) (ci := 5) h.1 h.2.1 h.2.2.2.2.1 zin_X5 h.2.2.2.1 h.2.2.2.2.2.2.1.1 hH.1 (zp 9 0) ((zw_at (Or.inr (Or.inr ⟨rfl, by omega⟩))).trans (congrArg (fun z => some (za G 9 0, z)) rfl)) rfl 7 (by omega) (h.2.2.2.2.1 _ hl) (fun _ h9 => h9) rfl hdg k0
theorem zgn_5_7 (h : zE p s m args meth c cc nL own G) (hH : zH G S s H locs)  {ix : Nat} {host : String} (hl : Cond.fieldLinkNest own ix RX5 (TX5 7).2.1 (TX5 7).2.2.1 host ∈ zNest) (hdg : decode cc pc = .ok (.getfield ix, 3)) (k0 : W p l e R s m args below meth c H locs cells slots Q (F0 m (pc + 3) ls (.ref (za G 9 5) :: rest))) : W p l e R s m args below meth c H locs cells slots Q (F0 m pc ls (.ref (za G 9 0) :: rest)) := va_getN (D := zD G) (C := RX5) (T := TX5) (N := 15) (ci := 5) h.1 h.2.1 h.2.2.2.2.1 zin_X5 h.2.2.2.1 h.2.2.2.2.2.2.1.1 hH.1 (zp 9 0) ((zw_at (Or.inr (Or.inr ⟨rfl, by omega⟩))).trans (congrArg (fun z => some (za G 9 0, z)) rfl)) rfl 7 (by omega) (va_Nw.use rfl (h.2.2.2.2.2.2.1.2.2.1 _ hl)) (fun _ h9 => h9) rfl hdg k0
theorem zg_5_8 (h : zE p s m args meth c cc nL own G) (hH : zH G S s H locs)  {ix : Nat} (hl : Cond.fieldLink own ix RX5 (TX5 8).2.1 (TX5 8).2.2.1 ∈ zTbl) (hdg : decode cc pc = .ok (.getfield ix, 3)) (k0 : W p l e R s m args below meth c H locs cells slots Q (F0 m (pc + 3) ls (.ref (za G 9 6) :: rest))) : W p l e R s m args below meth c H locs cells slots Q (F0 m pc ls (.ref (za G 9 0) :: rest)) := va_get (D := zD G) (C := RX5) (T := TX5) (N := 15) (ci := 5) h.1 h.2.1 h.2.2.2.2.1 zin_X5 h.2.2.2.1 h.2.2.2.2.2.2.1.1 hH.1 (zp 9 0) ((zw_at (Or.inr (Or.inr ⟨rfl, by omega⟩))).trans (congrArg (fun z => some (za G 9 0, z)) rfl)) rfl 8 (by omega) (h.2.2.2.2.1 _ hl) (fun _ h9 => h9) rfl hdg k0
theorem zgn_5_8 (h : zE p s m args meth c cc nL own G) (hH : zH G S s H locs)  {ix : Nat} {host : String} (hl : Cond.fieldLinkNest own ix RX5 (TX5 8).2.1 (TX5 8).2.2.1 host ∈ zNest) (hdg : decode cc pc = .ok (.getfield ix, 3)) (k0 : W p l e R s m args below meth c H locs cells slots Q (F0 m (pc + 3) ls (.ref (za G 9 6) :: rest))) : W p l e R s m args below meth c H locs cells slots Q (F0 m pc ls (.ref (za G 9 0) :: rest)) := va_getN (D := zD G) (C := RX5) (T := TX5) (N := 15) (ci := 5) h.1 h.2.1 h.2.2.2.2.1 zin_X5 h.2.2.2.1 h.2.2.2.2.2.2.1.1 hH.1 (zp 9 0) ((zw_at (Or.inr (Or.inr ⟨rfl, by omega⟩))).trans (congrArg (fun z => some (za G 9 0, z)) rfl)) rfl 8 (by omega) (va_Nw.use rfl (h.2.2.2.2.2.2.1.2.2.1 _ hl)) (fun _ h9 => h9) rfl hdg k0
theorem zg_5_9 (h : zE p s m args meth c cc nL own G) (hH : zH G S s H locs)  {ix : Nat} (hl : Cond.fieldLink own ix RX5 (TX5 9).2.1 (TX5 9).2.2.1 ∈ zTbl) (hdg : decode cc pc = .ok (.getfield ix, 3)) (k0 : W p l e R s m args below meth c H locs cells slots Q (F0 m (pc + 3) ls (.int (zI (S 9 0 9)) :: rest))) : W p l e R s m args below meth c H locs cells slots Q (F0 m pc ls (.ref (za G 9 0) :: rest)) := va_get (D := zD G) (C := RX5) (T := TX5) (N := 15) (ci := 5) h.1 h.2.1 h.2.2.2.2.1 zin_X5 h.2.2.2.1 h.2.2.2.2.2.2.1.1 hH.1 (zp 9 0) ((zw_at (Or.inr (Or.inr ⟨rfl, by omega⟩))).trans (congrArg (fun z => some (za G 9 0, z)) rfl)) rfl 9 (by omega) (h.2.2.2.2.1 _ hl) (fun _ h9 => h9) rfl hdg k0
theorem zu_5_9 (h : zE p s m args meth c cc nL own G) (hH : zH G S s H locs)  {ix : Nat} {v : Int}  (hl : Cond.fieldLink own ix RX5 (TX5 9).2.1 (TX5 9).2.2.1 ∈ zTbl) (hdg : decode cc pc = .ok (.putfield ix, 3)) (k0 : ∀ (H1 : Heap) (locs1 : List Loc), zH G (zs S 9 0 9 v) s H1 locs1 → W p l e R s m args below meth c H1 locs1 cells slots Q (F0 m (pc + 3) ls rest)) : W p l e R s m args below meth c H locs cells slots Q (F0 m pc ls (.int (zI v) :: .ref (za G 9 0) :: rest)) := va_put (D := zD G) (C := RX5) (T := TX5) (N := 15) (ci := 5) (ty := .int) h.1 h.2.1 h.2.2.2.2.1 zin_X5 tyX5 tyX5_ok nmX5 h.2.2.2.1 h.2.2.2.2.2.2.1.1 hH.1 (zw_D h.2.2.2.2.2.2.2 S) hH.2 (zp 9 0) ((zw_at (Or.inr (Or.inr ⟨rfl, by omega⟩))).trans (congrArg (fun z => some (za G 9 0, z)) rfl)) rfl 9 (by omega) (h.2.2.2.2.1 _ hl) (fun _ h9 => h9) rfl (by decide +kernel) rfl rfl (Nat.le_of_ble_eq_true rfl) hdg (fun H1 locs1 hP _ hS => k0 H1 locs1 ⟨(zw_set8 (G := G) (S := S) (k := 9) (j := 0) (e := .inr (5, [.int (zI (S 9 0 0)), .ref (za G 9 1), .ref (za G 9 2), .ref (za G 9 3), .int (zI (S 9 0 4)), .ref (za G 9 4), .int (zI (S 9 0 6)), .ref (za G 9 5), .ref (za G 9 6), .int (zI v), .int (zI (S 9 0 10)), .int (zI (S 9 0 11)), .int (zI (S 9 0 12)), .int (zI (S 9 0 13)), .long (zL (S 9 0 14))])) (i := 9) (v := v) (Or.inr rfl) (Or.inr (Or.inr ⟨rfl, by omega⟩)) (by rw [ze_mo]; simp only [zmo, zs_s, zs_x (S := S) (k := 9) (j := 0) (i := 9) (v := v) (show (0 : Int) ≠ 9 by omega), zs_x (S := S) (k := 9) (j := 0) (i := 9) (v := v) (show (4 : Int) ≠ 9 by omega), zs_x (S := S) (k := 9) (j := 0) (i := 9) (v := v) (show (6 : Int) ≠ 9 by omega), zs_x (S := S) (k := 9) (j := 0) (i := 9) (v := v) (show (10 : Int) ≠ 9 by omega), zs_x (S := S) (k := 9) (j := 0) (i := 9) (v := v) (show (11 : Int) ≠ 9 by omega), zs_x (S := S) (k := 9) (j := 0) (i := 9) (v := v) (show (12 : Int) ≠ 9 by omega), zs_x (S := S) (k := 9) (j := 0) (i := 9) (v := v) (show (13 : Int) ≠ 9 by omega), zs_x (S := S) (k := 9) (j := 0) (i := 9) (v := v) (show (14 : Int) ≠ 9 by omega)])) ▸ hP, hS⟩)
theorem zgn_5_9 (h : zE p s m args meth c cc nL own G) (hH : zH G S s H locs)  {ix : Nat} {host : String} (hl : Cond.fieldLinkNest own ix RX5 (TX5 9).2.1 (TX5 9).2.2.1 host ∈ zNest) (hdg : decode cc pc = .ok (.getfield ix, 3)) (k0 : W p l e R s m args below meth c H locs cells slots Q (F0 m (pc + 3) ls (.int (zI (S 9 0 9)) :: rest))) : W p l e R s m args below meth c H locs cells slots Q (F0 m pc ls (.ref (za G 9 0) :: rest)) := va_getN (D := zD G) (C := RX5) (T := TX5) (N := 15) (ci := 5) h.1 h.2.1 h.2.2.2.2.1 zin_X5 h.2.2.2.1 h.2.2.2.2.2.2.1.1 hH.1 (zp 9 0) ((zw_at (Or.inr (Or.inr ⟨rfl, by omega⟩))).trans (congrArg (fun z => some (za G 9 0, z)) rfl)) rfl 9 (by omega) (va_Nw.use rfl (h.2.2.2.2.2.2.1.2.2.1 _ hl)) (fun _ h9 => h9) rfl hdg k0
theorem zun_5_9 (h : zE p s m args meth c cc nL own G) (hH : zH G S s H locs)  {ix : Nat} {v : Int}  {host : String} (hl : Cond.fieldLinkNest own ix RX5 (TX5 9).2.1 (TX5 9).2.2.1 host ∈ zNest) (hdg : decode cc pc = .ok (.putfield ix, 3)) (k0 : ∀ (H1 : Heap) (locs1 : List Loc), zH G (zs S 9 0 9 v) s H1 locs1 → W p l e R s m args below meth c H1 locs1 cells slots Q (F0 m (pc + 3) ls rest)) : W p l e R s m args below meth c H locs cells slots Q (F0 m pc ls (.int (zI v) :: .ref (za G 9 0) :: rest)) := va_putN (D := zD G) (C := RX5) (T := TX5) (N := 15) (ci := 5) (ty := .int) h.1 h.2.1 h.2.2.2.2.1 zin_X5 tyX5 tyX5_ok nmX5 h.2.2.2.1 h.2.2.2.2.2.2.1.1 hH.1 (zw_D h.2.2.2.2.2.2.2 S) hH.2 (zp 9 0) ((zw_at (Or.inr (Or.inr ⟨rfl, by omega⟩))).trans (congrArg (fun z => some (za G 9 0, z)) rfl)) rfl 9 (by omega) (va_Nw.use rfl (h.2.2.2.2.2.2.1.2.2.1 _ hl)) (fun _ h9 => h9) rfl (by decide +kernel) rfl rfl (Nat.le_of_ble_eq_true rfl) hdg (fun H1 locs1 hP _ hS => k0 H1 locs1 ⟨(zw_set8 (G := G) (S := S) (k := 9) (j := 0) (e := .inr (5, [.int (zI (S 9 0 0)), .ref (za G 9 1), .ref (za G 9 2), .ref (za G 9 3), .int (zI (S 9 0 4)), .ref (za G 9 4), .int (zI (S 9 0 6)), .ref (za G 9 5), .ref (za G 9 6), .int (zI v), .int (zI (S 9 0 10)), .int (zI (S 9 0 11)), .int (zI (S 9 0 12)), .int (zI (S 9 0 13)), .long (zL (S 9 0 14))])) (i := 9) (v := v) (Or.inr rfl) (Or.inr (Or.inr ⟨rfl, by omega⟩)) (by rw [ze_mo]; simp only [zmo, zs_s, zs_x (S := S) (k := 9) (j := 0) (i := 9) (v := v) (show (0 : Int) ≠ 9 by omega), zs_x (S := S) (k := 9) (j := 0) (i := 9) (v := v) (show (4 : Int) ≠ 9 by omega), zs_x (S := S) (k := 9) (j := 0) (i := 9) (v := v) (show (6 : Int) ≠ 9 by omega), zs_x (S := S) (k := 9) (j := 0) (i := 9) (v := v) (show (10 : Int) ≠ 9 by omega), zs_x (S := S) (k := 9) (j := 0) (i := 9) (v := v) (show (11 : Int) ≠ 9 by omega), zs_x (S := S) (k := 9) (j := 0) (i := 9) (v := v) (show (12 : Int) ≠ 9 by omega), zs_x (S := S) (k := 9) (j := 0) (i := 9) (v := v) (show (13 : Int) ≠ 9 by omega), zs_x (S := S) (k := 9) (j := 0) (i := 9) (v := v) (show (14 : Int) ≠ 9 by omega)])) ▸ hP, hS⟩)
theorem zg_5_10 (h : zE p s m args meth c cc nL own G) (hH : zH G S s H locs)  {ix : Nat} (hl : Cond.fieldLink own ix RX5 (TX5 10).2.1 (TX5 10).2.2.1 ∈ zTbl) (hdg : decode cc pc = .ok (.getfield ix, 3)) (k0 : W p l e R s m args below meth c H locs cells slots Q (F0 m (pc + 3) ls (.int (zI (S 9 0 10)) :: rest))) : W p l e R s m args below meth c H locs cells slots Q (F0 m pc ls (.ref (za G 9 0) :: rest)) := va_get (D := zD G) (C := RX5) (T := TX5) (N := 15) (ci := 5) h.1 h.2.1 h.2.2.2.2.1 zin_X5 h.2.2.2.1 h.2.2.2.2.2.2.1.1 hH.1 (zp 9 0) ((zw_at (Or.inr (Or.inr ⟨rfl, by omega⟩))).trans (congrArg (fun z => some (za G 9 0, z)) rfl)) rfl 10 (by omega) (h.2.2.2.2.1 _ hl) (fun _ h9 => h9) rfl hdg k0
theorem zu_5_10 (h : zE p s m args meth c cc nL own G) (hH : zH G S s H locs)  {ix : Nat} {v : Int} (hv : v = 0 ∨ v = 1) (hl : Cond.fieldLink own ix RX5 (TX5 10).2.1 (TX5 10).2.2.1 ∈ zTbl) (hdg : decode cc pc = .ok (.putfield ix, 3)) (k0 : ∀ (H1 : Heap) (locs1 : List Loc), zH G (zs S 9 0 10 v) s H1 locs1 → W p l e R s m args below meth c H1 locs1 cells slots Q (F0 m (pc + 3) ls rest)) : W p l e R s m args below meth c H locs cells slots Q (F0 m pc ls (.int (zI v) :: .ref (za G 9 0) :: rest)) := va_put (D := zD G) (C := RX5) (T := TX5) (N := 15) (ci := 5) (ty := .boolean) h.1 h.2.1 h.2.2.2.2.1 zin_X5 tyX5 tyX5_ok nmX5 h.2.2.2.1 h.2.2.2.2.2.2.1.1 hH.1 (zw_D h.2.2.2.2.2.2.2 S) hH.2 (zp 9 0) ((zw_at (Or.inr (Or.inr ⟨rfl, by omega⟩))).trans (congrArg (fun z => some (za G 9 0, z)) rfl)) rfl 10 (by omega) (h.2.2.2.2.1 _ hl) (fun _ h9 => h9) rfl (by decide +kernel) (by rcases hv with rfl | rfl <;> rfl) (by rcases hv with rfl | rfl <;> rfl) (Nat.le_of_ble_eq_true rfl) hdg (fun H1 locs1 hP _ hS => k0 H1 locs1 ⟨(zw_set8 (G := G) (S := S) (k := 9) (j := 0) (e := .inr (5, [.int (zI (S 9 0 0)), .ref (za G 9 1), .ref (za G 9 2), .ref (za G 9 3), .int (zI (S 9 0 4)), .ref (za G 9 4), .int (zI (S 9 0 6)), .ref (za G 9 5), .ref (za G 9 6), .int (zI (S 9 0 9)), .int (zI v), .int (zI (S 9 0 11)), .int (zI (S 9 0 12)), .int (zI (S 9 0 13)), .long (zL (S 9 0 14))])) (i := 10) (v := v) (Or.inr rfl) (Or.inr (Or.inr ⟨rfl, by omega⟩)) (by rw [ze_mo]; simp only [zmo, zs_s, zs_x (S := S) (k := 9) (j := 0) (i := 10) (v := v) (show (0 : Int) ≠ 10 by omega), zs_x (S := S) (k := 9) (j := 0) (i := 10) (v := v) (show (4 : Int) ≠ 10 by omega), zs_x (S := S) (k := 9) (j := 0) (i := 10) (v := v) (show (6 : Int) ≠ 10 by omega), zs_x (S := S) (k := 9) (j := 0) (i := 10) (v := v) (show (9 : Int) ≠ 10 by omega), zs_x (S := S) (k := 9) (j := 0) (i := 10) (v := v) (show (11 : Int) ≠ 10 by omega), zs_x (S := S) (k := 9) (j := 0) (i := 10) (v := v) (show (12 : Int) ≠ 10 by omega), zs_x (S := S) (k := 9) (j := 0) (i := 10) (v := v) (show (13 : Int) ≠ 10 by omega), zs_x (S := S) (k := 9) (j := 0) (i := 10) (v := v) (show (14 : Int) ≠ 10 by omega)])) ▸ hP, hS⟩)
theorem zgn_5_10 (h : zE p s m args meth c cc nL own G) (hH : zH G S s H locs)  {ix : Nat} {host : String} (hl : Cond.fieldLinkNest own ix RX5 (TX5 10).2.1 (TX5 10).2.2.1 host ∈ zNest) (hdg : decode cc pc = .ok (.getfield ix, 3)) (k0 : W p l e R s m args below meth c H locs cells slots Q (F0 m (pc + 3) ls (.int (zI (S 9 0 10)) :: rest))) : W p l e R s m args below meth c H locs cells slots Q (F0 m pc ls (.ref (za G 9 0) :: rest)) := va_getN (D := zD G) (C := RX5) (T := TX5) (N := 15) (ci := 5) h.1 h.2.1 h.2.2.2.2.1 zin_X5 h.2.2.2.1 h.2.2.2.2.2.2.1.1 hH.1 (zp 9 0) ((zw_at (Or.inr (Or.inr ⟨rfl, by omega⟩))).trans (congrArg (fun z => some (za G 9 0, z)) rfl)) rfl 10 (by omega) (va_Nw.use rfl (h.2.2.2.2.2.2.1.2.2.1 _ hl)) (fun _ h9 => h9) rfl hdg k0
theorem zun_5_10 (h : zE p s m args meth c cc nL own G) (hH : zH G S s H locs)  {ix : Nat} {v : Int} (hv : v = 0 ∨ v = 1) {host : String} (hl : Cond.fieldLinkNest own ix RX5 (TX5 10).2.1 (TX5 10).2.2.1 host ∈ zNest) (hdg : decode cc pc = .ok (.putfield ix, 3)) (k0 : ∀ (H1 : Heap) (locs1 : List Loc), zH G (zs S 9 0 10 v) s H1 locs1 → W p l e R s m args below meth c H1 locs1 cells slots Q (F0 m (pc + 3) ls rest)) : W p l e R s m args below meth c H locs cells slots Q (F0 m pc ls (.int (zI v) :: .ref (za G 9 0) :: rest)) := va_putN (D := zD G) (C := RX5) (T := TX5) (N := 15) (ci := 5) (ty := .boolean) h.1 h.2.1 h.2.2.2.2.1 zin_X5 tyX5 tyX5_ok nmX5 h.2.2.2.1 h.2.2.2.2.2.2.1.1 hH.1 (zw_D h.2.2.2.2.2.2.2 S) hH.2 (zp 9 0) ((zw_at (Or.inr (Or.inr ⟨rfl, by omega⟩))).trans (congrArg (fun z => some (za G 9 0, z)) rfl)) rfl 10 (by omega) (va_Nw.use rfl (h.2.2.2.2.2.2.1.2.2.1 _ hl)) (fun _ h9 => h9) rfl (by decide +kernel) (by rcases hv with rfl | rfl <;> rfl) (by rcases hv with rfl | rfl <;> rfl) (Nat.le_of_ble_eq_true rfl) hdg (fun H1 locs1 hP _ hS => k0 H1 locs1 ⟨(zw_set8 (G := G) (S := S) (k := 9) (j := 0) (e := .inr (5, [.int (zI (S 9 0 0)), .ref (za G 9 1), .ref (za G 9 2), .ref (za G 9 3), .int (zI (S 9 0 4)), .ref (za G 9 4), .int (zI (S 9 0 6)), .ref (za G 9 5), .ref (za G 9 6), .int (zI (S 9 0 9)), .int (zI v), .int (zI (S 9 0 11)), .int (zI (S 9 0 12)), .int (zI (S 9 0 13)), .long (zL (S 9 0 14))])) (i := 10) (v := v) (Or.inr rfl) (Or.inr (Or.inr ⟨rfl, by omega⟩)) (by rw [ze_mo]; simp only [zmo, zs_s, zs_x (S := S) (k := 9) (j := 0) (i := 10) (v := v) (show (0 : Int) ≠ 10 by omega), zs_x (S := S) (k := 9) (j := 0) (i := 10) (v := v) (show (4 : Int) ≠ 10 by omega), zs_x (S := S) (k := 9) (j := 0) (i := 10) (v := v) (show (6 : Int) ≠ 10 by omega), zs_x (S := S) (k := 9) (j := 0) (i := 10) (v := v) (show (9 : Int) ≠ 10 by omega), zs_x (S := S) (k := 9) (j := 0) (i := 10) (v := v) (show (11 : Int) ≠ 10 by omega), zs_x (S := S) (k := 9) (j := 0) (i := 10) (v := v) (show (12 : Int) ≠ 10 by omega), zs_x (S := S) (k := 9) (j := 0) (i := 10) (v := v) (show (13 : Int) ≠ 10 by omega), zs_x (S := S) (k := 9) (j := 0) (i := 10) (v := v) (show (14 : Int) ≠ 10 by omega)])) ▸ hP, hS⟩)
theorem zg_5_11 (h : zE p s m args meth c cc nL own G) (hH : zH G S s H locs)  {ix : Nat} (hl : Cond.fieldLink own ix RX5 (TX5 11).2.1 (TX5 11).2.2.1 ∈ zTbl) (hdg : decode cc pc = .ok (.getfield ix, 3)) (k0 : W p l e R s m args below meth c H locs cells slots Q (F0 m (pc + 3) ls (.int (zI (S 9 0 11)) :: rest))) : W p l e R s m args below meth c H locs cells slots Q (F0 m pc ls (.ref (za G 9 0) :: rest)) := va_get (D := zD G) (C := RX5) (T := TX5) (N := 15) (ci := 5) h.1 h.2.1 h.2.2.2.2.1 zin_X5 h.2.2.2.1 h.2.2.2.2.2.2.1.1 hH.1 (zp 9 0) ((zw_at (Or.inr (Or.inr ⟨rfl, by omega⟩))).trans (congrArg (fun z => some (za G 9 0, z)) rfl)) rfl 11 (by omega) (h.2.2.2.2.1 _ hl) (fun _ h9 => h9) rfl hdg k0
theorem zu_5_11 (h : zE p s m args meth c cc nL own G) (hH : zH G S s H locs)  {ix : Nat} {v : Int}  (hl : Cond.fieldLink own ix RX5 (TX5 11).2.1 (TX5 11).2.2.1 ∈ zTbl) (hdg : decode cc pc = .ok (.putfield ix, 3)) (k0 : ∀ (H1 : Heap) (locs1 : List Loc), zH G (zs S 9 0 11 v) s H1 locs1 → W p l e R s m args below meth c H1 locs1 cells slots Q (F0 m (pc + 3) ls rest)) : W p l e R s m args below meth c H locs cells slots Q (F0 m pc ls (.int (zI v) :: .ref (za G 9 0) :: rest)) := va_put (D := zD G) (C := RX5) (T := TX5) (N := 15) (ci := 5) (ty := .int) h.1 h.2.1 h.2.2.2.2.1 zin_X5 tyX5 tyX5_ok nmX5 h.2.2.2.1 h.2.2.2.2.2.2.1.1 hH.1 (zw_D h.2.2.2.2.2.2.2 S) hH.2 (zp 9 0) ((zw_at (Or.inr (Or.inr ⟨rfl, by omega⟩))).trans (congrArg (fun z => some (za G 9 0, z)) rfl)) rfl 11 (by omega) (h.2.2.2.2.1 _ hl) (fun _ h9 => h9) rfl (by decide +kernel) rfl rfl (Nat.le_of_ble_eq_true rfl) hdg (fun H1 locs1 hP _ hS => k0 H1 locs1 ⟨(zw_set8 (G := G) (S := S) (k := 9) (j := 0) (e := .inr (5, [.int (zI (S 9 0 0)), .ref (za G 9 1), .ref (za G 9 2), .ref (za G 9 3), .int (zI (S 9 0 4)), .ref (za G 9 4), .int (zI (S 9 0 6)), .ref (za G 9 5), .ref (za G 9 6), .int (zI (S 9 0 9)), .int (zI (S 9 0 10)), .int (zI v), .int (zI (S 9 0 12)), .int (zI (S 9 0 13)), .long (zL (S 9 0 14))])) (i := 11) (v := v) (Or.inr rfl) (Or.inr (Or.inr ⟨rfl, by omega⟩)) (by rw [ze_mo]; simp only [zmo, zs_s, zs_x (S := S) (k := 9) (j := 0) (i := 11) (v := v) (show (0 : Int) ≠ 11 by omega), zs_x (S := S) (k := 9) (j := 0) (i := 11) (v := v) (show (4 : Int) ≠ 11 by omega), zs_x (S := S) (k := 9) (j := 0) (i := 11) (v := v) (show (6 : Int) ≠ 11 by omega), zs_x (S := S) (k := 9) (j := 0) (i := 11) (v := v) (show (9 : Int) ≠ 11 by omega), zs_x (S := S) (k := 9) (j := 0) (i := 11) (v := v) (show (10 : Int) ≠ 11 by omega), zs_x (S := S) (k := 9) (j := 0) (i := 11) (v := v) (show (12 : Int) ≠ 11 by omega), zs_x (S := S) (k := 9) (j := 0) (i := 11) (v := v) (show (13 : Int) ≠ 11 by omega), zs_x (S := S) (k := 9) (j := 0) (i := 11) (v := v) (show (14 : Int) ≠ 11 by omega)])) ▸ hP, hS⟩)
theorem zgn_5_11 (h : zE p s m args meth c cc nL own G) (hH : zH G S s H locs)  {ix : Nat} {host : String} (hl : Cond.fieldLinkNest own ix RX5 (TX5 11).2.1 (TX5 11).2.2.1 host ∈ zNest) (hdg : decode cc pc = .ok (.getfield ix, 3)) (k0 : W p l e R s m args below meth c H locs cells slots Q (F0 m (pc + 3) ls (.int (zI (S 9 0 11)) :: rest))) : W p l e R s m args below meth c H locs cells slots Q (F0 m pc ls (.ref (za G 9 0) :: rest)) := va_getN (D := zD G) (C := RX5) (T := TX5) (N := 15) (ci := 5) h.1 h.2.1 h.2.2.2.2.1 zin_X5 h.2.2.2.1 h.2.2.2.2.2.2.1.1 hH.1 (zp 9 0) ((zw_at (Or.inr (Or.inr ⟨rfl, by omega⟩))).trans (congrArg (fun z => some (za G 9 0, z)) rfl)) rfl 11 (by omega) (va_Nw.use rfl (h.2.2.2.2.2.2.1.2.2.1 _ hl)) (fun _ h9 => h9) rfl hdg k0
theorem zun_5_11 (h : zE p s m args meth c cc nL own G) (hH : zH G S s H locs)  {ix : Nat} {v : Int}  {host : String} (hl : Cond.fieldLinkNest own ix RX5 (TX5 11).2.1 (TX5 11).2.2.1 host ∈ zNest) (hdg : decode cc pc = .ok (.putfield ix, 3)) (k0 : ∀ (H1 : Heap) (locs1 : List Loc), zH G (zs S 9 0 11 v) s H1 locs1 → W p l e R s m args below meth c H1 locs1 cells slots Q (F0 m (pc + 3) ls rest)) : W p l e R s m args below meth c H locs cells slots Q (F0 m pc ls (.int (zI v) :: .ref (za G 9 0) :: rest)) := va_putN (D := zD G) (C := RX5) (T := TX5) (N := 15) (ci := 5) (ty := .int) h.1 h.2.1 h.2.2.2.2.1 zin_X5 tyX5 tyX5_ok nmX5 h.2.2.2.1 h.2.2.2.2.2.2.1.1 hH.1 (zw_D h.2.2.2.2.2.2.2 S) hH.2 (zp 9 0) ((zw_at (Or.inr (Or.inr ⟨rfl, by omega⟩))).trans (congrArg (fun z => some (za G 9 0, z)) rfl)) rfl 11 (by omega) (va_Nw.use rfl (h.2.2.2.2.2.2.1.2.2.1 _ hl)) (fun _ h9 => h9) rfl (by decide +kernel) rfl rfl (Nat.le_of_ble_eq_true rfl) hdg (fun H1 locs1 hP _ hS => k0 H1 locs1 ⟨(zw_set8 (G := G) (S := S) (k := 9) (j := 0) (e := .inr (5, [.int (zI (S 9 0 0)), .ref (za G 9 1), .ref (za G 9 2), .ref (za G 9 3), .int (zI (S 9 0 4)), .ref (za G 9 4), .int (zI (S 9 0 6)), .ref (za G 9 5), .ref (za G 9 6), .int (zI (S 9 0 9)), .int (zI (S 9 0 10)), .int (zI v), .int (zI (S 9 0 12)), .int (zI (S 9 0 13)), .long (zL (S 9 0 14))])) (i := 11) (v := v) (Or.inr rfl) (Or.inr (Or.inr ⟨rfl, by omega⟩)) (by rw [ze_mo]; simp only [zmo, zs_s, zs_x (S := S) (k := 9) (j := 0) (i := 11) (v := v) (show (0 : Int) ≠ 11 by omega), zs_x (S := S) (k := 9) (j := 0) (i := 11) (v := v) (show (4 : Int) ≠ 11 by omega), zs_x (S := S) (k := 9) (j := 0) (i := 11) (v := v) (show (6 : Int) ≠ 11 by omega), zs_x (S := S) (k := 9) (j := 0) (i := 11) (v := v) (show (9 : Int) ≠ 11 by omega), zs_x (S := S) (k := 9) (j := 0) (i := 11) (v := v) (show (10 : Int) ≠ 11 by omega), zs_x (S := S) (k := 9) (j := 0) (i := 11) (v := v) (show (12 : Int) ≠ 11 by omega), zs_x (S := S) (k := 9) (j := 0) (i := 11) (v := v) (show (13 : Int) ≠ 11 by omega), zs_x (S := S) (k := 9) (j := 0) (i := 11) (v := v) (show (14 : Int) ≠ 11 by omega)])) ▸ hP, hS⟩)
theorem zg_5_12 (h : zE p s m args meth c cc nL own G) (hH : zH G S s H locs)  {ix : Nat} (hl : Cond.fieldLink own ix RX5 (TX5 12).2.1 (TX5 12).2.2.1 ∈ zTbl) (hdg : decode cc pc = .ok (.getfield ix, 3)) (k0 : W p l e R s m args below meth c H locs cells slots Q (F0 m (pc + 3) ls (.int (zI (S 9 0 12)) :: rest))) : W p l e R s m args below meth c H locs cells slots Q (F0 m pc ls (.ref (za G 9 0) :: rest)) := va_get (D := zD G) (C := RX5) (T := TX5) (N := 15) (ci := 5) h.1 h.2.1 h.2.2.2.2.1 zin_X5 h.2.2.2.1 h.2.2.2.2.2.2.1.1 hH.1 (zp 9 0) ((zw_at (Or.inr (Or.inr ⟨rfl, by omega⟩))).trans (congrArg (fun z => some (za G 9 0, z)) rfl)) rfl 12 (by omega) (h.2.2.2.2.1 _ hl) (fun _ h9 => h9) rfl hdg k0
theorem zu_5_12 (h : zE p s m args meth c cc nL own G) (hH : zH G S s H locs)  {ix : Nat} {v : Int}  (hl : Cond.fieldLink own ix RX5 (TX5 12).2.1 (TX5 12).2.2.1 ∈ zTbl) (hdg : decode cc pc = .ok (.putfield ix, 3)) (k0 : ∀ (H1 : Heap) (locs1 : List Loc), zH G (zs S 9 0 12 v) s H1 locs1 → W p l e R s m args below meth c H1 locs1 cells slots Q (F0 m (pc + 3) ls rest)) : W p l e R s m args below meth c H locs cells slots Q (F0 m pc ls (.int (zI v) :: .ref (za G 9 0) :: rest)) := va_put (D := zD G) (C := RX5) (T := TX5) (N := 15) (ci := 5) (ty := .int) h.1 h.2.1 h.2.2.2.2.1 zin_X5 tyX5 tyX5_ok nmX5 h.2.2.2.1 h.2.2.2.2.2.2.1.1 hH.1 (zw_D h.2.2.2.2.2.2.2 S) hH.2 (zp 9 0) ((zw_at (Or.inr (Or.inr ⟨rfl, by omega⟩))).trans (congrArg (fun z => some (za G 9 0, z)) rfl)) rfl 12 (by omega) (h.2.2.2.2.1 _ hl) (fun _ h9 => h9) rfl (by decide +kernel) rfl rfl (Nat.le_of_ble_eq_true rfl) hdg (fun H1 locs1 hP _ hS => k0 H1 locs1 ⟨(zw_set8 (G := G) (S := S) (k := 9) (j := 0) (e := .inr (5, [.int (zI (S 9 0 0)), .ref (za G 9 1), .ref (za G 9 2), .ref (za G 9 3), .int (zI (S 9 0 4)), .ref (za G 9 4), .int (zI (S 9 0 6)), .ref (za G 9 5), .ref (za G 9 6), .int (zI (S 9 0 9)), .int (zI (S 9 0 10)), .int (zI (S 9 0 11)), .int (zI v), .int (zI (S 9 0 13)), .long (zL (S 9 0 14))])) (i := 12) (v := v) (Or.inr rfl) (Or.inr (Or.inr ⟨rfl, by omega⟩)) (by rw [ze_mo]; simp only [zmo, zs_s, zs_x (S := S) (k := 9) (j := 0) (i := 12) (v := v) (show (0 : Int) ≠ 12 by omega), zs_x (S := S) (k := 9) (j := 0) (i := 12) (v := v) (show (4 : Int) ≠ 12 by omega), zs_x (S := S) (k := 9) (j := 0) (i := 12) (v := v) (show (6 : Int) ≠ 12 by omega), zs_x (S := S) (k := 9) (j := 0) (i := 12) (v := v) (show (9 : Int) ≠ 12 by omega), zs_x (S := S) (k := 9) (j := 0) (i := 12) (v := v) (show (10 : Int) ≠ 12 by omega), zs_x (S := S) (k := 9) (j := 0) (i := 12) (v := v) (show (11 : Int) ≠ 12 by omega), zs_x (S := S) (k := 9) (j := 0) (i := 12) (v := v) (show (13 : Int) ≠ 12 by omega), zs_x (S := S) (k := 9) (j := 0) (i := 12) (v := v) (show (14 : Int) ≠ 12 by omega)])) ▸ hP, hS⟩)
theorem zgn_5_12 (h : zE p s m args meth c cc nL own G) (hH : zH G S s H locs)  {ix : Nat} {host : String} (hl : Cond.fieldLinkNest own ix RX5 (TX5 12).2.1 (TX5 12).2.2.1 host ∈ zNest) (hdg : decode cc pc = .ok (.getfield ix, 3)) (k0 : W p l e R s m args below meth c H locs cells slots Q (F0 m (pc + 3) ls (.int (zI (S 9 0 12)) :: rest))) : W p l e R s m args below meth c H locs cells slots Q (F0 m pc ls (.ref (za G 9 0) :: rest)) := va_getN (D := zD G) (C := RX5) (T := TX5) (N := 15) (ci := 5) h.1 h.2.1 h.2.2.2.2.1 zin_X5 h.2.2.2.1 h.2.2.2.2.2.2.1.1 hH.1 (zp 9 0) ((zw_at (Or.inr (Or.inr ⟨rfl, by omega⟩))).trans (congrArg (fun z => some (za G 9 0, z)) rfl)) rfl 12 (by omega) (va_Nw.use rfl (h.2.2.2.2.2.2.1.2.2.1 _ hl)) (fun _ h9 => h9) rfl hdg k0
theorem zun_5_12 (h : zE p s m args meth c cc nL own G) (hH : zH G S s H locs)  {ix : Nat} {v : Int}  {host : String} (hl : Cond.fieldLinkNest own ix RX5 (TX5 12).2.1 (TX5 12).2.2.1 host ∈ zNest) (hdg : decode cc pc = .ok (.putfield ix, 3)) (k0 : ∀ (H1 : Heap) (locs1 : List Loc), zH G (zs S 9 0 12 v) s H1 locs1 → W p l e R s m args below meth c H1 locs1 cells slots Q (F0 m (pc + 3) ls rest)) : W p l e R s m args below meth c H locs cells slots Q (F0 m pc ls (.int (zI v) :: .ref (za G 9 0) :: rest)) := va_putN (D := zD G) (C := RX5) (T := TX5) (N := 15) (ci := 5) (ty := .int) h.1 h.2.1 h.2.2.2.2.1 zin_X5 tyX5 tyX5_ok nmX5 h.2.2.2.1 h.2.2.2.2.2.2.1.1 hH.1 (zw_D h.2.2.2.2.2.2.2 S) hH.2 (zp 9 0) ((zw_at (Or.inr (Or.inr ⟨rfl, by omega⟩))).trans (congrArg (fun z => some (za G 9 0, z)) rfl)) rfl 12 (by omega) (va_Nw.use rfl (h.2.2.2.2.2.2.1.2.2.1 _ hl)) (fun _ h9 => h9) rfl (by decide +kernel) rfl rfl (Nat.le_of_ble_eq_true rfl) hdg (fun H1 locs1 hP _ hS => k0 H1 locs1 ⟨(zw_set8 (G := G) (S := S) (k := 9) (j := 0) (e := .inr (5, [.int (zI (S 9 0 0)), .ref (za G 9 1), .ref (za G 9 2), .ref (za G 9 3), .int (zI (S 9 0 4)), .ref (za G 9 4), .int (zI (S 9 0 6)), .ref (za G 9 5), .ref (za G 9 6), .int (zI (S 9 0 9)), .int (zI (S 9 0 10)), .int (zI (S 9 0 11)), .int (zI v), .int (zI (S 9 0 13)), .long (zL (S 9 0 14))])) (i := 12) (v := v) (Or.inr rfl) (Or.inr (Or.inr ⟨rfl, by omega⟩)) (by rw [ze_mo]; simp only [zmo, zs_s, zs_x (S := S) (k := 9) (j := 0) (i := 12) (v := v) (show (0 : Int) ≠ 12 by omega), zs_x (S := S) (k := 9) (j := 0) (i := 12) (v := v) (show (4 : Int) ≠ 12 by omega), zs_x (S := S) (k := 9) (j := 0) (i := 12) (v := v) (show (6 : Int) ≠ 12 by omega), zs_x (S := S) (k := 9) (j := 0) (i := 12) (v := v) (show (9 : Int) ≠ 12 by omega), zs_x (S := S) (k := 9) (j := 0) (i := 12) (v := v) (show (10 : Int) ≠ 12 by omega), zs_x (S := S) (k := 9) (j := 0) (i := 12) (v := v) (show (11 : Int) ≠ 12 by omega), zs_x (S := S) (k := 9) (j := 0) (i := 12) (v := v) (show (13 : Int) ≠ 12 by omega), zs_x (S := S) (k := 9) (j := 0) (i := 12) (v := v) (show (14 : Int) ≠ 12 by omega)])) ▸ hP, hS⟩)
theorem zg_5_13 (h : zE p s m args meth c cc nL own G) (hH : zH G S s H locs)  {ix : Nat} (hl : Cond.fieldLink own ix RX5 (TX5 13).2.1 (TX5 13).2.2.1 ∈ zTbl) (hdg : decode cc pc = .ok (.getfield ix, 3)) (k0 : W p l e R s m args below meth c H locs cells slots Q (F0 m (pc + 3) ls (.int (zI (S 9 0 13)) :: rest))) : W p l e R s m args below meth c H locs cells slots Q (F0 m pc ls (.ref (za G 9 0) :: rest)) := va_get (D := zD G) (C := RX5) (T := TX5) (N := 15) (ci := 5) h.1 h.2.1 h.2.2.2.2.1 zin_X5 h.2.2.2.1 h.2.2.2.2.2.2.1.1 hH.1 (zp 9 0) ((zw_at (Or.inr (Or.inr ⟨rfl, by omega⟩))).trans (congrArg (fun z => some (za G 9 0, z)) rfl)) rfl 13 (by omega) (h.2.2.2.2.1 _ hl) (fun _ h9 => h9) rfl hdg k0
theorem zu_5_13 (h : zE p s m args meth c cc nL own G) (hH : zH G S s H locs)  {ix : Nat} {v : Int}  (hl : Cond.fieldLink own ix RX5 (TX5 13).2.1 (TX5 13).2.2.1 ∈ zTbl) (hdg : decode cc pc = .ok (.putfield ix, 3)) (k0 : ∀ (H1 : Heap) (locs1 : List Loc), zH G (zs S 9 0 13 v) s H1 locs1 → W p l e R s m args below meth c H1 locs1 cells slots Q (F0 m (pc + 3) ls rest)) : W p l e R s m args below meth c H locs cells slots Q (F0 m pc ls (.int (zI v) :: .ref (za G 9 0) :: rest)) := va_put (D := zD G) (C := RX5) (T := TX5) (N := 15) (ci := 5) (ty := .int) h.1 h.2.1 h.2.2.2.2.1 zin_X5 tyX5 tyX5_ok nmX5 h.2.2.2.1 h.2.2.2.2.2.2.1.1 hH.1 (zw_D h.2.2.2.2.2.2.2 S) hH.2 (zp 9 0) ((zw_at (Or.inr (Or.inr ⟨rfl, by omega⟩))).trans (congrArg (fun z => some (za G 9 0, z)) rfl)) rfl 13 (by omega) (h.2.2.2.2.1 _ hl) (fun _ h9 => h9) rfl (by decide +kernel) rfl rfl (Nat.le_of_ble_eq_true rfl) hdg (fun H1 locs1 hP _ hS => k0 H1 locs1 ⟨(zw_set8 (G := G) (S := S) (k := 9) (j := 0) (e := .inr (5, [.int (zI (S 9 0 0)), .ref (za G 9 1), .ref (za G 9 2), .ref (za G 9 3), .int (zI (S 9 0 4)), .ref (za G 9 4), .int (zI (S 9 0 6)), .ref (za G 9 5), .ref (za G 9 6), .int (zI (S 9 0 9)), .int (zI (S 9 0 10)), .int (zI (S 9 0 11)), .int (zI (S 9 0 12)), .int (zI v), .long (zL (S 9 0 14))])) (i := 13) (v := v) (Or.inr rfl) (Or.inr (Or.inr ⟨rfl, by omega⟩)) (by rw [ze_mo]; simp only [zmo, zs_s, zs_x (S := S) (k := 9) (j := 0) (i := 13) (v := v) (show (0 : Int) ≠ 13 by omega), zs_x (S := S) (k := 9) (j := 0) (i := 13) (v := v) (show (4 : Int) ≠ 13 by omega), zs_x (S := S) (k := 9) (j := 0) (i := 13) (v := v) (show (6 : Int) ≠ 13 by omega), zs_x (S := S) (k := 9) (j := 0) (i := 13) (v := v) (show (9 : Int) ≠ 13 by omega), zs_x (S := S) (k := 9) (j := 0) (i := 13) (v := v) (show (10 : Int) ≠ 13 by omega), zs_x (S := S) (k := 9) (j := 0) (i := 13) (v := v) (show (11 : Int) ≠ 13 by omega), zs_x (S := S) (k := 9) (j := 0) (i := 13) (v := v) (show (12 : Int) ≠ 13 by omega), zs_x (S := S) (k := 9) (j := 0) (i := 13) (v := v) (show (14 : Int) ≠ 13 by omega)])) ▸ hP, hS⟩)
theorem zgn_5_13 (h : zE p s m args meth c cc nL own G) (hH : zH G S s H locs)  {ix : Nat} {host : String} (hl : Cond.fieldLinkNest own ix RX5 (TX5 13).2.1 (TX5 13).2.2.1 host ∈ zNest) (hdg : decode cc pc = .ok (.getfield ix, 3)) (k0 : W p l e R s m args below meth c H locs cells slots Q (F0 m (pc + 3) ls (.int (zI (S 9 0 13)) :: rest))) : W p l e R s m args below meth c H locs cells slots Q (F0 m pc ls (.ref (za G 9 0) :: rest)) := va_getN (D := zD G) (C := RX5) (T := TX5) (N := 15) (ci := 5) h.1 h.2.1 h.2.2.2.2.1 zin_X5 h.2.2.2.1 h.2.2.2.2.2.2.1.1 hH.1 (zp 9 0) ((zw_at (Or.inr (Or.inr ⟨rfl, by omega⟩))).trans (congrArg (fun z => some (za G 9 0, z)) rfl)) rfl 13 (by omega) (va_Nw.use rfl (h.2.2.2.2.2.2.1.2.2.1 _ hl)) (fun _ h9 => h9) rfl hdg k0
theorem zun_5_13 (h : zE p s m args meth c cc nL own G) (hH : zH G S s H locs)  {ix : Nat} {v : Int}  {host : String} (hl : Cond.fieldLinkNest own ix RX5 (TX5 13).2.1 (TX5 13).2.2.1 host ∈ zNest) (hdg : decode cc pc = .ok (.putfield ix, 3)) (k0 : ∀ (H1 : Heap) (locs1 : List Loc), zH G (zs S 9 0 13 v) s H1 locs1 → W p l e R s m args below meth c H1 locs1 cells slots Q (F0 m (pc + 3) ls rest)) : W p l e R s m args below meth c H locs cells slots Q (F0 m pc ls (.int (zI v) :: .ref (za G 9 0) :: rest)) := va_putN (D := zD G) (C := RX5) (T := TX5) (N := 15) (ci := 5) (ty := .int) h.1 h.2.1 h.2.2.2.2.1 zin_X5 tyX5 tyX5_ok nmX5 h.2.2.2.1 h.2.2.2.2.2.2.1.1 hH.1 (zw_D h.2.2.2.2.2.2.2 S) hH.2 (zp 9 0) ((zw_at (Or.inr (Or.inr ⟨rfl, by omega⟩))).trans (congrArg (fun z => some (za G 9 0, z)) rfl)) rfl 13 (by omega) (va_Nw.use rfl (h.2.2.2.2.2.2.1.2.2.1 _ hl)) (fun _ h9 => h9) rfl (by decide +kernel) rfl rfl (Nat.le_of_ble_eq_true rfl) hdg (fun H1 locs1 hP _ hS => k0 H1 locs1 ⟨(zw_set8 (G := G) (S := S) (k := 9) (j := 0) (e := .inr (5, [.int (zI (S 9 0 0)), .ref (za G 9 1), .ref (za G 9 2), .ref (za G 9 3), .int (zI (S 9 0 4)), .ref (za G 9 4), .int (zI (S 9 0 6)), .ref (za G 9 5), .ref (za G 9 6), .int (zI (S 9 0 9)), .int (zI (S 9 0 10)), .int (zI (S 9 0 11)), .int (zI (S 9 0 12)), .int (zI v), .long (zL (S 9 0 14))])) (i := 13) (v := v) (Or.inr rfl) (Or.inr (Or.inr ⟨rfl, by omega⟩)) (by rw [ze_mo]; simp only [zmo, zs_s, zs_x (S := S) (k := 9) (j := 0) (i := 13) (v := v) (show (0 : Int) ≠ 13 by omega), zs_x (S := S) (k := 9) (j := 0) (i := 13) (v := v) (show (4 : Int) ≠ 13 by omega), zs_x (S := S) (k := 9) (j := 0) (i := 13) (v := v) (show (6 : Int) ≠ 13 by omega), zs_x (S := S) (k := 9) (j := 0) (i := 13) (v := v) (show (9 : Int) ≠ 13 by omega), zs_x (S := S) (k := 9) (j := 0) (i := 13) (v := v) (show (10 : Int) ≠ 13 by omega), zs_x (S := S) (k := 9) (j := 0) (i := 13) (v := v) (show (11 : Int) ≠ 13 by omega), zs_x (S := S) (k := 9) (j := 0) (i := 13) (v := v) (show (12 : Int) ≠ 13 by omega), zs_x (S := S) (k := 9) (j := 0) (i := 13) (v := v) (show (14 : Int) ≠ 13 by omega)])) ▸ hP, hS⟩)
theorem zg_5_14 (h : zE p s m args meth c cc nL own G) (hH : zH G S s H locs)  {ix : Nat} (hl : Cond.fieldLink own ix RX5 (TX5 14).2.1 (TX5 14).2.2.1 ∈ zTbl) (hdg : decode cc pc = .ok (.getfield ix, 3)) (k0 : W p l e R s m args below meth c H locs cells slots Q (F0 m (pc + 3) ls (.long (zL (S 9 0 14)) :: rest))) : W p l e R s m args below meth c H locs cells slots Q (F0 m pc ls (.ref (za G 9 0) :: rest)) := va_get (D := zD G) (C := RX5) (T := TX5) (N := 15) (ci := 5) h.1 h.2.1 h.2.2.2.2.1 zin_X5 h.2.2.2.1 h.2.2.2.2.2.2.1.1 hH.1 (zp 9 0) ((zw_at (Or.inr (Or.inr ⟨rfl, by omega⟩))).trans (congrArg (fun z => some (za G 9 0, z)) rfl)) rfl 14 (by omega) (h.2.2.2.2.1 _ hl) (fun _ h9 => h9) rfl hdg k0
theorem zu_5_14 (h : zE p s m args meth c cc nL own G) (hH : zH G S s H locs)  {ix : Nat} {v : Int}  (hl : Cond.fieldLink own ix RX5 (TX5 14).2.1 (TX5 14).2.2.1 ∈ zTbl) (hdg : decode cc pc = .ok (.putfield ix, 3)) (k0 : ∀ (H1 : Heap) (locs1 : List Loc), zH G (zs S 9 0 14 v) s H1 locs1 → W p l e R s m args below meth c H1 locs1 cells slots Q (F0 m (pc + 3) ls rest)) : W p l e R s m args below meth c H locs cells slots Q (F0 m pc ls (.long (zL v) :: .ref (za G 9 0) :: rest)) := va_put (D := zD G) (C := RX5) (T := TX5) (N := 15) (ci := 5) (ty := .long) h.1 h.2.1 h.2.2.2.2.1 zin_X5 tyX5 tyX5_ok nmX5 h.2.2.2.1 h.2.2.2.2.2.2.1.1 hH.1 (zw_D h.2.2.2.2.2.2.2 S) hH.2 (zp 9 0) ((zw_at (Or.inr (Or.inr ⟨rfl, by omega⟩))).trans (congrArg (fun z => some (za G 9 0, z)) rfl)) rfl 14 (by omega) (h.2.2.2.2.1 _ hl) (fun _ h9 => h9) rfl (by decide +kernel) rfl rfl (Nat.le_of_ble_eq_true rfl) hdg (fun H1 locs1 hP _ hS => k0 H1 locs1 ⟨(zw_set8 (G := G) (S := S) (k := 9) (j := 0) (e := .inr (5, [.int (zI (S 9 0 0)), .ref (za G 9 1), .ref (za G 9 2), .ref (za G 9 3), .int (zI (S 9 0 4)), .ref (za G 9 4), .int (zI (S 9 0 6)), .ref (za G 9 5), .ref (za G 9 6), .int (zI (S 9 0 9)), .int (zI (S 9 0 10)), .int (zI (S 9 0 11)), .int (zI (S 9 0 12)), .int (zI (S 9 0 13)), .long (zL v)])) (i := 14) (v := v) (Or.inr rfl) (Or.inr (Or.inr ⟨rfl, by omega⟩)) (by rw [ze_mo]; simp only [zmo, zs_s, zs_x (S := S) (k := 9) (j := 0) (i := 14) (v := v) (show (0 : Int) ≠ 14 by omega), zs_x (S := S) (k := 9) (j := 0) (i := 14) (v := v) (show (4 : Int) ≠ 14 by omega), zs_x (S := S) (k := 9) (j := 0) (i := 14) (v := v) (show (6 : Int) ≠ 14 by omega), zs_x (S := S) (k := 9) (j := 0) (i := 14) (v := v) (show (9 : Int) ≠ 14 by omega), zs_x (S := S) (k := 9) (j := 0) (i := 14) (v := v) (show (10 : Int) ≠ 14 by omega), zs_x (S := S) (k := 9) (j := 0) (i := 14) (v := v) (show (11 : Int) ≠ 14 by omega), zs_x (S := S) (k := 9) (j := 0) (i := 14) (v := v) (show (12 : Int) ≠ 14 by omega), zs_x (S := S) (k := 9) (j := 0) (i := 14) (v := v) (show (13 : Int) ≠ 14 by omega)])) ▸ hP, hS⟩)
theorem zgn_5_14 (h : zE p s m args meth c cc nL own G) (hH : zH G S s H locs)  {ix : Nat} {host : String} (hl : Cond.fieldLinkNest own ix RX5 (TX5 14).2.1 (TX5 14).2.2.1 host ∈ zNest) (hdg : decode cc pc = .ok (.getfield ix, 3)) (k0 : W p l e R s m args below meth c H locs cells slots Q (F0 m (pc + 3) ls (.long (zL (S 9 0 14)) :: rest))) : W p l e R s m args below meth c H locs cells slots Q (F0 m pc ls (.ref (za G 9 0) :: rest)) := va_getN (D := zD G) (C := RX5) (T := TX5) (N := 15) (ci := 5) h.1 h.2.1 h.2.2.2.2.1 zin_X5 h.2.2.2.1 h.2.2.2.2.2.2.1.1 hH.1 (zp 9 0) ((zw_at (Or.inr (Or.inr ⟨rfl, by omega⟩))).trans (congrArg (fun z => some (za G 9 0, z)) rfl)) rfl 14 (by omega) (va_Nw.use rfl (h.2.2.2.2.2.2.1.2.2.1 _ hl)) (fun _ h9 => h9) rfl hdg k0
theorem zun_5_14 (h : zE p s m args meth c cc nL own G) (hH : zH G S s H locs)  {ix : Nat} {v : Int}  {host : String} (hl : Cond.fieldLinkNest own ix RX5 (TX5 14).2.1 (TX5 14).2.2.1 host ∈ zNest) (hdg : decode cc pc = .ok (.putfield ix, 3)) (k0 : ∀ (H1 : Heap) (locs1 : List Loc), zH G (zs S 9 0 14 v) s H1 locs1 → W p l e R s m args below meth c H1 locs1 cells slots Q (F0 m (pc + 3) ls rest)) : W p l e R s m args below meth c H locs cells slots Q (F0 m pc ls (.long (zL v) :: .ref (za G 9 0) :: rest)) := va_putN (D := zD G) (C := RX5) (T := TX5) (N := 15) (ci := 5) (ty := .long) h.1 h.2.1 h.2.2.2.2.1 zin_X5 tyX5 tyX5_ok nmX5 h.2.2.2.1 h.2.2.2.2.2.2.1.1 hH.1 (zw_D h.2.2.2.2.2.2.2 S) hH.2 (zp 9 0) ((zw_at (Or.inr (Or.inr ⟨rfl, by omega⟩))).trans (congrArg (fun z => some (za G 9 0, z)) rfl)) rfl 14 (by omega) (va_Nw.use rfl (h.2.2.2.2.2.2.1.2.2.1 _ hl)) (fun _ h9 => h9) rfl (by decide +kernel) rfl rfl (Nat.le_of_ble_eq_true rfl) hdg (fun H1 locs1 hP _ hS => k0 H1 locs1 ⟨(zw_set8 (G := G) (S := S) (k := 9) (j := 0) (e := .inr (5, [.int (zI (S 9 0 0)), .ref (za G 9 1), .ref (za G 9 2), .ref (za G 9 3), .int (zI (S 9 0 4)), .ref (za G 9 4), .int (zI (S 9 0 6)), .ref (za G 9 5), .ref (za G 9 6), .int (zI (S 9 0 9)), .int (zI (S 9 0 10)), .int (zI (S 9 0 11)), .int (zI (S 9 0 12)), .int (zI (S 9 0 13)), .long (zL v)])) (i := 14) (v := v) (Or.inr rfl) (Or.inr (Or.inr ⟨rfl, by omega⟩)) (by rw [ze_mo]; simp only [zmo, zs_s, zs_x (S := S) (k := 9) (j := 0) (i := 14) (v := v) (show (0 : Int) ≠ 14 by omega), zs_x (S := S) (k := 9) (j := 0) (i := 14) (v := v) (show (4 : Int) ≠ 14 by omega), zs_x (S := S) (k := 9) (j := 0) (i := 14) (v := v) (show (6 : Int) ≠ 14 by omega), zs_x (S := S) (k := 9) (j := 0) (i := 14) (v := v) (show (9 : Int) ≠ 14 by omega), zs_x (S := S) (k := 9) (j := 0) (i := 14) (v := v) (show (10 : Int) ≠ 14 by omega), zs_x (S := S) (k := 9) (j := 0) (i := 14) (v := v) (show (11 : Int) ≠ 14 by omega), zs_x (S := S) (k := 9) (j := 0) (i := 14) (v := v) (show (12 : Int) ≠ 14 by omega), zs_x (S := S) (k := 9) (j := 0) (i := 14) (v := v) (show (13 : Int) ≠ 14 by omega)])) ▸ hP, hS⟩)
theorem zld_ar_mk (h : zE p s m args meth c cc nL own G) (hH : zH G S s H locs) {k : Nat} (hk : k < 8) {x : Int} (h0 : 0 ≤ x ∧ x < 10) (hdg : decode cc pc = .ok (.iaload, 1)) (k0 : W p l e R s m args below meth c H locs cells slots Q (F0 m (pc + 1) ls (.int (zI (S k 2 (x))) :: rest))) : W p l e R s m args below meth c H locs cells slots Q (F0 m pc ls (.int (zI x) :: .ref (za G k 2) :: rest)) := va_iald (n := 10) (f := (fun i : Nat => zI (S k 2 ((i : Int))))) h.1 h.2.1 h.2.2.2.2.2.2.1.1 hH.1 (zp k 2) 0 ((zw_at (Or.inl ⟨hk, by omega⟩)).trans (congrArg (fun z => some (za G k 2, z)) (ze_pr hk))) rfl (zI_in h0.1 (by omega) (by omega)) hdg (by show W p l e R s m args below meth c H locs cells slots Q (F0 m (pc + 1) ls (.int (zI (S k 2 (((zI x).toNatClampNeg : Int)))) :: rest)); rw [zI_clamp h0.1 (by omega)]; exact k0)
theorem zst_ar_mk (h : zE p s m args meth c cc nL own G) (hH : zH G S s H locs) {k : Nat} (hk : k < 8) {x v : Int} (h0 : 0 ≤ x ∧ x < 10) (hdg : decode cc pc = .ok (.iastore, 1)) (k0 : ∀ (H1 : Heap) (locs1 : List Loc), zH G (zs S k 2 (x) v) s H1 locs1 → W p l e R s m args below meth c H1 locs1 cells slots Q (F0 m (pc + 1) ls rest)) : W p l e R s m args below meth c H locs cells slots Q (F0 m pc ls (.int (zI v) :: .int (zI x) :: .ref (za G k 2) :: rest)) := va_iast (n := 10) (f := (fun i : Nat => zI (S k 2 ((i : Int))))) h.1 h.2.1 h.2.2.2.2.2.2.1.1 hH.1 (zw_D h.2.2.2.2.2.2.2 S) hH.2 (zp k 2) 0 ((zw_at (Or.inl ⟨hk, by omega⟩)).trans (congrArg (fun z => some (za G k 2, z)) (ze_pr hk))) rfl (zI_in h0.1 (by omega) (by omega)) hdg (fun H1 locs1 hP _ hS => k0 H1 locs1 ⟨(zw_setM (G := G) (S := S) (k := k) (j := 2) (i := x) (v := v) (e := .inl (zcI G, 10, .inl (upd (fun i : Nat => zI (S k 2 ((i : Int)))) (zI x).toNatClampNeg (zI v)))) hk (by omega) (by rw [ze_pr hk]; simp only [zpr]; exact congrArg (fun z => Sum.inl (zcI G, 10, Sum.inl z)) (zs_arr (f := (fun y : Int => y)) (S := S) (k := k) (j := 2) (v := v) h0.1 (show x ≤ 2147483647 by omega) (fun _ _ hxy => by omega)).symm)) ▸ hP, hS⟩)
theorem zln_ar_mk (h : zE p s m args meth c cc nL own G) (hH : zH G S s H locs) {k : Nat} (hk : k < 8) (hdg : decode cc pc = .ok (.arraylength, 1)) (k0 : W p l e R s m args below meth c H locs cells slots Q (F0 m (pc + 1) ls (.int (zI 10) :: rest))) : W p l e R s m args below meth c H locs cells slots Q (F0 m pc ls (.ref (za G k 2) :: rest)) := va_alen (x := (10, .inl (fun i : Nat => zI (S k 2 ((i : Int)))))) h.1 h.2.1 h.2.2.2.2.2.2.1.1 hH.1 (zp k 2) 0 ((zw_at (Or.inl ⟨hk, by omega⟩)).trans (congrArg (fun z => some (za G k 2, z)) (ze_pr hk))) rfl (zI_nat 10) hdg k0
theorem zld_ar_de (h : zE p s m args meth c cc nL own G) (hH : zH G S s H locs) {k : Nat} (hk : k < 8) {x : Int} (h0 : 0 ≤ x ∧ x < 8) (hdg : decode cc pc = .ok (.iaload, 1)) (k0 : W p l e R s m args below meth c H locs cells slots Q (F0 m (pc + 1) ls (.int (zI (S k 0 (5 + 5 * x))) :: rest))) : W p l e R s m args below meth c H locs cells slots Q (F0 m pc ls (.int (zI x) :: .ref (za G k 3) :: rest)) := va_iald (n := 8) (f := (fun i : Nat => zI (S k 0 (5 + 5 * (i : Int))))) h.1 h.2.1 h.2.2.2.2.2.2.1.1 hH.1 (zp k 3) 0 ((zw_at (Or.inl ⟨hk, by omega⟩)).trans (congrArg (fun z => some (za G k 3, z)) (ze_pr hk))) rfl (zI_in h0.1 (by omega) (by omega)) hdg (by show W p l e R s m args below meth c H locs cells slots Q (F0 m (pc + 1) ls (.int (zI (S k 0 (5 + 5 * ((zI x).toNatClampNeg : Int)))) :: rest)); rw [zI_clamp h0.1 (by omega)]; exact k0)
theorem zst_ar_de (h : zE p s m args meth c cc nL own G) (hH : zH G S s H locs) {k : Nat} (hk : k < 8) {x v : Int} (h0 : 0 ≤ x ∧ x < 8) (hdg : decode cc pc = .ok (.iastore, 1)) (k0 : ∀ (H1 : Heap) (locs1 : List Loc), zH G (zs S k 0 (5 + 5 * x) v) s H1 locs1 → W p l e R s m args below meth c H1 locs1 cells slots Q (F0 m (pc + 1) ls rest)) : W p l e R s m args below meth c H locs cells slots Q (F0 m pc ls (.int (zI v) :: .int (zI x) :: .ref (za G k 3) :: rest)) := va_iast (n := 8) (f := (fun i : Nat => zI (S k 0 (5 + 5 * (i : Int))))) h.1 h.2.1 h.2.2.2.2.2.2.1.1 hH.1 (zw_D h.2.2.2.2.2.2.2 S) hH.2 (zp k 3) 0 ((zw_at (Or.inl ⟨hk, by omega⟩)).trans (congrArg (fun z => some (za G k 3, z)) (ze_pr hk))) rfl (zI_in h0.1 (by omega) (by omega)) hdg (fun H1 locs1 hP _ hS => k0 H1 locs1 ⟨(zw_setA (G := G) (S := S) (k := k) (z := x) (w := 0) (i := 5 + 5 * x) (v := v) (e := .inl (zcI G, 8, .inl (upd (fun i : Nat => zI (S k 0 (5 + 5 * (i : Int)))) (zI x).toNatClampNeg (zI v)))) hk (by omega) h0.1 (by omega) (by rw [ze_pr hk]; simp only [zpr]; exact congrArg (fun z => Sum.inl (zcI G, 8, Sum.inl z)) (zs_arr (f := (fun y : Int => 5 + 5 * y)) (S := S) (k := k) (j := 0) (v := v) h0.1 (show x ≤ 2147483647 by omega) (fun _ _ hxy => by omega)).symm)) ▸ hP, hS⟩)
theorem zln_ar_de (h : zE p s m args meth c cc nL own G) (hH : zH G S s H locs) {k : Nat} (hk : k < 8) (hdg : decode cc pc = .ok (.arraylength, 1)) (k0 : W p l e R s m args below meth c H locs cells slots Q (F0 m (pc + 1) ls (.int (zI 8) :: rest))) : W p l e R s m args below meth c H locs cells slots Q (F0 m pc ls (.ref (za G k 3) :: rest)) := va_alen (x := (8, .inl (fun i : Nat => zI (S k 0 (5 + 5 * (i : Int)))))) h.1 h.2.1 h.2.2.2.2.2.2.1.1 hH.1 (zp k 3) 0 ((zw_at (Or.inl ⟨hk, by omega⟩)).trans (congrArg (fun z => some (za G k 3, z)) (ze_pr hk))) rfl (zI_nat 8) hdg k0
theorem zld_ar_wa (h : zE p s m args meth c cc nL own G) (hH : zH G S s H locs) {k : Nat} (hk : k < 8) {x : Int} (h0 : 0 ≤ x ∧ x < 8) (hdg : decode cc pc = .ok (.iaload, 1)) (k0 : W p l e R s m args below meth c H locs cells slots Q (F0 m (pc + 1) ls (.int (zI (S k 0 (5 + 5 * x + 1))) :: rest))) : W p l e R s m args below meth c H locs cells slots Q (F0 m pc ls (.int (zI x) :: .ref (za G k 4) :: rest)) := va_iald (n := 8) (f := (fun i : Nat => zI (S k 0 (5 + 5 * (i : Int) + 1)))) h.1 h.2.1 h.2.2.2.2.2.2.1.1 hH.1 (zp k 4) 0 ((zw_at (Or.inl ⟨hk, by omega⟩)).trans (congrArg (fun z => some (za G k 4, z)) (ze_pr hk))) rfl (zI_in h0.1 (by omega) (by omega)) hdg (by show W p l e R s m args below meth c H locs cells slots Q (F0 m (pc + 1) ls (.int (zI (S k 0 (5 + 5 * ((zI x).toNatClampNeg : Int) + 1))) :: rest)); rw [zI_clamp h0.1 (by omega)]; exact k0)
theorem zst_ar_wa (h : zE p s m args meth c cc nL own G) (hH : zH G S s H locs) {k : Nat} (hk : k < 8) {x v : Int} (h0 : 0 ≤ x ∧ x < 8) (hdg : decode cc pc = .ok (.iastore, 1)) (k0 : ∀ (H1 : Heap) (locs1 : List Loc), zH G (zs S k 0 (5 + 5 * x + 1) v) s H1 locs1 → W p l e R s m args below meth c H1 locs1 cells slots Q (F0 m (pc + 1) ls rest)) : W p l e R s m args below meth c H locs cells slots Q (F0 m pc ls (.int (zI v) :: .int (zI x) :: .ref (za G k 4) :: rest)) := va_iast (n := 8) (f := (fun i : Nat => zI (S k 0 (5 + 5 * (i : Int) + 1)))) h.1 h.2.1 h.2.2.2.2.2.2.1.1 hH.1 (zw_D h.2.2.2.2.2.2.2 S) hH.2 (zp k 4) 0 ((zw_at (Or.inl ⟨hk, by omega⟩)).trans (congrArg (fun z => some (za G k 4, z)) (ze_pr hk))) rfl (zI_in h0.1 (by omega) (by omega)) hdg (fun H1 locs1 hP _ hS => k0 H1 locs1 ⟨(zw_setA (G := G) (S := S) (k := k) (z := x) (w := 1) (i := 5 + 5 * x + 1) (v := v) (e := .inl (zcI G, 8, .inl (upd (fun i : Nat => zI (S k 0 (5 + 5 * (i : Int) + 1))) (zI x).toNatClampNeg (zI v)))) hk (by omega) h0.1 (by omega) (by rw [ze_pr hk]; simp only [zpr]; exact congrArg (fun z => Sum.inl (zcI G, 8, Sum.inl z)) (zs_arr (f := (fun y : Int => 5 + 5 * y + 1)) (S := S) (k := k) (j := 0) (v := v) h0.1 (show x ≤ 2147483647 by omega) (fun _ _ hxy => by omega)).symm)) ▸ hP, hS⟩)
theorem zln_ar_wa (h : zE p s m args meth c cc nL own G) (hH : zH G S s H locs) {k : Nat} (hk : k < 8) (hdg : decode cc pc = .ok (.arraylength, 1)) (k0 : W p l e R s m args below meth c H locs cells slots Q (F0 m (pc + 1) ls (.int (zI 8) :: rest))) : W p l e R s m args below meth c H locs cells slots Q (F0 m pc ls (.ref (za G k 4) :: rest)) := va_alen (x := (8, .inl (fun i : Nat => zI (S k 0 (5 + 5 * (i : Int) + 1))))) h.1 h.2.1 h.2.2.2.2.2.2.1.1 hH.1 (zp k 4) 0 ((zw_at (Or.inl ⟨hk, by omega⟩)).trans (congrArg (fun z => some (za G k 4, z)) (ze_pr hk))) rfl (zI_nat 8) hdg k0
theorem zld_ar_bu (h : zE p s m args meth c cc nL own G) (hH : zH G S s H locs) {k : Nat} (hk : k < 8) {x : Int} (h0 : 0 ≤ x ∧ x < 8) (hdg : decode cc pc = .ok (.iaload, 1)) (k0 : W p l e R s m args below meth c H locs cells slots Q (F0 m (pc + 1) ls (.int (zI (S k 0 (5 + 5 * x + 2))) :: rest))) : W p l e R s m args below meth c H locs cells slots Q (F0 m pc ls (.int (zI x) :: .ref (za G k 5) :: rest)) := va_iald (n := 8) (f := (fun i : Nat => zI (S k 0 (5 + 5 * (i : Int) + 2)))) h.1 h.2.1 h.2.2.2.2.2.2.1.1 hH.1 (zp k 5) 0 ((zw_at (Or.inl ⟨hk, by omega⟩)).trans (congrArg (fun z => some (za G k 5, z)) (ze_pr hk))) rfl (zI_in h0.1 (by omega) (by omega)) hdg (by show W p l e R s m args below meth c H locs cells slots Q (F0 m (pc + 1) ls (.int (zI (S k 0 (5 + 5 * ((zI x).toNatClampNeg : Int) + 2))) :: rest)); rw [zI_clamp h0.1 (by omega)]; exact k0)
theorem zst_ar_bu (h : zE p s m args meth c cc nL own G) (hH : zH G S s H locs) {k : Nat} (hk : k < 8) {x v : Int} (h0 : 0 ≤ x ∧ x < 8) (hdg : decode cc pc = .ok (.iastore, 1)) (k0 : ∀ (H1 : Heap) (locs1 : List Loc), zH G (zs S k 0 (5 + 5 * x + 2) v) s H1 locs1 → W p l e R s m args below meth c H1 locs1 cells slots Q (F0 m (pc + 1) ls rest)) : W p l e R s m args below meth c H locs cells slots Q (F0 m pc ls (.int (zI v) :: .int (zI x) :: .ref (za G k 5) :: rest)) := va_iast (n := 8) (f := (fun i : Nat => zI (S k 0 (5 + 5 * (i : Int) + 2)))) h.1 h.2.1 h.2.2.2.2.2.2.1.1 hH.1 (zw_D h.2.2.2.2.2.2.2 S) hH.2 (zp k 5) 0 ((zw_at (Or.inl ⟨hk, by omega⟩)).trans (congrArg (fun z => some (za G k 5, z)) (ze_pr hk))) rfl (zI_in h0.1 (by omega) (by omega)) hdg (fun H1 locs1 hP _ hS => k0 H1 locs1 ⟨(zw_setA (G := G) (S := S) (k := k) (z := x) (w := 2) (i := 5 + 5 * x + 2) (v := v) (e := .inl (zcI G, 8, .inl (upd (fun i : Nat => zI (S k 0 (5 + 5 * (i : Int) + 2))) (zI x).toNatClampNeg (zI v)))) hk (by omega) h0.1 (by omega) (by rw [ze_pr hk]; simp only [zpr]; exact congrArg (fun z => Sum.inl (zcI G, 8, Sum.inl z)) (zs_arr (f := (fun y : Int => 5 + 5 * y + 2)) (S := S) (k := k) (j := 0) (v := v) h0.1 (show x ≤ 2147483647 by omega) (fun _ _ hxy => by omega)).symm)) ▸ hP, hS⟩)
theorem zln_ar_bu (h : zE p s m args meth c cc nL own G) (hH : zH G S s H locs) {k : Nat} (hk : k < 8) (hdg : decode cc pc = .ok (.arraylength, 1)) (k0 : W p l e R s m args below meth c H locs cells slots Q (F0 m (pc + 1) ls (.int (zI 8) :: rest))) : W p l e R s m args below meth c H locs cells slots Q (F0 m pc ls (.ref (za G k 5) :: rest)) := va_alen (x := (8, .inl (fun i : Nat => zI (S k 0 (5 + 5 * (i : Int) + 2))))) h.1 h.2.1 h.2.2.2.2.2.2.1.1 hH.1 (zp k 5) 0 ((zw_at (Or.inl ⟨hk, by omega⟩)).trans (congrArg (fun z => some (za G k 5, z)) (ze_pr hk))) rfl (zI_nat 8) hdg k0
theorem zld_ar_ho (h : zE p s m args meth c cc nL own G) (hH : zH G S s H locs) {k : Nat} (hk : k < 8) {x : Int} (h0 : 0 ≤ x ∧ x < 8) (hdg : decode cc pc = .ok (.iaload, 1)) (k0 : W p l e R s m args below meth c H locs cells slots Q (F0 m (pc + 1) ls (.int (zI (S k 0 (5 + 5 * x + 3))) :: rest))) : W p l e R s m args below meth c H locs cells slots Q (F0 m pc ls (.int (zI x) :: .ref (za G k 6) :: rest)) := va_iald (n := 8) (f := (fun i : Nat => zI (S k 0 (5 + 5 * (i : Int) + 3)))) h.1 h.2.1 h.2.2.2.2.2.2.1.1 hH.1 (zp k 6) 0 ((zw_at (Or.inl ⟨hk, by omega⟩)).trans (congrArg (fun z => some (za G k 6, z)) (ze_pr hk))) rfl (zI_in h0.1 (by omega) (by omega)) hdg (by show W p l e R s m args below meth c H locs cells slots Q (F0 m (pc + 1) ls (.int (zI (S k 0 (5 + 5 * ((zI x).toNatClampNeg : Int) + 3))) :: rest)); rw [zI_clamp h0.1 (by omega)]; exact k0)
theorem zst_ar_ho (h : zE p s m args meth c cc nL own G) (hH : zH G S s H locs) {k : Nat} (hk : k < 8) {x v : Int} (h0 : 0 ≤ x ∧ x < 8) (hdg : decode cc pc = .ok (.iastore, 1)) (k0 : ∀ (H1 : Heap) (locs1 : List Loc), zH G (zs S k 0 (5 + 5 * x + 3) v) s H1 locs1 → W p l e R s m args below meth c H1 locs1 cells slots Q (F0 m (pc + 1) ls rest)) : W p l e R s m args below meth c H locs cells slots Q (F0 m pc ls (.int (zI v) :: .int (zI x) :: .ref (za G k 6) :: rest)) := va_iast (n := 8) (f := (fun i : Nat => zI (S k 0 (5 + 5 * (i : Int) + 3)))) h.1 h.2.1 h.2.2.2.2.2.2.1.1 hH.1 (zw_D h.2.2.2.2.2.2.2 S) hH.2 (zp k 6) 0 ((zw_at (Or.inl ⟨hk, by omega⟩)).trans (congrArg (fun z => some (za G k 6, z)) (ze_pr hk))) rfl (zI_in h0.1 (by omega) (by omega)) hdg (fun H1 locs1 hP _ hS => k0 H1 locs1 ⟨(zw_setA (G := G) (S := S) (k := k) (z := x) (w := 3) (i := 5 + 5 * x + 3) (v := v) (e := .inl (zcI G, 8, .inl (upd (fun i : Nat => zI (S k 0 (5 + 5 * (i : Int) + 3))) (zI x).toNatClampNeg (zI v)))) hk (by omega) h0.1 (by omega) (by rw [ze_pr hk]; simp only [zpr]; exact congrArg (fun z => Sum.inl (zcI G, 8, Sum.inl z)) (zs_arr (f := (fun y : Int => 5 + 5 * y + 3)) (S := S) (k := k) (j := 0) (v := v) h0.1 (show x ≤ 2147483647 by omega) (fun _ _ hxy => by omega)).symm)) ▸ hP, hS⟩)
theorem zln_ar_ho (h : zE p s m args meth c cc nL own G) (hH : zH G S s H locs) {k : Nat} (hk : k < 8) (hdg : decode cc pc = .ok (.arraylength, 1)) (k0 : W p l e R s m args below meth c H locs cells slots Q (F0 m (pc + 1) ls (.int (zI 8) :: rest))) : W p l e R s m args below meth c H locs cells slots Q (F0 m pc ls (.ref (za G k 6) :: rest)) := va_alen (x := (8, .inl (fun i : Nat => zI (S k 0 (5 + 5 * (i : Int) + 3))))) h.1 h.2.1 h.2.2.2.2.2.2.1.1 hH.1 (zp k 6) 0 ((zw_at (Or.inl ⟨hk, by omega⟩)).trans (congrArg (fun z => some (za G k 6, z)) (ze_pr hk))) rfl (zI_nat 8) hdg k0
theorem zld_ar_nb (h : zE p s m args meth c cc nL own G) (hH : zH G S s H locs) {k : Nat} (hk : k < 8) {x : Int} (h0 : 0 ≤ x ∧ x < 8) (hdg : decode cc pc = .ok (.iaload, 1)) (k0 : W p l e R s m args below meth c H locs cells slots Q (F0 m (pc + 1) ls (.int (zI (S k 0 (5 + 5 * x + 4))) :: rest))) : W p l e R s m args below meth c H locs cells slots Q (F0 m pc ls (.int (zI x) :: .ref (za G k 7) :: rest)) := va_iald (n := 8) (f := (fun i : Nat => zI (S k 0 (5 + 5 * (i : Int) + 4)))) h.1 h.2.1 h.2.2.2.2.2.2.1.1 hH.1 (zp k 7) 0 ((zw_at (Or.inl ⟨hk, by omega⟩)).trans (congrArg (fun z => some (za G k 7, z)) (ze_pr hk))) rfl (zI_in h0.1 (by omega) (by omega)) hdg (by show W p l e R s m args below meth c H locs cells slots Q (F0 m (pc + 1) ls (.int (zI (S k 0 (5 + 5 * ((zI x).toNatClampNeg : Int) + 4))) :: rest)); rw [zI_clamp h0.1 (by omega)]; exact k0)
theorem zst_ar_nb (h : zE p s m args meth c cc nL own G) (hH : zH G S s H locs) {k : Nat} (hk : k < 8) {x v : Int} (h0 : 0 ≤ x ∧ x < 8) (hdg : decode cc pc = .ok (.iastore, 1)) (k0 : ∀ (H1 : Heap) (locs1 : List Loc), zH G (zs S k 0 (5 + 5 * x + 4) v) s H1 locs1 → W p l e R s m args below meth c H1 locs1 cells slots Q (F0 m (pc + 1) ls rest)) : W p l e R s m args below meth c H locs cells slots Q (F0 m pc ls (.int (zI v) :: .int (zI x) :: .ref (za G k 7) :: rest)) := va_iast (n := 8) (f := (fun i : Nat => zI (S k 0 (5 + 5 * (i : Int) + 4)))) h.1 h.2.1 h.2.2.2.2.2.2.1.1 hH.1 (zw_D h.2.2.2.2.2.2.2 S) hH.2 (zp k 7) 0 ((zw_at (Or.inl ⟨hk, by omega⟩)).trans (congrArg (fun z => some (za G k 7, z)) (ze_pr hk))) rfl (zI_in h0.1 (by omega) (by omega)) hdg (fun H1 locs1 hP _ hS => k0 H1 locs1 ⟨(zw_setA (G := G) (S := S) (k := k) (z := x) (w := 4) (i := 5 + 5 * x + 4) (v := v) (e := .inl (zcI G, 8, .inl (upd (fun i : Nat => zI (S k 0 (5 + 5 * (i : Int) + 4))) (zI x).toNatClampNeg (zI v)))) hk (by omega) h0.1 (by omega) (by rw [ze_pr hk]; simp only [zpr]; exact congrArg (fun z => Sum.inl (zcI G, 8, Sum.inl z)) (zs_arr (f := (fun y : Int => 5 + 5 * y + 4)) (S := S) (k := k) (j := 0) (v := v) h0.1 (show x ≤ 2147483647 by omega) (fun _ _ hxy => by omega)).symm)) ▸ hP, hS⟩)
theorem zln_ar_nb (h : zE p s m args meth c cc nL own G) (hH : zH G S s H locs) {k : Nat} (hk : k < 8) (hdg : decode cc pc = .ok (.arraylength, 1)) (k0 : W p l e R s m args below meth c H locs cells slots Q (F0 m (pc + 1) ls (.int (zI 8) :: rest))) : W p l e R s m args below meth c H locs cells slots Q (F0 m pc ls (.ref (za G k 7) :: rest)) := va_alen (x := (8, .inl (fun i : Nat => zI (S k 0 (5 + 5 * (i : Int) + 4))))) h.1 h.2.1 h.2.2.2.2.2.2.1.1 hH.1 (zp k 7) 0 ((zw_at (Or.inl ⟨hk, by omega⟩)).trans (congrArg (fun z => some (za G k 7, z)) (ze_pr hk))) rfl (zI_nat 8) hdg k0
theorem zld_ar_so (h : zE p s m args meth c cc nL own G) (hH : zH G S s H locs) {k : Nat} (hk : k < 8) {x : Int} (h0 : 0 ≤ x ∧ x < 8) (hdg : decode cc pc = .ok (.iaload, 1)) (k0 : W p l e R s m args below meth c H locs cells slots Q (F0 m (pc + 1) ls (.int (zI (S k 8 (x))) :: rest))) : W p l e R s m args below meth c H locs cells slots Q (F0 m pc ls (.int (zI x) :: .ref (za G k 8) :: rest)) := va_iald (n := 8) (f := (fun i : Nat => zI (S k 8 ((i : Int))))) h.1 h.2.1 h.2.2.2.2.2.2.1.1 hH.1 (zp k 8) 0 ((zw_at (Or.inl ⟨hk, by omega⟩)).trans (congrArg (fun z => some (za G k 8, z)) (ze_pr hk))) rfl (zI_in h0.1 (by omega) (by omega)) hdg (by show W p l e R s m args below meth c H locs cells slots Q (F0 m (pc + 1) ls (.int (zI (S k 8 (((zI x).toNatClampNeg : Int)))) :: rest)); rw [zI_clamp h0.1 (by omega)]; exact k0)
theorem zst_ar_so (h : zE p s m args meth c cc nL own G) (hH : zH G S s H locs) {k : Nat} (hk : k < 8) {x v : Int} (h0 : 0 ≤ x ∧ x < 8) (hdg : decode cc pc = .ok (.iastore, 1)) (k0 : ∀ (H1 : Heap) (locs1 : List Loc), zH G (zs S k 8 (x) v) s H1 locs1 → W p l e R s m args below meth c H1 locs1 cells slots Q (F0 m (pc + 1) ls rest)) : W p l e R s m args below meth c H locs cells slots Q (F0 m pc ls (.int (zI v) :: .int (zI x) :: .ref (za G k 8) :: rest)) := va_iast (n := 8) (f := (fun i : Nat => zI (S k 8 ((i : Int))))) h.1 h.2.1 h.2.2.2.2.2.2.1.1 hH.1 (zw_D h.2.2.2.2.2.2.2 S) hH.2 (zp k 8) 0 ((zw_at (Or.inl ⟨hk, by omega⟩)).trans (congrArg (fun z => some (za G k 8, z)) (ze_pr hk))) rfl (zI_in h0.1 (by omega) (by omega)) hdg (fun H1 locs1 hP _ hS => k0 H1 locs1 ⟨(zw_setM (G := G) (S := S) (k := k) (j := 8) (i := x) (v := v) (e := .inl (zcI G, 8, .inl (upd (fun i : Nat => zI (S k 8 ((i : Int)))) (zI x).toNatClampNeg (zI v)))) hk (by omega) (by rw [ze_pr hk]; simp only [zpr]; exact congrArg (fun z => Sum.inl (zcI G, 8, Sum.inl z)) (zs_arr (f := (fun y : Int => y)) (S := S) (k := k) (j := 8) (v := v) h0.1 (show x ≤ 2147483647 by omega) (fun _ _ hxy => by omega)).symm)) ▸ hP, hS⟩)
theorem zln_ar_so (h : zE p s m args meth c cc nL own G) (hH : zH G S s H locs) {k : Nat} (hk : k < 8) (hdg : decode cc pc = .ok (.arraylength, 1)) (k0 : W p l e R s m args below meth c H locs cells slots Q (F0 m (pc + 1) ls (.int (zI 8) :: rest))) : W p l e R s m args below meth c H locs cells slots Q (F0 m pc ls (.ref (za G k 8) :: rest)) := va_alen (x := (8, .inl (fun i : Nat => zI (S k 8 ((i : Int)))))) h.1 h.2.1 h.2.2.2.2.2.2.1.1 hH.1 (zp k 8) 0 ((zw_at (Or.inl ⟨hk, by omega⟩)).trans (congrArg (fun z => some (za G k 8, z)) (ze_pr hk))) rfl (zI_nat 8) hdg k0
theorem zld_ar_bf (h : zE p s m args meth c cc nL own G) (hH : zH G S s H locs)  {x : Int} (h0 : 0 ≤ x ∧ x < 60) (hdg : decode cc pc = .ok (.iaload, 1)) (k0 : W p l e R s m args below meth c H locs cells slots Q (F0 m (pc + 1) ls (.int (zI (S 8 4 (x))) :: rest))) : W p l e R s m args below meth c H locs cells slots Q (F0 m pc ls (.int (zI x) :: .ref (za G 8 4) :: rest)) := va_iald (n := 60) (f := (fun i : Nat => zI (S 8 4 ((i : Int))))) h.1 h.2.1 h.2.2.2.2.2.2.1.1 hH.1 (zp 8 4) 0 ((zw_at (Or.inr (Or.inl ⟨rfl, by omega⟩))).trans (congrArg (fun z => some (za G 8 4, z)) rfl)) rfl (zI_in h0.1 (by omega) (by omega)) hdg (by show W p l e R s m args below meth c H locs cells slots Q (F0 m (pc + 1) ls (.int (zI (S 8 4 (((zI x).toNatClampNeg : Int)))) :: rest)); rw [zI_clamp h0.1 (by omega)]; exact k0)
theorem zst_ar_bf (h : zE p s m args meth c cc nL own G) (hH : zH G S s H locs)  {x v : Int} (h0 : 0 ≤ x ∧ x < 60) (hdg : decode cc pc = .ok (.iastore, 1)) (k0 : ∀ (H1 : Heap) (locs1 : List Loc), zH G (zs S 8 4 (x) v) s H1 locs1 → W p l e R s m args below meth c H1 locs1 cells slots Q (F0 m (pc + 1) ls rest)) : W p l e R s m args below meth c H locs cells slots Q (F0 m pc ls (.int (zI v) :: .int (zI x) :: .ref (za G 8 4) :: rest)) := va_iast (n := 60) (f := (fun i : Nat => zI (S 8 4 ((i : Int))))) h.1 h.2.1 h.2.2.2.2.2.2.1.1 hH.1 (zw_D h.2.2.2.2.2.2.2 S) hH.2 (zp 8 4) 0 ((zw_at (Or.inr (Or.inl ⟨rfl, by omega⟩))).trans (congrArg (fun z => some (za G 8 4, z)) rfl)) rfl (zI_in h0.1 (by omega) (by omega)) hdg (fun H1 locs1 hP _ hS => k0 H1 locs1 ⟨(zw_set8 (G := G) (S := S) (k := 8) (j := 4) (i := x) (v := v) (e := .inl (zcI G, 60, .inl (upd (fun i : Nat => zI (S 8 4 ((i : Int)))) (zI x).toNatClampNeg (zI v)))) (Or.inl rfl) (Or.inr (Or.inl ⟨rfl, by omega⟩)) (by rw [ze_cl]; simp only [zcl]; exact congrArg (fun z => Sum.inl (zcI G, 60, Sum.inl z)) (zs_arr (f := (fun y : Int => y)) (S := S) (k := 8) (j := 4) (v := v) h0.1 (show x ≤ 2147483647 by omega) (fun _ _ hxy => by omega)).symm)) ▸ hP, hS⟩)
theorem zln_ar_bf (h : zE p s m args meth c cc nL own G) (hH : zH G S s H locs)  (hdg : decode cc pc = .ok (.arraylength, 1)) (k0 : W p l e R s m args below meth c H locs cells slots Q (F0 m (pc + 1) ls (.int (zI 60) :: rest))) : W p l e R s m args below meth c H locs cells slots Q (F0 m pc ls (.ref (za G 8 4) :: rest)) := va_alen (x := (60, .inl (fun i : Nat => zI (S 8 4 ((i : Int)))))) h.1 h.2.1 h.2.2.2.2.2.2.1.1 hH.1 (zp 8 4) 0 ((zw_at (Or.inr (Or.inl ⟨rfl, by omega⟩))).trans (congrArg (fun z => some (za G 8 4, z)) rfl)) rfl (zI_nat 60) hdg k0
theorem zld_ar_s (h : zE p s m args meth c cc nL own G) (hH : zH G S s H locs)  {x : Int} (h0 : 0 ≤ x ∧ x < 45) (hdg : decode cc pc = .ok (.iaload, 1)) (k0 : W p l e R s m args below meth c H locs cells slots Q (F0 m (pc + 1) ls (.int (zI (S 9 1 (x))) :: rest))) : W p l e R s m args below meth c H locs cells slots Q (F0 m pc ls (.int (zI x) :: .ref (za G 9 1) :: rest)) := va_iald (n := 45) (f := (fun i : Nat => zI (S 9 1 ((i : Int))))) h.1 h.2.1 h.2.2.2.2.2.2.1.1 hH.1 (zp 9 1) 0 ((zw_at (Or.inr (Or.inr ⟨rfl, by omega⟩))).trans (congrArg (fun z => some (za G 9 1, z)) rfl)) rfl (zI_in h0.1 (by omega) (by omega)) hdg (by show W p l e R s m args below meth c H locs cells slots Q (F0 m (pc + 1) ls (.int (zI (S 9 1 (((zI x).toNatClampNeg : Int)))) :: rest)); rw [zI_clamp h0.1 (by omega)]; exact k0)
theorem zst_ar_s (h : zE p s m args meth c cc nL own G) (hH : zH G S s H locs)  {x v : Int} (h0 : 0 ≤ x ∧ x < 45) (hdg : decode cc pc = .ok (.iastore, 1)) (k0 : ∀ (H1 : Heap) (locs1 : List Loc), zH G (zs S 9 1 (x) v) s H1 locs1 → W p l e R s m args below meth c H1 locs1 cells slots Q (F0 m (pc + 1) ls rest)) : W p l e R s m args below meth c H locs cells slots Q (F0 m pc ls (.int (zI v) :: .int (zI x) :: .ref (za G 9 1) :: rest)) := va_iast (n := 45) (f := (fun i : Nat => zI (S 9 1 ((i : Int))))) h.1 h.2.1 h.2.2.2.2.2.2.1.1 hH.1 (zw_D h.2.2.2.2.2.2.2 S) hH.2 (zp 9 1) 0 ((zw_at (Or.inr (Or.inr ⟨rfl, by omega⟩))).trans (congrArg (fun z => some (za G 9 1, z)) rfl)) rfl (zI_in h0.1 (by omega) (by omega)) hdg (fun H1 locs1 hP _ hS => k0 H1 locs1 ⟨(zw_set8 (G := G) (S := S) (k := 9) (j := 1) (i := x) (v := v) (e := .inl (zcI G, 45, .inl (upd (fun i : Nat => zI (S 9 1 ((i : Int)))) (zI x).toNatClampNeg (zI v)))) (Or.inr rfl) (Or.inr (Or.inr ⟨rfl, by omega⟩)) (by rw [ze_mo]; simp only [zmo]; exact congrArg (fun z => Sum.inl (zcI G, 45, Sum.inl z)) (zs_arr (f := (fun y : Int => y)) (S := S) (k := 9) (j := 1) (v := v) h0.1 (show x ≤ 2147483647 by omega) (fun _ _ hxy => by omega)).symm)) ▸ hP, hS⟩)
theorem zln_ar_s (h : zE p s m args meth c cc nL own G) (hH : zH G S s H locs)  (hdg : decode cc pc = .ok (.arraylength, 1)) (k0 : W p l e R s m args below meth c H locs cells slots Q (F0 m (pc + 1) ls (.int (zI 45) :: rest))) : W p l e R s m args below meth c H locs cells slots Q (F0 m pc ls (.ref (za G 9 1) :: rest)) := va_alen (x := (45, .inl (fun i : Nat => zI (S 9 1 ((i : Int)))))) h.1 h.2.1 h.2.2.2.2.2.2.1.1 hH.1 (zp 9 1) 0 ((zw_at (Or.inr (Or.inr ⟨rfl, by omega⟩))).trans (congrArg (fun z => some (za G 9 1, z)) rfl)) rfl (zI_nat 45) hdg k0
theorem zld_ar_as (h : zE p s m args meth c cc nL own G) (hH : zH G S s H locs)  {x : Int} (h0 : 0 ≤ x ∧ x < 45) (hdg : decode cc pc = .ok (.iaload, 1)) (k0 : W p l e R s m args below meth c H locs cells slots Q (F0 m (pc + 1) ls (.int (zI (S 9 2 (x))) :: rest))) : W p l e R s m args below meth c H locs cells slots Q (F0 m pc ls (.int (zI x) :: .ref (za G 9 2) :: rest)) := va_iald (n := 45) (f := (fun i : Nat => zI (S 9 2 ((i : Int))))) h.1 h.2.1 h.2.2.2.2.2.2.1.1 hH.1 (zp 9 2) 0 ((zw_at (Or.inr (Or.inr ⟨rfl, by omega⟩))).trans (congrArg (fun z => some (za G 9 2, z)) rfl)) rfl (zI_in h0.1 (by omega) (by omega)) hdg (by show W p l e R s m args below meth c H locs cells slots Q (F0 m (pc + 1) ls (.int (zI (S 9 2 (((zI x).toNatClampNeg : Int)))) :: rest)); rw [zI_clamp h0.1 (by omega)]; exact k0)
theorem zst_ar_as (h : zE p s m args meth c cc nL own G) (hH : zH G S s H locs)  {x v : Int} (h0 : 0 ≤ x ∧ x < 45) (hdg : decode cc pc = .ok (.iastore, 1)) (k0 : ∀ (H1 : Heap) (locs1 : List Loc), zH G (zs S 9 2 (x) v) s H1 locs1 → W p l e R s m args below meth c H1 locs1 cells slots Q (F0 m (pc + 1) ls rest)) : W p l e R s m args below meth c H locs cells slots Q (F0 m pc ls (.int (zI v) :: .int (zI x) :: .ref (za G 9 2) :: rest)) := va_iast (n := 45) (f := (fun i : Nat => zI (S 9 2 ((i : Int))))) h.1 h.2.1 h.2.2.2.2.2.2.1.1 hH.1 (zw_D h.2.2.2.2.2.2.2 S) hH.2 (zp 9 2) 0 ((zw_at (Or.inr (Or.inr ⟨rfl, by omega⟩))).trans (congrArg (fun z => some (za G 9 2, z)) rfl)) rfl (zI_in h0.1 (by omega) (by omega)) hdg (fun H1 locs1 hP _ hS => k0 H1 locs1 ⟨(zw_set8 (G := G) (S := S) (k := 9) (j := 2) (i := x) (v := v) (e := .inl (zcI G, 45, .inl (upd (fun i : Nat => zI (S 9 2 ((i : Int)))) (zI x).toNatClampNeg (zI v)))) (Or.inr rfl) (Or.inr (Or.inr ⟨rfl, by omega⟩)) (by rw [ze_mo]; simp only [zmo]; exact congrArg (fun z => Sum.inl (zcI G, 45, Sum.inl z)) (zs_arr (f := (fun y : Int => y)) (S := S) (k := 9) (j := 2) (v := v) h0.1 (show x ≤ 2147483647 by omega) (fun _ _ hxy => by omega)).symm)) ▸ hP, hS⟩)
theorem zln_ar_as (h : zE p s m args meth c cc nL own G) (hH : zH G S s H locs)  (hdg : decode cc pc = .ok (.arraylength, 1)) (k0 : W p l e R s m args below meth c H locs cells slots Q (F0 m (pc + 1) ls (.int (zI 45) :: rest))) : W p l e R s m args below meth c H locs cells slots Q (F0 m pc ls (.ref (za G 9 2) :: rest)) := va_alen (x := (45, .inl (fun i : Nat => zI (S 9 2 ((i : Int)))))) h.1 h.2.1 h.2.2.2.2.2.2.1.1 hH.1 (zp 9 2) 0 ((zw_at (Or.inr (Or.inr ⟨rfl, by omega⟩))).trans (congrArg (fun z => some (za G 9 2, z)) rfl)) rfl (zI_nat 45) hdg k0
theorem zld_ar_sv (h : zE p s m args meth c cc nL own G) (hH : zH G S s H locs)  {x : Int} (h0 : 0 ≤ x ∧ x < 270) (hdg : decode cc pc = .ok (.iaload, 1)) (k0 : W p l e R s m args below meth c H locs cells slots Q (F0 m (pc + 1) ls (.int (zI (S 9 3 (x))) :: rest))) : W p l e R s m args below meth c H locs cells slots Q (F0 m pc ls (.int (zI x) :: .ref (za G 9 3) :: rest)) := va_iald (n := 270) (f := (fun i : Nat => zI (S 9 3 ((i : Int))))) h.1 h.2.1 h.2.2.2.2.2.2.1.1 hH.1 (zp 9 3) 0 ((zw_at (Or.inr (Or.inr ⟨rfl, by omega⟩))).trans (congrArg (fun z => some (za G 9 3, z)) rfl)) rfl (zI_in h0.1 (by omega) (by omega)) hdg (by show W p l e R s m args below meth c H locs cells slots Q (F0 m (pc + 1) ls (.int (zI (S 9 3 (((zI x).toNatClampNeg : Int)))) :: rest)); rw [zI_clamp h0.1 (by omega)]; exact k0)
theorem zst_ar_sv (h : zE p s m args meth c cc nL own G) (hH : zH G S s H locs)  {x v : Int} (h0 : 0 ≤ x ∧ x < 270) (hdg : decode cc pc = .ok (.iastore, 1)) (k0 : ∀ (H1 : Heap) (locs1 : List Loc), zH G (zs S 9 3 (x) v) s H1 locs1 → W p l e R s m args below meth c H1 locs1 cells slots Q (F0 m (pc + 1) ls rest)) : W p l e R s m args below meth c H locs cells slots Q (F0 m pc ls (.int (zI v) :: .int (zI x) :: .ref (za G 9 3) :: rest)) := va_iast (n := 270) (f := (fun i : Nat => zI (S 9 3 ((i : Int))))) h.1 h.2.1 h.2.2.2.2.2.2.1.1 hH.1 (zw_D h.2.2.2.2.2.2.2 S) hH.2 (zp 9 3) 0 ((zw_at (Or.inr (Or.inr ⟨rfl, by omega⟩))).trans (congrArg (fun z => some (za G 9 3, z)) rfl)) rfl (zI_in h0.1 (by omega) (by omega)) hdg (fun H1 locs1 hP _ hS => k0 H1 locs1 ⟨(zw_set8 (G := G) (S := S) (k := 9) (j := 3) (i := x) (v := v) (e := .inl (zcI G, 270, .inl (upd (fun i : Nat => zI (S 9 3 ((i : Int)))) (zI x).toNatClampNeg (zI v)))) (Or.inr rfl) (Or.inr (Or.inr ⟨rfl, by omega⟩)) (by rw [ze_mo]; simp only [zmo]; exact congrArg (fun z => Sum.inl (zcI G, 270, Sum.inl z)) (zs_arr (f := (fun y : Int => y)) (S := S) (k := 9) (j := 3) (v := v) h0.1 (show x ≤ 2147483647 by omega) (fun _ _ hxy => by omega)).symm)) ▸ hP, hS⟩)
theorem zln_ar_sv (h : zE p s m args meth c cc nL own G) (hH : zH G S s H locs)  (hdg : decode cc pc = .ok (.arraylength, 1)) (k0 : W p l e R s m args below meth c H locs cells slots Q (F0 m (pc + 1) ls (.int (zI 270) :: rest))) : W p l e R s m args below meth c H locs cells slots Q (F0 m pc ls (.ref (za G 9 3) :: rest)) := va_alen (x := (270, .inl (fun i : Nat => zI (S 9 3 ((i : Int)))))) h.1 h.2.1 h.2.2.2.2.2.2.1.1 hH.1 (zp 9 3) 0 ((zw_at (Or.inr (Or.inr ⟨rfl, by omega⟩))).trans (congrArg (fun z => some (za G 9 3, z)) rfl)) rfl (zI_nat 270) hdg k0
theorem zld_ar_tx (h : zE p s m args meth c cc nL own G) (hH : zH G S s H locs)  {x : Int} (h0 : 0 ≤ x ∧ x < 60) (hdg : decode cc pc = .ok (.iaload, 1)) (k0 : W p l e R s m args below meth c H locs cells slots Q (F0 m (pc + 1) ls (.int (zI (S 9 4 (x))) :: rest))) : W p l e R s m args below meth c H locs cells slots Q (F0 m pc ls (.int (zI x) :: .ref (za G 9 4) :: rest)) := va_iald (n := 60) (f := (fun i : Nat => zI (S 9 4 ((i : Int))))) h.1 h.2.1 h.2.2.2.2.2.2.1.1 hH.1 (zp 9 4) 0 ((zw_at (Or.inr (Or.inr ⟨rfl, by omega⟩))).trans (congrArg (fun z => some (za G 9 4, z)) rfl)) rfl (zI_in h0.1 (by omega) (by omega)) hdg (by show W p l e R s m args below meth c H locs cells slots Q (F0 m (pc + 1) ls (.int (zI (S 9 4 (((zI x).toNatClampNeg : Int)))) :: rest)); rw [zI_clamp h0.1 (by omega)]; exact k0)
theorem zst_ar_tx (h : zE p s m args meth c cc nL own G) (hH : zH G S s H locs)  {x v : Int} (h0 : 0 ≤ x ∧ x < 60) (hdg : decode cc pc = .ok (.iastore, 1)) (k0 : ∀ (H1 : Heap) (locs1 : List Loc), zH G (zs S 9 4 (x) v) s H1 locs1 → W p l e R s m args below meth c H1 locs1 cells slots Q (F0 m (pc + 1) ls rest)) : W p l e R s m args below meth c H locs cells slots Q (F0 m pc ls (.int (zI v) :: .int (zI x) :: .ref (za G 9 4) :: rest)) := va_iast (n := 60) (f := (fun i : Nat => zI (S 9 4 ((i : Int))))) h.1 h.2.1 h.2.2.2.2.2.2.1.1 hH.1 (zw_D h.2.2.2.2.2.2.2 S) hH.2 (zp 9 4) 0 ((zw_at (Or.inr (Or.inr ⟨rfl, by omega⟩))).trans (congrArg (fun z => some (za G 9 4, z)) rfl)) rfl (zI_in h0.1 (by omega) (by omega)) hdg (fun H1 locs1 hP _ hS => k0 H1 locs1 ⟨(zw_set8 (G := G) (S := S) (k := 9) (j := 4) (i := x) (v := v) (e := .inl (zcI G, 60, .inl (upd (fun i : Nat => zI (S 9 4 ((i : Int)))) (zI x).toNatClampNeg (zI v)))) (Or.inr rfl) (Or.inr (Or.inr ⟨rfl, by omega⟩)) (by rw [ze_mo]; simp only [zmo]; exact congrArg (fun z => Sum.inl (zcI G, 60, Sum.inl z)) (zs_arr (f := (fun y : Int => y)) (S := S) (k := 9) (j := 4) (v := v) h0.1 (show x ≤ 2147483647 by omega) (fun _ _ hxy => by omega)).symm)) ▸ hP, hS⟩)
theorem zln_ar_tx (h : zE p s m args meth c cc nL own G) (hH : zH G S s H locs)  (hdg : decode cc pc = .ok (.arraylength, 1)) (k0 : W p l e R s m args below meth c H locs cells slots Q (F0 m (pc + 1) ls (.int (zI 60) :: rest))) : W p l e R s m args below meth c H locs cells slots Q (F0 m pc ls (.ref (za G 9 4) :: rest)) := va_alen (x := (60, .inl (fun i : Nat => zI (S 9 4 ((i : Int)))))) h.1 h.2.1 h.2.2.2.2.2.2.1.1 hH.1 (zp 9 4) 0 ((zw_at (Or.inr (Or.inr ⟨rfl, by omega⟩))).trans (congrArg (fun z => some (za G 9 4, z)) rfl)) rfl (zI_nat 60) hdg k0
theorem zld_ar_mm (h : zE p s m args meth c cc nL own G) (hH : zH G S s H locs)  {x : Int} (h0 : 0 ≤ x ∧ x < 10) (hdg : decode cc pc = .ok (.iaload, 1)) (k0 : W p l e R s m args below meth c H locs cells slots Q (F0 m (pc + 1) ls (.int (zI (S 9 5 (x))) :: rest))) : W p l e R s m args below meth c H locs cells slots Q (F0 m pc ls (.int (zI x) :: .ref (za G 9 5) :: rest)) := va_iald (n := 10) (f := (fun i : Nat => zI (S 9 5 ((i : Int))))) h.1 h.2.1 h.2.2.2.2.2.2.1.1 hH.1 (zp 9 5) 0 ((zw_at (Or.inr (Or.inr ⟨rfl, by omega⟩))).trans (congrArg (fun z => some (za G 9 5, z)) rfl)) rfl (zI_in h0.1 (by omega) (by omega)) hdg (by show W p l e R s m args below meth c H locs cells slots Q (F0 m (pc + 1) ls (.int (zI (S 9 5 (((zI x).toNatClampNeg : Int)))) :: rest)); rw [zI_clamp h0.1 (by omega)]; exact k0)
theorem zst_ar_mm (h : zE p s m args meth c cc nL own G) (hH : zH G S s H locs)  {x v : Int} (h0 : 0 ≤ x ∧ x < 10) (hdg : decode cc pc = .ok (.iastore, 1)) (k0 : ∀ (H1 : Heap) (locs1 : List Loc), zH G (zs S 9 5 (x) v) s H1 locs1 → W p l e R s m args below meth c H1 locs1 cells slots Q (F0 m (pc + 1) ls rest)) : W p l e R s m args below meth c H locs cells slots Q (F0 m pc ls (.int (zI v) :: .int (zI x) :: .ref (za G 9 5) :: rest)) := va_iast (n := 10) (f := (fun i : Nat => zI (S 9 5 ((i : Int))))) h.1 h.2.1 h.2.2.2.2.2.2.1.1 hH.1 (zw_D h.2.2.2.2.2.2.2 S) hH.2 (zp 9 5) 0 ((zw_at (Or.inr (Or.inr ⟨rfl, by omega⟩))).trans (congrArg (fun z => some (za G 9 5, z)) rfl)) rfl (zI_in h0.1 (by omega) (by omega)) hdg (fun H1 locs1 hP _ hS => k0 H1 locs1 ⟨(zw_set8 (G := G) (S := S) (k := 9) (j := 5) (i := x) (v := v) (e := .inl (zcI G, 10, .inl (upd (fun i : Nat => zI (S 9 5 ((i : Int)))) (zI x).toNatClampNeg (zI v)))) (Or.inr rfl) (Or.inr (Or.inr ⟨rfl, by omega⟩)) (by rw [ze_mo]; simp only [zmo]; exact congrArg (fun z => Sum.inl (zcI G, 10, Sum.inl z)) (zs_arr (f := (fun y : Int => y)) (S := S) (k := 9) (j := 5) (v := v) h0.1 (show x ≤ 2147483647 by omega) (fun _ _ hxy => by omega)).symm)) ▸ hP, hS⟩)
theorem zln_ar_mm (h : zE p s m args meth c cc nL own G) (hH : zH G S s H locs)  (hdg : decode cc pc = .ok (.arraylength, 1)) (k0 : W p l e R s m args below meth c H locs cells slots Q (F0 m (pc + 1) ls (.int (zI 10) :: rest))) : W p l e R s m args below meth c H locs cells slots Q (F0 m pc ls (.ref (za G 9 5) :: rest)) := va_alen (x := (10, .inl (fun i : Nat => zI (S 9 5 ((i : Int)))))) h.1 h.2.1 h.2.2.2.2.2.2.1.1 hH.1 (zp 9 5) 0 ((zw_at (Or.inr (Or.inr ⟨rfl, by omega⟩))).trans (congrArg (fun z => some (za G 9 5, z)) rfl)) rfl (zI_nat 10) hdg k0
theorem zld_ar_ls (h : zE p s m args meth c cc nL own G) (hH : zH G S s H locs)  {x : Int} (h0 : 0 ≤ x ∧ x < 8) (hdg : decode cc pc = .ok (.iaload, 1)) (k0 : W p l e R s m args below meth c H locs cells slots Q (F0 m (pc + 1) ls (.int (zI (S 9 6 (x))) :: rest))) : W p l e R s m args below meth c H locs cells slots Q (F0 m pc ls (.int (zI x) :: .ref (za G 9 6) :: rest)) := va_iald (n := 8) (f := (fun i : Nat => zI (S 9 6 ((i : Int))))) h.1 h.2.1 h.2.2.2.2.2.2.1.1 hH.1 (zp 9 6) 0 ((zw_at (Or.inr (Or.inr ⟨rfl, by omega⟩))).trans (congrArg (fun z => some (za G 9 6, z)) rfl)) rfl (zI_in h0.1 (by omega) (by omega)) hdg (by show W p l e R s m args below meth c H locs cells slots Q (F0 m (pc + 1) ls (.int (zI (S 9 6 (((zI x).toNatClampNeg : Int)))) :: rest)); rw [zI_clamp h0.1 (by omega)]; exact k0)
theorem zst_ar_ls (h : zE p s m args meth c cc nL own G) (hH : zH G S s H locs)  {x v : Int} (h0 : 0 ≤ x ∧ x < 8) (hdg : decode cc pc = .ok (.iastore, 1)) (k0 : ∀ (H1 : Heap) (locs1 : List Loc), zH G (zs S 9 6 (x) v) s H1 locs1 → W p l e R s m args below meth c H1 locs1 cells slots Q (F0 m (pc + 1) ls rest)) : W p l e R s m args below meth c H locs cells slots Q (F0 m pc ls (.int (zI v) :: .int (zI x) :: .ref (za G 9 6) :: rest)) := va_iast (n := 8) (f := (fun i : Nat => zI (S 9 6 ((i : Int))))) h.1 h.2.1 h.2.2.2.2.2.2.1.1 hH.1 (zw_D h.2.2.2.2.2.2.2 S) hH.2 (zp 9 6) 0 ((zw_at (Or.inr (Or.inr ⟨rfl, by omega⟩))).trans (congrArg (fun z => some (za G 9 6, z)) rfl)) rfl (zI_in h0.1 (by omega) (by omega)) hdg (fun H1 locs1 hP _ hS => k0 H1 locs1 ⟨(zw_set8 (G := G) (S := S) (k := 9) (j := 6) (i := x) (v := v) (e := .inl (zcI G, 8, .inl (upd (fun i : Nat => zI (S 9 6 ((i : Int)))) (zI x).toNatClampNeg (zI v)))) (Or.inr rfl) (Or.inr (Or.inr ⟨rfl, by omega⟩)) (by rw [ze_mo]; simp only [zmo]; exact congrArg (fun z => Sum.inl (zcI G, 8, Sum.inl z)) (zs_arr (f := (fun y : Int => y)) (S := S) (k := 9) (j := 6) (v := v) h0.1 (show x ≤ 2147483647 by omega) (fun _ _ hxy => by omega)).symm)) ▸ hP, hS⟩)
theorem zln_ar_ls (h : zE p s m args meth c cc nL own G) (hH : zH G S s H locs)  (hdg : decode cc pc = .ok (.arraylength, 1)) (k0 : W p l e R s m args below meth c H locs cells slots Q (F0 m (pc + 1) ls (.int (zI 8) :: rest))) : W p l e R s m args below meth c H locs cells slots Q (F0 m pc ls (.ref (za G 9 6) :: rest)) := va_alen (x := (8, .inl (fun i : Nat => zI (S 9 6 ((i : Int)))))) h.1 h.2.1 h.2.2.2.2.2.2.1.1 hH.1 (zp 9 6) 0 ((zw_at (Or.inr (Or.inr ⟨rfl, by omega⟩))).trans (congrArg (fun z => some (za G 9 6, z)) rfl)) rfl (zI_nat 8) hdg k0
theorem zgs1 (h : zE p s m args meth c cc nL own G) (hH : zH G S s H locs) {ix : Nat} (hl : Cond.fieldLink own ix "ZonePrint$Paper" "STEPS" "[I" ∈ zTbl) (hdg : decode cc pc = .ok (.getstatic ix, 3)) (k0 : W p l e R s m args below meth c H locs cells slots Q (F0 m (pc + 3) ls (.ref (zt1 G) :: rest))) : W p l e R s m args below meth c H locs cells slots Q (F0 m pc ls rest) := va_gets h.1 h.2.1 (h.2.2.2.2.2.2.1.2.2.2.1).1 hH.2 h.2.2.2.1 (h.2.2.2.2.1 _ hl) (fun _ h9 => h9) hdg k0
theorem ztl1 (h : zE p s m args meth c cc nL own G) (hH : zH G S s H locs) (hdg : decode cc pc = .ok (.arraylength, 1)) (k0 : W p l e R s m args below meth c H locs cells slots Q (F0 m (pc + 1) ls (.int (zI 6) :: rest))) : W p l e R s m args below meth c H locs cells slots Q (F0 m pc ls (.ref (zt1 G) :: rest)) := va_tlen h.1 h.2.1 (h.2.2.2.2.2.2.1.2.2.2.1).2 hH.2 (zI_nat 6) hdg k0
theorem ztd1 (h : zE p s m args meth c cc nL own G) (hH : zH G S s H locs) {x : Int} (h0 : 0 ≤ x) (h1 : x < 6) (hdg : decode cc pc = .ok (.iaload, 1)) (k0 : W p l e R s m args below meth c H locs cells slots Q (F0 m (pc + 1) ls (.int (zI (zSteps x)) :: rest))) : W p l e R s m args below meth c H locs cells slots Q (F0 m pc ls (.int (zI x) :: .ref (zt1 G) :: rest)) := va_ti h.1 h.2.1 (h.2.2.2.2.2.2.1.2.2.2.1).2 hH.2 (zI_in h0 (by omega) (by omega)) (v := .int (zI (zSteps x))) (by show Value.int (zI (zSteps ((zI x).toNatClampNeg : Nat))) = _; rw [zI_clamp h0 (by omega)]) hdg k0
theorem zgs2 (h : zE p s m args meth c cc nL own G) (hH : zH G S s H locs) {ix : Nat} (hl : Cond.fieldLink own ix "ZonePrint$Paper" "THROUGH" "[I" ∈ zTbl) (hdg : decode cc pc = .ok (.getstatic ix, 3)) (k0 : W p l e R s m args below meth c H locs cells slots Q (F0 m (pc + 3) ls (.ref (zt2 G) :: rest))) : W p l e R s m args below meth c H locs cells slots Q (F0 m pc ls rest) := va_gets h.1 h.2.1 (h.2.2.2.2.2.2.1.2.2.2.2.1).1 hH.2 h.2.2.2.1 (h.2.2.2.2.1 _ hl) (fun _ h9 => h9) hdg k0
theorem ztl2 (h : zE p s m args meth c cc nL own G) (hH : zH G S s H locs) (hdg : decode cc pc = .ok (.arraylength, 1)) (k0 : W p l e R s m args below meth c H locs cells slots Q (F0 m (pc + 1) ls (.int (zI 3) :: rest))) : W p l e R s m args below meth c H locs cells slots Q (F0 m pc ls (.ref (zt2 G) :: rest)) := va_tlen h.1 h.2.1 (h.2.2.2.2.2.2.1.2.2.2.2.1).2 hH.2 (zI_nat 3) hdg k0
theorem ztd2 (h : zE p s m args meth c cc nL own G) (hH : zH G S s H locs) {x : Int} (h0 : 0 ≤ x) (h1 : x < 3) (hdg : decode cc pc = .ok (.iaload, 1)) (k0 : W p l e R s m args below meth c H locs cells slots Q (F0 m (pc + 1) ls (.int (zI (zThr x)) :: rest))) : W p l e R s m args below meth c H locs cells slots Q (F0 m pc ls (.int (zI x) :: .ref (zt2 G) :: rest)) := va_ti h.1 h.2.1 (h.2.2.2.2.2.2.1.2.2.2.2.1).2 hH.2 (zI_in h0 (by omega) (by omega)) (v := .int (zI (zThr x))) (by show Value.int (zI (zThr ((zI x).toNatClampNeg : Nat))) = _; rw [zI_clamp h0 (by omega)]) hdg k0
theorem zgs3 (h : zE p s m args meth c cc nL own G) (hH : zH G S s H locs) {ix : Nat} (hl : Cond.fieldLink own ix "ZonePrint$Print" "THIRDS" "[I" ∈ zTbl) (hdg : decode cc pc = .ok (.getstatic ix, 3)) (k0 : W p l e R s m args below meth c H locs cells slots Q (F0 m (pc + 3) ls (.ref (zt3 G) :: rest))) : W p l e R s m args below meth c H locs cells slots Q (F0 m pc ls rest) := va_gets h.1 h.2.1 (h.2.2.2.2.2.2.1.2.2.2.2.2).1 hH.2 h.2.2.2.1 (h.2.2.2.2.1 _ hl) (fun _ h9 => h9) hdg k0
theorem ztl3 (h : zE p s m args meth c cc nL own G) (hH : zH G S s H locs) (hdg : decode cc pc = .ok (.arraylength, 1)) (k0 : W p l e R s m args below meth c H locs cells slots Q (F0 m (pc + 1) ls (.int (zI 3) :: rest))) : W p l e R s m args below meth c H locs cells slots Q (F0 m pc ls (.ref (zt3 G) :: rest)) := va_tlen h.1 h.2.1 (h.2.2.2.2.2.2.1.2.2.2.2.2).2 hH.2 (zI_nat 3) hdg k0
theorem ztd3 (h : zE p s m args meth c cc nL own G) (hH : zH G S s H locs) {x : Int} (h0 : 0 ≤ x) (h1 : x < 3) (hdg : decode cc pc = .ok (.iaload, 1)) (k0 : W p l e R s m args below meth c H locs cells slots Q (F0 m (pc + 1) ls (.int (zI (zThi x)) :: rest))) : W p l e R s m args below meth c H locs cells slots Q (F0 m pc ls (.int (zI x) :: .ref (zt3 G) :: rest)) := va_ti h.1 h.2.1 (h.2.2.2.2.2.2.1.2.2.2.2.2).2 hH.2 (zI_in h0 (by omega) (by omega)) (v := .int (zI (zThi x))) (by show Value.int (zI (zThi ((zI x).toNatClampNeg : Nat))) = _; rw [zI_clamp h0 (by omega)]) hdg k0
end ZK
end
section
section ZC
variable {p : Program} {l : Launch} {e : Env} {R : Room} {s : State} {m : MethodId} {args : Array Value} {below : List Frame} {meth : Method} {c : Code} {H : Heap} {locs : List Loc} {cells slots : Nat} {Q : State → Prop} {cc : ByteArray} {pc : Nat} {ls : Array Slot} {rest : List Value} {nL : Nat} {own : String} {G : zG} {S : zM}
def zCe (y : MethodName) (bytes : ByteArray) (maxL : Nat) (ret : Option FieldType) (n : Nat) : Prop := Cond.code y bytes maxL ret ∈ zTbl ∧ Cond.initialized y.cls ∈ zTbl ∧ (y.cls ≠ "java/lang/invoke/MethodHandle" ∧ y.cls ≠ "java/lang/invoke/VarHandle") ∧ (parseMethodDescriptor y.desc).map (fun d => d.parameters.length) = some n
def zCv (y : MethodName) : Prop := Cond.instanceMethod y ∈ zTbl ∧ Cond.selects y.cls y y ∈ zTbl
theorem zCB (h : zE p s m args meth c cc nL own G) {y : MethodName} {bytes : ByteArray} {maxL n index : Nat} {ret : Option FieldType} {rm : Room} (hc : zCe y bytes maxL ret n) (hl : Cond.methodLink own index y ∈ zTbl) (h0 : rm.cells = 0 ∧ rm.slots = 0) (hR : rm.frames + 1 ≤ R.frames ∧ 8 + (maxL + 11) + rm.locals ≤ R.locals) : CallB R s args own index y bytes maxL ret (Cond.code y bytes maxL ret :: zTbl) rm 0 0 n := by
  refine ⟨h0.1, h0.2, hR.1, hR.2, ?_, List.mem_cons_self, h.2.2.2.2.1 _ hc.1, h.2.2.2.2.1 _ hc.2.1, hc.2.2.1, ?_, h.2.2.2.2.1 _ hl⟩
  · intro w hw a' U hW
    rcases List.mem_cons.mp hw with rfl | hw
    · exact word_at hW (good_of_word (zTbl_good _ hc.1)) (h.2.2.2.2.1 _ hc.1)
    · exact word_at hW (good_of_word (zTbl_good _ hw)) (h.2.2.2.2.1 _ hw)
  · intro sig hs
    have h2 := hc.2.2.2
    rw [hs] at h2
    exact (Option.some.inj h2).symm
theorem zMet {y : MethodName} {rm : Room} {Qc : Array Value → State → Outcome → State → Prop} {maxL mc ms : Nat} {ret : Option FieldType} {avs : List Value} (lv : List (Nat × Value)) (hG : zok G) (hy : plainName y.cls = true) (hlen : (lg_sl avs).length ≤ maxL) (hlv : lv_args 0 avs = lv)
    (body : ∀ (p : Program) (e : Env) (s : State) (m : MethodId) (args : Array Value) (below : List Frame) (meth : Method) (c : Code) (ls : Array Slot), zE p s m args meth c cc maxL y.cls G → p.tables.exec = Jvm.exec → c.code = cc → meth.sig.returnType = ret → zH G S s s.heap [] → lv_has ls maxL lv → W p l e rm s m args below meth c s.heap [] 0 0 (MQ below Qc args s mc ms (zA G)) (F0 m 0 ls [])) :
    Met l y (Cond.code y cc maxL ret :: zTbl) rm (va_Pc avs (zB G S)) Qc mc ms (zA G) := by
  refine Met.ofW (cc := cc) (maxL := maxL) (ret := ret) hy rfl ?_
  intro p e s m args below meth c s₁ B hml hv
  obtain ⟨rfl, hP, hU⟩ := hv
  have hts := atoms_spec (ws := Cond.code y cc maxL ret :: zTbl) B.pre
  rw [lg_entry_eq]
  refine body p e s m _ below meth c _ ⟨B.exec, B.bytes, hml, findClass_of_methodNamed B.named, fun w hw => hts w (List.mem_cons_of_mem _ hw), B.notSynchronized, hU, hG⟩ B.exec B.bytes B.returns ⟨hP, va_S.rf⟩ ?_
  rw [← hlv]
  exact lv_entry avs hlen
theorem zcVi (h : zE p s m args meth c cc nL own G) (hH : zH G S s H locs) {y : MethodName} {bytes : ByteArray} {maxL n index : Nat} {ret : Option FieldType} {rm : Room} {post : Int32 → zM → Prop} {As : List Value} {st0 : List Value} {b : Nat} (hr : ∃ cell : Cell, H[b]? = some cell ∧ cell.vm.isStatics = false ∧ s.vm.findClass y.cls = some cell.cls) (hM : Met l y (Cond.code y bytes maxL ret :: zTbl) rm (va_Pc (.ref b :: As) (zB G S)) (va_Qi post (zB G) (zA G)) 0 0 (zA G)) (hc : zCe y bytes maxL ret n) (hv : zCv y) (hl : Cond.methodLink own index y ∈ zTbl) (hls : ls.size = nL) (hst : st0 = As.reverse ++ .ref b :: rest) (hn : As.length = n) (h0 : rm.cells = 0 ∧ rm.slots = 0) (hR : rm.frames + 1 ≤ R.frames ∧ 8 + (maxL + 11) + rm.locals ≤ R.locals) (hW : (rest.map fun v => v.category).sum ≤ 8) (hcs : cells ≤ R.cells ∧ slots ≤ R.slots) (hdg : decode cc pc = .ok (.invokevirtual index, 3))
    (k : ∀ (r : Int32) (S1 : zM) (H1 : Heap) (locs1 : List Loc), post r S1 → zH G S1 s H1 locs1 → W p l e R s m args below meth c H1 locs1 cells slots Q (F0 m (pc + 3) ls (.int r :: rest))) : W p l e R s m args below meth c H locs cells slots Q (F0 m pc ls st0) := by
  subst hst
  refine va_calli (va_runV (As := As) (rest := rest) ⟨h.1, h.2.1, h.2.2.1, h.2.2.2.1, h.2.2.2.2.1⟩ hM ⟨zCB h hc hl h0 hR, h.2.2.2.2.1 _ hv.1, h.2.2.2.2.1 _ hv.2⟩ ⟨zB.blind G S _, hr, fun U hU hW => ⟨rfl, zB.go h.2.2.2.2.2.2.1 hH hU hW⟩⟩ rfl hn hls rfl (lv_room hW) hdg ⟨hcs.1, hcs.2⟩) hH.2 (fun q _ h => h) (fun q h => h) (fun r u t H1 locs1 ht hvm hw hB hz1 hk1 hS => ?_)
  exact k r u H1 locs1 hw ⟨by rw [← ht]; exact hB.1, hS⟩
theorem zcSi (h : zE p s m args meth c cc nL own G) (hH : zH G S s H locs) {y : MethodName} {bytes : ByteArray} {maxL n index : Nat} {ret : Option FieldType} {rm : Room} {post : Int32 → zM → Prop} {As : List Value} {st0 : List Value}  (hM : Met l y (Cond.code y bytes maxL ret :: zTbl) rm (va_Pc As (zB G S)) (va_Qi post (zB G) (zA G)) 0 0 (zA G)) (hc : zCe y bytes maxL ret n) (hv : Cond.static y ∈ zTbl) (hl : Cond.methodLink own index y ∈ zTbl) (hls : ls.size = nL) (hst : st0 = As.reverse ++ rest) (hn : As.length = n) (h0 : rm.cells = 0 ∧ rm.slots = 0) (hR : rm.frames + 1 ≤ R.frames ∧ 8 + (maxL + 11) + rm.locals ≤ R.locals) (hW : (rest.map fun v => v.category).sum ≤ 8) (hcs : cells ≤ R.cells ∧ slots ≤ R.slots) (hdg : decode cc pc = .ok (.invokestatic index, 3))
    (k : ∀ (r : Int32) (S1 : zM) (H1 : Heap) (locs1 : List Loc), post r S1 → zH G S1 s H1 locs1 → W p l e R s m args below meth c H1 locs1 cells slots Q (F0 m (pc + 3) ls (.int r :: rest))) : W p l e R s m args below meth c H locs cells slots Q (F0 m pc ls st0) := by
  subst hst
  refine va_calli (va_runS (As := As) (rest := rest) ⟨h.1, h.2.1, h.2.2.1, h.2.2.2.1, h.2.2.2.2.1⟩ hM ⟨zCB h hc hl h0 hR, h.2.2.2.2.1 _ hv⟩ ⟨zB.blind G S _, fun U hU hW => ⟨rfl, zB.go h.2.2.2.2.2.2.1 hH hU hW⟩⟩ rfl hn hls rfl (lv_room hW) hdg ⟨hcs.1, hcs.2⟩) hH.2 (fun q _ h => h) (fun q h => h) (fun r u t H1 locs1 ht hvm hw hB hz1 hk1 hS => ?_)
  exact k r u H1 locs1 hw ⟨by rw [← ht]; exact hB.1, hS⟩
theorem zcVl (h : zE p s m args meth c cc nL own G) (hH : zH G S s H locs) {y : MethodName} {bytes : ByteArray} {maxL n index : Nat} {ret : Option FieldType} {rm : Room} {post : Int64 → zM → Prop} {As : List Value} {st0 : List Value} {b : Nat} (hr : ∃ cell : Cell, H[b]? = some cell ∧ cell.vm.isStatics = false ∧ s.vm.findClass y.cls = some cell.cls) (hM : Met l y (Cond.code y bytes maxL ret :: zTbl) rm (va_Pc (.ref b :: As) (zB G S)) (va_Ql post (zB G) (zA G)) 0 0 (zA G)) (hc : zCe y bytes maxL ret n) (hv : zCv y) (hl : Cond.methodLink own index y ∈ zTbl) (hls : ls.size = nL) (hst : st0 = As.reverse ++ .ref b :: rest) (hn : As.length = n) (h0 : rm.cells = 0 ∧ rm.slots = 0) (hR : rm.frames + 1 ≤ R.frames ∧ 8 + (maxL + 11) + rm.locals ≤ R.locals) (hW : (rest.map fun v => v.category).sum ≤ 8) (hcs : cells ≤ R.cells ∧ slots ≤ R.slots) (hdg : decode cc pc = .ok (.invokevirtual index, 3))
    (k : ∀ (r : Int64) (S1 : zM) (H1 : Heap) (locs1 : List Loc), post r S1 → zH G S1 s H1 locs1 → W p l e R s m args below meth c H1 locs1 cells slots Q (F0 m (pc + 3) ls (.long r :: rest))) : W p l e R s m args below meth c H locs cells slots Q (F0 m pc ls st0) := by
  subst hst
  refine va_calll (va_runV (As := As) (rest := rest) ⟨h.1, h.2.1, h.2.2.1, h.2.2.2.1, h.2.2.2.2.1⟩ hM ⟨zCB h hc hl h0 hR, h.2.2.2.2.1 _ hv.1, h.2.2.2.2.1 _ hv.2⟩ ⟨zB.blind G S _, hr, fun U hU hW => ⟨rfl, zB.go h.2.2.2.2.2.2.1 hH hU hW⟩⟩ rfl hn hls rfl (lv_room hW) hdg ⟨hcs.1, hcs.2⟩) hH.2 (fun q _ h => h) (fun q h => h) (fun r u t H1 locs1 ht hvm hw hB hz1 hk1 hS => ?_)
  exact k r u H1 locs1 hw ⟨by rw [← ht]; exact hB.1, hS⟩
theorem zcSl (h : zE p s m args meth c cc nL own G) (hH : zH G S s H locs) {y : MethodName} {bytes : ByteArray} {maxL n index : Nat} {ret : Option FieldType} {rm : Room} {post : Int64 → zM → Prop} {As : List Value} {st0 : List Value}  (hM : Met l y (Cond.code y bytes maxL ret :: zTbl) rm (va_Pc As (zB G S)) (va_Ql post (zB G) (zA G)) 0 0 (zA G)) (hc : zCe y bytes maxL ret n) (hv : Cond.static y ∈ zTbl) (hl : Cond.methodLink own index y ∈ zTbl) (hls : ls.size = nL) (hst : st0 = As.reverse ++ rest) (hn : As.length = n) (h0 : rm.cells = 0 ∧ rm.slots = 0) (hR : rm.frames + 1 ≤ R.frames ∧ 8 + (maxL + 11) + rm.locals ≤ R.locals) (hW : (rest.map fun v => v.category).sum ≤ 8) (hcs : cells ≤ R.cells ∧ slots ≤ R.slots) (hdg : decode cc pc = .ok (.invokestatic index, 3))
    (k : ∀ (r : Int64) (S1 : zM) (H1 : Heap) (locs1 : List Loc), post r S1 → zH G S1 s H1 locs1 → W p l e R s m args below meth c H1 locs1 cells slots Q (F0 m (pc + 3) ls (.long r :: rest))) : W p l e R s m args below meth c H locs cells slots Q (F0 m pc ls st0) := by
  subst hst
  refine va_calll (va_runS (As := As) (rest := rest) ⟨h.1, h.2.1, h.2.2.1, h.2.2.2.1, h.2.2.2.2.1⟩ hM ⟨zCB h hc hl h0 hR, h.2.2.2.2.1 _ hv⟩ ⟨zB.blind G S _, fun U hU hW => ⟨rfl, zB.go h.2.2.2.2.2.2.1 hH hU hW⟩⟩ rfl hn hls rfl (lv_room hW) hdg ⟨hcs.1, hcs.2⟩) hH.2 (fun q _ h => h) (fun q h => h) (fun r u t H1 locs1 ht hvm hw hB hz1 hk1 hS => ?_)
  exact k r u H1 locs1 hw ⟨by rw [← ht]; exact hB.1, hS⟩
theorem zcVd (h : zE p s m args meth c cc nL own G) (hH : zH G S s H locs) {y : MethodName} {bytes : ByteArray} {maxL n index : Nat} {ret : Option FieldType} {rm : Room} {post : UInt64 → zM → Prop} {As : List Value} {st0 : List Value} {b : Nat} (hr : ∃ cell : Cell, H[b]? = some cell ∧ cell.vm.isStatics = false ∧ s.vm.findClass y.cls = some cell.cls) (hM : Met l y (Cond.code y bytes maxL ret :: zTbl) rm (va_Pc (.ref b :: As) (zB G S)) (va_Qd post (zB G) (zA G)) 0 0 (zA G)) (hc : zCe y bytes maxL ret n) (hv : zCv y) (hl : Cond.methodLink own index y ∈ zTbl) (hls : ls.size = nL) (hst : st0 = As.reverse ++ .ref b :: rest) (hn : As.length = n) (h0 : rm.cells = 0 ∧ rm.slots = 0) (hR : rm.frames + 1 ≤ R.frames ∧ 8 + (maxL + 11) + rm.locals ≤ R.locals) (hW : (rest.map fun v => v.category).sum ≤ 8) (hcs : cells ≤ R.cells ∧ slots ≤ R.slots) (hdg : decode cc pc = .ok (.invokevirtual index, 3))
    (k : ∀ (r : UInt64) (S1 : zM) (H1 : Heap) (locs1 : List Loc), post r S1 → zH G S1 s H1 locs1 → W p l e R s m args below meth c H1 locs1 cells slots Q (F0 m (pc + 3) ls (.double r :: rest))) : W p l e R s m args below meth c H locs cells slots Q (F0 m pc ls st0) := by
  subst hst
  refine va_calld (va_runV (As := As) (rest := rest) ⟨h.1, h.2.1, h.2.2.1, h.2.2.2.1, h.2.2.2.2.1⟩ hM ⟨zCB h hc hl h0 hR, h.2.2.2.2.1 _ hv.1, h.2.2.2.2.1 _ hv.2⟩ ⟨zB.blind G S _, hr, fun U hU hW => ⟨rfl, zB.go h.2.2.2.2.2.2.1 hH hU hW⟩⟩ rfl hn hls rfl (lv_room hW) hdg ⟨hcs.1, hcs.2⟩) hH.2 (fun q _ h => h) (fun q h => h) (fun r u t H1 locs1 ht hvm hw hB hz1 hk1 hS => ?_)
  exact k r u H1 locs1 hw ⟨by rw [← ht]; exact hB.1, hS⟩
theorem zcSd (h : zE p s m args meth c cc nL own G) (hH : zH G S s H locs) {y : MethodName} {bytes : ByteArray} {maxL n index : Nat} {ret : Option FieldType} {rm : Room} {post : UInt64 → zM → Prop} {As : List Value} {st0 : List Value}  (hM : Met l y (Cond.code y bytes maxL ret :: zTbl) rm (va_Pc As (zB G S)) (va_Qd post (zB G) (zA G)) 0 0 (zA G)) (hc : zCe y bytes maxL ret n) (hv : Cond.static y ∈ zTbl) (hl : Cond.methodLink own index y ∈ zTbl) (hls : ls.size = nL) (hst : st0 = As.reverse ++ rest) (hn : As.length = n) (h0 : rm.cells = 0 ∧ rm.slots = 0) (hR : rm.frames + 1 ≤ R.frames ∧ 8 + (maxL + 11) + rm.locals ≤ R.locals) (hW : (rest.map fun v => v.category).sum ≤ 8) (hcs : cells ≤ R.cells ∧ slots ≤ R.slots) (hdg : decode cc pc = .ok (.invokestatic index, 3))
    (k : ∀ (r : UInt64) (S1 : zM) (H1 : Heap) (locs1 : List Loc), post r S1 → zH G S1 s H1 locs1 → W p l e R s m args below meth c H1 locs1 cells slots Q (F0 m (pc + 3) ls (.double r :: rest))) : W p l e R s m args below meth c H locs cells slots Q (F0 m pc ls st0) := by
  subst hst
  refine va_calld (va_runS (As := As) (rest := rest) ⟨h.1, h.2.1, h.2.2.1, h.2.2.2.1, h.2.2.2.2.1⟩ hM ⟨zCB h hc hl h0 hR, h.2.2.2.2.1 _ hv⟩ ⟨zB.blind G S _, fun U hU hW => ⟨rfl, zB.go h.2.2.2.2.2.2.1 hH hU hW⟩⟩ rfl hn hls rfl (lv_room hW) hdg ⟨hcs.1, hcs.2⟩) hH.2 (fun q _ h => h) (fun q h => h) (fun r u t H1 locs1 ht hvm hw hB hz1 hk1 hS => ?_)
  exact k r u H1 locs1 hw ⟨by rw [← ht]; exact hB.1, hS⟩
theorem zcVv (h : zE p s m args meth c cc nL own G) (hH : zH G S s H locs) {y : MethodName} {bytes : ByteArray} {maxL n index : Nat} {ret : Option FieldType} {rm : Room} {post : zM → Prop} {As : List Value} {st0 : List Value} {b : Nat} (hr : ∃ cell : Cell, H[b]? = some cell ∧ cell.vm.isStatics = false ∧ s.vm.findClass y.cls = some cell.cls) (hM : Met l y (Cond.code y bytes maxL ret :: zTbl) rm (va_Pc (.ref b :: As) (zB G S)) (va_Qv post (zB G) (zA G)) 0 0 (zA G)) (hc : zCe y bytes maxL ret n) (hv : zCv y) (hl : Cond.methodLink own index y ∈ zTbl) (hls : ls.size = nL) (hst : st0 = As.reverse ++ .ref b :: rest) (hn : As.length = n) (h0 : rm.cells = 0 ∧ rm.slots = 0) (hR : rm.frames + 1 ≤ R.frames ∧ 8 + (maxL + 11) + rm.locals ≤ R.locals) (hW : (rest.map fun v => v.category).sum ≤ 8) (hcs : cells ≤ R.cells ∧ slots ≤ R.slots) (hdg : decode cc pc = .ok (.invokevirtual index, 3))
    (k : ∀ (S1 : zM) (H1 : Heap) (locs1 : List Loc), post S1 → zH G S1 s H1 locs1 → W p l e R s m args below meth c H1 locs1 cells slots Q (F0 m (pc + 3) ls ( rest))) : W p l e R s m args below meth c H locs cells slots Q (F0 m pc ls st0) := by
  subst hst
  refine va_callv (va_runV (As := As) (rest := rest) ⟨h.1, h.2.1, h.2.2.1, h.2.2.2.1, h.2.2.2.2.1⟩ hM ⟨zCB h hc hl h0 hR, h.2.2.2.2.1 _ hv.1, h.2.2.2.2.1 _ hv.2⟩ ⟨zB.blind G S _, hr, fun U hU hW => ⟨rfl, zB.go h.2.2.2.2.2.2.1 hH hU hW⟩⟩ rfl hn hls rfl (lv_room hW) hdg ⟨hcs.1, hcs.2⟩) hH.2 (fun q _ h => h) (fun q h => h) (fun u t H1 locs1 ht hvm hw hB hz1 hk1 hS => ?_)
  exact k u H1 locs1 hw ⟨by rw [← ht]; exact hB.1, hS⟩
theorem zcSv (h : zE p s m args meth c cc nL own G) (hH : zH G S s H locs) {y : MethodName} {bytes : ByteArray} {maxL n index : Nat} {ret : Option FieldType} {rm : Room} {post : zM → Prop} {As : List Value} {st0 : List Value}  (hM : Met l y (Cond.code y bytes maxL ret :: zTbl) rm (va_Pc As (zB G S)) (va_Qv post (zB G) (zA G)) 0 0 (zA G)) (hc : zCe y bytes maxL ret n) (hv : Cond.static y ∈ zTbl) (hl : Cond.methodLink own index y ∈ zTbl) (hls : ls.size = nL) (hst : st0 = As.reverse ++ rest) (hn : As.length = n) (h0 : rm.cells = 0 ∧ rm.slots = 0) (hR : rm.frames + 1 ≤ R.frames ∧ 8 + (maxL + 11) + rm.locals ≤ R.locals) (hW : (rest.map fun v => v.category).sum ≤ 8) (hcs : cells ≤ R.cells ∧ slots ≤ R.slots) (hdg : decode cc pc = .ok (.invokestatic index, 3))
    (k : ∀ (S1 : zM) (H1 : Heap) (locs1 : List Loc), post S1 → zH G S1 s H1 locs1 → W p l e R s m args below meth c H1 locs1 cells slots Q (F0 m (pc + 3) ls ( rest))) : W p l e R s m args below meth c H locs cells slots Q (F0 m pc ls st0) := by
  subst hst
  refine va_callv (va_runS (As := As) (rest := rest) ⟨h.1, h.2.1, h.2.2.1, h.2.2.2.1, h.2.2.2.2.1⟩ hM ⟨zCB h hc hl h0 hR, h.2.2.2.2.1 _ hv⟩ ⟨zB.blind G S _, fun U hU hW => ⟨rfl, zB.go h.2.2.2.2.2.2.1 hH hU hW⟩⟩ rfl hn hls rfl (lv_room hW) hdg ⟨hcs.1, hcs.2⟩) hH.2 (fun q _ h => h) (fun q h => h) (fun u t H1 locs1 ht hvm hw hB hz1 hk1 hS => ?_)
  exact k u H1 locs1 hw ⟨by rw [← ht]; exact hB.1, hS⟩
theorem zri (h : zE p s m args meth c cc nL own G) {post : Int32 → zM → Prop} (hr : meth.sig.returnType = some .int) (hH : zH G S s H locs) {x : Int32} (hp : post x S) (hdg : decode cc pc = .ok (.ireturn, 1)) : W p l e R s m args below meth c H locs cells slots (MQ below (va_Qi post (zB G) (zA G)) args s cells slots (zA G)) (F0 m pc ls [.int x]) :=
  W.iret (v := x) h.1 h.2.1 hr (fun t ht hW => ⟨⟨x, S, rfl, hp, zB.go h.2.2.2.2.2.2.1 hH ht hW⟩, hH.2.F ht⟩) hH.2.2.2 hdg h.2.2.2.2.2.1
theorem zrz (h : zE p s m args meth c cc nL own G) {post : Int32 → zM → Prop} (hr : meth.sig.returnType = some .boolean) (hH : zH G S s H locs) {x : Int} (hx : x = 0 ∨ x = 1) (hp : post (zI x) S) (hdg : decode cc pc = .ok (.ireturn, 1)) : W p l e R s m args below meth c H locs cells slots (MQ below (va_Qi post (zB G) (zA G)) args s cells slots (zA G)) (F0 m pc ls [.int (zI x)]) :=
  W.zret (v := zI x) h.1 h.2.1 hr (by rcases hx with rfl | rfl <;> rfl) (fun t ht hW => ⟨⟨zI x, S, rfl, hp, zB.go h.2.2.2.2.2.2.1 hH ht hW⟩, hH.2.F ht⟩) hH.2.2.2 hdg h.2.2.2.2.2.1
theorem zrl (h : zE p s m args meth c cc nL own G) {post : Int64 → zM → Prop} (hr : meth.sig.returnType = some .long) (hH : zH G S s H locs) {x : Int64} (hp : post x S) (hdg : decode cc pc = .ok (.lreturn, 1)) : W p l e R s m args below meth c H locs cells slots (MQ below (va_Ql post (zB G) (zA G)) args s cells slots (zA G)) (F0 m pc ls [.long x]) :=
  W.lret (v := x) h.1 h.2.1 hr (fun t ht hW => ⟨⟨x, S, rfl, hp, zB.go h.2.2.2.2.2.2.1 hH ht hW⟩, hH.2.F ht⟩) hH.2.2.2 hdg h.2.2.2.2.2.1
theorem zrd (h : zE p s m args meth c cc nL own G) {post : UInt64 → zM → Prop} (hr : meth.sig.returnType = some .double) (hH : zH G S s H locs) {x : UInt64} (hp : post x S) (hdg : decode cc pc = .ok (.dreturn, 1)) : W p l e R s m args below meth c H locs cells slots (MQ below (va_Qd post (zB G) (zA G)) args s cells slots (zA G)) (F0 m pc ls [.double x]) :=
  W.dret (v := x) h.1 h.2.1 hr (fun t ht hW => ⟨⟨x, S, rfl, hp, zB.go h.2.2.2.2.2.2.1 hH ht hW⟩, hH.2.F ht⟩) hH.2.2.2 hdg h.2.2.2.2.2.1
theorem zrv (h : zE p s m args meth c cc nL own G) {post : zM → Prop} (hr : meth.sig.returnType = none) (hH : zH G S s H locs) (hp : post S) (hdg : decode cc pc = .ok (.return_, 1)) : W p l e R s m args below meth c H locs cells slots (MQ below (va_Qv post (zB G) (zA G)) args s cells slots (zA G)) (F0 m pc ls []) :=
  W.vret h.1 h.2.1 hr (fun t ht hW => ⟨⟨S, rfl, hp, zB.go h.2.2.2.2.2.2.1 hH ht hW⟩, hH.2.F ht⟩) hH.2.2.2 hdg h.2.2.2.2.2.1
end ZC
theorem zce_X0_init : zCe yX0_init cX0_init 2 (none : Option FieldType) 0 := ⟨zc_X0_init, zn_X0, ⟨by decide, by decide⟩, by decide +kernel⟩
theorem zce_X0_size : zCe yX0_size cX0_size 1 (some FieldType.int) 0 := ⟨zc_X0_size, zn_X0, ⟨by decide, by decide⟩, by decide +kernel⟩
theorem zcv_X0_size : zCv yX0_size := ⟨zi_X0_size, zs_X0_size⟩
theorem zce_X0_keep : zCe yX0_keep cX0_keep 3 (none : Option FieldType) 1 := ⟨zc_X0_keep, zn_X0, ⟨by decide, by decide⟩, by decide +kernel⟩
theorem zcv_X0_keep : zCv yX0_keep := ⟨zi_X0_keep, zs_X0_keep⟩
theorem zce_X0_giveBack : zCe yX0_giveBack cX0_giveBack 3 (none : Option FieldType) 1 := ⟨zc_X0_giveBack, zn_X0, ⟨by decide, by decide⟩, by decide +kernel⟩
theorem zcv_X0_giveBack : zCv yX0_giveBack := ⟨zi_X0_giveBack, zs_X0_giveBack⟩
theorem zce_X1_init : zCe yX1_init cX1_init 1 (none : Option FieldType) 0 := ⟨zc_X1_init, zn_X1, ⟨by decide, by decide⟩, by decide +kernel⟩
theorem zce_X1_restart : zCe yX1_restart cX1_restart 1 (none : Option FieldType) 0 := ⟨zc_X1_restart, zn_X1, ⟨by decide, by decide⟩, by decide +kernel⟩
theorem zcv_X1_restart : zCv yX1_restart := ⟨zi_X1_restart, zs_X1_restart⟩
theorem zce_X1_endsAnOrder : zCe yX1_endsAnOrder cX1_endsAnOrder 1 (some FieldType.boolean) 0 := ⟨zc_X1_endsAnOrder, zn_X1, ⟨by decide, by decide⟩, by decide +kernel⟩
theorem zcv_X1_endsAnOrder : zCv yX1_endsAnOrder := ⟨zi_X1_endsAnOrder, zs_X1_endsAnOrder⟩
theorem zce_X1_accepts : zCe yX1_accepts cX1_accepts 2 (some FieldType.boolean) 1 := ⟨zc_X1_accepts, zn_X1, ⟨by decide, by decide⟩, by decide +kernel⟩
theorem zcv_X1_accepts : zCv yX1_accepts := ⟨zi_X1_accepts, zs_X1_accepts⟩
theorem zce_X1_acceptsLetter : zCe yX1_acceptsLetter cX1_acceptsLetter 2 (some FieldType.boolean) 1 := ⟨zc_X1_acceptsLetter, zn_X1, ⟨by decide, by decide⟩, by decide +kernel⟩
theorem zcv_X1_acceptsLetter : zCv yX1_acceptsLetter := ⟨zi_X1_acceptsLetter, zs_X1_acceptsLetter⟩
theorem zce_X1_acceptsFirst : zCe yX1_acceptsFirst cX1_acceptsFirst 3 (some FieldType.boolean) 1 := ⟨zc_X1_acceptsFirst, zn_X1, ⟨by decide, by decide⟩, by decide +kernel⟩
theorem zcv_X1_acceptsFirst : zCv yX1_acceptsFirst := ⟨zi_X1_acceptsFirst, zs_X1_acceptsFirst⟩
theorem zce_X1_acceptsLast : zCe yX1_acceptsLast cX1_acceptsLast 3 (some FieldType.boolean) 1 := ⟨zc_X1_acceptsLast, zn_X1, ⟨by decide, by decide⟩, by decide +kernel⟩
theorem zcv_X1_acceptsLast : zCv yX1_acceptsLast := ⟨zi_X1_acceptsLast, zs_X1_acceptsLast⟩
theorem zce_X1_withDigit : zCe yX1_withDigit cX1_withDigit 2 (some FieldType.int) 2 := ⟨zc_X1_withDigit, zn_X1, ⟨by decide, by decide⟩, by decide +kernel⟩
theorem zce_X1_separator : zCe yX1_separator cX1_separator 1 (some FieldType.int) 0 := ⟨zc_X1_separator, zn_X1, ⟨by decide, by decide⟩, by decide +kernel⟩
theorem zcv_X1_separator : zCv yX1_separator := ⟨zi_X1_separator, zs_X1_separator⟩
theorem zce_X1_mostFirst : zCe yX1_mostFirst cX1_mostFirst 1 (some FieldType.int) 0 := ⟨zc_X1_mostFirst, zn_X1, ⟨by decide, by decide⟩, by decide +kernel⟩
theorem zcv_X1_mostFirst : zCv yX1_mostFirst := ⟨zi_X1_mostFirst, zs_X1_mostFirst⟩
theorem zce_X1_leastLast : zCe yX1_leastLast cX1_leastLast 1 (some FieldType.int) 0 := ⟨zc_X1_leastLast, zn_X1, ⟨by decide, by decide⟩, by decide +kernel⟩
theorem zcv_X1_leastLast : zCv yX1_leastLast := ⟨zi_X1_leastLast, zs_X1_leastLast⟩
theorem zce_X1_mostLast : zCe yX1_mostLast cX1_mostLast 1 (some FieldType.int) 0 := ⟨zc_X1_mostLast, zn_X1, ⟨by decide, by decide⟩, by decide +kernel⟩
theorem zcv_X1_mostLast : zCv yX1_mostLast := ⟨zi_X1_mostLast, zs_X1_mostLast⟩
theorem zce_X2_init : zCe yX2_init cX2_init 1 (none : Option FieldType) 0 := ⟨zc_X2_init, zn_X2, ⟨by decide, by decide⟩, by decide +kernel⟩
theorem zce_X2_take : zCe yX2_take cX2_take 6 (none : Option FieldType) 2 := ⟨zc_X2_take, zn_X2, ⟨by decide, by decide⟩, by decide +kernel⟩
theorem zcv_X2_take : zCv yX2_take := ⟨zi_X2_take, zs_X2_take⟩
theorem zce_X2_markOf : zCe yX2_markOf cX2_markOf 2 (some FieldType.int) 1 := ⟨zc_X2_markOf, zn_X2, ⟨by decide, by decide⟩, by decide +kernel⟩
theorem zcv_X2_markOf : zCv yX2_markOf := ⟨zi_X2_markOf, zs_X2_markOf⟩
theorem zce_X2_toneOf : zCe yX2_toneOf cX2_toneOf 4 (some FieldType.int) 1 := ⟨zc_X2_toneOf, zn_X2, ⟨by decide, by decide⟩, by decide +kernel⟩
theorem zcv_X2_toneOf : zCv yX2_toneOf := ⟨zi_X2_toneOf, zs_X2_toneOf⟩
theorem zce_X2_lightThrough : zCe yX2_lightThrough cX2_lightThrough 5 (some FieldType.int) 2 := ⟨zc_X2_lightThrough, zn_X2, ⟨by decide, by decide⟩, by decide +kernel⟩
theorem zce_X2_leastTime : zCe yX2_leastTime cX2_leastTime 6 (some FieldType.int) 2 := ⟨zc_X2_leastTime, zn_X2, ⟨by decide, by decide⟩, by decide +kernel⟩
theorem zcv_X2_leastTime : zCv yX2_leastTime := ⟨zi_X2_leastTime, zs_X2_leastTime⟩
theorem zce_X3_init : zCe yX3_init cX3_init 1 (none : Option FieldType) 0 := ⟨zc_X3_init, zn_X3, ⟨by decide, by decide⟩, by decide +kernel⟩
theorem zce_X3_copyFrom : zCe yX3_copyFrom cX3_copyFrom 3 (none : Option FieldType) 1 := ⟨zc_X3_copyFrom, zn_X3, ⟨by decide, by decide⟩, by decide +kernel⟩
theorem zcv_X3_copyFrom : zCv yX3_copyFrom := ⟨zi_X3_copyFrom, zs_X3_copyFrom⟩
theorem zce_X3_isFull : zCe yX3_isFull cX3_isFull 1 (some FieldType.boolean) 0 := ⟨zc_X3_isFull, zn_X3, ⟨by decide, by decide⟩, by decide +kernel⟩
theorem zcv_X3_isFull : zCv yX3_isFull := ⟨zi_X3_isFull, zs_X3_isFull⟩
theorem zce_X3_hasZone : zCe yX3_hasZone cX3_hasZone 2 (some FieldType.boolean) 1 := ⟨zc_X3_hasZone, zn_X3, ⟨by decide, by decide⟩, by decide +kernel⟩
theorem zcv_X3_hasZone : zCv yX3_hasZone := ⟨zi_X3_hasZone, zs_X3_hasZone⟩
theorem zce_X3_addZone : zCe yX3_addZone cX3_addZone 4 (some FieldType.int) 2 := ⟨zc_X3_addZone, zn_X3, ⟨by decide, by decide⟩, by decide +kernel⟩
theorem zcv_X3_addZone : zCv yX3_addZone := ⟨zi_X3_addZone, zs_X3_addZone⟩
theorem zce_X3_areNeighbours : zCe yX3_areNeighbours cX3_areNeighbours 3 (some FieldType.boolean) 2 := ⟨zc_X3_areNeighbours, zn_X3, ⟨by decide, by decide⟩, by decide +kernel⟩
theorem zcv_X3_areNeighbours : zCv yX3_areNeighbours := ⟨zi_X3_areNeighbours, zs_X3_areNeighbours⟩
theorem zce_X3_setNeighbours : zCe yX3_setNeighbours cX3_setNeighbours 4 (none : Option FieldType) 3 := ⟨zc_X3_setNeighbours, zn_X3, ⟨by decide, by decide⟩, by decide +kernel⟩
theorem zcv_X3_setNeighbours : zCv yX3_setNeighbours := ⟨zi_X3_setNeighbours, zs_X3_setNeighbours⟩
theorem zce_X3_property : zCe yX3_property cX3_property 3 (some FieldType.int) 2 := ⟨zc_X3_property, zn_X3, ⟨by decide, by decide⟩, by decide +kernel⟩
theorem zcv_X3_property : zCv yX3_property := ⟨zi_X3_property, zs_X3_property⟩
theorem zce_X3_spillOnto : zCe yX3_spillOnto cX3_spillOnto 4 (some FieldType.int) 1 := ⟨zc_X3_spillOnto, zn_X3, ⟨by decide, by decide⟩, by decide +kernel⟩
theorem zcv_X3_spillOnto : zCv yX3_spillOnto := ⟨zi_X3_spillOnto, zs_X3_spillOnto⟩
theorem zce_X3_timeOf : zCe yX3_timeOf cX3_timeOf 2 (some FieldType.int) 1 := ⟨zc_X3_timeOf, zn_X3, ⟨by decide, by decide⟩, by decide +kernel⟩
theorem zcv_X3_timeOf : zCv yX3_timeOf := ⟨zi_X3_timeOf, zs_X3_timeOf⟩
theorem zce_X3_toneOf : zCe yX3_toneOf cX3_toneOf 2 (some FieldType.int) 1 := ⟨zc_X3_toneOf, zn_X3, ⟨by decide, by decide⟩, by decide +kernel⟩
theorem zcv_X3_toneOf : zCv yX3_toneOf := ⟨zi_X3_toneOf, zs_X3_toneOf⟩
theorem zce_X3_toneAfter : zCe yX3_toneAfter cX3_toneAfter 3 (some FieldType.int) 2 := ⟨zc_X3_toneAfter, zn_X3, ⟨by decide, by decide⟩, by decide +kernel⟩
theorem zcv_X3_toneAfter : zCv yX3_toneAfter := ⟨zi_X3_toneAfter, zs_X3_toneAfter⟩
theorem zce_X3_tooDarkBy : zCe yX3_tooDarkBy cX3_tooDarkBy 2 (some FieldType.int) 1 := ⟨zc_X3_tooDarkBy, zn_X3, ⟨by decide, by decide⟩, by decide +kernel⟩
theorem zcv_X3_tooDarkBy : zCv yX3_tooDarkBy := ⟨zi_X3_tooDarkBy, zs_X3_tooDarkBy⟩
theorem zce_X3_zonesOff : zCe yX3_zonesOff cX3_zonesOff 4 (some FieldType.int) 1 := ⟨zc_X3_zonesOff, zn_X3, ⟨by decide, by decide⟩, by decide +kernel⟩
theorem zcv_X3_zonesOff : zCv yX3_zonesOff := ⟨zi_X3_zonesOff, zs_X3_zonesOff⟩
theorem zce_X3_missedTones : zCe yX3_missedTones cX3_missedTones 3 (some FieldType.int) 0 := ⟨zc_X3_missedTones, zn_X3, ⟨by decide, by decide⟩, by decide +kernel⟩
theorem zcv_X3_missedTones : zCv yX3_missedTones := ⟨zi_X3_missedTones, zs_X3_missedTones⟩
theorem zce_X3_sumOf : zCe yX3_sumOf cX3_sumOf 4 (some FieldType.int) 1 := ⟨zc_X3_sumOf, zn_X3, ⟨by decide, by decide⟩, by decide +kernel⟩
theorem zcv_X3_sumOf : zCv yX3_sumOf := ⟨zi_X3_sumOf, zs_X3_sumOf⟩
theorem zce_X3_pairs : zCe yX3_pairs cX3_pairs 3 (some FieldType.int) 0 := ⟨zc_X3_pairs, zn_X3, ⟨by decide, by decide⟩, by decide +kernel⟩
theorem zcv_X3_pairs : zCv yX3_pairs := ⟨zi_X3_pairs, zs_X3_pairs⟩
theorem zce_X3_leastNeed : zCe yX3_leastNeed cX3_leastNeed 4 (some FieldType.int) 1 := ⟨zc_X3_leastNeed, zn_X3, ⟨by decide, by decide⟩, by decide +kernel⟩
theorem zcv_X3_leastNeed : zCv yX3_leastNeed := ⟨zi_X3_leastNeed, zs_X3_leastNeed⟩
theorem zce_X3_greatestNeed : zCe yX3_greatestNeed cX3_greatestNeed 4 (some FieldType.int) 1 := ⟨zc_X3_greatestNeed, zn_X3, ⟨by decide, by decide⟩, by decide +kernel⟩
theorem zcv_X3_greatestNeed : zCv yX3_greatestNeed := ⟨zi_X3_greatestNeed, zs_X3_greatestNeed⟩
theorem zce_X3_zonesWithoutNeed : zCe yX3_zonesWithoutNeed cX3_zonesWithoutNeed 3 (some FieldType.int) 0 := ⟨zc_X3_zonesWithoutNeed, zn_X3, ⟨by decide, by decide⟩, by decide +kernel⟩
theorem zcv_X3_zonesWithoutNeed : zCv yX3_zonesWithoutNeed := ⟨zi_X3_zonesWithoutNeed, zs_X3_zonesWithoutNeed⟩
theorem zce_X3_commonNeed : zCe yX3_commonNeed cX3_commonNeed 5 (some FieldType.int) 1 := ⟨zc_X3_commonNeed, zn_X3, ⟨by decide, by decide⟩, by decide +kernel⟩
theorem zcv_X3_commonNeed : zCv yX3_commonNeed := ⟨zi_X3_commonNeed, zs_X3_commonNeed⟩
theorem zce_X3_readStrip : zCe yX3_readStrip cX3_readStrip 8 (some FieldType.int) 4 := ⟨zc_X3_readStrip, zn_X3, ⟨by decide, by decide⟩, by decide +kernel⟩
theorem zcv_X3_readStrip : zCv yX3_readStrip := ⟨zi_X3_readStrip, zs_X3_readStrip⟩
theorem zce_X3_stripTime : zCe yX3_stripTime cX3_stripTime 3 (some FieldType.int) 2 := ⟨zc_X3_stripTime, zn_X3, ⟨by decide, by decide⟩, by decide +kernel⟩
theorem zce_X3_makePlan : zCe yX3_makePlan cX3_makePlan 3 (none : Option FieldType) 0 := ⟨zc_X3_makePlan, zn_X3, ⟨by decide, by decide⟩, by decide +kernel⟩
theorem zcv_X3_makePlan : zCv yX3_makePlan := ⟨zi_X3_makePlan, zs_X3_makePlan⟩
theorem zce_X3_middleNeed : zCe yX3_middleNeed cX3_middleNeed 4 (some FieldType.int) 0 := ⟨zc_X3_middleNeed, zn_X3, ⟨by decide, by decide⟩, by decide +kernel⟩
theorem zcv_X3_middleNeed : zCv yX3_middleNeed := ⟨zi_X3_middleNeed, zs_X3_middleNeed⟩
theorem zce_X3_sortIn : zCe yX3_sortIn cX3_sortIn 4 (none : Option FieldType) 2 := ⟨zc_X3_sortIn, zn_X3, ⟨by decide, by decide⟩, by decide +kernel⟩
theorem zcv_X3_sortIn : zCv yX3_sortIn := ⟨zi_X3_sortIn, zs_X3_sortIn⟩
theorem zce_X3_correct : zCe yX3_correct cX3_correct 4 (none : Option FieldType) 1 := ⟨zc_X3_correct, zn_X3, ⟨by decide, by decide⟩, by decide +kernel⟩
theorem zcv_X3_correct : zCv yX3_correct := ⟨zi_X3_correct, zs_X3_correct⟩
theorem zce_X4_init : zCe yX4_init cX4_init 1 (none : Option FieldType) 0 := ⟨zc_X4_init, zn_X4, ⟨by decide, by decide⟩, by decide +kernel⟩
theorem zce_X4_zone : zCe yX4_zone cX4_zone 3 (some FieldType.int) 2 := ⟨zc_X4_zone, zn_X4, ⟨by decide, by decide⟩, by decide +kernel⟩
theorem zcv_X4_zone : zCv yX4_zone := ⟨zi_X4_zone, zs_X4_zone⟩
theorem zce_X4_want : zCe yX4_want cX4_want 4 (some FieldType.int) 2 := ⟨zc_X4_want, zn_X4, ⟨by decide, by decide⟩, by decide +kernel⟩
theorem zcv_X4_want : zCv yX4_want := ⟨zi_X4_want, zs_X4_want⟩
theorem zce_X4_link : zCe yX4_link cX4_link 4 (some FieldType.int) 2 := ⟨zc_X4_link, zn_X4, ⟨by decide, by decide⟩, by decide +kernel⟩
theorem zcv_X4_link : zCv yX4_link := ⟨zi_X4_link, zs_X4_link⟩
theorem zce_X4_expose : zCe yX4_expose cX4_expose 2 (some FieldType.int) 1 := ⟨zc_X4_expose, zn_X4, ⟨by decide, by decide⟩, by decide +kernel⟩
theorem zcv_X4_expose : zCv yX4_expose := ⟨zi_X4_expose, zs_X4_expose⟩
theorem zce_X4_burn : zCe yX4_burn cX4_burn 3 (some FieldType.int) 2 := ⟨zc_X4_burn, zn_X4, ⟨by decide, by decide⟩, by decide +kernel⟩
theorem zcv_X4_burn : zCv yX4_burn := ⟨zi_X4_burn, zs_X4_burn⟩
theorem zce_X4_hold : zCe yX4_hold cX4_hold 3 (some FieldType.int) 2 := ⟨zc_X4_hold, zn_X4, ⟨by decide, by decide⟩, by decide +kernel⟩
theorem zcv_X4_hold : zCv yX4_hold := ⟨zi_X4_hold, zs_X4_hold⟩
theorem zce_X4_paper : zCe yX4_paper cX4_paper 3 (some FieldType.int) 2 := ⟨zc_X4_paper, zn_X4, ⟨by decide, by decide⟩, by decide +kernel⟩
theorem zcv_X4_paper : zCv yX4_paper := ⟨zi_X4_paper, zs_X4_paper⟩
theorem zce_X4_plan : zCe yX4_plan cX4_plan 1 (some FieldType.int) 0 := ⟨zc_X4_plan, zn_X4, ⟨by decide, by decide⟩, by decide +kernel⟩
theorem zcv_X4_plan : zCv yX4_plan := ⟨zi_X4_plan, zs_X4_plan⟩
theorem zce_X4_set : zCe yX4_set cX4_set 3 (some FieldType.int) 1 := ⟨zc_X4_set, zn_X4, ⟨by decide, by decide⟩, by decide +kernel⟩
theorem zcv_X4_set : zCv yX4_set := ⟨zi_X4_set, zs_X4_set⟩
theorem zce_X4_append : zCe yX4_append cX4_append 2 (some FieldType.int) 1 := ⟨zc_X4_append, zn_X4, ⟨by decide, by decide⟩, by decide +kernel⟩
theorem zcv_X4_append : zCv yX4_append := ⟨zi_X4_append, zs_X4_append⟩
theorem zce_X4_clearBuffer : zCe yX4_clearBuffer cX4_clearBuffer 2 (some FieldType.int) 0 := ⟨zc_X4_clearBuffer, zn_X4, ⟨by decide, by decide⟩, by decide +kernel⟩
theorem zcv_X4_clearBuffer : zCv yX4_clearBuffer := ⟨zi_X4_clearBuffer, zs_X4_clearBuffer⟩
theorem zce_X4_firstError : zCe yX4_firstError cX4_firstError 2 (some FieldType.int) 0 := ⟨zc_X4_firstError, zn_X4, ⟨by decide, by decide⟩, by decide +kernel⟩
theorem zcv_X4_firstError : zCv yX4_firstError := ⟨zi_X4_firstError, zs_X4_firstError⟩
theorem zce_X4_run : zCe yX4_run cX4_run 2 (some FieldType.int) 0 := ⟨zc_X4_run, zn_X4, ⟨by decide, by decide⟩, by decide +kernel⟩
theorem zcv_X4_run : zCv yX4_run := ⟨zi_X4_run, zs_X4_run⟩
theorem zce_X4_undo : zCe yX4_undo cX4_undo 1 (some FieldType.int) 0 := ⟨zc_X4_undo, zn_X4, ⟨by decide, by decide⟩, by decide +kernel⟩
theorem zcv_X4_undo : zCv yX4_undo := ⟨zi_X4_undo, zs_X4_undo⟩
theorem zce_X4_zoneOf : zCe yX4_zoneOf cX4_zoneOf 3 (some FieldType.int) 2 := ⟨zc_X4_zoneOf, zn_X4, ⟨by decide, by decide⟩, by decide +kernel⟩
theorem zcv_X4_zoneOf : zCv yX4_zoneOf := ⟨zi_X4_zoneOf, zs_X4_zoneOf⟩
theorem zce_X4_mark : zCe yX4_mark cX4_mark 2 (some FieldType.int) 1 := ⟨zc_X4_mark, zn_X4, ⟨by decide, by decide⟩, by decide +kernel⟩
theorem zcv_X4_mark : zCv yX4_mark := ⟨zi_X4_mark, zs_X4_mark⟩
theorem zce_X4_strip : zCe yX4_strip cX4_strip 5 (some FieldType.int) 4 := ⟨zc_X4_strip, zn_X4, ⟨by decide, by decide⟩, by decide +kernel⟩
theorem zcv_X4_strip : zCv yX4_strip := ⟨zi_X4_strip, zs_X4_strip⟩
theorem zce_X4_count : zCe yX4_count cX4_count 2 (some FieldType.int) 1 := ⟨zc_X4_count, zn_X4, ⟨by decide, by decide⟩, by decide +kernel⟩
theorem zcv_X4_count : zCv yX4_count := ⟨zi_X4_count, zs_X4_count⟩
theorem zce_X4_ifExposed : zCe yX4_ifExposed cX4_ifExposed 3 (some FieldType.int) 2 := ⟨zc_X4_ifExposed, zn_X4, ⟨by decide, by decide⟩, by decide +kernel⟩
theorem zcv_X4_ifExposed : zCv yX4_ifExposed := ⟨zi_X4_ifExposed, zs_X4_ifExposed⟩
theorem zce_X4_bestTime : zCe yX4_bestTime cX4_bestTime 5 (some FieldType.int) 0 := ⟨zc_X4_bestTime, zn_X4, ⟨by decide, by decide⟩, by decide +kernel⟩
theorem zcv_X4_bestTime : zCv yX4_bestTime := ⟨zi_X4_bestTime, zs_X4_bestTime⟩
theorem zce_X4_bestGrade : zCe yX4_bestGrade cX4_bestGrade 7 (some FieldType.int) 0 := ⟨zc_X4_bestGrade, zn_X4, ⟨by decide, by decide⟩, by decide +kernel⟩
theorem zcv_X4_bestGrade : zCv yX4_bestGrade := ⟨zi_X4_bestGrade, zs_X4_bestGrade⟩
theorem zce_X4_ifBurned : zCe yX4_ifBurned cX4_ifBurned 4 (some FieldType.int) 3 := ⟨zc_X4_ifBurned, zn_X4, ⟨by decide, by decide⟩, by decide +kernel⟩
theorem zcv_X4_ifBurned : zCv yX4_ifBurned := ⟨zi_X4_ifBurned, zs_X4_ifBurned⟩
theorem zce_X4_common : zCe yX4_common cX4_common 2 (some FieldType.int) 1 := ⟨zc_X4_common, zn_X4, ⟨by decide, by decide⟩, by decide +kernel⟩
theorem zcv_X4_common : zCv yX4_common := ⟨zi_X4_common, zs_X4_common⟩
theorem zce_X4_rightShare : zCe yX4_rightShare cX4_rightShare 1 (some FieldType.double) 0 := ⟨zc_X4_rightShare, zn_X4, ⟨by decide, by decide⟩, by decide +kernel⟩
theorem zcv_X4_rightShare : zCv yX4_rightShare := ⟨zi_X4_rightShare, zs_X4_rightShare⟩
theorem zce_X4_digest : zCe yX4_digest cX4_digest 5 (some FieldType.long) 0 := ⟨zc_X4_digest, zn_X4, ⟨by decide, by decide⟩, by decide +kernel⟩
theorem zcv_X4_digest : zCv yX4_digest := ⟨zi_X4_digest, zs_X4_digest⟩
theorem zce_X4_mixed : zCe yX4_mixed cX4_mixed 4 (some FieldType.long) 2 := ⟨zc_X4_mixed, zn_X4, ⟨by decide, by decide⟩, by decide +kernel⟩
theorem zce_X4_bitsOf : zCe yX4_bitsOf cX4_bitsOf 6 (some FieldType.long) 1 := ⟨zc_X4_bitsOf, zn_X4, ⟨by decide, by decide⟩, by decide +kernel⟩
theorem zce_X4_isWithin : zCe yX4_isWithin cX4_isWithin 3 (some FieldType.boolean) 3 := ⟨zc_X4_isWithin, zn_X4, ⟨by decide, by decide⟩, by decide +kernel⟩
theorem zce_X4_numberOf : zCe yX4_numberOf cX4_numberOf 2 (some FieldType.int) 1 := ⟨zc_X4_numberOf, zn_X4, ⟨by decide, by decide⟩, by decide +kernel⟩
theorem zcv_X4_numberOf : zCv yX4_numberOf := ⟨zi_X4_numberOf, zs_X4_numberOf⟩
theorem zce_X4_tryTime : zCe yX4_tryTime cX4_tryTime 3 (some FieldType.int) 2 := ⟨zc_X4_tryTime, zn_X4, ⟨by decide, by decide⟩, by decide +kernel⟩
theorem zcv_X4_tryTime : zCv yX4_tryTime := ⟨zi_X4_tryTime, zs_X4_tryTime⟩
theorem zce_X4_tryBurn : zCe yX4_tryBurn cX4_tryBurn 4 (some FieldType.int) 3 := ⟨zc_X4_tryBurn, zn_X4, ⟨by decide, by decide⟩, by decide +kernel⟩
theorem zcv_X4_tryBurn : zCv yX4_tryBurn := ⟨zi_X4_tryBurn, zs_X4_tryBurn⟩
theorem zce_X4_doOrders : zCe yX4_doOrders cX4_doOrders 3 (some FieldType.int) 0 := ⟨zc_X4_doOrders, zn_X4, ⟨by decide, by decide⟩, by decide +kernel⟩
theorem zcv_X4_doOrders : zCv yX4_doOrders := ⟨zi_X4_doOrders, zs_X4_doOrders⟩
theorem zce_X4_isLastOfOrder : zCe yX4_isLastOfOrder cX4_isLastOfOrder 3 (some FieldType.boolean) 1 := ⟨zc_X4_isLastOfOrder, zn_X4, ⟨by decide, by decide⟩, by decide +kernel⟩
theorem zcv_X4_isLastOfOrder : zCv yX4_isLastOfOrder := ⟨zi_X4_isLastOfOrder, zs_X4_isLastOfOrder⟩
theorem zce_X4_doOrder : zCe yX4_doOrder cX4_doOrder 3 (some FieldType.boolean) 0 := ⟨zc_X4_doOrder, zn_X4, ⟨by decide, by decide⟩, by decide +kernel⟩
theorem zcv_X4_doOrder : zCv yX4_doOrder := ⟨zi_X4_doOrder, zs_X4_doOrder⟩
theorem zce_X5_init : zCe yX5_init cX5_init 1 (none : Option FieldType) 0 := ⟨zc_X5_init, zn_X5, ⟨by decide, by decide⟩, by decide +kernel⟩
theorem zce_X5_thrown : zCe yX5_thrown cX5_thrown 1 (some FieldType.int) 0 := ⟨zc_X5_thrown, zn_X5, ⟨by decide, by decide⟩, by decide +kernel⟩
theorem zcv_X5_thrown : zCv yX5_thrown := ⟨zi_X5_thrown, zs_X5_thrown⟩
theorem zce_X5_in : zCe yX5_in cX5_in 3 (some FieldType.boolean) 3 := ⟨zc_X5_in, zn_X5, ⟨by decide, by decide⟩, by decide +kernel⟩
theorem zce_X5_holds : zCe yX5_holds cX5_holds 2 (some FieldType.boolean) 1 := ⟨zc_X5_holds, zn_X5, ⟨by decide, by decide⟩, by decide +kernel⟩
theorem zcv_X5_holds : zCv yX5_holds := ⟨zi_X5_holds, zs_X5_holds⟩
theorem zce_X5_of : zCe yX5_of cX5_of 2 (some FieldType.int) 2 := ⟨zc_X5_of, zn_X5, ⟨by decide, by decide⟩, by decide +kernel⟩
theorem zce_X5_isZone : zCe yX5_isZone cX5_isZone 2 (some FieldType.boolean) 1 := ⟨zc_X5_isZone, zn_X5, ⟨by decide, by decide⟩, by decide +kernel⟩
theorem zcv_X5_isZone : zCv yX5_isZone := ⟨zi_X5_isZone, zs_X5_isZone⟩
theorem zce_X5_save : zCe yX5_save cX5_save 2 (none : Option FieldType) 0 := ⟨zc_X5_save, zn_X5, ⟨by decide, by decide⟩, by decide +kernel⟩
theorem zcv_X5_save : zCv yX5_save := ⟨zi_X5_save, zs_X5_save⟩
theorem zce_X5_putAside : zCe yX5_putAside cX5_putAside 2 (none : Option FieldType) 0 := ⟨zc_X5_putAside, zn_X5, ⟨by decide, by decide⟩, by decide +kernel⟩
theorem zcv_X5_putAside : zCv yX5_putAside := ⟨zi_X5_putAside, zs_X5_putAside⟩
theorem zce_X5_putBack : zCe yX5_putBack cX5_putBack 2 (none : Option FieldType) 0 := ⟨zc_X5_putBack, zn_X5, ⟨by decide, by decide⟩, by decide +kernel⟩
theorem zcv_X5_putBack : zCv yX5_putBack := ⟨zi_X5_putBack, zs_X5_putBack⟩
theorem zce_X5_lightOf : zCe yX5_lightOf cX5_lightOf 6 (some FieldType.int) 2 := ⟨zc_X5_lightOf, zn_X5, ⟨by decide, by decide⟩, by decide +kernel⟩
theorem zce_X5_findMarks : zCe yX5_findMarks cX5_findMarks 5 (none : Option FieldType) 0 := ⟨zc_X5_findMarks, zn_X5, ⟨by decide, by decide⟩, by decide +kernel⟩
theorem zcv_X5_findMarks : zCv yX5_findMarks := ⟨zi_X5_findMarks, zs_X5_findMarks⟩
theorem zce_X5_toneOf : zCe yX5_toneOf cX5_toneOf 4 (some FieldType.int) 1 := ⟨zc_X5_toneOf, zn_X5, ⟨by decide, by decide⟩, by decide +kernel⟩
theorem zcv_X5_toneOf : zCv yX5_toneOf := ⟨zi_X5_toneOf, zs_X5_toneOf⟩
theorem zce_X5_toneBy : zCe yX5_toneBy cX5_toneBy 3 (some FieldType.int) 2 := ⟨zc_X5_toneBy, zn_X5, ⟨by decide, by decide⟩, by decide +kernel⟩
theorem zcv_X5_toneBy : zCv yX5_toneBy := ⟨zi_X5_toneBy, zs_X5_toneBy⟩
theorem zce_X5_spilled : zCe yX5_spilled cX5_spilled 4 (some FieldType.int) 1 := ⟨zc_X5_spilled, zn_X5, ⟨by decide, by decide⟩, by decide +kernel⟩
theorem zcv_X5_spilled : zCv yX5_spilled := ⟨zi_X5_spilled, zs_X5_spilled⟩
theorem zce_X5_timeOf : zCe yX5_timeOf cX5_timeOf 4 (some FieldType.int) 1 := ⟨zc_X5_timeOf, zn_X5, ⟨by decide, by decide⟩, by decide +kernel⟩
theorem zcv_X5_timeOf : zCv yX5_timeOf := ⟨zi_X5_timeOf, zs_X5_timeOf⟩
theorem zce_X5_tone : zCe yX5_tone cX5_tone 2 (some FieldType.int) 1 := ⟨zc_X5_tone, zn_X5, ⟨by decide, by decide⟩, by decide +kernel⟩
theorem zcv_X5_tone : zCv yX5_tone := ⟨zi_X5_tone, zs_X5_tone⟩
theorem zce_X5_isRight : zCe yX5_isRight cX5_isRight 2 (some FieldType.boolean) 1 := ⟨zc_X5_isRight, zn_X5, ⟨by decide, by decide⟩, by decide +kernel⟩
theorem zcv_X5_isRight : zCv yX5_isRight := ⟨zi_X5_isRight, zs_X5_isRight⟩
theorem zce_X5_right : zCe yX5_right cX5_right 3 (some FieldType.int) 0 := ⟨zc_X5_right, zn_X5, ⟨by decide, by decide⟩, by decide +kernel⟩
theorem zcv_X5_right : zCv yX5_right := ⟨zi_X5_right, zs_X5_right⟩
theorem zce_X5_leastFor : zCe yX5_leastFor cX5_leastFor 6 (some FieldType.int) 2 := ⟨zc_X5_leastFor, zn_X5, ⟨by decide, by decide⟩, by decide +kernel⟩
theorem zcv_X5_leastFor : zCv yX5_leastFor := ⟨zi_X5_leastFor, zs_X5_leastFor⟩
theorem zce_X5_leastNeeded : zCe yX5_leastNeeded cX5_leastNeeded 3 (some FieldType.int) 1 := ⟨zc_X5_leastNeeded, zn_X5, ⟨by decide, by decide⟩, by decide +kernel⟩
theorem zcv_X5_leastNeeded : zCv yX5_leastNeeded := ⟨zi_X5_leastNeeded, zs_X5_leastNeeded⟩
theorem zce_X5_greatestNeeded : zCe yX5_greatestNeeded cX5_greatestNeeded 2 (some FieldType.int) 1 := ⟨zc_X5_greatestNeeded, zn_X5, ⟨by decide, by decide⟩, by decide +kernel⟩
theorem zcv_X5_greatestNeeded : zCv yX5_greatestNeeded := ⟨zi_X5_greatestNeeded, zs_X5_greatestNeeded⟩
theorem zce_X5_zones : zCe yX5_zones cX5_zones 4 (some FieldType.int) 2 := ⟨zc_X5_zones, zn_X5, ⟨by decide, by decide⟩, by decide +kernel⟩
theorem zcv_X5_zones : zCv yX5_zones := ⟨zi_X5_zones, zs_X5_zones⟩
theorem zce_X5_zoneFault : zCe yX5_zoneFault cX5_zoneFault 3 (some FieldType.int) 2 := ⟨zc_X5_zoneFault, zn_X5, ⟨by decide, by decide⟩, by decide +kernel⟩
theorem zcv_X5_zoneFault : zCv yX5_zoneFault := ⟨zi_X5_zoneFault, zs_X5_zoneFault⟩
theorem zce_X5_zone : zCe yX5_zone cX5_zone 3 (some FieldType.int) 2 := ⟨zc_X5_zone, zn_X5, ⟨by decide, by decide⟩, by decide +kernel⟩
theorem zcv_X5_zone : zCv yX5_zone := ⟨zi_X5_zone, zs_X5_zone⟩
theorem zce_X5_want : zCe yX5_want cX5_want 4 (some FieldType.int) 2 := ⟨zc_X5_want, zn_X5, ⟨by decide, by decide⟩, by decide +kernel⟩
theorem zcv_X5_want : zCv yX5_want := ⟨zi_X5_want, zs_X5_want⟩
theorem zce_X5_areLinked : zCe yX5_areLinked cX5_areLinked 3 (some FieldType.boolean) 2 := ⟨zc_X5_areLinked, zn_X5, ⟨by decide, by decide⟩, by decide +kernel⟩
theorem zcv_X5_areLinked : zCv yX5_areLinked := ⟨zi_X5_areLinked, zs_X5_areLinked⟩
theorem zce_X5_turnLink : zCe yX5_turnLink cX5_turnLink 3 (none : Option FieldType) 2 := ⟨zc_X5_turnLink, zn_X5, ⟨by decide, by decide⟩, by decide +kernel⟩
theorem zcv_X5_turnLink : zCv yX5_turnLink := ⟨zi_X5_turnLink, zs_X5_turnLink⟩
theorem zce_X5_link : zCe yX5_link cX5_link 3 (some FieldType.int) 2 := ⟨zc_X5_link, zn_X5, ⟨by decide, by decide⟩, by decide +kernel⟩
theorem zcv_X5_link : zCv yX5_link := ⟨zi_X5_link, zs_X5_link⟩
theorem zce_X5_exposes : zCe yX5_exposes cX5_exposes 2 (some FieldType.int) 1 := ⟨zc_X5_exposes, zn_X5, ⟨by decide, by decide⟩, by decide +kernel⟩
theorem zcv_X5_exposes : zCv yX5_exposes := ⟨zi_X5_exposes, zs_X5_exposes⟩
theorem zce_X5_expose : zCe yX5_expose cX5_expose 2 (some FieldType.int) 1 := ⟨zc_X5_expose, zn_X5, ⟨by decide, by decide⟩, by decide +kernel⟩
theorem zcv_X5_expose : zCv yX5_expose := ⟨zi_X5_expose, zs_X5_expose⟩
theorem zce_X5_partFault : zCe yX5_partFault cX5_partFault 3 (some FieldType.int) 2 := ⟨zc_X5_partFault, zn_X5, ⟨by decide, by decide⟩, by decide +kernel⟩
theorem zcv_X5_partFault : zCv yX5_partFault := ⟨zi_X5_partFault, zs_X5_partFault⟩
theorem zce_X5_parts : zCe yX5_parts cX5_parts 4 (some FieldType.int) 3 := ⟨zc_X5_parts, zn_X5, ⟨by decide, by decide⟩, by decide +kernel⟩
theorem zcv_X5_parts : zCv yX5_parts := ⟨zi_X5_parts, zs_X5_parts⟩
theorem zce_X5_burn : zCe yX5_burn cX5_burn 3 (some FieldType.int) 2 := ⟨zc_X5_burn, zn_X5, ⟨by decide, by decide⟩, by decide +kernel⟩
theorem zcv_X5_burn : zCv yX5_burn := ⟨zi_X5_burn, zs_X5_burn⟩
theorem zce_X5_hold : zCe yX5_hold cX5_hold 3 (some FieldType.int) 2 := ⟨zc_X5_hold, zn_X5, ⟨by decide, by decide⟩, by decide +kernel⟩
theorem zcv_X5_hold : zCv yX5_hold := ⟨zi_X5_hold, zs_X5_hold⟩
theorem zce_X5_paper : zCe yX5_paper cX5_paper 3 (some FieldType.int) 2 := ⟨zc_X5_paper, zn_X5, ⟨by decide, by decide⟩, by decide +kernel⟩
theorem zcv_X5_paper : zCv yX5_paper := ⟨zi_X5_paper, zs_X5_paper⟩
theorem zce_X5_middleTime : zCe yX5_middleTime cX5_middleTime 5 (some FieldType.int) 0 := ⟨zc_X5_middleTime, zn_X5, ⟨by decide, by decide⟩, by decide +kernel⟩
theorem zcv_X5_middleTime : zCv yX5_middleTime := ⟨zi_X5_middleTime, zs_X5_middleTime⟩
theorem zce_X5_plans : zCe yX5_plans cX5_plans 6 (some FieldType.int) 0 := ⟨zc_X5_plans, zn_X5, ⟨by decide, by decide⟩, by decide +kernel⟩
theorem zcv_X5_plans : zCv yX5_plans := ⟨zi_X5_plans, zs_X5_plans⟩
theorem zce_X5_plan : zCe yX5_plan cX5_plan 1 (some FieldType.int) 0 := ⟨zc_X5_plan, zn_X5, ⟨by decide, by decide⟩, by decide +kernel⟩
theorem zcv_X5_plan : zCv yX5_plan := ⟨zi_X5_plan, zs_X5_plan⟩
theorem zce_X5_set : zCe yX5_set cX5_set 3 (some FieldType.int) 1 := ⟨zc_X5_set, zn_X5, ⟨by decide, by decide⟩, by decide +kernel⟩
theorem zcv_X5_set : zCv yX5_set := ⟨zi_X5_set, zs_X5_set⟩
theorem zce_X5_append : zCe yX5_append cX5_append 2 (some FieldType.int) 1 := ⟨zc_X5_append, zn_X5, ⟨by decide, by decide⟩, by decide +kernel⟩
theorem zcv_X5_append : zCv yX5_append := ⟨zi_X5_append, zs_X5_append⟩
theorem zce_X5_clearBuffer : zCe yX5_clearBuffer cX5_clearBuffer 2 (some FieldType.int) 0 := ⟨zc_X5_clearBuffer, zn_X5, ⟨by decide, by decide⟩, by decide +kernel⟩
theorem zcv_X5_clearBuffer : zCv yX5_clearBuffer := ⟨zi_X5_clearBuffer, zs_X5_clearBuffer⟩
theorem zce_X5_sign : zCe yX5_sign cX5_sign 4 (some FieldType.int) 2 := ⟨zc_X5_sign, zn_X5, ⟨by decide, by decide⟩, by decide +kernel⟩
theorem zcv_X5_sign : zCv yX5_sign := ⟨zi_X5_sign, zs_X5_sign⟩
theorem zce_X5_number : zCe yX5_number cX5_number 4 (some FieldType.int) 2 := ⟨zc_X5_number, zn_X5, ⟨by decide, by decide⟩, by decide +kernel⟩
theorem zcv_X5_number : zCv yX5_number := ⟨zi_X5_number, zs_X5_number⟩
theorem zce_X5_order : zCe yX5_order cX5_order 3 (none : Option FieldType) 0 := ⟨zc_X5_order, zn_X5, ⟨by decide, by decide⟩, by decide +kernel⟩
theorem zcv_X5_order : zCv yX5_order := ⟨zi_X5_order, zs_X5_order⟩
theorem zce_X5_does : zCe yX5_does cX5_does 3 (some FieldType.boolean) 0 := ⟨zc_X5_does, zn_X5, ⟨by decide, by decide⟩, by decide +kernel⟩
theorem zcv_X5_does : zCv yX5_does := ⟨zi_X5_does, zs_X5_does⟩
theorem zce_X5_go : zCe yX5_go cX5_go 6 (some FieldType.int) 1 := ⟨zc_X5_go, zn_X5, ⟨by decide, by decide⟩, by decide +kernel⟩
theorem zcv_X5_go : zCv yX5_go := ⟨zi_X5_go, zs_X5_go⟩
theorem zce_X5_firstError : zCe yX5_firstError cX5_firstError 2 (some FieldType.int) 0 := ⟨zc_X5_firstError, zn_X5, ⟨by decide, by decide⟩, by decide +kernel⟩
theorem zcv_X5_firstError : zCv yX5_firstError := ⟨zi_X5_firstError, zs_X5_firstError⟩
theorem zce_X5_run : zCe yX5_run cX5_run 3 (some FieldType.int) 0 := ⟨zc_X5_run, zn_X5, ⟨by decide, by decide⟩, by decide +kernel⟩
theorem zcv_X5_run : zCv yX5_run := ⟨zi_X5_run, zs_X5_run⟩
theorem zce_X5_undo : zCe yX5_undo cX5_undo 2 (some FieldType.int) 0 := ⟨zc_X5_undo, zn_X5, ⟨by decide, by decide⟩, by decide +kernel⟩
theorem zcv_X5_undo : zCv yX5_undo := ⟨zi_X5_undo, zs_X5_undo⟩
theorem zce_X5_ofZone : zCe yX5_ofZone cX5_ofZone 3 (some FieldType.int) 2 := ⟨zc_X5_ofZone, zn_X5, ⟨by decide, by decide⟩, by decide +kernel⟩
theorem zcv_X5_ofZone : zCv yX5_ofZone := ⟨zi_X5_ofZone, zs_X5_ofZone⟩
theorem zce_X5_zoneOf : zCe yX5_zoneOf cX5_zoneOf 3 (some FieldType.int) 2 := ⟨zc_X5_zoneOf, zn_X5, ⟨by decide, by decide⟩, by decide +kernel⟩
theorem zcv_X5_zoneOf : zCv yX5_zoneOf := ⟨zi_X5_zoneOf, zs_X5_zoneOf⟩
theorem zce_X5_markOf : zCe yX5_markOf cX5_markOf 2 (some FieldType.int) 1 := ⟨zc_X5_markOf, zn_X5, ⟨by decide, by decide⟩, by decide +kernel⟩
theorem zcv_X5_markOf : zCv yX5_markOf := ⟨zi_X5_markOf, zs_X5_markOf⟩
theorem zce_X5_mark : zCe yX5_mark cX5_mark 2 (some FieldType.int) 1 := ⟨zc_X5_mark, zn_X5, ⟨by decide, by decide⟩, by decide +kernel⟩
theorem zcv_X5_mark : zCv yX5_mark := ⟨zi_X5_mark, zs_X5_mark⟩
theorem zce_X5_stripTime : zCe yX5_stripTime cX5_stripTime 3 (some FieldType.int) 2 := ⟨zc_X5_stripTime, zn_X5, ⟨by decide, by decide⟩, by decide +kernel⟩
theorem zce_X5_stripOf : zCe yX5_stripOf cX5_stripOf 10 (some FieldType.int) 4 := ⟨zc_X5_stripOf, zn_X5, ⟨by decide, by decide⟩, by decide +kernel⟩
theorem zcv_X5_stripOf : zCv yX5_stripOf := ⟨zi_X5_stripOf, zs_X5_stripOf⟩
theorem zce_X5_strip : zCe yX5_strip cX5_strip 6 (some FieldType.int) 4 := ⟨zc_X5_strip, zn_X5, ⟨by decide, by decide⟩, by decide +kernel⟩
theorem zcv_X5_strip : zCv yX5_strip := ⟨zi_X5_strip, zs_X5_strip⟩
theorem zce_X5_sum : zCe yX5_sum cX5_sum 7 (some FieldType.int) 1 := ⟨zc_X5_sum, zn_X5, ⟨by decide, by decide⟩, by decide +kernel⟩
theorem zcv_X5_sum : zCv yX5_sum := ⟨zi_X5_sum, zs_X5_sum⟩
theorem zce_X5_counted : zCe yX5_counted cX5_counted 2 (some FieldType.int) 1 := ⟨zc_X5_counted, zn_X5, ⟨by decide, by decide⟩, by decide +kernel⟩
theorem zcv_X5_counted : zCv yX5_counted := ⟨zi_X5_counted, zs_X5_counted⟩
theorem zce_X5_count : zCe yX5_count cX5_count 2 (some FieldType.int) 1 := ⟨zc_X5_count, zn_X5, ⟨by decide, by decide⟩, by decide +kernel⟩
theorem zcv_X5_count : zCv yX5_count := ⟨zi_X5_count, zs_X5_count⟩
theorem zce_X5_off : zCe yX5_off cX5_off 4 (some FieldType.int) 0 := ⟨zc_X5_off, zn_X5, ⟨by decide, by decide⟩, by decide +kernel⟩
theorem zcv_X5_off : zCv yX5_off := ⟨zi_X5_off, zs_X5_off⟩
theorem zce_X5_exposed : zCe yX5_exposed cX5_exposed 5 (some FieldType.int) 2 := ⟨zc_X5_exposed, zn_X5, ⟨by decide, by decide⟩, by decide +kernel⟩
theorem zcv_X5_exposed : zCv yX5_exposed := ⟨zi_X5_exposed, zs_X5_exposed⟩
theorem zce_X5_ifExposed : zCe yX5_ifExposed cX5_ifExposed 3 (some FieldType.int) 2 := ⟨zc_X5_ifExposed, zn_X5, ⟨by decide, by decide⟩, by decide +kernel⟩
theorem zcv_X5_ifExposed : zCv yX5_ifExposed := ⟨zi_X5_ifExposed, zs_X5_ifExposed⟩
theorem zce_X5_best : zCe yX5_best cX5_best 5 (some FieldType.int) 0 := ⟨zc_X5_best, zn_X5, ⟨by decide, by decide⟩, by decide +kernel⟩
theorem zcv_X5_best : zCv yX5_best := ⟨zi_X5_best, zs_X5_best⟩
theorem zce_X5_bestTime : zCe yX5_bestTime cX5_bestTime 1 (some FieldType.int) 0 := ⟨zc_X5_bestTime, zn_X5, ⟨by decide, by decide⟩, by decide +kernel⟩
theorem zcv_X5_bestTime : zCv yX5_bestTime := ⟨zi_X5_bestTime, zs_X5_bestTime⟩
theorem zce_X5_bestPaper : zCe yX5_bestPaper cX5_bestPaper 8 (some FieldType.int) 0 := ⟨zc_X5_bestPaper, zn_X5, ⟨by decide, by decide⟩, by decide +kernel⟩
theorem zcv_X5_bestPaper : zCv yX5_bestPaper := ⟨zi_X5_bestPaper, zs_X5_bestPaper⟩
theorem zce_X5_bestGrade : zCe yX5_bestGrade cX5_bestGrade 1 (some FieldType.int) 0 := ⟨zc_X5_bestGrade, zn_X5, ⟨by decide, by decide⟩, by decide +kernel⟩
theorem zcv_X5_bestGrade : zCv yX5_bestGrade := ⟨zi_X5_bestGrade, zs_X5_bestGrade⟩
theorem zce_X5_burned : zCe yX5_burned cX5_burned 6 (some FieldType.int) 3 := ⟨zc_X5_burned, zn_X5, ⟨by decide, by decide⟩, by decide +kernel⟩
theorem zcv_X5_burned : zCv yX5_burned := ⟨zi_X5_burned, zs_X5_burned⟩
theorem zce_X5_ifBurned : zCe yX5_ifBurned cX5_ifBurned 5 (some FieldType.int) 3 := ⟨zc_X5_ifBurned, zn_X5, ⟨by decide, by decide⟩, by decide +kernel⟩
theorem zcv_X5_ifBurned : zCv yX5_ifBurned := ⟨zi_X5_ifBurned, zs_X5_ifBurned⟩
theorem zce_X5_together : zCe yX5_together cX5_together 7 (some FieldType.int) 1 := ⟨zc_X5_together, zn_X5, ⟨by decide, by decide⟩, by decide +kernel⟩
theorem zcv_X5_together : zCv yX5_together := ⟨zi_X5_together, zs_X5_together⟩
theorem zce_X5_common : zCe yX5_common cX5_common 2 (some FieldType.int) 1 := ⟨zc_X5_common, zn_X5, ⟨by decide, by decide⟩, by decide +kernel⟩
theorem zcv_X5_common : zCv yX5_common := ⟨zi_X5_common, zs_X5_common⟩
theorem zce_X5_share : zCe yX5_share cX5_share 1 (some FieldType.double) 0 := ⟨zc_X5_share, zn_X5, ⟨by decide, by decide⟩, by decide +kernel⟩
theorem zcv_X5_share : zCv yX5_share := ⟨zi_X5_share, zs_X5_share⟩
theorem zce_X5_rightShare : zCe yX5_rightShare cX5_rightShare 1 (some FieldType.double) 0 := ⟨zc_X5_rightShare, zn_X5, ⟨by decide, by decide⟩, by decide +kernel⟩
theorem zcv_X5_rightShare : zCv yX5_rightShare := ⟨zi_X5_rightShare, zs_X5_rightShare⟩
theorem zce_X5_bitsOf : zCe yX5_bitsOf cX5_bitsOf 6 (some FieldType.long) 1 := ⟨zc_X5_bitsOf, zn_X5, ⟨by decide, by decide⟩, by decide +kernel⟩
theorem zce_X5_digestOne : zCe yX5_digestOne cX5_digestOne 3 (none : Option FieldType) 1 := ⟨zc_X5_digestOne, zn_X5, ⟨by decide, by decide⟩, by decide +kernel⟩
theorem zcv_X5_digestOne : zCv yX5_digestOne := ⟨zi_X5_digestOne, zs_X5_digestOne⟩
theorem zce_X5_digest : zCe yX5_digest cX5_digest 3 (some FieldType.long) 0 := ⟨zc_X5_digest, zn_X5, ⟨by decide, by decide⟩, by decide +kernel⟩
theorem zcv_X5_digest : zCv yX5_digest := ⟨zi_X5_digest, zs_X5_digest⟩
theorem zce_J6_compare_7cf53 : zCe yJ6_compare_7cf53 cJ6_compare_7cf53 2 (some FieldType.int) 2 := ⟨zc_J6_compare_7cf53, zn_J6, ⟨by decide, by decide⟩, by decide +kernel⟩
theorem zce_J6_bitCount_0f7a4 : zCe yJ6_bitCount_0f7a4 cJ6_bitCount_0f7a4 1 (some FieldType.int) 1 := ⟨zc_J6_bitCount_0f7a4, zn_J6, ⟨by decide, by decide⟩, by decide +kernel⟩
theorem zce_J9_floorMod_7cf53 : zCe yJ9_floorMod_7cf53 cJ9_floorMod_7cf53 3 (some FieldType.int) 2 := ⟨zc_J9_floorMod_7cf53, zn_J9, ⟨by decide, by decide⟩, by decide +kernel⟩
theorem zce_J9_abs_0f7a4 : zCe yJ9_abs_0f7a4 cJ9_abs_0f7a4 1 (some FieldType.int) 1 := ⟨zc_J9_abs_0f7a4, zn_J9, ⟨by decide, by decide⟩, by decide +kernel⟩
theorem zce_J9_max_7cf53 : zCe yJ9_max_7cf53 cJ9_max_7cf53 2 (some FieldType.int) 2 := ⟨zc_J9_max_7cf53, zn_J9, ⟨by decide, by decide⟩, by decide +kernel⟩
theorem zce_J9_max_f86c9 : zCe yJ9_max_f86c9 cJ9_max_f86c9 4 (some FieldType.long) 2 := ⟨zc_J9_max_f86c9, zn_J9, ⟨by decide, by decide⟩, by decide +kernel⟩
theorem zce_J9_min_7cf53 : zCe yJ9_min_7cf53 cJ9_min_7cf53 2 (some FieldType.int) 2 := ⟨zc_J9_min_7cf53, zn_J9, ⟨by decide, by decide⟩, by decide +kernel⟩
theorem zce_J9_min_f86c9 : zCe yJ9_min_f86c9 cJ9_min_f86c9 4 (some FieldType.long) 2 := ⟨zc_J9_min_f86c9, zn_J9, ⟨by decide, by decide⟩, by decide +kernel⟩
end
section
/-! what the document says, in numbers: a print is a row σ of 45 numbers: 0 time, 1 grade, 2 speed, 3 spill, 4 zones, then five a zone: density, wanted, burn, hold, neighbours -/
def zW (σ : Int → Int) : Prop := (1 ≤ σ 0 ∧ σ 0 ≤ 2000) ∧ (0 ≤ σ 1 ∧ σ 1 ≤ 5) ∧ (10 ≤ σ 2 ∧ σ 2 ≤ 999) ∧ (0 ≤ σ 3 ∧ σ 3 ≤ 50) ∧ (0 ≤ σ 4 ∧ σ 4 ≤ 8) ∧ ∀ z : Int, 0 ≤ z ∧ z < 8 → (0 ≤ σ (5 + 5 * z) ∧ σ (5 + 5 * z) ≤ 24) ∧ (0 ≤ σ (5 + 5 * z + 1) ∧ σ (5 + 5 * z + 1) ≤ 10) ∧ (0 ≤ σ (5 + 5 * z + 2) ∧ σ (5 + 5 * z + 2) ≤ 999) ∧ (0 ≤ σ (5 + 5 * z + 3) ∧ σ (5 + 5 * z + 3) ≤ 999) ∧ (0 ≤ σ (5 + 5 * z + 4) ∧ σ (5 + 5 * z + 4) ≤ 255)
theorem zW_0 {σ : Int → Int} (h : zW σ) : 1 ≤ σ 0 ∧ σ 0 ≤ 2000 := h.1
theorem zW_1 {σ : Int → Int} (h : zW σ) : 0 ≤ σ 1 ∧ σ 1 ≤ 5 := h.2.1
theorem zW_2 {σ : Int → Int} (h : zW σ) : 10 ≤ σ 2 ∧ σ 2 ≤ 999 := h.2.2.1
theorem zW_3 {σ : Int → Int} (h : zW σ) : 0 ≤ σ 3 ∧ σ 3 ≤ 50 := h.2.2.2.1
theorem zW_4 {σ : Int → Int} (h : zW σ) : 0 ≤ σ 4 ∧ σ 4 ≤ 8 := h.2.2.2.2.1
theorem zW_de {σ : Int → Int} {z : Int} (h : zW σ) (hz : 0 ≤ z ∧ z < 8) : 0 ≤ σ (5 + 5 * z) ∧ σ (5 + 5 * z) ≤ 24 := (h.2.2.2.2.2 z hz).1
theorem zW_wa {σ : Int → Int} {z : Int} (h : zW σ) (hz : 0 ≤ z ∧ z < 8) : 0 ≤ σ (5 + 5 * z + 1) ∧ σ (5 + 5 * z + 1) ≤ 10 := (h.2.2.2.2.2 z hz).2.1
theorem zW_bu {σ : Int → Int} {z : Int} (h : zW σ) (hz : 0 ≤ z ∧ z < 8) : 0 ≤ σ (5 + 5 * z + 2) ∧ σ (5 + 5 * z + 2) ≤ 999 := (h.2.2.2.2.2 z hz).2.2.1
theorem zW_ho {σ : Int → Int} {z : Int} (h : zW σ) (hz : 0 ≤ z ∧ z < 8) : 0 ≤ σ (5 + 5 * z + 3) ∧ σ (5 + 5 * z + 3) ≤ 999 := (h.2.2.2.2.2 z hz).2.2.2.1
theorem zW_nb {σ : Int → Int} {z : Int} (h : zW σ) (hz : 0 ≤ z ∧ z < 8) : 0 ≤ σ (5 + 5 * z + 4) ∧ σ (5 + 5 * z + 4) ≤ 255 := (h.2.2.2.2.2 z hz).2.2.2.2
/-- how many of the first n numbers are at most x -/
def zcnt (f : Int → Int) (x : Int) : Nat → Int
  | 0 => 0
  | n + 1 => zcnt f x n + (if f n ≤ x then 1 else 0)
theorem zcnt_in (f : Int → Int) (x : Int) : ∀ n : Nat, 0 ≤ zcnt f x n ∧ zcnt f x n ≤ n := by
  intro n
  induction n with
  | zero => exact ⟨by simp [zcnt], by simp [zcnt]⟩
  | succ n ih => simp only [zcnt]; split <;> omega
theorem zcnt_congr {f g : Int → Int} {x : Int} : ∀ n : Nat, (∀ j : Int, 0 ≤ j → j < n → f j = g j) → zcnt f x n = zcnt g x n := by
  intro n
  induction n with
  | zero => intro _; rfl
  | succ n ih => intro h; simp only [zcnt]; rw [ih (fun j h1 h2 => h j h1 (by omega)), h n (by omega) (by omega)]
/-- the marks -/
def zmkN (g v : Int) : Nat → Int
  | 0 => 100 * v
  | k + 1 => max (zmkN g v k * zSteps g / 1000) (zmkN g v k + 1)
def zMk (g v j : Int) : Int := zmkN g v j.toNat
/-- the light of the time t through the density d -/
def zLt (d t : Int) : Int := t * zThr (d % 3) / 2 ^ (d / 3).toNat / 100
/-- what spills onto a zone out of the first n zones -/
def zSp (σ : Int → Int) (z : Int) : Nat → Int
  | 0 => 0
  | n + 1 => zSp σ z n + (if σ (5 + 5 * z + 4) / 2 ^ n % 2 = 1 then σ (5 + 5 * (n : Int) + 2) * σ 3 / 100 else 0)
def tSp (σ : Int → Int) (z : Int) : Int := zSp σ z (σ 4).toNat
def tTm (σ : Int → Int) (z : Int) : Int := max (σ 0 - σ (5 + 5 * z + 3)) (σ 0 / 2) + σ (5 + 5 * z + 2) + tSp σ z
def tAt (σ : Int → Int) (z t : Int) : Int := zcnt (zMk (σ 1) (σ 2)) (zLt (σ (5 + 5 * z)) t) 10
def tTo (σ : Int → Int) (z : Int) : Int := tAt σ z (tTm σ z)
def tOff (σ : Int → Int) (z : Int) : Int := tTo σ z - σ (5 + 5 * z + 1)
theorem zSp_in {σ : Int → Int} (hw : zW σ) (z : Int) : ∀ n : Nat, n ≤ 8 → 0 ≤ zSp σ z n ∧ zSp σ z n ≤ 500 * n := by
  intro n
  induction n with
  | zero => intro _; exact ⟨by simp [zSp], by simp [zSp]⟩
  | succ n ih =>
    intro hn
    have h1 := ih (by omega)
    have h2 := zW_bu hw (z := n) (by omega)
    have h3 := zW_3 hw
    have h4 : σ (5 + 5 * (n : Int) + 2) * σ 3 ≤ 999 * 50 := Int.mul_le_mul h2.2 h3.2 h3.1 (by omega)
    have h5 : 0 ≤ σ (5 + 5 * (n : Int) + 2) * σ 3 := Int.mul_nonneg h2.1 h3.1
    simp only [zSp]
    split <;> omega
theorem tSp_in {σ : Int → Int} (hw : zW σ) (z : Int) : 0 ≤ tSp σ z ∧ tSp σ z ≤ 4000 := by
  have h := zW_4 hw
  have := zSp_in hw z (σ 4).toNat (by omega)
  unfold tSp
  omega
theorem tTm_in {σ : Int → Int} (hw : zW σ) {z : Int} (hz : 0 ≤ z ∧ z < 8) : 0 ≤ tTm σ z ∧ tTm σ z ≤ 7000 := by
  have h1 := tSp_in hw z
  have h2 := zW_0 hw
  have h3 := zW_ho hw hz
  have h4 := zW_bu hw hz
  unfold tTm
  omega
theorem tAt_in (σ : Int → Int) (z t : Int) : 0 ≤ tAt σ z t ∧ tAt σ z t ≤ 10 := zcnt_in _ _ 10
theorem tTo_in (σ : Int → Int) (z : Int) : 0 ≤ tTo σ z ∧ tTo σ z ≤ 10 := zcnt_in _ _ 10
theorem zThr_in (j : Int) : 63000 ≤ zThr j ∧ zThr j ≤ 100000 := by
  unfold zThr
  split <;> (try split) <;> omega
theorem zpow_pos (k : Nat) : (0 : Int) < 2 ^ k := Int.pow_pos (by omega)
theorem zdiv_le {a b : Int} (ha : 0 ≤ a) (hb : 0 < b) : 0 ≤ a / b ∧ a / b ≤ a := ⟨Int.ediv_nonneg ha (by omega), Int.ediv_le_self _ ha⟩
theorem zLt_x {t j : Int} (ht : 0 ≤ t ∧ t ≤ 100000) : 0 ≤ t * zThr j ∧ t * zThr j ≤ 10000000000 := by
  have h1 := zThr_in j
  have h2 : t * zThr j ≤ 100000 * 100000 := Int.mul_le_mul ht.2 h1.2 (by omega) (by omega)
  have h3 : 0 ≤ t * zThr j := Int.mul_nonneg ht.1 (by omega)
  omega
theorem zLt_y {t d : Int} (ht : 0 ≤ t ∧ t ≤ 100000) : 0 ≤ t * zThr (d % 3) / 2 ^ (d / 3).toNat ∧ t * zThr (d % 3) / 2 ^ (d / 3).toNat ≤ 10000000000 := by
  have h1 := zLt_x (j := d % 3) ht
  have h2 := zdiv_le (b := 2 ^ (d / 3).toNat) h1.1 (zpow_pos _)
  omega
theorem zLt_in {t d : Int} (ht : 0 ≤ t ∧ t ≤ 100000) : 0 ≤ zLt d t ∧ zLt d t ≤ 100000000 := by
  have h1 := zLt_y (d := d) ht
  unfold zLt
  omega
/-- a print's marks are those of its paper -/
def zMs (S : zM) (k : Nat) : Prop := ∀ j : Int, 0 ≤ j → j < 10 → S k 2 j = zMk (S k 0 1) (S k 0 2) j
section ZJ
variable {p : Program} {l : Launch} {e : Env} {R : Room} {s : State} {m : MethodId} {args : Array Value} {below : List Frame} {meth : Method} {c : Code} {H : Heap} {locs : List Loc} {cells slots : Nat} {Q : State → Prop} {cc : ByteArray} {pc : Nat} {ls : Array Slot} {rest : List Value} {nL : Nat} {own : String} {G : zG} {S : zM}
theorem zI_lsm : ∀ n, n < 64 → ((zI (n : Nat)).toInt64 &&& 63).toBitVec.smod 64 = BitVec.ofNat 64 n := by decide +kernel
theorem zL_shr {a b : Int} (ha : 0 ≤ a ∧ a < 4611686018427387904) (hb : 0 ≤ b ∧ b < 64) : zL a >>> ((zI b).toInt64 &&& 63) = zL (a / 2 ^ b.toNat) := by
  obtain ⟨n, rfl⟩ := Int.eq_ofNat_of_zero_le ha.1
  obtain ⟨k, rfl⟩ := Int.eq_ofNat_of_zero_le hb.1
  have h := zI_lsm k (by omega)
  have e : zL (n : Int) = Int64.ofNat n := Int64.ofInt_eq_ofNat
  have hn : (Int64.ofNat n).toBitVec = BitVec.ofNat 64 n := Int64.toBitVec_ofNat
  apply Int64.toBitVec_inj.mp
  rw [e]
  show (Int64.ofNat n).toBitVec.sshiftRight' (((zI (k : Int)).toInt64 &&& 63).toBitVec.smod 64) = _
  rw [h, hn]
  apply BitVec.eq_of_toInt_eq
  rw [BitVec.sshiftRight_eq', BitVec.toInt_sshiftRight]
  have h1 : (BitVec.ofNat 64 n).toInt = n := by rw [BitVec.toInt_eq_toNat_cond, BitVec.toNat_ofNat, Nat.mod_eq_of_lt (by omega), if_pos (by omega)]
  have h2 : (BitVec.ofNat 64 k).toNat = k := by rw [BitVec.toNat_ofNat]; omega
  rw [h1, h2]
  show (n : Int) >>> k = (zL ((n : Int) / 2 ^ k)).toInt
  have h3 := zdiv_le (a := n) (b := 2 ^ k) (by omega) (zpow_pos k)
  rw [zL_toInt (by omega) (by omega), Int.shiftRight_eq_div_pow]
  norm_cast
theorem zb_lshr (h : zE p s m args meth c cc nL own G) {x y : Int} (h0 : 0 ≤ x ∧ x < 4611686018427387904) (h1 : 0 ≤ y ∧ y < 64) (hdg : decode cc pc = .ok (.lshr, 1)) (k : W p l e R s m args below meth c H locs cells slots Q (F0 m (pc + 1) ls (.long (zL (x / 2 ^ y.toNat)) :: rest))) : W p l e R s m args below meth c H locs cells slots Q (F0 m pc ls (.int (zI y) :: .long (zL x) :: rest)) := lv_lshr h.1 h.2.1 hdg (zL_shr h0 h1) k
theorem zmaxI (h : zE p s m args meth c cc nL own G) (hls : ls.size = nL) {index : Nat} (hl : Cond.methodLink own index yJ9_max_7cf53 ∈ zTbl) (hf : 1 ≤ R.frames) (hL : 21 ≤ R.locals) (hcs : cells ≤ R.cells ∧ slots ≤ R.slots) {x y : Int} (hx : -2147483648 ≤ x ∧ x ≤ 2147483647) (hy : -2147483648 ≤ y ∧ y ≤ 2147483647) (hW : (rest.map fun v => v.category).sum ≤ 8) (hdg : decode cc pc = .ok (.invokestatic index, 3)) (k : W p l e R s m args below meth c H locs cells slots Q (F0 m (pc + 3) ls (.int (zI (max x y)) :: rest))) : W p l e R s m args below meth c H locs cells slots Q (F0 m pc ls (.int (zI y) :: .int (zI x) :: rest)) := by
  refine va_mmax h.1 h.2.1 (h.2.2.1.trans hls.symm) h.2.2.2.1 (h.2.2.2.2.1 _ hl) (h.2.2.2.2.1 _ zt_J9_max_7cf53) (h.2.2.2.2.1 _ zn_J9) (h.2.2.2.2.1 _ zc_J9_max_7cf53) hf (by omega) hcs.1 hcs.2 hdg ?_
  have e : (if zI x < zI y then zI y else zI x) = zI (max x y) := by
    by_cases q : x < y
    · rw [if_pos ((zI_lt hx hy).mpr q), Int.max_def, if_pos (by omega)]
    · rw [if_neg (fun q2 => q ((zI_lt hx hy).mp q2)), Int.max_def]
      split
      · rw [show x = y by omega]
      · rfl
  rw [e]
  exact k
end ZJ
theorem zSteps_in (g : Int) : 1120 ≤ zSteps g ∧ zSteps g ≤ 1400 := by
  unfold zSteps
  repeat (first | omega | split)
theorem zmkN_in {g v : Int} (hv : 10 ≤ v ∧ v ≤ 999) : ∀ k : Nat, 1000 ≤ zmkN g v k ∧ zmkN g v k ≤ 100000 * 2 ^ k := by
  intro k
  induction k with
  | zero => simp only [zmkN]; omega
  | succ k ih =>
    have h1 := zSteps_in g
    have h2 : zmkN g v k * zSteps g ≤ zmkN g v k * 1400 := Int.mul_le_mul_of_nonneg_left h1.2 (by omega)
    have h4 : 0 ≤ zmkN g v k * zSteps g := Int.mul_nonneg (by omega) (by omega)
    have h3 : (2 : Int) ^ (k + 1) = 2 ^ k * 2 := Int.pow_succ 2 k
    simp only [zmkN]
    rw [h3]
    omega
theorem zMk_in {g v : Int} (hv : 10 ≤ v ∧ v ≤ 999) {j : Int} (hj : 0 ≤ j ∧ j < 10) : 1000 ≤ zMk g v j ∧ zMk g v j ≤ 51200000 := by
  unfold zMk
  have h := zmkN_in (g := g) hv j.toNat
  have h2 := (by decide : ∀ k, k < 10 → (2 : Int) ^ k ≤ 512) j.toNat (by omega)
  omega
theorem zcnt_s (f : Int → Int) (x : Int) {i : Int} (hi : 0 ≤ i) : zcnt f x (i + 1).toNat = zcnt f x i.toNat + (if f i ≤ x then 1 else 0) := by
  obtain ⟨n, rfl⟩ := Int.eq_ofNat_of_zero_le hi
  rfl
theorem zSp_s (σ : Int → Int) (z : Int) {i : Int} (hi : 0 ≤ i) : zSp σ z (i + 1).toNat = zSp σ z i.toNat + (if σ (5 + 5 * z + 4) / 2 ^ i.toNat % 2 = 1 then σ (5 + 5 * i + 2) * σ 3 / 100 else 0) := by
  obtain ⟨n, rfl⟩ := Int.eq_ofNat_of_zero_le hi
  rfl
/-- sums and counts -/
def zsum (f : Int → Int) : Nat → Int
  | 0 => 0
  | n + 1 => zsum f n + f n
theorem zsum_s (f : Int → Int) {i : Int} (hi : 0 ≤ i) : zsum f (i + 1).toNat = zsum f i.toNat + f i := by
  obtain ⟨n, rfl⟩ := Int.eq_ofNat_of_zero_le hi
  rfl
theorem zsum_in {f : Int → Int} {a b : Int} : ∀ n : Nat, (∀ j : Int, 0 ≤ j → j < n → a ≤ f j ∧ f j ≤ b) → a * n ≤ zsum f n ∧ zsum f n ≤ b * n := by
  intro n
  induction n with
  | zero => intro _; exact ⟨by simp [zsum], by simp [zsum]⟩
  | succ n ih =>
    intro h
    have h1 := ih (fun j h1 h2 => h j h1 (by omega))
    have h2 := h n (by omega) (by omega)
    have e1 : a * ((n + 1 : Nat) : Int) = a * n + a := by rw [Int.natCast_add, Int.mul_add]; simp
    have e2 : b * ((n + 1 : Nat) : Int) = b * n + b := by rw [Int.natCast_add, Int.mul_add]; simp
    simp only [zsum]
    omega
theorem zsum_congr {f g : Int → Int} : ∀ n : Nat, (∀ j : Int, 0 ≤ j → j < n → f j = g j) → zsum f n = zsum g n := by
  intro n
  induction n with
  | zero => intro _; rfl
  | succ n ih => intro h; simp only [zsum]; rw [ih (fun j h1 h2 => h j h1 (by omega)), h n (by omega) (by omega)]
def zsg (x : Int) : Int := if x < 0 then -1 else if x = 0 then 0 else 1
theorem zsg_in (x : Int) : -1 ≤ zsg x ∧ zsg x ≤ 1 := by unfold zsg; repeat (first | omega | split)
def zabs (x : Int) : Int := if x < 0 then -x else x
def tCnt (σ : Int → Int) (side : Int) : Int := zsum (fun z => if zsg (tOff σ z) = side then 1 else 0) (σ 4).toNat
def tMis (σ : Int → Int) : Int := zsum (fun z => zabs (tOff σ z)) (σ 4).toNat
def tSum (σ : Int → Int) (w : Int) : Int := zsum (fun z => σ (5 + 5 * z + w)) (σ 4).toNat
/-- the least time with a tone or a greater one, 10000 if there is none up to 9999 -/
def tLe (σ : Int → Int) (d tone : Int) : Int := if tone < 1 then 1 else if tone > 10 then 10000 else min ((zMk (σ 1) (σ 2) (tone - 1) * 100 * 2 ^ (d / 3).toNat + zThr (d % 3) - 1) / zThr (d % 3)) 10000
def tLn (σ : Int → Int) (z : Int) : Int := if tLe σ (σ (5 + 5 * z)) (σ (5 + 5 * z + 1)) < tLe σ (σ (5 + 5 * z)) (σ (5 + 5 * z + 1) + 1) then tLe σ (σ (5 + 5 * z)) (σ (5 + 5 * z + 1)) else -1
def tGn (σ : Int → Int) (z : Int) : Int := if tLe σ (σ (5 + 5 * z)) (σ (5 + 5 * z + 1)) < tLe σ (σ (5 + 5 * z)) (σ (5 + 5 * z + 1) + 1) then tLe σ (σ (5 + 5 * z)) (σ (5 + 5 * z + 1) + 1) - 1 else -1
def tNo (σ : Int → Int) : Int := zsum (fun z => if tLn σ z = -1 then 1 else 0) (σ 4).toNat
def tCL (σ : Int → Int) : Nat → Int
  | 0 => -1
  | n + 1 => if tLn σ n = -1 then tCL σ n else max (tCL σ n) (tLn σ n)
def tCG (σ : Int → Int) : Nat → Int
  | 0 => 9999
  | n + 1 => if tLn σ n = -1 then tCG σ n else min (tCG σ n) (tGn σ n)
theorem tCL_s (σ : Int → Int) {i : Int} (hi : 0 ≤ i) : tCL σ (i + 1).toNat = if tLn σ i = -1 then tCL σ i.toNat else max (tCL σ i.toNat) (tLn σ i) := by
  obtain ⟨n, rfl⟩ := Int.eq_ofNat_of_zero_le hi
  rfl
theorem tCG_s (σ : Int → Int) {i : Int} (hi : 0 ≤ i) : tCG σ (i + 1).toNat = if tLn σ i = -1 then tCG σ i.toNat else min (tCG σ i.toNat) (tGn σ i) := by
  obtain ⟨n, rfl⟩ := Int.eq_ofNat_of_zero_le hi
  rfl
def tCo (σ : Int → Int) (what : Int) : Int := if tCL σ (σ 4).toNat = -1 ∨ tCL σ (σ 4).toNat > tCG σ (σ 4).toNat then -1 else if what = 0 then tCL σ (σ 4).toNat else tCG σ (σ 4).toNat
/-- a strip's time -/
def zStr (f k : Int) : Int := f * 2 ^ (k / 3).toNat * zThi (k % 3) / 100
def tSf (σ : Int → Int) (z f : Int) : Nat → Int
  | 0 => -1
  | n + 1 => if tSf σ z f n = -1 ∧ σ (5 + 5 * z + 1) ≤ tAt σ z (zStr f n) then n else tSf σ z f n
theorem tSf_s (σ : Int → Int) (z f : Int) {i : Int} (hi : 0 ≤ i) : tSf σ z f (i + 1).toNat = if tSf σ z f i.toNat = -1 ∧ σ (5 + 5 * z + 1) ≤ tAt σ z (zStr f i) then i else tSf σ z f i.toNat := by
  obtain ⟨n, rfl⟩ := Int.eq_ofNat_of_zero_le hi
  rfl
theorem tSf_in (σ : Int → Int) (z f : Int) : ∀ n : Nat, -1 ≤ tSf σ z f n ∧ tSf σ z f n < n ∨ tSf σ z f n = -1 := by
  intro n
  induction n with
  | zero => exact Or.inr rfl
  | succ n ih => simp only [tSf]; split <;> omega
def tSh (σ : Int → Int) (z f : Int) (n : Nat) : Int := zsum (fun k => if tAt σ z (zStr f k) = σ (5 + 5 * z + 1) then 1 else 0) n
def tStr (σ : Int → Int) (z f n what : Int) : Int := if what = 2 then tSh σ z f n.toNat else if what = 3 then tAt σ z (zStr f (n - 1)) else if what = 1 ∨ tSf σ z f n.toNat = -1 then tSf σ z f n.toNat else zStr f (tSf σ z f n.toNat)
theorem tOff_in {σ : Int → Int} (hw : zW σ) {z : Int} (hz : 0 ≤ z ∧ z < 8) : -10 ≤ tOff σ z ∧ tOff σ z ≤ 10 := by
  have h1 := tTo_in σ z
  have h2 := zW_wa hw hz
  unfold tOff
  omega
theorem tLe_in {σ : Int → Int} (hw : zW σ) (d tone : Int) : 1 ≤ tLe σ d tone ∧ tLe σ d tone ≤ 10000 := by
  unfold tLe
  split
  · omega
  · split
    · omega
    · have h1 := zThr_in (d % 3)
      have h2 := zMk_in (g := σ 1) (zW_2 hw) (show 0 ≤ tone - 1 ∧ tone - 1 < 10 by omega)
      have h3 := zpow_pos (d / 3).toNat
      have h4 : 1 ≤ zMk (σ 1) (σ 2) (tone - 1) * 100 * 2 ^ (d / 3).toNat := Int.mul_pos (by omega) h3
      have h5 : 1 ≤ (zMk (σ 1) (σ 2) (tone - 1) * 100 * 2 ^ (d / 3).toNat + zThr (d % 3) - 1) / zThr (d % 3) := (Int.le_ediv_iff_mul_le (by omega)).mpr (by omega)
      omega
theorem tLn_in {σ : Int → Int} (hw : zW σ) (z : Int) : -1 ≤ tLn σ z ∧ tLn σ z ≤ 9999 := by
  have h1 := tLe_in hw (σ (5 + 5 * z)) (σ (5 + 5 * z + 1))
  have h2 := tLe_in hw (σ (5 + 5 * z)) (σ (5 + 5 * z + 1) + 1)
  unfold tLn
  split <;> omega
theorem tGn_in {σ : Int → Int} (hw : zW σ) (z : Int) : -1 ≤ tGn σ z ∧ tGn σ z ≤ 9999 := by
  have h1 := tLe_in hw (σ (5 + 5 * z)) (σ (5 + 5 * z + 1))
  have h2 := tLe_in hw (σ (5 + 5 * z)) (σ (5 + 5 * z + 1) + 1)
  unfold tGn
  split <;> omega
theorem tCL_in {σ : Int → Int} (hw : zW σ) : ∀ n : Nat, -1 ≤ tCL σ n ∧ tCL σ n ≤ 9999 := by
  intro n
  induction n with
  | zero => exact ⟨by simp [tCL], by simp [tCL]⟩
  | succ n ih => have := tLn_in hw n; simp only [tCL]; split <;> omega
theorem tCG_in {σ : Int → Int} (hw : zW σ) : ∀ n : Nat, -1 ≤ tCG σ n ∧ tCG σ n ≤ 9999 := by
  intro n
  induction n with
  | zero => exact ⟨by simp [tCG], by simp [tCG]⟩
  | succ n ih => have := tGn_in hw n; simp only [tCG]; split <;> omega
theorem zThi_in (j : Int) : 100 ≤ zThi j ∧ zThi j ≤ 159 := by
  unfold zThi
  split <;> (try split) <;> omega
theorem zStr_x {f k : Int} (hf : 1 ≤ f ∧ f ≤ 999) (hk : 0 ≤ k ∧ k < 9) : 1 ≤ f * 2 ^ (k / 3).toNat ∧ f * 2 ^ (k / 3).toNat ≤ 3996 := by
  rcases (show k / 3 = 0 ∨ k / 3 = 1 ∨ k / 3 = 2 by omega) with e | e | e <;> rw [e] <;> simp <;> omega
theorem zStr_y {f k : Int} (hf : 1 ≤ f ∧ f ≤ 999) (hk : 0 ≤ k ∧ k < 9) : 100 ≤ f * 2 ^ (k / 3).toNat * zThi (k % 3) ∧ f * 2 ^ (k / 3).toNat * zThi (k % 3) ≤ 635364 := by
  have h1 := zStr_x hf hk
  have h2 := zThi_in (k % 3)
  have h3 : f * 2 ^ (k / 3).toNat * zThi (k % 3) ≤ 3996 * 159 := Int.mul_le_mul h1.2 h2.2 (by omega) (by omega)
  have h4 : 1 * 100 ≤ f * 2 ^ (k / 3).toNat * zThi (k % 3) := Int.mul_le_mul h1.1 h2.1 (by omega) (by omega)
  omega
theorem zStr_in {f k : Int} (hf : 1 ≤ f ∧ f ≤ 999) (hk : 0 ≤ k ∧ k < 9) : 1 ≤ zStr f k ∧ zStr f k ≤ 6354 := by
  have h := zStr_y hf hk
  unfold zStr
  omega
end
section
section ZJ2
variable {p : Program} {l : Launch} {e : Env} {R : Room} {s : State} {m : MethodId} {args : Array Value} {below : List Frame} {meth : Method} {c : Code} {H : Heap} {locs : List Loc} {cells slots : Nat} {Q : State → Prop} {cc : ByteArray} {pc : Nat} {ls : Array Slot} {rest : List Value} {nL : Nat} {own : String} {G : zG} {S : zM}
theorem zminI (h : zE p s m args meth c cc nL own G) (hls : ls.size = nL) {index : Nat} (hl : Cond.methodLink own index yJ9_min_7cf53 ∈ zTbl) (hf : 1 ≤ R.frames) (hL : 21 ≤ R.locals) (hcs : cells ≤ R.cells ∧ slots ≤ R.slots) {x y : Int} (hx : -2147483648 ≤ x ∧ x ≤ 2147483647) (hy : -2147483648 ≤ y ∧ y ≤ 2147483647) (hW : (rest.map fun v => v.category).sum ≤ 8) (hdg : decode cc pc = .ok (.invokestatic index, 3)) (k : W p l e R s m args below meth c H locs cells slots Q (F0 m (pc + 3) ls (.int (zI (min x y)) :: rest))) : W p l e R s m args below meth c H locs cells slots Q (F0 m pc ls (.int (zI y) :: .int (zI x) :: rest)) := by
  refine va_mmin h.1 h.2.1 (h.2.2.1.trans hls.symm) h.2.2.2.1 (h.2.2.2.2.1 _ hl) (h.2.2.2.2.1 _ zt_J9_min_7cf53) (h.2.2.2.2.1 _ zn_J9) (h.2.2.2.2.1 _ zc_J9_min_7cf53) hf (by omega) hcs.1 hcs.2 hdg ?_
  have e : (if zI y < zI x then zI y else zI x) = zI (min x y) := by
    by_cases q : y < x
    · rw [if_pos ((zI_lt hy hx).mpr q), Int.min_def, if_neg (by omega)]
    · rw [if_neg (fun q2 => q ((zI_lt hy hx).mp q2)), Int.min_def, if_pos (by omega)]
  rw [e]
  exact k
theorem zabsI (h : zE p s m args meth c cc nL own G) (hls : ls.size = nL) {index : Nat} (hl : Cond.methodLink own index yJ9_abs_0f7a4 ∈ zTbl) (hf : 1 ≤ R.frames) (hL : 21 ≤ R.locals) (hcs : cells ≤ R.cells ∧ slots ≤ R.slots) {x : Int} (hx : -2147483648 ≤ x ∧ x ≤ 2147483647) (hW : (rest.map fun v => v.category).sum ≤ 8) (hdg : decode cc pc = .ok (.invokestatic index, 3)) (k : W p l e R s m args below meth c H locs cells slots Q (F0 m (pc + 3) ls (.int (zI (zabs x)) :: rest))) : W p l e R s m args below meth c H locs cells slots Q (F0 m pc ls (.int (zI x) :: rest)) := by
  refine va_mabs h.1 h.2.1 (h.2.2.1.trans hls.symm) h.2.2.2.1 (h.2.2.2.2.1 _ hl) (h.2.2.2.2.1 _ zt_J9_abs_0f7a4) (h.2.2.2.2.1 _ zn_J9) (h.2.2.2.2.1 _ zc_J9_abs_0f7a4) hf (by omega) hcs.1 hcs.2 hdg ?_
  have e : (if 0 ≤ zI x then zI x else 0 - zI x) = zI (zabs x) := by
    unfold zabs
    rw [zI_0]
    by_cases q : 0 ≤ x
    · rw [if_pos ((zI_le zI_r0 hx).mpr q), if_neg (by omega)]
    · rw [if_neg (fun q2 => q ((zI_le zI_r0 hx).mp q2)), if_pos (by omega), zI_sub, Int.zero_sub]
  rw [e]
  exact k
theorem zmaxL (h : zE p s m args meth c cc nL own G) (hls : ls.size = nL) {index : Nat} (hl : Cond.methodLink own index yJ9_max_f86c9 ∈ zTbl) (hf : 1 ≤ R.frames) (hL : 23 ≤ R.locals) (hcs : cells ≤ R.cells ∧ slots ≤ R.slots) {x y : Int} (hx : -9223372036854775808 ≤ x ∧ x ≤ 9223372036854775807) (hy : -9223372036854775808 ≤ y ∧ y ≤ 9223372036854775807) (hW : (rest.map fun v => v.category).sum ≤ 8) (hdg : decode cc pc = .ok (.invokestatic index, 3)) (k : W p l e R s m args below meth c H locs cells slots Q (F0 m (pc + 3) ls (.long (zL (max x y)) :: rest))) : W p l e R s m args below meth c H locs cells slots Q (F0 m pc ls (.long (zL y) :: .long (zL x) :: rest)) := by
  refine va_mmax_long h.1 h.2.1 (h.2.2.1.trans hls.symm) h.2.2.2.1 (h.2.2.2.2.1 _ hl) (h.2.2.2.2.1 _ zt_J9_max_f86c9) (h.2.2.2.2.1 _ zn_J9) (h.2.2.2.2.1 _ zc_J9_max_f86c9) hf (by omega) hcs.1 hcs.2 hdg ?_
  have e : (if zL y < zL x then zL x else zL y) = zL (max x y) := by
    by_cases q : y < x
    · rw [if_pos ((zL_lt hy hx).mpr q), Int.max_def, if_neg (by omega)]
    · rw [if_neg (fun q2 => q ((zL_lt hy hx).mp q2)), Int.max_def, if_pos (by omega)]
  rw [e]
  exact k
theorem zminL (h : zE p s m args meth c cc nL own G) (hls : ls.size = nL) {index : Nat} (hl : Cond.methodLink own index yJ9_min_f86c9 ∈ zTbl) (hf : 1 ≤ R.frames) (hL : 23 ≤ R.locals) (hcs : cells ≤ R.cells ∧ slots ≤ R.slots) {x y : Int} (hx : -9223372036854775808 ≤ x ∧ x ≤ 9223372036854775807) (hy : -9223372036854775808 ≤ y ∧ y ≤ 9223372036854775807) (hW : (rest.map fun v => v.category).sum ≤ 8) (hdg : decode cc pc = .ok (.invokestatic index, 3)) (k : W p l e R s m args below meth c H locs cells slots Q (F0 m (pc + 3) ls (.long (zL (min x y)) :: rest))) : W p l e R s m args below meth c H locs cells slots Q (F0 m pc ls (.long (zL y) :: .long (zL x) :: rest)) := by
  refine va_mmin_long h.1 h.2.1 (h.2.2.1.trans hls.symm) h.2.2.2.1 (h.2.2.2.2.1 _ hl) (h.2.2.2.2.1 _ zt_J9_min_f86c9) (h.2.2.2.2.1 _ zn_J9) (h.2.2.2.2.1 _ zc_J9_min_f86c9) hf (by omega) hcs.1 hcs.2 hdg ?_
  have e : (if zL y < zL x then zL y else zL x) = zL (min x y) := by
    by_cases q : y < x
    · rw [if_pos ((zL_lt hy hx).mpr q), Int.min_def, if_neg (by omega)]
    · rw [if_neg (fun q2 => q ((zL_lt hy hx).mp q2)), Int.min_def, if_pos (by omega)]
  rw [e]
  exact k
theorem zL_shl {a b : Int} (ha : 0 ≤ a ∧ a < 4611686018427387904) (hb : 0 ≤ b ∧ b < 64) : zL a <<< ((zI b).toInt64 &&& 63) = zL (a * 2 ^ b.toNat) := by
  obtain ⟨n, rfl⟩ := Int.eq_ofNat_of_zero_le ha.1
  obtain ⟨k, rfl⟩ := Int.eq_ofNat_of_zero_le hb.1
  have h := zI_lsm k (by omega)
  have e : ∀ n : Nat, zL (n : Int) = Int64.ofNat n := fun n => Int64.ofInt_eq_ofNat
  have hn : ∀ n : Nat, (Int64.ofNat n).toBitVec = BitVec.ofNat 64 n := fun n => Int64.toBitVec_ofNat
  apply Int64.toBitVec_inj.mp
  rw [e, show ((n : Int) * 2 ^ ((k : Int).toNat)) = ((n * 2 ^ k : Nat) : Int) by rw [Int.toNat_natCast]; norm_cast, e, hn]
  show (Int64.ofNat n).toBitVec.shiftLeft (((zI (k : Int)).toInt64 &&& 63).toBitVec.smod 64).toNat = _
  rw [h, hn]
  apply BitVec.eq_of_toNat_eq
  show ((BitVec.ofNat 64 n) <<< (BitVec.ofNat 64 k).toNat).toNat = _
  rw [BitVec.toNat_shiftLeft, BitVec.toNat_ofNat, BitVec.toNat_ofNat, BitVec.toNat_ofNat, Nat.shiftLeft_eq, Nat.mod_eq_of_lt (show k < 2 ^ 64 by omega), Nat.mod_mul_mod]
theorem zb_lshl (h : zE p s m args meth c cc nL own G) {x y : Int} (h0 : 0 ≤ x ∧ x < 4611686018427387904) (h1 : 0 ≤ y ∧ y < 64) (hdg : decode cc pc = .ok (.lshl, 1)) (k : W p l e R s m args below meth c H locs cells slots Q (F0 m (pc + 1) ls (.long (zL (x * 2 ^ y.toNat)) :: rest))) : W p l e R s m args below meth c H locs cells slots Q (F0 m pc ls (.int (zI y) :: .long (zL x) :: rest)) := lv_lshl h.1 h.2.1 hdg (zL_shl h0 h1) k
end ZJ2
theorem zlk_out : ∀ (ps : List (Int × Int)) (d x : Int), (∀ q ∈ ps, q.1 ≠ x) → Op.lookupswitch.offset ps d x = d := by
  intro ps d x
  induction ps with
  | nil => intro _; rfl
  | cons q r ih =>
    intro h
    obtain ⟨a, o⟩ := q
    rw [Op.lookupswitch.offset_cons, if_neg (h (a, o) List.mem_cons_self)]
    exact ih (fun q hq => h q (List.mem_cons_of_mem _ hq))
theorem tSf_at {σ : Int → Int} {z f : Int} {i : Nat} (h0 : tSf σ z f i = -1) (h1 : σ (5 + 5 * z + 1) ≤ tAt σ z (zStr f i)) : ∀ m : Nat, tSf σ z f (i + 1 + m) = i := by
  intro m
  induction m with
  | zero => show (if tSf σ z f i = -1 ∧ σ (5 + 5 * z + 1) ≤ tAt σ z (zStr f i) then (i : Int) else tSf σ z f i) = i; rw [if_pos ⟨h0, h1⟩]
  | succ m ih => show (if tSf σ z f (i + 1 + m) = -1 ∧ σ (5 + 5 * z + 1) ≤ tAt σ z (zStr f ((i + 1 + m : Nat) : Int)) then ((i + 1 + m : Nat) : Int) else tSf σ z f (i + 1 + m)) = i; rw [ih, if_neg (by omega)]
theorem tSf_to {σ : Int → Int} {z f : Int} {i n : Int} (hi : 0 ≤ i) (hn : i < n) (h0 : tSf σ z f i.toNat = -1) (h1 : σ (5 + 5 * z + 1) ≤ tAt σ z (zStr f i)) : tSf σ z f n.toNat = i := by
  obtain ⟨i, rfl⟩ := Int.eq_ofNat_of_zero_le hi
  have e : n.toNat = i + 1 + (n.toNat - (i + 1)) := by omega
  rw [e]
  exact tSf_at h0 h1 _
theorem zpow8 {q : Nat} (h : q ≤ 8) : (2 : Int) ^ q ≤ 256 := (by decide : ∀ k, k < 9 → (2 : Int) ^ k ≤ 256) q (by omega)
theorem tLe_v {m d : Int} (hm : 1000 ≤ m ∧ m ≤ 51200000) (hd : 0 ≤ d ∧ d ≤ 24) : 0 ≤ m * 100 * 2 ^ (d / 3).toNat ∧ m * 100 * 2 ^ (d / 3).toNat ≤ 1310720000000 := by
  have h1 := zpow8 (q := (d / 3).toNat) (by omega)
  have h2 := zpow_pos (d / 3).toNat
  have h3 : m * 100 * 2 ^ (d / 3).toNat ≤ 5120000000 * 256 := Int.mul_le_mul (by omega) h1 (by omega) (by omega)
  have h4 : 0 ≤ m * 100 * 2 ^ (d / 3).toNat := Int.mul_nonneg (by omega) (by omega)
  omega
def tPr (σ : Int → Int) (z what : Int) : Int := if what = 0 then σ (5 + 5 * z) else if what = 1 then σ (5 + 5 * z + 1) else if what = 2 then σ (5 + 5 * z + 2) else if what = 3 then σ (5 + 5 * z + 3) else if what = 4 then tTm σ z else if what = 5 then zLt (σ (5 + 5 * z)) (tTm σ z) else if what = 6 then tTo σ z else if what = 7 then σ (5 + 5 * z + 4) else if what = 8 then tLn σ z else if what = 9 then tGn σ z else tSp σ z
end
section
theorem dX2_toneOf_0 : decode cX2_toneOf 0 = .ok (.iconst 0, 1) := by decide +kernel
theorem dX2_toneOf_1 : decode cX2_toneOf 1 = .ok (.istore_n 2, 1) := by decide +kernel
theorem dX2_toneOf_2 : decode cX2_toneOf 2 = .ok (.iconst 0, 1) := by decide +kernel
theorem dX2_toneOf_3 : decode cX2_toneOf 3 = .ok (.istore_n 3, 1) := by decide +kernel
theorem dX2_toneOf_4 : decode cX2_toneOf 4 = .ok (.iload_n 3, 1) := by decide +kernel
theorem dX2_toneOf_5 : decode cX2_toneOf 5 = .ok (.aload_n 0, 1) := by decide +kernel
theorem dX2_toneOf_6 : decode cX2_toneOf 6 = .ok (.getfield 9, 3) := by decide +kernel
theorem dX2_toneOf_9 : decode cX2_toneOf 9 = .ok (.arraylength, 1) := by decide +kernel
theorem dX2_toneOf_10 : decode cX2_toneOf 10 = .ok (.if_icmp .ge 22, 3) := by decide +kernel
theorem dX2_toneOf_13 : decode cX2_toneOf 13 = .ok (.aload_n 0, 1) := by decide +kernel
theorem dX2_toneOf_14 : decode cX2_toneOf 14 = .ok (.getfield 9, 3) := by decide +kernel
theorem dX2_toneOf_17 : decode cX2_toneOf 17 = .ok (.iload_n 3, 1) := by decide +kernel
theorem dX2_toneOf_18 : decode cX2_toneOf 18 = .ok (.iaload, 1) := by decide +kernel
theorem dX2_toneOf_19 : decode cX2_toneOf 19 = .ok (.iload_n 1, 1) := by decide +kernel
theorem dX2_toneOf_20 : decode cX2_toneOf 20 = .ok (.if_icmp .gt 6, 3) := by decide +kernel
theorem dX2_toneOf_23 : decode cX2_toneOf 23 = .ok (.iinc 2 1, 3) := by decide +kernel
theorem dX2_toneOf_26 : decode cX2_toneOf 26 = .ok (.iinc 3 1, 3) := by decide +kernel
theorem dX2_toneOf_29 : decode cX2_toneOf 29 = .ok (.goto (-25), 3) := by decide +kernel
theorem dX2_toneOf_32 : decode cX2_toneOf 32 = .ok (.iload_n 2, 1) := by decide +kernel
theorem dX2_toneOf_33 : decode cX2_toneOf 33 = .ok (.ireturn, 1) := by decide +kernel
def q_X2_toneOf (k : Nat) (S : zM) (x : Int) : Int32 → zM → Prop := fun r S1 => r = zI (zcnt (zMk (S k 0 1) (S k 0 2)) x 10) ∧ S = S1
def r_X2_toneOf : Room := { frames := 0, cells := 0, slots := 0, locals := 0 }
set_option maxHeartbeats 4000000 in
set_option maxRecDepth 100000 in
/-- Paper.toneOf: how many marks are at most the light -/
theorem c_X2_toneOf (l : Launch) (G : zG) (hG : zok G) (k : Nat) (hk : k < 8) (S : zM) (x : Int) (hx : -2147483648 ≤ x ∧ x ≤ 2147483647) (hms : zMs S k) (hw : zW (S k 0)) : Met l yX2_toneOf (Cond.code yX2_toneOf cX2_toneOf 4 (some FieldType.int) :: zTbl) r_X2_toneOf (va_Pc [.ref (za G k 1), .int (zI x)] (zB G S)) (va_Qi (q_X2_toneOf k S x) (zB G) (zA G)) 0 0 (zA G) := by
  refine zMet [(0, .ref (za G k 1)), (1, .int (zI x))] hG (by decide) (Nat.le_of_ble_eq_true rfl) rfl (fun p e s m args below meth c ls h hx hb hr hH hl => ?_)
  have C4 : ∀ (fu : Nat) (i n : Int) (H : Heap) (locs : List Loc) (ls : Array Slot), (10 - i).toNat < fu → (0 ≤ i ∧ i ≤ 10) → (n = zcnt (zMk (S k 0 1) (S k 0 2)) x i.toNat) → zH G S s H locs → lv_has ls 4 [(0, .ref (za G k 1)), (1, .int (zI x)), (2, .int (zI n)), (3, .int (zI i))] → W p l e r_X2_toneOf s m args below meth c H locs 0 0 (MQ below (va_Qi (q_X2_toneOf k S x) (zB G) (zA G)) args s 0 0 (zA G)) (F0 m 4 ls []) := by
    intro fu
    induction fu with
    | zero => intro i n H locs ls hfu; omega
    | succ fu ih4 =>
      intro i n H locs ls hfu hi hn hH hl
      have b_n := zcnt_in (zMk (S k 0 1) (S k 0 2)) x i.toNat
      refine lv_iload_n hx hb dX2_toneOf_4 rfl (lv_at hl 3 rfl) ?_
      refine lv_aload_n hx hb dX2_toneOf_5 rfl (lv_at hl 0 rfl) ?_
      refine zg_2_0 h hH hk zf_X2_9 dX2_toneOf_6 ?_
      refine zln_ar_mk h hH hk dX2_toneOf_9 ?_
      refine zb_cge (tgt := 32) h (by omega) (by omega) dX2_toneOf_10 (by decide) (fun c_10 => ?_) (fun c_10 => ?_)
      · refine lv_iload_n hx hb dX2_toneOf_32 rfl (lv_at hl 2 rfl) ?_
        refine zri h hr hH ?_ dX2_toneOf_33
        have ei : i = 10 := by omega
        subst ei
        exact ⟨by rw [hn]; rfl, rfl⟩
      · refine lv_aload_n hx hb dX2_toneOf_13 rfl (lv_at hl 0 rfl) ?_
        refine zg_2_0 h hH hk zf_X2_9 dX2_toneOf_14 ?_
        refine lv_iload_n hx hb dX2_toneOf_17 rfl (lv_at hl 3 rfl) ?_
        refine zld_ar_mk h hH hk (by omega) dX2_toneOf_18 ?_
        refine lv_iload_n hx hb dX2_toneOf_19 rfl (lv_at hl 1 rfl) ?_
        have e_18 := hms i (by omega) (by omega)
        have m_18 := zMk_in (g := S k 0 1) (zW_2 hw) (show 0 ≤ i ∧ i < 10 by omega)
        refine zb_cgt (tgt := 26) h (by omega) (by omega) dX2_toneOf_20 (by decide) (fun c_20 => ?_) (fun c_20 => ?_)
        · refine lv_iinc (v := zI (i + 1)) (lv' := [(3, .int (zI (i + 1))), (0, .ref (za G k 1)), (1, .int (zI x)), (2, .int (zI n))]) hx hb dX2_toneOf_26 hl (k := 3) rfl (zI_add _ _) (by decide) rfl (fun ls hl => ?_)
          refine lv_goto (tgt := 4) hx hb dX2_toneOf_29 (by decide) ?_
          exact ih4 (i + 1) n _ _ _ (by omega) (by omega) (by have e := zcnt_s (zMk (S k 0 1) (S k 0 2)) x hi.1; split at e <;> omega) hH (lv_sub hl [1, 2, 3, 0] rfl)
        · refine lv_iinc (v := zI (n + 1)) (lv' := [(2, .int (zI (n + 1))), (0, .ref (za G k 1)), (1, .int (zI x)), (3, .int (zI i))]) hx hb dX2_toneOf_23 hl (k := 2) rfl (zI_add _ _) (by decide) rfl (fun ls hl => ?_)
          refine lv_iinc (v := zI (i + 1)) (lv' := [(3, .int (zI (i + 1))), (2, .int (zI (n + 1))), (0, .ref (za G k 1)), (1, .int (zI x))]) hx hb dX2_toneOf_26 hl (k := 3) rfl (zI_add _ _) (by decide) rfl (fun ls hl => ?_)
          refine lv_goto (tgt := 4) hx hb dX2_toneOf_29 (by decide) ?_
          exact ih4 (i + 1) (n + 1) _ _ _ (by omega) (by omega) (by have e := zcnt_s (zMk (S k 0 1) (S k 0 2)) x hi.1; split at e <;> omega) hH (lv_sub hl [2, 3, 1, 0] rfl)
  refine zb_ic h dX2_toneOf_0 ?_
  refine lv_istore_n (lv' := [(2, .int (zI 0)), (0, .ref (za G k 1)), (1, .int (zI x))]) hx hb dX2_toneOf_1 rfl hl (by decide) rfl (fun ls hl => ?_)
  refine zb_ic h dX2_toneOf_2 ?_
  refine lv_istore_n (lv' := [(3, .int (zI 0)), (2, .int (zI 0)), (0, .ref (za G k 1)), (1, .int (zI x))]) hx hb dX2_toneOf_3 rfl hl (by decide) rfl (fun ls hl => ?_)
  exact C4 ((10 - 0 : Int).toNat + 1) 0 0 _ _ _ (by omega) (by omega) rfl hH (lv_sub hl [2, 3, 1, 0] rfl)
theorem dX2_lightThrough_0 : decode cX2_lightThrough 0 = .ok (.iload_n 0, 1) := by decide +kernel
theorem dX2_lightThrough_1 : decode cX2_lightThrough 1 = .ok (.iconst 3, 1) := by decide +kernel
theorem dX2_lightThrough_2 : decode cX2_lightThrough 2 = .ok (.irem, 1) := by decide +kernel
theorem dX2_lightThrough_3 : decode cX2_lightThrough 3 = .ok (.istore_n 2, 1) := by decide +kernel
theorem dX2_lightThrough_4 : decode cX2_lightThrough 4 = .ok (.iload_n 2, 1) := by decide +kernel
theorem dX2_lightThrough_5 : decode cX2_lightThrough 5 = .ok (.ifCond .lt 11, 3) := by decide +kernel
theorem dX2_lightThrough_8 : decode cX2_lightThrough 8 = .ok (.iload_n 2, 1) := by decide +kernel
theorem dX2_lightThrough_9 : decode cX2_lightThrough 9 = .ok (.getstatic 39, 3) := by decide +kernel
theorem dX2_lightThrough_12 : decode cX2_lightThrough 12 = .ok (.arraylength, 1) := by decide +kernel
theorem dX2_lightThrough_13 : decode cX2_lightThrough 13 = .ok (.if_icmp .lt 5, 3) := by decide +kernel
theorem dX2_lightThrough_18 : decode cX2_lightThrough 18 = .ok (.iload_n 1, 1) := by decide +kernel
theorem dX2_lightThrough_19 : decode cX2_lightThrough 19 = .ok (.i2l, 1) := by decide +kernel
theorem dX2_lightThrough_20 : decode cX2_lightThrough 20 = .ok (.getstatic 39, 3) := by decide +kernel
theorem dX2_lightThrough_23 : decode cX2_lightThrough 23 = .ok (.iload_n 2, 1) := by decide +kernel
theorem dX2_lightThrough_24 : decode cX2_lightThrough 24 = .ok (.iaload, 1) := by decide +kernel
theorem dX2_lightThrough_25 : decode cX2_lightThrough 25 = .ok (.i2l, 1) := by decide +kernel
theorem dX2_lightThrough_26 : decode cX2_lightThrough 26 = .ok (.lmul, 1) := by decide +kernel
theorem dX2_lightThrough_27 : decode cX2_lightThrough 27 = .ok (.iload_n 0, 1) := by decide +kernel
theorem dX2_lightThrough_28 : decode cX2_lightThrough 28 = .ok (.iconst 3, 1) := by decide +kernel
theorem dX2_lightThrough_29 : decode cX2_lightThrough 29 = .ok (.idiv, 1) := by decide +kernel
theorem dX2_lightThrough_30 : decode cX2_lightThrough 30 = .ok (.lshr, 1) := by decide +kernel
theorem dX2_lightThrough_31 : decode cX2_lightThrough 31 = .ok (.lstore_n 3, 1) := by decide +kernel
theorem dX2_lightThrough_32 : decode cX2_lightThrough 32 = .ok (.lload_n 3, 1) := by decide +kernel
theorem dX2_lightThrough_33 : decode cX2_lightThrough 33 = .ok (.ldc2_w 29, 3) := by decide +kernel
theorem dX2_lightThrough_36 : decode cX2_lightThrough 36 = .ok (.ldiv, 1) := by decide +kernel
theorem dX2_lightThrough_37 : decode cX2_lightThrough 37 = .ok (.l2i, 1) := by decide +kernel
theorem dX2_lightThrough_38 : decode cX2_lightThrough 38 = .ok (.ireturn, 1) := by decide +kernel
def q_X2_lightThrough (S : zM) (d t : Int) : Int32 → zM → Prop := fun r S1 => r = zI (zLt d t) ∧ S = S1
def r_X2_lightThrough : Room := { frames := 0, cells := 0, slots := 0, locals := 0 }
set_option maxHeartbeats 4000000 in
set_option maxRecDepth 100000 in
/-- Paper.lightThrough -/
theorem c_X2_lightThrough (l : Launch) (G : zG) (hG : zok G) (S : zM) (d t : Int) (hd : 0 ≤ d ∧ d ≤ 24) (ht : 0 ≤ t ∧ t ≤ 100000) : Met l yX2_lightThrough (Cond.code yX2_lightThrough cX2_lightThrough 5 (some FieldType.int) :: zTbl) r_X2_lightThrough (va_Pc [.int (zI d), .int (zI t)] (zB G S)) (va_Qi (q_X2_lightThrough S d t) (zB G) (zA G)) 0 0 (zA G) := by
  refine zMet [(0, .int (zI d)), (1, .int (zI t))] hG (by decide) (Nat.le_of_ble_eq_true rfl) rfl (fun p e s m args below meth c ls h hx hb hr hH hl => ?_)
  have b1 := zLt_x (j := d % 3) ht
  have b2 := zLt_y (d := d) ht
  have b3 := zThr_in (d % 3)
  refine lv_iload_n hx hb dX2_lightThrough_0 rfl (lv_at hl 0 rfl) ?_
  refine zb_ic h dX2_lightThrough_1 ?_
  refine zb_irem h (by omega) (by omega) dX2_lightThrough_2 ?_
  refine lv_istore_n (lv' := [(2, .int (zI (d % 3))), (0, .int (zI d)), (1, .int (zI t))]) hx hb dX2_lightThrough_3 rfl hl (by decide) rfl (fun ls hl => ?_)
  refine lv_iload_n hx hb dX2_lightThrough_4 rfl (lv_at hl 0 rfl) ?_
  refine zb_ilt (tgt := 16) h (by omega) dX2_lightThrough_5 (by decide) (fun c_5 => ?_) (fun c_5 => ?_)
  · exact absurd c_5 (by omega)
  · refine lv_iload_n hx hb dX2_lightThrough_8 rfl (lv_at hl 0 rfl) ?_
    refine zgs2 h hH zf_X2_39 dX2_lightThrough_9 ?_
    refine ztl2 h hH dX2_lightThrough_12 ?_
    refine zb_clt (tgt := 18) h (by omega) (by omega) dX2_lightThrough_13 (by decide) (fun c_13 => ?_) (fun c_13 => ?_)
    · refine lv_iload_n hx hb dX2_lightThrough_18 rfl (lv_at hl 2 rfl) ?_
      refine zb_i2l h (by omega) dX2_lightThrough_19 ?_
      refine zgs2 h hH zf_X2_39 dX2_lightThrough_20 ?_
      refine lv_iload_n hx hb dX2_lightThrough_23 rfl (lv_at hl 0 rfl) ?_
      refine ztd2 h hH (by omega) (by omega) dX2_lightThrough_24 ?_
      refine zb_i2l h (by omega) dX2_lightThrough_25 ?_
      refine zb_lmul h dX2_lightThrough_26 ?_
      refine lv_iload_n hx hb dX2_lightThrough_27 rfl (lv_at hl 1 rfl) ?_
      refine zb_ic h dX2_lightThrough_28 ?_
      refine zb_idiv h (by omega) (by omega) dX2_lightThrough_29 ?_
      refine zb_lshr h (by omega) (by omega) dX2_lightThrough_30 ?_
      refine lv_lstore_n (lv' := [(3, .long (zL ((t * (zThr (d % 3))) / 2 ^ (d / 3).toNat))), (2, .int (zI (d % 3))), (0, .int (zI d)), (1, .int (zI t))]) hx hb dX2_lightThrough_31 rfl hl (by decide) rfl (fun ls hl => ?_)
      refine lv_lload_n hx hb dX2_lightThrough_32 rfl (lv_at hl 0 rfl) ?_
      refine zb_ldc2 (n := 100) h zk_X2_29 (by decide +kernel) dX2_lightThrough_33 ?_
      refine zb_ldiv h (by omega) (by omega) dX2_lightThrough_36 ?_
      refine zb_l2i h dX2_lightThrough_37 ?_
      refine zri h hr hH ?_ dX2_lightThrough_38
      exact ⟨rfl, rfl⟩
    · exact absurd c_13 (by omega)
end
section
theorem dX4_isWithin_0 : decode cX4_isWithin 0 = .ok (.iload_n 0, 1) := by decide +kernel
theorem dX4_isWithin_1 : decode cX4_isWithin 1 = .ok (.iload_n 1, 1) := by decide +kernel
theorem dX4_isWithin_2 : decode cX4_isWithin 2 = .ok (.if_icmp .lt 12, 3) := by decide +kernel
theorem dX4_isWithin_5 : decode cX4_isWithin 5 = .ok (.iload_n 0, 1) := by decide +kernel
theorem dX4_isWithin_6 : decode cX4_isWithin 6 = .ok (.iload_n 2, 1) := by decide +kernel
theorem dX4_isWithin_7 : decode cX4_isWithin 7 = .ok (.if_icmp .gt 7, 3) := by decide +kernel
theorem dX4_isWithin_10 : decode cX4_isWithin 10 = .ok (.iconst 1, 1) := by decide +kernel
theorem dX4_isWithin_11 : decode cX4_isWithin 11 = .ok (.goto 4, 3) := by decide +kernel
theorem dX4_isWithin_14 : decode cX4_isWithin 14 = .ok (.iconst 0, 1) := by decide +kernel
theorem dX4_isWithin_15 : decode cX4_isWithin 15 = .ok (.ireturn, 1) := by decide +kernel
def q_X4_isWithin (S : zM) (a b d : Int) : Int32 → zM → Prop := fun r S1 => ∃ bb : Int, r = zI bb ∧ (bb = 1 ∧ (b ≤ a ∧ a ≤ d) ∨ bb = 0 ∧ ¬ (b ≤ a ∧ a ≤ d)) ∧ S = S1
def r_X4_isWithin : Room := { frames := 0, cells := 0, slots := 0, locals := 0 }
set_option maxHeartbeats 4000000 in
set_option maxRecDepth 100000 in
/-- isWithin -/
theorem c_X4_isWithin (l : Launch) (G : zG) (hG : zok G) (S : zM) (a b d : Int) (ha : -2147483648 ≤ a ∧ a ≤ 2147483647) (hb : -2147483648 ≤ b ∧ b ≤ 2147483647) (hd : -2147483648 ≤ d ∧ d ≤ 2147483647) : Met l yX4_isWithin (Cond.code yX4_isWithin cX4_isWithin 3 (some FieldType.boolean) :: zTbl) r_X4_isWithin (va_Pc [.int (zI a), .int (zI b), .int (zI d)] (zB G S)) (va_Qi (q_X4_isWithin S a b d) (zB G) (zA G)) 0 0 (zA G) := by
  refine zMet [(0, .int (zI a)), (1, .int (zI b)), (2, .int (zI d))] hG (by decide) (Nat.le_of_ble_eq_true rfl) rfl (fun p e s m args below meth c ls h hx hb hr hH hl => ?_)
  refine lv_iload_n hx hb dX4_isWithin_0 rfl (lv_at hl 0 rfl) ?_
  refine lv_iload_n hx hb dX4_isWithin_1 rfl (lv_at hl 1 rfl) ?_
  refine zb_clt (tgt := 14) h (by omega) (by omega) dX4_isWithin_2 (by decide) (fun c_2 => ?_) (fun c_2 => ?_)
  · refine zb_ic h dX4_isWithin_14 ?_
    refine zrz h hr hH (by omega) ?_ dX4_isWithin_15
    exact ⟨_, rfl, by omega, rfl⟩
  · refine lv_iload_n hx hb dX4_isWithin_5 rfl (lv_at hl 0 rfl) ?_
    refine lv_iload_n hx hb dX4_isWithin_6 rfl (lv_at hl 2 rfl) ?_
    refine zb_cgt (tgt := 14) h (by omega) (by omega) dX4_isWithin_7 (by decide) (fun c_7 => ?_) (fun c_7 => ?_)
    · refine zb_ic h dX4_isWithin_14 ?_
      refine zrz h hr hH (by omega) ?_ dX4_isWithin_15
      exact ⟨_, rfl, by omega, rfl⟩
    · refine zb_ic h dX4_isWithin_10 ?_
      refine lv_goto (tgt := 15) hx hb dX4_isWithin_11 (by decide) ?_
      refine zrz h hr hH (by omega) ?_ dX4_isWithin_15
      exact ⟨_, rfl, by omega, rfl⟩
theorem dJ6_compare_7cf53_0 : decode cJ6_compare_7cf53 0 = .ok (.iload_n 0, 1) := by decide +kernel
theorem dJ6_compare_7cf53_1 : decode cJ6_compare_7cf53 1 = .ok (.iload_n 1, 1) := by decide +kernel
theorem dJ6_compare_7cf53_2 : decode cJ6_compare_7cf53 2 = .ok (.if_icmp .ge 7, 3) := by decide +kernel
theorem dJ6_compare_7cf53_5 : decode cJ6_compare_7cf53 5 = .ok (.iconst (-1), 1) := by decide +kernel
theorem dJ6_compare_7cf53_6 : decode cJ6_compare_7cf53 6 = .ok (.goto 13, 3) := by decide +kernel
theorem dJ6_compare_7cf53_9 : decode cJ6_compare_7cf53 9 = .ok (.iload_n 0, 1) := by decide +kernel
theorem dJ6_compare_7cf53_10 : decode cJ6_compare_7cf53 10 = .ok (.iload_n 1, 1) := by decide +kernel
theorem dJ6_compare_7cf53_11 : decode cJ6_compare_7cf53 11 = .ok (.if_icmp .ne 7, 3) := by decide +kernel
theorem dJ6_compare_7cf53_14 : decode cJ6_compare_7cf53 14 = .ok (.iconst 0, 1) := by decide +kernel
theorem dJ6_compare_7cf53_15 : decode cJ6_compare_7cf53 15 = .ok (.goto 4, 3) := by decide +kernel
theorem dJ6_compare_7cf53_18 : decode cJ6_compare_7cf53 18 = .ok (.iconst 1, 1) := by decide +kernel
theorem dJ6_compare_7cf53_19 : decode cJ6_compare_7cf53 19 = .ok (.ireturn, 1) := by decide +kernel
def q_J6_compare_7cf53 (S : zM) (a b : Int) : Int32 → zM → Prop := fun r S1 => r = zI (zsg (a - b)) ∧ S = S1
def r_J6_compare_7cf53 : Room := { frames := 0, cells := 0, slots := 0, locals := 0 }
set_option maxHeartbeats 4000000 in
set_option maxRecDepth 100000 in
/-- Integer.compare -/
theorem c_J6_compare_7cf53 (l : Launch) (G : zG) (hG : zok G) (S : zM) (a b : Int) (ha : -2147483648 ≤ a ∧ a ≤ 2147483647) (hb : -2147483648 ≤ b ∧ b ≤ 2147483647) : Met l yJ6_compare_7cf53 (Cond.code yJ6_compare_7cf53 cJ6_compare_7cf53 2 (some FieldType.int) :: zTbl) r_J6_compare_7cf53 (va_Pc [.int (zI a), .int (zI b)] (zB G S)) (va_Qi (q_J6_compare_7cf53 S a b) (zB G) (zA G)) 0 0 (zA G) := by
  refine zMet [(0, .int (zI a)), (1, .int (zI b))] hG (by decide) (Nat.le_of_ble_eq_true rfl) rfl (fun p e s m args below meth c ls h hx hb hr hH hl => ?_)
  refine lv_iload_n hx hb dJ6_compare_7cf53_0 rfl (lv_at hl 0 rfl) ?_
  refine lv_iload_n hx hb dJ6_compare_7cf53_1 rfl (lv_at hl 1 rfl) ?_
  refine zb_cge (tgt := 9) h (by omega) (by omega) dJ6_compare_7cf53_2 (by decide) (fun c_2 => ?_) (fun c_2 => ?_)
  · refine lv_iload_n hx hb dJ6_compare_7cf53_9 rfl (lv_at hl 0 rfl) ?_
    refine lv_iload_n hx hb dJ6_compare_7cf53_10 rfl (lv_at hl 1 rfl) ?_
    refine zb_cne (tgt := 18) h (by omega) (by omega) dJ6_compare_7cf53_11 (by decide) (fun c_11 => ?_) (fun c_11 => ?_)
    · refine zb_ic h dJ6_compare_7cf53_18 ?_
      refine zri h hr hH ?_ dJ6_compare_7cf53_19
      exact ⟨by congr 1; unfold zsg; repeat (first | omega | split), rfl⟩
    · refine zb_ic h dJ6_compare_7cf53_14 ?_
      refine lv_goto (tgt := 19) hx hb dJ6_compare_7cf53_15 (by decide) ?_
      refine zri h hr hH ?_ dJ6_compare_7cf53_19
      exact ⟨by congr 1; unfold zsg; repeat (first | omega | split), rfl⟩
  · refine zb_ic h dJ6_compare_7cf53_5 ?_
    refine lv_goto (tgt := 19) hx hb dJ6_compare_7cf53_6 (by decide) ?_
    refine zri h hr hH ?_ dJ6_compare_7cf53_19
    exact ⟨by congr 1; unfold zsg; repeat (first | omega | split), rfl⟩
theorem dX3_isFull_0 : decode cX3_isFull 0 = .ok (.aload_n 0, 1) := by decide +kernel
theorem dX3_isFull_1 : decode cX3_isFull 1 = .ok (.getfield 37, 3) := by decide +kernel
theorem dX3_isFull_4 : decode cX3_isFull 4 = .ok (.bipush 8, 2) := by decide +kernel
theorem dX3_isFull_6 : decode cX3_isFull 6 = .ok (.if_icmp .lt 7, 3) := by decide +kernel
theorem dX3_isFull_9 : decode cX3_isFull 9 = .ok (.iconst 1, 1) := by decide +kernel
theorem dX3_isFull_10 : decode cX3_isFull 10 = .ok (.goto 4, 3) := by decide +kernel
theorem dX3_isFull_13 : decode cX3_isFull 13 = .ok (.iconst 0, 1) := by decide +kernel
theorem dX3_isFull_14 : decode cX3_isFull 14 = .ok (.ireturn, 1) := by decide +kernel
def q_X3_isFull (k : Nat) (S : zM) : Int32 → zM → Prop := fun r S1 => ∃ bb : Int, r = zI bb ∧ (bb = 1 ∧ (8 ≤ S k 0 4) ∨ bb = 0 ∧ ¬ (8 ≤ S k 0 4)) ∧ S = S1
def r_X3_isFull : Room := { frames := 0, cells := 0, slots := 0, locals := 0 }
set_option maxHeartbeats 4000000 in
set_option maxRecDepth 100000 in
theorem c_X3_isFull (l : Launch) (G : zG) (hG : zok G) (k : Nat) (hk : k < 8) (S : zM) (hw : zW (S k 0)) : Met l yX3_isFull (Cond.code yX3_isFull cX3_isFull 1 (some FieldType.boolean) :: zTbl) r_X3_isFull (va_Pc [.ref (za G k 0)] (zB G S)) (va_Qi (q_X3_isFull k S) (zB G) (zA G)) 0 0 (zA G) := by
  refine zMet [(0, .ref (za G k 0))] hG (by decide) (Nat.le_of_ble_eq_true rfl) rfl (fun p e s m args below meth c ls h hx hb hr hH hl => ?_)
  refine lv_aload_n hx hb dX3_isFull_0 rfl (lv_at hl 0 rfl) ?_
  refine zg_3_7 h hH hk zf_X3_37 dX3_isFull_1 ?_
  have f_1 := zW_4 hw
  refine zb_bi h dX3_isFull_4 (by decide) (by decide) ?_
  refine zb_clt (tgt := 13) h (by omega) (by omega) dX3_isFull_6 (by decide) (fun c_6 => ?_) (fun c_6 => ?_)
  · refine zb_ic h dX3_isFull_13 ?_
    refine zrz h hr hH (by omega) ?_ dX3_isFull_14
    exact ⟨_, rfl, by omega, rfl⟩
  · refine zb_ic h dX3_isFull_9 ?_
    refine lv_goto (tgt := 14) hx hb dX3_isFull_10 (by decide) ?_
    refine zrz h hr hH (by omega) ?_ dX3_isFull_14
    exact ⟨_, rfl, by omega, rfl⟩
theorem dX3_hasZone_0 : decode cX3_hasZone 0 = .ok (.iload_n 1, 1) := by decide +kernel
theorem dX3_hasZone_1 : decode cX3_hasZone 1 = .ok (.ifCond .lt 21, 3) := by decide +kernel
theorem dX3_hasZone_4 : decode cX3_hasZone 4 = .ok (.iload_n 1, 1) := by decide +kernel
theorem dX3_hasZone_5 : decode cX3_hasZone 5 = .ok (.aload_n 0, 1) := by decide +kernel
theorem dX3_hasZone_6 : decode cX3_hasZone 6 = .ok (.getfield 37, 3) := by decide +kernel
theorem dX3_hasZone_9 : decode cX3_hasZone 9 = .ok (.if_icmp .ge 13, 3) := by decide +kernel
theorem dX3_hasZone_12 : decode cX3_hasZone 12 = .ok (.iload_n 1, 1) := by decide +kernel
theorem dX3_hasZone_13 : decode cX3_hasZone 13 = .ok (.bipush 8, 2) := by decide +kernel
theorem dX3_hasZone_15 : decode cX3_hasZone 15 = .ok (.if_icmp .ge 7, 3) := by decide +kernel
theorem dX3_hasZone_18 : decode cX3_hasZone 18 = .ok (.iconst 1, 1) := by decide +kernel
theorem dX3_hasZone_19 : decode cX3_hasZone 19 = .ok (.goto 4, 3) := by decide +kernel
theorem dX3_hasZone_22 : decode cX3_hasZone 22 = .ok (.iconst 0, 1) := by decide +kernel
theorem dX3_hasZone_23 : decode cX3_hasZone 23 = .ok (.ireturn, 1) := by decide +kernel
def q_X3_hasZone (k : Nat) (S : zM) (z : Int) : Int32 → zM → Prop := fun r S1 => ∃ bb : Int, r = zI bb ∧ (bb = 1 ∧ (0 ≤ z ∧ z < S k 0 4) ∨ bb = 0 ∧ ¬ (0 ≤ z ∧ z < S k 0 4)) ∧ S = S1
def r_X3_hasZone : Room := { frames := 0, cells := 0, slots := 0, locals := 0 }
set_option maxHeartbeats 4000000 in
set_option maxRecDepth 100000 in
theorem c_X3_hasZone (l : Launch) (G : zG) (hG : zok G) (k : Nat) (hk : k < 8) (S : zM) (z : Int) (hz : -2147483648 ≤ z ∧ z ≤ 2147483647) (hw : zW (S k 0)) : Met l yX3_hasZone (Cond.code yX3_hasZone cX3_hasZone 2 (some FieldType.boolean) :: zTbl) r_X3_hasZone (va_Pc [.ref (za G k 0), .int (zI z)] (zB G S)) (va_Qi (q_X3_hasZone k S z) (zB G) (zA G)) 0 0 (zA G) := by
  refine zMet [(0, .ref (za G k 0)), (1, .int (zI z))] hG (by decide) (Nat.le_of_ble_eq_true rfl) rfl (fun p e s m args below meth c ls h hx hb hr hH hl => ?_)
  refine lv_iload_n hx hb dX3_hasZone_0 rfl (lv_at hl 1 rfl) ?_
  refine zb_ilt (tgt := 22) h (by omega) dX3_hasZone_1 (by decide) (fun c_1 => ?_) (fun c_1 => ?_)
  · refine zb_ic h dX3_hasZone_22 ?_
    refine zrz h hr hH (by omega) ?_ dX3_hasZone_23
    exact ⟨_, rfl, by omega, rfl⟩
  · refine lv_iload_n hx hb dX3_hasZone_4 rfl (lv_at hl 1 rfl) ?_
    refine lv_aload_n hx hb dX3_hasZone_5 rfl (lv_at hl 0 rfl) ?_
    refine zg_3_7 h hH hk zf_X3_37 dX3_hasZone_6 ?_
    have f_6 := zW_4 hw
    refine zb_cge (tgt := 22) h (by omega) (by omega) dX3_hasZone_9 (by decide) (fun c_9 => ?_) (fun c_9 => ?_)
    · refine zb_ic h dX3_hasZone_22 ?_
      refine zrz h hr hH (by omega) ?_ dX3_hasZone_23
      exact ⟨_, rfl, by omega, rfl⟩
    · refine lv_iload_n hx hb dX3_hasZone_12 rfl (lv_at hl 1 rfl) ?_
      refine zb_bi h dX3_hasZone_13 (by decide) (by decide) ?_
      refine zb_cge (tgt := 22) h (by omega) (by omega) dX3_hasZone_15 (by decide) (fun c_15 => ?_) (fun c_15 => ?_)
      · refine zb_ic h dX3_hasZone_22 ?_
        refine zrz h hr hH (by omega) ?_ dX3_hasZone_23
        exact ⟨_, rfl, by omega, rfl⟩
      · refine zb_ic h dX3_hasZone_18 ?_
        refine lv_goto (tgt := 23) hx hb dX3_hasZone_19 (by decide) ?_
        refine zrz h hr hH (by omega) ?_ dX3_hasZone_23
        exact ⟨_, rfl, by omega, rfl⟩
theorem dX3_spillOnto_0 : decode cX3_spillOnto 0 = .ok (.iload_n 1, 1) := by decide +kernel
theorem dX3_spillOnto_1 : decode cX3_spillOnto 1 = .ok (.ifCond .lt 9, 3) := by decide +kernel
theorem dX3_spillOnto_4 : decode cX3_spillOnto 4 = .ok (.iload_n 1, 1) := by decide +kernel
theorem dX3_spillOnto_5 : decode cX3_spillOnto 5 = .ok (.bipush 8, 2) := by decide +kernel
theorem dX3_spillOnto_7 : decode cX3_spillOnto 7 = .ok (.if_icmp .lt 5, 3) := by decide +kernel
theorem dX3_spillOnto_12 : decode cX3_spillOnto 12 = .ok (.iconst 0, 1) := by decide +kernel
theorem dX3_spillOnto_13 : decode cX3_spillOnto 13 = .ok (.istore_n 2, 1) := by decide +kernel
theorem dX3_spillOnto_14 : decode cX3_spillOnto 14 = .ok (.iconst 0, 1) := by decide +kernel
theorem dX3_spillOnto_15 : decode cX3_spillOnto 15 = .ok (.istore_n 3, 1) := by decide +kernel
theorem dX3_spillOnto_16 : decode cX3_spillOnto 16 = .ok (.iload_n 3, 1) := by decide +kernel
theorem dX3_spillOnto_17 : decode cX3_spillOnto 17 = .ok (.aload_n 0, 1) := by decide +kernel
theorem dX3_spillOnto_18 : decode cX3_spillOnto 18 = .ok (.getfield 37, 3) := by decide +kernel
theorem dX3_spillOnto_21 : decode cX3_spillOnto 21 = .ok (.if_icmp .ge 46, 3) := by decide +kernel
theorem dX3_spillOnto_24 : decode cX3_spillOnto 24 = .ok (.iload_n 3, 1) := by decide +kernel
theorem dX3_spillOnto_25 : decode cX3_spillOnto 25 = .ok (.bipush 8, 2) := by decide +kernel
theorem dX3_spillOnto_27 : decode cX3_spillOnto 27 = .ok (.if_icmp .ge 40, 3) := by decide +kernel
theorem dX3_spillOnto_30 : decode cX3_spillOnto 30 = .ok (.aload_n 0, 1) := by decide +kernel
theorem dX3_spillOnto_31 : decode cX3_spillOnto 31 = .ok (.getfield 31, 3) := by decide +kernel
theorem dX3_spillOnto_34 : decode cX3_spillOnto 34 = .ok (.iload_n 1, 1) := by decide +kernel
theorem dX3_spillOnto_35 : decode cX3_spillOnto 35 = .ok (.iaload, 1) := by decide +kernel
theorem dX3_spillOnto_36 : decode cX3_spillOnto 36 = .ok (.iload_n 3, 1) := by decide +kernel
theorem dX3_spillOnto_37 : decode cX3_spillOnto 37 = .ok (.ishr, 1) := by decide +kernel
theorem dX3_spillOnto_38 : decode cX3_spillOnto 38 = .ok (.iconst 1, 1) := by decide +kernel
theorem dX3_spillOnto_39 : decode cX3_spillOnto 39 = .ok (.iand, 1) := by decide +kernel
theorem dX3_spillOnto_40 : decode cX3_spillOnto 40 = .ok (.iconst 1, 1) := by decide +kernel
theorem dX3_spillOnto_41 : decode cX3_spillOnto 41 = .ok (.if_icmp .ne 20, 3) := by decide +kernel
theorem dX3_spillOnto_44 : decode cX3_spillOnto 44 = .ok (.iload_n 2, 1) := by decide +kernel
theorem dX3_spillOnto_45 : decode cX3_spillOnto 45 = .ok (.aload_n 0, 1) := by decide +kernel
theorem dX3_spillOnto_46 : decode cX3_spillOnto 46 = .ok (.getfield 25, 3) := by decide +kernel
theorem dX3_spillOnto_49 : decode cX3_spillOnto 49 = .ok (.iload_n 3, 1) := by decide +kernel
theorem dX3_spillOnto_50 : decode cX3_spillOnto 50 = .ok (.iaload, 1) := by decide +kernel
theorem dX3_spillOnto_51 : decode cX3_spillOnto 51 = .ok (.aload_n 0, 1) := by decide +kernel
theorem dX3_spillOnto_52 : decode cX3_spillOnto 52 = .ok (.getfield 44, 3) := by decide +kernel
theorem dX3_spillOnto_55 : decode cX3_spillOnto 55 = .ok (.imul, 1) := by decide +kernel
theorem dX3_spillOnto_56 : decode cX3_spillOnto 56 = .ok (.bipush 100, 2) := by decide +kernel
theorem dX3_spillOnto_58 : decode cX3_spillOnto 58 = .ok (.idiv, 1) := by decide +kernel
theorem dX3_spillOnto_59 : decode cX3_spillOnto 59 = .ok (.iadd, 1) := by decide +kernel
theorem dX3_spillOnto_60 : decode cX3_spillOnto 60 = .ok (.istore_n 2, 1) := by decide +kernel
theorem dX3_spillOnto_61 : decode cX3_spillOnto 61 = .ok (.iinc 3 1, 3) := by decide +kernel
theorem dX3_spillOnto_64 : decode cX3_spillOnto 64 = .ok (.goto (-48), 3) := by decide +kernel
theorem dX3_spillOnto_67 : decode cX3_spillOnto 67 = .ok (.iload_n 2, 1) := by decide +kernel
theorem dX3_spillOnto_68 : decode cX3_spillOnto 68 = .ok (.ireturn, 1) := by decide +kernel
def q_X3_spillOnto (k : Nat) (S : zM) (z : Int) : Int32 → zM → Prop := fun r S1 => r = zI (tSp (S k 0) z) ∧ S = S1
def r_X3_spillOnto : Room := { frames := 0, cells := 0, slots := 0, locals := 0 }
set_option maxHeartbeats 4000000 in
set_option maxRecDepth 100000 in
theorem c_X3_spillOnto (l : Launch) (G : zG) (hG : zok G) (k : Nat) (hk : k < 8) (S : zM) (z : Int) (hz : 0 ≤ z ∧ z < 8) (hw : zW (S k 0)) : Met l yX3_spillOnto (Cond.code yX3_spillOnto cX3_spillOnto 4 (some FieldType.int) :: zTbl) r_X3_spillOnto (va_Pc [.ref (za G k 0), .int (zI z)] (zB G S)) (va_Qi (q_X3_spillOnto k S z) (zB G) (zA G)) 0 0 (zA G) := by
  refine zMet [(0, .ref (za G k 0)), (1, .int (zI z))] hG (by decide) (Nat.le_of_ble_eq_true rfl) rfl (fun p e s m args below meth c ls h hx hb hr hH hl => ?_)
  have C16 : ∀ (fu : Nat) (o n : Int) (H : Heap) (locs : List Loc) (ls : Array Slot), (S k 0 4 - o).toNat < fu → (0 ≤ o ∧ o ≤ S k 0 4) → (n = zSp (S k 0) z o.toNat) → zH G S s H locs → lv_has ls 4 [(0, .ref (za G k 0)), (1, .int (zI z)), (2, .int (zI n)), (3, .int (zI o))] → W p l e r_X3_spillOnto s m args below meth c H locs 0 0 (MQ below (va_Qi (q_X3_spillOnto k S z) (zB G) (zA G)) args s 0 0 (zA G)) (F0 m 16 ls []) := by
    intro fu
    induction fu with
    | zero => intro o n H locs ls hfu; omega
    | succ fu ih16 =>
      intro o n H locs ls hfu ho hn hH hl
      have f4 := zW_4 hw
      refine lv_iload_n hx hb dX3_spillOnto_16 rfl (lv_at hl 3 rfl) ?_
      refine lv_aload_n hx hb dX3_spillOnto_17 rfl (lv_at hl 0 rfl) ?_
      refine zg_3_7 h hH hk zf_X3_37 dX3_spillOnto_18 ?_
      have f_18 := zW_4 hw
      refine zb_cge (tgt := 67) h (by omega) (by omega) dX3_spillOnto_21 (by decide) (fun c_21 => ?_) (fun c_21 => ?_)
      · refine lv_iload_n hx hb dX3_spillOnto_67 rfl (lv_at hl 2 rfl) ?_
        refine zri h hr hH ?_ dX3_spillOnto_68
        have eo : o = S k 0 4 := by omega
        subst eo
        exact ⟨by rw [hn]; rfl, rfl⟩
      · refine lv_iload_n hx hb dX3_spillOnto_24 rfl (lv_at hl 3 rfl) ?_
        refine zb_bi h dX3_spillOnto_25 (by decide) (by decide) ?_
        refine zb_cge (tgt := 67) h (by omega) (by omega) dX3_spillOnto_27 (by decide) (fun c_27 => ?_) (fun c_27 => ?_)
        · refine lv_iload_n hx hb dX3_spillOnto_67 rfl (lv_at hl 2 rfl) ?_
          refine zri h hr hH ?_ dX3_spillOnto_68
          have eo : o = S k 0 4 := by omega
          subst eo
          exact ⟨by rw [hn]; rfl, rfl⟩
        · refine lv_aload_n hx hb dX3_spillOnto_30 rfl (lv_at hl 0 rfl) ?_
          refine zg_3_5 h hH hk zf_X3_31 dX3_spillOnto_31 ?_
          refine lv_iload_n hx hb dX3_spillOnto_34 rfl (lv_at hl 1 rfl) ?_
          refine zld_ar_nb h hH hk (by omega) dX3_spillOnto_35 ?_
          have f_35 := zW_nb hw (show 0 ≤ z ∧ z < 8 by omega)
          refine lv_iload_n hx hb dX3_spillOnto_36 rfl (lv_at hl 3 rfl) ?_
          refine zb_ishr h (by omega) (by omega) dX3_spillOnto_37 ?_
          refine zb_ic h dX3_spillOnto_38 ?_
          have b_39 := zdiv_le f_35.1 (zpow_pos o.toNat)
          refine zb_and1 h (by omega) dX3_spillOnto_39 ?_
          refine zb_ic h dX3_spillOnto_40 ?_
          refine zb_cne (tgt := 61) h (by omega) (by omega) dX3_spillOnto_41 (by decide) (fun c_41 => ?_) (fun c_41 => ?_)
          · refine lv_iinc (v := zI (o + 1)) (lv' := [(3, .int (zI (o + 1))), (0, .ref (za G k 0)), (1, .int (zI z)), (2, .int (zI n))]) hx hb dX3_spillOnto_61 hl (k := 3) rfl (zI_add _ _) (by decide) rfl (fun ls hl => ?_)
            refine lv_goto (tgt := 16) hx hb dX3_spillOnto_64 (by decide) ?_
            exact ih16 (o + 1) n _ _ _ (by omega) (by have := zW_4 hw; omega) (by rw [hn, zSp_s _ _ ho.1]; first | rw [if_pos (by omega)] | (rw [if_neg (by omega)]; omega)) hH (lv_sub hl [1, 2, 3, 0] rfl)
          · refine lv_iload_n hx hb dX3_spillOnto_44 rfl (lv_at hl 2 rfl) ?_
            refine lv_aload_n hx hb dX3_spillOnto_45 rfl (lv_at hl 0 rfl) ?_
            refine zg_3_3 h hH hk zf_X3_25 dX3_spillOnto_46 ?_
            refine lv_iload_n hx hb dX3_spillOnto_49 rfl (lv_at hl 3 rfl) ?_
            refine zld_ar_bu h hH hk (by omega) dX3_spillOnto_50 ?_
            have f_50 := zW_bu hw (show 0 ≤ o ∧ o < 8 by omega)
            refine lv_aload_n hx hb dX3_spillOnto_51 rfl (lv_at hl 0 rfl) ?_
            refine zg_3_9 h hH hk zf_X3_44 dX3_spillOnto_52 ?_
            have f_52 := zW_3 hw
            have b_55 : S k 0 (5 + 5 * o + 2) * S k 0 3 ≤ 999 * 50 := Int.mul_le_mul f_50.2 f_52.2 f_52.1 (by omega)
            have b_55b : 0 ≤ S k 0 (5 + 5 * o + 2) * S k 0 3 := Int.mul_nonneg f_50.1 f_52.1
            refine zb_imul h dX3_spillOnto_55 ?_
            refine zb_bi h dX3_spillOnto_56 (by decide) (by decide) ?_
            refine zb_idiv h (by omega) (by omega) dX3_spillOnto_58 ?_
            refine zb_iadd h dX3_spillOnto_59 ?_
            refine lv_istore_n (lv' := [(2, .int (zI (n + (((S k 0 (5 + 5 * o + 2)) * (S k 0 3)) / 100)))), (0, .ref (za G k 0)), (1, .int (zI z)), (3, .int (zI o))]) hx hb dX3_spillOnto_60 rfl hl (by decide) rfl (fun ls hl => ?_)
            refine lv_iinc (v := zI (o + 1)) (lv' := [(3, .int (zI (o + 1))), (2, .int (zI (n + (((S k 0 (5 + 5 * o + 2)) * (S k 0 3)) / 100)))), (0, .ref (za G k 0)), (1, .int (zI z))]) hx hb dX3_spillOnto_61 hl (k := 3) rfl (zI_add _ _) (by decide) rfl (fun ls hl => ?_)
            refine lv_goto (tgt := 16) hx hb dX3_spillOnto_64 (by decide) ?_
            exact ih16 (o + 1) (n + (((S k 0 (5 + 5 * o + 2)) * (S k 0 3)) / 100)) _ _ _ (by omega) (by have := zW_4 hw; omega) (by rw [hn, zSp_s _ _ ho.1]; first | rw [if_pos (by omega)] | (rw [if_neg (by omega)]; omega)) hH (lv_sub hl [2, 3, 1, 0] rfl)
  refine lv_iload_n hx hb dX3_spillOnto_0 rfl (lv_at hl 1 rfl) ?_
  refine zb_ilt (tgt := 10) h (by omega) dX3_spillOnto_1 (by decide) (fun c_1 => ?_) (fun c_1 => ?_)
  · exact absurd c_1 (by omega)
  · refine lv_iload_n hx hb dX3_spillOnto_4 rfl (lv_at hl 1 rfl) ?_
    refine zb_bi h dX3_spillOnto_5 (by decide) (by decide) ?_
    refine zb_clt (tgt := 12) h (by omega) (by omega) dX3_spillOnto_7 (by decide) (fun c_7 => ?_) (fun c_7 => ?_)
    · refine zb_ic h dX3_spillOnto_12 ?_
      refine lv_istore_n (lv' := [(2, .int (zI 0)), (0, .ref (za G k 0)), (1, .int (zI z))]) hx hb dX3_spillOnto_13 rfl hl (by decide) rfl (fun ls hl => ?_)
      refine zb_ic h dX3_spillOnto_14 ?_
      refine lv_istore_n (lv' := [(3, .int (zI 0)), (2, .int (zI 0)), (0, .ref (za G k 0)), (1, .int (zI z))]) hx hb dX3_spillOnto_15 rfl hl (by decide) rfl (fun ls hl => ?_)
      exact C16 ((S k 0 4 - 0 : Int).toNat + 1) 0 0 _ _ _ (by omega) (by have := zW_4 hw; omega) rfl hH (lv_sub hl [2, 3, 1, 0] rfl)
    · exact absurd c_7 (by omega)
theorem dX3_timeOf_0 : decode cX3_timeOf 0 = .ok (.iload_n 1, 1) := by decide +kernel
theorem dX3_timeOf_1 : decode cX3_timeOf 1 = .ok (.ifCond .lt 9, 3) := by decide +kernel
theorem dX3_timeOf_4 : decode cX3_timeOf 4 = .ok (.iload_n 1, 1) := by decide +kernel
theorem dX3_timeOf_5 : decode cX3_timeOf 5 = .ok (.bipush 8, 2) := by decide +kernel
theorem dX3_timeOf_7 : decode cX3_timeOf 7 = .ok (.if_icmp .lt 5, 3) := by decide +kernel
theorem dX3_timeOf_12 : decode cX3_timeOf 12 = .ok (.aload_n 0, 1) := by decide +kernel
theorem dX3_timeOf_13 : decode cX3_timeOf 13 = .ok (.getfield 41, 3) := by decide +kernel
theorem dX3_timeOf_16 : decode cX3_timeOf 16 = .ok (.aload_n 0, 1) := by decide +kernel
theorem dX3_timeOf_17 : decode cX3_timeOf 17 = .ok (.getfield 28, 3) := by decide +kernel
theorem dX3_timeOf_20 : decode cX3_timeOf 20 = .ok (.iload_n 1, 1) := by decide +kernel
theorem dX3_timeOf_21 : decode cX3_timeOf 21 = .ok (.iaload, 1) := by decide +kernel
theorem dX3_timeOf_22 : decode cX3_timeOf 22 = .ok (.isub, 1) := by decide +kernel
theorem dX3_timeOf_23 : decode cX3_timeOf 23 = .ok (.aload_n 0, 1) := by decide +kernel
theorem dX3_timeOf_24 : decode cX3_timeOf 24 = .ok (.getfield 41, 3) := by decide +kernel
theorem dX3_timeOf_27 : decode cX3_timeOf 27 = .ok (.iconst 2, 1) := by decide +kernel
theorem dX3_timeOf_28 : decode cX3_timeOf 28 = .ok (.idiv, 1) := by decide +kernel
theorem dX3_timeOf_29 : decode cX3_timeOf 29 = .ok (.invokestatic 81, 3) := by decide +kernel
theorem dX3_timeOf_32 : decode cX3_timeOf 32 = .ok (.aload_n 0, 1) := by decide +kernel
theorem dX3_timeOf_33 : decode cX3_timeOf 33 = .ok (.getfield 25, 3) := by decide +kernel
theorem dX3_timeOf_36 : decode cX3_timeOf 36 = .ok (.iload_n 1, 1) := by decide +kernel
theorem dX3_timeOf_37 : decode cX3_timeOf 37 = .ok (.iaload, 1) := by decide +kernel
theorem dX3_timeOf_38 : decode cX3_timeOf 38 = .ok (.iadd, 1) := by decide +kernel
theorem dX3_timeOf_39 : decode cX3_timeOf 39 = .ok (.aload_n 0, 1) := by decide +kernel
theorem dX3_timeOf_40 : decode cX3_timeOf 40 = .ok (.iload_n 1, 1) := by decide +kernel
theorem dX3_timeOf_41 : decode cX3_timeOf 41 = .ok (.invokevirtual 78, 3) := by decide +kernel
theorem dX3_timeOf_44 : decode cX3_timeOf 44 = .ok (.iadd, 1) := by decide +kernel
theorem dX3_timeOf_45 : decode cX3_timeOf 45 = .ok (.ireturn, 1) := by decide +kernel
def q_X3_timeOf (k : Nat) (S : zM) (z : Int) : Int32 → zM → Prop := fun r S1 => r = zI (tTm (S k 0) z) ∧ S = S1
def r_X3_timeOf : Room := { frames := 1, cells := 0, slots := 0, locals := 23 }
set_option maxHeartbeats 4000000 in
set_option maxRecDepth 100000 in
theorem c_X3_timeOf (l : Launch) (G : zG) (hG : zok G) (k : Nat) (hk : k < 8) (S : zM) (z : Int) (hz : 0 ≤ z ∧ z < 8) (hw : zW (S k 0)) : Met l yX3_timeOf (Cond.code yX3_timeOf cX3_timeOf 2 (some FieldType.int) :: zTbl) r_X3_timeOf (va_Pc [.ref (za G k 0), .int (zI z)] (zB G S)) (va_Qi (q_X3_timeOf k S z) (zB G) (zA G)) 0 0 (zA G) := by
  refine zMet [(0, .ref (za G k 0)), (1, .int (zI z))] hG (by decide) (Nat.le_of_ble_eq_true rfl) rfl (fun p e s m args below meth c ls h hx hb hr hH hl => ?_)
  refine lv_iload_n hx hb dX3_timeOf_0 rfl (lv_at hl 1 rfl) ?_
  refine zb_ilt (tgt := 10) h (by omega) dX3_timeOf_1 (by decide) (fun c_1 => ?_) (fun c_1 => ?_)
  · exact absurd c_1 (by omega)
  · refine lv_iload_n hx hb dX3_timeOf_4 rfl (lv_at hl 1 rfl) ?_
    refine zb_bi h dX3_timeOf_5 (by decide) (by decide) ?_
    refine zb_clt (tgt := 12) h (by omega) (by omega) dX3_timeOf_7 (by decide) (fun c_7 => ?_) (fun c_7 => ?_)
    · refine lv_aload_n hx hb dX3_timeOf_12 rfl (lv_at hl 0 rfl) ?_
      refine zg_3_8 h hH hk zf_X3_41 dX3_timeOf_13 ?_
      have f_13 := zW_0 hw
      refine lv_aload_n hx hb dX3_timeOf_16 rfl (lv_at hl 0 rfl) ?_
      refine zg_3_4 h hH hk zf_X3_28 dX3_timeOf_17 ?_
      refine lv_iload_n hx hb dX3_timeOf_20 rfl (lv_at hl 1 rfl) ?_
      refine zld_ar_ho h hH hk (by omega) dX3_timeOf_21 ?_
      have f_21 := zW_ho hw (show 0 ≤ z ∧ z < 8 by omega)
      refine zb_isub h dX3_timeOf_22 ?_
      refine lv_aload_n hx hb dX3_timeOf_23 rfl (lv_at hl 0 rfl) ?_
      refine zg_3_8 h hH hk zf_X3_41 dX3_timeOf_24 ?_
      have f_24 := zW_0 hw
      refine zb_ic h dX3_timeOf_27 ?_
      refine zb_idiv h (by omega) (by omega) dX3_timeOf_28 ?_
      refine zmaxI h hl.1 zm_X3_81 (Nat.le_of_ble_eq_true rfl) (Nat.le_of_ble_eq_true rfl) ⟨Nat.zero_le _, Nat.zero_le _⟩ (by omega) (by omega) (Nat.le_of_ble_eq_true rfl) dX3_timeOf_29 ?_
      refine lv_aload_n hx hb dX3_timeOf_32 rfl (lv_at hl 0 rfl) ?_
      refine zg_3_3 h hH hk zf_X3_25 dX3_timeOf_33 ?_
      refine lv_iload_n hx hb dX3_timeOf_36 rfl (lv_at hl 1 rfl) ?_
      refine zld_ar_bu h hH hk (by omega) dX3_timeOf_37 ?_
      have f_37 := zW_bu hw (show 0 ≤ z ∧ z < 8 by omega)
      refine zb_iadd h dX3_timeOf_38 ?_
      refine lv_aload_n hx hb dX3_timeOf_39 rfl (lv_at hl 0 rfl) ?_
      refine lv_iload_n hx hb dX3_timeOf_40 rfl (lv_at hl 1 rfl) ?_
      refine zcVi h hH (zr_3 h hH hk) (As := [.int (zI z)]) (rest := [.int (zI ((max ((S k 0 0) - (S k 0 (5 + 5 * z + 3))) ((S k 0 0) / 2)) + (S k 0 (5 + 5 * z + 2))))]) (c_X3_spillOnto l G hG k hk S z (by omega) hw) zce_X3_spillOnto zcv_X3_spillOnto zm_X3_78 hl.1 rfl rfl ⟨rfl, rfl⟩ ⟨Nat.le_of_ble_eq_true rfl, Nat.le_of_ble_eq_true rfl⟩ (Nat.le_of_ble_eq_true rfl) ⟨Nat.zero_le _, Nat.zero_le _⟩ dX3_timeOf_41 (fun r_41 S_41 H locs hq hH => ?_)
      obtain ⟨rfl, rfl⟩ := hq
      refine zb_iadd h dX3_timeOf_44 ?_
      refine zri h hr hH ?_ dX3_timeOf_45
      exact ⟨rfl, rfl⟩
    · exact absurd c_7 (by omega)
theorem dX3_toneAfter_0 : decode cX3_toneAfter 0 = .ok (.iload_n 1, 1) := by decide +kernel
theorem dX3_toneAfter_1 : decode cX3_toneAfter 1 = .ok (.ifCond .lt 9, 3) := by decide +kernel
theorem dX3_toneAfter_4 : decode cX3_toneAfter 4 = .ok (.iload_n 1, 1) := by decide +kernel
theorem dX3_toneAfter_5 : decode cX3_toneAfter 5 = .ok (.bipush 8, 2) := by decide +kernel
theorem dX3_toneAfter_7 : decode cX3_toneAfter 7 = .ok (.if_icmp .lt 5, 3) := by decide +kernel
theorem dX3_toneAfter_12 : decode cX3_toneAfter 12 = .ok (.aload_n 0, 1) := by decide +kernel
theorem dX3_toneAfter_13 : decode cX3_toneAfter 13 = .ok (.getfield 12, 3) := by decide +kernel
theorem dX3_toneAfter_16 : decode cX3_toneAfter 16 = .ok (.aload_n 0, 1) := by decide +kernel
theorem dX3_toneAfter_17 : decode cX3_toneAfter 17 = .ok (.getfield 18, 3) := by decide +kernel
theorem dX3_toneAfter_20 : decode cX3_toneAfter 20 = .ok (.iload_n 1, 1) := by decide +kernel
theorem dX3_toneAfter_21 : decode cX3_toneAfter 21 = .ok (.iaload, 1) := by decide +kernel
theorem dX3_toneAfter_22 : decode cX3_toneAfter 22 = .ok (.iload_n 2, 1) := by decide +kernel
theorem dX3_toneAfter_23 : decode cX3_toneAfter 23 = .ok (.invokestatic 65, 3) := by decide +kernel
theorem dX3_toneAfter_26 : decode cX3_toneAfter 26 = .ok (.invokevirtual 89, 3) := by decide +kernel
theorem dX3_toneAfter_29 : decode cX3_toneAfter 29 = .ok (.ireturn, 1) := by decide +kernel
def q_X3_toneAfter (k : Nat) (S : zM) (z t : Int) : Int32 → zM → Prop := fun r S1 => r = zI (tAt (S k 0) z t) ∧ S = S1
def r_X3_toneAfter : Room := { frames := 1, cells := 0, slots := 0, locals := 24 }
set_option maxHeartbeats 4000000 in
set_option maxRecDepth 100000 in
theorem c_X3_toneAfter (l : Launch) (G : zG) (hG : zok G) (k : Nat) (hk : k < 8) (S : zM) (z t : Int) (hz : 0 ≤ z ∧ z < 8) (ht : 0 ≤ t ∧ t ≤ 100000) (hms : zMs S k) (hw : zW (S k 0))  : Met l yX3_toneAfter (Cond.code yX3_toneAfter cX3_toneAfter 3 (some FieldType.int) :: zTbl) r_X3_toneAfter (va_Pc [.ref (za G k 0), .int (zI z), .int (zI t)] (zB G S)) (va_Qi (q_X3_toneAfter k S z t) (zB G) (zA G)) 0 0 (zA G) := by
  refine zMet [(0, .ref (za G k 0)), (1, .int (zI z)), (2, .int (zI t))] hG (by decide) (Nat.le_of_ble_eq_true rfl) rfl (fun p e s m args below meth c ls h hx hb hr hH hl => ?_)
  refine lv_iload_n hx hb dX3_toneAfter_0 rfl (lv_at hl 1 rfl) ?_
  refine zb_ilt (tgt := 10) h (by omega) dX3_toneAfter_1 (by decide) (fun c_1 => ?_) (fun c_1 => ?_)
  · exact absurd c_1 (by omega)
  · refine lv_iload_n hx hb dX3_toneAfter_4 rfl (lv_at hl 1 rfl) ?_
    refine zb_bi h dX3_toneAfter_5 (by decide) (by decide) ?_
    refine zb_clt (tgt := 12) h (by omega) (by omega) dX3_toneAfter_7 (by decide) (fun c_7 => ?_) (fun c_7 => ?_)
    · refine lv_aload_n hx hb dX3_toneAfter_12 rfl (lv_at hl 0 rfl) ?_
      refine zg_3_0 h hH hk zf_X3_12 dX3_toneAfter_13 ?_
      refine lv_aload_n hx hb dX3_toneAfter_16 rfl (lv_at hl 0 rfl) ?_
      refine zg_3_1 h hH hk zf_X3_18 dX3_toneAfter_17 ?_
      refine lv_iload_n hx hb dX3_toneAfter_20 rfl (lv_at hl 1 rfl) ?_
      refine zld_ar_de h hH hk (by omega) dX3_toneAfter_21 ?_
      have f_21 := zW_de hw (show 0 ≤ z ∧ z < 8 by omega)
      refine lv_iload_n hx hb dX3_toneAfter_22 rfl (lv_at hl 2 rfl) ?_
      refine zcSi h hH (As := [.int (zI (S k 0 (5 + 5 * z))), .int (zI t)]) (rest := [.ref (za G k 1)]) (c_X2_lightThrough l G hG S (S k 0 (5 + 5 * z)) t (by omega) (by omega)) zce_X2_lightThrough zt_X2_lightThrough zm_X3_65 hl.1 rfl rfl ⟨rfl, rfl⟩ ⟨Nat.le_of_ble_eq_true rfl, Nat.le_of_ble_eq_true rfl⟩ (Nat.le_of_ble_eq_true rfl) ⟨Nat.zero_le _, Nat.zero_le _⟩ dX3_toneAfter_23 (fun r_23 S_23 H locs hq hH => ?_)
      obtain ⟨rfl, rfl⟩ := hq
      have b_26 := zLt_in (d := S k 0 (5 + 5 * z)) ht
      refine zcVi h hH (zr_2 h hH hk) (As := [.int (zI (zLt (S k 0 (5 + 5 * z)) t))]) (rest := []) (c_X2_toneOf l G hG k hk S (zLt (S k 0 (5 + 5 * z)) t) (by omega) hms hw) zce_X2_toneOf zcv_X2_toneOf zm_X3_89 hl.1 rfl rfl ⟨rfl, rfl⟩ ⟨Nat.le_of_ble_eq_true rfl, Nat.le_of_ble_eq_true rfl⟩ (Nat.le_of_ble_eq_true rfl) ⟨Nat.zero_le _, Nat.zero_le _⟩ dX3_toneAfter_26 (fun r_26 S_26 H locs hq hH => ?_)
      obtain ⟨rfl, rfl⟩ := hq
      refine zri h hr hH ?_ dX3_toneAfter_29
      exact ⟨rfl, rfl⟩
    · exact absurd c_7 (by omega)
theorem dX3_toneOf_0 : decode cX3_toneOf 0 = .ok (.iload_n 1, 1) := by decide +kernel
theorem dX3_toneOf_1 : decode cX3_toneOf 1 = .ok (.ifCond .lt 9, 3) := by decide +kernel
theorem dX3_toneOf_4 : decode cX3_toneOf 4 = .ok (.iload_n 1, 1) := by decide +kernel
theorem dX3_toneOf_5 : decode cX3_toneOf 5 = .ok (.bipush 8, 2) := by decide +kernel
theorem dX3_toneOf_7 : decode cX3_toneOf 7 = .ok (.if_icmp .lt 5, 3) := by decide +kernel
theorem dX3_toneOf_12 : decode cX3_toneOf 12 = .ok (.aload_n 0, 1) := by decide +kernel
theorem dX3_toneOf_13 : decode cX3_toneOf 13 = .ok (.iload_n 1, 1) := by decide +kernel
theorem dX3_toneOf_14 : decode cX3_toneOf 14 = .ok (.aload_n 0, 1) := by decide +kernel
theorem dX3_toneOf_15 : decode cX3_toneOf 15 = .ok (.iload_n 1, 1) := by decide +kernel
theorem dX3_toneOf_16 : decode cX3_toneOf 16 = .ok (.invokevirtual 61, 3) := by decide +kernel
theorem dX3_toneOf_19 : decode cX3_toneOf 19 = .ok (.invokevirtual 86, 3) := by decide +kernel
theorem dX3_toneOf_22 : decode cX3_toneOf 22 = .ok (.ireturn, 1) := by decide +kernel
def q_X3_toneOf (k : Nat) (S : zM) (z : Int) : Int32 → zM → Prop := fun r S1 => r = zI (tTo (S k 0) z) ∧ S = S1
def r_X3_toneOf : Room := { frames := 2, cells := 0, slots := 0, locals := 46 }
set_option maxHeartbeats 4000000 in
set_option maxRecDepth 100000 in
theorem c_X3_toneOf (l : Launch) (G : zG) (hG : zok G) (k : Nat) (hk : k < 8) (S : zM) (z : Int) (hz : 0 ≤ z ∧ z < 8) (hms : zMs S k) (hw : zW (S k 0))  : Met l yX3_toneOf (Cond.code yX3_toneOf cX3_toneOf 2 (some FieldType.int) :: zTbl) r_X3_toneOf (va_Pc [.ref (za G k 0), .int (zI z)] (zB G S)) (va_Qi (q_X3_toneOf k S z) (zB G) (zA G)) 0 0 (zA G) := by
  refine zMet [(0, .ref (za G k 0)), (1, .int (zI z))] hG (by decide) (Nat.le_of_ble_eq_true rfl) rfl (fun p e s m args below meth c ls h hx hb hr hH hl => ?_)
  refine lv_iload_n hx hb dX3_toneOf_0 rfl (lv_at hl 1 rfl) ?_
  refine zb_ilt (tgt := 10) h (by omega) dX3_toneOf_1 (by decide) (fun c_1 => ?_) (fun c_1 => ?_)
  · exact absurd c_1 (by omega)
  · refine lv_iload_n hx hb dX3_toneOf_4 rfl (lv_at hl 1 rfl) ?_
    refine zb_bi h dX3_toneOf_5 (by decide) (by decide) ?_
    refine zb_clt (tgt := 12) h (by omega) (by omega) dX3_toneOf_7 (by decide) (fun c_7 => ?_) (fun c_7 => ?_)
    · refine lv_aload_n hx hb dX3_toneOf_12 rfl (lv_at hl 0 rfl) ?_
      refine lv_iload_n hx hb dX3_toneOf_13 rfl (lv_at hl 1 rfl) ?_
      refine lv_aload_n hx hb dX3_toneOf_14 rfl (lv_at hl 0 rfl) ?_
      refine lv_iload_n hx hb dX3_toneOf_15 rfl (lv_at hl 1 rfl) ?_
      refine zcVi h hH (zr_3 h hH hk) (As := [.int (zI z)]) (rest := [.int (zI z), .ref (za G k 0)]) (c_X3_timeOf l G hG k hk S z (by omega) hw) zce_X3_timeOf zcv_X3_timeOf zm_X3_61 hl.1 rfl rfl ⟨rfl, rfl⟩ ⟨Nat.le_of_ble_eq_true rfl, Nat.le_of_ble_eq_true rfl⟩ (Nat.le_of_ble_eq_true rfl) ⟨Nat.zero_le _, Nat.zero_le _⟩ dX3_toneOf_16 (fun r_16 S_16 H locs hq hH => ?_)
      obtain ⟨rfl, rfl⟩ := hq
      have b_19 := tTm_in hw hz
      refine zcVi h hH (zr_3 h hH hk) (As := [.int (zI z), .int (zI (tTm (S k 0) z))]) (rest := []) (c_X3_toneAfter l G hG k hk S z (tTm (S k 0) z) (by omega) (by omega) hms hw) zce_X3_toneAfter zcv_X3_toneAfter zm_X3_86 hl.1 rfl rfl ⟨rfl, rfl⟩ ⟨Nat.le_of_ble_eq_true rfl, Nat.le_of_ble_eq_true rfl⟩ (Nat.le_of_ble_eq_true rfl) ⟨Nat.zero_le _, Nat.zero_le _⟩ dX3_toneOf_19 (fun r_19 S_19 H locs hq hH => ?_)
      obtain ⟨rfl, rfl⟩ := hq
      refine zri h hr hH ?_ dX3_toneOf_22
      exact ⟨rfl, rfl⟩
    · exact absurd c_7 (by omega)
theorem dX3_tooDarkBy_0 : decode cX3_tooDarkBy 0 = .ok (.iload_n 1, 1) := by decide +kernel
theorem dX3_tooDarkBy_1 : decode cX3_tooDarkBy 1 = .ok (.ifCond .lt 9, 3) := by decide +kernel
theorem dX3_tooDarkBy_4 : decode cX3_tooDarkBy 4 = .ok (.iload_n 1, 1) := by decide +kernel
theorem dX3_tooDarkBy_5 : decode cX3_tooDarkBy 5 = .ok (.bipush 8, 2) := by decide +kernel
theorem dX3_tooDarkBy_7 : decode cX3_tooDarkBy 7 = .ok (.if_icmp .lt 5, 3) := by decide +kernel
theorem dX3_tooDarkBy_12 : decode cX3_tooDarkBy 12 = .ok (.aload_n 0, 1) := by decide +kernel
theorem dX3_tooDarkBy_13 : decode cX3_tooDarkBy 13 = .ok (.iload_n 1, 1) := by decide +kernel
theorem dX3_tooDarkBy_14 : decode cX3_tooDarkBy 14 = .ok (.aload_n 0, 1) := by decide +kernel
theorem dX3_tooDarkBy_15 : decode cX3_tooDarkBy 15 = .ok (.iload_n 1, 1) := by decide +kernel
theorem dX3_tooDarkBy_16 : decode cX3_tooDarkBy 16 = .ok (.invokevirtual 61, 3) := by decide +kernel
theorem dX3_tooDarkBy_19 : decode cX3_tooDarkBy 19 = .ok (.invokevirtual 86, 3) := by decide +kernel
theorem dX3_tooDarkBy_22 : decode cX3_tooDarkBy 22 = .ok (.aload_n 0, 1) := by decide +kernel
theorem dX3_tooDarkBy_23 : decode cX3_tooDarkBy 23 = .ok (.getfield 22, 3) := by decide +kernel
theorem dX3_tooDarkBy_26 : decode cX3_tooDarkBy 26 = .ok (.iload_n 1, 1) := by decide +kernel
theorem dX3_tooDarkBy_27 : decode cX3_tooDarkBy 27 = .ok (.iaload, 1) := by decide +kernel
theorem dX3_tooDarkBy_28 : decode cX3_tooDarkBy 28 = .ok (.isub, 1) := by decide +kernel
theorem dX3_tooDarkBy_29 : decode cX3_tooDarkBy 29 = .ok (.ireturn, 1) := by decide +kernel
def q_X3_tooDarkBy (k : Nat) (S : zM) (z : Int) : Int32 → zM → Prop := fun r S1 => r = zI (tOff (S k 0) z) ∧ S = S1
def r_X3_tooDarkBy : Room := { frames := 2, cells := 0, slots := 0, locals := 46 }
set_option maxHeartbeats 4000000 in
set_option maxRecDepth 100000 in
theorem c_X3_tooDarkBy (l : Launch) (G : zG) (hG : zok G) (k : Nat) (hk : k < 8) (S : zM) (z : Int) (hz : 0 ≤ z ∧ z < 8) (hms : zMs S k) (hw : zW (S k 0))  : Met l yX3_tooDarkBy (Cond.code yX3_tooDarkBy cX3_tooDarkBy 2 (some FieldType.int) :: zTbl) r_X3_tooDarkBy (va_Pc [.ref (za G k 0), .int (zI z)] (zB G S)) (va_Qi (q_X3_tooDarkBy k S z) (zB G) (zA G)) 0 0 (zA G) := by
  refine zMet [(0, .ref (za G k 0)), (1, .int (zI z))] hG (by decide) (Nat.le_of_ble_eq_true rfl) rfl (fun p e s m args below meth c ls h hx hb hr hH hl => ?_)
  refine lv_iload_n hx hb dX3_tooDarkBy_0 rfl (lv_at hl 1 rfl) ?_
  refine zb_ilt (tgt := 10) h (by omega) dX3_tooDarkBy_1 (by decide) (fun c_1 => ?_) (fun c_1 => ?_)
  · exact absurd c_1 (by omega)
  · refine lv_iload_n hx hb dX3_tooDarkBy_4 rfl (lv_at hl 1 rfl) ?_
    refine zb_bi h dX3_tooDarkBy_5 (by decide) (by decide) ?_
    refine zb_clt (tgt := 12) h (by omega) (by omega) dX3_tooDarkBy_7 (by decide) (fun c_7 => ?_) (fun c_7 => ?_)
    · refine lv_aload_n hx hb dX3_tooDarkBy_12 rfl (lv_at hl 0 rfl) ?_
      refine lv_iload_n hx hb dX3_tooDarkBy_13 rfl (lv_at hl 1 rfl) ?_
      refine lv_aload_n hx hb dX3_tooDarkBy_14 rfl (lv_at hl 0 rfl) ?_
      refine lv_iload_n hx hb dX3_tooDarkBy_15 rfl (lv_at hl 1 rfl) ?_
      refine zcVi h hH (zr_3 h hH hk) (As := [.int (zI z)]) (rest := [.int (zI z), .ref (za G k 0)]) (c_X3_timeOf l G hG k hk S z (by omega) hw) zce_X3_timeOf zcv_X3_timeOf zm_X3_61 hl.1 rfl rfl ⟨rfl, rfl⟩ ⟨Nat.le_of_ble_eq_true rfl, Nat.le_of_ble_eq_true rfl⟩ (Nat.le_of_ble_eq_true rfl) ⟨Nat.zero_le _, Nat.zero_le _⟩ dX3_tooDarkBy_16 (fun r_16 S_16 H locs hq hH => ?_)
      obtain ⟨rfl, rfl⟩ := hq
      have b_19 := tTm_in hw hz
      refine zcVi h hH (zr_3 h hH hk) (As := [.int (zI z), .int (zI (tTm (S k 0) z))]) (rest := []) (c_X3_toneAfter l G hG k hk S z (tTm (S k 0) z) (by omega) (by omega) hms hw) zce_X3_toneAfter zcv_X3_toneAfter zm_X3_86 hl.1 rfl rfl ⟨rfl, rfl⟩ ⟨Nat.le_of_ble_eq_true rfl, Nat.le_of_ble_eq_true rfl⟩ (Nat.le_of_ble_eq_true rfl) ⟨Nat.zero_le _, Nat.zero_le _⟩ dX3_tooDarkBy_19 (fun r_19 S_19 H locs hq hH => ?_)
      obtain ⟨rfl, rfl⟩ := hq
      refine lv_aload_n hx hb dX3_tooDarkBy_22 rfl (lv_at hl 0 rfl) ?_
      refine zg_3_2 h hH hk zf_X3_22 dX3_tooDarkBy_23 ?_
      refine lv_iload_n hx hb dX3_tooDarkBy_26 rfl (lv_at hl 1 rfl) ?_
      refine zld_ar_wa h hH hk (by omega) dX3_tooDarkBy_27 ?_
      have f_27 := zW_wa hw (show 0 ≤ z ∧ z < 8 by omega)
      refine zb_isub h dX3_tooDarkBy_28 ?_
      refine zri h hr hH ?_ dX3_tooDarkBy_29
      exact ⟨rfl, rfl⟩
    · exact absurd c_7 (by omega)
theorem dX3_zonesOff_0 : decode cX3_zonesOff 0 = .ok (.iconst 0, 1) := by decide +kernel
theorem dX3_zonesOff_1 : decode cX3_zonesOff 1 = .ok (.istore_n 2, 1) := by decide +kernel
theorem dX3_zonesOff_2 : decode cX3_zonesOff 2 = .ok (.iconst 0, 1) := by decide +kernel
theorem dX3_zonesOff_3 : decode cX3_zonesOff 3 = .ok (.istore_n 3, 1) := by decide +kernel
theorem dX3_zonesOff_4 : decode cX3_zonesOff 4 = .ok (.iload_n 3, 1) := by decide +kernel
theorem dX3_zonesOff_5 : decode cX3_zonesOff 5 = .ok (.aload_n 0, 1) := by decide +kernel
theorem dX3_zonesOff_6 : decode cX3_zonesOff 6 = .ok (.getfield 37, 3) := by decide +kernel
theorem dX3_zonesOff_9 : decode cX3_zonesOff 9 = .ok (.if_icmp .ge 25, 3) := by decide +kernel
theorem dX3_zonesOff_12 : decode cX3_zonesOff 12 = .ok (.aload_n 0, 1) := by decide +kernel
theorem dX3_zonesOff_13 : decode cX3_zonesOff 13 = .ok (.iload_n 3, 1) := by decide +kernel
theorem dX3_zonesOff_14 : decode cX3_zonesOff 14 = .ok (.invokevirtual 90, 3) := by decide +kernel
theorem dX3_zonesOff_17 : decode cX3_zonesOff 17 = .ok (.iconst 0, 1) := by decide +kernel
theorem dX3_zonesOff_18 : decode cX3_zonesOff 18 = .ok (.invokestatic 93, 3) := by decide +kernel
theorem dX3_zonesOff_21 : decode cX3_zonesOff 21 = .ok (.iload_n 1, 1) := by decide +kernel
theorem dX3_zonesOff_22 : decode cX3_zonesOff 22 = .ok (.if_icmp .ne 6, 3) := by decide +kernel
theorem dX3_zonesOff_25 : decode cX3_zonesOff 25 = .ok (.iinc 2 1, 3) := by decide +kernel
theorem dX3_zonesOff_28 : decode cX3_zonesOff 28 = .ok (.iinc 3 1, 3) := by decide +kernel
theorem dX3_zonesOff_31 : decode cX3_zonesOff 31 = .ok (.goto (-27), 3) := by decide +kernel
theorem dX3_zonesOff_34 : decode cX3_zonesOff 34 = .ok (.iload_n 2, 1) := by decide +kernel
theorem dX3_zonesOff_35 : decode cX3_zonesOff 35 = .ok (.ireturn, 1) := by decide +kernel
def q_X3_zonesOff (k : Nat) (S : zM) (side : Int) : Int32 → zM → Prop := fun r S1 => r = zI (tCnt (S k 0) side) ∧ S = S1
def r_X3_zonesOff : Room := { frames := 3, cells := 0, slots := 0, locals := 67 }
set_option maxHeartbeats 4000000 in
set_option maxRecDepth 100000 in
theorem c_X3_zonesOff (l : Launch) (G : zG) (hG : zok G) (k : Nat) (hk : k < 8) (S : zM) (side : Int) (hsd : -1 ≤ side ∧ side ≤ 1) (hms : zMs S k) (hw : zW (S k 0))  : Met l yX3_zonesOff (Cond.code yX3_zonesOff cX3_zonesOff 4 (some FieldType.int) :: zTbl) r_X3_zonesOff (va_Pc [.ref (za G k 0), .int (zI side)] (zB G S)) (va_Qi (q_X3_zonesOff k S side) (zB G) (zA G)) 0 0 (zA G) := by
  refine zMet [(0, .ref (za G k 0)), (1, .int (zI side))] hG (by decide) (Nat.le_of_ble_eq_true rfl) rfl (fun p e s m args below meth c ls h hx hb hr hH hl => ?_)
  have C4 : ∀ (fu : Nat) (o n : Int) (H : Heap) (locs : List Loc) (ls : Array Slot), (S k 0 4 - o).toNat < fu → (0 ≤ o ∧ o ≤ S k 0 4) → (n = zsum (fun z => if zsg (tOff (S k 0) z) = side then 1 else 0) o.toNat) → zH G S s H locs → lv_has ls 4 [(0, .ref (za G k 0)), (1, .int (zI side)), (2, .int (zI n)), (3, .int (zI o))] → W p l e r_X3_zonesOff s m args below meth c H locs 0 0 (MQ below (va_Qi (q_X3_zonesOff k S side) (zB G) (zA G)) args s 0 0 (zA G)) (F0 m 4 ls []) := by
    intro fu
    induction fu with
    | zero => intro o n H locs ls hfu; omega
    | succ fu ih4 =>
      intro o n H locs ls hfu ho hn hH hl
      have f4 := zW_4 hw
      refine lv_iload_n hx hb dX3_zonesOff_4 rfl (lv_at hl 3 rfl) ?_
      refine lv_aload_n hx hb dX3_zonesOff_5 rfl (lv_at hl 0 rfl) ?_
      refine zg_3_7 h hH hk zf_X3_37 dX3_zonesOff_6 ?_
      have f_6 := zW_4 hw
      refine zb_cge (tgt := 34) h (by omega) (by omega) dX3_zonesOff_9 (by decide) (fun c_9 => ?_) (fun c_9 => ?_)
      · refine lv_iload_n hx hb dX3_zonesOff_34 rfl (lv_at hl 2 rfl) ?_
        refine zri h hr hH ?_ dX3_zonesOff_35
        have eo : o = S k 0 4 := by omega
        subst eo
        exact ⟨by rw [hn]; rfl, rfl⟩
      · refine lv_aload_n hx hb dX3_zonesOff_12 rfl (lv_at hl 0 rfl) ?_
        refine lv_iload_n hx hb dX3_zonesOff_13 rfl (lv_at hl 3 rfl) ?_
        refine zcVi h hH (zr_3 h hH hk) (As := [.int (zI o)]) (rest := []) (c_X3_tooDarkBy l G hG k hk S o (by omega) hms hw) zce_X3_tooDarkBy zcv_X3_tooDarkBy zm_X3_90 hl.1 rfl rfl ⟨rfl, rfl⟩ ⟨Nat.le_of_ble_eq_true rfl, Nat.le_of_ble_eq_true rfl⟩ (Nat.le_of_ble_eq_true rfl) ⟨Nat.zero_le _, Nat.zero_le _⟩ dX3_zonesOff_14 (fun r_14 S_14 H locs hq hH => ?_)
        obtain ⟨rfl, rfl⟩ := hq
        refine zb_ic h dX3_zonesOff_17 ?_
        have b_18 := tOff_in hw (show 0 ≤ o ∧ o < 8 by omega)
        refine zcSi h hH (As := [.int (zI (tOff (S k 0) o)), .int (zI 0)]) (rest := []) (c_J6_compare_7cf53 l G hG S (tOff (S k 0) o) 0 (by omega) (by omega)) zce_J6_compare_7cf53 zt_J6_compare_7cf53 zm_X3_93 hl.1 rfl rfl ⟨rfl, rfl⟩ ⟨Nat.le_of_ble_eq_true rfl, Nat.le_of_ble_eq_true rfl⟩ (Nat.le_of_ble_eq_true rfl) ⟨Nat.zero_le _, Nat.zero_le _⟩ dX3_zonesOff_18 (fun r_18 S_18 H locs hq hH => ?_)
        obtain ⟨rfl, rfl⟩ := hq
        refine lv_iload_n hx hb dX3_zonesOff_21 rfl (lv_at hl 1 rfl) ?_
        have b_22 := zsg_in (tOff (S k 0) o - 0)
        refine zb_cne (tgt := 28) h (by omega) (by omega) dX3_zonesOff_22 (by decide) (fun c_22 => ?_) (fun c_22 => ?_)
        · refine lv_iinc (v := zI (o + 1)) (lv' := [(3, .int (zI (o + 1))), (0, .ref (za G k 0)), (1, .int (zI side)), (2, .int (zI n))]) hx hb dX3_zonesOff_28 hl (k := 3) rfl (zI_add _ _) (by decide) rfl (fun ls hl => ?_)
          refine lv_goto (tgt := 4) hx hb dX3_zonesOff_31 (by decide) ?_
          exact ih4 (o + 1) n _ _ _ (by omega) (by have := zW_4 hw; omega) (by rw [zsum_s _ ho.1, hn]; rw [Int.sub_zero] at c_22; first | rw [if_pos c_22] | (rw [if_neg c_22]; omega)) hH (lv_sub hl [1, 2, 3, 0] rfl)
        · refine lv_iinc (v := zI (n + 1)) (lv' := [(2, .int (zI (n + 1))), (0, .ref (za G k 0)), (1, .int (zI side)), (3, .int (zI o))]) hx hb dX3_zonesOff_25 hl (k := 2) rfl (zI_add _ _) (by decide) rfl (fun ls hl => ?_)
          refine lv_iinc (v := zI (o + 1)) (lv' := [(3, .int (zI (o + 1))), (2, .int (zI (n + 1))), (0, .ref (za G k 0)), (1, .int (zI side))]) hx hb dX3_zonesOff_28 hl (k := 3) rfl (zI_add _ _) (by decide) rfl (fun ls hl => ?_)
          refine lv_goto (tgt := 4) hx hb dX3_zonesOff_31 (by decide) ?_
          exact ih4 (o + 1) (n + 1) _ _ _ (by omega) (by have := zW_4 hw; omega) (by rw [zsum_s _ ho.1, hn]; rw [Int.sub_zero] at c_22; first | rw [if_pos c_22] | (rw [if_neg c_22]; omega)) hH (lv_sub hl [2, 3, 1, 0] rfl)
  refine zb_ic h dX3_zonesOff_0 ?_
  refine lv_istore_n (lv' := [(2, .int (zI 0)), (0, .ref (za G k 0)), (1, .int (zI side))]) hx hb dX3_zonesOff_1 rfl hl (by decide) rfl (fun ls hl => ?_)
  refine zb_ic h dX3_zonesOff_2 ?_
  refine lv_istore_n (lv' := [(3, .int (zI 0)), (2, .int (zI 0)), (0, .ref (za G k 0)), (1, .int (zI side))]) hx hb dX3_zonesOff_3 rfl hl (by decide) rfl (fun ls hl => ?_)
  exact C4 ((S k 0 4 - 0 : Int).toNat + 1) 0 0 _ _ _ (by omega) (by have := zW_4 hw; omega) rfl hH (lv_sub hl [2, 3, 1, 0] rfl)
theorem dX3_missedTones_0 : decode cX3_missedTones 0 = .ok (.iconst 0, 1) := by decide +kernel
theorem dX3_missedTones_1 : decode cX3_missedTones 1 = .ok (.istore_n 1, 1) := by decide +kernel
theorem dX3_missedTones_2 : decode cX3_missedTones 2 = .ok (.iconst 0, 1) := by decide +kernel
theorem dX3_missedTones_3 : decode cX3_missedTones 3 = .ok (.istore_n 2, 1) := by decide +kernel
theorem dX3_missedTones_4 : decode cX3_missedTones 4 = .ok (.iload_n 2, 1) := by decide +kernel
theorem dX3_missedTones_5 : decode cX3_missedTones 5 = .ok (.aload_n 0, 1) := by decide +kernel
theorem dX3_missedTones_6 : decode cX3_missedTones 6 = .ok (.getfield 37, 3) := by decide +kernel
theorem dX3_missedTones_9 : decode cX3_missedTones 9 = .ok (.if_icmp .ge 20, 3) := by decide +kernel
theorem dX3_missedTones_12 : decode cX3_missedTones 12 = .ok (.iload_n 1, 1) := by decide +kernel
theorem dX3_missedTones_13 : decode cX3_missedTones 13 = .ok (.aload_n 0, 1) := by decide +kernel
theorem dX3_missedTones_14 : decode cX3_missedTones 14 = .ok (.iload_n 2, 1) := by decide +kernel
theorem dX3_missedTones_15 : decode cX3_missedTones 15 = .ok (.invokevirtual 90, 3) := by decide +kernel
theorem dX3_missedTones_18 : decode cX3_missedTones 18 = .ok (.invokestatic 98, 3) := by decide +kernel
theorem dX3_missedTones_21 : decode cX3_missedTones 21 = .ok (.iadd, 1) := by decide +kernel
theorem dX3_missedTones_22 : decode cX3_missedTones 22 = .ok (.istore_n 1, 1) := by decide +kernel
theorem dX3_missedTones_23 : decode cX3_missedTones 23 = .ok (.iinc 2 1, 3) := by decide +kernel
theorem dX3_missedTones_26 : decode cX3_missedTones 26 = .ok (.goto (-22), 3) := by decide +kernel
theorem dX3_missedTones_29 : decode cX3_missedTones 29 = .ok (.iload_n 1, 1) := by decide +kernel
theorem dX3_missedTones_30 : decode cX3_missedTones 30 = .ok (.ireturn, 1) := by decide +kernel
def q_X3_missedTones (k : Nat) (S : zM) : Int32 → zM → Prop := fun r S1 => r = zI (tMis (S k 0)) ∧ S = S1
def r_X3_missedTones : Room := { frames := 3, cells := 0, slots := 0, locals := 67 }
set_option maxHeartbeats 4000000 in
set_option maxRecDepth 100000 in
theorem c_X3_missedTones (l : Launch) (G : zG) (hG : zok G) (k : Nat) (hk : k < 8) (S : zM) (hms : zMs S k) (hw : zW (S k 0))  : Met l yX3_missedTones (Cond.code yX3_missedTones cX3_missedTones 3 (some FieldType.int) :: zTbl) r_X3_missedTones (va_Pc [.ref (za G k 0)] (zB G S)) (va_Qi (q_X3_missedTones k S) (zB G) (zA G)) 0 0 (zA G) := by
  refine zMet [(0, .ref (za G k 0))] hG (by decide) (Nat.le_of_ble_eq_true rfl) rfl (fun p e s m args below meth c ls h hx hb hr hH hl => ?_)
  have C4 : ∀ (fu : Nat) (o n : Int) (H : Heap) (locs : List Loc) (ls : Array Slot), (S k 0 4 - o).toNat < fu → (0 ≤ o ∧ o ≤ S k 0 4) → (n = zsum (fun z => zabs (tOff (S k 0) z)) o.toNat) → zH G S s H locs → lv_has ls 3 [(0, .ref (za G k 0)), (1, .int (zI n)), (2, .int (zI o))] → W p l e r_X3_missedTones s m args below meth c H locs 0 0 (MQ below (va_Qi (q_X3_missedTones k S) (zB G) (zA G)) args s 0 0 (zA G)) (F0 m 4 ls []) := by
    intro fu
    induction fu with
    | zero => intro o n H locs ls hfu; omega
    | succ fu ih4 =>
      intro o n H locs ls hfu ho hn hH hl
      have f4 := zW_4 hw
      refine lv_iload_n hx hb dX3_missedTones_4 rfl (lv_at hl 2 rfl) ?_
      refine lv_aload_n hx hb dX3_missedTones_5 rfl (lv_at hl 0 rfl) ?_
      refine zg_3_7 h hH hk zf_X3_37 dX3_missedTones_6 ?_
      have f_6 := zW_4 hw
      refine zb_cge (tgt := 29) h (by omega) (by omega) dX3_missedTones_9 (by decide) (fun c_9 => ?_) (fun c_9 => ?_)
      · refine lv_iload_n hx hb dX3_missedTones_29 rfl (lv_at hl 1 rfl) ?_
        refine zri h hr hH ?_ dX3_missedTones_30
        have eo : o = S k 0 4 := by omega
        subst eo
        exact ⟨by rw [hn]; rfl, rfl⟩
      · refine lv_iload_n hx hb dX3_missedTones_12 rfl (lv_at hl 1 rfl) ?_
        refine lv_aload_n hx hb dX3_missedTones_13 rfl (lv_at hl 0 rfl) ?_
        refine lv_iload_n hx hb dX3_missedTones_14 rfl (lv_at hl 2 rfl) ?_
        refine zcVi h hH (zr_3 h hH hk) (As := [.int (zI o)]) (rest := [.int (zI n)]) (c_X3_tooDarkBy l G hG k hk S o (by omega) hms hw) zce_X3_tooDarkBy zcv_X3_tooDarkBy zm_X3_90 hl.1 rfl rfl ⟨rfl, rfl⟩ ⟨Nat.le_of_ble_eq_true rfl, Nat.le_of_ble_eq_true rfl⟩ (Nat.le_of_ble_eq_true rfl) ⟨Nat.zero_le _, Nat.zero_le _⟩ dX3_missedTones_15 (fun r_15 S_15 H locs hq hH => ?_)
        obtain ⟨rfl, rfl⟩ := hq
        have b_18 := tOff_in hw (show 0 ≤ o ∧ o < 8 by omega)
        refine zabsI h hl.1 zm_X3_98 (Nat.le_of_ble_eq_true rfl) (Nat.le_of_ble_eq_true rfl) ⟨Nat.zero_le _, Nat.zero_le _⟩ (by omega) (Nat.le_of_ble_eq_true rfl) dX3_missedTones_18 ?_
        refine zb_iadd h dX3_missedTones_21 ?_
        refine lv_istore_n (lv' := [(1, .int (zI (n + (zabs (tOff (S k 0) o))))), (0, .ref (za G k 0)), (2, .int (zI o))]) hx hb dX3_missedTones_22 rfl hl (by decide) rfl (fun ls hl => ?_)
        refine lv_iinc (v := zI (o + 1)) (lv' := [(2, .int (zI (o + 1))), (1, .int (zI (n + (zabs (tOff (S k 0) o))))), (0, .ref (za G k 0))]) hx hb dX3_missedTones_23 hl (k := 2) rfl (zI_add _ _) (by decide) rfl (fun ls hl => ?_)
        refine lv_goto (tgt := 4) hx hb dX3_missedTones_26 (by decide) ?_
        exact ih4 (o + 1) (n + (zabs (tOff (S k 0) o))) _ _ _ (by omega) (by have := zW_4 hw; omega) (by rw [zsum_s _ ho.1, hn]) hH (lv_sub hl [2, 1, 0] rfl)
  refine zb_ic h dX3_missedTones_0 ?_
  refine lv_istore_n (lv' := [(1, .int (zI 0)), (0, .ref (za G k 0))]) hx hb dX3_missedTones_1 rfl hl (by decide) rfl (fun ls hl => ?_)
  refine zb_ic h dX3_missedTones_2 ?_
  refine lv_istore_n (lv' := [(2, .int (zI 0)), (1, .int (zI 0)), (0, .ref (za G k 0))]) hx hb dX3_missedTones_3 rfl hl (by decide) rfl (fun ls hl => ?_)
  exact C4 ((S k 0 4 - 0 : Int).toNat + 1) 0 0 _ _ _ (by omega) (by have := zW_4 hw; omega) rfl hH (lv_sub hl [2, 1, 0] rfl)
theorem dX3_sumOf_0 : decode cX3_sumOf 0 = .ok (.iconst 0, 1) := by decide +kernel
theorem dX3_sumOf_1 : decode cX3_sumOf 1 = .ok (.istore_n 2, 1) := by decide +kernel
theorem dX3_sumOf_2 : decode cX3_sumOf 2 = .ok (.iconst 0, 1) := by decide +kernel
theorem dX3_sumOf_3 : decode cX3_sumOf 3 = .ok (.istore_n 3, 1) := by decide +kernel
theorem dX3_sumOf_4 : decode cX3_sumOf 4 = .ok (.iload_n 3, 1) := by decide +kernel
theorem dX3_sumOf_5 : decode cX3_sumOf 5 = .ok (.aload_n 0, 1) := by decide +kernel
theorem dX3_sumOf_6 : decode cX3_sumOf 6 = .ok (.getfield 37, 3) := by decide +kernel
theorem dX3_sumOf_9 : decode cX3_sumOf 9 = .ok (.if_icmp .ge 21, 3) := by decide +kernel
theorem dX3_sumOf_12 : decode cX3_sumOf 12 = .ok (.iload_n 3, 1) := by decide +kernel
theorem dX3_sumOf_13 : decode cX3_sumOf 13 = .ok (.aload_n 1, 1) := by decide +kernel
theorem dX3_sumOf_14 : decode cX3_sumOf 14 = .ok (.arraylength, 1) := by decide +kernel
theorem dX3_sumOf_15 : decode cX3_sumOf 15 = .ok (.if_icmp .ge 15, 3) := by decide +kernel
theorem dX3_sumOf_18 : decode cX3_sumOf 18 = .ok (.iload_n 2, 1) := by decide +kernel
theorem dX3_sumOf_19 : decode cX3_sumOf 19 = .ok (.aload_n 1, 1) := by decide +kernel
theorem dX3_sumOf_20 : decode cX3_sumOf 20 = .ok (.iload_n 3, 1) := by decide +kernel
theorem dX3_sumOf_21 : decode cX3_sumOf 21 = .ok (.iaload, 1) := by decide +kernel
theorem dX3_sumOf_22 : decode cX3_sumOf 22 = .ok (.iadd, 1) := by decide +kernel
theorem dX3_sumOf_23 : decode cX3_sumOf 23 = .ok (.istore_n 2, 1) := by decide +kernel
theorem dX3_sumOf_24 : decode cX3_sumOf 24 = .ok (.iinc 3 1, 3) := by decide +kernel
theorem dX3_sumOf_27 : decode cX3_sumOf 27 = .ok (.goto (-23), 3) := by decide +kernel
theorem dX3_sumOf_30 : decode cX3_sumOf 30 = .ok (.iload_n 2, 1) := by decide +kernel
theorem dX3_sumOf_31 : decode cX3_sumOf 31 = .ok (.ireturn, 1) := by decide +kernel
def q_X3_sumOf_bu (k : Nat) (S : zM) : Int32 → zM → Prop := fun r S1 => r = zI (tSum (S k 0) 2) ∧ S = S1
def r_X3_sumOf_bu : Room := { frames := 0, cells := 0, slots := 0, locals := 0 }
set_option maxHeartbeats 4000000 in
set_option maxRecDepth 100000 in
theorem c_X3_sumOf_bu (l : Launch) (G : zG) (hG : zok G) (k : Nat) (hk : k < 8) (S : zM) (hw : zW (S k 0)) : Met l yX3_sumOf (Cond.code yX3_sumOf cX3_sumOf 4 (some FieldType.int) :: zTbl) r_X3_sumOf_bu (va_Pc [.ref (za G k 0), .ref (za G k 5)] (zB G S)) (va_Qi (q_X3_sumOf_bu k S) (zB G) (zA G)) 0 0 (zA G) := by
  refine zMet [(0, .ref (za G k 0)), (1, .ref (za G k 5))] hG (by decide) (Nat.le_of_ble_eq_true rfl) rfl (fun p e s m args below meth c ls h hx hb hr hH hl => ?_)
  have C4 : ∀ (fu : Nat) (o n : Int) (H : Heap) (locs : List Loc) (ls : Array Slot), (S k 0 4 - o).toNat < fu → (0 ≤ o ∧ o ≤ S k 0 4) → (n = zsum (fun z => S k 0 (5 + 5 * z + 2)) o.toNat) → zH G S s H locs → lv_has ls 4 [(0, .ref (za G k 0)), (1, .ref (za G k 5)), (2, .int (zI n)), (3, .int (zI o))] → W p l e r_X3_sumOf_bu s m args below meth c H locs 0 0 (MQ below (va_Qi (q_X3_sumOf_bu k S) (zB G) (zA G)) args s 0 0 (zA G)) (F0 m 4 ls []) := by
    intro fu
    induction fu with
    | zero => intro o n H locs ls hfu; omega
    | succ fu ih4 =>
      intro o n H locs ls hfu ho hn hH hl
      have f4 := zW_4 hw
      refine lv_iload_n hx hb dX3_sumOf_4 rfl (lv_at hl 3 rfl) ?_
      refine lv_aload_n hx hb dX3_sumOf_5 rfl (lv_at hl 0 rfl) ?_
      refine zg_3_7 h hH hk zf_X3_37 dX3_sumOf_6 ?_
      have f_6 := zW_4 hw
      refine zb_cge (tgt := 30) h (by omega) (by omega) dX3_sumOf_9 (by decide) (fun c_9 => ?_) (fun c_9 => ?_)
      · refine lv_iload_n hx hb dX3_sumOf_30 rfl (lv_at hl 2 rfl) ?_
        refine zri h hr hH ?_ dX3_sumOf_31
        have eo : o = S k 0 4 := by omega
        subst eo
        exact ⟨by rw [hn]; rfl, rfl⟩
      · refine lv_iload_n hx hb dX3_sumOf_12 rfl (lv_at hl 3 rfl) ?_
        refine lv_aload_n hx hb dX3_sumOf_13 rfl (lv_at hl 1 rfl) ?_
        refine zln_ar_bu h hH hk dX3_sumOf_14 ?_
        refine zb_cge (tgt := 30) h (by omega) (by omega) dX3_sumOf_15 (by decide) (fun c_15 => ?_) (fun c_15 => ?_)
        · exact absurd c_15 (by omega)
        · have b_n := zsum_in (f := fun z => S k 0 (5 + 5 * z + 2)) (a := 0) (b := 999) o.toNat (fun j h1 h2 => zW_bu hw (by omega))
          refine lv_iload_n hx hb dX3_sumOf_18 rfl (lv_at hl 2 rfl) ?_
          refine lv_aload_n hx hb dX3_sumOf_19 rfl (lv_at hl 1 rfl) ?_
          refine lv_iload_n hx hb dX3_sumOf_20 rfl (lv_at hl 3 rfl) ?_
          refine zld_ar_bu h hH hk (by omega) dX3_sumOf_21 ?_
          have f_21 := zW_bu hw (show 0 ≤ o ∧ o < 8 by omega)
          refine zb_iadd h dX3_sumOf_22 ?_
          refine lv_istore_n (lv' := [(2, .int (zI (n + (S k 0 (5 + 5 * o + 2))))), (0, .ref (za G k 0)), (1, .ref (za G k 5)), (3, .int (zI o))]) hx hb dX3_sumOf_23 rfl hl (by decide) rfl (fun ls hl => ?_)
          refine lv_iinc (v := zI (o + 1)) (lv' := [(3, .int (zI (o + 1))), (2, .int (zI (n + (S k 0 (5 + 5 * o + 2))))), (0, .ref (za G k 0)), (1, .ref (za G k 5))]) hx hb dX3_sumOf_24 hl (k := 3) rfl (zI_add _ _) (by decide) rfl (fun ls hl => ?_)
          refine lv_goto (tgt := 4) hx hb dX3_sumOf_27 (by decide) ?_
          exact ih4 (o + 1) (n + (S k 0 (5 + 5 * o + 2))) _ _ _ (by omega) (by have := zW_4 hw; omega) (by rw [zsum_s _ ho.1, hn]) hH (lv_sub hl [2, 3, 1, 0] rfl)
  refine zb_ic h dX3_sumOf_0 ?_
  refine lv_istore_n (lv' := [(2, .int (zI 0)), (0, .ref (za G k 0)), (1, .ref (za G k 5))]) hx hb dX3_sumOf_1 rfl hl (by decide) rfl (fun ls hl => ?_)
  refine zb_ic h dX3_sumOf_2 ?_
  refine lv_istore_n (lv' := [(3, .int (zI 0)), (2, .int (zI 0)), (0, .ref (za G k 0)), (1, .ref (za G k 5))]) hx hb dX3_sumOf_3 rfl hl (by decide) rfl (fun ls hl => ?_)
  exact C4 ((S k 0 4 - 0 : Int).toNat + 1) 0 0 _ _ _ (by omega) (by have := zW_4 hw; omega) rfl hH (lv_sub hl [2, 3, 1, 0] rfl)
def q_X3_sumOf_ho (k : Nat) (S : zM) : Int32 → zM → Prop := fun r S1 => r = zI (tSum (S k 0) 3) ∧ S = S1
def r_X3_sumOf_ho : Room := { frames := 0, cells := 0, slots := 0, locals := 0 }
set_option maxHeartbeats 4000000 in
set_option maxRecDepth 100000 in
theorem c_X3_sumOf_ho (l : Launch) (G : zG) (hG : zok G) (k : Nat) (hk : k < 8) (S : zM) (hw : zW (S k 0)) : Met l yX3_sumOf (Cond.code yX3_sumOf cX3_sumOf 4 (some FieldType.int) :: zTbl) r_X3_sumOf_ho (va_Pc [.ref (za G k 0), .ref (za G k 6)] (zB G S)) (va_Qi (q_X3_sumOf_ho k S) (zB G) (zA G)) 0 0 (zA G) := by
  refine zMet [(0, .ref (za G k 0)), (1, .ref (za G k 6))] hG (by decide) (Nat.le_of_ble_eq_true rfl) rfl (fun p e s m args below meth c ls h hx hb hr hH hl => ?_)
  have C4 : ∀ (fu : Nat) (o n : Int) (H : Heap) (locs : List Loc) (ls : Array Slot), (S k 0 4 - o).toNat < fu → (0 ≤ o ∧ o ≤ S k 0 4) → (n = zsum (fun z => S k 0 (5 + 5 * z + 3)) o.toNat) → zH G S s H locs → lv_has ls 4 [(0, .ref (za G k 0)), (1, .ref (za G k 6)), (2, .int (zI n)), (3, .int (zI o))] → W p l e r_X3_sumOf_ho s m args below meth c H locs 0 0 (MQ below (va_Qi (q_X3_sumOf_ho k S) (zB G) (zA G)) args s 0 0 (zA G)) (F0 m 4 ls []) := by
    intro fu
    induction fu with
    | zero => intro o n H locs ls hfu; omega
    | succ fu ih4 =>
      intro o n H locs ls hfu ho hn hH hl
      have f4 := zW_4 hw
      refine lv_iload_n hx hb dX3_sumOf_4 rfl (lv_at hl 3 rfl) ?_
      refine lv_aload_n hx hb dX3_sumOf_5 rfl (lv_at hl 0 rfl) ?_
      refine zg_3_7 h hH hk zf_X3_37 dX3_sumOf_6 ?_
      have f_6 := zW_4 hw
      refine zb_cge (tgt := 30) h (by omega) (by omega) dX3_sumOf_9 (by decide) (fun c_9 => ?_) (fun c_9 => ?_)
      · refine lv_iload_n hx hb dX3_sumOf_30 rfl (lv_at hl 2 rfl) ?_
        refine zri h hr hH ?_ dX3_sumOf_31
        have eo : o = S k 0 4 := by omega
        subst eo
        exact ⟨by rw [hn]; rfl, rfl⟩
      · refine lv_iload_n hx hb dX3_sumOf_12 rfl (lv_at hl 3 rfl) ?_
        refine lv_aload_n hx hb dX3_sumOf_13 rfl (lv_at hl 1 rfl) ?_
        refine zln_ar_ho h hH hk dX3_sumOf_14 ?_
        refine zb_cge (tgt := 30) h (by omega) (by omega) dX3_sumOf_15 (by decide) (fun c_15 => ?_) (fun c_15 => ?_)
        · exact absurd c_15 (by omega)
        · have b_n := zsum_in (f := fun z => S k 0 (5 + 5 * z + 3)) (a := 0) (b := 999) o.toNat (fun j h1 h2 => zW_ho hw (by omega))
          refine lv_iload_n hx hb dX3_sumOf_18 rfl (lv_at hl 2 rfl) ?_
          refine lv_aload_n hx hb dX3_sumOf_19 rfl (lv_at hl 1 rfl) ?_
          refine lv_iload_n hx hb dX3_sumOf_20 rfl (lv_at hl 3 rfl) ?_
          refine zld_ar_ho h hH hk (by omega) dX3_sumOf_21 ?_
          have f_21 := zW_ho hw (show 0 ≤ o ∧ o < 8 by omega)
          refine zb_iadd h dX3_sumOf_22 ?_
          refine lv_istore_n (lv' := [(2, .int (zI (n + (S k 0 (5 + 5 * o + 3))))), (0, .ref (za G k 0)), (1, .ref (za G k 6)), (3, .int (zI o))]) hx hb dX3_sumOf_23 rfl hl (by decide) rfl (fun ls hl => ?_)
          refine lv_iinc (v := zI (o + 1)) (lv' := [(3, .int (zI (o + 1))), (2, .int (zI (n + (S k 0 (5 + 5 * o + 3))))), (0, .ref (za G k 0)), (1, .ref (za G k 6))]) hx hb dX3_sumOf_24 hl (k := 3) rfl (zI_add _ _) (by decide) rfl (fun ls hl => ?_)
          refine lv_goto (tgt := 4) hx hb dX3_sumOf_27 (by decide) ?_
          exact ih4 (o + 1) (n + (S k 0 (5 + 5 * o + 3))) _ _ _ (by omega) (by have := zW_4 hw; omega) (by rw [zsum_s _ ho.1, hn]) hH (lv_sub hl [2, 3, 1, 0] rfl)
  refine zb_ic h dX3_sumOf_0 ?_
  refine lv_istore_n (lv' := [(2, .int (zI 0)), (0, .ref (za G k 0)), (1, .ref (za G k 6))]) hx hb dX3_sumOf_1 rfl hl (by decide) rfl (fun ls hl => ?_)
  refine zb_ic h dX3_sumOf_2 ?_
  refine lv_istore_n (lv' := [(3, .int (zI 0)), (2, .int (zI 0)), (0, .ref (za G k 0)), (1, .ref (za G k 6))]) hx hb dX3_sumOf_3 rfl hl (by decide) rfl (fun ls hl => ?_)
  exact C4 ((S k 0 4 - 0 : Int).toNat + 1) 0 0 _ _ _ (by omega) (by have := zW_4 hw; omega) rfl hH (lv_sub hl [2, 3, 1, 0] rfl)
theorem dX3_stripTime_0 : decode cX3_stripTime 0 = .ok (.iload_n 1, 1) := by decide +kernel
theorem dX3_stripTime_1 : decode cX3_stripTime 1 = .ok (.iconst 3, 1) := by decide +kernel
theorem dX3_stripTime_2 : decode cX3_stripTime 2 = .ok (.irem, 1) := by decide +kernel
theorem dX3_stripTime_3 : decode cX3_stripTime 3 = .ok (.istore_n 2, 1) := by decide +kernel
theorem dX3_stripTime_4 : decode cX3_stripTime 4 = .ok (.iload_n 2, 1) := by decide +kernel
theorem dX3_stripTime_5 : decode cX3_stripTime 5 = .ok (.ifCond .lt 11, 3) := by decide +kernel
theorem dX3_stripTime_8 : decode cX3_stripTime 8 = .ok (.iload_n 2, 1) := by decide +kernel
theorem dX3_stripTime_9 : decode cX3_stripTime 9 = .ok (.getstatic 113, 3) := by decide +kernel
theorem dX3_stripTime_12 : decode cX3_stripTime 12 = .ok (.arraylength, 1) := by decide +kernel
theorem dX3_stripTime_13 : decode cX3_stripTime 13 = .ok (.if_icmp .lt 5, 3) := by decide +kernel
theorem dX3_stripTime_18 : decode cX3_stripTime 18 = .ok (.iload_n 0, 1) := by decide +kernel
theorem dX3_stripTime_19 : decode cX3_stripTime 19 = .ok (.iload_n 1, 1) := by decide +kernel
theorem dX3_stripTime_20 : decode cX3_stripTime 20 = .ok (.iconst 3, 1) := by decide +kernel
theorem dX3_stripTime_21 : decode cX3_stripTime 21 = .ok (.idiv, 1) := by decide +kernel
theorem dX3_stripTime_22 : decode cX3_stripTime 22 = .ok (.ishl, 1) := by decide +kernel
theorem dX3_stripTime_23 : decode cX3_stripTime 23 = .ok (.getstatic 113, 3) := by decide +kernel
theorem dX3_stripTime_26 : decode cX3_stripTime 26 = .ok (.iload_n 2, 1) := by decide +kernel
theorem dX3_stripTime_27 : decode cX3_stripTime 27 = .ok (.iaload, 1) := by decide +kernel
theorem dX3_stripTime_28 : decode cX3_stripTime 28 = .ok (.imul, 1) := by decide +kernel
theorem dX3_stripTime_29 : decode cX3_stripTime 29 = .ok (.bipush 100, 2) := by decide +kernel
theorem dX3_stripTime_31 : decode cX3_stripTime 31 = .ok (.idiv, 1) := by decide +kernel
theorem dX3_stripTime_32 : decode cX3_stripTime 32 = .ok (.ireturn, 1) := by decide +kernel
def q_X3_stripTime (S : zM) (f i : Int) : Int32 → zM → Prop := fun r S1 => r = zI (zStr f i) ∧ S = S1
def r_X3_stripTime : Room := { frames := 0, cells := 0, slots := 0, locals := 0 }
set_option maxHeartbeats 4000000 in
set_option maxRecDepth 100000 in
theorem c_X3_stripTime (l : Launch) (G : zG) (hG : zok G) (S : zM) (f i : Int) (hf : 1 ≤ f ∧ f ≤ 999) (hi : 0 ≤ i ∧ i < 9) : Met l yX3_stripTime (Cond.code yX3_stripTime cX3_stripTime 3 (some FieldType.int) :: zTbl) r_X3_stripTime (va_Pc [.int (zI f), .int (zI i)] (zB G S)) (va_Qi (q_X3_stripTime S f i) (zB G) (zA G)) 0 0 (zA G) := by
  refine zMet [(0, .int (zI f)), (1, .int (zI i))] hG (by decide) (Nat.le_of_ble_eq_true rfl) rfl (fun p e s m args below meth c ls h hx hb hr hH hl => ?_)
  have b1 := zStr_x hf hi
  have b2 := zStr_y hf hi
  refine lv_iload_n hx hb dX3_stripTime_0 rfl (lv_at hl 1 rfl) ?_
  refine zb_ic h dX3_stripTime_1 ?_
  refine zb_irem h (by omega) (by omega) dX3_stripTime_2 ?_
  refine lv_istore_n (lv' := [(2, .int (zI (i % 3))), (0, .int (zI f)), (1, .int (zI i))]) hx hb dX3_stripTime_3 rfl hl (by decide) rfl (fun ls hl => ?_)
  refine lv_iload_n hx hb dX3_stripTime_4 rfl (lv_at hl 0 rfl) ?_
  refine zb_ilt (tgt := 16) h (by omega) dX3_stripTime_5 (by decide) (fun c_5 => ?_) (fun c_5 => ?_)
  · exact absurd c_5 (by omega)
  · refine lv_iload_n hx hb dX3_stripTime_8 rfl (lv_at hl 0 rfl) ?_
    refine zgs3 h hH zf_X3_113 dX3_stripTime_9 ?_
    refine ztl3 h hH dX3_stripTime_12 ?_
    refine zb_clt (tgt := 18) h (by omega) (by omega) dX3_stripTime_13 (by decide) (fun c_13 => ?_) (fun c_13 => ?_)
    · refine lv_iload_n hx hb dX3_stripTime_18 rfl (lv_at hl 1 rfl) ?_
      refine lv_iload_n hx hb dX3_stripTime_19 rfl (lv_at hl 2 rfl) ?_
      refine zb_ic h dX3_stripTime_20 ?_
      refine zb_idiv h (by omega) (by omega) dX3_stripTime_21 ?_
      refine zb_ishl h (by omega) (by omega) (by omega) dX3_stripTime_22 ?_
      refine zgs3 h hH zf_X3_113 dX3_stripTime_23 ?_
      refine lv_iload_n hx hb dX3_stripTime_26 rfl (lv_at hl 0 rfl) ?_
      refine ztd3 h hH (by omega) (by omega) dX3_stripTime_27 ?_
      refine zb_imul h dX3_stripTime_28 ?_
      refine zb_bi h dX3_stripTime_29 (by decide) (by decide) ?_
      refine zb_idiv h (by omega) (by omega) dX3_stripTime_31 ?_
      refine zri h hr hH ?_ dX3_stripTime_32
      exact ⟨rfl, rfl⟩
    · exact absurd c_13 (by omega)
end
section
theorem dX2_leastTime_0 : decode cX2_leastTime 0 = .ok (.iload_n 1, 1) := by decide +kernel
theorem dX2_leastTime_1 : decode cX2_leastTime 1 = .ok (.iconst 3, 1) := by decide +kernel
theorem dX2_leastTime_2 : decode cX2_leastTime 2 = .ok (.irem, 1) := by decide +kernel
theorem dX2_leastTime_3 : decode cX2_leastTime 3 = .ok (.istore_n 3, 1) := by decide +kernel
theorem dX2_leastTime_4 : decode cX2_leastTime 4 = .ok (.iload_n 2, 1) := by decide +kernel
theorem dX2_leastTime_5 : decode cX2_leastTime 5 = .ok (.iconst 1, 1) := by decide +kernel
theorem dX2_leastTime_6 : decode cX2_leastTime 6 = .ok (.if_icmp .ge 5, 3) := by decide +kernel
theorem dX2_leastTime_9 : decode cX2_leastTime 9 = .ok (.iconst 1, 1) := by decide +kernel
theorem dX2_leastTime_10 : decode cX2_leastTime 10 = .ok (.ireturn, 1) := by decide +kernel
theorem dX2_leastTime_11 : decode cX2_leastTime 11 = .ok (.iload_n 2, 1) := by decide +kernel
theorem dX2_leastTime_12 : decode cX2_leastTime 12 = .ok (.aload_n 0, 1) := by decide +kernel
theorem dX2_leastTime_13 : decode cX2_leastTime 13 = .ok (.getfield 9, 3) := by decide +kernel
theorem dX2_leastTime_16 : decode cX2_leastTime 16 = .ok (.arraylength, 1) := by decide +kernel
theorem dX2_leastTime_17 : decode cX2_leastTime 17 = .ok (.if_icmp .gt 24, 3) := by decide +kernel
theorem dX2_leastTime_20 : decode cX2_leastTime 20 = .ok (.iload_n 3, 1) := by decide +kernel
theorem dX2_leastTime_21 : decode cX2_leastTime 21 = .ok (.ifCond .lt 20, 3) := by decide +kernel
theorem dX2_leastTime_24 : decode cX2_leastTime 24 = .ok (.iload_n 3, 1) := by decide +kernel
theorem dX2_leastTime_25 : decode cX2_leastTime 25 = .ok (.getstatic 39, 3) := by decide +kernel
theorem dX2_leastTime_28 : decode cX2_leastTime 28 = .ok (.arraylength, 1) := by decide +kernel
theorem dX2_leastTime_29 : decode cX2_leastTime 29 = .ok (.if_icmp .ge 12, 3) := by decide +kernel
theorem dX2_leastTime_32 : decode cX2_leastTime 32 = .ok (.getstatic 39, 3) := by decide +kernel
theorem dX2_leastTime_35 : decode cX2_leastTime 35 = .ok (.iload_n 3, 1) := by decide +kernel
theorem dX2_leastTime_36 : decode cX2_leastTime 36 = .ok (.iaload, 1) := by decide +kernel
theorem dX2_leastTime_37 : decode cX2_leastTime 37 = .ok (.iconst 1, 1) := by decide +kernel
theorem dX2_leastTime_38 : decode cX2_leastTime 38 = .ok (.if_icmp .ge 7, 3) := by decide +kernel
theorem dX2_leastTime_41 : decode cX2_leastTime 41 = .ok (.sipush 10000, 3) := by decide +kernel
theorem dX2_leastTime_44 : decode cX2_leastTime 44 = .ok (.ireturn, 1) := by decide +kernel
theorem dX2_leastTime_45 : decode cX2_leastTime 45 = .ok (.aload_n 0, 1) := by decide +kernel
theorem dX2_leastTime_46 : decode cX2_leastTime 46 = .ok (.getfield 9, 3) := by decide +kernel
theorem dX2_leastTime_49 : decode cX2_leastTime 49 = .ok (.iload_n 2, 1) := by decide +kernel
theorem dX2_leastTime_50 : decode cX2_leastTime 50 = .ok (.iconst 1, 1) := by decide +kernel
theorem dX2_leastTime_51 : decode cX2_leastTime 51 = .ok (.isub, 1) := by decide +kernel
theorem dX2_leastTime_52 : decode cX2_leastTime 52 = .ok (.iaload, 1) := by decide +kernel
theorem dX2_leastTime_53 : decode cX2_leastTime 53 = .ok (.i2l, 1) := by decide +kernel
theorem dX2_leastTime_54 : decode cX2_leastTime 54 = .ok (.ldc2_w 29, 3) := by decide +kernel
theorem dX2_leastTime_57 : decode cX2_leastTime 57 = .ok (.lmul, 1) := by decide +kernel
theorem dX2_leastTime_58 : decode cX2_leastTime 58 = .ok (.iload_n 1, 1) := by decide +kernel
theorem dX2_leastTime_59 : decode cX2_leastTime 59 = .ok (.iconst 3, 1) := by decide +kernel
theorem dX2_leastTime_60 : decode cX2_leastTime 60 = .ok (.idiv, 1) := by decide +kernel
theorem dX2_leastTime_61 : decode cX2_leastTime 61 = .ok (.lshl, 1) := by decide +kernel
theorem dX2_leastTime_62 : decode cX2_leastTime 62 = .ok (.lstore 4, 2) := by decide +kernel
theorem dX2_leastTime_64 : decode cX2_leastTime 64 = .ok (.lload 4, 2) := by decide +kernel
theorem dX2_leastTime_66 : decode cX2_leastTime 66 = .ok (.getstatic 39, 3) := by decide +kernel
theorem dX2_leastTime_69 : decode cX2_leastTime 69 = .ok (.iload_n 3, 1) := by decide +kernel
theorem dX2_leastTime_70 : decode cX2_leastTime 70 = .ok (.iaload, 1) := by decide +kernel
theorem dX2_leastTime_71 : decode cX2_leastTime 71 = .ok (.i2l, 1) := by decide +kernel
theorem dX2_leastTime_72 : decode cX2_leastTime 72 = .ok (.ladd, 1) := by decide +kernel
theorem dX2_leastTime_73 : decode cX2_leastTime 73 = .ok (.lconst 1, 1) := by decide +kernel
theorem dX2_leastTime_74 : decode cX2_leastTime 74 = .ok (.lsub, 1) := by decide +kernel
theorem dX2_leastTime_75 : decode cX2_leastTime 75 = .ok (.getstatic 39, 3) := by decide +kernel
theorem dX2_leastTime_78 : decode cX2_leastTime 78 = .ok (.iload_n 3, 1) := by decide +kernel
theorem dX2_leastTime_79 : decode cX2_leastTime 79 = .ok (.iaload, 1) := by decide +kernel
theorem dX2_leastTime_80 : decode cX2_leastTime 80 = .ok (.i2l, 1) := by decide +kernel
theorem dX2_leastTime_81 : decode cX2_leastTime 81 = .ok (.ldiv, 1) := by decide +kernel
theorem dX2_leastTime_82 : decode cX2_leastTime 82 = .ok (.ldc2_w 42, 3) := by decide +kernel
theorem dX2_leastTime_85 : decode cX2_leastTime 85 = .ok (.invokestatic 44, 3) := by decide +kernel
theorem dX2_leastTime_88 : decode cX2_leastTime 88 = .ok (.l2i, 1) := by decide +kernel
theorem dX2_leastTime_89 : decode cX2_leastTime 89 = .ok (.ireturn, 1) := by decide +kernel
def q_X2_leastTime (k : Nat) (S : zM) (d n : Int) : Int32 → zM → Prop := fun r S1 => r = zI (tLe (S k 0) d n) ∧ S = S1
def r_X2_leastTime : Room := { frames := 1, cells := 0, slots := 0, locals := 23 }
set_option maxHeartbeats 4000000 in
set_option maxRecDepth 100000 in
theorem c_X2_leastTime (l : Launch) (G : zG) (hG : zok G) (k : Nat) (hk : k < 8) (S : zM) (d n : Int) (hd : 0 ≤ d ∧ d ≤ 24) (hn : 0 ≤ n ∧ n ≤ 11) (hms : zMs S k) (hw : zW (S k 0))  : Met l yX2_leastTime (Cond.code yX2_leastTime cX2_leastTime 6 (some FieldType.int) :: zTbl) r_X2_leastTime (va_Pc [.ref (za G k 1), .int (zI d), .int (zI n)] (zB G S)) (va_Qi (q_X2_leastTime k S d n) (zB G) (zA G)) 0 0 (zA G) := by
  refine zMet [(0, .ref (za G k 1)), (1, .int (zI d)), (2, .int (zI n))] hG (by decide) (Nat.le_of_ble_eq_true rfl) rfl (fun p e s m args below meth c ls h hx hb hr hH hl => ?_)
  have b3 := zThr_in (d % 3)
  refine lv_iload_n hx hb dX2_leastTime_0 rfl (lv_at hl 1 rfl) ?_
  refine zb_ic h dX2_leastTime_1 ?_
  refine zb_irem h (by omega) (by omega) dX2_leastTime_2 ?_
  refine lv_istore_n (lv' := [(3, .int (zI (d % 3))), (0, .ref (za G k 1)), (1, .int (zI d)), (2, .int (zI n))]) hx hb dX2_leastTime_3 rfl hl (by decide) rfl (fun ls hl => ?_)
  refine lv_iload_n hx hb dX2_leastTime_4 rfl (lv_at hl 3 rfl) ?_
  refine zb_ic h dX2_leastTime_5 ?_
  refine zb_cge (tgt := 11) h (by omega) (by omega) dX2_leastTime_6 (by decide) (fun c_6 => ?_) (fun c_6 => ?_)
  · refine lv_iload_n hx hb dX2_leastTime_11 rfl (lv_at hl 3 rfl) ?_
    refine lv_aload_n hx hb dX2_leastTime_12 rfl (lv_at hl 1 rfl) ?_
    refine zg_2_0 h hH hk zf_X2_9 dX2_leastTime_13 ?_
    refine zln_ar_mk h hH hk dX2_leastTime_16 ?_
    refine zb_cgt (tgt := 41) h (by omega) (by omega) dX2_leastTime_17 (by decide) (fun c_17 => ?_) (fun c_17 => ?_)
    · refine zb_si h dX2_leastTime_41 (by decide) (by decide) ?_
      refine zri h hr hH ?_ dX2_leastTime_44
      exact ⟨by unfold tLe; rw [if_neg (by omega), if_pos (by omega)], rfl⟩
    · refine lv_iload_n hx hb dX2_leastTime_20 rfl (lv_at hl 0 rfl) ?_
      refine zb_ilt (tgt := 41) h (by omega) dX2_leastTime_21 (by decide) (fun c_21 => ?_) (fun c_21 => ?_)
      · exact absurd c_21 (by omega)
      · refine lv_iload_n hx hb dX2_leastTime_24 rfl (lv_at hl 0 rfl) ?_
        refine zgs2 h hH zf_X2_39 dX2_leastTime_25 ?_
        refine ztl2 h hH dX2_leastTime_28 ?_
        refine zb_cge (tgt := 41) h (by omega) (by omega) dX2_leastTime_29 (by decide) (fun c_29 => ?_) (fun c_29 => ?_)
        · exact absurd c_29 (by omega)
        · refine zgs2 h hH zf_X2_39 dX2_leastTime_32 ?_
          refine lv_iload_n hx hb dX2_leastTime_35 rfl (lv_at hl 0 rfl) ?_
          refine ztd2 h hH (by omega) (by omega) dX2_leastTime_36 ?_
          refine zb_ic h dX2_leastTime_37 ?_
          refine zb_cge (tgt := 45) h (by omega) (by omega) dX2_leastTime_38 (by decide) (fun c_38 => ?_) (fun c_38 => ?_)
          · refine lv_aload_n hx hb dX2_leastTime_45 rfl (lv_at hl 1 rfl) ?_
            refine zg_2_0 h hH hk zf_X2_9 dX2_leastTime_46 ?_
            refine lv_iload_n hx hb dX2_leastTime_49 rfl (lv_at hl 3 rfl) ?_
            refine zb_ic h dX2_leastTime_50 ?_
            refine zb_isub h dX2_leastTime_51 ?_
            refine zld_ar_mk h hH hk (by omega) dX2_leastTime_52 ?_
            have e_52 := hms (n - 1) (by omega) (by omega)
            have m_52 := zMk_in (g := S k 0 1) (zW_2 hw) (show 0 ≤ n - 1 ∧ n - 1 < 10 by omega)
            have b_52 := tLe_v (m := S k 2 (n - 1)) (d := d) (by omega) hd
            refine zb_i2l h (by omega) dX2_leastTime_53 ?_
            refine zb_ldc2 (n := 100) h zk_X2_29 (by decide +kernel) dX2_leastTime_54 ?_
            refine zb_lmul h dX2_leastTime_57 ?_
            refine lv_iload_n hx hb dX2_leastTime_58 rfl (lv_at hl 2 rfl) ?_
            refine zb_ic h dX2_leastTime_59 ?_
            refine zb_idiv h (by omega) (by omega) dX2_leastTime_60 ?_
            refine zb_lshl h (by omega) (by omega) dX2_leastTime_61 ?_
            refine lv_lstore (lv' := [(4, .long (zL (((S k 2 (n - 1)) * 100) * 2 ^ (d / 3).toNat))), (3, .int (zI (d % 3))), (0, .ref (za G k 1)), (1, .int (zI d)), (2, .int (zI n))]) hx hb dX2_leastTime_62 hl (by decide) rfl (fun ls hl => ?_)
            refine lv_lload hx hb dX2_leastTime_64 (lv_at hl 0 rfl) ?_
            refine zgs2 h hH zf_X2_39 dX2_leastTime_66 ?_
            refine lv_iload_n hx hb dX2_leastTime_69 rfl (lv_at hl 1 rfl) ?_
            refine ztd2 h hH (by omega) (by omega) dX2_leastTime_70 ?_
            refine zb_i2l h (by omega) dX2_leastTime_71 ?_
            refine zb_ladd h dX2_leastTime_72 ?_
            refine zb_lc (v := 1) h dX2_leastTime_73 (by decide +kernel) ?_
            refine zb_lsub h dX2_leastTime_74 ?_
            refine zgs2 h hH zf_X2_39 dX2_leastTime_75 ?_
            refine lv_iload_n hx hb dX2_leastTime_78 rfl (lv_at hl 1 rfl) ?_
            refine ztd2 h hH (by omega) (by omega) dX2_leastTime_79 ?_
            refine zb_i2l h (by omega) dX2_leastTime_80 ?_
            refine zb_ldiv h (by omega) (by omega) dX2_leastTime_81 ?_
            have b_81 := zdiv_le (a := S k 2 (n - 1) * 100 * 2 ^ (d / 3).toNat + zThr (d % 3) - 1) (b := zThr (d % 3)) (by omega) (by omega)
            refine zb_ldc2 (n := 10000) h zk_X2_42 (by decide +kernel) dX2_leastTime_82 ?_
            refine zminL h hl.1 zm_X2_44 (Nat.le_of_ble_eq_true rfl) (Nat.le_of_ble_eq_true rfl) ⟨Nat.zero_le _, Nat.zero_le _⟩ (by omega) (by omega) (Nat.le_of_ble_eq_true rfl) dX2_leastTime_85 ?_
            refine zb_l2i h dX2_leastTime_88 ?_
            refine zri h hr hH ?_ dX2_leastTime_89
            exact ⟨by unfold tLe; rw [if_neg (by omega), if_neg (by omega), ← e_52], rfl⟩
          · exact absurd c_38 (by omega)
  · refine zb_ic h dX2_leastTime_9 ?_
    refine zri h hr hH ?_ dX2_leastTime_10
    exact ⟨by unfold tLe; rw [if_pos (by omega)], rfl⟩
theorem dX2_markOf_0 : decode cX2_markOf 0 = .ok (.iload_n 1, 1) := by decide +kernel
theorem dX2_markOf_1 : decode cX2_markOf 1 = .ok (.iconst 1, 1) := by decide +kernel
theorem dX2_markOf_2 : decode cX2_markOf 2 = .ok (.if_icmp .lt 23, 3) := by decide +kernel
theorem dX2_markOf_5 : decode cX2_markOf 5 = .ok (.iload_n 1, 1) := by decide +kernel
theorem dX2_markOf_6 : decode cX2_markOf 6 = .ok (.aload_n 0, 1) := by decide +kernel
theorem dX2_markOf_7 : decode cX2_markOf 7 = .ok (.getfield 9, 3) := by decide +kernel
theorem dX2_markOf_10 : decode cX2_markOf 10 = .ok (.arraylength, 1) := by decide +kernel
theorem dX2_markOf_11 : decode cX2_markOf 11 = .ok (.if_icmp .gt 14, 3) := by decide +kernel
theorem dX2_markOf_14 : decode cX2_markOf 14 = .ok (.aload_n 0, 1) := by decide +kernel
theorem dX2_markOf_15 : decode cX2_markOf 15 = .ok (.getfield 9, 3) := by decide +kernel
theorem dX2_markOf_18 : decode cX2_markOf 18 = .ok (.iload_n 1, 1) := by decide +kernel
theorem dX2_markOf_19 : decode cX2_markOf 19 = .ok (.iconst 1, 1) := by decide +kernel
theorem dX2_markOf_20 : decode cX2_markOf 20 = .ok (.isub, 1) := by decide +kernel
theorem dX2_markOf_21 : decode cX2_markOf 21 = .ok (.iaload, 1) := by decide +kernel
theorem dX2_markOf_22 : decode cX2_markOf 22 = .ok (.goto 4, 3) := by decide +kernel
theorem dX2_markOf_26 : decode cX2_markOf 26 = .ok (.ireturn, 1) := by decide +kernel
def q_X2_markOf (k : Nat) (S : zM) (n : Int) : Int32 → zM → Prop := fun r S1 => r = zI (zMk (S k 0 1) (S k 0 2) (n - 1)) ∧ S = S1
def r_X2_markOf : Room := { frames := 0, cells := 0, slots := 0, locals := 0 }
set_option maxHeartbeats 4000000 in
set_option maxRecDepth 100000 in
theorem c_X2_markOf (l : Launch) (G : zG) (hG : zok G) (k : Nat) (hk : k < 8) (S : zM) (n : Int) (hn : 1 ≤ n ∧ n ≤ 10) (hms : zMs S k) : Met l yX2_markOf (Cond.code yX2_markOf cX2_markOf 2 (some FieldType.int) :: zTbl) r_X2_markOf (va_Pc [.ref (za G k 1), .int (zI n)] (zB G S)) (va_Qi (q_X2_markOf k S n) (zB G) (zA G)) 0 0 (zA G) := by
  refine zMet [(0, .ref (za G k 1)), (1, .int (zI n))] hG (by decide) (Nat.le_of_ble_eq_true rfl) rfl (fun p e s m args below meth c ls h hx hb hr hH hl => ?_)
  refine lv_iload_n hx hb dX2_markOf_0 rfl (lv_at hl 1 rfl) ?_
  refine zb_ic h dX2_markOf_1 ?_
  refine zb_clt (tgt := 25) h (by omega) (by omega) dX2_markOf_2 (by decide) (fun c_2 => ?_) (fun c_2 => ?_)
  · exact absurd c_2 (by omega)
  · refine lv_iload_n hx hb dX2_markOf_5 rfl (lv_at hl 1 rfl) ?_
    refine lv_aload_n hx hb dX2_markOf_6 rfl (lv_at hl 0 rfl) ?_
    refine zg_2_0 h hH hk zf_X2_9 dX2_markOf_7 ?_
    refine zln_ar_mk h hH hk dX2_markOf_10 ?_
    refine zb_cgt (tgt := 25) h (by omega) (by omega) dX2_markOf_11 (by decide) (fun c_11 => ?_) (fun c_11 => ?_)
    · exact absurd c_11 (by omega)
    · refine lv_aload_n hx hb dX2_markOf_14 rfl (lv_at hl 0 rfl) ?_
      refine zg_2_0 h hH hk zf_X2_9 dX2_markOf_15 ?_
      refine lv_iload_n hx hb dX2_markOf_18 rfl (lv_at hl 1 rfl) ?_
      refine zb_ic h dX2_markOf_19 ?_
      refine zb_isub h dX2_markOf_20 ?_
      refine zld_ar_mk h hH hk (by omega) dX2_markOf_21 ?_
      refine lv_goto (tgt := 26) hx hb dX2_markOf_22 (by decide) ?_
      refine zri h hr hH ?_ dX2_markOf_26
      exact ⟨by rw [hms (n - 1) (by omega) (by omega)], rfl⟩
theorem dX3_leastNeed_0 : decode cX3_leastNeed 0 = .ok (.iload_n 1, 1) := by decide +kernel
theorem dX3_leastNeed_1 : decode cX3_leastNeed 1 = .ok (.ifCond .lt 9, 3) := by decide +kernel
theorem dX3_leastNeed_4 : decode cX3_leastNeed 4 = .ok (.iload_n 1, 1) := by decide +kernel
theorem dX3_leastNeed_5 : decode cX3_leastNeed 5 = .ok (.bipush 8, 2) := by decide +kernel
theorem dX3_leastNeed_7 : decode cX3_leastNeed 7 = .ok (.if_icmp .lt 5, 3) := by decide +kernel
theorem dX3_leastNeed_12 : decode cX3_leastNeed 12 = .ok (.aload_n 0, 1) := by decide +kernel
theorem dX3_leastNeed_13 : decode cX3_leastNeed 13 = .ok (.getfield 12, 3) := by decide +kernel
theorem dX3_leastNeed_16 : decode cX3_leastNeed 16 = .ok (.aload_n 0, 1) := by decide +kernel
theorem dX3_leastNeed_17 : decode cX3_leastNeed 17 = .ok (.getfield 18, 3) := by decide +kernel
theorem dX3_leastNeed_20 : decode cX3_leastNeed 20 = .ok (.iload_n 1, 1) := by decide +kernel
theorem dX3_leastNeed_21 : decode cX3_leastNeed 21 = .ok (.iaload, 1) := by decide +kernel
theorem dX3_leastNeed_22 : decode cX3_leastNeed 22 = .ok (.aload_n 0, 1) := by decide +kernel
theorem dX3_leastNeed_23 : decode cX3_leastNeed 23 = .ok (.getfield 22, 3) := by decide +kernel
theorem dX3_leastNeed_26 : decode cX3_leastNeed 26 = .ok (.iload_n 1, 1) := by decide +kernel
theorem dX3_leastNeed_27 : decode cX3_leastNeed 27 = .ok (.iaload, 1) := by decide +kernel
theorem dX3_leastNeed_28 : decode cX3_leastNeed 28 = .ok (.invokevirtual 104, 3) := by decide +kernel
theorem dX3_leastNeed_31 : decode cX3_leastNeed 31 = .ok (.istore_n 2, 1) := by decide +kernel
theorem dX3_leastNeed_32 : decode cX3_leastNeed 32 = .ok (.aload_n 0, 1) := by decide +kernel
theorem dX3_leastNeed_33 : decode cX3_leastNeed 33 = .ok (.getfield 12, 3) := by decide +kernel
theorem dX3_leastNeed_36 : decode cX3_leastNeed 36 = .ok (.aload_n 0, 1) := by decide +kernel
theorem dX3_leastNeed_37 : decode cX3_leastNeed 37 = .ok (.getfield 18, 3) := by decide +kernel
theorem dX3_leastNeed_40 : decode cX3_leastNeed 40 = .ok (.iload_n 1, 1) := by decide +kernel
theorem dX3_leastNeed_41 : decode cX3_leastNeed 41 = .ok (.iaload, 1) := by decide +kernel
theorem dX3_leastNeed_42 : decode cX3_leastNeed 42 = .ok (.aload_n 0, 1) := by decide +kernel
theorem dX3_leastNeed_43 : decode cX3_leastNeed 43 = .ok (.getfield 22, 3) := by decide +kernel
theorem dX3_leastNeed_46 : decode cX3_leastNeed 46 = .ok (.iload_n 1, 1) := by decide +kernel
theorem dX3_leastNeed_47 : decode cX3_leastNeed 47 = .ok (.iaload, 1) := by decide +kernel
theorem dX3_leastNeed_48 : decode cX3_leastNeed 48 = .ok (.iconst 1, 1) := by decide +kernel
theorem dX3_leastNeed_49 : decode cX3_leastNeed 49 = .ok (.iadd, 1) := by decide +kernel
theorem dX3_leastNeed_50 : decode cX3_leastNeed 50 = .ok (.invokevirtual 104, 3) := by decide +kernel
theorem dX3_leastNeed_53 : decode cX3_leastNeed 53 = .ok (.istore_n 3, 1) := by decide +kernel
theorem dX3_leastNeed_54 : decode cX3_leastNeed 54 = .ok (.iload_n 2, 1) := by decide +kernel
theorem dX3_leastNeed_55 : decode cX3_leastNeed 55 = .ok (.iload_n 3, 1) := by decide +kernel
theorem dX3_leastNeed_56 : decode cX3_leastNeed 56 = .ok (.if_icmp .ge 7, 3) := by decide +kernel
theorem dX3_leastNeed_59 : decode cX3_leastNeed 59 = .ok (.iload_n 2, 1) := by decide +kernel
theorem dX3_leastNeed_60 : decode cX3_leastNeed 60 = .ok (.goto 4, 3) := by decide +kernel
theorem dX3_leastNeed_63 : decode cX3_leastNeed 63 = .ok (.iconst (-1), 1) := by decide +kernel
theorem dX3_leastNeed_64 : decode cX3_leastNeed 64 = .ok (.ireturn, 1) := by decide +kernel
def q_X3_leastNeed (k : Nat) (S : zM) (z : Int) : Int32 → zM → Prop := fun r S1 => r = zI (tLn (S k 0) z) ∧ S = S1
def r_X3_leastNeed : Room := { frames := 2, cells := 0, slots := 0, locals := 48 }
set_option maxHeartbeats 4000000 in
set_option maxRecDepth 100000 in
theorem c_X3_leastNeed (l : Launch) (G : zG) (hG : zok G) (k : Nat) (hk : k < 8) (S : zM) (z : Int) (hz : 0 ≤ z ∧ z < 8) (hms : zMs S k) (hw : zW (S k 0))  : Met l yX3_leastNeed (Cond.code yX3_leastNeed cX3_leastNeed 4 (some FieldType.int) :: zTbl) r_X3_leastNeed (va_Pc [.ref (za G k 0), .int (zI z)] (zB G S)) (va_Qi (q_X3_leastNeed k S z) (zB G) (zA G)) 0 0 (zA G) := by
  refine zMet [(0, .ref (za G k 0)), (1, .int (zI z))] hG (by decide) (Nat.le_of_ble_eq_true rfl) rfl (fun p e s m args below meth c ls h hx hb hr hH hl => ?_)
  have b_28 := tLe_in hw (S k 0 (5 + 5 * z)) (S k 0 (5 + 5 * z + 1))
  have b_50 := tLe_in hw (S k 0 (5 + 5 * z)) (S k 0 (5 + 5 * z + 1) + 1)
  refine lv_iload_n hx hb dX3_leastNeed_0 rfl (lv_at hl 1 rfl) ?_
  refine zb_ilt (tgt := 10) h (by omega) dX3_leastNeed_1 (by decide) (fun c_1 => ?_) (fun c_1 => ?_)
  · exact absurd c_1 (by omega)
  · refine lv_iload_n hx hb dX3_leastNeed_4 rfl (lv_at hl 1 rfl) ?_
    refine zb_bi h dX3_leastNeed_5 (by decide) (by decide) ?_
    refine zb_clt (tgt := 12) h (by omega) (by omega) dX3_leastNeed_7 (by decide) (fun c_7 => ?_) (fun c_7 => ?_)
    · refine lv_aload_n hx hb dX3_leastNeed_12 rfl (lv_at hl 0 rfl) ?_
      refine zg_3_0 h hH hk zf_X3_12 dX3_leastNeed_13 ?_
      refine lv_aload_n hx hb dX3_leastNeed_16 rfl (lv_at hl 0 rfl) ?_
      refine zg_3_1 h hH hk zf_X3_18 dX3_leastNeed_17 ?_
      refine lv_iload_n hx hb dX3_leastNeed_20 rfl (lv_at hl 1 rfl) ?_
      refine zld_ar_de h hH hk (by omega) dX3_leastNeed_21 ?_
      have f_21 := zW_de hw (show 0 ≤ z ∧ z < 8 by omega)
      refine lv_aload_n hx hb dX3_leastNeed_22 rfl (lv_at hl 0 rfl) ?_
      refine zg_3_2 h hH hk zf_X3_22 dX3_leastNeed_23 ?_
      refine lv_iload_n hx hb dX3_leastNeed_26 rfl (lv_at hl 1 rfl) ?_
      refine zld_ar_wa h hH hk (by omega) dX3_leastNeed_27 ?_
      have f_27 := zW_wa hw (show 0 ≤ z ∧ z < 8 by omega)
      refine zcVi h hH (zr_2 h hH hk) (As := [.int (zI (S k 0 (5 + 5 * z))), .int (zI (S k 0 (5 + 5 * z + 1)))]) (rest := []) (c_X2_leastTime l G hG k hk S (S k 0 (5 + 5 * z)) (S k 0 (5 + 5 * z + 1)) (by omega) (by omega) hms hw) zce_X2_leastTime zcv_X2_leastTime zm_X3_104 hl.1 rfl rfl ⟨rfl, rfl⟩ ⟨Nat.le_of_ble_eq_true rfl, Nat.le_of_ble_eq_true rfl⟩ (Nat.le_of_ble_eq_true rfl) ⟨Nat.zero_le _, Nat.zero_le _⟩ dX3_leastNeed_28 (fun r_28 S_28 H locs hq hH => ?_)
      obtain ⟨rfl, rfl⟩ := hq
      refine lv_istore_n (lv' := [(2, .int (zI (tLe (S k 0) (S k 0 (5 + 5 * z)) (S k 0 (5 + 5 * z + 1))))), (0, .ref (za G k 0)), (1, .int (zI z))]) hx hb dX3_leastNeed_31 rfl hl (by decide) rfl (fun ls hl => ?_)
      refine lv_aload_n hx hb dX3_leastNeed_32 rfl (lv_at hl 1 rfl) ?_
      refine zg_3_0 h hH hk zf_X3_12 dX3_leastNeed_33 ?_
      refine lv_aload_n hx hb dX3_leastNeed_36 rfl (lv_at hl 1 rfl) ?_
      refine zg_3_1 h hH hk zf_X3_18 dX3_leastNeed_37 ?_
      refine lv_iload_n hx hb dX3_leastNeed_40 rfl (lv_at hl 2 rfl) ?_
      refine zld_ar_de h hH hk (by omega) dX3_leastNeed_41 ?_
      have f_41 := zW_de hw (show 0 ≤ z ∧ z < 8 by omega)
      refine lv_aload_n hx hb dX3_leastNeed_42 rfl (lv_at hl 1 rfl) ?_
      refine zg_3_2 h hH hk zf_X3_22 dX3_leastNeed_43 ?_
      refine lv_iload_n hx hb dX3_leastNeed_46 rfl (lv_at hl 2 rfl) ?_
      refine zld_ar_wa h hH hk (by omega) dX3_leastNeed_47 ?_
      have f_47 := zW_wa hw (show 0 ≤ z ∧ z < 8 by omega)
      refine zb_ic h dX3_leastNeed_48 ?_
      refine zb_iadd h dX3_leastNeed_49 ?_
      refine zcVi h hH (zr_2 h hH hk) (As := [.int (zI (S k 0 (5 + 5 * z))), .int (zI ((S k 0 (5 + 5 * z + 1)) + 1))]) (rest := []) (c_X2_leastTime l G hG k hk S (S k 0 (5 + 5 * z)) ((S k 0 (5 + 5 * z + 1)) + 1) (by omega) (by omega) hms hw) zce_X2_leastTime zcv_X2_leastTime zm_X3_104 hl.1 rfl rfl ⟨rfl, rfl⟩ ⟨Nat.le_of_ble_eq_true rfl, Nat.le_of_ble_eq_true rfl⟩ (Nat.le_of_ble_eq_true rfl) ⟨Nat.zero_le _, Nat.zero_le _⟩ dX3_leastNeed_50 (fun r_50 S_50 H locs hq hH => ?_)
      obtain ⟨rfl, rfl⟩ := hq
      refine lv_istore_n (lv' := [(3, .int (zI (tLe (S k 0) (S k 0 (5 + 5 * z)) ((S k 0 (5 + 5 * z + 1)) + 1)))), (2, .int (zI (tLe (S k 0) (S k 0 (5 + 5 * z)) (S k 0 (5 + 5 * z + 1))))), (0, .ref (za G k 0)), (1, .int (zI z))]) hx hb dX3_leastNeed_53 rfl hl (by decide) rfl (fun ls hl => ?_)
      refine lv_iload_n hx hb dX3_leastNeed_54 rfl (lv_at hl 1 rfl) ?_
      refine lv_iload_n hx hb dX3_leastNeed_55 rfl (lv_at hl 0 rfl) ?_
      refine zb_cge (tgt := 63) h (by omega) (by omega) dX3_leastNeed_56 (by decide) (fun c_56 => ?_) (fun c_56 => ?_)
      · refine zb_ic h dX3_leastNeed_63 ?_
        refine zri h hr hH ?_ dX3_leastNeed_64
        exact ⟨by unfold tLn; split <;> first | rfl | (exfalso; omega), rfl⟩
      · refine lv_iload_n hx hb dX3_leastNeed_59 rfl (lv_at hl 1 rfl) ?_
        refine lv_goto (tgt := 64) hx hb dX3_leastNeed_60 (by decide) ?_
        refine zri h hr hH ?_ dX3_leastNeed_64
        exact ⟨by unfold tLn; split <;> first | rfl | (exfalso; omega), rfl⟩
    · exact absurd c_7 (by omega)
theorem dX3_greatestNeed_0 : decode cX3_greatestNeed 0 = .ok (.iload_n 1, 1) := by decide +kernel
theorem dX3_greatestNeed_1 : decode cX3_greatestNeed 1 = .ok (.ifCond .lt 9, 3) := by decide +kernel
theorem dX3_greatestNeed_4 : decode cX3_greatestNeed 4 = .ok (.iload_n 1, 1) := by decide +kernel
theorem dX3_greatestNeed_5 : decode cX3_greatestNeed 5 = .ok (.bipush 8, 2) := by decide +kernel
theorem dX3_greatestNeed_7 : decode cX3_greatestNeed 7 = .ok (.if_icmp .lt 5, 3) := by decide +kernel
theorem dX3_greatestNeed_12 : decode cX3_greatestNeed 12 = .ok (.aload_n 0, 1) := by decide +kernel
theorem dX3_greatestNeed_13 : decode cX3_greatestNeed 13 = .ok (.getfield 12, 3) := by decide +kernel
theorem dX3_greatestNeed_16 : decode cX3_greatestNeed 16 = .ok (.aload_n 0, 1) := by decide +kernel
theorem dX3_greatestNeed_17 : decode cX3_greatestNeed 17 = .ok (.getfield 18, 3) := by decide +kernel
theorem dX3_greatestNeed_20 : decode cX3_greatestNeed 20 = .ok (.iload_n 1, 1) := by decide +kernel
theorem dX3_greatestNeed_21 : decode cX3_greatestNeed 21 = .ok (.iaload, 1) := by decide +kernel
theorem dX3_greatestNeed_22 : decode cX3_greatestNeed 22 = .ok (.aload_n 0, 1) := by decide +kernel
theorem dX3_greatestNeed_23 : decode cX3_greatestNeed 23 = .ok (.getfield 22, 3) := by decide +kernel
theorem dX3_greatestNeed_26 : decode cX3_greatestNeed 26 = .ok (.iload_n 1, 1) := by decide +kernel
theorem dX3_greatestNeed_27 : decode cX3_greatestNeed 27 = .ok (.iaload, 1) := by decide +kernel
theorem dX3_greatestNeed_28 : decode cX3_greatestNeed 28 = .ok (.invokevirtual 104, 3) := by decide +kernel
theorem dX3_greatestNeed_31 : decode cX3_greatestNeed 31 = .ok (.istore_n 2, 1) := by decide +kernel
theorem dX3_greatestNeed_32 : decode cX3_greatestNeed 32 = .ok (.aload_n 0, 1) := by decide +kernel
theorem dX3_greatestNeed_33 : decode cX3_greatestNeed 33 = .ok (.getfield 12, 3) := by decide +kernel
theorem dX3_greatestNeed_36 : decode cX3_greatestNeed 36 = .ok (.aload_n 0, 1) := by decide +kernel
theorem dX3_greatestNeed_37 : decode cX3_greatestNeed 37 = .ok (.getfield 18, 3) := by decide +kernel
theorem dX3_greatestNeed_40 : decode cX3_greatestNeed 40 = .ok (.iload_n 1, 1) := by decide +kernel
theorem dX3_greatestNeed_41 : decode cX3_greatestNeed 41 = .ok (.iaload, 1) := by decide +kernel
theorem dX3_greatestNeed_42 : decode cX3_greatestNeed 42 = .ok (.aload_n 0, 1) := by decide +kernel
theorem dX3_greatestNeed_43 : decode cX3_greatestNeed 43 = .ok (.getfield 22, 3) := by decide +kernel
theorem dX3_greatestNeed_46 : decode cX3_greatestNeed 46 = .ok (.iload_n 1, 1) := by decide +kernel
theorem dX3_greatestNeed_47 : decode cX3_greatestNeed 47 = .ok (.iaload, 1) := by decide +kernel
theorem dX3_greatestNeed_48 : decode cX3_greatestNeed 48 = .ok (.iconst 1, 1) := by decide +kernel
theorem dX3_greatestNeed_49 : decode cX3_greatestNeed 49 = .ok (.iadd, 1) := by decide +kernel
theorem dX3_greatestNeed_50 : decode cX3_greatestNeed 50 = .ok (.invokevirtual 104, 3) := by decide +kernel
theorem dX3_greatestNeed_53 : decode cX3_greatestNeed 53 = .ok (.istore_n 3, 1) := by decide +kernel
theorem dX3_greatestNeed_54 : decode cX3_greatestNeed 54 = .ok (.iload_n 2, 1) := by decide +kernel
theorem dX3_greatestNeed_55 : decode cX3_greatestNeed 55 = .ok (.iload_n 3, 1) := by decide +kernel
theorem dX3_greatestNeed_56 : decode cX3_greatestNeed 56 = .ok (.if_icmp .ge 9, 3) := by decide +kernel
theorem dX3_greatestNeed_59 : decode cX3_greatestNeed 59 = .ok (.iload_n 3, 1) := by decide +kernel
theorem dX3_greatestNeed_60 : decode cX3_greatestNeed 60 = .ok (.iconst 1, 1) := by decide +kernel
theorem dX3_greatestNeed_61 : decode cX3_greatestNeed 61 = .ok (.isub, 1) := by decide +kernel
theorem dX3_greatestNeed_62 : decode cX3_greatestNeed 62 = .ok (.goto 4, 3) := by decide +kernel
theorem dX3_greatestNeed_65 : decode cX3_greatestNeed 65 = .ok (.iconst (-1), 1) := by decide +kernel
theorem dX3_greatestNeed_66 : decode cX3_greatestNeed 66 = .ok (.ireturn, 1) := by decide +kernel
def q_X3_greatestNeed (k : Nat) (S : zM) (z : Int) : Int32 → zM → Prop := fun r S1 => r = zI (tGn (S k 0) z) ∧ S = S1
def r_X3_greatestNeed : Room := { frames := 2, cells := 0, slots := 0, locals := 48 }
set_option maxHeartbeats 4000000 in
set_option maxRecDepth 100000 in
theorem c_X3_greatestNeed (l : Launch) (G : zG) (hG : zok G) (k : Nat) (hk : k < 8) (S : zM) (z : Int) (hz : 0 ≤ z ∧ z < 8) (hms : zMs S k) (hw : zW (S k 0))  : Met l yX3_greatestNeed (Cond.code yX3_greatestNeed cX3_greatestNeed 4 (some FieldType.int) :: zTbl) r_X3_greatestNeed (va_Pc [.ref (za G k 0), .int (zI z)] (zB G S)) (va_Qi (q_X3_greatestNeed k S z) (zB G) (zA G)) 0 0 (zA G) := by
  refine zMet [(0, .ref (za G k 0)), (1, .int (zI z))] hG (by decide) (Nat.le_of_ble_eq_true rfl) rfl (fun p e s m args below meth c ls h hx hb hr hH hl => ?_)
  have b_28 := tLe_in hw (S k 0 (5 + 5 * z)) (S k 0 (5 + 5 * z + 1))
  have b_50 := tLe_in hw (S k 0 (5 + 5 * z)) (S k 0 (5 + 5 * z + 1) + 1)
  refine lv_iload_n hx hb dX3_greatestNeed_0 rfl (lv_at hl 1 rfl) ?_
  refine zb_ilt (tgt := 10) h (by omega) dX3_greatestNeed_1 (by decide) (fun c_1 => ?_) (fun c_1 => ?_)
  · exact absurd c_1 (by omega)
  · refine lv_iload_n hx hb dX3_greatestNeed_4 rfl (lv_at hl 1 rfl) ?_
    refine zb_bi h dX3_greatestNeed_5 (by decide) (by decide) ?_
    refine zb_clt (tgt := 12) h (by omega) (by omega) dX3_greatestNeed_7 (by decide) (fun c_7 => ?_) (fun c_7 => ?_)
    · refine lv_aload_n hx hb dX3_greatestNeed_12 rfl (lv_at hl 0 rfl) ?_
      refine zg_3_0 h hH hk zf_X3_12 dX3_greatestNeed_13 ?_
      refine lv_aload_n hx hb dX3_greatestNeed_16 rfl (lv_at hl 0 rfl) ?_
      refine zg_3_1 h hH hk zf_X3_18 dX3_greatestNeed_17 ?_
      refine lv_iload_n hx hb dX3_greatestNeed_20 rfl (lv_at hl 1 rfl) ?_
      refine zld_ar_de h hH hk (by omega) dX3_greatestNeed_21 ?_
      have f_21 := zW_de hw (show 0 ≤ z ∧ z < 8 by omega)
      refine lv_aload_n hx hb dX3_greatestNeed_22 rfl (lv_at hl 0 rfl) ?_
      refine zg_3_2 h hH hk zf_X3_22 dX3_greatestNeed_23 ?_
      refine lv_iload_n hx hb dX3_greatestNeed_26 rfl (lv_at hl 1 rfl) ?_
      refine zld_ar_wa h hH hk (by omega) dX3_greatestNeed_27 ?_
      have f_27 := zW_wa hw (show 0 ≤ z ∧ z < 8 by omega)
      refine zcVi h hH (zr_2 h hH hk) (As := [.int (zI (S k 0 (5 + 5 * z))), .int (zI (S k 0 (5 + 5 * z + 1)))]) (rest := []) (c_X2_leastTime l G hG k hk S (S k 0 (5 + 5 * z)) (S k 0 (5 + 5 * z + 1)) (by omega) (by omega) hms hw) zce_X2_leastTime zcv_X2_leastTime zm_X3_104 hl.1 rfl rfl ⟨rfl, rfl⟩ ⟨Nat.le_of_ble_eq_true rfl, Nat.le_of_ble_eq_true rfl⟩ (Nat.le_of_ble_eq_true rfl) ⟨Nat.zero_le _, Nat.zero_le _⟩ dX3_greatestNeed_28 (fun r_28 S_28 H locs hq hH => ?_)
      obtain ⟨rfl, rfl⟩ := hq
      refine lv_istore_n (lv' := [(2, .int (zI (tLe (S k 0) (S k 0 (5 + 5 * z)) (S k 0 (5 + 5 * z + 1))))), (0, .ref (za G k 0)), (1, .int (zI z))]) hx hb dX3_greatestNeed_31 rfl hl (by decide) rfl (fun ls hl => ?_)
      refine lv_aload_n hx hb dX3_greatestNeed_32 rfl (lv_at hl 1 rfl) ?_
      refine zg_3_0 h hH hk zf_X3_12 dX3_greatestNeed_33 ?_
      refine lv_aload_n hx hb dX3_greatestNeed_36 rfl (lv_at hl 1 rfl) ?_
      refine zg_3_1 h hH hk zf_X3_18 dX3_greatestNeed_37 ?_
      refine lv_iload_n hx hb dX3_greatestNeed_40 rfl (lv_at hl 2 rfl) ?_
      refine zld_ar_de h hH hk (by omega) dX3_greatestNeed_41 ?_
      have f_41 := zW_de hw (show 0 ≤ z ∧ z < 8 by omega)
      refine lv_aload_n hx hb dX3_greatestNeed_42 rfl (lv_at hl 1 rfl) ?_
      refine zg_3_2 h hH hk zf_X3_22 dX3_greatestNeed_43 ?_
      refine lv_iload_n hx hb dX3_greatestNeed_46 rfl (lv_at hl 2 rfl) ?_
      refine zld_ar_wa h hH hk (by omega) dX3_greatestNeed_47 ?_
      have f_47 := zW_wa hw (show 0 ≤ z ∧ z < 8 by omega)
      refine zb_ic h dX3_greatestNeed_48 ?_
      refine zb_iadd h dX3_greatestNeed_49 ?_
      refine zcVi h hH (zr_2 h hH hk) (As := [.int (zI (S k 0 (5 + 5 * z))), .int (zI ((S k 0 (5 + 5 * z + 1)) + 1))]) (rest := []) (c_X2_leastTime l G hG k hk S (S k 0 (5 + 5 * z)) ((S k 0 (5 + 5 * z + 1)) + 1) (by omega) (by omega) hms hw) zce_X2_leastTime zcv_X2_leastTime zm_X3_104 hl.1 rfl rfl ⟨rfl, rfl⟩ ⟨Nat.le_of_ble_eq_true rfl, Nat.le_of_ble_eq_true rfl⟩ (Nat.le_of_ble_eq_true rfl) ⟨Nat.zero_le _, Nat.zero_le _⟩ dX3_greatestNeed_50 (fun r_50 S_50 H locs hq hH => ?_)
      obtain ⟨rfl, rfl⟩ := hq
      refine lv_istore_n (lv' := [(3, .int (zI (tLe (S k 0) (S k 0 (5 + 5 * z)) ((S k 0 (5 + 5 * z + 1)) + 1)))), (2, .int (zI (tLe (S k 0) (S k 0 (5 + 5 * z)) (S k 0 (5 + 5 * z + 1))))), (0, .ref (za G k 0)), (1, .int (zI z))]) hx hb dX3_greatestNeed_53 rfl hl (by decide) rfl (fun ls hl => ?_)
      refine lv_iload_n hx hb dX3_greatestNeed_54 rfl (lv_at hl 1 rfl) ?_
      refine lv_iload_n hx hb dX3_greatestNeed_55 rfl (lv_at hl 0 rfl) ?_
      refine zb_cge (tgt := 65) h (by omega) (by omega) dX3_greatestNeed_56 (by decide) (fun c_56 => ?_) (fun c_56 => ?_)
      · refine zb_ic h dX3_greatestNeed_65 ?_
        refine zri h hr hH ?_ dX3_greatestNeed_66
        exact ⟨by unfold tGn; split <;> first | rfl | (exfalso; omega), rfl⟩
      · refine lv_iload_n hx hb dX3_greatestNeed_59 rfl (lv_at hl 0 rfl) ?_
        refine zb_ic h dX3_greatestNeed_60 ?_
        refine zb_isub h dX3_greatestNeed_61 ?_
        refine lv_goto (tgt := 66) hx hb dX3_greatestNeed_62 (by decide) ?_
        refine zri h hr hH ?_ dX3_greatestNeed_66
        exact ⟨by unfold tGn; split <;> first | rfl | (exfalso; omega), rfl⟩
    · exact absurd c_7 (by omega)
theorem dX3_zonesWithoutNeed_0 : decode cX3_zonesWithoutNeed 0 = .ok (.iconst 0, 1) := by decide +kernel
theorem dX3_zonesWithoutNeed_1 : decode cX3_zonesWithoutNeed 1 = .ok (.istore_n 1, 1) := by decide +kernel
theorem dX3_zonesWithoutNeed_2 : decode cX3_zonesWithoutNeed 2 = .ok (.iconst 0, 1) := by decide +kernel
theorem dX3_zonesWithoutNeed_3 : decode cX3_zonesWithoutNeed 3 = .ok (.istore_n 2, 1) := by decide +kernel
theorem dX3_zonesWithoutNeed_4 : decode cX3_zonesWithoutNeed 4 = .ok (.iload_n 2, 1) := by decide +kernel
theorem dX3_zonesWithoutNeed_5 : decode cX3_zonesWithoutNeed 5 = .ok (.aload_n 0, 1) := by decide +kernel
theorem dX3_zonesWithoutNeed_6 : decode cX3_zonesWithoutNeed 6 = .ok (.getfield 37, 3) := by decide +kernel
theorem dX3_zonesWithoutNeed_9 : decode cX3_zonesWithoutNeed 9 = .ok (.if_icmp .ge 21, 3) := by decide +kernel
theorem dX3_zonesWithoutNeed_12 : decode cX3_zonesWithoutNeed 12 = .ok (.aload_n 0, 1) := by decide +kernel
theorem dX3_zonesWithoutNeed_13 : decode cX3_zonesWithoutNeed 13 = .ok (.iload_n 2, 1) := by decide +kernel
theorem dX3_zonesWithoutNeed_14 : decode cX3_zonesWithoutNeed 14 = .ok (.invokevirtual 72, 3) := by decide +kernel
theorem dX3_zonesWithoutNeed_17 : decode cX3_zonesWithoutNeed 17 = .ok (.iconst (-1), 1) := by decide +kernel
theorem dX3_zonesWithoutNeed_18 : decode cX3_zonesWithoutNeed 18 = .ok (.if_icmp .ne 6, 3) := by decide +kernel
theorem dX3_zonesWithoutNeed_21 : decode cX3_zonesWithoutNeed 21 = .ok (.iinc 1 1, 3) := by decide +kernel
theorem dX3_zonesWithoutNeed_24 : decode cX3_zonesWithoutNeed 24 = .ok (.iinc 2 1, 3) := by decide +kernel
theorem dX3_zonesWithoutNeed_27 : decode cX3_zonesWithoutNeed 27 = .ok (.goto (-23), 3) := by decide +kernel
theorem dX3_zonesWithoutNeed_30 : decode cX3_zonesWithoutNeed 30 = .ok (.iload_n 1, 1) := by decide +kernel
theorem dX3_zonesWithoutNeed_31 : decode cX3_zonesWithoutNeed 31 = .ok (.ireturn, 1) := by decide +kernel
def q_X3_zonesWithoutNeed (k : Nat) (S : zM) : Int32 → zM → Prop := fun r S1 => r = zI (tNo (S k 0)) ∧ S = S1
def r_X3_zonesWithoutNeed : Room := { frames := 3, cells := 0, slots := 0, locals := 71 }
set_option maxHeartbeats 4000000 in
set_option maxRecDepth 100000 in
theorem c_X3_zonesWithoutNeed (l : Launch) (G : zG) (hG : zok G) (k : Nat) (hk : k < 8) (S : zM) (hms : zMs S k) (hw : zW (S k 0))  : Met l yX3_zonesWithoutNeed (Cond.code yX3_zonesWithoutNeed cX3_zonesWithoutNeed 3 (some FieldType.int) :: zTbl) r_X3_zonesWithoutNeed (va_Pc [.ref (za G k 0)] (zB G S)) (va_Qi (q_X3_zonesWithoutNeed k S) (zB G) (zA G)) 0 0 (zA G) := by
  refine zMet [(0, .ref (za G k 0))] hG (by decide) (Nat.le_of_ble_eq_true rfl) rfl (fun p e s m args below meth c ls h hx hb hr hH hl => ?_)
  have C4 : ∀ (fu : Nat) (o n : Int) (H : Heap) (locs : List Loc) (ls : Array Slot), (S k 0 4 - o).toNat < fu → (0 ≤ o ∧ o ≤ S k 0 4) → (n = zsum (fun z => if tLn (S k 0) z = -1 then 1 else 0) o.toNat) → zH G S s H locs → lv_has ls 3 [(0, .ref (za G k 0)), (1, .int (zI n)), (2, .int (zI o))] → W p l e r_X3_zonesWithoutNeed s m args below meth c H locs 0 0 (MQ below (va_Qi (q_X3_zonesWithoutNeed k S) (zB G) (zA G)) args s 0 0 (zA G)) (F0 m 4 ls []) := by
    intro fu
    induction fu with
    | zero => intro o n H locs ls hfu; omega
    | succ fu ih4 =>
      intro o n H locs ls hfu ho hn hH hl
      have f4 := zW_4 hw
      refine lv_iload_n hx hb dX3_zonesWithoutNeed_4 rfl (lv_at hl 2 rfl) ?_
      refine lv_aload_n hx hb dX3_zonesWithoutNeed_5 rfl (lv_at hl 0 rfl) ?_
      refine zg_3_7 h hH hk zf_X3_37 dX3_zonesWithoutNeed_6 ?_
      have f_6 := zW_4 hw
      refine zb_cge (tgt := 30) h (by omega) (by omega) dX3_zonesWithoutNeed_9 (by decide) (fun c_9 => ?_) (fun c_9 => ?_)
      · refine lv_iload_n hx hb dX3_zonesWithoutNeed_30 rfl (lv_at hl 1 rfl) ?_
        refine zri h hr hH ?_ dX3_zonesWithoutNeed_31
        have eo : o = S k 0 4 := by omega
        subst eo
        exact ⟨by rw [hn]; rfl, rfl⟩
      · refine lv_aload_n hx hb dX3_zonesWithoutNeed_12 rfl (lv_at hl 0 rfl) ?_
        refine lv_iload_n hx hb dX3_zonesWithoutNeed_13 rfl (lv_at hl 2 rfl) ?_
        refine zcVi h hH (zr_3 h hH hk) (As := [.int (zI o)]) (rest := []) (c_X3_leastNeed l G hG k hk S o (by omega) hms hw) zce_X3_leastNeed zcv_X3_leastNeed zm_X3_72 hl.1 rfl rfl ⟨rfl, rfl⟩ ⟨Nat.le_of_ble_eq_true rfl, Nat.le_of_ble_eq_true rfl⟩ (Nat.le_of_ble_eq_true rfl) ⟨Nat.zero_le _, Nat.zero_le _⟩ dX3_zonesWithoutNeed_14 (fun r_14 S_14 H locs hq hH => ?_)
        obtain ⟨rfl, rfl⟩ := hq
        have b_14 := tLn_in hw o
        refine zb_ic h dX3_zonesWithoutNeed_17 ?_
        refine zb_cne (tgt := 24) h (by omega) (by omega) dX3_zonesWithoutNeed_18 (by decide) (fun c_18 => ?_) (fun c_18 => ?_)
        · refine lv_iinc (v := zI (o + 1)) (lv' := [(2, .int (zI (o + 1))), (0, .ref (za G k 0)), (1, .int (zI n))]) hx hb dX3_zonesWithoutNeed_24 hl (k := 2) rfl (zI_add _ _) (by decide) rfl (fun ls hl => ?_)
          refine lv_goto (tgt := 4) hx hb dX3_zonesWithoutNeed_27 (by decide) ?_
          exact ih4 (o + 1) n _ _ _ (by omega) (by have := zW_4 hw; omega) (by rw [zsum_s _ ho.1, hn]; first | rw [if_pos c_18] | (rw [if_neg c_18]; omega)) hH (lv_sub hl [1, 2, 0] rfl)
        · refine lv_iinc (v := zI (n + 1)) (lv' := [(1, .int (zI (n + 1))), (0, .ref (za G k 0)), (2, .int (zI o))]) hx hb dX3_zonesWithoutNeed_21 hl (k := 1) rfl (zI_add _ _) (by decide) rfl (fun ls hl => ?_)
          refine lv_iinc (v := zI (o + 1)) (lv' := [(2, .int (zI (o + 1))), (1, .int (zI (n + 1))), (0, .ref (za G k 0))]) hx hb dX3_zonesWithoutNeed_24 hl (k := 2) rfl (zI_add _ _) (by decide) rfl (fun ls hl => ?_)
          refine lv_goto (tgt := 4) hx hb dX3_zonesWithoutNeed_27 (by decide) ?_
          exact ih4 (o + 1) (n + 1) _ _ _ (by omega) (by have := zW_4 hw; omega) (by rw [zsum_s _ ho.1, hn]; first | rw [if_pos c_18] | (rw [if_neg c_18]; omega)) hH (lv_sub hl [2, 1, 0] rfl)
  refine zb_ic h dX3_zonesWithoutNeed_0 ?_
  refine lv_istore_n (lv' := [(1, .int (zI 0)), (0, .ref (za G k 0))]) hx hb dX3_zonesWithoutNeed_1 rfl hl (by decide) rfl (fun ls hl => ?_)
  refine zb_ic h dX3_zonesWithoutNeed_2 ?_
  refine lv_istore_n (lv' := [(2, .int (zI 0)), (1, .int (zI 0)), (0, .ref (za G k 0))]) hx hb dX3_zonesWithoutNeed_3 rfl hl (by decide) rfl (fun ls hl => ?_)
  exact C4 ((S k 0 4 - 0 : Int).toNat + 1) 0 0 _ _ _ (by omega) (by have := zW_4 hw; omega) rfl hH (lv_sub hl [2, 1, 0] rfl)
theorem dX3_commonNeed_0 : decode cX3_commonNeed 0 = .ok (.iconst (-1), 1) := by decide +kernel
theorem dX3_commonNeed_1 : decode cX3_commonNeed 1 = .ok (.istore_n 2, 1) := by decide +kernel
theorem dX3_commonNeed_2 : decode cX3_commonNeed 2 = .ok (.sipush 9999, 3) := by decide +kernel
theorem dX3_commonNeed_5 : decode cX3_commonNeed 5 = .ok (.istore_n 3, 1) := by decide +kernel
theorem dX3_commonNeed_6 : decode cX3_commonNeed 6 = .ok (.iconst 0, 1) := by decide +kernel
theorem dX3_commonNeed_7 : decode cX3_commonNeed 7 = .ok (.istore 4, 2) := by decide +kernel
theorem dX3_commonNeed_9 : decode cX3_commonNeed 9 = .ok (.iload 4, 2) := by decide +kernel
theorem dX3_commonNeed_11 : decode cX3_commonNeed 11 = .ok (.aload_n 0, 1) := by decide +kernel
theorem dX3_commonNeed_12 : decode cX3_commonNeed 12 = .ok (.getfield 37, 3) := by decide +kernel
theorem dX3_commonNeed_15 : decode cX3_commonNeed 15 = .ok (.if_icmp .ge 41, 3) := by decide +kernel
theorem dX3_commonNeed_18 : decode cX3_commonNeed 18 = .ok (.aload_n 0, 1) := by decide +kernel
theorem dX3_commonNeed_19 : decode cX3_commonNeed 19 = .ok (.iload 4, 2) := by decide +kernel
theorem dX3_commonNeed_21 : decode cX3_commonNeed 21 = .ok (.invokevirtual 72, 3) := by decide +kernel
theorem dX3_commonNeed_24 : decode cX3_commonNeed 24 = .ok (.iconst (-1), 1) := by decide +kernel
theorem dX3_commonNeed_25 : decode cX3_commonNeed 25 = .ok (.if_icmp .eq 25, 3) := by decide +kernel
theorem dX3_commonNeed_28 : decode cX3_commonNeed 28 = .ok (.iload_n 2, 1) := by decide +kernel
theorem dX3_commonNeed_29 : decode cX3_commonNeed 29 = .ok (.aload_n 0, 1) := by decide +kernel
theorem dX3_commonNeed_30 : decode cX3_commonNeed 30 = .ok (.iload 4, 2) := by decide +kernel
theorem dX3_commonNeed_32 : decode cX3_commonNeed 32 = .ok (.invokevirtual 72, 3) := by decide +kernel
theorem dX3_commonNeed_35 : decode cX3_commonNeed 35 = .ok (.invokestatic 81, 3) := by decide +kernel
theorem dX3_commonNeed_38 : decode cX3_commonNeed 38 = .ok (.istore_n 2, 1) := by decide +kernel
theorem dX3_commonNeed_39 : decode cX3_commonNeed 39 = .ok (.iload_n 3, 1) := by decide +kernel
theorem dX3_commonNeed_40 : decode cX3_commonNeed 40 = .ok (.aload_n 0, 1) := by decide +kernel
theorem dX3_commonNeed_41 : decode cX3_commonNeed 41 = .ok (.iload 4, 2) := by decide +kernel
theorem dX3_commonNeed_43 : decode cX3_commonNeed 43 = .ok (.invokevirtual 75, 3) := by decide +kernel
theorem dX3_commonNeed_46 : decode cX3_commonNeed 46 = .ok (.invokestatic 107, 3) := by decide +kernel
theorem dX3_commonNeed_49 : decode cX3_commonNeed 49 = .ok (.istore_n 3, 1) := by decide +kernel
theorem dX3_commonNeed_50 : decode cX3_commonNeed 50 = .ok (.iinc 4 1, 3) := by decide +kernel
theorem dX3_commonNeed_53 : decode cX3_commonNeed 53 = .ok (.goto (-44), 3) := by decide +kernel
theorem dX3_commonNeed_56 : decode cX3_commonNeed 56 = .ok (.iload_n 2, 1) := by decide +kernel
theorem dX3_commonNeed_57 : decode cX3_commonNeed 57 = .ok (.iconst (-1), 1) := by decide +kernel
theorem dX3_commonNeed_58 : decode cX3_commonNeed 58 = .ok (.if_icmp .eq 8, 3) := by decide +kernel
theorem dX3_commonNeed_61 : decode cX3_commonNeed 61 = .ok (.iload_n 2, 1) := by decide +kernel
theorem dX3_commonNeed_62 : decode cX3_commonNeed 62 = .ok (.iload_n 3, 1) := by decide +kernel
theorem dX3_commonNeed_63 : decode cX3_commonNeed 63 = .ok (.if_icmp .le 5, 3) := by decide +kernel
theorem dX3_commonNeed_66 : decode cX3_commonNeed 66 = .ok (.iconst (-1), 1) := by decide +kernel
theorem dX3_commonNeed_67 : decode cX3_commonNeed 67 = .ok (.ireturn, 1) := by decide +kernel
theorem dX3_commonNeed_68 : decode cX3_commonNeed 68 = .ok (.iload_n 1, 1) := by decide +kernel
theorem dX3_commonNeed_69 : decode cX3_commonNeed 69 = .ok (.ifCond .ne 7, 3) := by decide +kernel
theorem dX3_commonNeed_72 : decode cX3_commonNeed 72 = .ok (.iload_n 2, 1) := by decide +kernel
theorem dX3_commonNeed_73 : decode cX3_commonNeed 73 = .ok (.goto 4, 3) := by decide +kernel
theorem dX3_commonNeed_76 : decode cX3_commonNeed 76 = .ok (.iload_n 3, 1) := by decide +kernel
theorem dX3_commonNeed_77 : decode cX3_commonNeed 77 = .ok (.ireturn, 1) := by decide +kernel
def q_X3_commonNeed (k : Nat) (S : zM) (what : Int) : Int32 → zM → Prop := fun r S1 => r = zI (tCo (S k 0) what) ∧ S = S1
def r_X3_commonNeed : Room := { frames := 3, cells := 0, slots := 0, locals := 71 }
set_option maxHeartbeats 4000000 in
set_option maxRecDepth 100000 in
theorem c_X3_commonNeed (l : Launch) (G : zG) (hG : zok G) (k : Nat) (hk : k < 8) (S : zM) (what : Int) (hwh : 0 ≤ what ∧ what ≤ 1) (hms : zMs S k) (hw : zW (S k 0))  : Met l yX3_commonNeed (Cond.code yX3_commonNeed cX3_commonNeed 5 (some FieldType.int) :: zTbl) r_X3_commonNeed (va_Pc [.ref (za G k 0), .int (zI what)] (zB G S)) (va_Qi (q_X3_commonNeed k S what) (zB G) (zA G)) 0 0 (zA G) := by
  refine zMet [(0, .ref (za G k 0)), (1, .int (zI what))] hG (by decide) (Nat.le_of_ble_eq_true rfl) rfl (fun p e s m args below meth c ls h hx hb hr hH hl => ?_)
  have C9 : ∀ (fu : Nat) (o a b : Int) (H : Heap) (locs : List Loc) (ls : Array Slot), (S k 0 4 - o).toNat < fu → (0 ≤ o ∧ o ≤ S k 0 4) → (a = tCL (S k 0) o.toNat) → (b = tCG (S k 0) o.toNat) → zH G S s H locs → lv_has ls 5 [(0, .ref (za G k 0)), (1, .int (zI what)), (2, .int (zI a)), (3, .int (zI b)), (4, .int (zI o))] → W p l e r_X3_commonNeed s m args below meth c H locs 0 0 (MQ below (va_Qi (q_X3_commonNeed k S what) (zB G) (zA G)) args s 0 0 (zA G)) (F0 m 9 ls []) := by
    intro fu
    induction fu with
    | zero => intro o a b H locs ls hfu; omega
    | succ fu ih9 =>
      intro o a b H locs ls hfu ho ha hb2 hH hl
      have f4 := zW_4 hw
      have ba := tCL_in hw o.toNat
      have bb := tCG_in hw o.toNat
      refine lv_iload hx hb dX3_commonNeed_9 (lv_at hl 4 rfl) ?_
      refine lv_aload_n hx hb dX3_commonNeed_11 rfl (lv_at hl 0 rfl) ?_
      refine zg_3_7 h hH hk zf_X3_37 dX3_commonNeed_12 ?_
      have f_12 := zW_4 hw
      refine zb_cge (tgt := 56) h (by omega) (by omega) dX3_commonNeed_15 (by decide) (fun c_15 => ?_) (fun c_15 => ?_)
      · refine lv_iload_n hx hb dX3_commonNeed_56 rfl (lv_at hl 2 rfl) ?_
        refine zb_ic h dX3_commonNeed_57 ?_
        refine zb_ceq (tgt := 66) h (by omega) (by omega) dX3_commonNeed_58 (by decide) (fun c_58 => ?_) (fun c_58 => ?_)
        · refine zb_ic h dX3_commonNeed_66 ?_
          refine zri h hr hH ?_ dX3_commonNeed_67
          have eo : o = S k 0 4 := by omega
          subst eo
          exact ⟨congrArg zI (by unfold tCo; rw [← ha, ← hb2]; (repeat split) <;> omega), rfl⟩
        · refine lv_iload_n hx hb dX3_commonNeed_61 rfl (lv_at hl 2 rfl) ?_
          refine lv_iload_n hx hb dX3_commonNeed_62 rfl (lv_at hl 3 rfl) ?_
          refine zb_cle (tgt := 68) h (by omega) (by omega) dX3_commonNeed_63 (by decide) (fun c_63 => ?_) (fun c_63 => ?_)
          · refine lv_iload_n hx hb dX3_commonNeed_68 rfl (lv_at hl 1 rfl) ?_
            refine zb_ine (tgt := 76) h (by omega) dX3_commonNeed_69 (by decide) (fun c_69 => ?_) (fun c_69 => ?_)
            · refine lv_iload_n hx hb dX3_commonNeed_76 rfl (lv_at hl 3 rfl) ?_
              refine zri h hr hH ?_ dX3_commonNeed_77
              have eo : o = S k 0 4 := by omega
              subst eo
              exact ⟨congrArg zI (by unfold tCo; rw [← ha, ← hb2]; (repeat split) <;> omega), rfl⟩
            · refine lv_iload_n hx hb dX3_commonNeed_72 rfl (lv_at hl 2 rfl) ?_
              refine lv_goto (tgt := 77) hx hb dX3_commonNeed_73 (by decide) ?_
              refine zri h hr hH ?_ dX3_commonNeed_77
              have eo : o = S k 0 4 := by omega
              subst eo
              exact ⟨congrArg zI (by unfold tCo; rw [← ha, ← hb2]; (repeat split) <;> omega), rfl⟩
          · refine zb_ic h dX3_commonNeed_66 ?_
            refine zri h hr hH ?_ dX3_commonNeed_67
            have eo : o = S k 0 4 := by omega
            subst eo
            exact ⟨congrArg zI (by unfold tCo; rw [← ha, ← hb2]; (repeat split) <;> omega), rfl⟩
      · refine lv_aload_n hx hb dX3_commonNeed_18 rfl (lv_at hl 0 rfl) ?_
        refine lv_iload hx hb dX3_commonNeed_19 (lv_at hl 4 rfl) ?_
        refine zcVi h hH (zr_3 h hH hk) (As := [.int (zI o)]) (rest := []) (c_X3_leastNeed l G hG k hk S o (by omega) hms hw) zce_X3_leastNeed zcv_X3_leastNeed zm_X3_72 hl.1 rfl rfl ⟨rfl, rfl⟩ ⟨Nat.le_of_ble_eq_true rfl, Nat.le_of_ble_eq_true rfl⟩ (Nat.le_of_ble_eq_true rfl) ⟨Nat.zero_le _, Nat.zero_le _⟩ dX3_commonNeed_21 (fun r_21 S_21 H locs hq hH => ?_)
        obtain ⟨rfl, rfl⟩ := hq
        have b_21 := tLn_in hw o
        have b_21g := tGn_in hw o
        refine zb_ic h dX3_commonNeed_24 ?_
        refine zb_ceq (tgt := 50) h (by omega) (by omega) dX3_commonNeed_25 (by decide) (fun c_25 => ?_) (fun c_25 => ?_)
        · refine lv_iinc (v := zI (o + 1)) (lv' := [(4, .int (zI (o + 1))), (0, .ref (za G k 0)), (1, .int (zI what)), (2, .int (zI a)), (3, .int (zI b))]) hx hb dX3_commonNeed_50 hl (k := 4) rfl (zI_add _ _) (by decide) rfl (fun ls hl => ?_)
          refine lv_goto (tgt := 9) hx hb dX3_commonNeed_53 (by decide) ?_
          exact ih9 (o + 1) a b _ _ _ (by omega) (by have := zW_4 hw; omega) (by rw [tCL_s _ ho.1, ha]; first | rw [if_pos c_25] | rw [if_neg c_25]) (by rw [tCG_s _ ho.1, hb2]; first | rw [if_pos c_25] | rw [if_neg c_25]) hH (lv_sub hl [1, 2, 3, 4, 0] rfl)
        · refine lv_iload_n hx hb dX3_commonNeed_28 rfl (lv_at hl 2 rfl) ?_
          refine lv_aload_n hx hb dX3_commonNeed_29 rfl (lv_at hl 0 rfl) ?_
          refine lv_iload hx hb dX3_commonNeed_30 (lv_at hl 4 rfl) ?_
          refine zcVi h hH (zr_3 h hH hk) (As := [.int (zI o)]) (rest := [.int (zI a)]) (c_X3_leastNeed l G hG k hk S o (by omega) hms hw) zce_X3_leastNeed zcv_X3_leastNeed zm_X3_72 hl.1 rfl rfl ⟨rfl, rfl⟩ ⟨Nat.le_of_ble_eq_true rfl, Nat.le_of_ble_eq_true rfl⟩ (Nat.le_of_ble_eq_true rfl) ⟨Nat.zero_le _, Nat.zero_le _⟩ dX3_commonNeed_32 (fun r_32 S_32 H locs hq hH => ?_)
          obtain ⟨rfl, rfl⟩ := hq
          refine zmaxI h hl.1 zm_X3_81 (Nat.le_of_ble_eq_true rfl) (Nat.le_of_ble_eq_true rfl) ⟨Nat.zero_le _, Nat.zero_le _⟩ (by omega) (by omega) (Nat.le_of_ble_eq_true rfl) dX3_commonNeed_35 ?_
          refine lv_istore_n (lv' := [(2, .int (zI (max a (tLn (S k 0) o)))), (0, .ref (za G k 0)), (1, .int (zI what)), (3, .int (zI b)), (4, .int (zI o))]) hx hb dX3_commonNeed_38 rfl hl (by decide) rfl (fun ls hl => ?_)
          refine lv_iload_n hx hb dX3_commonNeed_39 rfl (lv_at hl 3 rfl) ?_
          refine lv_aload_n hx hb dX3_commonNeed_40 rfl (lv_at hl 1 rfl) ?_
          refine lv_iload hx hb dX3_commonNeed_41 (lv_at hl 4 rfl) ?_
          refine zcVi h hH (zr_3 h hH hk) (As := [.int (zI o)]) (rest := [.int (zI b)]) (c_X3_greatestNeed l G hG k hk S o (by omega) hms hw) zce_X3_greatestNeed zcv_X3_greatestNeed zm_X3_75 hl.1 rfl rfl ⟨rfl, rfl⟩ ⟨Nat.le_of_ble_eq_true rfl, Nat.le_of_ble_eq_true rfl⟩ (Nat.le_of_ble_eq_true rfl) ⟨Nat.zero_le _, Nat.zero_le _⟩ dX3_commonNeed_43 (fun r_43 S_43 H locs hq hH => ?_)
          obtain ⟨rfl, rfl⟩ := hq
          refine zminI h hl.1 zm_X3_107 (Nat.le_of_ble_eq_true rfl) (Nat.le_of_ble_eq_true rfl) ⟨Nat.zero_le _, Nat.zero_le _⟩ (by omega) (by omega) (Nat.le_of_ble_eq_true rfl) dX3_commonNeed_46 ?_
          refine lv_istore_n (lv' := [(3, .int (zI (min b (tGn (S k 0) o)))), (2, .int (zI (max a (tLn (S k 0) o)))), (0, .ref (za G k 0)), (1, .int (zI what)), (4, .int (zI o))]) hx hb dX3_commonNeed_49 rfl hl (by decide) rfl (fun ls hl => ?_)
          refine lv_iinc (v := zI (o + 1)) (lv' := [(4, .int (zI (o + 1))), (3, .int (zI (min b (tGn (S k 0) o)))), (2, .int (zI (max a (tLn (S k 0) o)))), (0, .ref (za G k 0)), (1, .int (zI what))]) hx hb dX3_commonNeed_50 hl (k := 4) rfl (zI_add _ _) (by decide) rfl (fun ls hl => ?_)
          refine lv_goto (tgt := 9) hx hb dX3_commonNeed_53 (by decide) ?_
          exact ih9 (o + 1) (max a (tLn (S k 0) o)) (min b (tGn (S k 0) o)) _ _ _ (by omega) (by have := zW_4 hw; omega) (by rw [tCL_s _ ho.1, ha]; first | rw [if_pos c_25] | rw [if_neg c_25]) (by rw [tCG_s _ ho.1, hb2]; first | rw [if_pos c_25] | rw [if_neg c_25]) hH (lv_sub hl [3, 4, 2, 1, 0] rfl)
  refine zb_ic h dX3_commonNeed_0 ?_
  refine lv_istore_n (lv' := [(2, .int (zI (-1))), (0, .ref (za G k 0)), (1, .int (zI what))]) hx hb dX3_commonNeed_1 rfl hl (by decide) rfl (fun ls hl => ?_)
  refine zb_si h dX3_commonNeed_2 (by decide) (by decide) ?_
  refine lv_istore_n (lv' := [(3, .int (zI 9999)), (2, .int (zI (-1))), (0, .ref (za G k 0)), (1, .int (zI what))]) hx hb dX3_commonNeed_5 rfl hl (by decide) rfl (fun ls hl => ?_)
  refine zb_ic h dX3_commonNeed_6 ?_
  refine lv_istore (lv' := [(4, .int (zI 0)), (3, .int (zI 9999)), (2, .int (zI (-1))), (0, .ref (za G k 0)), (1, .int (zI what))]) hx hb dX3_commonNeed_7 hl (by decide) rfl (fun ls hl => ?_)
  exact C9 ((S k 0 4 - 0 : Int).toNat + 1) 0 (-1) 9999 _ _ _ (by omega) (by have := zW_4 hw; omega) rfl rfl hH (lv_sub hl [3, 4, 2, 1, 0] rfl)
theorem dX3_readStrip_0 : decode cX3_readStrip 0 = .ok (.aload_n 0, 1) := by decide +kernel
theorem dX3_readStrip_1 : decode cX3_readStrip 1 = .ok (.iload_n 1, 1) := by decide +kernel
theorem dX3_readStrip_2 : decode cX3_readStrip 2 = .ok (.invokevirtual 57, 3) := by decide +kernel
theorem dX3_readStrip_5 : decode cX3_readStrip 5 = .ok (.ifCond .ne 5, 3) := by decide +kernel
theorem dX3_readStrip_10 : decode cX3_readStrip 10 = .ok (.iconst 0, 1) := by decide +kernel
theorem dX3_readStrip_11 : decode cX3_readStrip 11 = .ok (.istore 5, 2) := by decide +kernel
theorem dX3_readStrip_13 : decode cX3_readStrip 13 = .ok (.iconst 0, 1) := by decide +kernel
theorem dX3_readStrip_14 : decode cX3_readStrip 14 = .ok (.istore 6, 2) := by decide +kernel
theorem dX3_readStrip_16 : decode cX3_readStrip 16 = .ok (.iload 6, 2) := by decide +kernel
theorem dX3_readStrip_18 : decode cX3_readStrip 18 = .ok (.iload_n 3, 1) := by decide +kernel
theorem dX3_readStrip_19 : decode cX3_readStrip 19 = .ok (.if_icmp .ge 70, 3) := by decide +kernel
theorem dX3_readStrip_22 : decode cX3_readStrip 22 = .ok (.aload_n 0, 1) := by decide +kernel
theorem dX3_readStrip_23 : decode cX3_readStrip 23 = .ok (.iload_n 1, 1) := by decide +kernel
theorem dX3_readStrip_24 : decode cX3_readStrip 24 = .ok (.iload_n 2, 1) := by decide +kernel
theorem dX3_readStrip_25 : decode cX3_readStrip 25 = .ok (.iload 6, 2) := by decide +kernel
theorem dX3_readStrip_27 : decode cX3_readStrip 27 = .ok (.invokestatic 110, 3) := by decide +kernel
theorem dX3_readStrip_30 : decode cX3_readStrip 30 = .ok (.invokevirtual 86, 3) := by decide +kernel
theorem dX3_readStrip_33 : decode cX3_readStrip 33 = .ok (.istore 7, 2) := by decide +kernel
theorem dX3_readStrip_35 : decode cX3_readStrip 35 = .ok (.iload 4, 2) := by decide +kernel
theorem dX3_readStrip_37 : decode cX3_readStrip 37 = .ok (.iconst 2, 1) := by decide +kernel
theorem dX3_readStrip_38 : decode cX3_readStrip 38 = .ok (.if_icmp .ge 31, 3) := by decide +kernel
theorem dX3_readStrip_41 : decode cX3_readStrip 41 = .ok (.iload 7, 2) := by decide +kernel
theorem dX3_readStrip_43 : decode cX3_readStrip 43 = .ok (.aload_n 0, 1) := by decide +kernel
theorem dX3_readStrip_44 : decode cX3_readStrip 44 = .ok (.getfield 22, 3) := by decide +kernel
theorem dX3_readStrip_47 : decode cX3_readStrip 47 = .ok (.iload_n 1, 1) := by decide +kernel
theorem dX3_readStrip_48 : decode cX3_readStrip 48 = .ok (.iaload, 1) := by decide +kernel
theorem dX3_readStrip_49 : decode cX3_readStrip 49 = .ok (.if_icmp .lt 20, 3) := by decide +kernel
theorem dX3_readStrip_52 : decode cX3_readStrip 52 = .ok (.iload 4, 2) := by decide +kernel
theorem dX3_readStrip_54 : decode cX3_readStrip 54 = .ok (.ifCond .ne 12, 3) := by decide +kernel
theorem dX3_readStrip_57 : decode cX3_readStrip 57 = .ok (.iload_n 2, 1) := by decide +kernel
theorem dX3_readStrip_58 : decode cX3_readStrip 58 = .ok (.iload 6, 2) := by decide +kernel
theorem dX3_readStrip_60 : decode cX3_readStrip 60 = .ok (.invokestatic 110, 3) := by decide +kernel
theorem dX3_readStrip_63 : decode cX3_readStrip 63 = .ok (.goto 5, 3) := by decide +kernel
theorem dX3_readStrip_66 : decode cX3_readStrip 66 = .ok (.iload 6, 2) := by decide +kernel
theorem dX3_readStrip_68 : decode cX3_readStrip 68 = .ok (.ireturn, 1) := by decide +kernel
theorem dX3_readStrip_69 : decode cX3_readStrip 69 = .ok (.iload 7, 2) := by decide +kernel
theorem dX3_readStrip_71 : decode cX3_readStrip 71 = .ok (.aload_n 0, 1) := by decide +kernel
theorem dX3_readStrip_72 : decode cX3_readStrip 72 = .ok (.getfield 22, 3) := by decide +kernel
theorem dX3_readStrip_75 : decode cX3_readStrip 75 = .ok (.iload_n 1, 1) := by decide +kernel
theorem dX3_readStrip_76 : decode cX3_readStrip 76 = .ok (.iaload, 1) := by decide +kernel
theorem dX3_readStrip_77 : decode cX3_readStrip 77 = .ok (.if_icmp .ne 6, 3) := by decide +kernel
theorem dX3_readStrip_80 : decode cX3_readStrip 80 = .ok (.iinc 5 1, 3) := by decide +kernel
theorem dX3_readStrip_83 : decode cX3_readStrip 83 = .ok (.iinc 6 1, 3) := by decide +kernel
theorem dX3_readStrip_86 : decode cX3_readStrip 86 = .ok (.goto (-70), 3) := by decide +kernel
theorem dX3_readStrip_89 : decode cX3_readStrip 89 = .ok (.iload 4, 2) := by decide +kernel
theorem dX3_readStrip_91 : decode cX3_readStrip 91 = .ok (.lookupswitch 41 #[(2, 25), (3, 28)], 25) := by decide +kernel
theorem dX3_readStrip_116 : decode cX3_readStrip 116 = .ok (.iload 5, 2) := by decide +kernel
theorem dX3_readStrip_118 : decode cX3_readStrip 118 = .ok (.ireturn, 1) := by decide +kernel
theorem dX3_readStrip_119 : decode cX3_readStrip 119 = .ok (.aload_n 0, 1) := by decide +kernel
theorem dX3_readStrip_120 : decode cX3_readStrip 120 = .ok (.iload_n 1, 1) := by decide +kernel
theorem dX3_readStrip_121 : decode cX3_readStrip 121 = .ok (.iload_n 2, 1) := by decide +kernel
theorem dX3_readStrip_122 : decode cX3_readStrip 122 = .ok (.iload_n 3, 1) := by decide +kernel
theorem dX3_readStrip_123 : decode cX3_readStrip 123 = .ok (.iconst 1, 1) := by decide +kernel
theorem dX3_readStrip_124 : decode cX3_readStrip 124 = .ok (.isub, 1) := by decide +kernel
theorem dX3_readStrip_125 : decode cX3_readStrip 125 = .ok (.invokestatic 110, 3) := by decide +kernel
theorem dX3_readStrip_128 : decode cX3_readStrip 128 = .ok (.invokevirtual 86, 3) := by decide +kernel
theorem dX3_readStrip_131 : decode cX3_readStrip 131 = .ok (.ireturn, 1) := by decide +kernel
theorem dX3_readStrip_132 : decode cX3_readStrip 132 = .ok (.iconst (-1), 1) := by decide +kernel
theorem dX3_readStrip_133 : decode cX3_readStrip 133 = .ok (.ireturn, 1) := by decide +kernel
def q_X3_readStrip (k : Nat) (S : zM) (z f n what : Int) : Int32 → zM → Prop := fun r S1 => r = zI (tStr (S k 0) z f n what) ∧ S = S1
def r_X3_readStrip : Room := { frames := 2, cells := 0, slots := 0, locals := 46 }
set_option maxHeartbeats 4000000 in
set_option maxRecDepth 100000 in
theorem c_X3_readStrip (l : Launch) (G : zG) (hG : zok G) (k : Nat) (hk : k < 8) (S : zM) (z f n what : Int) (hz : 0 ≤ z ∧ z < S k 0 4) (hf : 1 ≤ f ∧ f ≤ 999) (hn : 1 ≤ n ∧ n ≤ 9) (hwh : 0 ≤ what ∧ what ≤ 3) (hms : zMs S k) (hw : zW (S k 0))  : Met l yX3_readStrip (Cond.code yX3_readStrip cX3_readStrip 8 (some FieldType.int) :: zTbl) r_X3_readStrip (va_Pc [.ref (za G k 0), .int (zI z), .int (zI f), .int (zI n), .int (zI what)] (zB G S)) (va_Qi (q_X3_readStrip k S z f n what) (zB G) (zA G)) 0 0 (zA G) := by
  refine zMet [(0, .ref (za G k 0)), (1, .int (zI z)), (2, .int (zI f)), (3, .int (zI n)), (4, .int (zI what))] hG (by decide) (Nat.le_of_ble_eq_true rfl) rfl (fun p e s m args below meth c ls h hx hb hr hH hl => ?_)
  have f4 := zW_4 hw
  have C16 : ∀ (fu : Nat) (i t : Int) (H : Heap) (locs : List Loc) (ls : Array Slot), (n - i).toNat < fu → (0 ≤ i ∧ i ≤ n) → (t = tSh (S k 0) z f i.toNat) → (what < 2 → tSf (S k 0) z f i.toNat = -1) → zH G S s H locs → lv_has ls 8 [(0, .ref (za G k 0)), (1, .int (zI z)), (2, .int (zI f)), (3, .int (zI n)), (4, .int (zI what)), (5, .int (zI t)), (6, .int (zI i))] → W p l e r_X3_readStrip s m args below meth c H locs 0 0 (MQ below (va_Qi (q_X3_readStrip k S z f n what) (zB G) (zA G)) args s 0 0 (zA G)) (F0 m 16 ls []) := by
    intro fu
    induction fu with
    | zero => intro i t H locs ls hfu; omega
    | succ fu ih16 =>
      intro i t H locs ls hfu hi hh ht hH hl
      refine lv_iload hx hb dX3_readStrip_16 (lv_at hl 6 rfl) ?_
      refine lv_iload_n hx hb dX3_readStrip_18 rfl (lv_at hl 3 rfl) ?_
      refine zb_cge (tgt := 89) h (by omega) (by omega) dX3_readStrip_19 (by decide) (fun c_19 => ?_) (fun c_19 => ?_)
      · refine lv_iload hx hb dX3_readStrip_89 (lv_at hl 4 rfl) ?_
        have x_91 : (zI what).toInt = what := zI_toInt (by omega) (by omega)
        by_cases e_91_2 : what = 2
        · refine lv_lookup (off := 25) (tgt := 116) hx hb dX3_readStrip_91 (by decide) (by rw [x_91, e_91_2]; rfl) (by decide) ?_
          refine lv_iload hx hb dX3_readStrip_116 (lv_at hl 5 rfl) ?_
          refine zri h hr hH ?_ dX3_readStrip_118
          have ei : i = n := by omega
          subst ei
          exact ⟨congrArg zI (by unfold tStr; rw [if_pos (by omega), hh]), rfl⟩
        by_cases e_91_3 : what = 3
        · refine lv_lookup (off := 28) (tgt := 119) hx hb dX3_readStrip_91 (by decide) (by rw [x_91, e_91_3]; rfl) (by decide) ?_
          refine lv_aload_n hx hb dX3_readStrip_119 rfl (lv_at hl 0 rfl) ?_
          refine lv_iload_n hx hb dX3_readStrip_120 rfl (lv_at hl 1 rfl) ?_
          refine lv_iload_n hx hb dX3_readStrip_121 rfl (lv_at hl 2 rfl) ?_
          refine lv_iload_n hx hb dX3_readStrip_122 rfl (lv_at hl 3 rfl) ?_
          refine zb_ic h dX3_readStrip_123 ?_
          refine zb_isub h dX3_readStrip_124 ?_
          refine zcSi h hH (As := [.int (zI f), .int (zI (n - 1))]) (rest := [.int (zI z), .ref (za G k 0)]) (c_X3_stripTime l G hG S f (n - 1) (by omega) (by omega)) zce_X3_stripTime zt_X3_stripTime zm_X3_110 hl.1 rfl rfl ⟨rfl, rfl⟩ ⟨Nat.le_of_ble_eq_true rfl, Nat.le_of_ble_eq_true rfl⟩ (Nat.le_of_ble_eq_true rfl) ⟨Nat.zero_le _, Nat.zero_le _⟩ dX3_readStrip_125 (fun r_125 S_125 H locs hq hH => ?_)
          obtain ⟨rfl, rfl⟩ := hq
          have b_125 := zStr_in hf (show 0 ≤ n - 1 ∧ n - 1 < 9 by omega)
          refine zcVi h hH (zr_3 h hH hk) (As := [.int (zI z), .int (zI (zStr f (n - 1)))]) (rest := []) (c_X3_toneAfter l G hG k hk S z (zStr f (n - 1)) (by omega) (by omega) hms hw) zce_X3_toneAfter zcv_X3_toneAfter zm_X3_86 hl.1 rfl rfl ⟨rfl, rfl⟩ ⟨Nat.le_of_ble_eq_true rfl, Nat.le_of_ble_eq_true rfl⟩ (Nat.le_of_ble_eq_true rfl) ⟨Nat.zero_le _, Nat.zero_le _⟩ dX3_readStrip_128 (fun r_128 S_128 H locs hq hH => ?_)
          obtain ⟨rfl, rfl⟩ := hq
          refine zri h hr hH ?_ dX3_readStrip_131
          exact ⟨congrArg zI (by unfold tStr; rw [if_neg (by omega), if_pos (by omega)]), rfl⟩
        refine lv_lookup (off := 41) (tgt := 132) hx hb dX3_readStrip_91 (by decide) (by rw [x_91]; exact zlk_out [(2, 25), (3, 28)] _ _ (by intro q hq; simp only [List.mem_cons, List.not_mem_nil, or_false] at hq; rcases hq with rfl | rfl <;> (dsimp only; omega))) (by decide) ?_
        refine zb_ic h dX3_readStrip_132 ?_
        refine zri h hr hH ?_ dX3_readStrip_133
        have ei : i = n := by omega
        subst ei
        exact ⟨congrArg zI (by unfold tStr; rw [if_neg (by omega), if_neg (by omega), if_pos (Or.inr (ht (by omega))), ht (by omega)]), rfl⟩
      · refine lv_aload_n hx hb dX3_readStrip_22 rfl (lv_at hl 0 rfl) ?_
        refine lv_iload_n hx hb dX3_readStrip_23 rfl (lv_at hl 1 rfl) ?_
        refine lv_iload_n hx hb dX3_readStrip_24 rfl (lv_at hl 2 rfl) ?_
        refine lv_iload hx hb dX3_readStrip_25 (lv_at hl 6 rfl) ?_
        refine zcSi h hH (As := [.int (zI f), .int (zI i)]) (rest := [.int (zI z), .ref (za G k 0)]) (c_X3_stripTime l G hG S f i (by omega) (by omega)) zce_X3_stripTime zt_X3_stripTime zm_X3_110 hl.1 rfl rfl ⟨rfl, rfl⟩ ⟨Nat.le_of_ble_eq_true rfl, Nat.le_of_ble_eq_true rfl⟩ (Nat.le_of_ble_eq_true rfl) ⟨Nat.zero_le _, Nat.zero_le _⟩ dX3_readStrip_27 (fun r_27 S_27 H locs hq hH => ?_)
        obtain ⟨rfl, rfl⟩ := hq
        have b_27 := zStr_in hf (show 0 ≤ i ∧ i < 9 by omega)
        refine zcVi h hH (zr_3 h hH hk) (As := [.int (zI z), .int (zI (zStr f i))]) (rest := []) (c_X3_toneAfter l G hG k hk S z (zStr f i) (by omega) (by omega) hms hw) zce_X3_toneAfter zcv_X3_toneAfter zm_X3_86 hl.1 rfl rfl ⟨rfl, rfl⟩ ⟨Nat.le_of_ble_eq_true rfl, Nat.le_of_ble_eq_true rfl⟩ (Nat.le_of_ble_eq_true rfl) ⟨Nat.zero_le _, Nat.zero_le _⟩ dX3_readStrip_30 (fun r_30 S_30 H locs hq hH => ?_)
        obtain ⟨rfl, rfl⟩ := hq
        have b_30 := tAt_in (S k 0) z (zStr f i)
        refine lv_istore (lv' := [(7, .int (zI (tAt (S k 0) z (zStr f i)))), (0, .ref (za G k 0)), (1, .int (zI z)), (2, .int (zI f)), (3, .int (zI n)), (4, .int (zI what)), (5, .int (zI t)), (6, .int (zI i))]) hx hb dX3_readStrip_33 hl (by decide) rfl (fun ls hl => ?_)
        refine lv_iload hx hb dX3_readStrip_35 (lv_at hl 5 rfl) ?_
        refine zb_ic h dX3_readStrip_37 ?_
        refine zb_cge (tgt := 69) h (by omega) (by omega) dX3_readStrip_38 (by decide) (fun c_38 => ?_) (fun c_38 => ?_)
        · refine lv_iload hx hb dX3_readStrip_69 (lv_at hl 0 rfl) ?_
          refine lv_aload_n hx hb dX3_readStrip_71 rfl (lv_at hl 1 rfl) ?_
          refine zg_3_2 h hH hk zf_X3_22 dX3_readStrip_72 ?_
          refine lv_iload_n hx hb dX3_readStrip_75 rfl (lv_at hl 2 rfl) ?_
          refine zld_ar_wa h hH hk (by omega) dX3_readStrip_76 ?_
          have f_76 := zW_wa hw (show 0 ≤ z ∧ z < 8 by omega)
          refine zb_cne (tgt := 83) h (by omega) (by omega) dX3_readStrip_77 (by decide) (fun c_77 => ?_) (fun c_77 => ?_)
          · refine lv_iinc (v := zI (i + 1)) (lv' := [(6, .int (zI (i + 1))), (7, .int (zI (tAt (S k 0) z (zStr f i)))), (0, .ref (za G k 0)), (1, .int (zI z)), (2, .int (zI f)), (3, .int (zI n)), (4, .int (zI what)), (5, .int (zI t))]) hx hb dX3_readStrip_83 hl (k := 7) rfl (zI_add _ _) (by decide) rfl (fun ls hl => ?_)
            refine lv_goto (tgt := 16) hx hb dX3_readStrip_86 (by decide) ?_
            exact ih16 (i + 1) t _ _ _ (by omega) (by omega) (by unfold tSh; rw [zsum_s _ hi.1, hh]; first | (rw [if_pos c_77]; rfl) | (rw [if_neg c_77]; simp only [tSh]; omega)) (fun hq => by rw [tSf_s _ _ _ hi.1, if_neg (by omega)]; exact ht hq) hH (lv_sub hl [2, 3, 4, 5, 6, 7, 0] rfl)
          · refine lv_iinc (v := zI (t + 1)) (lv' := [(5, .int (zI (t + 1))), (7, .int (zI (tAt (S k 0) z (zStr f i)))), (0, .ref (za G k 0)), (1, .int (zI z)), (2, .int (zI f)), (3, .int (zI n)), (4, .int (zI what)), (6, .int (zI i))]) hx hb dX3_readStrip_80 hl (k := 6) rfl (zI_add _ _) (by decide) rfl (fun ls hl => ?_)
            refine lv_iinc (v := zI (i + 1)) (lv' := [(6, .int (zI (i + 1))), (5, .int (zI (t + 1))), (7, .int (zI (tAt (S k 0) z (zStr f i)))), (0, .ref (za G k 0)), (1, .int (zI z)), (2, .int (zI f)), (3, .int (zI n)), (4, .int (zI what))]) hx hb dX3_readStrip_83 hl (k := 7) rfl (zI_add _ _) (by decide) rfl (fun ls hl => ?_)
            refine lv_goto (tgt := 16) hx hb dX3_readStrip_86 (by decide) ?_
            exact ih16 (i + 1) (t + 1) _ _ _ (by omega) (by omega) (by unfold tSh; rw [zsum_s _ hi.1, hh]; first | (rw [if_pos c_77]; rfl) | (rw [if_neg c_77]; simp only [tSh]; omega)) (fun hq => by rw [tSf_s _ _ _ hi.1, if_neg (by omega)]; exact ht hq) hH (lv_sub hl [3, 4, 5, 6, 7, 1, 0] rfl)
        · refine lv_iload hx hb dX3_readStrip_41 (lv_at hl 0 rfl) ?_
          refine lv_aload_n hx hb dX3_readStrip_43 rfl (lv_at hl 1 rfl) ?_
          refine zg_3_2 h hH hk zf_X3_22 dX3_readStrip_44 ?_
          refine lv_iload_n hx hb dX3_readStrip_47 rfl (lv_at hl 2 rfl) ?_
          refine zld_ar_wa h hH hk (by omega) dX3_readStrip_48 ?_
          have f_48 := zW_wa hw (show 0 ≤ z ∧ z < 8 by omega)
          refine zb_clt (tgt := 69) h (by omega) (by omega) dX3_readStrip_49 (by decide) (fun c_49 => ?_) (fun c_49 => ?_)
          · refine lv_iload hx hb dX3_readStrip_69 (lv_at hl 0 rfl) ?_
            refine lv_aload_n hx hb dX3_readStrip_71 rfl (lv_at hl 1 rfl) ?_
            refine zg_3_2 h hH hk zf_X3_22 dX3_readStrip_72 ?_
            refine lv_iload_n hx hb dX3_readStrip_75 rfl (lv_at hl 2 rfl) ?_
            refine zld_ar_wa h hH hk (by omega) dX3_readStrip_76 ?_
            have f_76 := zW_wa hw (show 0 ≤ z ∧ z < 8 by omega)
            refine zb_cne (tgt := 83) h (by omega) (by omega) dX3_readStrip_77 (by decide) (fun c_77 => ?_) (fun c_77 => ?_)
            · refine lv_iinc (v := zI (i + 1)) (lv' := [(6, .int (zI (i + 1))), (7, .int (zI (tAt (S k 0) z (zStr f i)))), (0, .ref (za G k 0)), (1, .int (zI z)), (2, .int (zI f)), (3, .int (zI n)), (4, .int (zI what)), (5, .int (zI t))]) hx hb dX3_readStrip_83 hl (k := 7) rfl (zI_add _ _) (by decide) rfl (fun ls hl => ?_)
              refine lv_goto (tgt := 16) hx hb dX3_readStrip_86 (by decide) ?_
              exact ih16 (i + 1) t _ _ _ (by omega) (by omega) (by unfold tSh; rw [zsum_s _ hi.1, hh]; first | (rw [if_pos c_77]; rfl) | (rw [if_neg c_77]; simp only [tSh]; omega)) (fun hq => by rw [tSf_s _ _ _ hi.1, if_neg (by omega)]; exact ht hq) hH (lv_sub hl [2, 3, 4, 5, 6, 7, 0] rfl)
            · refine lv_iinc (v := zI (t + 1)) (lv' := [(5, .int (zI (t + 1))), (7, .int (zI (tAt (S k 0) z (zStr f i)))), (0, .ref (za G k 0)), (1, .int (zI z)), (2, .int (zI f)), (3, .int (zI n)), (4, .int (zI what)), (6, .int (zI i))]) hx hb dX3_readStrip_80 hl (k := 6) rfl (zI_add _ _) (by decide) rfl (fun ls hl => ?_)
              refine lv_iinc (v := zI (i + 1)) (lv' := [(6, .int (zI (i + 1))), (5, .int (zI (t + 1))), (7, .int (zI (tAt (S k 0) z (zStr f i)))), (0, .ref (za G k 0)), (1, .int (zI z)), (2, .int (zI f)), (3, .int (zI n)), (4, .int (zI what))]) hx hb dX3_readStrip_83 hl (k := 7) rfl (zI_add _ _) (by decide) rfl (fun ls hl => ?_)
              refine lv_goto (tgt := 16) hx hb dX3_readStrip_86 (by decide) ?_
              exact ih16 (i + 1) (t + 1) _ _ _ (by omega) (by omega) (by unfold tSh; rw [zsum_s _ hi.1, hh]; first | (rw [if_pos c_77]; rfl) | (rw [if_neg c_77]; simp only [tSh]; omega)) (fun hq => by rw [tSf_s _ _ _ hi.1, if_neg (by omega)]; exact ht hq) hH (lv_sub hl [3, 4, 5, 6, 7, 1, 0] rfl)
          · refine lv_iload hx hb dX3_readStrip_52 (lv_at hl 5 rfl) ?_
            refine zb_ine (tgt := 66) h (by omega) dX3_readStrip_54 (by decide) (fun c_54 => ?_) (fun c_54 => ?_)
            · refine lv_iload hx hb dX3_readStrip_66 (lv_at hl 7 rfl) ?_
              refine zri h hr hH ?_ dX3_readStrip_68
              have et := tSf_to hi.1 (by omega) (ht (by omega)) c_49
              exact ⟨congrArg zI (by unfold tStr; rw [if_neg (by omega), if_neg (by omega), et]; split <;> first | rfl | (exfalso; omega)), rfl⟩
            · refine lv_iload_n hx hb dX3_readStrip_57 rfl (lv_at hl 3 rfl) ?_
              refine lv_iload hx hb dX3_readStrip_58 (lv_at hl 7 rfl) ?_
              refine zcSi h hH (As := [.int (zI f), .int (zI i)]) (rest := []) (c_X3_stripTime l G hG S f i (by omega) (by omega)) zce_X3_stripTime zt_X3_stripTime zm_X3_110 hl.1 rfl rfl ⟨rfl, rfl⟩ ⟨Nat.le_of_ble_eq_true rfl, Nat.le_of_ble_eq_true rfl⟩ (Nat.le_of_ble_eq_true rfl) ⟨Nat.zero_le _, Nat.zero_le _⟩ dX3_readStrip_60 (fun r_60 S_60 H locs hq hH => ?_)
              obtain ⟨rfl, rfl⟩ := hq
              refine lv_goto (tgt := 68) hx hb dX3_readStrip_63 (by decide) ?_
              refine zri h hr hH ?_ dX3_readStrip_68
              have et := tSf_to hi.1 (by omega) (ht (by omega)) c_49
              exact ⟨congrArg zI (by unfold tStr; rw [if_neg (by omega), if_neg (by omega), et]; split <;> first | rfl | (exfalso; omega)), rfl⟩
  refine lv_aload_n hx hb dX3_readStrip_0 rfl (lv_at hl 0 rfl) ?_
  refine lv_iload_n hx hb dX3_readStrip_1 rfl (lv_at hl 1 rfl) ?_
  refine zcVi h hH (zr_3 h hH hk) (As := [.int (zI z)]) (rest := []) (c_X3_hasZone l G hG k hk S z (by omega) hw) zce_X3_hasZone zcv_X3_hasZone zm_X3_57 hl.1 rfl rfl ⟨rfl, rfl⟩ ⟨Nat.le_of_ble_eq_true rfl, Nat.le_of_ble_eq_true rfl⟩ (Nat.le_of_ble_eq_true rfl) ⟨Nat.zero_le _, Nat.zero_le _⟩ dX3_readStrip_2 (fun r_2 S_2 H locs hq hH => ?_)
  obtain ⟨b_2, rfl, hb_2, rfl⟩ := hq
  refine zb_ine (tgt := 10) h (by omega) dX3_readStrip_5 (by decide) (fun c_5 => ?_) (fun c_5 => ?_)
  · refine zb_ic h dX3_readStrip_10 ?_
    refine lv_istore (lv' := [(5, .int (zI 0)), (0, .ref (za G k 0)), (1, .int (zI z)), (2, .int (zI f)), (3, .int (zI n)), (4, .int (zI what))]) hx hb dX3_readStrip_11 hl (by decide) rfl (fun ls hl => ?_)
    refine zb_ic h dX3_readStrip_13 ?_
    refine lv_istore (lv' := [(6, .int (zI 0)), (5, .int (zI 0)), (0, .ref (za G k 0)), (1, .int (zI z)), (2, .int (zI f)), (3, .int (zI n)), (4, .int (zI what))]) hx hb dX3_readStrip_14 hl (by decide) rfl (fun ls hl => ?_)
    exact C16 ((n - 0 : Int).toNat + 1) 0 0 _ _ _ (by omega) (by omega) rfl (fun _ => rfl) hH (lv_sub hl [2, 3, 4, 5, 6, 1, 0] rfl)
  · exact absurd c_5 (by omega)
theorem dX3_property_0 : decode cX3_property 0 = .ok (.aload_n 0, 1) := by decide +kernel
theorem dX3_property_1 : decode cX3_property 1 = .ok (.iload_n 1, 1) := by decide +kernel
theorem dX3_property_2 : decode cX3_property 2 = .ok (.invokevirtual 57, 3) := by decide +kernel
theorem dX3_property_5 : decode cX3_property 5 = .ok (.ifCond .ne 5, 3) := by decide +kernel
theorem dX3_property_10 : decode cX3_property 10 = .ok (.iload_n 2, 1) := by decide +kernel
theorem dX3_property_11 : decode cX3_property 11 = .ok (.tableswitch 127 0 9 #[53, 60, 67, 74, 81, 87, 102, 108, 115, 121], 53) := by decide +kernel
theorem dX3_property_64 : decode cX3_property 64 = .ok (.aload_n 0, 1) := by decide +kernel
theorem dX3_property_65 : decode cX3_property 65 = .ok (.getfield 18, 3) := by decide +kernel
theorem dX3_property_68 : decode cX3_property 68 = .ok (.iload_n 1, 1) := by decide +kernel
theorem dX3_property_69 : decode cX3_property 69 = .ok (.iaload, 1) := by decide +kernel
theorem dX3_property_70 : decode cX3_property 70 = .ok (.ireturn, 1) := by decide +kernel
theorem dX3_property_71 : decode cX3_property 71 = .ok (.aload_n 0, 1) := by decide +kernel
theorem dX3_property_72 : decode cX3_property 72 = .ok (.getfield 22, 3) := by decide +kernel
theorem dX3_property_75 : decode cX3_property 75 = .ok (.iload_n 1, 1) := by decide +kernel
theorem dX3_property_76 : decode cX3_property 76 = .ok (.iaload, 1) := by decide +kernel
theorem dX3_property_77 : decode cX3_property 77 = .ok (.ireturn, 1) := by decide +kernel
theorem dX3_property_78 : decode cX3_property 78 = .ok (.aload_n 0, 1) := by decide +kernel
theorem dX3_property_79 : decode cX3_property 79 = .ok (.getfield 25, 3) := by decide +kernel
theorem dX3_property_82 : decode cX3_property 82 = .ok (.iload_n 1, 1) := by decide +kernel
theorem dX3_property_83 : decode cX3_property 83 = .ok (.iaload, 1) := by decide +kernel
theorem dX3_property_84 : decode cX3_property 84 = .ok (.ireturn, 1) := by decide +kernel
theorem dX3_property_85 : decode cX3_property 85 = .ok (.aload_n 0, 1) := by decide +kernel
theorem dX3_property_86 : decode cX3_property 86 = .ok (.getfield 28, 3) := by decide +kernel
theorem dX3_property_89 : decode cX3_property 89 = .ok (.iload_n 1, 1) := by decide +kernel
theorem dX3_property_90 : decode cX3_property 90 = .ok (.iaload, 1) := by decide +kernel
theorem dX3_property_91 : decode cX3_property 91 = .ok (.ireturn, 1) := by decide +kernel
theorem dX3_property_92 : decode cX3_property 92 = .ok (.aload_n 0, 1) := by decide +kernel
theorem dX3_property_93 : decode cX3_property 93 = .ok (.iload_n 1, 1) := by decide +kernel
theorem dX3_property_94 : decode cX3_property 94 = .ok (.invokevirtual 61, 3) := by decide +kernel
theorem dX3_property_97 : decode cX3_property 97 = .ok (.ireturn, 1) := by decide +kernel
theorem dX3_property_98 : decode cX3_property 98 = .ok (.aload_n 0, 1) := by decide +kernel
theorem dX3_property_99 : decode cX3_property 99 = .ok (.getfield 18, 3) := by decide +kernel
theorem dX3_property_102 : decode cX3_property 102 = .ok (.iload_n 1, 1) := by decide +kernel
theorem dX3_property_103 : decode cX3_property 103 = .ok (.iaload, 1) := by decide +kernel
theorem dX3_property_104 : decode cX3_property 104 = .ok (.aload_n 0, 1) := by decide +kernel
theorem dX3_property_105 : decode cX3_property 105 = .ok (.iload_n 1, 1) := by decide +kernel
theorem dX3_property_106 : decode cX3_property 106 = .ok (.invokevirtual 61, 3) := by decide +kernel
theorem dX3_property_109 : decode cX3_property 109 = .ok (.invokestatic 65, 3) := by decide +kernel
theorem dX3_property_112 : decode cX3_property 112 = .ok (.ireturn, 1) := by decide +kernel
theorem dX3_property_113 : decode cX3_property 113 = .ok (.aload_n 0, 1) := by decide +kernel
theorem dX3_property_114 : decode cX3_property 114 = .ok (.iload_n 1, 1) := by decide +kernel
theorem dX3_property_115 : decode cX3_property 115 = .ok (.invokevirtual 69, 3) := by decide +kernel
theorem dX3_property_118 : decode cX3_property 118 = .ok (.ireturn, 1) := by decide +kernel
theorem dX3_property_119 : decode cX3_property 119 = .ok (.aload_n 0, 1) := by decide +kernel
theorem dX3_property_120 : decode cX3_property 120 = .ok (.getfield 31, 3) := by decide +kernel
theorem dX3_property_123 : decode cX3_property 123 = .ok (.iload_n 1, 1) := by decide +kernel
theorem dX3_property_124 : decode cX3_property 124 = .ok (.iaload, 1) := by decide +kernel
theorem dX3_property_125 : decode cX3_property 125 = .ok (.ireturn, 1) := by decide +kernel
theorem dX3_property_126 : decode cX3_property 126 = .ok (.aload_n 0, 1) := by decide +kernel
theorem dX3_property_127 : decode cX3_property 127 = .ok (.iload_n 1, 1) := by decide +kernel
theorem dX3_property_128 : decode cX3_property 128 = .ok (.invokevirtual 72, 3) := by decide +kernel
theorem dX3_property_131 : decode cX3_property 131 = .ok (.ireturn, 1) := by decide +kernel
theorem dX3_property_132 : decode cX3_property 132 = .ok (.aload_n 0, 1) := by decide +kernel
theorem dX3_property_133 : decode cX3_property 133 = .ok (.iload_n 1, 1) := by decide +kernel
theorem dX3_property_134 : decode cX3_property 134 = .ok (.invokevirtual 75, 3) := by decide +kernel
theorem dX3_property_137 : decode cX3_property 137 = .ok (.ireturn, 1) := by decide +kernel
theorem dX3_property_138 : decode cX3_property 138 = .ok (.aload_n 0, 1) := by decide +kernel
theorem dX3_property_139 : decode cX3_property 139 = .ok (.iload_n 1, 1) := by decide +kernel
theorem dX3_property_140 : decode cX3_property 140 = .ok (.invokevirtual 78, 3) := by decide +kernel
theorem dX3_property_143 : decode cX3_property 143 = .ok (.ireturn, 1) := by decide +kernel
def q_X3_property (k : Nat) (S : zM) (z what : Int) : Int32 → zM → Prop := fun r S1 => r = zI (tPr (S k 0) z what) ∧ S = S1
def r_X3_property : Room := { frames := 3, cells := 0, slots := 0, locals := 71 }
set_option maxHeartbeats 4000000 in
set_option maxRecDepth 100000 in
theorem c_X3_property (l : Launch) (G : zG) (hG : zok G) (k : Nat) (hk : k < 8) (S : zM) (z what : Int) (hz : 0 ≤ z ∧ z < S k 0 4) (hwh : 0 ≤ what ∧ what ≤ 10) (hms : zMs S k) (hw : zW (S k 0))  : Met l yX3_property (Cond.code yX3_property cX3_property 3 (some FieldType.int) :: zTbl) r_X3_property (va_Pc [.ref (za G k 0), .int (zI z), .int (zI what)] (zB G S)) (va_Qi (q_X3_property k S z what) (zB G) (zA G)) 0 0 (zA G) := by
  refine zMet [(0, .ref (za G k 0)), (1, .int (zI z)), (2, .int (zI what))] hG (by decide) (Nat.le_of_ble_eq_true rfl) rfl (fun p e s m args below meth c ls h hx hb hr hH hl => ?_)
  have f4 := zW_4 hw
  have bt := tTm_in hw (show 0 ≤ z ∧ z < 8 by omega)
  refine lv_aload_n hx hb dX3_property_0 rfl (lv_at hl 0 rfl) ?_
  refine lv_iload_n hx hb dX3_property_1 rfl (lv_at hl 1 rfl) ?_
  refine zcVi h hH (zr_3 h hH hk) (As := [.int (zI z)]) (rest := []) (c_X3_hasZone l G hG k hk S z (by omega) hw) zce_X3_hasZone zcv_X3_hasZone zm_X3_57 hl.1 rfl rfl ⟨rfl, rfl⟩ ⟨Nat.le_of_ble_eq_true rfl, Nat.le_of_ble_eq_true rfl⟩ (Nat.le_of_ble_eq_true rfl) ⟨Nat.zero_le _, Nat.zero_le _⟩ dX3_property_2 (fun r_2 S_2 H locs hq hH => ?_)
  obtain ⟨b_2, rfl, hb_2, rfl⟩ := hq
  refine zb_ine (tgt := 10) h (by omega) dX3_property_5 (by decide) (fun c_5 => ?_) (fun c_5 => ?_)
  · refine lv_iload_n hx hb dX3_property_10 rfl (lv_at hl 2 rfl) ?_
    have x_11 : (zI what).toInt = what := zI_toInt (by omega) (by omega)
    by_cases e_11_0 : what = 0
    · refine lv_tableIn (tgt := 64) hx hb dX3_property_11 (by omega) (by omega) (show _ = some (53 : Int) by rw [x_11, e_11_0]; rfl) (by decide) ?_
      refine lv_aload_n hx hb dX3_property_64 rfl (lv_at hl 0 rfl) ?_
      refine zg_3_1 h hH hk zf_X3_18 dX3_property_65 ?_
      refine lv_iload_n hx hb dX3_property_68 rfl (lv_at hl 1 rfl) ?_
      refine zld_ar_de h hH hk (by omega) dX3_property_69 ?_
      have f_69 := zW_de hw (show 0 ≤ z ∧ z < 8 by omega)
      refine zri h hr hH ?_ dX3_property_70
      exact ⟨congrArg zI (by unfold tPr; simp only [e_11_0]; rfl), rfl⟩
    by_cases e_11_1 : what = 1
    · refine lv_tableIn (tgt := 71) hx hb dX3_property_11 (by omega) (by omega) (show _ = some (60 : Int) by rw [x_11, e_11_1]; rfl) (by decide) ?_
      refine lv_aload_n hx hb dX3_property_71 rfl (lv_at hl 0 rfl) ?_
      refine zg_3_2 h hH hk zf_X3_22 dX3_property_72 ?_
      refine lv_iload_n hx hb dX3_property_75 rfl (lv_at hl 1 rfl) ?_
      refine zld_ar_wa h hH hk (by omega) dX3_property_76 ?_
      have f_76 := zW_wa hw (show 0 ≤ z ∧ z < 8 by omega)
      refine zri h hr hH ?_ dX3_property_77
      exact ⟨congrArg zI (by unfold tPr; simp only [e_11_1]; rfl), rfl⟩
    by_cases e_11_2 : what = 2
    · refine lv_tableIn (tgt := 78) hx hb dX3_property_11 (by omega) (by omega) (show _ = some (67 : Int) by rw [x_11, e_11_2]; rfl) (by decide) ?_
      refine lv_aload_n hx hb dX3_property_78 rfl (lv_at hl 0 rfl) ?_
      refine zg_3_3 h hH hk zf_X3_25 dX3_property_79 ?_
      refine lv_iload_n hx hb dX3_property_82 rfl (lv_at hl 1 rfl) ?_
      refine zld_ar_bu h hH hk (by omega) dX3_property_83 ?_
      have f_83 := zW_bu hw (show 0 ≤ z ∧ z < 8 by omega)
      refine zri h hr hH ?_ dX3_property_84
      exact ⟨congrArg zI (by unfold tPr; simp only [e_11_2]; rfl), rfl⟩
    by_cases e_11_3 : what = 3
    · refine lv_tableIn (tgt := 85) hx hb dX3_property_11 (by omega) (by omega) (show _ = some (74 : Int) by rw [x_11, e_11_3]; rfl) (by decide) ?_
      refine lv_aload_n hx hb dX3_property_85 rfl (lv_at hl 0 rfl) ?_
      refine zg_3_4 h hH hk zf_X3_28 dX3_property_86 ?_
      refine lv_iload_n hx hb dX3_property_89 rfl (lv_at hl 1 rfl) ?_
      refine zld_ar_ho h hH hk (by omega) dX3_property_90 ?_
      have f_90 := zW_ho hw (show 0 ≤ z ∧ z < 8 by omega)
      refine zri h hr hH ?_ dX3_property_91
      exact ⟨congrArg zI (by unfold tPr; simp only [e_11_3]; rfl), rfl⟩
    by_cases e_11_4 : what = 4
    · refine lv_tableIn (tgt := 92) hx hb dX3_property_11 (by omega) (by omega) (show _ = some (81 : Int) by rw [x_11, e_11_4]; rfl) (by decide) ?_
      refine lv_aload_n hx hb dX3_property_92 rfl (lv_at hl 0 rfl) ?_
      refine lv_iload_n hx hb dX3_property_93 rfl (lv_at hl 1 rfl) ?_
      refine zcVi h hH (zr_3 h hH hk) (As := [.int (zI z)]) (rest := []) (c_X3_timeOf l G hG k hk S z (by omega) hw) zce_X3_timeOf zcv_X3_timeOf zm_X3_61 hl.1 rfl rfl ⟨rfl, rfl⟩ ⟨Nat.le_of_ble_eq_true rfl, Nat.le_of_ble_eq_true rfl⟩ (Nat.le_of_ble_eq_true rfl) ⟨Nat.zero_le _, Nat.zero_le _⟩ dX3_property_94 (fun r_94 S_94 H locs hq hH => ?_)
      obtain ⟨rfl, rfl⟩ := hq
      refine zri h hr hH ?_ dX3_property_97
      exact ⟨congrArg zI (by unfold tPr; simp only [e_11_4]; rfl), rfl⟩
    by_cases e_11_5 : what = 5
    · refine lv_tableIn (tgt := 98) hx hb dX3_property_11 (by omega) (by omega) (show _ = some (87 : Int) by rw [x_11, e_11_5]; rfl) (by decide) ?_
      refine lv_aload_n hx hb dX3_property_98 rfl (lv_at hl 0 rfl) ?_
      refine zg_3_1 h hH hk zf_X3_18 dX3_property_99 ?_
      refine lv_iload_n hx hb dX3_property_102 rfl (lv_at hl 1 rfl) ?_
      refine zld_ar_de h hH hk (by omega) dX3_property_103 ?_
      have f_103 := zW_de hw (show 0 ≤ z ∧ z < 8 by omega)
      refine lv_aload_n hx hb dX3_property_104 rfl (lv_at hl 0 rfl) ?_
      refine lv_iload_n hx hb dX3_property_105 rfl (lv_at hl 1 rfl) ?_
      refine zcVi h hH (zr_3 h hH hk) (As := [.int (zI z)]) (rest := [.int (zI (S k 0 (5 + 5 * z)))]) (c_X3_timeOf l G hG k hk S z (by omega) hw) zce_X3_timeOf zcv_X3_timeOf zm_X3_61 hl.1 rfl rfl ⟨rfl, rfl⟩ ⟨Nat.le_of_ble_eq_true rfl, Nat.le_of_ble_eq_true rfl⟩ (Nat.le_of_ble_eq_true rfl) ⟨Nat.zero_le _, Nat.zero_le _⟩ dX3_property_106 (fun r_106 S_106 H locs hq hH => ?_)
      obtain ⟨rfl, rfl⟩ := hq
      refine zcSi h hH (As := [.int (zI (S k 0 (5 + 5 * z))), .int (zI (tTm (S k 0) z))]) (rest := []) (c_X2_lightThrough l G hG S (S k 0 (5 + 5 * z)) (tTm (S k 0) z) (by omega) (by omega)) zce_X2_lightThrough zt_X2_lightThrough zm_X3_65 hl.1 rfl rfl ⟨rfl, rfl⟩ ⟨Nat.le_of_ble_eq_true rfl, Nat.le_of_ble_eq_true rfl⟩ (Nat.le_of_ble_eq_true rfl) ⟨Nat.zero_le _, Nat.zero_le _⟩ dX3_property_109 (fun r_109 S_109 H locs hq hH => ?_)
      obtain ⟨rfl, rfl⟩ := hq
      refine zri h hr hH ?_ dX3_property_112
      exact ⟨congrArg zI (by unfold tPr; simp only [e_11_5]; rfl), rfl⟩
    by_cases e_11_6 : what = 6
    · refine lv_tableIn (tgt := 113) hx hb dX3_property_11 (by omega) (by omega) (show _ = some (102 : Int) by rw [x_11, e_11_6]; rfl) (by decide) ?_
      refine lv_aload_n hx hb dX3_property_113 rfl (lv_at hl 0 rfl) ?_
      refine lv_iload_n hx hb dX3_property_114 rfl (lv_at hl 1 rfl) ?_
      refine zcVi h hH (zr_3 h hH hk) (As := [.int (zI z)]) (rest := []) (c_X3_toneOf l G hG k hk S z (by omega) hms hw) zce_X3_toneOf zcv_X3_toneOf zm_X3_69 hl.1 rfl rfl ⟨rfl, rfl⟩ ⟨Nat.le_of_ble_eq_true rfl, Nat.le_of_ble_eq_true rfl⟩ (Nat.le_of_ble_eq_true rfl) ⟨Nat.zero_le _, Nat.zero_le _⟩ dX3_property_115 (fun r_115 S_115 H locs hq hH => ?_)
      obtain ⟨rfl, rfl⟩ := hq
      refine zri h hr hH ?_ dX3_property_118
      exact ⟨congrArg zI (by unfold tPr; simp only [e_11_6]; rfl), rfl⟩
    by_cases e_11_7 : what = 7
    · refine lv_tableIn (tgt := 119) hx hb dX3_property_11 (by omega) (by omega) (show _ = some (108 : Int) by rw [x_11, e_11_7]; rfl) (by decide) ?_
      refine lv_aload_n hx hb dX3_property_119 rfl (lv_at hl 0 rfl) ?_
      refine zg_3_5 h hH hk zf_X3_31 dX3_property_120 ?_
      refine lv_iload_n hx hb dX3_property_123 rfl (lv_at hl 1 rfl) ?_
      refine zld_ar_nb h hH hk (by omega) dX3_property_124 ?_
      have f_124 := zW_nb hw (show 0 ≤ z ∧ z < 8 by omega)
      refine zri h hr hH ?_ dX3_property_125
      exact ⟨congrArg zI (by unfold tPr; simp only [e_11_7]; rfl), rfl⟩
    by_cases e_11_8 : what = 8
    · refine lv_tableIn (tgt := 126) hx hb dX3_property_11 (by omega) (by omega) (show _ = some (115 : Int) by rw [x_11, e_11_8]; rfl) (by decide) ?_
      refine lv_aload_n hx hb dX3_property_126 rfl (lv_at hl 0 rfl) ?_
      refine lv_iload_n hx hb dX3_property_127 rfl (lv_at hl 1 rfl) ?_
      refine zcVi h hH (zr_3 h hH hk) (As := [.int (zI z)]) (rest := []) (c_X3_leastNeed l G hG k hk S z (by omega) hms hw) zce_X3_leastNeed zcv_X3_leastNeed zm_X3_72 hl.1 rfl rfl ⟨rfl, rfl⟩ ⟨Nat.le_of_ble_eq_true rfl, Nat.le_of_ble_eq_true rfl⟩ (Nat.le_of_ble_eq_true rfl) ⟨Nat.zero_le _, Nat.zero_le _⟩ dX3_property_128 (fun r_128 S_128 H locs hq hH => ?_)
      obtain ⟨rfl, rfl⟩ := hq
      refine zri h hr hH ?_ dX3_property_131
      exact ⟨congrArg zI (by unfold tPr; simp only [e_11_8]; rfl), rfl⟩
    by_cases e_11_9 : what = 9
    · refine lv_tableIn (tgt := 132) hx hb dX3_property_11 (by omega) (by omega) (show _ = some (121 : Int) by rw [x_11, e_11_9]; rfl) (by decide) ?_
      refine lv_aload_n hx hb dX3_property_132 rfl (lv_at hl 0 rfl) ?_
      refine lv_iload_n hx hb dX3_property_133 rfl (lv_at hl 1 rfl) ?_
      refine zcVi h hH (zr_3 h hH hk) (As := [.int (zI z)]) (rest := []) (c_X3_greatestNeed l G hG k hk S z (by omega) hms hw) zce_X3_greatestNeed zcv_X3_greatestNeed zm_X3_75 hl.1 rfl rfl ⟨rfl, rfl⟩ ⟨Nat.le_of_ble_eq_true rfl, Nat.le_of_ble_eq_true rfl⟩ (Nat.le_of_ble_eq_true rfl) ⟨Nat.zero_le _, Nat.zero_le _⟩ dX3_property_134 (fun r_134 S_134 H locs hq hH => ?_)
      obtain ⟨rfl, rfl⟩ := hq
      refine zri h hr hH ?_ dX3_property_137
      exact ⟨congrArg zI (by unfold tPr; simp only [e_11_9]; rfl), rfl⟩
    refine lv_tableOut (tgt := 138) hx hb dX3_property_11 (by omega) (by decide) ?_
    refine lv_aload_n hx hb dX3_property_138 rfl (lv_at hl 0 rfl) ?_
    refine lv_iload_n hx hb dX3_property_139 rfl (lv_at hl 1 rfl) ?_
    refine zcVi h hH (zr_3 h hH hk) (As := [.int (zI z)]) (rest := []) (c_X3_spillOnto l G hG k hk S z (by omega) hw) zce_X3_spillOnto zcv_X3_spillOnto zm_X3_78 hl.1 rfl rfl ⟨rfl, rfl⟩ ⟨Nat.le_of_ble_eq_true rfl, Nat.le_of_ble_eq_true rfl⟩ (Nat.le_of_ble_eq_true rfl) ⟨Nat.zero_le _, Nat.zero_le _⟩ dX3_property_140 (fun r_140 S_140 H locs hq hH => ?_)
    obtain ⟨rfl, rfl⟩ := hq
    refine zri h hr hH ?_ dX3_property_143
    exact ⟨congrArg zI (by unfold tPr; rw [if_neg (by omega), if_neg (by omega), if_neg (by omega), if_neg (by omega), if_neg (by omega), if_neg (by omega), if_neg (by omega), if_neg (by omega), if_neg (by omega), if_neg (by omega)]), rfl⟩
  · exact absurd c_5 (by omega)
theorem dX3_areNeighbours_0 : decode cX3_areNeighbours 0 = .ok (.aload_n 0, 1) := by decide +kernel
theorem dX3_areNeighbours_1 : decode cX3_areNeighbours 1 = .ok (.iload_n 1, 1) := by decide +kernel
theorem dX3_areNeighbours_2 : decode cX3_areNeighbours 2 = .ok (.invokevirtual 57, 3) := by decide +kernel
theorem dX3_areNeighbours_5 : decode cX3_areNeighbours 5 = .ok (.ifCond .eq 21, 3) := by decide +kernel
theorem dX3_areNeighbours_8 : decode cX3_areNeighbours 8 = .ok (.aload_n 0, 1) := by decide +kernel
theorem dX3_areNeighbours_9 : decode cX3_areNeighbours 9 = .ok (.getfield 31, 3) := by decide +kernel
theorem dX3_areNeighbours_12 : decode cX3_areNeighbours 12 = .ok (.iload_n 1, 1) := by decide +kernel
theorem dX3_areNeighbours_13 : decode cX3_areNeighbours 13 = .ok (.iaload, 1) := by decide +kernel
theorem dX3_areNeighbours_14 : decode cX3_areNeighbours 14 = .ok (.iload_n 2, 1) := by decide +kernel
theorem dX3_areNeighbours_15 : decode cX3_areNeighbours 15 = .ok (.ishr, 1) := by decide +kernel
theorem dX3_areNeighbours_16 : decode cX3_areNeighbours 16 = .ok (.iconst 1, 1) := by decide +kernel
theorem dX3_areNeighbours_17 : decode cX3_areNeighbours 17 = .ok (.iand, 1) := by decide +kernel
theorem dX3_areNeighbours_18 : decode cX3_areNeighbours 18 = .ok (.iconst 1, 1) := by decide +kernel
theorem dX3_areNeighbours_19 : decode cX3_areNeighbours 19 = .ok (.if_icmp .ne 7, 3) := by decide +kernel
theorem dX3_areNeighbours_22 : decode cX3_areNeighbours 22 = .ok (.iconst 1, 1) := by decide +kernel
theorem dX3_areNeighbours_23 : decode cX3_areNeighbours 23 = .ok (.goto 4, 3) := by decide +kernel
theorem dX3_areNeighbours_26 : decode cX3_areNeighbours 26 = .ok (.iconst 0, 1) := by decide +kernel
theorem dX3_areNeighbours_27 : decode cX3_areNeighbours 27 = .ok (.ireturn, 1) := by decide +kernel
def q_X3_areNeighbours (k : Nat) (S : zM) (a b : Int) : Int32 → zM → Prop := fun r S1 => ∃ bb : Int, r = zI bb ∧ (bb = 1 ∧ (S k 0 (5 + 5 * a + 4) / 2 ^ b.toNat % 2 = 1) ∨ bb = 0 ∧ ¬ (S k 0 (5 + 5 * a + 4) / 2 ^ b.toNat % 2 = 1)) ∧ S = S1
def r_X3_areNeighbours : Room := { frames := 1, cells := 0, slots := 0, locals := 21 }
set_option maxHeartbeats 4000000 in
set_option maxRecDepth 100000 in
theorem c_X3_areNeighbours (l : Launch) (G : zG) (hG : zok G) (k : Nat) (hk : k < 8) (S : zM) (a b : Int) (ha : 0 ≤ a ∧ a < S k 0 4) (hb2 : 0 ≤ b ∧ b < 8) (hw : zW (S k 0)) : Met l yX3_areNeighbours (Cond.code yX3_areNeighbours cX3_areNeighbours 3 (some FieldType.boolean) :: zTbl) r_X3_areNeighbours (va_Pc [.ref (za G k 0), .int (zI a), .int (zI b)] (zB G S)) (va_Qi (q_X3_areNeighbours k S a b) (zB G) (zA G)) 0 0 (zA G) := by
  refine zMet [(0, .ref (za G k 0)), (1, .int (zI a)), (2, .int (zI b))] hG (by decide) (Nat.le_of_ble_eq_true rfl) rfl (fun p e s m args below meth c ls h hx hb hr hH hl => ?_)
  have f4 := zW_4 hw
  refine lv_aload_n hx hb dX3_areNeighbours_0 rfl (lv_at hl 0 rfl) ?_
  refine lv_iload_n hx hb dX3_areNeighbours_1 rfl (lv_at hl 1 rfl) ?_
  refine zcVi h hH (zr_3 h hH hk) (As := [.int (zI a)]) (rest := []) (c_X3_hasZone l G hG k hk S a (by omega) hw) zce_X3_hasZone zcv_X3_hasZone zm_X3_57 hl.1 rfl rfl ⟨rfl, rfl⟩ ⟨Nat.le_of_ble_eq_true rfl, Nat.le_of_ble_eq_true rfl⟩ (Nat.le_of_ble_eq_true rfl) ⟨Nat.zero_le _, Nat.zero_le _⟩ dX3_areNeighbours_2 (fun r_2 S_2 H locs hq hH => ?_)
  obtain ⟨b_2, rfl, hb_2, rfl⟩ := hq
  refine zb_ieq (tgt := 26) h (by omega) dX3_areNeighbours_5 (by decide) (fun c_5 => ?_) (fun c_5 => ?_)
  · exact absurd c_5 (by omega)
  · refine lv_aload_n hx hb dX3_areNeighbours_8 rfl (lv_at hl 0 rfl) ?_
    refine zg_3_5 h hH hk zf_X3_31 dX3_areNeighbours_9 ?_
    refine lv_iload_n hx hb dX3_areNeighbours_12 rfl (lv_at hl 1 rfl) ?_
    refine zld_ar_nb h hH hk (by omega) dX3_areNeighbours_13 ?_
    have f_13 := zW_nb hw (show 0 ≤ a ∧ a < 8 by omega)
    refine lv_iload_n hx hb dX3_areNeighbours_14 rfl (lv_at hl 2 rfl) ?_
    refine zb_ishr h (by omega) (by omega) dX3_areNeighbours_15 ?_
    refine zb_ic h dX3_areNeighbours_16 ?_
    have b_17 := zdiv_le f_13.1 (zpow_pos b.toNat)
    refine zb_and1 h (by omega) dX3_areNeighbours_17 ?_
    refine zb_ic h dX3_areNeighbours_18 ?_
    refine zb_cne (tgt := 26) h (by omega) (by omega) dX3_areNeighbours_19 (by decide) (fun c_19 => ?_) (fun c_19 => ?_)
    · refine zb_ic h dX3_areNeighbours_26 ?_
      refine zrz h hr hH (by omega) ?_ dX3_areNeighbours_27
      exact ⟨_, rfl, by omega, rfl⟩
    · refine zb_ic h dX3_areNeighbours_22 ?_
      refine lv_goto (tgt := 27) hx hb dX3_areNeighbours_23 (by decide) ?_
      refine zrz h hr hH (by omega) ?_ dX3_areNeighbours_27
      exact ⟨_, rfl, by omega, rfl⟩
end
section
theorem zs_row {S : zM} {k j : Nat} {i v : Int} : zs S k j i v k j = fun i' => if i' = i then v else S k j i' := funext (zs_at S k j i v)
/-! memory: a row changed; a print's three rows put -/
def zup (σ : Int → Int) (i v : Int) : Int → Int := fun x => if x = i then v else σ x
theorem zup_s (σ : Int → Int) (i v : Int) : zup σ i v i = v := if_pos rfl
theorem zup_n {σ : Int → Int} {i v x : Int} (h : x ≠ i) : zup σ i v x = σ x := if_neg h
def zrow (S : zM) (k j : Nat) (r : Int → Int) : zM := fun k' j' => if k' = k ∧ j' = j then r else S k' j'
theorem zrow_s (S : zM) (k j : Nat) (r : Int → Int) : zrow S k j r k j = r := if_pos ⟨rfl, rfl⟩
theorem zrow_n {S : zM} {k j k' j' : Nat} {r : Int → Int} (h : ¬ (k' = k ∧ j' = j)) : zrow S k j r k' j' = S k' j' := if_neg h
theorem zrow_id (S : zM) (k j : Nat) : zrow S k j (S k j) = S := by
  funext k' j'
  by_cases h : k' = k ∧ j' = j
  · obtain ⟨rfl, rfl⟩ := h; exact zrow_s S k' j' (S k' j')
  · exact zrow_n h
theorem zs_zrow (S : zM) (k j : Nat) (i v : Int) : zs S k j i v = zrow S k j (zup (S k j) i v) := by
  funext k' j'
  by_cases h : k' = k ∧ j' = j
  · obtain ⟨rfl, rfl⟩ := h; rw [zrow_s, zs_row]; rfl
  · rw [zrow_n h, zs_ne h]
theorem zrow_zrow (S : zM) (k j : Nat) (r r' : Int → Int) : zrow (zrow S k j r) k j r' = zrow S k j r' := by
  funext k' j'
  by_cases h : k' = k ∧ j' = j
  · obtain ⟨rfl, rfl⟩ := h; rw [zrow_s, zrow_s]
  · rw [zrow_n h, zrow_n h, zrow_n h]
theorem zs_zrow2 (S : zM) (k j : Nat) (r : Int → Int) (i v : Int) : zs (zrow S k j r) k j i v = zrow S k j (zup r i v) := by
  rw [zs_zrow, zrow_s, zrow_zrow]
/-- print k: its numbers, its marks, its sorted needs -/
def zPut (S : zM) (k : Nat) (σ M q : Int → Int) : zM := fun k' j' => if k' = k ∧ j' = 0 then σ else if k' = k ∧ j' = 2 then M else if k' = k ∧ j' = 8 then q else S k' j'
theorem zP_0 (S : zM) (k : Nat) (σ M q : Int → Int) : zPut S k σ M q k 0 = σ := if_pos ⟨rfl, rfl⟩
theorem zP_2 (S : zM) (k : Nat) (σ M q : Int → Int) : zPut S k σ M q k 2 = M := by unfold zPut; rw [if_neg (by omega), if_pos ⟨rfl, rfl⟩]
theorem zP_8 (S : zM) (k : Nat) (σ M q : Int → Int) : zPut S k σ M q k 8 = q := by unfold zPut; rw [if_neg (by omega), if_neg (by omega), if_pos ⟨rfl, rfl⟩]
theorem zP_n {S : zM} {k : Nat} {σ M q : Int → Int} {k' : Nat} (h : k' ≠ k) : zPut S k σ M q k' = S k' := by
  funext j'; unfold zPut; rw [if_neg (by omega), if_neg (by omega), if_neg (by omega)]
theorem zP_j {S : zM} {k : Nat} {σ M q : Int → Int} {j : Nat} (h : j ≠ 0 ∧ j ≠ 2 ∧ j ≠ 8) : zPut S k σ M q k j = S k j := by
  unfold zPut; rw [if_neg (by omega), if_neg (by omega), if_neg (by omega)]
theorem zP_id (S : zM) (k : Nat) : zPut S k (S k 0) (S k 2) (S k 8) = S := by
  funext k' j'
  by_cases h : k' = k
  · subst h
    by_cases h0 : j' = 0
    · subst h0; rw [zP_0]
    · by_cases h2 : j' = 2
      · subst h2; rw [zP_2]
      · by_cases h8 : j' = 8
        · subst h8; rw [zP_8]
        · rw [zP_j ⟨h0, h2, h8⟩]
  · rw [zP_n h]
theorem zs_P0 (S : zM) (k : Nat) (σ M q : Int → Int) (i v : Int) : zs (zPut S k σ M q) k 0 i v = zPut S k (zup σ i v) M q := by
  funext k' j'
  by_cases h : k' = k ∧ j' = 0
  · obtain ⟨rfl, rfl⟩ := h; rw [zs_row, zP_0, zP_0]; rfl
  · rw [zs_ne h]; unfold zPut; rw [if_neg h, if_neg h]
theorem zs_P2 (S : zM) (k : Nat) (σ M q : Int → Int) (i v : Int) : zs (zPut S k σ M q) k 2 i v = zPut S k σ (zup M i v) q := by
  funext k' j'
  by_cases h : k' = k ∧ j' = 2
  · obtain ⟨rfl, rfl⟩ := h; rw [zs_row, zP_2, zP_2]; rfl
  · rw [zs_ne h]; unfold zPut; rw [if_neg h, if_neg h]
theorem zs_P8 (S : zM) (k : Nat) (σ M q : Int → Int) (i v : Int) : zs (zPut S k σ M q) k 8 i v = zPut S k σ M (zup q i v) := by
  funext k' j'
  by_cases h : k' = k ∧ j' = 8
  · obtain ⟨rfl, rfl⟩ := h; rw [zs_row, zP_8, zP_8]; rfl
  · rw [zs_ne h]; unfold zPut; rw [if_neg h, if_neg h]
theorem zP_P (S : zM) (k : Nat) (σ M q σ' M' q' : Int → Int) : zPut (zPut S k σ M q) k σ' M' q' = zPut S k σ' M' q' := by
  funext k' j'
  by_cases h : k' = k
  · subst h
    by_cases h0 : j' = 0
    · subst h0; rw [zP_0, zP_0]
    · by_cases h2 : j' = 2
      · subst h2; rw [zP_2, zP_2]
      · by_cases h8 : j' = 8
        · subst h8; rw [zP_8, zP_8]
        · rw [zP_j ⟨h0, h2, h8⟩, zP_j ⟨h0, h2, h8⟩, zP_j ⟨h0, h2, h8⟩]
  · rw [zP_n h, zP_n h, zP_n h]
theorem zP_hw {S : zM} {k : Nat} {σ M q : Int → Int} (h : zW σ) : zW (zPut S k σ M q k 0) := by rw [zP_0]; exact h
theorem zP_ms {S : zM} {k : Nat} {σ M q : Int → Int} (h : ∀ j : Int, 0 ≤ j → j < 10 → M j = zMk (σ 1) (σ 2) j) : zMs (zPut S k σ M q) k := by
  intro j h1 h2; rw [zP_0, zP_2]; exact h j h1 h2
/-! the same world: numbers outside the rows' lengths aren't there -/
def zlen (k j : Nat) : Int := if k < 8 then (if j = 0 then 45 else if j = 2 then 10 else if j = 8 then 8 else 0) else if k = 8 then (if j = 0 then 6 else if j = 1 then 3 else if j = 3 then 4 else if j = 4 then 60 else if j = 5 then 1 else 0) else (if j = 0 then 15 else if j = 1 then 45 else if j = 2 then 45 else if j = 3 then 270 else if j = 4 then 60 else if j = 5 then 10 else 8)
def zeqv (S S' : zM) : Prop := ∀ (k j : Nat) (x : Int), k < 10 → 0 ≤ x → x < zlen k j → S k j x = S' k j x
theorem zat_arr {D : va_G} {cl : List vw_C} {a : Nat} {cI : ClassId} {n : Nat} {f g : Nat → Int32} {H : Heap} (h : ∀ i, i < n → f i = g i) (h1 : va_at D cl (a, .inl (cI, n, .inl f)) H) : va_at D cl (a, .inl (cI, n, .inl g)) H := by
  have e : (fun j : Fin n => Value.int (f j.val)) = fun j : Fin n => Value.int (g j.val) := funext fun j => by rw [h j.val j.isLt]
  have e2 : vp_cell cI (n, .inl f) = vp_cell cI (n, .inl g) := by
    rw [vp_cell_i, vp_cell_i]; unfold arrV; rw [e]
  show H[a]? = some (vp_cell cI (n, .inl g))
  rw [← e2]
  exact h1
theorem zat_arrL {D : va_G} {cl : List vw_C} {a : Nat} {cI : ClassId} {n : Nat} {f g : Nat → Int64} {H : Heap} (h : ∀ i, i < n → f i = g i) (h1 : va_at D cl (a, .inl (cI, n, .inr (.inl f))) H) : va_at D cl (a, .inl (cI, n, .inr (.inl g))) H := by
  have e : (fun j : Fin n => Value.long (f j.val)) = fun j : Fin n => Value.long (g j.val) := funext fun j => by rw [h j.val j.isLt]
  have e2 : vp_cell cI (n, .inr (.inl f)) = vp_cell cI (n, .inr (.inl g)) := by
    rw [vp_cell_l, vp_cell_l]; unfold arrV; rw [e]
  show H[a]? = some (vp_cell cI (n, .inr (.inl g)))
  rw [← e2]
  exact h1
theorem zP_congr {G : zG} {S S' : zM} {H : Heap} (h : ∀ (k j a : Nat), zin k j → va_at (zD G) vwCl (a, ze G k j (S k)) H → va_at (zD G) vwCl (a, ze G k j (S' k)) H) (hP : va_P (zD G) vwCl (zw G S) H) : va_P (zD G) vwCl (zw G S') H := by
  intro n q hq
  unfold zw at hq
  rw [List.getElem?_map] at hq
  cases hx : zix[n]? with
  | none => rw [hx] at hq; cases hq
  | some x =>
    rw [hx] at hq
    cases hq
    refine h _ _ _ (zix_in0 _ (List.mem_of_getElem? hx)) (hP n _ ?_)
    unfold zw
    rw [List.getElem?_map, hx]
    rfl
theorem zH_eqv {G : zG} {S S' : zM} {s : State} {H : Heap} {locs : List Loc} (hE : zeqv S S') (hH : zH G S s H locs) : zH G S' s H locs := by
  refine ⟨zP_congr (fun k j a hin hat => ?_) hH.1, hH.2⟩
  have hv : ∀ (j' : Nat) (x : Int), 0 ≤ x → x < zlen k j' → S k j' x = S' k j' x := fun j' x h1 h2 => hE k j' x (by omega) h1 h2
  by_cases hk : k < 8
  · have h0 : ∀ x : Int, 0 ≤ x → x < 45 → S k 0 x = S' k 0 x := fun x h1 h2 => hv 0 x h1 (by unfold zlen; rw [if_pos hk]; simpa using h2)
    have h2 : ∀ x : Int, 0 ≤ x → x < 10 → S k 2 x = S' k 2 x := fun x h1 h2 => hv 2 x h1 (by unfold zlen; rw [if_pos hk]; simpa using h2)
    have h8 : ∀ x : Int, 0 ≤ x → x < 8 → S k 8 x = S' k 8 x := fun x h1 h2 => hv 8 x h1 (by unfold zlen; rw [if_pos hk]; simpa using h2)
    rw [ze_pr hk] at hat ⊢
    rcases (show j = 0 ∨ j = 1 ∨ j = 2 ∨ j = 3 ∨ j = 4 ∨ j = 5 ∨ j = 6 ∨ j = 7 ∨ j = 8 by omega) with rfl | rfl | rfl | rfl | rfl | rfl | rfl | rfl | rfl
    · simp only [zpr] at hat ⊢
      rw [← h0 4 (by omega) (by omega), ← h0 0 (by omega) (by omega), ← h0 3 (by omega) (by omega)]; exact hat
    · simp only [zpr] at hat ⊢
      rw [← h0 1 (by omega) (by omega), ← h0 2 (by omega) (by omega)]; exact hat
    · exact zat_arr (fun i hi => by rw [h2 i (by omega) (by omega)]) hat
    · exact zat_arr (fun i hi => by rw [h0 (5 + 5 * (i : Int)) (by omega) (by omega)]) hat
    · exact zat_arr (fun i hi => by rw [h0 (5 + 5 * (i : Int) + 1) (by omega) (by omega)]) hat
    · exact zat_arr (fun i hi => by rw [h0 (5 + 5 * (i : Int) + 2) (by omega) (by omega)]) hat
    · exact zat_arr (fun i hi => by rw [h0 (5 + 5 * (i : Int) + 3) (by omega) (by omega)]) hat
    · exact zat_arr (fun i hi => by rw [h0 (5 + 5 * (i : Int) + 4) (by omega) (by omega)]) hat
    · exact zat_arr (fun i hi => by rw [h8 i (by omega) (by omega)]) hat
  · rcases (show k = 8 ∨ k = 9 by omega) with rfl | rfl
    · rw [ze_cl] at hat ⊢
      rcases (show j = 0 ∨ j = 1 ∨ j = 2 ∨ j = 3 ∨ j = 4 ∨ j = 5 by omega) with rfl | rfl | rfl | rfl | rfl | rfl
      · simp only [zcl] at hat ⊢
        rw [← hv 0 5 (by omega) (by decide)]; exact hat
      · simp only [zcl] at hat ⊢
        rw [← hv 1 1 (by omega) (by decide), ← hv 1 2 (by omega) (by decide)]; exact hat
      · exact hat
      · simp only [zcl] at hat ⊢
        rw [← hv 3 0 (by omega) (by decide), ← hv 3 1 (by omega) (by decide), ← hv 3 2 (by omega) (by decide), ← hv 3 3 (by omega) (by decide)]; exact hat
      · exact zat_arr (fun i hi => by rw [hv 4 i (by omega) (show (i : Int) < 60 by omega)]) hat
      · exact zat_arrL (fun i hi => by rw [hv 5 i (by omega) (show (i : Int) < 1 by omega)]) hat
    · rw [ze_mo] at hat ⊢
      rcases (show j = 0 ∨ j = 1 ∨ j = 2 ∨ j = 3 ∨ j = 4 ∨ j = 5 ∨ j = 6 by omega) with rfl | rfl | rfl | rfl | rfl | rfl | rfl
      · simp only [zmo] at hat ⊢
        rw [← hv 0 0 (by omega) (by decide), ← hv 0 4 (by omega) (by decide), ← hv 0 6 (by omega) (by decide), ← hv 0 9 (by omega) (by decide), ← hv 0 10 (by omega) (by decide), ← hv 0 11 (by omega) (by decide), ← hv 0 12 (by omega) (by decide), ← hv 0 13 (by omega) (by decide), ← hv 0 14 (by omega) (by decide)]; exact hat
      · exact zat_arr (fun i hi => by rw [hv 1 i (by omega) (show (i : Int) < 45 by omega)]) hat
      · exact zat_arr (fun i hi => by rw [hv 2 i (by omega) (show (i : Int) < 45 by omega)]) hat
      · exact zat_arr (fun i hi => by rw [hv 3 i (by omega) (show (i : Int) < 270 by omega)]) hat
      · exact zat_arr (fun i hi => by rw [hv 4 i (by omega) (show (i : Int) < 60 by omega)]) hat
      · exact zat_arr (fun i hi => by rw [hv 5 i (by omega) (show (i : Int) < 10 by omega)]) hat
      · exact zat_arr (fun i hi => by rw [hv 6 i (by omega) (show (i : Int) < 8 by omega)]) hat
/-- a print put over again where its numbers are the same -/
theorem zH_put {G : zG} {S : zM} {k : Nat} {σ M q σ' M' q' : Int → Int} {s : State} {H : Heap} {locs : List Loc} (hk : k < 8) (h0 : ∀ x : Int, 0 ≤ x → x < 45 → σ x = σ' x) (h2 : ∀ x : Int, 0 ≤ x → x < 10 → M x = M' x) (h8 : ∀ x : Int, 0 ≤ x → x < 8 → q x = q' x) (hH : zH G (zPut S k σ M q) s H locs) : zH G (zPut S k σ' M' q') s H locs := by
  refine zH_eqv (fun k' j' x hk' hx1 hx2 => ?_) hH
  by_cases e : k' = k
  · subst e
    unfold zlen at hx2
    rw [if_pos hk] at hx2
    by_cases e0 : j' = 0
    · subst e0; rw [zP_0, zP_0]; exact h0 x hx1 (by simpa using hx2)
    · by_cases e2 : j' = 2
      · subst e2; rw [zP_2, zP_2]; exact h2 x hx1 (by simpa using hx2)
      · by_cases e8 : j' = 8
        · subst e8; rw [zP_8, zP_8]; exact h8 x hx1 (by simpa using hx2)
        · rw [if_neg e0, if_neg e2, if_neg e8] at hx2; omega
  · rw [zP_n e, zP_n e]
end
section
theorem zcp5 {σ τ : Int → Int} {i : Int} (h : ∀ x : Int, (x = 1 ∨ x = 2 ∨ 5 ≤ x ∧ x < 5 + 5 * i) → σ x = τ x) : ∀ x : Int, (x = 1 ∨ x = 2 ∨ 5 ≤ x ∧ x < 5 + 5 * (i + 1)) → zup (zup (zup (zup (zup σ (5 + 5 * i) (τ (5 + 5 * i))) (5 + 5 * i + 1) (τ (5 + 5 * i + 1))) (5 + 5 * i + 2) (τ (5 + 5 * i + 2))) (5 + 5 * i + 3) (τ (5 + 5 * i + 3))) (5 + 5 * i + 4) (τ (5 + 5 * i + 4)) x = τ x := by
  intro x hx
  unfold zup
  by_cases e4 : x = 5 + 5 * i + 4
  · rw [if_pos e4, e4]
  · rw [if_neg e4]
    by_cases e3 : x = 5 + 5 * i + 3
    · rw [if_pos e3, e3]
    · rw [if_neg e3]
      by_cases e2 : x = 5 + 5 * i + 2
      · rw [if_pos e2, e2]
      · rw [if_neg e2]
        by_cases e1 : x = 5 + 5 * i + 1
        · rw [if_pos e1, e1]
        · rw [if_neg e1]
          by_cases e0 : x = 5 + 5 * i
          · rw [if_pos e0, e0]
          · rw [if_neg e0]; exact h x (by omega)
theorem zcp3 {σ τ : Int → Int} (h : ∀ x : Int, (x = 1 ∨ x = 2 ∨ 5 ≤ x ∧ x < 45) → σ x = τ x) : ∀ x : Int, 0 ≤ x → x < 45 → zup (zup (zup σ 4 (τ 4)) 0 (τ 0)) 3 (τ 3) x = τ x := by
  intro x h0 h1
  unfold zup
  by_cases e3 : x = 3
  · rw [if_pos e3, e3]
  · rw [if_neg e3]
    by_cases e0 : x = 0
    · rw [if_pos e0, e0]
    · rw [if_neg e0]
      by_cases e4 : x = 4
      · rw [if_pos e4, e4]
      · rw [if_neg e4]; exact h x (by omega)
theorem zmk_s (g v : Int) {i : Int} (hi : 0 ≤ i) : zmkN g v (i + 1).toNat = max (zmkN g v i.toNat * zSteps g / 1000) (zmkN g v i.toNat + 1) := by
  obtain ⟨n, rfl⟩ := Int.eq_ofNat_of_zero_le hi
  rfl
theorem zmk_b {g v : Int} (hv : 10 ≤ v ∧ v ≤ 999) {i : Int} (hi : 0 ≤ i ∧ i ≤ 10) : 1000 ≤ zmkN g v i.toNat ∧ zmkN g v i.toNat ≤ 102400000 ∧ 0 ≤ zmkN g v i.toNat * zSteps g ∧ zmkN g v i.toNat * zSteps g ≤ 143360000000 := by
  have h := zmkN_in (g := g) hv i.toNat
  have h2 := (by decide : ∀ k, k < 11 → (2 : Int) ^ k ≤ 1024) i.toNat (by omega)
  have h3 := zSteps_in g
  have h4 : zmkN g v i.toNat * zSteps g ≤ 102400000 * 1400 := Int.mul_le_mul (by omega) h3.2 (by omega) (by omega)
  have h5 : 0 ≤ zmkN g v i.toNat * zSteps g := Int.mul_nonneg (by omega) (by omega)
  omega
def tAdd (σ : Int → Int) (d w : Int) : Int → Int := zup (zup (zup (zup (zup (zup σ (5 + 5 * σ 4) d) (5 + 5 * σ 4 + 1) w) (5 + 5 * σ 4 + 2) 0) (5 + 5 * σ 4 + 3) 0) (5 + 5 * σ 4 + 4) 0) 4 (σ 4 + 1)
def zset (m o : Int) : Int := zor m (1 * 2 ^ o.toNat)
def zclr (m o : Int) : Int := zand m (zxor (1 * 2 ^ o.toNat) (-1))
def tLk (σ : Int → Int) (a b l : Int) : Int → Int := if l = 1 then zup (zup σ (5 + 5 * a + 4) (zset (σ (5 + 5 * a + 4)) b)) (5 + 5 * b + 4) (zset (σ (5 + 5 * b + 4)) a) else zup (zup σ (5 + 5 * a + 4) (zclr (σ (5 + 5 * a + 4)) b)) (5 + 5 * b + 4) (zclr (σ (5 + 5 * b + 4)) a)
/-- a number put into its place among n sorted ones -/
def zins (q : Int → Int) (x : Int) : Nat → Int → Int
  | 0 => zup q 0 x
  | n + 1 => if q n > x then zins (zup q (n + 1) (q n)) x n else zup q (n + 1) x
theorem zins_0 (q : Int → Int) (x : Int) : zins q x (0 : Int).toNat = zup q 0 x := rfl
theorem zins_s (q : Int → Int) (x : Int) {n : Int} (hn : 0 < n) : zins q x n.toNat = if q (n - 1) > x then zins (zup q n (q (n - 1))) x (n - 1).toNat else zup q n x := by
  obtain ⟨m, hm⟩ := Int.eq_ofNat_of_zero_le (show 0 ≤ n - 1 by omega)
  obtain rfl : n = (m : Int) + 1 := by omega
  have e1 : ((m : Int) + 1).toNat = m + 1 := by omega
  have e2 : (m : Int) + 1 - 1 = m := by omega
  rw [e1, e2, Int.toNat_natCast]
  rfl
def zmsC (σ : Int → Int) : Nat → Int
  | 0 => 0
  | n + 1 => if tLn σ n = -1 then zmsC σ n else zmsC σ n + 1
def zmsQ (σ : Int → Int) (q0 : Int → Int) : Nat → Int → Int
  | 0 => q0
  | n + 1 => if tLn σ n = -1 then zmsQ σ q0 n else zins (zmsQ σ q0 n) (tLn σ n) (zmsC σ n).toNat
theorem zmsC_s (σ : Int → Int) {i : Int} (hi : 0 ≤ i) : zmsC σ (i + 1).toNat = if tLn σ i = -1 then zmsC σ i.toNat else zmsC σ i.toNat + 1 := by
  obtain ⟨n, rfl⟩ := Int.eq_ofNat_of_zero_le hi
  rfl
theorem zmsQ_s (σ : Int → Int) (q0 : Int → Int) {i : Int} (hi : 0 ≤ i) : zmsQ σ q0 (i + 1).toNat = if tLn σ i = -1 then zmsQ σ q0 i.toNat else zins (zmsQ σ q0 i.toNat) (tLn σ i) (zmsC σ i.toNat).toNat := by
  obtain ⟨n, rfl⟩ := Int.eq_ofNat_of_zero_le hi
  rfl
theorem zmsC_in (σ : Int → Int) : ∀ n : Nat, 0 ≤ zmsC σ n ∧ zmsC σ n ≤ n := by
  intro n
  induction n with
  | zero => exact ⟨by simp [zmsC], by simp [zmsC]⟩
  | succ n ih => simp only [zmsC]; split <;> omega
/-- what is put in depends on the first n alone -/
theorem zins_congr {x : Int} : ∀ (n : Nat) {q q' : Int → Int}, (∀ j : Int, 0 ≤ j → j < n → q j = q' j) → ∀ j : Int, 0 ≤ j → j < (n : Int) + 1 → zins q x n j = zins q' x n j := by
  intro n
  induction n with
  | zero =>
    intro q q' _ j h1 h2
    have e : j = 0 := by omega
    subst e
    simp only [zins, zup_s]
  | succ n ih =>
    intro q q' h j h1 h2
    simp only [zins]
    rw [h n (by omega) (by omega)]
    by_cases c : q' n > x
    · rw [if_pos c, if_pos c]
      by_cases ej : j < (n : Int) + 1
      · exact ih (fun i h3 h4 => by rw [zup_n (by omega), zup_n (by omega)]; exact h i h3 (by omega)) j h1 ej
      · have e : ∀ (m : Nat) (r : Int → Int) (k : Int), (m : Int) < k → zins r x m k = r k := by
          intro m
          induction m with
          | zero => intro r k hk; exact zup_n (by omega)
          | succ m ihm =>
            intro r k hk
            simp only [zins]
            split
            · rw [ihm _ _ (by omega), zup_n (by omega)]
            · exact zup_n (by omega)
        have ej2 : j = (n : Int) + 1 := by omega
        subst ej2
        rw [e n _ _ (by omega), e n _ _ (by omega)]
        show zup q ((n : Int) + 1) (q' n) ((n : Int) + 1) = zup q' ((n : Int) + 1) (q' n) ((n : Int) + 1)
        rw [zup_s, zup_s]
    · rw [if_neg c, if_neg c]
      by_cases e : j = ((n : Int) + 1)
      · subst e; rw [zup_s, zup_s]
      · rw [zup_n e, zup_n e]; exact h j h1 (by omega)
theorem zmsQ_congr (σ : Int → Int) (q q' : Int → Int) : ∀ (n : Nat) (j : Int), 0 ≤ j → j < zmsC σ n → zmsQ σ q n j = zmsQ σ q' n j := by
  intro n
  induction n with
  | zero => intro j h1 h2; simp only [zmsC] at h2; omega
  | succ n ih =>
    intro j h1 h2
    have hc := zmsC_in σ n
    simp only [zmsC] at h2
    simp only [zmsQ]
    split at h2
    · next c => rw [if_pos c, if_pos c]; exact ih j h1 h2
    · next c =>
      rw [if_neg c, if_neg c]
      exact zins_congr _ (fun i h3 h4 => ih i h3 (by omega)) j h1 (by omega)
def tMid (σ : Int → Int) : Int := if zmsC σ (σ 4).toNat = 0 then -1 else zmsQ σ (fun _ => 0) (σ 4).toNat ((zmsC σ (σ 4).toNat - 1) / 2)
theorem zins_in {x a b : Int} (hx : a ≤ x ∧ x ≤ b) : ∀ (n : Nat) (q : Int → Int), (∀ j : Int, 0 ≤ j → j < n → a ≤ q j ∧ q j ≤ b) → ∀ j : Int, 0 ≤ j → j < (n : Int) + 1 → a ≤ zins q x n j ∧ zins q x n j ≤ b := by
  intro n
  induction n with
  | zero =>
    intro q _ j h1 h2
    have e : j = 0 := by omega
    subst e
    simp only [zins, zup_s]; exact hx
  | succ n ih =>
    intro q h j h1 h2
    simp only [zins]
    split
    · by_cases ej : j < (n : Int) + 1
      · exact ih _ (fun i h3 h4 => by rw [zup_n (by omega)]; exact h i h3 (by omega)) j h1 ej
      · have e : ∀ (m : Nat) (r : Int → Int) (k : Int), (m : Int) < k → zins r x m k = r k := by
          intro m
          induction m with
          | zero => intro r k hk; exact zup_n (by omega)
          | succ m ihm =>
            intro r k hk
            simp only [zins]
            split
            · rw [ihm _ _ (by omega), zup_n (by omega)]
            · exact zup_n (by omega)
        have ej2 : j = (n : Int) + 1 := by omega
        subst ej2
        rw [e n _ _ (by omega), zup_s]
        exact h n (by omega) (by omega)
    · by_cases e : j = ((n : Int) + 1)
      · subst e; rw [zup_s]; exact hx
      · rw [zup_n e]; exact h j h1 (by omega)
theorem zmsQ_in {σ : Int → Int} (hw : zW σ) (q : Int → Int) : ∀ (n : Nat) (j : Int), 0 ≤ j → j < zmsC σ n → 1 ≤ zmsQ σ q n j ∧ zmsQ σ q n j ≤ 9999 := by
  intro n
  induction n with
  | zero => intro j h1 h2; simp only [zmsC] at h2; omega
  | succ n ih =>
    intro j h1 h2
    have hc := zmsC_in σ n
    have ht := tLn_in hw n
    simp only [zmsC] at h2
    simp only [zmsQ]
    split at h2
    · next c => rw [if_pos c]; exact ih j h1 h2
    · next c =>
      rw [if_neg c]
      have ht1 : 1 ≤ tLn σ n := by
        have h5 := tLe_in hw (σ (5 + 5 * (n : Int))) (σ (5 + 5 * (n : Int) + 1))
        unfold tLn at c ⊢
        split at c
        · next c2 => rw [if_pos c2]; omega
        · omega
      exact zins_in ⟨ht1, ht.2⟩ _ _ (fun i h3 h4 => ih i h3 (by omega)) j h1 (by omega)
def tPb (x : Int) : Int := if 1 ≤ x ∧ x ≤ 999 then x else 0
/-- a zone burned or held -/
def tCor (σ : Int → Int) (z : Int) : Int → Int :=
  if tOff σ z < 0 then
    (if tOff (zup σ (5 + 5 * z + 2) (tPb (tLe σ (σ (5 + 5 * z)) (σ (5 + 5 * z + 1)) - tTm σ z))) z = 0 then zup σ (5 + 5 * z + 2) (tPb (tLe σ (σ (5 + 5 * z)) (σ (5 + 5 * z + 1)) - tTm σ z)) else zup (zup σ (5 + 5 * z + 2) (tPb (tLe σ (σ (5 + 5 * z)) (σ (5 + 5 * z + 1)) - tTm σ z))) (5 + 5 * z + 2) 0)
  else if 0 < tOff σ z then
    (if tOff (zup σ (5 + 5 * z + 3) (tPb (tTm σ z - tLe σ (σ (5 + 5 * z)) (σ (5 + 5 * z + 1) + 1) + 1))) z = 0 then zup σ (5 + 5 * z + 3) (tPb (tTm σ z - tLe σ (σ (5 + 5 * z)) (σ (5 + 5 * z + 1) + 1) + 1)) else zup (zup σ (5 + 5 * z + 3) (tPb (tTm σ z - tLe σ (σ (5 + 5 * z)) (σ (5 + 5 * z + 1) + 1) + 1))) (5 + 5 * z + 3) 0)
  else σ
def tClr (σ : Int → Int) : Nat → Int → Int
  | 0 => σ
  | n + 1 => zup (zup (tClr σ n) (5 + 5 * (n : Int) + 2) 0) (5 + 5 * (n : Int) + 3) 0
def tCors (σ : Int → Int) : Nat → Int → Int
  | 0 => σ
  | n + 1 => tCor (tCors σ n) n
theorem tClr_s (σ : Int → Int) {i : Int} (hi : 0 ≤ i) : tClr σ (i + 1).toNat = zup (zup (tClr σ i.toNat) (5 + 5 * i + 2) 0) (5 + 5 * i + 3) 0 := by
  obtain ⟨n, rfl⟩ := Int.eq_ofNat_of_zero_le hi
  rfl
theorem tCors_s (σ : Int → Int) {i : Int} (hi : 0 ≤ i) : tCors σ (i + 1).toNat = tCor (tCors σ i.toNat) i := by
  obtain ⟨n, rfl⟩ := Int.eq_ofNat_of_zero_le hi
  rfl
def tTim (σ : Int → Int) : Int → Int := if tMid σ = -1 then σ else zup σ 0 (min (tMid σ) 2000)
def tPlan (σ : Int → Int) : Int → Int := tCors (tTim (tClr σ (σ 4).toNat)) (σ 4).toNat
/-- one number of a print changed within its bounds -/
theorem zW_up0 {σ : Int → Int} (h : zW σ) {v : Int} (hv : 1 ≤ v ∧ v ≤ 2000) : zW (zup σ 0 v) := by
  refine ⟨by rw [zup_s]; exact hv, by rw [zup_n (by omega)]; exact h.2.1, by rw [zup_n (by omega)]; exact h.2.2.1, by rw [zup_n (by omega)]; exact h.2.2.2.1, by rw [zup_n (by omega)]; exact h.2.2.2.2.1, fun z hz => ?_⟩
  rw [zup_n (by omega), zup_n (by omega), zup_n (by omega), zup_n (by omega), zup_n (by omega)]
  exact h.2.2.2.2.2 z hz
theorem zW_up3 {σ : Int → Int} (h : zW σ) {v : Int} (hv : 0 ≤ v ∧ v ≤ 50) : zW (zup σ 3 v) := by
  refine ⟨by rw [zup_n (by omega)]; exact h.1, by rw [zup_n (by omega)]; exact h.2.1, by rw [zup_n (by omega)]; exact h.2.2.1, by rw [zup_s]; exact hv, by rw [zup_n (by omega)]; exact h.2.2.2.2.1, fun z hz => ?_⟩
  rw [zup_n (by omega), zup_n (by omega), zup_n (by omega), zup_n (by omega), zup_n (by omega)]
  exact h.2.2.2.2.2 z hz
theorem zW_upg {σ : Int → Int} (h : zW σ) {g v : Int} (hg : 0 ≤ g ∧ g ≤ 5) (hv : 10 ≤ v ∧ v ≤ 999) : zW (zup (zup σ 1 g) 2 v) := by
  refine ⟨by rw [zup_n (by omega), zup_n (by omega)]; exact h.1, by rw [zup_n (by omega), zup_s]; exact hg, by rw [zup_s]; exact hv, by rw [zup_n (by omega), zup_n (by omega)]; exact h.2.2.2.1, by rw [zup_n (by omega), zup_n (by omega)]; exact h.2.2.2.2.1, fun z hz => ?_⟩
  repeat rw [zup_n (by omega)]
  exact h.2.2.2.2.2 z hz
/-- a zone's number of kind w (0 density .. 4 neighbours) changed -/
theorem zW_upz {σ : Int → Int} (h : zW σ) {z w v : Int} (hz : 0 ≤ z) (hw : 0 ≤ w ∧ w < 5) (hv : 0 ≤ v ∧ (w = 0 → v ≤ 24) ∧ (w = 1 → v ≤ 10) ∧ (w = 2 ∨ w = 3 → v ≤ 999) ∧ (w = 4 → v ≤ 255)) {i : Int} (hi : i = 5 + 5 * z + w) : zW (zup σ i v) := by
  subst hi
  refine ⟨by rw [zup_n (by omega)]; exact h.1, by rw [zup_n (by omega)]; exact h.2.1, by rw [zup_n (by omega)]; exact h.2.2.1, by rw [zup_n (by omega)]; exact h.2.2.2.1, by rw [zup_n (by omega)]; exact h.2.2.2.2.1, fun y hy => ?_⟩
  have g := h.2.2.2.2.2 y hy
  by_cases e : y = z
  · subst e
    rcases (show w = 0 ∨ w = 1 ∨ w = 2 ∨ w = 3 ∨ w = 4 by omega) with rfl | rfl | rfl | rfl | rfl
    · rw [show 5 + 5 * y + 0 = 5 + 5 * y by omega, zup_s, zup_n (by omega), zup_n (by omega), zup_n (by omega), zup_n (by omega)]; exact ⟨⟨hv.1, hv.2.1 rfl⟩, g.2⟩
    · rw [zup_s, zup_n (by omega), zup_n (by omega), zup_n (by omega), zup_n (by omega)]; exact ⟨g.1, ⟨hv.1, hv.2.2.1 rfl⟩, g.2.2⟩
    · rw [zup_s, zup_n (by omega), zup_n (by omega), zup_n (by omega), zup_n (by omega)]; exact ⟨g.1, g.2.1, ⟨hv.1, hv.2.2.2.1 (Or.inl rfl)⟩, g.2.2.2⟩
    · rw [zup_s, zup_n (by omega), zup_n (by omega), zup_n (by omega), zup_n (by omega)]; exact ⟨g.1, g.2.1, g.2.2.1, ⟨hv.1, hv.2.2.2.1 (Or.inr rfl)⟩, g.2.2.2.2⟩
    · rw [zup_s, zup_n (by omega), zup_n (by omega), zup_n (by omega), zup_n (by omega)]; exact ⟨g.1, g.2.1, g.2.2.1, g.2.2.2.1, ⟨hv.1, hv.2.2.2.2 rfl⟩⟩
  · rw [zup_n (by omega), zup_n (by omega), zup_n (by omega), zup_n (by omega), zup_n (by omega)]; exact g
theorem tPb_in (x : Int) : 0 ≤ tPb x ∧ tPb x ≤ 999 := by unfold tPb; split <;> omega
theorem tCor_in {σ : Int → Int} (h : zW σ) {z : Int} (hz : 0 ≤ z) : zW (tCor σ z) ∧ (tCor σ z) 4 = σ 4 ∧ (tCor σ z) 1 = σ 1 ∧ (tCor σ z) 2 = σ 2 := by
  have h2 : ∀ x : Int, zW (zup σ (5 + 5 * z + 2) (tPb x)) := fun x => by have := tPb_in x; exact zW_upz h hz (w := 2) (by omega) (by omega) rfl
  have h3 : ∀ x : Int, zW (zup σ (5 + 5 * z + 3) (tPb x)) := fun x => by have := tPb_in x; exact zW_upz h hz (w := 3) (by omega) (by omega) rfl
  have u : ∀ (τ : Int → Int) (w v k : Int), 2 ≤ w → 0 ≤ k ∧ k < 5 → zup τ (5 + 5 * z + w) v k = τ k := fun τ w v k h1 h2 => zup_n (by omega)
  unfold tCor
  split
  · split
    · exact ⟨h2 _, u _ _ _ _ (by omega) (by omega), u _ _ _ _ (by omega) (by omega), u _ _ _ _ (by omega) (by omega)⟩
    · refine ⟨zW_upz (h2 _) hz (w := 2) (by omega) (by omega) rfl, ?_, ?_, ?_⟩ <;> rw [u _ _ _ _ (by omega) (by omega), u _ _ _ _ (by omega) (by omega)]
  · split
    · split
      · exact ⟨h3 _, u _ _ _ _ (by omega) (by omega), u _ _ _ _ (by omega) (by omega), u _ _ _ _ (by omega) (by omega)⟩
      · refine ⟨zW_upz (h3 _) hz (w := 3) (by omega) (by omega) rfl, ?_, ?_, ?_⟩ <;> rw [u _ _ _ _ (by omega) (by omega), u _ _ _ _ (by omega) (by omega)]
    · exact ⟨h, rfl, rfl, rfl⟩
theorem tClr_in {σ : Int → Int} (h : zW σ) : ∀ n : Nat, zW (tClr σ n) ∧ (tClr σ n) 4 = σ 4 ∧ (tClr σ n) 1 = σ 1 ∧ (tClr σ n) 2 = σ 2 := by
  intro n
  induction n with
  | zero => exact ⟨h, rfl, rfl, rfl⟩
  | succ n ih =>
    simp only [tClr]
    refine ⟨zW_upz (zW_upz ih.1 (z := n) (w := 2) (by omega) (by omega) (by omega) rfl) (z := n) (w := 3) (by omega) (by omega) (by omega) rfl, ?_, ?_, ?_⟩ <;> rw [zup_n (by omega), zup_n (by omega)]
    · exact ih.2.1
    · exact ih.2.2.1
    · exact ih.2.2.2
theorem tCors_in {σ : Int → Int} (h : zW σ) : ∀ n : Nat, zW (tCors σ n) ∧ (tCors σ n) 4 = σ 4 ∧ (tCors σ n) 1 = σ 1 ∧ (tCors σ n) 2 = σ 2 := by
  intro n
  induction n with
  | zero => exact ⟨h, rfl, rfl, rfl⟩
  | succ n ih =>
    simp only [tCors]
    have h2 := tCor_in ih.1 (z := n) (by omega)
    exact ⟨h2.1, h2.2.1.trans ih.2.1, h2.2.2.1.trans ih.2.2.1, h2.2.2.2.trans ih.2.2.2⟩
theorem tMid_in {σ : Int → Int} (h : zW σ) : tMid σ = -1 ∨ 1 ≤ tMid σ ∧ tMid σ ≤ 9999 := by
  have hc := zmsC_in σ (σ 4).toNat
  unfold tMid
  split
  · exact Or.inl rfl
  · exact Or.inr (zmsQ_in h _ _ _ (by omega) (by omega))
theorem tTim_in {σ : Int → Int} (h : zW σ) : zW (tTim σ) ∧ (tTim σ) 4 = σ 4 ∧ (tTim σ) 1 = σ 1 ∧ (tTim σ) 2 = σ 2 := by
  have h2 := tMid_in h
  unfold tTim
  split
  · exact ⟨h, rfl, rfl, rfl⟩
  · exact ⟨zW_up0 h (by omega), zup_n (by omega), zup_n (by omega), zup_n (by omega)⟩
theorem tPlan_in {σ : Int → Int} (h : zW σ) : zW (tPlan σ) ∧ (tPlan σ) 4 = σ 4 ∧ (tPlan σ) 1 = σ 1 ∧ (tPlan σ) 2 = σ 2 := by
  have h1 := tClr_in h (σ 4).toNat
  have h2 := tTim_in h1.1
  have h3 := tCors_in h2.1 (σ 4).toNat
  exact ⟨h3.1, h3.2.1.trans (h2.2.1.trans h1.2.1), h3.2.2.1.trans (h2.2.2.1.trans h1.2.2.1), h3.2.2.2.trans (h2.2.2.2.trans h1.2.2.2)⟩
theorem zsh1 {o : Int} (h : 0 ≤ o ∧ o < 8) : (1 : Int) * 2 ^ o.toNat < 4294967296 := by
  have := (by decide : ∀ k, k < 8 → (1 : Int) * 2 ^ k < 4294967296) o.toNat (by omega)
  exact this
end
section
theorem dX2_take_0 : decode cX2_take 0 = .ok (.iload_n 1, 1) := by decide +kernel
theorem dX2_take_1 : decode cX2_take 1 = .ok (.ifCond .lt 11, 3) := by decide +kernel
theorem dX2_take_4 : decode cX2_take 4 = .ok (.iload_n 1, 1) := by decide +kernel
theorem dX2_take_5 : decode cX2_take 5 = .ok (.getstatic 19, 3) := by decide +kernel
theorem dX2_take_8 : decode cX2_take 8 = .ok (.arraylength, 1) := by decide +kernel
theorem dX2_take_9 : decode cX2_take 9 = .ok (.if_icmp .lt 4, 3) := by decide +kernel
theorem dX2_take_13 : decode cX2_take 13 = .ok (.aload_n 0, 1) := by decide +kernel
theorem dX2_take_14 : decode cX2_take 14 = .ok (.iload_n 1, 1) := by decide +kernel
theorem dX2_take_15 : decode cX2_take 15 = .ok (.putfield 22, 3) := by decide +kernel
theorem dX2_take_18 : decode cX2_take 18 = .ok (.aload_n 0, 1) := by decide +kernel
theorem dX2_take_19 : decode cX2_take 19 = .ok (.iload_n 2, 1) := by decide +kernel
theorem dX2_take_20 : decode cX2_take 20 = .ok (.putfield 26, 3) := by decide +kernel
theorem dX2_take_23 : decode cX2_take 23 = .ok (.iload_n 2, 1) := by decide +kernel
theorem dX2_take_24 : decode cX2_take 24 = .ok (.i2l, 1) := by decide +kernel
theorem dX2_take_25 : decode cX2_take 25 = .ok (.ldc2_w 29, 3) := by decide +kernel
theorem dX2_take_28 : decode cX2_take 28 = .ok (.lmul, 1) := by decide +kernel
theorem dX2_take_29 : decode cX2_take 29 = .ok (.lstore_n 3, 1) := by decide +kernel
theorem dX2_take_30 : decode cX2_take 30 = .ok (.iconst 0, 1) := by decide +kernel
theorem dX2_take_31 : decode cX2_take 31 = .ok (.istore 5, 2) := by decide +kernel
theorem dX2_take_33 : decode cX2_take 33 = .ok (.iload 5, 2) := by decide +kernel
theorem dX2_take_35 : decode cX2_take 35 = .ok (.aload_n 0, 1) := by decide +kernel
theorem dX2_take_36 : decode cX2_take 36 = .ok (.getfield 9, 3) := by decide +kernel
theorem dX2_take_39 : decode cX2_take 39 = .ok (.arraylength, 1) := by decide +kernel
theorem dX2_take_40 : decode cX2_take 40 = .ok (.if_icmp .ge 37, 3) := by decide +kernel
theorem dX2_take_43 : decode cX2_take 43 = .ok (.aload_n 0, 1) := by decide +kernel
theorem dX2_take_44 : decode cX2_take 44 = .ok (.getfield 9, 3) := by decide +kernel
theorem dX2_take_47 : decode cX2_take 47 = .ok (.iload 5, 2) := by decide +kernel
theorem dX2_take_49 : decode cX2_take 49 = .ok (.lload_n 3, 1) := by decide +kernel
theorem dX2_take_50 : decode cX2_take 50 = .ok (.l2i, 1) := by decide +kernel
theorem dX2_take_51 : decode cX2_take 51 = .ok (.iastore, 1) := by decide +kernel
theorem dX2_take_52 : decode cX2_take 52 = .ok (.lload_n 3, 1) := by decide +kernel
theorem dX2_take_53 : decode cX2_take 53 = .ok (.getstatic 19, 3) := by decide +kernel
theorem dX2_take_56 : decode cX2_take 56 = .ok (.iload_n 1, 1) := by decide +kernel
theorem dX2_take_57 : decode cX2_take 57 = .ok (.iaload, 1) := by decide +kernel
theorem dX2_take_58 : decode cX2_take 58 = .ok (.i2l, 1) := by decide +kernel
theorem dX2_take_59 : decode cX2_take 59 = .ok (.lmul, 1) := by decide +kernel
theorem dX2_take_60 : decode cX2_take 60 = .ok (.ldc2_w 31, 3) := by decide +kernel
theorem dX2_take_63 : decode cX2_take 63 = .ok (.ldiv, 1) := by decide +kernel
theorem dX2_take_64 : decode cX2_take 64 = .ok (.lload_n 3, 1) := by decide +kernel
theorem dX2_take_65 : decode cX2_take 65 = .ok (.lconst 1, 1) := by decide +kernel
theorem dX2_take_66 : decode cX2_take 66 = .ok (.ladd, 1) := by decide +kernel
theorem dX2_take_67 : decode cX2_take 67 = .ok (.invokestatic 33, 3) := by decide +kernel
theorem dX2_take_70 : decode cX2_take 70 = .ok (.lstore_n 3, 1) := by decide +kernel
theorem dX2_take_71 : decode cX2_take 71 = .ok (.iinc 5 1, 3) := by decide +kernel
theorem dX2_take_74 : decode cX2_take 74 = .ok (.goto (-41), 3) := by decide +kernel
theorem dX2_take_77 : decode cX2_take 77 = .ok (.return_, 1) := by decide +kernel
def q_X2_take (k : Nat) (S : zM) (g v : Int) : zM → Prop := fun S1 => (zPut S k (zup (zup (S k 0) 1 g) 2 v) (zMk g v) (S k 8)) = S1
def r_X2_take : Room := { frames := 1, cells := 0, slots := 0, locals := 23 }
set_option maxHeartbeats 4000000 in
set_option maxRecDepth 100000 in
theorem c_X2_take (l : Launch) (G : zG) (hG : zok G) (k : Nat) (hk : k < 8) (S : zM) (g v : Int) (hg : 0 ≤ g ∧ g ≤ 5) (hv : 10 ≤ v ∧ v ≤ 999) : Met l yX2_take (Cond.code yX2_take cX2_take 6 (none : Option FieldType) :: zTbl) r_X2_take (va_Pc [.ref (za G k 1), .int (zI g), .int (zI v)] (zB G S)) (va_Qv (q_X2_take k S g v) (zB G) (zA G)) 0 0 (zA G) := by
  refine zMet [(0, .ref (za G k 1)), (1, .int (zI g)), (2, .int (zI v))] hG (by decide) (Nat.le_of_ble_eq_true rfl) rfl (fun p e s m args below meth c ls h hx hb hr hH hl => ?_)
  rw [← zP_id S k] at hH
  have C33 : ∀ (fu : Nat) (i mk : Int) (M : Int → Int) (H : Heap) (locs : List Loc) (ls : Array Slot), (10 - i).toNat < fu → (0 ≤ i ∧ i ≤ 10) → (mk = zmkN g v i.toNat) → (∀ j : Int, 0 ≤ j → j < i → M j = zMk g v j) → zH G (zPut S k (zup (zup (S k 0) 1 g) 2 v) M (S k 8)) s H locs → lv_has ls 6 [(0, .ref (za G k 1)), (1, .int (zI g)), (2, .int (zI v)), (3, .long (zL mk)), (5, .int (zI i))] → W p l e r_X2_take s m args below meth c H locs 0 0 (MQ below (va_Qv (q_X2_take k S g v) (zB G) (zA G)) args s 0 0 (zA G)) (F0 m 33 ls []) := by
    intro fu
    induction fu with
    | zero => intro i mk M H locs ls hfu; omega
    | succ fu ih33 =>
      intro i mk M H locs ls hfu hi hm hM hH hl
      have bm := zmk_b (g := g) hv hi
      rw [← hm] at bm
      refine lv_iload hx hb dX2_take_33 (lv_at hl 4 rfl) ?_
      refine lv_aload_n hx hb dX2_take_35 rfl (lv_at hl 0 rfl) ?_
      refine zg_2_0 h hH hk zf_X2_9 dX2_take_36 ?_
      refine zln_ar_mk h hH hk dX2_take_39 ?_
      refine zb_cge (tgt := 77) h (by omega) (by omega) dX2_take_40 (by decide) (fun c_40 => ?_) (fun c_40 => ?_)
      · have hH := zH_put (M' := zMk g v) hk (fun _ _ _ => rfl) (fun x h1 h2 => hM x h1 (by omega)) (fun _ _ _ => rfl) hH
        refine zrv h hr hH ?_ dX2_take_77
        exact rfl
      · refine lv_aload_n hx hb dX2_take_43 rfl (lv_at hl 0 rfl) ?_
        refine zg_2_0 h hH hk zf_X2_9 dX2_take_44 ?_
        refine lv_iload hx hb dX2_take_47 (lv_at hl 4 rfl) ?_
        refine lv_lload_n hx hb dX2_take_49 rfl (lv_at hl 3 rfl) ?_
        refine zb_l2i h dX2_take_50 ?_
        refine zst_ar_mk h hH hk (by omega) dX2_take_51 (fun H locs hH => ?_)
        rw [zs_P2] at hH
        refine lv_lload_n hx hb dX2_take_52 rfl (lv_at hl 3 rfl) ?_
        refine zgs1 h hH zf_X2_19 dX2_take_53 ?_
        refine lv_iload_n hx hb dX2_take_56 rfl (lv_at hl 1 rfl) ?_
        refine ztd1 h hH (by omega) (by omega) dX2_take_57 ?_
        have bs := zSteps_in g
        refine zb_i2l h (by omega) dX2_take_58 ?_
        refine zb_lmul h dX2_take_59 ?_
        refine zb_ldc2 (n := 1000) h zk_X2_31 (by decide +kernel) dX2_take_60 ?_
        refine zb_ldiv h (by omega) (by omega) dX2_take_63 ?_
        refine lv_lload_n hx hb dX2_take_64 rfl (lv_at hl 3 rfl) ?_
        refine zb_lc (v := 1) h dX2_take_65 (by decide +kernel) ?_
        refine zb_ladd h dX2_take_66 ?_
        refine zmaxL h hl.1 zm_X2_33 (Nat.le_of_ble_eq_true rfl) (Nat.le_of_ble_eq_true rfl) ⟨Nat.zero_le _, Nat.zero_le _⟩ (by omega) (by omega) (Nat.le_of_ble_eq_true rfl) dX2_take_67 ?_
        refine lv_lstore_n (lv' := [(3, .long (zL (max ((mk * (zSteps g)) / 1000) (mk + 1)))), (0, .ref (za G k 1)), (1, .int (zI g)), (2, .int (zI v)), (5, .int (zI i))]) hx hb dX2_take_70 rfl hl (by decide) rfl (fun ls hl => ?_)
        refine lv_iinc (v := zI (i + 1)) (lv' := [(5, .int (zI (i + 1))), (3, .long (zL (max ((mk * (zSteps g)) / 1000) (mk + 1)))), (0, .ref (za G k 1)), (1, .int (zI g)), (2, .int (zI v))]) hx hb dX2_take_71 hl (k := 4) rfl (zI_add _ _) (by decide) rfl (fun ls hl => ?_)
        refine lv_goto (tgt := 33) hx hb dX2_take_74 (by decide) ?_
        exact ih33 (i + 1) (max ((mk * (zSteps g)) / 1000) (mk + 1)) (zup M (i) mk) _ _ _ (by omega) (by omega) (by rw [zmk_s g v hi.1, hm]) (fun j h1 h2 => if e : j = i then (by rw [e, zup_s]; exact hm) else (by rw [zup_n e]; exact hM j h1 (by omega))) hH (lv_sub hl [2, 3, 4, 1, 0] rfl)
  refine lv_iload_n hx hb dX2_take_0 rfl (lv_at hl 1 rfl) ?_
  refine zb_ilt (tgt := 12) h (by omega) dX2_take_1 (by decide) (fun c_1 => ?_) (fun c_1 => ?_)
  · exact absurd c_1 (by omega)
  · refine lv_iload_n hx hb dX2_take_4 rfl (lv_at hl 1 rfl) ?_
    refine zgs1 h hH zf_X2_19 dX2_take_5 ?_
    refine ztl1 h hH dX2_take_8 ?_
    refine zb_clt (tgt := 13) h (by omega) (by omega) dX2_take_9 (by decide) (fun c_9 => ?_) (fun c_9 => ?_)
    · refine lv_aload_n hx hb dX2_take_13 rfl (lv_at hl 0 rfl) ?_
      refine lv_iload_n hx hb dX2_take_14 rfl (lv_at hl 1 rfl) ?_
      refine zu_2_1 h hH hk zf_X2_22 dX2_take_15 (fun H locs hH => ?_)
      rw [zs_P0] at hH
      refine lv_aload_n hx hb dX2_take_18 rfl (lv_at hl 0 rfl) ?_
      refine lv_iload_n hx hb dX2_take_19 rfl (lv_at hl 2 rfl) ?_
      refine zu_2_2 h hH hk zf_X2_26 dX2_take_20 (fun H locs hH => ?_)
      rw [zs_P0] at hH
      refine lv_iload_n hx hb dX2_take_23 rfl (lv_at hl 2 rfl) ?_
      refine zb_i2l h (by omega) dX2_take_24 ?_
      refine zb_ldc2 (n := 100) h zk_X2_29 (by decide +kernel) dX2_take_25 ?_
      refine zb_lmul h dX2_take_28 ?_
      refine lv_lstore_n (lv' := [(3, .long (zL (v * 100))), (0, .ref (za G k 1)), (1, .int (zI g)), (2, .int (zI v))]) hx hb dX2_take_29 rfl hl (by decide) rfl (fun ls hl => ?_)
      refine zb_ic h dX2_take_30 ?_
      refine lv_istore (lv' := [(5, .int (zI 0)), (3, .long (zL (v * 100))), (0, .ref (za G k 1)), (1, .int (zI g)), (2, .int (zI v))]) hx hb dX2_take_31 hl (by decide) rfl (fun ls hl => ?_)
      exact C33 ((10 - 0 : Int).toNat + 1) 0 (v * 100) (S k 2) _ _ _ (by omega) (by omega) (by show v * 100 = 100 * v; omega) (fun j h1 h2 => absurd h1 (by omega)) hH (lv_sub hl [2, 3, 4, 1, 0] rfl)
    · exact absurd c_9 (by omega)
theorem dX3_copyFrom_0 : decode cX3_copyFrom 0 = .ok (.aload_n 0, 1) := by decide +kernel
theorem dX3_copyFrom_1 : decode cX3_copyFrom 1 = .ok (.getfield 12, 3) := by decide +kernel
theorem dX3_copyFrom_4 : decode cX3_copyFrom 4 = .ok (.aload_n 1, 1) := by decide +kernel
theorem dX3_copyFrom_5 : decode cX3_copyFrom 5 = .ok (.getfield 12, 3) := by decide +kernel
theorem dX3_copyFrom_8 : decode cX3_copyFrom 8 = .ok (.getfield 47, 3) := by decide +kernel
theorem dX3_copyFrom_11 : decode cX3_copyFrom 11 = .ok (.aload_n 1, 1) := by decide +kernel
theorem dX3_copyFrom_12 : decode cX3_copyFrom 12 = .ok (.getfield 12, 3) := by decide +kernel
theorem dX3_copyFrom_15 : decode cX3_copyFrom 15 = .ok (.getfield 50, 3) := by decide +kernel
theorem dX3_copyFrom_18 : decode cX3_copyFrom 18 = .ok (.invokevirtual 53, 3) := by decide +kernel
theorem dX3_copyFrom_21 : decode cX3_copyFrom 21 = .ok (.iconst 0, 1) := by decide +kernel
theorem dX3_copyFrom_22 : decode cX3_copyFrom 22 = .ok (.istore_n 2, 1) := by decide +kernel
theorem dX3_copyFrom_23 : decode cX3_copyFrom 23 = .ok (.iload_n 2, 1) := by decide +kernel
theorem dX3_copyFrom_24 : decode cX3_copyFrom 24 = .ok (.bipush 8, 2) := by decide +kernel
theorem dX3_copyFrom_26 : decode cX3_copyFrom 26 = .ok (.if_icmp .ge 69, 3) := by decide +kernel
theorem dX3_copyFrom_29 : decode cX3_copyFrom 29 = .ok (.aload_n 0, 1) := by decide +kernel
theorem dX3_copyFrom_30 : decode cX3_copyFrom 30 = .ok (.getfield 18, 3) := by decide +kernel
theorem dX3_copyFrom_33 : decode cX3_copyFrom 33 = .ok (.iload_n 2, 1) := by decide +kernel
theorem dX3_copyFrom_34 : decode cX3_copyFrom 34 = .ok (.aload_n 1, 1) := by decide +kernel
theorem dX3_copyFrom_35 : decode cX3_copyFrom 35 = .ok (.getfield 18, 3) := by decide +kernel
theorem dX3_copyFrom_38 : decode cX3_copyFrom 38 = .ok (.iload_n 2, 1) := by decide +kernel
theorem dX3_copyFrom_39 : decode cX3_copyFrom 39 = .ok (.iaload, 1) := by decide +kernel
theorem dX3_copyFrom_40 : decode cX3_copyFrom 40 = .ok (.iastore, 1) := by decide +kernel
theorem dX3_copyFrom_41 : decode cX3_copyFrom 41 = .ok (.aload_n 0, 1) := by decide +kernel
theorem dX3_copyFrom_42 : decode cX3_copyFrom 42 = .ok (.getfield 22, 3) := by decide +kernel
theorem dX3_copyFrom_45 : decode cX3_copyFrom 45 = .ok (.iload_n 2, 1) := by decide +kernel
theorem dX3_copyFrom_46 : decode cX3_copyFrom 46 = .ok (.aload_n 1, 1) := by decide +kernel
theorem dX3_copyFrom_47 : decode cX3_copyFrom 47 = .ok (.getfield 22, 3) := by decide +kernel
theorem dX3_copyFrom_50 : decode cX3_copyFrom 50 = .ok (.iload_n 2, 1) := by decide +kernel
theorem dX3_copyFrom_51 : decode cX3_copyFrom 51 = .ok (.iaload, 1) := by decide +kernel
theorem dX3_copyFrom_52 : decode cX3_copyFrom 52 = .ok (.iastore, 1) := by decide +kernel
theorem dX3_copyFrom_53 : decode cX3_copyFrom 53 = .ok (.aload_n 0, 1) := by decide +kernel
theorem dX3_copyFrom_54 : decode cX3_copyFrom 54 = .ok (.getfield 25, 3) := by decide +kernel
theorem dX3_copyFrom_57 : decode cX3_copyFrom 57 = .ok (.iload_n 2, 1) := by decide +kernel
theorem dX3_copyFrom_58 : decode cX3_copyFrom 58 = .ok (.aload_n 1, 1) := by decide +kernel
theorem dX3_copyFrom_59 : decode cX3_copyFrom 59 = .ok (.getfield 25, 3) := by decide +kernel
theorem dX3_copyFrom_62 : decode cX3_copyFrom 62 = .ok (.iload_n 2, 1) := by decide +kernel
theorem dX3_copyFrom_63 : decode cX3_copyFrom 63 = .ok (.iaload, 1) := by decide +kernel
theorem dX3_copyFrom_64 : decode cX3_copyFrom 64 = .ok (.iastore, 1) := by decide +kernel
theorem dX3_copyFrom_65 : decode cX3_copyFrom 65 = .ok (.aload_n 0, 1) := by decide +kernel
theorem dX3_copyFrom_66 : decode cX3_copyFrom 66 = .ok (.getfield 28, 3) := by decide +kernel
theorem dX3_copyFrom_69 : decode cX3_copyFrom 69 = .ok (.iload_n 2, 1) := by decide +kernel
theorem dX3_copyFrom_70 : decode cX3_copyFrom 70 = .ok (.aload_n 1, 1) := by decide +kernel
theorem dX3_copyFrom_71 : decode cX3_copyFrom 71 = .ok (.getfield 28, 3) := by decide +kernel
theorem dX3_copyFrom_74 : decode cX3_copyFrom 74 = .ok (.iload_n 2, 1) := by decide +kernel
theorem dX3_copyFrom_75 : decode cX3_copyFrom 75 = .ok (.iaload, 1) := by decide +kernel
theorem dX3_copyFrom_76 : decode cX3_copyFrom 76 = .ok (.iastore, 1) := by decide +kernel
theorem dX3_copyFrom_77 : decode cX3_copyFrom 77 = .ok (.aload_n 0, 1) := by decide +kernel
theorem dX3_copyFrom_78 : decode cX3_copyFrom 78 = .ok (.getfield 31, 3) := by decide +kernel
theorem dX3_copyFrom_81 : decode cX3_copyFrom 81 = .ok (.iload_n 2, 1) := by decide +kernel
theorem dX3_copyFrom_82 : decode cX3_copyFrom 82 = .ok (.aload_n 1, 1) := by decide +kernel
theorem dX3_copyFrom_83 : decode cX3_copyFrom 83 = .ok (.getfield 31, 3) := by decide +kernel
theorem dX3_copyFrom_86 : decode cX3_copyFrom 86 = .ok (.iload_n 2, 1) := by decide +kernel
theorem dX3_copyFrom_87 : decode cX3_copyFrom 87 = .ok (.iaload, 1) := by decide +kernel
theorem dX3_copyFrom_88 : decode cX3_copyFrom 88 = .ok (.iastore, 1) := by decide +kernel
theorem dX3_copyFrom_89 : decode cX3_copyFrom 89 = .ok (.iinc 2 1, 3) := by decide +kernel
theorem dX3_copyFrom_92 : decode cX3_copyFrom 92 = .ok (.goto (-69), 3) := by decide +kernel
theorem dX3_copyFrom_95 : decode cX3_copyFrom 95 = .ok (.aload_n 0, 1) := by decide +kernel
theorem dX3_copyFrom_96 : decode cX3_copyFrom 96 = .ok (.aload_n 1, 1) := by decide +kernel
theorem dX3_copyFrom_97 : decode cX3_copyFrom 97 = .ok (.getfield 37, 3) := by decide +kernel
theorem dX3_copyFrom_100 : decode cX3_copyFrom 100 = .ok (.putfield 37, 3) := by decide +kernel
theorem dX3_copyFrom_103 : decode cX3_copyFrom 103 = .ok (.aload_n 0, 1) := by decide +kernel
theorem dX3_copyFrom_104 : decode cX3_copyFrom 104 = .ok (.aload_n 1, 1) := by decide +kernel
theorem dX3_copyFrom_105 : decode cX3_copyFrom 105 = .ok (.getfield 41, 3) := by decide +kernel
theorem dX3_copyFrom_108 : decode cX3_copyFrom 108 = .ok (.putfield 41, 3) := by decide +kernel
theorem dX3_copyFrom_111 : decode cX3_copyFrom 111 = .ok (.aload_n 0, 1) := by decide +kernel
theorem dX3_copyFrom_112 : decode cX3_copyFrom 112 = .ok (.aload_n 1, 1) := by decide +kernel
theorem dX3_copyFrom_113 : decode cX3_copyFrom 113 = .ok (.getfield 44, 3) := by decide +kernel
theorem dX3_copyFrom_116 : decode cX3_copyFrom 116 = .ok (.putfield 44, 3) := by decide +kernel
theorem dX3_copyFrom_119 : decode cX3_copyFrom 119 = .ok (.return_, 1) := by decide +kernel
def q_X3_copyFrom (k k2 : Nat) (S : zM) : zM → Prop := fun S1 => (zPut S k (S k2 0) (zMk (S k2 0 1) (S k2 0 2)) (S k 8)) = S1
def r_X3_copyFrom : Room := { frames := 2, cells := 0, slots := 0, locals := 48 }
set_option maxHeartbeats 4000000 in
set_option maxRecDepth 100000 in
theorem c_X3_copyFrom (l : Launch) (G : zG) (hG : zok G) (k k2 : Nat) (hk : k < 8) (hk2 : k2 < 8) (hne : k2 ≠ k) (S : zM) (hw2 : zW (S k2 0)) : Met l yX3_copyFrom (Cond.code yX3_copyFrom cX3_copyFrom 3 (none : Option FieldType) :: zTbl) r_X3_copyFrom (va_Pc [.ref (za G k 0), .ref (za G k2 0)] (zB G S)) (va_Qv (q_X3_copyFrom k k2 S) (zB G) (zA G)) 0 0 (zA G) := by
  refine zMet [(0, .ref (za G k 0)), (1, .ref (za G k2 0))] hG (by decide) (Nat.le_of_ble_eq_true rfl) rfl (fun p e s m args below meth c ls h hx hb hr hH hl => ?_)
  rw [← zP_id S k] at hH
  have C23 : ∀ (fu : Nat) (i : Int) (σ : Int → Int) (H : Heap) (locs : List Loc) (ls : Array Slot), (8 - i).toNat < fu → (0 ≤ i ∧ i ≤ 8) → (∀ x : Int, (x = 1 ∨ x = 2 ∨ 5 ≤ x ∧ x < 5 + 5 * i) → σ x = S k2 0 x) → zH G (zPut S k σ (zMk (S k2 0 1) (S k2 0 2)) (S k 8)) s H locs → lv_has ls 3 [(0, .ref (za G k 0)), (1, .ref (za G k2 0)), (2, .int (zI i))] → W p l e r_X3_copyFrom s m args below meth c H locs 0 0 (MQ below (va_Qv (q_X3_copyFrom k k2 S) (zB G) (zA G)) args s 0 0 (zA G)) (F0 m 23 ls []) := by
    intro fu
    induction fu with
    | zero => intro i σ H locs ls hfu; omega
    | succ fu ih23 =>
      intro i σ H locs ls hfu hi hσ hH hl
      refine lv_iload_n hx hb dX3_copyFrom_23 rfl (lv_at hl 2 rfl) ?_
      refine zb_bi h dX3_copyFrom_24 (by decide) (by decide) ?_
      refine zb_cge (tgt := 95) h (by omega) (by omega) dX3_copyFrom_26 (by decide) (fun c_26 => ?_) (fun c_26 => ?_)
      · refine lv_aload_n hx hb dX3_copyFrom_95 rfl (lv_at hl 0 rfl) ?_
        refine lv_aload_n hx hb dX3_copyFrom_96 rfl (lv_at hl 1 rfl) ?_
        refine zg_3_7 h hH hk2 zf_X3_37 dX3_copyFrom_97 ?_
        rw [zP_n (by omega)]
        have f_97 := zW_4 hw2
        refine zu_3_7 h hH hk zf_X3_37 dX3_copyFrom_100 (fun H locs hH => ?_)
        rw [zs_P0] at hH
        refine lv_aload_n hx hb dX3_copyFrom_103 rfl (lv_at hl 0 rfl) ?_
        refine lv_aload_n hx hb dX3_copyFrom_104 rfl (lv_at hl 1 rfl) ?_
        refine zg_3_8 h hH hk2 zf_X3_41 dX3_copyFrom_105 ?_
        rw [zP_n (by omega)]
        have f_105 := zW_0 hw2
        refine zu_3_8 h hH hk zf_X3_41 dX3_copyFrom_108 (fun H locs hH => ?_)
        rw [zs_P0] at hH
        refine lv_aload_n hx hb dX3_copyFrom_111 rfl (lv_at hl 0 rfl) ?_
        refine lv_aload_n hx hb dX3_copyFrom_112 rfl (lv_at hl 1 rfl) ?_
        refine zg_3_9 h hH hk2 zf_X3_44 dX3_copyFrom_113 ?_
        rw [zP_n (by omega)]
        have f_113 := zW_3 hw2
        refine zu_3_9 h hH hk zf_X3_44 dX3_copyFrom_116 (fun H locs hH => ?_)
        rw [zs_P0] at hH
        have hH := zH_put (σ' := S k2 0) hk (zcp3 (fun x hx => hσ x (by omega))) (fun _ _ _ => rfl) (fun _ _ _ => rfl) hH
        refine zrv h hr hH ?_ dX3_copyFrom_119
        exact rfl
      · refine lv_aload_n hx hb dX3_copyFrom_29 rfl (lv_at hl 0 rfl) ?_
        refine zg_3_1 h hH hk zf_X3_18 dX3_copyFrom_30 ?_
        refine lv_iload_n hx hb dX3_copyFrom_33 rfl (lv_at hl 2 rfl) ?_
        refine lv_aload_n hx hb dX3_copyFrom_34 rfl (lv_at hl 1 rfl) ?_
        refine zg_3_1 h hH hk2 zf_X3_18 dX3_copyFrom_35 ?_
        refine lv_iload_n hx hb dX3_copyFrom_38 rfl (lv_at hl 2 rfl) ?_
        refine zld_ar_de h hH hk2 (by omega) dX3_copyFrom_39 ?_
        rw [zP_n (by omega)]
        have f_39 := zW_de hw2 (show 0 ≤ i ∧ i < 8 by omega)
        refine zst_ar_de h hH hk (by omega) dX3_copyFrom_40 (fun H locs hH => ?_)
        rw [zs_P0] at hH
        refine lv_aload_n hx hb dX3_copyFrom_41 rfl (lv_at hl 0 rfl) ?_
        refine zg_3_2 h hH hk zf_X3_22 dX3_copyFrom_42 ?_
        refine lv_iload_n hx hb dX3_copyFrom_45 rfl (lv_at hl 2 rfl) ?_
        refine lv_aload_n hx hb dX3_copyFrom_46 rfl (lv_at hl 1 rfl) ?_
        refine zg_3_2 h hH hk2 zf_X3_22 dX3_copyFrom_47 ?_
        refine lv_iload_n hx hb dX3_copyFrom_50 rfl (lv_at hl 2 rfl) ?_
        refine zld_ar_wa h hH hk2 (by omega) dX3_copyFrom_51 ?_
        rw [zP_n (by omega)]
        have f_51 := zW_wa hw2 (show 0 ≤ i ∧ i < 8 by omega)
        refine zst_ar_wa h hH hk (by omega) dX3_copyFrom_52 (fun H locs hH => ?_)
        rw [zs_P0] at hH
        refine lv_aload_n hx hb dX3_copyFrom_53 rfl (lv_at hl 0 rfl) ?_
        refine zg_3_3 h hH hk zf_X3_25 dX3_copyFrom_54 ?_
        refine lv_iload_n hx hb dX3_copyFrom_57 rfl (lv_at hl 2 rfl) ?_
        refine lv_aload_n hx hb dX3_copyFrom_58 rfl (lv_at hl 1 rfl) ?_
        refine zg_3_3 h hH hk2 zf_X3_25 dX3_copyFrom_59 ?_
        refine lv_iload_n hx hb dX3_copyFrom_62 rfl (lv_at hl 2 rfl) ?_
        refine zld_ar_bu h hH hk2 (by omega) dX3_copyFrom_63 ?_
        rw [zP_n (by omega)]
        have f_63 := zW_bu hw2 (show 0 ≤ i ∧ i < 8 by omega)
        refine zst_ar_bu h hH hk (by omega) dX3_copyFrom_64 (fun H locs hH => ?_)
        rw [zs_P0] at hH
        refine lv_aload_n hx hb dX3_copyFrom_65 rfl (lv_at hl 0 rfl) ?_
        refine zg_3_4 h hH hk zf_X3_28 dX3_copyFrom_66 ?_
        refine lv_iload_n hx hb dX3_copyFrom_69 rfl (lv_at hl 2 rfl) ?_
        refine lv_aload_n hx hb dX3_copyFrom_70 rfl (lv_at hl 1 rfl) ?_
        refine zg_3_4 h hH hk2 zf_X3_28 dX3_copyFrom_71 ?_
        refine lv_iload_n hx hb dX3_copyFrom_74 rfl (lv_at hl 2 rfl) ?_
        refine zld_ar_ho h hH hk2 (by omega) dX3_copyFrom_75 ?_
        rw [zP_n (by omega)]
        have f_75 := zW_ho hw2 (show 0 ≤ i ∧ i < 8 by omega)
        refine zst_ar_ho h hH hk (by omega) dX3_copyFrom_76 (fun H locs hH => ?_)
        rw [zs_P0] at hH
        refine lv_aload_n hx hb dX3_copyFrom_77 rfl (lv_at hl 0 rfl) ?_
        refine zg_3_5 h hH hk zf_X3_31 dX3_copyFrom_78 ?_
        refine lv_iload_n hx hb dX3_copyFrom_81 rfl (lv_at hl 2 rfl) ?_
        refine lv_aload_n hx hb dX3_copyFrom_82 rfl (lv_at hl 1 rfl) ?_
        refine zg_3_5 h hH hk2 zf_X3_31 dX3_copyFrom_83 ?_
        refine lv_iload_n hx hb dX3_copyFrom_86 rfl (lv_at hl 2 rfl) ?_
        refine zld_ar_nb h hH hk2 (by omega) dX3_copyFrom_87 ?_
        rw [zP_n (by omega)]
        have f_87 := zW_nb hw2 (show 0 ≤ i ∧ i < 8 by omega)
        refine zst_ar_nb h hH hk (by omega) dX3_copyFrom_88 (fun H locs hH => ?_)
        rw [zs_P0] at hH
        refine lv_iinc (v := zI (i + 1)) (lv' := [(2, .int (zI (i + 1))), (0, .ref (za G k 0)), (1, .ref (za G k2 0))]) hx hb dX3_copyFrom_89 hl (k := 2) rfl (zI_add _ _) (by decide) rfl (fun ls hl => ?_)
        refine lv_goto (tgt := 23) hx hb dX3_copyFrom_92 (by decide) ?_
        exact ih23 (i + 1) (zup (zup (zup (zup (zup σ (5 + 5 * i) (S k2 0 (5 + 5 * i))) (5 + 5 * i + 1) (S k2 0 (5 + 5 * i + 1))) (5 + 5 * i + 2) (S k2 0 (5 + 5 * i + 2))) (5 + 5 * i + 3) (S k2 0 (5 + 5 * i + 3))) (5 + 5 * i + 4) (S k2 0 (5 + 5 * i + 4))) _ _ _ (by omega) (by omega) (zcp5 hσ) hH (lv_sub hl [1, 2, 0] rfl)
  refine lv_aload_n hx hb dX3_copyFrom_0 rfl (lv_at hl 0 rfl) ?_
  refine zg_3_0 h hH hk zf_X3_12 dX3_copyFrom_1 ?_
  refine lv_aload_n hx hb dX3_copyFrom_4 rfl (lv_at hl 1 rfl) ?_
  refine zg_3_0 h hH hk2 zf_X3_12 dX3_copyFrom_5 ?_
  refine zgn_2_1 h hH hk2 zfn_X3_47 dX3_copyFrom_8 ?_
  rw [zP_n (by omega)]
  have f_8 := zW_1 hw2
  refine lv_aload_n hx hb dX3_copyFrom_11 rfl (lv_at hl 1 rfl) ?_
  refine zg_3_0 h hH hk2 zf_X3_12 dX3_copyFrom_12 ?_
  refine zgn_2_2 h hH hk2 zfn_X3_50 dX3_copyFrom_15 ?_
  rw [zP_n (by omega)]
  have f_15 := zW_2 hw2
  refine zcVv h hH (zr_2 h hH hk) (As := [.int (zI (S k2 0 1)), .int (zI (S k2 0 2))]) (rest := []) (c_X2_take l G hG k hk (zPut S k (S k 0) (S k 2) (S k 8)) (S k2 0 1) (S k2 0 2) (by omega) (by omega)) zce_X2_take zcv_X2_take zm_X3_53 hl.1 rfl rfl ⟨rfl, rfl⟩ ⟨Nat.le_of_ble_eq_true rfl, Nat.le_of_ble_eq_true rfl⟩ (Nat.le_of_ble_eq_true rfl) ⟨Nat.zero_le _, Nat.zero_le _⟩ dX3_copyFrom_18 (fun S_18 H locs hq hH => ?_)
  obtain rfl := hq
  simp only [zP_P, zP_0, zP_8] at hH
  refine zb_ic h dX3_copyFrom_21 ?_
  refine lv_istore_n (lv' := [(2, .int (zI 0)), (0, .ref (za G k 0)), (1, .ref (za G k2 0))]) hx hb dX3_copyFrom_22 rfl hl (by decide) rfl (fun ls hl => ?_)
  exact C23 ((8 - 0 : Int).toNat + 1) 0 (zup (zup (S k 0) 1 (S k2 0 1)) 2 (S k2 0 2)) _ _ _ (by omega) (by omega) (fun x hx => (by omega : x = 1 ∨ x = 2).elim (fun e => by rw [e, zup_n (by omega), zup_s]) (fun e => by rw [e, zup_s])) hH (lv_sub hl [1, 2, 0] rfl)
theorem dX3_addZone_0 : decode cX3_addZone 0 = .ok (.aload_n 0, 1) := by decide +kernel
theorem dX3_addZone_1 : decode cX3_addZone 1 = .ok (.getfield 37, 3) := by decide +kernel
theorem dX3_addZone_4 : decode cX3_addZone 4 = .ok (.istore_n 3, 1) := by decide +kernel
theorem dX3_addZone_5 : decode cX3_addZone 5 = .ok (.iload_n 3, 1) := by decide +kernel
theorem dX3_addZone_6 : decode cX3_addZone 6 = .ok (.ifCond .lt 9, 3) := by decide +kernel
theorem dX3_addZone_9 : decode cX3_addZone 9 = .ok (.iload_n 3, 1) := by decide +kernel
theorem dX3_addZone_10 : decode cX3_addZone 10 = .ok (.bipush 8, 2) := by decide +kernel
theorem dX3_addZone_12 : decode cX3_addZone 12 = .ok (.if_icmp .lt 5, 3) := by decide +kernel
theorem dX3_addZone_17 : decode cX3_addZone 17 = .ok (.aload_n 0, 1) := by decide +kernel
theorem dX3_addZone_18 : decode cX3_addZone 18 = .ok (.getfield 18, 3) := by decide +kernel
theorem dX3_addZone_21 : decode cX3_addZone 21 = .ok (.iload_n 3, 1) := by decide +kernel
theorem dX3_addZone_22 : decode cX3_addZone 22 = .ok (.iload_n 1, 1) := by decide +kernel
theorem dX3_addZone_23 : decode cX3_addZone 23 = .ok (.iastore, 1) := by decide +kernel
theorem dX3_addZone_24 : decode cX3_addZone 24 = .ok (.aload_n 0, 1) := by decide +kernel
theorem dX3_addZone_25 : decode cX3_addZone 25 = .ok (.getfield 22, 3) := by decide +kernel
theorem dX3_addZone_28 : decode cX3_addZone 28 = .ok (.iload_n 3, 1) := by decide +kernel
theorem dX3_addZone_29 : decode cX3_addZone 29 = .ok (.iload_n 2, 1) := by decide +kernel
theorem dX3_addZone_30 : decode cX3_addZone 30 = .ok (.iastore, 1) := by decide +kernel
theorem dX3_addZone_31 : decode cX3_addZone 31 = .ok (.aload_n 0, 1) := by decide +kernel
theorem dX3_addZone_32 : decode cX3_addZone 32 = .ok (.getfield 25, 3) := by decide +kernel
theorem dX3_addZone_35 : decode cX3_addZone 35 = .ok (.iload_n 3, 1) := by decide +kernel
theorem dX3_addZone_36 : decode cX3_addZone 36 = .ok (.iconst 0, 1) := by decide +kernel
theorem dX3_addZone_37 : decode cX3_addZone 37 = .ok (.iastore, 1) := by decide +kernel
theorem dX3_addZone_38 : decode cX3_addZone 38 = .ok (.aload_n 0, 1) := by decide +kernel
theorem dX3_addZone_39 : decode cX3_addZone 39 = .ok (.getfield 28, 3) := by decide +kernel
theorem dX3_addZone_42 : decode cX3_addZone 42 = .ok (.iload_n 3, 1) := by decide +kernel
theorem dX3_addZone_43 : decode cX3_addZone 43 = .ok (.iconst 0, 1) := by decide +kernel
theorem dX3_addZone_44 : decode cX3_addZone 44 = .ok (.iastore, 1) := by decide +kernel
theorem dX3_addZone_45 : decode cX3_addZone 45 = .ok (.aload_n 0, 1) := by decide +kernel
theorem dX3_addZone_46 : decode cX3_addZone 46 = .ok (.getfield 31, 3) := by decide +kernel
theorem dX3_addZone_49 : decode cX3_addZone 49 = .ok (.iload_n 3, 1) := by decide +kernel
theorem dX3_addZone_50 : decode cX3_addZone 50 = .ok (.iconst 0, 1) := by decide +kernel
theorem dX3_addZone_51 : decode cX3_addZone 51 = .ok (.iastore, 1) := by decide +kernel
theorem dX3_addZone_52 : decode cX3_addZone 52 = .ok (.aload_n 0, 1) := by decide +kernel
theorem dX3_addZone_53 : decode cX3_addZone 53 = .ok (.dup, 1) := by decide +kernel
theorem dX3_addZone_54 : decode cX3_addZone 54 = .ok (.getfield 37, 3) := by decide +kernel
theorem dX3_addZone_57 : decode cX3_addZone 57 = .ok (.iconst 1, 1) := by decide +kernel
theorem dX3_addZone_58 : decode cX3_addZone 58 = .ok (.iadd, 1) := by decide +kernel
theorem dX3_addZone_59 : decode cX3_addZone 59 = .ok (.putfield 37, 3) := by decide +kernel
theorem dX3_addZone_62 : decode cX3_addZone 62 = .ok (.iload_n 3, 1) := by decide +kernel
theorem dX3_addZone_63 : decode cX3_addZone 63 = .ok (.ireturn, 1) := by decide +kernel
def q_X3_addZone_ok (k : Nat) (S : zM) (d w : Int) : Int32 → zM → Prop := fun r S1 => r = zI (S k 0 4) ∧ (zPut S k (tAdd (S k 0) d w) (S k 2) (S k 8)) = S1
def r_X3_addZone_ok : Room := { frames := 0, cells := 0, slots := 0, locals := 0 }
set_option maxHeartbeats 4000000 in
set_option maxRecDepth 100000 in
theorem c_X3_addZone_ok (l : Launch) (G : zG) (hG : zok G) (k : Nat) (hk : k < 8) (S : zM) (d w : Int) (hd : 0 ≤ d ∧ d ≤ 24) (hwn : 0 ≤ w ∧ w ≤ 10) (hful : S k 0 4 < 8) (hw : zW (S k 0)) : Met l yX3_addZone (Cond.code yX3_addZone cX3_addZone 4 (some FieldType.int) :: zTbl) r_X3_addZone_ok (va_Pc [.ref (za G k 0), .int (zI d), .int (zI w)] (zB G S)) (va_Qi (q_X3_addZone_ok k S d w) (zB G) (zA G)) 0 0 (zA G) := by
  refine zMet [(0, .ref (za G k 0)), (1, .int (zI d)), (2, .int (zI w))] hG (by decide) (Nat.le_of_ble_eq_true rfl) rfl (fun p e s m args below meth c ls h hx hb hr hH hl => ?_)
  rw [← zP_id S k] at hH
  refine lv_aload_n hx hb dX3_addZone_0 rfl (lv_at hl 0 rfl) ?_
  refine zg_3_7 h hH hk zf_X3_37 dX3_addZone_1 ?_
  rw [zP_0]
  have f_1 := zW_4 hw
  refine lv_istore_n (lv' := [(3, .int (zI (S k 0 4))), (0, .ref (za G k 0)), (1, .int (zI d)), (2, .int (zI w))]) hx hb dX3_addZone_4 rfl hl (by decide) rfl (fun ls hl => ?_)
  have f4 := zW_4 hw
  refine lv_iload_n hx hb dX3_addZone_5 rfl (lv_at hl 0 rfl) ?_
  refine zb_ilt (tgt := 15) h (by omega) dX3_addZone_6 (by decide) (fun c_6 => ?_) (fun c_6 => ?_)
  · exact absurd c_6 (by omega)
  · refine lv_iload_n hx hb dX3_addZone_9 rfl (lv_at hl 0 rfl) ?_
    refine zb_bi h dX3_addZone_10 (by decide) (by decide) ?_
    refine zb_clt (tgt := 17) h (by omega) (by omega) dX3_addZone_12 (by decide) (fun c_12 => ?_) (fun c_12 => ?_)
    · refine lv_aload_n hx hb dX3_addZone_17 rfl (lv_at hl 1 rfl) ?_
      refine zg_3_1 h hH hk zf_X3_18 dX3_addZone_18 ?_
      refine lv_iload_n hx hb dX3_addZone_21 rfl (lv_at hl 0 rfl) ?_
      refine lv_iload_n hx hb dX3_addZone_22 rfl (lv_at hl 2 rfl) ?_
      refine zst_ar_de h hH hk (by omega) dX3_addZone_23 (fun H locs hH => ?_)
      rw [zs_P0] at hH
      refine lv_aload_n hx hb dX3_addZone_24 rfl (lv_at hl 1 rfl) ?_
      refine zg_3_2 h hH hk zf_X3_22 dX3_addZone_25 ?_
      refine lv_iload_n hx hb dX3_addZone_28 rfl (lv_at hl 0 rfl) ?_
      refine lv_iload_n hx hb dX3_addZone_29 rfl (lv_at hl 3 rfl) ?_
      refine zst_ar_wa h hH hk (by omega) dX3_addZone_30 (fun H locs hH => ?_)
      rw [zs_P0] at hH
      refine lv_aload_n hx hb dX3_addZone_31 rfl (lv_at hl 1 rfl) ?_
      refine zg_3_3 h hH hk zf_X3_25 dX3_addZone_32 ?_
      refine lv_iload_n hx hb dX3_addZone_35 rfl (lv_at hl 0 rfl) ?_
      refine zb_ic h dX3_addZone_36 ?_
      refine zst_ar_bu h hH hk (by omega) dX3_addZone_37 (fun H locs hH => ?_)
      rw [zs_P0] at hH
      refine lv_aload_n hx hb dX3_addZone_38 rfl (lv_at hl 1 rfl) ?_
      refine zg_3_4 h hH hk zf_X3_28 dX3_addZone_39 ?_
      refine lv_iload_n hx hb dX3_addZone_42 rfl (lv_at hl 0 rfl) ?_
      refine zb_ic h dX3_addZone_43 ?_
      refine zst_ar_ho h hH hk (by omega) dX3_addZone_44 (fun H locs hH => ?_)
      rw [zs_P0] at hH
      refine lv_aload_n hx hb dX3_addZone_45 rfl (lv_at hl 1 rfl) ?_
      refine zg_3_5 h hH hk zf_X3_31 dX3_addZone_46 ?_
      refine lv_iload_n hx hb dX3_addZone_49 rfl (lv_at hl 0 rfl) ?_
      refine zb_ic h dX3_addZone_50 ?_
      refine zst_ar_nb h hH hk (by omega) dX3_addZone_51 (fun H locs hH => ?_)
      rw [zs_P0] at hH
      refine lv_aload_n hx hb dX3_addZone_52 rfl (lv_at hl 1 rfl) ?_
      refine lv_dup hx hb dX3_addZone_53 rfl ?_
      refine zg_3_7 h hH hk zf_X3_37 dX3_addZone_54 ?_
      rw [zP_0]
      rw [show (zup (zup (zup (zup (zup (S k 0) (5 + 5 * (S k 0 4)) d) (5 + 5 * (S k 0 4) + 1) w) (5 + 5 * (S k 0 4) + 2) 0) (5 + 5 * (S k 0 4) + 3) 0) (5 + 5 * (S k 0 4) + 4) 0 4 : Int) = S k 0 4 from by (first | rw [zup_s] | rw [zup_n (by omega)]); (first | rw [zup_s] | rw [zup_n (by omega)]); (first | rw [zup_s] | rw [zup_n (by omega)]); (first | rw [zup_s] | rw [zup_n (by omega)]); (first | rw [zup_s] | rw [zup_n (by omega)])]
      have f_54 := zW_4 hw
      refine zb_ic h dX3_addZone_57 ?_
      refine zb_iadd h dX3_addZone_58 ?_
      refine zu_3_7 h hH hk zf_X3_37 dX3_addZone_59 (fun H locs hH => ?_)
      rw [zs_P0] at hH
      refine lv_iload_n hx hb dX3_addZone_62 rfl (lv_at hl 0 rfl) ?_
      refine zri h hr hH ?_ dX3_addZone_63
      exact ⟨rfl, rfl⟩
    · exact absurd c_12 (by omega)
theorem dX3_addZone_15 : decode cX3_addZone 15 = .ok (.iconst (-1), 1) := by decide +kernel
theorem dX3_addZone_16 : decode cX3_addZone 16 = .ok (.ireturn, 1) := by decide +kernel
def q_X3_addZone_no (k : Nat) (S : zM) (d w : Int) : Int32 → zM → Prop := fun r S1 => r = zI (-1) ∧ S = S1
def r_X3_addZone_no : Room := { frames := 0, cells := 0, slots := 0, locals := 0 }
set_option maxHeartbeats 4000000 in
set_option maxRecDepth 100000 in
theorem c_X3_addZone_no (l : Launch) (G : zG) (hG : zok G) (k : Nat) (hk : k < 8) (S : zM) (d w : Int) (hful : 8 ≤ S k 0 4) (hw : zW (S k 0)) : Met l yX3_addZone (Cond.code yX3_addZone cX3_addZone 4 (some FieldType.int) :: zTbl) r_X3_addZone_no (va_Pc [.ref (za G k 0), .int (zI d), .int (zI w)] (zB G S)) (va_Qi (q_X3_addZone_no k S d w) (zB G) (zA G)) 0 0 (zA G) := by
  refine zMet [(0, .ref (za G k 0)), (1, .int (zI d)), (2, .int (zI w))] hG (by decide) (Nat.le_of_ble_eq_true rfl) rfl (fun p e s m args below meth c ls h hx hb hr hH hl => ?_)
  refine lv_aload_n hx hb dX3_addZone_0 rfl (lv_at hl 0 rfl) ?_
  refine zg_3_7 h hH hk zf_X3_37 dX3_addZone_1 ?_
  have f_1 := zW_4 hw
  refine lv_istore_n (lv' := [(3, .int (zI (S k 0 4))), (0, .ref (za G k 0)), (1, .int (zI d)), (2, .int (zI w))]) hx hb dX3_addZone_4 rfl hl (by decide) rfl (fun ls hl => ?_)
  have f4 := zW_4 hw
  refine lv_iload_n hx hb dX3_addZone_5 rfl (lv_at hl 0 rfl) ?_
  refine zb_ilt (tgt := 15) h (by omega) dX3_addZone_6 (by decide) (fun c_6 => ?_) (fun c_6 => ?_)
  · exact absurd c_6 (by omega)
  · refine lv_iload_n hx hb dX3_addZone_9 rfl (lv_at hl 0 rfl) ?_
    refine zb_bi h dX3_addZone_10 (by decide) (by decide) ?_
    refine zb_clt (tgt := 17) h (by omega) (by omega) dX3_addZone_12 (by decide) (fun c_12 => ?_) (fun c_12 => ?_)
    · exact absurd c_12 (by omega)
    · refine zb_ic h dX3_addZone_15 ?_
      refine zri h hr hH ?_ dX3_addZone_16
      exact ⟨rfl, rfl⟩
theorem dX3_setNeighbours_0 : decode cX3_setNeighbours 0 = .ok (.aload_n 0, 1) := by decide +kernel
theorem dX3_setNeighbours_1 : decode cX3_setNeighbours 1 = .ok (.iload_n 1, 1) := by decide +kernel
theorem dX3_setNeighbours_2 : decode cX3_setNeighbours 2 = .ok (.invokevirtual 57, 3) := by decide +kernel
theorem dX3_setNeighbours_5 : decode cX3_setNeighbours 5 = .ok (.ifCond .eq 11, 3) := by decide +kernel
theorem dX3_setNeighbours_8 : decode cX3_setNeighbours 8 = .ok (.aload_n 0, 1) := by decide +kernel
theorem dX3_setNeighbours_9 : decode cX3_setNeighbours 9 = .ok (.iload_n 2, 1) := by decide +kernel
theorem dX3_setNeighbours_10 : decode cX3_setNeighbours 10 = .ok (.invokevirtual 57, 3) := by decide +kernel
theorem dX3_setNeighbours_13 : decode cX3_setNeighbours 13 = .ok (.ifCond .ne 4, 3) := by decide +kernel
theorem dX3_setNeighbours_17 : decode cX3_setNeighbours 17 = .ok (.iload_n 3, 1) := by decide +kernel
theorem dX3_setNeighbours_18 : decode cX3_setNeighbours 18 = .ok (.ifCond .eq 30, 3) := by decide +kernel
theorem dX3_setNeighbours_21 : decode cX3_setNeighbours 21 = .ok (.aload_n 0, 1) := by decide +kernel
theorem dX3_setNeighbours_22 : decode cX3_setNeighbours 22 = .ok (.getfield 31, 3) := by decide +kernel
theorem dX3_setNeighbours_25 : decode cX3_setNeighbours 25 = .ok (.iload_n 1, 1) := by decide +kernel
theorem dX3_setNeighbours_26 : decode cX3_setNeighbours 26 = .ok (.dup2, 1) := by decide +kernel
theorem dX3_setNeighbours_27 : decode cX3_setNeighbours 27 = .ok (.iaload, 1) := by decide +kernel
theorem dX3_setNeighbours_28 : decode cX3_setNeighbours 28 = .ok (.iconst 1, 1) := by decide +kernel
theorem dX3_setNeighbours_29 : decode cX3_setNeighbours 29 = .ok (.iload_n 2, 1) := by decide +kernel
theorem dX3_setNeighbours_30 : decode cX3_setNeighbours 30 = .ok (.ishl, 1) := by decide +kernel
theorem dX3_setNeighbours_31 : decode cX3_setNeighbours 31 = .ok (.ior, 1) := by decide +kernel
theorem dX3_setNeighbours_32 : decode cX3_setNeighbours 32 = .ok (.iastore, 1) := by decide +kernel
theorem dX3_setNeighbours_33 : decode cX3_setNeighbours 33 = .ok (.aload_n 0, 1) := by decide +kernel
theorem dX3_setNeighbours_34 : decode cX3_setNeighbours 34 = .ok (.getfield 31, 3) := by decide +kernel
theorem dX3_setNeighbours_37 : decode cX3_setNeighbours 37 = .ok (.iload_n 2, 1) := by decide +kernel
theorem dX3_setNeighbours_38 : decode cX3_setNeighbours 38 = .ok (.dup2, 1) := by decide +kernel
theorem dX3_setNeighbours_39 : decode cX3_setNeighbours 39 = .ok (.iaload, 1) := by decide +kernel
theorem dX3_setNeighbours_40 : decode cX3_setNeighbours 40 = .ok (.iconst 1, 1) := by decide +kernel
theorem dX3_setNeighbours_41 : decode cX3_setNeighbours 41 = .ok (.iload_n 1, 1) := by decide +kernel
theorem dX3_setNeighbours_42 : decode cX3_setNeighbours 42 = .ok (.ishl, 1) := by decide +kernel
theorem dX3_setNeighbours_43 : decode cX3_setNeighbours 43 = .ok (.ior, 1) := by decide +kernel
theorem dX3_setNeighbours_44 : decode cX3_setNeighbours 44 = .ok (.iastore, 1) := by decide +kernel
theorem dX3_setNeighbours_45 : decode cX3_setNeighbours 45 = .ok (.goto 31, 3) := by decide +kernel
theorem dX3_setNeighbours_48 : decode cX3_setNeighbours 48 = .ok (.aload_n 0, 1) := by decide +kernel
theorem dX3_setNeighbours_49 : decode cX3_setNeighbours 49 = .ok (.getfield 31, 3) := by decide +kernel
theorem dX3_setNeighbours_52 : decode cX3_setNeighbours 52 = .ok (.iload_n 1, 1) := by decide +kernel
theorem dX3_setNeighbours_53 : decode cX3_setNeighbours 53 = .ok (.dup2, 1) := by decide +kernel
theorem dX3_setNeighbours_54 : decode cX3_setNeighbours 54 = .ok (.iaload, 1) := by decide +kernel
theorem dX3_setNeighbours_55 : decode cX3_setNeighbours 55 = .ok (.iconst 1, 1) := by decide +kernel
theorem dX3_setNeighbours_56 : decode cX3_setNeighbours 56 = .ok (.iload_n 2, 1) := by decide +kernel
theorem dX3_setNeighbours_57 : decode cX3_setNeighbours 57 = .ok (.ishl, 1) := by decide +kernel
theorem dX3_setNeighbours_58 : decode cX3_setNeighbours 58 = .ok (.iconst (-1), 1) := by decide +kernel
theorem dX3_setNeighbours_59 : decode cX3_setNeighbours 59 = .ok (.ixor, 1) := by decide +kernel
theorem dX3_setNeighbours_60 : decode cX3_setNeighbours 60 = .ok (.iand, 1) := by decide +kernel
theorem dX3_setNeighbours_61 : decode cX3_setNeighbours 61 = .ok (.iastore, 1) := by decide +kernel
theorem dX3_setNeighbours_62 : decode cX3_setNeighbours 62 = .ok (.aload_n 0, 1) := by decide +kernel
theorem dX3_setNeighbours_63 : decode cX3_setNeighbours 63 = .ok (.getfield 31, 3) := by decide +kernel
theorem dX3_setNeighbours_66 : decode cX3_setNeighbours 66 = .ok (.iload_n 2, 1) := by decide +kernel
theorem dX3_setNeighbours_67 : decode cX3_setNeighbours 67 = .ok (.dup2, 1) := by decide +kernel
theorem dX3_setNeighbours_68 : decode cX3_setNeighbours 68 = .ok (.iaload, 1) := by decide +kernel
theorem dX3_setNeighbours_69 : decode cX3_setNeighbours 69 = .ok (.iconst 1, 1) := by decide +kernel
theorem dX3_setNeighbours_70 : decode cX3_setNeighbours 70 = .ok (.iload_n 1, 1) := by decide +kernel
theorem dX3_setNeighbours_71 : decode cX3_setNeighbours 71 = .ok (.ishl, 1) := by decide +kernel
theorem dX3_setNeighbours_72 : decode cX3_setNeighbours 72 = .ok (.iconst (-1), 1) := by decide +kernel
theorem dX3_setNeighbours_73 : decode cX3_setNeighbours 73 = .ok (.ixor, 1) := by decide +kernel
theorem dX3_setNeighbours_74 : decode cX3_setNeighbours 74 = .ok (.iand, 1) := by decide +kernel
theorem dX3_setNeighbours_75 : decode cX3_setNeighbours 75 = .ok (.iastore, 1) := by decide +kernel
theorem dX3_setNeighbours_76 : decode cX3_setNeighbours 76 = .ok (.return_, 1) := by decide +kernel
def q_X3_setNeighbours (k : Nat) (S : zM) (a b lk : Int) : zM → Prop := fun S1 => (zPut S k (tLk (S k 0) a b lk) (S k 2) (S k 8)) = S1
def r_X3_setNeighbours : Room := { frames := 1, cells := 0, slots := 0, locals := 21 }
set_option maxHeartbeats 4000000 in
set_option maxRecDepth 100000 in
theorem c_X3_setNeighbours (l : Launch) (G : zG) (hG : zok G) (k : Nat) (hk : k < 8) (S : zM) (a b lk : Int) (ha : 0 ≤ a ∧ a < S k 0 4) (hb2 : 0 ≤ b ∧ b < S k 0 4) (hab : a ≠ b) (hlk : lk = 0 ∨ lk = 1) (hw : zW (S k 0)) : Met l yX3_setNeighbours (Cond.code yX3_setNeighbours cX3_setNeighbours 4 (none : Option FieldType) :: zTbl) r_X3_setNeighbours (va_Pc [.ref (za G k 0), .int (zI a), .int (zI b), .int (zI lk)] (zB G S)) (va_Qv (q_X3_setNeighbours k S a b lk) (zB G) (zA G)) 0 0 (zA G) := by
  refine zMet [(0, .ref (za G k 0)), (1, .int (zI a)), (2, .int (zI b)), (3, .int (zI lk))] hG (by decide) (Nat.le_of_ble_eq_true rfl) rfl (fun p e s m args below meth c ls h hx hb hr hH hl => ?_)
  rw [← zP_id S k] at hH
  have f4 := zW_4 hw
  refine lv_aload_n hx hb dX3_setNeighbours_0 rfl (lv_at hl 0 rfl) ?_
  refine lv_iload_n hx hb dX3_setNeighbours_1 rfl (lv_at hl 1 rfl) ?_
  refine zcVi h hH (zr_3 h hH hk) (As := [.int (zI a)]) (rest := []) (c_X3_hasZone l G hG k hk (zPut S k (S k 0) (S k 2) (S k 8)) a (by omega) (zP_hw hw)) zce_X3_hasZone zcv_X3_hasZone zm_X3_57 hl.1 rfl rfl ⟨rfl, rfl⟩ ⟨Nat.le_of_ble_eq_true rfl, Nat.le_of_ble_eq_true rfl⟩ (Nat.le_of_ble_eq_true rfl) ⟨Nat.zero_le _, Nat.zero_le _⟩ dX3_setNeighbours_2 (fun r_2 S_2 H locs hq hH => ?_)
  obtain ⟨b_2, rfl, hb_2, rfl⟩ := hq
  (try rw [zP_0] at hb_2)
  refine zb_ieq (tgt := 16) h (by omega) dX3_setNeighbours_5 (by decide) (fun c_5 => ?_) (fun c_5 => ?_)
  · exact absurd c_5 (by omega)
  · refine lv_aload_n hx hb dX3_setNeighbours_8 rfl (lv_at hl 0 rfl) ?_
    refine lv_iload_n hx hb dX3_setNeighbours_9 rfl (lv_at hl 2 rfl) ?_
    refine zcVi h hH (zr_3 h hH hk) (As := [.int (zI b)]) (rest := []) (c_X3_hasZone l G hG k hk (zPut S k (S k 0) (S k 2) (S k 8)) b (by omega) (zP_hw hw)) zce_X3_hasZone zcv_X3_hasZone zm_X3_57 hl.1 rfl rfl ⟨rfl, rfl⟩ ⟨Nat.le_of_ble_eq_true rfl, Nat.le_of_ble_eq_true rfl⟩ (Nat.le_of_ble_eq_true rfl) ⟨Nat.zero_le _, Nat.zero_le _⟩ dX3_setNeighbours_10 (fun r_10 S_10 H locs hq hH => ?_)
    obtain ⟨b_10, rfl, hb_10, rfl⟩ := hq
    (try rw [zP_0] at hb_10)
    refine zb_ine (tgt := 17) h (by omega) dX3_setNeighbours_13 (by decide) (fun c_13 => ?_) (fun c_13 => ?_)
    · refine lv_iload_n hx hb dX3_setNeighbours_17 rfl (lv_at hl 3 rfl) ?_
      refine zb_ieq (tgt := 48) h (by omega) dX3_setNeighbours_18 (by decide) (fun c_18 => ?_) (fun c_18 => ?_)
      · refine lv_aload_n hx hb dX3_setNeighbours_48 rfl (lv_at hl 0 rfl) ?_
        refine zg_3_5 h hH hk zf_X3_31 dX3_setNeighbours_49 ?_
        refine lv_iload_n hx hb dX3_setNeighbours_52 rfl (lv_at hl 1 rfl) ?_
        refine lv_dup2_11 hx hb dX3_setNeighbours_53 rfl rfl ?_
        refine zld_ar_nb h hH hk (by omega) dX3_setNeighbours_54 ?_
        rw [zP_0]
        have f_54 := zW_nb hw (show 0 ≤ a ∧ a < 8 by omega)
        refine zb_ic h dX3_setNeighbours_55 ?_
        refine lv_iload_n hx hb dX3_setNeighbours_56 rfl (lv_at hl 2 rfl) ?_
        refine zb_ishl h (by omega) (by omega) (zsh1 (by omega)) dX3_setNeighbours_57 ?_
        refine zb_ic h dX3_setNeighbours_58 ?_
        refine zb_ixor h dX3_setNeighbours_59 ?_
        refine zb_iand h dX3_setNeighbours_60 ?_
        refine zst_ar_nb h hH hk (by omega) dX3_setNeighbours_61 (fun H locs hH => ?_)
        rw [zs_P0] at hH
        refine lv_aload_n hx hb dX3_setNeighbours_62 rfl (lv_at hl 0 rfl) ?_
        refine zg_3_5 h hH hk zf_X3_31 dX3_setNeighbours_63 ?_
        refine lv_iload_n hx hb dX3_setNeighbours_66 rfl (lv_at hl 2 rfl) ?_
        refine lv_dup2_11 hx hb dX3_setNeighbours_67 rfl rfl ?_
        refine zld_ar_nb h hH hk (by omega) dX3_setNeighbours_68 ?_
        rw [zP_0]
        rw [show (zup (S k 0) (5 + 5 * a + 4) (zand (S k 0 (5 + 5 * a + 4)) (zxor (1 * 2 ^ b.toNat) (-1))) (5 + 5 * b + 4) : Int) = S k 0 (5 + 5 * b + 4) from by (first | rw [zup_s] | rw [zup_n (by omega)])]
        have f_68 := zW_nb hw (show 0 ≤ b ∧ b < 8 by omega)
        refine zb_ic h dX3_setNeighbours_69 ?_
        refine lv_iload_n hx hb dX3_setNeighbours_70 rfl (lv_at hl 1 rfl) ?_
        refine zb_ishl h (by omega) (by omega) (zsh1 (by omega)) dX3_setNeighbours_71 ?_
        refine zb_ic h dX3_setNeighbours_72 ?_
        refine zb_ixor h dX3_setNeighbours_73 ?_
        refine zb_iand h dX3_setNeighbours_74 ?_
        refine zst_ar_nb h hH hk (by omega) dX3_setNeighbours_75 (fun H locs hH => ?_)
        rw [zs_P0] at hH
        refine zrv h hr hH ?_ dX3_setNeighbours_76
        first | (exact congrArg (fun σ => zPut S k σ (S k 2) (S k 8)) (by unfold tLk; rw [if_pos (by omega)]; rfl)) | (exact congrArg (fun σ => zPut S k σ (S k 2) (S k 8)) (by unfold tLk; rw [if_neg (by omega)]; rfl))
      · refine lv_aload_n hx hb dX3_setNeighbours_21 rfl (lv_at hl 0 rfl) ?_
        refine zg_3_5 h hH hk zf_X3_31 dX3_setNeighbours_22 ?_
        refine lv_iload_n hx hb dX3_setNeighbours_25 rfl (lv_at hl 1 rfl) ?_
        refine lv_dup2_11 hx hb dX3_setNeighbours_26 rfl rfl ?_
        refine zld_ar_nb h hH hk (by omega) dX3_setNeighbours_27 ?_
        rw [zP_0]
        have f_27 := zW_nb hw (show 0 ≤ a ∧ a < 8 by omega)
        refine zb_ic h dX3_setNeighbours_28 ?_
        refine lv_iload_n hx hb dX3_setNeighbours_29 rfl (lv_at hl 2 rfl) ?_
        refine zb_ishl h (by omega) (by omega) (zsh1 (by omega)) dX3_setNeighbours_30 ?_
        refine zb_ior h dX3_setNeighbours_31 ?_
        refine zst_ar_nb h hH hk (by omega) dX3_setNeighbours_32 (fun H locs hH => ?_)
        rw [zs_P0] at hH
        refine lv_aload_n hx hb dX3_setNeighbours_33 rfl (lv_at hl 0 rfl) ?_
        refine zg_3_5 h hH hk zf_X3_31 dX3_setNeighbours_34 ?_
        refine lv_iload_n hx hb dX3_setNeighbours_37 rfl (lv_at hl 2 rfl) ?_
        refine lv_dup2_11 hx hb dX3_setNeighbours_38 rfl rfl ?_
        refine zld_ar_nb h hH hk (by omega) dX3_setNeighbours_39 ?_
        rw [zP_0]
        rw [show (zup (S k 0) (5 + 5 * a + 4) (zor (S k 0 (5 + 5 * a + 4)) (1 * 2 ^ b.toNat)) (5 + 5 * b + 4) : Int) = S k 0 (5 + 5 * b + 4) from by (first | rw [zup_s] | rw [zup_n (by omega)])]
        have f_39 := zW_nb hw (show 0 ≤ b ∧ b < 8 by omega)
        refine zb_ic h dX3_setNeighbours_40 ?_
        refine lv_iload_n hx hb dX3_setNeighbours_41 rfl (lv_at hl 1 rfl) ?_
        refine zb_ishl h (by omega) (by omega) (zsh1 (by omega)) dX3_setNeighbours_42 ?_
        refine zb_ior h dX3_setNeighbours_43 ?_
        refine zst_ar_nb h hH hk (by omega) dX3_setNeighbours_44 (fun H locs hH => ?_)
        rw [zs_P0] at hH
        refine lv_goto (tgt := 76) hx hb dX3_setNeighbours_45 (by decide) ?_
        refine zrv h hr hH ?_ dX3_setNeighbours_76
        first | (exact congrArg (fun σ => zPut S k σ (S k 2) (S k 8)) (by unfold tLk; rw [if_pos (by omega)]; rfl)) | (exact congrArg (fun σ => zPut S k σ (S k 2) (S k 8)) (by unfold tLk; rw [if_neg (by omega)]; rfl))
    · exact absurd c_13 (by omega)
end
section
section ZJ3
variable {p : Program} {l : Launch} {e : Env} {R : Room} {s : State} {m : MethodId} {args : Array Value} {below : List Frame} {meth : Method} {c : Code} {H : Heap} {locs : List Loc} {cells slots : Nat} {Q : State → Prop} {cc : ByteArray} {pc : Nat} {ls : Array Slot} {rest : List Value} {nL : Nat} {own : String} {G : zG} {S : zM}
theorem zb_top {x y : Int} (e0 : x = y) (k : W p l e R s m args below meth c H locs cells slots Q (F0 m pc ls (.int (zI y) :: rest))) : W p l e R s m args below meth c H locs cells slots Q (F0 m pc ls (.int (zI x) :: rest)) := e0 ▸ k
theorem zb_idivq (h : zE p s m args meth c cc nL own G) {x y : Int} (r : Int) (hr : zI x / zI y = zI r) (hy : ¬ zI y = 0) (hdg : decode cc pc = .ok (.idiv, 1)) (k : W p l e R s m args below meth c H locs cells slots Q (F0 m (pc + 1) ls (.int (zI r) :: rest))) : W p l e R s m args below meth c H locs cells slots Q (F0 m pc ls (.int (zI y) :: .int (zI x) :: rest)) := lv_idiv h.1 h.2.1 hdg hy (hr ▸ k)
theorem zcnSi (h : zE p s m args meth c cc nL own G) (hH : zH G S s H locs) {y : MethodName} {bytes : ByteArray} {maxL n index : Nat} {host : String} {ret : Option FieldType} {rm : Room} {As : List Value} {st0 : List Value} {post : Int32 → zM → Prop} (hM : Met l y (Cond.code y bytes maxL ret :: zTbl) rm (va_Pc As (zB G S)) (va_Qi post (zB G) (zA G)) 0 0 (zA G)) (hc : zCe y bytes maxL ret n) (hv : Cond.static y ∈ zTbl) (hl : Cond.methodLinkNest own index y host ∈ zNest) (hls : ls.size = nL) (hst : st0 = As.reverse ++ rest) (hn : As.length = n) (h0 : rm.cells = 0 ∧ rm.slots = 0) (hR : rm.frames + 1 ≤ R.frames ∧ 8 + (maxL + 11) + rm.locals ≤ R.locals) (hW : (rest.map fun v => v.category).sum ≤ 8) (hcs : cells ≤ R.cells ∧ slots ≤ R.slots) (hdg : decode cc pc = .ok (.invokestatic index, 3))
    (k : ∀ (r : Int32) (S1 : zM) (H1 : Heap) (locs1 : List Loc), post r S1 → zH G S1 s H1 locs1 → W p l e R s m args below meth c H1 locs1 cells slots Q (F0 m (pc + 3) ls (.int r :: rest))) : W p l e R s m args below meth c H locs cells slots Q (F0 m pc ls st0) := by
  subst hst
  have hd : ∀ sig, parseMethodDescriptor y.desc = some sig → n = sig.parameters.length := by
    intro sig hs
    have h2 := hc.2.2.2
    rw [hs] at h2
    exact (Option.some.inj h2).symm
  have hw : ∀ w ∈ (Cond.code y bytes maxL ret :: zTbl), ∀ (a' : Array Value) (U : State), s.WarmedH U.vm → w.before a' U = true := by
    intro w hw a' U hW
    rcases List.mem_cons.mp hw with rfl | hw
    · exact word_at hW (good_of_word (zTbl_good _ hc.1)) (h.2.2.2.2.1 _ hc.1)
    · exact word_at hW (good_of_word (zTbl_good _ hw)) (h.2.2.2.2.1 _ hw)
  have cw : va_CN R s args own index y host bytes maxL ret (Cond.code y bytes maxL ret :: zTbl) rm 0 0 n := ⟨⟨h0.1, h0.2, hR.1, hR.2, hw, List.mem_cons_self⟩, h.2.2.2.2.1 _ hc.1, h.2.2.2.2.1 _ hc.2.1, hc.2.2.1, hd, va_Nw.use rfl (h.2.2.2.2.2.2.1.2.2.1 _ hl)⟩
  refine va_calli (va_runSN (As := As) (rest := rest) ⟨h.1, h.2.1, h.2.2.1, h.2.2.2.1, h.2.2.2.2.1⟩ hM ⟨cw, h.2.2.2.2.1 _ hv, trivial⟩ ⟨zB.blind G S _, fun U hU hW => ⟨rfl, zB.go h.2.2.2.2.2.2.1 hH hU hW⟩⟩ rfl hn hls rfl (lv_room hW) hdg ⟨hcs.1, hcs.2⟩) hH.2 (fun q _ h => h) (fun q h => h) (fun r u t H1 locs1 ht hvm hw hB hz1 hk1 hS => ?_)
  exact k r u H1 locs1 hw ⟨by rw [← ht]; exact hB.1, hS⟩
end ZJ3
end
section
theorem dX3_sortIn_0 : decode cX3_sortIn 0 = .ok (.iload_n 2, 1) := by decide +kernel
theorem dX3_sortIn_1 : decode cX3_sortIn 1 = .ok (.ifCond .lt 12, 3) := by decide +kernel
theorem dX3_sortIn_4 : decode cX3_sortIn 4 = .ok (.iload_n 2, 1) := by decide +kernel
theorem dX3_sortIn_5 : decode cX3_sortIn 5 = .ok (.aload_n 0, 1) := by decide +kernel
theorem dX3_sortIn_6 : decode cX3_sortIn 6 = .ok (.getfield 34, 3) := by decide +kernel
theorem dX3_sortIn_9 : decode cX3_sortIn 9 = .ok (.arraylength, 1) := by decide +kernel
theorem dX3_sortIn_10 : decode cX3_sortIn 10 = .ok (.if_icmp .lt 4, 3) := by decide +kernel
theorem dX3_sortIn_14 : decode cX3_sortIn 14 = .ok (.iload_n 2, 1) := by decide +kernel
theorem dX3_sortIn_15 : decode cX3_sortIn 15 = .ok (.istore_n 3, 1) := by decide +kernel
theorem dX3_sortIn_16 : decode cX3_sortIn 16 = .ok (.iload_n 3, 1) := by decide +kernel
theorem dX3_sortIn_17 : decode cX3_sortIn 17 = .ok (.ifCond .le 35, 3) := by decide +kernel
theorem dX3_sortIn_20 : decode cX3_sortIn 20 = .ok (.aload_n 0, 1) := by decide +kernel
theorem dX3_sortIn_21 : decode cX3_sortIn 21 = .ok (.getfield 34, 3) := by decide +kernel
theorem dX3_sortIn_24 : decode cX3_sortIn 24 = .ok (.iload_n 3, 1) := by decide +kernel
theorem dX3_sortIn_25 : decode cX3_sortIn 25 = .ok (.iconst 1, 1) := by decide +kernel
theorem dX3_sortIn_26 : decode cX3_sortIn 26 = .ok (.isub, 1) := by decide +kernel
theorem dX3_sortIn_27 : decode cX3_sortIn 27 = .ok (.iaload, 1) := by decide +kernel
theorem dX3_sortIn_28 : decode cX3_sortIn 28 = .ok (.iload_n 1, 1) := by decide +kernel
theorem dX3_sortIn_29 : decode cX3_sortIn 29 = .ok (.if_icmp .le 23, 3) := by decide +kernel
theorem dX3_sortIn_32 : decode cX3_sortIn 32 = .ok (.aload_n 0, 1) := by decide +kernel
theorem dX3_sortIn_33 : decode cX3_sortIn 33 = .ok (.getfield 34, 3) := by decide +kernel
theorem dX3_sortIn_36 : decode cX3_sortIn 36 = .ok (.iload_n 3, 1) := by decide +kernel
theorem dX3_sortIn_37 : decode cX3_sortIn 37 = .ok (.aload_n 0, 1) := by decide +kernel
theorem dX3_sortIn_38 : decode cX3_sortIn 38 = .ok (.getfield 34, 3) := by decide +kernel
theorem dX3_sortIn_41 : decode cX3_sortIn 41 = .ok (.iload_n 3, 1) := by decide +kernel
theorem dX3_sortIn_42 : decode cX3_sortIn 42 = .ok (.iconst 1, 1) := by decide +kernel
theorem dX3_sortIn_43 : decode cX3_sortIn 43 = .ok (.isub, 1) := by decide +kernel
theorem dX3_sortIn_44 : decode cX3_sortIn 44 = .ok (.iaload, 1) := by decide +kernel
theorem dX3_sortIn_45 : decode cX3_sortIn 45 = .ok (.iastore, 1) := by decide +kernel
theorem dX3_sortIn_46 : decode cX3_sortIn 46 = .ok (.iinc 3 (-1), 3) := by decide +kernel
theorem dX3_sortIn_49 : decode cX3_sortIn 49 = .ok (.goto (-33), 3) := by decide +kernel
theorem dX3_sortIn_52 : decode cX3_sortIn 52 = .ok (.aload_n 0, 1) := by decide +kernel
theorem dX3_sortIn_53 : decode cX3_sortIn 53 = .ok (.getfield 34, 3) := by decide +kernel
theorem dX3_sortIn_56 : decode cX3_sortIn 56 = .ok (.iload_n 3, 1) := by decide +kernel
theorem dX3_sortIn_57 : decode cX3_sortIn 57 = .ok (.iload_n 1, 1) := by decide +kernel
theorem dX3_sortIn_58 : decode cX3_sortIn 58 = .ok (.iastore, 1) := by decide +kernel
theorem dX3_sortIn_59 : decode cX3_sortIn 59 = .ok (.return_, 1) := by decide +kernel
def q_X3_sortIn (k : Nat) (S : zM) (x n : Int) : zM → Prop := fun S1 => (zPut S k (S k 0) (S k 2) (zins (S k 8) x n.toNat)) = S1
def r_X3_sortIn : Room := { frames := 0, cells := 0, slots := 0, locals := 0 }
set_option maxHeartbeats 4000000 in
set_option maxRecDepth 100000 in
theorem c_X3_sortIn (l : Launch) (G : zG) (hG : zok G) (k : Nat) (hk : k < 8) (S : zM) (x n : Int) (hx0 : -1 ≤ x ∧ x ≤ 9999) (hn : 0 ≤ n ∧ n < 8) (hq0 : ∀ i : Int, 0 ≤ i → i < n → -1 ≤ S k 8 i ∧ S k 8 i ≤ 9999) : Met l yX3_sortIn (Cond.code yX3_sortIn cX3_sortIn 4 (none : Option FieldType) :: zTbl) r_X3_sortIn (va_Pc [.ref (za G k 0), .int (zI x), .int (zI n)] (zB G S)) (va_Qv (q_X3_sortIn k S x n) (zB G) (zA G)) 0 0 (zA G) := by
  refine zMet [(0, .ref (za G k 0)), (1, .int (zI x)), (2, .int (zI n))] hG (by decide) (Nat.le_of_ble_eq_true rfl) rfl (fun p e s m args below meth c ls h hx hb hr hH hl => ?_)
  rw [← zP_id S k] at hH
  have C16 : ∀ (fu : Nat) (j : Int) (q : Int → Int) (H : Heap) (locs : List Loc) (ls : Array Slot), (j).toNat < fu → (0 ≤ j ∧ j ≤ n) → (zins q x j.toNat = zins (S k 8) x n.toNat) → (∀ i : Int, 0 ≤ i → i < j → q i = S k 8 i) → zH G (zPut S k (S k 0) (S k 2) q) s H locs → lv_has ls 4 [(0, .ref (za G k 0)), (1, .int (zI x)), (2, .int (zI n)), (3, .int (zI j))] → W p l e r_X3_sortIn s m args below meth c H locs 0 0 (MQ below (va_Qv (q_X3_sortIn k S x n) (zB G) (zA G)) args s 0 0 (zA G)) (F0 m 16 ls []) := by
    intro fu
    induction fu with
    | zero => intro j q H locs ls hfu; omega
    | succ fu ih16 =>
      intro j q H locs ls hfu hj hq hqi hH hl
      refine lv_iload_n hx hb dX3_sortIn_16 rfl (lv_at hl 3 rfl) ?_
      refine zb_ile (tgt := 52) h (by omega) dX3_sortIn_17 (by decide) (fun c_17 => ?_) (fun c_17 => ?_)
      · refine lv_aload_n hx hb dX3_sortIn_52 rfl (lv_at hl 0 rfl) ?_
        refine zg_3_6 h hH hk zf_X3_34 dX3_sortIn_53 ?_
        refine lv_iload_n hx hb dX3_sortIn_56 rfl (lv_at hl 3 rfl) ?_
        refine lv_iload_n hx hb dX3_sortIn_57 rfl (lv_at hl 1 rfl) ?_
        refine zst_ar_so h hH hk (by omega) dX3_sortIn_58 (fun H locs hH => ?_)
        rw [zs_P8] at hH
        refine zrv h hr hH ?_ dX3_sortIn_59
        first | exact congrArg (zPut S k (S k 0) (S k 2)) (hq.symm.trans (by rw [zins_s _ _ (by omega), if_neg (by omega)])) | (obtain rfl : j = 0 := (by omega); exact congrArg (zPut S k (S k 0) (S k 2)) hq.symm)
      · refine lv_aload_n hx hb dX3_sortIn_20 rfl (lv_at hl 0 rfl) ?_
        refine zg_3_6 h hH hk zf_X3_34 dX3_sortIn_21 ?_
        refine lv_iload_n hx hb dX3_sortIn_24 rfl (lv_at hl 3 rfl) ?_
        refine zb_ic h dX3_sortIn_25 ?_
        refine zb_isub h dX3_sortIn_26 ?_
        refine zld_ar_so h hH hk (by omega) dX3_sortIn_27 ?_
        rw [zP_8]
        refine lv_iload_n hx hb dX3_sortIn_28 rfl (lv_at hl 1 rfl) ?_
        have b_27 := hq0 (j - 1) (by omega) (by omega)
        rw [← hqi (j - 1) (by omega) (by omega)] at b_27
        refine zb_cle (tgt := 52) h (by omega) (by omega) dX3_sortIn_29 (by decide) (fun c_29 => ?_) (fun c_29 => ?_)
        · refine lv_aload_n hx hb dX3_sortIn_52 rfl (lv_at hl 0 rfl) ?_
          refine zg_3_6 h hH hk zf_X3_34 dX3_sortIn_53 ?_
          refine lv_iload_n hx hb dX3_sortIn_56 rfl (lv_at hl 3 rfl) ?_
          refine lv_iload_n hx hb dX3_sortIn_57 rfl (lv_at hl 1 rfl) ?_
          refine zst_ar_so h hH hk (by omega) dX3_sortIn_58 (fun H locs hH => ?_)
          rw [zs_P8] at hH
          refine zrv h hr hH ?_ dX3_sortIn_59
          first | exact congrArg (zPut S k (S k 0) (S k 2)) (hq.symm.trans (by rw [zins_s _ _ (by omega), if_neg (by omega)])) | (obtain rfl : j = 0 := (by omega); exact congrArg (zPut S k (S k 0) (S k 2)) hq.symm)
        · refine lv_aload_n hx hb dX3_sortIn_32 rfl (lv_at hl 0 rfl) ?_
          refine zg_3_6 h hH hk zf_X3_34 dX3_sortIn_33 ?_
          refine lv_iload_n hx hb dX3_sortIn_36 rfl (lv_at hl 3 rfl) ?_
          refine lv_aload_n hx hb dX3_sortIn_37 rfl (lv_at hl 0 rfl) ?_
          refine zg_3_6 h hH hk zf_X3_34 dX3_sortIn_38 ?_
          refine lv_iload_n hx hb dX3_sortIn_41 rfl (lv_at hl 3 rfl) ?_
          refine zb_ic h dX3_sortIn_42 ?_
          refine zb_isub h dX3_sortIn_43 ?_
          refine zld_ar_so h hH hk (by omega) dX3_sortIn_44 ?_
          rw [zP_8]
          refine zst_ar_so h hH hk (by omega) dX3_sortIn_45 (fun H locs hH => ?_)
          rw [zs_P8] at hH
          refine lv_iinc (v := zI (j + (-1))) (lv' := [(3, .int (zI (j + (-1)))), (0, .ref (za G k 0)), (1, .int (zI x)), (2, .int (zI n))]) hx hb dX3_sortIn_46 hl (k := 3) rfl (zI_add _ _) (by decide) rfl (fun ls hl => ?_)
          refine lv_goto (tgt := 16) hx hb dX3_sortIn_49 (by decide) ?_
          exact ih16 (j + (-1)) (zup q (j) (q (j - 1))) _ _ _ (by omega) (by omega) (by rw [← hq, zins_s _ _ (by omega : 0 < j), if_pos (by omega)]; rfl) (fun i h1 h2 => by rw [zup_n (by omega)]; exact hqi i h1 (by omega)) hH (lv_sub hl [1, 2, 3, 0] rfl)
  refine lv_iload_n hx hb dX3_sortIn_0 rfl (lv_at hl 2 rfl) ?_
  refine zb_ilt (tgt := 13) h (by omega) dX3_sortIn_1 (by decide) (fun c_1 => ?_) (fun c_1 => ?_)
  · exact absurd c_1 (by omega)
  · refine lv_iload_n hx hb dX3_sortIn_4 rfl (lv_at hl 2 rfl) ?_
    refine lv_aload_n hx hb dX3_sortIn_5 rfl (lv_at hl 0 rfl) ?_
    refine zg_3_6 h hH hk zf_X3_34 dX3_sortIn_6 ?_
    refine zln_ar_so h hH hk dX3_sortIn_9 ?_
    refine zb_clt (tgt := 14) h (by omega) (by omega) dX3_sortIn_10 (by decide) (fun c_10 => ?_) (fun c_10 => ?_)
    · refine lv_iload_n hx hb dX3_sortIn_14 rfl (lv_at hl 2 rfl) ?_
      refine lv_istore_n (lv' := [(3, .int (zI n)), (0, .ref (za G k 0)), (1, .int (zI x)), (2, .int (zI n))]) hx hb dX3_sortIn_15 rfl hl (by decide) rfl (fun ls hl => ?_)
      exact C16 ((n : Int).toNat + 1) n (S k 8) _ _ _ (by omega) (by omega) rfl (fun _ _ _ => rfl) hH (lv_sub hl [1, 2, 3, 0] rfl)
    · exact absurd c_10 (by omega)
theorem dX3_middleNeed_0 : decode cX3_middleNeed 0 = .ok (.iconst 0, 1) := by decide +kernel
theorem dX3_middleNeed_1 : decode cX3_middleNeed 1 = .ok (.istore_n 1, 1) := by decide +kernel
theorem dX3_middleNeed_2 : decode cX3_middleNeed 2 = .ok (.iconst 0, 1) := by decide +kernel
theorem dX3_middleNeed_3 : decode cX3_middleNeed 3 = .ok (.istore_n 2, 1) := by decide +kernel
theorem dX3_middleNeed_4 : decode cX3_middleNeed 4 = .ok (.iload_n 2, 1) := by decide +kernel
theorem dX3_middleNeed_5 : decode cX3_middleNeed 5 = .ok (.aload_n 0, 1) := by decide +kernel
theorem dX3_middleNeed_6 : decode cX3_middleNeed 6 = .ok (.getfield 37, 3) := by decide +kernel
theorem dX3_middleNeed_9 : decode cX3_middleNeed 9 = .ok (.if_icmp .ge 38, 3) := by decide +kernel
theorem dX3_middleNeed_12 : decode cX3_middleNeed 12 = .ok (.aload_n 0, 1) := by decide +kernel
theorem dX3_middleNeed_13 : decode cX3_middleNeed 13 = .ok (.iload_n 2, 1) := by decide +kernel
theorem dX3_middleNeed_14 : decode cX3_middleNeed 14 = .ok (.invokevirtual 72, 3) := by decide +kernel
theorem dX3_middleNeed_17 : decode cX3_middleNeed 17 = .ok (.istore_n 3, 1) := by decide +kernel
theorem dX3_middleNeed_18 : decode cX3_middleNeed 18 = .ok (.iload_n 3, 1) := by decide +kernel
theorem dX3_middleNeed_19 : decode cX3_middleNeed 19 = .ok (.iconst (-1), 1) := by decide +kernel
theorem dX3_middleNeed_20 : decode cX3_middleNeed 20 = .ok (.if_icmp .eq 21, 3) := by decide +kernel
theorem dX3_middleNeed_23 : decode cX3_middleNeed 23 = .ok (.iload_n 1, 1) := by decide +kernel
theorem dX3_middleNeed_24 : decode cX3_middleNeed 24 = .ok (.aload_n 0, 1) := by decide +kernel
theorem dX3_middleNeed_25 : decode cX3_middleNeed 25 = .ok (.getfield 34, 3) := by decide +kernel
theorem dX3_middleNeed_28 : decode cX3_middleNeed 28 = .ok (.arraylength, 1) := by decide +kernel
theorem dX3_middleNeed_29 : decode cX3_middleNeed 29 = .ok (.if_icmp .ge 12, 3) := by decide +kernel
theorem dX3_middleNeed_32 : decode cX3_middleNeed 32 = .ok (.aload_n 0, 1) := by decide +kernel
theorem dX3_middleNeed_33 : decode cX3_middleNeed 33 = .ok (.iload_n 3, 1) := by decide +kernel
theorem dX3_middleNeed_34 : decode cX3_middleNeed 34 = .ok (.iload_n 1, 1) := by decide +kernel
theorem dX3_middleNeed_35 : decode cX3_middleNeed 35 = .ok (.invokevirtual 124, 3) := by decide +kernel
theorem dX3_middleNeed_38 : decode cX3_middleNeed 38 = .ok (.iinc 1 1, 3) := by decide +kernel
theorem dX3_middleNeed_41 : decode cX3_middleNeed 41 = .ok (.iinc 2 1, 3) := by decide +kernel
theorem dX3_middleNeed_44 : decode cX3_middleNeed 44 = .ok (.goto (-40), 3) := by decide +kernel
theorem dX3_middleNeed_47 : decode cX3_middleNeed 47 = .ok (.iload_n 1, 1) := by decide +kernel
theorem dX3_middleNeed_48 : decode cX3_middleNeed 48 = .ok (.iconst 1, 1) := by decide +kernel
theorem dX3_middleNeed_49 : decode cX3_middleNeed 49 = .ok (.isub, 1) := by decide +kernel
theorem dX3_middleNeed_50 : decode cX3_middleNeed 50 = .ok (.iconst 2, 1) := by decide +kernel
theorem dX3_middleNeed_51 : decode cX3_middleNeed 51 = .ok (.idiv, 1) := by decide +kernel
theorem dX3_middleNeed_52 : decode cX3_middleNeed 52 = .ok (.istore_n 2, 1) := by decide +kernel
theorem dX3_middleNeed_53 : decode cX3_middleNeed 53 = .ok (.iload_n 1, 1) := by decide +kernel
theorem dX3_middleNeed_54 : decode cX3_middleNeed 54 = .ok (.ifCond .le 21, 3) := by decide +kernel
theorem dX3_middleNeed_57 : decode cX3_middleNeed 57 = .ok (.iload_n 2, 1) := by decide +kernel
theorem dX3_middleNeed_58 : decode cX3_middleNeed 58 = .ok (.aload_n 0, 1) := by decide +kernel
theorem dX3_middleNeed_59 : decode cX3_middleNeed 59 = .ok (.getfield 34, 3) := by decide +kernel
theorem dX3_middleNeed_62 : decode cX3_middleNeed 62 = .ok (.arraylength, 1) := by decide +kernel
theorem dX3_middleNeed_63 : decode cX3_middleNeed 63 = .ok (.if_icmp .ge 12, 3) := by decide +kernel
theorem dX3_middleNeed_66 : decode cX3_middleNeed 66 = .ok (.aload_n 0, 1) := by decide +kernel
theorem dX3_middleNeed_67 : decode cX3_middleNeed 67 = .ok (.getfield 34, 3) := by decide +kernel
theorem dX3_middleNeed_70 : decode cX3_middleNeed 70 = .ok (.iload_n 2, 1) := by decide +kernel
theorem dX3_middleNeed_71 : decode cX3_middleNeed 71 = .ok (.iaload, 1) := by decide +kernel
theorem dX3_middleNeed_72 : decode cX3_middleNeed 72 = .ok (.goto 4, 3) := by decide +kernel
theorem dX3_middleNeed_75 : decode cX3_middleNeed 75 = .ok (.iconst (-1), 1) := by decide +kernel
theorem dX3_middleNeed_76 : decode cX3_middleNeed 76 = .ok (.ireturn, 1) := by decide +kernel
def q_X3_middleNeed (k : Nat) (S : zM) : Int32 → zM → Prop := fun r S1 => r = zI (tMid (S k 0)) ∧ ∃ q', zPut S k (S k 0) (S k 2) q' = S1
def r_X3_middleNeed : Room := { frames := 3, cells := 0, slots := 0, locals := 71 }
set_option maxHeartbeats 4000000 in
set_option maxRecDepth 100000 in
theorem c_X3_middleNeed (l : Launch) (G : zG) (hG : zok G) (k : Nat) (hk : k < 8) (S : zM) (hms : zMs S k) (hw : zW (S k 0))  : Met l yX3_middleNeed (Cond.code yX3_middleNeed cX3_middleNeed 4 (some FieldType.int) :: zTbl) r_X3_middleNeed (va_Pc [.ref (za G k 0)] (zB G S)) (va_Qi (q_X3_middleNeed k S) (zB G) (zA G)) 0 0 (zA G) := by
  refine zMet [(0, .ref (za G k 0))] hG (by decide) (Nat.le_of_ble_eq_true rfl) rfl (fun p e s m args below meth c ls h hx hb hr hH hl => ?_)
  rw [← zP_id S k] at hH
  have hM := hms
  have f4 := zW_4 hw
  have C4 : ∀ (fu : Nat) (o n : Int) (q : Int → Int) (H : Heap) (locs : List Loc) (ls : Array Slot), (S k 0 4 - o).toNat < fu → (0 ≤ o ∧ o ≤ S k 0 4) → (n = zmsC (S k 0) o.toNat) → (q = zmsQ (S k 0) (S k 8) o.toNat) → zH G (zPut S k (S k 0) (S k 2) q) s H locs → lv_has ls 4 [(0, .ref (za G k 0)), (1, .int (zI n)), (2, .int (zI o))] → W p l e r_X3_middleNeed s m args below meth c H locs 0 0 (MQ below (va_Qi (q_X3_middleNeed k S) (zB G) (zA G)) args s 0 0 (zA G)) (F0 m 4 ls []) := by
    intro fu
    induction fu with
    | zero => intro o n q H locs ls hfu; omega
    | succ fu ih4 =>
      intro o n q H locs ls hfu ho hn hq hH hl
      have bn := zmsC_in (S k 0) o.toNat
      refine lv_iload_n hx hb dX3_middleNeed_4 rfl (lv_at hl 2 rfl) ?_
      refine lv_aload_n hx hb dX3_middleNeed_5 rfl (lv_at hl 0 rfl) ?_
      refine zg_3_7 h hH hk zf_X3_37 dX3_middleNeed_6 ?_
      rw [zP_0]
      have f_6 := zW_4 hw
      refine zb_cge (tgt := 47) h (by omega) (by omega) dX3_middleNeed_9 (by decide) (fun c_9 => ?_) (fun c_9 => ?_)
      · obtain rfl : o = S k 0 4 := by omega
        by_cases s_47 : n = 0
        · refine lv_iload_n hx hb dX3_middleNeed_47 rfl (lv_at hl 1 rfl) ?_
          refine zb_ic h dX3_middleNeed_48 ?_
          refine zb_isub h dX3_middleNeed_49 ?_
          refine zb_ic h dX3_middleNeed_50 ?_
          refine zb_idivq h 0 (by rw [show n - 1 = -1 by omega]; decide +kernel) (by decide +kernel) dX3_middleNeed_51 ?_
          refine lv_istore_n (lv' := [(2, .int (zI 0)), (0, .ref (za G k 0)), (1, .int (zI n))]) hx hb dX3_middleNeed_52 rfl hl (by decide) rfl (fun ls hl => ?_)
          refine lv_iload_n hx hb dX3_middleNeed_53 rfl (lv_at hl 2 rfl) ?_
          refine zb_ile (tgt := 75) h (by omega) dX3_middleNeed_54 (by decide) (fun c_54 => ?_) (fun c_54 => ?_)
          · refine zb_ic h dX3_middleNeed_75 ?_
            refine zri h hr hH ?_ dX3_middleNeed_76
            exact ⟨by unfold tMid; rw [if_pos (by omega)], _, rfl⟩
          · exact absurd c_54 (by omega)
        · refine lv_iload_n hx hb dX3_middleNeed_47 rfl (lv_at hl 1 rfl) ?_
          refine zb_ic h dX3_middleNeed_48 ?_
          refine zb_isub h dX3_middleNeed_49 ?_
          refine zb_ic h dX3_middleNeed_50 ?_
          refine zb_idiv h (by omega) (by omega) dX3_middleNeed_51 ?_
          refine lv_istore_n (lv' := [(2, .int (zI ((n - 1) / 2))), (0, .ref (za G k 0)), (1, .int (zI n))]) hx hb dX3_middleNeed_52 rfl hl (by decide) rfl (fun ls hl => ?_)
          refine lv_iload_n hx hb dX3_middleNeed_53 rfl (lv_at hl 2 rfl) ?_
          refine zb_ile (tgt := 75) h (by omega) dX3_middleNeed_54 (by decide) (fun c_54 => ?_) (fun c_54 => ?_)
          · exact absurd c_54 (by omega)
          · refine lv_iload_n hx hb dX3_middleNeed_57 rfl (lv_at hl 0 rfl) ?_
            refine lv_aload_n hx hb dX3_middleNeed_58 rfl (lv_at hl 1 rfl) ?_
            refine zg_3_6 h hH hk zf_X3_34 dX3_middleNeed_59 ?_
            refine zln_ar_so h hH hk dX3_middleNeed_62 ?_
            refine zb_cge (tgt := 75) h (by omega) (by omega) dX3_middleNeed_63 (by decide) (fun c_63 => ?_) (fun c_63 => ?_)
            · exact absurd c_63 (by omega)
            · refine lv_aload_n hx hb dX3_middleNeed_66 rfl (lv_at hl 1 rfl) ?_
              refine zg_3_6 h hH hk zf_X3_34 dX3_middleNeed_67 ?_
              refine lv_iload_n hx hb dX3_middleNeed_70 rfl (lv_at hl 0 rfl) ?_
              refine zld_ar_so h hH hk (by omega) dX3_middleNeed_71 ?_
              rw [zP_8]
              refine lv_goto (tgt := 76) hx hb dX3_middleNeed_72 (by decide) ?_
              refine zri h hr hH ?_ dX3_middleNeed_76
              exact ⟨congrArg zI (by unfold tMid; rw [if_neg (by omega), zmsQ_congr _ _ (S k 8) _ _ (by omega) (by omega), ← hq, ← hn]), _, rfl⟩
      · refine lv_aload_n hx hb dX3_middleNeed_12 rfl (lv_at hl 0 rfl) ?_
        refine lv_iload_n hx hb dX3_middleNeed_13 rfl (lv_at hl 2 rfl) ?_
        refine zcVi h hH (zr_3 h hH hk) (As := [.int (zI o)]) (rest := []) (c_X3_leastNeed l G hG k hk (zPut S k (S k 0) (S k 2) q) o (by omega) (zP_ms hM) (zP_hw hw)) zce_X3_leastNeed zcv_X3_leastNeed zm_X3_72 hl.1 rfl rfl ⟨rfl, rfl⟩ ⟨Nat.le_of_ble_eq_true rfl, Nat.le_of_ble_eq_true rfl⟩ (Nat.le_of_ble_eq_true rfl) ⟨Nat.zero_le _, Nat.zero_le _⟩ dX3_middleNeed_14 (fun r_14 S_14 H locs hq hH => ?_)
        obtain ⟨rfl, rfl⟩ := hq
        rw [zP_0]
        have b_14 := tLn_in hw o
        refine lv_istore_n (lv' := [(3, .int (zI (tLn (S k 0) o))), (0, .ref (za G k 0)), (1, .int (zI n)), (2, .int (zI o))]) hx hb dX3_middleNeed_17 rfl hl (by decide) rfl (fun ls hl => ?_)
        refine lv_iload_n hx hb dX3_middleNeed_18 rfl (lv_at hl 0 rfl) ?_
        refine zb_ic h dX3_middleNeed_19 ?_
        refine zb_ceq (tgt := 41) h (by omega) (by omega) dX3_middleNeed_20 (by decide) (fun c_20 => ?_) (fun c_20 => ?_)
        · refine lv_iinc (v := zI (o + 1)) (lv' := [(2, .int (zI (o + 1))), (3, .int (zI (tLn (S k 0) o))), (0, .ref (za G k 0)), (1, .int (zI n))]) hx hb dX3_middleNeed_41 hl (k := 3) rfl (zI_add _ _) (by decide) rfl (fun ls hl => ?_)
          refine lv_goto (tgt := 4) hx hb dX3_middleNeed_44 (by decide) ?_
          exact ih4 (o + 1) n q _ _ _ (by omega) (by omega) (by rw [zmsC_s _ ho.1]; first | (rw [if_pos c_20]; exact hn) | (rw [if_neg c_20, hn])) (by rw [zmsQ_s _ _ ho.1]; first | (rw [if_pos c_20]; exact hq) | (rw [if_neg c_20, ← hq, ← hn])) hH (lv_sub hl [2, 3, 0] rfl)
        · refine lv_iload_n hx hb dX3_middleNeed_23 rfl (lv_at hl 2 rfl) ?_
          refine lv_aload_n hx hb dX3_middleNeed_24 rfl (lv_at hl 1 rfl) ?_
          refine zg_3_6 h hH hk zf_X3_34 dX3_middleNeed_25 ?_
          refine zln_ar_so h hH hk dX3_middleNeed_28 ?_
          refine zb_cge (tgt := 41) h (by omega) (by omega) dX3_middleNeed_29 (by decide) (fun c_29 => ?_) (fun c_29 => ?_)
          · exact absurd c_29 (by omega)
          · refine lv_aload_n hx hb dX3_middleNeed_32 rfl (lv_at hl 1 rfl) ?_
            refine lv_iload_n hx hb dX3_middleNeed_33 rfl (lv_at hl 0 rfl) ?_
            refine lv_iload_n hx hb dX3_middleNeed_34 rfl (lv_at hl 2 rfl) ?_
            refine zcVv h hH (zr_3 h hH hk) (As := [.int (zI (tLn (S k 0) o)), .int (zI n)]) (rest := []) (c_X3_sortIn l G hG k hk (zPut S k (S k 0) (S k 2) q) (tLn (S k 0) o) n (by omega) (by omega) (fun i h1 h2 => by rw [zP_8, hq]; have := zmsQ_in hw (S k 8) o.toNat i h1 (by omega); omega)) zce_X3_sortIn zcv_X3_sortIn zm_X3_124 hl.1 rfl rfl ⟨rfl, rfl⟩ ⟨Nat.le_of_ble_eq_true rfl, Nat.le_of_ble_eq_true rfl⟩ (Nat.le_of_ble_eq_true rfl) ⟨Nat.zero_le _, Nat.zero_le _⟩ dX3_middleNeed_35 (fun S_35 H locs hq hH => ?_)
            obtain rfl := hq
            simp only [zP_P, zP_0, zP_2, zP_8] at hH
            refine lv_iinc (v := zI (n + 1)) (lv' := [(1, .int (zI (n + 1))), (3, .int (zI (tLn (S k 0) o))), (0, .ref (za G k 0)), (2, .int (zI o))]) hx hb dX3_middleNeed_38 hl (k := 2) rfl (zI_add _ _) (by decide) rfl (fun ls hl => ?_)
            refine lv_iinc (v := zI (o + 1)) (lv' := [(2, .int (zI (o + 1))), (1, .int (zI (n + 1))), (3, .int (zI (tLn (S k 0) o))), (0, .ref (za G k 0))]) hx hb dX3_middleNeed_41 hl (k := 3) rfl (zI_add _ _) (by decide) rfl (fun ls hl => ?_)
            refine lv_goto (tgt := 4) hx hb dX3_middleNeed_44 (by decide) ?_
            exact ih4 (o + 1) (n + 1) (zins q (tLn (S k 0) o) n.toNat) _ _ _ (by omega) (by omega) (by rw [zmsC_s _ ho.1]; first | (rw [if_pos c_20]; exact hn) | (rw [if_neg c_20, hn])) (by rw [zmsQ_s _ _ ho.1]; first | (rw [if_pos c_20]; exact hq) | (rw [if_neg c_20, ← hq, ← hn])) hH (lv_sub hl [3, 1, 0] rfl)
  refine zb_ic h dX3_middleNeed_0 ?_
  refine lv_istore_n (lv' := [(1, .int (zI 0)), (0, .ref (za G k 0))]) hx hb dX3_middleNeed_1 rfl hl (by decide) rfl (fun ls hl => ?_)
  refine zb_ic h dX3_middleNeed_2 ?_
  refine lv_istore_n (lv' := [(2, .int (zI 0)), (1, .int (zI 0)), (0, .ref (za G k 0))]) hx hb dX3_middleNeed_3 rfl hl (by decide) rfl (fun ls hl => ?_)
  exact C4 ((S k 0 4 - 0 : Int).toNat + 1) 0 0 (S k 8) _ _ _ (by omega) (by omega) rfl rfl hH (lv_sub hl [2, 1, 0] rfl)
theorem dX3_correct_0 : decode cX3_correct 0 = .ok (.iload_n 1, 1) := by decide +kernel
theorem dX3_correct_1 : decode cX3_correct 1 = .ok (.ifCond .lt 9, 3) := by decide +kernel
theorem dX3_correct_4 : decode cX3_correct 4 = .ok (.iload_n 1, 1) := by decide +kernel
theorem dX3_correct_5 : decode cX3_correct 5 = .ok (.bipush 8, 2) := by decide +kernel
theorem dX3_correct_7 : decode cX3_correct 7 = .ok (.if_icmp .lt 4, 3) := by decide +kernel
theorem dX3_correct_11 : decode cX3_correct 11 = .ok (.aload_n 0, 1) := by decide +kernel
theorem dX3_correct_12 : decode cX3_correct 12 = .ok (.iload_n 1, 1) := by decide +kernel
theorem dX3_correct_13 : decode cX3_correct 13 = .ok (.invokevirtual 90, 3) := by decide +kernel
theorem dX3_correct_16 : decode cX3_correct 16 = .ok (.istore_n 2, 1) := by decide +kernel
theorem dX3_correct_17 : decode cX3_correct 17 = .ok (.iload_n 2, 1) := by decide +kernel
theorem dX3_correct_18 : decode cX3_correct 18 = .ok (.ifCond .ge 69, 3) := by decide +kernel
theorem dX3_correct_21 : decode cX3_correct 21 = .ok (.aload_n 0, 1) := by decide +kernel
theorem dX3_correct_22 : decode cX3_correct 22 = .ok (.getfield 12, 3) := by decide +kernel
theorem dX3_correct_25 : decode cX3_correct 25 = .ok (.aload_n 0, 1) := by decide +kernel
theorem dX3_correct_26 : decode cX3_correct 26 = .ok (.getfield 18, 3) := by decide +kernel
theorem dX3_correct_29 : decode cX3_correct 29 = .ok (.iload_n 1, 1) := by decide +kernel
theorem dX3_correct_30 : decode cX3_correct 30 = .ok (.iaload, 1) := by decide +kernel
theorem dX3_correct_31 : decode cX3_correct 31 = .ok (.aload_n 0, 1) := by decide +kernel
theorem dX3_correct_32 : decode cX3_correct 32 = .ok (.getfield 22, 3) := by decide +kernel
theorem dX3_correct_35 : decode cX3_correct 35 = .ok (.iload_n 1, 1) := by decide +kernel
theorem dX3_correct_36 : decode cX3_correct 36 = .ok (.iaload, 1) := by decide +kernel
theorem dX3_correct_37 : decode cX3_correct 37 = .ok (.invokevirtual 104, 3) := by decide +kernel
theorem dX3_correct_40 : decode cX3_correct 40 = .ok (.aload_n 0, 1) := by decide +kernel
theorem dX3_correct_41 : decode cX3_correct 41 = .ok (.iload_n 1, 1) := by decide +kernel
theorem dX3_correct_42 : decode cX3_correct 42 = .ok (.invokevirtual 61, 3) := by decide +kernel
theorem dX3_correct_45 : decode cX3_correct 45 = .ok (.isub, 1) := by decide +kernel
theorem dX3_correct_46 : decode cX3_correct 46 = .ok (.istore_n 3, 1) := by decide +kernel
theorem dX3_correct_47 : decode cX3_correct 47 = .ok (.aload_n 0, 1) := by decide +kernel
theorem dX3_correct_48 : decode cX3_correct 48 = .ok (.getfield 25, 3) := by decide +kernel
theorem dX3_correct_51 : decode cX3_correct 51 = .ok (.iload_n 1, 1) := by decide +kernel
theorem dX3_correct_52 : decode cX3_correct 52 = .ok (.iload_n 3, 1) := by decide +kernel
theorem dX3_correct_53 : decode cX3_correct 53 = .ok (.iconst 1, 1) := by decide +kernel
theorem dX3_correct_54 : decode cX3_correct 54 = .ok (.sipush 999, 3) := by decide +kernel
theorem dX3_correct_57 : decode cX3_correct 57 = .ok (.invokestatic 127, 3) := by decide +kernel
theorem dX3_correct_60 : decode cX3_correct 60 = .ok (.ifCond .eq 7, 3) := by decide +kernel
theorem dX3_correct_63 : decode cX3_correct 63 = .ok (.iload_n 3, 1) := by decide +kernel
theorem dX3_correct_64 : decode cX3_correct 64 = .ok (.goto 4, 3) := by decide +kernel
theorem dX3_correct_67 : decode cX3_correct 67 = .ok (.iconst 0, 1) := by decide +kernel
theorem dX3_correct_68 : decode cX3_correct 68 = .ok (.iastore, 1) := by decide +kernel
theorem dX3_correct_69 : decode cX3_correct 69 = .ok (.aload_n 0, 1) := by decide +kernel
theorem dX3_correct_70 : decode cX3_correct 70 = .ok (.iload_n 1, 1) := by decide +kernel
theorem dX3_correct_71 : decode cX3_correct 71 = .ok (.invokevirtual 90, 3) := by decide +kernel
theorem dX3_correct_74 : decode cX3_correct 74 = .ok (.ifCond .eq 10, 3) := by decide +kernel
theorem dX3_correct_77 : decode cX3_correct 77 = .ok (.aload_n 0, 1) := by decide +kernel
theorem dX3_correct_78 : decode cX3_correct 78 = .ok (.getfield 25, 3) := by decide +kernel
theorem dX3_correct_81 : decode cX3_correct 81 = .ok (.iload_n 1, 1) := by decide +kernel
theorem dX3_correct_82 : decode cX3_correct 82 = .ok (.iconst 0, 1) := by decide +kernel
theorem dX3_correct_83 : decode cX3_correct 83 = .ok (.iastore, 1) := by decide +kernel
theorem dX3_correct_84 : decode cX3_correct 84 = .ok (.goto 74, 3) := by decide +kernel
theorem dX3_correct_87 : decode cX3_correct 87 = .ok (.iload_n 2, 1) := by decide +kernel
theorem dX3_correct_88 : decode cX3_correct 88 = .ok (.ifCond .le 70, 3) := by decide +kernel
theorem dX3_correct_91 : decode cX3_correct 91 = .ok (.aload_n 0, 1) := by decide +kernel
theorem dX3_correct_92 : decode cX3_correct 92 = .ok (.iload_n 1, 1) := by decide +kernel
theorem dX3_correct_93 : decode cX3_correct 93 = .ok (.invokevirtual 61, 3) := by decide +kernel
theorem dX3_correct_96 : decode cX3_correct 96 = .ok (.aload_n 0, 1) := by decide +kernel
theorem dX3_correct_97 : decode cX3_correct 97 = .ok (.getfield 12, 3) := by decide +kernel
theorem dX3_correct_100 : decode cX3_correct 100 = .ok (.aload_n 0, 1) := by decide +kernel
theorem dX3_correct_101 : decode cX3_correct 101 = .ok (.getfield 18, 3) := by decide +kernel
theorem dX3_correct_104 : decode cX3_correct 104 = .ok (.iload_n 1, 1) := by decide +kernel
theorem dX3_correct_105 : decode cX3_correct 105 = .ok (.iaload, 1) := by decide +kernel
theorem dX3_correct_106 : decode cX3_correct 106 = .ok (.aload_n 0, 1) := by decide +kernel
theorem dX3_correct_107 : decode cX3_correct 107 = .ok (.getfield 22, 3) := by decide +kernel
theorem dX3_correct_110 : decode cX3_correct 110 = .ok (.iload_n 1, 1) := by decide +kernel
theorem dX3_correct_111 : decode cX3_correct 111 = .ok (.iaload, 1) := by decide +kernel
theorem dX3_correct_112 : decode cX3_correct 112 = .ok (.iconst 1, 1) := by decide +kernel
theorem dX3_correct_113 : decode cX3_correct 113 = .ok (.iadd, 1) := by decide +kernel
theorem dX3_correct_114 : decode cX3_correct 114 = .ok (.invokevirtual 104, 3) := by decide +kernel
theorem dX3_correct_117 : decode cX3_correct 117 = .ok (.isub, 1) := by decide +kernel
theorem dX3_correct_118 : decode cX3_correct 118 = .ok (.iconst 1, 1) := by decide +kernel
theorem dX3_correct_119 : decode cX3_correct 119 = .ok (.iadd, 1) := by decide +kernel
theorem dX3_correct_120 : decode cX3_correct 120 = .ok (.istore_n 3, 1) := by decide +kernel
theorem dX3_correct_121 : decode cX3_correct 121 = .ok (.aload_n 0, 1) := by decide +kernel
theorem dX3_correct_122 : decode cX3_correct 122 = .ok (.getfield 28, 3) := by decide +kernel
theorem dX3_correct_125 : decode cX3_correct 125 = .ok (.iload_n 1, 1) := by decide +kernel
theorem dX3_correct_126 : decode cX3_correct 126 = .ok (.iload_n 3, 1) := by decide +kernel
theorem dX3_correct_127 : decode cX3_correct 127 = .ok (.iconst 1, 1) := by decide +kernel
theorem dX3_correct_128 : decode cX3_correct 128 = .ok (.sipush 999, 3) := by decide +kernel
theorem dX3_correct_131 : decode cX3_correct 131 = .ok (.invokestatic 127, 3) := by decide +kernel
theorem dX3_correct_134 : decode cX3_correct 134 = .ok (.ifCond .eq 7, 3) := by decide +kernel
theorem dX3_correct_137 : decode cX3_correct 137 = .ok (.iload_n 3, 1) := by decide +kernel
theorem dX3_correct_138 : decode cX3_correct 138 = .ok (.goto 4, 3) := by decide +kernel
theorem dX3_correct_141 : decode cX3_correct 141 = .ok (.iconst 0, 1) := by decide +kernel
theorem dX3_correct_142 : decode cX3_correct 142 = .ok (.iastore, 1) := by decide +kernel
theorem dX3_correct_143 : decode cX3_correct 143 = .ok (.aload_n 0, 1) := by decide +kernel
theorem dX3_correct_144 : decode cX3_correct 144 = .ok (.iload_n 1, 1) := by decide +kernel
theorem dX3_correct_145 : decode cX3_correct 145 = .ok (.invokevirtual 90, 3) := by decide +kernel
theorem dX3_correct_148 : decode cX3_correct 148 = .ok (.ifCond .eq 10, 3) := by decide +kernel
theorem dX3_correct_151 : decode cX3_correct 151 = .ok (.aload_n 0, 1) := by decide +kernel
theorem dX3_correct_152 : decode cX3_correct 152 = .ok (.getfield 28, 3) := by decide +kernel
theorem dX3_correct_155 : decode cX3_correct 155 = .ok (.iload_n 1, 1) := by decide +kernel
theorem dX3_correct_156 : decode cX3_correct 156 = .ok (.iconst 0, 1) := by decide +kernel
theorem dX3_correct_157 : decode cX3_correct 157 = .ok (.iastore, 1) := by decide +kernel
theorem dX3_correct_158 : decode cX3_correct 158 = .ok (.return_, 1) := by decide +kernel
def q_X3_correct (k : Nat) (S : zM) (z : Int) : zM → Prop := fun S1 => (zPut S k (tCor (S k 0) z) (S k 2) (S k 8)) = S1
def r_X3_correct : Room := { frames := 3, cells := 0, slots := 0, locals := 67 }
set_option maxHeartbeats 4000000 in
set_option maxRecDepth 100000 in
theorem c_X3_correct (l : Launch) (G : zG) (hG : zok G) (k : Nat) (hk : k < 8) (S : zM) (z : Int) (hz : 0 ≤ z ∧ z < 8) (hms : zMs S k) (hw : zW (S k 0))  : Met l yX3_correct (Cond.code yX3_correct cX3_correct 4 (none : Option FieldType) :: zTbl) r_X3_correct (va_Pc [.ref (za G k 0), .int (zI z)] (zB G S)) (va_Qv (q_X3_correct k S z) (zB G) (zA G)) 0 0 (zA G) := by
  refine zMet [(0, .ref (za G k 0)), (1, .int (zI z))] hG (by decide) (Nat.le_of_ble_eq_true rfl) rfl (fun p e s m args below meth c ls h hx hb hr hH hl => ?_)
  rw [← zP_id S k] at hH
  have hM := hms
  have hz0 := hz
  have b1 := tLe_in hw (S k 0 (5 + 5 * z)) (S k 0 (5 + 5 * z + 1))
  have b2 := tLe_in hw (S k 0 (5 + 5 * z)) (S k 0 (5 + 5 * z + 1) + 1)
  have b3 := tTm_in hw hz
  have b4 := tOff_in hw hz
  refine lv_iload_n hx hb dX3_correct_0 rfl (lv_at hl 1 rfl) ?_
  refine zb_ilt (tgt := 10) h (by omega) dX3_correct_1 (by decide) (fun c_1 => ?_) (fun c_1 => ?_)
  · exact absurd c_1 (by omega)
  · refine lv_iload_n hx hb dX3_correct_4 rfl (lv_at hl 1 rfl) ?_
    refine zb_bi h dX3_correct_5 (by decide) (by decide) ?_
    refine zb_clt (tgt := 11) h (by omega) (by omega) dX3_correct_7 (by decide) (fun c_7 => ?_) (fun c_7 => ?_)
    · refine lv_aload_n hx hb dX3_correct_11 rfl (lv_at hl 0 rfl) ?_
      refine lv_iload_n hx hb dX3_correct_12 rfl (lv_at hl 1 rfl) ?_
      refine zcVi h hH (zr_3 h hH hk) (As := [.int (zI z)]) (rest := []) (c_X3_tooDarkBy l G hG k hk (zPut S k (S k 0) (S k 2) (S k 8)) z (by omega) (zP_ms hM) (zP_hw hw)) zce_X3_tooDarkBy zcv_X3_tooDarkBy zm_X3_90 hl.1 rfl rfl ⟨rfl, rfl⟩ ⟨Nat.le_of_ble_eq_true rfl, Nat.le_of_ble_eq_true rfl⟩ (Nat.le_of_ble_eq_true rfl) ⟨Nat.zero_le _, Nat.zero_le _⟩ dX3_correct_13 (fun r_13 S_13 H locs hq hH => ?_)
      obtain ⟨rfl, rfl⟩ := hq
      rw [zP_0]
      refine lv_istore_n (lv' := [(2, .int (zI (tOff (S k 0) z))), (0, .ref (za G k 0)), (1, .int (zI z))]) hx hb dX3_correct_16 rfl hl (by decide) rfl (fun ls hl => ?_)
      refine lv_iload_n hx hb dX3_correct_17 rfl (lv_at hl 0 rfl) ?_
      refine zb_ige (tgt := 87) h (by omega) dX3_correct_18 (by decide) (fun c_18 => ?_) (fun c_18 => ?_)
      · refine lv_iload_n hx hb dX3_correct_87 rfl (lv_at hl 0 rfl) ?_
        refine zb_ile (tgt := 158) h (by omega) dX3_correct_88 (by decide) (fun c_88 => ?_) (fun c_88 => ?_)
        · refine zrv h hr hH ?_ dX3_correct_158
          first | (exact congrArg (fun σ => zPut S k σ (S k 2) (S k 8)) (by unfold tCor; rw [if_pos (by omega), if_pos c_74])) | (exact congrArg (fun σ => zPut S k σ (S k 2) (S k 8)) (by unfold tCor; rw [if_pos (by omega), if_neg c_74])) | (exact congrArg (fun σ => zPut S k σ (S k 2) (S k 8)) (by unfold tCor; rw [if_neg (by omega), if_pos (by omega), if_pos c_148])) | (exact congrArg (fun σ => zPut S k σ (S k 2) (S k 8)) (by unfold tCor; rw [if_neg (by omega), if_pos (by omega), if_neg c_148])) | (exact congrArg (fun σ => zPut S k σ (S k 2) (S k 8)) (by unfold tCor; rw [if_neg (by omega), if_neg (by omega)]))
        · refine lv_aload_n hx hb dX3_correct_91 rfl (lv_at hl 1 rfl) ?_
          refine lv_iload_n hx hb dX3_correct_92 rfl (lv_at hl 2 rfl) ?_
          refine zcVi h hH (zr_3 h hH hk) (As := [.int (zI z)]) (rest := []) (c_X3_timeOf l G hG k hk (zPut S k (S k 0) (S k 2) (S k 8)) z (by omega) (zP_hw hw)) zce_X3_timeOf zcv_X3_timeOf zm_X3_61 hl.1 rfl rfl ⟨rfl, rfl⟩ ⟨Nat.le_of_ble_eq_true rfl, Nat.le_of_ble_eq_true rfl⟩ (Nat.le_of_ble_eq_true rfl) ⟨Nat.zero_le _, Nat.zero_le _⟩ dX3_correct_93 (fun r_93 S_93 H locs hq hH => ?_)
          obtain ⟨rfl, rfl⟩ := hq
          rw [zP_0]
          refine lv_aload_n hx hb dX3_correct_96 rfl (lv_at hl 1 rfl) ?_
          refine zg_3_0 h hH hk zf_X3_12 dX3_correct_97 ?_
          refine lv_aload_n hx hb dX3_correct_100 rfl (lv_at hl 1 rfl) ?_
          refine zg_3_1 h hH hk zf_X3_18 dX3_correct_101 ?_
          refine lv_iload_n hx hb dX3_correct_104 rfl (lv_at hl 2 rfl) ?_
          refine zld_ar_de h hH hk (by omega) dX3_correct_105 ?_
          rw [zP_0]
          have f_105 := zW_de hw (show 0 ≤ z ∧ z < 8 by omega)
          refine lv_aload_n hx hb dX3_correct_106 rfl (lv_at hl 1 rfl) ?_
          refine zg_3_2 h hH hk zf_X3_22 dX3_correct_107 ?_
          refine lv_iload_n hx hb dX3_correct_110 rfl (lv_at hl 2 rfl) ?_
          refine zld_ar_wa h hH hk (by omega) dX3_correct_111 ?_
          rw [zP_0]
          have f_111 := zW_wa hw (show 0 ≤ z ∧ z < 8 by omega)
          refine zb_ic h dX3_correct_112 ?_
          refine zb_iadd h dX3_correct_113 ?_
          refine zcVi h hH (zr_2 h hH hk) (As := [.int (zI (S k 0 (5 + 5 * z))), .int (zI ((S k 0 (5 + 5 * z + 1)) + 1))]) (rest := [.int (zI (tTm (S k 0) z))]) (c_X2_leastTime l G hG k hk (zPut S k (S k 0) (S k 2) (S k 8)) (S k 0 (5 + 5 * z)) ((S k 0 (5 + 5 * z + 1)) + 1) (by omega) (by omega) (zP_ms hM) (zP_hw hw)) zce_X2_leastTime zcv_X2_leastTime zm_X3_104 hl.1 rfl rfl ⟨rfl, rfl⟩ ⟨Nat.le_of_ble_eq_true rfl, Nat.le_of_ble_eq_true rfl⟩ (Nat.le_of_ble_eq_true rfl) ⟨Nat.zero_le _, Nat.zero_le _⟩ dX3_correct_114 (fun r_114 S_114 H locs hq hH => ?_)
          obtain ⟨rfl, rfl⟩ := hq
          rw [zP_0]
          refine zb_isub h dX3_correct_117 ?_
          refine zb_ic h dX3_correct_118 ?_
          refine zb_iadd h dX3_correct_119 ?_
          refine lv_istore_n (lv' := [(3, .int (zI (((tTm (S k 0) z) - (tLe (S k 0) (S k 0 (5 + 5 * z)) ((S k 0 (5 + 5 * z + 1)) + 1))) + 1))), (2, .int (zI (tOff (S k 0) z))), (0, .ref (za G k 0)), (1, .int (zI z))]) hx hb dX3_correct_120 rfl hl (by decide) rfl (fun ls hl => ?_)
          refine lv_aload_n hx hb dX3_correct_121 rfl (lv_at hl 2 rfl) ?_
          refine zg_3_4 h hH hk zf_X3_28 dX3_correct_122 ?_
          refine lv_iload_n hx hb dX3_correct_125 rfl (lv_at hl 3 rfl) ?_
          refine lv_iload_n hx hb dX3_correct_126 rfl (lv_at hl 0 rfl) ?_
          refine zb_ic h dX3_correct_127 ?_
          refine zb_si h dX3_correct_128 (by decide) (by decide) ?_
          refine zcnSi h hH (As := [.int (zI (((tTm (S k 0) z) - (tLe (S k 0) (S k 0 (5 + 5 * z)) ((S k 0 (5 + 5 * z + 1)) + 1))) + 1)), .int (zI 1), .int (zI 999)]) (rest := [.int (zI z), .ref (za G k 6)]) (c_X4_isWithin l G hG (zPut S k (S k 0) (S k 2) (S k 8)) (((tTm (S k 0) z) - (tLe (S k 0) (S k 0 (5 + 5 * z)) ((S k 0 (5 + 5 * z + 1)) + 1))) + 1) 1 999 (by omega) (by omega) (by omega)) zce_X4_isWithin zt_X4_isWithin zmn_X3_127 hl.1 rfl rfl ⟨rfl, rfl⟩ ⟨Nat.le_of_ble_eq_true rfl, Nat.le_of_ble_eq_true rfl⟩ (Nat.le_of_ble_eq_true rfl) ⟨Nat.zero_le _, Nat.zero_le _⟩ dX3_correct_131 (fun r_131 S_131 H locs hq hH => ?_)
          obtain ⟨b_131, rfl, hb_131, rfl⟩ := hq
          refine zb_ieq (tgt := 141) h (by omega) dX3_correct_134 (by decide) (fun c_134 => ?_) (fun c_134 => ?_)
          · refine zb_ic h dX3_correct_141 ?_
            refine zb_top (y := tPb (((tTm (S k 0) z) - (tLe (S k 0) (S k 0 (5 + 5 * z)) ((S k 0 (5 + 5 * z + 1)) + 1))) + 1)) (by unfold tPb; first | rw [if_pos (by omega)] | rw [if_neg (by omega)]) ?_
            refine zst_ar_ho h hH hk (by omega) dX3_correct_142 (fun H locs hH => ?_)
            rw [zs_P0] at hH
            have pb := tPb_in (((tTm (S k 0) z) - (tLe (S k 0) (S k 0 (5 + 5 * z)) ((S k 0 (5 + 5 * z + 1)) + 1))) + 1)
            have hw1 : zW (zup (S k 0) (5 + 5 * z + 3) (tPb (((tTm (S k 0) z) - (tLe (S k 0) (S k 0 (5 + 5 * z)) ((S k 0 (5 + 5 * z + 1)) + 1))) + 1))) := zW_upz hw hz0.1 (w := 3) (by omega) (by omega) rfl
            have hM1 : ∀ j : Int, 0 ≤ j → j < 10 → S k 2 j = zMk ((zup (S k 0) (5 + 5 * z + 3) (tPb (((tTm (S k 0) z) - (tLe (S k 0) (S k 0 (5 + 5 * z)) ((S k 0 (5 + 5 * z + 1)) + 1))) + 1))) 1) ((zup (S k 0) (5 + 5 * z + 3) (tPb (((tTm (S k 0) z) - (tLe (S k 0) (S k 0 (5 + 5 * z)) ((S k 0 (5 + 5 * z + 1)) + 1))) + 1))) 2) j := by rw [zup_n (by omega), zup_n (by omega)]; exact hms
            refine lv_aload_n hx hb dX3_correct_143 rfl (lv_at hl 2 rfl) ?_
            refine lv_iload_n hx hb dX3_correct_144 rfl (lv_at hl 3 rfl) ?_
            refine zcVi h hH (zr_3 h hH hk) (As := [.int (zI z)]) (rest := []) (c_X3_tooDarkBy l G hG k hk (zPut S k (zup (S k 0) (5 + 5 * z + 3) (tPb (((tTm (S k 0) z) - (tLe (S k 0) (S k 0 (5 + 5 * z)) ((S k 0 (5 + 5 * z + 1)) + 1))) + 1))) (S k 2) (S k 8)) z (by omega) (zP_ms hM1) (zP_hw hw1)) zce_X3_tooDarkBy zcv_X3_tooDarkBy zm_X3_90 hl.1 rfl rfl ⟨rfl, rfl⟩ ⟨Nat.le_of_ble_eq_true rfl, Nat.le_of_ble_eq_true rfl⟩ (Nat.le_of_ble_eq_true rfl) ⟨Nat.zero_le _, Nat.zero_le _⟩ dX3_correct_145 (fun r_145 S_145 H locs hq hH => ?_)
            obtain ⟨rfl, rfl⟩ := hq
            rw [zP_0]
            have b5 := tOff_in hw1 hz
            refine zb_ieq (tgt := 158) h (by omega) dX3_correct_148 (by decide) (fun c_148 => ?_) (fun c_148 => ?_)
            · refine zrv h hr hH ?_ dX3_correct_158
              first | (exact congrArg (fun σ => zPut S k σ (S k 2) (S k 8)) (by unfold tCor; rw [if_pos (by omega), if_pos c_74])) | (exact congrArg (fun σ => zPut S k σ (S k 2) (S k 8)) (by unfold tCor; rw [if_pos (by omega), if_neg c_74])) | (exact congrArg (fun σ => zPut S k σ (S k 2) (S k 8)) (by unfold tCor; rw [if_neg (by omega), if_pos (by omega), if_pos c_148])) | (exact congrArg (fun σ => zPut S k σ (S k 2) (S k 8)) (by unfold tCor; rw [if_neg (by omega), if_pos (by omega), if_neg c_148])) | (exact congrArg (fun σ => zPut S k σ (S k 2) (S k 8)) (by unfold tCor; rw [if_neg (by omega), if_neg (by omega)]))
            · refine lv_aload_n hx hb dX3_correct_151 rfl (lv_at hl 2 rfl) ?_
              refine zg_3_4 h hH hk zf_X3_28 dX3_correct_152 ?_
              refine lv_iload_n hx hb dX3_correct_155 rfl (lv_at hl 3 rfl) ?_
              refine zb_ic h dX3_correct_156 ?_
              refine zst_ar_ho h hH hk (by omega) dX3_correct_157 (fun H locs hH => ?_)
              rw [zs_P0] at hH
              refine zrv h hr hH ?_ dX3_correct_158
              first | (exact congrArg (fun σ => zPut S k σ (S k 2) (S k 8)) (by unfold tCor; rw [if_pos (by omega), if_pos c_74])) | (exact congrArg (fun σ => zPut S k σ (S k 2) (S k 8)) (by unfold tCor; rw [if_pos (by omega), if_neg c_74])) | (exact congrArg (fun σ => zPut S k σ (S k 2) (S k 8)) (by unfold tCor; rw [if_neg (by omega), if_pos (by omega), if_pos c_148])) | (exact congrArg (fun σ => zPut S k σ (S k 2) (S k 8)) (by unfold tCor; rw [if_neg (by omega), if_pos (by omega), if_neg c_148])) | (exact congrArg (fun σ => zPut S k σ (S k 2) (S k 8)) (by unfold tCor; rw [if_neg (by omega), if_neg (by omega)]))
          · refine lv_iload_n hx hb dX3_correct_137 rfl (lv_at hl 0 rfl) ?_
            refine lv_goto (tgt := 142) hx hb dX3_correct_138 (by decide) ?_
            refine zb_top (y := tPb (((tTm (S k 0) z) - (tLe (S k 0) (S k 0 (5 + 5 * z)) ((S k 0 (5 + 5 * z + 1)) + 1))) + 1)) (by unfold tPb; first | rw [if_pos (by omega)] | rw [if_neg (by omega)]) ?_
            refine zst_ar_ho h hH hk (by omega) dX3_correct_142 (fun H locs hH => ?_)
            rw [zs_P0] at hH
            have pb := tPb_in (((tTm (S k 0) z) - (tLe (S k 0) (S k 0 (5 + 5 * z)) ((S k 0 (5 + 5 * z + 1)) + 1))) + 1)
            have hw1 : zW (zup (S k 0) (5 + 5 * z + 3) (tPb (((tTm (S k 0) z) - (tLe (S k 0) (S k 0 (5 + 5 * z)) ((S k 0 (5 + 5 * z + 1)) + 1))) + 1))) := zW_upz hw hz0.1 (w := 3) (by omega) (by omega) rfl
            have hM1 : ∀ j : Int, 0 ≤ j → j < 10 → S k 2 j = zMk ((zup (S k 0) (5 + 5 * z + 3) (tPb (((tTm (S k 0) z) - (tLe (S k 0) (S k 0 (5 + 5 * z)) ((S k 0 (5 + 5 * z + 1)) + 1))) + 1))) 1) ((zup (S k 0) (5 + 5 * z + 3) (tPb (((tTm (S k 0) z) - (tLe (S k 0) (S k 0 (5 + 5 * z)) ((S k 0 (5 + 5 * z + 1)) + 1))) + 1))) 2) j := by rw [zup_n (by omega), zup_n (by omega)]; exact hms
            refine lv_aload_n hx hb dX3_correct_143 rfl (lv_at hl 2 rfl) ?_
            refine lv_iload_n hx hb dX3_correct_144 rfl (lv_at hl 3 rfl) ?_
            refine zcVi h hH (zr_3 h hH hk) (As := [.int (zI z)]) (rest := []) (c_X3_tooDarkBy l G hG k hk (zPut S k (zup (S k 0) (5 + 5 * z + 3) (tPb (((tTm (S k 0) z) - (tLe (S k 0) (S k 0 (5 + 5 * z)) ((S k 0 (5 + 5 * z + 1)) + 1))) + 1))) (S k 2) (S k 8)) z (by omega) (zP_ms hM1) (zP_hw hw1)) zce_X3_tooDarkBy zcv_X3_tooDarkBy zm_X3_90 hl.1 rfl rfl ⟨rfl, rfl⟩ ⟨Nat.le_of_ble_eq_true rfl, Nat.le_of_ble_eq_true rfl⟩ (Nat.le_of_ble_eq_true rfl) ⟨Nat.zero_le _, Nat.zero_le _⟩ dX3_correct_145 (fun r_145 S_145 H locs hq hH => ?_)
            obtain ⟨rfl, rfl⟩ := hq
            rw [zP_0]
            have b5 := tOff_in hw1 hz
            refine zb_ieq (tgt := 158) h (by omega) dX3_correct_148 (by decide) (fun c_148 => ?_) (fun c_148 => ?_)
            · refine zrv h hr hH ?_ dX3_correct_158
              first | (exact congrArg (fun σ => zPut S k σ (S k 2) (S k 8)) (by unfold tCor; rw [if_pos (by omega), if_pos c_74])) | (exact congrArg (fun σ => zPut S k σ (S k 2) (S k 8)) (by unfold tCor; rw [if_pos (by omega), if_neg c_74])) | (exact congrArg (fun σ => zPut S k σ (S k 2) (S k 8)) (by unfold tCor; rw [if_neg (by omega), if_pos (by omega), if_pos c_148])) | (exact congrArg (fun σ => zPut S k σ (S k 2) (S k 8)) (by unfold tCor; rw [if_neg (by omega), if_pos (by omega), if_neg c_148])) | (exact congrArg (fun σ => zPut S k σ (S k 2) (S k 8)) (by unfold tCor; rw [if_neg (by omega), if_neg (by omega)]))
            · refine lv_aload_n hx hb dX3_correct_151 rfl (lv_at hl 2 rfl) ?_
              refine zg_3_4 h hH hk zf_X3_28 dX3_correct_152 ?_
              refine lv_iload_n hx hb dX3_correct_155 rfl (lv_at hl 3 rfl) ?_
              refine zb_ic h dX3_correct_156 ?_
              refine zst_ar_ho h hH hk (by omega) dX3_correct_157 (fun H locs hH => ?_)
              rw [zs_P0] at hH
              refine zrv h hr hH ?_ dX3_correct_158
              first | (exact congrArg (fun σ => zPut S k σ (S k 2) (S k 8)) (by unfold tCor; rw [if_pos (by omega), if_pos c_74])) | (exact congrArg (fun σ => zPut S k σ (S k 2) (S k 8)) (by unfold tCor; rw [if_pos (by omega), if_neg c_74])) | (exact congrArg (fun σ => zPut S k σ (S k 2) (S k 8)) (by unfold tCor; rw [if_neg (by omega), if_pos (by omega), if_pos c_148])) | (exact congrArg (fun σ => zPut S k σ (S k 2) (S k 8)) (by unfold tCor; rw [if_neg (by omega), if_pos (by omega), if_neg c_148])) | (exact congrArg (fun σ => zPut S k σ (S k 2) (S k 8)) (by unfold tCor; rw [if_neg (by omega), if_neg (by omega)]))
      · refine lv_aload_n hx hb dX3_correct_21 rfl (lv_at hl 1 rfl) ?_
        refine zg_3_0 h hH hk zf_X3_12 dX3_correct_22 ?_
        refine lv_aload_n hx hb dX3_correct_25 rfl (lv_at hl 1 rfl) ?_
        refine zg_3_1 h hH hk zf_X3_18 dX3_correct_26 ?_
        refine lv_iload_n hx hb dX3_correct_29 rfl (lv_at hl 2 rfl) ?_
        refine zld_ar_de h hH hk (by omega) dX3_correct_30 ?_
        rw [zP_0]
        have f_30 := zW_de hw (show 0 ≤ z ∧ z < 8 by omega)
        refine lv_aload_n hx hb dX3_correct_31 rfl (lv_at hl 1 rfl) ?_
        refine zg_3_2 h hH hk zf_X3_22 dX3_correct_32 ?_
        refine lv_iload_n hx hb dX3_correct_35 rfl (lv_at hl 2 rfl) ?_
        refine zld_ar_wa h hH hk (by omega) dX3_correct_36 ?_
        rw [zP_0]
        have f_36 := zW_wa hw (show 0 ≤ z ∧ z < 8 by omega)
        refine zcVi h hH (zr_2 h hH hk) (As := [.int (zI (S k 0 (5 + 5 * z))), .int (zI (S k 0 (5 + 5 * z + 1)))]) (rest := []) (c_X2_leastTime l G hG k hk (zPut S k (S k 0) (S k 2) (S k 8)) (S k 0 (5 + 5 * z)) (S k 0 (5 + 5 * z + 1)) (by omega) (by omega) (zP_ms hM) (zP_hw hw)) zce_X2_leastTime zcv_X2_leastTime zm_X3_104 hl.1 rfl rfl ⟨rfl, rfl⟩ ⟨Nat.le_of_ble_eq_true rfl, Nat.le_of_ble_eq_true rfl⟩ (Nat.le_of_ble_eq_true rfl) ⟨Nat.zero_le _, Nat.zero_le _⟩ dX3_correct_37 (fun r_37 S_37 H locs hq hH => ?_)
        obtain ⟨rfl, rfl⟩ := hq
        rw [zP_0]
        refine lv_aload_n hx hb dX3_correct_40 rfl (lv_at hl 1 rfl) ?_
        refine lv_iload_n hx hb dX3_correct_41 rfl (lv_at hl 2 rfl) ?_
        refine zcVi h hH (zr_3 h hH hk) (As := [.int (zI z)]) (rest := [.int (zI (tLe (S k 0) (S k 0 (5 + 5 * z)) (S k 0 (5 + 5 * z + 1))))]) (c_X3_timeOf l G hG k hk (zPut S k (S k 0) (S k 2) (S k 8)) z (by omega) (zP_hw hw)) zce_X3_timeOf zcv_X3_timeOf zm_X3_61 hl.1 rfl rfl ⟨rfl, rfl⟩ ⟨Nat.le_of_ble_eq_true rfl, Nat.le_of_ble_eq_true rfl⟩ (Nat.le_of_ble_eq_true rfl) ⟨Nat.zero_le _, Nat.zero_le _⟩ dX3_correct_42 (fun r_42 S_42 H locs hq hH => ?_)
        obtain ⟨rfl, rfl⟩ := hq
        rw [zP_0]
        refine zb_isub h dX3_correct_45 ?_
        refine lv_istore_n (lv' := [(3, .int (zI ((tLe (S k 0) (S k 0 (5 + 5 * z)) (S k 0 (5 + 5 * z + 1))) - (tTm (S k 0) z)))), (2, .int (zI (tOff (S k 0) z))), (0, .ref (za G k 0)), (1, .int (zI z))]) hx hb dX3_correct_46 rfl hl (by decide) rfl (fun ls hl => ?_)
        refine lv_aload_n hx hb dX3_correct_47 rfl (lv_at hl 2 rfl) ?_
        refine zg_3_3 h hH hk zf_X3_25 dX3_correct_48 ?_
        refine lv_iload_n hx hb dX3_correct_51 rfl (lv_at hl 3 rfl) ?_
        refine lv_iload_n hx hb dX3_correct_52 rfl (lv_at hl 0 rfl) ?_
        refine zb_ic h dX3_correct_53 ?_
        refine zb_si h dX3_correct_54 (by decide) (by decide) ?_
        refine zcnSi h hH (As := [.int (zI ((tLe (S k 0) (S k 0 (5 + 5 * z)) (S k 0 (5 + 5 * z + 1))) - (tTm (S k 0) z))), .int (zI 1), .int (zI 999)]) (rest := [.int (zI z), .ref (za G k 5)]) (c_X4_isWithin l G hG (zPut S k (S k 0) (S k 2) (S k 8)) ((tLe (S k 0) (S k 0 (5 + 5 * z)) (S k 0 (5 + 5 * z + 1))) - (tTm (S k 0) z)) 1 999 (by omega) (by omega) (by omega)) zce_X4_isWithin zt_X4_isWithin zmn_X3_127 hl.1 rfl rfl ⟨rfl, rfl⟩ ⟨Nat.le_of_ble_eq_true rfl, Nat.le_of_ble_eq_true rfl⟩ (Nat.le_of_ble_eq_true rfl) ⟨Nat.zero_le _, Nat.zero_le _⟩ dX3_correct_57 (fun r_57 S_57 H locs hq hH => ?_)
        obtain ⟨b_57, rfl, hb_57, rfl⟩ := hq
        refine zb_ieq (tgt := 67) h (by omega) dX3_correct_60 (by decide) (fun c_60 => ?_) (fun c_60 => ?_)
        · refine zb_ic h dX3_correct_67 ?_
          refine zb_top (y := tPb ((tLe (S k 0) (S k 0 (5 + 5 * z)) (S k 0 (5 + 5 * z + 1))) - (tTm (S k 0) z))) (by unfold tPb; first | rw [if_pos (by omega)] | rw [if_neg (by omega)]) ?_
          refine zst_ar_bu h hH hk (by omega) dX3_correct_68 (fun H locs hH => ?_)
          rw [zs_P0] at hH
          have pb := tPb_in ((tLe (S k 0) (S k 0 (5 + 5 * z)) (S k 0 (5 + 5 * z + 1))) - (tTm (S k 0) z))
          have hw1 : zW (zup (S k 0) (5 + 5 * z + 2) (tPb ((tLe (S k 0) (S k 0 (5 + 5 * z)) (S k 0 (5 + 5 * z + 1))) - (tTm (S k 0) z)))) := zW_upz hw hz0.1 (w := 2) (by omega) (by omega) rfl
          have hM1 : ∀ j : Int, 0 ≤ j → j < 10 → S k 2 j = zMk ((zup (S k 0) (5 + 5 * z + 2) (tPb ((tLe (S k 0) (S k 0 (5 + 5 * z)) (S k 0 (5 + 5 * z + 1))) - (tTm (S k 0) z)))) 1) ((zup (S k 0) (5 + 5 * z + 2) (tPb ((tLe (S k 0) (S k 0 (5 + 5 * z)) (S k 0 (5 + 5 * z + 1))) - (tTm (S k 0) z)))) 2) j := by rw [zup_n (by omega), zup_n (by omega)]; exact hms
          refine lv_aload_n hx hb dX3_correct_69 rfl (lv_at hl 2 rfl) ?_
          refine lv_iload_n hx hb dX3_correct_70 rfl (lv_at hl 3 rfl) ?_
          refine zcVi h hH (zr_3 h hH hk) (As := [.int (zI z)]) (rest := []) (c_X3_tooDarkBy l G hG k hk (zPut S k (zup (S k 0) (5 + 5 * z + 2) (tPb ((tLe (S k 0) (S k 0 (5 + 5 * z)) (S k 0 (5 + 5 * z + 1))) - (tTm (S k 0) z)))) (S k 2) (S k 8)) z (by omega) (zP_ms hM1) (zP_hw hw1)) zce_X3_tooDarkBy zcv_X3_tooDarkBy zm_X3_90 hl.1 rfl rfl ⟨rfl, rfl⟩ ⟨Nat.le_of_ble_eq_true rfl, Nat.le_of_ble_eq_true rfl⟩ (Nat.le_of_ble_eq_true rfl) ⟨Nat.zero_le _, Nat.zero_le _⟩ dX3_correct_71 (fun r_71 S_71 H locs hq hH => ?_)
          obtain ⟨rfl, rfl⟩ := hq
          rw [zP_0]
          have b5 := tOff_in hw1 hz
          refine zb_ieq (tgt := 84) h (by omega) dX3_correct_74 (by decide) (fun c_74 => ?_) (fun c_74 => ?_)
          · refine lv_goto (tgt := 158) hx hb dX3_correct_84 (by decide) ?_
            refine zrv h hr hH ?_ dX3_correct_158
            first | (exact congrArg (fun σ => zPut S k σ (S k 2) (S k 8)) (by unfold tCor; rw [if_pos (by omega), if_pos c_74])) | (exact congrArg (fun σ => zPut S k σ (S k 2) (S k 8)) (by unfold tCor; rw [if_pos (by omega), if_neg c_74])) | (exact congrArg (fun σ => zPut S k σ (S k 2) (S k 8)) (by unfold tCor; rw [if_neg (by omega), if_pos (by omega), if_pos c_148])) | (exact congrArg (fun σ => zPut S k σ (S k 2) (S k 8)) (by unfold tCor; rw [if_neg (by omega), if_pos (by omega), if_neg c_148])) | (exact congrArg (fun σ => zPut S k σ (S k 2) (S k 8)) (by unfold tCor; rw [if_neg (by omega), if_neg (by omega)]))
          · refine lv_aload_n hx hb dX3_correct_77 rfl (lv_at hl 2 rfl) ?_
            refine zg_3_3 h hH hk zf_X3_25 dX3_correct_78 ?_
            refine lv_iload_n hx hb dX3_correct_81 rfl (lv_at hl 3 rfl) ?_
            refine zb_ic h dX3_correct_82 ?_
            refine zst_ar_bu h hH hk (by omega) dX3_correct_83 (fun H locs hH => ?_)
            rw [zs_P0] at hH
            refine lv_goto (tgt := 158) hx hb dX3_correct_84 (by decide) ?_
            refine zrv h hr hH ?_ dX3_correct_158
            first | (exact congrArg (fun σ => zPut S k σ (S k 2) (S k 8)) (by unfold tCor; rw [if_pos (by omega), if_pos c_74])) | (exact congrArg (fun σ => zPut S k σ (S k 2) (S k 8)) (by unfold tCor; rw [if_pos (by omega), if_neg c_74])) | (exact congrArg (fun σ => zPut S k σ (S k 2) (S k 8)) (by unfold tCor; rw [if_neg (by omega), if_pos (by omega), if_pos c_148])) | (exact congrArg (fun σ => zPut S k σ (S k 2) (S k 8)) (by unfold tCor; rw [if_neg (by omega), if_pos (by omega), if_neg c_148])) | (exact congrArg (fun σ => zPut S k σ (S k 2) (S k 8)) (by unfold tCor; rw [if_neg (by omega), if_neg (by omega)]))
        · refine lv_iload_n hx hb dX3_correct_63 rfl (lv_at hl 0 rfl) ?_
          refine lv_goto (tgt := 68) hx hb dX3_correct_64 (by decide) ?_
          refine zb_top (y := tPb ((tLe (S k 0) (S k 0 (5 + 5 * z)) (S k 0 (5 + 5 * z + 1))) - (tTm (S k 0) z))) (by unfold tPb; first | rw [if_pos (by omega)] | rw [if_neg (by omega)]) ?_
          refine zst_ar_bu h hH hk (by omega) dX3_correct_68 (fun H locs hH => ?_)
          rw [zs_P0] at hH
          have pb := tPb_in ((tLe (S k 0) (S k 0 (5 + 5 * z)) (S k 0 (5 + 5 * z + 1))) - (tTm (S k 0) z))
          have hw1 : zW (zup (S k 0) (5 + 5 * z + 2) (tPb ((tLe (S k 0) (S k 0 (5 + 5 * z)) (S k 0 (5 + 5 * z + 1))) - (tTm (S k 0) z)))) := zW_upz hw hz0.1 (w := 2) (by omega) (by omega) rfl
          have hM1 : ∀ j : Int, 0 ≤ j → j < 10 → S k 2 j = zMk ((zup (S k 0) (5 + 5 * z + 2) (tPb ((tLe (S k 0) (S k 0 (5 + 5 * z)) (S k 0 (5 + 5 * z + 1))) - (tTm (S k 0) z)))) 1) ((zup (S k 0) (5 + 5 * z + 2) (tPb ((tLe (S k 0) (S k 0 (5 + 5 * z)) (S k 0 (5 + 5 * z + 1))) - (tTm (S k 0) z)))) 2) j := by rw [zup_n (by omega), zup_n (by omega)]; exact hms
          refine lv_aload_n hx hb dX3_correct_69 rfl (lv_at hl 2 rfl) ?_
          refine lv_iload_n hx hb dX3_correct_70 rfl (lv_at hl 3 rfl) ?_
          refine zcVi h hH (zr_3 h hH hk) (As := [.int (zI z)]) (rest := []) (c_X3_tooDarkBy l G hG k hk (zPut S k (zup (S k 0) (5 + 5 * z + 2) (tPb ((tLe (S k 0) (S k 0 (5 + 5 * z)) (S k 0 (5 + 5 * z + 1))) - (tTm (S k 0) z)))) (S k 2) (S k 8)) z (by omega) (zP_ms hM1) (zP_hw hw1)) zce_X3_tooDarkBy zcv_X3_tooDarkBy zm_X3_90 hl.1 rfl rfl ⟨rfl, rfl⟩ ⟨Nat.le_of_ble_eq_true rfl, Nat.le_of_ble_eq_true rfl⟩ (Nat.le_of_ble_eq_true rfl) ⟨Nat.zero_le _, Nat.zero_le _⟩ dX3_correct_71 (fun r_71 S_71 H locs hq hH => ?_)
          obtain ⟨rfl, rfl⟩ := hq
          rw [zP_0]
          have b5 := tOff_in hw1 hz
          refine zb_ieq (tgt := 84) h (by omega) dX3_correct_74 (by decide) (fun c_74 => ?_) (fun c_74 => ?_)
          · refine lv_goto (tgt := 158) hx hb dX3_correct_84 (by decide) ?_
            refine zrv h hr hH ?_ dX3_correct_158
            first | (exact congrArg (fun σ => zPut S k σ (S k 2) (S k 8)) (by unfold tCor; rw [if_pos (by omega), if_pos c_74])) | (exact congrArg (fun σ => zPut S k σ (S k 2) (S k 8)) (by unfold tCor; rw [if_pos (by omega), if_neg c_74])) | (exact congrArg (fun σ => zPut S k σ (S k 2) (S k 8)) (by unfold tCor; rw [if_neg (by omega), if_pos (by omega), if_pos c_148])) | (exact congrArg (fun σ => zPut S k σ (S k 2) (S k 8)) (by unfold tCor; rw [if_neg (by omega), if_pos (by omega), if_neg c_148])) | (exact congrArg (fun σ => zPut S k σ (S k 2) (S k 8)) (by unfold tCor; rw [if_neg (by omega), if_neg (by omega)]))
          · refine lv_aload_n hx hb dX3_correct_77 rfl (lv_at hl 2 rfl) ?_
            refine zg_3_3 h hH hk zf_X3_25 dX3_correct_78 ?_
            refine lv_iload_n hx hb dX3_correct_81 rfl (lv_at hl 3 rfl) ?_
            refine zb_ic h dX3_correct_82 ?_
            refine zst_ar_bu h hH hk (by omega) dX3_correct_83 (fun H locs hH => ?_)
            rw [zs_P0] at hH
            refine lv_goto (tgt := 158) hx hb dX3_correct_84 (by decide) ?_
            refine zrv h hr hH ?_ dX3_correct_158
            first | (exact congrArg (fun σ => zPut S k σ (S k 2) (S k 8)) (by unfold tCor; rw [if_pos (by omega), if_pos c_74])) | (exact congrArg (fun σ => zPut S k σ (S k 2) (S k 8)) (by unfold tCor; rw [if_pos (by omega), if_neg c_74])) | (exact congrArg (fun σ => zPut S k σ (S k 2) (S k 8)) (by unfold tCor; rw [if_neg (by omega), if_pos (by omega), if_pos c_148])) | (exact congrArg (fun σ => zPut S k σ (S k 2) (S k 8)) (by unfold tCor; rw [if_neg (by omega), if_pos (by omega), if_neg c_148])) | (exact congrArg (fun σ => zPut S k σ (S k 2) (S k 8)) (by unfold tCor; rw [if_neg (by omega), if_neg (by omega)]))
    · exact absurd c_7 (by omega)
theorem dX3_makePlan_0 : decode cX3_makePlan 0 = .ok (.iconst 0, 1) := by decide +kernel
theorem dX3_makePlan_1 : decode cX3_makePlan 1 = .ok (.istore_n 1, 1) := by decide +kernel
theorem dX3_makePlan_2 : decode cX3_makePlan 2 = .ok (.iload_n 1, 1) := by decide +kernel
theorem dX3_makePlan_3 : decode cX3_makePlan 3 = .ok (.aload_n 0, 1) := by decide +kernel
theorem dX3_makePlan_4 : decode cX3_makePlan 4 = .ok (.getfield 37, 3) := by decide +kernel
theorem dX3_makePlan_7 : decode cX3_makePlan 7 = .ok (.if_icmp .ge 29, 3) := by decide +kernel
theorem dX3_makePlan_10 : decode cX3_makePlan 10 = .ok (.iload_n 1, 1) := by decide +kernel
theorem dX3_makePlan_11 : decode cX3_makePlan 11 = .ok (.bipush 8, 2) := by decide +kernel
theorem dX3_makePlan_13 : decode cX3_makePlan 13 = .ok (.if_icmp .ge 23, 3) := by decide +kernel
theorem dX3_makePlan_16 : decode cX3_makePlan 16 = .ok (.aload_n 0, 1) := by decide +kernel
theorem dX3_makePlan_17 : decode cX3_makePlan 17 = .ok (.getfield 25, 3) := by decide +kernel
theorem dX3_makePlan_20 : decode cX3_makePlan 20 = .ok (.iload_n 1, 1) := by decide +kernel
theorem dX3_makePlan_21 : decode cX3_makePlan 21 = .ok (.iconst 0, 1) := by decide +kernel
theorem dX3_makePlan_22 : decode cX3_makePlan 22 = .ok (.iastore, 1) := by decide +kernel
theorem dX3_makePlan_23 : decode cX3_makePlan 23 = .ok (.aload_n 0, 1) := by decide +kernel
theorem dX3_makePlan_24 : decode cX3_makePlan 24 = .ok (.getfield 28, 3) := by decide +kernel
theorem dX3_makePlan_27 : decode cX3_makePlan 27 = .ok (.iload_n 1, 1) := by decide +kernel
theorem dX3_makePlan_28 : decode cX3_makePlan 28 = .ok (.iconst 0, 1) := by decide +kernel
theorem dX3_makePlan_29 : decode cX3_makePlan 29 = .ok (.iastore, 1) := by decide +kernel
theorem dX3_makePlan_30 : decode cX3_makePlan 30 = .ok (.iinc 1 1, 3) := by decide +kernel
theorem dX3_makePlan_33 : decode cX3_makePlan 33 = .ok (.goto (-31), 3) := by decide +kernel
theorem dX3_makePlan_36 : decode cX3_makePlan 36 = .ok (.aload_n 0, 1) := by decide +kernel
theorem dX3_makePlan_37 : decode cX3_makePlan 37 = .ok (.invokevirtual 116, 3) := by decide +kernel
theorem dX3_makePlan_40 : decode cX3_makePlan 40 = .ok (.istore_n 1, 1) := by decide +kernel
theorem dX3_makePlan_41 : decode cX3_makePlan 41 = .ok (.iload_n 1, 1) := by decide +kernel
theorem dX3_makePlan_42 : decode cX3_makePlan 42 = .ok (.iconst (-1), 1) := by decide +kernel
theorem dX3_makePlan_43 : decode cX3_makePlan 43 = .ok (.if_icmp .eq 14, 3) := by decide +kernel
theorem dX3_makePlan_46 : decode cX3_makePlan 46 = .ok (.aload_n 0, 1) := by decide +kernel
theorem dX3_makePlan_47 : decode cX3_makePlan 47 = .ok (.iload_n 1, 1) := by decide +kernel
theorem dX3_makePlan_48 : decode cX3_makePlan 48 = .ok (.sipush 2000, 3) := by decide +kernel
theorem dX3_makePlan_51 : decode cX3_makePlan 51 = .ok (.invokestatic 107, 3) := by decide +kernel
theorem dX3_makePlan_54 : decode cX3_makePlan 54 = .ok (.putfield 41, 3) := by decide +kernel
theorem dX3_makePlan_57 : decode cX3_makePlan 57 = .ok (.iconst 0, 1) := by decide +kernel
theorem dX3_makePlan_58 : decode cX3_makePlan 58 = .ok (.istore_n 2, 1) := by decide +kernel
theorem dX3_makePlan_59 : decode cX3_makePlan 59 = .ok (.iload_n 2, 1) := by decide +kernel
theorem dX3_makePlan_60 : decode cX3_makePlan 60 = .ok (.aload_n 0, 1) := by decide +kernel
theorem dX3_makePlan_61 : decode cX3_makePlan 61 = .ok (.getfield 37, 3) := by decide +kernel
theorem dX3_makePlan_64 : decode cX3_makePlan 64 = .ok (.if_icmp .ge 14, 3) := by decide +kernel
theorem dX3_makePlan_67 : decode cX3_makePlan 67 = .ok (.aload_n 0, 1) := by decide +kernel
theorem dX3_makePlan_68 : decode cX3_makePlan 68 = .ok (.iload_n 2, 1) := by decide +kernel
theorem dX3_makePlan_69 : decode cX3_makePlan 69 = .ok (.invokevirtual 120, 3) := by decide +kernel
theorem dX3_makePlan_72 : decode cX3_makePlan 72 = .ok (.iinc 2 1, 3) := by decide +kernel
theorem dX3_makePlan_75 : decode cX3_makePlan 75 = .ok (.goto (-16), 3) := by decide +kernel
theorem dX3_makePlan_78 : decode cX3_makePlan 78 = .ok (.return_, 1) := by decide +kernel
def q_X3_makePlan (k : Nat) (S : zM) : zM → Prop := fun S1 => ∃ q', zPut S k (tPlan (S k 0)) (S k 2) q' = S1
def r_X3_makePlan : Room := { frames := 4, cells := 0, slots := 0, locals := 94 }
set_option maxHeartbeats 4000000 in
set_option maxRecDepth 100000 in
theorem c_X3_makePlan (l : Launch) (G : zG) (hG : zok G) (k : Nat) (hk : k < 8) (S : zM) (hms : zMs S k) (hw : zW (S k 0))  : Met l yX3_makePlan (Cond.code yX3_makePlan cX3_makePlan 3 (none : Option FieldType) :: zTbl) r_X3_makePlan (va_Pc [.ref (za G k 0)] (zB G S)) (va_Qv (q_X3_makePlan k S) (zB G) (zA G)) 0 0 (zA G) := by
  refine zMet [(0, .ref (za G k 0))] hG (by decide) (Nat.le_of_ble_eq_true rfl) rfl (fun p e s m args below meth c ls h hx hb hr hH hl => ?_)
  rw [← zP_id S k] at hH
  have f4 := zW_4 hw
  have C59 : ∀ (fu : Nat) (o mid : Int) (τ q : Int → Int) (H : Heap) (locs : List Loc) (ls : Array Slot), (S k 0 4 - o).toNat < fu → (0 ≤ o ∧ o ≤ S k 0 4) → (τ = tCors (tTim (tClr (S k 0) (S k 0 4).toNat)) o.toNat) → zH G (zPut S k τ (S k 2) q) s H locs → lv_has ls 3 [(0, .ref (za G k 0)), (1, .int (zI mid)), (2, .int (zI o))] → W p l e r_X3_makePlan s m args below meth c H locs 0 0 (MQ below (va_Qv (q_X3_makePlan k S) (zB G) (zA G)) args s 0 0 (zA G)) (F0 m 59 ls []) := by
    intro fu
    induction fu with
    | zero => intro o mid τ q H locs ls hfu; omega
    | succ fu ih59 =>
      intro o mid τ q H locs ls hfu ho hτ hH hl
      have hd := tCors_in (tTim_in (tClr_in hw (S k 0 4).toNat).1).1 o.toNat
      have he1 := (tTim_in (tClr_in hw (S k 0 4).toNat).1).2
      have he2 := (tClr_in hw (S k 0 4).toNat).2
      rw [← hτ] at hd
      have hMτ : ∀ j : Int, 0 ≤ j → j < 10 → S k 2 j = zMk (τ 1) (τ 2) j := by rw [hd.2.2.1, hd.2.2.2, he1.2.1, he1.2.2, he2.2.1, he2.2.2]; exact hms
      refine lv_iload_n hx hb dX3_makePlan_59 rfl (lv_at hl 2 rfl) ?_
      refine lv_aload_n hx hb dX3_makePlan_60 rfl (lv_at hl 0 rfl) ?_
      refine zg_3_7 h hH hk zf_X3_37 dX3_makePlan_61 ?_
      rw [zP_0]
      have f_61 := zW_4 hd.1
      refine zb_cge (tgt := 78) h (by omega) (by omega) dX3_makePlan_64 (by decide) (fun c_64 => ?_) (fun c_64 => ?_)
      · refine zrv h hr hH ?_ dX3_makePlan_78
        obtain rfl : o = S k 0 4 := by omega
        exact ⟨q, by rw [hτ]; rfl⟩
      · refine lv_aload_n hx hb dX3_makePlan_67 rfl (lv_at hl 0 rfl) ?_
        refine lv_iload_n hx hb dX3_makePlan_68 rfl (lv_at hl 2 rfl) ?_
        refine zcVv h hH (zr_3 h hH hk) (As := [.int (zI o)]) (rest := []) (c_X3_correct l G hG k hk (zPut S k τ (S k 2) q) o (by omega) (zP_ms hMτ) (zP_hw hd.1)) zce_X3_correct zcv_X3_correct zm_X3_120 hl.1 rfl rfl ⟨rfl, rfl⟩ ⟨Nat.le_of_ble_eq_true rfl, Nat.le_of_ble_eq_true rfl⟩ (Nat.le_of_ble_eq_true rfl) ⟨Nat.zero_le _, Nat.zero_le _⟩ dX3_makePlan_69 (fun S_69 H locs hq hH => ?_)
        obtain rfl := hq
        simp only [zP_P, zP_0, zP_2, zP_8] at hH
        refine lv_iinc (v := zI (o + 1)) (lv' := [(2, .int (zI (o + 1))), (0, .ref (za G k 0)), (1, .int (zI mid))]) hx hb dX3_makePlan_72 hl (k := 2) rfl (zI_add _ _) (by decide) rfl (fun ls hl => ?_)
        refine lv_goto (tgt := 59) hx hb dX3_makePlan_75 (by decide) ?_
        exact ih59 (o + 1) mid (tCor τ o) q _ _ _ (by omega) (by omega) (by rw [tCors_s _ ho.1, hτ]) hH (lv_sub hl [1, 2, 0] rfl)
  have C2 : ∀ (fu : Nat) (o : Int) (σ : Int → Int) (H : Heap) (locs : List Loc) (ls : Array Slot), (S k 0 4 - o).toNat < fu → (0 ≤ o ∧ o ≤ S k 0 4) → (σ = tClr (S k 0) o.toNat) → zH G (zPut S k σ (S k 2) (S k 8)) s H locs → lv_has ls 3 [(0, .ref (za G k 0)), (1, .int (zI o))] → W p l e r_X3_makePlan s m args below meth c H locs 0 0 (MQ below (va_Qv (q_X3_makePlan k S) (zB G) (zA G)) args s 0 0 (zA G)) (F0 m 2 ls []) := by
    intro fu
    induction fu with
    | zero => intro o σ H locs ls hfu; omega
    | succ fu ih2 =>
      intro o σ H locs ls hfu ho hσ hH hl
      have hc := tClr_in hw o.toNat
      rw [← hσ] at hc
      refine lv_iload_n hx hb dX3_makePlan_2 rfl (lv_at hl 1 rfl) ?_
      refine lv_aload_n hx hb dX3_makePlan_3 rfl (lv_at hl 0 rfl) ?_
      refine zg_3_7 h hH hk zf_X3_37 dX3_makePlan_4 ?_
      rw [zP_0]
      have f_4 := zW_4 hc.1
      refine zb_cge (tgt := 36) h (by omega) (by omega) dX3_makePlan_7 (by decide) (fun c_7 => ?_) (fun c_7 => ?_)
      · obtain rfl : o = S k 0 4 := by omega
        have hMσ : ∀ j : Int, 0 ≤ j → j < 10 → S k 2 j = zMk (σ 1) (σ 2) j := by rw [hc.2.2.1, hc.2.2.2]; exact hms
        have bm := tMid_in hc.1
        refine lv_aload_n hx hb dX3_makePlan_36 rfl (lv_at hl 0 rfl) ?_
        refine zcVi h hH (zr_3 h hH hk) (As := []) (rest := []) (c_X3_middleNeed l G hG k hk (zPut S k σ (S k 2) (S k 8)) (zP_ms hMσ) (zP_hw hc.1)) zce_X3_middleNeed zcv_X3_middleNeed zm_X3_116 hl.1 rfl rfl ⟨rfl, rfl⟩ ⟨Nat.le_of_ble_eq_true rfl, Nat.le_of_ble_eq_true rfl⟩ (Nat.le_of_ble_eq_true rfl) ⟨Nat.zero_le _, Nat.zero_le _⟩ dX3_makePlan_37 (fun r_37 S_37 H locs hq hH => ?_)
        obtain ⟨rfl, q_37, rfl⟩ := hq
        rw [zP_0]
        simp only [zP_P, zP_0, zP_2, zP_8] at hH
        refine lv_istore_n (lv' := [(1, .int (zI (tMid σ))), (0, .ref (za G k 0))]) hx hb dX3_makePlan_40 rfl hl (by decide) rfl (fun ls hl => ?_)
        refine lv_iload_n hx hb dX3_makePlan_41 rfl (lv_at hl 0 rfl) ?_
        refine zb_ic h dX3_makePlan_42 ?_
        refine zb_ceq (tgt := 57) h (by omega) (by omega) dX3_makePlan_43 (by decide) (fun c_43 => ?_) (fun c_43 => ?_)
        · refine zb_ic h dX3_makePlan_57 ?_
          refine lv_istore_n (lv' := [(2, .int (zI 0)), (1, .int (zI (tMid σ))), (0, .ref (za G k 0))]) hx hb dX3_makePlan_58 rfl hl (by decide) rfl (fun ls hl => ?_)
          exact C59 ((S k 0 4 - 0 : Int).toNat + 1) 0 (tMid σ) σ q_37 _ _ _ (by omega) (by omega) (by show _ = tTim (tClr (S k 0) (S k 0 4).toNat); rw [← hσ]; unfold tTim; first | (rw [if_pos (by omega)]; done) | (rw [if_neg (by omega)]; done)) hH (lv_sub hl [2, 1, 0] rfl)
        · refine lv_aload_n hx hb dX3_makePlan_46 rfl (lv_at hl 1 rfl) ?_
          refine lv_iload_n hx hb dX3_makePlan_47 rfl (lv_at hl 0 rfl) ?_
          refine zb_si h dX3_makePlan_48 (by decide) (by decide) ?_
          refine zminI h hl.1 zm_X3_107 (Nat.le_of_ble_eq_true rfl) (Nat.le_of_ble_eq_true rfl) ⟨Nat.zero_le _, Nat.zero_le _⟩ (by omega) (by omega) (Nat.le_of_ble_eq_true rfl) dX3_makePlan_51 ?_
          refine zu_3_8 h hH hk zf_X3_41 dX3_makePlan_54 (fun H locs hH => ?_)
          rw [zs_P0] at hH
          refine zb_ic h dX3_makePlan_57 ?_
          refine lv_istore_n (lv' := [(2, .int (zI 0)), (1, .int (zI (tMid σ))), (0, .ref (za G k 0))]) hx hb dX3_makePlan_58 rfl hl (by decide) rfl (fun ls hl => ?_)
          exact C59 ((S k 0 4 - 0 : Int).toNat + 1) 0 (tMid σ) (zup σ 0 (min (tMid σ) 2000)) q_37 _ _ _ (by omega) (by omega) (by show _ = tTim (tClr (S k 0) (S k 0 4).toNat); rw [← hσ]; unfold tTim; first | (rw [if_pos (by omega)]; done) | (rw [if_neg (by omega)]; done)) hH (lv_sub hl [2, 1, 0] rfl)
      · refine lv_iload_n hx hb dX3_makePlan_10 rfl (lv_at hl 1 rfl) ?_
        refine zb_bi h dX3_makePlan_11 (by decide) (by decide) ?_
        refine zb_cge (tgt := 36) h (by omega) (by omega) dX3_makePlan_13 (by decide) (fun c_13 => ?_) (fun c_13 => ?_)
        · exact absurd c_13 (by omega)
        · refine lv_aload_n hx hb dX3_makePlan_16 rfl (lv_at hl 0 rfl) ?_
          refine zg_3_3 h hH hk zf_X3_25 dX3_makePlan_17 ?_
          refine lv_iload_n hx hb dX3_makePlan_20 rfl (lv_at hl 1 rfl) ?_
          refine zb_ic h dX3_makePlan_21 ?_
          refine zst_ar_bu h hH hk (by omega) dX3_makePlan_22 (fun H locs hH => ?_)
          rw [zs_P0] at hH
          refine lv_aload_n hx hb dX3_makePlan_23 rfl (lv_at hl 0 rfl) ?_
          refine zg_3_4 h hH hk zf_X3_28 dX3_makePlan_24 ?_
          refine lv_iload_n hx hb dX3_makePlan_27 rfl (lv_at hl 1 rfl) ?_
          refine zb_ic h dX3_makePlan_28 ?_
          refine zst_ar_ho h hH hk (by omega) dX3_makePlan_29 (fun H locs hH => ?_)
          rw [zs_P0] at hH
          refine lv_iinc (v := zI (o + 1)) (lv' := [(1, .int (zI (o + 1))), (0, .ref (za G k 0))]) hx hb dX3_makePlan_30 hl (k := 1) rfl (zI_add _ _) (by decide) rfl (fun ls hl => ?_)
          refine lv_goto (tgt := 2) hx hb dX3_makePlan_33 (by decide) ?_
          exact ih2 (o + 1) (zup (zup σ (5 + 5 * o + 2) 0) (5 + 5 * o + 3) 0) _ _ _ (by omega) (by omega) (by rw [tClr_s _ ho.1, hσ]) hH (lv_sub hl [1, 0] rfl)
  refine zb_ic h dX3_makePlan_0 ?_
  refine lv_istore_n (lv' := [(1, .int (zI 0)), (0, .ref (za G k 0))]) hx hb dX3_makePlan_1 rfl hl (by decide) rfl (fun ls hl => ?_)
  exact C2 ((S k 0 4 - 0 : Int).toNat + 1) 0 (S k 0) _ _ _ (by omega) (by omega) rfl hH (lv_sub hl [1, 0] rfl)
end
section
/-! the reference's seven rows: its fields, s, aside, saved, text, marks, leasts -/
def zMo (S : zM) (f σ a v t M L : Int → Int) : zM := fun k' j' => if k' = 9 then (if j' = 0 then f else if j' = 1 then σ else if j' = 2 then a else if j' = 3 then v else if j' = 4 then t else if j' = 5 then M else if j' = 6 then L else S k' j') else S k' j'
theorem zM_0 {S : zM} {f σ a v t M L : Int → Int} : zMo S f σ a v t M L 9 0 = f := by unfold zMo; simp
theorem zM_1 {S : zM} {f σ a v t M L : Int → Int} : zMo S f σ a v t M L 9 1 = σ := by unfold zMo; simp
theorem zM_2 {S : zM} {f σ a v t M L : Int → Int} : zMo S f σ a v t M L 9 2 = a := by unfold zMo; simp
theorem zM_3 {S : zM} {f σ a v t M L : Int → Int} : zMo S f σ a v t M L 9 3 = v := by unfold zMo; simp
theorem zM_4 {S : zM} {f σ a v t M L : Int → Int} : zMo S f σ a v t M L 9 4 = t := by unfold zMo; simp
theorem zM_5 {S : zM} {f σ a v t M L : Int → Int} : zMo S f σ a v t M L 9 5 = M := by unfold zMo; simp
theorem zM_6 {S : zM} {f σ a v t M L : Int → Int} : zMo S f σ a v t M L 9 6 = L := by unfold zMo; simp
theorem zM_n {S : zM} {f σ a v t M L : Int → Int} {k : Nat} (h : k ≠ 9) : zMo S f σ a v t M L k = S k := by funext j; unfold zMo; rw [if_neg h]
theorem zs_M0 {S : zM} {f σ a v t M L : Int → Int} {i x : Int} : zs (zMo S f σ a v t M L) 9 0 i x = zMo S (zup f i x) σ a v t M L := by
  funext k' j'
  by_cases h : k' = 9 ∧ j' = 0
  · obtain ⟨rfl, rfl⟩ := h; rw [zs_row, zM_0, zM_0]; rfl
  · rw [zs_ne h]; unfold zMo; by_cases h9 : k' = 9
    · rw [if_pos h9, if_pos h9]
      have hj : ¬ j' = 0 := fun q => h ⟨h9, q⟩
      simp only [if_neg hj]
    · rw [if_neg h9, if_neg h9]
theorem zs_M1 {S : zM} {f σ a v t M L : Int → Int} {i x : Int} : zs (zMo S f σ a v t M L) 9 1 i x = zMo S f (zup σ i x) a v t M L := by
  funext k' j'
  by_cases h : k' = 9 ∧ j' = 1
  · obtain ⟨rfl, rfl⟩ := h; rw [zs_row, zM_1, zM_1]; rfl
  · rw [zs_ne h]; unfold zMo; by_cases h9 : k' = 9
    · rw [if_pos h9, if_pos h9]
      have hj : ¬ j' = 1 := fun q => h ⟨h9, q⟩
      simp only [if_neg hj]
    · rw [if_neg h9, if_neg h9]
theorem zs_M2 {S : zM} {f σ a v t M L : Int → Int} {i x : Int} : zs (zMo S f σ a v t M L) 9 2 i x = zMo S f σ (zup a i x) v t M L := by
  funext k' j'
  by_cases h : k' = 9 ∧ j' = 2
  · obtain ⟨rfl, rfl⟩ := h; rw [zs_row, zM_2, zM_2]; rfl
  · rw [zs_ne h]; unfold zMo; by_cases h9 : k' = 9
    · rw [if_pos h9, if_pos h9]
      have hj : ¬ j' = 2 := fun q => h ⟨h9, q⟩
      simp only [if_neg hj]
    · rw [if_neg h9, if_neg h9]
theorem zs_M3 {S : zM} {f σ a v t M L : Int → Int} {i x : Int} : zs (zMo S f σ a v t M L) 9 3 i x = zMo S f σ a (zup v i x) t M L := by
  funext k' j'
  by_cases h : k' = 9 ∧ j' = 3
  · obtain ⟨rfl, rfl⟩ := h; rw [zs_row, zM_3, zM_3]; rfl
  · rw [zs_ne h]; unfold zMo; by_cases h9 : k' = 9
    · rw [if_pos h9, if_pos h9]
      have hj : ¬ j' = 3 := fun q => h ⟨h9, q⟩
      simp only [if_neg hj]
    · rw [if_neg h9, if_neg h9]
theorem zs_M4 {S : zM} {f σ a v t M L : Int → Int} {i x : Int} : zs (zMo S f σ a v t M L) 9 4 i x = zMo S f σ a v (zup t i x) M L := by
  funext k' j'
  by_cases h : k' = 9 ∧ j' = 4
  · obtain ⟨rfl, rfl⟩ := h; rw [zs_row, zM_4, zM_4]; rfl
  · rw [zs_ne h]; unfold zMo; by_cases h9 : k' = 9
    · rw [if_pos h9, if_pos h9]
      have hj : ¬ j' = 4 := fun q => h ⟨h9, q⟩
      simp only [if_neg hj]
    · rw [if_neg h9, if_neg h9]
theorem zs_M5 {S : zM} {f σ a v t M L : Int → Int} {i x : Int} : zs (zMo S f σ a v t M L) 9 5 i x = zMo S f σ a v t (zup M i x) L := by
  funext k' j'
  by_cases h : k' = 9 ∧ j' = 5
  · obtain ⟨rfl, rfl⟩ := h; rw [zs_row, zM_5, zM_5]; rfl
  · rw [zs_ne h]; unfold zMo; by_cases h9 : k' = 9
    · rw [if_pos h9, if_pos h9]
      have hj : ¬ j' = 5 := fun q => h ⟨h9, q⟩
      simp only [if_neg hj]
    · rw [if_neg h9, if_neg h9]
theorem zs_M6 {S : zM} {f σ a v t M L : Int → Int} {i x : Int} : zs (zMo S f σ a v t M L) 9 6 i x = zMo S f σ a v t M (zup L i x) := by
  funext k' j'
  by_cases h : k' = 9 ∧ j' = 6
  · obtain ⟨rfl, rfl⟩ := h; rw [zs_row, zM_6, zM_6]; rfl
  · rw [zs_ne h]; unfold zMo; by_cases h9 : k' = 9
    · rw [if_pos h9, if_pos h9]
      have hj : ¬ j' = 6 := fun q => h ⟨h9, q⟩
      simp only [if_neg hj]
    · rw [if_neg h9, if_neg h9]
theorem zM_M {S : zM} {f σ a v t M L : Int → Int} {f' σ' a' v' t' M' L' : Int → Int} : zMo (zMo S f σ a v t M L) f' σ' a' v' t' M' L' = zMo S f' σ' a' v' t' M' L' := by
  funext k' j'; unfold zMo; by_cases h9 : k' = 9
  · simp only [if_pos h9]
    by_cases e0 : j' = 0
    · simp only [if_pos e0]
    · by_cases e1 : j' = 1
      · simp only [if_neg e0, if_pos e1]
      · by_cases e2 : j' = 2
        · simp only [if_neg e0, if_neg e1, if_pos e2]
        · by_cases e3 : j' = 3
          · simp only [if_neg e0, if_neg e1, if_neg e2, if_pos e3]
          · by_cases e4 : j' = 4
            · simp only [if_neg e0, if_neg e1, if_neg e2, if_neg e3, if_pos e4]
            · by_cases e5 : j' = 5
              · simp only [if_neg e0, if_neg e1, if_neg e2, if_neg e3, if_neg e4, if_pos e5]
              · by_cases e6 : j' = 6
                · simp only [if_neg e0, if_neg e1, if_neg e2, if_neg e3, if_neg e4, if_neg e5, if_pos e6]
                · simp only [if_neg e0, if_neg e1, if_neg e2, if_neg e3, if_neg e4, if_neg e5, if_neg e6]
  · simp only [if_neg h9]
theorem zM_id (S : zM) : zMo S (S 9 0) (S 9 1) (S 9 2) (S 9 3) (S 9 4) (S 9 5) (S 9 6) = S := by
  funext k' j'; unfold zMo; by_cases h9 : k' = 9
  · subst h9; rw [if_pos rfl]
    by_cases e0 : j' = 0
    · simp only [if_pos e0]; rw [e0]
    · by_cases e1 : j' = 1
      · simp only [if_neg e0, if_pos e1]; rw [e1]
      · by_cases e2 : j' = 2
        · simp only [if_neg e0, if_neg e1, if_pos e2]; rw [e2]
        · by_cases e3 : j' = 3
          · simp only [if_neg e0, if_neg e1, if_neg e2, if_pos e3]; rw [e3]
          · by_cases e4 : j' = 4
            · simp only [if_neg e0, if_neg e1, if_neg e2, if_neg e3, if_pos e4]; rw [e4]
            · by_cases e5 : j' = 5
              · simp only [if_neg e0, if_neg e1, if_neg e2, if_neg e3, if_neg e4, if_pos e5]; rw [e5]
              · by_cases e6 : j' = 6
                · simp only [if_neg e0, if_neg e1, if_neg e2, if_neg e3, if_neg e4, if_neg e5, if_pos e6]; rw [e6]
                · simp only [if_neg e0, if_neg e1, if_neg e2, if_neg e3, if_neg e4, if_neg e5, if_neg e6]
  · rw [if_neg h9]
theorem zM_hw {S : zM} {f σ a v t M L : Int → Int} (h : zW σ) : zW (zMo S f σ a v t M L 9 1) := by rw [zM_1]; exact h
theorem zH_mo {G : zG} {S : zM} {f σ a v t M L : Int → Int} {f' σ' a' v' t' M' L' : Int → Int} {s : State} {H : Heap} {locs : List Loc} (h0 : ∀ x : Int, 0 ≤ x → x < 15 → f x = f' x) (h1 : ∀ x : Int, 0 ≤ x → x < 45 → σ x = σ' x) (h2 : ∀ x : Int, 0 ≤ x → x < 45 → a x = a' x) (h3 : ∀ x : Int, 0 ≤ x → x < 270 → v x = v' x) (h4 : ∀ x : Int, 0 ≤ x → x < 60 → t x = t' x) (h5 : ∀ x : Int, 0 ≤ x → x < 10 → M x = M' x) (h6 : ∀ x : Int, 0 ≤ x → x < 8 → L x = L' x) (hH : zH G (zMo S f σ a v t M L) s H locs) : zH G (zMo S f' σ' a' v' t' M' L') s H locs := by
  refine zH_eqv (fun k' j' x hk' hx1 hx2 => ?_) hH
  by_cases e : k' = 9
  · subst e
    unfold zlen at hx2
    rw [if_neg (by omega), if_neg (by omega)] at hx2
    by_cases e0 : j' = 0
    · subst e0; rw [zM_0, zM_0]; exact h0 x hx1 (by simpa using hx2)
    · by_cases e1 : j' = 1
      · subst e1; rw [zM_1, zM_1]; exact h1 x hx1 (by simpa using hx2)
      · by_cases e2 : j' = 2
        · subst e2; rw [zM_2, zM_2]; exact h2 x hx1 (by simpa using hx2)
        · by_cases e3 : j' = 3
          · subst e3; rw [zM_3, zM_3]; exact h3 x hx1 (by simpa using hx2)
          · by_cases e4 : j' = 4
            · subst e4; rw [zM_4, zM_4]; exact h4 x hx1 (by simpa using hx2)
            · by_cases e5 : j' = 5
              · subst e5; rw [zM_5, zM_5]; exact h5 x hx1 (by simpa using hx2)
              · by_cases e6 : j' = 6
                · subst e6; rw [zM_6, zM_6]; exact h6 x hx1 (by simpa using hx2)
                · unfold zMo; simp only [if_neg e0, if_neg e1, if_neg e2, if_neg e3, if_neg e4, if_neg e5, if_neg e6]
  · rw [zM_n e, zM_n e]
end
section
theorem zhalf (x : Int) {k : Int} (hk : 0 ≤ k) : x / 2 ^ (k + 1).toNat = x / 2 ^ k.toNat / 2 := by
  obtain ⟨n, rfl⟩ := Int.eq_ofNat_of_zero_le hk
  have e : ((n : Int) + 1).toNat = n + 1 := by omega
  rw [e, Int.toNat_natCast, Int.pow_succ, Int.ediv_ediv, if_neg (fun q => by have := zpow_pos n; omega), Int.sub_zero]
theorem zmk_lt (g : Int) {v : Int} (hv : 10 ≤ v ∧ v ≤ 999) (k : Nat) : zmkN g v k < zmkN g v (k + 1) := by
  simp only [zmkN]
  omega
theorem zmk_mono (g : Int) {v : Int} (hv : 10 ≤ v ∧ v ≤ 999) (i : Nat) : ∀ d : Nat, zmkN g v i ≤ zmkN g v (i + d) := by
  intro d
  induction d with
  | zero => exact Int.le_refl _
  | succ d ih => have := zmk_lt g hv (i + d); rw [← Nat.add_assoc]; omega
theorem zMk_mono (g : Int) {v : Int} (hv : 10 ≤ v ∧ v ≤ 999) {i j : Int} (h0 : 0 ≤ i) (h : i ≤ j) : zMk g v i ≤ zMk g v j := by
  unfold zMk
  have e : j.toNat = i.toNat + (j.toNat - i.toNat) := by omega
  rw [e]
  exact zmk_mono g hv _ _
theorem zcnt_all {f : Int → Int} {x : Int} : ∀ n : Nat, (∀ j : Int, 0 ≤ j → j < n → f j ≤ x) → zcnt f x n = n := by
  intro n
  induction n with
  | zero => intro _; rfl
  | succ n ih => intro h; simp only [zcnt]; rw [ih (fun j h1 h2 => h j h1 (by omega)), if_pos (h n (by omega) (by omega))]; omega
theorem zcnt_le {f : Int → Int} {x : Int} {i : Int} (hi : 0 ≤ i) : ∀ n : Nat, (∀ j : Int, i ≤ j → j < n → ¬ f j ≤ x) → zcnt f x n ≤ i := by
  intro n
  induction n with
  | zero => intro _; simp only [zcnt]; exact hi
  | succ n ih =>
    intro h
    simp only [zcnt]
    by_cases c : i ≤ n
    · rw [if_neg (h n c (by omega))]; have := ih (fun j h1 h2 => h j h1 (by omega)); omega
    · have := (zcnt_in f x n).2; split <;> omega
/-- how many marks are at most a light: at least j, if the j-th one is -/
theorem zcnt_ge (g : Int) {v : Int} (hv : 10 ≤ v ∧ v ≤ 999) (x : Int) {j : Int} (h1 : 1 ≤ j) (h2 : j ≤ 10) : j ≤ zcnt (zMk g v) x 10 ↔ zMk g v (j - 1) ≤ x := by
  constructor
  · intro h
    refine Classical.byContradiction fun c => ?_
    have := zcnt_le (f := zMk g v) (x := x) (i := j - 1) (by omega) 10 (fun i h3 h4 h5 => c (Int.le_trans (zMk_mono g hv (by omega) h3) h5))
    omega
  · intro h
    have e : ∀ (n : Nat), j ≤ n → j ≤ zcnt (zMk g v) x n := by
      intro n
      induction n with
      | zero => intro h3; omega
      | succ n ih =>
        intro h3
        simp only [zcnt]
        by_cases c : j ≤ n
        · have := ih c; split <;> omega
        · have e2 : j - 1 = n := by omega
          rw [e2] at h
          rw [if_pos h, zcnt_all n (fun i h4 h5 => Int.le_trans (zMk_mono g hv h4 (by omega)) h)]
          omega
    exact e 10 (by omega)
theorem zLt_ge {d t m : Int} : m ≤ zLt d t ↔ m * 100 * 2 ^ (d / 3).toNat ≤ t * zThr (d % 3) := by
  unfold zLt
  rw [Int.le_ediv_iff_mul_le (by omega), Int.le_ediv_iff_mul_le (zpow_pos _)]
theorem zceil {N P t : Int} (hP : 0 < P) : (N + P - 1) / P ≤ t ↔ N ≤ t * P := by
  rw [← Int.lt_add_one_iff, Int.ediv_lt_iff_lt_mul hP, Int.add_mul]
  omega
/-- the least time with a tone, and the tone by a time -/
theorem tLe_iff {σ : Int → Int} (hw : zW σ) (z : Int) {tone t : Int} (ht : 1 ≤ t ∧ t ≤ 9999) : tone ≤ tAt σ z t ↔ tLe σ (σ (5 + 5 * z)) tone ≤ t := by
  have hb := tAt_in σ z t
  unfold tLe
  by_cases h1 : tone < 1
  · rw [if_pos h1]; constructor <;> intro _ <;> omega
  · rw [if_neg h1]
    by_cases h2 : tone > 10
    · rw [if_pos h2]; constructor <;> intro _ <;> omega
    · rw [if_neg h2]
      have hP := zThr_in (σ (5 + 5 * z) % 3)
      have hz := @zceil (zMk (σ 1) (σ 2) (tone - 1) * 100 * 2 ^ (σ (5 + 5 * z) / 3).toNat) (zThr (σ (5 + 5 * z) % 3)) t (by omega)
      have hl := @zLt_ge (σ (5 + 5 * z)) t (zMk (σ 1) (σ 2) (tone - 1))
      have hc := zcnt_ge (σ 1) (zW_2 hw) (zLt (σ (5 + 5 * z)) t) (show 1 ≤ tone by omega) (show tone ≤ 10 by omega)
      unfold tAt
      rw [hc, hl, ← hz]
      omega
theorem zsg_0 (x : Int) : zsg x = 0 ↔ x = 0 := by unfold zsg; constructor <;> intro h <;> (first | omega | (split at h <;> (first | omega | (split at h <;> omega))) | (rw [h]; rfl))
/-- the least time that a zone needs, as the tone by the least time with that tone tells it -/
theorem tLn_of {σ : Int → Int} (hw : zW σ) (z : Int) : tLn σ z = if tLe σ (σ (5 + 5 * z)) (σ (5 + 5 * z + 1)) ≤ 9999 ∧ tAt σ z (tLe σ (σ (5 + 5 * z)) (σ (5 + 5 * z + 1))) = σ (5 + 5 * z + 1) then tLe σ (σ (5 + 5 * z)) (σ (5 + 5 * z + 1)) else -1 := by
  have b1 := tLe_in hw (σ (5 + 5 * z)) (σ (5 + 5 * z + 1))
  have b2 := tLe_in hw (σ (5 + 5 * z)) (σ (5 + 5 * z + 1) + 1)
  unfold tLn
  by_cases h : tLe σ (σ (5 + 5 * z)) (σ (5 + 5 * z + 1)) ≤ 9999
  · have e1 := tLe_iff hw z (tone := σ (5 + 5 * z + 1)) (t := tLe σ (σ (5 + 5 * z)) (σ (5 + 5 * z + 1))) (by omega)
    have e2 := tLe_iff hw z (tone := σ (5 + 5 * z + 1) + 1) (t := tLe σ (σ (5 + 5 * z)) (σ (5 + 5 * z + 1))) (by omega)
    have e3 := e1.mpr (Int.le_refl _)
    by_cases c : tLe σ (σ (5 + 5 * z)) (σ (5 + 5 * z + 1)) < tLe σ (σ (5 + 5 * z)) (σ (5 + 5 * z + 1) + 1)
    · rw [if_pos c, if_pos ⟨h, by have := fun q => e2.mp q; omega⟩]
    · rw [if_neg c, if_neg (fun q => by have := e2.mpr (by omega); omega)]
  · rw [if_neg (by omega), if_neg (fun q => h q.1)]
theorem tGn_of (σ : Int → Int) (z : Int) (hw : zW σ) : tGn σ z = if tLn σ z = -1 then -1 else tLe σ (σ (5 + 5 * z)) (σ (5 + 5 * z + 1) + 1) - 1 := by
  have b1 := tLe_in hw (σ (5 + 5 * z)) (σ (5 + 5 * z + 1))
  unfold tGn tLn
  split
  · next h => rw [if_neg (by omega)]
  · rfl
end
section
theorem dX5_in_0 : decode cX5_in 0 = .ok (.iload_n 0, 1) := by decide +kernel
theorem dX5_in_1 : decode cX5_in 1 = .ok (.iload_n 1, 1) := by decide +kernel
theorem dX5_in_2 : decode cX5_in 2 = .ok (.if_icmp .lt 12, 3) := by decide +kernel
theorem dX5_in_5 : decode cX5_in 5 = .ok (.iload_n 0, 1) := by decide +kernel
theorem dX5_in_6 : decode cX5_in 6 = .ok (.iload_n 2, 1) := by decide +kernel
theorem dX5_in_7 : decode cX5_in 7 = .ok (.if_icmp .gt 7, 3) := by decide +kernel
theorem dX5_in_10 : decode cX5_in 10 = .ok (.iconst 1, 1) := by decide +kernel
theorem dX5_in_11 : decode cX5_in 11 = .ok (.goto 4, 3) := by decide +kernel
theorem dX5_in_14 : decode cX5_in 14 = .ok (.iconst 0, 1) := by decide +kernel
theorem dX5_in_15 : decode cX5_in 15 = .ok (.ireturn, 1) := by decide +kernel
def q_X5_in (S : zM) (a b d : Int) : Int32 → zM → Prop := fun r S1 => ∃ bb : Int, r = zI bb ∧ (bb = 1 ∧ (b ≤ a ∧ a ≤ d) ∨ bb = 0 ∧ ¬ (b ≤ a ∧ a ≤ d)) ∧ S = S1
def r_X5_in : Room := { frames := 0, cells := 0, slots := 0, locals := 0 }
set_option maxHeartbeats 4000000 in
set_option maxRecDepth 100000 in
theorem c_X5_in (l : Launch) (G : zG) (hG : zok G) (S : zM) (a b d : Int) (ha : -2147483648 ≤ a ∧ a ≤ 2147483647) (hb : -2147483648 ≤ b ∧ b ≤ 2147483647) (hd : -2147483648 ≤ d ∧ d ≤ 2147483647) : Met l yX5_in (Cond.code yX5_in cX5_in 3 (some FieldType.boolean) :: zTbl) r_X5_in (va_Pc [.int (zI a), .int (zI b), .int (zI d)] (zB G S)) (va_Qi (q_X5_in S a b d) (zB G) (zA G)) 0 0 (zA G) := by
  refine zMet [(0, .int (zI a)), (1, .int (zI b)), (2, .int (zI d))] hG (by decide) (Nat.le_of_ble_eq_true rfl) rfl (fun p e s m args below meth c ls h hx hb hr hH hl => ?_)
  refine lv_iload_n hx hb dX5_in_0 rfl (lv_at hl 0 rfl) ?_
  refine lv_iload_n hx hb dX5_in_1 rfl (lv_at hl 1 rfl) ?_
  refine zb_clt (tgt := 14) h (by omega) (by omega) dX5_in_2 (by decide) (fun c_2 => ?_) (fun c_2 => ?_)
  · refine zb_ic h dX5_in_14 ?_
    refine zrz h hr hH (by omega) ?_ dX5_in_15
    exact ⟨_, rfl, by omega, rfl⟩
  · refine lv_iload_n hx hb dX5_in_5 rfl (lv_at hl 0 rfl) ?_
    refine lv_iload_n hx hb dX5_in_6 rfl (lv_at hl 2 rfl) ?_
    refine zb_cgt (tgt := 14) h (by omega) (by omega) dX5_in_7 (by decide) (fun c_7 => ?_) (fun c_7 => ?_)
    · refine zb_ic h dX5_in_14 ?_
      refine zrz h hr hH (by omega) ?_ dX5_in_15
      exact ⟨_, rfl, by omega, rfl⟩
    · refine zb_ic h dX5_in_10 ?_
      refine lv_goto (tgt := 15) hx hb dX5_in_11 (by decide) ?_
      refine zrz h hr hH (by omega) ?_ dX5_in_15
      exact ⟨_, rfl, by omega, rfl⟩
theorem dX5_of_0 : decode cX5_of 0 = .ok (.iconst 5, 1) := by decide +kernel
theorem dX5_of_1 : decode cX5_of 1 = .ok (.iconst 5, 1) := by decide +kernel
theorem dX5_of_2 : decode cX5_of 2 = .ok (.iload_n 0, 1) := by decide +kernel
theorem dX5_of_3 : decode cX5_of 3 = .ok (.imul, 1) := by decide +kernel
theorem dX5_of_4 : decode cX5_of 4 = .ok (.iadd, 1) := by decide +kernel
theorem dX5_of_5 : decode cX5_of 5 = .ok (.iload_n 1, 1) := by decide +kernel
theorem dX5_of_6 : decode cX5_of 6 = .ok (.iadd, 1) := by decide +kernel
theorem dX5_of_7 : decode cX5_of 7 = .ok (.ireturn, 1) := by decide +kernel
def q_X5_of (S : zM) (z w : Int) : Int32 → zM → Prop := fun r S1 => r = zI (5 + 5 * z + w) ∧ S = S1
def r_X5_of : Room := { frames := 0, cells := 0, slots := 0, locals := 0 }
set_option maxHeartbeats 4000000 in
set_option maxRecDepth 100000 in
theorem c_X5_of (l : Launch) (G : zG) (hG : zok G) (S : zM) (z w : Int) : Met l yX5_of (Cond.code yX5_of cX5_of 2 (some FieldType.int) :: zTbl) r_X5_of (va_Pc [.int (zI z), .int (zI w)] (zB G S)) (va_Qi (q_X5_of S z w) (zB G) (zA G)) 0 0 (zA G) := by
  refine zMet [(0, .int (zI z)), (1, .int (zI w))] hG (by decide) (Nat.le_of_ble_eq_true rfl) rfl (fun p e s m args below meth c ls h hx hb hr hH hl => ?_)
  refine zb_ic h dX5_of_0 ?_
  refine zb_ic h dX5_of_1 ?_
  refine lv_iload_n hx hb dX5_of_2 rfl (lv_at hl 0 rfl) ?_
  refine zb_imul h dX5_of_3 ?_
  refine zb_iadd h dX5_of_4 ?_
  refine lv_iload_n hx hb dX5_of_5 rfl (lv_at hl 1 rfl) ?_
  refine zb_iadd h dX5_of_6 ?_
  refine zri h hr hH ?_ dX5_of_7
  exact ⟨rfl, rfl⟩
theorem dX5_holds_0 : decode cX5_holds 0 = .ok (.aload_n 0, 1) := by decide +kernel
theorem dX5_holds_1 : decode cX5_holds 1 = .ok (.iload_n 1, 1) := by decide +kernel
theorem dX5_holds_2 : decode cX5_holds 2 = .ok (.putfield 28, 3) := by decide +kernel
theorem dX5_holds_5 : decode cX5_holds 5 = .ok (.iload_n 1, 1) := by decide +kernel
theorem dX5_holds_6 : decode cX5_holds 6 = .ok (.ifCond .ne 7, 3) := by decide +kernel
theorem dX5_holds_9 : decode cX5_holds 9 = .ok (.iconst 1, 1) := by decide +kernel
theorem dX5_holds_10 : decode cX5_holds 10 = .ok (.goto 4, 3) := by decide +kernel
theorem dX5_holds_13 : decode cX5_holds 13 = .ok (.iconst 0, 1) := by decide +kernel
theorem dX5_holds_14 : decode cX5_holds 14 = .ok (.ireturn, 1) := by decide +kernel
def q_X5_holds (S : zM) (x : Int) : Int32 → zM → Prop := fun r S1 => ∃ bb : Int, r = zI bb ∧ (bb = 1 ∧ x = 0 ∨ bb = 0 ∧ x ≠ 0) ∧ zMo S (zup (S 9 0) 0 x) (S 9 1) (S 9 2) (S 9 3) (S 9 4) (S 9 5) (S 9 6) = S1
def r_X5_holds : Room := { frames := 0, cells := 0, slots := 0, locals := 0 }
set_option maxHeartbeats 4000000 in
set_option maxRecDepth 100000 in
theorem c_X5_holds (l : Launch) (G : zG) (hG : zok G) (S : zM) (x : Int) (hx0 : -2147483648 ≤ x ∧ x ≤ 2147483647) : Met l yX5_holds (Cond.code yX5_holds cX5_holds 2 (some FieldType.boolean) :: zTbl) r_X5_holds (va_Pc [.ref (za G 9 0), .int (zI x)] (zB G S)) (va_Qi (q_X5_holds S x) (zB G) (zA G)) 0 0 (zA G) := by
  refine zMet [(0, .ref (za G 9 0)), (1, .int (zI x))] hG (by decide) (Nat.le_of_ble_eq_true rfl) rfl (fun p e s m args below meth c ls h hx hb hr hH hl => ?_)
  rw [← zM_id S] at hH
  refine lv_aload_n hx hb dX5_holds_0 rfl (lv_at hl 0 rfl) ?_
  refine lv_iload_n hx hb dX5_holds_1 rfl (lv_at hl 1 rfl) ?_
  refine zu_5_0 h hH zf_X5_28 dX5_holds_2 (fun H locs hH => ?_)
  rw [zs_M0] at hH
  refine lv_iload_n hx hb dX5_holds_5 rfl (lv_at hl 1 rfl) ?_
  refine zb_ine (tgt := 13) h (by omega) dX5_holds_6 (by decide) (fun c_6 => ?_) (fun c_6 => ?_)
  · refine zb_ic h dX5_holds_13 ?_
    refine zrz h hr hH (by omega) ?_ dX5_holds_14
    exact ⟨_, rfl, by omega, rfl⟩
  · refine zb_ic h dX5_holds_9 ?_
    refine lv_goto (tgt := 14) hx hb dX5_holds_10 (by decide) ?_
    refine zrz h hr hH (by omega) ?_ dX5_holds_14
    exact ⟨_, rfl, by omega, rfl⟩
theorem dX5_thrown_0 : decode cX5_thrown 0 = .ok (.aload_n 0, 1) := by decide +kernel
theorem dX5_thrown_1 : decode cX5_thrown 1 = .ok (.getfield 28, 3) := by decide +kernel
theorem dX5_thrown_4 : decode cX5_thrown 4 = .ok (.ireturn, 1) := by decide +kernel
def q_X5_thrown (S : zM) : Int32 → zM → Prop := fun r S1 => r = zI (S 9 0 0) ∧ S = S1
def r_X5_thrown : Room := { frames := 0, cells := 0, slots := 0, locals := 0 }
set_option maxHeartbeats 4000000 in
set_option maxRecDepth 100000 in
theorem c_X5_thrown (l : Launch) (G : zG) (hG : zok G) (S : zM)  : Met l yX5_thrown (Cond.code yX5_thrown cX5_thrown 1 (some FieldType.int) :: zTbl) r_X5_thrown (va_Pc [.ref (za G 9 0)] (zB G S)) (va_Qi (q_X5_thrown S) (zB G) (zA G)) 0 0 (zA G) := by
  refine zMet [(0, .ref (za G 9 0))] hG (by decide) (Nat.le_of_ble_eq_true rfl) rfl (fun p e s m args below meth c ls h hx hb hr hH hl => ?_)
  refine lv_aload_n hx hb dX5_thrown_0 rfl (lv_at hl 0 rfl) ?_
  refine zg_5_0 h hH zf_X5_28 dX5_thrown_1 ?_
  refine zri h hr hH ?_ dX5_thrown_4
  exact ⟨rfl, rfl⟩
theorem dX5_isZone_0 : decode cX5_isZone 0 = .ok (.iload_n 1, 1) := by decide +kernel
theorem dX5_isZone_1 : decode cX5_isZone 1 = .ok (.iconst 0, 1) := by decide +kernel
theorem dX5_isZone_2 : decode cX5_isZone 2 = .ok (.aload_n 0, 1) := by decide +kernel
theorem dX5_isZone_3 : decode cX5_isZone 3 = .ok (.getfield 7, 3) := by decide +kernel
theorem dX5_isZone_6 : decode cX5_isZone 6 = .ok (.iconst 4, 1) := by decide +kernel
theorem dX5_isZone_7 : decode cX5_isZone 7 = .ok (.iaload, 1) := by decide +kernel
theorem dX5_isZone_8 : decode cX5_isZone 8 = .ok (.iconst 1, 1) := by decide +kernel
theorem dX5_isZone_9 : decode cX5_isZone 9 = .ok (.isub, 1) := by decide +kernel
theorem dX5_isZone_10 : decode cX5_isZone 10 = .ok (.invokestatic 32, 3) := by decide +kernel
theorem dX5_isZone_13 : decode cX5_isZone 13 = .ok (.ireturn, 1) := by decide +kernel
def q_X5_isZone (S : zM) (z : Int) : Int32 → zM → Prop := fun r S1 => ∃ bb : Int, r = zI bb ∧ (bb = 1 ∧ (0 ≤ z ∧ z < S 9 1 4) ∨ bb = 0 ∧ ¬ (0 ≤ z ∧ z < S 9 1 4)) ∧ S = S1
def r_X5_isZone : Room := { frames := 1, cells := 0, slots := 0, locals := 22 }
set_option maxHeartbeats 4000000 in
set_option maxRecDepth 100000 in
theorem c_X5_isZone (l : Launch) (G : zG) (hG : zok G) (S : zM) (z : Int) (hz : -2147483648 ≤ z ∧ z ≤ 2147483647) (hw : zW (S 9 1)) : Met l yX5_isZone (Cond.code yX5_isZone cX5_isZone 2 (some FieldType.boolean) :: zTbl) r_X5_isZone (va_Pc [.ref (za G 9 0), .int (zI z)] (zB G S)) (va_Qi (q_X5_isZone S z) (zB G) (zA G)) 0 0 (zA G) := by
  refine zMet [(0, .ref (za G 9 0)), (1, .int (zI z))] hG (by decide) (Nat.le_of_ble_eq_true rfl) rfl (fun p e s m args below meth c ls h hx hb hr hH hl => ?_)
  refine lv_iload_n hx hb dX5_isZone_0 rfl (lv_at hl 1 rfl) ?_
  refine zb_ic h dX5_isZone_1 ?_
  refine lv_aload_n hx hb dX5_isZone_2 rfl (lv_at hl 0 rfl) ?_
  refine zg_5_1 h hH zf_X5_7 dX5_isZone_3 ?_
  refine zb_ic h dX5_isZone_6 ?_
  refine zld_ar_s h hH (by omega) dX5_isZone_7 ?_
  have f_7 := zW_4 hw
  refine zb_ic h dX5_isZone_8 ?_
  refine zb_isub h dX5_isZone_9 ?_
  refine zcSi h hH (As := [.int (zI z), .int (zI 0), .int (zI ((S 9 1 4) - 1))]) (rest := []) (c_X5_in l G hG S z 0 ((S 9 1 4) - 1) (by omega) (by omega) (by omega)) zce_X5_in zt_X5_in zm_X5_32 hl.1 rfl rfl ⟨rfl, rfl⟩ ⟨Nat.le_of_ble_eq_true rfl, Nat.le_of_ble_eq_true rfl⟩ (Nat.le_of_ble_eq_true rfl) ⟨Nat.zero_le _, Nat.zero_le _⟩ dX5_isZone_10 (fun r_10 S_10 H locs hq hH => ?_)
  obtain ⟨b_10, rfl, hb_10, rfl⟩ := hq
  refine zrz h hr hH (by omega) ?_ dX5_isZone_13
  exact ⟨_, rfl, by omega, rfl⟩
theorem dX5_lightOf_0 : decode cX5_lightOf 0 = .ok (.iload_n 1, 1) := by decide +kernel
theorem dX5_lightOf_1 : decode cX5_lightOf 1 = .ok (.iconst 3, 1) := by decide +kernel
theorem dX5_lightOf_2 : decode cX5_lightOf 2 = .ok (.irem, 1) := by decide +kernel
theorem dX5_lightOf_3 : decode cX5_lightOf 3 = .ok (.istore_n 2, 1) := by decide +kernel
theorem dX5_lightOf_4 : decode cX5_lightOf 4 = .ok (.iload_n 0, 1) := by decide +kernel
theorem dX5_lightOf_5 : decode cX5_lightOf 5 = .ok (.i2l, 1) := by decide +kernel
theorem dX5_lightOf_6 : decode cX5_lightOf 6 = .ok (.iload_n 2, 1) := by decide +kernel
theorem dX5_lightOf_7 : decode cX5_lightOf 7 = .ok (.ifCond .ne 8, 3) := by decide +kernel
theorem dX5_lightOf_10 : decode cX5_lightOf 10 = .ok (.ldc 39, 2) := by decide +kernel
theorem dX5_lightOf_12 : decode cX5_lightOf 12 = .ok (.goto 15, 3) := by decide +kernel
theorem dX5_lightOf_15 : decode cX5_lightOf 15 = .ok (.iload_n 2, 1) := by decide +kernel
theorem dX5_lightOf_16 : decode cX5_lightOf 16 = .ok (.iconst 1, 1) := by decide +kernel
theorem dX5_lightOf_17 : decode cX5_lightOf 17 = .ok (.if_icmp .ne 8, 3) := by decide +kernel
theorem dX5_lightOf_20 : decode cX5_lightOf 20 = .ok (.ldc 40, 2) := by decide +kernel
theorem dX5_lightOf_22 : decode cX5_lightOf 22 = .ok (.goto 5, 3) := by decide +kernel
theorem dX5_lightOf_25 : decode cX5_lightOf 25 = .ok (.ldc 41, 2) := by decide +kernel
theorem dX5_lightOf_27 : decode cX5_lightOf 27 = .ok (.i2l, 1) := by decide +kernel
theorem dX5_lightOf_28 : decode cX5_lightOf 28 = .ok (.lmul, 1) := by decide +kernel
theorem dX5_lightOf_29 : decode cX5_lightOf 29 = .ok (.lstore_n 3, 1) := by decide +kernel
theorem dX5_lightOf_30 : decode cX5_lightOf 30 = .ok (.iconst 0, 1) := by decide +kernel
theorem dX5_lightOf_31 : decode cX5_lightOf 31 = .ok (.istore 5, 2) := by decide +kernel
theorem dX5_lightOf_33 : decode cX5_lightOf 33 = .ok (.iload 5, 2) := by decide +kernel
theorem dX5_lightOf_35 : decode cX5_lightOf 35 = .ok (.iload_n 1, 1) := by decide +kernel
theorem dX5_lightOf_36 : decode cX5_lightOf 36 = .ok (.iconst 3, 1) := by decide +kernel
theorem dX5_lightOf_37 : decode cX5_lightOf 37 = .ok (.idiv, 1) := by decide +kernel
theorem dX5_lightOf_38 : decode cX5_lightOf 38 = .ok (.if_icmp .ge 15, 3) := by decide +kernel
theorem dX5_lightOf_41 : decode cX5_lightOf 41 = .ok (.lload_n 3, 1) := by decide +kernel
theorem dX5_lightOf_42 : decode cX5_lightOf 42 = .ok (.ldc2_w 42, 3) := by decide +kernel
theorem dX5_lightOf_45 : decode cX5_lightOf 45 = .ok (.ldiv, 1) := by decide +kernel
theorem dX5_lightOf_46 : decode cX5_lightOf 46 = .ok (.lstore_n 3, 1) := by decide +kernel
theorem dX5_lightOf_47 : decode cX5_lightOf 47 = .ok (.iinc 5 1, 3) := by decide +kernel
theorem dX5_lightOf_50 : decode cX5_lightOf 50 = .ok (.goto (-17), 3) := by decide +kernel
theorem dX5_lightOf_53 : decode cX5_lightOf 53 = .ok (.lload_n 3, 1) := by decide +kernel
theorem dX5_lightOf_54 : decode cX5_lightOf 54 = .ok (.ldc2_w 44, 3) := by decide +kernel
theorem dX5_lightOf_57 : decode cX5_lightOf 57 = .ok (.ldiv, 1) := by decide +kernel
theorem dX5_lightOf_58 : decode cX5_lightOf 58 = .ok (.l2i, 1) := by decide +kernel
theorem dX5_lightOf_59 : decode cX5_lightOf 59 = .ok (.ireturn, 1) := by decide +kernel
def q_X5_lightOf (S : zM) (t d : Int) : Int32 → zM → Prop := fun r S1 => r = zI (zLt d t) ∧ S = S1
def r_X5_lightOf : Room := { frames := 0, cells := 0, slots := 0, locals := 0 }
set_option maxHeartbeats 4000000 in
set_option maxRecDepth 100000 in
theorem c_X5_lightOf (l : Launch) (G : zG) (hG : zok G) (S : zM) (t d : Int) (ht : 0 ≤ t ∧ t ≤ 100000) (hd : 0 ≤ d ∧ d ≤ 24) : Met l yX5_lightOf (Cond.code yX5_lightOf cX5_lightOf 6 (some FieldType.int) :: zTbl) r_X5_lightOf (va_Pc [.int (zI t), .int (zI d)] (zB G S)) (va_Qi (q_X5_lightOf S t d) (zB G) (zA G)) 0 0 (zA G) := by
  refine zMet [(0, .int (zI t)), (1, .int (zI d))] hG (by decide) (Nat.le_of_ble_eq_true rfl) rfl (fun p e s m args below meth c ls h hx hb hr hH hl => ?_)
  have b1 := zLt_x (j := d % 3) ht
  have C33 : ∀ (fu : Nat) (i x : Int) (H : Heap) (locs : List Loc) (ls : Array Slot), (d / 3 - i).toNat < fu → (0 ≤ i ∧ i ≤ d / 3) → (x = t * zThr (d % 3) / 2 ^ i.toNat) → zH G S s H locs → lv_has ls 6 [(0, .int (zI t)), (1, .int (zI d)), (2, .int (zI (d % 3))), (3, .long (zL x)), (5, .int (zI i))] → W p l e r_X5_lightOf s m args below meth c H locs 0 0 (MQ below (va_Qi (q_X5_lightOf S t d) (zB G) (zA G)) args s 0 0 (zA G)) (F0 m 33 ls []) := by
    intro fu
    induction fu with
    | zero => intro i x H locs ls hfu; omega
    | succ fu ih33 =>
      intro i x H locs ls hfu hi hx1 hH hl
      have b2 := zdiv_le (b := 2 ^ i.toNat) b1.1 (zpow_pos _)
      rw [← hx1] at b2
      refine lv_iload hx hb dX5_lightOf_33 (lv_at hl 4 rfl) ?_
      refine lv_iload_n hx hb dX5_lightOf_35 rfl (lv_at hl 1 rfl) ?_
      refine zb_ic h dX5_lightOf_36 ?_
      refine zb_idiv h (by omega) (by omega) dX5_lightOf_37 ?_
      refine zb_cge (tgt := 53) h (by omega) (by omega) dX5_lightOf_38 (by decide) (fun c_38 => ?_) (fun c_38 => ?_)
      · refine lv_lload_n hx hb dX5_lightOf_53 rfl (lv_at hl 3 rfl) ?_
        refine zb_ldc2 (n := 100) h zk_X5_44 (by decide +kernel) dX5_lightOf_54 ?_
        refine zb_ldiv h (by omega) (by omega) dX5_lightOf_57 ?_
        refine zb_l2i h dX5_lightOf_58 ?_
        refine zri h hr hH ?_ dX5_lightOf_59
        obtain rfl : i = d / 3 := by omega
        exact ⟨by rw [hx1]; rfl, rfl⟩
      · refine lv_lload_n hx hb dX5_lightOf_41 rfl (lv_at hl 3 rfl) ?_
        refine zb_ldc2 (n := 2) h zk_X5_42 (by decide +kernel) dX5_lightOf_42 ?_
        refine zb_ldiv h (by omega) (by omega) dX5_lightOf_45 ?_
        refine lv_lstore_n (lv' := [(3, .long (zL (x / 2))), (0, .int (zI t)), (1, .int (zI d)), (2, .int (zI (d % 3))), (5, .int (zI i))]) hx hb dX5_lightOf_46 rfl hl (by decide) rfl (fun ls hl => ?_)
        refine lv_iinc (v := zI (i + 1)) (lv' := [(5, .int (zI (i + 1))), (3, .long (zL (x / 2))), (0, .int (zI t)), (1, .int (zI d)), (2, .int (zI (d % 3)))]) hx hb dX5_lightOf_47 hl (k := 4) rfl (zI_add _ _) (by decide) rfl (fun ls hl => ?_)
        refine lv_goto (tgt := 33) hx hb dX5_lightOf_50 (by decide) ?_
        exact ih33 (i + 1) (x / 2) _ _ _ (by omega) (by omega) (by rw [zhalf _ hi.1, hx1]) hH (lv_sub hl [2, 3, 4, 1, 0] rfl)
  have C27 : ∀ (w0 : Int) (H : Heap) (locs : List Loc) (ls : Array Slot), (w0 = zThr (d % 3)) → zH G S s H locs → lv_has ls 6 [(0, .int (zI t)), (1, .int (zI d)), (2, .int (zI (d % 3)))] → W p l e r_X5_lightOf s m args below meth c H locs 0 0 (MQ below (va_Qi (q_X5_lightOf S t d) (zB G) (zA G)) args s 0 0 (zA G)) (F0 m 27 ls [.int (zI w0), .long (zL t)]) := by
    intro w0 H locs ls hw0 hH hl
    have b0 := zThr_in (d % 3)
    refine zb_i2l h (by omega) dX5_lightOf_27 ?_
    refine zb_lmul h dX5_lightOf_28 ?_
    refine lv_lstore_n (lv' := [(3, .long (zL (t * w0))), (0, .int (zI t)), (1, .int (zI d)), (2, .int (zI (d % 3)))]) hx hb dX5_lightOf_29 rfl hl (by decide) rfl (fun ls hl => ?_)
    refine zb_ic h dX5_lightOf_30 ?_
    refine lv_istore (lv' := [(5, .int (zI 0)), (3, .long (zL (t * w0))), (0, .int (zI t)), (1, .int (zI d)), (2, .int (zI (d % 3)))]) hx hb dX5_lightOf_31 hl (by decide) rfl (fun ls hl => ?_)
    exact C33 ((d / 3 - 0 : Int).toNat + 1) 0 (t * w0) _ _ _ (by omega) (by omega) (by rw [hw0]; exact (Int.ediv_one _).symm) hH (lv_sub hl [2, 3, 4, 1, 0] rfl)
  refine lv_iload_n hx hb dX5_lightOf_0 rfl (lv_at hl 1 rfl) ?_
  refine zb_ic h dX5_lightOf_1 ?_
  refine zb_irem h (by omega) (by omega) dX5_lightOf_2 ?_
  refine lv_istore_n (lv' := [(2, .int (zI (d % 3))), (0, .int (zI t)), (1, .int (zI d))]) hx hb dX5_lightOf_3 rfl hl (by decide) rfl (fun ls hl => ?_)
  refine lv_iload_n hx hb dX5_lightOf_4 rfl (lv_at hl 1 rfl) ?_
  refine zb_i2l h (by omega) dX5_lightOf_5 ?_
  refine lv_iload_n hx hb dX5_lightOf_6 rfl (lv_at hl 0 rfl) ?_
  refine zb_ine (tgt := 15) h (by omega) dX5_lightOf_7 (by decide) (fun c_7 => ?_) (fun c_7 => ?_)
  · refine lv_iload_n hx hb dX5_lightOf_15 rfl (lv_at hl 0 rfl) ?_
    refine zb_ic h dX5_lightOf_16 ?_
    refine zb_cne (tgt := 25) h (by omega) (by omega) dX5_lightOf_17 (by decide) (fun c_17 => ?_) (fun c_17 => ?_)
    · refine zb_ldc (n := 63000) h zk_X5_41 (by decide +kernel) dX5_lightOf_25 ?_
      exact C27 63000 _ _ _  (by unfold zThr; first | rw [if_pos (by omega)] | rw [if_neg (by omega), if_pos (by omega)] | rw [if_neg (by omega), if_neg (by omega)]) hH (lv_sub hl [1, 2, 0] rfl)
    · refine zb_ldc (n := 79370) h zk_X5_40 (by decide +kernel) dX5_lightOf_20 ?_
      refine lv_goto (tgt := 27) hx hb dX5_lightOf_22 (by decide) ?_
      exact C27 79370 _ _ _  (by unfold zThr; first | rw [if_pos (by omega)] | rw [if_neg (by omega), if_pos (by omega)] | rw [if_neg (by omega), if_neg (by omega)]) hH (lv_sub hl [1, 2, 0] rfl)
  · refine zb_ldc (n := 100000) h zk_X5_39 (by decide +kernel) dX5_lightOf_10 ?_
    refine lv_goto (tgt := 27) hx hb dX5_lightOf_12 (by decide) ?_
    exact C27 100000 _ _ _  (by unfold zThr; first | rw [if_pos (by omega)] | rw [if_neg (by omega), if_pos (by omega)] | rw [if_neg (by omega), if_neg (by omega)]) hH (lv_sub hl [1, 2, 0] rfl)
theorem dX5_findMarks_0 : decode cX5_findMarks 0 = .ok (.aload_n 0, 1) := by decide +kernel
theorem dX5_findMarks_1 : decode cX5_findMarks 1 = .ok (.getfield 7, 3) := by decide +kernel
theorem dX5_findMarks_4 : decode cX5_findMarks 4 = .ok (.iconst 1, 1) := by decide +kernel
theorem dX5_findMarks_5 : decode cX5_findMarks 5 = .ok (.iaload, 1) := by decide +kernel
theorem dX5_findMarks_6 : decode cX5_findMarks 6 = .ok (.istore_n 1, 1) := by decide +kernel
theorem dX5_findMarks_7 : decode cX5_findMarks 7 = .ok (.iload_n 1, 1) := by decide +kernel
theorem dX5_findMarks_8 : decode cX5_findMarks 8 = .ok (.ifCond .ne 9, 3) := by decide +kernel
theorem dX5_findMarks_11 : decode cX5_findMarks 11 = .ok (.sipush 1400, 3) := by decide +kernel
theorem dX5_findMarks_14 : decode cX5_findMarks 14 = .ok (.goto 50, 3) := by decide +kernel
theorem dX5_findMarks_17 : decode cX5_findMarks 17 = .ok (.iload_n 1, 1) := by decide +kernel
theorem dX5_findMarks_18 : decode cX5_findMarks 18 = .ok (.iconst 1, 1) := by decide +kernel
theorem dX5_findMarks_19 : decode cX5_findMarks 19 = .ok (.if_icmp .ne 9, 3) := by decide +kernel
theorem dX5_findMarks_22 : decode cX5_findMarks 22 = .ok (.sipush 1320, 3) := by decide +kernel
theorem dX5_findMarks_25 : decode cX5_findMarks 25 = .ok (.goto 39, 3) := by decide +kernel
theorem dX5_findMarks_28 : decode cX5_findMarks 28 = .ok (.iload_n 1, 1) := by decide +kernel
theorem dX5_findMarks_29 : decode cX5_findMarks 29 = .ok (.iconst 2, 1) := by decide +kernel
theorem dX5_findMarks_30 : decode cX5_findMarks 30 = .ok (.if_icmp .ne 9, 3) := by decide +kernel
theorem dX5_findMarks_33 : decode cX5_findMarks 33 = .ok (.sipush 1260, 3) := by decide +kernel
theorem dX5_findMarks_36 : decode cX5_findMarks 36 = .ok (.goto 28, 3) := by decide +kernel
theorem dX5_findMarks_39 : decode cX5_findMarks 39 = .ok (.iload_n 1, 1) := by decide +kernel
theorem dX5_findMarks_40 : decode cX5_findMarks 40 = .ok (.iconst 3, 1) := by decide +kernel
theorem dX5_findMarks_41 : decode cX5_findMarks 41 = .ok (.if_icmp .ne 9, 3) := by decide +kernel
theorem dX5_findMarks_44 : decode cX5_findMarks 44 = .ok (.sipush 1200, 3) := by decide +kernel
theorem dX5_findMarks_47 : decode cX5_findMarks 47 = .ok (.goto 17, 3) := by decide +kernel
theorem dX5_findMarks_50 : decode cX5_findMarks 50 = .ok (.iload_n 1, 1) := by decide +kernel
theorem dX5_findMarks_51 : decode cX5_findMarks 51 = .ok (.iconst 4, 1) := by decide +kernel
theorem dX5_findMarks_52 : decode cX5_findMarks 52 = .ok (.if_icmp .ne 9, 3) := by decide +kernel
theorem dX5_findMarks_55 : decode cX5_findMarks 55 = .ok (.sipush 1160, 3) := by decide +kernel
theorem dX5_findMarks_58 : decode cX5_findMarks 58 = .ok (.goto 6, 3) := by decide +kernel
theorem dX5_findMarks_61 : decode cX5_findMarks 61 = .ok (.sipush 1120, 3) := by decide +kernel
theorem dX5_findMarks_64 : decode cX5_findMarks 64 = .ok (.istore_n 2, 1) := by decide +kernel
theorem dX5_findMarks_65 : decode cX5_findMarks 65 = .ok (.aload_n 0, 1) := by decide +kernel
theorem dX5_findMarks_66 : decode cX5_findMarks 66 = .ok (.getfield 22, 3) := by decide +kernel
theorem dX5_findMarks_69 : decode cX5_findMarks 69 = .ok (.iconst 0, 1) := by decide +kernel
theorem dX5_findMarks_70 : decode cX5_findMarks 70 = .ok (.bipush 100, 2) := by decide +kernel
theorem dX5_findMarks_72 : decode cX5_findMarks 72 = .ok (.aload_n 0, 1) := by decide +kernel
theorem dX5_findMarks_73 : decode cX5_findMarks 73 = .ok (.getfield 7, 3) := by decide +kernel
theorem dX5_findMarks_76 : decode cX5_findMarks 76 = .ok (.iconst 2, 1) := by decide +kernel
theorem dX5_findMarks_77 : decode cX5_findMarks 77 = .ok (.iaload, 1) := by decide +kernel
theorem dX5_findMarks_78 : decode cX5_findMarks 78 = .ok (.imul, 1) := by decide +kernel
theorem dX5_findMarks_79 : decode cX5_findMarks 79 = .ok (.iastore, 1) := by decide +kernel
theorem dX5_findMarks_80 : decode cX5_findMarks 80 = .ok (.iconst 1, 1) := by decide +kernel
theorem dX5_findMarks_81 : decode cX5_findMarks 81 = .ok (.istore_n 3, 1) := by decide +kernel
theorem dX5_findMarks_82 : decode cX5_findMarks 82 = .ok (.iload_n 3, 1) := by decide +kernel
theorem dX5_findMarks_83 : decode cX5_findMarks 83 = .ok (.bipush 10, 2) := by decide +kernel
theorem dX5_findMarks_85 : decode cX5_findMarks 85 = .ok (.if_icmp .ge 62, 3) := by decide +kernel
theorem dX5_findMarks_88 : decode cX5_findMarks 88 = .ok (.aload_n 0, 1) := by decide +kernel
theorem dX5_findMarks_89 : decode cX5_findMarks 89 = .ok (.getfield 22, 3) := by decide +kernel
theorem dX5_findMarks_92 : decode cX5_findMarks 92 = .ok (.iload_n 3, 1) := by decide +kernel
theorem dX5_findMarks_93 : decode cX5_findMarks 93 = .ok (.iconst 1, 1) := by decide +kernel
theorem dX5_findMarks_94 : decode cX5_findMarks 94 = .ok (.isub, 1) := by decide +kernel
theorem dX5_findMarks_95 : decode cX5_findMarks 95 = .ok (.iaload, 1) := by decide +kernel
theorem dX5_findMarks_96 : decode cX5_findMarks 96 = .ok (.i2l, 1) := by decide +kernel
theorem dX5_findMarks_97 : decode cX5_findMarks 97 = .ok (.iload_n 2, 1) := by decide +kernel
theorem dX5_findMarks_98 : decode cX5_findMarks 98 = .ok (.i2l, 1) := by decide +kernel
theorem dX5_findMarks_99 : decode cX5_findMarks 99 = .ok (.lmul, 1) := by decide +kernel
theorem dX5_findMarks_100 : decode cX5_findMarks 100 = .ok (.ldc2_w 46, 3) := by decide +kernel
theorem dX5_findMarks_103 : decode cX5_findMarks 103 = .ok (.ldiv, 1) := by decide +kernel
theorem dX5_findMarks_104 : decode cX5_findMarks 104 = .ok (.l2i, 1) := by decide +kernel
theorem dX5_findMarks_105 : decode cX5_findMarks 105 = .ok (.istore 4, 2) := by decide +kernel
theorem dX5_findMarks_107 : decode cX5_findMarks 107 = .ok (.aload_n 0, 1) := by decide +kernel
theorem dX5_findMarks_108 : decode cX5_findMarks 108 = .ok (.getfield 22, 3) := by decide +kernel
theorem dX5_findMarks_111 : decode cX5_findMarks 111 = .ok (.iload_n 3, 1) := by decide +kernel
theorem dX5_findMarks_112 : decode cX5_findMarks 112 = .ok (.iload 4, 2) := by decide +kernel
theorem dX5_findMarks_114 : decode cX5_findMarks 114 = .ok (.aload_n 0, 1) := by decide +kernel
theorem dX5_findMarks_115 : decode cX5_findMarks 115 = .ok (.getfield 22, 3) := by decide +kernel
theorem dX5_findMarks_118 : decode cX5_findMarks 118 = .ok (.iload_n 3, 1) := by decide +kernel
theorem dX5_findMarks_119 : decode cX5_findMarks 119 = .ok (.iconst 1, 1) := by decide +kernel
theorem dX5_findMarks_120 : decode cX5_findMarks 120 = .ok (.isub, 1) := by decide +kernel
theorem dX5_findMarks_121 : decode cX5_findMarks 121 = .ok (.iaload, 1) := by decide +kernel
theorem dX5_findMarks_122 : decode cX5_findMarks 122 = .ok (.if_icmp .le 8, 3) := by decide +kernel
theorem dX5_findMarks_125 : decode cX5_findMarks 125 = .ok (.iload 4, 2) := by decide +kernel
theorem dX5_findMarks_127 : decode cX5_findMarks 127 = .ok (.goto 13, 3) := by decide +kernel
theorem dX5_findMarks_130 : decode cX5_findMarks 130 = .ok (.aload_n 0, 1) := by decide +kernel
theorem dX5_findMarks_131 : decode cX5_findMarks 131 = .ok (.getfield 22, 3) := by decide +kernel
theorem dX5_findMarks_134 : decode cX5_findMarks 134 = .ok (.iload_n 3, 1) := by decide +kernel
theorem dX5_findMarks_135 : decode cX5_findMarks 135 = .ok (.iconst 1, 1) := by decide +kernel
theorem dX5_findMarks_136 : decode cX5_findMarks 136 = .ok (.isub, 1) := by decide +kernel
theorem dX5_findMarks_137 : decode cX5_findMarks 137 = .ok (.iaload, 1) := by decide +kernel
theorem dX5_findMarks_138 : decode cX5_findMarks 138 = .ok (.iconst 1, 1) := by decide +kernel
theorem dX5_findMarks_139 : decode cX5_findMarks 139 = .ok (.iadd, 1) := by decide +kernel
theorem dX5_findMarks_140 : decode cX5_findMarks 140 = .ok (.iastore, 1) := by decide +kernel
theorem dX5_findMarks_141 : decode cX5_findMarks 141 = .ok (.iinc 3 1, 3) := by decide +kernel
theorem dX5_findMarks_144 : decode cX5_findMarks 144 = .ok (.goto (-62), 3) := by decide +kernel
theorem dX5_findMarks_147 : decode cX5_findMarks 147 = .ok (.return_, 1) := by decide +kernel
def q_X5_findMarks (S : zM) : zM → Prop := fun S1 => zMo S (S 9 0) (S 9 1) (S 9 2) (S 9 3) (S 9 4) (zMk (S 9 1 1) (S 9 1 2)) (S 9 6) = S1
def r_X5_findMarks : Room := { frames := 0, cells := 0, slots := 0, locals := 0 }
set_option maxHeartbeats 4000000 in
set_option maxRecDepth 100000 in
theorem c_X5_findMarks (l : Launch) (G : zG) (hG : zok G) (S : zM) (hw : zW (S 9 1)) : Met l yX5_findMarks (Cond.code yX5_findMarks cX5_findMarks 5 (none : Option FieldType) :: zTbl) r_X5_findMarks (va_Pc [.ref (za G 9 0)] (zB G S)) (va_Qv (q_X5_findMarks S) (zB G) (zA G)) 0 0 (zA G) := by
  refine zMet [(0, .ref (za G 9 0))] hG (by decide) (Nat.le_of_ble_eq_true rfl) rfl (fun p e s m args below meth c ls h hx hb hr hH hl => ?_)
  rw [← zM_id S] at hH
  have C82 : ∀ (fu : Nat) (i w0 : Int) (M : Int → Int) (H : Heap) (locs : List Loc) (ls : Array Slot), (10 - i).toNat < fu → (w0 = zSteps (S 9 1 1)) → (1 ≤ i ∧ i ≤ 10) → (∀ j : Int, 0 ≤ j → j < i → M j = zMk (S 9 1 1) (S 9 1 2) j) → zH G (zMo S (S 9 0) (S 9 1) (S 9 2) (S 9 3) (S 9 4) M (S 9 6)) s H locs → lv_has ls 5 [(0, .ref (za G 9 0)), (1, .int (zI (S 9 1 1))), (2, .int (zI w0)), (3, .int (zI i))] → W p l e r_X5_findMarks s m args below meth c H locs 0 0 (MQ below (va_Qv (q_X5_findMarks S) (zB G) (zA G)) args s 0 0 (zA G)) (F0 m 82 ls []) := by
    intro fu
    induction fu with
    | zero => intro i w0 M H locs ls hfu; omega
    | succ fu ih82 =>
      intro i w0 M H locs ls hfu hw0 hi hM hH hl
      have b0 := zSteps_in (S 9 1 1)
      have f2 := zW_2 hw
      refine lv_iload_n hx hb dX5_findMarks_82 rfl (lv_at hl 3 rfl) ?_
      refine zb_bi h dX5_findMarks_83 (by decide) (by decide) ?_
      refine zb_cge (tgt := 147) h (by omega) (by omega) dX5_findMarks_85 (by decide) (fun c_85 => ?_) (fun c_85 => ?_)
      · have hH := zH_mo (M' := zMk (S 9 1 1) (S 9 1 2)) (fun _ _ _ => rfl) (fun _ _ _ => rfl) (fun _ _ _ => rfl) (fun _ _ _ => rfl) (fun _ _ _ => rfl) (fun x h1 h2 => hM x h1 (by omega)) (fun _ _ _ => rfl) hH
        refine zrv h hr hH ?_ dX5_findMarks_147
        exact rfl
      · refine lv_aload_n hx hb dX5_findMarks_88 rfl (lv_at hl 0 rfl) ?_
        refine zg_5_7 h hH zf_X5_22 dX5_findMarks_89 ?_
        refine lv_iload_n hx hb dX5_findMarks_92 rfl (lv_at hl 3 rfl) ?_
        refine zb_ic h dX5_findMarks_93 ?_
        refine zb_isub h dX5_findMarks_94 ?_
        refine zld_ar_mm h hH (by omega) dX5_findMarks_95 ?_
        rw [zM_5]
        have e_95 := hM (i - 1) (by omega) (by omega)
        have m_95 := zmk_b (g := S 9 1 1) (zW_2 hw) (show 0 ≤ i - 1 ∧ i - 1 ≤ 10 by omega)
        have e_96 : M (i - 1) = zmkN (S 9 1 1) (S 9 1 2) (i - 1).toNat := e_95
        rw [← e_96, ← hw0] at m_95
        refine zb_i2l h (by omega) dX5_findMarks_96 ?_
        refine lv_iload_n hx hb dX5_findMarks_97 rfl (lv_at hl 2 rfl) ?_
        refine zb_i2l h (by omega) dX5_findMarks_98 ?_
        refine zb_lmul h dX5_findMarks_99 ?_
        refine zb_ldc2 (n := 1000) h zk_X5_46 (by decide +kernel) dX5_findMarks_100 ?_
        refine zb_ldiv h (by omega) (by omega) dX5_findMarks_103 ?_
        refine zb_l2i h dX5_findMarks_104 ?_
        refine lv_istore (lv' := [(4, .int (zI (((M (i - 1)) * w0) / 1000))), (0, .ref (za G 9 0)), (1, .int (zI (S 9 1 1))), (2, .int (zI w0)), (3, .int (zI i))]) hx hb dX5_findMarks_105 hl (by decide) rfl (fun ls hl => ?_)
        refine lv_aload_n hx hb dX5_findMarks_107 rfl (lv_at hl 1 rfl) ?_
        refine zg_5_7 h hH zf_X5_22 dX5_findMarks_108 ?_
        refine lv_iload_n hx hb dX5_findMarks_111 rfl (lv_at hl 4 rfl) ?_
        refine lv_iload hx hb dX5_findMarks_112 (lv_at hl 0 rfl) ?_
        refine lv_aload_n hx hb dX5_findMarks_114 rfl (lv_at hl 1 rfl) ?_
        refine zg_5_7 h hH zf_X5_22 dX5_findMarks_115 ?_
        refine lv_iload_n hx hb dX5_findMarks_118 rfl (lv_at hl 4 rfl) ?_
        refine zb_ic h dX5_findMarks_119 ?_
        refine zb_isub h dX5_findMarks_120 ?_
        refine zld_ar_mm h hH (by omega) dX5_findMarks_121 ?_
        rw [zM_5]
        refine zb_cle (tgt := 130) h (by omega) (by omega) dX5_findMarks_122 (by decide) (fun c_122 => ?_) (fun c_122 => ?_)
        · refine lv_aload_n hx hb dX5_findMarks_130 rfl (lv_at hl 1 rfl) ?_
          refine zg_5_7 h hH zf_X5_22 dX5_findMarks_131 ?_
          refine lv_iload_n hx hb dX5_findMarks_134 rfl (lv_at hl 4 rfl) ?_
          refine zb_ic h dX5_findMarks_135 ?_
          refine zb_isub h dX5_findMarks_136 ?_
          refine zld_ar_mm h hH (by omega) dX5_findMarks_137 ?_
          rw [zM_5]
          refine zb_ic h dX5_findMarks_138 ?_
          refine zb_iadd h dX5_findMarks_139 ?_
          refine zst_ar_mm h hH (by omega) dX5_findMarks_140 (fun H locs hH => ?_)
          rw [zs_M5] at hH
          refine lv_iinc (v := zI (i + 1)) (lv' := [(3, .int (zI (i + 1))), (4, .int (zI (((M (i - 1)) * w0) / 1000))), (0, .ref (za G 9 0)), (1, .int (zI (S 9 1 1))), (2, .int (zI w0))]) hx hb dX5_findMarks_141 hl (k := 4) rfl (zI_add _ _) (by decide) rfl (fun ls hl => ?_)
          refine lv_goto (tgt := 82) hx hb dX5_findMarks_144 (by decide) ?_
          exact ih82 (i + 1) w0 (zup M (i) ((M (i - 1)) + 1)) _ _ _ (by omega) hw0 (by omega) (fun j h1 h2 => if e : j = i then (by rw [e, zup_s]; have q := zmk_s (S 9 1 1) (S 9 1 2) (show 0 ≤ i - 1 by omega); rw [Int.sub_add_cancel, ← e_96, ← hw0] at q; show _ = zmkN (S 9 1 1) (S 9 1 2) i.toNat; omega) else (by rw [zup_n e]; exact hM j h1 (by omega))) hH (lv_sub hl [2, 3, 4, 0] rfl)
        · refine lv_iload hx hb dX5_findMarks_125 (lv_at hl 0 rfl) ?_
          refine lv_goto (tgt := 140) hx hb dX5_findMarks_127 (by decide) ?_
          refine zst_ar_mm h hH (by omega) dX5_findMarks_140 (fun H locs hH => ?_)
          rw [zs_M5] at hH
          refine lv_iinc (v := zI (i + 1)) (lv' := [(3, .int (zI (i + 1))), (4, .int (zI (((M (i - 1)) * w0) / 1000))), (0, .ref (za G 9 0)), (1, .int (zI (S 9 1 1))), (2, .int (zI w0))]) hx hb dX5_findMarks_141 hl (k := 4) rfl (zI_add _ _) (by decide) rfl (fun ls hl => ?_)
          refine lv_goto (tgt := 82) hx hb dX5_findMarks_144 (by decide) ?_
          exact ih82 (i + 1) w0 (zup M (i) (((M (i - 1)) * w0) / 1000)) _ _ _ (by omega) hw0 (by omega) (fun j h1 h2 => if e : j = i then (by rw [e, zup_s]; have q := zmk_s (S 9 1 1) (S 9 1 2) (show 0 ≤ i - 1 by omega); rw [Int.sub_add_cancel, ← e_96, ← hw0] at q; show _ = zmkN (S 9 1 1) (S 9 1 2) i.toNat; omega) else (by rw [zup_n e]; exact hM j h1 (by omega))) hH (lv_sub hl [2, 3, 4, 0] rfl)
  have C64 : ∀ (w0 : Int) (H : Heap) (locs : List Loc) (ls : Array Slot), (w0 = zSteps (S 9 1 1)) → zH G (zMo S (S 9 0) (S 9 1) (S 9 2) (S 9 3) (S 9 4) (S 9 5) (S 9 6)) s H locs → lv_has ls 5 [(0, .ref (za G 9 0)), (1, .int (zI (S 9 1 1)))] → W p l e r_X5_findMarks s m args below meth c H locs 0 0 (MQ below (va_Qv (q_X5_findMarks S) (zB G) (zA G)) args s 0 0 (zA G)) (F0 m 64 ls [.int (zI w0)]) := by
    intro w0 H locs ls hw0 hH hl
    refine lv_istore_n (lv' := [(2, .int (zI w0)), (0, .ref (za G 9 0)), (1, .int (zI (S 9 1 1)))]) hx hb dX5_findMarks_64 rfl hl (by decide) rfl (fun ls hl => ?_)
    refine lv_aload_n hx hb dX5_findMarks_65 rfl (lv_at hl 1 rfl) ?_
    refine zg_5_7 h hH zf_X5_22 dX5_findMarks_66 ?_
    refine zb_ic h dX5_findMarks_69 ?_
    refine zb_bi h dX5_findMarks_70 (by decide) (by decide) ?_
    refine lv_aload_n hx hb dX5_findMarks_72 rfl (lv_at hl 1 rfl) ?_
    refine zg_5_1 h hH zf_X5_7 dX5_findMarks_73 ?_
    refine zb_ic h dX5_findMarks_76 ?_
    refine zld_ar_s h hH (by omega) dX5_findMarks_77 ?_
    rw [zM_1]
    have f_77 := zW_2 hw
    refine zb_imul h dX5_findMarks_78 ?_
    refine zst_ar_mm h hH (by omega) dX5_findMarks_79 (fun H locs hH => ?_)
    rw [zs_M5] at hH
    refine zb_ic h dX5_findMarks_80 ?_
    refine lv_istore_n (lv' := [(3, .int (zI 1)), (2, .int (zI w0)), (0, .ref (za G 9 0)), (1, .int (zI (S 9 1 1)))]) hx hb dX5_findMarks_81 rfl hl (by decide) rfl (fun ls hl => ?_)
    exact C82 ((10 - 1 : Int).toNat + 1) 1 w0 (zup (S 9 5) (0) (100 * (S 9 1 2))) _ _ _ (by omega) hw0 (by omega) (fun j h1 h2 => by rw [show j = 0 by omega, zup_s]; rfl) hH (lv_sub hl [2, 3, 1, 0] rfl)
  refine lv_aload_n hx hb dX5_findMarks_0 rfl (lv_at hl 0 rfl) ?_
  refine zg_5_1 h hH zf_X5_7 dX5_findMarks_1 ?_
  refine zb_ic h dX5_findMarks_4 ?_
  refine zld_ar_s h hH (by omega) dX5_findMarks_5 ?_
  rw [zM_1]
  have f_5 := zW_1 hw
  refine lv_istore_n (lv' := [(1, .int (zI (S 9 1 1))), (0, .ref (za G 9 0))]) hx hb dX5_findMarks_6 rfl hl (by decide) rfl (fun ls hl => ?_)
  refine lv_iload_n hx hb dX5_findMarks_7 rfl (lv_at hl 0 rfl) ?_
  refine zb_ine (tgt := 17) h (by omega) dX5_findMarks_8 (by decide) (fun c_8 => ?_) (fun c_8 => ?_)
  · refine lv_iload_n hx hb dX5_findMarks_17 rfl (lv_at hl 0 rfl) ?_
    refine zb_ic h dX5_findMarks_18 ?_
    refine zb_cne (tgt := 28) h (by omega) (by omega) dX5_findMarks_19 (by decide) (fun c_19 => ?_) (fun c_19 => ?_)
    · refine lv_iload_n hx hb dX5_findMarks_28 rfl (lv_at hl 0 rfl) ?_
      refine zb_ic h dX5_findMarks_29 ?_
      refine zb_cne (tgt := 39) h (by omega) (by omega) dX5_findMarks_30 (by decide) (fun c_30 => ?_) (fun c_30 => ?_)
      · refine lv_iload_n hx hb dX5_findMarks_39 rfl (lv_at hl 0 rfl) ?_
        refine zb_ic h dX5_findMarks_40 ?_
        refine zb_cne (tgt := 50) h (by omega) (by omega) dX5_findMarks_41 (by decide) (fun c_41 => ?_) (fun c_41 => ?_)
        · refine lv_iload_n hx hb dX5_findMarks_50 rfl (lv_at hl 0 rfl) ?_
          refine zb_ic h dX5_findMarks_51 ?_
          refine zb_cne (tgt := 61) h (by omega) (by omega) dX5_findMarks_52 (by decide) (fun c_52 => ?_) (fun c_52 => ?_)
          · refine zb_si h dX5_findMarks_61 (by decide) (by decide) ?_
            exact C64 1120 _ _ _  (by have q := zW_1 hw; unfold zSteps; repeat (first | rw [if_pos (by omega)] | rw [if_neg (by omega)])) hH (lv_sub hl [1, 0] rfl)
          · refine zb_si h dX5_findMarks_55 (by decide) (by decide) ?_
            refine lv_goto (tgt := 64) hx hb dX5_findMarks_58 (by decide) ?_
            exact C64 1160 _ _ _  (by have q := zW_1 hw; unfold zSteps; repeat (first | rw [if_pos (by omega)] | rw [if_neg (by omega)])) hH (lv_sub hl [1, 0] rfl)
        · refine zb_si h dX5_findMarks_44 (by decide) (by decide) ?_
          refine lv_goto (tgt := 64) hx hb dX5_findMarks_47 (by decide) ?_
          exact C64 1200 _ _ _  (by have q := zW_1 hw; unfold zSteps; repeat (first | rw [if_pos (by omega)] | rw [if_neg (by omega)])) hH (lv_sub hl [1, 0] rfl)
      · refine zb_si h dX5_findMarks_33 (by decide) (by decide) ?_
        refine lv_goto (tgt := 64) hx hb dX5_findMarks_36 (by decide) ?_
        exact C64 1260 _ _ _  (by have q := zW_1 hw; unfold zSteps; repeat (first | rw [if_pos (by omega)] | rw [if_neg (by omega)])) hH (lv_sub hl [1, 0] rfl)
    · refine zb_si h dX5_findMarks_22 (by decide) (by decide) ?_
      refine lv_goto (tgt := 64) hx hb dX5_findMarks_25 (by decide) ?_
      exact C64 1320 _ _ _  (by have q := zW_1 hw; unfold zSteps; repeat (first | rw [if_pos (by omega)] | rw [if_neg (by omega)])) hH (lv_sub hl [1, 0] rfl)
  · refine zb_si h dX5_findMarks_11 (by decide) (by decide) ?_
    refine lv_goto (tgt := 64) hx hb dX5_findMarks_14 (by decide) ?_
    exact C64 1400 _ _ _  (by have q := zW_1 hw; unfold zSteps; repeat (first | rw [if_pos (by omega)] | rw [if_neg (by omega)])) hH (lv_sub hl [1, 0] rfl)
theorem dX5_toneOf_0 : decode cX5_toneOf 0 = .ok (.aload_n 0, 1) := by decide +kernel
theorem dX5_toneOf_1 : decode cX5_toneOf 1 = .ok (.invokevirtual 48, 3) := by decide +kernel
theorem dX5_toneOf_4 : decode cX5_toneOf 4 = .ok (.iconst 0, 1) := by decide +kernel
theorem dX5_toneOf_5 : decode cX5_toneOf 5 = .ok (.istore_n 2, 1) := by decide +kernel
theorem dX5_toneOf_6 : decode cX5_toneOf 6 = .ok (.iconst 0, 1) := by decide +kernel
theorem dX5_toneOf_7 : decode cX5_toneOf 7 = .ok (.istore_n 3, 1) := by decide +kernel
theorem dX5_toneOf_8 : decode cX5_toneOf 8 = .ok (.iload_n 3, 1) := by decide +kernel
theorem dX5_toneOf_9 : decode cX5_toneOf 9 = .ok (.bipush 10, 2) := by decide +kernel
theorem dX5_toneOf_11 : decode cX5_toneOf 11 = .ok (.if_icmp .ge 27, 3) := by decide +kernel
theorem dX5_toneOf_14 : decode cX5_toneOf 14 = .ok (.iload_n 2, 1) := by decide +kernel
theorem dX5_toneOf_15 : decode cX5_toneOf 15 = .ok (.aload_n 0, 1) := by decide +kernel
theorem dX5_toneOf_16 : decode cX5_toneOf 16 = .ok (.getfield 22, 3) := by decide +kernel
theorem dX5_toneOf_19 : decode cX5_toneOf 19 = .ok (.iload_n 3, 1) := by decide +kernel
theorem dX5_toneOf_20 : decode cX5_toneOf 20 = .ok (.iaload, 1) := by decide +kernel
theorem dX5_toneOf_21 : decode cX5_toneOf 21 = .ok (.iload_n 1, 1) := by decide +kernel
theorem dX5_toneOf_22 : decode cX5_toneOf 22 = .ok (.if_icmp .gt 7, 3) := by decide +kernel
theorem dX5_toneOf_25 : decode cX5_toneOf 25 = .ok (.iconst 1, 1) := by decide +kernel
theorem dX5_toneOf_26 : decode cX5_toneOf 26 = .ok (.goto 4, 3) := by decide +kernel
theorem dX5_toneOf_29 : decode cX5_toneOf 29 = .ok (.iconst 0, 1) := by decide +kernel
theorem dX5_toneOf_30 : decode cX5_toneOf 30 = .ok (.iadd, 1) := by decide +kernel
theorem dX5_toneOf_31 : decode cX5_toneOf 31 = .ok (.istore_n 2, 1) := by decide +kernel
theorem dX5_toneOf_32 : decode cX5_toneOf 32 = .ok (.iinc 3 1, 3) := by decide +kernel
theorem dX5_toneOf_35 : decode cX5_toneOf 35 = .ok (.goto (-27), 3) := by decide +kernel
theorem dX5_toneOf_38 : decode cX5_toneOf 38 = .ok (.iload_n 2, 1) := by decide +kernel
theorem dX5_toneOf_39 : decode cX5_toneOf 39 = .ok (.ireturn, 1) := by decide +kernel
def q_X5_toneOf (S : zM) (x : Int) : Int32 → zM → Prop := fun r S1 => r = zI (zcnt (zMk (S 9 1 1) (S 9 1 2)) x 10) ∧ ∃ M', zMo S (S 9 0) (S 9 1) (S 9 2) (S 9 3) (S 9 4) M' (S 9 6) = S1
def r_X5_toneOf : Room := { frames := 1, cells := 0, slots := 0, locals := 24 }
set_option maxHeartbeats 4000000 in
set_option maxRecDepth 100000 in
theorem c_X5_toneOf (l : Launch) (G : zG) (hG : zok G) (S : zM) (x : Int) (hx0 : -2147483648 ≤ x ∧ x ≤ 2147483647) (hw : zW (S 9 1)) : Met l yX5_toneOf (Cond.code yX5_toneOf cX5_toneOf 4 (some FieldType.int) :: zTbl) r_X5_toneOf (va_Pc [.ref (za G 9 0), .int (zI x)] (zB G S)) (va_Qi (q_X5_toneOf S x) (zB G) (zA G)) 0 0 (zA G) := by
  refine zMet [(0, .ref (za G 9 0)), (1, .int (zI x))] hG (by decide) (Nat.le_of_ble_eq_true rfl) rfl (fun p e s m args below meth c ls h hx hb hr hH hl => ?_)
  rw [← zM_id S] at hH
  have C8 : ∀ (fu : Nat) (i n : Int) (H : Heap) (locs : List Loc) (ls : Array Slot), (10 - i).toNat < fu → (0 ≤ i ∧ i ≤ 10) → (n = zcnt (zMk (S 9 1 1) (S 9 1 2)) x i.toNat) → zH G (zMo S (S 9 0) (S 9 1) (S 9 2) (S 9 3) (S 9 4) (zMk (S 9 1 1) (S 9 1 2)) (S 9 6)) s H locs → lv_has ls 4 [(0, .ref (za G 9 0)), (1, .int (zI x)), (2, .int (zI n)), (3, .int (zI i))] → W p l e r_X5_toneOf s m args below meth c H locs 0 0 (MQ below (va_Qi (q_X5_toneOf S x) (zB G) (zA G)) args s 0 0 (zA G)) (F0 m 8 ls []) := by
    intro fu
    induction fu with
    | zero => intro i n H locs ls hfu; omega
    | succ fu ih8 =>
      intro i n H locs ls hfu hi hn hH hl
      refine lv_iload_n hx hb dX5_toneOf_8 rfl (lv_at hl 3 rfl) ?_
      refine zb_bi h dX5_toneOf_9 (by decide) (by decide) ?_
      refine zb_cge (tgt := 38) h (by omega) (by omega) dX5_toneOf_11 (by decide) (fun c_11 => ?_) (fun c_11 => ?_)
      · refine lv_iload_n hx hb dX5_toneOf_38 rfl (lv_at hl 2 rfl) ?_
        refine zri h hr hH ?_ dX5_toneOf_39
        obtain rfl : i = 10 := by omega
        exact ⟨by rw [hn]; rfl, _, rfl⟩
      · refine lv_iload_n hx hb dX5_toneOf_14 rfl (lv_at hl 2 rfl) ?_
        refine lv_aload_n hx hb dX5_toneOf_15 rfl (lv_at hl 0 rfl) ?_
        refine zg_5_7 h hH zf_X5_22 dX5_toneOf_16 ?_
        refine lv_iload_n hx hb dX5_toneOf_19 rfl (lv_at hl 3 rfl) ?_
        refine zld_ar_mm h hH (by omega) dX5_toneOf_20 ?_
        rw [zM_5]
        refine lv_iload_n hx hb dX5_toneOf_21 rfl (lv_at hl 1 rfl) ?_
        have m_20 := zMk_in (g := S 9 1 1) (zW_2 hw) (show 0 ≤ i ∧ i < 10 by omega)
        refine zb_cgt (tgt := 29) h (by omega) (by omega) dX5_toneOf_22 (by decide) (fun c_22 => ?_) (fun c_22 => ?_)
        · refine zb_ic h dX5_toneOf_29 ?_
          refine zb_iadd h dX5_toneOf_30 ?_
          refine lv_istore_n (lv' := [(2, .int (zI (n + 0))), (0, .ref (za G 9 0)), (1, .int (zI x)), (3, .int (zI i))]) hx hb dX5_toneOf_31 rfl hl (by decide) rfl (fun ls hl => ?_)
          refine lv_iinc (v := zI (i + 1)) (lv' := [(3, .int (zI (i + 1))), (2, .int (zI (n + 0))), (0, .ref (za G 9 0)), (1, .int (zI x))]) hx hb dX5_toneOf_32 hl (k := 3) rfl (zI_add _ _) (by decide) rfl (fun ls hl => ?_)
          refine lv_goto (tgt := 8) hx hb dX5_toneOf_35 (by decide) ?_
          exact ih8 (i + 1) (n + 0) _ _ _ (by omega) (by omega) (by have e := zcnt_s (zMk (S 9 1 1) (S 9 1 2)) x hi.1; split at e <;> omega) hH (lv_sub hl [2, 3, 1, 0] rfl)
        · refine zb_ic h dX5_toneOf_25 ?_
          refine lv_goto (tgt := 30) hx hb dX5_toneOf_26 (by decide) ?_
          refine zb_iadd h dX5_toneOf_30 ?_
          refine lv_istore_n (lv' := [(2, .int (zI (n + 1))), (0, .ref (za G 9 0)), (1, .int (zI x)), (3, .int (zI i))]) hx hb dX5_toneOf_31 rfl hl (by decide) rfl (fun ls hl => ?_)
          refine lv_iinc (v := zI (i + 1)) (lv' := [(3, .int (zI (i + 1))), (2, .int (zI (n + 1))), (0, .ref (za G 9 0)), (1, .int (zI x))]) hx hb dX5_toneOf_32 hl (k := 3) rfl (zI_add _ _) (by decide) rfl (fun ls hl => ?_)
          refine lv_goto (tgt := 8) hx hb dX5_toneOf_35 (by decide) ?_
          exact ih8 (i + 1) (n + 1) _ _ _ (by omega) (by omega) (by have e := zcnt_s (zMk (S 9 1 1) (S 9 1 2)) x hi.1; split at e <;> omega) hH (lv_sub hl [2, 3, 1, 0] rfl)
  refine lv_aload_n hx hb dX5_toneOf_0 rfl (lv_at hl 0 rfl) ?_
  refine zcVv h hH (zr_5 h hH) (As := []) (rest := []) (c_X5_findMarks l G hG (zMo S (S 9 0) (S 9 1) (S 9 2) (S 9 3) (S 9 4) (S 9 5) (S 9 6)) (zM_hw hw)) zce_X5_findMarks zcv_X5_findMarks zm_X5_48 hl.1 rfl rfl ⟨rfl, rfl⟩ ⟨Nat.le_of_ble_eq_true rfl, Nat.le_of_ble_eq_true rfl⟩ (Nat.le_of_ble_eq_true rfl) ⟨Nat.zero_le _, Nat.zero_le _⟩ dX5_toneOf_1 (fun S_1 H locs hq hH => ?_)
  obtain rfl := hq
  simp only [zM_M, zM_0, zM_1, zM_2, zM_3, zM_4, zM_5, zM_6] at hH
  refine zb_ic h dX5_toneOf_4 ?_
  refine lv_istore_n (lv' := [(2, .int (zI 0)), (0, .ref (za G 9 0)), (1, .int (zI x))]) hx hb dX5_toneOf_5 rfl hl (by decide) rfl (fun ls hl => ?_)
  refine zb_ic h dX5_toneOf_6 ?_
  refine lv_istore_n (lv' := [(3, .int (zI 0)), (2, .int (zI 0)), (0, .ref (za G 9 0)), (1, .int (zI x))]) hx hb dX5_toneOf_7 rfl hl (by decide) rfl (fun ls hl => ?_)
  exact C8 ((10 - 0 : Int).toNat + 1) 0 0 _ _ _ (by omega) (by omega) rfl hH (lv_sub hl [2, 3, 1, 0] rfl)
theorem dX5_toneBy_0 : decode cX5_toneBy 0 = .ok (.aload_n 0, 1) := by decide +kernel
theorem dX5_toneBy_1 : decode cX5_toneBy 1 = .ok (.iload_n 2, 1) := by decide +kernel
theorem dX5_toneBy_2 : decode cX5_toneBy 2 = .ok (.aload_n 0, 1) := by decide +kernel
theorem dX5_toneBy_3 : decode cX5_toneBy 3 = .ok (.getfield 7, 3) := by decide +kernel
theorem dX5_toneBy_6 : decode cX5_toneBy 6 = .ok (.iload_n 1, 1) := by decide +kernel
theorem dX5_toneBy_7 : decode cX5_toneBy 7 = .ok (.iconst 0, 1) := by decide +kernel
theorem dX5_toneBy_8 : decode cX5_toneBy 8 = .ok (.invokestatic 51, 3) := by decide +kernel
theorem dX5_toneBy_11 : decode cX5_toneBy 11 = .ok (.iaload, 1) := by decide +kernel
theorem dX5_toneBy_12 : decode cX5_toneBy 12 = .ok (.invokestatic 55, 3) := by decide +kernel
theorem dX5_toneBy_15 : decode cX5_toneBy 15 = .ok (.invokevirtual 58, 3) := by decide +kernel
theorem dX5_toneBy_18 : decode cX5_toneBy 18 = .ok (.ireturn, 1) := by decide +kernel
def q_X5_toneBy (S : zM) (z t : Int) : Int32 → zM → Prop := fun r S1 => r = zI (tAt (S 9 1) z t) ∧ ∃ M', zMo S (S 9 0) (S 9 1) (S 9 2) (S 9 3) (S 9 4) M' (S 9 6) = S1
def r_X5_toneBy : Room := { frames := 2, cells := 0, slots := 0, locals := 47 }
set_option maxHeartbeats 4000000 in
set_option maxRecDepth 100000 in
theorem c_X5_toneBy (l : Launch) (G : zG) (hG : zok G) (S : zM) (z t : Int) (hz : 0 ≤ z ∧ z < 8) (ht : 0 ≤ t ∧ t ≤ 100000) (hw : zW (S 9 1)) : Met l yX5_toneBy (Cond.code yX5_toneBy cX5_toneBy 3 (some FieldType.int) :: zTbl) r_X5_toneBy (va_Pc [.ref (za G 9 0), .int (zI z), .int (zI t)] (zB G S)) (va_Qi (q_X5_toneBy S z t) (zB G) (zA G)) 0 0 (zA G) := by
  refine zMet [(0, .ref (za G 9 0)), (1, .int (zI z)), (2, .int (zI t))] hG (by decide) (Nat.le_of_ble_eq_true rfl) rfl (fun p e s m args below meth c ls h hx hb hr hH hl => ?_)
  rw [← zM_id S] at hH
  refine lv_aload_n hx hb dX5_toneBy_0 rfl (lv_at hl 0 rfl) ?_
  refine lv_iload_n hx hb dX5_toneBy_1 rfl (lv_at hl 2 rfl) ?_
  refine lv_aload_n hx hb dX5_toneBy_2 rfl (lv_at hl 0 rfl) ?_
  refine zg_5_1 h hH zf_X5_7 dX5_toneBy_3 ?_
  refine lv_iload_n hx hb dX5_toneBy_6 rfl (lv_at hl 1 rfl) ?_
  refine zb_ic h dX5_toneBy_7 ?_
  refine zcSi h hH (As := [.int (zI z), .int (zI 0)]) (rest := [.ref (za G 9 1), .int (zI t), .ref (za G 9 0)]) (c_X5_of l G hG (zMo S (S 9 0) (S 9 1) (S 9 2) (S 9 3) (S 9 4) (S 9 5) (S 9 6)) z 0) zce_X5_of zt_X5_of zm_X5_51 hl.1 rfl rfl ⟨rfl, rfl⟩ ⟨Nat.le_of_ble_eq_true rfl, Nat.le_of_ble_eq_true rfl⟩ (Nat.le_of_ble_eq_true rfl) ⟨Nat.zero_le _, Nat.zero_le _⟩ dX5_toneBy_8 (fun r_8 S_8 H locs hq hH => ?_)
  obtain ⟨rfl, rfl⟩ := hq
  refine zb_top (y := 5 + 5 * z) (by omega) ?_
  refine zld_ar_s h hH (by omega) dX5_toneBy_11 ?_
  rw [zM_1]
  have f_11 := zW_de hw (show 0 ≤ z ∧ z < 8 by omega)
  refine zcSi h hH (As := [.int (zI t), .int (zI (S 9 1 (5 + 5 * z)))]) (rest := [.ref (za G 9 0)]) (c_X5_lightOf l G hG (zMo S (S 9 0) (S 9 1) (S 9 2) (S 9 3) (S 9 4) (S 9 5) (S 9 6)) t (S 9 1 (5 + 5 * z)) (by omega) (by omega)) zce_X5_lightOf zt_X5_lightOf zm_X5_55 hl.1 rfl rfl ⟨rfl, rfl⟩ ⟨Nat.le_of_ble_eq_true rfl, Nat.le_of_ble_eq_true rfl⟩ (Nat.le_of_ble_eq_true rfl) ⟨Nat.zero_le _, Nat.zero_le _⟩ dX5_toneBy_12 (fun r_12 S_12 H locs hq hH => ?_)
  obtain ⟨rfl, rfl⟩ := hq
  have b_15 := zLt_in (d := S 9 1 (5 + 5 * z)) ht
  refine zcVi h hH (zr_5 h hH) (As := [.int (zI (zLt (S 9 1 (5 + 5 * z)) t))]) (rest := []) (c_X5_toneOf l G hG (zMo S (S 9 0) (S 9 1) (S 9 2) (S 9 3) (S 9 4) (S 9 5) (S 9 6)) (zLt (S 9 1 (5 + 5 * z)) t) (by omega) (zM_hw hw)) zce_X5_toneOf zcv_X5_toneOf zm_X5_58 hl.1 rfl rfl ⟨rfl, rfl⟩ ⟨Nat.le_of_ble_eq_true rfl, Nat.le_of_ble_eq_true rfl⟩ (Nat.le_of_ble_eq_true rfl) ⟨Nat.zero_le _, Nat.zero_le _⟩ dX5_toneBy_15 (fun r_15 S_15 H locs hq hH => ?_)
  obtain ⟨rfl, M_15, rfl⟩ := hq
  simp only [zM_M, zM_0, zM_1, zM_2, zM_3, zM_4, zM_5, zM_6] at hH
  rw [zM_1]
  refine zri h hr hH ?_ dX5_toneBy_18
  exact ⟨rfl, _, rfl⟩
theorem dX5_spilled_0 : decode cX5_spilled 0 = .ok (.iconst 0, 1) := by decide +kernel
theorem dX5_spilled_1 : decode cX5_spilled 1 = .ok (.istore_n 2, 1) := by decide +kernel
theorem dX5_spilled_2 : decode cX5_spilled 2 = .ok (.iconst 0, 1) := by decide +kernel
theorem dX5_spilled_3 : decode cX5_spilled 3 = .ok (.istore_n 3, 1) := by decide +kernel
theorem dX5_spilled_4 : decode cX5_spilled 4 = .ok (.iload_n 3, 1) := by decide +kernel
theorem dX5_spilled_5 : decode cX5_spilled 5 = .ok (.aload_n 0, 1) := by decide +kernel
theorem dX5_spilled_6 : decode cX5_spilled 6 = .ok (.getfield 7, 3) := by decide +kernel
theorem dX5_spilled_9 : decode cX5_spilled 9 = .ok (.iconst 4, 1) := by decide +kernel
theorem dX5_spilled_10 : decode cX5_spilled 10 = .ok (.iaload, 1) := by decide +kernel
theorem dX5_spilled_11 : decode cX5_spilled 11 = .ok (.if_icmp .ge 54, 3) := by decide +kernel
theorem dX5_spilled_14 : decode cX5_spilled 14 = .ok (.iload_n 2, 1) := by decide +kernel
theorem dX5_spilled_15 : decode cX5_spilled 15 = .ok (.aload_n 0, 1) := by decide +kernel
theorem dX5_spilled_16 : decode cX5_spilled 16 = .ok (.getfield 7, 3) := by decide +kernel
theorem dX5_spilled_19 : decode cX5_spilled 19 = .ok (.iload_n 1, 1) := by decide +kernel
theorem dX5_spilled_20 : decode cX5_spilled 20 = .ok (.iconst 4, 1) := by decide +kernel
theorem dX5_spilled_21 : decode cX5_spilled 21 = .ok (.invokestatic 51, 3) := by decide +kernel
theorem dX5_spilled_24 : decode cX5_spilled 24 = .ok (.iaload, 1) := by decide +kernel
theorem dX5_spilled_25 : decode cX5_spilled 25 = .ok (.iload_n 3, 1) := by decide +kernel
theorem dX5_spilled_26 : decode cX5_spilled 26 = .ok (.ishr, 1) := by decide +kernel
theorem dX5_spilled_27 : decode cX5_spilled 27 = .ok (.iconst 1, 1) := by decide +kernel
theorem dX5_spilled_28 : decode cX5_spilled 28 = .ok (.iand, 1) := by decide +kernel
theorem dX5_spilled_29 : decode cX5_spilled 29 = .ok (.iconst 1, 1) := by decide +kernel
theorem dX5_spilled_30 : decode cX5_spilled 30 = .ok (.if_icmp .ne 26, 3) := by decide +kernel
theorem dX5_spilled_33 : decode cX5_spilled 33 = .ok (.aload_n 0, 1) := by decide +kernel
theorem dX5_spilled_34 : decode cX5_spilled 34 = .ok (.getfield 7, 3) := by decide +kernel
theorem dX5_spilled_37 : decode cX5_spilled 37 = .ok (.iload_n 3, 1) := by decide +kernel
theorem dX5_spilled_38 : decode cX5_spilled 38 = .ok (.iconst 2, 1) := by decide +kernel
theorem dX5_spilled_39 : decode cX5_spilled 39 = .ok (.invokestatic 51, 3) := by decide +kernel
theorem dX5_spilled_42 : decode cX5_spilled 42 = .ok (.iaload, 1) := by decide +kernel
theorem dX5_spilled_43 : decode cX5_spilled 43 = .ok (.aload_n 0, 1) := by decide +kernel
theorem dX5_spilled_44 : decode cX5_spilled 44 = .ok (.getfield 7, 3) := by decide +kernel
theorem dX5_spilled_47 : decode cX5_spilled 47 = .ok (.iconst 3, 1) := by decide +kernel
theorem dX5_spilled_48 : decode cX5_spilled 48 = .ok (.iaload, 1) := by decide +kernel
theorem dX5_spilled_49 : decode cX5_spilled 49 = .ok (.imul, 1) := by decide +kernel
theorem dX5_spilled_50 : decode cX5_spilled 50 = .ok (.bipush 100, 2) := by decide +kernel
theorem dX5_spilled_52 : decode cX5_spilled 52 = .ok (.idiv, 1) := by decide +kernel
theorem dX5_spilled_53 : decode cX5_spilled 53 = .ok (.goto 4, 3) := by decide +kernel
theorem dX5_spilled_56 : decode cX5_spilled 56 = .ok (.iconst 0, 1) := by decide +kernel
theorem dX5_spilled_57 : decode cX5_spilled 57 = .ok (.iadd, 1) := by decide +kernel
theorem dX5_spilled_58 : decode cX5_spilled 58 = .ok (.istore_n 2, 1) := by decide +kernel
theorem dX5_spilled_59 : decode cX5_spilled 59 = .ok (.iinc 3 1, 3) := by decide +kernel
theorem dX5_spilled_62 : decode cX5_spilled 62 = .ok (.goto (-58), 3) := by decide +kernel
theorem dX5_spilled_65 : decode cX5_spilled 65 = .ok (.iload_n 2, 1) := by decide +kernel
theorem dX5_spilled_66 : decode cX5_spilled 66 = .ok (.ireturn, 1) := by decide +kernel
def q_X5_spilled (S : zM) (z : Int) : Int32 → zM → Prop := fun r S1 => r = zI (tSp (S 9 1) z) ∧ ∃ M', zMo S (S 9 0) (S 9 1) (S 9 2) (S 9 3) (S 9 4) M' (S 9 6) = S1
def r_X5_spilled : Room := { frames := 1, cells := 0, slots := 0, locals := 21 }
set_option maxHeartbeats 4000000 in
set_option maxRecDepth 100000 in
theorem c_X5_spilled (l : Launch) (G : zG) (hG : zok G) (S : zM) (z : Int) (hz : 0 ≤ z ∧ z < 8) (hw : zW (S 9 1)) : Met l yX5_spilled (Cond.code yX5_spilled cX5_spilled 4 (some FieldType.int) :: zTbl) r_X5_spilled (va_Pc [.ref (za G 9 0), .int (zI z)] (zB G S)) (va_Qi (q_X5_spilled S z) (zB G) (zA G)) 0 0 (zA G) := by
  refine zMet [(0, .ref (za G 9 0)), (1, .int (zI z))] hG (by decide) (Nat.le_of_ble_eq_true rfl) rfl (fun p e s m args below meth c ls h hx hb hr hH hl => ?_)
  rw [← zM_id S] at hH
  have C4 : ∀ (fu : Nat) (o n : Int) (H : Heap) (locs : List Loc) (ls : Array Slot), (S 9 1 4 - o).toNat < fu → (0 ≤ o ∧ o ≤ S 9 1 4) → (n = zSp (S 9 1) z o.toNat) → zH G (zMo S (S 9 0) (S 9 1) (S 9 2) (S 9 3) (S 9 4) (S 9 5) (S 9 6)) s H locs → lv_has ls 4 [(0, .ref (za G 9 0)), (1, .int (zI z)), (2, .int (zI n)), (3, .int (zI o))] → W p l e r_X5_spilled s m args below meth c H locs 0 0 (MQ below (va_Qi (q_X5_spilled S z) (zB G) (zA G)) args s 0 0 (zA G)) (F0 m 4 ls []) := by
    intro fu
    induction fu with
    | zero => intro o n H locs ls hfu; omega
    | succ fu ih4 =>
      intro o n H locs ls hfu ho hn hH hl
      refine lv_iload_n hx hb dX5_spilled_4 rfl (lv_at hl 3 rfl) ?_
      refine lv_aload_n hx hb dX5_spilled_5 rfl (lv_at hl 0 rfl) ?_
      refine zg_5_1 h hH zf_X5_7 dX5_spilled_6 ?_
      refine zb_ic h dX5_spilled_9 ?_
      refine zld_ar_s h hH (by omega) dX5_spilled_10 ?_
      rw [zM_1]
      have f_10 := zW_4 hw
      refine zb_cge (tgt := 65) h (by omega) (by omega) dX5_spilled_11 (by decide) (fun c_11 => ?_) (fun c_11 => ?_)
      · refine lv_iload_n hx hb dX5_spilled_65 rfl (lv_at hl 2 rfl) ?_
        refine zri h hr hH ?_ dX5_spilled_66
        obtain rfl : o = S 9 1 4 := by omega
        exact ⟨by rw [hn]; rfl, _, rfl⟩
      · refine lv_iload_n hx hb dX5_spilled_14 rfl (lv_at hl 2 rfl) ?_
        refine lv_aload_n hx hb dX5_spilled_15 rfl (lv_at hl 0 rfl) ?_
        refine zg_5_1 h hH zf_X5_7 dX5_spilled_16 ?_
        refine lv_iload_n hx hb dX5_spilled_19 rfl (lv_at hl 1 rfl) ?_
        refine zb_ic h dX5_spilled_20 ?_
        refine zcSi h hH (As := [.int (zI z), .int (zI 4)]) (rest := [.ref (za G 9 1), .int (zI n)]) (c_X5_of l G hG (zMo S (S 9 0) (S 9 1) (S 9 2) (S 9 3) (S 9 4) (S 9 5) (S 9 6)) z 4) zce_X5_of zt_X5_of zm_X5_51 hl.1 rfl rfl ⟨rfl, rfl⟩ ⟨Nat.le_of_ble_eq_true rfl, Nat.le_of_ble_eq_true rfl⟩ (Nat.le_of_ble_eq_true rfl) ⟨Nat.zero_le _, Nat.zero_le _⟩ dX5_spilled_21 (fun r_21 S_21 H locs hq hH => ?_)
        obtain ⟨rfl, rfl⟩ := hq
        refine zld_ar_s h hH (by omega) dX5_spilled_24 ?_
        rw [zM_1]
        have f_24 := zW_nb hw (show 0 ≤ z ∧ z < 8 by omega)
        refine lv_iload_n hx hb dX5_spilled_25 rfl (lv_at hl 3 rfl) ?_
        refine zb_ishr h (by omega) (by omega) dX5_spilled_26 ?_
        refine zb_ic h dX5_spilled_27 ?_
        have b_28 := zdiv_le f_24.1 (zpow_pos o.toNat)
        refine zb_and1 h (by omega) dX5_spilled_28 ?_
        refine zb_ic h dX5_spilled_29 ?_
        refine zb_cne (tgt := 56) h (by omega) (by omega) dX5_spilled_30 (by decide) (fun c_30 => ?_) (fun c_30 => ?_)
        · refine zb_ic h dX5_spilled_56 ?_
          refine zb_iadd h dX5_spilled_57 ?_
          refine lv_istore_n (lv' := [(2, .int (zI (n + 0))), (0, .ref (za G 9 0)), (1, .int (zI z)), (3, .int (zI o))]) hx hb dX5_spilled_58 rfl hl (by decide) rfl (fun ls hl => ?_)
          refine lv_iinc (v := zI (o + 1)) (lv' := [(3, .int (zI (o + 1))), (2, .int (zI (n + 0))), (0, .ref (za G 9 0)), (1, .int (zI z))]) hx hb dX5_spilled_59 hl (k := 3) rfl (zI_add _ _) (by decide) rfl (fun ls hl => ?_)
          refine lv_goto (tgt := 4) hx hb dX5_spilled_62 (by decide) ?_
          exact ih4 (o + 1) (n + 0) _ _ _ (by omega) (by have := zW_4 hw; omega) (by rw [hn, zSp_s _ _ ho.1]; first | rw [if_pos (by omega)] | rw [if_neg (by omega)]) hH (lv_sub hl [2, 3, 1, 0] rfl)
        · refine lv_aload_n hx hb dX5_spilled_33 rfl (lv_at hl 0 rfl) ?_
          refine zg_5_1 h hH zf_X5_7 dX5_spilled_34 ?_
          refine lv_iload_n hx hb dX5_spilled_37 rfl (lv_at hl 3 rfl) ?_
          refine zb_ic h dX5_spilled_38 ?_
          refine zcSi h hH (As := [.int (zI o), .int (zI 2)]) (rest := [.ref (za G 9 1), .int (zI n)]) (c_X5_of l G hG (zMo S (S 9 0) (S 9 1) (S 9 2) (S 9 3) (S 9 4) (S 9 5) (S 9 6)) o 2) zce_X5_of zt_X5_of zm_X5_51 hl.1 rfl rfl ⟨rfl, rfl⟩ ⟨Nat.le_of_ble_eq_true rfl, Nat.le_of_ble_eq_true rfl⟩ (Nat.le_of_ble_eq_true rfl) ⟨Nat.zero_le _, Nat.zero_le _⟩ dX5_spilled_39 (fun r_39 S_39 H locs hq hH => ?_)
          obtain ⟨rfl, rfl⟩ := hq
          refine zld_ar_s h hH (by omega) dX5_spilled_42 ?_
          rw [zM_1]
          have f_42 := zW_bu hw (show 0 ≤ o ∧ o < 8 by omega)
          refine lv_aload_n hx hb dX5_spilled_43 rfl (lv_at hl 0 rfl) ?_
          refine zg_5_1 h hH zf_X5_7 dX5_spilled_44 ?_
          refine zb_ic h dX5_spilled_47 ?_
          refine zld_ar_s h hH (by omega) dX5_spilled_48 ?_
          rw [zM_1]
          have f_48 := zW_3 hw
          have b_49 : S 9 1 (5 + 5 * o + 2) * S 9 1 3 ≤ 999 * 50 := Int.mul_le_mul f_42.2 f_48.2 f_48.1 (by omega)
          have b_49b : 0 ≤ S 9 1 (5 + 5 * o + 2) * S 9 1 3 := Int.mul_nonneg f_42.1 f_48.1
          refine zb_imul h dX5_spilled_49 ?_
          refine zb_bi h dX5_spilled_50 (by decide) (by decide) ?_
          refine zb_idiv h (by omega) (by omega) dX5_spilled_52 ?_
          refine lv_goto (tgt := 57) hx hb dX5_spilled_53 (by decide) ?_
          refine zb_iadd h dX5_spilled_57 ?_
          refine lv_istore_n (lv' := [(2, .int (zI (n + (((S 9 1 (5 + 5 * o + 2)) * (S 9 1 3)) / 100)))), (0, .ref (za G 9 0)), (1, .int (zI z)), (3, .int (zI o))]) hx hb dX5_spilled_58 rfl hl (by decide) rfl (fun ls hl => ?_)
          refine lv_iinc (v := zI (o + 1)) (lv' := [(3, .int (zI (o + 1))), (2, .int (zI (n + (((S 9 1 (5 + 5 * o + 2)) * (S 9 1 3)) / 100)))), (0, .ref (za G 9 0)), (1, .int (zI z))]) hx hb dX5_spilled_59 hl (k := 3) rfl (zI_add _ _) (by decide) rfl (fun ls hl => ?_)
          refine lv_goto (tgt := 4) hx hb dX5_spilled_62 (by decide) ?_
          exact ih4 (o + 1) (n + (((S 9 1 (5 + 5 * o + 2)) * (S 9 1 3)) / 100)) _ _ _ (by omega) (by have := zW_4 hw; omega) (by rw [hn, zSp_s _ _ ho.1]; first | rw [if_pos (by omega)] | rw [if_neg (by omega)]) hH (lv_sub hl [2, 3, 1, 0] rfl)
  refine zb_ic h dX5_spilled_0 ?_
  refine lv_istore_n (lv' := [(2, .int (zI 0)), (0, .ref (za G 9 0)), (1, .int (zI z))]) hx hb dX5_spilled_1 rfl hl (by decide) rfl (fun ls hl => ?_)
  refine zb_ic h dX5_spilled_2 ?_
  refine lv_istore_n (lv' := [(3, .int (zI 0)), (2, .int (zI 0)), (0, .ref (za G 9 0)), (1, .int (zI z))]) hx hb dX5_spilled_3 rfl hl (by decide) rfl (fun ls hl => ?_)
  exact C4 ((S 9 1 4 - 0 : Int).toNat + 1) 0 0 _ _ _ (by omega) (by have := zW_4 hw; omega) rfl hH (lv_sub hl [2, 3, 1, 0] rfl)
theorem dX5_timeOf_0 : decode cX5_timeOf 0 = .ok (.aload_n 0, 1) := by decide +kernel
theorem dX5_timeOf_1 : decode cX5_timeOf 1 = .ok (.getfield 7, 3) := by decide +kernel
theorem dX5_timeOf_4 : decode cX5_timeOf 4 = .ok (.iconst 0, 1) := by decide +kernel
theorem dX5_timeOf_5 : decode cX5_timeOf 5 = .ok (.iaload, 1) := by decide +kernel
theorem dX5_timeOf_6 : decode cX5_timeOf 6 = .ok (.aload_n 0, 1) := by decide +kernel
theorem dX5_timeOf_7 : decode cX5_timeOf 7 = .ok (.getfield 7, 3) := by decide +kernel
theorem dX5_timeOf_10 : decode cX5_timeOf 10 = .ok (.iload_n 1, 1) := by decide +kernel
theorem dX5_timeOf_11 : decode cX5_timeOf 11 = .ok (.iconst 3, 1) := by decide +kernel
theorem dX5_timeOf_12 : decode cX5_timeOf 12 = .ok (.invokestatic 51, 3) := by decide +kernel
theorem dX5_timeOf_15 : decode cX5_timeOf 15 = .ok (.iaload, 1) := by decide +kernel
theorem dX5_timeOf_16 : decode cX5_timeOf 16 = .ok (.isub, 1) := by decide +kernel
theorem dX5_timeOf_17 : decode cX5_timeOf 17 = .ok (.istore_n 2, 1) := by decide +kernel
theorem dX5_timeOf_18 : decode cX5_timeOf 18 = .ok (.aload_n 0, 1) := by decide +kernel
theorem dX5_timeOf_19 : decode cX5_timeOf 19 = .ok (.getfield 7, 3) := by decide +kernel
theorem dX5_timeOf_22 : decode cX5_timeOf 22 = .ok (.iconst 0, 1) := by decide +kernel
theorem dX5_timeOf_23 : decode cX5_timeOf 23 = .ok (.iaload, 1) := by decide +kernel
theorem dX5_timeOf_24 : decode cX5_timeOf 24 = .ok (.iconst 2, 1) := by decide +kernel
theorem dX5_timeOf_25 : decode cX5_timeOf 25 = .ok (.idiv, 1) := by decide +kernel
theorem dX5_timeOf_26 : decode cX5_timeOf 26 = .ok (.istore_n 3, 1) := by decide +kernel
theorem dX5_timeOf_27 : decode cX5_timeOf 27 = .ok (.iload_n 2, 1) := by decide +kernel
theorem dX5_timeOf_28 : decode cX5_timeOf 28 = .ok (.iload_n 3, 1) := by decide +kernel
theorem dX5_timeOf_29 : decode cX5_timeOf 29 = .ok (.if_icmp .ge 7, 3) := by decide +kernel
theorem dX5_timeOf_32 : decode cX5_timeOf 32 = .ok (.iload_n 3, 1) := by decide +kernel
theorem dX5_timeOf_33 : decode cX5_timeOf 33 = .ok (.goto 4, 3) := by decide +kernel
theorem dX5_timeOf_36 : decode cX5_timeOf 36 = .ok (.iload_n 2, 1) := by decide +kernel
theorem dX5_timeOf_37 : decode cX5_timeOf 37 = .ok (.aload_n 0, 1) := by decide +kernel
theorem dX5_timeOf_38 : decode cX5_timeOf 38 = .ok (.getfield 7, 3) := by decide +kernel
theorem dX5_timeOf_41 : decode cX5_timeOf 41 = .ok (.iload_n 1, 1) := by decide +kernel
theorem dX5_timeOf_42 : decode cX5_timeOf 42 = .ok (.iconst 2, 1) := by decide +kernel
theorem dX5_timeOf_43 : decode cX5_timeOf 43 = .ok (.invokestatic 51, 3) := by decide +kernel
theorem dX5_timeOf_46 : decode cX5_timeOf 46 = .ok (.iaload, 1) := by decide +kernel
theorem dX5_timeOf_47 : decode cX5_timeOf 47 = .ok (.iadd, 1) := by decide +kernel
theorem dX5_timeOf_48 : decode cX5_timeOf 48 = .ok (.aload_n 0, 1) := by decide +kernel
theorem dX5_timeOf_49 : decode cX5_timeOf 49 = .ok (.iload_n 1, 1) := by decide +kernel
theorem dX5_timeOf_50 : decode cX5_timeOf 50 = .ok (.invokevirtual 62, 3) := by decide +kernel
theorem dX5_timeOf_53 : decode cX5_timeOf 53 = .ok (.iadd, 1) := by decide +kernel
theorem dX5_timeOf_54 : decode cX5_timeOf 54 = .ok (.ireturn, 1) := by decide +kernel
def q_X5_timeOf (S : zM) (z : Int) : Int32 → zM → Prop := fun r S1 => r = zI (tTm (S 9 1) z) ∧ ∃ M', zMo S (S 9 0) (S 9 1) (S 9 2) (S 9 3) (S 9 4) M' (S 9 6) = S1
def r_X5_timeOf : Room := { frames := 2, cells := 0, slots := 0, locals := 44 }
set_option maxHeartbeats 4000000 in
set_option maxRecDepth 100000 in
theorem c_X5_timeOf (l : Launch) (G : zG) (hG : zok G) (S : zM) (z : Int) (hz : 0 ≤ z ∧ z < 8) (hw : zW (S 9 1)) : Met l yX5_timeOf (Cond.code yX5_timeOf cX5_timeOf 4 (some FieldType.int) :: zTbl) r_X5_timeOf (va_Pc [.ref (za G 9 0), .int (zI z)] (zB G S)) (va_Qi (q_X5_timeOf S z) (zB G) (zA G)) 0 0 (zA G) := by
  refine zMet [(0, .ref (za G 9 0)), (1, .int (zI z))] hG (by decide) (Nat.le_of_ble_eq_true rfl) rfl (fun p e s m args below meth c ls h hx hb hr hH hl => ?_)
  rw [← zM_id S] at hH
  refine lv_aload_n hx hb dX5_timeOf_0 rfl (lv_at hl 0 rfl) ?_
  refine zg_5_1 h hH zf_X5_7 dX5_timeOf_1 ?_
  refine zb_ic h dX5_timeOf_4 ?_
  refine zld_ar_s h hH (by omega) dX5_timeOf_5 ?_
  rw [zM_1]
  have f_5 := zW_0 hw
  refine lv_aload_n hx hb dX5_timeOf_6 rfl (lv_at hl 0 rfl) ?_
  refine zg_5_1 h hH zf_X5_7 dX5_timeOf_7 ?_
  refine lv_iload_n hx hb dX5_timeOf_10 rfl (lv_at hl 1 rfl) ?_
  refine zb_ic h dX5_timeOf_11 ?_
  refine zcSi h hH (As := [.int (zI z), .int (zI 3)]) (rest := [.ref (za G 9 1), .int (zI (S 9 1 0))]) (c_X5_of l G hG (zMo S (S 9 0) (S 9 1) (S 9 2) (S 9 3) (S 9 4) (S 9 5) (S 9 6)) z 3) zce_X5_of zt_X5_of zm_X5_51 hl.1 rfl rfl ⟨rfl, rfl⟩ ⟨Nat.le_of_ble_eq_true rfl, Nat.le_of_ble_eq_true rfl⟩ (Nat.le_of_ble_eq_true rfl) ⟨Nat.zero_le _, Nat.zero_le _⟩ dX5_timeOf_12 (fun r_12 S_12 H locs hq hH => ?_)
  obtain ⟨rfl, rfl⟩ := hq
  refine zld_ar_s h hH (by omega) dX5_timeOf_15 ?_
  rw [zM_1]
  have f_15 := zW_ho hw (show 0 ≤ z ∧ z < 8 by omega)
  refine zb_isub h dX5_timeOf_16 ?_
  refine lv_istore_n (lv' := [(2, .int (zI ((S 9 1 0) - (S 9 1 (5 + 5 * z + 3))))), (0, .ref (za G 9 0)), (1, .int (zI z))]) hx hb dX5_timeOf_17 rfl hl (by decide) rfl (fun ls hl => ?_)
  refine lv_aload_n hx hb dX5_timeOf_18 rfl (lv_at hl 1 rfl) ?_
  refine zg_5_1 h hH zf_X5_7 dX5_timeOf_19 ?_
  refine zb_ic h dX5_timeOf_22 ?_
  refine zld_ar_s h hH (by omega) dX5_timeOf_23 ?_
  rw [zM_1]
  have f_23 := zW_0 hw
  refine zb_ic h dX5_timeOf_24 ?_
  refine zb_idiv h (by omega) (by omega) dX5_timeOf_25 ?_
  refine lv_istore_n (lv' := [(3, .int (zI ((S 9 1 0) / 2))), (2, .int (zI ((S 9 1 0) - (S 9 1 (5 + 5 * z + 3))))), (0, .ref (za G 9 0)), (1, .int (zI z))]) hx hb dX5_timeOf_26 rfl hl (by decide) rfl (fun ls hl => ?_)
  refine lv_iload_n hx hb dX5_timeOf_27 rfl (lv_at hl 1 rfl) ?_
  refine lv_iload_n hx hb dX5_timeOf_28 rfl (lv_at hl 0 rfl) ?_
  refine zb_cge (tgt := 36) h (by omega) (by omega) dX5_timeOf_29 (by decide) (fun c_29 => ?_) (fun c_29 => ?_)
  · refine lv_iload_n hx hb dX5_timeOf_36 rfl (lv_at hl 1 rfl) ?_
    refine lv_aload_n hx hb dX5_timeOf_37 rfl (lv_at hl 2 rfl) ?_
    refine zg_5_1 h hH zf_X5_7 dX5_timeOf_38 ?_
    refine lv_iload_n hx hb dX5_timeOf_41 rfl (lv_at hl 3 rfl) ?_
    refine zb_ic h dX5_timeOf_42 ?_
    refine zcSi h hH (As := [.int (zI z), .int (zI 2)]) (rest := [.ref (za G 9 1), .int (zI ((S 9 1 0) - (S 9 1 (5 + 5 * z + 3))))]) (c_X5_of l G hG (zMo S (S 9 0) (S 9 1) (S 9 2) (S 9 3) (S 9 4) (S 9 5) (S 9 6)) z 2) zce_X5_of zt_X5_of zm_X5_51 hl.1 rfl rfl ⟨rfl, rfl⟩ ⟨Nat.le_of_ble_eq_true rfl, Nat.le_of_ble_eq_true rfl⟩ (Nat.le_of_ble_eq_true rfl) ⟨Nat.zero_le _, Nat.zero_le _⟩ dX5_timeOf_43 (fun r_43 S_43 H locs hq hH => ?_)
    obtain ⟨rfl, rfl⟩ := hq
    refine zld_ar_s h hH (by omega) dX5_timeOf_46 ?_
    rw [zM_1]
    have f_46 := zW_bu hw (show 0 ≤ z ∧ z < 8 by omega)
    refine zb_iadd h dX5_timeOf_47 ?_
    refine lv_aload_n hx hb dX5_timeOf_48 rfl (lv_at hl 2 rfl) ?_
    refine lv_iload_n hx hb dX5_timeOf_49 rfl (lv_at hl 3 rfl) ?_
    refine zcVi h hH (zr_5 h hH) (As := [.int (zI z)]) (rest := [.int (zI (((S 9 1 0) - (S 9 1 (5 + 5 * z + 3))) + (S 9 1 (5 + 5 * z + 2))))]) (c_X5_spilled l G hG (zMo S (S 9 0) (S 9 1) (S 9 2) (S 9 3) (S 9 4) (S 9 5) (S 9 6)) z (by omega) (zM_hw hw)) zce_X5_spilled zcv_X5_spilled zm_X5_62 hl.1 rfl rfl ⟨rfl, rfl⟩ ⟨Nat.le_of_ble_eq_true rfl, Nat.le_of_ble_eq_true rfl⟩ (Nat.le_of_ble_eq_true rfl) ⟨Nat.zero_le _, Nat.zero_le _⟩ dX5_timeOf_50 (fun r_50 S_50 H locs hq hH => ?_)
    obtain ⟨rfl, M_50, rfl⟩ := hq
    simp only [zM_M, zM_0, zM_1, zM_2, zM_3, zM_4, zM_5, zM_6] at hH
    rw [zM_1]
    refine zb_iadd h dX5_timeOf_53 ?_
    refine zri h hr hH ?_ dX5_timeOf_54
    exact ⟨congrArg zI (by unfold tTm; omega), _, rfl⟩
  · refine lv_iload_n hx hb dX5_timeOf_32 rfl (lv_at hl 0 rfl) ?_
    refine lv_goto (tgt := 37) hx hb dX5_timeOf_33 (by decide) ?_
    refine lv_aload_n hx hb dX5_timeOf_37 rfl (lv_at hl 2 rfl) ?_
    refine zg_5_1 h hH zf_X5_7 dX5_timeOf_38 ?_
    refine lv_iload_n hx hb dX5_timeOf_41 rfl (lv_at hl 3 rfl) ?_
    refine zb_ic h dX5_timeOf_42 ?_
    refine zcSi h hH (As := [.int (zI z), .int (zI 2)]) (rest := [.ref (za G 9 1), .int (zI ((S 9 1 0) / 2))]) (c_X5_of l G hG (zMo S (S 9 0) (S 9 1) (S 9 2) (S 9 3) (S 9 4) (S 9 5) (S 9 6)) z 2) zce_X5_of zt_X5_of zm_X5_51 hl.1 rfl rfl ⟨rfl, rfl⟩ ⟨Nat.le_of_ble_eq_true rfl, Nat.le_of_ble_eq_true rfl⟩ (Nat.le_of_ble_eq_true rfl) ⟨Nat.zero_le _, Nat.zero_le _⟩ dX5_timeOf_43 (fun r_43 S_43 H locs hq hH => ?_)
    obtain ⟨rfl, rfl⟩ := hq
    refine zld_ar_s h hH (by omega) dX5_timeOf_46 ?_
    rw [zM_1]
    have f_46 := zW_bu hw (show 0 ≤ z ∧ z < 8 by omega)
    refine zb_iadd h dX5_timeOf_47 ?_
    refine lv_aload_n hx hb dX5_timeOf_48 rfl (lv_at hl 2 rfl) ?_
    refine lv_iload_n hx hb dX5_timeOf_49 rfl (lv_at hl 3 rfl) ?_
    refine zcVi h hH (zr_5 h hH) (As := [.int (zI z)]) (rest := [.int (zI (((S 9 1 0) / 2) + (S 9 1 (5 + 5 * z + 2))))]) (c_X5_spilled l G hG (zMo S (S 9 0) (S 9 1) (S 9 2) (S 9 3) (S 9 4) (S 9 5) (S 9 6)) z (by omega) (zM_hw hw)) zce_X5_spilled zcv_X5_spilled zm_X5_62 hl.1 rfl rfl ⟨rfl, rfl⟩ ⟨Nat.le_of_ble_eq_true rfl, Nat.le_of_ble_eq_true rfl⟩ (Nat.le_of_ble_eq_true rfl) ⟨Nat.zero_le _, Nat.zero_le _⟩ dX5_timeOf_50 (fun r_50 S_50 H locs hq hH => ?_)
    obtain ⟨rfl, M_50, rfl⟩ := hq
    simp only [zM_M, zM_0, zM_1, zM_2, zM_3, zM_4, zM_5, zM_6] at hH
    rw [zM_1]
    refine zb_iadd h dX5_timeOf_53 ?_
    refine zri h hr hH ?_ dX5_timeOf_54
    exact ⟨congrArg zI (by unfold tTm; omega), _, rfl⟩
theorem dX5_tone_0 : decode cX5_tone 0 = .ok (.aload_n 0, 1) := by decide +kernel
theorem dX5_tone_1 : decode cX5_tone 1 = .ok (.iload_n 1, 1) := by decide +kernel
theorem dX5_tone_2 : decode cX5_tone 2 = .ok (.aload_n 0, 1) := by decide +kernel
theorem dX5_tone_3 : decode cX5_tone 3 = .ok (.iload_n 1, 1) := by decide +kernel
theorem dX5_tone_4 : decode cX5_tone 4 = .ok (.invokevirtual 65, 3) := by decide +kernel
theorem dX5_tone_7 : decode cX5_tone 7 = .ok (.invokevirtual 68, 3) := by decide +kernel
theorem dX5_tone_10 : decode cX5_tone 10 = .ok (.ireturn, 1) := by decide +kernel
def q_X5_tone (S : zM) (z : Int) : Int32 → zM → Prop := fun r S1 => r = zI (tTo (S 9 1) z) ∧ ∃ M', zMo S (S 9 0) (S 9 1) (S 9 2) (S 9 3) (S 9 4) M' (S 9 6) = S1
def r_X5_tone : Room := { frames := 3, cells := 0, slots := 0, locals := 69 }
set_option maxHeartbeats 4000000 in
set_option maxRecDepth 100000 in
theorem c_X5_tone (l : Launch) (G : zG) (hG : zok G) (S : zM) (z : Int) (hz : 0 ≤ z ∧ z < 8) (hw : zW (S 9 1)) : Met l yX5_tone (Cond.code yX5_tone cX5_tone 2 (some FieldType.int) :: zTbl) r_X5_tone (va_Pc [.ref (za G 9 0), .int (zI z)] (zB G S)) (va_Qi (q_X5_tone S z) (zB G) (zA G)) 0 0 (zA G) := by
  refine zMet [(0, .ref (za G 9 0)), (1, .int (zI z))] hG (by decide) (Nat.le_of_ble_eq_true rfl) rfl (fun p e s m args below meth c ls h hx hb hr hH hl => ?_)
  rw [← zM_id S] at hH
  refine lv_aload_n hx hb dX5_tone_0 rfl (lv_at hl 0 rfl) ?_
  refine lv_iload_n hx hb dX5_tone_1 rfl (lv_at hl 1 rfl) ?_
  refine lv_aload_n hx hb dX5_tone_2 rfl (lv_at hl 0 rfl) ?_
  refine lv_iload_n hx hb dX5_tone_3 rfl (lv_at hl 1 rfl) ?_
  refine zcVi h hH (zr_5 h hH) (As := [.int (zI z)]) (rest := [.int (zI z), .ref (za G 9 0)]) (c_X5_timeOf l G hG (zMo S (S 9 0) (S 9 1) (S 9 2) (S 9 3) (S 9 4) (S 9 5) (S 9 6)) z (by omega) (zM_hw hw)) zce_X5_timeOf zcv_X5_timeOf zm_X5_65 hl.1 rfl rfl ⟨rfl, rfl⟩ ⟨Nat.le_of_ble_eq_true rfl, Nat.le_of_ble_eq_true rfl⟩ (Nat.le_of_ble_eq_true rfl) ⟨Nat.zero_le _, Nat.zero_le _⟩ dX5_tone_4 (fun r_4 S_4 H locs hq hH => ?_)
  obtain ⟨rfl, M_4, rfl⟩ := hq
  simp only [zM_M, zM_0, zM_1, zM_2, zM_3, zM_4, zM_5, zM_6] at hH
  rw [zM_1]
  have b_7 := tTm_in hw hz
  refine zcVi h hH (zr_5 h hH) (As := [.int (zI z), .int (zI (tTm (S 9 1) z))]) (rest := []) (c_X5_toneBy l G hG (zMo S (S 9 0) (S 9 1) (S 9 2) (S 9 3) (S 9 4) M_4 (S 9 6)) z (tTm (S 9 1) z) (by omega) (by omega) (zM_hw hw)) zce_X5_toneBy zcv_X5_toneBy zm_X5_68 hl.1 rfl rfl ⟨rfl, rfl⟩ ⟨Nat.le_of_ble_eq_true rfl, Nat.le_of_ble_eq_true rfl⟩ (Nat.le_of_ble_eq_true rfl) ⟨Nat.zero_le _, Nat.zero_le _⟩ dX5_tone_7 (fun r_7 S_7 H locs hq hH => ?_)
  obtain ⟨rfl, M_7, rfl⟩ := hq
  simp only [zM_M, zM_0, zM_1, zM_2, zM_3, zM_4, zM_5, zM_6] at hH
  rw [zM_1]
  refine zri h hr hH ?_ dX5_tone_10
  exact ⟨rfl, _, rfl⟩
theorem dX5_isRight_0 : decode cX5_isRight 0 = .ok (.aload_n 0, 1) := by decide +kernel
theorem dX5_isRight_1 : decode cX5_isRight 1 = .ok (.iload_n 1, 1) := by decide +kernel
theorem dX5_isRight_2 : decode cX5_isRight 2 = .ok (.invokevirtual 71, 3) := by decide +kernel
theorem dX5_isRight_5 : decode cX5_isRight 5 = .ok (.aload_n 0, 1) := by decide +kernel
theorem dX5_isRight_6 : decode cX5_isRight 6 = .ok (.getfield 7, 3) := by decide +kernel
theorem dX5_isRight_9 : decode cX5_isRight 9 = .ok (.iload_n 1, 1) := by decide +kernel
theorem dX5_isRight_10 : decode cX5_isRight 10 = .ok (.iconst 1, 1) := by decide +kernel
theorem dX5_isRight_11 : decode cX5_isRight 11 = .ok (.invokestatic 51, 3) := by decide +kernel
theorem dX5_isRight_14 : decode cX5_isRight 14 = .ok (.iaload, 1) := by decide +kernel
theorem dX5_isRight_15 : decode cX5_isRight 15 = .ok (.if_icmp .ne 7, 3) := by decide +kernel
theorem dX5_isRight_18 : decode cX5_isRight 18 = .ok (.iconst 1, 1) := by decide +kernel
theorem dX5_isRight_19 : decode cX5_isRight 19 = .ok (.goto 4, 3) := by decide +kernel
theorem dX5_isRight_22 : decode cX5_isRight 22 = .ok (.iconst 0, 1) := by decide +kernel
theorem dX5_isRight_23 : decode cX5_isRight 23 = .ok (.ireturn, 1) := by decide +kernel
def q_X5_isRight (S : zM) (z : Int) : Int32 → zM → Prop := fun r S1 => ∃ bb : Int, r = zI bb ∧ (bb = 1 ∧ (tOff (S 9 1) z = 0) ∨ bb = 0 ∧ ¬ (tOff (S 9 1) z = 0)) ∧ ∃ M', zMo S (S 9 0) (S 9 1) (S 9 2) (S 9 3) (S 9 4) M' (S 9 6) = S1
def r_X5_isRight : Room := { frames := 4, cells := 0, slots := 0, locals := 90 }
set_option maxHeartbeats 4000000 in
set_option maxRecDepth 100000 in
theorem c_X5_isRight (l : Launch) (G : zG) (hG : zok G) (S : zM) (z : Int) (hz : 0 ≤ z ∧ z < 8) (hw : zW (S 9 1)) : Met l yX5_isRight (Cond.code yX5_isRight cX5_isRight 2 (some FieldType.boolean) :: zTbl) r_X5_isRight (va_Pc [.ref (za G 9 0), .int (zI z)] (zB G S)) (va_Qi (q_X5_isRight S z) (zB G) (zA G)) 0 0 (zA G) := by
  refine zMet [(0, .ref (za G 9 0)), (1, .int (zI z))] hG (by decide) (Nat.le_of_ble_eq_true rfl) rfl (fun p e s m args below meth c ls h hx hb hr hH hl => ?_)
  rw [← zM_id S] at hH
  refine lv_aload_n hx hb dX5_isRight_0 rfl (lv_at hl 0 rfl) ?_
  refine lv_iload_n hx hb dX5_isRight_1 rfl (lv_at hl 1 rfl) ?_
  refine zcVi h hH (zr_5 h hH) (As := [.int (zI z)]) (rest := []) (c_X5_tone l G hG (zMo S (S 9 0) (S 9 1) (S 9 2) (S 9 3) (S 9 4) (S 9 5) (S 9 6)) z (by omega) (zM_hw hw)) zce_X5_tone zcv_X5_tone zm_X5_71 hl.1 rfl rfl ⟨rfl, rfl⟩ ⟨Nat.le_of_ble_eq_true rfl, Nat.le_of_ble_eq_true rfl⟩ (Nat.le_of_ble_eq_true rfl) ⟨Nat.zero_le _, Nat.zero_le _⟩ dX5_isRight_2 (fun r_2 S_2 H locs hq hH => ?_)
  obtain ⟨rfl, M_2, rfl⟩ := hq
  simp only [zM_M, zM_0, zM_1, zM_2, zM_3, zM_4, zM_5, zM_6] at hH
  rw [zM_1]
  have b_2 := tTo_in (S 9 1) z
  have e_2 : tOff (S 9 1) z = tTo (S 9 1) z - S 9 1 (5 + 5 * z + 1) := rfl
  refine lv_aload_n hx hb dX5_isRight_5 rfl (lv_at hl 0 rfl) ?_
  refine zg_5_1 h hH zf_X5_7 dX5_isRight_6 ?_
  refine lv_iload_n hx hb dX5_isRight_9 rfl (lv_at hl 1 rfl) ?_
  refine zb_ic h dX5_isRight_10 ?_
  refine zcSi h hH (As := [.int (zI z), .int (zI 1)]) (rest := [.ref (za G 9 1), .int (zI (tTo (S 9 1) z))]) (c_X5_of l G hG (zMo S (S 9 0) (S 9 1) (S 9 2) (S 9 3) (S 9 4) M_2 (S 9 6)) z 1) zce_X5_of zt_X5_of zm_X5_51 hl.1 rfl rfl ⟨rfl, rfl⟩ ⟨Nat.le_of_ble_eq_true rfl, Nat.le_of_ble_eq_true rfl⟩ (Nat.le_of_ble_eq_true rfl) ⟨Nat.zero_le _, Nat.zero_le _⟩ dX5_isRight_11 (fun r_11 S_11 H locs hq hH => ?_)
  obtain ⟨rfl, rfl⟩ := hq
  refine zld_ar_s h hH (by omega) dX5_isRight_14 ?_
  rw [zM_1]
  have f_14 := zW_wa hw (show 0 ≤ z ∧ z < 8 by omega)
  refine zb_cne (tgt := 22) h (by omega) (by omega) dX5_isRight_15 (by decide) (fun c_15 => ?_) (fun c_15 => ?_)
  · refine zb_ic h dX5_isRight_22 ?_
    refine zrz h hr hH (by omega) ?_ dX5_isRight_23
    exact ⟨_, rfl, by omega, _, rfl⟩
  · refine zb_ic h dX5_isRight_18 ?_
    refine lv_goto (tgt := 23) hx hb dX5_isRight_19 (by decide) ?_
    refine zrz h hr hH (by omega) ?_ dX5_isRight_23
    exact ⟨_, rfl, by omega, _, rfl⟩
theorem dX5_right_0 : decode cX5_right 0 = .ok (.iconst 0, 1) := by decide +kernel
theorem dX5_right_1 : decode cX5_right 1 = .ok (.istore_n 1, 1) := by decide +kernel
theorem dX5_right_2 : decode cX5_right 2 = .ok (.iconst 0, 1) := by decide +kernel
theorem dX5_right_3 : decode cX5_right 3 = .ok (.istore_n 2, 1) := by decide +kernel
theorem dX5_right_4 : decode cX5_right 4 = .ok (.iload_n 2, 1) := by decide +kernel
theorem dX5_right_5 : decode cX5_right 5 = .ok (.aload_n 0, 1) := by decide +kernel
theorem dX5_right_6 : decode cX5_right 6 = .ok (.getfield 7, 3) := by decide +kernel
theorem dX5_right_9 : decode cX5_right 9 = .ok (.iconst 4, 1) := by decide +kernel
theorem dX5_right_10 : decode cX5_right 10 = .ok (.iaload, 1) := by decide +kernel
theorem dX5_right_11 : decode cX5_right 11 = .ok (.if_icmp .ge 25, 3) := by decide +kernel
theorem dX5_right_14 : decode cX5_right 14 = .ok (.iload_n 1, 1) := by decide +kernel
theorem dX5_right_15 : decode cX5_right 15 = .ok (.aload_n 0, 1) := by decide +kernel
theorem dX5_right_16 : decode cX5_right 16 = .ok (.iload_n 2, 1) := by decide +kernel
theorem dX5_right_17 : decode cX5_right 17 = .ok (.invokevirtual 74, 3) := by decide +kernel
theorem dX5_right_20 : decode cX5_right 20 = .ok (.ifCond .eq 7, 3) := by decide +kernel
theorem dX5_right_23 : decode cX5_right 23 = .ok (.iconst 1, 1) := by decide +kernel
theorem dX5_right_24 : decode cX5_right 24 = .ok (.goto 4, 3) := by decide +kernel
theorem dX5_right_27 : decode cX5_right 27 = .ok (.iconst 0, 1) := by decide +kernel
theorem dX5_right_28 : decode cX5_right 28 = .ok (.iadd, 1) := by decide +kernel
theorem dX5_right_29 : decode cX5_right 29 = .ok (.istore_n 1, 1) := by decide +kernel
theorem dX5_right_30 : decode cX5_right 30 = .ok (.iinc 2 1, 3) := by decide +kernel
theorem dX5_right_33 : decode cX5_right 33 = .ok (.goto (-29), 3) := by decide +kernel
theorem dX5_right_36 : decode cX5_right 36 = .ok (.iload_n 1, 1) := by decide +kernel
theorem dX5_right_37 : decode cX5_right 37 = .ok (.ireturn, 1) := by decide +kernel
def q_X5_right (S : zM) : Int32 → zM → Prop := fun r S1 => r = zI (tCnt (S 9 1) 0) ∧ ∃ M', zMo S (S 9 0) (S 9 1) (S 9 2) (S 9 3) (S 9 4) M' (S 9 6) = S1
def r_X5_right : Room := { frames := 5, cells := 0, slots := 0, locals := 111 }
set_option maxHeartbeats 4000000 in
set_option maxRecDepth 100000 in
theorem c_X5_right (l : Launch) (G : zG) (hG : zok G) (S : zM) (hw : zW (S 9 1)) : Met l yX5_right (Cond.code yX5_right cX5_right 3 (some FieldType.int) :: zTbl) r_X5_right (va_Pc [.ref (za G 9 0)] (zB G S)) (va_Qi (q_X5_right S) (zB G) (zA G)) 0 0 (zA G) := by
  refine zMet [(0, .ref (za G 9 0))] hG (by decide) (Nat.le_of_ble_eq_true rfl) rfl (fun p e s m args below meth c ls h hx hb hr hH hl => ?_)
  rw [← zM_id S] at hH
  have C4 : ∀ (fu : Nat) (o n : Int) (M : Int → Int) (H : Heap) (locs : List Loc) (ls : Array Slot), (S 9 1 4 - o).toNat < fu → (0 ≤ o ∧ o ≤ S 9 1 4) → (n = zsum (fun z => if zsg (tOff (S 9 1) z) = 0 then 1 else 0) o.toNat) → zH G (zMo S (S 9 0) (S 9 1) (S 9 2) (S 9 3) (S 9 4) M (S 9 6)) s H locs → lv_has ls 3 [(0, .ref (za G 9 0)), (1, .int (zI n)), (2, .int (zI o))] → W p l e r_X5_right s m args below meth c H locs 0 0 (MQ below (va_Qi (q_X5_right S) (zB G) (zA G)) args s 0 0 (zA G)) (F0 m 4 ls []) := by
    intro fu
    induction fu with
    | zero => intro o n M H locs ls hfu; omega
    | succ fu ih4 =>
      intro o n M H locs ls hfu ho hn hH hl
      refine lv_iload_n hx hb dX5_right_4 rfl (lv_at hl 2 rfl) ?_
      refine lv_aload_n hx hb dX5_right_5 rfl (lv_at hl 0 rfl) ?_
      refine zg_5_1 h hH zf_X5_7 dX5_right_6 ?_
      refine zb_ic h dX5_right_9 ?_
      refine zld_ar_s h hH (by omega) dX5_right_10 ?_
      rw [zM_1]
      have f_10 := zW_4 hw
      refine zb_cge (tgt := 36) h (by omega) (by omega) dX5_right_11 (by decide) (fun c_11 => ?_) (fun c_11 => ?_)
      · refine lv_iload_n hx hb dX5_right_36 rfl (lv_at hl 1 rfl) ?_
        refine zri h hr hH ?_ dX5_right_37
        obtain rfl : o = S 9 1 4 := by omega
        exact ⟨by rw [hn]; rfl, _, rfl⟩
      · refine lv_iload_n hx hb dX5_right_14 rfl (lv_at hl 1 rfl) ?_
        refine lv_aload_n hx hb dX5_right_15 rfl (lv_at hl 0 rfl) ?_
        refine lv_iload_n hx hb dX5_right_16 rfl (lv_at hl 2 rfl) ?_
        refine zcVi h hH (zr_5 h hH) (As := [.int (zI o)]) (rest := [.int (zI n)]) (c_X5_isRight l G hG (zMo S (S 9 0) (S 9 1) (S 9 2) (S 9 3) (S 9 4) M (S 9 6)) o (by omega) (zM_hw hw)) zce_X5_isRight zcv_X5_isRight zm_X5_74 hl.1 rfl rfl ⟨rfl, rfl⟩ ⟨Nat.le_of_ble_eq_true rfl, Nat.le_of_ble_eq_true rfl⟩ (Nat.le_of_ble_eq_true rfl) ⟨Nat.zero_le _, Nat.zero_le _⟩ dX5_right_17 (fun r_17 S_17 H locs hq hH => ?_)
        obtain ⟨b_17, rfl, hb_17, M_17, rfl⟩ := hq
        (try rw [zM_1] at hb_17)
        simp only [zM_M, zM_0, zM_1, zM_2, zM_3, zM_4, zM_5, zM_6] at hH
        refine zb_ieq (tgt := 27) h (by omega) dX5_right_20 (by decide) (fun c_20 => ?_) (fun c_20 => ?_)
        · refine zb_ic h dX5_right_27 ?_
          refine zb_iadd h dX5_right_28 ?_
          refine lv_istore_n (lv' := [(1, .int (zI (n + 0))), (0, .ref (za G 9 0)), (2, .int (zI o))]) hx hb dX5_right_29 rfl hl (by decide) rfl (fun ls hl => ?_)
          refine lv_iinc (v := zI (o + 1)) (lv' := [(2, .int (zI (o + 1))), (1, .int (zI (n + 0))), (0, .ref (za G 9 0))]) hx hb dX5_right_30 hl (k := 2) rfl (zI_add _ _) (by decide) rfl (fun ls hl => ?_)
          refine lv_goto (tgt := 4) hx hb dX5_right_33 (by decide) ?_
          exact ih4 (o + 1) (n + 0) M_17 _ _ _ (by omega) (by have := zW_4 hw; omega) (by rw [zsum_s _ ho.1, hn]; first | rw [if_pos ((zsg_0 _).mpr (by omega))] | rw [if_neg (fun q => by have := (zsg_0 _).mp q; omega)]) hH (lv_sub hl [2, 1, 0] rfl)
        · refine zb_ic h dX5_right_23 ?_
          refine lv_goto (tgt := 28) hx hb dX5_right_24 (by decide) ?_
          refine zb_iadd h dX5_right_28 ?_
          refine lv_istore_n (lv' := [(1, .int (zI (n + 1))), (0, .ref (za G 9 0)), (2, .int (zI o))]) hx hb dX5_right_29 rfl hl (by decide) rfl (fun ls hl => ?_)
          refine lv_iinc (v := zI (o + 1)) (lv' := [(2, .int (zI (o + 1))), (1, .int (zI (n + 1))), (0, .ref (za G 9 0))]) hx hb dX5_right_30 hl (k := 2) rfl (zI_add _ _) (by decide) rfl (fun ls hl => ?_)
          refine lv_goto (tgt := 4) hx hb dX5_right_33 (by decide) ?_
          exact ih4 (o + 1) (n + 1) M_17 _ _ _ (by omega) (by have := zW_4 hw; omega) (by rw [zsum_s _ ho.1, hn]; first | rw [if_pos ((zsg_0 _).mpr (by omega))] | rw [if_neg (fun q => by have := (zsg_0 _).mp q; omega)]) hH (lv_sub hl [2, 1, 0] rfl)
  refine zb_ic h dX5_right_0 ?_
  refine lv_istore_n (lv' := [(1, .int (zI 0)), (0, .ref (za G 9 0))]) hx hb dX5_right_1 rfl hl (by decide) rfl (fun ls hl => ?_)
  refine zb_ic h dX5_right_2 ?_
  refine lv_istore_n (lv' := [(2, .int (zI 0)), (1, .int (zI 0)), (0, .ref (za G 9 0))]) hx hb dX5_right_3 rfl hl (by decide) rfl (fun ls hl => ?_)
  exact C4 ((S 9 1 4 - 0 : Int).toNat + 1) 0 0 (S 9 5) _ _ _ (by omega) (by have := zW_4 hw; omega) rfl hH (lv_sub hl [2, 1, 0] rfl)
theorem dX5_leastFor_0 : decode cX5_leastFor 0 = .ok (.iconst 1, 1) := by decide +kernel
theorem dX5_leastFor_1 : decode cX5_leastFor 1 = .ok (.istore_n 3, 1) := by decide +kernel
theorem dX5_leastFor_2 : decode cX5_leastFor 2 = .ok (.sipush 10000, 3) := by decide +kernel
theorem dX5_leastFor_5 : decode cX5_leastFor 5 = .ok (.istore 4, 2) := by decide +kernel
theorem dX5_leastFor_7 : decode cX5_leastFor 7 = .ok (.iload_n 3, 1) := by decide +kernel
theorem dX5_leastFor_8 : decode cX5_leastFor 8 = .ok (.iload 4, 2) := by decide +kernel
theorem dX5_leastFor_10 : decode cX5_leastFor 10 = .ok (.if_icmp .ge 37, 3) := by decide +kernel
theorem dX5_leastFor_13 : decode cX5_leastFor 13 = .ok (.iload_n 3, 1) := by decide +kernel
theorem dX5_leastFor_14 : decode cX5_leastFor 14 = .ok (.iload 4, 2) := by decide +kernel
theorem dX5_leastFor_16 : decode cX5_leastFor 16 = .ok (.iadd, 1) := by decide +kernel
theorem dX5_leastFor_17 : decode cX5_leastFor 17 = .ok (.iconst 2, 1) := by decide +kernel
theorem dX5_leastFor_18 : decode cX5_leastFor 18 = .ok (.idiv, 1) := by decide +kernel
theorem dX5_leastFor_19 : decode cX5_leastFor 19 = .ok (.istore 5, 2) := by decide +kernel
theorem dX5_leastFor_21 : decode cX5_leastFor 21 = .ok (.aload_n 0, 1) := by decide +kernel
theorem dX5_leastFor_22 : decode cX5_leastFor 22 = .ok (.iload_n 1, 1) := by decide +kernel
theorem dX5_leastFor_23 : decode cX5_leastFor 23 = .ok (.iload 5, 2) := by decide +kernel
theorem dX5_leastFor_25 : decode cX5_leastFor 25 = .ok (.invokevirtual 68, 3) := by decide +kernel
theorem dX5_leastFor_28 : decode cX5_leastFor 28 = .ok (.iload_n 2, 1) := by decide +kernel
theorem dX5_leastFor_29 : decode cX5_leastFor 29 = .ok (.if_icmp .lt 10, 3) := by decide +kernel
theorem dX5_leastFor_32 : decode cX5_leastFor 32 = .ok (.iload 5, 2) := by decide +kernel
theorem dX5_leastFor_34 : decode cX5_leastFor 34 = .ok (.istore 4, 2) := by decide +kernel
theorem dX5_leastFor_36 : decode cX5_leastFor 36 = .ok (.goto 8, 3) := by decide +kernel
theorem dX5_leastFor_39 : decode cX5_leastFor 39 = .ok (.iload 5, 2) := by decide +kernel
theorem dX5_leastFor_41 : decode cX5_leastFor 41 = .ok (.iconst 1, 1) := by decide +kernel
theorem dX5_leastFor_42 : decode cX5_leastFor 42 = .ok (.iadd, 1) := by decide +kernel
theorem dX5_leastFor_43 : decode cX5_leastFor 43 = .ok (.istore_n 3, 1) := by decide +kernel
theorem dX5_leastFor_44 : decode cX5_leastFor 44 = .ok (.goto (-37), 3) := by decide +kernel
theorem dX5_leastFor_47 : decode cX5_leastFor 47 = .ok (.iload_n 3, 1) := by decide +kernel
theorem dX5_leastFor_48 : decode cX5_leastFor 48 = .ok (.ireturn, 1) := by decide +kernel
def q_X5_leastFor (S : zM) (z w : Int) : Int32 → zM → Prop := fun r S1 => r = zI (tLe (S 9 1) (S 9 1 (5 + 5 * z)) w) ∧ ∃ M', zMo S (S 9 0) (S 9 1) (S 9 2) (S 9 3) (S 9 4) M' (S 9 6) = S1
def r_X5_leastFor : Room := { frames := 3, cells := 0, slots := 0, locals := 69 }
set_option maxHeartbeats 4000000 in
set_option maxRecDepth 100000 in
theorem c_X5_leastFor (l : Launch) (G : zG) (hG : zok G) (S : zM) (z w : Int) (hz : 0 ≤ z ∧ z < 8) (hwn : 0 ≤ w ∧ w ≤ 11) (hw : zW (S 9 1)) : Met l yX5_leastFor (Cond.code yX5_leastFor cX5_leastFor 6 (some FieldType.int) :: zTbl) r_X5_leastFor (va_Pc [.ref (za G 9 0), .int (zI z), .int (zI w)] (zB G S)) (va_Qi (q_X5_leastFor S z w) (zB G) (zA G)) 0 0 (zA G) := by
  refine zMet [(0, .ref (za G 9 0)), (1, .int (zI z)), (2, .int (zI w))] hG (by decide) (Nat.le_of_ble_eq_true rfl) rfl (fun p e s m args below meth c ls h hx hb hr hH hl => ?_)
  rw [← zM_id S] at hH
  have C7 : ∀ (fu : Nat) (a b : Int) (M : Int → Int) (H : Heap) (locs : List Loc) (ls : Array Slot), (b - a).toNat < fu → (1 ≤ a ∧ a ≤ tLe (S 9 1) (S 9 1 (5 + 5 * z)) w ∧ tLe (S 9 1) (S 9 1 (5 + 5 * z)) w ≤ b ∧ b ≤ 10000) → zH G (zMo S (S 9 0) (S 9 1) (S 9 2) (S 9 3) (S 9 4) M (S 9 6)) s H locs → lv_has ls 6 [(0, .ref (za G 9 0)), (1, .int (zI z)), (2, .int (zI w)), (3, .int (zI a)), (4, .int (zI b))] → W p l e r_X5_leastFor s m args below meth c H locs 0 0 (MQ below (va_Qi (q_X5_leastFor S z w) (zB G) (zA G)) args s 0 0 (zA G)) (F0 m 7 ls []) := by
    intro fu
    induction fu with
    | zero => intro a b M H locs ls hfu; omega
    | succ fu ih7 =>
      intro a b M H locs ls hfu hab hH hl
      refine lv_iload_n hx hb dX5_leastFor_7 rfl (lv_at hl 3 rfl) ?_
      refine lv_iload hx hb dX5_leastFor_8 (lv_at hl 4 rfl) ?_
      refine zb_cge (tgt := 47) h (by omega) (by omega) dX5_leastFor_10 (by decide) (fun c_10 => ?_) (fun c_10 => ?_)
      · refine lv_iload_n hx hb dX5_leastFor_47 rfl (lv_at hl 3 rfl) ?_
        refine zri h hr hH ?_ dX5_leastFor_48
        exact ⟨congrArg zI (by omega), _, rfl⟩
      · refine lv_iload_n hx hb dX5_leastFor_13 rfl (lv_at hl 3 rfl) ?_
        refine lv_iload hx hb dX5_leastFor_14 (lv_at hl 4 rfl) ?_
        refine zb_iadd h dX5_leastFor_16 ?_
        refine zb_ic h dX5_leastFor_17 ?_
        refine zb_idiv h (by omega) (by omega) dX5_leastFor_18 ?_
        refine lv_istore (lv' := [(5, .int (zI ((a + b) / 2))), (0, .ref (za G 9 0)), (1, .int (zI z)), (2, .int (zI w)), (3, .int (zI a)), (4, .int (zI b))]) hx hb dX5_leastFor_19 hl (by decide) rfl (fun ls hl => ?_)
        refine lv_aload_n hx hb dX5_leastFor_21 rfl (lv_at hl 1 rfl) ?_
        refine lv_iload_n hx hb dX5_leastFor_22 rfl (lv_at hl 2 rfl) ?_
        refine lv_iload hx hb dX5_leastFor_23 (lv_at hl 0 rfl) ?_
        refine zcVi h hH (zr_5 h hH) (As := [.int (zI z), .int (zI ((a + b) / 2))]) (rest := []) (c_X5_toneBy l G hG (zMo S (S 9 0) (S 9 1) (S 9 2) (S 9 3) (S 9 4) M (S 9 6)) z ((a + b) / 2) (by omega) (by omega) (zM_hw hw)) zce_X5_toneBy zcv_X5_toneBy zm_X5_68 hl.1 rfl rfl ⟨rfl, rfl⟩ ⟨Nat.le_of_ble_eq_true rfl, Nat.le_of_ble_eq_true rfl⟩ (Nat.le_of_ble_eq_true rfl) ⟨Nat.zero_le _, Nat.zero_le _⟩ dX5_leastFor_25 (fun r_25 S_25 H locs hq hH => ?_)
        obtain ⟨rfl, M_25, rfl⟩ := hq
        simp only [zM_M, zM_0, zM_1, zM_2, zM_3, zM_4, zM_5, zM_6] at hH
        rw [zM_1]
        have b_25 := tAt_in (S 9 1) z ((a + b) / 2)
        have i_25 := tLe_iff hw z (tone := w) (t := (a + b) / 2) (by omega)
        refine lv_iload_n hx hb dX5_leastFor_28 rfl (lv_at hl 3 rfl) ?_
        refine zb_clt (tgt := 39) h (by omega) (by omega) dX5_leastFor_29 (by decide) (fun c_29 => ?_) (fun c_29 => ?_)
        · refine lv_iload hx hb dX5_leastFor_39 (lv_at hl 0 rfl) ?_
          refine zb_ic h dX5_leastFor_41 ?_
          refine zb_iadd h dX5_leastFor_42 ?_
          refine lv_istore_n (lv' := [(3, .int (zI (((a + b) / 2) + 1))), (5, .int (zI ((a + b) / 2))), (0, .ref (za G 9 0)), (1, .int (zI z)), (2, .int (zI w)), (4, .int (zI b))]) hx hb dX5_leastFor_43 rfl hl (by decide) rfl (fun ls hl => ?_)
          refine lv_goto (tgt := 7) hx hb dX5_leastFor_44 (by decide) ?_
          exact ih7 (((a + b) / 2) + 1) b M_25 _ _ _ (by omega) (by first | (have q := i_25.mp (by omega); omega) | (have q := fun q => i_25.mpr q; omega)) hH (lv_sub hl [2, 3, 4, 0, 5] rfl)
        · refine lv_iload hx hb dX5_leastFor_32 (lv_at hl 0 rfl) ?_
          refine lv_istore (lv' := [(4, .int (zI ((a + b) / 2))), (5, .int (zI ((a + b) / 2))), (0, .ref (za G 9 0)), (1, .int (zI z)), (2, .int (zI w)), (3, .int (zI a))]) hx hb dX5_leastFor_34 hl (by decide) rfl (fun ls hl => ?_)
          refine lv_goto (tgt := 44) hx hb dX5_leastFor_36 (by decide) ?_
          refine lv_goto (tgt := 7) hx hb dX5_leastFor_44 (by decide) ?_
          exact ih7 a ((a + b) / 2) M_25 _ _ _ (by omega) (by first | (have q := i_25.mp (by omega); omega) | (have q := fun q => i_25.mpr q; omega)) hH (lv_sub hl [2, 3, 4, 5, 0] rfl)
  refine zb_ic h dX5_leastFor_0 ?_
  refine lv_istore_n (lv' := [(3, .int (zI 1)), (0, .ref (za G 9 0)), (1, .int (zI z)), (2, .int (zI w))]) hx hb dX5_leastFor_1 rfl hl (by decide) rfl (fun ls hl => ?_)
  refine zb_si h dX5_leastFor_2 (by decide) (by decide) ?_
  refine lv_istore (lv' := [(4, .int (zI 10000)), (3, .int (zI 1)), (0, .ref (za G 9 0)), (1, .int (zI z)), (2, .int (zI w))]) hx hb dX5_leastFor_5 hl (by decide) rfl (fun ls hl => ?_)
  exact C7 ((10000 - 1 : Int).toNat + 1) 1 10000 (S 9 5) _ _ _ (by omega) (by have := tLe_in hw (S 9 1 (5 + 5 * z)) w; omega) hH (lv_sub hl [2, 3, 4, 1, 0] rfl)
theorem dX5_leastNeeded_0 : decode cX5_leastNeeded 0 = .ok (.aload_n 0, 1) := by decide +kernel
theorem dX5_leastNeeded_1 : decode cX5_leastNeeded 1 = .ok (.iload_n 1, 1) := by decide +kernel
theorem dX5_leastNeeded_2 : decode cX5_leastNeeded 2 = .ok (.aload_n 0, 1) := by decide +kernel
theorem dX5_leastNeeded_3 : decode cX5_leastNeeded 3 = .ok (.getfield 7, 3) := by decide +kernel
theorem dX5_leastNeeded_6 : decode cX5_leastNeeded 6 = .ok (.iload_n 1, 1) := by decide +kernel
theorem dX5_leastNeeded_7 : decode cX5_leastNeeded 7 = .ok (.iconst 1, 1) := by decide +kernel
theorem dX5_leastNeeded_8 : decode cX5_leastNeeded 8 = .ok (.invokestatic 51, 3) := by decide +kernel
theorem dX5_leastNeeded_11 : decode cX5_leastNeeded 11 = .ok (.iaload, 1) := by decide +kernel
theorem dX5_leastNeeded_12 : decode cX5_leastNeeded 12 = .ok (.invokevirtual 78, 3) := by decide +kernel
theorem dX5_leastNeeded_15 : decode cX5_leastNeeded 15 = .ok (.istore_n 2, 1) := by decide +kernel
theorem dX5_leastNeeded_16 : decode cX5_leastNeeded 16 = .ok (.iload_n 2, 1) := by decide +kernel
theorem dX5_leastNeeded_17 : decode cX5_leastNeeded 17 = .ok (.sipush 9999, 3) := by decide +kernel
theorem dX5_leastNeeded_20 : decode cX5_leastNeeded 20 = .ok (.if_icmp .gt 26, 3) := by decide +kernel
theorem dX5_leastNeeded_23 : decode cX5_leastNeeded 23 = .ok (.aload_n 0, 1) := by decide +kernel
theorem dX5_leastNeeded_24 : decode cX5_leastNeeded 24 = .ok (.iload_n 1, 1) := by decide +kernel
theorem dX5_leastNeeded_25 : decode cX5_leastNeeded 25 = .ok (.iload_n 2, 1) := by decide +kernel
theorem dX5_leastNeeded_26 : decode cX5_leastNeeded 26 = .ok (.invokevirtual 68, 3) := by decide +kernel
theorem dX5_leastNeeded_29 : decode cX5_leastNeeded 29 = .ok (.aload_n 0, 1) := by decide +kernel
theorem dX5_leastNeeded_30 : decode cX5_leastNeeded 30 = .ok (.getfield 7, 3) := by decide +kernel
theorem dX5_leastNeeded_33 : decode cX5_leastNeeded 33 = .ok (.iload_n 1, 1) := by decide +kernel
theorem dX5_leastNeeded_34 : decode cX5_leastNeeded 34 = .ok (.iconst 1, 1) := by decide +kernel
theorem dX5_leastNeeded_35 : decode cX5_leastNeeded 35 = .ok (.invokestatic 51, 3) := by decide +kernel
theorem dX5_leastNeeded_38 : decode cX5_leastNeeded 38 = .ok (.iaload, 1) := by decide +kernel
theorem dX5_leastNeeded_39 : decode cX5_leastNeeded 39 = .ok (.if_icmp .ne 7, 3) := by decide +kernel
theorem dX5_leastNeeded_42 : decode cX5_leastNeeded 42 = .ok (.iload_n 2, 1) := by decide +kernel
theorem dX5_leastNeeded_43 : decode cX5_leastNeeded 43 = .ok (.goto 4, 3) := by decide +kernel
theorem dX5_leastNeeded_46 : decode cX5_leastNeeded 46 = .ok (.iconst (-1), 1) := by decide +kernel
theorem dX5_leastNeeded_47 : decode cX5_leastNeeded 47 = .ok (.ireturn, 1) := by decide +kernel
def q_X5_leastNeeded (S : zM) (z : Int) : Int32 → zM → Prop := fun r S1 => r = zI (tLn (S 9 1) z) ∧ ∃ M', zMo S (S 9 0) (S 9 1) (S 9 2) (S 9 3) (S 9 4) M' (S 9 6) = S1
def r_X5_leastNeeded : Room := { frames := 4, cells := 0, slots := 0, locals := 94 }
set_option maxHeartbeats 4000000 in
set_option maxRecDepth 100000 in
theorem c_X5_leastNeeded (l : Launch) (G : zG) (hG : zok G) (S : zM) (z : Int) (hz : 0 ≤ z ∧ z < 8) (hw : zW (S 9 1)) : Met l yX5_leastNeeded (Cond.code yX5_leastNeeded cX5_leastNeeded 3 (some FieldType.int) :: zTbl) r_X5_leastNeeded (va_Pc [.ref (za G 9 0), .int (zI z)] (zB G S)) (va_Qi (q_X5_leastNeeded S z) (zB G) (zA G)) 0 0 (zA G) := by
  refine zMet [(0, .ref (za G 9 0)), (1, .int (zI z))] hG (by decide) (Nat.le_of_ble_eq_true rfl) rfl (fun p e s m args below meth c ls h hx hb hr hH hl => ?_)
  rw [← zM_id S] at hH
  refine lv_aload_n hx hb dX5_leastNeeded_0 rfl (lv_at hl 0 rfl) ?_
  refine lv_iload_n hx hb dX5_leastNeeded_1 rfl (lv_at hl 1 rfl) ?_
  refine lv_aload_n hx hb dX5_leastNeeded_2 rfl (lv_at hl 0 rfl) ?_
  refine zg_5_1 h hH zf_X5_7 dX5_leastNeeded_3 ?_
  refine lv_iload_n hx hb dX5_leastNeeded_6 rfl (lv_at hl 1 rfl) ?_
  refine zb_ic h dX5_leastNeeded_7 ?_
  refine zcSi h hH (As := [.int (zI z), .int (zI 1)]) (rest := [.ref (za G 9 1), .int (zI z), .ref (za G 9 0)]) (c_X5_of l G hG (zMo S (S 9 0) (S 9 1) (S 9 2) (S 9 3) (S 9 4) (S 9 5) (S 9 6)) z 1) zce_X5_of zt_X5_of zm_X5_51 hl.1 rfl rfl ⟨rfl, rfl⟩ ⟨Nat.le_of_ble_eq_true rfl, Nat.le_of_ble_eq_true rfl⟩ (Nat.le_of_ble_eq_true rfl) ⟨Nat.zero_le _, Nat.zero_le _⟩ dX5_leastNeeded_8 (fun r_8 S_8 H locs hq hH => ?_)
  obtain ⟨rfl, rfl⟩ := hq
  refine zld_ar_s h hH (by omega) dX5_leastNeeded_11 ?_
  rw [zM_1]
  have f_11 := zW_wa hw (show 0 ≤ z ∧ z < 8 by omega)
  refine zcVi h hH (zr_5 h hH) (As := [.int (zI z), .int (zI (S 9 1 (5 + 5 * z + 1)))]) (rest := []) (c_X5_leastFor l G hG (zMo S (S 9 0) (S 9 1) (S 9 2) (S 9 3) (S 9 4) (S 9 5) (S 9 6)) z (S 9 1 (5 + 5 * z + 1)) (by omega) (by omega) (zM_hw hw)) zce_X5_leastFor zcv_X5_leastFor zm_X5_78 hl.1 rfl rfl ⟨rfl, rfl⟩ ⟨Nat.le_of_ble_eq_true rfl, Nat.le_of_ble_eq_true rfl⟩ (Nat.le_of_ble_eq_true rfl) ⟨Nat.zero_le _, Nat.zero_le _⟩ dX5_leastNeeded_12 (fun r_12 S_12 H locs hq hH => ?_)
  obtain ⟨rfl, M_12, rfl⟩ := hq
  simp only [zM_M, zM_0, zM_1, zM_2, zM_3, zM_4, zM_5, zM_6] at hH
  rw [zM_1]
  refine lv_istore_n (lv' := [(2, .int (zI (tLe (S 9 1) (S 9 1 (5 + 5 * z)) (S 9 1 (5 + 5 * z + 1))))), (0, .ref (za G 9 0)), (1, .int (zI z))]) hx hb dX5_leastNeeded_15 rfl hl (by decide) rfl (fun ls hl => ?_)
  have b_1 := tLe_in hw (S 9 1 (5 + 5 * z)) (S 9 1 (5 + 5 * z + 1))
  have b_2 := tLe_in hw (S 9 1 (5 + 5 * z)) (S 9 1 (5 + 5 * z + 1) + 1)
  refine lv_iload_n hx hb dX5_leastNeeded_16 rfl (lv_at hl 0 rfl) ?_
  refine zb_si h dX5_leastNeeded_17 (by decide) (by decide) ?_
  refine zb_cgt (tgt := 46) h (by omega) (by omega) dX5_leastNeeded_20 (by decide) (fun c_20 => ?_) (fun c_20 => ?_)
  · refine zb_ic h dX5_leastNeeded_46 ?_
    refine zri h hr hH ?_ dX5_leastNeeded_47
    exact ⟨congrArg zI (by rw [tLn_of hw z]; first | rw [if_pos ⟨by omega, by omega⟩] | rw [if_neg (by omega)]), _, rfl⟩
  · refine lv_aload_n hx hb dX5_leastNeeded_23 rfl (lv_at hl 1 rfl) ?_
    refine lv_iload_n hx hb dX5_leastNeeded_24 rfl (lv_at hl 2 rfl) ?_
    refine lv_iload_n hx hb dX5_leastNeeded_25 rfl (lv_at hl 0 rfl) ?_
    refine zcVi h hH (zr_5 h hH) (As := [.int (zI z), .int (zI (tLe (S 9 1) (S 9 1 (5 + 5 * z)) (S 9 1 (5 + 5 * z + 1))))]) (rest := []) (c_X5_toneBy l G hG (zMo S (S 9 0) (S 9 1) (S 9 2) (S 9 3) (S 9 4) M_12 (S 9 6)) z (tLe (S 9 1) (S 9 1 (5 + 5 * z)) (S 9 1 (5 + 5 * z + 1))) (by omega) (by omega) (zM_hw hw)) zce_X5_toneBy zcv_X5_toneBy zm_X5_68 hl.1 rfl rfl ⟨rfl, rfl⟩ ⟨Nat.le_of_ble_eq_true rfl, Nat.le_of_ble_eq_true rfl⟩ (Nat.le_of_ble_eq_true rfl) ⟨Nat.zero_le _, Nat.zero_le _⟩ dX5_leastNeeded_26 (fun r_26 S_26 H locs hq hH => ?_)
    obtain ⟨rfl, M_26, rfl⟩ := hq
    simp only [zM_M, zM_0, zM_1, zM_2, zM_3, zM_4, zM_5, zM_6] at hH
    rw [zM_1]
    have b_26 := tAt_in (S 9 1) z (tLe (S 9 1) (S 9 1 (5 + 5 * z)) (S 9 1 (5 + 5 * z + 1)))
    refine lv_aload_n hx hb dX5_leastNeeded_29 rfl (lv_at hl 1 rfl) ?_
    refine zg_5_1 h hH zf_X5_7 dX5_leastNeeded_30 ?_
    refine lv_iload_n hx hb dX5_leastNeeded_33 rfl (lv_at hl 2 rfl) ?_
    refine zb_ic h dX5_leastNeeded_34 ?_
    refine zcSi h hH (As := [.int (zI z), .int (zI 1)]) (rest := [.ref (za G 9 1), .int (zI (tAt (S 9 1) z (tLe (S 9 1) (S 9 1 (5 + 5 * z)) (S 9 1 (5 + 5 * z + 1)))))]) (c_X5_of l G hG (zMo S (S 9 0) (S 9 1) (S 9 2) (S 9 3) (S 9 4) M_26 (S 9 6)) z 1) zce_X5_of zt_X5_of zm_X5_51 hl.1 rfl rfl ⟨rfl, rfl⟩ ⟨Nat.le_of_ble_eq_true rfl, Nat.le_of_ble_eq_true rfl⟩ (Nat.le_of_ble_eq_true rfl) ⟨Nat.zero_le _, Nat.zero_le _⟩ dX5_leastNeeded_35 (fun r_35 S_35 H locs hq hH => ?_)
    obtain ⟨rfl, rfl⟩ := hq
    refine zld_ar_s h hH (by omega) dX5_leastNeeded_38 ?_
    rw [zM_1]
    have f_38 := zW_wa hw (show 0 ≤ z ∧ z < 8 by omega)
    refine zb_cne (tgt := 46) h (by omega) (by omega) dX5_leastNeeded_39 (by decide) (fun c_39 => ?_) (fun c_39 => ?_)
    · refine zb_ic h dX5_leastNeeded_46 ?_
      refine zri h hr hH ?_ dX5_leastNeeded_47
      exact ⟨congrArg zI (by rw [tLn_of hw z]; first | rw [if_pos ⟨by omega, by omega⟩] | rw [if_neg (by omega)]), _, rfl⟩
    · refine lv_iload_n hx hb dX5_leastNeeded_42 rfl (lv_at hl 0 rfl) ?_
      refine lv_goto (tgt := 47) hx hb dX5_leastNeeded_43 (by decide) ?_
      refine zri h hr hH ?_ dX5_leastNeeded_47
      exact ⟨congrArg zI (by rw [tLn_of hw z]; first | rw [if_pos ⟨by omega, by omega⟩] | rw [if_neg (by omega)]), _, rfl⟩
theorem dX5_greatestNeeded_0 : decode cX5_greatestNeeded 0 = .ok (.aload_n 0, 1) := by decide +kernel
theorem dX5_greatestNeeded_1 : decode cX5_greatestNeeded 1 = .ok (.iload_n 1, 1) := by decide +kernel
theorem dX5_greatestNeeded_2 : decode cX5_greatestNeeded 2 = .ok (.invokevirtual 81, 3) := by decide +kernel
theorem dX5_greatestNeeded_5 : decode cX5_greatestNeeded 5 = .ok (.iconst (-1), 1) := by decide +kernel
theorem dX5_greatestNeeded_6 : decode cX5_greatestNeeded 6 = .ok (.if_icmp .ne 7, 3) := by decide +kernel
theorem dX5_greatestNeeded_9 : decode cX5_greatestNeeded 9 = .ok (.iconst (-1), 1) := by decide +kernel
theorem dX5_greatestNeeded_10 : decode cX5_greatestNeeded 10 = .ok (.goto 22, 3) := by decide +kernel
theorem dX5_greatestNeeded_13 : decode cX5_greatestNeeded 13 = .ok (.aload_n 0, 1) := by decide +kernel
theorem dX5_greatestNeeded_14 : decode cX5_greatestNeeded 14 = .ok (.iload_n 1, 1) := by decide +kernel
theorem dX5_greatestNeeded_15 : decode cX5_greatestNeeded 15 = .ok (.aload_n 0, 1) := by decide +kernel
theorem dX5_greatestNeeded_16 : decode cX5_greatestNeeded 16 = .ok (.getfield 7, 3) := by decide +kernel
theorem dX5_greatestNeeded_19 : decode cX5_greatestNeeded 19 = .ok (.iload_n 1, 1) := by decide +kernel
theorem dX5_greatestNeeded_20 : decode cX5_greatestNeeded 20 = .ok (.iconst 1, 1) := by decide +kernel
theorem dX5_greatestNeeded_21 : decode cX5_greatestNeeded 21 = .ok (.invokestatic 51, 3) := by decide +kernel
theorem dX5_greatestNeeded_24 : decode cX5_greatestNeeded 24 = .ok (.iaload, 1) := by decide +kernel
theorem dX5_greatestNeeded_25 : decode cX5_greatestNeeded 25 = .ok (.iconst 1, 1) := by decide +kernel
theorem dX5_greatestNeeded_26 : decode cX5_greatestNeeded 26 = .ok (.iadd, 1) := by decide +kernel
theorem dX5_greatestNeeded_27 : decode cX5_greatestNeeded 27 = .ok (.invokevirtual 78, 3) := by decide +kernel
theorem dX5_greatestNeeded_30 : decode cX5_greatestNeeded 30 = .ok (.iconst 1, 1) := by decide +kernel
theorem dX5_greatestNeeded_31 : decode cX5_greatestNeeded 31 = .ok (.isub, 1) := by decide +kernel
theorem dX5_greatestNeeded_32 : decode cX5_greatestNeeded 32 = .ok (.ireturn, 1) := by decide +kernel
def q_X5_greatestNeeded (S : zM) (z : Int) : Int32 → zM → Prop := fun r S1 => r = zI (tGn (S 9 1) z) ∧ ∃ M', zMo S (S 9 0) (S 9 1) (S 9 2) (S 9 3) (S 9 4) M' (S 9 6) = S1
def r_X5_greatestNeeded : Room := { frames := 5, cells := 0, slots := 0, locals := 116 }
set_option maxHeartbeats 4000000 in
set_option maxRecDepth 100000 in
theorem c_X5_greatestNeeded (l : Launch) (G : zG) (hG : zok G) (S : zM) (z : Int) (hz : 0 ≤ z ∧ z < 8) (hw : zW (S 9 1)) : Met l yX5_greatestNeeded (Cond.code yX5_greatestNeeded cX5_greatestNeeded 2 (some FieldType.int) :: zTbl) r_X5_greatestNeeded (va_Pc [.ref (za G 9 0), .int (zI z)] (zB G S)) (va_Qi (q_X5_greatestNeeded S z) (zB G) (zA G)) 0 0 (zA G) := by
  refine zMet [(0, .ref (za G 9 0)), (1, .int (zI z))] hG (by decide) (Nat.le_of_ble_eq_true rfl) rfl (fun p e s m args below meth c ls h hx hb hr hH hl => ?_)
  rw [← zM_id S] at hH
  refine lv_aload_n hx hb dX5_greatestNeeded_0 rfl (lv_at hl 0 rfl) ?_
  refine lv_iload_n hx hb dX5_greatestNeeded_1 rfl (lv_at hl 1 rfl) ?_
  refine zcVi h hH (zr_5 h hH) (As := [.int (zI z)]) (rest := []) (c_X5_leastNeeded l G hG (zMo S (S 9 0) (S 9 1) (S 9 2) (S 9 3) (S 9 4) (S 9 5) (S 9 6)) z (by omega) (zM_hw hw)) zce_X5_leastNeeded zcv_X5_leastNeeded zm_X5_81 hl.1 rfl rfl ⟨rfl, rfl⟩ ⟨Nat.le_of_ble_eq_true rfl, Nat.le_of_ble_eq_true rfl⟩ (Nat.le_of_ble_eq_true rfl) ⟨Nat.zero_le _, Nat.zero_le _⟩ dX5_greatestNeeded_2 (fun r_2 S_2 H locs hq hH => ?_)
  obtain ⟨rfl, M_2, rfl⟩ := hq
  simp only [zM_M, zM_0, zM_1, zM_2, zM_3, zM_4, zM_5, zM_6] at hH
  rw [zM_1]
  have b_2 := tLn_in hw z
  refine zb_ic h dX5_greatestNeeded_5 ?_
  refine zb_cne (tgt := 13) h (by omega) (by omega) dX5_greatestNeeded_6 (by decide) (fun c_6 => ?_) (fun c_6 => ?_)
  · refine lv_aload_n hx hb dX5_greatestNeeded_13 rfl (lv_at hl 0 rfl) ?_
    refine lv_iload_n hx hb dX5_greatestNeeded_14 rfl (lv_at hl 1 rfl) ?_
    refine lv_aload_n hx hb dX5_greatestNeeded_15 rfl (lv_at hl 0 rfl) ?_
    refine zg_5_1 h hH zf_X5_7 dX5_greatestNeeded_16 ?_
    refine lv_iload_n hx hb dX5_greatestNeeded_19 rfl (lv_at hl 1 rfl) ?_
    refine zb_ic h dX5_greatestNeeded_20 ?_
    refine zcSi h hH (As := [.int (zI z), .int (zI 1)]) (rest := [.ref (za G 9 1), .int (zI z), .ref (za G 9 0)]) (c_X5_of l G hG (zMo S (S 9 0) (S 9 1) (S 9 2) (S 9 3) (S 9 4) M_2 (S 9 6)) z 1) zce_X5_of zt_X5_of zm_X5_51 hl.1 rfl rfl ⟨rfl, rfl⟩ ⟨Nat.le_of_ble_eq_true rfl, Nat.le_of_ble_eq_true rfl⟩ (Nat.le_of_ble_eq_true rfl) ⟨Nat.zero_le _, Nat.zero_le _⟩ dX5_greatestNeeded_21 (fun r_21 S_21 H locs hq hH => ?_)
    obtain ⟨rfl, rfl⟩ := hq
    refine zld_ar_s h hH (by omega) dX5_greatestNeeded_24 ?_
    rw [zM_1]
    have f_24 := zW_wa hw (show 0 ≤ z ∧ z < 8 by omega)
    refine zb_ic h dX5_greatestNeeded_25 ?_
    refine zb_iadd h dX5_greatestNeeded_26 ?_
    refine zcVi h hH (zr_5 h hH) (As := [.int (zI z), .int (zI ((S 9 1 (5 + 5 * z + 1)) + 1))]) (rest := []) (c_X5_leastFor l G hG (zMo S (S 9 0) (S 9 1) (S 9 2) (S 9 3) (S 9 4) M_2 (S 9 6)) z ((S 9 1 (5 + 5 * z + 1)) + 1) (by omega) (by omega) (zM_hw hw)) zce_X5_leastFor zcv_X5_leastFor zm_X5_78 hl.1 rfl rfl ⟨rfl, rfl⟩ ⟨Nat.le_of_ble_eq_true rfl, Nat.le_of_ble_eq_true rfl⟩ (Nat.le_of_ble_eq_true rfl) ⟨Nat.zero_le _, Nat.zero_le _⟩ dX5_greatestNeeded_27 (fun r_27 S_27 H locs hq hH => ?_)
    obtain ⟨rfl, M_27, rfl⟩ := hq
    simp only [zM_M, zM_0, zM_1, zM_2, zM_3, zM_4, zM_5, zM_6] at hH
    rw [zM_1]
    refine zb_ic h dX5_greatestNeeded_30 ?_
    refine zb_isub h dX5_greatestNeeded_31 ?_
    refine zri h hr hH ?_ dX5_greatestNeeded_32
    exact ⟨congrArg zI (by rw [tGn_of _ z hw]; first | rw [if_pos (by omega)] | rw [if_neg (by omega)]), _, rfl⟩
  · refine zb_ic h dX5_greatestNeeded_9 ?_
    refine lv_goto (tgt := 32) hx hb dX5_greatestNeeded_10 (by decide) ?_
    refine zri h hr hH ?_ dX5_greatestNeeded_32
    exact ⟨congrArg zI (by rw [tGn_of _ z hw]; first | rw [if_pos (by omega)] | rw [if_neg (by omega)]), _, rfl⟩
end
section
def tTw (σ : Int → Int) (a b : Int) : Int → Int := zup (zup σ (5 + 5 * a + 4) (zxor (σ (5 + 5 * a + 4)) (1 * 2 ^ b.toNat))) (5 + 5 * b + 4) (zxor (σ (5 + 5 * b + 4)) (1 * 2 ^ a.toNat))
end
section
theorem dX5_zones_0 : decode cX5_zones 0 = .ok (.aload_n 0, 1) := by decide +kernel
theorem dX5_zones_1 : decode cX5_zones 1 = .ok (.getfield 7, 3) := by decide +kernel
theorem dX5_zones_4 : decode cX5_zones 4 = .ok (.iconst 4, 1) := by decide +kernel
theorem dX5_zones_5 : decode cX5_zones 5 = .ok (.iaload, 1) := by decide +kernel
theorem dX5_zones_6 : decode cX5_zones 6 = .ok (.istore_n 3, 1) := by decide +kernel
theorem dX5_zones_7 : decode cX5_zones 7 = .ok (.aload_n 0, 1) := by decide +kernel
theorem dX5_zones_8 : decode cX5_zones 8 = .ok (.getfield 7, 3) := by decide +kernel
theorem dX5_zones_11 : decode cX5_zones 11 = .ok (.iload_n 3, 1) := by decide +kernel
theorem dX5_zones_12 : decode cX5_zones 12 = .ok (.iconst 0, 1) := by decide +kernel
theorem dX5_zones_13 : decode cX5_zones 13 = .ok (.invokestatic 51, 3) := by decide +kernel
theorem dX5_zones_16 : decode cX5_zones 16 = .ok (.iload_n 1, 1) := by decide +kernel
theorem dX5_zones_17 : decode cX5_zones 17 = .ok (.iastore, 1) := by decide +kernel
theorem dX5_zones_18 : decode cX5_zones 18 = .ok (.aload_n 0, 1) := by decide +kernel
theorem dX5_zones_19 : decode cX5_zones 19 = .ok (.getfield 7, 3) := by decide +kernel
theorem dX5_zones_22 : decode cX5_zones 22 = .ok (.iload_n 3, 1) := by decide +kernel
theorem dX5_zones_23 : decode cX5_zones 23 = .ok (.iconst 1, 1) := by decide +kernel
theorem dX5_zones_24 : decode cX5_zones 24 = .ok (.invokestatic 51, 3) := by decide +kernel
theorem dX5_zones_27 : decode cX5_zones 27 = .ok (.iload_n 2, 1) := by decide +kernel
theorem dX5_zones_28 : decode cX5_zones 28 = .ok (.iastore, 1) := by decide +kernel
theorem dX5_zones_29 : decode cX5_zones 29 = .ok (.aload_n 0, 1) := by decide +kernel
theorem dX5_zones_30 : decode cX5_zones 30 = .ok (.getfield 7, 3) := by decide +kernel
theorem dX5_zones_33 : decode cX5_zones 33 = .ok (.iload_n 3, 1) := by decide +kernel
theorem dX5_zones_34 : decode cX5_zones 34 = .ok (.iconst 2, 1) := by decide +kernel
theorem dX5_zones_35 : decode cX5_zones 35 = .ok (.invokestatic 51, 3) := by decide +kernel
theorem dX5_zones_38 : decode cX5_zones 38 = .ok (.iconst 0, 1) := by decide +kernel
theorem dX5_zones_39 : decode cX5_zones 39 = .ok (.iastore, 1) := by decide +kernel
theorem dX5_zones_40 : decode cX5_zones 40 = .ok (.aload_n 0, 1) := by decide +kernel
theorem dX5_zones_41 : decode cX5_zones 41 = .ok (.getfield 7, 3) := by decide +kernel
theorem dX5_zones_44 : decode cX5_zones 44 = .ok (.iload_n 3, 1) := by decide +kernel
theorem dX5_zones_45 : decode cX5_zones 45 = .ok (.iconst 3, 1) := by decide +kernel
theorem dX5_zones_46 : decode cX5_zones 46 = .ok (.invokestatic 51, 3) := by decide +kernel
theorem dX5_zones_49 : decode cX5_zones 49 = .ok (.iconst 0, 1) := by decide +kernel
theorem dX5_zones_50 : decode cX5_zones 50 = .ok (.iastore, 1) := by decide +kernel
theorem dX5_zones_51 : decode cX5_zones 51 = .ok (.aload_n 0, 1) := by decide +kernel
theorem dX5_zones_52 : decode cX5_zones 52 = .ok (.getfield 7, 3) := by decide +kernel
theorem dX5_zones_55 : decode cX5_zones 55 = .ok (.iload_n 3, 1) := by decide +kernel
theorem dX5_zones_56 : decode cX5_zones 56 = .ok (.iconst 4, 1) := by decide +kernel
theorem dX5_zones_57 : decode cX5_zones 57 = .ok (.invokestatic 51, 3) := by decide +kernel
theorem dX5_zones_60 : decode cX5_zones 60 = .ok (.iconst 0, 1) := by decide +kernel
theorem dX5_zones_61 : decode cX5_zones 61 = .ok (.iastore, 1) := by decide +kernel
theorem dX5_zones_62 : decode cX5_zones 62 = .ok (.aload_n 0, 1) := by decide +kernel
theorem dX5_zones_63 : decode cX5_zones 63 = .ok (.getfield 7, 3) := by decide +kernel
theorem dX5_zones_66 : decode cX5_zones 66 = .ok (.iconst 4, 1) := by decide +kernel
theorem dX5_zones_67 : decode cX5_zones 67 = .ok (.dup2, 1) := by decide +kernel
theorem dX5_zones_68 : decode cX5_zones 68 = .ok (.iaload, 1) := by decide +kernel
theorem dX5_zones_69 : decode cX5_zones 69 = .ok (.iconst 1, 1) := by decide +kernel
theorem dX5_zones_70 : decode cX5_zones 70 = .ok (.iadd, 1) := by decide +kernel
theorem dX5_zones_71 : decode cX5_zones 71 = .ok (.iastore, 1) := by decide +kernel
theorem dX5_zones_72 : decode cX5_zones 72 = .ok (.iload_n 3, 1) := by decide +kernel
theorem dX5_zones_73 : decode cX5_zones 73 = .ok (.ireturn, 1) := by decide +kernel
def q_X5_zones (S : zM) (d w : Int) : Int32 → zM → Prop := fun r S1 => r = zI (S 9 1 4) ∧ zMo S (S 9 0) (tAdd (S 9 1) d w) (S 9 2) (S 9 3) (S 9 4) (S 9 5) (S 9 6) = S1
def r_X5_zones : Room := { frames := 1, cells := 0, slots := 0, locals := 21 }
set_option maxHeartbeats 4000000 in
set_option maxRecDepth 100000 in
theorem c_X5_zones (l : Launch) (G : zG) (hG : zok G) (S : zM) (d w : Int) (hful : S 9 1 4 < 8) (hw : zW (S 9 1)) : Met l yX5_zones (Cond.code yX5_zones cX5_zones 4 (some FieldType.int) :: zTbl) r_X5_zones (va_Pc [.ref (za G 9 0), .int (zI d), .int (zI w)] (zB G S)) (va_Qi (q_X5_zones S d w) (zB G) (zA G)) 0 0 (zA G) := by
  refine zMet [(0, .ref (za G 9 0)), (1, .int (zI d)), (2, .int (zI w))] hG (by decide) (Nat.le_of_ble_eq_true rfl) rfl (fun p e s m args below meth c ls h hx hb hr hH hl => ?_)
  rw [← zM_id S] at hH
  refine lv_aload_n hx hb dX5_zones_0 rfl (lv_at hl 0 rfl) ?_
  refine zg_5_1 h hH zf_X5_7 dX5_zones_1 ?_
  refine zb_ic h dX5_zones_4 ?_
  refine zld_ar_s h hH (by omega) dX5_zones_5 ?_
  rw [zM_1]
  have f_5 := zW_4 hw
  refine lv_istore_n (lv' := [(3, .int (zI (S 9 1 4))), (0, .ref (za G 9 0)), (1, .int (zI d)), (2, .int (zI w))]) hx hb dX5_zones_6 rfl hl (by decide) rfl (fun ls hl => ?_)
  refine lv_aload_n hx hb dX5_zones_7 rfl (lv_at hl 1 rfl) ?_
  refine zg_5_1 h hH zf_X5_7 dX5_zones_8 ?_
  refine lv_iload_n hx hb dX5_zones_11 rfl (lv_at hl 0 rfl) ?_
  refine zb_ic h dX5_zones_12 ?_
  refine zcSi h hH (As := [.int (zI (S 9 1 4)), .int (zI 0)]) (rest := [.ref (za G 9 1)]) (c_X5_of l G hG (zMo S (S 9 0) (S 9 1) (S 9 2) (S 9 3) (S 9 4) (S 9 5) (S 9 6)) (S 9 1 4) 0) zce_X5_of zt_X5_of zm_X5_51 hl.1 rfl rfl ⟨rfl, rfl⟩ ⟨Nat.le_of_ble_eq_true rfl, Nat.le_of_ble_eq_true rfl⟩ (Nat.le_of_ble_eq_true rfl) ⟨Nat.zero_le _, Nat.zero_le _⟩ dX5_zones_13 (fun r_13 S_13 H locs hq hH => ?_)
  obtain ⟨rfl, rfl⟩ := hq
  refine zb_top (y := 5 + 5 * (S 9 1 4)) (by omega) ?_
  refine lv_iload_n hx hb dX5_zones_16 rfl (lv_at hl 2 rfl) ?_
  refine zst_ar_s h hH (by omega) dX5_zones_17 (fun H locs hH => ?_)
  rw [zs_M1] at hH
  refine lv_aload_n hx hb dX5_zones_18 rfl (lv_at hl 1 rfl) ?_
  refine zg_5_1 h hH zf_X5_7 dX5_zones_19 ?_
  refine lv_iload_n hx hb dX5_zones_22 rfl (lv_at hl 0 rfl) ?_
  refine zb_ic h dX5_zones_23 ?_
  refine zcSi h hH (As := [.int (zI (S 9 1 4)), .int (zI 1)]) (rest := [.ref (za G 9 1)]) (c_X5_of l G hG (zMo S (S 9 0) (zup (S 9 1) ((5 + 5 * (S 9 1 4))) d) (S 9 2) (S 9 3) (S 9 4) (S 9 5) (S 9 6)) (S 9 1 4) 1) zce_X5_of zt_X5_of zm_X5_51 hl.1 rfl rfl ⟨rfl, rfl⟩ ⟨Nat.le_of_ble_eq_true rfl, Nat.le_of_ble_eq_true rfl⟩ (Nat.le_of_ble_eq_true rfl) ⟨Nat.zero_le _, Nat.zero_le _⟩ dX5_zones_24 (fun r_24 S_24 H locs hq hH => ?_)
  obtain ⟨rfl, rfl⟩ := hq
  refine lv_iload_n hx hb dX5_zones_27 rfl (lv_at hl 3 rfl) ?_
  refine zst_ar_s h hH (by omega) dX5_zones_28 (fun H locs hH => ?_)
  rw [zs_M1] at hH
  refine lv_aload_n hx hb dX5_zones_29 rfl (lv_at hl 1 rfl) ?_
  refine zg_5_1 h hH zf_X5_7 dX5_zones_30 ?_
  refine lv_iload_n hx hb dX5_zones_33 rfl (lv_at hl 0 rfl) ?_
  refine zb_ic h dX5_zones_34 ?_
  refine zcSi h hH (As := [.int (zI (S 9 1 4)), .int (zI 2)]) (rest := [.ref (za G 9 1)]) (c_X5_of l G hG (zMo S (S 9 0) (zup (zup (S 9 1) ((5 + 5 * (S 9 1 4))) d) ((5 + 5 * (S 9 1 4) + 1)) w) (S 9 2) (S 9 3) (S 9 4) (S 9 5) (S 9 6)) (S 9 1 4) 2) zce_X5_of zt_X5_of zm_X5_51 hl.1 rfl rfl ⟨rfl, rfl⟩ ⟨Nat.le_of_ble_eq_true rfl, Nat.le_of_ble_eq_true rfl⟩ (Nat.le_of_ble_eq_true rfl) ⟨Nat.zero_le _, Nat.zero_le _⟩ dX5_zones_35 (fun r_35 S_35 H locs hq hH => ?_)
  obtain ⟨rfl, rfl⟩ := hq
  refine zb_ic h dX5_zones_38 ?_
  refine zst_ar_s h hH (by omega) dX5_zones_39 (fun H locs hH => ?_)
  rw [zs_M1] at hH
  refine lv_aload_n hx hb dX5_zones_40 rfl (lv_at hl 1 rfl) ?_
  refine zg_5_1 h hH zf_X5_7 dX5_zones_41 ?_
  refine lv_iload_n hx hb dX5_zones_44 rfl (lv_at hl 0 rfl) ?_
  refine zb_ic h dX5_zones_45 ?_
  refine zcSi h hH (As := [.int (zI (S 9 1 4)), .int (zI 3)]) (rest := [.ref (za G 9 1)]) (c_X5_of l G hG (zMo S (S 9 0) (zup (zup (zup (S 9 1) ((5 + 5 * (S 9 1 4))) d) ((5 + 5 * (S 9 1 4) + 1)) w) ((5 + 5 * (S 9 1 4) + 2)) 0) (S 9 2) (S 9 3) (S 9 4) (S 9 5) (S 9 6)) (S 9 1 4) 3) zce_X5_of zt_X5_of zm_X5_51 hl.1 rfl rfl ⟨rfl, rfl⟩ ⟨Nat.le_of_ble_eq_true rfl, Nat.le_of_ble_eq_true rfl⟩ (Nat.le_of_ble_eq_true rfl) ⟨Nat.zero_le _, Nat.zero_le _⟩ dX5_zones_46 (fun r_46 S_46 H locs hq hH => ?_)
  obtain ⟨rfl, rfl⟩ := hq
  refine zb_ic h dX5_zones_49 ?_
  refine zst_ar_s h hH (by omega) dX5_zones_50 (fun H locs hH => ?_)
  rw [zs_M1] at hH
  refine lv_aload_n hx hb dX5_zones_51 rfl (lv_at hl 1 rfl) ?_
  refine zg_5_1 h hH zf_X5_7 dX5_zones_52 ?_
  refine lv_iload_n hx hb dX5_zones_55 rfl (lv_at hl 0 rfl) ?_
  refine zb_ic h dX5_zones_56 ?_
  refine zcSi h hH (As := [.int (zI (S 9 1 4)), .int (zI 4)]) (rest := [.ref (za G 9 1)]) (c_X5_of l G hG (zMo S (S 9 0) (zup (zup (zup (zup (S 9 1) ((5 + 5 * (S 9 1 4))) d) ((5 + 5 * (S 9 1 4) + 1)) w) ((5 + 5 * (S 9 1 4) + 2)) 0) ((5 + 5 * (S 9 1 4) + 3)) 0) (S 9 2) (S 9 3) (S 9 4) (S 9 5) (S 9 6)) (S 9 1 4) 4) zce_X5_of zt_X5_of zm_X5_51 hl.1 rfl rfl ⟨rfl, rfl⟩ ⟨Nat.le_of_ble_eq_true rfl, Nat.le_of_ble_eq_true rfl⟩ (Nat.le_of_ble_eq_true rfl) ⟨Nat.zero_le _, Nat.zero_le _⟩ dX5_zones_57 (fun r_57 S_57 H locs hq hH => ?_)
  obtain ⟨rfl, rfl⟩ := hq
  refine zb_ic h dX5_zones_60 ?_
  refine zst_ar_s h hH (by omega) dX5_zones_61 (fun H locs hH => ?_)
  rw [zs_M1] at hH
  refine lv_aload_n hx hb dX5_zones_62 rfl (lv_at hl 1 rfl) ?_
  refine zg_5_1 h hH zf_X5_7 dX5_zones_63 ?_
  refine zb_ic h dX5_zones_66 ?_
  refine lv_dup2_11 hx hb dX5_zones_67 rfl rfl ?_
  refine zld_ar_s h hH (by omega) dX5_zones_68 ?_
  rw [zM_1]
  rw [show (zup (zup (zup (zup (zup (S 9 1) ((5 + 5 * (S 9 1 4))) d) ((5 + 5 * (S 9 1 4) + 1)) w) ((5 + 5 * (S 9 1 4) + 2)) 0) ((5 + 5 * (S 9 1 4) + 3)) 0) ((5 + 5 * (S 9 1 4) + 4)) 0 4 : Int) = S 9 1 4 from by (first | rw [zup_s] | rw [zup_n (by omega)]); (first | rw [zup_s] | rw [zup_n (by omega)]); (first | rw [zup_s] | rw [zup_n (by omega)]); (first | rw [zup_s] | rw [zup_n (by omega)]); (first | rw [zup_s] | rw [zup_n (by omega)])]
  have f_68 := zW_4 hw
  refine zb_ic h dX5_zones_69 ?_
  refine zb_iadd h dX5_zones_70 ?_
  refine zst_ar_s h hH (by omega) dX5_zones_71 (fun H locs hH => ?_)
  rw [zs_M1] at hH
  refine lv_iload_n hx hb dX5_zones_72 rfl (lv_at hl 0 rfl) ?_
  refine zri h hr hH ?_ dX5_zones_73
  exact ⟨rfl, rfl⟩
theorem dX5_zoneFault_0 : decode cX5_zoneFault 0 = .ok (.iload_n 1, 1) := by decide +kernel
theorem dX5_zoneFault_1 : decode cX5_zoneFault 1 = .ok (.iconst 0, 1) := by decide +kernel
theorem dX5_zoneFault_2 : decode cX5_zoneFault 2 = .ok (.bipush 24, 2) := by decide +kernel
theorem dX5_zoneFault_4 : decode cX5_zoneFault 4 = .ok (.invokestatic 32, 3) := by decide +kernel
theorem dX5_zoneFault_7 : decode cX5_zoneFault 7 = .ok (.ifCond .eq 13, 3) := by decide +kernel
theorem dX5_zoneFault_10 : decode cX5_zoneFault 10 = .ok (.iload_n 2, 1) := by decide +kernel
theorem dX5_zoneFault_11 : decode cX5_zoneFault 11 = .ok (.iconst 0, 1) := by decide +kernel
theorem dX5_zoneFault_12 : decode cX5_zoneFault 12 = .ok (.bipush 10, 2) := by decide +kernel
theorem dX5_zoneFault_14 : decode cX5_zoneFault 14 = .ok (.invokestatic 32, 3) := by decide +kernel
theorem dX5_zoneFault_17 : decode cX5_zoneFault 17 = .ok (.ifCond .ne 7, 3) := by decide +kernel
theorem dX5_zoneFault_20 : decode cX5_zoneFault 20 = .ok (.iconst 1, 1) := by decide +kernel
theorem dX5_zoneFault_21 : decode cX5_zoneFault 21 = .ok (.goto 19, 3) := by decide +kernel
theorem dX5_zoneFault_24 : decode cX5_zoneFault 24 = .ok (.aload_n 0, 1) := by decide +kernel
theorem dX5_zoneFault_25 : decode cX5_zoneFault 25 = .ok (.getfield 7, 3) := by decide +kernel
theorem dX5_zoneFault_28 : decode cX5_zoneFault 28 = .ok (.iconst 4, 1) := by decide +kernel
theorem dX5_zoneFault_29 : decode cX5_zoneFault 29 = .ok (.iaload, 1) := by decide +kernel
theorem dX5_zoneFault_30 : decode cX5_zoneFault 30 = .ok (.bipush 8, 2) := by decide +kernel
theorem dX5_zoneFault_32 : decode cX5_zoneFault 32 = .ok (.if_icmp .ne 7, 3) := by decide +kernel
theorem dX5_zoneFault_35 : decode cX5_zoneFault 35 = .ok (.iconst 2, 1) := by decide +kernel
theorem dX5_zoneFault_36 : decode cX5_zoneFault 36 = .ok (.goto 4, 3) := by decide +kernel
theorem dX5_zoneFault_39 : decode cX5_zoneFault 39 = .ok (.iconst 0, 1) := by decide +kernel
theorem dX5_zoneFault_40 : decode cX5_zoneFault 40 = .ok (.ireturn, 1) := by decide +kernel
def q_X5_zoneFault (S : zM) (d w : Int) : Int32 → zM → Prop := fun r S1 => ∃ bb : Int, r = zI bb ∧ ((bb = 1 ∧ ¬ (0 ≤ d ∧ d ≤ 24 ∧ 0 ≤ w ∧ w ≤ 10)) ∨ (bb = 2 ∧ (0 ≤ d ∧ d ≤ 24 ∧ 0 ≤ w ∧ w ≤ 10) ∧ S 9 1 4 = 8) ∨ (bb = 0 ∧ (0 ≤ d ∧ d ≤ 24 ∧ 0 ≤ w ∧ w ≤ 10) ∧ S 9 1 4 < 8)) ∧ S = S1
def r_X5_zoneFault : Room := { frames := 1, cells := 0, slots := 0, locals := 22 }
set_option maxHeartbeats 4000000 in
set_option maxRecDepth 100000 in
theorem c_X5_zoneFault (l : Launch) (G : zG) (hG : zok G) (S : zM) (d w : Int) (hd : -2147483648 ≤ d ∧ d ≤ 2147483647) (hwn : -2147483648 ≤ w ∧ w ≤ 2147483647) (hw : zW (S 9 1)) : Met l yX5_zoneFault (Cond.code yX5_zoneFault cX5_zoneFault 3 (some FieldType.int) :: zTbl) r_X5_zoneFault (va_Pc [.ref (za G 9 0), .int (zI d), .int (zI w)] (zB G S)) (va_Qi (q_X5_zoneFault S d w) (zB G) (zA G)) 0 0 (zA G) := by
  refine zMet [(0, .ref (za G 9 0)), (1, .int (zI d)), (2, .int (zI w))] hG (by decide) (Nat.le_of_ble_eq_true rfl) rfl (fun p e s m args below meth c ls h hx hb hr hH hl => ?_)
  refine lv_iload_n hx hb dX5_zoneFault_0 rfl (lv_at hl 1 rfl) ?_
  refine zb_ic h dX5_zoneFault_1 ?_
  refine zb_bi h dX5_zoneFault_2 (by decide) (by decide) ?_
  refine zcSi h hH (As := [.int (zI d), .int (zI 0), .int (zI 24)]) (rest := []) (c_X5_in l G hG S d 0 24 (by omega) (by omega) (by omega)) zce_X5_in zt_X5_in zm_X5_32 hl.1 rfl rfl ⟨rfl, rfl⟩ ⟨Nat.le_of_ble_eq_true rfl, Nat.le_of_ble_eq_true rfl⟩ (Nat.le_of_ble_eq_true rfl) ⟨Nat.zero_le _, Nat.zero_le _⟩ dX5_zoneFault_4 (fun r_4 S_4 H locs hq hH => ?_)
  obtain ⟨b_4, rfl, hb_4, rfl⟩ := hq
  refine zb_ieq (tgt := 20) h (by omega) dX5_zoneFault_7 (by decide) (fun c_7 => ?_) (fun c_7 => ?_)
  · refine zb_ic h dX5_zoneFault_20 ?_
    refine lv_goto (tgt := 40) hx hb dX5_zoneFault_21 (by decide) ?_
    refine zri h hr hH ?_ dX5_zoneFault_40
    exact ⟨_, rfl, by omega, rfl⟩
  · refine lv_iload_n hx hb dX5_zoneFault_10 rfl (lv_at hl 2 rfl) ?_
    refine zb_ic h dX5_zoneFault_11 ?_
    refine zb_bi h dX5_zoneFault_12 (by decide) (by decide) ?_
    refine zcSi h hH (As := [.int (zI w), .int (zI 0), .int (zI 10)]) (rest := []) (c_X5_in l G hG S w 0 10 (by omega) (by omega) (by omega)) zce_X5_in zt_X5_in zm_X5_32 hl.1 rfl rfl ⟨rfl, rfl⟩ ⟨Nat.le_of_ble_eq_true rfl, Nat.le_of_ble_eq_true rfl⟩ (Nat.le_of_ble_eq_true rfl) ⟨Nat.zero_le _, Nat.zero_le _⟩ dX5_zoneFault_14 (fun r_14 S_14 H locs hq hH => ?_)
    obtain ⟨b_14, rfl, hb_14, rfl⟩ := hq
    refine zb_ine (tgt := 24) h (by omega) dX5_zoneFault_17 (by decide) (fun c_17 => ?_) (fun c_17 => ?_)
    · refine lv_aload_n hx hb dX5_zoneFault_24 rfl (lv_at hl 0 rfl) ?_
      refine zg_5_1 h hH zf_X5_7 dX5_zoneFault_25 ?_
      refine zb_ic h dX5_zoneFault_28 ?_
      refine zld_ar_s h hH (by omega) dX5_zoneFault_29 ?_
      have f_29 := zW_4 hw
      refine zb_bi h dX5_zoneFault_30 (by decide) (by decide) ?_
      refine zb_cne (tgt := 39) h (by omega) (by omega) dX5_zoneFault_32 (by decide) (fun c_32 => ?_) (fun c_32 => ?_)
      · refine zb_ic h dX5_zoneFault_39 ?_
        refine zri h hr hH ?_ dX5_zoneFault_40
        exact ⟨_, rfl, by omega, rfl⟩
      · refine zb_ic h dX5_zoneFault_35 ?_
        refine lv_goto (tgt := 40) hx hb dX5_zoneFault_36 (by decide) ?_
        refine zri h hr hH ?_ dX5_zoneFault_40
        exact ⟨_, rfl, by omega, rfl⟩
    · refine zb_ic h dX5_zoneFault_20 ?_
      refine lv_goto (tgt := 40) hx hb dX5_zoneFault_21 (by decide) ?_
      refine zri h hr hH ?_ dX5_zoneFault_40
      exact ⟨_, rfl, by omega, rfl⟩
theorem dX5_partFault_0 : decode cX5_partFault 0 = .ok (.aload_n 0, 1) := by decide +kernel
theorem dX5_partFault_1 : decode cX5_partFault 1 = .ok (.iload_n 1, 1) := by decide +kernel
theorem dX5_partFault_2 : decode cX5_partFault 2 = .ok (.invokevirtual 96, 3) := by decide +kernel
theorem dX5_partFault_5 : decode cX5_partFault 5 = .ok (.ifCond .ne 7, 3) := by decide +kernel
theorem dX5_partFault_8 : decode cX5_partFault 8 = .ok (.iconst 1, 1) := by decide +kernel
theorem dX5_partFault_9 : decode cX5_partFault 9 = .ok (.goto 19, 3) := by decide +kernel
theorem dX5_partFault_12 : decode cX5_partFault 12 = .ok (.iload_n 2, 1) := by decide +kernel
theorem dX5_partFault_13 : decode cX5_partFault 13 = .ok (.iconst 0, 1) := by decide +kernel
theorem dX5_partFault_14 : decode cX5_partFault 14 = .ok (.sipush 999, 3) := by decide +kernel
theorem dX5_partFault_17 : decode cX5_partFault 17 = .ok (.invokestatic 32, 3) := by decide +kernel
theorem dX5_partFault_20 : decode cX5_partFault 20 = .ok (.ifCond .ne 7, 3) := by decide +kernel
theorem dX5_partFault_23 : decode cX5_partFault 23 = .ok (.iconst 2, 1) := by decide +kernel
theorem dX5_partFault_24 : decode cX5_partFault 24 = .ok (.goto 4, 3) := by decide +kernel
theorem dX5_partFault_27 : decode cX5_partFault 27 = .ok (.iconst 0, 1) := by decide +kernel
theorem dX5_partFault_28 : decode cX5_partFault 28 = .ok (.ireturn, 1) := by decide +kernel
def q_X5_partFault (S : zM) (z t : Int) : Int32 → zM → Prop := fun r S1 => ∃ bb : Int, r = zI bb ∧ ((bb = 1 ∧ ¬ (0 ≤ z ∧ z < S 9 1 4)) ∨ (bb = 2 ∧ (0 ≤ z ∧ z < S 9 1 4) ∧ ¬ (0 ≤ t ∧ t ≤ 999)) ∨ (bb = 0 ∧ (0 ≤ z ∧ z < S 9 1 4) ∧ (0 ≤ t ∧ t ≤ 999))) ∧ S = S1
def r_X5_partFault : Room := { frames := 2, cells := 0, slots := 0, locals := 43 }
set_option maxHeartbeats 4000000 in
set_option maxRecDepth 100000 in
theorem c_X5_partFault (l : Launch) (G : zG) (hG : zok G) (S : zM) (z t : Int) (hz : -2147483648 ≤ z ∧ z ≤ 2147483647) (ht : -2147483648 ≤ t ∧ t ≤ 2147483647) (hw : zW (S 9 1)) : Met l yX5_partFault (Cond.code yX5_partFault cX5_partFault 3 (some FieldType.int) :: zTbl) r_X5_partFault (va_Pc [.ref (za G 9 0), .int (zI z), .int (zI t)] (zB G S)) (va_Qi (q_X5_partFault S z t) (zB G) (zA G)) 0 0 (zA G) := by
  refine zMet [(0, .ref (za G 9 0)), (1, .int (zI z)), (2, .int (zI t))] hG (by decide) (Nat.le_of_ble_eq_true rfl) rfl (fun p e s m args below meth c ls h hx hb hr hH hl => ?_)
  refine lv_aload_n hx hb dX5_partFault_0 rfl (lv_at hl 0 rfl) ?_
  refine lv_iload_n hx hb dX5_partFault_1 rfl (lv_at hl 1 rfl) ?_
  refine zcVi h hH (zr_5 h hH) (As := [.int (zI z)]) (rest := []) (c_X5_isZone l G hG S z (by omega) hw) zce_X5_isZone zcv_X5_isZone zm_X5_96 hl.1 rfl rfl ⟨rfl, rfl⟩ ⟨Nat.le_of_ble_eq_true rfl, Nat.le_of_ble_eq_true rfl⟩ (Nat.le_of_ble_eq_true rfl) ⟨Nat.zero_le _, Nat.zero_le _⟩ dX5_partFault_2 (fun r_2 S_2 H locs hq hH => ?_)
  obtain ⟨b_2, rfl, hb_2, rfl⟩ := hq
  refine zb_ine (tgt := 12) h (by omega) dX5_partFault_5 (by decide) (fun c_5 => ?_) (fun c_5 => ?_)
  · refine lv_iload_n hx hb dX5_partFault_12 rfl (lv_at hl 2 rfl) ?_
    refine zb_ic h dX5_partFault_13 ?_
    refine zb_si h dX5_partFault_14 (by decide) (by decide) ?_
    refine zcSi h hH (As := [.int (zI t), .int (zI 0), .int (zI 999)]) (rest := []) (c_X5_in l G hG S t 0 999 (by omega) (by omega) (by omega)) zce_X5_in zt_X5_in zm_X5_32 hl.1 rfl rfl ⟨rfl, rfl⟩ ⟨Nat.le_of_ble_eq_true rfl, Nat.le_of_ble_eq_true rfl⟩ (Nat.le_of_ble_eq_true rfl) ⟨Nat.zero_le _, Nat.zero_le _⟩ dX5_partFault_17 (fun r_17 S_17 H locs hq hH => ?_)
    obtain ⟨b_17, rfl, hb_17, rfl⟩ := hq
    refine zb_ine (tgt := 27) h (by omega) dX5_partFault_20 (by decide) (fun c_20 => ?_) (fun c_20 => ?_)
    · refine zb_ic h dX5_partFault_27 ?_
      refine zri h hr hH ?_ dX5_partFault_28
      exact ⟨_, rfl, by omega, rfl⟩
    · refine zb_ic h dX5_partFault_23 ?_
      refine lv_goto (tgt := 28) hx hb dX5_partFault_24 (by decide) ?_
      refine zri h hr hH ?_ dX5_partFault_28
      exact ⟨_, rfl, by omega, rfl⟩
  · refine zb_ic h dX5_partFault_8 ?_
    refine lv_goto (tgt := 28) hx hb dX5_partFault_9 (by decide) ?_
    refine zri h hr hH ?_ dX5_partFault_28
    exact ⟨_, rfl, by omega, rfl⟩
theorem dX5_areLinked_0 : decode cX5_areLinked 0 = .ok (.aload_n 0, 1) := by decide +kernel
theorem dX5_areLinked_1 : decode cX5_areLinked 1 = .ok (.getfield 7, 3) := by decide +kernel
theorem dX5_areLinked_4 : decode cX5_areLinked 4 = .ok (.iload_n 1, 1) := by decide +kernel
theorem dX5_areLinked_5 : decode cX5_areLinked 5 = .ok (.iconst 4, 1) := by decide +kernel
theorem dX5_areLinked_6 : decode cX5_areLinked 6 = .ok (.invokestatic 51, 3) := by decide +kernel
theorem dX5_areLinked_9 : decode cX5_areLinked 9 = .ok (.iaload, 1) := by decide +kernel
theorem dX5_areLinked_10 : decode cX5_areLinked 10 = .ok (.iload_n 2, 1) := by decide +kernel
theorem dX5_areLinked_11 : decode cX5_areLinked 11 = .ok (.ishr, 1) := by decide +kernel
theorem dX5_areLinked_12 : decode cX5_areLinked 12 = .ok (.iconst 1, 1) := by decide +kernel
theorem dX5_areLinked_13 : decode cX5_areLinked 13 = .ok (.iand, 1) := by decide +kernel
theorem dX5_areLinked_14 : decode cX5_areLinked 14 = .ok (.iconst 1, 1) := by decide +kernel
theorem dX5_areLinked_15 : decode cX5_areLinked 15 = .ok (.if_icmp .ne 7, 3) := by decide +kernel
theorem dX5_areLinked_18 : decode cX5_areLinked 18 = .ok (.iconst 1, 1) := by decide +kernel
theorem dX5_areLinked_19 : decode cX5_areLinked 19 = .ok (.goto 4, 3) := by decide +kernel
theorem dX5_areLinked_22 : decode cX5_areLinked 22 = .ok (.iconst 0, 1) := by decide +kernel
theorem dX5_areLinked_23 : decode cX5_areLinked 23 = .ok (.ireturn, 1) := by decide +kernel
def q_X5_areLinked (S : zM) (a b : Int) : Int32 → zM → Prop := fun r S1 => ∃ bb : Int, r = zI bb ∧ (bb = 1 ∧ (S 9 1 (5 + 5 * a + 4) / 2 ^ b.toNat % 2 = 1) ∨ bb = 0 ∧ ¬ (S 9 1 (5 + 5 * a + 4) / 2 ^ b.toNat % 2 = 1)) ∧ S = S1
def r_X5_areLinked : Room := { frames := 1, cells := 0, slots := 0, locals := 21 }
set_option maxHeartbeats 4000000 in
set_option maxRecDepth 100000 in
theorem c_X5_areLinked (l : Launch) (G : zG) (hG : zok G) (S : zM) (a b : Int) (ha : 0 ≤ a ∧ a < 8) (hb2 : 0 ≤ b ∧ b < 8) (hw : zW (S 9 1)) : Met l yX5_areLinked (Cond.code yX5_areLinked cX5_areLinked 3 (some FieldType.boolean) :: zTbl) r_X5_areLinked (va_Pc [.ref (za G 9 0), .int (zI a), .int (zI b)] (zB G S)) (va_Qi (q_X5_areLinked S a b) (zB G) (zA G)) 0 0 (zA G) := by
  refine zMet [(0, .ref (za G 9 0)), (1, .int (zI a)), (2, .int (zI b))] hG (by decide) (Nat.le_of_ble_eq_true rfl) rfl (fun p e s m args below meth c ls h hx hb hr hH hl => ?_)
  refine lv_aload_n hx hb dX5_areLinked_0 rfl (lv_at hl 0 rfl) ?_
  refine zg_5_1 h hH zf_X5_7 dX5_areLinked_1 ?_
  refine lv_iload_n hx hb dX5_areLinked_4 rfl (lv_at hl 1 rfl) ?_
  refine zb_ic h dX5_areLinked_5 ?_
  refine zcSi h hH (As := [.int (zI a), .int (zI 4)]) (rest := [.ref (za G 9 1)]) (c_X5_of l G hG S a 4) zce_X5_of zt_X5_of zm_X5_51 hl.1 rfl rfl ⟨rfl, rfl⟩ ⟨Nat.le_of_ble_eq_true rfl, Nat.le_of_ble_eq_true rfl⟩ (Nat.le_of_ble_eq_true rfl) ⟨Nat.zero_le _, Nat.zero_le _⟩ dX5_areLinked_6 (fun r_6 S_6 H locs hq hH => ?_)
  obtain ⟨rfl, rfl⟩ := hq
  refine zld_ar_s h hH (by omega) dX5_areLinked_9 ?_
  have f_9 := zW_nb hw (show 0 ≤ a ∧ a < 8 by omega)
  refine lv_iload_n hx hb dX5_areLinked_10 rfl (lv_at hl 2 rfl) ?_
  refine zb_ishr h (by omega) (by omega) dX5_areLinked_11 ?_
  have b_11 := zdiv_le f_9.1 (zpow_pos b.toNat)
  refine zb_ic h dX5_areLinked_12 ?_
  refine zb_and1 h (by omega) dX5_areLinked_13 ?_
  refine zb_ic h dX5_areLinked_14 ?_
  refine zb_cne (tgt := 22) h (by omega) (by omega) dX5_areLinked_15 (by decide) (fun c_15 => ?_) (fun c_15 => ?_)
  · refine zb_ic h dX5_areLinked_22 ?_
    refine zrz h hr hH (by omega) ?_ dX5_areLinked_23
    exact ⟨_, rfl, by omega, rfl⟩
  · refine zb_ic h dX5_areLinked_18 ?_
    refine lv_goto (tgt := 23) hx hb dX5_areLinked_19 (by decide) ?_
    refine zrz h hr hH (by omega) ?_ dX5_areLinked_23
    exact ⟨_, rfl, by omega, rfl⟩
theorem dX5_turnLink_0 : decode cX5_turnLink 0 = .ok (.aload_n 0, 1) := by decide +kernel
theorem dX5_turnLink_1 : decode cX5_turnLink 1 = .ok (.getfield 7, 3) := by decide +kernel
theorem dX5_turnLink_4 : decode cX5_turnLink 4 = .ok (.iload_n 1, 1) := by decide +kernel
theorem dX5_turnLink_5 : decode cX5_turnLink 5 = .ok (.iconst 4, 1) := by decide +kernel
theorem dX5_turnLink_6 : decode cX5_turnLink 6 = .ok (.invokestatic 51, 3) := by decide +kernel
theorem dX5_turnLink_9 : decode cX5_turnLink 9 = .ok (.dup2, 1) := by decide +kernel
theorem dX5_turnLink_10 : decode cX5_turnLink 10 = .ok (.iaload, 1) := by decide +kernel
theorem dX5_turnLink_11 : decode cX5_turnLink 11 = .ok (.iconst 1, 1) := by decide +kernel
theorem dX5_turnLink_12 : decode cX5_turnLink 12 = .ok (.iload_n 2, 1) := by decide +kernel
theorem dX5_turnLink_13 : decode cX5_turnLink 13 = .ok (.ishl, 1) := by decide +kernel
theorem dX5_turnLink_14 : decode cX5_turnLink 14 = .ok (.ixor, 1) := by decide +kernel
theorem dX5_turnLink_15 : decode cX5_turnLink 15 = .ok (.iastore, 1) := by decide +kernel
theorem dX5_turnLink_16 : decode cX5_turnLink 16 = .ok (.aload_n 0, 1) := by decide +kernel
theorem dX5_turnLink_17 : decode cX5_turnLink 17 = .ok (.getfield 7, 3) := by decide +kernel
theorem dX5_turnLink_20 : decode cX5_turnLink 20 = .ok (.iload_n 2, 1) := by decide +kernel
theorem dX5_turnLink_21 : decode cX5_turnLink 21 = .ok (.iconst 4, 1) := by decide +kernel
theorem dX5_turnLink_22 : decode cX5_turnLink 22 = .ok (.invokestatic 51, 3) := by decide +kernel
theorem dX5_turnLink_25 : decode cX5_turnLink 25 = .ok (.dup2, 1) := by decide +kernel
theorem dX5_turnLink_26 : decode cX5_turnLink 26 = .ok (.iaload, 1) := by decide +kernel
theorem dX5_turnLink_27 : decode cX5_turnLink 27 = .ok (.iconst 1, 1) := by decide +kernel
theorem dX5_turnLink_28 : decode cX5_turnLink 28 = .ok (.iload_n 1, 1) := by decide +kernel
theorem dX5_turnLink_29 : decode cX5_turnLink 29 = .ok (.ishl, 1) := by decide +kernel
theorem dX5_turnLink_30 : decode cX5_turnLink 30 = .ok (.ixor, 1) := by decide +kernel
theorem dX5_turnLink_31 : decode cX5_turnLink 31 = .ok (.iastore, 1) := by decide +kernel
theorem dX5_turnLink_32 : decode cX5_turnLink 32 = .ok (.return_, 1) := by decide +kernel
def q_X5_turnLink (S : zM) (a b : Int) : zM → Prop := fun S1 => zMo S (S 9 0) (tTw (S 9 1) a b) (S 9 2) (S 9 3) (S 9 4) (S 9 5) (S 9 6) = S1
def r_X5_turnLink : Room := { frames := 1, cells := 0, slots := 0, locals := 21 }
set_option maxHeartbeats 4000000 in
set_option maxRecDepth 100000 in
theorem c_X5_turnLink (l : Launch) (G : zG) (hG : zok G) (S : zM) (a b : Int) (ha : 0 ≤ a ∧ a < 8) (hb2 : 0 ≤ b ∧ b < 8) (hab : a ≠ b) (hw : zW (S 9 1)) : Met l yX5_turnLink (Cond.code yX5_turnLink cX5_turnLink 3 (none : Option FieldType) :: zTbl) r_X5_turnLink (va_Pc [.ref (za G 9 0), .int (zI a), .int (zI b)] (zB G S)) (va_Qv (q_X5_turnLink S a b) (zB G) (zA G)) 0 0 (zA G) := by
  refine zMet [(0, .ref (za G 9 0)), (1, .int (zI a)), (2, .int (zI b))] hG (by decide) (Nat.le_of_ble_eq_true rfl) rfl (fun p e s m args below meth c ls h hx hb hr hH hl => ?_)
  rw [← zM_id S] at hH
  refine lv_aload_n hx hb dX5_turnLink_0 rfl (lv_at hl 0 rfl) ?_
  refine zg_5_1 h hH zf_X5_7 dX5_turnLink_1 ?_
  refine lv_iload_n hx hb dX5_turnLink_4 rfl (lv_at hl 1 rfl) ?_
  refine zb_ic h dX5_turnLink_5 ?_
  refine zcSi h hH (As := [.int (zI a), .int (zI 4)]) (rest := [.ref (za G 9 1)]) (c_X5_of l G hG (zMo S (S 9 0) (S 9 1) (S 9 2) (S 9 3) (S 9 4) (S 9 5) (S 9 6)) a 4) zce_X5_of zt_X5_of zm_X5_51 hl.1 rfl rfl ⟨rfl, rfl⟩ ⟨Nat.le_of_ble_eq_true rfl, Nat.le_of_ble_eq_true rfl⟩ (Nat.le_of_ble_eq_true rfl) ⟨Nat.zero_le _, Nat.zero_le _⟩ dX5_turnLink_6 (fun r_6 S_6 H locs hq hH => ?_)
  obtain ⟨rfl, rfl⟩ := hq
  refine lv_dup2_11 hx hb dX5_turnLink_9 rfl rfl ?_
  refine zld_ar_s h hH (by omega) dX5_turnLink_10 ?_
  rw [zM_1]
  have f_10 := zW_nb hw (show 0 ≤ a ∧ a < 8 by omega)
  refine zb_ic h dX5_turnLink_11 ?_
  refine lv_iload_n hx hb dX5_turnLink_12 rfl (lv_at hl 2 rfl) ?_
  refine zb_ishl h (by omega) (by omega) (zsh1 (by omega)) dX5_turnLink_13 ?_
  refine zb_ixor h dX5_turnLink_14 ?_
  refine zst_ar_s h hH (by omega) dX5_turnLink_15 (fun H locs hH => ?_)
  rw [zs_M1] at hH
  refine lv_aload_n hx hb dX5_turnLink_16 rfl (lv_at hl 0 rfl) ?_
  refine zg_5_1 h hH zf_X5_7 dX5_turnLink_17 ?_
  refine lv_iload_n hx hb dX5_turnLink_20 rfl (lv_at hl 2 rfl) ?_
  refine zb_ic h dX5_turnLink_21 ?_
  refine zcSi h hH (As := [.int (zI b), .int (zI 4)]) (rest := [.ref (za G 9 1)]) (c_X5_of l G hG (zMo S (S 9 0) (zup (S 9 1) ((5 + 5 * a + 4)) (zxor (S 9 1 (5 + 5 * a + 4)) (1 * 2 ^ b.toNat))) (S 9 2) (S 9 3) (S 9 4) (S 9 5) (S 9 6)) b 4) zce_X5_of zt_X5_of zm_X5_51 hl.1 rfl rfl ⟨rfl, rfl⟩ ⟨Nat.le_of_ble_eq_true rfl, Nat.le_of_ble_eq_true rfl⟩ (Nat.le_of_ble_eq_true rfl) ⟨Nat.zero_le _, Nat.zero_le _⟩ dX5_turnLink_22 (fun r_22 S_22 H locs hq hH => ?_)
  obtain ⟨rfl, rfl⟩ := hq
  refine lv_dup2_11 hx hb dX5_turnLink_25 rfl rfl ?_
  refine zld_ar_s h hH (by omega) dX5_turnLink_26 ?_
  rw [zM_1]
  rw [show (zup (S 9 1) ((5 + 5 * a + 4)) (zxor (S 9 1 (5 + 5 * a + 4)) (1 * 2 ^ b.toNat)) (5 + 5 * b + 4) : Int) = S 9 1 (5 + 5 * b + 4) from by (first | rw [zup_s] | rw [zup_n (by omega)])]
  have f_26 := zW_nb hw (show 0 ≤ b ∧ b < 8 by omega)
  refine zb_ic h dX5_turnLink_27 ?_
  refine lv_iload_n hx hb dX5_turnLink_28 rfl (lv_at hl 1 rfl) ?_
  refine zb_ishl h (by omega) (by omega) (zsh1 (by omega)) dX5_turnLink_29 ?_
  refine zb_ixor h dX5_turnLink_30 ?_
  refine zst_ar_s h hH (by omega) dX5_turnLink_31 (fun H locs hH => ?_)
  rw [zs_M1] at hH
  refine zrv h hr hH ?_ dX5_turnLink_32
  exact rfl
theorem dX5_exposes_0 : decode cX5_exposes 0 = .ok (.aload_n 0, 1) := by decide +kernel
theorem dX5_exposes_1 : decode cX5_exposes 1 = .ok (.getfield 7, 3) := by decide +kernel
theorem dX5_exposes_4 : decode cX5_exposes 4 = .ok (.iconst 0, 1) := by decide +kernel
theorem dX5_exposes_5 : decode cX5_exposes 5 = .ok (.iload_n 1, 1) := by decide +kernel
theorem dX5_exposes_6 : decode cX5_exposes 6 = .ok (.iastore, 1) := by decide +kernel
theorem dX5_exposes_7 : decode cX5_exposes 7 = .ok (.aload_n 0, 1) := by decide +kernel
theorem dX5_exposes_8 : decode cX5_exposes 8 = .ok (.invokevirtual 107, 3) := by decide +kernel
theorem dX5_exposes_11 : decode cX5_exposes 11 = .ok (.ireturn, 1) := by decide +kernel
def q_X5_exposes (S : zM) (t : Int) : Int32 → zM → Prop := fun r S1 => r = zI (tCnt (zup (S 9 1) 0 t) 0) ∧ ∃ M', zMo S (S 9 0) (zup (S 9 1) 0 t) (S 9 2) (S 9 3) (S 9 4) M' (S 9 6) = S1
def r_X5_exposes : Room := { frames := 6, cells := 0, slots := 0, locals := 133 }
set_option maxHeartbeats 4000000 in
set_option maxRecDepth 100000 in
theorem c_X5_exposes (l : Launch) (G : zG) (hG : zok G) (S : zM) (t : Int) (ht : 1 ≤ t ∧ t ≤ 2000) (hw : zW (S 9 1)) : Met l yX5_exposes (Cond.code yX5_exposes cX5_exposes 2 (some FieldType.int) :: zTbl) r_X5_exposes (va_Pc [.ref (za G 9 0), .int (zI t)] (zB G S)) (va_Qi (q_X5_exposes S t) (zB G) (zA G)) 0 0 (zA G) := by
  refine zMet [(0, .ref (za G 9 0)), (1, .int (zI t))] hG (by decide) (Nat.le_of_ble_eq_true rfl) rfl (fun p e s m args below meth c ls h hx hb hr hH hl => ?_)
  rw [← zM_id S] at hH
  refine lv_aload_n hx hb dX5_exposes_0 rfl (lv_at hl 0 rfl) ?_
  refine zg_5_1 h hH zf_X5_7 dX5_exposes_1 ?_
  refine zb_ic h dX5_exposes_4 ?_
  refine lv_iload_n hx hb dX5_exposes_5 rfl (lv_at hl 1 rfl) ?_
  refine zst_ar_s h hH (by omega) dX5_exposes_6 (fun H locs hH => ?_)
  rw [zs_M1] at hH
  have hw1 := zW_up0 hw ht
  refine lv_aload_n hx hb dX5_exposes_7 rfl (lv_at hl 0 rfl) ?_
  refine zcVi h hH (zr_5 h hH) (As := []) (rest := []) (c_X5_right l G hG (zMo S (S 9 0) (zup (S 9 1) (0) t) (S 9 2) (S 9 3) (S 9 4) (S 9 5) (S 9 6)) (zM_hw hw1)) zce_X5_right zcv_X5_right zm_X5_107 hl.1 rfl rfl ⟨rfl, rfl⟩ ⟨Nat.le_of_ble_eq_true rfl, Nat.le_of_ble_eq_true rfl⟩ (Nat.le_of_ble_eq_true rfl) ⟨Nat.zero_le _, Nat.zero_le _⟩ dX5_exposes_8 (fun r_8 S_8 H locs hq hH => ?_)
  obtain ⟨rfl, M_8, rfl⟩ := hq
  simp only [zM_M, zM_0, zM_1, zM_2, zM_3, zM_4, zM_5, zM_6] at hH
  rw [zM_1]
  refine zri h hr hH ?_ dX5_exposes_11
  exact ⟨rfl, _, rfl⟩
theorem dX5_parts_0 : decode cX5_parts 0 = .ok (.aload_n 0, 1) := by decide +kernel
theorem dX5_parts_1 : decode cX5_parts 1 = .ok (.getfield 7, 3) := by decide +kernel
theorem dX5_parts_4 : decode cX5_parts 4 = .ok (.iload_n 1, 1) := by decide +kernel
theorem dX5_parts_5 : decode cX5_parts 5 = .ok (.iload_n 2, 1) := by decide +kernel
theorem dX5_parts_6 : decode cX5_parts 6 = .ok (.invokestatic 51, 3) := by decide +kernel
theorem dX5_parts_9 : decode cX5_parts 9 = .ok (.iload_n 3, 1) := by decide +kernel
theorem dX5_parts_10 : decode cX5_parts 10 = .ok (.iastore, 1) := by decide +kernel
theorem dX5_parts_11 : decode cX5_parts 11 = .ok (.aload_n 0, 1) := by decide +kernel
theorem dX5_parts_12 : decode cX5_parts 12 = .ok (.iload_n 1, 1) := by decide +kernel
theorem dX5_parts_13 : decode cX5_parts 13 = .ok (.invokevirtual 71, 3) := by decide +kernel
theorem dX5_parts_16 : decode cX5_parts 16 = .ok (.ireturn, 1) := by decide +kernel
def q_X5_parts_bu (S : zM) (z t : Int) : Int32 → zM → Prop := fun r S1 => r = zI (tTo (zup (S 9 1) (5 + 5 * z + 2) t) z) ∧ ∃ M', zMo S (S 9 0) (zup (S 9 1) (5 + 5 * z + 2) t) (S 9 2) (S 9 3) (S 9 4) M' (S 9 6) = S1
def r_X5_parts_bu : Room := { frames := 4, cells := 0, slots := 0, locals := 90 }
set_option maxHeartbeats 4000000 in
set_option maxRecDepth 100000 in
theorem c_X5_parts_bu (l : Launch) (G : zG) (hG : zok G) (S : zM) (z t : Int) (hz : 0 ≤ z ∧ z < 8) (ht : 0 ≤ t ∧ t ≤ 999) (hw : zW (S 9 1)) : Met l yX5_parts (Cond.code yX5_parts cX5_parts 4 (some FieldType.int) :: zTbl) r_X5_parts_bu (va_Pc [.ref (za G 9 0), .int (zI z), .int (zI 2), .int (zI t)] (zB G S)) (va_Qi (q_X5_parts_bu S z t) (zB G) (zA G)) 0 0 (zA G) := by
  refine zMet [(0, .ref (za G 9 0)), (1, .int (zI z)), (2, .int (zI 2)), (3, .int (zI t))] hG (by decide) (Nat.le_of_ble_eq_true rfl) rfl (fun p e s m args below meth c ls h hx hb hr hH hl => ?_)
  rw [← zM_id S] at hH
  refine lv_aload_n hx hb dX5_parts_0 rfl (lv_at hl 0 rfl) ?_
  refine zg_5_1 h hH zf_X5_7 dX5_parts_1 ?_
  refine lv_iload_n hx hb dX5_parts_4 rfl (lv_at hl 1 rfl) ?_
  refine lv_iload_n hx hb dX5_parts_5 rfl (lv_at hl 2 rfl) ?_
  refine zcSi h hH (As := [.int (zI z), .int (zI 2)]) (rest := [.ref (za G 9 1)]) (c_X5_of l G hG (zMo S (S 9 0) (S 9 1) (S 9 2) (S 9 3) (S 9 4) (S 9 5) (S 9 6)) z 2) zce_X5_of zt_X5_of zm_X5_51 hl.1 rfl rfl ⟨rfl, rfl⟩ ⟨Nat.le_of_ble_eq_true rfl, Nat.le_of_ble_eq_true rfl⟩ (Nat.le_of_ble_eq_true rfl) ⟨Nat.zero_le _, Nat.zero_le _⟩ dX5_parts_6 (fun r_6 S_6 H locs hq hH => ?_)
  obtain ⟨rfl, rfl⟩ := hq
  refine lv_iload_n hx hb dX5_parts_9 rfl (lv_at hl 3 rfl) ?_
  refine zst_ar_s h hH (by omega) dX5_parts_10 (fun H locs hH => ?_)
  rw [zs_M1] at hH
  have hw1 := zW_upz hw (z := z) (w := 2) (v := t) hz.1 (by omega) (by omega) rfl
  refine lv_aload_n hx hb dX5_parts_11 rfl (lv_at hl 0 rfl) ?_
  refine lv_iload_n hx hb dX5_parts_12 rfl (lv_at hl 1 rfl) ?_
  refine zcVi h hH (zr_5 h hH) (As := [.int (zI z)]) (rest := []) (c_X5_tone l G hG (zMo S (S 9 0) (zup (S 9 1) ((5 + 5 * z + 2)) t) (S 9 2) (S 9 3) (S 9 4) (S 9 5) (S 9 6)) z (by omega) (zM_hw hw1)) zce_X5_tone zcv_X5_tone zm_X5_71 hl.1 rfl rfl ⟨rfl, rfl⟩ ⟨Nat.le_of_ble_eq_true rfl, Nat.le_of_ble_eq_true rfl⟩ (Nat.le_of_ble_eq_true rfl) ⟨Nat.zero_le _, Nat.zero_le _⟩ dX5_parts_13 (fun r_13 S_13 H locs hq hH => ?_)
  obtain ⟨rfl, M_13, rfl⟩ := hq
  simp only [zM_M, zM_0, zM_1, zM_2, zM_3, zM_4, zM_5, zM_6] at hH
  rw [zM_1]
  refine zri h hr hH ?_ dX5_parts_16
  exact ⟨rfl, _, rfl⟩
def q_X5_parts_ho (S : zM) (z t : Int) : Int32 → zM → Prop := fun r S1 => r = zI (tTo (zup (S 9 1) (5 + 5 * z + 3) t) z) ∧ ∃ M', zMo S (S 9 0) (zup (S 9 1) (5 + 5 * z + 3) t) (S 9 2) (S 9 3) (S 9 4) M' (S 9 6) = S1
def r_X5_parts_ho : Room := { frames := 4, cells := 0, slots := 0, locals := 90 }
set_option maxHeartbeats 4000000 in
set_option maxRecDepth 100000 in
theorem c_X5_parts_ho (l : Launch) (G : zG) (hG : zok G) (S : zM) (z t : Int) (hz : 0 ≤ z ∧ z < 8) (ht : 0 ≤ t ∧ t ≤ 999) (hw : zW (S 9 1)) : Met l yX5_parts (Cond.code yX5_parts cX5_parts 4 (some FieldType.int) :: zTbl) r_X5_parts_ho (va_Pc [.ref (za G 9 0), .int (zI z), .int (zI 3), .int (zI t)] (zB G S)) (va_Qi (q_X5_parts_ho S z t) (zB G) (zA G)) 0 0 (zA G) := by
  refine zMet [(0, .ref (za G 9 0)), (1, .int (zI z)), (2, .int (zI 3)), (3, .int (zI t))] hG (by decide) (Nat.le_of_ble_eq_true rfl) rfl (fun p e s m args below meth c ls h hx hb hr hH hl => ?_)
  rw [← zM_id S] at hH
  refine lv_aload_n hx hb dX5_parts_0 rfl (lv_at hl 0 rfl) ?_
  refine zg_5_1 h hH zf_X5_7 dX5_parts_1 ?_
  refine lv_iload_n hx hb dX5_parts_4 rfl (lv_at hl 1 rfl) ?_
  refine lv_iload_n hx hb dX5_parts_5 rfl (lv_at hl 2 rfl) ?_
  refine zcSi h hH (As := [.int (zI z), .int (zI 3)]) (rest := [.ref (za G 9 1)]) (c_X5_of l G hG (zMo S (S 9 0) (S 9 1) (S 9 2) (S 9 3) (S 9 4) (S 9 5) (S 9 6)) z 3) zce_X5_of zt_X5_of zm_X5_51 hl.1 rfl rfl ⟨rfl, rfl⟩ ⟨Nat.le_of_ble_eq_true rfl, Nat.le_of_ble_eq_true rfl⟩ (Nat.le_of_ble_eq_true rfl) ⟨Nat.zero_le _, Nat.zero_le _⟩ dX5_parts_6 (fun r_6 S_6 H locs hq hH => ?_)
  obtain ⟨rfl, rfl⟩ := hq
  refine lv_iload_n hx hb dX5_parts_9 rfl (lv_at hl 3 rfl) ?_
  refine zst_ar_s h hH (by omega) dX5_parts_10 (fun H locs hH => ?_)
  rw [zs_M1] at hH
  have hw1 := zW_upz hw (z := z) (w := 3) (v := t) hz.1 (by omega) (by omega) rfl
  refine lv_aload_n hx hb dX5_parts_11 rfl (lv_at hl 0 rfl) ?_
  refine lv_iload_n hx hb dX5_parts_12 rfl (lv_at hl 1 rfl) ?_
  refine zcVi h hH (zr_5 h hH) (As := [.int (zI z)]) (rest := []) (c_X5_tone l G hG (zMo S (S 9 0) (zup (S 9 1) ((5 + 5 * z + 3)) t) (S 9 2) (S 9 3) (S 9 4) (S 9 5) (S 9 6)) z (by omega) (zM_hw hw1)) zce_X5_tone zcv_X5_tone zm_X5_71 hl.1 rfl rfl ⟨rfl, rfl⟩ ⟨Nat.le_of_ble_eq_true rfl, Nat.le_of_ble_eq_true rfl⟩ (Nat.le_of_ble_eq_true rfl) ⟨Nat.zero_le _, Nat.zero_le _⟩ dX5_parts_13 (fun r_13 S_13 H locs hq hH => ?_)
  obtain ⟨rfl, M_13, rfl⟩ := hq
  simp only [zM_M, zM_0, zM_1, zM_2, zM_3, zM_4, zM_5, zM_6] at hH
  rw [zM_1]
  refine zri h hr hH ?_ dX5_parts_16
  exact ⟨rfl, _, rfl⟩
theorem dX5_middleTime_0 : decode cX5_middleTime 0 = .ok (.iconst 0, 1) := by decide +kernel
theorem dX5_middleTime_1 : decode cX5_middleTime 1 = .ok (.istore_n 1, 1) := by decide +kernel
theorem dX5_middleTime_2 : decode cX5_middleTime 2 = .ok (.iconst 0, 1) := by decide +kernel
theorem dX5_middleTime_3 : decode cX5_middleTime 3 = .ok (.istore_n 2, 1) := by decide +kernel
theorem dX5_middleTime_4 : decode cX5_middleTime 4 = .ok (.iload_n 2, 1) := by decide +kernel
theorem dX5_middleTime_5 : decode cX5_middleTime 5 = .ok (.aload_n 0, 1) := by decide +kernel
theorem dX5_middleTime_6 : decode cX5_middleTime 6 = .ok (.getfield 7, 3) := by decide +kernel
theorem dX5_middleTime_9 : decode cX5_middleTime 9 = .ok (.iconst 4, 1) := by decide +kernel
theorem dX5_middleTime_10 : decode cX5_middleTime 10 = .ok (.iaload, 1) := by decide +kernel
theorem dX5_middleTime_11 : decode cX5_middleTime 11 = .ok (.if_icmp .ge 74, 3) := by decide +kernel
theorem dX5_middleTime_14 : decode cX5_middleTime 14 = .ok (.aload_n 0, 1) := by decide +kernel
theorem dX5_middleTime_15 : decode cX5_middleTime 15 = .ok (.iload_n 2, 1) := by decide +kernel
theorem dX5_middleTime_16 : decode cX5_middleTime 16 = .ok (.invokevirtual 81, 3) := by decide +kernel
theorem dX5_middleTime_19 : decode cX5_middleTime 19 = .ok (.istore_n 3, 1) := by decide +kernel
theorem dX5_middleTime_20 : decode cX5_middleTime 20 = .ok (.iload_n 3, 1) := by decide +kernel
theorem dX5_middleTime_21 : decode cX5_middleTime 21 = .ok (.iconst (-1), 1) := by decide +kernel
theorem dX5_middleTime_22 : decode cX5_middleTime 22 = .ok (.if_icmp .eq 57, 3) := by decide +kernel
theorem dX5_middleTime_25 : decode cX5_middleTime 25 = .ok (.iload_n 1, 1) := by decide +kernel
theorem dX5_middleTime_26 : decode cX5_middleTime 26 = .ok (.istore 4, 2) := by decide +kernel
theorem dX5_middleTime_28 : decode cX5_middleTime 28 = .ok (.iload 4, 2) := by decide +kernel
theorem dX5_middleTime_30 : decode cX5_middleTime 30 = .ok (.ifCond .le 38, 3) := by decide +kernel
theorem dX5_middleTime_33 : decode cX5_middleTime 33 = .ok (.aload_n 0, 1) := by decide +kernel
theorem dX5_middleTime_34 : decode cX5_middleTime 34 = .ok (.getfield 25, 3) := by decide +kernel
theorem dX5_middleTime_37 : decode cX5_middleTime 37 = .ok (.iload 4, 2) := by decide +kernel
theorem dX5_middleTime_39 : decode cX5_middleTime 39 = .ok (.iconst 1, 1) := by decide +kernel
theorem dX5_middleTime_40 : decode cX5_middleTime 40 = .ok (.isub, 1) := by decide +kernel
theorem dX5_middleTime_41 : decode cX5_middleTime 41 = .ok (.iaload, 1) := by decide +kernel
theorem dX5_middleTime_42 : decode cX5_middleTime 42 = .ok (.iload_n 3, 1) := by decide +kernel
theorem dX5_middleTime_43 : decode cX5_middleTime 43 = .ok (.if_icmp .le 25, 3) := by decide +kernel
theorem dX5_middleTime_46 : decode cX5_middleTime 46 = .ok (.aload_n 0, 1) := by decide +kernel
theorem dX5_middleTime_47 : decode cX5_middleTime 47 = .ok (.getfield 25, 3) := by decide +kernel
theorem dX5_middleTime_50 : decode cX5_middleTime 50 = .ok (.iload 4, 2) := by decide +kernel
theorem dX5_middleTime_52 : decode cX5_middleTime 52 = .ok (.aload_n 0, 1) := by decide +kernel
theorem dX5_middleTime_53 : decode cX5_middleTime 53 = .ok (.getfield 25, 3) := by decide +kernel
theorem dX5_middleTime_56 : decode cX5_middleTime 56 = .ok (.iload 4, 2) := by decide +kernel
theorem dX5_middleTime_58 : decode cX5_middleTime 58 = .ok (.iconst 1, 1) := by decide +kernel
theorem dX5_middleTime_59 : decode cX5_middleTime 59 = .ok (.isub, 1) := by decide +kernel
theorem dX5_middleTime_60 : decode cX5_middleTime 60 = .ok (.iaload, 1) := by decide +kernel
theorem dX5_middleTime_61 : decode cX5_middleTime 61 = .ok (.iastore, 1) := by decide +kernel
theorem dX5_middleTime_62 : decode cX5_middleTime 62 = .ok (.iinc 4 (-1), 3) := by decide +kernel
theorem dX5_middleTime_65 : decode cX5_middleTime 65 = .ok (.goto (-37), 3) := by decide +kernel
theorem dX5_middleTime_68 : decode cX5_middleTime 68 = .ok (.aload_n 0, 1) := by decide +kernel
theorem dX5_middleTime_69 : decode cX5_middleTime 69 = .ok (.getfield 25, 3) := by decide +kernel
theorem dX5_middleTime_72 : decode cX5_middleTime 72 = .ok (.iload 4, 2) := by decide +kernel
theorem dX5_middleTime_74 : decode cX5_middleTime 74 = .ok (.iload_n 3, 1) := by decide +kernel
theorem dX5_middleTime_75 : decode cX5_middleTime 75 = .ok (.iastore, 1) := by decide +kernel
theorem dX5_middleTime_76 : decode cX5_middleTime 76 = .ok (.iinc 1 1, 3) := by decide +kernel
theorem dX5_middleTime_79 : decode cX5_middleTime 79 = .ok (.iinc 2 1, 3) := by decide +kernel
theorem dX5_middleTime_82 : decode cX5_middleTime 82 = .ok (.goto (-78), 3) := by decide +kernel
theorem dX5_middleTime_85 : decode cX5_middleTime 85 = .ok (.iload_n 1, 1) := by decide +kernel
theorem dX5_middleTime_86 : decode cX5_middleTime 86 = .ok (.ifCond .ne 7, 3) := by decide +kernel
theorem dX5_middleTime_89 : decode cX5_middleTime 89 = .ok (.iconst (-1), 1) := by decide +kernel
theorem dX5_middleTime_90 : decode cX5_middleTime 90 = .ok (.goto 13, 3) := by decide +kernel
theorem dX5_middleTime_93 : decode cX5_middleTime 93 = .ok (.aload_n 0, 1) := by decide +kernel
theorem dX5_middleTime_94 : decode cX5_middleTime 94 = .ok (.getfield 25, 3) := by decide +kernel
theorem dX5_middleTime_97 : decode cX5_middleTime 97 = .ok (.iload_n 1, 1) := by decide +kernel
theorem dX5_middleTime_98 : decode cX5_middleTime 98 = .ok (.iconst 1, 1) := by decide +kernel
theorem dX5_middleTime_99 : decode cX5_middleTime 99 = .ok (.isub, 1) := by decide +kernel
theorem dX5_middleTime_100 : decode cX5_middleTime 100 = .ok (.iconst 2, 1) := by decide +kernel
theorem dX5_middleTime_101 : decode cX5_middleTime 101 = .ok (.idiv, 1) := by decide +kernel
theorem dX5_middleTime_102 : decode cX5_middleTime 102 = .ok (.iaload, 1) := by decide +kernel
theorem dX5_middleTime_103 : decode cX5_middleTime 103 = .ok (.ireturn, 1) := by decide +kernel
def q_X5_middleTime (S : zM) : Int32 → zM → Prop := fun r S1 => r = zI (tMid (S 9 1)) ∧ ∃ M' L', zMo S (S 9 0) (S 9 1) (S 9 2) (S 9 3) (S 9 4) M' L' = S1
def r_X5_middleTime : Room := { frames := 5, cells := 0, slots := 0, locals := 116 }
set_option maxHeartbeats 4000000 in
set_option maxRecDepth 100000 in
theorem c_X5_middleTime (l : Launch) (G : zG) (hG : zok G) (S : zM) (hw : zW (S 9 1)) : Met l yX5_middleTime (Cond.code yX5_middleTime cX5_middleTime 5 (some FieldType.int) :: zTbl) r_X5_middleTime (va_Pc [.ref (za G 9 0)] (zB G S)) (va_Qi (q_X5_middleTime S) (zB G) (zA G)) 0 0 (zA G) := by
  refine zMet [(0, .ref (za G 9 0))] hG (by decide) (Nat.le_of_ble_eq_true rfl) rfl (fun p e s m args below meth c ls h hx hb hr hH hl => ?_)
  rw [← zM_id S] at hH
  have f4 := zW_4 hw
  have C4 : ∀ (fu : Nat) (o n : Int) (M L : Int → Int) (H : Heap) (locs : List Loc) (ls : Array Slot), (S 9 1 4 - o).toNat < fu → (0 ≤ o ∧ o ≤ S 9 1 4) → (n = zmsC (S 9 1) o.toNat) → (L = zmsQ (S 9 1) (S 9 6) o.toNat) → zH G (zMo S (S 9 0) (S 9 1) (S 9 2) (S 9 3) (S 9 4) M L) s H locs → lv_has ls 5 [(0, .ref (za G 9 0)), (1, .int (zI n)), (2, .int (zI o))] → W p l e r_X5_middleTime s m args below meth c H locs 0 0 (MQ below (va_Qi (q_X5_middleTime S) (zB G) (zA G)) args s 0 0 (zA G)) (F0 m 4 ls []) := by
    intro fu
    induction fu with
    | zero => intro o n M L H locs ls hfu; omega
    | succ fu ih4 =>
      intro o n M L H locs ls hfu ho hn hL hH hl
      have bn := zmsC_in (S 9 1) o.toNat
      have C28 : ∀ (fu : Nat) (j x : Int) (M2 L2 : Int → Int) (H : Heap) (locs : List Loc) (ls : Array Slot), (j).toNat < fu → (0 ≤ j ∧ j ≤ n) → (x = tLn (S 9 1) o) → (tLn (S 9 1) o ≠ -1) → (o < S 9 1 4) → (zins L2 x j.toNat = zins L x n.toNat) → (∀ i : Int, 0 ≤ i → i < j → L2 i = L i) → zH G (zMo S (S 9 0) (S 9 1) (S 9 2) (S 9 3) (S 9 4) M2 L2) s H locs → lv_has ls 5 [(0, .ref (za G 9 0)), (1, .int (zI n)), (2, .int (zI o)), (3, .int (zI x)), (4, .int (zI j))] → W p l e r_X5_middleTime s m args below meth c H locs 0 0 (MQ below (va_Qi (q_X5_middleTime S) (zB G) (zA G)) args s 0 0 (zA G)) (F0 m 28 ls []) := by
        intro fu
        induction fu with
        | zero => intro j x M2 L2 H locs ls hfu; omega
        | succ fu ih28 =>
          intro j x M2 L2 H locs ls hfu hj hx2 c_22 hol hLq hLj hH hl
          have b_20 := tLn_in hw o
          refine lv_iload hx hb dX5_middleTime_28 (lv_at hl 4 rfl) ?_
          refine zb_ile (tgt := 68) h (by omega) dX5_middleTime_30 (by decide) (fun c_30 => ?_) (fun c_30 => ?_)
          · have hLe : zup L2 j x = zins L x n.toNat := by rw [← hLq]; first | (rw [zins_s _ _ (by omega), if_neg (by omega)]; done) | (obtain rfl : j = 0 := (by omega); rfl)
            refine lv_aload_n hx hb dX5_middleTime_68 rfl (lv_at hl 0 rfl) ?_
            refine zg_5_8 h hH zf_X5_25 dX5_middleTime_69 ?_
            refine lv_iload hx hb dX5_middleTime_72 (lv_at hl 4 rfl) ?_
            refine lv_iload_n hx hb dX5_middleTime_74 rfl (lv_at hl 3 rfl) ?_
            refine zst_ar_ls h hH (by omega) dX5_middleTime_75 (fun H locs hH => ?_)
            rw [zs_M6] at hH
            refine lv_iinc (v := zI (n + 1)) (lv' := [(1, .int (zI (n + 1))), (0, .ref (za G 9 0)), (2, .int (zI o)), (3, .int (zI x)), (4, .int (zI j))]) hx hb dX5_middleTime_76 hl (k := 1) rfl (zI_add _ _) (by decide) rfl (fun ls hl => ?_)
            refine lv_iinc (v := zI (o + 1)) (lv' := [(2, .int (zI (o + 1))), (1, .int (zI (n + 1))), (0, .ref (za G 9 0)), (3, .int (zI x)), (4, .int (zI j))]) hx hb dX5_middleTime_79 hl (k := 2) rfl (zI_add _ _) (by decide) rfl (fun ls hl => ?_)
            refine lv_goto (tgt := 4) hx hb dX5_middleTime_82 (by decide) ?_
            exact ih4 (o + 1) (n + 1) M2 (zup L2 (j) x) _ _ _ (by omega) (by omega) (by rw [zmsC_s _ ho.1]; first | (rw [if_pos c_22]; exact hn) | (rw [if_neg c_22, hn])) (by rw [zmsQ_s _ _ ho.1]; first | (rw [if_pos c_22]; exact hL) | (rw [if_neg c_22, ← hL, ← hn, ← hx2]; exact hLe)) hH (lv_sub hl [2, 1, 0] rfl)
          · refine lv_aload_n hx hb dX5_middleTime_33 rfl (lv_at hl 0 rfl) ?_
            refine zg_5_8 h hH zf_X5_25 dX5_middleTime_34 ?_
            refine lv_iload hx hb dX5_middleTime_37 (lv_at hl 4 rfl) ?_
            refine zb_ic h dX5_middleTime_39 ?_
            refine zb_isub h dX5_middleTime_40 ?_
            refine zld_ar_ls h hH (by omega) dX5_middleTime_41 ?_
            rw [zM_6]
            refine lv_iload_n hx hb dX5_middleTime_42 rfl (lv_at hl 3 rfl) ?_
            have b_41 : 1 ≤ L2 (j - 1) ∧ L2 (j - 1) ≤ 9999 := by rw [hLj (j - 1) (by omega) (by omega), hL]; exact zmsQ_in hw (S 9 6) o.toNat (j - 1) (by omega) (by omega)
            refine zb_cle (tgt := 68) h (by omega) (by omega) dX5_middleTime_43 (by decide) (fun c_43 => ?_) (fun c_43 => ?_)
            · have hLe : zup L2 j x = zins L x n.toNat := by rw [← hLq]; first | (rw [zins_s _ _ (by omega), if_neg (by omega)]; done) | (obtain rfl : j = 0 := (by omega); rfl)
              refine lv_aload_n hx hb dX5_middleTime_68 rfl (lv_at hl 0 rfl) ?_
              refine zg_5_8 h hH zf_X5_25 dX5_middleTime_69 ?_
              refine lv_iload hx hb dX5_middleTime_72 (lv_at hl 4 rfl) ?_
              refine lv_iload_n hx hb dX5_middleTime_74 rfl (lv_at hl 3 rfl) ?_
              refine zst_ar_ls h hH (by omega) dX5_middleTime_75 (fun H locs hH => ?_)
              rw [zs_M6] at hH
              refine lv_iinc (v := zI (n + 1)) (lv' := [(1, .int (zI (n + 1))), (0, .ref (za G 9 0)), (2, .int (zI o)), (3, .int (zI x)), (4, .int (zI j))]) hx hb dX5_middleTime_76 hl (k := 1) rfl (zI_add _ _) (by decide) rfl (fun ls hl => ?_)
              refine lv_iinc (v := zI (o + 1)) (lv' := [(2, .int (zI (o + 1))), (1, .int (zI (n + 1))), (0, .ref (za G 9 0)), (3, .int (zI x)), (4, .int (zI j))]) hx hb dX5_middleTime_79 hl (k := 2) rfl (zI_add _ _) (by decide) rfl (fun ls hl => ?_)
              refine lv_goto (tgt := 4) hx hb dX5_middleTime_82 (by decide) ?_
              exact ih4 (o + 1) (n + 1) M2 (zup L2 (j) x) _ _ _ (by omega) (by omega) (by rw [zmsC_s _ ho.1]; first | (rw [if_pos c_22]; exact hn) | (rw [if_neg c_22, hn])) (by rw [zmsQ_s _ _ ho.1]; first | (rw [if_pos c_22]; exact hL) | (rw [if_neg c_22, ← hL, ← hn, ← hx2]; exact hLe)) hH (lv_sub hl [2, 1, 0] rfl)
            · refine lv_aload_n hx hb dX5_middleTime_46 rfl (lv_at hl 0 rfl) ?_
              refine zg_5_8 h hH zf_X5_25 dX5_middleTime_47 ?_
              refine lv_iload hx hb dX5_middleTime_50 (lv_at hl 4 rfl) ?_
              refine lv_aload_n hx hb dX5_middleTime_52 rfl (lv_at hl 0 rfl) ?_
              refine zg_5_8 h hH zf_X5_25 dX5_middleTime_53 ?_
              refine lv_iload hx hb dX5_middleTime_56 (lv_at hl 4 rfl) ?_
              refine zb_ic h dX5_middleTime_58 ?_
              refine zb_isub h dX5_middleTime_59 ?_
              refine zld_ar_ls h hH (by omega) dX5_middleTime_60 ?_
              rw [zM_6]
              refine zst_ar_ls h hH (by omega) dX5_middleTime_61 (fun H locs hH => ?_)
              rw [zs_M6] at hH
              refine lv_iinc (v := zI (j + (-1))) (lv' := [(4, .int (zI (j + (-1)))), (0, .ref (za G 9 0)), (1, .int (zI n)), (2, .int (zI o)), (3, .int (zI x))]) hx hb dX5_middleTime_62 hl (k := 4) rfl (zI_add _ _) (by decide) rfl (fun ls hl => ?_)
              refine lv_goto (tgt := 28) hx hb dX5_middleTime_65 (by decide) ?_
              exact ih28 (j + (-1)) x M2 (zup L2 (j) (L2 (j - 1))) _ _ _ (by omega) (by omega) (by first | rfl | assumption) c_22 (by omega) (by rw [← hLq, zins_s _ _ (by omega : 0 < j), if_pos (by omega), show j + (-1) = j - 1 by omega]) (fun i h1 h2 => by rw [zup_n (by omega)]; exact hLj i h1 (by omega)) hH (lv_sub hl [1, 2, 3, 4, 0] rfl)
      refine lv_iload_n hx hb dX5_middleTime_4 rfl (lv_at hl 2 rfl) ?_
      refine lv_aload_n hx hb dX5_middleTime_5 rfl (lv_at hl 0 rfl) ?_
      refine zg_5_1 h hH zf_X5_7 dX5_middleTime_6 ?_
      refine zb_ic h dX5_middleTime_9 ?_
      refine zld_ar_s h hH (by omega) dX5_middleTime_10 ?_
      rw [zM_1]
      have f_10 := zW_4 hw
      refine zb_cge (tgt := 85) h (by omega) (by omega) dX5_middleTime_11 (by decide) (fun c_11 => ?_) (fun c_11 => ?_)
      · obtain rfl : o = S 9 1 4 := by omega
        refine lv_iload_n hx hb dX5_middleTime_85 rfl (lv_at hl 1 rfl) ?_
        refine zb_ine (tgt := 93) h (by omega) dX5_middleTime_86 (by decide) (fun c_86 => ?_) (fun c_86 => ?_)
        · refine lv_aload_n hx hb dX5_middleTime_93 rfl (lv_at hl 0 rfl) ?_
          refine zg_5_8 h hH zf_X5_25 dX5_middleTime_94 ?_
          refine lv_iload_n hx hb dX5_middleTime_97 rfl (lv_at hl 1 rfl) ?_
          refine zb_ic h dX5_middleTime_98 ?_
          refine zb_isub h dX5_middleTime_99 ?_
          refine zb_ic h dX5_middleTime_100 ?_
          refine zb_idiv h (by omega) (by omega) dX5_middleTime_101 ?_
          refine zld_ar_ls h hH (by omega) dX5_middleTime_102 ?_
          rw [zM_6]
          refine zri h hr hH ?_ dX5_middleTime_103
          first | exact ⟨congrArg zI (by unfold tMid; rw [if_pos (by omega)]), _, _, rfl⟩ | exact ⟨congrArg zI (by unfold tMid; rw [if_neg (by omega), zmsQ_congr _ _ (S 9 6) _ _ (by omega) (by omega), ← hL, ← hn]), _, _, rfl⟩
        · refine zb_ic h dX5_middleTime_89 ?_
          refine lv_goto (tgt := 103) hx hb dX5_middleTime_90 (by decide) ?_
          refine zri h hr hH ?_ dX5_middleTime_103
          first | exact ⟨congrArg zI (by unfold tMid; rw [if_pos (by omega)]), _, _, rfl⟩ | exact ⟨congrArg zI (by unfold tMid; rw [if_neg (by omega), zmsQ_congr _ _ (S 9 6) _ _ (by omega) (by omega), ← hL, ← hn]), _, _, rfl⟩
      · refine lv_aload_n hx hb dX5_middleTime_14 rfl (lv_at hl 0 rfl) ?_
        refine lv_iload_n hx hb dX5_middleTime_15 rfl (lv_at hl 2 rfl) ?_
        refine zcVi h hH (zr_5 h hH) (As := [.int (zI o)]) (rest := []) (c_X5_leastNeeded l G hG (zMo S (S 9 0) (S 9 1) (S 9 2) (S 9 3) (S 9 4) M L) o (by omega) (zM_hw hw)) zce_X5_leastNeeded zcv_X5_leastNeeded zm_X5_81 hl.1 rfl rfl ⟨rfl, rfl⟩ ⟨Nat.le_of_ble_eq_true rfl, Nat.le_of_ble_eq_true rfl⟩ (Nat.le_of_ble_eq_true rfl) ⟨Nat.zero_le _, Nat.zero_le _⟩ dX5_middleTime_16 (fun r_16 S_16 H locs hq hH => ?_)
        obtain ⟨rfl, M_16, rfl⟩ := hq
        simp only [zM_M, zM_0, zM_1, zM_2, zM_3, zM_4, zM_5, zM_6] at hH
        rw [zM_1]
        refine lv_istore_n (lv' := [(3, .int (zI (tLn (S 9 1) o))), (0, .ref (za G 9 0)), (1, .int (zI n)), (2, .int (zI o))]) hx hb dX5_middleTime_19 rfl hl (by decide) rfl (fun ls hl => ?_)
        have b_20 := tLn_in hw o
        refine lv_iload_n hx hb dX5_middleTime_20 rfl (lv_at hl 0 rfl) ?_
        refine zb_ic h dX5_middleTime_21 ?_
        refine zb_ceq (tgt := 79) h (by omega) (by omega) dX5_middleTime_22 (by decide) (fun c_22 => ?_) (fun c_22 => ?_)
        · refine lv_iinc (v := zI (o + 1)) (lv' := [(2, .int (zI (o + 1))), (3, .int (zI (tLn (S 9 1) o))), (0, .ref (za G 9 0)), (1, .int (zI n))]) hx hb dX5_middleTime_79 hl (k := 3) rfl (zI_add _ _) (by decide) rfl (fun ls hl => ?_)
          refine lv_goto (tgt := 4) hx hb dX5_middleTime_82 (by decide) ?_
          exact ih4 (o + 1) n M_16 L _ _ _ (by omega) (by omega) (by rw [zmsC_s _ ho.1]; first | (rw [if_pos c_22]; exact hn) | (rw [if_neg c_22, hn])) (by rw [zmsQ_s _ _ ho.1]; first | (rw [if_pos c_22]; exact hL) | (rw [if_neg c_22, ← hL, ← hn, ← hx2]; exact hLe)) hH (lv_sub hl [2, 3, 0] rfl)
        · refine lv_iload_n hx hb dX5_middleTime_25 rfl (lv_at hl 2 rfl) ?_
          refine lv_istore (lv' := [(4, .int (zI n)), (3, .int (zI (tLn (S 9 1) o))), (0, .ref (za G 9 0)), (1, .int (zI n)), (2, .int (zI o))]) hx hb dX5_middleTime_26 hl (by decide) rfl (fun ls hl => ?_)
          exact C28 ((n : Int).toNat + 1) n (tLn (S 9 1) o) M_16 L _ _ _ (by omega) (by omega) (by first | rfl | assumption) c_22 (by omega) rfl (fun _ _ _ => rfl) hH (lv_sub hl [2, 3, 4, 1, 0] rfl)
  refine zb_ic h dX5_middleTime_0 ?_
  refine lv_istore_n (lv' := [(1, .int (zI 0)), (0, .ref (za G 9 0))]) hx hb dX5_middleTime_1 rfl hl (by decide) rfl (fun ls hl => ?_)
  refine zb_ic h dX5_middleTime_2 ?_
  refine lv_istore_n (lv' := [(2, .int (zI 0)), (1, .int (zI 0)), (0, .ref (za G 9 0))]) hx hb dX5_middleTime_3 rfl hl (by decide) rfl (fun ls hl => ?_)
  exact C4 ((S 9 1 4 - 0 : Int).toNat + 1) 0 0 (S 9 5) (S 9 6) _ _ _ (by omega) (by omega) rfl rfl hH (lv_sub hl [2, 1, 0] rfl)
end
