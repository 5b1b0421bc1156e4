section
-- ===== PART A: goes FIRST, ahead of the names: the tables' words, and 'selects' of the private methods out of them =====
/-- a private method of a class that the tables say can be made, by its rows of tables_1 -/
def lw_okq (q : MethodName × Nat) : Prop := (q.1.cls ≠ "java/lang/invoke/MethodHandle" ∧ q.1.cls ≠ "java/lang/invoke/VarHandle") ∧ Cond.instantiable q.1.cls q.2 ∈ tables_1 ∧ Cond.privateMethod q.1 ∈ tables_1 ∧ Cond.instanceMethod q.1 ∈ tables_1
theorem lw_p0 : lw_okq (⟨"AfternoonMeter", "checkBee", "(I)V"⟩, 17) := ⟨⟨by decide +kernel, by decide +kernel⟩, List.mem_of_getElem? (i := 11) (by decide +kernel), List.mem_of_getElem? (i := 124) (by decide +kernel), List.mem_of_getElem? (i := 125) (by decide +kernel)⟩
theorem lw_p1 : lw_okq (⟨"java/lang/Throwable", "fillInStackTrace", "(I)Ljava/lang/Throwable;"⟩, 6) := ⟨⟨by decide +kernel, by decide +kernel⟩, List.mem_of_getElem? (i := 166) (by decide +kernel), List.mem_of_getElem? (i := 164) (by decide +kernel), List.mem_of_getElem? (i := 165) (by decide +kernel)⟩
theorem lw_p2 : lw_okq (⟨"AfternoonMeter", "countTicks", "(I)I"⟩, 17) := ⟨⟨by decide +kernel, by decide +kernel⟩, List.mem_of_getElem? (i := 11) (by decide +kernel), List.mem_of_getElem? (i := 196) (by decide +kernel), List.mem_of_getElem? (i := 197) (by decide +kernel)⟩
theorem lw_p3 : lw_okq (⟨"AfternoonMeter", "ticksIn", "(II)Z"⟩, 17) := ⟨⟨by decide +kernel, by decide +kernel⟩, List.mem_of_getElem? (i := 11) (by decide +kernel), List.mem_of_getElem? (i := 200) (by decide +kernel), List.mem_of_getElem? (i := 201) (by decide +kernel)⟩
theorem lw_p4 : lw_okq (⟨"AfternoonMeter", "hasBeatIn", "(II)Z"⟩, 17) := ⟨⟨by decide +kernel, by decide +kernel⟩, List.mem_of_getElem? (i := 11) (by decide +kernel), List.mem_of_getElem? (i := 204) (by decide +kernel), List.mem_of_getElem? (i := 205) (by decide +kernel)⟩
theorem lw_p5 : lw_okq (⟨"AfternoonMeter", "contentAfter", "(III)I"⟩, 17) := ⟨⟨by decide +kernel, by decide +kernel⟩, List.mem_of_getElem? (i := 11) (by decide +kernel), List.mem_of_getElem? (i := 223) (by decide +kernel), List.mem_of_getElem? (i := 224) (by decide +kernel)⟩
theorem lw_p6 : lw_okq (⟨"AfternoonMeter", "excess", "(I)I"⟩, 17) := ⟨⟨by decide +kernel, by decide +kernel⟩, List.mem_of_getElem? (i := 11) (by decide +kernel), List.mem_of_getElem? (i := 227) (by decide +kernel), List.mem_of_getElem? (i := 228) (by decide +kernel)⟩
theorem lw_p7 : lw_okq (⟨"AfternoonMeter", "firstSpillWith", "(I)I"⟩, 17) := ⟨⟨by decide +kernel, by decide +kernel⟩, List.mem_of_getElem? (i := 11) (by decide +kernel), List.mem_of_getElem? (i := 235) (by decide +kernel), List.mem_of_getElem? (i := 236) (by decide +kernel)⟩
theorem lw_p8 : lw_okq (⟨"AfternoonMeter", "countAlone", "(I)I"⟩, 17) := ⟨⟨by decide +kernel, by decide +kernel⟩, List.mem_of_getElem? (i := 11) (by decide +kernel), List.mem_of_getElem? (i := 247) (by decide +kernel), List.mem_of_getElem? (i := 248) (by decide +kernel)⟩
theorem lw_p9 : lw_okq (⟨"AfternoonMeter", "covers", "(II)Z"⟩, 17) := ⟨⟨by decide +kernel, by decide +kernel⟩, List.mem_of_getElem? (i := 11) (by decide +kernel), List.mem_of_getElem? (i := 251) (by decide +kernel), List.mem_of_getElem? (i := 252) (by decide +kernel)⟩
theorem lw_p10 : lw_okq (⟨"AfternoonMeter", "sumOfShadows", "(I)I"⟩, 17) := ⟨⟨by decide +kernel, by decide +kernel⟩, List.mem_of_getElem? (i := 11) (by decide +kernel), List.mem_of_getElem? (i := 259) (by decide +kernel), List.mem_of_getElem? (i := 260) (by decide +kernel)⟩
theorem lw_p11 : lw_okq (⟨"AfternoonMeter", "shadowOf", "(II)I"⟩, 17) := ⟨⟨by decide +kernel, by decide +kernel⟩, List.mem_of_getElem? (i := 11) (by decide +kernel), List.mem_of_getElem? (i := 263) (by decide +kernel), List.mem_of_getElem? (i := 264) (by decide +kernel)⟩
theorem lw_p12 : lw_okq (⟨"AfternoonMeter", "withSticks", "(J)J"⟩, 17) := ⟨⟨by decide +kernel, by decide +kernel⟩, List.mem_of_getElem? (i := 11) (by decide +kernel), List.mem_of_getElem? (i := 278) (by decide +kernel), List.mem_of_getElem? (i := 279) (by decide +kernel)⟩
theorem lw_p13 : lw_okq (⟨"AfternoonMeter", "withNaps", "(J)J"⟩, 17) := ⟨⟨by decide +kernel, by decide +kernel⟩, List.mem_of_getElem? (i := 11) (by decide +kernel), List.mem_of_getElem? (i := 282) (by decide +kernel), List.mem_of_getElem? (i := 283) (by decide +kernel)⟩
theorem lw_p14 : lw_okq (⟨"AfternoonMeter", "withBees", "(J)J"⟩, 17) := ⟨⟨by decide +kernel, by decide +kernel⟩, List.mem_of_getElem? (i := 11) (by decide +kernel), List.mem_of_getElem? (i := 286) (by decide +kernel), List.mem_of_getElem? (i := 287) (by decide +kernel)⟩
theorem lw_p15 : lw_okq (⟨"AfternoonMeter", "changeCover", "(II)V"⟩, 17) := ⟨⟨by decide +kernel, by decide +kernel⟩, List.mem_of_getElem? (i := 11) (by decide +kernel), List.mem_of_getElem? (i := 344) (by decide +kernel), List.mem_of_getElem? (i := 345) (by decide +kernel)⟩
def lw_privs_1 : List (MethodName × Nat) := [(⟨"AfternoonMeter", "checkBee", "(I)V"⟩, 17), (⟨"java/lang/Throwable", "fillInStackTrace", "(I)Ljava/lang/Throwable;"⟩, 6), (⟨"AfternoonMeter", "countTicks", "(I)I"⟩, 17), (⟨"AfternoonMeter", "ticksIn", "(II)Z"⟩, 17), (⟨"AfternoonMeter", "hasBeatIn", "(II)Z"⟩, 17), (⟨"AfternoonMeter", "contentAfter", "(III)I"⟩, 17), (⟨"AfternoonMeter", "excess", "(I)I"⟩, 17), (⟨"AfternoonMeter", "firstSpillWith", "(I)I"⟩, 17), (⟨"AfternoonMeter", "countAlone", "(I)I"⟩, 17), (⟨"AfternoonMeter", "covers", "(II)Z"⟩, 17), (⟨"AfternoonMeter", "sumOfShadows", "(I)I"⟩, 17), (⟨"AfternoonMeter", "shadowOf", "(II)I"⟩, 17), (⟨"AfternoonMeter", "withSticks", "(J)J"⟩, 17), (⟨"AfternoonMeter", "withNaps", "(J)J"⟩, 17), (⟨"AfternoonMeter", "withBees", "(J)J"⟩, 17), (⟨"AfternoonMeter", "changeCover", "(II)V"⟩, 17)]
theorem lw_r1 : ∀ q ∈ lw_privs_1, lw_okq q := List.forall_mem_cons.mpr ⟨lw_p0, List.forall_mem_cons.mpr ⟨lw_p1, List.forall_mem_cons.mpr ⟨lw_p2, List.forall_mem_cons.mpr ⟨lw_p3, List.forall_mem_cons.mpr ⟨lw_p4, List.forall_mem_cons.mpr ⟨lw_p5, List.forall_mem_cons.mpr ⟨lw_p6, List.forall_mem_cons.mpr ⟨lw_p7, List.forall_mem_cons.mpr ⟨lw_p8, List.forall_mem_cons.mpr ⟨lw_p9, List.forall_mem_cons.mpr ⟨lw_p10, List.forall_mem_cons.mpr ⟨lw_p11, List.forall_mem_cons.mpr ⟨lw_p12, List.forall_mem_cons.mpr ⟨lw_p13, List.forall_mem_cons.mpr ⟨lw_p14, List.forall_mem_cons.mpr ⟨lw_p15, fun _ h => absurd h List.not_mem_nil⟩⟩⟩⟩⟩⟩⟩⟩⟩⟩⟩⟩⟩⟩⟩⟩
theorem lw_p16 : lw_okq (⟨"AfternoonMeter", "checkNap", "(I)V"⟩, 17) := ⟨⟨by decide +kernel, by decide +kernel⟩, List.mem_of_getElem? (i := 11) (by decide +kernel), List.mem_of_getElem? (i := 356) (by decide +kernel), List.mem_of_getElem? (i := 357) (by decide +kernel)⟩
theorem lw_p17 : lw_okq (⟨"AfternoonMeter", "pourInto", "(I)I"⟩, 17) := ⟨⟨by decide +kernel, by decide +kernel⟩, List.mem_of_getElem? (i := 11) (by decide +kernel), List.mem_of_getElem? (i := 380) (by decide +kernel), List.mem_of_getElem? (i := 381) (by decide +kernel)⟩
theorem lw_p18 : lw_okq (⟨"AfternoonMeter", "checkMinute", "(I)V"⟩, 17) := ⟨⟨by decide +kernel, by decide +kernel⟩, List.mem_of_getElem? (i := 11) (by decide +kernel), List.mem_of_getElem? (i := 400) (by decide +kernel), List.mem_of_getElem? (i := 401) (by decide +kernel)⟩
theorem lw_p19 : lw_okq (⟨"AfternoonMeter", "checkStick", "(I)V"⟩, 17) := ⟨⟨by decide +kernel, by decide +kernel⟩, List.mem_of_getElem? (i := 11) (by decide +kernel), List.mem_of_getElem? (i := 412) (by decide +kernel), List.mem_of_getElem? (i := 413) (by decide +kernel)⟩
theorem lw_p20 : lw_okq (⟨"AfternoonMeterModel", "no", "(I)I"⟩, 17) := ⟨⟨by decide +kernel, by decide +kernel⟩, List.mem_of_getElem? (i := 478) (by decide +kernel), List.mem_of_getElem? (i := 547) (by decide +kernel), List.mem_of_getElem? (i := 548) (by decide +kernel)⟩
theorem lw_p21 : lw_okq (⟨"AfternoonMeterModel", "lay", "(II)V"⟩, 17) := ⟨⟨by decide +kernel, by decide +kernel⟩, List.mem_of_getElem? (i := 478) (by decide +kernel), List.mem_of_getElem? (i := 555) (by decide +kernel), List.mem_of_getElem? (i := 556) (by decide +kernel)⟩
theorem lw_p22 : lw_okq (⟨"AfternoonMeterModel", "isNap", "(I)Z"⟩, 17) := ⟨⟨by decide +kernel, by decide +kernel⟩, List.mem_of_getElem? (i := 478) (by decide +kernel), List.mem_of_getElem? (i := 563) (by decide +kernel), List.mem_of_getElem? (i := 564) (by decide +kernel)⟩
theorem lw_p23 : lw_okq (⟨"AfternoonMeterModel", "go", "(I)I"⟩, 17) := ⟨⟨by decide +kernel, by decide +kernel⟩, List.mem_of_getElem? (i := 478) (by decide +kernel), List.mem_of_getElem? (i := 580) (by decide +kernel), List.mem_of_getElem? (i := 581) (by decide +kernel)⟩
theorem lw_p24 : lw_okq (⟨"AfternoonMeterModel", "poured", "(III)I"⟩, 17) := ⟨⟨by decide +kernel, by decide +kernel⟩, List.mem_of_getElem? (i := 478) (by decide +kernel), List.mem_of_getElem? (i := 584) (by decide +kernel), List.mem_of_getElem? (i := 585) (by decide +kernel)⟩
theorem lw_p25 : lw_okq (⟨"AfternoonMeterModel", "isAwake", "(I)Z"⟩, 17) := ⟨⟨by decide +kernel, by decide +kernel⟩, List.mem_of_getElem? (i := 478) (by decide +kernel), List.mem_of_getElem? (i := 588) (by decide +kernel), List.mem_of_getElem? (i := 589) (by decide +kernel)⟩
theorem lw_p26 : lw_okq (⟨"AfternoonMeterModel", "ticks", "(II)Z"⟩, 17) := ⟨⟨by decide +kernel, by decide +kernel⟩, List.mem_of_getElem? (i := 478) (by decide +kernel), List.mem_of_getElem? (i := 592) (by decide +kernel), List.mem_of_getElem? (i := 593) (by decide +kernel)⟩
theorem lw_p27 : lw_okq (⟨"AfternoonMeterModel", "ok", "(I)I"⟩, 17) := ⟨⟨by decide +kernel, by decide +kernel⟩, List.mem_of_getElem? (i := 478) (by decide +kernel), List.mem_of_getElem? (i := 607) (by decide +kernel), List.mem_of_getElem? (i := 608) (by decide +kernel)⟩
theorem lw_p28 : lw_okq (⟨"AfternoonMeterModel", "awake", "(I)I"⟩, 17) := ⟨⟨by decide +kernel, by decide +kernel⟩, List.mem_of_getElem? (i := 478) (by decide +kernel), List.mem_of_getElem? (i := 626) (by decide +kernel), List.mem_of_getElem? (i := 627) (by decide +kernel)⟩
theorem lw_p29 : lw_okq (⟨"AfternoonMeterModel", "longest", "()I"⟩, 17) := ⟨⟨by decide +kernel, by decide +kernel⟩, List.mem_of_getElem? (i := 478) (by decide +kernel), List.mem_of_getElem? (i := 638) (by decide +kernel), List.mem_of_getElem? (i := 639) (by decide +kernel)⟩
theorem lw_p30 : lw_okq (⟨"AfternoonMeterModel", "isStick", "(I)Z"⟩, 17) := ⟨⟨by decide +kernel, by decide +kernel⟩, List.mem_of_getElem? (i := 478) (by decide +kernel), List.mem_of_getElem? (i := 650) (by decide +kernel), List.mem_of_getElem? (i := 651) (by decide +kernel)⟩
theorem lw_p31 : lw_okq (⟨"AfternoonMeterModel", "shadow", "(II)I"⟩, 17) := ⟨⟨by decide +kernel, by decide +kernel⟩, List.mem_of_getElem? (i := 478) (by decide +kernel), List.mem_of_getElem? (i := 654) (by decide +kernel), List.mem_of_getElem? (i := 655) (by decide +kernel)⟩
def lw_privs_2 : List (MethodName × Nat) := [(⟨"AfternoonMeter", "checkNap", "(I)V"⟩, 17), (⟨"AfternoonMeter", "pourInto", "(I)I"⟩, 17), (⟨"AfternoonMeter", "checkMinute", "(I)V"⟩, 17), (⟨"AfternoonMeter", "checkStick", "(I)V"⟩, 17), (⟨"AfternoonMeterModel", "no", "(I)I"⟩, 17), (⟨"AfternoonMeterModel", "lay", "(II)V"⟩, 17), (⟨"AfternoonMeterModel", "isNap", "(I)Z"⟩, 17), (⟨"AfternoonMeterModel", "go", "(I)I"⟩, 17), (⟨"AfternoonMeterModel", "poured", "(III)I"⟩, 17), (⟨"AfternoonMeterModel", "isAwake", "(I)Z"⟩, 17), (⟨"AfternoonMeterModel", "ticks", "(II)Z"⟩, 17), (⟨"AfternoonMeterModel", "ok", "(I)I"⟩, 17), (⟨"AfternoonMeterModel", "awake", "(I)I"⟩, 17), (⟨"AfternoonMeterModel", "longest", "()I"⟩, 17), (⟨"AfternoonMeterModel", "isStick", "(I)Z"⟩, 17), (⟨"AfternoonMeterModel", "shadow", "(II)I"⟩, 17)]
theorem lw_r2 : ∀ q ∈ lw_privs_2, lw_okq q := List.forall_mem_cons.mpr ⟨lw_p16, List.forall_mem_cons.mpr ⟨lw_p17, List.forall_mem_cons.mpr ⟨lw_p18, List.forall_mem_cons.mpr ⟨lw_p19, List.forall_mem_cons.mpr ⟨lw_p20, List.forall_mem_cons.mpr ⟨lw_p21, List.forall_mem_cons.mpr ⟨lw_p22, List.forall_mem_cons.mpr ⟨lw_p23, List.forall_mem_cons.mpr ⟨lw_p24, List.forall_mem_cons.mpr ⟨lw_p25, List.forall_mem_cons.mpr ⟨lw_p26, List.forall_mem_cons.mpr ⟨lw_p27, List.forall_mem_cons.mpr ⟨lw_p28, List.forall_mem_cons.mpr ⟨lw_p29, List.forall_mem_cons.mpr ⟨lw_p30, List.forall_mem_cons.mpr ⟨lw_p31, fun _ h => absurd h List.not_mem_nil⟩⟩⟩⟩⟩⟩⟩⟩⟩⟩⟩⟩⟩⟩⟩⟩
theorem lw_p32 : lw_okq (⟨"AfternoonMeterModel", "alone", "(I)I"⟩, 17) := ⟨⟨by decide +kernel, by decide +kernel⟩, List.mem_of_getElem? (i := 478) (by decide +kernel), List.mem_of_getElem? (i := 686) (by decide +kernel), List.mem_of_getElem? (i := 687) (by decide +kernel)⟩
theorem lw_p33 : lw_okq (⟨"AfternoonMeterModel", "isBee", "(I)Z"⟩, 17) := ⟨⟨by decide +kernel, by decide +kernel⟩, List.mem_of_getElem? (i := 478) (by decide +kernel), List.mem_of_getElem? (i := 698) (by decide +kernel), List.mem_of_getElem? (i := 699) (by decide +kernel)⟩
theorem lw_p34 : lw_okq (⟨"AfternoonMeterModel", "ticked", "(I)I"⟩, 17) := ⟨⟨by decide +kernel, by decide +kernel⟩, List.mem_of_getElem? (i := 478) (by decide +kernel), List.mem_of_getElem? (i := 702) (by decide +kernel), List.mem_of_getElem? (i := 703) (by decide +kernel)⟩
theorem lw_p35 : lw_okq (⟨"AfternoonMeterModel", "error", "(I)I"⟩, 17) := ⟨⟨by decide +kernel, by decide +kernel⟩, List.mem_of_getElem? (i := 478) (by decide +kernel), List.mem_of_getElem? (i := 714) (by decide +kernel), List.mem_of_getElem? (i := 715) (by decide +kernel)⟩
theorem lw_p36 : lw_okq (⟨"AfternoonMeterModel", "best", "()I"⟩, 17) := ⟨⟨by decide +kernel, by decide +kernel⟩, List.mem_of_getElem? (i := 478) (by decide +kernel), List.mem_of_getElem? (i := 722) (by decide +kernel), List.mem_of_getElem? (i := 723) (by decide +kernel)⟩
theorem lw_p37 : lw_okq (⟨"AfternoonMeterModel", "next", "(I)I"⟩, 17) := ⟨⟨by decide +kernel, by decide +kernel⟩, List.mem_of_getElem? (i := 478) (by decide +kernel), List.mem_of_getElem? (i := 731) (by decide +kernel), List.mem_of_getElem? (i := 732) (by decide +kernel)⟩
theorem lw_p38 : lw_okq (⟨"AfternoonMeterModel", "atEnd", "()I"⟩, 17) := ⟨⟨by decide +kernel, by decide +kernel⟩, List.mem_of_getElem? (i := 478) (by decide +kernel), List.mem_of_getElem? (i := 747) (by decide +kernel), List.mem_of_getElem? (i := 748) (by decide +kernel)⟩
theorem lw_p39 : lw_okq (⟨"AfternoonMeterModel", "spill", "(I)I"⟩, 17) := ⟨⟨by decide +kernel, by decide +kernel⟩, List.mem_of_getElem? (i := 478) (by decide +kernel), List.mem_of_getElem? (i := 755) (by decide +kernel), List.mem_of_getElem? (i := 756) (by decide +kernel)⟩
theorem lw_p40 : lw_okq (⟨"AfternoonMeterModel", "safest", "()I"⟩, 17) := ⟨⟨by decide +kernel, by decide +kernel⟩, List.mem_of_getElem? (i := 478) (by decide +kernel), List.mem_of_getElem? (i := 763) (by decide +kernel), List.mem_of_getElem? (i := 764) (by decide +kernel)⟩
theorem lw_p41 : lw_okq (⟨"AfternoonMeterModel", "worst", "()I"⟩, 17) := ⟨⟨by decide +kernel, by decide +kernel⟩, List.mem_of_getElem? (i := 478) (by decide +kernel), List.mem_of_getElem? (i := 771) (by decide +kernel), List.mem_of_getElem? (i := 772) (by decide +kernel)⟩
def lw_privs_3 : List (MethodName × Nat) := [(⟨"AfternoonMeterModel", "alone", "(I)I"⟩, 17), (⟨"AfternoonMeterModel", "isBee", "(I)Z"⟩, 17), (⟨"AfternoonMeterModel", "ticked", "(I)I"⟩, 17), (⟨"AfternoonMeterModel", "error", "(I)I"⟩, 17), (⟨"AfternoonMeterModel", "best", "()I"⟩, 17), (⟨"AfternoonMeterModel", "next", "(I)I"⟩, 17), (⟨"AfternoonMeterModel", "atEnd", "()I"⟩, 17), (⟨"AfternoonMeterModel", "spill", "(I)I"⟩, 17), (⟨"AfternoonMeterModel", "safest", "()I"⟩, 17), (⟨"AfternoonMeterModel", "worst", "()I"⟩, 17)]
theorem lw_r3 : ∀ q ∈ lw_privs_3, lw_okq q := List.forall_mem_cons.mpr ⟨lw_p32, List.forall_mem_cons.mpr ⟨lw_p33, List.forall_mem_cons.mpr ⟨lw_p34, List.forall_mem_cons.mpr ⟨lw_p35, List.forall_mem_cons.mpr ⟨lw_p36, List.forall_mem_cons.mpr ⟨lw_p37, List.forall_mem_cons.mpr ⟨lw_p38, List.forall_mem_cons.mpr ⟨lw_p39, List.forall_mem_cons.mpr ⟨lw_p40, List.forall_mem_cons.mpr ⟨lw_p41, fun _ h => absurd h List.not_mem_nil⟩⟩⟩⟩⟩⟩⟩⟩⟩⟩
def lw_privs : List (MethodName × Nat) := lw_privs_1 ++ (lw_privs_2 ++ (lw_privs_3))
def lw_tbl : List Cond := k2_sels lw_privs ++ tables_1
theorem lw_privs_ok : ∀ q ∈ lw_privs, lw_okq q := by
  show ∀ q ∈ lw_privs_1 ++ (lw_privs_2 ++ (lw_privs_3)), lw_okq q
  exact List.forall_mem_append.mpr ⟨lw_r1, List.forall_mem_append.mpr ⟨lw_r2, lw_r3⟩⟩
/-- the streams that the claim lets the run draw from -/
abbrev lw_cs : List Choice := [Jvm.Choice.named "NaN.bits"]
theorem lw_bits : nanBits ∈ lw_cs := by first | decide | exact List.mem_cons_self | simp [lw_cs, nanBits]
-- ===== end of PART A; then your names; then what follows =====
end
section
/-! ===== BEGIN words of one list among another's, by their places ===== -/
theorem goodIn_r {big : List Cond} (ws : List Cond) (ps : List Nat) (hp : ws = ps.filterMap (fun i => big[i]?)) (h : ws.all goodWord = true) : GoodIn big ws := by
  intro w hw
  have h1 := List.all_eq_true.mp h w hw
  rw [hp] at hw
  obtain ⟨i, -, hi⟩ := List.mem_filterMap.mp hw
  have hm : w ∈ big := by first | exact List.mem_of_getElem? hi | exact List.getElem?_mem hi
  exact ⟨hm, good_of_word h1⟩
theorem goodIn_app {big a b : List Cond} (ha : GoodIn big a) (hb : GoodIn big b) : GoodIn big (a ++ b) := fun w h => (List.mem_append.mp h).elim (ha w) (hb w)
theorem goodIn_ca {big a b : List Cond} {c : Cond} (ha : GoodIn big (c :: a)) (hb : GoodIn big b) : GoodIn big (c :: (a ++ b)) := fun w h => (List.mem_cons.mp h).elim (fun e => ha w (List.mem_cons.mpr (Or.inl e))) (fun h => (List.mem_append.mp h).elim (fun h => ha w (List.mem_cons.mpr (Or.inr h))) (hb w))
theorem goodIn_sub {big ws : List Cond} (hm : ∀ w ∈ ws, w ∈ big) (h : ws.all goodWord = true) : GoodIn big ws := fun w hw => ⟨hm w hw, good_of_word (List.all_eq_true.mp h w hw)⟩
/-! ===== END ===== -/

/-! ===== BEGIN exceptions that leave a method, and their catching by the caller (launches without stack traces) ===== -/
section VXA
/-! The laws vx_back, vx_callV, vx_callS, vx_callSW, vx_throw0, vx_throwS follow proofs of the library, with one case more: JvmDerived/Free/Laws.lean (Back.of_free), Shelf42/LK1.lean (callV, callS), Shelf/KitTraced.lean (throwNew0V, throwNewS). -/
/-- where a method has thrown q: the class by its name, the cell, what was written, the world -/
def vx_T (XC : String → State → State → Prop) (st : State) (q : Addr) (t : State) (mc ms : Nat) (free : Addr → Prop) : Prop :=
  ∃ (E : String) (ce : Cell) (L : List Loc), XC E st t ∧ t.heap[q]? = some ce ∧ ce.vm = .none ∧ st.vm.findClass E = some ce.cls ∧ st.WarmedH t.vm ∧ st.sameButNew ({ t with vm := st.vm } : State) L mc ms ∧ ∀ z ∈ L, free z.base
def vx_Q (Qc : Array Value → State → Outcome → State → Prop) (XC : String → State → State → Prop) (mc ms : Nat) (free : Addr → Prop) : Array Value → State → Outcome → State → Prop := fun a st o t =>
  (Qc a st o t ∧ ∃ L, FrameEnd st o t L mc ms ∧ ∀ q ∈ L, free q.base) ∨ ∃ q, o = .threw q ∧ vx_T XC st q t mc ms free
/-- a callee that returns or throws -/
def vx_Met (l : Launch) (y : MethodName) (ws : List Cond) (rm : Room) (Pc : Array Value → State → Prop) (Qc : Array Value → State → Outcome → State → Prop) (XC : String → State → State → Prop) (mc ms : Nat) (free : Addr → Prop) : Prop :=
  MetFree l y (headSpec ws rm) Pc (fun _ _ _ _ _ => True) (vx_Q Qc XC mc ms free)
def vx_Post (XC : String → State → State → Prop) (mc ms : Nat) (free : Addr → Prop) : Pt → Array Value → Addr → Pt → Prop := fun A a q B =>
  ∃ (g : JFrame) (mk : MethodId) (t : State) (L : List Loc) (E : String) (ce : Cell), B.U.heap = t.heap ∧ B.U.vm = t.vm ∧ XC E (A.U.calling g mk a) t ∧ t.heap[q]? = some ce ∧ ce.vm = .none ∧ A.U.vm.findClass E = some ce.cls ∧ B.locs = A.locs ++ L ∧ (∀ z ∈ L, free z.base) ∧ B.cells = A.cells + mc ∧ B.slots = A.slots + ms
def vx_Back (l : Launch) (R : Room) (p : Program) (e : Env) (below : List Frame) (s : State) (sargs : Array Value) (y : MethodName) (len W9 : Nat)
    (Pre : Pt → Array Value → Prop) (Post : Pt → Array Value → Option Value → Pt → Prop) (PostX : Pt → Array Value → Addr → Pt → Prop) : Prop :=
  ∀ (m : MethodId) (meth : Method) (c : Code) (A : Pt) (g : JFrame) (ig : Instr) (mk : MethodId) (a : Array Value),
    Stand p l e R s m sargs below meth c A.U A.locs A.cells A.slots → g.method = m → g.locals.size = c.maxLocals → decode c.code g.pc = .ok (ig, len) →
    2 * g.monitorRoom + (g.stack.map fun v => v.category).sum ≤ W9 → A.U.methodNamed? y = some mk → Pre A a →
    (∃ (v : Option Value) (B : Pt), Stand p l e R s m sargs below meth c B.U B.locs B.cells B.slots ∧ Post A a v B ∧
      Steps p.tables e below (doInvoke e (A.U.setTop g) [] mk a).1 (B.U.setTop { g with pc := g.pc + len, stack := v.toList ++ g.stack })) ∨
    (∃ (q : Addr) (B : Pt), Stand p l e R s m sargs below meth c B.U B.locs B.cells B.slots ∧ PostX A a q B ∧
      Steps p.tables e below (doInvoke e (A.U.setTop g) [] mk a).1 ((B.U.setTop g).pushFrame (.throwing q)))
section Payer
variable {l : Launch} {R : Room} {p : Program} {e : Env} {below : List Frame} {s : State} {sargs : Array Value} {y : MethodName} {len W9 : Nat}
theorem vx_back {ws : List Cond} {rm : Room} {Pc : Array Value → State → Prop} {Qc : Array Value → State → Outcome → State → Prop} {XC : String → State → State → Prop} {mc ms : Nat} {free : Addr → Prop} {bytes : ByteArray} {maxL : Nat} {ret : Option FieldType}
    (hM : vx_Met l y ws rm Pc Qc XC mc ms free) (hblind : FrameBlind Pc) (hrc : rm.cells = mc) (hrs : rm.slots = ms)
    (hframes : rm.frames + 1 ≤ R.frames) (hlocals : W9 + (maxL + 11) + rm.locals ≤ R.locals)
    (hws : ∀ w ∈ ws, ∀ a' U, s.WarmedH U.vm → w.before a' U = true) (hcode : Cond.code y bytes maxL ret ∈ ws) (hinit : ∀ a' U, s.WarmedH U.vm → (Cond.initialized y.cls).before a' U = true) :
    vx_Back l R p e below s sargs y len W9 (PreOf R mc ms Pc) (PostOf Qc mc ms free) (vx_Post XC mc ms free) := by
  intro m meth c A g ig mk a X hg hsize hdg hW hn hp
  have h1 : (headSpec ws rm).pre.before a A.U = true := atoms_intro fun w hw => hws w hw _ _ X.warmed
  have h2 : (Cond.code y bytes maxL ret).before a A.U = true := hws _ hcode _ _ X.warmed
  have h3 : (Cond.initialized y.cls).before a A.U = true := hinit _ _ X.warmed
  have h4 : A.cells + (headSpec ws rm).room.cells ≤ R.cells := by rw [show (headSpec ws rm).room.cells = mc from hrc]; exact hp.1
  have h5 : A.slots + (headSpec ws rm).room.slots ≤ R.slots := by rw [show (headSpec ws rm).room.slots = ms from hrs]; exact hp.2.1
  have hPc : Pc a (A.U.calling g mk a) := hblind _ _ _ _ hp.2.2
  obtain ⟨U, Ls, c0, s0⟩ := A
  dsimp only [Pt.U, Pt.locs, Pt.cells, Pt.slots] at h1 h2 h3 h4 h5 X hn hPc ⊢
  obtain ⟨methY, cY, hmY, hcY, -, hlY, -, -, -, -⟩ := Cond.code_spec hn h2
  obtain ⟨kY, hkY, -⟩ := className_of_methodNamed hn
  have hinitY : kY.init = .initialized := Cond.initialized_spec (findClass_of_methodNamed hn) hkY h3
  have h : At U g.method c below := by rw [hg]; exact X.here
  have hlocals9 : W9 + (maxL + 11) + (headSpec ws rm).room.locals ≤ R.locals := hlocals
  have happ : (headSpec ws rm).appliesLoose y e.platform (U.calling g mk a) = true :=
    Spec.appliesLoose_calling (g := g) h hdg hn hkY hinitY
      (X.room_calling (g := g) (R' := (headSpec ws rm).room) hsize hmY hcY hframes (by rw [hlY]; omega) h4 h5) h1
  obtain ⟨mid, hmid⟩ := h.above
  have hfr : (U.setTop g).frames = (.java g :: mid) ++ below := by rw [State.frames_setTop' g h.top, hmid]; rfl
  obtain ⟨o, s₂, hsteps, -, hend, hq⟩ := Steps.callFree hM p X.admits X.cas X.clock (acts := []) hfr happ hPc trivial
  have hq' : vx_Q Qc XC mc ms free a (U.calling g mk a) o s₂ := hq
  rw [State.frames_setTop' g h.top] at hend
  obtain ⟨g₀, hg0⟩ := Option.isSome_iff_exists.mp h.top
  obtain ⟨r, hr⟩ := State.topJava?_eq_some.mp hg0
  have hr' : (({ U with heap := s₂.heap, slotsUsed := s₂.slotsUsed } : State).setVm s₂.vm).frames = .java g₀ :: r := hr
  rcases hq' with ⟨hqc, L, hfe, hL⟩ | ⟨q, rfl, E, ce, L, hx, hce, hcv, hcl, hW₂, hsm, hL⟩
  · obtain ⟨⟨v, rfl⟩, hW₂, e2, q2, q3, q4, q5, q6⟩ := id hfe
    have e3 : s₂ = ({ (U.calling g mk a).setFrames s₂.frames with heap := s₂.heap, slotsUsed := s₂.slotsUsed } : State).setVm s₂.vm := by
      have : s₂ = ({ s₂ with vm := (U.calling g mk a).vm } : State).setVm s₂.vm := rfl
      rw [e2] at this
      exact this
    obtain ⟨c₂, i₂, len₂, hc₂, hd₂, hf₂⟩ := hend
    have hW' : U.WarmedH s₂.vm := hW₂
    have hcc : c₂ = c := by
      have h1 : s₂.code? g.method = U.code? g.method := by
        rw [State.code?_eq, State.code?_eq, hW'.alike.method?]
      exact Option.some.inj (hc₂.symm.trans (h1.trans h.code))
    subst hcc
    have hlen : len₂ = len := by rw [hdg] at hd₂; cases hd₂; rfl
    subst hlen
    have hs₂ : s₂ = (({ U with heap := s₂.heap, slotsUsed := s₂.slotsUsed } : State).setVm s₂.vm).setTop { g with pc := g.pc + len₂, stack := v.toList ++ g.stack } := by
      refine e3.trans ?_
      rw [hf₂, State.calling_eq h.top, State.setFrames_setFrames, State.setTop_of_frames _ hr', hr]
      rfl
    have hsame : U.sameButNew ({ U with heap := s₂.heap, slotsUsed := s₂.slotsUsed } : State) L mc ms := by
      refine ⟨?_, q2, q3, q4, q5, q6⟩
      obtain ⟨t, ht, -⟩ := State.frames_cons hr
      show ({ U with heap := s₂.heap, slotsUsed := s₂.slotsUsed } : State) = { U.setFrames U.frames with heap := s₂.heap, slotsUsed := s₂.slotsUsed }
      rw [State.setFrames_self ht]
    subst hg
    refine Or.inl ⟨v, ⟨(({ U with heap := s₂.heap, slotsUsed := s₂.slotsUsed } : State).setVm s₂.vm), Ls ++ L, c0 + mc, s0 + ms⟩,
      ⟨X.admits, X.cas, X.clock, X.frames, X.room, X.hears, X.method, X.code, (X.here.setHeapUsed s₂.heap s₂.slotsUsed).setVm hW'.alike, X.tail, State.WarmedH.trans X.warmed hW', X.limits, X.bytes, X.same.trans (hsame.setVm s.vm)⟩,
      ⟨g, mk, s₂, L, rfl, rfl, hqc, rfl, hL, rfl, rfl⟩, ?_⟩
    show Steps p.tables e below _ ((({ U with heap := s₂.heap, slotsUsed := s₂.slotsUsed } : State).setVm s₂.vm).setTop { g with pc := g.pc + len₂, stack := v.toList ++ g.stack })
    rw [← hs₂]
    exact hsteps
  · obtain ⟨e2, q2, q3, q4, q5, q6⟩ := id hsm
    have e3 : s₂ = ({ (U.calling g mk a).setFrames s₂.frames with heap := s₂.heap, slotsUsed := s₂.slotsUsed } : State).setVm s₂.vm := by
      have : s₂ = ({ s₂ with vm := (U.calling g mk a).vm } : State).setVm s₂.vm := rfl
      rw [e2] at this
      exact this
    have hf₂ : s₂.frames = .throwing q :: .java g :: U.frames.tail := hend
    have hW' : U.WarmedH s₂.vm := hW₂
    have hs₂ : s₂ = ((({ U with heap := s₂.heap, slotsUsed := s₂.slotsUsed } : State).setVm s₂.vm).setTop g).pushFrame (.throwing q) := by
      refine e3.trans ?_
      rw [hf₂, State.calling_eq h.top, State.setFrames_setFrames, State.pushFrame, State.frames_setTop _ hr', State.setTop_of_frames _ hr', State.setFrames_setFrames, hr]
      rfl
    have hsame : U.sameButNew ({ U with heap := s₂.heap, slotsUsed := s₂.slotsUsed } : State) L mc ms := by
      refine ⟨?_, q2, q3, q4, q5, q6⟩
      obtain ⟨t, ht, -⟩ := State.frames_cons hr
      show ({ U with heap := s₂.heap, slotsUsed := s₂.slotsUsed } : State) = { U.setFrames U.frames with heap := s₂.heap, slotsUsed := s₂.slotsUsed }
      rw [State.setFrames_self ht]
    subst hg
    refine Or.inr ⟨q, ⟨(({ U with heap := s₂.heap, slotsUsed := s₂.slotsUsed } : State).setVm s₂.vm), Ls ++ L, c0 + mc, s0 + ms⟩,
      ⟨X.admits, X.cas, X.clock, X.frames, X.room, X.hears, X.method, X.code, (X.here.setHeapUsed s₂.heap s₂.slotsUsed).setVm hW'.alike, X.tail, State.WarmedH.trans X.warmed hW', X.limits, X.bytes, X.same.trans (hsame.setVm s.vm)⟩,
      ⟨g, mk, s₂, L, E, ce, rfl, rfl, hx, hce, hcv, hcl, rfl, hL, rfl, rfl⟩, ?_⟩
    show Steps p.tables e below _ (((({ U with heap := s₂.heap, slotsUsed := s₂.slotsUsed } : State).setVm s₂.vm).setTop g).pushFrame (.throwing q))
    rw [← hs₂]
    exact hsteps
end Payer
section Calls
variable {p : Program} {l : Launch} {e : Env} {R : Room} {s : State} {m : MethodId} {args : Array Value} {below : List Frame} {meth : Method} {c : Code} {T : State} {locs : List Loc} {cells slots : Nat}
theorem vx_callV (X : Stand p l e R s m args below meth c T locs cells slots) (hexec : p.tables.exec = Jvm.exec) {own C : String} {index : Nat} {y : MethodName} {bytes : ByteArray} {maxL : Nat} {ret : Option FieldType}
    (hown : s.vm.findClass own = some m.cls) (hlink : (Cond.methodLink own index y).before args s = true) (hinst : (Cond.instanceMethod y).before args s = true) (hsel : (Cond.selects C y y).before args s = true)
    (hcode : (Cond.code y bytes maxL ret).before args s = true) (hy : y.cls ≠ "java/lang/invoke/MethodHandle" ∧ y.cls ≠ "java/lang/invoke/VarHandle")
    {W9 : Nat} {Pre : Pt → Array Value → Prop} {Post : Pt → Array Value → Option Value → Pt → Prop} {PostX : Pt → Array Value → Addr → Pt → Prop} (hK : vx_Back l R p e below s args y 3 W9 Pre Post PostX)
    {b : Addr} {cellB : Cell} (hcell : T.heap[b]? = some cellB) (hobj : cellB.vm.isStatics = false) (hcls : s.vm.findClass C = some cellB.cls)
    {g : JFrame} (hg : g.method = m) (hsize : g.locals.size = c.maxLocals) {argsL rest : List Value} (hlen : ∀ sig, parseMethodDescriptor y.desc = some sig → argsL.length = sig.parameters.length)
    (hstack : g.stack = argsL.reverse ++ .ref b :: rest) (hW : 2 * g.monitorRoom + (rest.map fun v => v.category).sum ≤ W9) (hdg : decode c.code g.pc = .ok (.invokevirtual index, 3))
    (hpre : ∀ vm₁, s.WarmedH vm₁ → Pre ⟨T.setVm vm₁, locs, cells, slots⟩ (Value.ref b :: argsL).toArray) :
    (∃ (v : Option Value) (vm₁ : Vm) (B : Pt), s.WarmedH vm₁ ∧ Stand p l e R s m args below meth c B.U B.locs B.cells B.slots ∧ Post ⟨T.setVm vm₁, locs, cells, slots⟩ (Value.ref b :: argsL).toArray v B ∧
      ∀ target, Steps p.tables e below (B.U.setTop { g with pc := g.pc + 3, stack := v.toList ++ rest }) target → Steps p.tables e below (T.setTop g) target) ∨
    (∃ (q : Addr) (vm₁ : Vm) (B : Pt), s.WarmedH vm₁ ∧ Stand p l e R s m args below meth c B.U B.locs B.cells B.slots ∧ PostX ⟨T.setVm vm₁, locs, cells, slots⟩ (Value.ref b :: argsL).toArray q B ∧
      Steps p.tables e below (T.setTop g) ((B.U.setTop { g with stack := rest }).pushFrame (.throwing q))) := by
  obtain ⟨mk, methM, hnamed, hmethM, hstM, habM⟩ := Cond.instanceMethod_spec hinst
  obtain ⟨methM', cM, hmethM', -, -, -, -, -, -, hsigM⟩ := Cond.code_spec hnamed hcode
  cases hmethM.symm.trans hmethM'
  obtain ⟨c2, r2, m2, q1, q2, q3, q4, kP, hkP, hkPi⟩ := Cond.selects_spec hsel
  cases hcls.symm.trans q1
  cases (State.methodFound?_of_named hnamed hy).symm.trans q2
  cases hnamed.symm.trans q3
  have hselP : selectMethod e.platform s.vm cellB.cls mk = .method mk := by rw [Launch.admits_selectMethod X.admits]; exact q4
  obtain ⟨vm₁, X₁, hstep₁⟩ := X.invokevirtual hexec hown hlink hnamed hmethM hstM hkP hkPi hy (a := b) (cell := cellB) hcell
    (fun z h => by rw [h] at hobj; cases hobj) hselP hmethM habM hkP hkPi (g := g) hg (argsL := argsL) (rest := rest) (hlen _ hsigM) hstack hdg
  rcases hK m meth c ⟨T.setVm vm₁, locs, cells, slots⟩ { g with stack := rest } (.invokevirtual index) mk (Value.ref b :: argsL).toArray X₁ hg hsize hdg hW (X₁.named hnamed) (hpre vm₁ X₁.warmed) with ⟨v, B, X', hpost, hsteps⟩ | ⟨q, B, X', hpost, hsteps⟩
  · exact Or.inl ⟨v, vm₁, B, X₁.warmed, X', hpost, fun target h => hstep₁ _ fun acts => by rw [doInvoke_state]; exact hsteps.trans h⟩
  · exact Or.inr ⟨q, vm₁, B, X₁.warmed, X', hpost, hstep₁ _ fun acts => by rw [doInvoke_state]; exact hsteps⟩
theorem vx_callS (X : Stand p l e R s m args below meth c T locs cells slots) (hexec : p.tables.exec = Jvm.exec) {own : String} {index : Nat} {y : MethodName} {bytes : ByteArray} {maxL : Nat} {ret : Option FieldType}
    (hown : s.vm.findClass own = some m.cls) (hlink : (Cond.methodLink own index y).before args s = true) (hstat : (Cond.static y).before args s = true) (hinit : (Cond.initialized y.cls).before args s = true)
    (hcode : (Cond.code y bytes maxL ret).before args s = true) (hy : y.cls ≠ "java/lang/invoke/MethodHandle" ∧ y.cls ≠ "java/lang/invoke/VarHandle")
    {W9 : Nat} {Pre : Pt → Array Value → Prop} {Post : Pt → Array Value → Option Value → Pt → Prop} {PostX : Pt → Array Value → Addr → Pt → Prop} (hK : vx_Back l R p e below s args y 3 W9 Pre Post PostX)
    {g : JFrame} (hg : g.method = m) (hsize : g.locals.size = c.maxLocals) {argsL rest : List Value} (hlen : ∀ sig, parseMethodDescriptor y.desc = some sig → argsL.length = sig.parameters.length)
    (hstack : g.stack = argsL.reverse ++ rest) (hW : 2 * g.monitorRoom + (rest.map fun v => v.category).sum ≤ W9) (hdg : decode c.code g.pc = .ok (.invokestatic index, 3))
    (hpre : ∀ vm₁, s.WarmedH vm₁ → Pre ⟨T.setVm vm₁, locs, cells, slots⟩ argsL.toArray) :
    (∃ (v : Option Value) (vm₁ : Vm) (B : Pt), s.WarmedH vm₁ ∧ Stand p l e R s m args below meth c B.U B.locs B.cells B.slots ∧ Post ⟨T.setVm vm₁, locs, cells, slots⟩ argsL.toArray v B ∧
      ∀ target, Steps p.tables e below (B.U.setTop { g with pc := g.pc + 3, stack := v.toList ++ rest }) target → Steps p.tables e below (T.setTop g) target) ∨
    (∃ (q : Addr) (vm₁ : Vm) (B : Pt), s.WarmedH vm₁ ∧ Stand p l e R s m args below meth c B.U B.locs B.cells B.slots ∧ PostX ⟨T.setVm vm₁, locs, cells, slots⟩ argsL.toArray q B ∧
      Steps p.tables e below (T.setTop g) ((B.U.setTop { g with stack := rest }).pushFrame (.throwing q))) := by
  obtain ⟨mk, hnamed⟩ := Cond.code_named hcode
  obtain ⟨methM, cM, hmethM, -, -, -, -, -, -, hsigM⟩ := Cond.code_spec hnamed hcode
  have hstatic : methM.isStatic = true := Cond.static_spec hnamed hmethM hstat
  obtain ⟨kP, hkP, -⟩ := className_of_methodNamed hnamed
  have hinitP : kP.init = .initialized := Cond.initialized_spec (findClass_of_methodNamed hnamed) hkP hinit
  obtain ⟨vm₁, X₁, hstep₁⟩ := X.invokestatic hexec hown hlink hnamed hmethM hstatic hkP hinitP hy (g := g) hg (argsL := argsL) (rest := rest) (hlen _ hsigM) hstack hdg
  rcases hK m meth c ⟨T.setVm vm₁, locs, cells, slots⟩ { g with stack := rest } (.invokestatic index) mk argsL.toArray X₁ hg hsize hdg hW (X₁.named hnamed) (hpre vm₁ X₁.warmed) with ⟨v, B, X', hpost, hsteps⟩ | ⟨q, B, X', hpost, hsteps⟩
  · exact Or.inl ⟨v, vm₁, B, X₁.warmed, X', hpost, fun target h => hstep₁ _ fun acts => by rw [doInvoke_state]; exact hsteps.trans h⟩
  · exact Or.inr ⟨q, vm₁, B, X₁.warmed, X', hpost, hstep₁ _ fun acts => by rw [doInvoke_state]; exact hsteps⟩
end Calls
theorem vx_cls {s : State} {T : State} {vm₁ : Vm} {E : String} {k : ClassId} (hW : s.WarmedH vm₁) (h : (T.setVm vm₁).vm.findClass E = some k) : s.vm.findClass E = some k := by
  have h1 : vm₁.findClass E = some k := h
  rw [hW.alike.findClass] at h1
  exact h1
/-- the method's frame g, with q thrown over it -/
def vx_W (p : Program) (l : Launch) (e : Env) (R : Room) (s : State) (m : MethodId) (args : Array Value) (below : List Frame) (meth : Method) (c : Code) (H : Heap) (locs : List Loc) (cells slots : Nat) (Q : State → Prop) (g : JFrame) (q : Addr) : Prop :=
  ∀ T : State, T.heap = H → Stand p l e R s m args below meth c T locs cells slots → ∃ t, Steps p.tables e below ((T.setTop g).pushFrame (.throwing q)) t ∧ Q t
def vx_Run (p : Program) (l : Launch) (e : Env) (R : Room) (s : State) (m : MethodId) (args : Array Value) (below : List Frame) (meth : Method) (c : Code) (H : Heap) (locs : List Loc) (cells slots mc ms : Nat) (g : JFrame) (rest : List Value) (Qa : State → Outcome → State → Prop) (XC : String → State → State → Prop) (free : Addr → Prop) : Prop :=
  ∀ T : State, T.heap = H → Stand p l e R s m args below meth c T locs cells slots →
    (∃ (v : Option Value) (st₀ t T' : State) (L : List Loc), st₀.heap = H ∧ Stand p l e R s m args below meth c T' (locs ++ L) (cells + mc) (slots + ms) ∧ (∀ q ∈ L, free q.base) ∧ T'.heap = t.heap ∧ T'.vm = t.vm ∧ Qa st₀ (.returned v) t ∧
      Goes p e below T g T' { g with pc := g.pc + 3, stack := v.toList ++ rest }) ∨
    (∃ (q : Addr) (st₀ t T' : State) (L : List Loc) (E : String) (ce : Cell), st₀.heap = H ∧ Stand p l e R s m args below meth c T' (locs ++ L) (cells + mc) (slots + ms) ∧ (∀ z ∈ L, free z.base) ∧ T'.heap = t.heap ∧ T'.vm = t.vm ∧ XC E st₀ t ∧ t.heap[q]? = some ce ∧ ce.vm = .none ∧ s.vm.findClass E = some ce.cls ∧
      Steps p.tables e below (T.setTop g) ((T'.setTop { g with stack := rest }).pushFrame (.throwing q)))
def vx_X {S : Type} (px : S → Prop) (B : String → S → State → Prop) (A : Nat → Prop) : String → State → State → Prop := fun E st t => ∃ u : S, px u ∧ B E u t ∧ va_F A st t
section Runs
variable {p : Program} {l : Launch} {e : Env} {R : Room} {s : State} {m : MethodId} {args : Array Value} {below : List Frame} {meth : Method} {c : Code} {H : Heap} {locs : List Loc} {cells slots : Nat}
variable {y : MethodName} {bytes cc : ByteArray} {maxL nL mc ms n index : Nat} {ret : Option FieldType} {ws : List Cond} {rm : Room} {Pc : Array Value → State → Prop} {Qc : Array Value → State → Outcome → State → Prop} {XC : String → State → State → Prop} {free : Addr → Prop} {Ts : List Cond} {own C : String} {b : Addr} {As rest : List Value} {g : JFrame}
theorem vx_callBack (cb : CallB R s args own index y bytes maxL ret ws rm mc ms n) (hM : vx_Met l y ws rm Pc Qc XC mc ms free) (hbl : FrameBlind Pc) : vx_Back l R p e below s args y 3 8 (PreOf R mc ms Pc) (PostOf Qc mc ms free) (vx_Post XC mc ms free) := by
  obtain ⟨hrc, hrs, hfr, hlo, hws, hcw, -, hini, -⟩ := cb
  exact vx_back (bytes := bytes) (maxL := maxL) (ret := ret) hM hbl hrc hrs hfr hlo hws hcw (fun a' U hW => word_at hW (Or.inl (by first | rfl | simp [Cond.onTables, Cond.keeps, Cond.steady])) hini)
theorem vx_runV (S : CallFix p m c cc nL s args Ts own) (hM : vx_Met l y ws rm Pc Qc XC mc ms free) (cw : CallW R s args own C index y bytes maxL ret ws rm mc ms n) (hp : PreV s H C b Pc As)
    (hg : g.method = m) (hn : As.length = n) (hsize : g.locals.size = nL) (hstack : g.stack = As.reverse ++ .ref b :: rest) (hW : 2 * g.monitorRoom + (rest.map fun v => v.category).sum ≤ 8) (hdg : decode cc g.pc = .ok (.invokevirtual index, 3)) (hf : cells + mc ≤ R.cells ∧ slots + ms ≤ R.slots) :
    vx_Run p l e R s m args below meth c H locs cells slots mc ms g rest (Qc (Value.ref b :: As).toArray) XC free := by
  have hK : vx_Back l R p e below s args y 3 8 (PreOf R mc ms Pc) (PostOf Qc mc ms free) (vx_Post XC mc ms free) := vx_callBack cw.1 hM hp.1
  obtain ⟨⟨-, -, -, -, -, -, hcode, -, hy, hlen, hl⟩, hin, hse⟩ := cw
  obtain ⟨hx, hb, hml, ho, -⟩ := S
  obtain ⟨-, ⟨cellB, hcB, hoB, hclB⟩, hPc⟩ := hp
  intro T hT X
  rcases vx_callV X hx (C := C) (bytes := bytes) (maxL := maxL) (ret := ret) ho hl hin hse hcode hy hK (by rw [hT]; exact hcB) hoB hclB hg (hsize.trans hml.symm) (argsL := As) (rest := rest) (fun sig h => hn.trans (hlen sig h)) hstack hW (by rw [hb]; exact hdg)
    (fun vm₁ hW₁ => ⟨hf.1, hf.2, hPc (T.setVm vm₁) hT hW₁⟩) with ⟨v, vm₁, ⟨U', l2, c2, s2⟩, hW₁, X', ⟨g', mk, t, L, e1, e2, hq, h1, hL, h2, h3⟩, st⟩ | ⟨q, vm₁, ⟨U', l2, c2, s2⟩, hW₁, X', ⟨g', mk, t, L, E, ce, e1, e2, hq, hce, hcv, hcl, h1, hL, h2, h3⟩, st⟩
  · dsimp only [Pt.U, Pt.locs, Pt.cells, Pt.slots] at X' e1 e2 h1 h2 h3 st
    subst h1; subst h2; subst h3
    exact Or.inl ⟨v, (T.setVm vm₁).calling g' mk (Value.ref b :: As).toArray, t, U', L, hT, X', hL, e1, e2, hq, st⟩
  · dsimp only [Pt.U, Pt.locs, Pt.cells, Pt.slots] at X' e1 e2 h1 h2 h3 st hcl
    subst h1; subst h2; subst h3
    exact Or.inr ⟨q, (T.setVm vm₁).calling g' mk (Value.ref b :: As).toArray, t, U', L, E, ce, hT, X', hL, e1, e2, hq, hce, hcv, vx_cls hW₁ hcl, st⟩
theorem vx_runS (S : CallFix p m c cc nL s args Ts own) (hM : vx_Met l y ws rm Pc Qc XC mc ms free) (cw : CallB R s args own index y bytes maxL ret ws rm mc ms n ∧ (Cond.static y).before args s = true) (hp : PreS s H Pc As)
    (hg : g.method = m) (hn : As.length = n) (hsize : g.locals.size = nL) (hstack : g.stack = As.reverse ++ rest) (hW : 2 * g.monitorRoom + (rest.map fun v => v.category).sum ≤ 8) (hdg : decode cc g.pc = .ok (.invokestatic index, 3)) (hf : cells + mc ≤ R.cells ∧ slots + ms ≤ R.slots) :
    vx_Run p l e R s m args below meth c H locs cells slots mc ms g rest (Qc As.toArray) XC free := by
  have hK : vx_Back l R p e below s args y 3 8 (PreOf R mc ms Pc) (PostOf Qc mc ms free) (vx_Post XC mc ms free) := vx_callBack cw.1 hM hp.1
  obtain ⟨⟨-, -, -, -, -, -, hcode, hini, hy, hlen, hl⟩, hstt⟩ := cw
  obtain ⟨hx, hb, hml, ho, -⟩ := S
  intro T hT X
  rcases vx_callS X hx (bytes := bytes) (maxL := maxL) (ret := ret) ho hl hstt hini hcode hy hK hg (hsize.trans hml.symm) (argsL := As) (rest := rest) (fun sig h => hn.trans (hlen sig h)) hstack hW (by rw [hb]; exact hdg)
    (fun vm₁ hW₁ => ⟨hf.1, hf.2, hp.2 (T.setVm vm₁) hT hW₁⟩) with ⟨v, vm₁, ⟨U', l2, c2, s2⟩, hW₁, X', ⟨g', mk, t, L, e1, e2, hq, h1, hL, h2, h3⟩, st⟩ | ⟨q, vm₁, ⟨U', l2, c2, s2⟩, hW₁, X', ⟨g', mk, t, L, E, ce, e1, e2, hq, hce, hcv, hcl, h1, hL, h2, h3⟩, st⟩
  · dsimp only [Pt.U, Pt.locs, Pt.cells, Pt.slots] at X' e1 e2 h1 h2 h3 st
    subst h1; subst h2; subst h3
    exact Or.inl ⟨v, (T.setVm vm₁).calling g' mk As.toArray, t, U', L, hT, X', hL, e1, e2, hq, st⟩
  · dsimp only [Pt.U, Pt.locs, Pt.cells, Pt.slots] at X' e1 e2 h1 h2 h3 st hcl
    subst h1; subst h2; subst h3
    exact Or.inr ⟨q, (T.setVm vm₁).calling g' mk As.toArray, t, U', L, E, ce, hT, X', hL, e1, e2, hq, hce, hcv, vx_cls hW₁ hcl, st⟩
end Runs
section Rows
variable {p : Program} {l : Launch} {e : Env} {R : Room} {s : State} {m : MethodId} {args : Array Value} {below : List Frame} {meth : Method} {c : Code} {H : Heap} {locs : List Loc} {cells slots : Nat} {Q : State → Prop}
variable {mc ms : Nat} {free : Addr → Prop} {A0 A1 : Nat → Prop} {H0 : Heap} {a : Array Value} {pc : Nat} {ls : Array Slot} {st0 rest : List Value}
theorem vx_keep {st₀ t T' : State} {L : List Loc} (h0 : st₀.heap = H) (e1 : T'.heap = t.heap) (hS : va_S A0 H0 H locs) (hA : ∀ q, q < H.size → A1 q → A0 q) (hf : ∀ q, free q → A0 q) (hL : ∀ q ∈ L, free q.base) (hF : va_F A1 st₀ t) :
    H.size ≤ T'.heap.size ∧ (∀ q : Nat, q < H.size → ¬ A1 q → T'.heap[q]? = H[q]?) ∧ va_S A0 H0 T'.heap (locs ++ L) := by
  obtain ⟨hz, hk⟩ := hF
  rw [h0] at hz hk
  exact ⟨by rw [e1]; exact hz, fun q h1 h2 => by rw [e1]; exact hk q h1 h2,
    ⟨Nat.le_trans hS.1 (by rw [e1]; exact hz), fun q h1 h2 => by rw [e1, hk q (Nat.lt_of_lt_of_le h1 hS.1) (fun z => h2 (hA q (Nat.lt_of_lt_of_le h1 hS.1) z))]; exact hS.2.1 q h1 h2, fun q hq => by
      rcases List.mem_append.mp hq with h | h
      · exact hS.2.2 q h
      · exact hf _ (hL q h)⟩⟩
theorem vx_calli {S SX : Type} {post : Int32 → S → Prop} {px : SX → Prop} {B : S → State → Prop} {BX : String → SX → State → Prop} {AX : Nat → Prop} (hr : vx_Run p l e R s m args below meth c H locs cells slots mc ms (F0 m pc ls st0) rest (va_Qi post B A1 a) (vx_X px BX AX) free) (hS : va_S A0 H0 H locs) (hA : ∀ q, q < H.size → A1 q → A0 q) (hf : ∀ q, free q → A0 q) (hAX : ∀ q, q < H.size → AX q → A0 q)
    (kx : ∀ (E : String) (ce : Cell) (q9 : Addr) (u : SX) (t : State) (H1 : Heap) (locs1 : List Loc), t.heap = H1 → s.vm.Alike t.vm → px u → BX E u t → H.size ≤ H1.size → (∀ q : Nat, q < H.size → ¬ AX q → H1[q]? = H[q]?) → va_S A0 H0 H1 locs1 → H1[q9]? = some ce → ce.vm = .none → s.vm.findClass E = some ce.cls → vx_W p l e R s m args below meth c H1 locs1 (cells + mc) (slots + ms) Q (F0 m pc ls rest) q9)
    (kk : ∀ (r : Int32) (u : S) (t : State) (H1 : Heap) (locs1 : List Loc), t.heap = H1 → s.vm.Alike t.vm → post r u → B u t → H.size ≤ H1.size → (∀ q : Nat, q < H.size → ¬ A1 q → H1[q]? = H[q]?) → va_S A0 H0 H1 locs1 → W p l e R s m args below meth c H1 locs1 (cells + mc) (slots + ms) Q (F0 m (pc + 3) ls (.int r :: rest))) : W p l e R s m args below meth c H locs cells slots Q (F0 m pc ls st0) := by
  intro T hT X
  rcases hr T hT X with ⟨v, st₀, t, T', L, h0, X', hL, e1, e2, ⟨⟨r, u, hv, hp, hb⟩, hF⟩, st⟩ | ⟨q, st₀, t, T', L, E, ce, h0, X', hL, e1, e2, ⟨u, hp, hb, hF⟩, hce, hcv, hcl, st⟩
  · cases hv
    obtain ⟨k1, k2, k3⟩ := vx_keep h0 e1 hS hA hf hL hF
    obtain ⟨t2, a1, b1⟩ := kk r u t T'.heap (locs ++ L) e1.symm (by rw [← e2]; exact X'.warmed.alike) hp hb k1 k2 k3 T' rfl X'
    exact ⟨t2, st t2 a1, b1⟩
  · obtain ⟨k1, k2, k3⟩ := vx_keep h0 e1 hS hAX hf hL hF
    obtain ⟨t2, a1, b1⟩ := kx E ce q u t T'.heap (locs ++ L) e1.symm (by rw [← e2]; exact X'.warmed.alike) hp hb k1 k2 k3 (by rw [e1]; exact hce) hcv hcl T' rfl X'
    exact ⟨t2, st.trans a1, b1⟩
theorem vx_calll {S SX : Type} {post : Int64 → S → Prop} {px : SX → Prop} {B : S → State → Prop} {BX : String → SX → State → Prop} {AX : Nat → Prop} (hr : vx_Run p l e R s m args below meth c H locs cells slots mc ms (F0 m pc ls st0) rest (va_Ql post B A1 a) (vx_X px BX AX) free) (hS : va_S A0 H0 H locs) (hA : ∀ q, q < H.size → A1 q → A0 q) (hf : ∀ q, free q → A0 q) (hAX : ∀ q, q < H.size → AX q → A0 q)
    (kx : ∀ (E : String) (ce : Cell) (q9 : Addr) (u : SX) (t : State) (H1 : Heap) (locs1 : List Loc), t.heap = H1 → s.vm.Alike t.vm → px u → BX E u t → H.size ≤ H1.size → (∀ q : Nat, q < H.size → ¬ AX q → H1[q]? = H[q]?) → va_S A0 H0 H1 locs1 → H1[q9]? = some ce → ce.vm = .none → s.vm.findClass E = some ce.cls → vx_W p l e R s m args below meth c H1 locs1 (cells + mc) (slots + ms) Q (F0 m pc ls rest) q9)
    (kk : ∀ (r : Int64) (u : S) (t : State) (H1 : Heap) (locs1 : List Loc), t.heap = H1 → s.vm.Alike t.vm → post r u → B u t → H.size ≤ H1.size → (∀ q : Nat, q < H.size → ¬ A1 q → H1[q]? = H[q]?) → va_S A0 H0 H1 locs1 → W p l e R s m args below meth c H1 locs1 (cells + mc) (slots + ms) Q (F0 m (pc + 3) ls (.long r :: rest))) : W p l e R s m args below meth c H locs cells slots Q (F0 m pc ls st0) := by
  intro T hT X
  rcases hr T hT X with ⟨v, st₀, t, T', L, h0, X', hL, e1, e2, ⟨⟨r, u, hv, hp, hb⟩, hF⟩, st⟩ | ⟨q, st₀, t, T', L, E, ce, h0, X', hL, e1, e2, ⟨u, hp, hb, hF⟩, hce, hcv, hcl, st⟩
  · cases hv
    obtain ⟨k1, k2, k3⟩ := vx_keep h0 e1 hS hA hf hL hF
    obtain ⟨t2, a1, b1⟩ := kk r u t T'.heap (locs ++ L) e1.symm (by rw [← e2]; exact X'.warmed.alike) hp hb k1 k2 k3 T' rfl X'
    exact ⟨t2, st t2 a1, b1⟩
  · obtain ⟨k1, k2, k3⟩ := vx_keep h0 e1 hS hAX hf hL hF
    obtain ⟨t2, a1, b1⟩ := kx E ce q u t T'.heap (locs ++ L) e1.symm (by rw [← e2]; exact X'.warmed.alike) hp hb k1 k2 k3 (by rw [e1]; exact hce) hcv hcl T' rfl X'
    exact ⟨t2, st.trans a1, b1⟩
theorem vx_callf {S SX : Type} {post : UInt32 → S → Prop} {px : SX → Prop} {B : S → State → Prop} {BX : String → SX → State → Prop} {AX : Nat → Prop} (hr : vx_Run p l e R s m args below meth c H locs cells slots mc ms (F0 m pc ls st0) rest (va_Qf post B A1 a) (vx_X px BX AX) free) (hS : va_S A0 H0 H locs) (hA : ∀ q, q < H.size → A1 q → A0 q) (hf : ∀ q, free q → A0 q) (hAX : ∀ q, q < H.size → AX q → A0 q)
    (kx : ∀ (E : String) (ce : Cell) (q9 : Addr) (u : SX) (t : State) (H1 : Heap) (locs1 : List Loc), t.heap = H1 → s.vm.Alike t.vm → px u → BX E u t → H.size ≤ H1.size → (∀ q : Nat, q < H.size → ¬ AX q → H1[q]? = H[q]?) → va_S A0 H0 H1 locs1 → H1[q9]? = some ce → ce.vm = .none → s.vm.findClass E = some ce.cls → vx_W p l e R s m args below meth c H1 locs1 (cells + mc) (slots + ms) Q (F0 m pc ls rest) q9)
    (kk : ∀ (r : UInt32) (u : S) (t : State) (H1 : Heap) (locs1 : List Loc), t.heap = H1 → s.vm.Alike t.vm → post r u → B u t → H.size ≤ H1.size → (∀ q : Nat, q < H.size → ¬ A1 q → H1[q]? = H[q]?) → va_S A0 H0 H1 locs1 → W p l e R s m args below meth c H1 locs1 (cells + mc) (slots + ms) Q (F0 m (pc + 3) ls (.float r :: rest))) : W p l e R s m args below meth c H locs cells slots Q (F0 m pc ls st0) := by
  intro T hT X
  rcases hr T hT X with ⟨v, st₀, t, T', L, h0, X', hL, e1, e2, ⟨⟨r, u, hv, hp, hb⟩, hF⟩, st⟩ | ⟨q, st₀, t, T', L, E, ce, h0, X', hL, e1, e2, ⟨u, hp, hb, hF⟩, hce, hcv, hcl, st⟩
  · cases hv
    obtain ⟨k1, k2, k3⟩ := vx_keep h0 e1 hS hA hf hL hF
    obtain ⟨t2, a1, b1⟩ := kk r u t T'.heap (locs ++ L) e1.symm (by rw [← e2]; exact X'.warmed.alike) hp hb k1 k2 k3 T' rfl X'
    exact ⟨t2, st t2 a1, b1⟩
  · obtain ⟨k1, k2, k3⟩ := vx_keep h0 e1 hS hAX hf hL hF
    obtain ⟨t2, a1, b1⟩ := kx E ce q u t T'.heap (locs ++ L) e1.symm (by rw [← e2]; exact X'.warmed.alike) hp hb k1 k2 k3 (by rw [e1]; exact hce) hcv hcl T' rfl X'
    exact ⟨t2, st.trans a1, b1⟩
theorem vx_calld {S SX : Type} {post : UInt64 → S → Prop} {px : SX → Prop} {B : S → State → Prop} {BX : String → SX → State → Prop} {AX : Nat → Prop} (hr : vx_Run p l e R s m args below meth c H locs cells slots mc ms (F0 m pc ls st0) rest (va_Qd post B A1 a) (vx_X px BX AX) free) (hS : va_S A0 H0 H locs) (hA : ∀ q, q < H.size → A1 q → A0 q) (hf : ∀ q, free q → A0 q) (hAX : ∀ q, q < H.size → AX q → A0 q)
    (kx : ∀ (E : String) (ce : Cell) (q9 : Addr) (u : SX) (t : State) (H1 : Heap) (locs1 : List Loc), t.heap = H1 → s.vm.Alike t.vm → px u → BX E u t → H.size ≤ H1.size → (∀ q : Nat, q < H.size → ¬ AX q → H1[q]? = H[q]?) → va_S A0 H0 H1 locs1 → H1[q9]? = some ce → ce.vm = .none → s.vm.findClass E = some ce.cls → vx_W p l e R s m args below meth c H1 locs1 (cells + mc) (slots + ms) Q (F0 m pc ls rest) q9)
    (kk : ∀ (r : UInt64) (u : S) (t : State) (H1 : Heap) (locs1 : List Loc), t.heap = H1 → s.vm.Alike t.vm → post r u → B u t → H.size ≤ H1.size → (∀ q : Nat, q < H.size → ¬ A1 q → H1[q]? = H[q]?) → va_S A0 H0 H1 locs1 → W p l e R s m args below meth c H1 locs1 (cells + mc) (slots + ms) Q (F0 m (pc + 3) ls (.double r :: rest))) : W p l e R s m args below meth c H locs cells slots Q (F0 m pc ls st0) := by
  intro T hT X
  rcases hr T hT X with ⟨v, st₀, t, T', L, h0, X', hL, e1, e2, ⟨⟨r, u, hv, hp, hb⟩, hF⟩, st⟩ | ⟨q, st₀, t, T', L, E, ce, h0, X', hL, e1, e2, ⟨u, hp, hb, hF⟩, hce, hcv, hcl, st⟩
  · cases hv
    obtain ⟨k1, k2, k3⟩ := vx_keep h0 e1 hS hA hf hL hF
    obtain ⟨t2, a1, b1⟩ := kk r u t T'.heap (locs ++ L) e1.symm (by rw [← e2]; exact X'.warmed.alike) hp hb k1 k2 k3 T' rfl X'
    exact ⟨t2, st t2 a1, b1⟩
  · obtain ⟨k1, k2, k3⟩ := vx_keep h0 e1 hS hAX hf hL hF
    obtain ⟨t2, a1, b1⟩ := kx E ce q u t T'.heap (locs ++ L) e1.symm (by rw [← e2]; exact X'.warmed.alike) hp hb k1 k2 k3 (by rw [e1]; exact hce) hcv hcl T' rfl X'
    exact ⟨t2, st.trans a1, b1⟩
theorem vx_callv {S SX : Type} {post : S → Prop} {px : SX → Prop} {B : S → State → Prop} {BX : String → SX → State → Prop} {AX : Nat → Prop} (hr : vx_Run p l e R s m args below meth c H locs cells slots mc ms (F0 m pc ls st0) rest (va_Qv post B A1 a) (vx_X px BX AX) free) (hS : va_S A0 H0 H locs) (hA : ∀ q, q < H.size → A1 q → A0 q) (hf : ∀ q, free q → A0 q) (hAX : ∀ q, q < H.size → AX q → A0 q)
    (kx : ∀ (E : String) (ce : Cell) (q9 : Addr) (u : SX) (t : State) (H1 : Heap) (locs1 : List Loc), t.heap = H1 → s.vm.Alike t.vm → px u → BX E u t → H.size ≤ H1.size → (∀ q : Nat, q < H.size → ¬ AX q → H1[q]? = H[q]?) → va_S A0 H0 H1 locs1 → H1[q9]? = some ce → ce.vm = .none → s.vm.findClass E = some ce.cls → vx_W p l e R s m args below meth c H1 locs1 (cells + mc) (slots + ms) Q (F0 m pc ls rest) q9)
    (kk : ∀ (u : S) (t : State) (H1 : Heap) (locs1 : List Loc), t.heap = H1 → s.vm.Alike t.vm → post u → B u t → H.size ≤ H1.size → (∀ q : Nat, q < H.size → ¬ A1 q → H1[q]? = H[q]?) → va_S A0 H0 H1 locs1 → W p l e R s m args below meth c H1 locs1 (cells + mc) (slots + ms) Q (F0 m (pc + 3) ls (rest))) : W p l e R s m args below meth c H locs cells slots Q (F0 m pc ls st0) := by
  intro T hT X
  rcases hr T hT X with ⟨v, st₀, t, T', L, h0, X', hL, e1, e2, ⟨⟨u, hv, hp, hb⟩, hF⟩, st⟩ | ⟨q, st₀, t, T', L, E, ce, h0, X', hL, e1, e2, ⟨u, hp, hb, hF⟩, hce, hcv, hcl, st⟩
  · cases hv
    obtain ⟨k1, k2, k3⟩ := vx_keep h0 e1 hS hA hf hL hF
    obtain ⟨t2, a1, b1⟩ := kk u t T'.heap (locs ++ L) e1.symm (by rw [← e2]; exact X'.warmed.alike) hp hb k1 k2 k3 T' rfl X'
    exact ⟨t2, st t2 a1, b1⟩
  · obtain ⟨k1, k2, k3⟩ := vx_keep h0 e1 hS hAX hf hL hF
    obtain ⟨t2, a1, b1⟩ := kx E ce q u t T'.heap (locs ++ L) e1.symm (by rw [← e2]; exact X'.warmed.alike) hp hb k1 k2 k3 (by rw [e1]; exact hce) hcv hcl T' rfl X'
    exact ⟨t2, st.trans a1, b1⟩
/-- caught by the row x of this method's table; the rows ahead don't take it -/
theorem vx_catch {own name : String} {E : String} {ce : Cell} {q : Addr} (hown : s.vm.findClass own = some m.cls) (pre : List ExceptionTableEntry) (x : ExceptionTableEntry) (suf : List ExceptionTableEntry) (hsplit : c.exceptionTable.toList = pre ++ x :: suf)
    (hpass : ∀ z ∈ pre, covers z pc = false ∨ (z.catchType ≠ 0 ∧ ∃ nm : String, (Cond.classLink own z.catchType nm).before args s = true ∧ va_Nc E nm s)) (hx : covers x pc = true) (h0 : x.catchType ≠ 0)
    (hlink : (Cond.classLink own x.catchType name).before args s = true) (hcast : (Cond.castable E name).before args s = true) (hcell : H[q]? = some ce) (hv : ce.vm = .none) (hcl : s.vm.findClass E = some ce.cls)
    (kk : W p l e R s m args below meth c H locs cells slots Q (F0 m x.handlerPc ls [.ref q])) : vx_W p l e R s m args below meth c H locs cells slots Q (F0 m pc ls rest) q := by
  intro T hT X
  have hpl : e.platform.magicAccessors = ({} : Platform).magicAccessors := by rw [X.admits.platform]
  obtain ⟨c3, c4, hc3, hc4, hasg⟩ := Cond.castable_spec hcast
  cases Option.some.inj (hc3.symm.trans hcl)
  obtain ⟨c5, hc5, hcl5⟩ := Cond.classLink_spec hown hlink e.platform hpl
  cases Option.some.inj (hc4.symm.trans hc5)
  obtain ⟨vm', X', st⟩ := X.thenCaughtThrough q (g := F0 m pc ls rest) rfl (Steps.refl _) (by rw [hT]; exact hcell) (by rw [hv]; rfl) (by obtain ⟨k9, h9, -⟩ := Vm.findClass_spec hcl; exact ⟨k9, h9⟩) pre x suf hsplit
    (fun z hz => by
      rcases hpass z hz with h | ⟨hz0, nm, hl1, hn1⟩
      · exact Or.inl h
      · obtain ⟨c6, hc6, hcl6⟩ := Cond.classLink_spec hown hl1 e.platform hpl
        obtain ⟨a8, b8, h1, h2, h3⟩ := hn1
        cases Option.some.inj (h1.symm.trans hcl)
        cases Option.some.inj (h2.symm.trans hc6)
        exact Or.inr ⟨hz0, _, hcl6, h3⟩) hx (Or.inr ⟨h0, c4, hcl5, hasg⟩)
  obtain ⟨t, a1, b1⟩ := kk (T.setVm vm') hT X'
  exact ⟨t, st.trans a1, b1⟩
end Rows
section Ends
variable {p : Program} {l : Launch} {e : Env} {R : Room} {s : State} {m : MethodId} {args : Array Value} {below : List Frame} {meth : Method} {c : Code} {H : Heap} {locs : List Loc} {cells slots : Nat} {Q : State → Prop}
variable {mc ms : Nat} {free : Addr → Prop} {A0 A1 : Nat → Prop} {H0 : Heap} {a : Array Value} {ls : Array Slot} {st0 rest : List Value}
variable {Qc : Array Value → State → Outcome → State → Prop} {XC : String → State → State → Prop}
/-- what a body that may throw owes at its end -/
def vx_MQ (below : List Frame) (Qc : Array Value → State → Outcome → State → Prop) (XC : String → State → State → Prop) (a : Array Value) (s : State) (mc ms : Nat) (free : Addr → Prop) : State → Prop := fun t =>
  ∃ o, t.status = .running ∧ Ended t below o ∧ vx_Q Qc XC mc ms free a s o t
theorem vx_ret {g : JFrame} {mc ms : Nat} (k : W p l e R s m args below meth c H locs cells slots (MQ below Qc args s mc ms free) g) : W p l e R s m args below meth c H locs cells slots (vx_MQ below Qc XC args s mc ms free) g := by
  intro T hT X
  obtain ⟨t, a1, o, b1, b2, b3, b4⟩ := k T hT X
  exact ⟨t, a1, o, b1, b2, Or.inl ⟨b3, b4⟩⟩
/-- not caught here: it goes on to the caller -/
theorem vx_widen {g : JFrame} {q : Addr} {k n : Nat} (h1 : cells ≤ k) (h2 : slots ≤ n) (kk : vx_W p l e R s m args below meth c H locs k n Q g q) : vx_W p l e R s m args below meth c H locs cells slots Q g q := fun T hT X => kk T hT (stand_widen X h1 h2)
theorem vx_out {pc : Nat} {E : String} {ce : Cell} {q : Addr} {mc ms : Nat} (hout : ∀ x ∈ c.exceptionTable.toList, covers x pc = false) (hlocks : meth.locks = false) (hcell : H[q]? = some ce) (hv : ce.vm = .none) (hcl : s.vm.findClass E = some ce.cls)
    (hx : ∀ t : State, t.heap = H → s.vm.Alike t.vm → XC E s t) (hf : ∀ z ∈ locs, free z.base) (hc : cells ≤ mc) (hs : slots ≤ ms) :
    vx_W p l e R s m args below meth c H locs cells slots (vx_MQ below Qc XC args s mc ms free) (F0 m pc ls rest) q := by
  intro T hT X
  obtain ⟨st1, hrun, hend, hW, hsm⟩ := X.leaveThrown q (g := F0 m pc ls rest) rfl rfl rfl hout hlocks
  have hcell9 : (T.setFrames (.throwing q :: below)).heap[q]? = some ce := by
    show T.heap[q]? = some ce
    rw [hT]; exact hcell
  exact ⟨_, st1, .threw q, hrun, hend, Or.inr ⟨q, rfl, E, ce, locs, hx _ hT hW.alike, hcell9, hv, hcl, hW, hsm.mono hc hs, hf⟩⟩
theorem vx_frame {U : State} {k n : Nat} (h : s.sameButNew ({ U with vm := s.vm } : State) locs k n) : s.heap.size ≤ U.heap.size ∧ ∀ q : Nat, q < s.heap.size → (∀ z ∈ locs, z.base ≠ q) → U.heap[q]? = s.heap[q]? := by
  obtain ⟨-, h2, -, -, -, h6⟩ := h
  refine ⟨h2, fun q hq hz => ?_⟩
  obtain ⟨c9, e1, e2, e3, e4⟩ := h6 q _ (Array.getElem?_eq_getElem hq)
  have hs : c9.slots = (s.heap[q]).slots := Array.ext_getElem? fun i => e4 i fun hm => hz _ hm rfl
  have h9 : c9 = s.heap[q] := by
    rw [hs] at e2
    exact e2
  have e5 : U.heap[q]? = some c9 := e1
  rw [e5, h9, Array.getElem?_eq_getElem hq]
/-- the words of a throw but the four that speak of the heap -/
def vx_no (w : Cond) : Bool := decide (w ≠ .isRef (.static Bundle.tN "UNASSIGNED_STACK" Bundle.steD)) && decide (w ≠ .isRef (.static Bundle.tN "SUPPRESSED_SENTINEL" Bundle.listD)) && decide (w ≠ .laysStatic Bundle.tN "UNASSIGNED_STACK" Bundle.steD) && decide (w ≠ .laysStatic Bundle.tN "SUPPRESSED_SENTINEL" Bundle.listD)
def vx_at0 (own : String) (ic : Nat) (X : String) (names : List String) : List Cond := (Bundle.ownAtoms0 own ic X names).filter vx_no
def vx_atS (own : String) (ic : Nat) (X : String) (names : List String) : List Cond := (Bundle.ownAtoms own ic X names).filter vx_no
/-- a word that the tables alone decide, or a good one -/
def vx_ot (w : Cond) : Bool := w.onTables || goodWord w
theorem vx_ot_at {args a' : Array Value} {s U : State} {w : Cond} (hW : s.WarmedH U.vm) (hvm : s.vm = U.vm) (hg : vx_ot w = true) (h : w.before args s = true) : w.before a' U = true := by
  simp only [vx_ot, Bool.or_eq_true] at hg
  rcases hg with hg | hg
  · exact va_tabs hg hvm h
  · exact word_at hW (good_of_word hg) h
/-- a list's words: the good ones out of the method's own list, the others by premises of their own -/
theorem vx_hat {args : Array Value} {s : State} {L B : List Cond} (h1 : ∀ w ∈ L.filter goodWord, w.before args s = true) (h2 : ∀ w ∈ L.filter (fun w => !goodWord w), w ∈ B) (h3 : ∀ w ∈ B, w.before args s = true) : ∀ w ∈ L, w.before args s = true := by
  intro w hw
  by_cases g : goodWord w = true
  · exact h1 w (List.mem_filter.mpr ⟨hw, g⟩)
  · refine h3 w (h2 w (List.mem_filter.mpr ⟨hw, ?_⟩))
    show (!goodWord w) = true
    cases hgw : goodWord w
    · rfl
    · exact absurd hgw g
theorem vx_c {args : Array Value} {s : State} {w : Cond} {B : List Cond} (h : w.before args s = true) (t : ∀ w ∈ B, w.before args s = true) : ∀ w' ∈ w :: B, w'.before args s = true := fun w' h' => (List.mem_cons.mp h').elim (fun e => by rw [e]; exact h) (t w')
theorem vx_n {args : Array Value} {s : State} : ∀ w ∈ ([] : List Cond), w.before args s = true := fun _ h => nomatch h
theorem vx_own {args : Array Value} {s : State} {L : List Cond} (h1 : ∀ w ∈ L.filter vx_no, w.before args s = true)
    (hU : (Cond.isRef (.static Bundle.tN "UNASSIGNED_STACK" Bundle.steD)).before args s = true) (hN : (Cond.isRef (.static Bundle.tN "SUPPRESSED_SENTINEL" Bundle.listD)).before args s = true)
    (lU : (Cond.laysStatic Bundle.tN "UNASSIGNED_STACK" Bundle.steD).before args s = true) (lN : (Cond.laysStatic Bundle.tN "SUPPRESSED_SENTINEL" Bundle.listD).before args s = true) : ∀ w ∈ L, w.before args s = true := by
  intro w hw
  by_cases e1 : w = .isRef (.static Bundle.tN "UNASSIGNED_STACK" Bundle.steD)
  · rw [e1]; exact hU
  · by_cases e2 : w = .isRef (.static Bundle.tN "SUPPRESSED_SENTINEL" Bundle.listD)
    · rw [e2]; exact hN
    · by_cases e3 : w = .laysStatic Bundle.tN "UNASSIGNED_STACK" Bundle.steD
      · rw [e3]; exact lU
      · by_cases e4 : w = .laysStatic Bundle.tN "SUPPRESSED_SENTINEL" Bundle.listD
        · rw [e4]; exact lN
        · exact h1 w (List.mem_filter.mpr ⟨hw, by unfold vx_no; rw [decide_eq_true e1, decide_eq_true e2, decide_eq_true e3, decide_eq_true e4]; rfl⟩)
/-- where a static field lies, its class's statics cell in H -/
def vx_L (C n d : String) (A : Nat → Prop) (U : State) (H : Heap) : Prop := ∃ (c : ClassId) (k : Class) (i : Nat) (f : Field) (a : Nat) (cell : Cell), U.vm.findClass C = some c ∧ U.fieldFound? C n d = some (c, k, i, f) ∧ f.isStatic = true ∧ k.statics = some a ∧ H[a]? = some cell ∧ cell.vm.isStatics = true ∧ cell.cls = c ∧ f.slot < cell.slots.size ∧ k.staticTypes[f.slot]? = some f.type ∧ ¬ A a
theorem vx_L.moved {C n d : String} {A : Nat → Prop} {u U : State} {H : Heap} (hvm : u.vm.Alike U.vm) (h : vx_L C n d A u H) : vx_L C n d A U H := by
  obtain ⟨c, k, i, f, a, cell, h1, h2, h3, h4, h5, h6, h7, h8, h9, h10⟩ := h
  obtain ⟨k', hi', he⟩ := State.fieldFound?_setVm hvm h2
  exact ⟨c, k', i, f, a, cell, by rw [hvm.findClass]; exact h1, hi', h3, by rw [he]; exact h4, h5, h6, h7, h8, by rw [he]; exact h9, h10⟩
theorem vx_L.kept {C n d : String} {A : Nat → Prop} {U : State} {H H1 : Heap} (h : vx_L C n d A U H) (hq : ∀ a : Nat, a < H.size → ¬ A a → H1[a]? = H[a]?) : vx_L C n d A U H1 := by
  obtain ⟨c, k, i, f, a, cell, h1, h2, h3, h4, h5, h6, h7, h8, h9, h10⟩ := h
  exact ⟨c, k, i, f, a, cell, h1, h2, h3, h4, by rw [hq a (Array.getElem?_eq_some_iff.mp h5).1 h10]; exact h5, h6, h7, h8, h9, h10⟩
theorem vx_L.narrow {C n d : String} {A B : Nat → Prop} {U : State} {H : Heap} (h : vx_L C n d A U H) (hAB : ∀ q, B q → A q) : vx_L C n d B U H := by
  obtain ⟨c, k, i, f, a, cell, h1, h2, h3, h4, h5, h6, h7, h8, h9, h10⟩ := h
  exact ⟨c, k, i, f, a, cell, h1, h2, h3, h4, h5, h6, h7, h8, h9, fun z => h10 (hAB _ z)⟩
theorem vx_L.word {C n d : String} {A : Nat → Prop} {s : State} {args : Array Value} (h : vx_L C n d A s s.heap) : (Cond.laysStatic C n d).before args s = true := by
  obtain ⟨c, k, i, f, a, cell, h1, h2, h3, h4, h5, h6, h7, h8, h9, -⟩ := h
  show (Cond.laysStatic C n d).holds args s none s [] = true
  exact Cond.laysStatic_of h1 h2 h3 h4 h5 h6 h7 h8 h9
/-- .. and what it holds: null or some reference -/
def vx_Zq (C n d : String) (A : Nat → Prop) (U : State) (H : Heap) : Prop := va_Zq C n d A U H ∧ vx_L C n d A U H
theorem vx_Zq.moved {C n d : String} {A : Nat → Prop} {u U : State} {H : Heap} (hvm : u.vm.Alike U.vm) (h : vx_Zq C n d A u H) : vx_Zq C n d A U H := ⟨va_Zq.moved hvm h.1, vx_L.moved hvm h.2⟩
theorem vx_Zq.kept {C n d : String} {A : Nat → Prop} {U : State} {H H1 : Heap} (h : vx_Zq C n d A U H) (hq : ∀ a : Nat, a < H.size → ¬ A a → H1[a]? = H[a]?) : vx_Zq C n d A U H1 := ⟨va_Zq.kept h.1 hq, vx_L.kept h.2 hq⟩
theorem vx_Zq.narrow {C n d : String} {A B : Nat → Prop} {U : State} {H : Heap} (h : vx_Zq C n d A U H) (hAB : ∀ q, B q → A q) : vx_Zq C n d B U H := ⟨va_Zq.narrow h.1 hAB, vx_L.narrow h.2 hAB⟩
theorem vx_Zqof {args : Array Value} {s : State} {C n d : String} {A : Nat → Prop} (hl : (Cond.laysStatic C n d).before args s = true) (hini : (Cond.initialized C).before args s = true) (h : (Cond.isRef (.static C n d)).before args s = true) (hA : ∀ a : Nat, a < s.heap.size → ¬ A a) : vx_Zq C n d A s s.heap := by
  refine ⟨va_Zqof hl hini h hA, ?_⟩
  obtain ⟨c, k, i, f, a, cell, h1, h2, h3, h4, h5, h6, h7, h8, h9⟩ := Cond.laysStatic_spec hl
  exact ⟨c, k, i, f, a, cell, h1, h2, h3, h4, h5, h6, h7, h8, h9, hA a (Array.getElem?_eq_some_iff.mp h5).1⟩
theorem vx_isRef {C n d : String} {v : Value} {A : Nat → Prop} {s : State} {args : Array Value} (h : va_Z C n d v A s s.heap) (hv : v.isRef = true) : (Cond.isRef (.static C n d)).before args s = true := by
  obtain ⟨cf, kf, fi, f, a, cell, h1, h2, h3, h4, h5, h6, h7, -⟩ := h
  have he : (Term.static C n d).eval args s none [] s = some v := by
    simp [Term.eval, State.fieldNamed?, h1, h2, h4, h5, h6, h7]
  simp only [Cond.before, Cond.holds, Cond.value, he]
  cases v <;> simp_all [Value.isRef]
theorem vx_isRefq {C n d : String} {A : Nat → Prop} {s : State} {args : Array Value} (h : va_Zq C n d A s s.heap) : (Cond.isRef (.static C n d)).before args s = true := by
  rcases h with h | ⟨t, h⟩
  · exact vx_isRef h rfl
  · exact vx_isRef h rfl
/-- the same frame, seen from here: as if the method were called anew in this heap -/
theorem vx_rebase {T : State} (X : Stand p l e R s m args below meth c T locs cells slots) {R' : Room} (hf : R'.frames ≤ R.frames) (hl : R'.locals ≤ R.locals) (hc : cells + R'.cells ≤ R.cells) (hs : slots + R'.slots ≤ R.slots) :
    Stand p l e R' ((T.setVm s.vm).setFrames (.invoking m args :: below)) m args below meth c T [] 0 0 := by
  have htop : (T.setVm s.vm).topJava?.isSome := X.here.top
  have hF : ((T.setVm s.vm).setFrames (.invoking m args :: below)).frames = .invoking m args :: below := State.frames_setFrames _ (State.cur_lt_of_top htop)
  obtain ⟨g₀, hg0⟩ := Option.isSome_iff_exists.mp htop
  obtain ⟨r, hr⟩ := State.topJava?_eq_some.mp hg0
  have hl9 : e.platform.stackLimits (T.setVm s.vm).me = e.platform.stackLimits s.me := X.limits
  have hb9 : (T.setVm s.vm).me.stackBytes = s.me.stackBytes := X.bytes
  refine ⟨X.admits, X.cas, X.clock, hF, ?_, X.hears, X.method, X.code, X.here, X.tail, X.warmed, ?_, ?_, ?_⟩
  · have h := X.room
    have hU : ((T.setVm s.vm).setFrames (.invoking m args :: below)).localsInUse = s.localsInUse := by
      rw [State.localsInUse_invoking hF (meth := meth) (c := c) X.method X.code, State.localsInUse_invoking X.frames X.method X.code]
    simp only [State.hasRoom, Bool.and_eq_true, decide_eq_true_eq] at h ⊢
    obtain ⟨⟨⟨⟨h1, h2, h3, h4, h5, h6⟩, h7⟩, h8⟩, h9⟩ := h
    rw [X.frames, List.length_cons] at h2 h3
    have q1 := X.heapSize
    have q2 := X.used
    simp only [hF, hU, List.length_cons, State.stackLimits_setFrames, State.stackBytes_setFrames, hl9, hb9]
    refine ⟨⟨⟨⟨by omega, by omega, by omega, by omega, by omega, h6⟩, ?_⟩, ?_⟩, X.book⟩
    · show T.heap.size + R'.cells ≤ e.platform.maxCells
      omega
    · show T.slotsUsed + R'.slots ≤ e.platform.maxSlots
      omega
  · rw [State.stackLimits_setFrames]; rfl
  · rw [State.stackBytes_setFrames]; rfl
  · refine ⟨?_, Nat.le_refl _, Nat.le_refl _, ?_, ?_, fun a c9 h9 => ⟨c9, h9, rfl, rfl, fun _ _ => rfl⟩⟩
    · obtain ⟨t, ht, -⟩ := State.frames_cons hr
      show T.setVm s.vm = { ((T.setVm s.vm).setFrames (.invoking m args :: below)).setFrames (T.setVm s.vm).frames with heap := T.heap, slotsUsed := T.slotsUsed }
      rw [State.setFrames_setFrames, State.setFrames_self ht]
      rfl
    · show T.slotsUsed = T.slotsUsed + ((T.heap.toList.drop T.heap.size).map (·.slots.size)).sum
      rw [List.drop_eq_nil_of_le (Nat.le_of_eq Array.length_toList)]
      rfl
    · show ((T.heap.toList.drop T.heap.size).map (·.slots.size)).sum ≤ 0
      rw [List.drop_eq_nil_of_le (Nat.le_of_eq Array.length_toList)]
      exact Nat.le_refl _
/-- 'throw new E()': new; dup; invokespecial; athrow -/
theorem vx_throw0 {cc : ByteArray} {pc : Nat} (hexec : p.tables.exec = Jvm.exec) (hb : c.code = cc) (hl : l.stackTraces = false) {own cls : String} {names : List String} {ik ic mc ms : Nat} {A : Nat → Prop}
    (hown : s.vm.findClass own = some m.cls) (hcls : Bundle.fit cls = true) (hnames : ∀ n ∈ names, Bundle.fit n = true)
    (hk : (Cond.classLink own ik cls).before args s = true) (hini : (Cond.initialized cls).before args s = true) (hat : ∀ w ∈ vx_at0 own ic cls names, w.before args s = true)
    (hgood : ∀ w ∈ Cond.classLink own ik cls :: Cond.initialized cls :: vx_at0 own ic cls names, vx_ot w = true)
    (hU : vx_Zq Bundle.tN "UNASSIGNED_STACK" Bundle.steD A s s.heap) (hN : vx_Zq Bundle.tN "SUPPRESSED_SENTINEL" Bundle.listD A s s.heap) (hS : va_S A s.heap H locs) (hsize : ls.size = c.maxLocals)
    (d0 : decode cc pc = .ok (.new ik, 3)) (d3 : decode cc (pc + 3) = .ok (.dup, 1)) (d4 : decode cc (pc + 4) = .ok (.invokespecial ic, 3)) (d7 : decode cc (pc + 7) = .ok (.athrow, 1))
    (hout : ∀ x ∈ c.exceptionTable.toList, covers x (pc + 7) = false)
    (hRframes : names.length + 3 < R.frames) (hRlocals : (rest.map fun v => v.category).sum + (13 * (names.length + 1) + 42) ≤ R.locals) (hRcells : cells + 1 ≤ R.cells) (hRslots : slots + 6 ≤ R.slots) (hlocks : meth.locks = false)
    (hx : ∀ t : State, s.vm.Alike t.vm → H.size ≤ t.heap.size → (∀ q : Nat, q < H.size → t.heap[q]? = H[q]?) → XC cls s t)
    (hf : ∀ z ∈ locs, free z.base) (hc : cells + 1 ≤ mc) (hs : slots + 6 ≤ ms) :
    W p l e R s m args below meth c H locs cells slots (vx_MQ below Qc XC args s mc ms free) (F0 m pc ls rest) := by
  intro T hT X
  have htr : e.platform.stackTraces = false := (show e.platform.stackTraces = l.stackTraces by rw [X.admits.platform]).trans hl
  have Y := vx_rebase X (R' := { frames := R.frames, locals := R.locals, cells := 1, slots := 6 }) (Nat.le_refl _) (Nat.le_refl _) hRcells hRslots
  obtain ⟨s', hA⟩ : ∃ z, z = (T.setVm s.vm).setFrames (.invoking m args :: below) := ⟨_, rfl⟩
  rw [← hA] at Y
  have hvm : s'.vm = s.vm := by rw [hA]; rfl
  have hhp : s'.heap = H := by rw [hA]; exact hT
  have hW0 : s.WarmedH s'.vm := by rw [hvm]; exact State.WarmedH.refl s
  have hat' : ∀ w ∈ vx_at0 own ic cls names, w.before args s' = true := fun w hw => vx_ot_at hW0 hvm.symm (hgood w (List.mem_cons_of_mem _ (List.mem_cons_of_mem _ hw))) (hat w hw)
  have hk' : (Cond.classLink own ik cls).before args s' = true := vx_ot_at hW0 hvm.symm (hgood _ List.mem_cons_self) hk
  have hini' : (Cond.initialized cls).before args s' = true := vx_ot_at hW0 hvm.symm (hgood _ (List.mem_cons_of_mem _ List.mem_cons_self)) hini
  have hU' : vx_Zq Bundle.tN "UNASSIGNED_STACK" Bundle.steD A s' s'.heap := by rw [hhp]; exact vx_Zq.moved hW0.alike (hU.kept hS.2.1)
  have hN' : vx_Zq Bundle.tN "SUPPRESSED_SENTINEL" Bundle.listD A s' s'.heap := by rw [hhp]; exact vx_Zq.moved hW0.alike (hN.kept hS.2.1)
  have h : ∀ w ∈ Bundle.ownAtoms0 own ic cls names, w.before args s' = true := vx_own hat' (vx_isRefq hU'.1) (vx_isRefq hN'.1) hU'.2.word hN'.2.word
  have hown' : s'.vm.findClass own = some m.cls := by rw [hvm]; exact hown
  have hins : (Cond.instantiable cls 6).before args s' = true := h _ (by simp [Bundle.ownAtoms0])
  obtain ⟨vm₁, cX, kX, hfX, hkX, -, -, X₁, st1⟩ := Y.newCold hexec (own := own) (C := cls) (index := ik) (n := 6) hown' hk' hins hini'
    (g := F0 m pc ls rest) rfl (by rw [hb]; exact d0) (Nat.le_refl _) (Nat.le_refl _)
  generalize hT1 : (T.setVm vm₁).pushCell { cls := cX, slots := kX.instanceTypes.map defaultValue, vm := .none } = T1 at X₁ st1
  have hcat : (Value.ref T.heap.size).category = 1 := rfl
  have hcellA : T1.heap[T.heap.size]? = some (freshCell cX kX) := by rw [← hT1]; exact State.heap_pushCell_size _ _
  have d3' : decode c.code (pc + 3) = .ok (.dup, 1) := by rw [hb]; exact d3
  obtain ⟨U, hsteps, hrun, hend, hW, hsame, ce, hce, hO⟩ := X₁.ctorThrow0 hexec htr (own := own) (cls := cls) (names := names) (ic := ic) hown' hcls hnames h (fun x hx => nomatch hx) hfX hkX hcellA (by rw [hhp, hT]; exact Nat.le_refl _)
    (g := { method := m, pc := pc + 4, locals := ls, stack := .ref T.heap.size :: .ref T.heap.size :: rest, locked := none }) rfl hsize rfl rfl (rest := rest) rfl
    (by rw [hb]; exact d4) (by rw [hb]; exact d7) hout hRframes (by simp only [List.map_cons, List.sum_cons, hcat]; omega) hlocks
  obtain ⟨f1, f2⟩ := vx_frame hsame
  rw [hhp] at f1 f2
  have hWs : s.WarmedH U.vm := State.WarmedH.trans hW0 hW
  have hcl : s.vm.findClass cls = some ce.cls := by
    have h9 := hO.cls
    rw [hvm] at h9
    exact h9
  have hall : s.sameButNew ({ U with vm := s.vm } : State) locs mc ms := by
    subst hA
    obtain ⟨e1, e2⟩ := hsame
    rw [State.setFrames_setFrames] at e1
    have h2 : (T.setVm s.vm).sameButNew ({ U with vm := s.vm } : State) [] (0 + 1) (0 + 6) := ⟨e1, e2⟩
    have h3 := X.same.trans h2
    rw [List.append_nil] at h3
    exact h3.mono hc hs
  refine ⟨U, ?_, .threw T.heap.size, hrun, hend, Or.inr ⟨T.heap.size, rfl, cls, ce, locs, hx U hWs.alike f1 (fun q hq => f2 q hq (fun z hz => nomatch hz)), hce, hO.vm, hcl, hWs, hall, hf⟩⟩
  refine st1 _ ?_
  show Steps p.tables e below (T1.setTop { method := m, pc := pc + 3, locals := ls, stack := .ref T.heap.size :: rest, locked := none }) _
  jvm_step X₁.here [X₁.here.top, hexec, d3', Value.category]
  exact hsteps
/-- 'throw new E("text")': new; dup; ldc; invokespecial; athrow -/
theorem vx_throwS {cc : ByteArray} {pc : Nat} (hexec : p.tables.exec = Jvm.exec) (hb : c.code = cc) (hl : l.stackTraces = false) {own cls text : String} {names : List String} {ik is ic mc ms sa : Nat} {A : Nat → Prop}
    (hown : s.vm.findClass own = some m.cls) (hcls : Bundle.fit cls = true) (hnames : ∀ n ∈ names, Bundle.fit n = true)
    (hk : (Cond.classLink own ik cls).before args s = true) (hini : (Cond.initialized cls).before args s = true) (hstr : vk_R own is text sa s) (hat : ∀ w ∈ vx_atS own ic cls names, w.before args s = true)
    (hgood : ∀ w ∈ Cond.classLink own ik cls :: Cond.initialized cls :: vx_atS own ic cls names, vx_ot w = true)
    (hU : vx_Zq Bundle.tN "UNASSIGNED_STACK" Bundle.steD A s s.heap) (hN : vx_Zq Bundle.tN "SUPPRESSED_SENTINEL" Bundle.listD A s s.heap) (hS : va_S A s.heap H locs) (hsize : ls.size = c.maxLocals)
    (d0 : decode cc pc = .ok (.new ik, 3)) (d3 : decode cc (pc + 3) = .ok (.dup, 1)) (d4 : decode cc (pc + 4) = .ok (.ldc is, 2)) (d6 : decode cc (pc + 6) = .ok (.invokespecial ic, 3)) (d9 : decode cc (pc + 9) = .ok (.athrow, 1))
    (hout : ∀ x ∈ c.exceptionTable.toList, covers x (pc + 9) = false)
    (hRframes : names.length + 3 < R.frames) (hRlocals : (rest.map fun v => v.category).sum + (13 * (names.length + 1) + 43) ≤ R.locals) (hRcells : cells + 1 ≤ R.cells) (hRslots : slots + 6 ≤ R.slots) (hlocks : meth.locks = false)
    (hx : ∀ t : State, s.vm.Alike t.vm → H.size ≤ t.heap.size → (∀ q : Nat, q < H.size → t.heap[q]? = H[q]?) → XC cls s t)
    (hf : ∀ z ∈ locs, free z.base) (hc : cells + 1 ≤ mc) (hs : slots + 6 ≤ ms) :
    W p l e R s m args below meth c H locs cells slots (vx_MQ below Qc XC args s mc ms free) (F0 m pc ls rest) := by
  intro T hT X
  have htr : e.platform.stackTraces = false := (show e.platform.stackTraces = l.stackTraces by rw [X.admits.platform]).trans hl
  have Y := vx_rebase X (R' := { frames := R.frames, locals := R.locals, cells := 1, slots := 6 }) (Nat.le_refl _) (Nat.le_refl _) hRcells hRslots
  obtain ⟨s', hA⟩ : ∃ z, z = (T.setVm s.vm).setFrames (.invoking m args :: below) := ⟨_, rfl⟩
  rw [← hA] at Y
  have hvm : s'.vm = s.vm := by rw [hA]; rfl
  have hhp : s'.heap = H := by rw [hA]; exact hT
  have hW0 : s.WarmedH s'.vm := by rw [hvm]; exact State.WarmedH.refl s
  have hat' : ∀ w ∈ vx_atS own ic cls names, w.before args s' = true := fun w hw => vx_ot_at hW0 hvm.symm (hgood w (List.mem_cons_of_mem _ (List.mem_cons_of_mem _ hw))) (hat w hw)
  have hk' : (Cond.classLink own ik cls).before args s' = true := vx_ot_at hW0 hvm.symm (hgood _ List.mem_cons_self) hk
  have hini' : (Cond.initialized cls).before args s' = true := vx_ot_at hW0 hvm.symm (hgood _ (List.mem_cons_of_mem _ List.mem_cons_self)) hini
  have hU' : vx_Zq Bundle.tN "UNASSIGNED_STACK" Bundle.steD A s' s'.heap := by rw [hhp]; exact vx_Zq.moved hW0.alike (hU.kept hS.2.1)
  have hN' : vx_Zq Bundle.tN "SUPPRESSED_SENTINEL" Bundle.listD A s' s'.heap := by rw [hhp]; exact vx_Zq.moved hW0.alike (hN.kept hS.2.1)
  have h : ∀ w ∈ Bundle.ownAtoms own ic cls names, w.before args s' = true := vx_own hat' (vx_isRefq hU'.1) (vx_isRefq hN'.1) hU'.2.word hN'.2.word
  have hown' : s'.vm.findClass own = some m.cls := by rw [hvm]; exact hown
  have hins : (Cond.instantiable cls 6).before args s' = true := h _ (by simp [Bundle.ownAtoms])
  obtain ⟨vm₁, cX, kX, hfX, hkX, -, -, X₁, st1⟩ := Y.newCold hexec (own := own) (C := cls) (index := ik) (n := 6) hown' hk' hins hini'
    (g := F0 m pc ls rest) rfl (by rw [hb]; exact d0) (Nat.le_refl _) (Nat.le_refl _)
  generalize hT1 : (T.setVm vm₁).pushCell { cls := cX, slots := kX.instanceTypes.map defaultValue, vm := .none } = T1 at X₁ st1
  have hcat : (Value.ref T.heap.size).category = 1 := rfl
  have hcellA : T1.heap[T.heap.size]? = some (freshCell cX kX) := by rw [← hT1]; exact State.heap_pushCell_size _ _
  have d3' : decode c.code (pc + 3) = .ok (.dup, 1) := by rw [hb]; exact d3
  have d4' : decode c.code (pc + 4) = .ok (.ldc is, 2) := by rw [hb]; exact d4
  have hstr' : vk_R own is text sa s' := vk_R.warm hW0 hstr
  obtain ⟨U, hsteps, hrun, hend, hW, hsame, ce, hce, hO⟩ := X₁.ctorThrowS hexec htr (own := own) (cls := cls) (names := names) (ic := ic) hown' hcls hnames h (fun x hx => nomatch hx) hfX hkX hcellA (by rw [hhp, hT]; exact Nat.le_refl _) (msg := .ref sa) rfl
    (g := { method := m, pc := pc + 6, locals := ls, stack := .ref sa :: .ref T.heap.size :: .ref T.heap.size :: rest, locked := none }) rfl hsize rfl rfl (rest := rest) rfl
    (by rw [hb]; exact d6) (by rw [hb]; exact d9) hout hRframes (by simp only [List.map_cons, List.sum_cons, hcat]; omega) hlocks
  obtain ⟨f1, f2⟩ := vx_frame hsame
  rw [hhp] at f1 f2
  have hWs : s.WarmedH U.vm := State.WarmedH.trans hW0 hW
  have hcl : s.vm.findClass cls = some ce.cls := by
    have h9 := hO.cls
    rw [hvm] at h9
    exact h9
  have hall : s.sameButNew ({ U with vm := s.vm } : State) locs mc ms := by
    subst hA
    obtain ⟨e1, e2⟩ := hsame
    rw [State.setFrames_setFrames] at e1
    have h2 : (T.setVm s.vm).sameButNew ({ U with vm := s.vm } : State) [] (0 + 1) (0 + 6) := ⟨e1, e2⟩
    have h3 := X.same.trans h2
    rw [List.append_nil] at h3
    exact h3.mono hc hs
  refine ⟨U, ?_, .threw T.heap.size, hrun, hend, Or.inr ⟨T.heap.size, rfl, cls, ce, locs, hx U hWs.alike f1 (fun q hq => f2 q hq (fun z hz => nomatch hz)), hce, hO.vm, hcl, hWs, hall, hf⟩⟩
  refine st1 _ ?_
  show Steps p.tables e below (T1.setTop { method := m, pc := pc + 3, locals := ls, stack := .ref T.heap.size :: rest, locked := none }) _
  jvm_step X₁.here [X₁.here.top, hexec, d3', Value.category]
  exact X₁.ldcString hexec (own := own) (text := text) (index := is) (a := sa) hown' hstr'.1 hstr'.2
    (g := { method := m, pc := pc + 4, locals := ls, stack := .ref T.heap.size :: .ref T.heap.size :: rest, locked := none }) rfl d4' _ hsteps
/-- 'throw new E("text")', the text by a wide index -/
theorem vx_throwSW {cc : ByteArray} {pc : Nat} (hexec : p.tables.exec = Jvm.exec) (hb : c.code = cc) (hl : l.stackTraces = false) {own cls text : String} {names : List String} {ik is ic mc ms sa : Nat} {A : Nat → Prop}
    (hown : s.vm.findClass own = some m.cls) (hcls : Bundle.fit cls = true) (hnames : ∀ n ∈ names, Bundle.fit n = true)
    (hk : (Cond.classLink own ik cls).before args s = true) (hini : (Cond.initialized cls).before args s = true) (hstr : vk_R own is text sa s) (hat : ∀ w ∈ vx_atS own ic cls names, w.before args s = true)
    (hgood : ∀ w ∈ Cond.classLink own ik cls :: Cond.initialized cls :: vx_atS own ic cls names, vx_ot w = true)
    (hU : vx_Zq Bundle.tN "UNASSIGNED_STACK" Bundle.steD A s s.heap) (hN : vx_Zq Bundle.tN "SUPPRESSED_SENTINEL" Bundle.listD A s s.heap) (hS : va_S A s.heap H locs) (hsize : ls.size = c.maxLocals)
    (d0 : decode cc pc = .ok (.new ik, 3)) (d3 : decode cc (pc + 3) = .ok (.dup, 1)) (d4 : decode cc (pc + 4) = .ok (.ldc_w is, 3)) (d7 : decode cc (pc + 7) = .ok (.invokespecial ic, 3)) (d10 : decode cc (pc + 10) = .ok (.athrow, 1))
    (hout : ∀ x ∈ c.exceptionTable.toList, covers x (pc + 10) = false)
    (hRframes : names.length + 3 < R.frames) (hRlocals : (rest.map fun v => v.category).sum + (13 * (names.length + 1) + 43) ≤ R.locals) (hRcells : cells + 1 ≤ R.cells) (hRslots : slots + 6 ≤ R.slots) (hlocks : meth.locks = false)
    (hx : ∀ t : State, s.vm.Alike t.vm → H.size ≤ t.heap.size → (∀ q : Nat, q < H.size → t.heap[q]? = H[q]?) → XC cls s t)
    (hf : ∀ z ∈ locs, free z.base) (hc : cells + 1 ≤ mc) (hs : slots + 6 ≤ ms) :
    W p l e R s m args below meth c H locs cells slots (vx_MQ below Qc XC args s mc ms free) (F0 m pc ls rest) := by
  intro T hT X
  have htr : e.platform.stackTraces = false := (show e.platform.stackTraces = l.stackTraces by rw [X.admits.platform]).trans hl
  have Y := vx_rebase X (R' := { frames := R.frames, locals := R.locals, cells := 1, slots := 6 }) (Nat.le_refl _) (Nat.le_refl _) hRcells hRslots
  obtain ⟨s', hA⟩ : ∃ z, z = (T.setVm s.vm).setFrames (.invoking m args :: below) := ⟨_, rfl⟩
  rw [← hA] at Y
  have hvm : s'.vm = s.vm := by rw [hA]; rfl
  have hhp : s'.heap = H := by rw [hA]; exact hT
  have hW0 : s.WarmedH s'.vm := by rw [hvm]; exact State.WarmedH.refl s
  have hat' : ∀ w ∈ vx_atS own ic cls names, w.before args s' = true := fun w hw => vx_ot_at hW0 hvm.symm (hgood w (List.mem_cons_of_mem _ (List.mem_cons_of_mem _ hw))) (hat w hw)
  have hk' : (Cond.classLink own ik cls).before args s' = true := vx_ot_at hW0 hvm.symm (hgood _ List.mem_cons_self) hk
  have hini' : (Cond.initialized cls).before args s' = true := vx_ot_at hW0 hvm.symm (hgood _ (List.mem_cons_of_mem _ List.mem_cons_self)) hini
  have hU' : vx_Zq Bundle.tN "UNASSIGNED_STACK" Bundle.steD A s' s'.heap := by rw [hhp]; exact vx_Zq.moved hW0.alike (hU.kept hS.2.1)
  have hN' : vx_Zq Bundle.tN "SUPPRESSED_SENTINEL" Bundle.listD A s' s'.heap := by rw [hhp]; exact vx_Zq.moved hW0.alike (hN.kept hS.2.1)
  have h : ∀ w ∈ Bundle.ownAtoms own ic cls names, w.before args s' = true := vx_own hat' (vx_isRefq hU'.1) (vx_isRefq hN'.1) hU'.2.word hN'.2.word
  have hown' : s'.vm.findClass own = some m.cls := by rw [hvm]; exact hown
  have hins : (Cond.instantiable cls 6).before args s' = true := h _ (by simp [Bundle.ownAtoms])
  obtain ⟨vm₁, cX, kX, hfX, hkX, -, -, X₁, st1⟩ := Y.newCold hexec (own := own) (C := cls) (index := ik) (n := 6) hown' hk' hins hini'
    (g := F0 m pc ls rest) rfl (by rw [hb]; exact d0) (Nat.le_refl _) (Nat.le_refl _)
  generalize hT1 : (T.setVm vm₁).pushCell { cls := cX, slots := kX.instanceTypes.map defaultValue, vm := .none } = T1 at X₁ st1
  have hcat : (Value.ref T.heap.size).category = 1 := rfl
  have hcellA : T1.heap[T.heap.size]? = some (freshCell cX kX) := by rw [← hT1]; exact State.heap_pushCell_size _ _
  have d3' : decode c.code (pc + 3) = .ok (.dup, 1) := by rw [hb]; exact d3
  have d4' : decode c.code (pc + 4) = .ok (.ldc_w is, 3) := by rw [hb]; exact d4
  have hstr' : vk_R own is text sa s' := vk_R.warm hW0 hstr
  obtain ⟨U, hsteps, hrun, hend, hW, hsame, ce, hce, hO⟩ := X₁.ctorThrowS hexec htr (own := own) (cls := cls) (names := names) (ic := ic) hown' hcls hnames h (fun x hx => nomatch hx) hfX hkX hcellA (by rw [hhp, hT]; exact Nat.le_refl _) (msg := .ref sa) rfl
    (g := { method := m, pc := pc + 7, locals := ls, stack := .ref sa :: .ref T.heap.size :: .ref T.heap.size :: rest, locked := none }) rfl hsize rfl rfl (rest := rest) rfl
    (by rw [hb]; exact d7) (by rw [hb]; exact d10) hout hRframes (by simp only [List.map_cons, List.sum_cons, hcat]; omega) hlocks
  obtain ⟨f1, f2⟩ := vx_frame hsame
  rw [hhp] at f1 f2
  have hWs : s.WarmedH U.vm := State.WarmedH.trans hW0 hW
  have hcl : s.vm.findClass cls = some ce.cls := by
    have h9 := hO.cls
    rw [hvm] at h9
    exact h9
  have hall : s.sameButNew ({ U with vm := s.vm } : State) locs mc ms := by
    subst hA
    obtain ⟨e1, e2⟩ := hsame
    rw [State.setFrames_setFrames] at e1
    have h2 : (T.setVm s.vm).sameButNew ({ U with vm := s.vm } : State) [] (0 + 1) (0 + 6) := ⟨e1, e2⟩
    have h3 := X.same.trans h2
    rw [List.append_nil] at h3
    exact h3.mono hc hs
  refine ⟨U, ?_, .threw T.heap.size, hrun, hend, Or.inr ⟨T.heap.size, rfl, cls, ce, locs, hx U hWs.alike f1 (fun q hq => f2 q hq (fun z hz => nomatch hz)), hce, hO.vm, hcl, hWs, hall, hf⟩⟩
  refine st1 _ ?_
  show Steps p.tables e below (T1.setTop { method := m, pc := pc + 3, locals := ls, stack := .ref T.heap.size :: rest, locked := none }) _
  jvm_step X₁.here [X₁.here.top, hexec, d3', Value.category]
  exact X₁.ldcStringW hexec (own := own) (text := text) (index := is) (a := sa) hown' hstr'.1 hstr'.2
    (g := { method := m, pc := pc + 4, locals := ls, stack := .ref T.heap.size :: .ref T.heap.size :: rest, locked := none }) rfl d4' _ hsteps
end Ends
section Bodies
variable {l : Launch}
theorem vx_ofW {y : MethodName} {ws ws' : List Cond} {rm : Room} {Pc : Array Value → State → Prop} {Qc : Array Value → State → Outcome → State → Prop} {XC : String → State → State → Prop} {mc ms : Nat} {free : Addr → Prop} {cc : ByteArray} {maxL : Nat} {ret : Option FieldType}
    (hy : plainName y.cls = true) (hw : ws = Cond.code y cc maxL ret :: ws')
    (body : ∀ p e s m args below meth c s₁, BodyLoose p l y (headSpec ws rm) cc maxL ret e s m args below meth c s₁ → c.maxLocals = maxL → (∀ x ∈ c.exceptionTable.toList, False) → Pc args s →
      W p l e (headSpec ws rm).room s m args below meth c s.heap [] 0 0 (vx_MQ below Qc XC args s mc ms free) (entryFrame m args maxL)) : vx_Met l y ws rm Pc Qc XC mc ms free := by
  refine MetFree.of_bodyS (code := cc) (maxLocals := maxL) (ret := ret) hy ?_ ?_
  · intro args s m h hn
    obtain ⟨meth, c, h1, h2, h3, h4, h5, h6, -, -⟩ := Cond.code_spec hn (atoms_spec (ws := ws) h _ (by rw [hw]; exact List.mem_cons_self))
    exact ⟨meth, c, h1, h2, h3, h4, h5, h6⟩
  · intro p e s m args below meth c s₁ B hml hP _
    have hh0 : s₁.heap = s.heap := by rw [B.state]; rfl
    have ht : ∀ x ∈ c.exceptionTable.toList, False := by
      obtain ⟨meth9, c9, h1, h2, -, -, -, -, h7, -⟩ := Cond.code_spec B.named (atoms_spec (ws := ws) B.pre _ (by rw [hw]; exact List.mem_cons_self))
      cases Option.some.inj (h1.symm.trans B.method)
      cases Option.some.inj (h2.symm.trans (Stand.of_body B).code)
      intro x hx
      rw [Array.isEmpty_iff.mp h7] at hx
      cases hx
    obtain ⟨t, a1, o, b1, b2, b3⟩ := body p e s m args below meth c s₁ B hml ht hP s₁ hh0 (Stand.of_body B)
    exact ⟨t, o, a1, b1, b2, b3⟩
/-- the table of a body with handlers -/
theorem vx_table {p : Program} {x y : MethodName} {S : Spec} {cc bytes : ByteArray} {maxL maxL' : Nat} {ret ret' : Option FieldType} {e : Env} {s s₁ : State} {m : MethodId} {args : Array Value} {below : List Frame} {meth : Method} {c : Code} {hh : List (Nat × Nat × Nat × Nat)}
    (B : BodyLoose p l y S cc maxL ret e s m args below meth c s₁) (h : (Cond.codeWith y bytes maxL' ret' hh).before args s = true) : c.exceptionTable.toList = tableOf hh := by
  obtain ⟨m9, meth9, c9, hn9, h1, h2, -, -, h6, -⟩ := Cond.codeWith_spec h
  cases Option.some.inj (hn9.symm.trans B.named)
  cases Option.some.inj (h1.symm.trans B.method)
  cases Option.some.inj (h2.symm.trans (Stand.of_body B).code)
  rw [← h6, table_eq]
end Bodies
end VXA
/-! ===== END ===== -/
/-! ===== BEGIN a static call of a method with an exception table ===== -/
section VXS
variable {p : Program} {l : Launch} {e : Env} {R : Room} {s : State} {m : MethodId} {args : Array Value} {below : List Frame} {meth : Method} {c : Code} {T : State} {H : Heap} {locs : List Loc} {cells slots : Nat}
abbrev vx_CSW (R : Room) (s : State) (args : Array Value) (own : String) (index : Nat) (y : MethodName) (bytes : ByteArray) (maxL : Nat) (ret : Option FieldType) (hh : List (Nat × Nat × Nat × Nat)) (ws : List Cond) (rm : Room) (mc ms n : Nat) : Prop :=
  (rm.cells = mc ∧ rm.slots = ms ∧ rm.frames + 1 ≤ R.frames ∧ 8 + (maxL + 11) + rm.locals ≤ R.locals ∧ (∀ w ∈ ws, ∀ (a' : Array Value) (U : State), s.WarmedH U.vm → w.before a' U = true) ∧ Cond.codeWith y bytes maxL ret hh ∈ ws) ∧
  (Cond.codeWith y bytes maxL ret hh).before args s = true ∧ (Cond.initialized y.cls).before args s = true ∧ (y.cls ≠ "java/lang/invoke/MethodHandle" ∧ y.cls ≠ "java/lang/invoke/VarHandle") ∧
  (∀ sig, parseMethodDescriptor y.desc = some sig → n = sig.parameters.length) ∧ (Cond.methodLink own index y).before args s = true ∧ (Cond.static y).before args s = true
theorem vx_cwSW {own : String} {index maxL mc ms : Nat} {y : MethodName} {bytes : ByteArray} {ret : Option FieldType} {hh : List (Nat × Nat × Nat × Nat)} {Ts ws ws' : List Cond} {rm : Room} (n : Nat) (ht : ∀ w ∈ Ts, w.before args s = true) (hT : GoodIn Ts (va_wsS own index y ws)) (hw : ws = Cond.codeWith y bytes maxL ret hh :: ws') (hrc : rm.cells = mc) (hrs : rm.slots = ms)
    (hd : y.cls ≠ "java/lang/invoke/MethodHandle" ∧ y.cls ≠ "java/lang/invoke/VarHandle" ∧ (parseMethodDescriptor y.desc).map (fun d => d.parameters.length) = some n) (hR : rm.frames + 1 ≤ R.frames ∧ 8 + (maxL + 11) + rm.locals ≤ R.locals) :
    vx_CSW R s args own index y bytes maxL ret hh ws rm mc ms n := by
  have ok : ∀ w ∈ va_wsS own index y ws, w.before args s = true := fun w h => ht w (hT w h).1
  have hG : GoodIn Ts ws := fun w h => hT w (by unfold va_wsS; exact List.mem_append_right _ h)
  have hc : Cond.codeWith y bytes maxL ret hh ∈ ws := by rw [hw]; exact List.mem_cons_self
  refine ⟨⟨hrc, hrs, hR.1, hR.2, pay_in ht hG, hc⟩, ht _ (hG _ hc).1, ok _ (by simp [va_wsS]), ⟨hd.1, hd.2.1⟩, fun sig h => ?_, ok _ (by simp [va_wsS]), ok _ (by simp [va_wsS])⟩
  have h2 := hd.2.2
  rw [h] at h2
  exact (Option.some.inj h2).symm
theorem vx_callSW (X : Stand p l e R s m args below meth c T locs cells slots) (hexec : p.tables.exec = Jvm.exec) {own : String} {index : Nat} {y : MethodName} {bytes : ByteArray} {maxL : Nat} {ret : Option FieldType} {hh : List (Nat × Nat × Nat × Nat)}
    (hown : s.vm.findClass own = some m.cls) (hlink : (Cond.methodLink own index y).before args s = true) (hstat : (Cond.static y).before args s = true) (hinit : (Cond.initialized y.cls).before args s = true)
    (hcode : (Cond.codeWith y bytes maxL ret hh).before args s = true) (hy : y.cls ≠ "java/lang/invoke/MethodHandle" ∧ y.cls ≠ "java/lang/invoke/VarHandle")
    {W9 : Nat} {Pre : Pt → Array Value → Prop} {Post : Pt → Array Value → Option Value → Pt → Prop} (hK : Back l R p e below s args y 3 W9 Pre Post)
    {g : JFrame} (hg : g.method = m) (hsize : g.locals.size = c.maxLocals) {argsL rest : List Value} (hlen : ∀ sig, parseMethodDescriptor y.desc = some sig → argsL.length = sig.parameters.length)
    (hstack : g.stack = argsL.reverse ++ rest) (hW : 2 * g.monitorRoom + (rest.map fun v => v.category).sum ≤ W9) (hdg : decode c.code g.pc = .ok (.invokestatic index, 3))
    (hpre : ∀ vm₁, s.WarmedH vm₁ → Pre ⟨T.setVm vm₁, locs, cells, slots⟩ argsL.toArray) :
    ∃ (v : Option Value) (vm₁ : Vm) (B : Pt), s.WarmedH vm₁ ∧ Stand p l e R s m args below meth c B.U B.locs B.cells B.slots ∧ Post ⟨T.setVm vm₁, locs, cells, slots⟩ argsL.toArray v B ∧
      ∀ target, Steps p.tables e below (B.U.setTop { g with pc := g.pc + 3, stack := v.toList ++ rest }) target → Steps p.tables e below (T.setTop g) target := by
  obtain ⟨mk, methM, cM, hnamed, hmethM, -, -, -, -, -, -, hsigM⟩ := Cond.codeWith_spec hcode
  have hstatic : methM.isStatic = true := Cond.static_spec hnamed hmethM hstat
  obtain ⟨kP, hkP, -⟩ := className_of_methodNamed hnamed
  have hinitP : kP.init = .initialized := Cond.initialized_spec (findClass_of_methodNamed hnamed) hkP hinit
  obtain ⟨vm₁, X₁, hstep₁⟩ := X.invokestatic hexec hown hlink hnamed hmethM hstatic hkP hinitP hy (g := g) hg (argsL := argsL) (rest := rest) (hlen _ hsigM) hstack hdg
  obtain ⟨v, B, X', hpost, hsteps⟩ := hK m meth c ⟨T.setVm vm₁, locs, cells, slots⟩ { g with stack := rest } (.invokestatic index) mk argsL.toArray X₁ hg hsize hdg hW (X₁.named hnamed) (hpre vm₁ X₁.warmed)
  exact ⟨v, vm₁, B, X₁.warmed, X', hpost, fun target h => hstep₁ _ fun acts => by rw [doInvoke_state]; exact hsteps.trans h⟩
theorem vx_runSW {y : MethodName} {bytes cc : ByteArray} {maxL nL mc ms n index : Nat} {ret : Option FieldType} {hh : List (Nat × Nat × Nat × Nat)} {ws : List Cond} {rm : Room} {Pc : Array Value → State → Prop} {Qc : Array Value → State → Outcome → State → Prop} {free : Addr → Prop} {Ts : List Cond} {own : String} {As rest : List Value} {g : JFrame}
    (S : CallFix p m c cc nL s args Ts own) (hM : Met l y ws rm Pc Qc mc ms free) (cw : vx_CSW R s args own index y bytes maxL ret hh ws rm mc ms n) (hp : PreS s H Pc As)
    (hg : g.method = m) (hn : As.length = n) (hsize : g.locals.size = nL) (hstack : g.stack = As.reverse ++ rest) (hW : 2 * g.monitorRoom + (rest.map fun v => v.category).sum ≤ 8) (hdg : decode cc g.pc = .ok (.invokestatic index, 3)) (hf : cells + mc ≤ R.cells ∧ slots + ms ≤ R.slots) :
    va_Run p l e R s m args below meth c H locs cells slots mc ms g rest (Qc As.toArray) (free) := by
  obtain ⟨⟨hrc, hrs, hfr, hlo, hws, hcw⟩, hcode, hini, hy, hlen, hl, hstt⟩ := cw
  have hK : Back l R p e below s args y 3 8 (PreOf R mc ms Pc) (PostOf Qc mc ms free) := va_backW (hh := hh) (bytes := bytes) (maxL := maxL) (ret := ret) hM hp.1 hrc hrs hfr hlo hws hcw (fun a' U hW => word_at hW (Or.inl (by first | rfl | simp [Cond.onTables, Cond.keeps, Cond.steady])) hini)
  obtain ⟨hx, hb, hml, ho, -⟩ := S
  intro T hT X
  obtain ⟨v, vm₁, ⟨U', l2, c2, s2⟩, hW₁, X', ⟨g', mk, t, L, e1, e2, hq, h1, hL, h2, h3⟩, st⟩ := vx_callSW X hx (hh := hh) (bytes := bytes) (maxL := maxL) (ret := ret) ho hl hstt hini hcode hy hK hg (hsize.trans hml.symm) (argsL := As) (rest := rest) (fun sig h => hn.trans (hlen sig h)) hstack hW (by rw [hb]; exact hdg)
    (fun vm₁ hW₁ => ⟨hf.1, hf.2, hp.2 (T.setVm vm₁) hT hW₁⟩)
  dsimp only [Pt.U, Pt.locs, Pt.cells, Pt.slots] at X' e1 e2 h1 h2 h3 st
  subst h1; subst h2; subst h3
  exact ⟨v, (T.setVm vm₁).calling g' mk As.toArray, t, U', L, hT, X', hL, e1, e2, hq, st⟩
/-- not caught here, past rows that name other classes: it goes on to the caller -/
theorem vx_outP {p : Program} {l : Launch} {e : Env} {R : Room} {s : State} {m : MethodId} {args : Array Value} {below : List Frame} {meth : Method} {c : Code} {H : Heap} {locs : List Loc} {cells slots : Nat} {free : Addr → Prop} {ls : Array Slot} {rest : List Value} {Qc : Array Value → State → Outcome → State → Prop} {XC : String → State → State → Prop}
    {pc : Nat} {own E : String} {ce : Cell} {q : Addr} {mc ms : Nat} (hown : s.vm.findClass own = some m.cls) (hlocks : meth.locks = false)
    (hpass : ∀ z ∈ c.exceptionTable.toList, covers z pc = false ∨ (z.catchType ≠ 0 ∧ ∃ nm : String, (Cond.classLink own z.catchType nm).before args s = true ∧ va_Nc E nm s)) (hcell : H[q]? = some ce) (hv : ce.vm = .none) (hcl : s.vm.findClass E = some ce.cls)
    (hx : ∀ t : State, t.heap = H → s.vm.Alike t.vm → XC E s t) (hf : ∀ z ∈ locs, free z.base) (hc : cells ≤ mc) (hs : slots ≤ ms) :
    vx_W p l e R s m args below meth c H locs cells slots (vx_MQ below Qc XC args s mc ms free) (F0 m pc ls rest) q := by
  intro T hT X
  have hpl : e.platform.magicAccessors = ({} : Platform).magicAccessors := by rw [X.admits.platform]
  obtain ⟨vm', hW', X', st⟩ := X.outThrough hlocks q (g := F0 m pc ls rest) rfl rfl rfl (cell := ce) (by rw [hT]; exact hcell) (by rw [hv]; rfl)
    (by obtain ⟨k9, h9, -⟩ := Vm.findClass_spec hcl; exact ⟨k9, h9⟩) (fun z hz => by
      rcases hpass z hz with h | ⟨hz0, nm, hl1, hn1⟩
      · exact Or.inl h
      · obtain ⟨c6, hc6, hcl6⟩ := Cond.classLink_spec hown hl1 e.platform hpl
        obtain ⟨a8, b8, h1, h2, h3⟩ := hn1
        cases Option.some.inj (h1.symm.trans hcl)
        cases Option.some.inj (h2.symm.trans hc6)
        exact Or.inr ⟨hz0, _, hcl6, h3⟩)
  obtain ⟨g₀, hfr⟩ := X'.frames_eq
  have hcell9 : ((T.setVm vm').setFrames (.throwing q :: below)).heap[q]? = some ce := by
    show T.heap[q]? = some ce
    rw [hT]; exact hcell
  have hend : Ended ((T.setVm vm').setFrames (.throwing q :: below)) below (.threw q) := State.frames_setFrames _ (State.cur_lt_of_frames hfr)
  refine ⟨(T.setVm vm').setFrames (.throwing q :: below), ?_, .threw q, X'.here.running, hend, Or.inr ⟨q, rfl, E, ce, locs, hx _ hT (X'.ends _).1.alike, hcell9, hv, hcl, (X'.ends _).1, (X'.ends _).2.mono hc hs, hf⟩⟩
  rw [X.pushThrowing_eq]
  exact st
/-- a thing of a world lies in the heap -/
theorem vx_lt {D : va_G} {cl : List vw_C} {ws : va_W} {H1 : Heap} (h : va_P D cl ws H1) {k : Nat} {q : Nat × va_E} (hk : ws[k]? = some q) : q.1 < H1.size := (h k q hk).lt
end VXS
/-! ===== END ===== -/
/-! ===== BEGIN methods with a table of their own: called by a name, returning or throwing ===== -/
section VXH
/-! vx_backW, vx_callVX, vx_callSX, vx_callVW, vx_runVW, vx_runVX, vx_runSX, vx_ofWH follow the same proofs as their sisters above (Free/Laws.lean, Shelf42/LK1.lean); vx_outP calls Shelf42/NT130.lean (outThrough). -/
section
variable {l : Launch} {R : Room} {p : Program} {e : Env} {below : List Frame} {s : State} {sargs : Array Value} {y : MethodName} {len W9 : Nat}
theorem vx_backW {ws : List Cond} {rm : Room} {Pc : Array Value → State → Prop} {Qc : Array Value → State → Outcome → State → Prop} {XC : String → State → State → Prop} {mc ms : Nat} {free : Addr → Prop} {bytes : ByteArray} {maxL : Nat} {ret : Option FieldType} {hh : List (Nat × Nat × Nat × Nat)}
    (hM : vx_Met l y ws rm Pc Qc XC mc ms free) (hblind : FrameBlind Pc) (hrc : rm.cells = mc) (hrs : rm.slots = ms)
    (hframes : rm.frames + 1 ≤ R.frames) (hlocals : W9 + (maxL + 11) + rm.locals ≤ R.locals)
    (hws : ∀ w ∈ ws, ∀ a' U, s.WarmedH U.vm → w.before a' U = true) (hcode : Cond.codeWith y bytes maxL ret hh ∈ ws) (hinit : ∀ a' U, s.WarmedH U.vm → (Cond.initialized y.cls).before a' U = true) :
    vx_Back l R p e below s sargs y len W9 (PreOf R mc ms Pc) (PostOf Qc mc ms free) (vx_Post XC mc ms free) := by
  intro m meth c A g ig mk a X hg hsize hdg hW hn hp
  have h1 : (headSpec ws rm).pre.before a A.U = true := atoms_intro fun w hw => hws w hw _ _ X.warmed
  have h2 : (Cond.codeWith y bytes maxL ret hh).before a A.U = true := hws _ hcode _ _ X.warmed
  have h3 : (Cond.initialized y.cls).before a A.U = true := hinit _ _ X.warmed
  have h4 : A.cells + (headSpec ws rm).room.cells ≤ R.cells := by rw [show (headSpec ws rm).room.cells = mc from hrc]; exact hp.1
  have h5 : A.slots + (headSpec ws rm).room.slots ≤ R.slots := by rw [show (headSpec ws rm).room.slots = ms from hrs]; exact hp.2.1
  have hPc : Pc a (A.U.calling g mk a) := hblind _ _ _ _ hp.2.2
  obtain ⟨U, Ls, c0, s0⟩ := A
  dsimp only [Pt.U, Pt.locs, Pt.cells, Pt.slots] at h1 h2 h3 h4 h5 X hn hPc ⊢
  obtain ⟨m9, methY, cY, hn9, hmY, hcY, -, hlY, -⟩ := Cond.codeWith_spec h2
  cases Option.some.inj (hn9.symm.trans hn)
  obtain ⟨kY, hkY, -⟩ := className_of_methodNamed hn
  have hinitY : kY.init = .initialized := Cond.initialized_spec (findClass_of_methodNamed hn) hkY h3
  have h : At U g.method c below := by rw [hg]; exact X.here
  have hlocals9 : W9 + (maxL + 11) + (headSpec ws rm).room.locals ≤ R.locals := hlocals
  have happ : (headSpec ws rm).appliesLoose y e.platform (U.calling g mk a) = true :=
    Spec.appliesLoose_calling (g := g) h hdg hn hkY hinitY
      (X.room_calling (g := g) (R' := (headSpec ws rm).room) hsize hmY hcY hframes (by rw [hlY]; omega) h4 h5) h1
  obtain ⟨mid, hmid⟩ := h.above
  have hfr : (U.setTop g).frames = (.java g :: mid) ++ below := by rw [State.frames_setTop' g h.top, hmid]; rfl
  obtain ⟨o, s₂, hsteps, -, hend, hq⟩ := Steps.callFree hM p X.admits X.cas X.clock (acts := []) hfr happ hPc trivial
  have hq' : vx_Q Qc XC mc ms free a (U.calling g mk a) o s₂ := hq
  rw [State.frames_setTop' g h.top] at hend
  obtain ⟨g₀, hg0⟩ := Option.isSome_iff_exists.mp h.top
  obtain ⟨r, hr⟩ := State.topJava?_eq_some.mp hg0
  have hr' : (({ U with heap := s₂.heap, slotsUsed := s₂.slotsUsed } : State).setVm s₂.vm).frames = .java g₀ :: r := hr
  rcases hq' with ⟨hqc, L, hfe, hL⟩ | ⟨q, rfl, E, ce, L, hx, hce, hcv, hcl, hW₂, hsm, hL⟩
  · obtain ⟨⟨v, rfl⟩, hW₂, e2, q2, q3, q4, q5, q6⟩ := id hfe
    have e3 : s₂ = ({ (U.calling g mk a).setFrames s₂.frames with heap := s₂.heap, slotsUsed := s₂.slotsUsed } : State).setVm s₂.vm := by
      have : s₂ = ({ s₂ with vm := (U.calling g mk a).vm } : State).setVm s₂.vm := rfl
      rw [e2] at this
      exact this
    obtain ⟨c₂, i₂, len₂, hc₂, hd₂, hf₂⟩ := hend
    have hW' : U.WarmedH s₂.vm := hW₂
    have hcc : c₂ = c := by
      have h1 : s₂.code? g.method = U.code? g.method := by
        rw [State.code?_eq, State.code?_eq, hW'.alike.method?]
      exact Option.some.inj (hc₂.symm.trans (h1.trans h.code))
    subst hcc
    have hlen : len₂ = len := by rw [hdg] at hd₂; cases hd₂; rfl
    subst hlen
    have hs₂ : s₂ = (({ U with heap := s₂.heap, slotsUsed := s₂.slotsUsed } : State).setVm s₂.vm).setTop { g with pc := g.pc + len₂, stack := v.toList ++ g.stack } := by
      refine e3.trans ?_
      rw [hf₂, State.calling_eq h.top, State.setFrames_setFrames, State.setTop_of_frames _ hr', hr]
      rfl
    have hsame : U.sameButNew ({ U with heap := s₂.heap, slotsUsed := s₂.slotsUsed } : State) L mc ms := by
      refine ⟨?_, q2, q3, q4, q5, q6⟩
      obtain ⟨t, ht, -⟩ := State.frames_cons hr
      show ({ U with heap := s₂.heap, slotsUsed := s₂.slotsUsed } : State) = { U.setFrames U.frames with heap := s₂.heap, slotsUsed := s₂.slotsUsed }
      rw [State.setFrames_self ht]
    subst hg
    refine Or.inl ⟨v, ⟨(({ U with heap := s₂.heap, slotsUsed := s₂.slotsUsed } : State).setVm s₂.vm), Ls ++ L, c0 + mc, s0 + ms⟩,
      ⟨X.admits, X.cas, X.clock, X.frames, X.room, X.hears, X.method, X.code, (X.here.setHeapUsed s₂.heap s₂.slotsUsed).setVm hW'.alike, X.tail, State.WarmedH.trans X.warmed hW', X.limits, X.bytes, X.same.trans (hsame.setVm s.vm)⟩,
      ⟨g, mk, s₂, L, rfl, rfl, hqc, rfl, hL, rfl, rfl⟩, ?_⟩
    show Steps p.tables e below _ ((({ U with heap := s₂.heap, slotsUsed := s₂.slotsUsed } : State).setVm s₂.vm).setTop { g with pc := g.pc + len₂, stack := v.toList ++ g.stack })
    rw [← hs₂]
    exact hsteps
  · obtain ⟨e2, q2, q3, q4, q5, q6⟩ := id hsm
    have e3 : s₂ = ({ (U.calling g mk a).setFrames s₂.frames with heap := s₂.heap, slotsUsed := s₂.slotsUsed } : State).setVm s₂.vm := by
      have : s₂ = ({ s₂ with vm := (U.calling g mk a).vm } : State).setVm s₂.vm := rfl
      rw [e2] at this
      exact this
    have hf₂ : s₂.frames = .throwing q :: .java g :: U.frames.tail := hend
    have hW' : U.WarmedH s₂.vm := hW₂
    have hs₂ : s₂ = ((({ U with heap := s₂.heap, slotsUsed := s₂.slotsUsed } : State).setVm s₂.vm).setTop g).pushFrame (.throwing q) := by
      refine e3.trans ?_
      rw [hf₂, State.calling_eq h.top, State.setFrames_setFrames, State.pushFrame, State.frames_setTop _ hr', State.setTop_of_frames _ hr', State.setFrames_setFrames, hr]
      rfl
    have hsame : U.sameButNew ({ U with heap := s₂.heap, slotsUsed := s₂.slotsUsed } : State) L mc ms := by
      refine ⟨?_, q2, q3, q4, q5, q6⟩
      obtain ⟨t, ht, -⟩ := State.frames_cons hr
      show ({ U with heap := s₂.heap, slotsUsed := s₂.slotsUsed } : State) = { U.setFrames U.frames with heap := s₂.heap, slotsUsed := s₂.slotsUsed }
      rw [State.setFrames_self ht]
    subst hg
    refine Or.inr ⟨q, ⟨(({ U with heap := s₂.heap, slotsUsed := s₂.slotsUsed } : State).setVm s₂.vm), Ls ++ L, c0 + mc, s0 + ms⟩,
      ⟨X.admits, X.cas, X.clock, X.frames, X.room, X.hears, X.method, X.code, (X.here.setHeapUsed s₂.heap s₂.slotsUsed).setVm hW'.alike, X.tail, State.WarmedH.trans X.warmed hW', X.limits, X.bytes, X.same.trans (hsame.setVm s.vm)⟩,
      ⟨g, mk, s₂, L, E, ce, rfl, rfl, hx, hce, hcv, hcl, rfl, hL, rfl, rfl⟩, ?_⟩
    show Steps p.tables e below _ (((({ U with heap := s₂.heap, slotsUsed := s₂.slotsUsed } : State).setVm s₂.vm).setTop g).pushFrame (.throwing q))
    rw [← hs₂]
    exact hsteps
end
variable {p : Program} {l : Launch} {e : Env} {R : Room} {s : State} {m : MethodId} {args : Array Value} {below : List Frame} {meth : Method} {c : Code} {T : State} {H : Heap} {locs : List Loc} {cells slots : Nat}
theorem vx_callVX (X : Stand p l e R s m args below meth c T locs cells slots) (hexec : p.tables.exec = Jvm.exec) {own C : String} {index : Nat} {y : MethodName} {bytes : ByteArray} {maxL : Nat} {ret : Option FieldType} {hh : List (Nat × Nat × Nat × Nat)}
    (hown : s.vm.findClass own = some m.cls) (hlink : (Cond.methodLink own index y).before args s = true) (hinst : (Cond.instanceMethod y).before args s = true) (hsel : (Cond.selects C y y).before args s = true)
    (hcode : (Cond.codeWith y bytes maxL ret hh).before args s = true) (hy : y.cls ≠ "java/lang/invoke/MethodHandle" ∧ y.cls ≠ "java/lang/invoke/VarHandle")
    {W9 : Nat} {Pre : Pt → Array Value → Prop} {Post : Pt → Array Value → Option Value → Pt → Prop} {PostX : Pt → Array Value → Addr → Pt → Prop} (hK : vx_Back l R p e below s args y 3 W9 Pre Post PostX)
    {b : Addr} {cellB : Cell} (hcell : T.heap[b]? = some cellB) (hobj : cellB.vm.isStatics = false) (hcls : s.vm.findClass C = some cellB.cls)
    {g : JFrame} (hg : g.method = m) (hsize : g.locals.size = c.maxLocals) {argsL rest : List Value} (hlen : ∀ sig, parseMethodDescriptor y.desc = some sig → argsL.length = sig.parameters.length)
    (hstack : g.stack = argsL.reverse ++ .ref b :: rest) (hW : 2 * g.monitorRoom + (rest.map fun v => v.category).sum ≤ W9) (hdg : decode c.code g.pc = .ok (.invokevirtual index, 3))
    (hpre : ∀ vm₁, s.WarmedH vm₁ → Pre ⟨T.setVm vm₁, locs, cells, slots⟩ (Value.ref b :: argsL).toArray) :
    (∃ (v : Option Value) (vm₁ : Vm) (B : Pt), s.WarmedH vm₁ ∧ Stand p l e R s m args below meth c B.U B.locs B.cells B.slots ∧ Post ⟨T.setVm vm₁, locs, cells, slots⟩ (Value.ref b :: argsL).toArray v B ∧
      ∀ target, Steps p.tables e below (B.U.setTop { g with pc := g.pc + 3, stack := v.toList ++ rest }) target → Steps p.tables e below (T.setTop g) target) ∨
    (∃ (q : Addr) (vm₁ : Vm) (B : Pt), s.WarmedH vm₁ ∧ Stand p l e R s m args below meth c B.U B.locs B.cells B.slots ∧ PostX ⟨T.setVm vm₁, locs, cells, slots⟩ (Value.ref b :: argsL).toArray q B ∧
      Steps p.tables e below (T.setTop g) ((B.U.setTop { g with stack := rest }).pushFrame (.throwing q))) := by
  obtain ⟨mk, methM, hnamed, hmethM, hstM, habM⟩ := Cond.instanceMethod_spec hinst
  obtain ⟨m8, methM', cM, hn8, hmethM', -, -, -, -, -, -, hsigM⟩ := Cond.codeWith_spec hcode
  cases Option.some.inj (hn8.symm.trans hnamed)
  cases hmethM.symm.trans hmethM'
  obtain ⟨c2, r2, m2, q1, q2, q3, q4, kP, hkP, hkPi⟩ := Cond.selects_spec hsel
  cases hcls.symm.trans q1
  cases (State.methodFound?_of_named hnamed hy).symm.trans q2
  cases hnamed.symm.trans q3
  have hselP : selectMethod e.platform s.vm cellB.cls mk = .method mk := by rw [Launch.admits_selectMethod X.admits]; exact q4
  obtain ⟨vm₁, X₁, hstep₁⟩ := X.invokevirtual hexec hown hlink hnamed hmethM hstM hkP hkPi hy (a := b) (cell := cellB) hcell
    (fun z h => by rw [h] at hobj; cases hobj) hselP hmethM habM hkP hkPi (g := g) hg (argsL := argsL) (rest := rest) (hlen _ hsigM) hstack hdg
  rcases hK m meth c ⟨T.setVm vm₁, locs, cells, slots⟩ { g with stack := rest } (.invokevirtual index) mk (Value.ref b :: argsL).toArray X₁ hg hsize hdg hW (X₁.named hnamed) (hpre vm₁ X₁.warmed) with ⟨v, B, X', hpost, hsteps⟩ | ⟨q, B, X', hpost, hsteps⟩
  · exact Or.inl ⟨v, vm₁, B, X₁.warmed, X', hpost, fun target h => hstep₁ _ fun acts => by rw [doInvoke_state]; exact hsteps.trans h⟩
  · exact Or.inr ⟨q, vm₁, B, X₁.warmed, X', hpost, hstep₁ _ fun acts => by rw [doInvoke_state]; exact hsteps⟩
theorem vx_callSX (X : Stand p l e R s m args below meth c T locs cells slots) (hexec : p.tables.exec = Jvm.exec) {own : String} {index : Nat} {y : MethodName} {bytes : ByteArray} {maxL : Nat} {ret : Option FieldType} {hh : List (Nat × Nat × Nat × Nat)}
    (hown : s.vm.findClass own = some m.cls) (hlink : (Cond.methodLink own index y).before args s = true) (hstat : (Cond.static y).before args s = true) (hinit : (Cond.initialized y.cls).before args s = true)
    (hcode : (Cond.codeWith y bytes maxL ret hh).before args s = true) (hy : y.cls ≠ "java/lang/invoke/MethodHandle" ∧ y.cls ≠ "java/lang/invoke/VarHandle")
    {W9 : Nat} {Pre : Pt → Array Value → Prop} {Post : Pt → Array Value → Option Value → Pt → Prop} {PostX : Pt → Array Value → Addr → Pt → Prop} (hK : vx_Back l R p e below s args y 3 W9 Pre Post PostX)
    {g : JFrame} (hg : g.method = m) (hsize : g.locals.size = c.maxLocals) {argsL rest : List Value} (hlen : ∀ sig, parseMethodDescriptor y.desc = some sig → argsL.length = sig.parameters.length)
    (hstack : g.stack = argsL.reverse ++ rest) (hW : 2 * g.monitorRoom + (rest.map fun v => v.category).sum ≤ W9) (hdg : decode c.code g.pc = .ok (.invokestatic index, 3))
    (hpre : ∀ vm₁, s.WarmedH vm₁ → Pre ⟨T.setVm vm₁, locs, cells, slots⟩ argsL.toArray) :
    (∃ (v : Option Value) (vm₁ : Vm) (B : Pt), s.WarmedH vm₁ ∧ Stand p l e R s m args below meth c B.U B.locs B.cells B.slots ∧ Post ⟨T.setVm vm₁, locs, cells, slots⟩ argsL.toArray v B ∧
      ∀ target, Steps p.tables e below (B.U.setTop { g with pc := g.pc + 3, stack := v.toList ++ rest }) target → Steps p.tables e below (T.setTop g) target) ∨
    (∃ (q : Addr) (vm₁ : Vm) (B : Pt), s.WarmedH vm₁ ∧ Stand p l e R s m args below meth c B.U B.locs B.cells B.slots ∧ PostX ⟨T.setVm vm₁, locs, cells, slots⟩ argsL.toArray q B ∧
      Steps p.tables e below (T.setTop g) ((B.U.setTop { g with stack := rest }).pushFrame (.throwing q))) := by
  obtain ⟨mk, methM, cM, hnamed, hmethM, -, -, -, -, -, -, hsigM⟩ := Cond.codeWith_spec hcode
  have hstatic : methM.isStatic = true := Cond.static_spec hnamed hmethM hstat
  obtain ⟨kP, hkP, -⟩ := className_of_methodNamed hnamed
  have hinitP : kP.init = .initialized := Cond.initialized_spec (findClass_of_methodNamed hnamed) hkP hinit
  obtain ⟨vm₁, X₁, hstep₁⟩ := X.invokestatic hexec hown hlink hnamed hmethM hstatic hkP hinitP hy (g := g) hg (argsL := argsL) (rest := rest) (hlen _ hsigM) hstack hdg
  rcases hK m meth c ⟨T.setVm vm₁, locs, cells, slots⟩ { g with stack := rest } (.invokestatic index) mk argsL.toArray X₁ hg hsize hdg hW (X₁.named hnamed) (hpre vm₁ X₁.warmed) with ⟨v, B, X', hpost, hsteps⟩ | ⟨q, B, X', hpost, hsteps⟩
  · exact Or.inl ⟨v, vm₁, B, X₁.warmed, X', hpost, fun target h => hstep₁ _ fun acts => by rw [doInvoke_state]; exact hsteps.trans h⟩
  · exact Or.inr ⟨q, vm₁, B, X₁.warmed, X', hpost, hstep₁ _ fun acts => by rw [doInvoke_state]; exact hsteps⟩
theorem vx_callVW (X : Stand p l e R s m args below meth c T locs cells slots) (hexec : p.tables.exec = Jvm.exec) {own C : String} {index : Nat} {y : MethodName} {bytes : ByteArray} {maxL : Nat} {ret : Option FieldType} {hh : List (Nat × Nat × Nat × Nat)}
    (hown : s.vm.findClass own = some m.cls) (hlink : (Cond.methodLink own index y).before args s = true) (hinst : (Cond.instanceMethod y).before args s = true) (hsel : (Cond.selects C y y).before args s = true)
    (hcode : (Cond.codeWith y bytes maxL ret hh).before args s = true) (hy : y.cls ≠ "java/lang/invoke/MethodHandle" ∧ y.cls ≠ "java/lang/invoke/VarHandle")
    {W9 : Nat} {Pre : Pt → Array Value → Prop} {Post : Pt → Array Value → Option Value → Pt → Prop} (hK : Back l R p e below s args y 3 W9 Pre Post)
    {b : Addr} {cellB : Cell} (hcell : T.heap[b]? = some cellB) (hobj : cellB.vm.isStatics = false) (hcls : s.vm.findClass C = some cellB.cls)
    {g : JFrame} (hg : g.method = m) (hsize : g.locals.size = c.maxLocals) {argsL rest : List Value} (hlen : ∀ sig, parseMethodDescriptor y.desc = some sig → argsL.length = sig.parameters.length)
    (hstack : g.stack = argsL.reverse ++ .ref b :: rest) (hW : 2 * g.monitorRoom + (rest.map fun v => v.category).sum ≤ W9) (hdg : decode c.code g.pc = .ok (.invokevirtual index, 3))
    (hpre : ∀ vm₁, s.WarmedH vm₁ → Pre ⟨T.setVm vm₁, locs, cells, slots⟩ (Value.ref b :: argsL).toArray) :
    ∃ (v : Option Value) (vm₁ : Vm) (B : Pt), s.WarmedH vm₁ ∧ Stand p l e R s m args below meth c B.U B.locs B.cells B.slots ∧ Post ⟨T.setVm vm₁, locs, cells, slots⟩ (Value.ref b :: argsL).toArray v B ∧
      ∀ target, Steps p.tables e below (B.U.setTop { g with pc := g.pc + 3, stack := v.toList ++ rest }) target → Steps p.tables e below (T.setTop g) target := by
  obtain ⟨mk, methM, hnamed, hmethM, hstM, habM⟩ := Cond.instanceMethod_spec hinst
  obtain ⟨m8, methM', cM, hn8, hmethM', -, -, -, -, -, -, hsigM⟩ := Cond.codeWith_spec hcode
  cases Option.some.inj (hn8.symm.trans hnamed)
  cases hmethM.symm.trans hmethM'
  obtain ⟨c2, r2, m2, q1, q2, q3, q4, kP, hkP, hkPi⟩ := Cond.selects_spec hsel
  cases hcls.symm.trans q1
  cases (State.methodFound?_of_named hnamed hy).symm.trans q2
  cases hnamed.symm.trans q3
  have hselP : selectMethod e.platform s.vm cellB.cls mk = .method mk := by rw [Launch.admits_selectMethod X.admits]; exact q4
  obtain ⟨vm₁, X₁, hstep₁⟩ := X.invokevirtual hexec hown hlink hnamed hmethM hstM hkP hkPi hy (a := b) (cell := cellB) hcell
    (fun z h => by rw [h] at hobj; cases hobj) hselP hmethM habM hkP hkPi (g := g) hg (argsL := argsL) (rest := rest) (hlen _ hsigM) hstack hdg
  obtain ⟨v, B, X', hpost, hsteps⟩ := hK m meth c ⟨T.setVm vm₁, locs, cells, slots⟩ { g with stack := rest } (.invokevirtual index) mk (Value.ref b :: argsL).toArray X₁ hg hsize hdg hW (X₁.named hnamed) (hpre vm₁ X₁.warmed)
  exact ⟨v, vm₁, B, X₁.warmed, X', hpost, fun target h => hstep₁ _ fun acts => by rw [doInvoke_state]; exact hsteps.trans h⟩
abbrev vx_CVW (R : Room) (s : State) (args : Array Value) (own C : String) (index : Nat) (y : MethodName) (bytes : ByteArray) (maxL : Nat) (ret : Option FieldType) (hh : List (Nat × Nat × Nat × Nat)) (ws : List Cond) (rm : Room) (mc ms n : Nat) : Prop :=
  (rm.cells = mc ∧ rm.slots = ms ∧ rm.frames + 1 ≤ R.frames ∧ 8 + (maxL + 11) + rm.locals ≤ R.locals ∧ (∀ w ∈ ws, ∀ (a' : Array Value) (U : State), s.WarmedH U.vm → w.before a' U = true) ∧ Cond.codeWith y bytes maxL ret hh ∈ ws) ∧
  (Cond.codeWith y bytes maxL ret hh).before args s = true ∧ (Cond.initialized y.cls).before args s = true ∧ (y.cls ≠ "java/lang/invoke/MethodHandle" ∧ y.cls ≠ "java/lang/invoke/VarHandle") ∧
  (∀ sig, parseMethodDescriptor y.desc = some sig → n = sig.parameters.length) ∧ (Cond.methodLink own index y).before args s = true ∧ (Cond.instanceMethod y).before args s = true ∧ (Cond.selects C y y).before args s = true
theorem vx_cwVW {own C : String} {index maxL mc ms : Nat} {y : MethodName} {bytes : ByteArray} {ret : Option FieldType} {hh : List (Nat × Nat × Nat × Nat)} {Ts ws ws' : List Cond} {rm : Room} (n : Nat) (ht : ∀ w ∈ Ts, w.before args s = true) (hT : GoodIn Ts (wsV own index C y ws)) (hw : ws = Cond.codeWith y bytes maxL ret hh :: ws') (hrc : rm.cells = mc) (hrs : rm.slots = ms)
    (hd : y.cls = C ∧ y.cls ≠ "java/lang/invoke/MethodHandle" ∧ y.cls ≠ "java/lang/invoke/VarHandle" ∧ (parseMethodDescriptor y.desc).map (fun d => d.parameters.length) = some n) (hR : rm.frames + 1 ≤ R.frames ∧ 8 + (maxL + 11) + rm.locals ≤ R.locals) :
    vx_CVW R s args own C index y bytes maxL ret hh ws rm mc ms n := by
  obtain ⟨hC, hd⟩ := hd
  subst hC
  have ok : ∀ w ∈ wsV own index y.cls y ws, w.before args s = true := fun w h => ht w (hT w h).1
  have hG : GoodIn Ts ws := fun w h => hT w (by unfold wsV; exact List.mem_append_right _ h)
  have hc : Cond.codeWith y bytes maxL ret hh ∈ ws := by rw [hw]; exact List.mem_cons_self
  refine ⟨⟨hrc, hrs, hR.1, hR.2, pay_in ht hG, hc⟩, ht _ (hG _ hc).1, ok _ (by simp [wsV]), ⟨hd.1, hd.2.1⟩, fun sig h => ?_, ok _ (by simp [wsV]), ok _ (by simp [wsV]), ok _ (by simp [wsV])⟩
  have h2 := hd.2.2
  rw [h] at h2
  exact (Option.some.inj h2).symm
theorem vx_runVW {y : MethodName} {bytes cc : ByteArray} {maxL nL mc ms n index : Nat} {ret : Option FieldType} {hh : List (Nat × Nat × Nat × Nat)} {ws : List Cond} {rm : Room} {Pc : Array Value → State → Prop} {Qc : Array Value → State → Outcome → State → Prop} {free : Addr → Prop} {Ts : List Cond} {own C : String} {b : Addr} {As rest : List Value} {g : JFrame}
    (S : CallFix p m c cc nL s args Ts own) (hM : Met l y ws rm Pc Qc mc ms free) (cw : vx_CVW R s args own C index y bytes maxL ret hh ws rm mc ms n) (hp : PreV s H C b Pc As)
    (hg : g.method = m) (hn : As.length = n) (hsize : g.locals.size = nL) (hstack : g.stack = As.reverse ++ .ref b :: rest) (hW : 2 * g.monitorRoom + (rest.map fun v => v.category).sum ≤ 8) (hdg : decode cc g.pc = .ok (.invokevirtual index, 3)) (hf : cells + mc ≤ R.cells ∧ slots + ms ≤ R.slots) :
    va_Run p l e R s m args below meth c H locs cells slots mc ms g rest (Qc (Value.ref b :: As).toArray) free := by
  obtain ⟨⟨hrc, hrs, hfr, hlo, hws, hcw⟩, hcode, hini, hy, hlen, hl, hin, hse⟩ := cw
  have hK : Back l R p e below s args y 3 8 (PreOf R mc ms Pc) (PostOf Qc mc ms free) := va_backW (hh := hh) (bytes := bytes) (maxL := maxL) (ret := ret) hM hp.1 hrc hrs hfr hlo hws hcw (fun a' U hW => word_at hW (Or.inl (by first | rfl | simp [Cond.onTables, Cond.keeps, Cond.steady])) hini)
  obtain ⟨hx, hb, hml, ho, -⟩ := S
  obtain ⟨-, ⟨cellB, hcB, hoB, hclB⟩, hPc⟩ := hp
  intro T hT X
  obtain ⟨v, vm₁, ⟨U', l2, c2, s2⟩, hW₁, X', ⟨g', mk, t, L, e1, e2, hq, h1, hL, h2, h3⟩, st⟩ := vx_callVW X hx (C := C) (hh := hh) (bytes := bytes) (maxL := maxL) (ret := ret) ho hl hin hse hcode hy hK (by rw [hT]; exact hcB) hoB hclB hg (hsize.trans hml.symm) (argsL := As) (rest := rest) (fun sig h => hn.trans (hlen sig h)) hstack hW (by rw [hb]; exact hdg)
    (fun vm₁ hW₁ => ⟨hf.1, hf.2, hPc (T.setVm vm₁) hT hW₁⟩)
  dsimp only [Pt.U, Pt.locs, Pt.cells, Pt.slots] at X' e1 e2 h1 h2 h3 st
  subst h1; subst h2; subst h3
  exact ⟨v, (T.setVm vm₁).calling g' mk (Value.ref b :: As).toArray, t, U', L, hT, X', hL, e1, e2, hq, st⟩
section
variable {y : MethodName} {bytes cc : ByteArray} {maxL nL mc ms n index : Nat} {ret : Option FieldType} {ws : List Cond} {rm : Room} {Pc : Array Value → State → Prop} {Qc : Array Value → State → Outcome → State → Prop} {XC : String → State → State → Prop} {free : Addr → Prop} {Ts : List Cond} {own C : String} {b : Addr} {As rest : List Value} {g : JFrame}
theorem vx_runVX {hh : List (Nat × Nat × Nat × Nat)} (S : CallFix p m c cc nL s args Ts own) (hM : vx_Met l y ws rm Pc Qc XC mc ms free) (cw : vx_CVW R s args own C index y bytes maxL ret hh ws rm mc ms n) (hp : PreV s H C b Pc As)
    (hg : g.method = m) (hn : As.length = n) (hsize : g.locals.size = nL) (hstack : g.stack = As.reverse ++ .ref b :: rest) (hW : 2 * g.monitorRoom + (rest.map fun v => v.category).sum ≤ 8) (hdg : decode cc g.pc = .ok (.invokevirtual index, 3)) (hf : cells + mc ≤ R.cells ∧ slots + ms ≤ R.slots) :
    vx_Run p l e R s m args below meth c H locs cells slots mc ms g rest (Qc (Value.ref b :: As).toArray) XC free := by
  obtain ⟨⟨hrc, hrs, hfr, hlo, hws, hcw⟩, hcode, hini, hy, hlen, hl, hin, hse⟩ := cw
  have hK : vx_Back l R p e below s args y 3 8 (PreOf R mc ms Pc) (PostOf Qc mc ms free) (vx_Post XC mc ms free) := vx_backW (hh := hh) (bytes := bytes) (maxL := maxL) (ret := ret) hM hp.1 hrc hrs hfr hlo hws hcw (fun a' U hW => word_at hW (Or.inl (by first | rfl | simp [Cond.onTables, Cond.keeps, Cond.steady])) hini)
  obtain ⟨hx, hb, hml, ho, -⟩ := S
  obtain ⟨-, ⟨cellB, hcB, hoB, hclB⟩, hPc⟩ := hp
  intro T hT X
  rcases vx_callVX X hx (C := C) (hh := hh) (bytes := bytes) (maxL := maxL) (ret := ret) ho hl hin hse hcode hy hK (by rw [hT]; exact hcB) hoB hclB hg (hsize.trans hml.symm) (argsL := As) (rest := rest) (fun sig h => hn.trans (hlen sig h)) hstack hW (by rw [hb]; exact hdg)
    (fun vm₁ hW₁ => ⟨hf.1, hf.2, hPc (T.setVm vm₁) hT hW₁⟩) with ⟨v, vm₁, ⟨U', l2, c2, s2⟩, hW₁, X', ⟨g', mk, t, L, e1, e2, hq, h1, hL, h2, h3⟩, st⟩ | ⟨q, vm₁, ⟨U', l2, c2, s2⟩, hW₁, X', ⟨g', mk, t, L, E, ce, e1, e2, hq, hce, hcv, hcl, h1, hL, h2, h3⟩, st⟩
  · dsimp only [Pt.U, Pt.locs, Pt.cells, Pt.slots] at X' e1 e2 h1 h2 h3 st
    subst h1; subst h2; subst h3
    exact Or.inl ⟨v, (T.setVm vm₁).calling g' mk (Value.ref b :: As).toArray, t, U', L, hT, X', hL, e1, e2, hq, st⟩
  · dsimp only [Pt.U, Pt.locs, Pt.cells, Pt.slots] at X' e1 e2 h1 h2 h3 st hcl
    subst h1; subst h2; subst h3
    exact Or.inr ⟨q, (T.setVm vm₁).calling g' mk (Value.ref b :: As).toArray, t, U', L, E, ce, hT, X', hL, e1, e2, hq, hce, hcv, vx_cls hW₁ hcl, st⟩
theorem vx_runSX {hh : List (Nat × Nat × Nat × Nat)} (S : CallFix p m c cc nL s args Ts own) (hM : vx_Met l y ws rm Pc Qc XC mc ms free) (cw : vx_CSW R s args own index y bytes maxL ret hh ws rm mc ms n) (hp : PreS s H Pc As)
    (hg : g.method = m) (hn : As.length = n) (hsize : g.locals.size = nL) (hstack : g.stack = As.reverse ++ rest) (hW : 2 * g.monitorRoom + (rest.map fun v => v.category).sum ≤ 8) (hdg : decode cc g.pc = .ok (.invokestatic index, 3)) (hf : cells + mc ≤ R.cells ∧ slots + ms ≤ R.slots) :
    vx_Run p l e R s m args below meth c H locs cells slots mc ms g rest (Qc As.toArray) XC free := by
  obtain ⟨⟨hrc, hrs, hfr, hlo, hws, hcw⟩, hcode, hini, hy, hlen, hl, hstt⟩ := cw
  have hK : vx_Back l R p e below s args y 3 8 (PreOf R mc ms Pc) (PostOf Qc mc ms free) (vx_Post XC mc ms free) := vx_backW (hh := hh) (bytes := bytes) (maxL := maxL) (ret := ret) hM hp.1 hrc hrs hfr hlo hws hcw (fun a' U hW => word_at hW (Or.inl (by first | rfl | simp [Cond.onTables, Cond.keeps, Cond.steady])) hini)
  obtain ⟨hx, hb, hml, ho, -⟩ := S
  intro T hT X
  rcases vx_callSX X hx (hh := hh) (bytes := bytes) (maxL := maxL) (ret := ret) ho hl hstt hini hcode hy hK hg (hsize.trans hml.symm) (argsL := As) (rest := rest) (fun sig h => hn.trans (hlen sig h)) hstack hW (by rw [hb]; exact hdg)
    (fun vm₁ hW₁ => ⟨hf.1, hf.2, hp.2 (T.setVm vm₁) hT hW₁⟩) with ⟨v, vm₁, ⟨U', l2, c2, s2⟩, hW₁, X', ⟨g', mk, t, L, e1, e2, hq, h1, hL, h2, h3⟩, st⟩ | ⟨q, vm₁, ⟨U', l2, c2, s2⟩, hW₁, X', ⟨g', mk, t, L, E, ce, e1, e2, hq, hce, hcv, hcl, h1, hL, h2, h3⟩, st⟩
  · dsimp only [Pt.U, Pt.locs, Pt.cells, Pt.slots] at X' e1 e2 h1 h2 h3 st
    subst h1; subst h2; subst h3
    exact Or.inl ⟨v, (T.setVm vm₁).calling g' mk As.toArray, t, U', L, hT, X', hL, e1, e2, hq, st⟩
  · dsimp only [Pt.U, Pt.locs, Pt.cells, Pt.slots] at X' e1 e2 h1 h2 h3 st hcl
    subst h1; subst h2; subst h3
    exact Or.inr ⟨q, (T.setVm vm₁).calling g' mk As.toArray, t, U', L, E, ce, hT, X', hL, e1, e2, hq, hce, hcv, vx_cls hW₁ hcl, st⟩
end
end VXH
theorem vx_ofWH {l : Launch} {y : MethodName} {ws ws' : List Cond} {rm : Room} {Pc : Array Value → State → Prop} {Qc : Array Value → State → Outcome → State → Prop} {XC : String → State → State → Prop} {mc ms : Nat} {free : Addr → Prop} {cc : ByteArray} {maxL : Nat} {ret : Option FieldType} {hh : List (Nat × Nat × Nat × Nat)}
    (hy : plainName y.cls = true) (hw : ws = Cond.codeWith y cc maxL ret hh :: ws')
    (body : ∀ p e s m args below meth c s₁, BodyLoose p l y (headSpec ws rm) cc maxL ret e s m args below meth c s₁ → c.maxLocals = maxL → Pc args s →
      W p l e (headSpec ws rm).room s m args below meth c s.heap [] 0 0 (vx_MQ below Qc XC args s mc ms free) (entryFrame m args maxL)) : vx_Met l y ws rm Pc Qc XC mc ms free := by
  refine MetFree.of_bodyS (code := cc) (maxLocals := maxL) (ret := ret) hy ?_ ?_
  · intro args s m h hn
    obtain ⟨m9, meth, c, hn9, h1, h2, h3, h4, -, h5, h6, -⟩ := Cond.codeWith_spec (atoms_spec (ws := ws) h _ (by rw [hw]; exact List.mem_cons_self))
    cases hn.symm.trans hn9
    exact ⟨meth, c, h1, h2, h3, h4, h5, h6⟩
  · intro p e s m args below meth c s₁ B hml hP _
    have hh0 : s₁.heap = s.heap := by rw [B.state]; rfl
    obtain ⟨t, a1, o, b1, b2, b3⟩ := body p e s m args below meth c s₁ B hml hP s₁ hh0 (Stand.of_body B)
    exact ⟨t, o, a1, b1, b2, b3⟩
/-! ===== END ===== -/
end
section
/-! ===== BEGIN printed: names, fields, word lists, decode rows ===== -/
def RX0 : String := "AfternoonMeter"
def TX0 : u_T := fun k => match k with
  | 0 => ("AfternoonMeter", "heights", "[I", true)
  | 1 => ("AfternoonMeter", "stickCount", "I", false)
  | 2 => ("AfternoonMeter", "napStarts", "[I", true)
  | 3 => ("AfternoonMeter", "napEnds", "[I", true)
  | 4 => ("AfternoonMeter", "napCount", "I", false)
  | 5 => ("AfternoonMeter", "napsOver", "[I", true)
  | 6 => ("AfternoonMeter", "periods", "[I", true)
  | 7 => ("AfternoonMeter", "beats", "[I", true)
  | 8 => ("AfternoonMeter", "beeCount", "I", false)
  | 9 => ("AfternoonMeter", "beesOn", "[I", true)
  | 10 => ("AfternoonMeter", "room", "I", false)
  | 11 => ("AfternoonMeter", "rate", "I", false)
  | 12 => ("AfternoonMeter", "sip", "I", false)
  | 13 => ("AfternoonMeter", "inCup", "I", false)
  | 14 => ("AfternoonMeter", "ranOver", "I", false)
  | 15 => ("AfternoonMeter", "now", "I", false)
  | _ => ("AfternoonMeter", "afternoonNumber", "I", false)
def tyX0 : Nat → FieldType := fun k => match k with
  | 0 => .array .int
  | 1 => .int
  | 2 => .array .int
  | 3 => .array .int
  | 4 => .int
  | 5 => .array .int
  | 6 => .array .int
  | 7 => .array .int
  | 8 => .int
  | 9 => .array .int
  | 10 => .int
  | 11 => .int
  | 12 => .int
  | 13 => .int
  | 14 => .int
  | 15 => .int
  | _ => .int
abbrev wsX00 : List Cond := u_ws RX0 TX0 17
theorem nmX0 : ∀ a, a < 17 → ∀ b, b < 17 → a ≠ b → (TX0 a).2.1 ≠ (TX0 b).2.1 := by decide +kernel
theorem tyX0_ok : ∀ k, k < 17 → parseFieldDescriptor (TX0 k).2.2.1 = some (tyX0 k) := by decide +kernel
abbrev cX0_init : ByteArray := prog_1_method_1_code
def yX0_init : MethodName := ⟨RX0, "<init>", "()V"⟩
abbrev cX0_addStick : ByteArray := prog_1_method_2_code
def yX0_addStick : MethodName := ⟨RX0, "addStick", "(I)I"⟩
abbrev cX0_addNap : ByteArray := prog_1_method_3_code
def yX0_addNap : MethodName := ⟨RX0, "addNap", "(II)I"⟩
abbrev cX0_giveUp : ByteArray := prog_1_method_4_code
def yX0_giveUp : MethodName := ⟨RX0, "giveUp", "(I)I"⟩
abbrev cX0_addBee : ByteArray := prog_1_method_5_code
def yX0_addBee : MethodName := ⟨RX0, "addBee", "(II)I"⟩
abbrev cX0_setTea : ByteArray := prog_1_method_6_code
def yX0_setTea : MethodName := ⟨RX0, "setTea", "(III)I"⟩
abbrev cX0_pass : ByteArray := prog_1_method_7_code
def yX0_pass : MethodName := ⟨RX0, "pass", "(I)I"⟩
abbrev cX0_begin : ByteArray := prog_1_method_8_code
def yX0_begin : MethodName := ⟨RX0, "begin", "()I"⟩
abbrev cX0_afternoon : ByteArray := prog_1_method_9_code
def yX0_afternoon : MethodName := ⟨RX0, "afternoon", "()I"⟩
abbrev cX0_minute : ByteArray := prog_1_method_10_code
def yX0_minute : MethodName := ⟨RX0, "minute", "()I"⟩
abbrev cX0_isAsleep : ByteArray := prog_1_method_11_code
def yX0_isAsleep : MethodName := ⟨RX0, "isAsleep", "(I)Z"⟩
abbrev cX0_awakeMinutes : ByteArray := prog_1_method_12_code
def yX0_awakeMinutes : MethodName := ⟨RX0, "awakeMinutes", "()I"⟩
abbrev cX0_sleptMinutes : ByteArray := prog_1_method_13_code
def yX0_sleptMinutes : MethodName := ⟨RX0, "sleptMinutes", "()I"⟩
abbrev cX0_longestAwake : ByteArray := prog_1_method_14_code
def yX0_longestAwake : MethodName := ⟨RX0, "longestAwake", "()I"⟩
abbrev cX0_sticks : ByteArray := prog_1_method_15_code
def yX0_sticks : MethodName := ⟨RX0, "sticks", "()I"⟩
abbrev cX0_shadowAt : ByteArray := prog_1_method_16_code
def yX0_shadowAt : MethodName := ⟨RX0, "shadowAt", "(II)I"⟩
abbrev cX0_minuteOfShadow : ByteArray := prog_1_method_17_code
def yX0_minuteOfShadow : MethodName := ⟨RX0, "minuteOfShadow", "(II)I"⟩
abbrev cX0_allShadows : ByteArray := prog_1_method_18_code
def yX0_allShadows : MethodName := ⟨RX0, "allShadows", "(I)I"⟩
abbrev cX0_naps : ByteArray := prog_1_method_19_code
def yX0_naps : MethodName := ⟨RX0, "naps", "()I"⟩
abbrev cX0_startOf : ByteArray := prog_1_method_20_code
def yX0_startOf : MethodName := ⟨RX0, "startOf", "(I)I"⟩
abbrev cX0_lengthOf : ByteArray := prog_1_method_21_code
def yX0_lengthOf : MethodName := ⟨RX0, "lengthOf", "(I)I"⟩
abbrev cX0_napsAt : ByteArray := prog_1_method_22_code
def yX0_napsAt : MethodName := ⟨RX0, "napsAt", "(I)I"⟩
abbrev cX0_minutesAlone : ByteArray := prog_1_method_23_code
def yX0_minutesAlone : MethodName := ⟨RX0, "minutesAlone", "(I)I"⟩
abbrev cX0_bees : ByteArray := prog_1_method_24_code
def yX0_bees : MethodName := ⟨RX0, "bees", "()I"⟩
abbrev cX0_ticksOf : ByteArray := prog_1_method_25_code
def yX0_ticksOf : MethodName := ⟨RX0, "ticksOf", "(I)I"⟩
abbrev cX0_measuredBy : ByteArray := prog_1_method_26_code
def yX0_measuredBy : MethodName := ⟨RX0, "measuredBy", "(I)I"⟩
abbrev cX0_errorOf : ByteArray := prog_1_method_27_code
def yX0_errorOf : MethodName := ⟨RX0, "errorOf", "(I)I"⟩
abbrev cX0_bestBee : ByteArray := prog_1_method_28_code
def yX0_bestBee : MethodName := ⟨RX0, "bestBee", "()I"⟩
abbrev cX0_nextTick : ByteArray := prog_1_method_29_code
def yX0_nextTick : MethodName := ⟨RX0, "nextTick", "(I)I"⟩
abbrev cX0_tea : ByteArray := prog_1_method_30_code
def yX0_tea : MethodName := ⟨RX0, "tea", "()I"⟩
abbrev cX0_spilt : ByteArray := prog_1_method_31_code
def yX0_spilt : MethodName := ⟨RX0, "spilt", "()I"⟩
abbrev cX0_spiltAtEnd : ByteArray := prog_1_method_32_code
def yX0_spiltAtEnd : MethodName := ⟨RX0, "spiltAtEnd", "()I"⟩
abbrev cX0_minuteOfSpill : ByteArray := prog_1_method_33_code
def yX0_minuteOfSpill : MethodName := ⟨RX0, "minuteOfSpill", "()I"⟩
abbrev cX0_safeRate : ByteArray := prog_1_method_34_code
def yX0_safeRate : MethodName := ⟨RX0, "safeRate", "()I"⟩
abbrev cX0_bestToGiveUp : ByteArray := prog_1_method_35_code
def yX0_bestToGiveUp : MethodName := ⟨RX0, "bestToGiveUp", "()I"⟩
abbrev cX0_meanLastShadow : ByteArray := prog_1_method_36_code
def yX0_meanLastShadow : MethodName := ⟨RX0, "meanLastShadow", "()D"⟩
abbrev cX0_digest : ByteArray := prog_1_method_37_code
def yX0_digest : MethodName := ⟨RX0, "digest", "()J"⟩
abbrev cX0_checkMinute : ByteArray := prog_1_method_38_code
def yX0_checkMinute : MethodName := ⟨RX0, "checkMinute", "(I)V"⟩
abbrev cX0_checkStick : ByteArray := prog_1_method_39_code
def yX0_checkStick : MethodName := ⟨RX0, "checkStick", "(I)V"⟩
abbrev cX0_checkNap : ByteArray := prog_1_method_40_code
def yX0_checkNap : MethodName := ⟨RX0, "checkNap", "(I)V"⟩
abbrev cX0_checkBee : ByteArray := prog_1_method_41_code
def yX0_checkBee : MethodName := ⟨RX0, "checkBee", "(I)V"⟩
abbrev cX0_covers : ByteArray := prog_1_method_42_code
def yX0_covers : MethodName := ⟨RX0, "covers", "(II)Z"⟩
abbrev cX0_changeCover : ByteArray := prog_1_method_43_code
def yX0_changeCover : MethodName := ⟨RX0, "changeCover", "(II)V"⟩
abbrev cX0_countAlone : ByteArray := prog_1_method_44_code
def yX0_countAlone : MethodName := ⟨RX0, "countAlone", "(I)I"⟩
abbrev cX0_shadowOf : ByteArray := prog_1_method_45_code
def yX0_shadowOf : MethodName := ⟨RX0, "shadowOf", "(II)I"⟩
abbrev cX0_sumOfShadows : ByteArray := prog_1_method_46_code
def yX0_sumOfShadows : MethodName := ⟨RX0, "sumOfShadows", "(I)I"⟩
abbrev cX0_hasBeatIn : ByteArray := prog_1_method_47_code
def yX0_hasBeatIn : MethodName := ⟨RX0, "hasBeatIn", "(II)Z"⟩
abbrev cX0_ticksIn : ByteArray := prog_1_method_48_code
def yX0_ticksIn : MethodName := ⟨RX0, "ticksIn", "(II)Z"⟩
abbrev cX0_countTicks : ByteArray := prog_1_method_49_code
def yX0_countTicks : MethodName := ⟨RX0, "countTicks", "(I)I"⟩
abbrev cX0_contentAfter : ByteArray := prog_1_method_50_code
def yX0_contentAfter : MethodName := ⟨RX0, "contentAfter", "(III)I"⟩
abbrev cX0_excess : ByteArray := prog_1_method_51_code
def yX0_excess : MethodName := ⟨RX0, "excess", "(I)I"⟩
abbrev cX0_pourInto : ByteArray := prog_1_method_52_code
def yX0_pourInto : MethodName := ⟨RX0, "pourInto", "(I)I"⟩
abbrev cX0_firstSpillWith : ByteArray := prog_1_method_53_code
def yX0_firstSpillWith : MethodName := ⟨RX0, "firstSpillWith", "(I)I"⟩
abbrev cX0_withSticks : ByteArray := prog_1_method_54_code
def yX0_withSticks : MethodName := ⟨RX0, "withSticks", "(J)J"⟩
abbrev cX0_withNaps : ByteArray := prog_1_method_55_code
def yX0_withNaps : MethodName := ⟨RX0, "withNaps", "(J)J"⟩
abbrev cX0_withBees : ByteArray := prog_1_method_56_code
def yX0_withBees : MethodName := ⟨RX0, "withBees", "(J)J"⟩
def RX1 : String := "AfternoonMeterModel"
def TX1 : u_T := fun k => match k with
  | 0 => ("AfternoonMeterModel", "thrown", "I", false)
  | 1 => ("AfternoonMeterModel", "sticks", "I", false)
  | 2 => ("AfternoonMeterModel", "height", "[I", true)
  | 3 => ("AfternoonMeterModel", "naps", "I", false)
  | 4 => ("AfternoonMeterModel", "from", "[I", true)
  | 5 => ("AfternoonMeterModel", "to", "[I", true)
  | 6 => ("AfternoonMeterModel", "cover", "[I", true)
  | 7 => ("AfternoonMeterModel", "bees", "I", false)
  | 8 => ("AfternoonMeterModel", "period", "[I", true)
  | 9 => ("AfternoonMeterModel", "beat", "[I", true)
  | 10 => ("AfternoonMeterModel", "room", "I", false)
  | 11 => ("AfternoonMeterModel", "rate", "I", false)
  | 12 => ("AfternoonMeterModel", "sip", "I", false)
  | 13 => ("AfternoonMeterModel", "afternoon", "I", false)
  | 14 => ("AfternoonMeterModel", "minute", "I", false)
  | 15 => ("AfternoonMeterModel", "tea", "I", false)
  | _ => ("AfternoonMeterModel", "spilt", "I", false)
def tyX1 : Nat → FieldType := fun k => match k with
  | 0 => .int
  | 1 => .int
  | 2 => .array .int
  | 3 => .int
  | 4 => .array .int
  | 5 => .array .int
  | 6 => .array .int
  | 7 => .int
  | 8 => .array .int
  | 9 => .array .int
  | 10 => .int
  | 11 => .int
  | 12 => .int
  | 13 => .int
  | 14 => .int
  | 15 => .int
  | _ => .int
abbrev wsX10 : List Cond := u_ws RX1 TX1 17
theorem nmX1 : ∀ a, a < 17 → ∀ b, b < 17 → a ≠ b → (TX1 a).2.1 ≠ (TX1 b).2.1 := by decide +kernel
theorem tyX1_ok : ∀ k, k < 17 → parseFieldDescriptor (TX1 k).2.2.1 = some (tyX1 k) := by decide +kernel
abbrev cX1_init : ByteArray := prog_3_method_1_code
def yX1_init : MethodName := ⟨RX1, "<init>", "()V"⟩
abbrev cX1_thrown : ByteArray := prog_3_method_2_code
def yX1_thrown : MethodName := ⟨RX1, "thrown", "()I"⟩
abbrev cX1_no : ByteArray := prog_3_method_3_code
def yX1_no : MethodName := ⟨RX1, "no", "(I)I"⟩
abbrev cX1_ok : ByteArray := prog_3_method_4_code
def yX1_ok : MethodName := ⟨RX1, "ok", "(I)I"⟩
abbrev cX1_isIn : ByteArray := prog_3_method_5_code
def yX1_isIn : MethodName := ⟨RX1, "isIn", "(III)Z"⟩
abbrev cX1_isStick : ByteArray := prog_3_method_6_code
def yX1_isStick : MethodName := ⟨RX1, "isStick", "(I)Z"⟩
abbrev cX1_isNap : ByteArray := prog_3_method_7_code
def yX1_isNap : MethodName := ⟨RX1, "isNap", "(I)Z"⟩
abbrev cX1_isBee : ByteArray := prog_3_method_8_code
def yX1_isBee : MethodName := ⟨RX1, "isBee", "(I)Z"⟩
abbrev cX1_isMinute : ByteArray := prog_3_method_9_code
def yX1_isMinute : MethodName := ⟨RX1, "isMinute", "(I)Z"⟩
abbrev cX1_lay : ByteArray := prog_3_method_10_code
def yX1_lay : MethodName := ⟨RX1, "lay", "(II)V"⟩
abbrev cX1_isAwake : ByteArray := prog_3_method_11_code
def yX1_isAwake : MethodName := ⟨RX1, "isAwake", "(I)Z"⟩
abbrev cX1_awake : ByteArray := prog_3_method_12_code
def yX1_awake : MethodName := ⟨RX1, "awake", "(I)I"⟩
abbrev cX1_longest : ByteArray := prog_3_method_13_code
def yX1_longest : MethodName := ⟨RX1, "longest", "()I"⟩
abbrev cX1_alone : ByteArray := prog_3_method_14_code
def yX1_alone : MethodName := ⟨RX1, "alone", "(I)I"⟩
abbrev cX1_ticks : ByteArray := prog_3_method_15_code
def yX1_ticks : MethodName := ⟨RX1, "ticks", "(II)Z"⟩
abbrev cX1_ticked : ByteArray := prog_3_method_16_code
def yX1_ticked : MethodName := ⟨RX1, "ticked", "(I)I"⟩
abbrev cX1_next : ByteArray := prog_3_method_17_code
def yX1_next : MethodName := ⟨RX1, "next", "(I)I"⟩
abbrev cX1_error : ByteArray := prog_3_method_18_code
def yX1_error : MethodName := ⟨RX1, "error", "(I)I"⟩
abbrev cX1_best : ByteArray := prog_3_method_19_code
def yX1_best : MethodName := ⟨RX1, "best", "()I"⟩
abbrev cX1_poured : ByteArray := prog_3_method_20_code
def yX1_poured : MethodName := ⟨RX1, "poured", "(III)I"⟩
abbrev cX1_go : ByteArray := prog_3_method_21_code
def yX1_go : MethodName := ⟨RX1, "go", "(I)I"⟩
abbrev cX1_spill : ByteArray := prog_3_method_22_code
def yX1_spill : MethodName := ⟨RX1, "spill", "(I)I"⟩
abbrev cX1_atEnd : ByteArray := prog_3_method_23_code
def yX1_atEnd : MethodName := ⟨RX1, "atEnd", "()I"⟩
abbrev cX1_safest : ByteArray := prog_3_method_24_code
def yX1_safest : MethodName := ⟨RX1, "safest", "()I"⟩
abbrev cX1_addStick : ByteArray := prog_3_method_25_code
def yX1_addStick : MethodName := ⟨RX1, "addStick", "(I)I"⟩
abbrev cX1_addNap : ByteArray := prog_3_method_26_code
def yX1_addNap : MethodName := ⟨RX1, "addNap", "(II)I"⟩
abbrev cX1_giveUp : ByteArray := prog_3_method_27_code
def yX1_giveUp : MethodName := ⟨RX1, "giveUp", "(I)I"⟩
abbrev cX1_addBee : ByteArray := prog_3_method_28_code
def yX1_addBee : MethodName := ⟨RX1, "addBee", "(II)I"⟩
abbrev cX1_setTea : ByteArray := prog_3_method_29_code
def yX1_setTea : MethodName := ⟨RX1, "setTea", "(III)I"⟩
abbrev cX1_pass : ByteArray := prog_3_method_30_code
def yX1_pass : MethodName := ⟨RX1, "pass", "(I)I"⟩
abbrev cX1_begin : ByteArray := prog_3_method_31_code
def yX1_begin : MethodName := ⟨RX1, "begin", "()I"⟩
abbrev cX1_afternoon : ByteArray := prog_3_method_32_code
def yX1_afternoon : MethodName := ⟨RX1, "afternoon", "()I"⟩
abbrev cX1_minute : ByteArray := prog_3_method_33_code
def yX1_minute : MethodName := ⟨RX1, "minute", "()I"⟩
abbrev cX1_isAsleep : ByteArray := prog_3_method_34_code
def yX1_isAsleep : MethodName := ⟨RX1, "isAsleep", "(I)Z"⟩
abbrev cX1_awakeMinutes : ByteArray := prog_3_method_35_code
def yX1_awakeMinutes : MethodName := ⟨RX1, "awakeMinutes", "()I"⟩
abbrev cX1_sleptMinutes : ByteArray := prog_3_method_36_code
def yX1_sleptMinutes : MethodName := ⟨RX1, "sleptMinutes", "()I"⟩
abbrev cX1_longestAwake : ByteArray := prog_3_method_37_code
def yX1_longestAwake : MethodName := ⟨RX1, "longestAwake", "()I"⟩
abbrev cX1_shadow : ByteArray := prog_3_method_38_code
def yX1_shadow : MethodName := ⟨RX1, "shadow", "(II)I"⟩
abbrev cX1_sticks : ByteArray := prog_3_method_39_code
def yX1_sticks : MethodName := ⟨RX1, "sticks", "()I"⟩
abbrev cX1_shadowAt : ByteArray := prog_3_method_40_code
def yX1_shadowAt : MethodName := ⟨RX1, "shadowAt", "(II)I"⟩
abbrev cX1_minuteOfShadow : ByteArray := prog_3_method_41_code
def yX1_minuteOfShadow : MethodName := ⟨RX1, "minuteOfShadow", "(II)I"⟩
abbrev cX1_allShadows : ByteArray := prog_3_method_42_code
def yX1_allShadows : MethodName := ⟨RX1, "allShadows", "(I)I"⟩
abbrev cX1_naps : ByteArray := prog_3_method_43_code
def yX1_naps : MethodName := ⟨RX1, "naps", "()I"⟩
abbrev cX1_startOf : ByteArray := prog_3_method_44_code
def yX1_startOf : MethodName := ⟨RX1, "startOf", "(I)I"⟩
abbrev cX1_lengthOf : ByteArray := prog_3_method_45_code
def yX1_lengthOf : MethodName := ⟨RX1, "lengthOf", "(I)I"⟩
abbrev cX1_napsAt : ByteArray := prog_3_method_46_code
def yX1_napsAt : MethodName := ⟨RX1, "napsAt", "(I)I"⟩
abbrev cX1_minutesAlone : ByteArray := prog_3_method_47_code
def yX1_minutesAlone : MethodName := ⟨RX1, "minutesAlone", "(I)I"⟩
abbrev cX1_bees : ByteArray := prog_3_method_48_code
def yX1_bees : MethodName := ⟨RX1, "bees", "()I"⟩
abbrev cX1_ticksOf : ByteArray := prog_3_method_49_code
def yX1_ticksOf : MethodName := ⟨RX1, "ticksOf", "(I)I"⟩
abbrev cX1_measuredBy : ByteArray := prog_3_method_50_code
def yX1_measuredBy : MethodName := ⟨RX1, "measuredBy", "(I)I"⟩
abbrev cX1_errorOf : ByteArray := prog_3_method_51_code
def yX1_errorOf : MethodName := ⟨RX1, "errorOf", "(I)I"⟩
abbrev cX1_bestBee : ByteArray := prog_3_method_52_code
def yX1_bestBee : MethodName := ⟨RX1, "bestBee", "()I"⟩
abbrev cX1_nextTick : ByteArray := prog_3_method_53_code
def yX1_nextTick : MethodName := ⟨RX1, "nextTick", "(I)I"⟩
abbrev cX1_tea : ByteArray := prog_3_method_54_code
def yX1_tea : MethodName := ⟨RX1, "tea", "()I"⟩
abbrev cX1_spilt : ByteArray := prog_3_method_55_code
def yX1_spilt : MethodName := ⟨RX1, "spilt", "()I"⟩
abbrev cX1_spiltAtEnd : ByteArray := prog_3_method_56_code
def yX1_spiltAtEnd : MethodName := ⟨RX1, "spiltAtEnd", "()I"⟩
abbrev cX1_minuteOfSpill : ByteArray := prog_3_method_57_code
def yX1_minuteOfSpill : MethodName := ⟨RX1, "minuteOfSpill", "()I"⟩
abbrev cX1_safeRate : ByteArray := prog_3_method_58_code
def yX1_safeRate : MethodName := ⟨RX1, "safeRate", "()I"⟩
abbrev cX1_worst : ByteArray := prog_3_method_59_code
def yX1_worst : MethodName := ⟨RX1, "worst", "()I"⟩
abbrev cX1_bestToGiveUp : ByteArray := prog_3_method_60_code
def yX1_bestToGiveUp : MethodName := ⟨RX1, "bestToGiveUp", "()I"⟩
abbrev cX1_meanLastShadow : ByteArray := prog_3_method_61_code
def yX1_meanLastShadow : MethodName := ⟨RX1, "meanLastShadow", "()D"⟩
abbrev cX1_digest : ByteArray := prog_3_method_62_code
def yX1_digest : MethodName := ⟨RX1, "digest", "()J"⟩
def RJ9 : String := "java/lang/Math"
def TJ9 : u_T := fun k => match k with
  | _ => ("", "", "", false)
def tyJ9 : Nat → FieldType := fun k => match k with
  | _ => .int
abbrev wsJ90 : List Cond := u_ws RJ9 TJ9 0
theorem nmJ9 : ∀ a, a < 0 → ∀ b, b < 0 → a ≠ b → (TJ9 a).2.1 ≠ (TJ9 b).2.1 := by decide +kernel
theorem tyJ9_ok : ∀ k, k < 0 → parseFieldDescriptor (TJ9 k).2.2.1 = some (tyJ9 k) := by decide +kernel
abbrev cJ9_abs_0f7a4 : ByteArray := prog_8_method_59_code
def yJ9_abs_0f7a4 : MethodName := ⟨RJ9, "abs", "(I)I"⟩
abbrev cJ9_max_7cf53 : ByteArray := prog_8_method_65_code
def yJ9_max_7cf53 : MethodName := ⟨RJ9, "max", "(II)I"⟩
abbrev cJ9_min_7cf53 : ByteArray := prog_8_method_69_code
def yJ9_min_7cf53 : MethodName := ⟨RJ9, "min", "(II)I"⟩
def RJ0 : String := "java/lang/String"
def TJ0 : u_T := fun k => match k with
  | _ => ("", "", "", false)
def tyJ0 : Nat → FieldType := fun k => match k with
  | _ => .int
abbrev wsJ00 : List Cond := u_ws RJ0 TJ0 0
theorem nmJ0 : ∀ a, a < 0 → ∀ b, b < 0 → a ≠ b → (TJ0 a).2.1 ≠ (TJ0 b).2.1 := by decide +kernel
theorem tyJ0_ok : ∀ k, k < 0 → parseFieldDescriptor (TJ0 k).2.2.1 = some (tyJ0 k) := by decide +kernel
def RL : String := "AfternoonMeterLaw"
abbrev cL_addStick : ByteArray := method_3_code
def yL_addStick : MethodName := ⟨RL, "addStick", "(LAfternoonMeter;I[J)I"⟩
abbrev cL_addNap : ByteArray := method_4_code
def yL_addNap : MethodName := ⟨RL, "addNap", "(LAfternoonMeter;II[J)I"⟩
abbrev cL_giveUp : ByteArray := method_5_code
def yL_giveUp : MethodName := ⟨RL, "giveUp", "(LAfternoonMeter;I[J)I"⟩
abbrev cL_addBee : ByteArray := method_6_code
def yL_addBee : MethodName := ⟨RL, "addBee", "(LAfternoonMeter;II[J)I"⟩
abbrev cL_setTea : ByteArray := method_7_code
def yL_setTea : MethodName := ⟨RL, "setTea", "(LAfternoonMeter;III[J)I"⟩
abbrev cL_pass : ByteArray := method_8_code
def yL_pass : MethodName := ⟨RL, "pass", "(LAfternoonMeter;I[J)I"⟩
abbrev cL_isAsleep : ByteArray := method_9_code
def yL_isAsleep : MethodName := ⟨RL, "isAsleep", "(LAfternoonMeter;I[J)I"⟩
abbrev cL_shadowAt : ByteArray := method_10_code
def yL_shadowAt : MethodName := ⟨RL, "shadowAt", "(LAfternoonMeter;II[J)I"⟩
abbrev cL_minuteOfShadow : ByteArray := method_11_code
def yL_minuteOfShadow : MethodName := ⟨RL, "minuteOfShadow", "(LAfternoonMeter;II[J)I"⟩
abbrev cL_allShadows : ByteArray := method_12_code
def yL_allShadows : MethodName := ⟨RL, "allShadows", "(LAfternoonMeter;I[J)I"⟩
abbrev cL_startOf : ByteArray := method_13_code
def yL_startOf : MethodName := ⟨RL, "startOf", "(LAfternoonMeter;I[J)I"⟩
abbrev cL_lengthOf : ByteArray := method_14_code
def yL_lengthOf : MethodName := ⟨RL, "lengthOf", "(LAfternoonMeter;I[J)I"⟩
abbrev cL_napsAt : ByteArray := method_15_code
def yL_napsAt : MethodName := ⟨RL, "napsAt", "(LAfternoonMeter;I[J)I"⟩
abbrev cL_minutesAlone : ByteArray := method_16_code
def yL_minutesAlone : MethodName := ⟨RL, "minutesAlone", "(LAfternoonMeter;I[J)I"⟩
abbrev cL_ticksOf : ByteArray := method_17_code
def yL_ticksOf : MethodName := ⟨RL, "ticksOf", "(LAfternoonMeter;I[J)I"⟩
abbrev cL_measuredBy : ByteArray := method_18_code
def yL_measuredBy : MethodName := ⟨RL, "measuredBy", "(LAfternoonMeter;I[J)I"⟩
abbrev cL_errorOf : ByteArray := method_19_code
def yL_errorOf : MethodName := ⟨RL, "errorOf", "(LAfternoonMeter;I[J)I"⟩
abbrev cL_nextTick : ByteArray := method_20_code
def yL_nextTick : MethodName := ⟨RL, "nextTick", "(LAfternoonMeter;I[J)I"⟩
abbrev cL_law : ByteArray := code
def yL_law : MethodName := ⟨RL, "law", "([I)Z"⟩
def wsX0_init : List Cond := .code yX0_init cX0_init 1 none :: ([.methodLink RX0 1 objectInit, .instanceMethod objectInit, .code objectInit ⟨#[0xb1]⟩ 1 none, .arrayClass .int, .fieldLink RX0 9 "AfternoonMeter" "heights" "[I", .fieldLink RX0 13 "AfternoonMeter" "napStarts" "[I", .fieldLink RX0 16 "AfternoonMeter" "napEnds" "[I", .fieldLink RX0 19 "AfternoonMeter" "napsOver" "[I", .fieldLink RX0 22 "AfternoonMeter" "periods" "[I", .fieldLink RX0 25 "AfternoonMeter" "beats" "[I", .fieldLink RX0 28 "AfternoonMeter" "beesOn" "[I", .fieldLink RX0 31 "AfternoonMeter" "room" "I", .fieldLink RX0 35 "AfternoonMeter" "rate" "I", .fieldLink RX0 38 "AfternoonMeter" "sip" "I"] ++ wsX00)
def wsX0_addStick : List Cond := .code yX0_addStick cX0_addStick 3 (some .int) :: ([.classLink RX0 41 "java/lang/IllegalArgumentException", .initialized "java/lang/IllegalArgumentException", .classLink RX0 51 "java/lang/IllegalStateException", .initialized "java/lang/IllegalStateException", .fieldLink RX0 48 "AfternoonMeter" "stickCount" "I", .fieldLink RX0 9 "AfternoonMeter" "heights" "[I"] ++ wsX00 ++ (vx_atS RX0 45 "java/lang/IllegalArgumentException" ["java/lang/RuntimeException", "java/lang/Exception"]).filter goodWord ++ (vx_atS RX0 55 "java/lang/IllegalStateException" ["java/lang/RuntimeException", "java/lang/Exception"]).filter goodWord)
def wsX0_covers : List Cond := .code yX0_covers cX0_covers 3 (some .boolean) :: ([.fieldLink RX0 13 "AfternoonMeter" "napStarts" "[I", .fieldLink RX0 16 "AfternoonMeter" "napEnds" "[I"] ++ wsX00)
def wsX0_changeCover : List Cond := .code yX0_changeCover cX0_changeCover 4 none :: ([.fieldLink RX0 19 "AfternoonMeter" "napsOver" "[I", .methodLink RX0 201 yX0_covers, .instanceMethod yX0_covers, .selects RX0 yX0_covers yX0_covers, .initialized RX0, .code yX0_covers cX0_covers 3 (some .boolean), .fieldLink RX0 13 "AfternoonMeter" "napStarts" "[I", .fieldLink RX0 16 "AfternoonMeter" "napEnds" "[I"] ++ wsX00)
def wsX0_addNap : List Cond := .code yX0_addNap cX0_addNap 4 (some .int) :: ([.classLink RX0 41 "java/lang/IllegalArgumentException", .initialized "java/lang/IllegalArgumentException", .classLink RX0 51 "java/lang/IllegalStateException", .initialized "java/lang/IllegalStateException", .fieldLink RX0 58 "AfternoonMeter" "napCount" "I", .fieldLink RX0 13 "AfternoonMeter" "napStarts" "[I", .fieldLink RX0 16 "AfternoonMeter" "napEnds" "[I", .methodLink RX0 63 yX0_changeCover, .instanceMethod yX0_changeCover, .selects RX0 yX0_changeCover yX0_changeCover, .initialized RX0, .code yX0_changeCover cX0_changeCover 4 none, .fieldLink RX0 19 "AfternoonMeter" "napsOver" "[I", .methodLink RX0 201 yX0_covers, .instanceMethod yX0_covers, .selects RX0 yX0_covers yX0_covers, .code yX0_covers cX0_covers 3 (some .boolean)] ++ wsX00 ++ (vx_atS RX0 45 "java/lang/IllegalArgumentException" ["java/lang/RuntimeException", "java/lang/Exception"]).filter goodWord ++ (vx_atS RX0 55 "java/lang/IllegalStateException" ["java/lang/RuntimeException", "java/lang/Exception"]).filter goodWord)
def wsX0_checkNap : List Cond := .code yX0_checkNap cX0_checkNap 2 none :: ([.classLink RX0 192 "java/lang/IndexOutOfBoundsException", .initialized "java/lang/IndexOutOfBoundsException", .fieldLink RX0 58 "AfternoonMeter" "napCount" "I"] ++ wsX00 ++ (vx_atS RX0 196 "java/lang/IndexOutOfBoundsException" ["java/lang/RuntimeException", "java/lang/Exception"]).filter goodWord)
def wsX0_giveUp : List Cond := .code yX0_giveUp cX0_giveUp 3 (some .int) :: ([.fieldLink RX0 58 "AfternoonMeter" "napCount" "I", .fieldLink RX0 13 "AfternoonMeter" "napStarts" "[I", .fieldLink RX0 16 "AfternoonMeter" "napEnds" "[I", .methodLink RX0 67 yX0_checkNap, .instanceMethod yX0_checkNap, .selects RX0 yX0_checkNap yX0_checkNap, .initialized RX0, .code yX0_checkNap cX0_checkNap 2 none, .classLink RX0 192 "java/lang/IndexOutOfBoundsException", .initialized "java/lang/IndexOutOfBoundsException", .methodLink RX0 63 yX0_changeCover, .instanceMethod yX0_changeCover, .selects RX0 yX0_changeCover yX0_changeCover, .code yX0_changeCover cX0_changeCover 4 none, .fieldLink RX0 19 "AfternoonMeter" "napsOver" "[I", .methodLink RX0 201 yX0_covers, .instanceMethod yX0_covers, .selects RX0 yX0_covers yX0_covers, .code yX0_covers cX0_covers 3 (some .boolean)] ++ wsX00 ++ (vx_atS RX0 196 "java/lang/IndexOutOfBoundsException" ["java/lang/RuntimeException", "java/lang/Exception"]).filter goodWord)
def wsX0_hasBeatIn : List Cond := .code yX0_hasBeatIn cX0_hasBeatIn 4 (some .boolean) :: ([.fieldLink RX0 22 "AfternoonMeter" "periods" "[I", .fieldLink RX0 25 "AfternoonMeter" "beats" "[I"] ++ wsX00)
def wsX0_addBee : List Cond := .code yX0_addBee cX0_addBee 5 (some .int) :: ([.classLink RX0 41 "java/lang/IllegalArgumentException", .initialized "java/lang/IllegalArgumentException", .classLink RX0 51 "java/lang/IllegalStateException", .initialized "java/lang/IllegalStateException", .fieldLink RX0 73 "AfternoonMeter" "beeCount" "I", .fieldLink RX0 22 "AfternoonMeter" "periods" "[I", .fieldLink RX0 25 "AfternoonMeter" "beats" "[I", .fieldLink RX0 28 "AfternoonMeter" "beesOn" "[I", .methodLink RX0 78 yX0_hasBeatIn, .instanceMethod yX0_hasBeatIn, .selects RX0 yX0_hasBeatIn yX0_hasBeatIn, .initialized RX0, .code yX0_hasBeatIn cX0_hasBeatIn 4 (some .boolean)] ++ wsX00 ++ (vx_atS RX0 45 "java/lang/IllegalArgumentException" ["java/lang/RuntimeException", "java/lang/Exception"]).filter goodWord ++ (vx_atS RX0 55 "java/lang/IllegalStateException" ["java/lang/RuntimeException", "java/lang/Exception"]).filter goodWord)
def wsX0_excess : List Cond := .code yX0_excess cX0_excess 2 (some .int) :: ([.fieldLink RX0 31 "AfternoonMeter" "room" "I", .methodLink RX0 119 Lib.Math.max.name, .static Lib.Math.max.name, .initialized "java/lang/Math", .code Lib.Math.max.name Lib.Math.max.code 2 (some .int)] ++ wsX00)
def wsX0_pourInto : List Cond := .code yX0_pourInto cX0_pourInto 3 (some .int) :: ([.fieldLink RX0 88 "AfternoonMeter" "inCup" "I", .fieldLink RX0 106 "AfternoonMeter" "ranOver" "I", .methodLink RX0 155 yX0_excess, .instanceMethod yX0_excess, .selects RX0 yX0_excess yX0_excess, .initialized RX0, .code yX0_excess cX0_excess 2 (some .int), .fieldLink RX0 31 "AfternoonMeter" "room" "I", .methodLink RX0 119 Lib.Math.max.name, .static Lib.Math.max.name, .initialized "java/lang/Math", .code Lib.Math.max.name Lib.Math.max.code 2 (some .int)] ++ wsX00)
def wsX0_setTea : List Cond := .code yX0_setTea cX0_setTea 4 (some .int) :: ([.classLink RX0 41 "java/lang/IllegalArgumentException", .initialized "java/lang/IllegalArgumentException", .fieldLink RX0 31 "AfternoonMeter" "room" "I", .fieldLink RX0 35 "AfternoonMeter" "rate" "I", .fieldLink RX0 38 "AfternoonMeter" "sip" "I", .fieldLink RX0 88 "AfternoonMeter" "inCup" "I", .methodLink RX0 91 yX0_pourInto, .instanceMethod yX0_pourInto, .selects RX0 yX0_pourInto yX0_pourInto, .initialized RX0, .code yX0_pourInto cX0_pourInto 3 (some .int), .fieldLink RX0 106 "AfternoonMeter" "ranOver" "I", .methodLink RX0 155 yX0_excess, .instanceMethod yX0_excess, .selects RX0 yX0_excess yX0_excess, .code yX0_excess cX0_excess 2 (some .int), .methodLink RX0 119 Lib.Math.max.name, .static Lib.Math.max.name, .initialized "java/lang/Math", .code Lib.Math.max.name Lib.Math.max.code 2 (some .int)] ++ wsX00 ++ (vx_atS RX0 45 "java/lang/IllegalArgumentException" ["java/lang/RuntimeException", "java/lang/Exception"]).filter goodWord)
def wsX0_contentAfter : List Cond := .code yX0_contentAfter cX0_contentAfter 4 (some .int) :: ([.fieldLink RX0 19 "AfternoonMeter" "napsOver" "[I", .fieldLink RX0 38 "AfternoonMeter" "sip" "I", .fieldLink RX0 28 "AfternoonMeter" "beesOn" "[I", .methodLink RX0 119 Lib.Math.max.name, .static Lib.Math.max.name, .initialized "java/lang/Math", .code Lib.Math.max.name Lib.Math.max.code 2 (some .int)] ++ wsX00)
def wsX0_pass_r1 : List Cond := [Cond.classLink RX0 41 "java/lang/IllegalArgumentException", Cond.initialized "java/lang/IllegalArgumentException", Cond.classLink RX0 51 "java/lang/IllegalStateException", Cond.initialized "java/lang/IllegalStateException", Cond.fieldLink RX0 97 "AfternoonMeter" "now" "I", Cond.fieldLink RX0 88 "AfternoonMeter" "inCup" "I", Cond.fieldLink RX0 35 "AfternoonMeter" "rate" "I", Cond.methodLink RX0 102 yX0_contentAfter, Cond.instanceMethod yX0_contentAfter, Cond.selects RX0 yX0_contentAfter yX0_contentAfter, Cond.initialized RX0, Cond.code yX0_contentAfter cX0_contentAfter 4 (some .int), Cond.fieldLink RX0 19 "AfternoonMeter" "napsOver" "[I", Cond.fieldLink RX0 38 "AfternoonMeter" "sip" "I", Cond.fieldLink RX0 28 "AfternoonMeter" "beesOn" "[I", Cond.methodLink RX0 119 Lib.Math.max.name, Cond.static Lib.Math.max.name, Cond.initialized "java/lang/Math", Cond.code Lib.Math.max.name Lib.Math.max.code 2 (some .int), Cond.methodLink RX0 91 yX0_pourInto, Cond.instanceMethod yX0_pourInto, Cond.selects RX0 yX0_pourInto yX0_pourInto, Cond.code yX0_pourInto cX0_pourInto 3 (some .int), Cond.fieldLink RX0 106 "AfternoonMeter" "ranOver" "I"]
def wsX0_pass_r2 : List Cond := [Cond.methodLink RX0 155 yX0_excess, Cond.instanceMethod yX0_excess, Cond.selects RX0 yX0_excess yX0_excess, Cond.code yX0_excess cX0_excess 2 (some .int), Cond.fieldLink RX0 31 "AfternoonMeter" "room" "I"]
def wsX0_pass : List Cond := .code yX0_pass cX0_pass 4 (some .int) :: ((wsX0_pass_r1 ++ wsX0_pass_r2) ++ wsX00 ++ (vx_atS RX0 45 "java/lang/IllegalArgumentException" ["java/lang/RuntimeException", "java/lang/Exception"]).filter goodWord ++ (vx_atS RX0 55 "java/lang/IllegalStateException" ["java/lang/RuntimeException", "java/lang/Exception"]).filter goodWord)
def wsX0_begin : List Cond := .code yX0_begin cX0_begin 1 (some .int) :: ([.fieldLink RX0 97 "AfternoonMeter" "now" "I", .fieldLink RX0 88 "AfternoonMeter" "inCup" "I", .fieldLink RX0 106 "AfternoonMeter" "ranOver" "I", .fieldLink RX0 109 "AfternoonMeter" "afternoonNumber" "I"] ++ wsX00)
def wsX0_afternoon : List Cond := .code yX0_afternoon cX0_afternoon 1 (some .int) :: ([.fieldLink RX0 109 "AfternoonMeter" "afternoonNumber" "I"] ++ wsX00)
def wsX0_minute : List Cond := .code yX0_minute cX0_minute 1 (some .int) :: ([.fieldLink RX0 97 "AfternoonMeter" "now" "I"] ++ wsX00)
def wsX0_checkMinute : List Cond := .code yX0_checkMinute cX0_checkMinute 2 none :: ([.classLink RX0 41 "java/lang/IllegalArgumentException", .initialized "java/lang/IllegalArgumentException"] ++ (vx_atS RX0 45 "java/lang/IllegalArgumentException" ["java/lang/RuntimeException", "java/lang/Exception"]).filter goodWord)
def wsX0_isAsleep : List Cond := .code yX0_isAsleep cX0_isAsleep 2 (some .boolean) :: ([.fieldLink RX0 19 "AfternoonMeter" "napsOver" "[I", .methodLink RX0 112 yX0_checkMinute, .instanceMethod yX0_checkMinute, .selects RX0 yX0_checkMinute yX0_checkMinute, .initialized RX0, .code yX0_checkMinute cX0_checkMinute 2 none, .classLink RX0 41 "java/lang/IllegalArgumentException", .initialized "java/lang/IllegalArgumentException"] ++ wsX00 ++ (vx_atS RX0 45 "java/lang/IllegalArgumentException" ["java/lang/RuntimeException", "java/lang/Exception"]).filter goodWord)
def wsX0_awakeMinutes : List Cond := .code yX0_awakeMinutes cX0_awakeMinutes 3 (some .int) :: ([.fieldLink RX0 97 "AfternoonMeter" "now" "I", .fieldLink RX0 19 "AfternoonMeter" "napsOver" "[I"] ++ wsX00)
def wsX0_sleptMinutes : List Cond := .code yX0_sleptMinutes cX0_sleptMinutes 1 (some .int) :: ([.fieldLink RX0 97 "AfternoonMeter" "now" "I", .methodLink RX0 115 yX0_awakeMinutes, .instanceMethod yX0_awakeMinutes, .selects RX0 yX0_awakeMinutes yX0_awakeMinutes, .initialized RX0, .code yX0_awakeMinutes cX0_awakeMinutes 3 (some .int), .fieldLink RX0 19 "AfternoonMeter" "napsOver" "[I"] ++ wsX00)
def wsX0_longestAwake : List Cond := .code yX0_longestAwake cX0_longestAwake 4 (some .int) :: ([.fieldLink RX0 19 "AfternoonMeter" "napsOver" "[I", .methodLink RX0 119 Lib.Math.max.name, .static Lib.Math.max.name, .initialized "java/lang/Math", .code Lib.Math.max.name Lib.Math.max.code 2 (some .int)] ++ wsX00)
def wsX0_sticks : List Cond := .code yX0_sticks cX0_sticks 1 (some .int) :: ([.fieldLink RX0 48 "AfternoonMeter" "stickCount" "I"] ++ wsX00)
def wsX0_checkStick : List Cond := .code yX0_checkStick cX0_checkStick 2 none :: ([.classLink RX0 192 "java/lang/IndexOutOfBoundsException", .initialized "java/lang/IndexOutOfBoundsException", .fieldLink RX0 48 "AfternoonMeter" "stickCount" "I"] ++ wsX00 ++ (vx_atS RX0 196 "java/lang/IndexOutOfBoundsException" ["java/lang/RuntimeException", "java/lang/Exception"]).filter goodWord)
def wsX0_shadowOf : List Cond := .code yX0_shadowOf cX0_shadowOf 3 (some .int) :: ([.fieldLink RX0 9 "AfternoonMeter" "heights" "[I"] ++ wsX00)
def wsX0_shadowAt : List Cond := .code yX0_shadowAt cX0_shadowAt 3 (some .int) :: ([.methodLink RX0 125 yX0_checkStick, .instanceMethod yX0_checkStick, .selects RX0 yX0_checkStick yX0_checkStick, .initialized RX0, .code yX0_checkStick cX0_checkStick 2 none, .classLink RX0 192 "java/lang/IndexOutOfBoundsException", .initialized "java/lang/IndexOutOfBoundsException", .fieldLink RX0 48 "AfternoonMeter" "stickCount" "I", .methodLink RX0 112 yX0_checkMinute, .instanceMethod yX0_checkMinute, .selects RX0 yX0_checkMinute yX0_checkMinute, .code yX0_checkMinute cX0_checkMinute 2 none, .classLink RX0 41 "java/lang/IllegalArgumentException", .initialized "java/lang/IllegalArgumentException", .methodLink RX0 128 yX0_shadowOf, .instanceMethod yX0_shadowOf, .selects RX0 yX0_shadowOf yX0_shadowOf, .code yX0_shadowOf cX0_shadowOf 3 (some .int), .fieldLink RX0 9 "AfternoonMeter" "heights" "[I"] ++ wsX00 ++ (vx_atS RX0 196 "java/lang/IndexOutOfBoundsException" ["java/lang/RuntimeException", "java/lang/Exception"]).filter goodWord ++ (vx_atS RX0 45 "java/lang/IllegalArgumentException" ["java/lang/RuntimeException", "java/lang/Exception"]).filter goodWord)
def wsX0_minuteOfShadow : List Cond := .code yX0_minuteOfShadow cX0_minuteOfShadow 4 (some .int) :: ([.methodLink RX0 125 yX0_checkStick, .instanceMethod yX0_checkStick, .selects RX0 yX0_checkStick yX0_checkStick, .initialized RX0, .code yX0_checkStick cX0_checkStick 2 none, .classLink RX0 192 "java/lang/IndexOutOfBoundsException", .initialized "java/lang/IndexOutOfBoundsException", .fieldLink RX0 48 "AfternoonMeter" "stickCount" "I", .methodLink RX0 128 yX0_shadowOf, .instanceMethod yX0_shadowOf, .selects RX0 yX0_shadowOf yX0_shadowOf, .code yX0_shadowOf cX0_shadowOf 3 (some .int), .fieldLink RX0 9 "AfternoonMeter" "heights" "[I"] ++ wsX00 ++ (vx_atS RX0 196 "java/lang/IndexOutOfBoundsException" ["java/lang/RuntimeException", "java/lang/Exception"]).filter goodWord)
def wsX0_sumOfShadows : List Cond := .code yX0_sumOfShadows cX0_sumOfShadows 4 (some .int) :: ([.fieldLink RX0 48 "AfternoonMeter" "stickCount" "I", .methodLink RX0 128 yX0_shadowOf, .instanceMethod yX0_shadowOf, .selects RX0 yX0_shadowOf yX0_shadowOf, .initialized RX0, .code yX0_shadowOf cX0_shadowOf 3 (some .int), .fieldLink RX0 9 "AfternoonMeter" "heights" "[I"] ++ wsX00)
def wsX0_allShadows : List Cond := .code yX0_allShadows cX0_allShadows 2 (some .int) :: ([.methodLink RX0 112 yX0_checkMinute, .instanceMethod yX0_checkMinute, .selects RX0 yX0_checkMinute yX0_checkMinute, .initialized RX0, .code yX0_checkMinute cX0_checkMinute 2 none, .classLink RX0 41 "java/lang/IllegalArgumentException", .initialized "java/lang/IllegalArgumentException", .methodLink RX0 131 yX0_sumOfShadows, .instanceMethod yX0_sumOfShadows, .selects RX0 yX0_sumOfShadows yX0_sumOfShadows, .code yX0_sumOfShadows cX0_sumOfShadows 4 (some .int), .fieldLink RX0 48 "AfternoonMeter" "stickCount" "I", .methodLink RX0 128 yX0_shadowOf, .instanceMethod yX0_shadowOf, .selects RX0 yX0_shadowOf yX0_shadowOf, .code yX0_shadowOf cX0_shadowOf 3 (some .int), .fieldLink RX0 9 "AfternoonMeter" "heights" "[I"] ++ wsX00 ++ (vx_atS RX0 45 "java/lang/IllegalArgumentException" ["java/lang/RuntimeException", "java/lang/Exception"]).filter goodWord)
def wsX0_naps : List Cond := .code yX0_naps cX0_naps 1 (some .int) :: ([.fieldLink RX0 58 "AfternoonMeter" "napCount" "I"] ++ wsX00)
def wsX0_startOf : List Cond := .code yX0_startOf cX0_startOf 2 (some .int) :: ([.fieldLink RX0 13 "AfternoonMeter" "napStarts" "[I", .methodLink RX0 67 yX0_checkNap, .instanceMethod yX0_checkNap, .selects RX0 yX0_checkNap yX0_checkNap, .initialized RX0, .code yX0_checkNap cX0_checkNap 2 none, .classLink RX0 192 "java/lang/IndexOutOfBoundsException", .initialized "java/lang/IndexOutOfBoundsException", .fieldLink RX0 58 "AfternoonMeter" "napCount" "I"] ++ wsX00 ++ (vx_atS RX0 196 "java/lang/IndexOutOfBoundsException" ["java/lang/RuntimeException", "java/lang/Exception"]).filter goodWord)
def wsX0_lengthOf : List Cond := .code yX0_lengthOf cX0_lengthOf 2 (some .int) :: ([.fieldLink RX0 16 "AfternoonMeter" "napEnds" "[I", .fieldLink RX0 13 "AfternoonMeter" "napStarts" "[I", .methodLink RX0 67 yX0_checkNap, .instanceMethod yX0_checkNap, .selects RX0 yX0_checkNap yX0_checkNap, .initialized RX0, .code yX0_checkNap cX0_checkNap 2 none, .classLink RX0 192 "java/lang/IndexOutOfBoundsException", .initialized "java/lang/IndexOutOfBoundsException", .fieldLink RX0 58 "AfternoonMeter" "napCount" "I"] ++ wsX00 ++ (vx_atS RX0 196 "java/lang/IndexOutOfBoundsException" ["java/lang/RuntimeException", "java/lang/Exception"]).filter goodWord)
def wsX0_napsAt : List Cond := .code yX0_napsAt cX0_napsAt 2 (some .int) :: ([.fieldLink RX0 19 "AfternoonMeter" "napsOver" "[I", .methodLink RX0 112 yX0_checkMinute, .instanceMethod yX0_checkMinute, .selects RX0 yX0_checkMinute yX0_checkMinute, .initialized RX0, .code yX0_checkMinute cX0_checkMinute 2 none, .classLink RX0 41 "java/lang/IllegalArgumentException", .initialized "java/lang/IllegalArgumentException"] ++ wsX00 ++ (vx_atS RX0 45 "java/lang/IllegalArgumentException" ["java/lang/RuntimeException", "java/lang/Exception"]).filter goodWord)
def wsX0_countAlone : List Cond := .code yX0_countAlone cX0_countAlone 4 (some .int) :: ([.fieldLink RX0 19 "AfternoonMeter" "napsOver" "[I", .methodLink RX0 201 yX0_covers, .instanceMethod yX0_covers, .selects RX0 yX0_covers yX0_covers, .initialized RX0, .code yX0_covers cX0_covers 3 (some .boolean), .fieldLink RX0 13 "AfternoonMeter" "napStarts" "[I", .fieldLink RX0 16 "AfternoonMeter" "napEnds" "[I"] ++ wsX00)
def wsX0_minutesAlone : List Cond := .code yX0_minutesAlone cX0_minutesAlone 2 (some .int) :: ([.methodLink RX0 67 yX0_checkNap, .instanceMethod yX0_checkNap, .selects RX0 yX0_checkNap yX0_checkNap, .initialized RX0, .code yX0_checkNap cX0_checkNap 2 none, .classLink RX0 192 "java/lang/IndexOutOfBoundsException", .initialized "java/lang/IndexOutOfBoundsException", .fieldLink RX0 58 "AfternoonMeter" "napCount" "I", .methodLink RX0 134 yX0_countAlone, .instanceMethod yX0_countAlone, .selects RX0 yX0_countAlone yX0_countAlone, .code yX0_countAlone cX0_countAlone 4 (some .int), .fieldLink RX0 19 "AfternoonMeter" "napsOver" "[I", .methodLink RX0 201 yX0_covers, .instanceMethod yX0_covers, .selects RX0 yX0_covers yX0_covers, .code yX0_covers cX0_covers 3 (some .boolean), .fieldLink RX0 13 "AfternoonMeter" "napStarts" "[I", .fieldLink RX0 16 "AfternoonMeter" "napEnds" "[I"] ++ wsX00 ++ (vx_atS RX0 196 "java/lang/IndexOutOfBoundsException" ["java/lang/RuntimeException", "java/lang/Exception"]).filter goodWord)
def wsX0_bees : List Cond := .code yX0_bees cX0_bees 1 (some .int) :: ([.fieldLink RX0 73 "AfternoonMeter" "beeCount" "I"] ++ wsX00)
def wsX0_checkBee : List Cond := .code yX0_checkBee cX0_checkBee 2 none :: ([.classLink RX0 192 "java/lang/IndexOutOfBoundsException", .initialized "java/lang/IndexOutOfBoundsException", .fieldLink RX0 73 "AfternoonMeter" "beeCount" "I"] ++ wsX00 ++ (vx_atS RX0 196 "java/lang/IndexOutOfBoundsException" ["java/lang/RuntimeException", "java/lang/Exception"]).filter goodWord)
def wsX0_ticksIn : List Cond := .code yX0_ticksIn cX0_ticksIn 3 (some .boolean) :: ([.fieldLink RX0 19 "AfternoonMeter" "napsOver" "[I", .methodLink RX0 78 yX0_hasBeatIn, .instanceMethod yX0_hasBeatIn, .selects RX0 yX0_hasBeatIn yX0_hasBeatIn, .initialized RX0, .code yX0_hasBeatIn cX0_hasBeatIn 4 (some .boolean), .fieldLink RX0 22 "AfternoonMeter" "periods" "[I", .fieldLink RX0 25 "AfternoonMeter" "beats" "[I"] ++ wsX00)
def wsX0_countTicks : List Cond := .code yX0_countTicks cX0_countTicks 4 (some .int) :: ([.fieldLink RX0 97 "AfternoonMeter" "now" "I", .methodLink RX0 152 yX0_ticksIn, .instanceMethod yX0_ticksIn, .selects RX0 yX0_ticksIn yX0_ticksIn, .initialized RX0, .code yX0_ticksIn cX0_ticksIn 3 (some .boolean), .fieldLink RX0 19 "AfternoonMeter" "napsOver" "[I", .methodLink RX0 78 yX0_hasBeatIn, .instanceMethod yX0_hasBeatIn, .selects RX0 yX0_hasBeatIn yX0_hasBeatIn, .code yX0_hasBeatIn cX0_hasBeatIn 4 (some .boolean), .fieldLink RX0 22 "AfternoonMeter" "periods" "[I", .fieldLink RX0 25 "AfternoonMeter" "beats" "[I"] ++ wsX00)
def wsX0_ticksOf : List Cond := .code yX0_ticksOf cX0_ticksOf 2 (some .int) :: ([.methodLink RX0 137 yX0_checkBee, .instanceMethod yX0_checkBee, .selects RX0 yX0_checkBee yX0_checkBee, .initialized RX0, .code yX0_checkBee cX0_checkBee 2 none, .classLink RX0 192 "java/lang/IndexOutOfBoundsException", .initialized "java/lang/IndexOutOfBoundsException", .fieldLink RX0 73 "AfternoonMeter" "beeCount" "I", .methodLink RX0 140 yX0_countTicks, .instanceMethod yX0_countTicks, .selects RX0 yX0_countTicks yX0_countTicks, .code yX0_countTicks cX0_countTicks 4 (some .int), .fieldLink RX0 97 "AfternoonMeter" "now" "I", .methodLink RX0 152 yX0_ticksIn, .instanceMethod yX0_ticksIn, .selects RX0 yX0_ticksIn yX0_ticksIn, .code yX0_ticksIn cX0_ticksIn 3 (some .boolean), .fieldLink RX0 19 "AfternoonMeter" "napsOver" "[I", .methodLink RX0 78 yX0_hasBeatIn, .instanceMethod yX0_hasBeatIn, .selects RX0 yX0_hasBeatIn yX0_hasBeatIn, .code yX0_hasBeatIn cX0_hasBeatIn 4 (some .boolean), .fieldLink RX0 22 "AfternoonMeter" "periods" "[I", .fieldLink RX0 25 "AfternoonMeter" "beats" "[I"] ++ wsX00 ++ (vx_atS RX0 196 "java/lang/IndexOutOfBoundsException" ["java/lang/RuntimeException", "java/lang/Exception"]).filter goodWord)
def wsX0_measuredBy : List Cond := .code yX0_measuredBy cX0_measuredBy 2 (some .int) :: ([.fieldLink RX0 22 "AfternoonMeter" "periods" "[I", .methodLink RX0 137 yX0_checkBee, .instanceMethod yX0_checkBee, .selects RX0 yX0_checkBee yX0_checkBee, .initialized RX0, .code yX0_checkBee cX0_checkBee 2 none, .classLink RX0 192 "java/lang/IndexOutOfBoundsException", .initialized "java/lang/IndexOutOfBoundsException", .fieldLink RX0 73 "AfternoonMeter" "beeCount" "I", .methodLink RX0 140 yX0_countTicks, .instanceMethod yX0_countTicks, .selects RX0 yX0_countTicks yX0_countTicks, .code yX0_countTicks cX0_countTicks 4 (some .int), .fieldLink RX0 97 "AfternoonMeter" "now" "I", .methodLink RX0 152 yX0_ticksIn, .instanceMethod yX0_ticksIn, .selects RX0 yX0_ticksIn yX0_ticksIn, .code yX0_ticksIn cX0_ticksIn 3 (some .boolean), .fieldLink RX0 19 "AfternoonMeter" "napsOver" "[I", .methodLink RX0 78 yX0_hasBeatIn, .instanceMethod yX0_hasBeatIn, .selects RX0 yX0_hasBeatIn yX0_hasBeatIn, .code yX0_hasBeatIn cX0_hasBeatIn 4 (some .boolean), .fieldLink RX0 25 "AfternoonMeter" "beats" "[I"] ++ wsX00 ++ (vx_atS RX0 196 "java/lang/IndexOutOfBoundsException" ["java/lang/RuntimeException", "java/lang/Exception"]).filter goodWord)
def wsX0_errorOf_r1 : List Cond := [Cond.methodLink RX0 143 yX0_measuredBy, Cond.instanceMethod yX0_measuredBy, Cond.selects RX0 yX0_measuredBy yX0_measuredBy, Cond.initialized RX0, Cond.code yX0_measuredBy cX0_measuredBy 2 (some .int), Cond.fieldLink RX0 22 "AfternoonMeter" "periods" "[I", Cond.methodLink RX0 137 yX0_checkBee, Cond.instanceMethod yX0_checkBee, Cond.selects RX0 yX0_checkBee yX0_checkBee, Cond.code yX0_checkBee cX0_checkBee 2 none, Cond.classLink RX0 192 "java/lang/IndexOutOfBoundsException", Cond.initialized "java/lang/IndexOutOfBoundsException", Cond.fieldLink RX0 73 "AfternoonMeter" "beeCount" "I", Cond.methodLink RX0 140 yX0_countTicks, Cond.instanceMethod yX0_countTicks, Cond.selects RX0 yX0_countTicks yX0_countTicks, Cond.code yX0_countTicks cX0_countTicks 4 (some .int), Cond.fieldLink RX0 97 "AfternoonMeter" "now" "I", Cond.methodLink RX0 152 yX0_ticksIn, Cond.instanceMethod yX0_ticksIn, Cond.selects RX0 yX0_ticksIn yX0_ticksIn, Cond.code yX0_ticksIn cX0_ticksIn 3 (some .boolean), Cond.fieldLink RX0 19 "AfternoonMeter" "napsOver" "[I", Cond.methodLink RX0 78 yX0_hasBeatIn]
def wsX0_errorOf_r2 : List Cond := [Cond.instanceMethod yX0_hasBeatIn, Cond.selects RX0 yX0_hasBeatIn yX0_hasBeatIn, Cond.code yX0_hasBeatIn cX0_hasBeatIn 4 (some .boolean), Cond.fieldLink RX0 25 "AfternoonMeter" "beats" "[I", Cond.methodLink RX0 115 yX0_awakeMinutes, Cond.instanceMethod yX0_awakeMinutes, Cond.selects RX0 yX0_awakeMinutes yX0_awakeMinutes, Cond.code yX0_awakeMinutes cX0_awakeMinutes 3 (some .int)]
def wsX0_errorOf : List Cond := .code yX0_errorOf cX0_errorOf 2 (some .int) :: ((wsX0_errorOf_r1 ++ wsX0_errorOf_r2) ++ wsX00 ++ (vx_atS RX0 196 "java/lang/IndexOutOfBoundsException" ["java/lang/RuntimeException", "java/lang/Exception"]).filter goodWord)
def wsX0_bestBee_r1 : List Cond := [Cond.fieldLink RX0 73 "AfternoonMeter" "beeCount" "I", Cond.methodLink RX0 149 Lib.Math.abs.name, Cond.static Lib.Math.abs.name, Cond.initialized "java/lang/Math", Cond.code Lib.Math.abs.name Lib.Math.abs.code 1 (some .int), Cond.methodLink RX0 146 yX0_errorOf, Cond.instanceMethod yX0_errorOf, Cond.selects RX0 yX0_errorOf yX0_errorOf, Cond.initialized RX0, Cond.code yX0_errorOf cX0_errorOf 2 (some .int), Cond.methodLink RX0 143 yX0_measuredBy, Cond.instanceMethod yX0_measuredBy, Cond.selects RX0 yX0_measuredBy yX0_measuredBy, Cond.code yX0_measuredBy cX0_measuredBy 2 (some .int), Cond.fieldLink RX0 22 "AfternoonMeter" "periods" "[I", Cond.methodLink RX0 137 yX0_checkBee, Cond.instanceMethod yX0_checkBee, Cond.selects RX0 yX0_checkBee yX0_checkBee, Cond.code yX0_checkBee cX0_checkBee 2 none, Cond.classLink RX0 192 "java/lang/IndexOutOfBoundsException", Cond.initialized "java/lang/IndexOutOfBoundsException", Cond.methodLink RX0 140 yX0_countTicks, Cond.instanceMethod yX0_countTicks, Cond.selects RX0 yX0_countTicks yX0_countTicks]
def wsX0_bestBee_r2 : List Cond := [Cond.code yX0_countTicks cX0_countTicks 4 (some .int), Cond.fieldLink RX0 97 "AfternoonMeter" "now" "I", Cond.methodLink RX0 152 yX0_ticksIn, Cond.instanceMethod yX0_ticksIn, Cond.selects RX0 yX0_ticksIn yX0_ticksIn, Cond.code yX0_ticksIn cX0_ticksIn 3 (some .boolean), Cond.fieldLink RX0 19 "AfternoonMeter" "napsOver" "[I", Cond.methodLink RX0 78 yX0_hasBeatIn, Cond.instanceMethod yX0_hasBeatIn, Cond.selects RX0 yX0_hasBeatIn yX0_hasBeatIn, Cond.code yX0_hasBeatIn cX0_hasBeatIn 4 (some .boolean), Cond.fieldLink RX0 25 "AfternoonMeter" "beats" "[I", Cond.methodLink RX0 115 yX0_awakeMinutes, Cond.instanceMethod yX0_awakeMinutes, Cond.selects RX0 yX0_awakeMinutes yX0_awakeMinutes, Cond.code yX0_awakeMinutes cX0_awakeMinutes 3 (some .int)]
def wsX0_bestBee : List Cond := .code yX0_bestBee cX0_bestBee 5 (some .int) :: ((wsX0_bestBee_r1 ++ wsX0_bestBee_r2) ++ wsX00 ++ (vx_atS RX0 196 "java/lang/IndexOutOfBoundsException" ["java/lang/RuntimeException", "java/lang/Exception"]).filter goodWord)
def wsX0_nextTick : List Cond := .code yX0_nextTick cX0_nextTick 3 (some .int) :: ([.fieldLink RX0 97 "AfternoonMeter" "now" "I", .methodLink RX0 137 yX0_checkBee, .instanceMethod yX0_checkBee, .selects RX0 yX0_checkBee yX0_checkBee, .initialized RX0, .code yX0_checkBee cX0_checkBee 2 none, .classLink RX0 192 "java/lang/IndexOutOfBoundsException", .initialized "java/lang/IndexOutOfBoundsException", .fieldLink RX0 73 "AfternoonMeter" "beeCount" "I", .methodLink RX0 152 yX0_ticksIn, .instanceMethod yX0_ticksIn, .selects RX0 yX0_ticksIn yX0_ticksIn, .code yX0_ticksIn cX0_ticksIn 3 (some .boolean), .fieldLink RX0 19 "AfternoonMeter" "napsOver" "[I", .methodLink RX0 78 yX0_hasBeatIn, .instanceMethod yX0_hasBeatIn, .selects RX0 yX0_hasBeatIn yX0_hasBeatIn, .code yX0_hasBeatIn cX0_hasBeatIn 4 (some .boolean), .fieldLink RX0 22 "AfternoonMeter" "periods" "[I", .fieldLink RX0 25 "AfternoonMeter" "beats" "[I"] ++ wsX00 ++ (vx_atS RX0 196 "java/lang/IndexOutOfBoundsException" ["java/lang/RuntimeException", "java/lang/Exception"]).filter goodWord)
def wsX0_tea : List Cond := .code yX0_tea cX0_tea 1 (some .int) :: ([.fieldLink RX0 88 "AfternoonMeter" "inCup" "I"] ++ wsX00)
def wsX0_spilt : List Cond := .code yX0_spilt cX0_spilt 1 (some .int) :: ([.fieldLink RX0 106 "AfternoonMeter" "ranOver" "I"] ++ wsX00)
def wsX0_spiltAtEnd : List Cond := .code yX0_spiltAtEnd cX0_spiltAtEnd 5 (some .int) :: ([.fieldLink RX0 106 "AfternoonMeter" "ranOver" "I", .fieldLink RX0 88 "AfternoonMeter" "inCup" "I", .fieldLink RX0 97 "AfternoonMeter" "now" "I", .fieldLink RX0 35 "AfternoonMeter" "rate" "I", .methodLink RX0 102 yX0_contentAfter, .instanceMethod yX0_contentAfter, .selects RX0 yX0_contentAfter yX0_contentAfter, .initialized RX0, .code yX0_contentAfter cX0_contentAfter 4 (some .int), .fieldLink RX0 19 "AfternoonMeter" "napsOver" "[I", .fieldLink RX0 38 "AfternoonMeter" "sip" "I", .fieldLink RX0 28 "AfternoonMeter" "beesOn" "[I", .methodLink RX0 119 Lib.Math.max.name, .static Lib.Math.max.name, .initialized "java/lang/Math", .code Lib.Math.max.name Lib.Math.max.code 2 (some .int), .methodLink RX0 155 yX0_excess, .instanceMethod yX0_excess, .selects RX0 yX0_excess yX0_excess, .code yX0_excess cX0_excess 2 (some .int), .fieldLink RX0 31 "AfternoonMeter" "room" "I"] ++ wsX00)
def wsX0_firstSpillWith : List Cond := .code yX0_firstSpillWith cX0_firstSpillWith 4 (some .int) :: ([.fieldLink RX0 88 "AfternoonMeter" "inCup" "I", .fieldLink RX0 97 "AfternoonMeter" "now" "I", .methodLink RX0 102 yX0_contentAfter, .instanceMethod yX0_contentAfter, .selects RX0 yX0_contentAfter yX0_contentAfter, .initialized RX0, .code yX0_contentAfter cX0_contentAfter 4 (some .int), .fieldLink RX0 19 "AfternoonMeter" "napsOver" "[I", .fieldLink RX0 38 "AfternoonMeter" "sip" "I", .fieldLink RX0 28 "AfternoonMeter" "beesOn" "[I", .methodLink RX0 119 Lib.Math.max.name, .static Lib.Math.max.name, .initialized "java/lang/Math", .code Lib.Math.max.name Lib.Math.max.code 2 (some .int), .methodLink RX0 155 yX0_excess, .instanceMethod yX0_excess, .selects RX0 yX0_excess yX0_excess, .code yX0_excess cX0_excess 2 (some .int), .fieldLink RX0 31 "AfternoonMeter" "room" "I"] ++ wsX00)
def wsX0_minuteOfSpill : List Cond := .code yX0_minuteOfSpill cX0_minuteOfSpill 1 (some .int) :: ([.fieldLink RX0 35 "AfternoonMeter" "rate" "I", .methodLink RX0 158 yX0_firstSpillWith, .instanceMethod yX0_firstSpillWith, .selects RX0 yX0_firstSpillWith yX0_firstSpillWith, .initialized RX0, .code yX0_firstSpillWith cX0_firstSpillWith 4 (some .int), .fieldLink RX0 88 "AfternoonMeter" "inCup" "I", .fieldLink RX0 97 "AfternoonMeter" "now" "I", .methodLink RX0 102 yX0_contentAfter, .instanceMethod yX0_contentAfter, .selects RX0 yX0_contentAfter yX0_contentAfter, .code yX0_contentAfter cX0_contentAfter 4 (some .int), .fieldLink RX0 19 "AfternoonMeter" "napsOver" "[I", .fieldLink RX0 38 "AfternoonMeter" "sip" "I", .fieldLink RX0 28 "AfternoonMeter" "beesOn" "[I", .methodLink RX0 119 Lib.Math.max.name, .static Lib.Math.max.name, .initialized "java/lang/Math", .code Lib.Math.max.name Lib.Math.max.code 2 (some .int), .methodLink RX0 155 yX0_excess, .instanceMethod yX0_excess, .selects RX0 yX0_excess yX0_excess, .code yX0_excess cX0_excess 2 (some .int), .fieldLink RX0 31 "AfternoonMeter" "room" "I"] ++ wsX00)
def wsX0_safeRate : List Cond := .code yX0_safeRate cX0_safeRate 2 (some .int) :: ([.methodLink RX0 158 yX0_firstSpillWith, .instanceMethod yX0_firstSpillWith, .selects RX0 yX0_firstSpillWith yX0_firstSpillWith, .initialized RX0, .code yX0_firstSpillWith cX0_firstSpillWith 4 (some .int), .fieldLink RX0 88 "AfternoonMeter" "inCup" "I", .fieldLink RX0 97 "AfternoonMeter" "now" "I", .methodLink RX0 102 yX0_contentAfter, .instanceMethod yX0_contentAfter, .selects RX0 yX0_contentAfter yX0_contentAfter, .code yX0_contentAfter cX0_contentAfter 4 (some .int), .fieldLink RX0 19 "AfternoonMeter" "napsOver" "[I", .fieldLink RX0 38 "AfternoonMeter" "sip" "I", .fieldLink RX0 28 "AfternoonMeter" "beesOn" "[I", .methodLink RX0 119 Lib.Math.max.name, .static Lib.Math.max.name, .initialized "java/lang/Math", .code Lib.Math.max.name Lib.Math.max.code 2 (some .int), .methodLink RX0 155 yX0_excess, .instanceMethod yX0_excess, .selects RX0 yX0_excess yX0_excess, .code yX0_excess cX0_excess 2 (some .int), .fieldLink RX0 31 "AfternoonMeter" "room" "I"] ++ wsX00)
def wsX0_bestToGiveUp : List Cond := .code yX0_bestToGiveUp cX0_bestToGiveUp 5 (some .int) :: ([.fieldLink RX0 58 "AfternoonMeter" "napCount" "I", .methodLink RX0 134 yX0_countAlone, .instanceMethod yX0_countAlone, .selects RX0 yX0_countAlone yX0_countAlone, .initialized RX0, .code yX0_countAlone cX0_countAlone 4 (some .int), .fieldLink RX0 19 "AfternoonMeter" "napsOver" "[I", .methodLink RX0 201 yX0_covers, .instanceMethod yX0_covers, .selects RX0 yX0_covers yX0_covers, .code yX0_covers cX0_covers 3 (some .boolean), .fieldLink RX0 13 "AfternoonMeter" "napStarts" "[I", .fieldLink RX0 16 "AfternoonMeter" "napEnds" "[I"] ++ wsX00)
def wsX0_meanLastShadow : List Cond := .code yX0_meanLastShadow cX0_meanLastShadow 1 (some .double) :: ([.fieldLink RX0 48 "AfternoonMeter" "stickCount" "I", .methodLink RX0 131 yX0_sumOfShadows, .instanceMethod yX0_sumOfShadows, .selects RX0 yX0_sumOfShadows yX0_sumOfShadows, .initialized RX0, .code yX0_sumOfShadows cX0_sumOfShadows 4 (some .int), .methodLink RX0 128 yX0_shadowOf, .instanceMethod yX0_shadowOf, .selects RX0 yX0_shadowOf yX0_shadowOf, .code yX0_shadowOf cX0_shadowOf 3 (some .int), .fieldLink RX0 9 "AfternoonMeter" "heights" "[I"] ++ wsX00)
def wsX0_withSticks : List Cond := .code yX0_withSticks cX0_withSticks 6 (some .long) :: ([.fieldLink RX0 48 "AfternoonMeter" "stickCount" "I", .constantLong RX0 163 (31), .methodLink RX0 128 yX0_shadowOf, .instanceMethod yX0_shadowOf, .selects RX0 yX0_shadowOf yX0_shadowOf, .initialized RX0, .code yX0_shadowOf cX0_shadowOf 3 (some .int), .fieldLink RX0 9 "AfternoonMeter" "heights" "[I"] ++ wsX00)
def wsX0_withNaps : List Cond := .code yX0_withNaps cX0_withNaps 6 (some .long) :: ([.fieldLink RX0 58 "AfternoonMeter" "napCount" "I", .constantLong RX0 163 (31), .fieldLink RX0 13 "AfternoonMeter" "napStarts" "[I", .fieldLink RX0 16 "AfternoonMeter" "napEnds" "[I", .methodLink RX0 134 yX0_countAlone, .instanceMethod yX0_countAlone, .selects RX0 yX0_countAlone yX0_countAlone, .initialized RX0, .code yX0_countAlone cX0_countAlone 4 (some .int), .fieldLink RX0 19 "AfternoonMeter" "napsOver" "[I", .methodLink RX0 201 yX0_covers, .instanceMethod yX0_covers, .selects RX0 yX0_covers yX0_covers, .code yX0_covers cX0_covers 3 (some .boolean)] ++ wsX00)
def wsX0_withBees_r1 : List Cond := [Cond.fieldLink RX0 73 "AfternoonMeter" "beeCount" "I", Cond.constantLong RX0 163 (31), Cond.methodLink RX0 140 yX0_countTicks, Cond.instanceMethod yX0_countTicks, Cond.selects RX0 yX0_countTicks yX0_countTicks, Cond.initialized RX0, Cond.code yX0_countTicks cX0_countTicks 4 (some .int), Cond.fieldLink RX0 97 "AfternoonMeter" "now" "I", Cond.methodLink RX0 152 yX0_ticksIn, Cond.instanceMethod yX0_ticksIn, Cond.selects RX0 yX0_ticksIn yX0_ticksIn, Cond.code yX0_ticksIn cX0_ticksIn 3 (some .boolean), Cond.fieldLink RX0 19 "AfternoonMeter" "napsOver" "[I", Cond.methodLink RX0 78 yX0_hasBeatIn, Cond.instanceMethod yX0_hasBeatIn, Cond.selects RX0 yX0_hasBeatIn yX0_hasBeatIn, Cond.code yX0_hasBeatIn cX0_hasBeatIn 4 (some .boolean), Cond.fieldLink RX0 22 "AfternoonMeter" "periods" "[I", Cond.fieldLink RX0 25 "AfternoonMeter" "beats" "[I", Cond.methodLink RX0 143 yX0_measuredBy, Cond.instanceMethod yX0_measuredBy, Cond.selects RX0 yX0_measuredBy yX0_measuredBy, Cond.code yX0_measuredBy cX0_measuredBy 2 (some .int), Cond.methodLink RX0 137 yX0_checkBee]
def wsX0_withBees_r2 : List Cond := [Cond.instanceMethod yX0_checkBee, Cond.selects RX0 yX0_checkBee yX0_checkBee, Cond.code yX0_checkBee cX0_checkBee 2 none, Cond.classLink RX0 192 "java/lang/IndexOutOfBoundsException", Cond.initialized "java/lang/IndexOutOfBoundsException", Cond.methodLink RX0 204 yX0_nextTick, Cond.instanceMethod yX0_nextTick, Cond.selects RX0 yX0_nextTick yX0_nextTick, Cond.code yX0_nextTick cX0_nextTick 3 (some .int)]
def wsX0_withBees : List Cond := .code yX0_withBees cX0_withBees 6 (some .long) :: ((wsX0_withBees_r1 ++ wsX0_withBees_r2) ++ wsX00 ++ (vx_atS RX0 196 "java/lang/IndexOutOfBoundsException" ["java/lang/RuntimeException", "java/lang/Exception"]).filter goodWord)
def wsX0_digest_r1 : List Cond := [Cond.constantLong RX0 161 (2083), Cond.constantLong RX0 163 (31), Cond.fieldLink RX0 109 "AfternoonMeter" "afternoonNumber" "I", Cond.fieldLink RX0 97 "AfternoonMeter" "now" "I", Cond.fieldLink RX0 48 "AfternoonMeter" "stickCount" "I", Cond.fieldLink RX0 58 "AfternoonMeter" "napCount" "I", Cond.fieldLink RX0 73 "AfternoonMeter" "beeCount" "I", Cond.fieldLink RX0 88 "AfternoonMeter" "inCup" "I", Cond.fieldLink RX0 106 "AfternoonMeter" "ranOver" "I", Cond.methodLink RX0 115 yX0_awakeMinutes, Cond.instanceMethod yX0_awakeMinutes, Cond.selects RX0 yX0_awakeMinutes yX0_awakeMinutes, Cond.initialized RX0, Cond.code yX0_awakeMinutes cX0_awakeMinutes 3 (some .int), Cond.fieldLink RX0 19 "AfternoonMeter" "napsOver" "[I", Cond.methodLink RX0 165 yX0_longestAwake, Cond.instanceMethod yX0_longestAwake, Cond.selects RX0 yX0_longestAwake yX0_longestAwake, Cond.code yX0_longestAwake cX0_longestAwake 4 (some .int), Cond.methodLink RX0 119 Lib.Math.max.name, Cond.static Lib.Math.max.name, Cond.initialized "java/lang/Math", Cond.code Lib.Math.max.name Lib.Math.max.code 2 (some .int), Cond.methodLink RX0 168 yX0_spiltAtEnd]
def wsX0_digest_r2 : List Cond := [Cond.instanceMethod yX0_spiltAtEnd, Cond.selects RX0 yX0_spiltAtEnd yX0_spiltAtEnd, Cond.code yX0_spiltAtEnd cX0_spiltAtEnd 5 (some .int), Cond.fieldLink RX0 35 "AfternoonMeter" "rate" "I", Cond.methodLink RX0 102 yX0_contentAfter, Cond.instanceMethod yX0_contentAfter, Cond.selects RX0 yX0_contentAfter yX0_contentAfter, Cond.code yX0_contentAfter cX0_contentAfter 4 (some .int), Cond.fieldLink RX0 38 "AfternoonMeter" "sip" "I", Cond.fieldLink RX0 28 "AfternoonMeter" "beesOn" "[I", Cond.methodLink RX0 155 yX0_excess, Cond.instanceMethod yX0_excess, Cond.selects RX0 yX0_excess yX0_excess, Cond.code yX0_excess cX0_excess 2 (some .int), Cond.fieldLink RX0 31 "AfternoonMeter" "room" "I", Cond.methodLink RX0 171 yX0_safeRate, Cond.instanceMethod yX0_safeRate, Cond.selects RX0 yX0_safeRate yX0_safeRate, Cond.code yX0_safeRate cX0_safeRate 2 (some .int), Cond.methodLink RX0 158 yX0_firstSpillWith, Cond.instanceMethod yX0_firstSpillWith, Cond.selects RX0 yX0_firstSpillWith yX0_firstSpillWith, Cond.code yX0_firstSpillWith cX0_firstSpillWith 4 (some .int), Cond.methodLink RX0 174 yX0_bestToGiveUp]
def wsX0_digest_r3 : List Cond := [Cond.instanceMethod yX0_bestToGiveUp, Cond.selects RX0 yX0_bestToGiveUp yX0_bestToGiveUp, Cond.code yX0_bestToGiveUp cX0_bestToGiveUp 5 (some .int), Cond.methodLink RX0 134 yX0_countAlone, Cond.instanceMethod yX0_countAlone, Cond.selects RX0 yX0_countAlone yX0_countAlone, Cond.code yX0_countAlone cX0_countAlone 4 (some .int), Cond.methodLink RX0 201 yX0_covers, Cond.instanceMethod yX0_covers, Cond.selects RX0 yX0_covers yX0_covers, Cond.code yX0_covers cX0_covers 3 (some .boolean), Cond.fieldLink RX0 13 "AfternoonMeter" "napStarts" "[I", Cond.fieldLink RX0 16 "AfternoonMeter" "napEnds" "[I", Cond.methodLink RX0 177 yX0_bestBee, Cond.instanceMethod yX0_bestBee, Cond.selects RX0 yX0_bestBee yX0_bestBee, Cond.code yX0_bestBee cX0_bestBee 5 (some .int), Cond.methodLink RX0 149 Lib.Math.abs.name, Cond.static Lib.Math.abs.name, Cond.code Lib.Math.abs.name Lib.Math.abs.code 1 (some .int), Cond.methodLink RX0 146 yX0_errorOf, Cond.instanceMethod yX0_errorOf, Cond.selects RX0 yX0_errorOf yX0_errorOf, Cond.code yX0_errorOf cX0_errorOf 2 (some .int)]
def wsX0_digest_r4 : List Cond := [Cond.methodLink RX0 143 yX0_measuredBy, Cond.instanceMethod yX0_measuredBy, Cond.selects RX0 yX0_measuredBy yX0_measuredBy, Cond.code yX0_measuredBy cX0_measuredBy 2 (some .int), Cond.fieldLink RX0 22 "AfternoonMeter" "periods" "[I", Cond.methodLink RX0 137 yX0_checkBee, Cond.instanceMethod yX0_checkBee, Cond.selects RX0 yX0_checkBee yX0_checkBee, Cond.code yX0_checkBee cX0_checkBee 2 none, Cond.classLink RX0 192 "java/lang/IndexOutOfBoundsException", Cond.initialized "java/lang/IndexOutOfBoundsException", Cond.methodLink RX0 140 yX0_countTicks, Cond.instanceMethod yX0_countTicks, Cond.selects RX0 yX0_countTicks yX0_countTicks, Cond.code yX0_countTicks cX0_countTicks 4 (some .int), Cond.methodLink RX0 152 yX0_ticksIn, Cond.instanceMethod yX0_ticksIn, Cond.selects RX0 yX0_ticksIn yX0_ticksIn, Cond.code yX0_ticksIn cX0_ticksIn 3 (some .boolean), Cond.methodLink RX0 78 yX0_hasBeatIn, Cond.instanceMethod yX0_hasBeatIn, Cond.selects RX0 yX0_hasBeatIn yX0_hasBeatIn, Cond.code yX0_hasBeatIn cX0_hasBeatIn 4 (some .boolean), Cond.fieldLink RX0 25 "AfternoonMeter" "beats" "[I"]
def wsX0_digest_r5 : List Cond := [Cond.methodLink RX0 180 yX0_withSticks, Cond.instanceMethod yX0_withSticks, Cond.selects RX0 yX0_withSticks yX0_withSticks, Cond.code yX0_withSticks cX0_withSticks 6 (some .long), Cond.methodLink RX0 128 yX0_shadowOf, Cond.instanceMethod yX0_shadowOf, Cond.selects RX0 yX0_shadowOf yX0_shadowOf, Cond.code yX0_shadowOf cX0_shadowOf 3 (some .int), Cond.fieldLink RX0 9 "AfternoonMeter" "heights" "[I", Cond.methodLink RX0 184 yX0_withNaps, Cond.instanceMethod yX0_withNaps, Cond.selects RX0 yX0_withNaps yX0_withNaps, Cond.code yX0_withNaps cX0_withNaps 6 (some .long), Cond.methodLink RX0 187 yX0_withBees, Cond.instanceMethod yX0_withBees, Cond.selects RX0 yX0_withBees yX0_withBees, Cond.code yX0_withBees cX0_withBees 6 (some .long), Cond.methodLink RX0 204 yX0_nextTick, Cond.instanceMethod yX0_nextTick, Cond.selects RX0 yX0_nextTick yX0_nextTick, Cond.code yX0_nextTick cX0_nextTick 3 (some .int)]
def wsX0_digest : List Cond := .code yX0_digest cX0_digest 3 (some .long) :: ((wsX0_digest_r1 ++ (wsX0_digest_r2 ++ (wsX0_digest_r3 ++ (wsX0_digest_r4 ++ wsX0_digest_r5)))) ++ wsX00 ++ (vx_atS RX0 196 "java/lang/IndexOutOfBoundsException" ["java/lang/RuntimeException", "java/lang/Exception"]).filter goodWord)
def wsX1_init : List Cond := .code yX1_init cX1_init 1 none :: ([.methodLink RX1 1 objectInit, .instanceMethod objectInit, .code objectInit ⟨#[0xb1]⟩ 1 none, .arrayClass .int, .fieldLink RX1 9 "AfternoonMeterModel" "height" "[I", .fieldLink RX1 13 "AfternoonMeterModel" "from" "[I", .fieldLink RX1 16 "AfternoonMeterModel" "to" "[I", .fieldLink RX1 19 "AfternoonMeterModel" "cover" "[I", .fieldLink RX1 22 "AfternoonMeterModel" "period" "[I", .fieldLink RX1 25 "AfternoonMeterModel" "beat" "[I", .fieldLink RX1 28 "AfternoonMeterModel" "room" "I", .fieldLink RX1 32 "AfternoonMeterModel" "rate" "I", .fieldLink RX1 35 "AfternoonMeterModel" "sip" "I"] ++ wsX10)
def wsX1_thrown : List Cond := .code yX1_thrown cX1_thrown 1 (some .int) :: ([.fieldLink RX1 38 "AfternoonMeterModel" "thrown" "I"] ++ wsX10)
def wsX1_no : List Cond := .code yX1_no cX1_no 2 (some .int) :: ([.fieldLink RX1 38 "AfternoonMeterModel" "thrown" "I"] ++ wsX10)
def wsX1_ok : List Cond := .code yX1_ok cX1_ok 2 (some .int) :: ([.fieldLink RX1 38 "AfternoonMeterModel" "thrown" "I"] ++ wsX10)
def wsX1_isIn : List Cond := .code yX1_isIn cX1_isIn 3 (some .boolean) :: ([])
def wsX1_isStick : List Cond := .code yX1_isStick cX1_isStick 2 (some .boolean) :: ([.fieldLink RX1 41 "AfternoonMeterModel" "sticks" "I", .methodLink RX1 44 yX1_isIn, .static yX1_isIn, .initialized RX1, .code yX1_isIn cX1_isIn 3 (some .boolean)] ++ wsX10)
def wsX1_isNap : List Cond := .code yX1_isNap cX1_isNap 2 (some .boolean) :: ([.fieldLink RX1 48 "AfternoonMeterModel" "naps" "I", .methodLink RX1 44 yX1_isIn, .static yX1_isIn, .initialized RX1, .code yX1_isIn cX1_isIn 3 (some .boolean)] ++ wsX10)
def wsX1_isBee : List Cond := .code yX1_isBee cX1_isBee 2 (some .boolean) :: ([.fieldLink RX1 51 "AfternoonMeterModel" "bees" "I", .methodLink RX1 44 yX1_isIn, .static yX1_isIn, .initialized RX1, .code yX1_isIn cX1_isIn 3 (some .boolean)] ++ wsX10)
def wsX1_isMinute : List Cond := .code yX1_isMinute cX1_isMinute 1 (some .boolean) :: ([.methodLink RX1 44 yX1_isIn, .static yX1_isIn, .initialized RX1, .code yX1_isIn cX1_isIn 3 (some .boolean)])
def wsX1_lay : List Cond := .code yX1_lay cX1_lay 4 none :: ([.fieldLink RX1 13 "AfternoonMeterModel" "from" "[I", .fieldLink RX1 16 "AfternoonMeterModel" "to" "[I", .fieldLink RX1 19 "AfternoonMeterModel" "cover" "[I"] ++ wsX10)
def wsX1_isAwake : List Cond := .code yX1_isAwake cX1_isAwake 2 (some .boolean) :: ([.fieldLink RX1 19 "AfternoonMeterModel" "cover" "[I"] ++ wsX10)
def wsX1_awake : List Cond := .code yX1_awake cX1_awake 4 (some .int) :: ([.methodLink RX1 54 yX1_isAwake, .instanceMethod yX1_isAwake, .selects RX1 yX1_isAwake yX1_isAwake, .initialized RX1, .code yX1_isAwake cX1_isAwake 2 (some .boolean), .fieldLink RX1 19 "AfternoonMeterModel" "cover" "[I"] ++ wsX10)
def wsX1_longest : List Cond := .code yX1_longest cX1_longest 4 (some .int) :: ([.methodLink RX1 58 Lib.Math.max.name, .static Lib.Math.max.name, .initialized "java/lang/Math", .code Lib.Math.max.name Lib.Math.max.code 2 (some .int), .methodLink RX1 54 yX1_isAwake, .instanceMethod yX1_isAwake, .selects RX1 yX1_isAwake yX1_isAwake, .initialized RX1, .code yX1_isAwake cX1_isAwake 2 (some .boolean), .fieldLink RX1 19 "AfternoonMeterModel" "cover" "[I"] ++ wsX10)
def wsX1_alone : List Cond := .code yX1_alone cX1_alone 4 (some .int) :: ([.fieldLink RX1 13 "AfternoonMeterModel" "from" "[I", .fieldLink RX1 16 "AfternoonMeterModel" "to" "[I", .fieldLink RX1 19 "AfternoonMeterModel" "cover" "[I"] ++ wsX10)
def wsX1_ticks : List Cond := .code yX1_ticks cX1_ticks 3 (some .boolean) :: ([.fieldLink RX1 22 "AfternoonMeterModel" "period" "[I", .fieldLink RX1 25 "AfternoonMeterModel" "beat" "[I", .methodLink RX1 54 yX1_isAwake, .instanceMethod yX1_isAwake, .selects RX1 yX1_isAwake yX1_isAwake, .initialized RX1, .code yX1_isAwake cX1_isAwake 2 (some .boolean), .fieldLink RX1 19 "AfternoonMeterModel" "cover" "[I"] ++ wsX10)
def wsX1_ticked : List Cond := .code yX1_ticked cX1_ticked 4 (some .int) :: ([.fieldLink RX1 64 "AfternoonMeterModel" "minute" "I", .methodLink RX1 67 yX1_ticks, .instanceMethod yX1_ticks, .selects RX1 yX1_ticks yX1_ticks, .initialized RX1, .code yX1_ticks cX1_ticks 3 (some .boolean), .fieldLink RX1 22 "AfternoonMeterModel" "period" "[I", .fieldLink RX1 25 "AfternoonMeterModel" "beat" "[I", .methodLink RX1 54 yX1_isAwake, .instanceMethod yX1_isAwake, .selects RX1 yX1_isAwake yX1_isAwake, .code yX1_isAwake cX1_isAwake 2 (some .boolean), .fieldLink RX1 19 "AfternoonMeterModel" "cover" "[I"] ++ wsX10)
def wsX1_next : List Cond := .code yX1_next cX1_next 3 (some .int) :: ([.fieldLink RX1 64 "AfternoonMeterModel" "minute" "I", .methodLink RX1 67 yX1_ticks, .instanceMethod yX1_ticks, .selects RX1 yX1_ticks yX1_ticks, .initialized RX1, .code yX1_ticks cX1_ticks 3 (some .boolean), .fieldLink RX1 22 "AfternoonMeterModel" "period" "[I", .fieldLink RX1 25 "AfternoonMeterModel" "beat" "[I", .methodLink RX1 54 yX1_isAwake, .instanceMethod yX1_isAwake, .selects RX1 yX1_isAwake yX1_isAwake, .code yX1_isAwake cX1_isAwake 2 (some .boolean), .fieldLink RX1 19 "AfternoonMeterModel" "cover" "[I"] ++ wsX10)
def wsX1_error : List Cond := .code yX1_error cX1_error 2 (some .int) :: ([.fieldLink RX1 22 "AfternoonMeterModel" "period" "[I", .fieldLink RX1 64 "AfternoonMeterModel" "minute" "I", .methodLink RX1 71 yX1_ticked, .instanceMethod yX1_ticked, .selects RX1 yX1_ticked yX1_ticked, .initialized RX1, .code yX1_ticked cX1_ticked 4 (some .int), .methodLink RX1 67 yX1_ticks, .instanceMethod yX1_ticks, .selects RX1 yX1_ticks yX1_ticks, .code yX1_ticks cX1_ticks 3 (some .boolean), .fieldLink RX1 25 "AfternoonMeterModel" "beat" "[I", .methodLink RX1 54 yX1_isAwake, .instanceMethod yX1_isAwake, .selects RX1 yX1_isAwake yX1_isAwake, .code yX1_isAwake cX1_isAwake 2 (some .boolean), .fieldLink RX1 19 "AfternoonMeterModel" "cover" "[I", .methodLink RX1 75 yX1_awake, .instanceMethod yX1_awake, .selects RX1 yX1_awake yX1_awake, .code yX1_awake cX1_awake 4 (some .int)] ++ wsX10)
def wsX1_best_r1 : List Cond := [Cond.fieldLink RX1 51 "AfternoonMeterModel" "bees" "I", Cond.methodLink RX1 81 Lib.Math.abs.name, Cond.static Lib.Math.abs.name, Cond.initialized "java/lang/Math", Cond.code Lib.Math.abs.name Lib.Math.abs.code 1 (some .int), Cond.methodLink RX1 78 yX1_error, Cond.instanceMethod yX1_error, Cond.selects RX1 yX1_error yX1_error, Cond.initialized RX1, Cond.code yX1_error cX1_error 2 (some .int), Cond.fieldLink RX1 22 "AfternoonMeterModel" "period" "[I", Cond.fieldLink RX1 64 "AfternoonMeterModel" "minute" "I", Cond.methodLink RX1 71 yX1_ticked, Cond.instanceMethod yX1_ticked, Cond.selects RX1 yX1_ticked yX1_ticked, Cond.code yX1_ticked cX1_ticked 4 (some .int), Cond.methodLink RX1 67 yX1_ticks, Cond.instanceMethod yX1_ticks, Cond.selects RX1 yX1_ticks yX1_ticks, Cond.code yX1_ticks cX1_ticks 3 (some .boolean), Cond.fieldLink RX1 25 "AfternoonMeterModel" "beat" "[I", Cond.methodLink RX1 54 yX1_isAwake, Cond.instanceMethod yX1_isAwake, Cond.selects RX1 yX1_isAwake yX1_isAwake]
def wsX1_best_r2 : List Cond := [Cond.code yX1_isAwake cX1_isAwake 2 (some .boolean), Cond.fieldLink RX1 19 "AfternoonMeterModel" "cover" "[I", Cond.methodLink RX1 75 yX1_awake, Cond.instanceMethod yX1_awake, Cond.selects RX1 yX1_awake yX1_awake, Cond.code yX1_awake cX1_awake 4 (some .int)]
def wsX1_best : List Cond := .code yX1_best cX1_best 3 (some .int) :: ((wsX1_best_r1 ++ wsX1_best_r2) ++ wsX10)
def wsX1_poured : List Cond := .code yX1_poured cX1_poured 6 (some .int) :: ([.fieldLink RX1 51 "AfternoonMeterModel" "bees" "I", .fieldLink RX1 35 "AfternoonMeterModel" "sip" "I", .methodLink RX1 84 Lib.Math.min.name, .static Lib.Math.min.name, .initialized "java/lang/Math", .code Lib.Math.min.name Lib.Math.min.code 2 (some .int), .methodLink RX1 54 yX1_isAwake, .instanceMethod yX1_isAwake, .selects RX1 yX1_isAwake yX1_isAwake, .initialized RX1, .code yX1_isAwake cX1_isAwake 2 (some .boolean), .fieldLink RX1 19 "AfternoonMeterModel" "cover" "[I", .methodLink RX1 67 yX1_ticks, .instanceMethod yX1_ticks, .selects RX1 yX1_ticks yX1_ticks, .code yX1_ticks cX1_ticks 3 (some .boolean), .fieldLink RX1 22 "AfternoonMeterModel" "period" "[I", .fieldLink RX1 25 "AfternoonMeterModel" "beat" "[I"] ++ wsX10)
def wsX1_go_r1 : List Cond := [Cond.fieldLink RX1 64 "AfternoonMeterModel" "minute" "I", Cond.fieldLink RX1 87 "AfternoonMeterModel" "tea" "I", Cond.fieldLink RX1 32 "AfternoonMeterModel" "rate" "I", Cond.fieldLink RX1 28 "AfternoonMeterModel" "room" "I", Cond.methodLink RX1 84 Lib.Math.min.name, Cond.static Lib.Math.min.name, Cond.initialized "java/lang/Math", Cond.code Lib.Math.min.name Lib.Math.min.code 2 (some .int), Cond.fieldLink RX1 94 "AfternoonMeterModel" "spilt" "I", Cond.methodLink RX1 90 yX1_poured, Cond.instanceMethod yX1_poured, Cond.selects RX1 yX1_poured yX1_poured, Cond.initialized RX1, Cond.code yX1_poured cX1_poured 6 (some .int), Cond.fieldLink RX1 51 "AfternoonMeterModel" "bees" "I", Cond.fieldLink RX1 35 "AfternoonMeterModel" "sip" "I", Cond.methodLink RX1 54 yX1_isAwake, Cond.instanceMethod yX1_isAwake, Cond.selects RX1 yX1_isAwake yX1_isAwake, Cond.code yX1_isAwake cX1_isAwake 2 (some .boolean), Cond.fieldLink RX1 19 "AfternoonMeterModel" "cover" "[I", Cond.methodLink RX1 67 yX1_ticks, Cond.instanceMethod yX1_ticks, Cond.selects RX1 yX1_ticks yX1_ticks]
def wsX1_go_r2 : List Cond := [Cond.code yX1_ticks cX1_ticks 3 (some .boolean), Cond.fieldLink RX1 22 "AfternoonMeterModel" "period" "[I", Cond.fieldLink RX1 25 "AfternoonMeterModel" "beat" "[I"]
def wsX1_go : List Cond := .code yX1_go cX1_go 5 (some .int) :: ((wsX1_go_r1 ++ wsX1_go_r2) ++ wsX10)
def wsX1_spill_r1 : List Cond := [Cond.fieldLink RX1 87 "AfternoonMeterModel" "tea" "I", Cond.fieldLink RX1 64 "AfternoonMeterModel" "minute" "I", Cond.fieldLink RX1 28 "AfternoonMeterModel" "room" "I", Cond.methodLink RX1 90 yX1_poured, Cond.instanceMethod yX1_poured, Cond.selects RX1 yX1_poured yX1_poured, Cond.initialized RX1, Cond.code yX1_poured cX1_poured 6 (some .int), Cond.fieldLink RX1 51 "AfternoonMeterModel" "bees" "I", Cond.fieldLink RX1 35 "AfternoonMeterModel" "sip" "I", Cond.methodLink RX1 84 Lib.Math.min.name, Cond.static Lib.Math.min.name, Cond.initialized "java/lang/Math", Cond.code Lib.Math.min.name Lib.Math.min.code 2 (some .int), Cond.methodLink RX1 54 yX1_isAwake, Cond.instanceMethod yX1_isAwake, Cond.selects RX1 yX1_isAwake yX1_isAwake, Cond.code yX1_isAwake cX1_isAwake 2 (some .boolean), Cond.fieldLink RX1 19 "AfternoonMeterModel" "cover" "[I", Cond.methodLink RX1 67 yX1_ticks, Cond.instanceMethod yX1_ticks, Cond.selects RX1 yX1_ticks yX1_ticks, Cond.code yX1_ticks cX1_ticks 3 (some .boolean), Cond.fieldLink RX1 22 "AfternoonMeterModel" "period" "[I"]
def wsX1_spill_r2 : List Cond := [Cond.fieldLink RX1 25 "AfternoonMeterModel" "beat" "[I"]
def wsX1_spill : List Cond := .code yX1_spill cX1_spill 4 (some .int) :: ((wsX1_spill_r1 ++ wsX1_spill_r2) ++ wsX10)
def wsX1_atEnd_r1 : List Cond := [Cond.fieldLink RX1 87 "AfternoonMeterModel" "tea" "I", Cond.fieldLink RX1 94 "AfternoonMeterModel" "spilt" "I", Cond.fieldLink RX1 64 "AfternoonMeterModel" "minute" "I", Cond.fieldLink RX1 32 "AfternoonMeterModel" "rate" "I", Cond.fieldLink RX1 28 "AfternoonMeterModel" "room" "I", Cond.methodLink RX1 84 Lib.Math.min.name, Cond.static Lib.Math.min.name, Cond.initialized "java/lang/Math", Cond.code Lib.Math.min.name Lib.Math.min.code 2 (some .int), Cond.methodLink RX1 90 yX1_poured, Cond.instanceMethod yX1_poured, Cond.selects RX1 yX1_poured yX1_poured, Cond.initialized RX1, Cond.code yX1_poured cX1_poured 6 (some .int), Cond.fieldLink RX1 51 "AfternoonMeterModel" "bees" "I", Cond.fieldLink RX1 35 "AfternoonMeterModel" "sip" "I", Cond.methodLink RX1 54 yX1_isAwake, Cond.instanceMethod yX1_isAwake, Cond.selects RX1 yX1_isAwake yX1_isAwake, Cond.code yX1_isAwake cX1_isAwake 2 (some .boolean), Cond.fieldLink RX1 19 "AfternoonMeterModel" "cover" "[I", Cond.methodLink RX1 67 yX1_ticks, Cond.instanceMethod yX1_ticks, Cond.selects RX1 yX1_ticks yX1_ticks]
def wsX1_atEnd_r2 : List Cond := [Cond.code yX1_ticks cX1_ticks 3 (some .boolean), Cond.fieldLink RX1 22 "AfternoonMeterModel" "period" "[I", Cond.fieldLink RX1 25 "AfternoonMeterModel" "beat" "[I"]
def wsX1_atEnd : List Cond := .code yX1_atEnd cX1_atEnd 5 (some .int) :: ((wsX1_atEnd_r1 ++ wsX1_atEnd_r2) ++ wsX10)
def wsX1_safest_r1 : List Cond := [Cond.methodLink RX1 97 yX1_spill, Cond.instanceMethod yX1_spill, Cond.selects RX1 yX1_spill yX1_spill, Cond.initialized RX1, Cond.code yX1_spill cX1_spill 4 (some .int), Cond.fieldLink RX1 87 "AfternoonMeterModel" "tea" "I", Cond.fieldLink RX1 64 "AfternoonMeterModel" "minute" "I", Cond.fieldLink RX1 28 "AfternoonMeterModel" "room" "I", Cond.methodLink RX1 90 yX1_poured, Cond.instanceMethod yX1_poured, Cond.selects RX1 yX1_poured yX1_poured, Cond.code yX1_poured cX1_poured 6 (some .int), Cond.fieldLink RX1 51 "AfternoonMeterModel" "bees" "I", Cond.fieldLink RX1 35 "AfternoonMeterModel" "sip" "I", Cond.methodLink RX1 84 Lib.Math.min.name, Cond.static Lib.Math.min.name, Cond.initialized "java/lang/Math", Cond.code Lib.Math.min.name Lib.Math.min.code 2 (some .int), Cond.methodLink RX1 54 yX1_isAwake, Cond.instanceMethod yX1_isAwake, Cond.selects RX1 yX1_isAwake yX1_isAwake, Cond.code yX1_isAwake cX1_isAwake 2 (some .boolean), Cond.fieldLink RX1 19 "AfternoonMeterModel" "cover" "[I", Cond.methodLink RX1 67 yX1_ticks]
def wsX1_safest_r2 : List Cond := [Cond.instanceMethod yX1_ticks, Cond.selects RX1 yX1_ticks yX1_ticks, Cond.code yX1_ticks cX1_ticks 3 (some .boolean), Cond.fieldLink RX1 22 "AfternoonMeterModel" "period" "[I", Cond.fieldLink RX1 25 "AfternoonMeterModel" "beat" "[I"]
def wsX1_safest : List Cond := .code yX1_safest cX1_safest 2 (some .int) :: ((wsX1_safest_r1 ++ wsX1_safest_r2) ++ wsX10)
def wsX1_addStick : List Cond := .code yX1_addStick cX1_addStick 2 (some .int) :: ([.fieldLink RX1 38 "AfternoonMeterModel" "thrown" "I", .fieldLink RX1 41 "AfternoonMeterModel" "sticks" "I", .fieldLink RX1 9 "AfternoonMeterModel" "height" "[I", .methodLink RX1 44 yX1_isIn, .static yX1_isIn, .initialized RX1, .code yX1_isIn cX1_isIn 3 (some .boolean), .methodLink RX1 100 yX1_no, .instanceMethod yX1_no, .selects RX1 yX1_no yX1_no, .code yX1_no cX1_no 2 (some .int)] ++ wsX10)
def wsX1_addNap : List Cond := .code yX1_addNap cX1_addNap 3 (some .int) :: ([.fieldLink RX1 38 "AfternoonMeterModel" "thrown" "I", .fieldLink RX1 48 "AfternoonMeterModel" "naps" "I", .fieldLink RX1 13 "AfternoonMeterModel" "from" "[I", .fieldLink RX1 16 "AfternoonMeterModel" "to" "[I", .methodLink RX1 100 yX1_no, .instanceMethod yX1_no, .selects RX1 yX1_no yX1_no, .initialized RX1, .code yX1_no cX1_no 2 (some .int), .methodLink RX1 103 yX1_lay, .instanceMethod yX1_lay, .selects RX1 yX1_lay yX1_lay, .code yX1_lay cX1_lay 4 none, .fieldLink RX1 19 "AfternoonMeterModel" "cover" "[I"] ++ wsX10)
def wsX1_giveUp : List Cond := .code yX1_giveUp cX1_giveUp 3 (some .int) :: ([.fieldLink RX1 38 "AfternoonMeterModel" "thrown" "I", .fieldLink RX1 48 "AfternoonMeterModel" "naps" "I", .fieldLink RX1 13 "AfternoonMeterModel" "from" "[I", .fieldLink RX1 16 "AfternoonMeterModel" "to" "[I", .methodLink RX1 107 yX1_isNap, .instanceMethod yX1_isNap, .selects RX1 yX1_isNap yX1_isNap, .initialized RX1, .code yX1_isNap cX1_isNap 2 (some .boolean), .methodLink RX1 44 yX1_isIn, .static yX1_isIn, .code yX1_isIn cX1_isIn 3 (some .boolean), .methodLink RX1 100 yX1_no, .instanceMethod yX1_no, .selects RX1 yX1_no yX1_no, .code yX1_no cX1_no 2 (some .int), .methodLink RX1 103 yX1_lay, .instanceMethod yX1_lay, .selects RX1 yX1_lay yX1_lay, .code yX1_lay cX1_lay 4 none, .fieldLink RX1 19 "AfternoonMeterModel" "cover" "[I"] ++ wsX10)
def wsX1_addBee : List Cond := .code yX1_addBee cX1_addBee 3 (some .int) :: ([.fieldLink RX1 38 "AfternoonMeterModel" "thrown" "I", .fieldLink RX1 51 "AfternoonMeterModel" "bees" "I", .fieldLink RX1 22 "AfternoonMeterModel" "period" "[I", .fieldLink RX1 25 "AfternoonMeterModel" "beat" "[I", .methodLink RX1 44 yX1_isIn, .static yX1_isIn, .initialized RX1, .code yX1_isIn cX1_isIn 3 (some .boolean), .methodLink RX1 100 yX1_no, .instanceMethod yX1_no, .selects RX1 yX1_no yX1_no, .code yX1_no cX1_no 2 (some .int)] ++ wsX10)
def wsX1_setTea : List Cond := .code yX1_setTea cX1_setTea 5 (some .int) :: ([.fieldLink RX1 38 "AfternoonMeterModel" "thrown" "I", .fieldLink RX1 28 "AfternoonMeterModel" "room" "I", .fieldLink RX1 32 "AfternoonMeterModel" "rate" "I", .fieldLink RX1 35 "AfternoonMeterModel" "sip" "I", .fieldLink RX1 87 "AfternoonMeterModel" "tea" "I", .methodLink RX1 58 Lib.Math.max.name, .static Lib.Math.max.name, .initialized "java/lang/Math", .code Lib.Math.max.name Lib.Math.max.code 2 (some .int), .fieldLink RX1 94 "AfternoonMeterModel" "spilt" "I", .methodLink RX1 44 yX1_isIn, .static yX1_isIn, .initialized RX1, .code yX1_isIn cX1_isIn 3 (some .boolean), .methodLink RX1 100 yX1_no, .instanceMethod yX1_no, .selects RX1 yX1_no yX1_no, .code yX1_no cX1_no 2 (some .int)] ++ wsX10)
def wsX1_pass_r1 : List Cond := [Cond.fieldLink RX1 38 "AfternoonMeterModel" "thrown" "I", Cond.fieldLink RX1 64 "AfternoonMeterModel" "minute" "I", Cond.methodLink RX1 44 yX1_isIn, Cond.static yX1_isIn, Cond.initialized RX1, Cond.code yX1_isIn cX1_isIn 3 (some .boolean), Cond.methodLink RX1 100 yX1_no, Cond.instanceMethod yX1_no, Cond.selects RX1 yX1_no yX1_no, Cond.code yX1_no cX1_no 2 (some .int), Cond.methodLink RX1 110 yX1_go, Cond.instanceMethod yX1_go, Cond.selects RX1 yX1_go yX1_go, Cond.code yX1_go cX1_go 5 (some .int), Cond.fieldLink RX1 87 "AfternoonMeterModel" "tea" "I", Cond.fieldLink RX1 32 "AfternoonMeterModel" "rate" "I", Cond.fieldLink RX1 28 "AfternoonMeterModel" "room" "I", Cond.methodLink RX1 84 Lib.Math.min.name, Cond.static Lib.Math.min.name, Cond.initialized "java/lang/Math", Cond.code Lib.Math.min.name Lib.Math.min.code 2 (some .int), Cond.fieldLink RX1 94 "AfternoonMeterModel" "spilt" "I", Cond.methodLink RX1 90 yX1_poured, Cond.instanceMethod yX1_poured]
def wsX1_pass_r2 : List Cond := [Cond.selects RX1 yX1_poured yX1_poured, Cond.code yX1_poured cX1_poured 6 (some .int), Cond.fieldLink RX1 51 "AfternoonMeterModel" "bees" "I", Cond.fieldLink RX1 35 "AfternoonMeterModel" "sip" "I", Cond.methodLink RX1 54 yX1_isAwake, Cond.instanceMethod yX1_isAwake, Cond.selects RX1 yX1_isAwake yX1_isAwake, Cond.code yX1_isAwake cX1_isAwake 2 (some .boolean), Cond.fieldLink RX1 19 "AfternoonMeterModel" "cover" "[I", Cond.methodLink RX1 67 yX1_ticks, Cond.instanceMethod yX1_ticks, Cond.selects RX1 yX1_ticks yX1_ticks, Cond.code yX1_ticks cX1_ticks 3 (some .boolean), Cond.fieldLink RX1 22 "AfternoonMeterModel" "period" "[I", Cond.fieldLink RX1 25 "AfternoonMeterModel" "beat" "[I"]
def wsX1_pass : List Cond := .code yX1_pass cX1_pass 2 (some .int) :: ((wsX1_pass_r1 ++ wsX1_pass_r2) ++ wsX10)
def wsX1_begin : List Cond := .code yX1_begin cX1_begin 1 (some .int) :: ([.fieldLink RX1 38 "AfternoonMeterModel" "thrown" "I", .fieldLink RX1 113 "AfternoonMeterModel" "afternoon" "I", .fieldLink RX1 64 "AfternoonMeterModel" "minute" "I", .fieldLink RX1 87 "AfternoonMeterModel" "tea" "I", .fieldLink RX1 94 "AfternoonMeterModel" "spilt" "I"] ++ wsX10)
def wsX1_afternoon : List Cond := .code yX1_afternoon cX1_afternoon 1 (some .int) :: ([.fieldLink RX1 113 "AfternoonMeterModel" "afternoon" "I", .methodLink RX1 116 yX1_ok, .instanceMethod yX1_ok, .selects RX1 yX1_ok yX1_ok, .initialized RX1, .code yX1_ok cX1_ok 2 (some .int), .fieldLink RX1 38 "AfternoonMeterModel" "thrown" "I"] ++ wsX10)
def wsX1_minute : List Cond := .code yX1_minute cX1_minute 1 (some .int) :: ([.fieldLink RX1 64 "AfternoonMeterModel" "minute" "I", .methodLink RX1 116 yX1_ok, .instanceMethod yX1_ok, .selects RX1 yX1_ok yX1_ok, .initialized RX1, .code yX1_ok cX1_ok 2 (some .int), .fieldLink RX1 38 "AfternoonMeterModel" "thrown" "I"] ++ wsX10)
def wsX1_isAsleep : List Cond := .code yX1_isAsleep cX1_isAsleep 2 (some .boolean) :: ([.fieldLink RX1 38 "AfternoonMeterModel" "thrown" "I", .methodLink RX1 119 yX1_isMinute, .static yX1_isMinute, .initialized RX1, .code yX1_isMinute cX1_isMinute 1 (some .boolean), .methodLink RX1 44 yX1_isIn, .static yX1_isIn, .code yX1_isIn cX1_isIn 3 (some .boolean), .methodLink RX1 54 yX1_isAwake, .instanceMethod yX1_isAwake, .selects RX1 yX1_isAwake yX1_isAwake, .code yX1_isAwake cX1_isAwake 2 (some .boolean), .fieldLink RX1 19 "AfternoonMeterModel" "cover" "[I"] ++ wsX10)
def wsX1_awakeMinutes : List Cond := .code yX1_awakeMinutes cX1_awakeMinutes 1 (some .int) :: ([.fieldLink RX1 64 "AfternoonMeterModel" "minute" "I", .methodLink RX1 75 yX1_awake, .instanceMethod yX1_awake, .selects RX1 yX1_awake yX1_awake, .initialized RX1, .code yX1_awake cX1_awake 4 (some .int), .methodLink RX1 54 yX1_isAwake, .instanceMethod yX1_isAwake, .selects RX1 yX1_isAwake yX1_isAwake, .code yX1_isAwake cX1_isAwake 2 (some .boolean), .fieldLink RX1 19 "AfternoonMeterModel" "cover" "[I", .methodLink RX1 116 yX1_ok, .instanceMethod yX1_ok, .selects RX1 yX1_ok yX1_ok, .code yX1_ok cX1_ok 2 (some .int), .fieldLink RX1 38 "AfternoonMeterModel" "thrown" "I"] ++ wsX10)
def wsX1_sleptMinutes : List Cond := .code yX1_sleptMinutes cX1_sleptMinutes 1 (some .int) :: ([.fieldLink RX1 64 "AfternoonMeterModel" "minute" "I", .methodLink RX1 75 yX1_awake, .instanceMethod yX1_awake, .selects RX1 yX1_awake yX1_awake, .initialized RX1, .code yX1_awake cX1_awake 4 (some .int), .methodLink RX1 54 yX1_isAwake, .instanceMethod yX1_isAwake, .selects RX1 yX1_isAwake yX1_isAwake, .code yX1_isAwake cX1_isAwake 2 (some .boolean), .fieldLink RX1 19 "AfternoonMeterModel" "cover" "[I", .methodLink RX1 116 yX1_ok, .instanceMethod yX1_ok, .selects RX1 yX1_ok yX1_ok, .code yX1_ok cX1_ok 2 (some .int), .fieldLink RX1 38 "AfternoonMeterModel" "thrown" "I"] ++ wsX10)
def wsX1_longestAwake : List Cond := .code yX1_longestAwake cX1_longestAwake 1 (some .int) :: ([.methodLink RX1 122 yX1_longest, .instanceMethod yX1_longest, .selects RX1 yX1_longest yX1_longest, .initialized RX1, .code yX1_longest cX1_longest 4 (some .int), .methodLink RX1 58 Lib.Math.max.name, .static Lib.Math.max.name, .initialized "java/lang/Math", .code Lib.Math.max.name Lib.Math.max.code 2 (some .int), .methodLink RX1 54 yX1_isAwake, .instanceMethod yX1_isAwake, .selects RX1 yX1_isAwake yX1_isAwake, .code yX1_isAwake cX1_isAwake 2 (some .boolean), .fieldLink RX1 19 "AfternoonMeterModel" "cover" "[I", .methodLink RX1 116 yX1_ok, .instanceMethod yX1_ok, .selects RX1 yX1_ok yX1_ok, .code yX1_ok cX1_ok 2 (some .int), .fieldLink RX1 38 "AfternoonMeterModel" "thrown" "I"] ++ wsX10)
def wsX1_shadow : List Cond := .code yX1_shadow cX1_shadow 3 (some .int) :: ([.fieldLink RX1 9 "AfternoonMeterModel" "height" "[I"] ++ wsX10)
def wsX1_sticks : List Cond := .code yX1_sticks cX1_sticks 1 (some .int) :: ([.fieldLink RX1 41 "AfternoonMeterModel" "sticks" "I", .methodLink RX1 116 yX1_ok, .instanceMethod yX1_ok, .selects RX1 yX1_ok yX1_ok, .initialized RX1, .code yX1_ok cX1_ok 2 (some .int), .fieldLink RX1 38 "AfternoonMeterModel" "thrown" "I"] ++ wsX10)
def wsX1_shadowAt : List Cond := .code yX1_shadowAt cX1_shadowAt 3 (some .int) :: ([.fieldLink RX1 38 "AfternoonMeterModel" "thrown" "I", .methodLink RX1 126 yX1_isStick, .instanceMethod yX1_isStick, .selects RX1 yX1_isStick yX1_isStick, .initialized RX1, .code yX1_isStick cX1_isStick 2 (some .boolean), .fieldLink RX1 41 "AfternoonMeterModel" "sticks" "I", .methodLink RX1 44 yX1_isIn, .static yX1_isIn, .code yX1_isIn cX1_isIn 3 (some .boolean), .methodLink RX1 100 yX1_no, .instanceMethod yX1_no, .selects RX1 yX1_no yX1_no, .code yX1_no cX1_no 2 (some .int), .methodLink RX1 119 yX1_isMinute, .static yX1_isMinute, .code yX1_isMinute cX1_isMinute 1 (some .boolean), .methodLink RX1 129 yX1_shadow, .instanceMethod yX1_shadow, .selects RX1 yX1_shadow yX1_shadow, .code yX1_shadow cX1_shadow 3 (some .int), .fieldLink RX1 9 "AfternoonMeterModel" "height" "[I"] ++ wsX10)
def wsX1_minuteOfShadow : List Cond := .code yX1_minuteOfShadow cX1_minuteOfShadow 4 (some .int) :: ([.fieldLink RX1 38 "AfternoonMeterModel" "thrown" "I", .methodLink RX1 126 yX1_isStick, .instanceMethod yX1_isStick, .selects RX1 yX1_isStick yX1_isStick, .initialized RX1, .code yX1_isStick cX1_isStick 2 (some .boolean), .fieldLink RX1 41 "AfternoonMeterModel" "sticks" "I", .methodLink RX1 44 yX1_isIn, .static yX1_isIn, .code yX1_isIn cX1_isIn 3 (some .boolean), .methodLink RX1 100 yX1_no, .instanceMethod yX1_no, .selects RX1 yX1_no yX1_no, .code yX1_no cX1_no 2 (some .int), .methodLink RX1 129 yX1_shadow, .instanceMethod yX1_shadow, .selects RX1 yX1_shadow yX1_shadow, .code yX1_shadow cX1_shadow 3 (some .int), .fieldLink RX1 9 "AfternoonMeterModel" "height" "[I"] ++ wsX10)
def wsX1_allShadows : List Cond := .code yX1_allShadows cX1_allShadows 4 (some .int) :: ([.fieldLink RX1 38 "AfternoonMeterModel" "thrown" "I", .fieldLink RX1 41 "AfternoonMeterModel" "sticks" "I", .methodLink RX1 119 yX1_isMinute, .static yX1_isMinute, .initialized RX1, .code yX1_isMinute cX1_isMinute 1 (some .boolean), .methodLink RX1 44 yX1_isIn, .static yX1_isIn, .code yX1_isIn cX1_isIn 3 (some .boolean), .methodLink RX1 100 yX1_no, .instanceMethod yX1_no, .selects RX1 yX1_no yX1_no, .code yX1_no cX1_no 2 (some .int), .methodLink RX1 129 yX1_shadow, .instanceMethod yX1_shadow, .selects RX1 yX1_shadow yX1_shadow, .code yX1_shadow cX1_shadow 3 (some .int), .fieldLink RX1 9 "AfternoonMeterModel" "height" "[I"] ++ wsX10)
def wsX1_naps : List Cond := .code yX1_naps cX1_naps 1 (some .int) :: ([.fieldLink RX1 48 "AfternoonMeterModel" "naps" "I", .methodLink RX1 116 yX1_ok, .instanceMethod yX1_ok, .selects RX1 yX1_ok yX1_ok, .initialized RX1, .code yX1_ok cX1_ok 2 (some .int), .fieldLink RX1 38 "AfternoonMeterModel" "thrown" "I"] ++ wsX10)
def wsX1_startOf : List Cond := .code yX1_startOf cX1_startOf 2 (some .int) :: ([.fieldLink RX1 38 "AfternoonMeterModel" "thrown" "I", .fieldLink RX1 13 "AfternoonMeterModel" "from" "[I", .methodLink RX1 107 yX1_isNap, .instanceMethod yX1_isNap, .selects RX1 yX1_isNap yX1_isNap, .initialized RX1, .code yX1_isNap cX1_isNap 2 (some .boolean), .fieldLink RX1 48 "AfternoonMeterModel" "naps" "I", .methodLink RX1 44 yX1_isIn, .static yX1_isIn, .code yX1_isIn cX1_isIn 3 (some .boolean), .methodLink RX1 100 yX1_no, .instanceMethod yX1_no, .selects RX1 yX1_no yX1_no, .code yX1_no cX1_no 2 (some .int)] ++ wsX10)
def wsX1_lengthOf : List Cond := .code yX1_lengthOf cX1_lengthOf 2 (some .int) :: ([.fieldLink RX1 38 "AfternoonMeterModel" "thrown" "I", .fieldLink RX1 16 "AfternoonMeterModel" "to" "[I", .fieldLink RX1 13 "AfternoonMeterModel" "from" "[I", .methodLink RX1 107 yX1_isNap, .instanceMethod yX1_isNap, .selects RX1 yX1_isNap yX1_isNap, .initialized RX1, .code yX1_isNap cX1_isNap 2 (some .boolean), .fieldLink RX1 48 "AfternoonMeterModel" "naps" "I", .methodLink RX1 44 yX1_isIn, .static yX1_isIn, .code yX1_isIn cX1_isIn 3 (some .boolean), .methodLink RX1 100 yX1_no, .instanceMethod yX1_no, .selects RX1 yX1_no yX1_no, .code yX1_no cX1_no 2 (some .int)] ++ wsX10)
def wsX1_napsAt : List Cond := .code yX1_napsAt cX1_napsAt 2 (some .int) :: ([.fieldLink RX1 38 "AfternoonMeterModel" "thrown" "I", .fieldLink RX1 19 "AfternoonMeterModel" "cover" "[I", .methodLink RX1 119 yX1_isMinute, .static yX1_isMinute, .initialized RX1, .code yX1_isMinute cX1_isMinute 1 (some .boolean), .methodLink RX1 44 yX1_isIn, .static yX1_isIn, .code yX1_isIn cX1_isIn 3 (some .boolean), .methodLink RX1 100 yX1_no, .instanceMethod yX1_no, .selects RX1 yX1_no yX1_no, .code yX1_no cX1_no 2 (some .int)] ++ wsX10)
def wsX1_minutesAlone : List Cond := .code yX1_minutesAlone cX1_minutesAlone 2 (some .int) :: ([.fieldLink RX1 38 "AfternoonMeterModel" "thrown" "I", .methodLink RX1 107 yX1_isNap, .instanceMethod yX1_isNap, .selects RX1 yX1_isNap yX1_isNap, .initialized RX1, .code yX1_isNap cX1_isNap 2 (some .boolean), .fieldLink RX1 48 "AfternoonMeterModel" "naps" "I", .methodLink RX1 44 yX1_isIn, .static yX1_isIn, .code yX1_isIn cX1_isIn 3 (some .boolean), .methodLink RX1 132 yX1_alone, .instanceMethod yX1_alone, .selects RX1 yX1_alone yX1_alone, .code yX1_alone cX1_alone 4 (some .int), .fieldLink RX1 13 "AfternoonMeterModel" "from" "[I", .fieldLink RX1 16 "AfternoonMeterModel" "to" "[I", .fieldLink RX1 19 "AfternoonMeterModel" "cover" "[I", .methodLink RX1 100 yX1_no, .instanceMethod yX1_no, .selects RX1 yX1_no yX1_no, .code yX1_no cX1_no 2 (some .int)] ++ wsX10)
def wsX1_bees : List Cond := .code yX1_bees cX1_bees 1 (some .int) :: ([.fieldLink RX1 51 "AfternoonMeterModel" "bees" "I", .methodLink RX1 116 yX1_ok, .instanceMethod yX1_ok, .selects RX1 yX1_ok yX1_ok, .initialized RX1, .code yX1_ok cX1_ok 2 (some .int), .fieldLink RX1 38 "AfternoonMeterModel" "thrown" "I"] ++ wsX10)
def wsX1_ticksOf_r1 : List Cond := [Cond.fieldLink RX1 38 "AfternoonMeterModel" "thrown" "I", Cond.methodLink RX1 135 yX1_isBee, Cond.instanceMethod yX1_isBee, Cond.selects RX1 yX1_isBee yX1_isBee, Cond.initialized RX1, Cond.code yX1_isBee cX1_isBee 2 (some .boolean), Cond.fieldLink RX1 51 "AfternoonMeterModel" "bees" "I", Cond.methodLink RX1 44 yX1_isIn, Cond.static yX1_isIn, Cond.code yX1_isIn cX1_isIn 3 (some .boolean), Cond.methodLink RX1 71 yX1_ticked, Cond.instanceMethod yX1_ticked, Cond.selects RX1 yX1_ticked yX1_ticked, Cond.code yX1_ticked cX1_ticked 4 (some .int), Cond.fieldLink RX1 64 "AfternoonMeterModel" "minute" "I", Cond.methodLink RX1 67 yX1_ticks, Cond.instanceMethod yX1_ticks, Cond.selects RX1 yX1_ticks yX1_ticks, Cond.code yX1_ticks cX1_ticks 3 (some .boolean), Cond.fieldLink RX1 22 "AfternoonMeterModel" "period" "[I", Cond.fieldLink RX1 25 "AfternoonMeterModel" "beat" "[I", Cond.methodLink RX1 54 yX1_isAwake, Cond.instanceMethod yX1_isAwake, Cond.selects RX1 yX1_isAwake yX1_isAwake]
def wsX1_ticksOf_r2 : List Cond := [Cond.code yX1_isAwake cX1_isAwake 2 (some .boolean), Cond.fieldLink RX1 19 "AfternoonMeterModel" "cover" "[I", Cond.methodLink RX1 100 yX1_no, Cond.instanceMethod yX1_no, Cond.selects RX1 yX1_no yX1_no, Cond.code yX1_no cX1_no 2 (some .int)]
def wsX1_ticksOf : List Cond := .code yX1_ticksOf cX1_ticksOf 2 (some .int) :: ((wsX1_ticksOf_r1 ++ wsX1_ticksOf_r2) ++ wsX10)
def wsX1_measuredBy_r1 : List Cond := [Cond.fieldLink RX1 38 "AfternoonMeterModel" "thrown" "I", Cond.fieldLink RX1 22 "AfternoonMeterModel" "period" "[I", Cond.methodLink RX1 135 yX1_isBee, Cond.instanceMethod yX1_isBee, Cond.selects RX1 yX1_isBee yX1_isBee, Cond.initialized RX1, Cond.code yX1_isBee cX1_isBee 2 (some .boolean), Cond.fieldLink RX1 51 "AfternoonMeterModel" "bees" "I", Cond.methodLink RX1 44 yX1_isIn, Cond.static yX1_isIn, Cond.code yX1_isIn cX1_isIn 3 (some .boolean), Cond.methodLink RX1 71 yX1_ticked, Cond.instanceMethod yX1_ticked, Cond.selects RX1 yX1_ticked yX1_ticked, Cond.code yX1_ticked cX1_ticked 4 (some .int), Cond.fieldLink RX1 64 "AfternoonMeterModel" "minute" "I", Cond.methodLink RX1 67 yX1_ticks, Cond.instanceMethod yX1_ticks, Cond.selects RX1 yX1_ticks yX1_ticks, Cond.code yX1_ticks cX1_ticks 3 (some .boolean), Cond.fieldLink RX1 25 "AfternoonMeterModel" "beat" "[I", Cond.methodLink RX1 54 yX1_isAwake, Cond.instanceMethod yX1_isAwake, Cond.selects RX1 yX1_isAwake yX1_isAwake]
def wsX1_measuredBy_r2 : List Cond := [Cond.code yX1_isAwake cX1_isAwake 2 (some .boolean), Cond.fieldLink RX1 19 "AfternoonMeterModel" "cover" "[I", Cond.methodLink RX1 100 yX1_no, Cond.instanceMethod yX1_no, Cond.selects RX1 yX1_no yX1_no, Cond.code yX1_no cX1_no 2 (some .int)]
def wsX1_measuredBy : List Cond := .code yX1_measuredBy cX1_measuredBy 2 (some .int) :: ((wsX1_measuredBy_r1 ++ wsX1_measuredBy_r2) ++ wsX10)
def wsX1_errorOf_r1 : List Cond := [Cond.fieldLink RX1 38 "AfternoonMeterModel" "thrown" "I", Cond.methodLink RX1 135 yX1_isBee, Cond.instanceMethod yX1_isBee, Cond.selects RX1 yX1_isBee yX1_isBee, Cond.initialized RX1, Cond.code yX1_isBee cX1_isBee 2 (some .boolean), Cond.fieldLink RX1 51 "AfternoonMeterModel" "bees" "I", Cond.methodLink RX1 44 yX1_isIn, Cond.static yX1_isIn, Cond.code yX1_isIn cX1_isIn 3 (some .boolean), Cond.methodLink RX1 78 yX1_error, Cond.instanceMethod yX1_error, Cond.selects RX1 yX1_error yX1_error, Cond.code yX1_error cX1_error 2 (some .int), Cond.fieldLink RX1 22 "AfternoonMeterModel" "period" "[I", Cond.fieldLink RX1 64 "AfternoonMeterModel" "minute" "I", Cond.methodLink RX1 71 yX1_ticked, Cond.instanceMethod yX1_ticked, Cond.selects RX1 yX1_ticked yX1_ticked, Cond.code yX1_ticked cX1_ticked 4 (some .int), Cond.methodLink RX1 67 yX1_ticks, Cond.instanceMethod yX1_ticks, Cond.selects RX1 yX1_ticks yX1_ticks, Cond.code yX1_ticks cX1_ticks 3 (some .boolean)]
def wsX1_errorOf_r2 : List Cond := [Cond.fieldLink RX1 25 "AfternoonMeterModel" "beat" "[I", Cond.methodLink RX1 54 yX1_isAwake, Cond.instanceMethod yX1_isAwake, Cond.selects RX1 yX1_isAwake yX1_isAwake, Cond.code yX1_isAwake cX1_isAwake 2 (some .boolean), Cond.fieldLink RX1 19 "AfternoonMeterModel" "cover" "[I", Cond.methodLink RX1 75 yX1_awake, Cond.instanceMethod yX1_awake, Cond.selects RX1 yX1_awake yX1_awake, Cond.code yX1_awake cX1_awake 4 (some .int), Cond.methodLink RX1 100 yX1_no, Cond.instanceMethod yX1_no, Cond.selects RX1 yX1_no yX1_no, Cond.code yX1_no cX1_no 2 (some .int)]
def wsX1_errorOf : List Cond := .code yX1_errorOf cX1_errorOf 2 (some .int) :: ((wsX1_errorOf_r1 ++ wsX1_errorOf_r2) ++ wsX10)
def wsX1_bestBee_r1 : List Cond := [Cond.methodLink RX1 138 yX1_best, Cond.instanceMethod yX1_best, Cond.selects RX1 yX1_best yX1_best, Cond.initialized RX1, Cond.code yX1_best cX1_best 3 (some .int), Cond.fieldLink RX1 51 "AfternoonMeterModel" "bees" "I", Cond.methodLink RX1 81 Lib.Math.abs.name, Cond.static Lib.Math.abs.name, Cond.initialized "java/lang/Math", Cond.code Lib.Math.abs.name Lib.Math.abs.code 1 (some .int), Cond.methodLink RX1 78 yX1_error, Cond.instanceMethod yX1_error, Cond.selects RX1 yX1_error yX1_error, Cond.code yX1_error cX1_error 2 (some .int), Cond.fieldLink RX1 22 "AfternoonMeterModel" "period" "[I", Cond.fieldLink RX1 64 "AfternoonMeterModel" "minute" "I", Cond.methodLink RX1 71 yX1_ticked, Cond.instanceMethod yX1_ticked, Cond.selects RX1 yX1_ticked yX1_ticked, Cond.code yX1_ticked cX1_ticked 4 (some .int), Cond.methodLink RX1 67 yX1_ticks, Cond.instanceMethod yX1_ticks, Cond.selects RX1 yX1_ticks yX1_ticks, Cond.code yX1_ticks cX1_ticks 3 (some .boolean)]
def wsX1_bestBee_r2 : List Cond := [Cond.fieldLink RX1 25 "AfternoonMeterModel" "beat" "[I", Cond.methodLink RX1 54 yX1_isAwake, Cond.instanceMethod yX1_isAwake, Cond.selects RX1 yX1_isAwake yX1_isAwake, Cond.code yX1_isAwake cX1_isAwake 2 (some .boolean), Cond.fieldLink RX1 19 "AfternoonMeterModel" "cover" "[I", Cond.methodLink RX1 75 yX1_awake, Cond.instanceMethod yX1_awake, Cond.selects RX1 yX1_awake yX1_awake, Cond.code yX1_awake cX1_awake 4 (some .int), Cond.methodLink RX1 116 yX1_ok, Cond.instanceMethod yX1_ok, Cond.selects RX1 yX1_ok yX1_ok, Cond.code yX1_ok cX1_ok 2 (some .int), Cond.fieldLink RX1 38 "AfternoonMeterModel" "thrown" "I"]
def wsX1_bestBee : List Cond := .code yX1_bestBee cX1_bestBee 1 (some .int) :: ((wsX1_bestBee_r1 ++ wsX1_bestBee_r2) ++ wsX10)
def wsX1_nextTick_r1 : List Cond := [Cond.fieldLink RX1 38 "AfternoonMeterModel" "thrown" "I", Cond.methodLink RX1 135 yX1_isBee, Cond.instanceMethod yX1_isBee, Cond.selects RX1 yX1_isBee yX1_isBee, Cond.initialized RX1, Cond.code yX1_isBee cX1_isBee 2 (some .boolean), Cond.fieldLink RX1 51 "AfternoonMeterModel" "bees" "I", Cond.methodLink RX1 44 yX1_isIn, Cond.static yX1_isIn, Cond.code yX1_isIn cX1_isIn 3 (some .boolean), Cond.methodLink RX1 141 yX1_next, Cond.instanceMethod yX1_next, Cond.selects RX1 yX1_next yX1_next, Cond.code yX1_next cX1_next 3 (some .int), Cond.fieldLink RX1 64 "AfternoonMeterModel" "minute" "I", Cond.methodLink RX1 67 yX1_ticks, Cond.instanceMethod yX1_ticks, Cond.selects RX1 yX1_ticks yX1_ticks, Cond.code yX1_ticks cX1_ticks 3 (some .boolean), Cond.fieldLink RX1 22 "AfternoonMeterModel" "period" "[I", Cond.fieldLink RX1 25 "AfternoonMeterModel" "beat" "[I", Cond.methodLink RX1 54 yX1_isAwake, Cond.instanceMethod yX1_isAwake, Cond.selects RX1 yX1_isAwake yX1_isAwake]
def wsX1_nextTick_r2 : List Cond := [Cond.code yX1_isAwake cX1_isAwake 2 (some .boolean), Cond.fieldLink RX1 19 "AfternoonMeterModel" "cover" "[I", Cond.methodLink RX1 100 yX1_no, Cond.instanceMethod yX1_no, Cond.selects RX1 yX1_no yX1_no, Cond.code yX1_no cX1_no 2 (some .int)]
def wsX1_nextTick : List Cond := .code yX1_nextTick cX1_nextTick 2 (some .int) :: ((wsX1_nextTick_r1 ++ wsX1_nextTick_r2) ++ wsX10)
def wsX1_tea : List Cond := .code yX1_tea cX1_tea 1 (some .int) :: ([.fieldLink RX1 87 "AfternoonMeterModel" "tea" "I", .methodLink RX1 116 yX1_ok, .instanceMethod yX1_ok, .selects RX1 yX1_ok yX1_ok, .initialized RX1, .code yX1_ok cX1_ok 2 (some .int), .fieldLink RX1 38 "AfternoonMeterModel" "thrown" "I"] ++ wsX10)
def wsX1_spilt : List Cond := .code yX1_spilt cX1_spilt 1 (some .int) :: ([.fieldLink RX1 94 "AfternoonMeterModel" "spilt" "I", .methodLink RX1 116 yX1_ok, .instanceMethod yX1_ok, .selects RX1 yX1_ok yX1_ok, .initialized RX1, .code yX1_ok cX1_ok 2 (some .int), .fieldLink RX1 38 "AfternoonMeterModel" "thrown" "I"] ++ wsX10)
def wsX1_spiltAtEnd_r1 : List Cond := [Cond.methodLink RX1 144 yX1_atEnd, Cond.instanceMethod yX1_atEnd, Cond.selects RX1 yX1_atEnd yX1_atEnd, Cond.initialized RX1, Cond.code yX1_atEnd cX1_atEnd 5 (some .int), Cond.fieldLink RX1 87 "AfternoonMeterModel" "tea" "I", Cond.fieldLink RX1 94 "AfternoonMeterModel" "spilt" "I", Cond.fieldLink RX1 64 "AfternoonMeterModel" "minute" "I", Cond.fieldLink RX1 32 "AfternoonMeterModel" "rate" "I", Cond.fieldLink RX1 28 "AfternoonMeterModel" "room" "I", Cond.methodLink RX1 84 Lib.Math.min.name, Cond.static Lib.Math.min.name, Cond.initialized "java/lang/Math", Cond.code Lib.Math.min.name Lib.Math.min.code 2 (some .int), Cond.methodLink RX1 90 yX1_poured, Cond.instanceMethod yX1_poured, Cond.selects RX1 yX1_poured yX1_poured, Cond.code yX1_poured cX1_poured 6 (some .int), Cond.fieldLink RX1 51 "AfternoonMeterModel" "bees" "I", Cond.fieldLink RX1 35 "AfternoonMeterModel" "sip" "I", Cond.methodLink RX1 54 yX1_isAwake, Cond.instanceMethod yX1_isAwake, Cond.selects RX1 yX1_isAwake yX1_isAwake, Cond.code yX1_isAwake cX1_isAwake 2 (some .boolean)]
def wsX1_spiltAtEnd_r2 : List Cond := [Cond.fieldLink RX1 19 "AfternoonMeterModel" "cover" "[I", Cond.methodLink RX1 67 yX1_ticks, Cond.instanceMethod yX1_ticks, Cond.selects RX1 yX1_ticks yX1_ticks, Cond.code yX1_ticks cX1_ticks 3 (some .boolean), Cond.fieldLink RX1 22 "AfternoonMeterModel" "period" "[I", Cond.fieldLink RX1 25 "AfternoonMeterModel" "beat" "[I", Cond.methodLink RX1 116 yX1_ok, Cond.instanceMethod yX1_ok, Cond.selects RX1 yX1_ok yX1_ok, Cond.code yX1_ok cX1_ok 2 (some .int), Cond.fieldLink RX1 38 "AfternoonMeterModel" "thrown" "I"]
def wsX1_spiltAtEnd : List Cond := .code yX1_spiltAtEnd cX1_spiltAtEnd 1 (some .int) :: ((wsX1_spiltAtEnd_r1 ++ wsX1_spiltAtEnd_r2) ++ wsX10)
def wsX1_minuteOfSpill_r1 : List Cond := [Cond.fieldLink RX1 32 "AfternoonMeterModel" "rate" "I", Cond.methodLink RX1 97 yX1_spill, Cond.instanceMethod yX1_spill, Cond.selects RX1 yX1_spill yX1_spill, Cond.initialized RX1, Cond.code yX1_spill cX1_spill 4 (some .int), Cond.fieldLink RX1 87 "AfternoonMeterModel" "tea" "I", Cond.fieldLink RX1 64 "AfternoonMeterModel" "minute" "I", Cond.fieldLink RX1 28 "AfternoonMeterModel" "room" "I", Cond.methodLink RX1 90 yX1_poured, Cond.instanceMethod yX1_poured, Cond.selects RX1 yX1_poured yX1_poured, Cond.code yX1_poured cX1_poured 6 (some .int), Cond.fieldLink RX1 51 "AfternoonMeterModel" "bees" "I", Cond.fieldLink RX1 35 "AfternoonMeterModel" "sip" "I", Cond.methodLink RX1 84 Lib.Math.min.name, Cond.static Lib.Math.min.name, Cond.initialized "java/lang/Math", Cond.code Lib.Math.min.name Lib.Math.min.code 2 (some .int), Cond.methodLink RX1 54 yX1_isAwake, Cond.instanceMethod yX1_isAwake, Cond.selects RX1 yX1_isAwake yX1_isAwake, Cond.code yX1_isAwake cX1_isAwake 2 (some .boolean), Cond.fieldLink RX1 19 "AfternoonMeterModel" "cover" "[I"]
def wsX1_minuteOfSpill_r2 : List Cond := [Cond.methodLink RX1 67 yX1_ticks, Cond.instanceMethod yX1_ticks, Cond.selects RX1 yX1_ticks yX1_ticks, Cond.code yX1_ticks cX1_ticks 3 (some .boolean), Cond.fieldLink RX1 22 "AfternoonMeterModel" "period" "[I", Cond.fieldLink RX1 25 "AfternoonMeterModel" "beat" "[I", Cond.methodLink RX1 116 yX1_ok, Cond.instanceMethod yX1_ok, Cond.selects RX1 yX1_ok yX1_ok, Cond.code yX1_ok cX1_ok 2 (some .int), Cond.fieldLink RX1 38 "AfternoonMeterModel" "thrown" "I"]
def wsX1_minuteOfSpill : List Cond := .code yX1_minuteOfSpill cX1_minuteOfSpill 1 (some .int) :: ((wsX1_minuteOfSpill_r1 ++ wsX1_minuteOfSpill_r2) ++ wsX10)
def wsX1_safeRate_r1 : List Cond := [Cond.methodLink RX1 147 yX1_safest, Cond.instanceMethod yX1_safest, Cond.selects RX1 yX1_safest yX1_safest, Cond.initialized RX1, Cond.code yX1_safest cX1_safest 2 (some .int), Cond.methodLink RX1 97 yX1_spill, Cond.instanceMethod yX1_spill, Cond.selects RX1 yX1_spill yX1_spill, Cond.code yX1_spill cX1_spill 4 (some .int), Cond.fieldLink RX1 87 "AfternoonMeterModel" "tea" "I", Cond.fieldLink RX1 64 "AfternoonMeterModel" "minute" "I", Cond.fieldLink RX1 28 "AfternoonMeterModel" "room" "I", Cond.methodLink RX1 90 yX1_poured, Cond.instanceMethod yX1_poured, Cond.selects RX1 yX1_poured yX1_poured, Cond.code yX1_poured cX1_poured 6 (some .int), Cond.fieldLink RX1 51 "AfternoonMeterModel" "bees" "I", Cond.fieldLink RX1 35 "AfternoonMeterModel" "sip" "I", Cond.methodLink RX1 84 Lib.Math.min.name, Cond.static Lib.Math.min.name, Cond.initialized "java/lang/Math", Cond.code Lib.Math.min.name Lib.Math.min.code 2 (some .int), Cond.methodLink RX1 54 yX1_isAwake, Cond.instanceMethod yX1_isAwake]
def wsX1_safeRate_r2 : List Cond := [Cond.selects RX1 yX1_isAwake yX1_isAwake, Cond.code yX1_isAwake cX1_isAwake 2 (some .boolean), Cond.fieldLink RX1 19 "AfternoonMeterModel" "cover" "[I", Cond.methodLink RX1 67 yX1_ticks, Cond.instanceMethod yX1_ticks, Cond.selects RX1 yX1_ticks yX1_ticks, Cond.code yX1_ticks cX1_ticks 3 (some .boolean), Cond.fieldLink RX1 22 "AfternoonMeterModel" "period" "[I", Cond.fieldLink RX1 25 "AfternoonMeterModel" "beat" "[I", Cond.methodLink RX1 116 yX1_ok, Cond.instanceMethod yX1_ok, Cond.selects RX1 yX1_ok yX1_ok, Cond.code yX1_ok cX1_ok 2 (some .int), Cond.fieldLink RX1 38 "AfternoonMeterModel" "thrown" "I"]
def wsX1_safeRate : List Cond := .code yX1_safeRate cX1_safeRate 1 (some .int) :: ((wsX1_safeRate_r1 ++ wsX1_safeRate_r2) ++ wsX10)
def wsX1_worst : List Cond := .code yX1_worst cX1_worst 3 (some .int) :: ([.fieldLink RX1 48 "AfternoonMeterModel" "naps" "I", .methodLink RX1 132 yX1_alone, .instanceMethod yX1_alone, .selects RX1 yX1_alone yX1_alone, .initialized RX1, .code yX1_alone cX1_alone 4 (some .int), .fieldLink RX1 13 "AfternoonMeterModel" "from" "[I", .fieldLink RX1 16 "AfternoonMeterModel" "to" "[I", .fieldLink RX1 19 "AfternoonMeterModel" "cover" "[I"] ++ wsX10)
def wsX1_bestToGiveUp : List Cond := .code yX1_bestToGiveUp cX1_bestToGiveUp 1 (some .int) :: ([.methodLink RX1 150 yX1_worst, .instanceMethod yX1_worst, .selects RX1 yX1_worst yX1_worst, .initialized RX1, .code yX1_worst cX1_worst 3 (some .int), .fieldLink RX1 48 "AfternoonMeterModel" "naps" "I", .methodLink RX1 132 yX1_alone, .instanceMethod yX1_alone, .selects RX1 yX1_alone yX1_alone, .code yX1_alone cX1_alone 4 (some .int), .fieldLink RX1 13 "AfternoonMeterModel" "from" "[I", .fieldLink RX1 16 "AfternoonMeterModel" "to" "[I", .fieldLink RX1 19 "AfternoonMeterModel" "cover" "[I", .methodLink RX1 116 yX1_ok, .instanceMethod yX1_ok, .selects RX1 yX1_ok yX1_ok, .code yX1_ok cX1_ok 2 (some .int), .fieldLink RX1 38 "AfternoonMeterModel" "thrown" "I"] ++ wsX10)
def wsX1_meanLastShadow : List Cond := .code yX1_meanLastShadow cX1_meanLastShadow 3 (some .double) :: ([.fieldLink RX1 38 "AfternoonMeterModel" "thrown" "I", .fieldLink RX1 41 "AfternoonMeterModel" "sticks" "I", .methodLink RX1 129 yX1_shadow, .instanceMethod yX1_shadow, .selects RX1 yX1_shadow yX1_shadow, .initialized RX1, .code yX1_shadow cX1_shadow 3 (some .int), .fieldLink RX1 9 "AfternoonMeterModel" "height" "[I"] ++ wsX10)
def wsX1_digest_r1 : List Cond := [Cond.fieldLink RX1 38 "AfternoonMeterModel" "thrown" "I", Cond.arrayClass .int, Cond.fieldLink RX1 113 "AfternoonMeterModel" "afternoon" "I", Cond.fieldLink RX1 64 "AfternoonMeterModel" "minute" "I", Cond.fieldLink RX1 41 "AfternoonMeterModel" "sticks" "I", Cond.fieldLink RX1 48 "AfternoonMeterModel" "naps" "I", Cond.fieldLink RX1 51 "AfternoonMeterModel" "bees" "I", Cond.fieldLink RX1 87 "AfternoonMeterModel" "tea" "I", Cond.fieldLink RX1 94 "AfternoonMeterModel" "spilt" "I", Cond.constantLong RX1 153 (2083), Cond.constantLong RX1 155 (31), Cond.fieldLink RX1 13 "AfternoonMeterModel" "from" "[I", Cond.fieldLink RX1 16 "AfternoonMeterModel" "to" "[I", Cond.fieldLink RX1 22 "AfternoonMeterModel" "period" "[I", Cond.methodLink RX1 75 yX1_awake, Cond.instanceMethod yX1_awake, Cond.selects RX1 yX1_awake yX1_awake, Cond.initialized RX1, Cond.code yX1_awake cX1_awake 4 (some .int), Cond.methodLink RX1 54 yX1_isAwake, Cond.instanceMethod yX1_isAwake, Cond.selects RX1 yX1_isAwake yX1_isAwake, Cond.code yX1_isAwake cX1_isAwake 2 (some .boolean), Cond.fieldLink RX1 19 "AfternoonMeterModel" "cover" "[I"]
def wsX1_digest_r2 : List Cond := [Cond.methodLink RX1 122 yX1_longest, Cond.instanceMethod yX1_longest, Cond.selects RX1 yX1_longest yX1_longest, Cond.code yX1_longest cX1_longest 4 (some .int), Cond.methodLink RX1 58 Lib.Math.max.name, Cond.static Lib.Math.max.name, Cond.initialized "java/lang/Math", Cond.code Lib.Math.max.name Lib.Math.max.code 2 (some .int), Cond.methodLink RX1 144 yX1_atEnd, Cond.instanceMethod yX1_atEnd, Cond.selects RX1 yX1_atEnd yX1_atEnd, Cond.code yX1_atEnd cX1_atEnd 5 (some .int), Cond.fieldLink RX1 32 "AfternoonMeterModel" "rate" "I", Cond.fieldLink RX1 28 "AfternoonMeterModel" "room" "I", Cond.methodLink RX1 84 Lib.Math.min.name, Cond.static Lib.Math.min.name, Cond.code Lib.Math.min.name Lib.Math.min.code 2 (some .int), Cond.methodLink RX1 90 yX1_poured, Cond.instanceMethod yX1_poured, Cond.selects RX1 yX1_poured yX1_poured, Cond.code yX1_poured cX1_poured 6 (some .int), Cond.fieldLink RX1 35 "AfternoonMeterModel" "sip" "I", Cond.methodLink RX1 67 yX1_ticks, Cond.instanceMethod yX1_ticks]
def wsX1_digest_r3 : List Cond := [Cond.selects RX1 yX1_ticks yX1_ticks, Cond.code yX1_ticks cX1_ticks 3 (some .boolean), Cond.fieldLink RX1 25 "AfternoonMeterModel" "beat" "[I", Cond.methodLink RX1 147 yX1_safest, Cond.instanceMethod yX1_safest, Cond.selects RX1 yX1_safest yX1_safest, Cond.code yX1_safest cX1_safest 2 (some .int), Cond.methodLink RX1 97 yX1_spill, Cond.instanceMethod yX1_spill, Cond.selects RX1 yX1_spill yX1_spill, Cond.code yX1_spill cX1_spill 4 (some .int), Cond.methodLink RX1 150 yX1_worst, Cond.instanceMethod yX1_worst, Cond.selects RX1 yX1_worst yX1_worst, Cond.code yX1_worst cX1_worst 3 (some .int), Cond.methodLink RX1 132 yX1_alone, Cond.instanceMethod yX1_alone, Cond.selects RX1 yX1_alone yX1_alone, Cond.code yX1_alone cX1_alone 4 (some .int), Cond.methodLink RX1 138 yX1_best, Cond.instanceMethod yX1_best, Cond.selects RX1 yX1_best yX1_best, Cond.code yX1_best cX1_best 3 (some .int), Cond.methodLink RX1 81 Lib.Math.abs.name]
def wsX1_digest_r4 : List Cond := [Cond.static Lib.Math.abs.name, Cond.code Lib.Math.abs.name Lib.Math.abs.code 1 (some .int), Cond.methodLink RX1 78 yX1_error, Cond.instanceMethod yX1_error, Cond.selects RX1 yX1_error yX1_error, Cond.code yX1_error cX1_error 2 (some .int), Cond.methodLink RX1 71 yX1_ticked, Cond.instanceMethod yX1_ticked, Cond.selects RX1 yX1_ticked yX1_ticked, Cond.code yX1_ticked cX1_ticked 4 (some .int), Cond.methodLink RX1 129 yX1_shadow, Cond.instanceMethod yX1_shadow, Cond.selects RX1 yX1_shadow yX1_shadow, Cond.code yX1_shadow cX1_shadow 3 (some .int), Cond.fieldLink RX1 9 "AfternoonMeterModel" "height" "[I", Cond.methodLink RX1 141 yX1_next, Cond.instanceMethod yX1_next, Cond.selects RX1 yX1_next yX1_next, Cond.code yX1_next cX1_next 3 (some .int)]
def wsX1_digest : List Cond := .code yX1_digest cX1_digest 8 (some .long) :: ((wsX1_digest_r1 ++ (wsX1_digest_r2 ++ (wsX1_digest_r3 ++ wsX1_digest_r4))) ++ wsX10)
def wsJ9_abs_0f7a4 : List Cond := .code yJ9_abs_0f7a4 cJ9_abs_0f7a4 1 (some .int) :: ([])
def wsJ9_max_7cf53 : List Cond := .code yJ9_max_7cf53 cJ9_max_7cf53 2 (some .int) :: ([])
def wsJ9_min_7cf53 : List Cond := .code yJ9_min_7cf53 cJ9_min_7cf53 2 (some .int) :: ([])
def wsL_addStick : List Cond := .codeWith yL_addStick cL_addStick 4 (some .int) [(0, 9, 12, 13), (0, 9, 15, 15)] :: ([.classLink RL 13 "java/lang/IllegalArgumentException", .classLink RL 15 "java/lang/IllegalStateException", .methodLink RL 7 yX0_addStick, .instanceMethod yX0_addStick, .selects RX0 yX0_addStick yX0_addStick, .initialized RX0, .code yX0_addStick cX0_addStick 3 (some .int), .classLink RX0 41 "java/lang/IllegalArgumentException", .initialized "java/lang/IllegalArgumentException", .classLink RX0 51 "java/lang/IllegalStateException", .initialized "java/lang/IllegalStateException", .fieldLink RX0 48 "AfternoonMeter" "stickCount" "I", .fieldLink RX0 9 "AfternoonMeter" "heights" "[I"] ++ wsX00 ++ (vx_atS RX0 45 "java/lang/IllegalArgumentException" ["java/lang/RuntimeException", "java/lang/Exception"]).filter goodWord ++ (vx_atS RX0 55 "java/lang/IllegalStateException" ["java/lang/RuntimeException", "java/lang/Exception"]).filter goodWord)
def wsL_addNap : List Cond := .codeWith yL_addNap cL_addNap 5 (some .int) [(0, 10, 13, 13), (0, 10, 17, 15)] :: ([.classLink RL 13 "java/lang/IllegalArgumentException", .classLink RL 15 "java/lang/IllegalStateException", .methodLink RL 17 yX0_addNap, .instanceMethod yX0_addNap, .selects RX0 yX0_addNap yX0_addNap, .initialized RX0, .code yX0_addNap cX0_addNap 4 (some .int), .classLink RX0 41 "java/lang/IllegalArgumentException", .initialized "java/lang/IllegalArgumentException", .classLink RX0 51 "java/lang/IllegalStateException", .initialized "java/lang/IllegalStateException", .fieldLink RX0 58 "AfternoonMeter" "napCount" "I", .fieldLink RX0 13 "AfternoonMeter" "napStarts" "[I", .fieldLink RX0 16 "AfternoonMeter" "napEnds" "[I", .methodLink RX0 63 yX0_changeCover, .instanceMethod yX0_changeCover, .selects RX0 yX0_changeCover yX0_changeCover, .code yX0_changeCover cX0_changeCover 4 none, .fieldLink RX0 19 "AfternoonMeter" "napsOver" "[I", .methodLink RX0 201 yX0_covers, .instanceMethod yX0_covers, .selects RX0 yX0_covers yX0_covers, .code yX0_covers cX0_covers 3 (some .boolean)] ++ wsX00 ++ (vx_atS RX0 45 "java/lang/IllegalArgumentException" ["java/lang/RuntimeException", "java/lang/Exception"]).filter goodWord ++ (vx_atS RX0 55 "java/lang/IllegalStateException" ["java/lang/RuntimeException", "java/lang/Exception"]).filter goodWord)
def wsL_giveUp : List Cond := .codeWith yL_giveUp cL_giveUp 4 (some .int) [(0, 9, 12, 24)] :: ([.classLink RL 24 "java/lang/IndexOutOfBoundsException", .methodLink RL 21 yX0_giveUp, .instanceMethod yX0_giveUp, .selects RX0 yX0_giveUp yX0_giveUp, .initialized RX0, .code yX0_giveUp cX0_giveUp 3 (some .int), .fieldLink RX0 58 "AfternoonMeter" "napCount" "I", .fieldLink RX0 13 "AfternoonMeter" "napStarts" "[I", .fieldLink RX0 16 "AfternoonMeter" "napEnds" "[I", .methodLink RX0 67 yX0_checkNap, .instanceMethod yX0_checkNap, .selects RX0 yX0_checkNap yX0_checkNap, .code yX0_checkNap cX0_checkNap 2 none, .classLink RX0 192 "java/lang/IndexOutOfBoundsException", .initialized "java/lang/IndexOutOfBoundsException", .methodLink RX0 63 yX0_changeCover, .instanceMethod yX0_changeCover, .selects RX0 yX0_changeCover yX0_changeCover, .code yX0_changeCover cX0_changeCover 4 none, .fieldLink RX0 19 "AfternoonMeter" "napsOver" "[I", .methodLink RX0 201 yX0_covers, .instanceMethod yX0_covers, .selects RX0 yX0_covers yX0_covers, .code yX0_covers cX0_covers 3 (some .boolean)] ++ wsX00 ++ (vx_atS RX0 196 "java/lang/IndexOutOfBoundsException" ["java/lang/RuntimeException", "java/lang/Exception"]).filter goodWord)
def wsL_addBee : List Cond := .codeWith yL_addBee cL_addBee 5 (some .int) [(0, 10, 13, 13), (0, 10, 17, 15)] :: ([.classLink RL 13 "java/lang/IllegalArgumentException", .classLink RL 15 "java/lang/IllegalStateException", .methodLink RL 26 yX0_addBee, .instanceMethod yX0_addBee, .selects RX0 yX0_addBee yX0_addBee, .initialized RX0, .code yX0_addBee cX0_addBee 5 (some .int), .classLink RX0 41 "java/lang/IllegalArgumentException", .initialized "java/lang/IllegalArgumentException", .classLink RX0 51 "java/lang/IllegalStateException", .initialized "java/lang/IllegalStateException", .fieldLink RX0 73 "AfternoonMeter" "beeCount" "I", .fieldLink RX0 22 "AfternoonMeter" "periods" "[I", .fieldLink RX0 25 "AfternoonMeter" "beats" "[I", .fieldLink RX0 28 "AfternoonMeter" "beesOn" "[I", .methodLink RX0 78 yX0_hasBeatIn, .instanceMethod yX0_hasBeatIn, .selects RX0 yX0_hasBeatIn yX0_hasBeatIn, .code yX0_hasBeatIn cX0_hasBeatIn 4 (some .boolean)] ++ wsX00 ++ (vx_atS RX0 45 "java/lang/IllegalArgumentException" ["java/lang/RuntimeException", "java/lang/Exception"]).filter goodWord ++ (vx_atS RX0 55 "java/lang/IllegalStateException" ["java/lang/RuntimeException", "java/lang/Exception"]).filter goodWord)
def wsL_setTea_r1 : List Cond := [Cond.classLink RL 13 "java/lang/IllegalArgumentException", Cond.methodLink RL 29 yX0_setTea, Cond.instanceMethod yX0_setTea, Cond.selects RX0 yX0_setTea yX0_setTea, Cond.initialized RX0, Cond.code yX0_setTea cX0_setTea 4 (some .int), Cond.classLink RX0 41 "java/lang/IllegalArgumentException", Cond.initialized "java/lang/IllegalArgumentException", Cond.fieldLink RX0 31 "AfternoonMeter" "room" "I", Cond.fieldLink RX0 35 "AfternoonMeter" "rate" "I", Cond.fieldLink RX0 38 "AfternoonMeter" "sip" "I", Cond.fieldLink RX0 88 "AfternoonMeter" "inCup" "I", Cond.methodLink RX0 91 yX0_pourInto, Cond.instanceMethod yX0_pourInto, Cond.selects RX0 yX0_pourInto yX0_pourInto, Cond.code yX0_pourInto cX0_pourInto 3 (some .int), Cond.fieldLink RX0 106 "AfternoonMeter" "ranOver" "I", Cond.methodLink RX0 155 yX0_excess, Cond.instanceMethod yX0_excess, Cond.selects RX0 yX0_excess yX0_excess, Cond.code yX0_excess cX0_excess 2 (some .int), Cond.methodLink RX0 119 Lib.Math.max.name, Cond.static Lib.Math.max.name, Cond.initialized "java/lang/Math"]
def wsL_setTea_r2 : List Cond := [Cond.code Lib.Math.max.name Lib.Math.max.code 2 (some .int)]
def wsL_setTea : List Cond := .codeWith yL_setTea cL_setTea 6 (some .int) [(0, 12, 15, 13)] :: ((wsL_setTea_r1 ++ wsL_setTea_r2) ++ wsX00 ++ (vx_atS RX0 45 "java/lang/IllegalArgumentException" ["java/lang/RuntimeException", "java/lang/Exception"]).filter goodWord)
def wsL_pass_r1 : List Cond := [Cond.classLink RL 13 "java/lang/IllegalArgumentException", Cond.classLink RL 15 "java/lang/IllegalStateException", Cond.methodLink RL 33 yX0_pass, Cond.instanceMethod yX0_pass, Cond.selects RX0 yX0_pass yX0_pass, Cond.initialized RX0, Cond.code yX0_pass cX0_pass 4 (some .int), Cond.classLink RX0 41 "java/lang/IllegalArgumentException", Cond.initialized "java/lang/IllegalArgumentException", Cond.classLink RX0 51 "java/lang/IllegalStateException", Cond.initialized "java/lang/IllegalStateException", Cond.fieldLink RX0 97 "AfternoonMeter" "now" "I", Cond.fieldLink RX0 88 "AfternoonMeter" "inCup" "I", Cond.fieldLink RX0 35 "AfternoonMeter" "rate" "I", Cond.methodLink RX0 102 yX0_contentAfter, Cond.instanceMethod yX0_contentAfter, Cond.selects RX0 yX0_contentAfter yX0_contentAfter, Cond.code yX0_contentAfter cX0_contentAfter 4 (some .int), Cond.fieldLink RX0 19 "AfternoonMeter" "napsOver" "[I", Cond.fieldLink RX0 38 "AfternoonMeter" "sip" "I", Cond.fieldLink RX0 28 "AfternoonMeter" "beesOn" "[I", Cond.methodLink RX0 119 Lib.Math.max.name, Cond.static Lib.Math.max.name, Cond.initialized "java/lang/Math"]
def wsL_pass_r2 : List Cond := [Cond.code Lib.Math.max.name Lib.Math.max.code 2 (some .int), Cond.methodLink RX0 91 yX0_pourInto, Cond.instanceMethod yX0_pourInto, Cond.selects RX0 yX0_pourInto yX0_pourInto, Cond.code yX0_pourInto cX0_pourInto 3 (some .int), Cond.fieldLink RX0 106 "AfternoonMeter" "ranOver" "I", Cond.methodLink RX0 155 yX0_excess, Cond.instanceMethod yX0_excess, Cond.selects RX0 yX0_excess yX0_excess, Cond.code yX0_excess cX0_excess 2 (some .int), Cond.fieldLink RX0 31 "AfternoonMeter" "room" "I"]
def wsL_pass : List Cond := .codeWith yL_pass cL_pass 4 (some .int) [(0, 9, 12, 13), (0, 9, 15, 15)] :: ((wsL_pass_r1 ++ wsL_pass_r2) ++ wsX00 ++ (vx_atS RX0 45 "java/lang/IllegalArgumentException" ["java/lang/RuntimeException", "java/lang/Exception"]).filter goodWord ++ (vx_atS RX0 55 "java/lang/IllegalStateException" ["java/lang/RuntimeException", "java/lang/Exception"]).filter goodWord)
def wsL_isAsleep : List Cond := .codeWith yL_isAsleep cL_isAsleep 4 (some .int) [(0, 16, 19, 13)] :: ([.classLink RL 13 "java/lang/IllegalArgumentException", .methodLink RL 36 yX0_isAsleep, .instanceMethod yX0_isAsleep, .selects RX0 yX0_isAsleep yX0_isAsleep, .initialized RX0, .code yX0_isAsleep cX0_isAsleep 2 (some .boolean), .fieldLink RX0 19 "AfternoonMeter" "napsOver" "[I", .methodLink RX0 112 yX0_checkMinute, .instanceMethod yX0_checkMinute, .selects RX0 yX0_checkMinute yX0_checkMinute, .code yX0_checkMinute cX0_checkMinute 2 none, .classLink RX0 41 "java/lang/IllegalArgumentException", .initialized "java/lang/IllegalArgumentException"] ++ wsX00 ++ (vx_atS RX0 45 "java/lang/IllegalArgumentException" ["java/lang/RuntimeException", "java/lang/Exception"]).filter goodWord)
def wsL_shadowAt_r1 : List Cond := [Cond.classLink RL 24 "java/lang/IndexOutOfBoundsException", Cond.classLink RL 13 "java/lang/IllegalArgumentException", Cond.methodLink RL 40 yX0_shadowAt, Cond.instanceMethod yX0_shadowAt, Cond.selects RX0 yX0_shadowAt yX0_shadowAt, Cond.initialized RX0, Cond.code yX0_shadowAt cX0_shadowAt 3 (some .int), Cond.methodLink RX0 125 yX0_checkStick, Cond.instanceMethod yX0_checkStick, Cond.selects RX0 yX0_checkStick yX0_checkStick, Cond.code yX0_checkStick cX0_checkStick 2 none, Cond.classLink RX0 192 "java/lang/IndexOutOfBoundsException", Cond.initialized "java/lang/IndexOutOfBoundsException", Cond.fieldLink RX0 48 "AfternoonMeter" "stickCount" "I", Cond.methodLink RX0 112 yX0_checkMinute, Cond.instanceMethod yX0_checkMinute, Cond.selects RX0 yX0_checkMinute yX0_checkMinute, Cond.code yX0_checkMinute cX0_checkMinute 2 none, Cond.classLink RX0 41 "java/lang/IllegalArgumentException", Cond.initialized "java/lang/IllegalArgumentException", Cond.methodLink RX0 128 yX0_shadowOf, Cond.instanceMethod yX0_shadowOf, Cond.selects RX0 yX0_shadowOf yX0_shadowOf, Cond.code yX0_shadowOf cX0_shadowOf 3 (some .int)]
def wsL_shadowAt_r2 : List Cond := [Cond.fieldLink RX0 9 "AfternoonMeter" "heights" "[I"]
def wsL_shadowAt : List Cond := .codeWith yL_shadowAt cL_shadowAt 5 (some .int) [(0, 10, 13, 24), (0, 10, 17, 13)] :: ((wsL_shadowAt_r1 ++ wsL_shadowAt_r2) ++ wsX00 ++ (vx_atS RX0 196 "java/lang/IndexOutOfBoundsException" ["java/lang/RuntimeException", "java/lang/Exception"]).filter goodWord ++ (vx_atS RX0 45 "java/lang/IllegalArgumentException" ["java/lang/RuntimeException", "java/lang/Exception"]).filter goodWord)
def wsL_minuteOfShadow : List Cond := .codeWith yL_minuteOfShadow cL_minuteOfShadow 5 (some .int) [(0, 10, 13, 24)] :: ([.classLink RL 24 "java/lang/IndexOutOfBoundsException", .methodLink RL 43 yX0_minuteOfShadow, .instanceMethod yX0_minuteOfShadow, .selects RX0 yX0_minuteOfShadow yX0_minuteOfShadow, .initialized RX0, .code yX0_minuteOfShadow cX0_minuteOfShadow 4 (some .int), .methodLink RX0 125 yX0_checkStick, .instanceMethod yX0_checkStick, .selects RX0 yX0_checkStick yX0_checkStick, .code yX0_checkStick cX0_checkStick 2 none, .classLink RX0 192 "java/lang/IndexOutOfBoundsException", .initialized "java/lang/IndexOutOfBoundsException", .fieldLink RX0 48 "AfternoonMeter" "stickCount" "I", .methodLink RX0 128 yX0_shadowOf, .instanceMethod yX0_shadowOf, .selects RX0 yX0_shadowOf yX0_shadowOf, .code yX0_shadowOf cX0_shadowOf 3 (some .int), .fieldLink RX0 9 "AfternoonMeter" "heights" "[I"] ++ wsX00 ++ (vx_atS RX0 196 "java/lang/IndexOutOfBoundsException" ["java/lang/RuntimeException", "java/lang/Exception"]).filter goodWord)
def wsL_allShadows : List Cond := .codeWith yL_allShadows cL_allShadows 4 (some .int) [(0, 9, 12, 13)] :: ([.classLink RL 13 "java/lang/IllegalArgumentException", .methodLink RL 46 yX0_allShadows, .instanceMethod yX0_allShadows, .selects RX0 yX0_allShadows yX0_allShadows, .initialized RX0, .code yX0_allShadows cX0_allShadows 2 (some .int), .methodLink RX0 112 yX0_checkMinute, .instanceMethod yX0_checkMinute, .selects RX0 yX0_checkMinute yX0_checkMinute, .code yX0_checkMinute cX0_checkMinute 2 none, .classLink RX0 41 "java/lang/IllegalArgumentException", .initialized "java/lang/IllegalArgumentException", .methodLink RX0 131 yX0_sumOfShadows, .instanceMethod yX0_sumOfShadows, .selects RX0 yX0_sumOfShadows yX0_sumOfShadows, .code yX0_sumOfShadows cX0_sumOfShadows 4 (some .int), .fieldLink RX0 48 "AfternoonMeter" "stickCount" "I", .methodLink RX0 128 yX0_shadowOf, .instanceMethod yX0_shadowOf, .selects RX0 yX0_shadowOf yX0_shadowOf, .code yX0_shadowOf cX0_shadowOf 3 (some .int), .fieldLink RX0 9 "AfternoonMeter" "heights" "[I"] ++ wsX00 ++ (vx_atS RX0 45 "java/lang/IllegalArgumentException" ["java/lang/RuntimeException", "java/lang/Exception"]).filter goodWord)
def wsL_startOf : List Cond := .codeWith yL_startOf cL_startOf 4 (some .int) [(0, 9, 12, 24)] :: ([.classLink RL 24 "java/lang/IndexOutOfBoundsException", .methodLink RL 49 yX0_startOf, .instanceMethod yX0_startOf, .selects RX0 yX0_startOf yX0_startOf, .initialized RX0, .code yX0_startOf cX0_startOf 2 (some .int), .fieldLink RX0 13 "AfternoonMeter" "napStarts" "[I", .methodLink RX0 67 yX0_checkNap, .instanceMethod yX0_checkNap, .selects RX0 yX0_checkNap yX0_checkNap, .code yX0_checkNap cX0_checkNap 2 none, .classLink RX0 192 "java/lang/IndexOutOfBoundsException", .initialized "java/lang/IndexOutOfBoundsException", .fieldLink RX0 58 "AfternoonMeter" "napCount" "I"] ++ wsX00 ++ (vx_atS RX0 196 "java/lang/IndexOutOfBoundsException" ["java/lang/RuntimeException", "java/lang/Exception"]).filter goodWord)
def wsL_lengthOf : List Cond := .codeWith yL_lengthOf cL_lengthOf 4 (some .int) [(0, 9, 12, 24)] :: ([.classLink RL 24 "java/lang/IndexOutOfBoundsException", .methodLink RL 52 yX0_lengthOf, .instanceMethod yX0_lengthOf, .selects RX0 yX0_lengthOf yX0_lengthOf, .initialized RX0, .code yX0_lengthOf cX0_lengthOf 2 (some .int), .fieldLink RX0 16 "AfternoonMeter" "napEnds" "[I", .fieldLink RX0 13 "AfternoonMeter" "napStarts" "[I", .methodLink RX0 67 yX0_checkNap, .instanceMethod yX0_checkNap, .selects RX0 yX0_checkNap yX0_checkNap, .code yX0_checkNap cX0_checkNap 2 none, .classLink RX0 192 "java/lang/IndexOutOfBoundsException", .initialized "java/lang/IndexOutOfBoundsException", .fieldLink RX0 58 "AfternoonMeter" "napCount" "I"] ++ wsX00 ++ (vx_atS RX0 196 "java/lang/IndexOutOfBoundsException" ["java/lang/RuntimeException", "java/lang/Exception"]).filter goodWord)
def wsL_napsAt : List Cond := .codeWith yL_napsAt cL_napsAt 4 (some .int) [(0, 9, 12, 13)] :: ([.classLink RL 13 "java/lang/IllegalArgumentException", .methodLink RL 55 yX0_napsAt, .instanceMethod yX0_napsAt, .selects RX0 yX0_napsAt yX0_napsAt, .initialized RX0, .code yX0_napsAt cX0_napsAt 2 (some .int), .fieldLink RX0 19 "AfternoonMeter" "napsOver" "[I", .methodLink RX0 112 yX0_checkMinute, .instanceMethod yX0_checkMinute, .selects RX0 yX0_checkMinute yX0_checkMinute, .code yX0_checkMinute cX0_checkMinute 2 none, .classLink RX0 41 "java/lang/IllegalArgumentException", .initialized "java/lang/IllegalArgumentException"] ++ wsX00 ++ (vx_atS RX0 45 "java/lang/IllegalArgumentException" ["java/lang/RuntimeException", "java/lang/Exception"]).filter goodWord)
def wsL_minutesAlone : List Cond := .codeWith yL_minutesAlone cL_minutesAlone 4 (some .int) [(0, 9, 12, 24)] :: ([.classLink RL 24 "java/lang/IndexOutOfBoundsException", .methodLink RL 58 yX0_minutesAlone, .instanceMethod yX0_minutesAlone, .selects RX0 yX0_minutesAlone yX0_minutesAlone, .initialized RX0, .code yX0_minutesAlone cX0_minutesAlone 2 (some .int), .methodLink RX0 67 yX0_checkNap, .instanceMethod yX0_checkNap, .selects RX0 yX0_checkNap yX0_checkNap, .code yX0_checkNap cX0_checkNap 2 none, .classLink RX0 192 "java/lang/IndexOutOfBoundsException", .initialized "java/lang/IndexOutOfBoundsException", .fieldLink RX0 58 "AfternoonMeter" "napCount" "I", .methodLink RX0 134 yX0_countAlone, .instanceMethod yX0_countAlone, .selects RX0 yX0_countAlone yX0_countAlone, .code yX0_countAlone cX0_countAlone 4 (some .int), .fieldLink RX0 19 "AfternoonMeter" "napsOver" "[I", .methodLink RX0 201 yX0_covers, .instanceMethod yX0_covers, .selects RX0 yX0_covers yX0_covers, .code yX0_covers cX0_covers 3 (some .boolean), .fieldLink RX0 13 "AfternoonMeter" "napStarts" "[I", .fieldLink RX0 16 "AfternoonMeter" "napEnds" "[I"] ++ wsX00 ++ (vx_atS RX0 196 "java/lang/IndexOutOfBoundsException" ["java/lang/RuntimeException", "java/lang/Exception"]).filter goodWord)
def wsL_ticksOf_r1 : List Cond := [Cond.classLink RL 24 "java/lang/IndexOutOfBoundsException", Cond.methodLink RL 61 yX0_ticksOf, Cond.instanceMethod yX0_ticksOf, Cond.selects RX0 yX0_ticksOf yX0_ticksOf, Cond.initialized RX0, Cond.code yX0_ticksOf cX0_ticksOf 2 (some .int), Cond.methodLink RX0 137 yX0_checkBee, Cond.instanceMethod yX0_checkBee, Cond.selects RX0 yX0_checkBee yX0_checkBee, Cond.code yX0_checkBee cX0_checkBee 2 none, Cond.classLink RX0 192 "java/lang/IndexOutOfBoundsException", Cond.initialized "java/lang/IndexOutOfBoundsException", Cond.fieldLink RX0 73 "AfternoonMeter" "beeCount" "I", Cond.methodLink RX0 140 yX0_countTicks, Cond.instanceMethod yX0_countTicks, Cond.selects RX0 yX0_countTicks yX0_countTicks, Cond.code yX0_countTicks cX0_countTicks 4 (some .int), Cond.fieldLink RX0 97 "AfternoonMeter" "now" "I", Cond.methodLink RX0 152 yX0_ticksIn, Cond.instanceMethod yX0_ticksIn, Cond.selects RX0 yX0_ticksIn yX0_ticksIn, Cond.code yX0_ticksIn cX0_ticksIn 3 (some .boolean), Cond.fieldLink RX0 19 "AfternoonMeter" "napsOver" "[I", Cond.methodLink RX0 78 yX0_hasBeatIn]
def wsL_ticksOf_r2 : List Cond := [Cond.instanceMethod yX0_hasBeatIn, Cond.selects RX0 yX0_hasBeatIn yX0_hasBeatIn, Cond.code yX0_hasBeatIn cX0_hasBeatIn 4 (some .boolean), Cond.fieldLink RX0 22 "AfternoonMeter" "periods" "[I", Cond.fieldLink RX0 25 "AfternoonMeter" "beats" "[I"]
def wsL_ticksOf : List Cond := .codeWith yL_ticksOf cL_ticksOf 4 (some .int) [(0, 9, 12, 24)] :: ((wsL_ticksOf_r1 ++ wsL_ticksOf_r2) ++ wsX00 ++ (vx_atS RX0 196 "java/lang/IndexOutOfBoundsException" ["java/lang/RuntimeException", "java/lang/Exception"]).filter goodWord)
def wsL_measuredBy_r1 : List Cond := [Cond.classLink RL 24 "java/lang/IndexOutOfBoundsException", Cond.methodLink RL 64 yX0_measuredBy, Cond.instanceMethod yX0_measuredBy, Cond.selects RX0 yX0_measuredBy yX0_measuredBy, Cond.initialized RX0, Cond.code yX0_measuredBy cX0_measuredBy 2 (some .int), Cond.fieldLink RX0 22 "AfternoonMeter" "periods" "[I", Cond.methodLink RX0 137 yX0_checkBee, Cond.instanceMethod yX0_checkBee, Cond.selects RX0 yX0_checkBee yX0_checkBee, Cond.code yX0_checkBee cX0_checkBee 2 none, Cond.classLink RX0 192 "java/lang/IndexOutOfBoundsException", Cond.initialized "java/lang/IndexOutOfBoundsException", Cond.fieldLink RX0 73 "AfternoonMeter" "beeCount" "I", Cond.methodLink RX0 140 yX0_countTicks, Cond.instanceMethod yX0_countTicks, Cond.selects RX0 yX0_countTicks yX0_countTicks, Cond.code yX0_countTicks cX0_countTicks 4 (some .int), Cond.fieldLink RX0 97 "AfternoonMeter" "now" "I", Cond.methodLink RX0 152 yX0_ticksIn, Cond.instanceMethod yX0_ticksIn, Cond.selects RX0 yX0_ticksIn yX0_ticksIn, Cond.code yX0_ticksIn cX0_ticksIn 3 (some .boolean), Cond.fieldLink RX0 19 "AfternoonMeter" "napsOver" "[I"]
def wsL_measuredBy_r2 : List Cond := [Cond.methodLink RX0 78 yX0_hasBeatIn, Cond.instanceMethod yX0_hasBeatIn, Cond.selects RX0 yX0_hasBeatIn yX0_hasBeatIn, Cond.code yX0_hasBeatIn cX0_hasBeatIn 4 (some .boolean), Cond.fieldLink RX0 25 "AfternoonMeter" "beats" "[I"]
def wsL_measuredBy : List Cond := .codeWith yL_measuredBy cL_measuredBy 4 (some .int) [(0, 9, 12, 24)] :: ((wsL_measuredBy_r1 ++ wsL_measuredBy_r2) ++ wsX00 ++ (vx_atS RX0 196 "java/lang/IndexOutOfBoundsException" ["java/lang/RuntimeException", "java/lang/Exception"]).filter goodWord)
def wsL_errorOf_r1 : List Cond := [Cond.classLink RL 24 "java/lang/IndexOutOfBoundsException", Cond.methodLink RL 67 yX0_errorOf, Cond.instanceMethod yX0_errorOf, Cond.selects RX0 yX0_errorOf yX0_errorOf, Cond.initialized RX0, Cond.code yX0_errorOf cX0_errorOf 2 (some .int), Cond.methodLink RX0 143 yX0_measuredBy, Cond.instanceMethod yX0_measuredBy, Cond.selects RX0 yX0_measuredBy yX0_measuredBy, Cond.code yX0_measuredBy cX0_measuredBy 2 (some .int), Cond.fieldLink RX0 22 "AfternoonMeter" "periods" "[I", Cond.methodLink RX0 137 yX0_checkBee, Cond.instanceMethod yX0_checkBee, Cond.selects RX0 yX0_checkBee yX0_checkBee, Cond.code yX0_checkBee cX0_checkBee 2 none, Cond.classLink RX0 192 "java/lang/IndexOutOfBoundsException", Cond.initialized "java/lang/IndexOutOfBoundsException", Cond.fieldLink RX0 73 "AfternoonMeter" "beeCount" "I", Cond.methodLink RX0 140 yX0_countTicks, Cond.instanceMethod yX0_countTicks, Cond.selects RX0 yX0_countTicks yX0_countTicks, Cond.code yX0_countTicks cX0_countTicks 4 (some .int), Cond.fieldLink RX0 97 "AfternoonMeter" "now" "I", Cond.methodLink RX0 152 yX0_ticksIn]
def wsL_errorOf_r2 : List Cond := [Cond.instanceMethod yX0_ticksIn, Cond.selects RX0 yX0_ticksIn yX0_ticksIn, Cond.code yX0_ticksIn cX0_ticksIn 3 (some .boolean), Cond.fieldLink RX0 19 "AfternoonMeter" "napsOver" "[I", Cond.methodLink RX0 78 yX0_hasBeatIn, Cond.instanceMethod yX0_hasBeatIn, Cond.selects RX0 yX0_hasBeatIn yX0_hasBeatIn, Cond.code yX0_hasBeatIn cX0_hasBeatIn 4 (some .boolean), Cond.fieldLink RX0 25 "AfternoonMeter" "beats" "[I", Cond.methodLink RX0 115 yX0_awakeMinutes, Cond.instanceMethod yX0_awakeMinutes, Cond.selects RX0 yX0_awakeMinutes yX0_awakeMinutes, Cond.code yX0_awakeMinutes cX0_awakeMinutes 3 (some .int)]
def wsL_errorOf : List Cond := .codeWith yL_errorOf cL_errorOf 4 (some .int) [(0, 9, 12, 24)] :: ((wsL_errorOf_r1 ++ wsL_errorOf_r2) ++ wsX00 ++ (vx_atS RX0 196 "java/lang/IndexOutOfBoundsException" ["java/lang/RuntimeException", "java/lang/Exception"]).filter goodWord)
def wsL_nextTick_r1 : List Cond := [Cond.classLink RL 24 "java/lang/IndexOutOfBoundsException", Cond.methodLink RL 70 yX0_nextTick, Cond.instanceMethod yX0_nextTick, Cond.selects RX0 yX0_nextTick yX0_nextTick, Cond.initialized RX0, Cond.code yX0_nextTick cX0_nextTick 3 (some .int), Cond.fieldLink RX0 97 "AfternoonMeter" "now" "I", Cond.methodLink RX0 137 yX0_checkBee, Cond.instanceMethod yX0_checkBee, Cond.selects RX0 yX0_checkBee yX0_checkBee, Cond.code yX0_checkBee cX0_checkBee 2 none, Cond.classLink RX0 192 "java/lang/IndexOutOfBoundsException", Cond.initialized "java/lang/IndexOutOfBoundsException", Cond.fieldLink RX0 73 "AfternoonMeter" "beeCount" "I", Cond.methodLink RX0 152 yX0_ticksIn, Cond.instanceMethod yX0_ticksIn, Cond.selects RX0 yX0_ticksIn yX0_ticksIn, Cond.code yX0_ticksIn cX0_ticksIn 3 (some .boolean), Cond.fieldLink RX0 19 "AfternoonMeter" "napsOver" "[I", Cond.methodLink RX0 78 yX0_hasBeatIn, Cond.instanceMethod yX0_hasBeatIn, Cond.selects RX0 yX0_hasBeatIn yX0_hasBeatIn, Cond.code yX0_hasBeatIn cX0_hasBeatIn 4 (some .boolean), Cond.fieldLink RX0 22 "AfternoonMeter" "periods" "[I"]
def wsL_nextTick_r2 : List Cond := [Cond.fieldLink RX0 25 "AfternoonMeter" "beats" "[I"]
def wsL_nextTick : List Cond := .codeWith yL_nextTick cL_nextTick 4 (some .int) [(0, 9, 12, 24)] :: ((wsL_nextTick_r1 ++ wsL_nextTick_r2) ++ wsX00 ++ (vx_atS RX0 196 "java/lang/IndexOutOfBoundsException" ["java/lang/RuntimeException", "java/lang/Exception"]).filter goodWord)
def wsL_law0_r1 : List Cond := [Cond.classLink RL 8 RX0, Cond.instantiable RX0 17, Cond.initialized RX0, Cond.classLink RL 74 RX1, Cond.instantiable RX1 17, Cond.initialized RX1, Cond.arrayClass .long, Cond.methodLink RL 73 yX0_init, Cond.instanceMethod yX0_init, Cond.code yX0_init cX0_init 1 none, Cond.methodLink RX0 1 objectInit, Cond.instanceMethod objectInit, Cond.code objectInit ⟨#[0xb1]⟩ 1 none, Cond.arrayClass .int, Cond.fieldLink RX0 9 "AfternoonMeter" "heights" "[I", Cond.fieldLink RX0 13 "AfternoonMeter" "napStarts" "[I", Cond.fieldLink RX0 16 "AfternoonMeter" "napEnds" "[I", Cond.fieldLink RX0 19 "AfternoonMeter" "napsOver" "[I", Cond.fieldLink RX0 22 "AfternoonMeter" "periods" "[I", Cond.fieldLink RX0 25 "AfternoonMeter" "beats" "[I", Cond.fieldLink RX0 28 "AfternoonMeter" "beesOn" "[I", Cond.fieldLink RX0 31 "AfternoonMeter" "room" "I", Cond.fieldLink RX0 35 "AfternoonMeter" "rate" "I", Cond.fieldLink RX0 38 "AfternoonMeter" "sip" "I"]
def wsL_law0_r2 : List Cond := [Cond.methodLink RL 76 yX1_init, Cond.instanceMethod yX1_init, Cond.code yX1_init cX1_init 1 none, Cond.methodLink RX1 1 objectInit, Cond.fieldLink RX1 9 "AfternoonMeterModel" "height" "[I", Cond.fieldLink RX1 13 "AfternoonMeterModel" "from" "[I", Cond.fieldLink RX1 16 "AfternoonMeterModel" "to" "[I", Cond.fieldLink RX1 19 "AfternoonMeterModel" "cover" "[I", Cond.fieldLink RX1 22 "AfternoonMeterModel" "period" "[I", Cond.fieldLink RX1 25 "AfternoonMeterModel" "beat" "[I", Cond.fieldLink RX1 28 "AfternoonMeterModel" "room" "I", Cond.fieldLink RX1 32 "AfternoonMeterModel" "rate" "I", Cond.fieldLink RX1 35 "AfternoonMeterModel" "sip" "I", Cond.methodLink RL 77 yL_addStick, Cond.static yL_addStick, Cond.initialized RL, Cond.codeWith yL_addStick cL_addStick 4 (some .int) [(0, 9, 12, 13), (0, 9, 15, 15)], Cond.classLink RL 13 "java/lang/IllegalArgumentException", Cond.classLink RL 15 "java/lang/IllegalStateException", Cond.methodLink RL 7 yX0_addStick, Cond.instanceMethod yX0_addStick, Cond.selects RX0 yX0_addStick yX0_addStick, Cond.code yX0_addStick cX0_addStick 3 (some .int), Cond.classLink RX0 41 "java/lang/IllegalArgumentException"]
def wsL_law0_r3 : List Cond := [Cond.initialized "java/lang/IllegalArgumentException", Cond.classLink RX0 51 "java/lang/IllegalStateException", Cond.initialized "java/lang/IllegalStateException", Cond.fieldLink RX0 48 "AfternoonMeter" "stickCount" "I", Cond.methodLink RL 82 yX1_addStick, Cond.instanceMethod yX1_addStick, Cond.selects RX1 yX1_addStick yX1_addStick, Cond.code yX1_addStick cX1_addStick 2 (some .int), Cond.fieldLink RX1 38 "AfternoonMeterModel" "thrown" "I", Cond.fieldLink RX1 41 "AfternoonMeterModel" "sticks" "I", Cond.methodLink RX1 44 yX1_isIn, Cond.static yX1_isIn, Cond.code yX1_isIn cX1_isIn 3 (some .boolean), Cond.methodLink RX1 100 yX1_no, Cond.instanceMethod yX1_no, Cond.selects RX1 yX1_no yX1_no, Cond.code yX1_no cX1_no 2 (some .int), Cond.methodLink RL 83 yX1_thrown, Cond.instanceMethod yX1_thrown, Cond.selects RX1 yX1_thrown yX1_thrown, Cond.code yX1_thrown cX1_thrown 1 (some .int), Cond.methodLink RL 87 yL_addNap, Cond.static yL_addNap, Cond.codeWith yL_addNap cL_addNap 5 (some .int) [(0, 10, 13, 13), (0, 10, 17, 15)]]
def wsL_law0_r4 : List Cond := [Cond.methodLink RL 17 yX0_addNap, Cond.instanceMethod yX0_addNap, Cond.selects RX0 yX0_addNap yX0_addNap, Cond.code yX0_addNap cX0_addNap 4 (some .int), Cond.fieldLink RX0 58 "AfternoonMeter" "napCount" "I", Cond.methodLink RX0 63 yX0_changeCover, Cond.instanceMethod yX0_changeCover, Cond.selects RX0 yX0_changeCover yX0_changeCover, Cond.code yX0_changeCover cX0_changeCover 4 none, Cond.methodLink RX0 201 yX0_covers, Cond.instanceMethod yX0_covers, Cond.selects RX0 yX0_covers yX0_covers, Cond.code yX0_covers cX0_covers 3 (some .boolean), Cond.methodLink RL 90 yX1_addNap, Cond.instanceMethod yX1_addNap, Cond.selects RX1 yX1_addNap yX1_addNap, Cond.code yX1_addNap cX1_addNap 3 (some .int), Cond.fieldLink RX1 48 "AfternoonMeterModel" "naps" "I", Cond.methodLink RX1 103 yX1_lay, Cond.instanceMethod yX1_lay, Cond.selects RX1 yX1_lay yX1_lay, Cond.code yX1_lay cX1_lay 4 none, Cond.methodLink RL 91 yL_giveUp, Cond.static yL_giveUp]
def wsL_law0_r5 : List Cond := [Cond.codeWith yL_giveUp cL_giveUp 4 (some .int) [(0, 9, 12, 24)], Cond.classLink RL 24 "java/lang/IndexOutOfBoundsException", Cond.methodLink RL 21 yX0_giveUp, Cond.instanceMethod yX0_giveUp, Cond.selects RX0 yX0_giveUp yX0_giveUp, Cond.code yX0_giveUp cX0_giveUp 3 (some .int), Cond.methodLink RX0 67 yX0_checkNap, Cond.instanceMethod yX0_checkNap, Cond.selects RX0 yX0_checkNap yX0_checkNap, Cond.code yX0_checkNap cX0_checkNap 2 none, Cond.classLink RX0 192 "java/lang/IndexOutOfBoundsException", Cond.initialized "java/lang/IndexOutOfBoundsException", Cond.methodLink RL 93 yX1_giveUp, Cond.instanceMethod yX1_giveUp, Cond.selects RX1 yX1_giveUp yX1_giveUp, Cond.code yX1_giveUp cX1_giveUp 3 (some .int), Cond.methodLink RX1 107 yX1_isNap, Cond.instanceMethod yX1_isNap, Cond.selects RX1 yX1_isNap yX1_isNap, Cond.code yX1_isNap cX1_isNap 2 (some .boolean), Cond.methodLink RL 94 yL_addBee, Cond.static yL_addBee, Cond.codeWith yL_addBee cL_addBee 5 (some .int) [(0, 10, 13, 13), (0, 10, 17, 15)], Cond.methodLink RL 26 yX0_addBee]
def wsL_law0_r6 : List Cond := [Cond.instanceMethod yX0_addBee, Cond.selects RX0 yX0_addBee yX0_addBee, Cond.code yX0_addBee cX0_addBee 5 (some .int), Cond.fieldLink RX0 73 "AfternoonMeter" "beeCount" "I", Cond.methodLink RX0 78 yX0_hasBeatIn, Cond.instanceMethod yX0_hasBeatIn, Cond.selects RX0 yX0_hasBeatIn yX0_hasBeatIn, Cond.code yX0_hasBeatIn cX0_hasBeatIn 4 (some .boolean), Cond.methodLink RL 96 yX1_addBee, Cond.instanceMethod yX1_addBee, Cond.selects RX1 yX1_addBee yX1_addBee, Cond.code yX1_addBee cX1_addBee 3 (some .int), Cond.fieldLink RX1 51 "AfternoonMeterModel" "bees" "I", Cond.methodLink RL 97 yL_setTea, Cond.static yL_setTea, Cond.codeWith yL_setTea cL_setTea 6 (some .int) [(0, 12, 15, 13)], Cond.methodLink RL 29 yX0_setTea, Cond.instanceMethod yX0_setTea, Cond.selects RX0 yX0_setTea yX0_setTea, Cond.code yX0_setTea cX0_setTea 4 (some .int), Cond.fieldLink RX0 88 "AfternoonMeter" "inCup" "I", Cond.methodLink RX0 91 yX0_pourInto, Cond.instanceMethod yX0_pourInto, Cond.selects RX0 yX0_pourInto yX0_pourInto]
def wsL_law0_r7 : List Cond := [Cond.code yX0_pourInto cX0_pourInto 3 (some .int), Cond.fieldLink RX0 106 "AfternoonMeter" "ranOver" "I", Cond.methodLink RX0 155 yX0_excess, Cond.instanceMethod yX0_excess, Cond.selects RX0 yX0_excess yX0_excess, Cond.code yX0_excess cX0_excess 2 (some .int), Cond.methodLink RX0 119 Lib.Math.max.name, Cond.static Lib.Math.max.name, Cond.initialized "java/lang/Math", Cond.code Lib.Math.max.name Lib.Math.max.code 2 (some .int), Cond.methodLink RL 100 yX1_setTea, Cond.instanceMethod yX1_setTea, Cond.selects RX1 yX1_setTea yX1_setTea, Cond.code yX1_setTea cX1_setTea 5 (some .int), Cond.fieldLink RX1 87 "AfternoonMeterModel" "tea" "I", Cond.methodLink RX1 58 Lib.Math.max.name, Cond.fieldLink RX1 94 "AfternoonMeterModel" "spilt" "I", Cond.methodLink RL 101 yL_pass, Cond.static yL_pass, Cond.codeWith yL_pass cL_pass 4 (some .int) [(0, 9, 12, 13), (0, 9, 15, 15)], Cond.methodLink RL 33 yX0_pass, Cond.instanceMethod yX0_pass, Cond.selects RX0 yX0_pass yX0_pass, Cond.code yX0_pass cX0_pass 4 (some .int)]
def wsL_law0_r8 : List Cond := [Cond.fieldLink RX0 97 "AfternoonMeter" "now" "I", Cond.methodLink RX0 102 yX0_contentAfter, Cond.instanceMethod yX0_contentAfter, Cond.selects RX0 yX0_contentAfter yX0_contentAfter, Cond.code yX0_contentAfter cX0_contentAfter 4 (some .int), Cond.methodLink RL 103 yX1_pass, Cond.instanceMethod yX1_pass, Cond.selects RX1 yX1_pass yX1_pass, Cond.code yX1_pass cX1_pass 2 (some .int), Cond.fieldLink RX1 64 "AfternoonMeterModel" "minute" "I", Cond.methodLink RX1 110 yX1_go, Cond.instanceMethod yX1_go, Cond.selects RX1 yX1_go yX1_go, Cond.code yX1_go cX1_go 5 (some .int), Cond.methodLink RX1 84 Lib.Math.min.name, Cond.static Lib.Math.min.name, Cond.code Lib.Math.min.name Lib.Math.min.code 2 (some .int), Cond.methodLink RX1 90 yX1_poured, Cond.instanceMethod yX1_poured, Cond.selects RX1 yX1_poured yX1_poured, Cond.code yX1_poured cX1_poured 6 (some .int), Cond.methodLink RX1 54 yX1_isAwake, Cond.instanceMethod yX1_isAwake, Cond.selects RX1 yX1_isAwake yX1_isAwake]
def wsL_law0_r9 : List Cond := [Cond.code yX1_isAwake cX1_isAwake 2 (some .boolean), Cond.methodLink RX1 67 yX1_ticks, Cond.instanceMethod yX1_ticks, Cond.selects RX1 yX1_ticks yX1_ticks, Cond.code yX1_ticks cX1_ticks 3 (some .boolean), Cond.methodLink RL 104 yX0_begin, Cond.instanceMethod yX0_begin, Cond.selects RX0 yX0_begin yX0_begin, Cond.code yX0_begin cX0_begin 1 (some .int), Cond.fieldLink RX0 109 "AfternoonMeter" "afternoonNumber" "I", Cond.methodLink RL 107 yX1_begin, Cond.instanceMethod yX1_begin, Cond.selects RX1 yX1_begin yX1_begin, Cond.code yX1_begin cX1_begin 1 (some .int), Cond.fieldLink RX1 113 "AfternoonMeterModel" "afternoon" "I", Cond.methodLink RL 108 yX0_afternoon, Cond.instanceMethod yX0_afternoon, Cond.selects RX0 yX0_afternoon yX0_afternoon, Cond.code yX0_afternoon cX0_afternoon 1 (some .int), Cond.methodLink RL 111 yX1_afternoon, Cond.instanceMethod yX1_afternoon, Cond.selects RX1 yX1_afternoon yX1_afternoon, Cond.code yX1_afternoon cX1_afternoon 1 (some .int), Cond.methodLink RX1 116 yX1_ok]
def wsL_law0_r10 : List Cond := [Cond.instanceMethod yX1_ok, Cond.selects RX1 yX1_ok yX1_ok, Cond.code yX1_ok cX1_ok 2 (some .int), Cond.methodLink RL 112 yX0_minute, Cond.instanceMethod yX0_minute, Cond.selects RX0 yX0_minute yX0_minute, Cond.code yX0_minute cX0_minute 1 (some .int), Cond.methodLink RL 115 yX1_minute, Cond.instanceMethod yX1_minute, Cond.selects RX1 yX1_minute yX1_minute, Cond.code yX1_minute cX1_minute 1 (some .int), Cond.methodLink RL 116 yL_isAsleep, Cond.static yL_isAsleep, Cond.codeWith yL_isAsleep cL_isAsleep 4 (some .int) [(0, 16, 19, 13)], Cond.methodLink RL 36 yX0_isAsleep, Cond.instanceMethod yX0_isAsleep, Cond.selects RX0 yX0_isAsleep yX0_isAsleep, Cond.code yX0_isAsleep cX0_isAsleep 2 (some .boolean), Cond.methodLink RX0 112 yX0_checkMinute, Cond.instanceMethod yX0_checkMinute, Cond.selects RX0 yX0_checkMinute yX0_checkMinute, Cond.code yX0_checkMinute cX0_checkMinute 2 none, Cond.methodLink RL 118 yX1_isAsleep, Cond.instanceMethod yX1_isAsleep]
def wsL_law0_r11 : List Cond := [Cond.selects RX1 yX1_isAsleep yX1_isAsleep, Cond.code yX1_isAsleep cX1_isAsleep 2 (some .boolean), Cond.methodLink RX1 119 yX1_isMinute, Cond.static yX1_isMinute, Cond.code yX1_isMinute cX1_isMinute 1 (some .boolean), Cond.methodLink RL 119 yX0_awakeMinutes, Cond.instanceMethod yX0_awakeMinutes, Cond.selects RX0 yX0_awakeMinutes yX0_awakeMinutes, Cond.code yX0_awakeMinutes cX0_awakeMinutes 3 (some .int), Cond.methodLink RL 122 yX1_awakeMinutes, Cond.instanceMethod yX1_awakeMinutes, Cond.selects RX1 yX1_awakeMinutes yX1_awakeMinutes, Cond.code yX1_awakeMinutes cX1_awakeMinutes 1 (some .int), Cond.methodLink RX1 75 yX1_awake, Cond.instanceMethod yX1_awake, Cond.selects RX1 yX1_awake yX1_awake, Cond.code yX1_awake cX1_awake 4 (some .int), Cond.methodLink RL 123 yX0_sleptMinutes, Cond.instanceMethod yX0_sleptMinutes, Cond.selects RX0 yX0_sleptMinutes yX0_sleptMinutes, Cond.code yX0_sleptMinutes cX0_sleptMinutes 1 (some .int), Cond.methodLink RX0 115 yX0_awakeMinutes, Cond.methodLink RL 126 yX1_sleptMinutes, Cond.instanceMethod yX1_sleptMinutes]
def wsL_law0_r12 : List Cond := [Cond.selects RX1 yX1_sleptMinutes yX1_sleptMinutes, Cond.code yX1_sleptMinutes cX1_sleptMinutes 1 (some .int), Cond.methodLink RL 127 yX0_longestAwake, Cond.instanceMethod yX0_longestAwake, Cond.selects RX0 yX0_longestAwake yX0_longestAwake, Cond.code yX0_longestAwake cX0_longestAwake 4 (some .int), Cond.methodLink RL 130 yX1_longestAwake, Cond.instanceMethod yX1_longestAwake, Cond.selects RX1 yX1_longestAwake yX1_longestAwake, Cond.code yX1_longestAwake cX1_longestAwake 1 (some .int), Cond.methodLink RX1 122 yX1_longest, Cond.instanceMethod yX1_longest, Cond.selects RX1 yX1_longest yX1_longest, Cond.code yX1_longest cX1_longest 4 (some .int), Cond.methodLink RL 131 yX0_sticks, Cond.instanceMethod yX0_sticks, Cond.selects RX0 yX0_sticks yX0_sticks, Cond.code yX0_sticks cX0_sticks 1 (some .int), Cond.methodLink RL 134 yX1_sticks, Cond.instanceMethod yX1_sticks, Cond.selects RX1 yX1_sticks yX1_sticks, Cond.code yX1_sticks cX1_sticks 1 (some .int), Cond.methodLink RL 135 yL_shadowAt, Cond.static yL_shadowAt]
def wsL_law0_r13 : List Cond := [Cond.codeWith yL_shadowAt cL_shadowAt 5 (some .int) [(0, 10, 13, 24), (0, 10, 17, 13)], Cond.methodLink RL 40 yX0_shadowAt, Cond.instanceMethod yX0_shadowAt, Cond.selects RX0 yX0_shadowAt yX0_shadowAt, Cond.code yX0_shadowAt cX0_shadowAt 3 (some .int), Cond.methodLink RX0 125 yX0_checkStick, Cond.instanceMethod yX0_checkStick, Cond.selects RX0 yX0_checkStick yX0_checkStick, Cond.code yX0_checkStick cX0_checkStick 2 none, Cond.methodLink RX0 128 yX0_shadowOf, Cond.instanceMethod yX0_shadowOf, Cond.selects RX0 yX0_shadowOf yX0_shadowOf, Cond.code yX0_shadowOf cX0_shadowOf 3 (some .int), Cond.methodLink RL 137 yX1_shadowAt, Cond.instanceMethod yX1_shadowAt, Cond.selects RX1 yX1_shadowAt yX1_shadowAt, Cond.code yX1_shadowAt cX1_shadowAt 3 (some .int), Cond.methodLink RX1 126 yX1_isStick, Cond.instanceMethod yX1_isStick, Cond.selects RX1 yX1_isStick yX1_isStick, Cond.code yX1_isStick cX1_isStick 2 (some .boolean), Cond.methodLink RX1 129 yX1_shadow, Cond.instanceMethod yX1_shadow, Cond.selects RX1 yX1_shadow yX1_shadow]
def wsL_law0_r14 : List Cond := [Cond.code yX1_shadow cX1_shadow 3 (some .int), Cond.methodLink RL 138 yL_minuteOfShadow, Cond.static yL_minuteOfShadow, Cond.codeWith yL_minuteOfShadow cL_minuteOfShadow 5 (some .int) [(0, 10, 13, 24)], Cond.methodLink RL 43 yX0_minuteOfShadow, Cond.instanceMethod yX0_minuteOfShadow, Cond.selects RX0 yX0_minuteOfShadow yX0_minuteOfShadow, Cond.code yX0_minuteOfShadow cX0_minuteOfShadow 4 (some .int), Cond.methodLink RL 140 yX1_minuteOfShadow, Cond.instanceMethod yX1_minuteOfShadow, Cond.selects RX1 yX1_minuteOfShadow yX1_minuteOfShadow, Cond.code yX1_minuteOfShadow cX1_minuteOfShadow 4 (some .int), Cond.methodLink RL 141 yL_allShadows, Cond.static yL_allShadows, Cond.codeWith yL_allShadows cL_allShadows 4 (some .int) [(0, 9, 12, 13)], Cond.methodLink RL 46 yX0_allShadows, Cond.instanceMethod yX0_allShadows, Cond.selects RX0 yX0_allShadows yX0_allShadows, Cond.code yX0_allShadows cX0_allShadows 2 (some .int), Cond.methodLink RX0 131 yX0_sumOfShadows, Cond.instanceMethod yX0_sumOfShadows, Cond.selects RX0 yX0_sumOfShadows yX0_sumOfShadows, Cond.code yX0_sumOfShadows cX0_sumOfShadows 4 (some .int), Cond.methodLink RL 143 yX1_allShadows]
def wsL_law0_r15 : List Cond := [Cond.instanceMethod yX1_allShadows, Cond.selects RX1 yX1_allShadows yX1_allShadows, Cond.code yX1_allShadows cX1_allShadows 4 (some .int), Cond.methodLink RL 144 yX0_naps, Cond.instanceMethod yX0_naps, Cond.selects RX0 yX0_naps yX0_naps, Cond.code yX0_naps cX0_naps 1 (some .int), Cond.methodLink RL 147 yX1_naps, Cond.instanceMethod yX1_naps, Cond.selects RX1 yX1_naps yX1_naps, Cond.code yX1_naps cX1_naps 1 (some .int), Cond.methodLink RL 148 yL_startOf, Cond.static yL_startOf, Cond.codeWith yL_startOf cL_startOf 4 (some .int) [(0, 9, 12, 24)], Cond.methodLink RL 49 yX0_startOf, Cond.instanceMethod yX0_startOf, Cond.selects RX0 yX0_startOf yX0_startOf, Cond.code yX0_startOf cX0_startOf 2 (some .int), Cond.methodLink RL 150 yX1_startOf, Cond.instanceMethod yX1_startOf, Cond.selects RX1 yX1_startOf yX1_startOf, Cond.code yX1_startOf cX1_startOf 2 (some .int), Cond.methodLink RL 151 yL_lengthOf, Cond.static yL_lengthOf]
def wsL_law0_r16 : List Cond := [Cond.codeWith yL_lengthOf cL_lengthOf 4 (some .int) [(0, 9, 12, 24)], Cond.methodLink RL 52 yX0_lengthOf, Cond.instanceMethod yX0_lengthOf, Cond.selects RX0 yX0_lengthOf yX0_lengthOf, Cond.code yX0_lengthOf cX0_lengthOf 2 (some .int), Cond.methodLink RL 153 yX1_lengthOf, Cond.instanceMethod yX1_lengthOf, Cond.selects RX1 yX1_lengthOf yX1_lengthOf, Cond.code yX1_lengthOf cX1_lengthOf 2 (some .int), Cond.methodLink RL 154 yL_napsAt, Cond.static yL_napsAt, Cond.codeWith yL_napsAt cL_napsAt 4 (some .int) [(0, 9, 12, 13)], Cond.methodLink RL 55 yX0_napsAt, Cond.instanceMethod yX0_napsAt, Cond.selects RX0 yX0_napsAt yX0_napsAt, Cond.code yX0_napsAt cX0_napsAt 2 (some .int), Cond.methodLink RL 156 yX1_napsAt, Cond.instanceMethod yX1_napsAt, Cond.selects RX1 yX1_napsAt yX1_napsAt, Cond.code yX1_napsAt cX1_napsAt 2 (some .int), Cond.methodLink RL 157 yL_minutesAlone, Cond.static yL_minutesAlone, Cond.codeWith yL_minutesAlone cL_minutesAlone 4 (some .int) [(0, 9, 12, 24)], Cond.methodLink RL 58 yX0_minutesAlone]
def wsL_law0_r17 : List Cond := [Cond.instanceMethod yX0_minutesAlone, Cond.selects RX0 yX0_minutesAlone yX0_minutesAlone, Cond.code yX0_minutesAlone cX0_minutesAlone 2 (some .int), Cond.methodLink RX0 134 yX0_countAlone, Cond.instanceMethod yX0_countAlone, Cond.selects RX0 yX0_countAlone yX0_countAlone, Cond.code yX0_countAlone cX0_countAlone 4 (some .int), Cond.methodLink RL 159 yX1_minutesAlone, Cond.instanceMethod yX1_minutesAlone, Cond.selects RX1 yX1_minutesAlone yX1_minutesAlone, Cond.code yX1_minutesAlone cX1_minutesAlone 2 (some .int), Cond.methodLink RX1 132 yX1_alone, Cond.instanceMethod yX1_alone, Cond.selects RX1 yX1_alone yX1_alone, Cond.code yX1_alone cX1_alone 4 (some .int), Cond.methodLink RL 160 yX0_bees, Cond.instanceMethod yX0_bees, Cond.selects RX0 yX0_bees yX0_bees, Cond.code yX0_bees cX0_bees 1 (some .int), Cond.methodLink RL 163 yX1_bees, Cond.instanceMethod yX1_bees, Cond.selects RX1 yX1_bees yX1_bees, Cond.code yX1_bees cX1_bees 1 (some .int), Cond.methodLink RL 164 yL_ticksOf]
def wsL_law0_r18 : List Cond := [Cond.static yL_ticksOf, Cond.codeWith yL_ticksOf cL_ticksOf 4 (some .int) [(0, 9, 12, 24)], Cond.methodLink RL 61 yX0_ticksOf, Cond.instanceMethod yX0_ticksOf, Cond.selects RX0 yX0_ticksOf yX0_ticksOf, Cond.code yX0_ticksOf cX0_ticksOf 2 (some .int), Cond.methodLink RX0 137 yX0_checkBee, Cond.instanceMethod yX0_checkBee, Cond.selects RX0 yX0_checkBee yX0_checkBee, Cond.code yX0_checkBee cX0_checkBee 2 none, Cond.methodLink RX0 140 yX0_countTicks, Cond.instanceMethod yX0_countTicks, Cond.selects RX0 yX0_countTicks yX0_countTicks, Cond.code yX0_countTicks cX0_countTicks 4 (some .int), Cond.methodLink RX0 152 yX0_ticksIn, Cond.instanceMethod yX0_ticksIn, Cond.selects RX0 yX0_ticksIn yX0_ticksIn, Cond.code yX0_ticksIn cX0_ticksIn 3 (some .boolean), Cond.methodLink RL 166 yX1_ticksOf, Cond.instanceMethod yX1_ticksOf, Cond.selects RX1 yX1_ticksOf yX1_ticksOf, Cond.code yX1_ticksOf cX1_ticksOf 2 (some .int), Cond.methodLink RX1 135 yX1_isBee, Cond.instanceMethod yX1_isBee]
def wsL_law0_r19 : List Cond := [Cond.selects RX1 yX1_isBee yX1_isBee, Cond.code yX1_isBee cX1_isBee 2 (some .boolean), Cond.methodLink RX1 71 yX1_ticked, Cond.instanceMethod yX1_ticked, Cond.selects RX1 yX1_ticked yX1_ticked, Cond.code yX1_ticked cX1_ticked 4 (some .int), Cond.methodLink RL 167 yL_measuredBy, Cond.static yL_measuredBy, Cond.codeWith yL_measuredBy cL_measuredBy 4 (some .int) [(0, 9, 12, 24)], Cond.methodLink RL 64 yX0_measuredBy, Cond.instanceMethod yX0_measuredBy, Cond.selects RX0 yX0_measuredBy yX0_measuredBy, Cond.code yX0_measuredBy cX0_measuredBy 2 (some .int), Cond.methodLink RL 169 yX1_measuredBy, Cond.instanceMethod yX1_measuredBy, Cond.selects RX1 yX1_measuredBy yX1_measuredBy, Cond.code yX1_measuredBy cX1_measuredBy 2 (some .int), Cond.methodLink RL 170 yL_errorOf, Cond.static yL_errorOf, Cond.codeWith yL_errorOf cL_errorOf 4 (some .int) [(0, 9, 12, 24)], Cond.methodLink RL 67 yX0_errorOf, Cond.instanceMethod yX0_errorOf, Cond.selects RX0 yX0_errorOf yX0_errorOf, Cond.code yX0_errorOf cX0_errorOf 2 (some .int)]
def wsL_law0_r20 : List Cond := [Cond.methodLink RX0 143 yX0_measuredBy, Cond.methodLink RL 172 yX1_errorOf, Cond.instanceMethod yX1_errorOf, Cond.selects RX1 yX1_errorOf yX1_errorOf, Cond.code yX1_errorOf cX1_errorOf 2 (some .int), Cond.methodLink RX1 78 yX1_error, Cond.instanceMethod yX1_error, Cond.selects RX1 yX1_error yX1_error, Cond.code yX1_error cX1_error 2 (some .int), Cond.methodLink RL 173 yX0_bestBee, Cond.instanceMethod yX0_bestBee, Cond.selects RX0 yX0_bestBee yX0_bestBee, Cond.code yX0_bestBee cX0_bestBee 5 (some .int), Cond.methodLink RX0 149 Lib.Math.abs.name, Cond.static Lib.Math.abs.name, Cond.code Lib.Math.abs.name Lib.Math.abs.code 1 (some .int), Cond.methodLink RX0 146 yX0_errorOf, Cond.methodLink RL 176 yX1_bestBee, Cond.instanceMethod yX1_bestBee, Cond.selects RX1 yX1_bestBee yX1_bestBee, Cond.code yX1_bestBee cX1_bestBee 1 (some .int), Cond.methodLink RX1 138 yX1_best, Cond.instanceMethod yX1_best, Cond.selects RX1 yX1_best yX1_best]
def wsL_law0_r21 : List Cond := [Cond.code yX1_best cX1_best 3 (some .int), Cond.methodLink RX1 81 Lib.Math.abs.name, Cond.methodLink RL 177 yL_nextTick, Cond.static yL_nextTick, Cond.codeWith yL_nextTick cL_nextTick 4 (some .int) [(0, 9, 12, 24)], Cond.methodLink RL 70 yX0_nextTick, Cond.instanceMethod yX0_nextTick, Cond.selects RX0 yX0_nextTick yX0_nextTick, Cond.code yX0_nextTick cX0_nextTick 3 (some .int), Cond.methodLink RL 179 yX1_nextTick, Cond.instanceMethod yX1_nextTick, Cond.selects RX1 yX1_nextTick yX1_nextTick, Cond.code yX1_nextTick cX1_nextTick 2 (some .int), Cond.methodLink RX1 141 yX1_next, Cond.instanceMethod yX1_next, Cond.selects RX1 yX1_next yX1_next, Cond.code yX1_next cX1_next 3 (some .int), Cond.methodLink RL 180 yX0_tea, Cond.instanceMethod yX0_tea, Cond.selects RX0 yX0_tea yX0_tea, Cond.code yX0_tea cX0_tea 1 (some .int), Cond.methodLink RL 183 yX1_tea, Cond.instanceMethod yX1_tea, Cond.selects RX1 yX1_tea yX1_tea]
def wsL_law0_r22 : List Cond := [Cond.code yX1_tea cX1_tea 1 (some .int), Cond.methodLink RL 184 yX0_spilt, Cond.instanceMethod yX0_spilt, Cond.selects RX0 yX0_spilt yX0_spilt, Cond.code yX0_spilt cX0_spilt 1 (some .int), Cond.methodLink RL 187 yX1_spilt, Cond.instanceMethod yX1_spilt, Cond.selects RX1 yX1_spilt yX1_spilt, Cond.code yX1_spilt cX1_spilt 1 (some .int), Cond.methodLink RL 188 yX0_spiltAtEnd, Cond.instanceMethod yX0_spiltAtEnd, Cond.selects RX0 yX0_spiltAtEnd yX0_spiltAtEnd, Cond.code yX0_spiltAtEnd cX0_spiltAtEnd 5 (some .int), Cond.methodLink RL 191 yX1_spiltAtEnd, Cond.instanceMethod yX1_spiltAtEnd, Cond.selects RX1 yX1_spiltAtEnd yX1_spiltAtEnd, Cond.code yX1_spiltAtEnd cX1_spiltAtEnd 1 (some .int), Cond.methodLink RX1 144 yX1_atEnd, Cond.instanceMethod yX1_atEnd, Cond.selects RX1 yX1_atEnd yX1_atEnd, Cond.code yX1_atEnd cX1_atEnd 5 (some .int), Cond.methodLink RL 192 yX0_minuteOfSpill, Cond.instanceMethod yX0_minuteOfSpill, Cond.selects RX0 yX0_minuteOfSpill yX0_minuteOfSpill]
def wsL_law0_r23 : List Cond := [Cond.code yX0_minuteOfSpill cX0_minuteOfSpill 1 (some .int), Cond.methodLink RX0 158 yX0_firstSpillWith, Cond.instanceMethod yX0_firstSpillWith, Cond.selects RX0 yX0_firstSpillWith yX0_firstSpillWith, Cond.code yX0_firstSpillWith cX0_firstSpillWith 4 (some .int), Cond.methodLink RL 195 yX1_minuteOfSpill, Cond.instanceMethod yX1_minuteOfSpill, Cond.selects RX1 yX1_minuteOfSpill yX1_minuteOfSpill, Cond.code yX1_minuteOfSpill cX1_minuteOfSpill 1 (some .int), Cond.methodLink RX1 97 yX1_spill, Cond.instanceMethod yX1_spill, Cond.selects RX1 yX1_spill yX1_spill, Cond.code yX1_spill cX1_spill 4 (some .int), Cond.methodLink RL 196 yX0_safeRate, Cond.instanceMethod yX0_safeRate, Cond.selects RX0 yX0_safeRate yX0_safeRate, Cond.code yX0_safeRate cX0_safeRate 2 (some .int), Cond.methodLink RL 199 yX1_safeRate, Cond.instanceMethod yX1_safeRate, Cond.selects RX1 yX1_safeRate yX1_safeRate, Cond.code yX1_safeRate cX1_safeRate 1 (some .int), Cond.methodLink RX1 147 yX1_safest, Cond.instanceMethod yX1_safest, Cond.selects RX1 yX1_safest yX1_safest]
def wsL_law0_r24 : List Cond := [Cond.code yX1_safest cX1_safest 2 (some .int), Cond.methodLink RL 200 yX0_bestToGiveUp, Cond.instanceMethod yX0_bestToGiveUp, Cond.selects RX0 yX0_bestToGiveUp yX0_bestToGiveUp, Cond.code yX0_bestToGiveUp cX0_bestToGiveUp 5 (some .int), Cond.methodLink RL 203 yX1_bestToGiveUp, Cond.instanceMethod yX1_bestToGiveUp, Cond.selects RX1 yX1_bestToGiveUp yX1_bestToGiveUp, Cond.code yX1_bestToGiveUp cX1_bestToGiveUp 1 (some .int), Cond.methodLink RX1 150 yX1_worst, Cond.instanceMethod yX1_worst, Cond.selects RX1 yX1_worst yX1_worst, Cond.code yX1_worst cX1_worst 3 (some .int), Cond.methodLink RL 204 yX0_meanLastShadow, Cond.instanceMethod yX0_meanLastShadow, Cond.selects RX0 yX0_meanLastShadow yX0_meanLastShadow, Cond.code yX0_meanLastShadow cX0_meanLastShadow 1 (some .double), Cond.methodLink RL 208 yX1_meanLastShadow, Cond.instanceMethod yX1_meanLastShadow, Cond.selects RX1 yX1_meanLastShadow yX1_meanLastShadow, Cond.code yX1_meanLastShadow cX1_meanLastShadow 3 (some .double), Cond.methodLink RL 209 yX0_digest, Cond.instanceMethod yX0_digest, Cond.selects RX0 yX0_digest yX0_digest]
def wsL_law0_r25 : List Cond := [Cond.code yX0_digest cX0_digest 3 (some .long), Cond.constantLong RX0 161 (2083), Cond.constantLong RX0 163 (31), Cond.methodLink RX0 165 yX0_longestAwake, Cond.methodLink RX0 168 yX0_spiltAtEnd, Cond.methodLink RX0 171 yX0_safeRate, Cond.methodLink RX0 174 yX0_bestToGiveUp, Cond.methodLink RX0 177 yX0_bestBee, Cond.methodLink RX0 180 yX0_withSticks, Cond.instanceMethod yX0_withSticks, Cond.selects RX0 yX0_withSticks yX0_withSticks, Cond.code yX0_withSticks cX0_withSticks 6 (some .long), Cond.methodLink RX0 184 yX0_withNaps, Cond.instanceMethod yX0_withNaps, Cond.selects RX0 yX0_withNaps yX0_withNaps, Cond.code yX0_withNaps cX0_withNaps 6 (some .long), Cond.methodLink RX0 187 yX0_withBees, Cond.instanceMethod yX0_withBees, Cond.selects RX0 yX0_withBees yX0_withBees, Cond.code yX0_withBees cX0_withBees 6 (some .long), Cond.methodLink RX0 204 yX0_nextTick, Cond.methodLink RL 213 yX1_digest, Cond.instanceMethod yX1_digest, Cond.selects RX1 yX1_digest yX1_digest]
def wsL_law0_r26 : List Cond := [Cond.code yX1_digest cX1_digest 8 (some .long), Cond.constantLong RX1 153 (2083), Cond.constantLong RX1 155 (31)]
def wsL_law0 : List Cond := (wsL_law0_r1 ++ (wsL_law0_r2 ++ (wsL_law0_r3 ++ (wsL_law0_r4 ++ (wsL_law0_r5 ++ (wsL_law0_r6 ++ (wsL_law0_r7 ++ (wsL_law0_r8 ++ (wsL_law0_r9 ++ (wsL_law0_r10 ++ (wsL_law0_r11 ++ (wsL_law0_r12 ++ (wsL_law0_r13 ++ (wsL_law0_r14 ++ (wsL_law0_r15 ++ (wsL_law0_r16 ++ (wsL_law0_r17 ++ (wsL_law0_r18 ++ (wsL_law0_r19 ++ (wsL_law0_r20 ++ (wsL_law0_r21 ++ (wsL_law0_r22 ++ (wsL_law0_r23 ++ (wsL_law0_r24 ++ (wsL_law0_r25 ++ wsL_law0_r26))))))))))))))))))))))))) ++ wsX00 ++ wsX10 ++ ([] : List Cond)
def wsL_law : List Cond := wsL_law0 ++ (vx_atS RX0 45 "java/lang/IllegalArgumentException" ["java/lang/RuntimeException", "java/lang/Exception"]).filter goodWord ++ (vx_atS RX0 55 "java/lang/IllegalStateException" ["java/lang/RuntimeException", "java/lang/Exception"]).filter goodWord ++ (vx_atS RX0 196 "java/lang/IndexOutOfBoundsException" ["java/lang/RuntimeException", "java/lang/Exception"]).filter goodWord
abbrev vwCl : List vw_C := [(RX0, TX0, 17), (RX1, TX1, 17)]
end
section
set_option maxRecDepth 20000 in
theorem inq_1 : ∀ w ∈ wsL_law0_r1, w ∈ lw_tbl := fun w h => (goodIn_p wsL_law0_r1 [56, 59] (by decide +kernel) (by decide +kernel) w h).1
set_option maxRecDepth 20000 in
theorem inq_2 : ∀ w ∈ wsL_law0_r2, w ∈ lw_tbl := fun w h => (goodIn_p wsL_law0_r2 [523, 343] (by decide +kernel) (by decide +kernel) w h).1
set_option maxRecDepth 20000 in
theorem inq_3 : ∀ w ∈ wsL_law0_r3, w ∈ lw_tbl := fun w h => (goodIn_p wsL_law0_r3 [584, 587, 591, 580] (by decide +kernel) (by decide +kernel) w h).1
set_option maxRecDepth 20000 in
theorem inq_4 : ∀ w ∈ wsL_law0_r4, w ∈ lw_tbl := fun w h => (goodIn_p wsL_law0_r4 [382, 388, 295, 595, 599] (by decide +kernel) (by decide +kernel) w h).1
set_option maxRecDepth 20000 in
theorem inq_5 : ∀ w ∈ wsL_law0_r5, w ∈ lw_tbl := fun w h => (goodIn_p wsL_law0_r5 [396, 400, 603, 607] (by decide +kernel) (by decide +kernel) w h).1
set_option maxRecDepth 20000 in
theorem inq_6 : ∀ w ∈ wsL_law0_r6, w ∈ lw_tbl := fun w h => (goodIn_p wsL_law0_r6 [408, 248, 611, 417] (by decide +kernel) (by decide +kernel) w h).1
set_option maxRecDepth 20000 in
theorem inq_7 : ∀ w ∈ wsL_law0_r7, w ∈ lw_tbl := fun w h => (goodIn_p wsL_law0_r7 [424, 271, 140, 615, 431] (by decide +kernel) (by decide +kernel) w h).1
set_option maxRecDepth 20000 in
theorem inq_8 : ∀ w ∈ wsL_law0_r8, w ∈ lw_tbl := fun w h => (goodIn_p wsL_law0_r8 [267, 620, 624, 639, 628] (by decide +kernel) (by decide +kernel) w h).1
set_option maxRecDepth 20000 in
theorem inq_9 : ∀ w ∈ wsL_law0_r9, w ∈ lw_tbl := fun w h => (goodIn_p wsL_law0_r9 [632, 636, 116, 643, 120, 647] (by decide +kernel) (by decide +kernel) w h).1
set_option maxRecDepth 20000 in
theorem inq_10 : ∀ w ∈ wsL_law0_r10, w ∈ lw_tbl := fun w h => (goodIn_p wsL_law0_r10 [651, 124, 655, 440, 444] (by decide +kernel) (by decide +kernel) w h).1
set_option maxRecDepth 20000 in
theorem inq_11 : ∀ w ∈ wsL_law0_r11, w ∈ lw_tbl := fun w h => (goodIn_p wsL_law0_r11 [659, 662, 128, 666, 670, 132] (by decide +kernel) (by decide +kernel) w h).1
set_option maxRecDepth 20000 in
theorem inq_12 : ∀ w ∈ wsL_law0_r12, w ∈ lw_tbl := fun w h => (goodIn_p wsL_law0_r12 [674, 137, 678, 682, 144, 686] (by decide +kernel) (by decide +kernel) w h).1
set_option maxRecDepth 20000 in
theorem inq_13 : ∀ w ∈ wsL_law0_r13, w ∈ lw_tbl := fun w h => (goodIn_p wsL_law0_r13 [452, 456, 307, 690, 694] (by decide +kernel) (by decide +kernel) w h).1
set_option maxRecDepth 20000 in
theorem inq_14 : ∀ w ∈ wsL_law0_r14, w ∈ lw_tbl := fun w h => (goodIn_p wsL_law0_r14 [698, 464, 702, 471, 303] (by decide +kernel) (by decide +kernel) w h).1
set_option maxRecDepth 20000 in
theorem inq_15 : ∀ w ∈ wsL_law0_r15, w ∈ lw_tbl := fun w h => (goodIn_p wsL_law0_r15 [706, 148, 710, 478, 714] (by decide +kernel) (by decide +kernel) w h).1
set_option maxRecDepth 20000 in
theorem inq_16 : ∀ w ∈ wsL_law0_r16, w ∈ lw_tbl := fun w h => (goodIn_p wsL_law0_r16 [485, 718, 492, 722] (by decide +kernel) (by decide +kernel) w h).1
set_option maxRecDepth 20000 in
theorem inq_17 : ∀ w ∈ wsL_law0_r17, w ∈ lw_tbl := fun w h => (goodIn_p wsL_law0_r17 [499, 291, 726, 730, 152, 734] (by decide +kernel) (by decide +kernel) w h).1
set_option maxRecDepth 20000 in
theorem inq_18 : ∀ w ∈ wsL_law0_r18, w ∈ lw_tbl := fun w h => (goodIn_p wsL_law0_r18 [506, 168, 240, 244, 738] (by decide +kernel) (by decide +kernel) w h).1
set_option maxRecDepth 20000 in
theorem inq_19 : ∀ w ∈ wsL_law0_r19, w ∈ lw_tbl := fun w h => (goodIn_p wsL_law0_r19 [742, 746, 164, 750, 160] (by decide +kernel) (by decide +kernel) w h).1
set_option maxRecDepth 20000 in
theorem inq_20 : ∀ w ∈ wsL_law0_r20, w ∈ lw_tbl := fun w h => (goodIn_p wsL_law0_r20 [754, 758, 156, 251, 762] (by decide +kernel) (by decide +kernel) w h).1
set_option maxRecDepth 20000 in
theorem inq_21 : ∀ w ∈ wsL_law0_r21, w ∈ lw_tbl := fun w h => (goodIn_p wsL_law0_r21 [766, 334, 771, 775, 255] (by decide +kernel) (by decide +kernel) w h).1
set_option maxRecDepth 20000 in
theorem inq_22 : ∀ w ∈ wsL_law0_r22, w ∈ lw_tbl := fun w h => (goodIn_p wsL_law0_r22 [779, 259, 783, 263, 787, 791] (by decide +kernel) (by decide +kernel) w h).1
set_option maxRecDepth 20000 in
theorem inq_23 : ∀ w ∈ wsL_law0_r23, w ∈ lw_tbl := fun w h => (goodIn_p wsL_law0_r23 [275, 279, 795, 799, 283, 803] (by decide +kernel) (by decide +kernel) w h).1
set_option maxRecDepth 20000 in
theorem inq_24 : ∀ w ∈ wsL_law0_r24, w ∈ lw_tbl := fun w h => (goodIn_p wsL_law0_r24 [807, 287, 811, 815, 299, 819] (by decide +kernel) (by decide +kernel) w h).1
set_option maxRecDepth 20000 in
theorem inq_25 : ∀ w ∈ wsL_law0_r25, w ∈ lw_tbl := fun w h => (goodIn_p wsL_law0_r25 [311, 322, 326, 330] (by decide +kernel) (by decide +kernel) w h).1
set_option maxRecDepth 20000 in
theorem inq_26 : ∀ w ∈ wsL_law0_r26, w ∈ lw_tbl := fun w h => (goodIn_p wsL_law0_r26 [823] (by decide +kernel) (by decide +kernel) w h).1
theorem inq_X0 : ∀ w ∈ wsX00, w ∈ lw_tbl := by decide +kernel
theorem inq_X1 : ∀ w ∈ wsX10, w ∈ lw_tbl := by decide +kernel
theorem inq_app {a b c : List Cond} (ha : ∀ w ∈ a, w ∈ c) (hb : ∀ w ∈ b, w ∈ c) : ∀ w ∈ a ++ b, w ∈ c := fun w h => (List.mem_append.mp h).elim (ha w) (hb w)
theorem wsL_law_in0 : ∀ w ∈ wsL_law0, w ∈ lw_tbl := inq_app (inq_app (inq_app (inq_app inq_1 (inq_app inq_2 (inq_app inq_3 (inq_app inq_4 (inq_app inq_5 (inq_app inq_6 (inq_app inq_7 (inq_app inq_8 (inq_app inq_9 (inq_app inq_10 (inq_app inq_11 (inq_app inq_12 (inq_app inq_13 (inq_app inq_14 (inq_app inq_15 (inq_app inq_16 (inq_app inq_17 (inq_app inq_18 (inq_app inq_19 (inq_app inq_20 (inq_app inq_21 (inq_app inq_22 (inq_app inq_23 (inq_app inq_24 (inq_app inq_25 (inq_26)))))))))))))))))))))))))) inq_X0) inq_X1) (fun _ h => nomatch h)
theorem wsL_law_x0 : ∀ w ∈ (vx_atS RX0 45 "java/lang/IllegalArgumentException" ["java/lang/RuntimeException", "java/lang/Exception"]).filter goodWord, w ∈ lw_tbl := by decide +kernel
theorem wsL_law_x1 : ∀ w ∈ (vx_atS RX0 55 "java/lang/IllegalStateException" ["java/lang/RuntimeException", "java/lang/Exception"]).filter goodWord, w ∈ lw_tbl := by decide +kernel
theorem wsL_law_x2 : ∀ w ∈ (vx_atS RX0 196 "java/lang/IndexOutOfBoundsException" ["java/lang/RuntimeException", "java/lang/Exception"]).filter goodWord, w ∈ lw_tbl := by decide +kernel
theorem wsL_law_in : ∀ w ∈ wsL_law, w ∈ lw_tbl := fun w h => (List.mem_append.mp h).elim (fun h => (List.mem_append.mp h).elim (fun h => (List.mem_append.mp h).elim (fun h => wsL_law_in0 w h) (fun h => wsL_law_x0 w h)) (fun h => wsL_law_x1 w h)) (fun h => wsL_law_x2 w h)
theorem inlX0 : ∀ w ∈ wsX00, w ∈ wsL_law := fun _ h => List.mem_append_left _ (List.mem_append_left _ (List.mem_append_left _ (List.mem_append_left _ (List.mem_append_left _ (List.mem_append_right _ h)))))
theorem inX0 : ∀ w ∈ wsX00, w ∈ lw_tbl := fun w h => wsL_law_in w (inlX0 w h)
theorem inlX1 : ∀ w ∈ wsX10, w ∈ wsL_law := fun _ h => List.mem_append_left _ (List.mem_append_left _ (List.mem_append_left _ (List.mem_append_left _ (List.mem_append_right _ h))))
theorem inX1 : ∀ w ∈ wsX10, w ∈ lw_tbl := fun w h => wsL_law_in w (inlX1 w h)
theorem inJ9 : ∀ w ∈ wsJ90, w ∈ lw_tbl := by decide +kernel
theorem inJ0 : ∀ w ∈ wsJ00, w ∈ lw_tbl := by decide +kernel
end
section
theorem dX0_init_0 : decode cX0_init 0 = .ok (.aload_n 0, 1) := by decide +kernel
theorem dX0_init_1 : decode cX0_init 1 = .ok (.invokespecial 1, 3) := by decide +kernel
theorem dX0_init_4 : decode cX0_init 4 = .ok (.aload_n 0, 1) := by decide +kernel
theorem dX0_init_5 : decode cX0_init 5 = .ok (.iconst 4, 1) := by decide +kernel
theorem dX0_init_6 : decode cX0_init 6 = .ok (.newarray .int, 2) := by decide +kernel
theorem dX0_init_8 : decode cX0_init 8 = .ok (.putfield 9, 3) := by decide +kernel
theorem dX0_init_11 : decode cX0_init 11 = .ok (.aload_n 0, 1) := by decide +kernel
theorem dX0_init_12 : decode cX0_init 12 = .ok (.bipush 8, 2) := by decide +kernel
theorem dX0_init_14 : decode cX0_init 14 = .ok (.newarray .int, 2) := by decide +kernel
theorem dX0_init_16 : decode cX0_init 16 = .ok (.putfield 13, 3) := by decide +kernel
theorem dX0_init_19 : decode cX0_init 19 = .ok (.aload_n 0, 1) := by decide +kernel
theorem dX0_init_20 : decode cX0_init 20 = .ok (.bipush 8, 2) := by decide +kernel
theorem dX0_init_22 : decode cX0_init 22 = .ok (.newarray .int, 2) := by decide +kernel
theorem dX0_init_24 : decode cX0_init 24 = .ok (.putfield 16, 3) := by decide +kernel
theorem dX0_init_27 : decode cX0_init 27 = .ok (.aload_n 0, 1) := by decide +kernel
theorem dX0_init_28 : decode cX0_init 28 = .ok (.sipush 360, 3) := by decide +kernel
theorem dX0_init_31 : decode cX0_init 31 = .ok (.newarray .int, 2) := by decide +kernel
theorem dX0_init_33 : decode cX0_init 33 = .ok (.putfield 19, 3) := by decide +kernel
theorem dX0_init_36 : decode cX0_init 36 = .ok (.aload_n 0, 1) := by decide +kernel
theorem dX0_init_37 : decode cX0_init 37 = .ok (.bipush 6, 2) := by decide +kernel
theorem dX0_init_39 : decode cX0_init 39 = .ok (.newarray .int, 2) := by decide +kernel
theorem dX0_init_41 : decode cX0_init 41 = .ok (.putfield 22, 3) := by decide +kernel
theorem dX0_init_44 : decode cX0_init 44 = .ok (.aload_n 0, 1) := by decide +kernel
theorem dX0_init_45 : decode cX0_init 45 = .ok (.bipush 6, 2) := by decide +kernel
theorem dX0_init_47 : decode cX0_init 47 = .ok (.newarray .int, 2) := by decide +kernel
theorem dX0_init_49 : decode cX0_init 49 = .ok (.putfield 25, 3) := by decide +kernel
theorem dX0_init_52 : decode cX0_init 52 = .ok (.aload_n 0, 1) := by decide +kernel
theorem dX0_init_53 : decode cX0_init 53 = .ok (.sipush 360, 3) := by decide +kernel
theorem dX0_init_56 : decode cX0_init 56 = .ok (.newarray .int, 2) := by decide +kernel
theorem dX0_init_58 : decode cX0_init 58 = .ok (.putfield 28, 3) := by decide +kernel
theorem dX0_init_61 : decode cX0_init 61 = .ok (.aload_n 0, 1) := by decide +kernel
theorem dX0_init_62 : decode cX0_init 62 = .ok (.bipush 20, 2) := by decide +kernel
theorem dX0_init_64 : decode cX0_init 64 = .ok (.putfield 31, 3) := by decide +kernel
theorem dX0_init_67 : decode cX0_init 67 = .ok (.aload_n 0, 1) := by decide +kernel
theorem dX0_init_68 : decode cX0_init 68 = .ok (.iconst 1, 1) := by decide +kernel
theorem dX0_init_69 : decode cX0_init 69 = .ok (.putfield 35, 3) := by decide +kernel
theorem dX0_init_72 : decode cX0_init 72 = .ok (.aload_n 0, 1) := by decide +kernel
theorem dX0_init_73 : decode cX0_init 73 = .ok (.iconst 3, 1) := by decide +kernel
theorem dX0_init_74 : decode cX0_init 74 = .ok (.putfield 38, 3) := by decide +kernel
theorem dX0_init_77 : decode cX0_init 77 = .ok (.return_, 1) := by decide +kernel
theorem dX0_addStick_0 : decode cX0_addStick 0 = .ok (.iload_n 1, 1) := by decide +kernel
theorem dX0_addStick_1 : decode cX0_addStick 1 = .ok (.iconst 1, 1) := by decide +kernel
theorem dX0_addStick_2 : decode cX0_addStick 2 = .ok (.if_icmp .lt 9, 3) := by decide +kernel
theorem dX0_addStick_5 : decode cX0_addStick 5 = .ok (.iload_n 1, 1) := by decide +kernel
theorem dX0_addStick_6 : decode cX0_addStick 6 = .ok (.bipush 30, 2) := by decide +kernel
theorem dX0_addStick_8 : decode cX0_addStick 8 = .ok (.if_icmp .le 13, 3) := by decide +kernel
theorem dX0_addStick_11 : decode cX0_addStick 11 = .ok (.new 41, 3) := by decide +kernel
theorem dX0_addStick_14 : decode cX0_addStick 14 = .ok (.dup, 1) := by decide +kernel
theorem dX0_addStick_15 : decode cX0_addStick 15 = .ok (.ldc 43, 2) := by decide +kernel
theorem dX0_addStick_17 : decode cX0_addStick 17 = .ok (.invokespecial 45, 3) := by decide +kernel
theorem dX0_addStick_20 : decode cX0_addStick 20 = .ok (.athrow, 1) := by decide +kernel
theorem dX0_addStick_21 : decode cX0_addStick 21 = .ok (.aload_n 0, 1) := by decide +kernel
theorem dX0_addStick_22 : decode cX0_addStick 22 = .ok (.getfield 48, 3) := by decide +kernel
theorem dX0_addStick_25 : decode cX0_addStick 25 = .ok (.iconst 4, 1) := by decide +kernel
theorem dX0_addStick_26 : decode cX0_addStick 26 = .ok (.if_icmp .lt 13, 3) := by decide +kernel
theorem dX0_addStick_29 : decode cX0_addStick 29 = .ok (.new 51, 3) := by decide +kernel
theorem dX0_addStick_32 : decode cX0_addStick 32 = .ok (.dup, 1) := by decide +kernel
theorem dX0_addStick_33 : decode cX0_addStick 33 = .ok (.ldc 53, 2) := by decide +kernel
theorem dX0_addStick_35 : decode cX0_addStick 35 = .ok (.invokespecial 55, 3) := by decide +kernel
theorem dX0_addStick_38 : decode cX0_addStick 38 = .ok (.athrow, 1) := by decide +kernel
theorem dX0_addStick_39 : decode cX0_addStick 39 = .ok (.aload_n 0, 1) := by decide +kernel
theorem dX0_addStick_40 : decode cX0_addStick 40 = .ok (.getfield 48, 3) := by decide +kernel
theorem dX0_addStick_43 : decode cX0_addStick 43 = .ok (.istore_n 2, 1) := by decide +kernel
theorem dX0_addStick_44 : decode cX0_addStick 44 = .ok (.aload_n 0, 1) := by decide +kernel
theorem dX0_addStick_45 : decode cX0_addStick 45 = .ok (.getfield 9, 3) := by decide +kernel
theorem dX0_addStick_48 : decode cX0_addStick 48 = .ok (.iload_n 2, 1) := by decide +kernel
theorem dX0_addStick_49 : decode cX0_addStick 49 = .ok (.iload_n 1, 1) := by decide +kernel
theorem dX0_addStick_50 : decode cX0_addStick 50 = .ok (.iastore, 1) := by decide +kernel
theorem dX0_addStick_51 : decode cX0_addStick 51 = .ok (.aload_n 0, 1) := by decide +kernel
theorem dX0_addStick_52 : decode cX0_addStick 52 = .ok (.dup, 1) := by decide +kernel
theorem dX0_addStick_53 : decode cX0_addStick 53 = .ok (.getfield 48, 3) := by decide +kernel
theorem dX0_addStick_56 : decode cX0_addStick 56 = .ok (.iconst 1, 1) := by decide +kernel
theorem dX0_addStick_57 : decode cX0_addStick 57 = .ok (.iadd, 1) := by decide +kernel
theorem dX0_addStick_58 : decode cX0_addStick 58 = .ok (.putfield 48, 3) := by decide +kernel
theorem dX0_addStick_61 : decode cX0_addStick 61 = .ok (.iload_n 2, 1) := by decide +kernel
theorem dX0_addStick_62 : decode cX0_addStick 62 = .ok (.ireturn, 1) := by decide +kernel
set_option maxRecDepth 20000 in
theorem ggX0_addNap_X0_changeCover : GoodIn wsX0_addNap wsX0_changeCover := goodIn_r _ [12, 13, 14, 15, 16, 11, 17, 6, 7, 18, 19, 20, 21, 22, 23, 24, 25, 26, 27, 28, 29, 30, 31, 32, 33, 34] (by decide +kernel) (by decide +kernel)
set_option maxRecDepth 20000 in
theorem gX0_addNap_X0_changeCover : GoodIn wsX0_addNap (wsV RX0 63 RX0 yX0_changeCover wsX0_changeCover) := goodIn_app (goodIn_of _ (by decide +kernel)) ggX0_addNap_X0_changeCover
theorem dX0_addNap_0 : decode cX0_addNap 0 = .ok (.iload_n 1, 1) := by decide +kernel
theorem dX0_addNap_1 : decode cX0_addNap 1 = .ok (.ifCond .lt 15, 3) := by decide +kernel
theorem dX0_addNap_4 : decode cX0_addNap 4 = .ok (.iload_n 2, 1) := by decide +kernel
theorem dX0_addNap_5 : decode cX0_addNap 5 = .ok (.sipush 360, 3) := by decide +kernel
theorem dX0_addNap_8 : decode cX0_addNap 8 = .ok (.if_icmp .gt 8, 3) := by decide +kernel
theorem dX0_addNap_11 : decode cX0_addNap 11 = .ok (.iload_n 2, 1) := by decide +kernel
theorem dX0_addNap_12 : decode cX0_addNap 12 = .ok (.iload_n 1, 1) := by decide +kernel
theorem dX0_addNap_13 : decode cX0_addNap 13 = .ok (.if_icmp .gt 13, 3) := by decide +kernel
theorem dX0_addNap_16 : decode cX0_addNap 16 = .ok (.new 41, 3) := by decide +kernel
theorem dX0_addNap_19 : decode cX0_addNap 19 = .ok (.dup, 1) := by decide +kernel
theorem dX0_addNap_20 : decode cX0_addNap 20 = .ok (.ldc 56, 2) := by decide +kernel
theorem dX0_addNap_22 : decode cX0_addNap 22 = .ok (.invokespecial 45, 3) := by decide +kernel
theorem dX0_addNap_25 : decode cX0_addNap 25 = .ok (.athrow, 1) := by decide +kernel
theorem dX0_addNap_26 : decode cX0_addNap 26 = .ok (.aload_n 0, 1) := by decide +kernel
theorem dX0_addNap_27 : decode cX0_addNap 27 = .ok (.getfield 58, 3) := by decide +kernel
theorem dX0_addNap_30 : decode cX0_addNap 30 = .ok (.bipush 8, 2) := by decide +kernel
theorem dX0_addNap_32 : decode cX0_addNap 32 = .ok (.if_icmp .lt 13, 3) := by decide +kernel
theorem dX0_addNap_35 : decode cX0_addNap 35 = .ok (.new 51, 3) := by decide +kernel
theorem dX0_addNap_38 : decode cX0_addNap 38 = .ok (.dup, 1) := by decide +kernel
theorem dX0_addNap_39 : decode cX0_addNap 39 = .ok (.ldc 61, 2) := by decide +kernel
theorem dX0_addNap_41 : decode cX0_addNap 41 = .ok (.invokespecial 55, 3) := by decide +kernel
theorem dX0_addNap_44 : decode cX0_addNap 44 = .ok (.athrow, 1) := by decide +kernel
theorem dX0_addNap_45 : decode cX0_addNap 45 = .ok (.aload_n 0, 1) := by decide +kernel
theorem dX0_addNap_46 : decode cX0_addNap 46 = .ok (.getfield 58, 3) := by decide +kernel
theorem dX0_addNap_49 : decode cX0_addNap 49 = .ok (.istore_n 3, 1) := by decide +kernel
theorem dX0_addNap_50 : decode cX0_addNap 50 = .ok (.aload_n 0, 1) := by decide +kernel
theorem dX0_addNap_51 : decode cX0_addNap 51 = .ok (.getfield 13, 3) := by decide +kernel
theorem dX0_addNap_54 : decode cX0_addNap 54 = .ok (.iload_n 3, 1) := by decide +kernel
theorem dX0_addNap_55 : decode cX0_addNap 55 = .ok (.iload_n 1, 1) := by decide +kernel
theorem dX0_addNap_56 : decode cX0_addNap 56 = .ok (.iastore, 1) := by decide +kernel
theorem dX0_addNap_57 : decode cX0_addNap 57 = .ok (.aload_n 0, 1) := by decide +kernel
theorem dX0_addNap_58 : decode cX0_addNap 58 = .ok (.getfield 16, 3) := by decide +kernel
theorem dX0_addNap_61 : decode cX0_addNap 61 = .ok (.iload_n 3, 1) := by decide +kernel
theorem dX0_addNap_62 : decode cX0_addNap 62 = .ok (.iload_n 2, 1) := by decide +kernel
theorem dX0_addNap_63 : decode cX0_addNap 63 = .ok (.iastore, 1) := by decide +kernel
theorem dX0_addNap_64 : decode cX0_addNap 64 = .ok (.aload_n 0, 1) := by decide +kernel
theorem dX0_addNap_65 : decode cX0_addNap 65 = .ok (.dup, 1) := by decide +kernel
theorem dX0_addNap_66 : decode cX0_addNap 66 = .ok (.getfield 58, 3) := by decide +kernel
theorem dX0_addNap_69 : decode cX0_addNap 69 = .ok (.iconst 1, 1) := by decide +kernel
theorem dX0_addNap_70 : decode cX0_addNap 70 = .ok (.iadd, 1) := by decide +kernel
theorem dX0_addNap_71 : decode cX0_addNap 71 = .ok (.putfield 58, 3) := by decide +kernel
theorem dX0_addNap_74 : decode cX0_addNap 74 = .ok (.aload_n 0, 1) := by decide +kernel
theorem dX0_addNap_75 : decode cX0_addNap 75 = .ok (.iload_n 3, 1) := by decide +kernel
theorem dX0_addNap_76 : decode cX0_addNap 76 = .ok (.iconst 1, 1) := by decide +kernel
theorem dX0_addNap_77 : decode cX0_addNap 77 = .ok (.invokevirtual 63, 3) := by decide +kernel
theorem dX0_addNap_80 : decode cX0_addNap 80 = .ok (.iload_n 3, 1) := by decide +kernel
theorem dX0_addNap_81 : decode cX0_addNap 81 = .ok (.ireturn, 1) := by decide +kernel
set_option maxRecDepth 20000 in
theorem ggX0_giveUp_X0_checkNap : GoodIn wsX0_giveUp wsX0_checkNap := goodIn_ca (goodIn_r _ [8, 9, 10, 1, 20, 21, 22, 23, 24, 25, 26, 27, 28, 29, 30, 31, 32, 33, 34, 35, 36] (by decide +kernel) (by decide +kernel)) (goodIn_sub (fun _ h => List.mem_cons_of_mem _ (List.mem_append_right _ h)) (by decide +kernel))
set_option maxRecDepth 20000 in
theorem gX0_giveUp_X0_checkNap : GoodIn wsX0_giveUp (wsV RX0 67 RX0 yX0_checkNap wsX0_checkNap) := goodIn_app (goodIn_of _ (by decide +kernel)) ggX0_giveUp_X0_checkNap
set_option maxRecDepth 20000 in
theorem ggX0_giveUp_X0_changeCover : GoodIn wsX0_giveUp wsX0_changeCover := goodIn_r _ [14, 15, 16, 17, 18, 7, 19, 2, 3, 20, 21, 22, 23, 24, 25, 26, 27, 28, 29, 30, 31, 32, 33, 34, 35, 36] (by decide +kernel) (by decide +kernel)
set_option maxRecDepth 20000 in
theorem gX0_giveUp_X0_changeCover : GoodIn wsX0_giveUp (wsV RX0 63 RX0 yX0_changeCover wsX0_changeCover) := goodIn_app (goodIn_of _ (by decide +kernel)) ggX0_giveUp_X0_changeCover
theorem dX0_giveUp_0 : decode cX0_giveUp 0 = .ok (.aload_n 0, 1) := by decide +kernel
theorem dX0_giveUp_1 : decode cX0_giveUp 1 = .ok (.iload_n 1, 1) := by decide +kernel
theorem dX0_giveUp_2 : decode cX0_giveUp 2 = .ok (.invokevirtual 67, 3) := by decide +kernel
theorem dX0_giveUp_5 : decode cX0_giveUp 5 = .ok (.aload_n 0, 1) := by decide +kernel
theorem dX0_giveUp_6 : decode cX0_giveUp 6 = .ok (.iload_n 1, 1) := by decide +kernel
theorem dX0_giveUp_7 : decode cX0_giveUp 7 = .ok (.iconst (-1), 1) := by decide +kernel
theorem dX0_giveUp_8 : decode cX0_giveUp 8 = .ok (.invokevirtual 63, 3) := by decide +kernel
theorem dX0_giveUp_11 : decode cX0_giveUp 11 = .ok (.aload_n 0, 1) := by decide +kernel
theorem dX0_giveUp_12 : decode cX0_giveUp 12 = .ok (.dup, 1) := by decide +kernel
theorem dX0_giveUp_13 : decode cX0_giveUp 13 = .ok (.getfield 58, 3) := by decide +kernel
theorem dX0_giveUp_16 : decode cX0_giveUp 16 = .ok (.iconst 1, 1) := by decide +kernel
theorem dX0_giveUp_17 : decode cX0_giveUp 17 = .ok (.isub, 1) := by decide +kernel
theorem dX0_giveUp_18 : decode cX0_giveUp 18 = .ok (.putfield 58, 3) := by decide +kernel
theorem dX0_giveUp_21 : decode cX0_giveUp 21 = .ok (.iload_n 1, 1) := by decide +kernel
theorem dX0_giveUp_22 : decode cX0_giveUp 22 = .ok (.istore_n 2, 1) := by decide +kernel
theorem dX0_giveUp_23 : decode cX0_giveUp 23 = .ok (.iload_n 2, 1) := by decide +kernel
theorem dX0_giveUp_24 : decode cX0_giveUp 24 = .ok (.aload_n 0, 1) := by decide +kernel
theorem dX0_giveUp_25 : decode cX0_giveUp 25 = .ok (.getfield 58, 3) := by decide +kernel
theorem dX0_giveUp_28 : decode cX0_giveUp 28 = .ok (.if_icmp .ge 37, 3) := by decide +kernel
theorem dX0_giveUp_31 : decode cX0_giveUp 31 = .ok (.aload_n 0, 1) := by decide +kernel
theorem dX0_giveUp_32 : decode cX0_giveUp 32 = .ok (.getfield 13, 3) := by decide +kernel
theorem dX0_giveUp_35 : decode cX0_giveUp 35 = .ok (.iload_n 2, 1) := by decide +kernel
theorem dX0_giveUp_36 : decode cX0_giveUp 36 = .ok (.aload_n 0, 1) := by decide +kernel
theorem dX0_giveUp_37 : decode cX0_giveUp 37 = .ok (.getfield 13, 3) := by decide +kernel
theorem dX0_giveUp_40 : decode cX0_giveUp 40 = .ok (.iload_n 2, 1) := by decide +kernel
theorem dX0_giveUp_41 : decode cX0_giveUp 41 = .ok (.iconst 1, 1) := by decide +kernel
theorem dX0_giveUp_42 : decode cX0_giveUp 42 = .ok (.iadd, 1) := by decide +kernel
theorem dX0_giveUp_43 : decode cX0_giveUp 43 = .ok (.iaload, 1) := by decide +kernel
theorem dX0_giveUp_44 : decode cX0_giveUp 44 = .ok (.iastore, 1) := by decide +kernel
theorem dX0_giveUp_45 : decode cX0_giveUp 45 = .ok (.aload_n 0, 1) := by decide +kernel
theorem dX0_giveUp_46 : decode cX0_giveUp 46 = .ok (.getfield 16, 3) := by decide +kernel
theorem dX0_giveUp_49 : decode cX0_giveUp 49 = .ok (.iload_n 2, 1) := by decide +kernel
theorem dX0_giveUp_50 : decode cX0_giveUp 50 = .ok (.aload_n 0, 1) := by decide +kernel
theorem dX0_giveUp_51 : decode cX0_giveUp 51 = .ok (.getfield 16, 3) := by decide +kernel
theorem dX0_giveUp_54 : decode cX0_giveUp 54 = .ok (.iload_n 2, 1) := by decide +kernel
theorem dX0_giveUp_55 : decode cX0_giveUp 55 = .ok (.iconst 1, 1) := by decide +kernel
theorem dX0_giveUp_56 : decode cX0_giveUp 56 = .ok (.iadd, 1) := by decide +kernel
theorem dX0_giveUp_57 : decode cX0_giveUp 57 = .ok (.iaload, 1) := by decide +kernel
theorem dX0_giveUp_58 : decode cX0_giveUp 58 = .ok (.iastore, 1) := by decide +kernel
theorem dX0_giveUp_59 : decode cX0_giveUp 59 = .ok (.iinc 2 1, 3) := by decide +kernel
theorem dX0_giveUp_62 : decode cX0_giveUp 62 = .ok (.goto (-39), 3) := by decide +kernel
theorem dX0_giveUp_65 : decode cX0_giveUp 65 = .ok (.aload_n 0, 1) := by decide +kernel
theorem dX0_giveUp_66 : decode cX0_giveUp 66 = .ok (.getfield 58, 3) := by decide +kernel
theorem dX0_giveUp_69 : decode cX0_giveUp 69 = .ok (.ireturn, 1) := by decide +kernel
set_option maxRecDepth 20000 in
theorem ggX0_addBee_X0_hasBeatIn : GoodIn wsX0_addBee wsX0_hasBeatIn := goodIn_r _ [13, 6, 7, 14, 15, 16, 17, 18, 19, 20, 21, 22, 23, 24, 25, 26, 27, 28, 29, 30] (by decide +kernel) (by decide +kernel)
set_option maxRecDepth 20000 in
theorem gX0_addBee_X0_hasBeatIn : GoodIn wsX0_addBee (wsV RX0 78 RX0 yX0_hasBeatIn wsX0_hasBeatIn) := goodIn_app (goodIn_of _ (by decide +kernel)) ggX0_addBee_X0_hasBeatIn
theorem dX0_addBee_0 : decode cX0_addBee 0 = .ok (.iload_n 1, 1) := by decide +kernel
theorem dX0_addBee_1 : decode cX0_addBee 1 = .ok (.iconst 2, 1) := by decide +kernel
theorem dX0_addBee_2 : decode cX0_addBee 2 = .ok (.if_icmp .lt 18, 3) := by decide +kernel
theorem dX0_addBee_5 : decode cX0_addBee 5 = .ok (.iload_n 1, 1) := by decide +kernel
theorem dX0_addBee_6 : decode cX0_addBee 6 = .ok (.bipush 30, 2) := by decide +kernel
theorem dX0_addBee_8 : decode cX0_addBee 8 = .ok (.if_icmp .gt 12, 3) := by decide +kernel
theorem dX0_addBee_11 : decode cX0_addBee 11 = .ok (.iload_n 2, 1) := by decide +kernel
theorem dX0_addBee_12 : decode cX0_addBee 12 = .ok (.ifCond .lt 8, 3) := by decide +kernel
theorem dX0_addBee_15 : decode cX0_addBee 15 = .ok (.iload_n 2, 1) := by decide +kernel
theorem dX0_addBee_16 : decode cX0_addBee 16 = .ok (.iload_n 1, 1) := by decide +kernel
theorem dX0_addBee_17 : decode cX0_addBee 17 = .ok (.if_icmp .lt 13, 3) := by decide +kernel
theorem dX0_addBee_20 : decode cX0_addBee 20 = .ok (.new 41, 3) := by decide +kernel
theorem dX0_addBee_23 : decode cX0_addBee 23 = .ok (.dup, 1) := by decide +kernel
theorem dX0_addBee_24 : decode cX0_addBee 24 = .ok (.ldc 71, 2) := by decide +kernel
theorem dX0_addBee_26 : decode cX0_addBee 26 = .ok (.invokespecial 45, 3) := by decide +kernel
theorem dX0_addBee_29 : decode cX0_addBee 29 = .ok (.athrow, 1) := by decide +kernel
theorem dX0_addBee_30 : decode cX0_addBee 30 = .ok (.aload_n 0, 1) := by decide +kernel
theorem dX0_addBee_31 : decode cX0_addBee 31 = .ok (.getfield 73, 3) := by decide +kernel
theorem dX0_addBee_34 : decode cX0_addBee 34 = .ok (.bipush 6, 2) := by decide +kernel
theorem dX0_addBee_36 : decode cX0_addBee 36 = .ok (.if_icmp .lt 13, 3) := by decide +kernel
theorem dX0_addBee_39 : decode cX0_addBee 39 = .ok (.new 51, 3) := by decide +kernel
theorem dX0_addBee_42 : decode cX0_addBee 42 = .ok (.dup, 1) := by decide +kernel
theorem dX0_addBee_43 : decode cX0_addBee 43 = .ok (.ldc 76, 2) := by decide +kernel
theorem dX0_addBee_45 : decode cX0_addBee 45 = .ok (.invokespecial 55, 3) := by decide +kernel
theorem dX0_addBee_48 : decode cX0_addBee 48 = .ok (.athrow, 1) := by decide +kernel
theorem dX0_addBee_49 : decode cX0_addBee 49 = .ok (.aload_n 0, 1) := by decide +kernel
theorem dX0_addBee_50 : decode cX0_addBee 50 = .ok (.getfield 73, 3) := by decide +kernel
theorem dX0_addBee_53 : decode cX0_addBee 53 = .ok (.istore_n 3, 1) := by decide +kernel
theorem dX0_addBee_54 : decode cX0_addBee 54 = .ok (.aload_n 0, 1) := by decide +kernel
theorem dX0_addBee_55 : decode cX0_addBee 55 = .ok (.getfield 22, 3) := by decide +kernel
theorem dX0_addBee_58 : decode cX0_addBee 58 = .ok (.iload_n 3, 1) := by decide +kernel
theorem dX0_addBee_59 : decode cX0_addBee 59 = .ok (.iload_n 1, 1) := by decide +kernel
theorem dX0_addBee_60 : decode cX0_addBee 60 = .ok (.iastore, 1) := by decide +kernel
theorem dX0_addBee_61 : decode cX0_addBee 61 = .ok (.aload_n 0, 1) := by decide +kernel
theorem dX0_addBee_62 : decode cX0_addBee 62 = .ok (.getfield 25, 3) := by decide +kernel
theorem dX0_addBee_65 : decode cX0_addBee 65 = .ok (.iload_n 3, 1) := by decide +kernel
theorem dX0_addBee_66 : decode cX0_addBee 66 = .ok (.iload_n 2, 1) := by decide +kernel
theorem dX0_addBee_67 : decode cX0_addBee 67 = .ok (.iastore, 1) := by decide +kernel
theorem dX0_addBee_68 : decode cX0_addBee 68 = .ok (.aload_n 0, 1) := by decide +kernel
theorem dX0_addBee_69 : decode cX0_addBee 69 = .ok (.dup, 1) := by decide +kernel
theorem dX0_addBee_70 : decode cX0_addBee 70 = .ok (.getfield 73, 3) := by decide +kernel
theorem dX0_addBee_73 : decode cX0_addBee 73 = .ok (.iconst 1, 1) := by decide +kernel
theorem dX0_addBee_74 : decode cX0_addBee 74 = .ok (.iadd, 1) := by decide +kernel
theorem dX0_addBee_75 : decode cX0_addBee 75 = .ok (.putfield 73, 3) := by decide +kernel
theorem dX0_addBee_78 : decode cX0_addBee 78 = .ok (.iconst 0, 1) := by decide +kernel
theorem dX0_addBee_79 : decode cX0_addBee 79 = .ok (.istore 4, 2) := by decide +kernel
theorem dX0_addBee_81 : decode cX0_addBee 81 = .ok (.iload 4, 2) := by decide +kernel
theorem dX0_addBee_83 : decode cX0_addBee 83 = .ok (.sipush 360, 3) := by decide +kernel
theorem dX0_addBee_86 : decode cX0_addBee 86 = .ok (.if_icmp .ge 30, 3) := by decide +kernel
theorem dX0_addBee_89 : decode cX0_addBee 89 = .ok (.aload_n 0, 1) := by decide +kernel
theorem dX0_addBee_90 : decode cX0_addBee 90 = .ok (.iload_n 3, 1) := by decide +kernel
theorem dX0_addBee_91 : decode cX0_addBee 91 = .ok (.iload 4, 2) := by decide +kernel
theorem dX0_addBee_93 : decode cX0_addBee 93 = .ok (.invokevirtual 78, 3) := by decide +kernel
theorem dX0_addBee_96 : decode cX0_addBee 96 = .ok (.ifCond .eq 14, 3) := by decide +kernel
theorem dX0_addBee_99 : decode cX0_addBee 99 = .ok (.aload_n 0, 1) := by decide +kernel
theorem dX0_addBee_100 : decode cX0_addBee 100 = .ok (.getfield 28, 3) := by decide +kernel
theorem dX0_addBee_103 : decode cX0_addBee 103 = .ok (.iload 4, 2) := by decide +kernel
theorem dX0_addBee_105 : decode cX0_addBee 105 = .ok (.dup2, 1) := by decide +kernel
theorem dX0_addBee_106 : decode cX0_addBee 106 = .ok (.iaload, 1) := by decide +kernel
theorem dX0_addBee_107 : decode cX0_addBee 107 = .ok (.iconst 1, 1) := by decide +kernel
theorem dX0_addBee_108 : decode cX0_addBee 108 = .ok (.iadd, 1) := by decide +kernel
theorem dX0_addBee_109 : decode cX0_addBee 109 = .ok (.iastore, 1) := by decide +kernel
theorem dX0_addBee_110 : decode cX0_addBee 110 = .ok (.iinc 4 1, 3) := by decide +kernel
theorem dX0_addBee_113 : decode cX0_addBee 113 = .ok (.goto (-32), 3) := by decide +kernel
theorem dX0_addBee_116 : decode cX0_addBee 116 = .ok (.iload_n 3, 1) := by decide +kernel
theorem dX0_addBee_117 : decode cX0_addBee 117 = .ok (.ireturn, 1) := by decide +kernel
set_option maxRecDepth 20000 in
theorem ggX0_setTea_X0_pourInto : GoodIn wsX0_setTea wsX0_pourInto := goodIn_r _ [11, 6, 12, 13, 14, 15, 10, 16, 3, 17, 18, 19, 20, 21, 22, 23, 24, 25, 26, 27, 28, 29, 30, 31, 32, 33, 34, 35, 36, 37] (by decide +kernel) (by decide +kernel)
set_option maxRecDepth 20000 in
theorem gX0_setTea_X0_pourInto : GoodIn wsX0_setTea (wsV RX0 91 RX0 yX0_pourInto wsX0_pourInto) := goodIn_app (goodIn_of _ (by decide +kernel)) ggX0_setTea_X0_pourInto
theorem dX0_setTea_0 : decode cX0_setTea 0 = .ok (.iload_n 1, 1) := by decide +kernel
theorem dX0_setTea_1 : decode cX0_setTea 1 = .ok (.iconst 1, 1) := by decide +kernel
theorem dX0_setTea_2 : decode cX0_setTea 2 = .ok (.if_icmp .lt 9, 3) := by decide +kernel
theorem dX0_setTea_5 : decode cX0_setTea 5 = .ok (.iload_n 1, 1) := by decide +kernel
theorem dX0_setTea_6 : decode cX0_setTea 6 = .ok (.bipush 50, 2) := by decide +kernel
theorem dX0_setTea_8 : decode cX0_setTea 8 = .ok (.if_icmp .le 13, 3) := by decide +kernel
theorem dX0_setTea_11 : decode cX0_setTea 11 = .ok (.new 41, 3) := by decide +kernel
theorem dX0_setTea_14 : decode cX0_setTea 14 = .ok (.dup, 1) := by decide +kernel
theorem dX0_setTea_15 : decode cX0_setTea 15 = .ok (.ldc 82, 2) := by decide +kernel
theorem dX0_setTea_17 : decode cX0_setTea 17 = .ok (.invokespecial 45, 3) := by decide +kernel
theorem dX0_setTea_20 : decode cX0_setTea 20 = .ok (.athrow, 1) := by decide +kernel
theorem dX0_setTea_21 : decode cX0_setTea 21 = .ok (.iload_n 2, 1) := by decide +kernel
theorem dX0_setTea_22 : decode cX0_setTea 22 = .ok (.ifCond .lt 9, 3) := by decide +kernel
theorem dX0_setTea_25 : decode cX0_setTea 25 = .ok (.iload_n 2, 1) := by decide +kernel
theorem dX0_setTea_26 : decode cX0_setTea 26 = .ok (.bipush 9, 2) := by decide +kernel
theorem dX0_setTea_28 : decode cX0_setTea 28 = .ok (.if_icmp .le 13, 3) := by decide +kernel
theorem dX0_setTea_31 : decode cX0_setTea 31 = .ok (.new 41, 3) := by decide +kernel
theorem dX0_setTea_34 : decode cX0_setTea 34 = .ok (.dup, 1) := by decide +kernel
theorem dX0_setTea_35 : decode cX0_setTea 35 = .ok (.ldc 84, 2) := by decide +kernel
theorem dX0_setTea_37 : decode cX0_setTea 37 = .ok (.invokespecial 45, 3) := by decide +kernel
theorem dX0_setTea_40 : decode cX0_setTea 40 = .ok (.athrow, 1) := by decide +kernel
theorem dX0_setTea_41 : decode cX0_setTea 41 = .ok (.iload_n 3, 1) := by decide +kernel
theorem dX0_setTea_42 : decode cX0_setTea 42 = .ok (.ifCond .lt 9, 3) := by decide +kernel
theorem dX0_setTea_45 : decode cX0_setTea 45 = .ok (.iload_n 3, 1) := by decide +kernel
theorem dX0_setTea_46 : decode cX0_setTea 46 = .ok (.bipush 9, 2) := by decide +kernel
theorem dX0_setTea_48 : decode cX0_setTea 48 = .ok (.if_icmp .le 13, 3) := by decide +kernel
theorem dX0_setTea_51 : decode cX0_setTea 51 = .ok (.new 41, 3) := by decide +kernel
theorem dX0_setTea_54 : decode cX0_setTea 54 = .ok (.dup, 1) := by decide +kernel
theorem dX0_setTea_55 : decode cX0_setTea 55 = .ok (.ldc 86, 2) := by decide +kernel
theorem dX0_setTea_57 : decode cX0_setTea 57 = .ok (.invokespecial 45, 3) := by decide +kernel
theorem dX0_setTea_60 : decode cX0_setTea 60 = .ok (.athrow, 1) := by decide +kernel
theorem dX0_setTea_61 : decode cX0_setTea 61 = .ok (.aload_n 0, 1) := by decide +kernel
theorem dX0_setTea_62 : decode cX0_setTea 62 = .ok (.iload_n 1, 1) := by decide +kernel
theorem dX0_setTea_63 : decode cX0_setTea 63 = .ok (.putfield 31, 3) := by decide +kernel
theorem dX0_setTea_66 : decode cX0_setTea 66 = .ok (.aload_n 0, 1) := by decide +kernel
theorem dX0_setTea_67 : decode cX0_setTea 67 = .ok (.iload_n 2, 1) := by decide +kernel
theorem dX0_setTea_68 : decode cX0_setTea 68 = .ok (.putfield 35, 3) := by decide +kernel
theorem dX0_setTea_71 : decode cX0_setTea 71 = .ok (.aload_n 0, 1) := by decide +kernel
theorem dX0_setTea_72 : decode cX0_setTea 72 = .ok (.iload_n 3, 1) := by decide +kernel
theorem dX0_setTea_73 : decode cX0_setTea 73 = .ok (.putfield 38, 3) := by decide +kernel
theorem dX0_setTea_76 : decode cX0_setTea 76 = .ok (.aload_n 0, 1) := by decide +kernel
theorem dX0_setTea_77 : decode cX0_setTea 77 = .ok (.aload_n 0, 1) := by decide +kernel
theorem dX0_setTea_78 : decode cX0_setTea 78 = .ok (.getfield 88, 3) := by decide +kernel
theorem dX0_setTea_81 : decode cX0_setTea 81 = .ok (.invokevirtual 91, 3) := by decide +kernel
theorem dX0_setTea_84 : decode cX0_setTea 84 = .ok (.ireturn, 1) := by decide +kernel
set_option maxRecDepth 20000 in
theorem ggX0_pass_X0_contentAfter : GoodIn wsX0_pass wsX0_contentAfter := goodIn_r _ [12, 13, 14, 15, 16, 17, 18, 19, 30, 31, 32, 33, 34, 35, 36, 37, 38, 39, 40, 41, 42, 43, 44, 45, 46] (by decide +kernel) (by decide +kernel)
set_option maxRecDepth 20000 in
theorem gX0_pass_X0_contentAfter : GoodIn wsX0_pass (wsV RX0 102 RX0 yX0_contentAfter wsX0_contentAfter) := goodIn_app (goodIn_of _ (by decide +kernel)) ggX0_pass_X0_contentAfter
set_option maxRecDepth 20000 in
theorem ggX0_pass_X0_pourInto : GoodIn wsX0_pass wsX0_pourInto := goodIn_r _ [23, 6, 24, 25, 26, 27, 11, 28, 29, 16, 17, 18, 19, 30, 31, 32, 33, 34, 35, 36, 37, 38, 39, 40, 41, 42, 43, 44, 45, 46] (by decide +kernel) (by decide +kernel)
set_option maxRecDepth 20000 in
theorem gX0_pass_X0_pourInto : GoodIn wsX0_pass (wsV RX0 91 RX0 yX0_pourInto wsX0_pourInto) := goodIn_app (goodIn_of _ (by decide +kernel)) ggX0_pass_X0_pourInto
theorem dX0_pass_0 : decode cX0_pass 0 = .ok (.iload_n 1, 1) := by decide +kernel
theorem dX0_pass_1 : decode cX0_pass 1 = .ok (.iconst 1, 1) := by decide +kernel
theorem dX0_pass_2 : decode cX0_pass 2 = .ok (.if_icmp .lt 10, 3) := by decide +kernel
theorem dX0_pass_5 : decode cX0_pass 5 = .ok (.iload_n 1, 1) := by decide +kernel
theorem dX0_pass_6 : decode cX0_pass 6 = .ok (.sipush 360, 3) := by decide +kernel
theorem dX0_pass_9 : decode cX0_pass 9 = .ok (.if_icmp .le 13, 3) := by decide +kernel
theorem dX0_pass_12 : decode cX0_pass 12 = .ok (.new 41, 3) := by decide +kernel
theorem dX0_pass_15 : decode cX0_pass 15 = .ok (.dup, 1) := by decide +kernel
theorem dX0_pass_16 : decode cX0_pass 16 = .ok (.ldc 95, 2) := by decide +kernel
theorem dX0_pass_18 : decode cX0_pass 18 = .ok (.invokespecial 45, 3) := by decide +kernel
theorem dX0_pass_21 : decode cX0_pass 21 = .ok (.athrow, 1) := by decide +kernel
theorem dX0_pass_22 : decode cX0_pass 22 = .ok (.iload_n 1, 1) := by decide +kernel
theorem dX0_pass_23 : decode cX0_pass 23 = .ok (.sipush 360, 3) := by decide +kernel
theorem dX0_pass_26 : decode cX0_pass 26 = .ok (.aload_n 0, 1) := by decide +kernel
theorem dX0_pass_27 : decode cX0_pass 27 = .ok (.getfield 97, 3) := by decide +kernel
theorem dX0_pass_30 : decode cX0_pass 30 = .ok (.isub, 1) := by decide +kernel
theorem dX0_pass_31 : decode cX0_pass 31 = .ok (.if_icmp .le 13, 3) := by decide +kernel
theorem dX0_pass_34 : decode cX0_pass 34 = .ok (.new 51, 3) := by decide +kernel
theorem dX0_pass_37 : decode cX0_pass 37 = .ok (.dup, 1) := by decide +kernel
theorem dX0_pass_38 : decode cX0_pass 38 = .ok (.ldc 100, 2) := by decide +kernel
theorem dX0_pass_40 : decode cX0_pass 40 = .ok (.invokespecial 55, 3) := by decide +kernel
theorem dX0_pass_43 : decode cX0_pass 43 = .ok (.athrow, 1) := by decide +kernel
theorem dX0_pass_44 : decode cX0_pass 44 = .ok (.iconst 0, 1) := by decide +kernel
theorem dX0_pass_45 : decode cX0_pass 45 = .ok (.istore_n 2, 1) := by decide +kernel
theorem dX0_pass_46 : decode cX0_pass 46 = .ok (.aload_n 0, 1) := by decide +kernel
theorem dX0_pass_47 : decode cX0_pass 47 = .ok (.getfield 97, 3) := by decide +kernel
theorem dX0_pass_50 : decode cX0_pass 50 = .ok (.iload_n 1, 1) := by decide +kernel
theorem dX0_pass_51 : decode cX0_pass 51 = .ok (.iadd, 1) := by decide +kernel
theorem dX0_pass_52 : decode cX0_pass 52 = .ok (.istore_n 3, 1) := by decide +kernel
theorem dX0_pass_53 : decode cX0_pass 53 = .ok (.aload_n 0, 1) := by decide +kernel
theorem dX0_pass_54 : decode cX0_pass 54 = .ok (.getfield 97, 3) := by decide +kernel
theorem dX0_pass_57 : decode cX0_pass 57 = .ok (.iload_n 3, 1) := by decide +kernel
theorem dX0_pass_58 : decode cX0_pass 58 = .ok (.if_icmp .ge 39, 3) := by decide +kernel
theorem dX0_pass_61 : decode cX0_pass 61 = .ok (.iload_n 2, 1) := by decide +kernel
theorem dX0_pass_62 : decode cX0_pass 62 = .ok (.aload_n 0, 1) := by decide +kernel
theorem dX0_pass_63 : decode cX0_pass 63 = .ok (.aload_n 0, 1) := by decide +kernel
theorem dX0_pass_64 : decode cX0_pass 64 = .ok (.aload_n 0, 1) := by decide +kernel
theorem dX0_pass_65 : decode cX0_pass 65 = .ok (.getfield 97, 3) := by decide +kernel
theorem dX0_pass_68 : decode cX0_pass 68 = .ok (.aload_n 0, 1) := by decide +kernel
theorem dX0_pass_69 : decode cX0_pass 69 = .ok (.getfield 88, 3) := by decide +kernel
theorem dX0_pass_72 : decode cX0_pass 72 = .ok (.aload_n 0, 1) := by decide +kernel
theorem dX0_pass_73 : decode cX0_pass 73 = .ok (.getfield 35, 3) := by decide +kernel
theorem dX0_pass_76 : decode cX0_pass 76 = .ok (.invokevirtual 102, 3) := by decide +kernel
theorem dX0_pass_79 : decode cX0_pass 79 = .ok (.invokevirtual 91, 3) := by decide +kernel
theorem dX0_pass_82 : decode cX0_pass 82 = .ok (.iadd, 1) := by decide +kernel
theorem dX0_pass_83 : decode cX0_pass 83 = .ok (.istore_n 2, 1) := by decide +kernel
theorem dX0_pass_84 : decode cX0_pass 84 = .ok (.aload_n 0, 1) := by decide +kernel
theorem dX0_pass_85 : decode cX0_pass 85 = .ok (.dup, 1) := by decide +kernel
theorem dX0_pass_86 : decode cX0_pass 86 = .ok (.getfield 97, 3) := by decide +kernel
theorem dX0_pass_89 : decode cX0_pass 89 = .ok (.iconst 1, 1) := by decide +kernel
theorem dX0_pass_90 : decode cX0_pass 90 = .ok (.iadd, 1) := by decide +kernel
theorem dX0_pass_91 : decode cX0_pass 91 = .ok (.putfield 97, 3) := by decide +kernel
theorem dX0_pass_94 : decode cX0_pass 94 = .ok (.goto (-41), 3) := by decide +kernel
theorem dX0_pass_97 : decode cX0_pass 97 = .ok (.iload_n 2, 1) := by decide +kernel
theorem dX0_pass_98 : decode cX0_pass 98 = .ok (.ireturn, 1) := by decide +kernel
theorem dX0_begin_0 : decode cX0_begin 0 = .ok (.aload_n 0, 1) := by decide +kernel
theorem dX0_begin_1 : decode cX0_begin 1 = .ok (.iconst 0, 1) := by decide +kernel
theorem dX0_begin_2 : decode cX0_begin 2 = .ok (.putfield 97, 3) := by decide +kernel
theorem dX0_begin_5 : decode cX0_begin 5 = .ok (.aload_n 0, 1) := by decide +kernel
theorem dX0_begin_6 : decode cX0_begin 6 = .ok (.iconst 0, 1) := by decide +kernel
theorem dX0_begin_7 : decode cX0_begin 7 = .ok (.putfield 88, 3) := by decide +kernel
theorem dX0_begin_10 : decode cX0_begin 10 = .ok (.aload_n 0, 1) := by decide +kernel
theorem dX0_begin_11 : decode cX0_begin 11 = .ok (.iconst 0, 1) := by decide +kernel
theorem dX0_begin_12 : decode cX0_begin 12 = .ok (.putfield 106, 3) := by decide +kernel
theorem dX0_begin_15 : decode cX0_begin 15 = .ok (.aload_n 0, 1) := by decide +kernel
theorem dX0_begin_16 : decode cX0_begin 16 = .ok (.dup, 1) := by decide +kernel
theorem dX0_begin_17 : decode cX0_begin 17 = .ok (.getfield 109, 3) := by decide +kernel
theorem dX0_begin_20 : decode cX0_begin 20 = .ok (.iconst 1, 1) := by decide +kernel
theorem dX0_begin_21 : decode cX0_begin 21 = .ok (.iadd, 1) := by decide +kernel
theorem dX0_begin_22 : decode cX0_begin 22 = .ok (.putfield 109, 3) := by decide +kernel
theorem dX0_begin_25 : decode cX0_begin 25 = .ok (.aload_n 0, 1) := by decide +kernel
theorem dX0_begin_26 : decode cX0_begin 26 = .ok (.getfield 109, 3) := by decide +kernel
theorem dX0_begin_29 : decode cX0_begin 29 = .ok (.ireturn, 1) := by decide +kernel
theorem dX0_afternoon_0 : decode cX0_afternoon 0 = .ok (.aload_n 0, 1) := by decide +kernel
theorem dX0_afternoon_1 : decode cX0_afternoon 1 = .ok (.getfield 109, 3) := by decide +kernel
theorem dX0_afternoon_4 : decode cX0_afternoon 4 = .ok (.ireturn, 1) := by decide +kernel
theorem dX0_minute_0 : decode cX0_minute 0 = .ok (.aload_n 0, 1) := by decide +kernel
theorem dX0_minute_1 : decode cX0_minute 1 = .ok (.getfield 97, 3) := by decide +kernel
theorem dX0_minute_4 : decode cX0_minute 4 = .ok (.ireturn, 1) := by decide +kernel
set_option maxRecDepth 20000 in
theorem ggX0_isAsleep_X0_checkMinute : GoodIn wsX0_isAsleep wsX0_checkMinute := goodIn_ca (goodIn_r _ [6, 7, 8] (by decide +kernel) (by decide +kernel)) (goodIn_sub (fun _ h => List.mem_cons_of_mem _ (List.mem_append_right _ h)) (by decide +kernel))
set_option maxRecDepth 20000 in
theorem gX0_isAsleep_X0_checkMinute : GoodIn wsX0_isAsleep (wsV RX0 112 RX0 yX0_checkMinute wsX0_checkMinute) := goodIn_app (goodIn_of _ (by decide +kernel)) ggX0_isAsleep_X0_checkMinute
theorem dX0_isAsleep_0 : decode cX0_isAsleep 0 = .ok (.aload_n 0, 1) := by decide +kernel
theorem dX0_isAsleep_1 : decode cX0_isAsleep 1 = .ok (.iload_n 1, 1) := by decide +kernel
theorem dX0_isAsleep_2 : decode cX0_isAsleep 2 = .ok (.invokevirtual 112, 3) := by decide +kernel
theorem dX0_isAsleep_5 : decode cX0_isAsleep 5 = .ok (.aload_n 0, 1) := by decide +kernel
theorem dX0_isAsleep_6 : decode cX0_isAsleep 6 = .ok (.getfield 19, 3) := by decide +kernel
theorem dX0_isAsleep_9 : decode cX0_isAsleep 9 = .ok (.iload_n 1, 1) := by decide +kernel
theorem dX0_isAsleep_10 : decode cX0_isAsleep 10 = .ok (.iaload, 1) := by decide +kernel
theorem dX0_isAsleep_11 : decode cX0_isAsleep 11 = .ok (.ifCond .le 7, 3) := by decide +kernel
theorem dX0_isAsleep_14 : decode cX0_isAsleep 14 = .ok (.iconst 1, 1) := by decide +kernel
theorem dX0_isAsleep_15 : decode cX0_isAsleep 15 = .ok (.goto 4, 3) := by decide +kernel
theorem dX0_isAsleep_18 : decode cX0_isAsleep 18 = .ok (.iconst 0, 1) := by decide +kernel
theorem dX0_isAsleep_19 : decode cX0_isAsleep 19 = .ok (.ireturn, 1) := by decide +kernel
theorem dX0_awakeMinutes_0 : decode cX0_awakeMinutes 0 = .ok (.iconst 0, 1) := by decide +kernel
theorem dX0_awakeMinutes_1 : decode cX0_awakeMinutes 1 = .ok (.istore_n 1, 1) := by decide +kernel
theorem dX0_awakeMinutes_2 : decode cX0_awakeMinutes 2 = .ok (.iconst 0, 1) := by decide +kernel
theorem dX0_awakeMinutes_3 : decode cX0_awakeMinutes 3 = .ok (.istore_n 2, 1) := by decide +kernel
theorem dX0_awakeMinutes_4 : decode cX0_awakeMinutes 4 = .ok (.iload_n 2, 1) := by decide +kernel
theorem dX0_awakeMinutes_5 : decode cX0_awakeMinutes 5 = .ok (.aload_n 0, 1) := by decide +kernel
theorem dX0_awakeMinutes_6 : decode cX0_awakeMinutes 6 = .ok (.getfield 97, 3) := by decide +kernel
theorem dX0_awakeMinutes_9 : decode cX0_awakeMinutes 9 = .ok (.if_icmp .ge 21, 3) := by decide +kernel
theorem dX0_awakeMinutes_12 : decode cX0_awakeMinutes 12 = .ok (.aload_n 0, 1) := by decide +kernel
theorem dX0_awakeMinutes_13 : decode cX0_awakeMinutes 13 = .ok (.getfield 19, 3) := by decide +kernel
theorem dX0_awakeMinutes_16 : decode cX0_awakeMinutes 16 = .ok (.iload_n 2, 1) := by decide +kernel
theorem dX0_awakeMinutes_17 : decode cX0_awakeMinutes 17 = .ok (.iaload, 1) := by decide +kernel
theorem dX0_awakeMinutes_18 : decode cX0_awakeMinutes 18 = .ok (.ifCond .ne 6, 3) := by decide +kernel
theorem dX0_awakeMinutes_21 : decode cX0_awakeMinutes 21 = .ok (.iinc 1 1, 3) := by decide +kernel
theorem dX0_awakeMinutes_24 : decode cX0_awakeMinutes 24 = .ok (.iinc 2 1, 3) := by decide +kernel
theorem dX0_awakeMinutes_27 : decode cX0_awakeMinutes 27 = .ok (.goto (-23), 3) := by decide +kernel
theorem dX0_awakeMinutes_30 : decode cX0_awakeMinutes 30 = .ok (.iload_n 1, 1) := by decide +kernel
theorem dX0_awakeMinutes_31 : decode cX0_awakeMinutes 31 = .ok (.ireturn, 1) := by decide +kernel
set_option maxRecDepth 20000 in
theorem ggX0_sleptMinutes_X0_awakeMinutes : GoodIn wsX0_sleptMinutes wsX0_awakeMinutes := goodIn_r _ [6, 1, 7, 8, 9, 10, 11, 12, 13, 14, 15, 16, 17, 18, 19, 20, 21, 22, 23, 24] (by decide +kernel) (by decide +kernel)
set_option maxRecDepth 20000 in
theorem gX0_sleptMinutes_X0_awakeMinutes : GoodIn wsX0_sleptMinutes (wsV RX0 115 RX0 yX0_awakeMinutes wsX0_awakeMinutes) := goodIn_app (goodIn_of _ (by decide +kernel)) ggX0_sleptMinutes_X0_awakeMinutes
theorem dX0_sleptMinutes_0 : decode cX0_sleptMinutes 0 = .ok (.aload_n 0, 1) := by decide +kernel
theorem dX0_sleptMinutes_1 : decode cX0_sleptMinutes 1 = .ok (.getfield 97, 3) := by decide +kernel
theorem dX0_sleptMinutes_4 : decode cX0_sleptMinutes 4 = .ok (.aload_n 0, 1) := by decide +kernel
theorem dX0_sleptMinutes_5 : decode cX0_sleptMinutes 5 = .ok (.invokevirtual 115, 3) := by decide +kernel
theorem dX0_sleptMinutes_8 : decode cX0_sleptMinutes 8 = .ok (.isub, 1) := by decide +kernel
theorem dX0_sleptMinutes_9 : decode cX0_sleptMinutes 9 = .ok (.ireturn, 1) := by decide +kernel
theorem dX0_longestAwake_0 : decode cX0_longestAwake 0 = .ok (.iconst 0, 1) := by decide +kernel
theorem dX0_longestAwake_1 : decode cX0_longestAwake 1 = .ok (.istore_n 1, 1) := by decide +kernel
theorem dX0_longestAwake_2 : decode cX0_longestAwake 2 = .ok (.iconst 0, 1) := by decide +kernel
theorem dX0_longestAwake_3 : decode cX0_longestAwake 3 = .ok (.istore_n 2, 1) := by decide +kernel
theorem dX0_longestAwake_4 : decode cX0_longestAwake 4 = .ok (.iconst 0, 1) := by decide +kernel
theorem dX0_longestAwake_5 : decode cX0_longestAwake 5 = .ok (.istore_n 3, 1) := by decide +kernel
theorem dX0_longestAwake_6 : decode cX0_longestAwake 6 = .ok (.iload_n 3, 1) := by decide +kernel
theorem dX0_longestAwake_7 : decode cX0_longestAwake 7 = .ok (.sipush 360, 3) := by decide +kernel
theorem dX0_longestAwake_10 : decode cX0_longestAwake 10 = .ok (.if_icmp .ge 32, 3) := by decide +kernel
theorem dX0_longestAwake_13 : decode cX0_longestAwake 13 = .ok (.aload_n 0, 1) := by decide +kernel
theorem dX0_longestAwake_14 : decode cX0_longestAwake 14 = .ok (.getfield 19, 3) := by decide +kernel
theorem dX0_longestAwake_17 : decode cX0_longestAwake 17 = .ok (.iload_n 3, 1) := by decide +kernel
theorem dX0_longestAwake_18 : decode cX0_longestAwake 18 = .ok (.iaload, 1) := by decide +kernel
theorem dX0_longestAwake_19 : decode cX0_longestAwake 19 = .ok (.ifCond .ne 9, 3) := by decide +kernel
theorem dX0_longestAwake_22 : decode cX0_longestAwake 22 = .ok (.iload_n 2, 1) := by decide +kernel
theorem dX0_longestAwake_23 : decode cX0_longestAwake 23 = .ok (.iconst 1, 1) := by decide +kernel
theorem dX0_longestAwake_24 : decode cX0_longestAwake 24 = .ok (.iadd, 1) := by decide +kernel
theorem dX0_longestAwake_25 : decode cX0_longestAwake 25 = .ok (.goto 4, 3) := by decide +kernel
theorem dX0_longestAwake_28 : decode cX0_longestAwake 28 = .ok (.iconst 0, 1) := by decide +kernel
theorem dX0_longestAwake_29 : decode cX0_longestAwake 29 = .ok (.istore_n 2, 1) := by decide +kernel
theorem dX0_longestAwake_30 : decode cX0_longestAwake 30 = .ok (.iload_n 1, 1) := by decide +kernel
theorem dX0_longestAwake_31 : decode cX0_longestAwake 31 = .ok (.iload_n 2, 1) := by decide +kernel
theorem dX0_longestAwake_32 : decode cX0_longestAwake 32 = .ok (.invokestatic 119, 3) := by decide +kernel
theorem dX0_longestAwake_35 : decode cX0_longestAwake 35 = .ok (.istore_n 1, 1) := by decide +kernel
theorem dX0_longestAwake_36 : decode cX0_longestAwake 36 = .ok (.iinc 3 1, 3) := by decide +kernel
theorem dX0_longestAwake_39 : decode cX0_longestAwake 39 = .ok (.goto (-33), 3) := by decide +kernel
theorem dX0_longestAwake_42 : decode cX0_longestAwake 42 = .ok (.iload_n 1, 1) := by decide +kernel
theorem dX0_longestAwake_43 : decode cX0_longestAwake 43 = .ok (.ireturn, 1) := by decide +kernel
theorem dX0_sticks_0 : decode cX0_sticks 0 = .ok (.aload_n 0, 1) := by decide +kernel
theorem dX0_sticks_1 : decode cX0_sticks 1 = .ok (.getfield 48, 3) := by decide +kernel
theorem dX0_sticks_4 : decode cX0_sticks 4 = .ok (.ireturn, 1) := by decide +kernel
set_option maxRecDepth 20000 in
theorem ggX0_shadowAt_X0_checkStick : GoodIn wsX0_shadowAt wsX0_checkStick := goodIn_ca (goodIn_r _ [5, 6, 7, 8, 20, 21, 22, 23, 24, 25, 26, 27, 28, 29, 30, 31, 32, 33, 34, 35, 36] (by decide +kernel) (by decide +kernel)) (goodIn_sub (fun _ h => List.mem_cons_of_mem _ (List.mem_append_left _ (List.mem_append_right _ h))) (by decide +kernel))
set_option maxRecDepth 20000 in
theorem gX0_shadowAt_X0_checkStick : GoodIn wsX0_shadowAt (wsV RX0 125 RX0 yX0_checkStick wsX0_checkStick) := goodIn_app (goodIn_of _ (by decide +kernel)) ggX0_shadowAt_X0_checkStick
set_option maxRecDepth 20000 in
theorem ggX0_shadowAt_X0_checkMinute : GoodIn wsX0_shadowAt wsX0_checkMinute := goodIn_ca (goodIn_r _ [12, 13, 14] (by decide +kernel) (by decide +kernel)) (goodIn_sub (fun _ h => List.mem_cons_of_mem _ (List.mem_append_right _ h)) (by decide +kernel))
set_option maxRecDepth 20000 in
theorem gX0_shadowAt_X0_checkMinute : GoodIn wsX0_shadowAt (wsV RX0 112 RX0 yX0_checkMinute wsX0_checkMinute) := goodIn_app (goodIn_of _ (by decide +kernel)) ggX0_shadowAt_X0_checkMinute
set_option maxRecDepth 20000 in
theorem ggX0_shadowAt_X0_shadowOf : GoodIn wsX0_shadowAt wsX0_shadowOf := goodIn_r _ [18, 19, 20, 21, 22, 23, 24, 25, 26, 27, 28, 29, 30, 31, 32, 33, 34, 35, 36] (by decide +kernel) (by decide +kernel)
set_option maxRecDepth 20000 in
theorem gX0_shadowAt_X0_shadowOf : GoodIn wsX0_shadowAt (wsV RX0 128 RX0 yX0_shadowOf wsX0_shadowOf) := goodIn_app (goodIn_of _ (by decide +kernel)) ggX0_shadowAt_X0_shadowOf
theorem dX0_shadowAt_0 : decode cX0_shadowAt 0 = .ok (.aload_n 0, 1) := by decide +kernel
theorem dX0_shadowAt_1 : decode cX0_shadowAt 1 = .ok (.iload_n 1, 1) := by decide +kernel
theorem dX0_shadowAt_2 : decode cX0_shadowAt 2 = .ok (.invokevirtual 125, 3) := by decide +kernel
theorem dX0_shadowAt_5 : decode cX0_shadowAt 5 = .ok (.aload_n 0, 1) := by decide +kernel
theorem dX0_shadowAt_6 : decode cX0_shadowAt 6 = .ok (.iload_n 2, 1) := by decide +kernel
theorem dX0_shadowAt_7 : decode cX0_shadowAt 7 = .ok (.invokevirtual 112, 3) := by decide +kernel
theorem dX0_shadowAt_10 : decode cX0_shadowAt 10 = .ok (.aload_n 0, 1) := by decide +kernel
theorem dX0_shadowAt_11 : decode cX0_shadowAt 11 = .ok (.iload_n 1, 1) := by decide +kernel
theorem dX0_shadowAt_12 : decode cX0_shadowAt 12 = .ok (.iload_n 2, 1) := by decide +kernel
theorem dX0_shadowAt_13 : decode cX0_shadowAt 13 = .ok (.invokevirtual 128, 3) := by decide +kernel
theorem dX0_shadowAt_16 : decode cX0_shadowAt 16 = .ok (.ireturn, 1) := by decide +kernel
set_option maxRecDepth 20000 in
theorem ggX0_minuteOfShadow_X0_checkStick : GoodIn wsX0_minuteOfShadow wsX0_checkStick := goodIn_ca (goodIn_r _ [5, 6, 7, 8, 14, 15, 16, 17, 18, 19, 20, 21, 22, 23, 24, 25, 26, 27, 28, 29, 30] (by decide +kernel) (by decide +kernel)) (goodIn_sub (fun _ h => List.mem_cons_of_mem _ (List.mem_append_right _ h)) (by decide +kernel))
set_option maxRecDepth 20000 in
theorem gX0_minuteOfShadow_X0_checkStick : GoodIn wsX0_minuteOfShadow (wsV RX0 125 RX0 yX0_checkStick wsX0_checkStick) := goodIn_app (goodIn_of _ (by decide +kernel)) ggX0_minuteOfShadow_X0_checkStick
set_option maxRecDepth 20000 in
theorem ggX0_minuteOfShadow_X0_shadowOf : GoodIn wsX0_minuteOfShadow wsX0_shadowOf := goodIn_r _ [12, 13, 14, 15, 16, 17, 18, 19, 20, 21, 22, 23, 24, 25, 26, 27, 28, 29, 30] (by decide +kernel) (by decide +kernel)
set_option maxRecDepth 20000 in
theorem gX0_minuteOfShadow_X0_shadowOf : GoodIn wsX0_minuteOfShadow (wsV RX0 128 RX0 yX0_shadowOf wsX0_shadowOf) := goodIn_app (goodIn_of _ (by decide +kernel)) ggX0_minuteOfShadow_X0_shadowOf
theorem dX0_minuteOfShadow_0 : decode cX0_minuteOfShadow 0 = .ok (.aload_n 0, 1) := by decide +kernel
theorem dX0_minuteOfShadow_1 : decode cX0_minuteOfShadow 1 = .ok (.iload_n 1, 1) := by decide +kernel
theorem dX0_minuteOfShadow_2 : decode cX0_minuteOfShadow 2 = .ok (.invokevirtual 125, 3) := by decide +kernel
theorem dX0_minuteOfShadow_5 : decode cX0_minuteOfShadow 5 = .ok (.iconst 0, 1) := by decide +kernel
theorem dX0_minuteOfShadow_6 : decode cX0_minuteOfShadow 6 = .ok (.istore_n 3, 1) := by decide +kernel
theorem dX0_minuteOfShadow_7 : decode cX0_minuteOfShadow 7 = .ok (.iload_n 3, 1) := by decide +kernel
theorem dX0_minuteOfShadow_8 : decode cX0_minuteOfShadow 8 = .ok (.sipush 360, 3) := by decide +kernel
theorem dX0_minuteOfShadow_11 : decode cX0_minuteOfShadow 11 = .ok (.if_icmp .ge 21, 3) := by decide +kernel
theorem dX0_minuteOfShadow_14 : decode cX0_minuteOfShadow 14 = .ok (.aload_n 0, 1) := by decide +kernel
theorem dX0_minuteOfShadow_15 : decode cX0_minuteOfShadow 15 = .ok (.iload_n 1, 1) := by decide +kernel
theorem dX0_minuteOfShadow_16 : decode cX0_minuteOfShadow 16 = .ok (.iload_n 3, 1) := by decide +kernel
theorem dX0_minuteOfShadow_17 : decode cX0_minuteOfShadow 17 = .ok (.invokevirtual 128, 3) := by decide +kernel
theorem dX0_minuteOfShadow_20 : decode cX0_minuteOfShadow 20 = .ok (.iload_n 2, 1) := by decide +kernel
theorem dX0_minuteOfShadow_21 : decode cX0_minuteOfShadow 21 = .ok (.if_icmp .lt 5, 3) := by decide +kernel
theorem dX0_minuteOfShadow_24 : decode cX0_minuteOfShadow 24 = .ok (.iload_n 3, 1) := by decide +kernel
theorem dX0_minuteOfShadow_25 : decode cX0_minuteOfShadow 25 = .ok (.ireturn, 1) := by decide +kernel
theorem dX0_minuteOfShadow_26 : decode cX0_minuteOfShadow 26 = .ok (.iinc 3 1, 3) := by decide +kernel
theorem dX0_minuteOfShadow_29 : decode cX0_minuteOfShadow 29 = .ok (.goto (-22), 3) := by decide +kernel
theorem dX0_minuteOfShadow_32 : decode cX0_minuteOfShadow 32 = .ok (.iconst (-1), 1) := by decide +kernel
theorem dX0_minuteOfShadow_33 : decode cX0_minuteOfShadow 33 = .ok (.ireturn, 1) := by decide +kernel
set_option maxRecDepth 20000 in
theorem ggX0_allShadows_X0_checkMinute : GoodIn wsX0_allShadows wsX0_checkMinute := goodIn_ca (goodIn_r _ [5, 6, 7] (by decide +kernel) (by decide +kernel)) (goodIn_sub (fun _ h => List.mem_cons_of_mem _ (List.mem_append_right _ h)) (by decide +kernel))
set_option maxRecDepth 20000 in
theorem gX0_allShadows_X0_checkMinute : GoodIn wsX0_allShadows (wsV RX0 112 RX0 yX0_checkMinute wsX0_checkMinute) := goodIn_app (goodIn_of _ (by decide +kernel)) ggX0_allShadows_X0_checkMinute
set_option maxRecDepth 20000 in
theorem ggX0_allShadows_X0_sumOfShadows : GoodIn wsX0_allShadows wsX0_sumOfShadows := goodIn_r _ [11, 12, 13, 14, 15, 4, 16, 17, 18, 19, 20, 21, 22, 23, 24, 25, 26, 27, 28, 29, 30, 31, 32, 33, 34] (by decide +kernel) (by decide +kernel)
set_option maxRecDepth 20000 in
theorem gX0_allShadows_X0_sumOfShadows : GoodIn wsX0_allShadows (wsV RX0 131 RX0 yX0_sumOfShadows wsX0_sumOfShadows) := goodIn_app (goodIn_of _ (by decide +kernel)) ggX0_allShadows_X0_sumOfShadows
theorem dX0_allShadows_0 : decode cX0_allShadows 0 = .ok (.aload_n 0, 1) := by decide +kernel
theorem dX0_allShadows_1 : decode cX0_allShadows 1 = .ok (.iload_n 1, 1) := by decide +kernel
theorem dX0_allShadows_2 : decode cX0_allShadows 2 = .ok (.invokevirtual 112, 3) := by decide +kernel
theorem dX0_allShadows_5 : decode cX0_allShadows 5 = .ok (.aload_n 0, 1) := by decide +kernel
theorem dX0_allShadows_6 : decode cX0_allShadows 6 = .ok (.iload_n 1, 1) := by decide +kernel
theorem dX0_allShadows_7 : decode cX0_allShadows 7 = .ok (.invokevirtual 131, 3) := by decide +kernel
theorem dX0_allShadows_10 : decode cX0_allShadows 10 = .ok (.ireturn, 1) := by decide +kernel
theorem dX0_naps_0 : decode cX0_naps 0 = .ok (.aload_n 0, 1) := by decide +kernel
theorem dX0_naps_1 : decode cX0_naps 1 = .ok (.getfield 58, 3) := by decide +kernel
theorem dX0_naps_4 : decode cX0_naps 4 = .ok (.ireturn, 1) := by decide +kernel
set_option maxRecDepth 20000 in
theorem ggX0_startOf_X0_checkNap : GoodIn wsX0_startOf wsX0_checkNap := goodIn_ca (goodIn_r _ [6, 7, 8, 9, 10, 11, 12, 13, 14, 15, 16, 17, 18, 19, 20, 21, 22, 23, 24, 25, 26] (by decide +kernel) (by decide +kernel)) (goodIn_sub (fun _ h => List.mem_cons_of_mem _ (List.mem_append_right _ h)) (by decide +kernel))
set_option maxRecDepth 20000 in
theorem gX0_startOf_X0_checkNap : GoodIn wsX0_startOf (wsV RX0 67 RX0 yX0_checkNap wsX0_checkNap) := goodIn_app (goodIn_of _ (by decide +kernel)) ggX0_startOf_X0_checkNap
theorem dX0_startOf_0 : decode cX0_startOf 0 = .ok (.aload_n 0, 1) := by decide +kernel
theorem dX0_startOf_1 : decode cX0_startOf 1 = .ok (.iload_n 1, 1) := by decide +kernel
theorem dX0_startOf_2 : decode cX0_startOf 2 = .ok (.invokevirtual 67, 3) := by decide +kernel
theorem dX0_startOf_5 : decode cX0_startOf 5 = .ok (.aload_n 0, 1) := by decide +kernel
theorem dX0_startOf_6 : decode cX0_startOf 6 = .ok (.getfield 13, 3) := by decide +kernel
theorem dX0_startOf_9 : decode cX0_startOf 9 = .ok (.iload_n 1, 1) := by decide +kernel
theorem dX0_startOf_10 : decode cX0_startOf 10 = .ok (.iaload, 1) := by decide +kernel
theorem dX0_startOf_11 : decode cX0_startOf 11 = .ok (.ireturn, 1) := by decide +kernel
set_option maxRecDepth 20000 in
theorem ggX0_lengthOf_X0_checkNap : GoodIn wsX0_lengthOf wsX0_checkNap := goodIn_ca (goodIn_r _ [7, 8, 9, 10, 11, 12, 13, 14, 15, 16, 17, 18, 19, 20, 21, 22, 23, 24, 25, 26, 27] (by decide +kernel) (by decide +kernel)) (goodIn_sub (fun _ h => List.mem_cons_of_mem _ (List.mem_append_right _ h)) (by decide +kernel))
set_option maxRecDepth 20000 in
theorem gX0_lengthOf_X0_checkNap : GoodIn wsX0_lengthOf (wsV RX0 67 RX0 yX0_checkNap wsX0_checkNap) := goodIn_app (goodIn_of _ (by decide +kernel)) ggX0_lengthOf_X0_checkNap
theorem dX0_lengthOf_0 : decode cX0_lengthOf 0 = .ok (.aload_n 0, 1) := by decide +kernel
theorem dX0_lengthOf_1 : decode cX0_lengthOf 1 = .ok (.iload_n 1, 1) := by decide +kernel
theorem dX0_lengthOf_2 : decode cX0_lengthOf 2 = .ok (.invokevirtual 67, 3) := by decide +kernel
theorem dX0_lengthOf_5 : decode cX0_lengthOf 5 = .ok (.aload_n 0, 1) := by decide +kernel
theorem dX0_lengthOf_6 : decode cX0_lengthOf 6 = .ok (.getfield 16, 3) := by decide +kernel
theorem dX0_lengthOf_9 : decode cX0_lengthOf 9 = .ok (.iload_n 1, 1) := by decide +kernel
theorem dX0_lengthOf_10 : decode cX0_lengthOf 10 = .ok (.iaload, 1) := by decide +kernel
theorem dX0_lengthOf_11 : decode cX0_lengthOf 11 = .ok (.aload_n 0, 1) := by decide +kernel
theorem dX0_lengthOf_12 : decode cX0_lengthOf 12 = .ok (.getfield 13, 3) := by decide +kernel
theorem dX0_lengthOf_15 : decode cX0_lengthOf 15 = .ok (.iload_n 1, 1) := by decide +kernel
theorem dX0_lengthOf_16 : decode cX0_lengthOf 16 = .ok (.iaload, 1) := by decide +kernel
theorem dX0_lengthOf_17 : decode cX0_lengthOf 17 = .ok (.isub, 1) := by decide +kernel
theorem dX0_lengthOf_18 : decode cX0_lengthOf 18 = .ok (.ireturn, 1) := by decide +kernel
set_option maxRecDepth 20000 in
theorem ggX0_napsAt_X0_checkMinute : GoodIn wsX0_napsAt wsX0_checkMinute := goodIn_ca (goodIn_r _ [6, 7, 8] (by decide +kernel) (by decide +kernel)) (goodIn_sub (fun _ h => List.mem_cons_of_mem _ (List.mem_append_right _ h)) (by decide +kernel))
set_option maxRecDepth 20000 in
theorem gX0_napsAt_X0_checkMinute : GoodIn wsX0_napsAt (wsV RX0 112 RX0 yX0_checkMinute wsX0_checkMinute) := goodIn_app (goodIn_of _ (by decide +kernel)) ggX0_napsAt_X0_checkMinute
theorem dX0_napsAt_0 : decode cX0_napsAt 0 = .ok (.aload_n 0, 1) := by decide +kernel
theorem dX0_napsAt_1 : decode cX0_napsAt 1 = .ok (.iload_n 1, 1) := by decide +kernel
theorem dX0_napsAt_2 : decode cX0_napsAt 2 = .ok (.invokevirtual 112, 3) := by decide +kernel
theorem dX0_napsAt_5 : decode cX0_napsAt 5 = .ok (.aload_n 0, 1) := by decide +kernel
theorem dX0_napsAt_6 : decode cX0_napsAt 6 = .ok (.getfield 19, 3) := by decide +kernel
theorem dX0_napsAt_9 : decode cX0_napsAt 9 = .ok (.iload_n 1, 1) := by decide +kernel
theorem dX0_napsAt_10 : decode cX0_napsAt 10 = .ok (.iaload, 1) := by decide +kernel
theorem dX0_napsAt_11 : decode cX0_napsAt 11 = .ok (.ireturn, 1) := by decide +kernel
set_option maxRecDepth 20000 in
theorem ggX0_minutesAlone_X0_checkNap : GoodIn wsX0_minutesAlone wsX0_checkNap := goodIn_ca (goodIn_r _ [5, 6, 7, 8, 20, 21, 22, 23, 24, 25, 26, 27, 28, 29, 30, 31, 32, 33, 34, 35, 36] (by decide +kernel) (by decide +kernel)) (goodIn_sub (fun _ h => List.mem_cons_of_mem _ (List.mem_append_right _ h)) (by decide +kernel))
set_option maxRecDepth 20000 in
theorem gX0_minutesAlone_X0_checkNap : GoodIn wsX0_minutesAlone (wsV RX0 67 RX0 yX0_checkNap wsX0_checkNap) := goodIn_app (goodIn_of _ (by decide +kernel)) ggX0_minutesAlone_X0_checkNap
set_option maxRecDepth 20000 in
theorem ggX0_minutesAlone_X0_countAlone : GoodIn wsX0_minutesAlone wsX0_countAlone := goodIn_r _ [12, 13, 14, 15, 16, 4, 17, 18, 19, 20, 21, 22, 23, 24, 25, 26, 27, 28, 29, 30, 31, 32, 33, 34, 35, 36] (by decide +kernel) (by decide +kernel)
set_option maxRecDepth 20000 in
theorem gX0_minutesAlone_X0_countAlone : GoodIn wsX0_minutesAlone (wsV RX0 134 RX0 yX0_countAlone wsX0_countAlone) := goodIn_app (goodIn_of _ (by decide +kernel)) ggX0_minutesAlone_X0_countAlone
theorem dX0_minutesAlone_0 : decode cX0_minutesAlone 0 = .ok (.aload_n 0, 1) := by decide +kernel
theorem dX0_minutesAlone_1 : decode cX0_minutesAlone 1 = .ok (.iload_n 1, 1) := by decide +kernel
theorem dX0_minutesAlone_2 : decode cX0_minutesAlone 2 = .ok (.invokevirtual 67, 3) := by decide +kernel
theorem dX0_minutesAlone_5 : decode cX0_minutesAlone 5 = .ok (.aload_n 0, 1) := by decide +kernel
theorem dX0_minutesAlone_6 : decode cX0_minutesAlone 6 = .ok (.iload_n 1, 1) := by decide +kernel
theorem dX0_minutesAlone_7 : decode cX0_minutesAlone 7 = .ok (.invokevirtual 134, 3) := by decide +kernel
theorem dX0_minutesAlone_10 : decode cX0_minutesAlone 10 = .ok (.ireturn, 1) := by decide +kernel
theorem dX0_bees_0 : decode cX0_bees 0 = .ok (.aload_n 0, 1) := by decide +kernel
theorem dX0_bees_1 : decode cX0_bees 1 = .ok (.getfield 73, 3) := by decide +kernel
theorem dX0_bees_4 : decode cX0_bees 4 = .ok (.ireturn, 1) := by decide +kernel
set_option maxRecDepth 20000 in
theorem ggX0_ticksOf_X0_checkBee : GoodIn wsX0_ticksOf wsX0_checkBee := goodIn_ca (goodIn_r _ [5, 6, 7, 8, 25, 26, 27, 28, 29, 30, 31, 32, 33, 34, 35, 36, 37, 38, 39, 40, 41] (by decide +kernel) (by decide +kernel)) (goodIn_sub (fun _ h => List.mem_cons_of_mem _ (List.mem_append_right _ h)) (by decide +kernel))
set_option maxRecDepth 20000 in
theorem gX0_ticksOf_X0_checkBee : GoodIn wsX0_ticksOf (wsV RX0 137 RX0 yX0_checkBee wsX0_checkBee) := goodIn_app (goodIn_of _ (by decide +kernel)) ggX0_ticksOf_X0_checkBee
set_option maxRecDepth 20000 in
theorem ggX0_ticksOf_X0_countTicks : GoodIn wsX0_ticksOf wsX0_countTicks := goodIn_r _ [12, 13, 14, 15, 16, 4, 17, 18, 19, 20, 21, 22, 23, 24, 25, 26, 27, 28, 29, 30, 31, 32, 33, 34, 35, 36, 37, 38, 39, 40, 41] (by decide +kernel) (by decide +kernel)
set_option maxRecDepth 20000 in
theorem gX0_ticksOf_X0_countTicks : GoodIn wsX0_ticksOf (wsV RX0 140 RX0 yX0_countTicks wsX0_countTicks) := goodIn_app (goodIn_of _ (by decide +kernel)) ggX0_ticksOf_X0_countTicks
theorem dX0_ticksOf_0 : decode cX0_ticksOf 0 = .ok (.aload_n 0, 1) := by decide +kernel
theorem dX0_ticksOf_1 : decode cX0_ticksOf 1 = .ok (.iload_n 1, 1) := by decide +kernel
theorem dX0_ticksOf_2 : decode cX0_ticksOf 2 = .ok (.invokevirtual 137, 3) := by decide +kernel
theorem dX0_ticksOf_5 : decode cX0_ticksOf 5 = .ok (.aload_n 0, 1) := by decide +kernel
theorem dX0_ticksOf_6 : decode cX0_ticksOf 6 = .ok (.iload_n 1, 1) := by decide +kernel
theorem dX0_ticksOf_7 : decode cX0_ticksOf 7 = .ok (.invokevirtual 140, 3) := by decide +kernel
theorem dX0_ticksOf_10 : decode cX0_ticksOf 10 = .ok (.ireturn, 1) := by decide +kernel
set_option maxRecDepth 20000 in
theorem ggX0_measuredBy_X0_checkBee : GoodIn wsX0_measuredBy wsX0_checkBee := goodIn_ca (goodIn_r _ [6, 7, 8, 9, 25, 26, 27, 28, 29, 30, 31, 32, 33, 34, 35, 36, 37, 38, 39, 40, 41] (by decide +kernel) (by decide +kernel)) (goodIn_sub (fun _ h => List.mem_cons_of_mem _ (List.mem_append_right _ h)) (by decide +kernel))
set_option maxRecDepth 20000 in
theorem gX0_measuredBy_X0_checkBee : GoodIn wsX0_measuredBy (wsV RX0 137 RX0 yX0_checkBee wsX0_checkBee) := goodIn_app (goodIn_of _ (by decide +kernel)) ggX0_measuredBy_X0_checkBee
set_option maxRecDepth 20000 in
theorem ggX0_measuredBy_X0_countTicks : GoodIn wsX0_measuredBy wsX0_countTicks := goodIn_r _ [13, 14, 15, 16, 17, 5, 18, 19, 20, 21, 22, 23, 1, 24, 25, 26, 27, 28, 29, 30, 31, 32, 33, 34, 35, 36, 37, 38, 39, 40, 41] (by decide +kernel) (by decide +kernel)
set_option maxRecDepth 20000 in
theorem gX0_measuredBy_X0_countTicks : GoodIn wsX0_measuredBy (wsV RX0 140 RX0 yX0_countTicks wsX0_countTicks) := goodIn_app (goodIn_of _ (by decide +kernel)) ggX0_measuredBy_X0_countTicks
theorem dX0_measuredBy_0 : decode cX0_measuredBy 0 = .ok (.aload_n 0, 1) := by decide +kernel
theorem dX0_measuredBy_1 : decode cX0_measuredBy 1 = .ok (.iload_n 1, 1) := by decide +kernel
theorem dX0_measuredBy_2 : decode cX0_measuredBy 2 = .ok (.invokevirtual 137, 3) := by decide +kernel
theorem dX0_measuredBy_5 : decode cX0_measuredBy 5 = .ok (.aload_n 0, 1) := by decide +kernel
theorem dX0_measuredBy_6 : decode cX0_measuredBy 6 = .ok (.iload_n 1, 1) := by decide +kernel
theorem dX0_measuredBy_7 : decode cX0_measuredBy 7 = .ok (.invokevirtual 140, 3) := by decide +kernel
theorem dX0_measuredBy_10 : decode cX0_measuredBy 10 = .ok (.aload_n 0, 1) := by decide +kernel
theorem dX0_measuredBy_11 : decode cX0_measuredBy 11 = .ok (.getfield 22, 3) := by decide +kernel
theorem dX0_measuredBy_14 : decode cX0_measuredBy 14 = .ok (.iload_n 1, 1) := by decide +kernel
theorem dX0_measuredBy_15 : decode cX0_measuredBy 15 = .ok (.iaload, 1) := by decide +kernel
theorem dX0_measuredBy_16 : decode cX0_measuredBy 16 = .ok (.imul, 1) := by decide +kernel
theorem dX0_measuredBy_17 : decode cX0_measuredBy 17 = .ok (.ireturn, 1) := by decide +kernel
set_option maxRecDepth 20000 in
theorem ggX0_errorOf_X0_measuredBy : GoodIn wsX0_errorOf wsX0_measuredBy := goodIn_ca (goodIn_r _ [5, 6, 7, 8, 9, 4, 10, 11, 12, 13, 14, 15, 16, 17, 18, 19, 20, 21, 22, 23, 24, 25, 26, 27, 28, 33, 34, 35, 36, 37, 38, 39, 40, 41, 42, 43, 44, 45, 46, 47, 48, 49] (by decide +kernel) (by decide +kernel)) (goodIn_sub (fun _ h => List.mem_cons_of_mem _ (List.mem_append_right _ h)) (by decide +kernel))
set_option maxRecDepth 20000 in
theorem gX0_errorOf_X0_measuredBy : GoodIn wsX0_errorOf (wsV RX0 143 RX0 yX0_measuredBy wsX0_measuredBy) := goodIn_app (goodIn_of _ (by decide +kernel)) ggX0_errorOf_X0_measuredBy
set_option maxRecDepth 20000 in
theorem ggX0_errorOf_X0_awakeMinutes : GoodIn wsX0_errorOf wsX0_awakeMinutes := goodIn_r _ [32, 18, 23, 33, 34, 35, 36, 37, 38, 39, 40, 41, 42, 43, 44, 45, 46, 47, 48, 49] (by decide +kernel) (by decide +kernel)
set_option maxRecDepth 20000 in
theorem gX0_errorOf_X0_awakeMinutes : GoodIn wsX0_errorOf (wsV RX0 115 RX0 yX0_awakeMinutes wsX0_awakeMinutes) := goodIn_app (goodIn_of _ (by decide +kernel)) ggX0_errorOf_X0_awakeMinutes
theorem dX0_errorOf_0 : decode cX0_errorOf 0 = .ok (.aload_n 0, 1) := by decide +kernel
theorem dX0_errorOf_1 : decode cX0_errorOf 1 = .ok (.iload_n 1, 1) := by decide +kernel
theorem dX0_errorOf_2 : decode cX0_errorOf 2 = .ok (.invokevirtual 143, 3) := by decide +kernel
theorem dX0_errorOf_5 : decode cX0_errorOf 5 = .ok (.aload_n 0, 1) := by decide +kernel
theorem dX0_errorOf_6 : decode cX0_errorOf 6 = .ok (.invokevirtual 115, 3) := by decide +kernel
theorem dX0_errorOf_9 : decode cX0_errorOf 9 = .ok (.isub, 1) := by decide +kernel
theorem dX0_errorOf_10 : decode cX0_errorOf 10 = .ok (.ireturn, 1) := by decide +kernel
set_option maxRecDepth 20000 in
theorem ggX0_bestBee_X0_errorOf : GoodIn wsX0_bestBee wsX0_errorOf := goodIn_ca (goodIn_r _ [10, 11, 12, 13, 9, 14, 15, 16, 17, 18, 19, 20, 21, 1, 22, 23, 24, 25, 26, 27, 28, 29, 30, 31, 32, 33, 34, 35, 36, 37, 38, 39, 40, 41, 42, 43, 44, 45, 46, 47, 48, 49, 50, 51, 52, 53, 54, 55, 56, 57] (by decide +kernel) (by decide +kernel)) (goodIn_sub (fun _ h => List.mem_cons_of_mem _ (List.mem_append_right _ h)) (by decide +kernel))
set_option maxRecDepth 20000 in
theorem gX0_bestBee_X0_errorOf : GoodIn wsX0_bestBee (wsV RX0 146 RX0 yX0_errorOf wsX0_errorOf) := goodIn_app (goodIn_of _ (by decide +kernel)) ggX0_bestBee_X0_errorOf
theorem dX0_bestBee_0 : decode cX0_bestBee 0 = .ok (.iconst (-1), 1) := by decide +kernel
theorem dX0_bestBee_1 : decode cX0_bestBee 1 = .ok (.istore_n 1, 1) := by decide +kernel
theorem dX0_bestBee_2 : decode cX0_bestBee 2 = .ok (.iconst 0, 1) := by decide +kernel
theorem dX0_bestBee_3 : decode cX0_bestBee 3 = .ok (.istore_n 2, 1) := by decide +kernel
theorem dX0_bestBee_4 : decode cX0_bestBee 4 = .ok (.iconst 0, 1) := by decide +kernel
theorem dX0_bestBee_5 : decode cX0_bestBee 5 = .ok (.istore_n 3, 1) := by decide +kernel
theorem dX0_bestBee_6 : decode cX0_bestBee 6 = .ok (.iload_n 3, 1) := by decide +kernel
theorem dX0_bestBee_7 : decode cX0_bestBee 7 = .ok (.aload_n 0, 1) := by decide +kernel
theorem dX0_bestBee_8 : decode cX0_bestBee 8 = .ok (.getfield 73, 3) := by decide +kernel
theorem dX0_bestBee_11 : decode cX0_bestBee 11 = .ok (.if_icmp .ge 35, 3) := by decide +kernel
theorem dX0_bestBee_14 : decode cX0_bestBee 14 = .ok (.aload_n 0, 1) := by decide +kernel
theorem dX0_bestBee_15 : decode cX0_bestBee 15 = .ok (.iload_n 3, 1) := by decide +kernel
theorem dX0_bestBee_16 : decode cX0_bestBee 16 = .ok (.invokevirtual 146, 3) := by decide +kernel
theorem dX0_bestBee_19 : decode cX0_bestBee 19 = .ok (.invokestatic 149, 3) := by decide +kernel
theorem dX0_bestBee_22 : decode cX0_bestBee 22 = .ok (.istore 4, 2) := by decide +kernel
theorem dX0_bestBee_24 : decode cX0_bestBee 24 = .ok (.iload_n 1, 1) := by decide +kernel
theorem dX0_bestBee_25 : decode cX0_bestBee 25 = .ok (.iconst (-1), 1) := by decide +kernel
theorem dX0_bestBee_26 : decode cX0_bestBee 26 = .ok (.if_icmp .eq 9, 3) := by decide +kernel
theorem dX0_bestBee_29 : decode cX0_bestBee 29 = .ok (.iload 4, 2) := by decide +kernel
theorem dX0_bestBee_31 : decode cX0_bestBee 31 = .ok (.iload_n 2, 1) := by decide +kernel
theorem dX0_bestBee_32 : decode cX0_bestBee 32 = .ok (.if_icmp .ge 8, 3) := by decide +kernel
theorem dX0_bestBee_35 : decode cX0_bestBee 35 = .ok (.iload_n 3, 1) := by decide +kernel
theorem dX0_bestBee_36 : decode cX0_bestBee 36 = .ok (.istore_n 1, 1) := by decide +kernel
theorem dX0_bestBee_37 : decode cX0_bestBee 37 = .ok (.iload 4, 2) := by decide +kernel
theorem dX0_bestBee_39 : decode cX0_bestBee 39 = .ok (.istore_n 2, 1) := by decide +kernel
theorem dX0_bestBee_40 : decode cX0_bestBee 40 = .ok (.iinc 3 1, 3) := by decide +kernel
theorem dX0_bestBee_43 : decode cX0_bestBee 43 = .ok (.goto (-37), 3) := by decide +kernel
theorem dX0_bestBee_46 : decode cX0_bestBee 46 = .ok (.iload_n 1, 1) := by decide +kernel
theorem dX0_bestBee_47 : decode cX0_bestBee 47 = .ok (.ireturn, 1) := by decide +kernel
set_option maxRecDepth 20000 in
theorem ggX0_nextTick_X0_checkBee : GoodIn wsX0_nextTick wsX0_checkBee := goodIn_ca (goodIn_r _ [6, 7, 8, 9, 21, 22, 23, 24, 25, 26, 27, 28, 29, 30, 31, 32, 33, 34, 35, 36, 37] (by decide +kernel) (by decide +kernel)) (goodIn_sub (fun _ h => List.mem_cons_of_mem _ (List.mem_append_right _ h)) (by decide +kernel))
set_option maxRecDepth 20000 in
theorem gX0_nextTick_X0_checkBee : GoodIn wsX0_nextTick (wsV RX0 137 RX0 yX0_checkBee wsX0_checkBee) := goodIn_app (goodIn_of _ (by decide +kernel)) ggX0_nextTick_X0_checkBee
set_option maxRecDepth 20000 in
theorem ggX0_nextTick_X0_ticksIn : GoodIn wsX0_nextTick wsX0_ticksIn := goodIn_r _ [13, 14, 15, 16, 17, 5, 18, 19, 20, 21, 22, 23, 24, 25, 26, 27, 28, 29, 30, 31, 32, 33, 34, 35, 36, 37] (by decide +kernel) (by decide +kernel)
set_option maxRecDepth 20000 in
theorem gX0_nextTick_X0_ticksIn : GoodIn wsX0_nextTick (wsV RX0 152 RX0 yX0_ticksIn wsX0_ticksIn) := goodIn_app (goodIn_of _ (by decide +kernel)) ggX0_nextTick_X0_ticksIn
theorem dX0_nextTick_0 : decode cX0_nextTick 0 = .ok (.aload_n 0, 1) := by decide +kernel
theorem dX0_nextTick_1 : decode cX0_nextTick 1 = .ok (.iload_n 1, 1) := by decide +kernel
theorem dX0_nextTick_2 : decode cX0_nextTick 2 = .ok (.invokevirtual 137, 3) := by decide +kernel
theorem dX0_nextTick_5 : decode cX0_nextTick 5 = .ok (.aload_n 0, 1) := by decide +kernel
theorem dX0_nextTick_6 : decode cX0_nextTick 6 = .ok (.getfield 97, 3) := by decide +kernel
theorem dX0_nextTick_9 : decode cX0_nextTick 9 = .ok (.istore_n 2, 1) := by decide +kernel
theorem dX0_nextTick_10 : decode cX0_nextTick 10 = .ok (.iload_n 2, 1) := by decide +kernel
theorem dX0_nextTick_11 : decode cX0_nextTick 11 = .ok (.sipush 360, 3) := by decide +kernel
theorem dX0_nextTick_14 : decode cX0_nextTick 14 = .ok (.if_icmp .ge 20, 3) := by decide +kernel
theorem dX0_nextTick_17 : decode cX0_nextTick 17 = .ok (.aload_n 0, 1) := by decide +kernel
theorem dX0_nextTick_18 : decode cX0_nextTick 18 = .ok (.iload_n 1, 1) := by decide +kernel
theorem dX0_nextTick_19 : decode cX0_nextTick 19 = .ok (.iload_n 2, 1) := by decide +kernel
theorem dX0_nextTick_20 : decode cX0_nextTick 20 = .ok (.invokevirtual 152, 3) := by decide +kernel
theorem dX0_nextTick_23 : decode cX0_nextTick 23 = .ok (.ifCond .eq 5, 3) := by decide +kernel
theorem dX0_nextTick_26 : decode cX0_nextTick 26 = .ok (.iload_n 2, 1) := by decide +kernel
theorem dX0_nextTick_27 : decode cX0_nextTick 27 = .ok (.ireturn, 1) := by decide +kernel
theorem dX0_nextTick_28 : decode cX0_nextTick 28 = .ok (.iinc 2 1, 3) := by decide +kernel
theorem dX0_nextTick_31 : decode cX0_nextTick 31 = .ok (.goto (-21), 3) := by decide +kernel
theorem dX0_nextTick_34 : decode cX0_nextTick 34 = .ok (.iconst (-1), 1) := by decide +kernel
theorem dX0_nextTick_35 : decode cX0_nextTick 35 = .ok (.ireturn, 1) := by decide +kernel
theorem dX0_tea_0 : decode cX0_tea 0 = .ok (.aload_n 0, 1) := by decide +kernel
theorem dX0_tea_1 : decode cX0_tea 1 = .ok (.getfield 88, 3) := by decide +kernel
theorem dX0_tea_4 : decode cX0_tea 4 = .ok (.ireturn, 1) := by decide +kernel
theorem dX0_spilt_0 : decode cX0_spilt 0 = .ok (.aload_n 0, 1) := by decide +kernel
theorem dX0_spilt_1 : decode cX0_spilt 1 = .ok (.getfield 106, 3) := by decide +kernel
theorem dX0_spilt_4 : decode cX0_spilt 4 = .ok (.ireturn, 1) := by decide +kernel
set_option maxRecDepth 20000 in
theorem ggX0_spiltAtEnd_X0_contentAfter : GoodIn wsX0_spiltAtEnd wsX0_contentAfter := goodIn_r _ [9, 10, 11, 12, 13, 14, 15, 16, 22, 23, 24, 25, 26, 27, 28, 29, 30, 31, 32, 33, 34, 35, 36, 37, 38] (by decide +kernel) (by decide +kernel)
set_option maxRecDepth 20000 in
theorem gX0_spiltAtEnd_X0_contentAfter : GoodIn wsX0_spiltAtEnd (wsV RX0 102 RX0 yX0_contentAfter wsX0_contentAfter) := goodIn_app (goodIn_of _ (by decide +kernel)) ggX0_spiltAtEnd_X0_contentAfter
set_option maxRecDepth 20000 in
theorem ggX0_spiltAtEnd_X0_excess : GoodIn wsX0_spiltAtEnd wsX0_excess := goodIn_r _ [20, 21, 13, 14, 15, 16, 22, 23, 24, 25, 26, 27, 28, 29, 30, 31, 32, 33, 34, 35, 36, 37, 38] (by decide +kernel) (by decide +kernel)
set_option maxRecDepth 20000 in
theorem gX0_spiltAtEnd_X0_excess : GoodIn wsX0_spiltAtEnd (wsV RX0 155 RX0 yX0_excess wsX0_excess) := goodIn_app (goodIn_of _ (by decide +kernel)) ggX0_spiltAtEnd_X0_excess
theorem dX0_spiltAtEnd_0 : decode cX0_spiltAtEnd 0 = .ok (.aload_n 0, 1) := by decide +kernel
theorem dX0_spiltAtEnd_1 : decode cX0_spiltAtEnd 1 = .ok (.getfield 106, 3) := by decide +kernel
theorem dX0_spiltAtEnd_4 : decode cX0_spiltAtEnd 4 = .ok (.istore_n 1, 1) := by decide +kernel
theorem dX0_spiltAtEnd_5 : decode cX0_spiltAtEnd 5 = .ok (.aload_n 0, 1) := by decide +kernel
theorem dX0_spiltAtEnd_6 : decode cX0_spiltAtEnd 6 = .ok (.getfield 88, 3) := by decide +kernel
theorem dX0_spiltAtEnd_9 : decode cX0_spiltAtEnd 9 = .ok (.istore_n 2, 1) := by decide +kernel
theorem dX0_spiltAtEnd_10 : decode cX0_spiltAtEnd 10 = .ok (.aload_n 0, 1) := by decide +kernel
theorem dX0_spiltAtEnd_11 : decode cX0_spiltAtEnd 11 = .ok (.getfield 97, 3) := by decide +kernel
theorem dX0_spiltAtEnd_14 : decode cX0_spiltAtEnd 14 = .ok (.istore_n 3, 1) := by decide +kernel
theorem dX0_spiltAtEnd_15 : decode cX0_spiltAtEnd 15 = .ok (.iload_n 3, 1) := by decide +kernel
theorem dX0_spiltAtEnd_16 : decode cX0_spiltAtEnd 16 = .ok (.sipush 360, 3) := by decide +kernel
theorem dX0_spiltAtEnd_19 : decode cX0_spiltAtEnd 19 = .ok (.if_icmp .ge 37, 3) := by decide +kernel
theorem dX0_spiltAtEnd_22 : decode cX0_spiltAtEnd 22 = .ok (.aload_n 0, 1) := by decide +kernel
theorem dX0_spiltAtEnd_23 : decode cX0_spiltAtEnd 23 = .ok (.iload_n 3, 1) := by decide +kernel
theorem dX0_spiltAtEnd_24 : decode cX0_spiltAtEnd 24 = .ok (.iload_n 2, 1) := by decide +kernel
theorem dX0_spiltAtEnd_25 : decode cX0_spiltAtEnd 25 = .ok (.aload_n 0, 1) := by decide +kernel
theorem dX0_spiltAtEnd_26 : decode cX0_spiltAtEnd 26 = .ok (.getfield 35, 3) := by decide +kernel
theorem dX0_spiltAtEnd_29 : decode cX0_spiltAtEnd 29 = .ok (.invokevirtual 102, 3) := by decide +kernel
theorem dX0_spiltAtEnd_32 : decode cX0_spiltAtEnd 32 = .ok (.istore_n 2, 1) := by decide +kernel
theorem dX0_spiltAtEnd_33 : decode cX0_spiltAtEnd 33 = .ok (.aload_n 0, 1) := by decide +kernel
theorem dX0_spiltAtEnd_34 : decode cX0_spiltAtEnd 34 = .ok (.iload_n 2, 1) := by decide +kernel
theorem dX0_spiltAtEnd_35 : decode cX0_spiltAtEnd 35 = .ok (.invokevirtual 155, 3) := by decide +kernel
theorem dX0_spiltAtEnd_38 : decode cX0_spiltAtEnd 38 = .ok (.istore 4, 2) := by decide +kernel
theorem dX0_spiltAtEnd_40 : decode cX0_spiltAtEnd 40 = .ok (.iload_n 1, 1) := by decide +kernel
theorem dX0_spiltAtEnd_41 : decode cX0_spiltAtEnd 41 = .ok (.iload 4, 2) := by decide +kernel
theorem dX0_spiltAtEnd_43 : decode cX0_spiltAtEnd 43 = .ok (.iadd, 1) := by decide +kernel
theorem dX0_spiltAtEnd_44 : decode cX0_spiltAtEnd 44 = .ok (.istore_n 1, 1) := by decide +kernel
theorem dX0_spiltAtEnd_45 : decode cX0_spiltAtEnd 45 = .ok (.iload_n 2, 1) := by decide +kernel
theorem dX0_spiltAtEnd_46 : decode cX0_spiltAtEnd 46 = .ok (.iload 4, 2) := by decide +kernel
theorem dX0_spiltAtEnd_48 : decode cX0_spiltAtEnd 48 = .ok (.isub, 1) := by decide +kernel
theorem dX0_spiltAtEnd_49 : decode cX0_spiltAtEnd 49 = .ok (.istore_n 2, 1) := by decide +kernel
theorem dX0_spiltAtEnd_50 : decode cX0_spiltAtEnd 50 = .ok (.iinc 3 1, 3) := by decide +kernel
theorem dX0_spiltAtEnd_53 : decode cX0_spiltAtEnd 53 = .ok (.goto (-38), 3) := by decide +kernel
theorem dX0_spiltAtEnd_56 : decode cX0_spiltAtEnd 56 = .ok (.iload_n 1, 1) := by decide +kernel
theorem dX0_spiltAtEnd_57 : decode cX0_spiltAtEnd 57 = .ok (.ireturn, 1) := by decide +kernel
set_option maxRecDepth 20000 in
theorem ggX0_minuteOfSpill_X0_firstSpillWith : GoodIn wsX0_minuteOfSpill wsX0_firstSpillWith := goodIn_r _ [6, 7, 8, 9, 10, 11, 5, 12, 13, 14, 15, 16, 17, 18, 19, 20, 21, 22, 23, 24, 25, 26, 27, 28, 29, 30, 31, 32, 33, 34, 35, 36, 37, 38, 39, 40, 41] (by decide +kernel) (by decide +kernel)
set_option maxRecDepth 20000 in
theorem gX0_minuteOfSpill_X0_firstSpillWith : GoodIn wsX0_minuteOfSpill (wsV RX0 158 RX0 yX0_firstSpillWith wsX0_firstSpillWith) := goodIn_app (goodIn_of _ (by decide +kernel)) ggX0_minuteOfSpill_X0_firstSpillWith
theorem dX0_minuteOfSpill_0 : decode cX0_minuteOfSpill 0 = .ok (.aload_n 0, 1) := by decide +kernel
theorem dX0_minuteOfSpill_1 : decode cX0_minuteOfSpill 1 = .ok (.aload_n 0, 1) := by decide +kernel
theorem dX0_minuteOfSpill_2 : decode cX0_minuteOfSpill 2 = .ok (.getfield 35, 3) := by decide +kernel
theorem dX0_minuteOfSpill_5 : decode cX0_minuteOfSpill 5 = .ok (.invokevirtual 158, 3) := by decide +kernel
theorem dX0_minuteOfSpill_8 : decode cX0_minuteOfSpill 8 = .ok (.ireturn, 1) := by decide +kernel
set_option maxRecDepth 20000 in
theorem ggX0_safeRate_X0_firstSpillWith : GoodIn wsX0_safeRate wsX0_firstSpillWith := goodIn_r _ [5, 6, 7, 8, 9, 10, 4, 11, 12, 13, 14, 15, 16, 17, 18, 19, 20, 21, 22, 23, 24, 25, 26, 27, 28, 29, 30, 31, 32, 33, 34, 35, 36, 37, 38, 39, 40] (by decide +kernel) (by decide +kernel)
set_option maxRecDepth 20000 in
theorem gX0_safeRate_X0_firstSpillWith : GoodIn wsX0_safeRate (wsV RX0 158 RX0 yX0_firstSpillWith wsX0_firstSpillWith) := goodIn_app (goodIn_of _ (by decide +kernel)) ggX0_safeRate_X0_firstSpillWith
theorem dX0_safeRate_0 : decode cX0_safeRate 0 = .ok (.bipush 9, 2) := by decide +kernel
theorem dX0_safeRate_2 : decode cX0_safeRate 2 = .ok (.istore_n 1, 1) := by decide +kernel
theorem dX0_safeRate_3 : decode cX0_safeRate 3 = .ok (.iload_n 1, 1) := by decide +kernel
theorem dX0_safeRate_4 : decode cX0_safeRate 4 = .ok (.ifCond .le 18, 3) := by decide +kernel
theorem dX0_safeRate_7 : decode cX0_safeRate 7 = .ok (.aload_n 0, 1) := by decide +kernel
theorem dX0_safeRate_8 : decode cX0_safeRate 8 = .ok (.iload_n 1, 1) := by decide +kernel
theorem dX0_safeRate_9 : decode cX0_safeRate 9 = .ok (.invokevirtual 158, 3) := by decide +kernel
theorem dX0_safeRate_12 : decode cX0_safeRate 12 = .ok (.iconst (-1), 1) := by decide +kernel
theorem dX0_safeRate_13 : decode cX0_safeRate 13 = .ok (.if_icmp .eq 9, 3) := by decide +kernel
theorem dX0_safeRate_16 : decode cX0_safeRate 16 = .ok (.iinc 1 (-1), 3) := by decide +kernel
theorem dX0_safeRate_19 : decode cX0_safeRate 19 = .ok (.goto (-16), 3) := by decide +kernel
theorem dX0_safeRate_22 : decode cX0_safeRate 22 = .ok (.iload_n 1, 1) := by decide +kernel
theorem dX0_safeRate_23 : decode cX0_safeRate 23 = .ok (.ireturn, 1) := by decide +kernel
set_option maxRecDepth 20000 in
theorem ggX0_bestToGiveUp_X0_countAlone : GoodIn wsX0_bestToGiveUp wsX0_countAlone := goodIn_r _ [6, 7, 8, 9, 10, 5, 11, 12, 13, 14, 15, 16, 17, 18, 19, 20, 21, 22, 23, 24, 25, 26, 27, 28, 29, 30] (by decide +kernel) (by decide +kernel)
set_option maxRecDepth 20000 in
theorem gX0_bestToGiveUp_X0_countAlone : GoodIn wsX0_bestToGiveUp (wsV RX0 134 RX0 yX0_countAlone wsX0_countAlone) := goodIn_app (goodIn_of _ (by decide +kernel)) ggX0_bestToGiveUp_X0_countAlone
theorem dX0_bestToGiveUp_0 : decode cX0_bestToGiveUp 0 = .ok (.iconst (-1), 1) := by decide +kernel
theorem dX0_bestToGiveUp_1 : decode cX0_bestToGiveUp 1 = .ok (.istore_n 1, 1) := by decide +kernel
theorem dX0_bestToGiveUp_2 : decode cX0_bestToGiveUp 2 = .ok (.iconst 0, 1) := by decide +kernel
theorem dX0_bestToGiveUp_3 : decode cX0_bestToGiveUp 3 = .ok (.istore_n 2, 1) := by decide +kernel
theorem dX0_bestToGiveUp_4 : decode cX0_bestToGiveUp 4 = .ok (.iconst 0, 1) := by decide +kernel
theorem dX0_bestToGiveUp_5 : decode cX0_bestToGiveUp 5 = .ok (.istore_n 3, 1) := by decide +kernel
theorem dX0_bestToGiveUp_6 : decode cX0_bestToGiveUp 6 = .ok (.iload_n 3, 1) := by decide +kernel
theorem dX0_bestToGiveUp_7 : decode cX0_bestToGiveUp 7 = .ok (.aload_n 0, 1) := by decide +kernel
theorem dX0_bestToGiveUp_8 : decode cX0_bestToGiveUp 8 = .ok (.getfield 58, 3) := by decide +kernel
theorem dX0_bestToGiveUp_11 : decode cX0_bestToGiveUp 11 = .ok (.if_icmp .ge 32, 3) := by decide +kernel
theorem dX0_bestToGiveUp_14 : decode cX0_bestToGiveUp 14 = .ok (.aload_n 0, 1) := by decide +kernel
theorem dX0_bestToGiveUp_15 : decode cX0_bestToGiveUp 15 = .ok (.iload_n 3, 1) := by decide +kernel
theorem dX0_bestToGiveUp_16 : decode cX0_bestToGiveUp 16 = .ok (.invokevirtual 134, 3) := by decide +kernel
theorem dX0_bestToGiveUp_19 : decode cX0_bestToGiveUp 19 = .ok (.istore 4, 2) := by decide +kernel
theorem dX0_bestToGiveUp_21 : decode cX0_bestToGiveUp 21 = .ok (.iload_n 1, 1) := by decide +kernel
theorem dX0_bestToGiveUp_22 : decode cX0_bestToGiveUp 22 = .ok (.iconst (-1), 1) := by decide +kernel
theorem dX0_bestToGiveUp_23 : decode cX0_bestToGiveUp 23 = .ok (.if_icmp .eq 9, 3) := by decide +kernel
theorem dX0_bestToGiveUp_26 : decode cX0_bestToGiveUp 26 = .ok (.iload 4, 2) := by decide +kernel
theorem dX0_bestToGiveUp_28 : decode cX0_bestToGiveUp 28 = .ok (.iload_n 2, 1) := by decide +kernel
theorem dX0_bestToGiveUp_29 : decode cX0_bestToGiveUp 29 = .ok (.if_icmp .le 8, 3) := by decide +kernel
theorem dX0_bestToGiveUp_32 : decode cX0_bestToGiveUp 32 = .ok (.iload_n 3, 1) := by decide +kernel
theorem dX0_bestToGiveUp_33 : decode cX0_bestToGiveUp 33 = .ok (.istore_n 1, 1) := by decide +kernel
theorem dX0_bestToGiveUp_34 : decode cX0_bestToGiveUp 34 = .ok (.iload 4, 2) := by decide +kernel
theorem dX0_bestToGiveUp_36 : decode cX0_bestToGiveUp 36 = .ok (.istore_n 2, 1) := by decide +kernel
theorem dX0_bestToGiveUp_37 : decode cX0_bestToGiveUp 37 = .ok (.iinc 3 1, 3) := by decide +kernel
theorem dX0_bestToGiveUp_40 : decode cX0_bestToGiveUp 40 = .ok (.goto (-34), 3) := by decide +kernel
theorem dX0_bestToGiveUp_43 : decode cX0_bestToGiveUp 43 = .ok (.iload_n 1, 1) := by decide +kernel
theorem dX0_bestToGiveUp_44 : decode cX0_bestToGiveUp 44 = .ok (.ireturn, 1) := by decide +kernel
set_option maxRecDepth 20000 in
theorem ggX0_meanLastShadow_X0_sumOfShadows : GoodIn wsX0_meanLastShadow wsX0_sumOfShadows := goodIn_r _ [6, 1, 7, 8, 9, 5, 10, 11, 12, 13, 14, 15, 16, 17, 18, 19, 20, 21, 22, 23, 24, 25, 26, 27, 28] (by decide +kernel) (by decide +kernel)
set_option maxRecDepth 20000 in
theorem gX0_meanLastShadow_X0_sumOfShadows : GoodIn wsX0_meanLastShadow (wsV RX0 131 RX0 yX0_sumOfShadows wsX0_sumOfShadows) := goodIn_app (goodIn_of _ (by decide +kernel)) ggX0_meanLastShadow_X0_sumOfShadows
theorem dX0_meanLastShadow_0 : decode cX0_meanLastShadow 0 = .ok (.aload_n 0, 1) := by decide +kernel
theorem dX0_meanLastShadow_1 : decode cX0_meanLastShadow 1 = .ok (.getfield 48, 3) := by decide +kernel
theorem dX0_meanLastShadow_4 : decode cX0_meanLastShadow 4 = .ok (.ifCond .ne 5, 3) := by decide +kernel
theorem dX0_meanLastShadow_7 : decode cX0_meanLastShadow 7 = .ok (.dconst 0, 1) := by decide +kernel
theorem dX0_meanLastShadow_8 : decode cX0_meanLastShadow 8 = .ok (.dreturn, 1) := by decide +kernel
theorem dX0_meanLastShadow_9 : decode cX0_meanLastShadow 9 = .ok (.aload_n 0, 1) := by decide +kernel
theorem dX0_meanLastShadow_10 : decode cX0_meanLastShadow 10 = .ok (.sipush 359, 3) := by decide +kernel
theorem dX0_meanLastShadow_13 : decode cX0_meanLastShadow 13 = .ok (.invokevirtual 131, 3) := by decide +kernel
theorem dX0_meanLastShadow_16 : decode cX0_meanLastShadow 16 = .ok (.i2d, 1) := by decide +kernel
theorem dX0_meanLastShadow_17 : decode cX0_meanLastShadow 17 = .ok (.aload_n 0, 1) := by decide +kernel
theorem dX0_meanLastShadow_18 : decode cX0_meanLastShadow 18 = .ok (.getfield 48, 3) := by decide +kernel
theorem dX0_meanLastShadow_21 : decode cX0_meanLastShadow 21 = .ok (.i2d, 1) := by decide +kernel
theorem dX0_meanLastShadow_22 : decode cX0_meanLastShadow 22 = .ok (.ddiv, 1) := by decide +kernel
theorem dX0_meanLastShadow_23 : decode cX0_meanLastShadow 23 = .ok (.dreturn, 1) := by decide +kernel
set_option maxRecDepth 20000 in
theorem ggX0_digest_X0_awakeMinutes : GoodIn wsX0_digest wsX0_awakeMinutes := goodIn_r _ [14, 4, 15, 118, 119, 120, 121, 122, 123, 124, 125, 126, 127, 128, 129, 130, 131, 132, 133, 134] (by decide +kernel) (by decide +kernel)
set_option maxRecDepth 20000 in
theorem gX0_digest_X0_awakeMinutes : GoodIn wsX0_digest (wsV RX0 115 RX0 yX0_awakeMinutes wsX0_awakeMinutes) := goodIn_app (goodIn_of _ (by decide +kernel)) ggX0_digest_X0_awakeMinutes
set_option maxRecDepth 20000 in
theorem ggX0_digest_X0_longestAwake : GoodIn wsX0_digest wsX0_longestAwake := goodIn_r _ [19, 15, 20, 21, 22, 23, 118, 119, 120, 121, 122, 123, 124, 125, 126, 127, 128, 129, 130, 131, 132, 133, 134] (by decide +kernel) (by decide +kernel)
set_option maxRecDepth 20000 in
theorem gX0_digest_X0_longestAwake : GoodIn wsX0_digest (wsV RX0 165 RX0 yX0_longestAwake wsX0_longestAwake) := goodIn_app (goodIn_of _ (by decide +kernel)) ggX0_digest_X0_longestAwake
set_option maxRecDepth 20000 in
theorem ggX0_digest_X0_spiltAtEnd : GoodIn wsX0_digest wsX0_spiltAtEnd := goodIn_r _ [27, 9, 8, 4, 28, 29, 30, 31, 13, 32, 15, 33, 34, 20, 21, 22, 23, 35, 36, 37, 38, 39, 118, 119, 120, 121, 122, 123, 124, 125, 126, 127, 128, 129, 130, 131, 132, 133, 134] (by decide +kernel) (by decide +kernel)
set_option maxRecDepth 20000 in
theorem gX0_digest_X0_spiltAtEnd : GoodIn wsX0_digest (wsV RX0 168 RX0 yX0_spiltAtEnd wsX0_spiltAtEnd) := goodIn_app (goodIn_of _ (by decide +kernel)) ggX0_digest_X0_spiltAtEnd
set_option maxRecDepth 20000 in
theorem ggX0_digest_X0_safeRate : GoodIn wsX0_digest wsX0_safeRate := goodIn_r _ [43, 44, 45, 46, 13, 47, 8, 4, 29, 30, 31, 32, 15, 33, 34, 20, 21, 22, 23, 35, 36, 37, 38, 39, 118, 119, 120, 121, 122, 123, 124, 125, 126, 127, 128, 129, 130, 131, 132, 133, 134] (by decide +kernel) (by decide +kernel)
set_option maxRecDepth 20000 in
theorem gX0_digest_X0_safeRate : GoodIn wsX0_digest (wsV RX0 171 RX0 yX0_safeRate wsX0_safeRate) := goodIn_app (goodIn_of _ (by decide +kernel)) ggX0_digest_X0_safeRate
set_option maxRecDepth 20000 in
theorem ggX0_digest_X0_bestToGiveUp : GoodIn wsX0_digest wsX0_bestToGiveUp := goodIn_r _ [51, 6, 52, 53, 54, 13, 55, 15, 56, 57, 58, 59, 60, 61, 118, 119, 120, 121, 122, 123, 124, 125, 126, 127, 128, 129, 130, 131, 132, 133, 134] (by decide +kernel) (by decide +kernel)
set_option maxRecDepth 20000 in
theorem gX0_digest_X0_bestToGiveUp : GoodIn wsX0_digest (wsV RX0 174 RX0 yX0_bestToGiveUp wsX0_bestToGiveUp) := goodIn_app (goodIn_of _ (by decide +kernel)) ggX0_digest_X0_bestToGiveUp
set_option maxRecDepth 20000 in
theorem ggX0_digest_X0_bestBee : GoodIn wsX0_digest wsX0_bestBee := goodIn_ca (goodIn_r _ [65, 7, 66, 67, 22, 68, 69, 70, 71, 13, 72, 73, 74, 75, 76, 77, 78, 79, 80, 81, 82, 83, 84, 85, 86, 87, 4, 88, 89, 90, 91, 15, 92, 93, 94, 95, 96, 10, 11, 12, 14, 118, 119, 120, 121, 122, 123, 124, 125, 126, 127, 128, 129, 130, 131, 132, 133, 134] (by decide +kernel) (by decide +kernel)) (goodIn_sub (fun _ h => List.mem_cons_of_mem _ (List.mem_append_right _ h)) (by decide +kernel))
set_option maxRecDepth 20000 in
theorem gX0_digest_X0_bestBee : GoodIn wsX0_digest (wsV RX0 177 RX0 yX0_bestBee wsX0_bestBee) := goodIn_app (goodIn_of _ (by decide +kernel)) ggX0_digest_X0_bestBee
set_option maxRecDepth 20000 in
theorem ggX0_digest_X0_withSticks : GoodIn wsX0_digest wsX0_withSticks := goodIn_r _ [100, 5, 2, 101, 102, 103, 13, 104, 105, 118, 119, 120, 121, 122, 123, 124, 125, 126, 127, 128, 129, 130, 131, 132, 133, 134] (by decide +kernel) (by decide +kernel)
set_option maxRecDepth 20000 in
theorem gX0_digest_X0_withSticks : GoodIn wsX0_digest (wsV RX0 180 RX0 yX0_withSticks wsX0_withSticks) := goodIn_app (goodIn_of _ (by decide +kernel)) ggX0_digest_X0_withSticks
set_option maxRecDepth 20000 in
theorem ggX0_digest_X0_withNaps : GoodIn wsX0_digest wsX0_withNaps := goodIn_r _ [109, 6, 2, 60, 61, 52, 53, 54, 13, 55, 15, 56, 57, 58, 59, 118, 119, 120, 121, 122, 123, 124, 125, 126, 127, 128, 129, 130, 131, 132, 133, 134] (by decide +kernel) (by decide +kernel)
set_option maxRecDepth 20000 in
theorem gX0_digest_X0_withNaps : GoodIn wsX0_digest (wsV RX0 184 RX0 yX0_withNaps wsX0_withNaps) := goodIn_app (goodIn_of _ (by decide +kernel)) ggX0_digest_X0_withNaps
set_option maxRecDepth 20000 in
theorem ggX0_digest_X0_withBees : GoodIn wsX0_digest wsX0_withBees := goodIn_ca (goodIn_r _ [113, 7, 2, 84, 85, 86, 13, 87, 4, 88, 89, 90, 91, 15, 92, 93, 94, 95, 77, 96, 73, 74, 75, 76, 78, 79, 80, 81, 82, 83, 114, 115, 116, 117, 118, 119, 120, 121, 122, 123, 124, 125, 126, 127, 128, 129, 130, 131, 132, 133, 134] (by decide +kernel) (by decide +kernel)) (goodIn_sub (fun _ h => List.mem_cons_of_mem _ (List.mem_append_right _ h)) (by decide +kernel))
set_option maxRecDepth 20000 in
theorem gX0_digest_X0_withBees : GoodIn wsX0_digest (wsV RX0 187 RX0 yX0_withBees wsX0_withBees) := goodIn_app (goodIn_of _ (by decide +kernel)) ggX0_digest_X0_withBees
theorem dX0_digest_0 : decode cX0_digest 0 = .ok (.ldc2_w 161, 3) := by decide +kernel
theorem dX0_digest_3 : decode cX0_digest 3 = .ok (.lstore_n 1, 1) := by decide +kernel
theorem dX0_digest_4 : decode cX0_digest 4 = .ok (.lload_n 1, 1) := by decide +kernel
theorem dX0_digest_5 : decode cX0_digest 5 = .ok (.ldc2_w 163, 3) := by decide +kernel
theorem dX0_digest_8 : decode cX0_digest 8 = .ok (.lmul, 1) := by decide +kernel
theorem dX0_digest_9 : decode cX0_digest 9 = .ok (.aload_n 0, 1) := by decide +kernel
theorem dX0_digest_10 : decode cX0_digest 10 = .ok (.getfield 109, 3) := by decide +kernel
theorem dX0_digest_13 : decode cX0_digest 13 = .ok (.i2l, 1) := by decide +kernel
theorem dX0_digest_14 : decode cX0_digest 14 = .ok (.ladd, 1) := by decide +kernel
theorem dX0_digest_15 : decode cX0_digest 15 = .ok (.lstore_n 1, 1) := by decide +kernel
theorem dX0_digest_16 : decode cX0_digest 16 = .ok (.lload_n 1, 1) := by decide +kernel
theorem dX0_digest_17 : decode cX0_digest 17 = .ok (.ldc2_w 163, 3) := by decide +kernel
theorem dX0_digest_20 : decode cX0_digest 20 = .ok (.lmul, 1) := by decide +kernel
theorem dX0_digest_21 : decode cX0_digest 21 = .ok (.aload_n 0, 1) := by decide +kernel
theorem dX0_digest_22 : decode cX0_digest 22 = .ok (.getfield 97, 3) := by decide +kernel
theorem dX0_digest_25 : decode cX0_digest 25 = .ok (.i2l, 1) := by decide +kernel
theorem dX0_digest_26 : decode cX0_digest 26 = .ok (.ladd, 1) := by decide +kernel
theorem dX0_digest_27 : decode cX0_digest 27 = .ok (.lstore_n 1, 1) := by decide +kernel
theorem dX0_digest_28 : decode cX0_digest 28 = .ok (.lload_n 1, 1) := by decide +kernel
theorem dX0_digest_29 : decode cX0_digest 29 = .ok (.ldc2_w 163, 3) := by decide +kernel
theorem dX0_digest_32 : decode cX0_digest 32 = .ok (.lmul, 1) := by decide +kernel
theorem dX0_digest_33 : decode cX0_digest 33 = .ok (.aload_n 0, 1) := by decide +kernel
theorem dX0_digest_34 : decode cX0_digest 34 = .ok (.invokevirtual 115, 3) := by decide +kernel
theorem dX0_digest_37 : decode cX0_digest 37 = .ok (.i2l, 1) := by decide +kernel
theorem dX0_digest_38 : decode cX0_digest 38 = .ok (.ladd, 1) := by decide +kernel
theorem dX0_digest_39 : decode cX0_digest 39 = .ok (.lstore_n 1, 1) := by decide +kernel
theorem dX0_digest_40 : decode cX0_digest 40 = .ok (.lload_n 1, 1) := by decide +kernel
theorem dX0_digest_41 : decode cX0_digest 41 = .ok (.ldc2_w 163, 3) := by decide +kernel
theorem dX0_digest_44 : decode cX0_digest 44 = .ok (.lmul, 1) := by decide +kernel
theorem dX0_digest_45 : decode cX0_digest 45 = .ok (.aload_n 0, 1) := by decide +kernel
theorem dX0_digest_46 : decode cX0_digest 46 = .ok (.invokevirtual 165, 3) := by decide +kernel
theorem dX0_digest_49 : decode cX0_digest 49 = .ok (.i2l, 1) := by decide +kernel
theorem dX0_digest_50 : decode cX0_digest 50 = .ok (.ladd, 1) := by decide +kernel
theorem dX0_digest_51 : decode cX0_digest 51 = .ok (.lstore_n 1, 1) := by decide +kernel
theorem dX0_digest_52 : decode cX0_digest 52 = .ok (.lload_n 1, 1) := by decide +kernel
theorem dX0_digest_53 : decode cX0_digest 53 = .ok (.ldc2_w 163, 3) := by decide +kernel
theorem dX0_digest_56 : decode cX0_digest 56 = .ok (.lmul, 1) := by decide +kernel
theorem dX0_digest_57 : decode cX0_digest 57 = .ok (.aload_n 0, 1) := by decide +kernel
theorem dX0_digest_58 : decode cX0_digest 58 = .ok (.getfield 48, 3) := by decide +kernel
theorem dX0_digest_61 : decode cX0_digest 61 = .ok (.i2l, 1) := by decide +kernel
theorem dX0_digest_62 : decode cX0_digest 62 = .ok (.ladd, 1) := by decide +kernel
theorem dX0_digest_63 : decode cX0_digest 63 = .ok (.lstore_n 1, 1) := by decide +kernel
theorem dX0_digest_64 : decode cX0_digest 64 = .ok (.lload_n 1, 1) := by decide +kernel
theorem dX0_digest_65 : decode cX0_digest 65 = .ok (.ldc2_w 163, 3) := by decide +kernel
theorem dX0_digest_68 : decode cX0_digest 68 = .ok (.lmul, 1) := by decide +kernel
theorem dX0_digest_69 : decode cX0_digest 69 = .ok (.aload_n 0, 1) := by decide +kernel
theorem dX0_digest_70 : decode cX0_digest 70 = .ok (.getfield 58, 3) := by decide +kernel
theorem dX0_digest_73 : decode cX0_digest 73 = .ok (.i2l, 1) := by decide +kernel
theorem dX0_digest_74 : decode cX0_digest 74 = .ok (.ladd, 1) := by decide +kernel
theorem dX0_digest_75 : decode cX0_digest 75 = .ok (.lstore_n 1, 1) := by decide +kernel
theorem dX0_digest_76 : decode cX0_digest 76 = .ok (.lload_n 1, 1) := by decide +kernel
theorem dX0_digest_77 : decode cX0_digest 77 = .ok (.ldc2_w 163, 3) := by decide +kernel
theorem dX0_digest_80 : decode cX0_digest 80 = .ok (.lmul, 1) := by decide +kernel
theorem dX0_digest_81 : decode cX0_digest 81 = .ok (.aload_n 0, 1) := by decide +kernel
theorem dX0_digest_82 : decode cX0_digest 82 = .ok (.getfield 73, 3) := by decide +kernel
theorem dX0_digest_85 : decode cX0_digest 85 = .ok (.i2l, 1) := by decide +kernel
theorem dX0_digest_86 : decode cX0_digest 86 = .ok (.ladd, 1) := by decide +kernel
theorem dX0_digest_87 : decode cX0_digest 87 = .ok (.lstore_n 1, 1) := by decide +kernel
theorem dX0_digest_88 : decode cX0_digest 88 = .ok (.lload_n 1, 1) := by decide +kernel
theorem dX0_digest_89 : decode cX0_digest 89 = .ok (.ldc2_w 163, 3) := by decide +kernel
theorem dX0_digest_92 : decode cX0_digest 92 = .ok (.lmul, 1) := by decide +kernel
theorem dX0_digest_93 : decode cX0_digest 93 = .ok (.aload_n 0, 1) := by decide +kernel
theorem dX0_digest_94 : decode cX0_digest 94 = .ok (.getfield 88, 3) := by decide +kernel
theorem dX0_digest_97 : decode cX0_digest 97 = .ok (.i2l, 1) := by decide +kernel
theorem dX0_digest_98 : decode cX0_digest 98 = .ok (.ladd, 1) := by decide +kernel
theorem dX0_digest_99 : decode cX0_digest 99 = .ok (.lstore_n 1, 1) := by decide +kernel
theorem dX0_digest_100 : decode cX0_digest 100 = .ok (.lload_n 1, 1) := by decide +kernel
theorem dX0_digest_101 : decode cX0_digest 101 = .ok (.ldc2_w 163, 3) := by decide +kernel
theorem dX0_digest_104 : decode cX0_digest 104 = .ok (.lmul, 1) := by decide +kernel
theorem dX0_digest_105 : decode cX0_digest 105 = .ok (.aload_n 0, 1) := by decide +kernel
theorem dX0_digest_106 : decode cX0_digest 106 = .ok (.getfield 106, 3) := by decide +kernel
theorem dX0_digest_109 : decode cX0_digest 109 = .ok (.i2l, 1) := by decide +kernel
theorem dX0_digest_110 : decode cX0_digest 110 = .ok (.ladd, 1) := by decide +kernel
theorem dX0_digest_111 : decode cX0_digest 111 = .ok (.lstore_n 1, 1) := by decide +kernel
theorem dX0_digest_112 : decode cX0_digest 112 = .ok (.lload_n 1, 1) := by decide +kernel
theorem dX0_digest_113 : decode cX0_digest 113 = .ok (.ldc2_w 163, 3) := by decide +kernel
theorem dX0_digest_116 : decode cX0_digest 116 = .ok (.lmul, 1) := by decide +kernel
theorem dX0_digest_117 : decode cX0_digest 117 = .ok (.aload_n 0, 1) := by decide +kernel
theorem dX0_digest_118 : decode cX0_digest 118 = .ok (.invokevirtual 168, 3) := by decide +kernel
theorem dX0_digest_121 : decode cX0_digest 121 = .ok (.i2l, 1) := by decide +kernel
theorem dX0_digest_122 : decode cX0_digest 122 = .ok (.ladd, 1) := by decide +kernel
theorem dX0_digest_123 : decode cX0_digest 123 = .ok (.lstore_n 1, 1) := by decide +kernel
theorem dX0_digest_124 : decode cX0_digest 124 = .ok (.lload_n 1, 1) := by decide +kernel
theorem dX0_digest_125 : decode cX0_digest 125 = .ok (.ldc2_w 163, 3) := by decide +kernel
theorem dX0_digest_128 : decode cX0_digest 128 = .ok (.lmul, 1) := by decide +kernel
theorem dX0_digest_129 : decode cX0_digest 129 = .ok (.aload_n 0, 1) := by decide +kernel
theorem dX0_digest_130 : decode cX0_digest 130 = .ok (.invokevirtual 171, 3) := by decide +kernel
theorem dX0_digest_133 : decode cX0_digest 133 = .ok (.i2l, 1) := by decide +kernel
theorem dX0_digest_134 : decode cX0_digest 134 = .ok (.ladd, 1) := by decide +kernel
theorem dX0_digest_135 : decode cX0_digest 135 = .ok (.lstore_n 1, 1) := by decide +kernel
theorem dX0_digest_136 : decode cX0_digest 136 = .ok (.lload_n 1, 1) := by decide +kernel
theorem dX0_digest_137 : decode cX0_digest 137 = .ok (.ldc2_w 163, 3) := by decide +kernel
theorem dX0_digest_140 : decode cX0_digest 140 = .ok (.lmul, 1) := by decide +kernel
theorem dX0_digest_141 : decode cX0_digest 141 = .ok (.aload_n 0, 1) := by decide +kernel
theorem dX0_digest_142 : decode cX0_digest 142 = .ok (.invokevirtual 174, 3) := by decide +kernel
theorem dX0_digest_145 : decode cX0_digest 145 = .ok (.i2l, 1) := by decide +kernel
theorem dX0_digest_146 : decode cX0_digest 146 = .ok (.ladd, 1) := by decide +kernel
theorem dX0_digest_147 : decode cX0_digest 147 = .ok (.lstore_n 1, 1) := by decide +kernel
theorem dX0_digest_148 : decode cX0_digest 148 = .ok (.lload_n 1, 1) := by decide +kernel
theorem dX0_digest_149 : decode cX0_digest 149 = .ok (.ldc2_w 163, 3) := by decide +kernel
theorem dX0_digest_152 : decode cX0_digest 152 = .ok (.lmul, 1) := by decide +kernel
theorem dX0_digest_153 : decode cX0_digest 153 = .ok (.aload_n 0, 1) := by decide +kernel
theorem dX0_digest_154 : decode cX0_digest 154 = .ok (.invokevirtual 177, 3) := by decide +kernel
theorem dX0_digest_157 : decode cX0_digest 157 = .ok (.i2l, 1) := by decide +kernel
theorem dX0_digest_158 : decode cX0_digest 158 = .ok (.ladd, 1) := by decide +kernel
theorem dX0_digest_159 : decode cX0_digest 159 = .ok (.lstore_n 1, 1) := by decide +kernel
theorem dX0_digest_160 : decode cX0_digest 160 = .ok (.aload_n 0, 1) := by decide +kernel
theorem dX0_digest_161 : decode cX0_digest 161 = .ok (.aload_n 0, 1) := by decide +kernel
theorem dX0_digest_162 : decode cX0_digest 162 = .ok (.aload_n 0, 1) := by decide +kernel
theorem dX0_digest_163 : decode cX0_digest 163 = .ok (.lload_n 1, 1) := by decide +kernel
theorem dX0_digest_164 : decode cX0_digest 164 = .ok (.invokevirtual 180, 3) := by decide +kernel
theorem dX0_digest_167 : decode cX0_digest 167 = .ok (.invokevirtual 184, 3) := by decide +kernel
theorem dX0_digest_170 : decode cX0_digest 170 = .ok (.invokevirtual 187, 3) := by decide +kernel
theorem dX0_digest_173 : decode cX0_digest 173 = .ok (.lreturn, 1) := by decide +kernel
theorem dX0_checkMinute_0 : decode cX0_checkMinute 0 = .ok (.iload_n 1, 1) := by decide +kernel
theorem dX0_checkMinute_1 : decode cX0_checkMinute 1 = .ok (.ifCond .lt 10, 3) := by decide +kernel
theorem dX0_checkMinute_4 : decode cX0_checkMinute 4 = .ok (.iload_n 1, 1) := by decide +kernel
theorem dX0_checkMinute_5 : decode cX0_checkMinute 5 = .ok (.sipush 360, 3) := by decide +kernel
theorem dX0_checkMinute_8 : decode cX0_checkMinute 8 = .ok (.if_icmp .lt 13, 3) := by decide +kernel
theorem dX0_checkMinute_11 : decode cX0_checkMinute 11 = .ok (.new 41, 3) := by decide +kernel
theorem dX0_checkMinute_14 : decode cX0_checkMinute 14 = .ok (.dup, 1) := by decide +kernel
theorem dX0_checkMinute_15 : decode cX0_checkMinute 15 = .ok (.ldc 190, 2) := by decide +kernel
theorem dX0_checkMinute_17 : decode cX0_checkMinute 17 = .ok (.invokespecial 45, 3) := by decide +kernel
theorem dX0_checkMinute_20 : decode cX0_checkMinute 20 = .ok (.athrow, 1) := by decide +kernel
theorem dX0_checkMinute_21 : decode cX0_checkMinute 21 = .ok (.return_, 1) := by decide +kernel
theorem dX0_checkStick_0 : decode cX0_checkStick 0 = .ok (.iload_n 1, 1) := by decide +kernel
theorem dX0_checkStick_1 : decode cX0_checkStick 1 = .ok (.ifCond .lt 11, 3) := by decide +kernel
theorem dX0_checkStick_4 : decode cX0_checkStick 4 = .ok (.iload_n 1, 1) := by decide +kernel
theorem dX0_checkStick_5 : decode cX0_checkStick 5 = .ok (.aload_n 0, 1) := by decide +kernel
theorem dX0_checkStick_6 : decode cX0_checkStick 6 = .ok (.getfield 48, 3) := by decide +kernel
theorem dX0_checkStick_9 : decode cX0_checkStick 9 = .ok (.if_icmp .lt 13, 3) := by decide +kernel
theorem dX0_checkStick_12 : decode cX0_checkStick 12 = .ok (.new 192, 3) := by decide +kernel
theorem dX0_checkStick_15 : decode cX0_checkStick 15 = .ok (.dup, 1) := by decide +kernel
theorem dX0_checkStick_16 : decode cX0_checkStick 16 = .ok (.ldc 194, 2) := by decide +kernel
theorem dX0_checkStick_18 : decode cX0_checkStick 18 = .ok (.invokespecial 196, 3) := by decide +kernel
theorem dX0_checkStick_21 : decode cX0_checkStick 21 = .ok (.athrow, 1) := by decide +kernel
theorem dX0_checkStick_22 : decode cX0_checkStick 22 = .ok (.return_, 1) := by decide +kernel
theorem dX0_checkNap_0 : decode cX0_checkNap 0 = .ok (.iload_n 1, 1) := by decide +kernel
theorem dX0_checkNap_1 : decode cX0_checkNap 1 = .ok (.ifCond .lt 11, 3) := by decide +kernel
theorem dX0_checkNap_4 : decode cX0_checkNap 4 = .ok (.iload_n 1, 1) := by decide +kernel
theorem dX0_checkNap_5 : decode cX0_checkNap 5 = .ok (.aload_n 0, 1) := by decide +kernel
theorem dX0_checkNap_6 : decode cX0_checkNap 6 = .ok (.getfield 58, 3) := by decide +kernel
theorem dX0_checkNap_9 : decode cX0_checkNap 9 = .ok (.if_icmp .lt 13, 3) := by decide +kernel
theorem dX0_checkNap_12 : decode cX0_checkNap 12 = .ok (.new 192, 3) := by decide +kernel
theorem dX0_checkNap_15 : decode cX0_checkNap 15 = .ok (.dup, 1) := by decide +kernel
theorem dX0_checkNap_16 : decode cX0_checkNap 16 = .ok (.ldc 197, 2) := by decide +kernel
theorem dX0_checkNap_18 : decode cX0_checkNap 18 = .ok (.invokespecial 196, 3) := by decide +kernel
theorem dX0_checkNap_21 : decode cX0_checkNap 21 = .ok (.athrow, 1) := by decide +kernel
theorem dX0_checkNap_22 : decode cX0_checkNap 22 = .ok (.return_, 1) := by decide +kernel
theorem dX0_checkBee_0 : decode cX0_checkBee 0 = .ok (.iload_n 1, 1) := by decide +kernel
theorem dX0_checkBee_1 : decode cX0_checkBee 1 = .ok (.ifCond .lt 11, 3) := by decide +kernel
theorem dX0_checkBee_4 : decode cX0_checkBee 4 = .ok (.iload_n 1, 1) := by decide +kernel
theorem dX0_checkBee_5 : decode cX0_checkBee 5 = .ok (.aload_n 0, 1) := by decide +kernel
theorem dX0_checkBee_6 : decode cX0_checkBee 6 = .ok (.getfield 73, 3) := by decide +kernel
theorem dX0_checkBee_9 : decode cX0_checkBee 9 = .ok (.if_icmp .lt 13, 3) := by decide +kernel
theorem dX0_checkBee_12 : decode cX0_checkBee 12 = .ok (.new 192, 3) := by decide +kernel
theorem dX0_checkBee_15 : decode cX0_checkBee 15 = .ok (.dup, 1) := by decide +kernel
theorem dX0_checkBee_16 : decode cX0_checkBee 16 = .ok (.ldc 199, 2) := by decide +kernel
theorem dX0_checkBee_18 : decode cX0_checkBee 18 = .ok (.invokespecial 196, 3) := by decide +kernel
theorem dX0_checkBee_21 : decode cX0_checkBee 21 = .ok (.athrow, 1) := by decide +kernel
theorem dX0_checkBee_22 : decode cX0_checkBee 22 = .ok (.return_, 1) := by decide +kernel
theorem dX0_covers_0 : decode cX0_covers 0 = .ok (.aload_n 0, 1) := by decide +kernel
theorem dX0_covers_1 : decode cX0_covers 1 = .ok (.getfield 13, 3) := by decide +kernel
theorem dX0_covers_4 : decode cX0_covers 4 = .ok (.iload_n 1, 1) := by decide +kernel
theorem dX0_covers_5 : decode cX0_covers 5 = .ok (.iaload, 1) := by decide +kernel
theorem dX0_covers_6 : decode cX0_covers 6 = .ok (.iload_n 2, 1) := by decide +kernel
theorem dX0_covers_7 : decode cX0_covers 7 = .ok (.if_icmp .gt 17, 3) := by decide +kernel
theorem dX0_covers_10 : decode cX0_covers 10 = .ok (.iload_n 2, 1) := by decide +kernel
theorem dX0_covers_11 : decode cX0_covers 11 = .ok (.aload_n 0, 1) := by decide +kernel
theorem dX0_covers_12 : decode cX0_covers 12 = .ok (.getfield 16, 3) := by decide +kernel
theorem dX0_covers_15 : decode cX0_covers 15 = .ok (.iload_n 1, 1) := by decide +kernel
theorem dX0_covers_16 : decode cX0_covers 16 = .ok (.iaload, 1) := by decide +kernel
theorem dX0_covers_17 : decode cX0_covers 17 = .ok (.if_icmp .ge 7, 3) := by decide +kernel
theorem dX0_covers_20 : decode cX0_covers 20 = .ok (.iconst 1, 1) := by decide +kernel
theorem dX0_covers_21 : decode cX0_covers 21 = .ok (.goto 4, 3) := by decide +kernel
theorem dX0_covers_24 : decode cX0_covers 24 = .ok (.iconst 0, 1) := by decide +kernel
theorem dX0_covers_25 : decode cX0_covers 25 = .ok (.ireturn, 1) := by decide +kernel
set_option maxRecDepth 20000 in
theorem ggX0_changeCover_X0_covers : GoodIn wsX0_changeCover wsX0_covers := goodIn_r _ [6, 7, 8, 9, 10, 11, 12, 13, 14, 15, 16, 17, 18, 19, 20, 21, 22, 23, 24, 25] (by decide +kernel) (by decide +kernel)
set_option maxRecDepth 20000 in
theorem gX0_changeCover_X0_covers : GoodIn wsX0_changeCover (wsV RX0 201 RX0 yX0_covers wsX0_covers) := goodIn_app (goodIn_of _ (by decide +kernel)) ggX0_changeCover_X0_covers
theorem dX0_changeCover_0 : decode cX0_changeCover 0 = .ok (.iconst 0, 1) := by decide +kernel
theorem dX0_changeCover_1 : decode cX0_changeCover 1 = .ok (.istore_n 3, 1) := by decide +kernel
theorem dX0_changeCover_2 : decode cX0_changeCover 2 = .ok (.iload_n 3, 1) := by decide +kernel
theorem dX0_changeCover_3 : decode cX0_changeCover 3 = .ok (.sipush 360, 3) := by decide +kernel
theorem dX0_changeCover_6 : decode cX0_changeCover 6 = .ok (.if_icmp .ge 28, 3) := by decide +kernel
theorem dX0_changeCover_9 : decode cX0_changeCover 9 = .ok (.aload_n 0, 1) := by decide +kernel
theorem dX0_changeCover_10 : decode cX0_changeCover 10 = .ok (.iload_n 1, 1) := by decide +kernel
theorem dX0_changeCover_11 : decode cX0_changeCover 11 = .ok (.iload_n 3, 1) := by decide +kernel
theorem dX0_changeCover_12 : decode cX0_changeCover 12 = .ok (.invokevirtual 201, 3) := by decide +kernel
theorem dX0_changeCover_15 : decode cX0_changeCover 15 = .ok (.ifCond .eq 13, 3) := by decide +kernel
theorem dX0_changeCover_18 : decode cX0_changeCover 18 = .ok (.aload_n 0, 1) := by decide +kernel
theorem dX0_changeCover_19 : decode cX0_changeCover 19 = .ok (.getfield 19, 3) := by decide +kernel
theorem dX0_changeCover_22 : decode cX0_changeCover 22 = .ok (.iload_n 3, 1) := by decide +kernel
theorem dX0_changeCover_23 : decode cX0_changeCover 23 = .ok (.dup2, 1) := by decide +kernel
theorem dX0_changeCover_24 : decode cX0_changeCover 24 = .ok (.iaload, 1) := by decide +kernel
theorem dX0_changeCover_25 : decode cX0_changeCover 25 = .ok (.iload_n 2, 1) := by decide +kernel
theorem dX0_changeCover_26 : decode cX0_changeCover 26 = .ok (.iadd, 1) := by decide +kernel
theorem dX0_changeCover_27 : decode cX0_changeCover 27 = .ok (.iastore, 1) := by decide +kernel
theorem dX0_changeCover_28 : decode cX0_changeCover 28 = .ok (.iinc 3 1, 3) := by decide +kernel
theorem dX0_changeCover_31 : decode cX0_changeCover 31 = .ok (.goto (-29), 3) := by decide +kernel
theorem dX0_changeCover_34 : decode cX0_changeCover 34 = .ok (.return_, 1) := by decide +kernel
set_option maxRecDepth 20000 in
theorem ggX0_countAlone_X0_covers : GoodIn wsX0_countAlone wsX0_covers := goodIn_r _ [6, 7, 8, 9, 10, 11, 12, 13, 14, 15, 16, 17, 18, 19, 20, 21, 22, 23, 24, 25] (by decide +kernel) (by decide +kernel)
set_option maxRecDepth 20000 in
theorem gX0_countAlone_X0_covers : GoodIn wsX0_countAlone (wsV RX0 201 RX0 yX0_covers wsX0_covers) := goodIn_app (goodIn_of _ (by decide +kernel)) ggX0_countAlone_X0_covers
theorem dX0_countAlone_0 : decode cX0_countAlone 0 = .ok (.iconst 0, 1) := by decide +kernel
theorem dX0_countAlone_1 : decode cX0_countAlone 1 = .ok (.istore_n 2, 1) := by decide +kernel
theorem dX0_countAlone_2 : decode cX0_countAlone 2 = .ok (.iconst 0, 1) := by decide +kernel
theorem dX0_countAlone_3 : decode cX0_countAlone 3 = .ok (.istore_n 3, 1) := by decide +kernel
theorem dX0_countAlone_4 : decode cX0_countAlone 4 = .ok (.iload_n 3, 1) := by decide +kernel
theorem dX0_countAlone_5 : decode cX0_countAlone 5 = .ok (.sipush 360, 3) := by decide +kernel
theorem dX0_countAlone_8 : decode cX0_countAlone 8 = .ok (.if_icmp .ge 31, 3) := by decide +kernel
theorem dX0_countAlone_11 : decode cX0_countAlone 11 = .ok (.aload_n 0, 1) := by decide +kernel
theorem dX0_countAlone_12 : decode cX0_countAlone 12 = .ok (.getfield 19, 3) := by decide +kernel
theorem dX0_countAlone_15 : decode cX0_countAlone 15 = .ok (.iload_n 3, 1) := by decide +kernel
theorem dX0_countAlone_16 : decode cX0_countAlone 16 = .ok (.iaload, 1) := by decide +kernel
theorem dX0_countAlone_17 : decode cX0_countAlone 17 = .ok (.iconst 1, 1) := by decide +kernel
theorem dX0_countAlone_18 : decode cX0_countAlone 18 = .ok (.if_icmp .ne 15, 3) := by decide +kernel
theorem dX0_countAlone_21 : decode cX0_countAlone 21 = .ok (.aload_n 0, 1) := by decide +kernel
theorem dX0_countAlone_22 : decode cX0_countAlone 22 = .ok (.iload_n 1, 1) := by decide +kernel
theorem dX0_countAlone_23 : decode cX0_countAlone 23 = .ok (.iload_n 3, 1) := by decide +kernel
theorem dX0_countAlone_24 : decode cX0_countAlone 24 = .ok (.invokevirtual 201, 3) := by decide +kernel
theorem dX0_countAlone_27 : decode cX0_countAlone 27 = .ok (.ifCond .eq 6, 3) := by decide +kernel
theorem dX0_countAlone_30 : decode cX0_countAlone 30 = .ok (.iinc 2 1, 3) := by decide +kernel
theorem dX0_countAlone_33 : decode cX0_countAlone 33 = .ok (.iinc 3 1, 3) := by decide +kernel
theorem dX0_countAlone_36 : decode cX0_countAlone 36 = .ok (.goto (-32), 3) := by decide +kernel
theorem dX0_countAlone_39 : decode cX0_countAlone 39 = .ok (.iload_n 2, 1) := by decide +kernel
theorem dX0_countAlone_40 : decode cX0_countAlone 40 = .ok (.ireturn, 1) := by decide +kernel
theorem dX0_shadowOf_0 : decode cX0_shadowOf 0 = .ok (.aload_n 0, 1) := by decide +kernel
theorem dX0_shadowOf_1 : decode cX0_shadowOf 1 = .ok (.getfield 9, 3) := by decide +kernel
theorem dX0_shadowOf_4 : decode cX0_shadowOf 4 = .ok (.iload_n 1, 1) := by decide +kernel
theorem dX0_shadowOf_5 : decode cX0_shadowOf 5 = .ok (.iaload, 1) := by decide +kernel
theorem dX0_shadowOf_6 : decode cX0_shadowOf 6 = .ok (.bipush 60, 2) := by decide +kernel
theorem dX0_shadowOf_8 : decode cX0_shadowOf 8 = .ok (.iload_n 2, 1) := by decide +kernel
theorem dX0_shadowOf_9 : decode cX0_shadowOf 9 = .ok (.iadd, 1) := by decide +kernel
theorem dX0_shadowOf_10 : decode cX0_shadowOf 10 = .ok (.imul, 1) := by decide +kernel
theorem dX0_shadowOf_11 : decode cX0_shadowOf 11 = .ok (.bipush 120, 2) := by decide +kernel
theorem dX0_shadowOf_13 : decode cX0_shadowOf 13 = .ok (.idiv, 1) := by decide +kernel
theorem dX0_shadowOf_14 : decode cX0_shadowOf 14 = .ok (.ireturn, 1) := by decide +kernel
set_option maxRecDepth 20000 in
theorem ggX0_sumOfShadows_X0_shadowOf : GoodIn wsX0_sumOfShadows wsX0_shadowOf := goodIn_r _ [6, 7, 8, 9, 10, 11, 12, 13, 14, 15, 16, 17, 18, 19, 20, 21, 22, 23, 24] (by decide +kernel) (by decide +kernel)
set_option maxRecDepth 20000 in
theorem gX0_sumOfShadows_X0_shadowOf : GoodIn wsX0_sumOfShadows (wsV RX0 128 RX0 yX0_shadowOf wsX0_shadowOf) := goodIn_app (goodIn_of _ (by decide +kernel)) ggX0_sumOfShadows_X0_shadowOf
theorem dX0_sumOfShadows_0 : decode cX0_sumOfShadows 0 = .ok (.iconst 0, 1) := by decide +kernel
theorem dX0_sumOfShadows_1 : decode cX0_sumOfShadows 1 = .ok (.istore_n 2, 1) := by decide +kernel
theorem dX0_sumOfShadows_2 : decode cX0_sumOfShadows 2 = .ok (.iconst 0, 1) := by decide +kernel
theorem dX0_sumOfShadows_3 : decode cX0_sumOfShadows 3 = .ok (.istore_n 3, 1) := by decide +kernel
theorem dX0_sumOfShadows_4 : decode cX0_sumOfShadows 4 = .ok (.iload_n 3, 1) := by decide +kernel
theorem dX0_sumOfShadows_5 : decode cX0_sumOfShadows 5 = .ok (.aload_n 0, 1) := by decide +kernel
theorem dX0_sumOfShadows_6 : decode cX0_sumOfShadows 6 = .ok (.getfield 48, 3) := by decide +kernel
theorem dX0_sumOfShadows_9 : decode cX0_sumOfShadows 9 = .ok (.if_icmp .ge 18, 3) := by decide +kernel
theorem dX0_sumOfShadows_12 : decode cX0_sumOfShadows 12 = .ok (.iload_n 2, 1) := by decide +kernel
theorem dX0_sumOfShadows_13 : decode cX0_sumOfShadows 13 = .ok (.aload_n 0, 1) := by decide +kernel
theorem dX0_sumOfShadows_14 : decode cX0_sumOfShadows 14 = .ok (.iload_n 3, 1) := by decide +kernel
theorem dX0_sumOfShadows_15 : decode cX0_sumOfShadows 15 = .ok (.iload_n 1, 1) := by decide +kernel
theorem dX0_sumOfShadows_16 : decode cX0_sumOfShadows 16 = .ok (.invokevirtual 128, 3) := by decide +kernel
theorem dX0_sumOfShadows_19 : decode cX0_sumOfShadows 19 = .ok (.iadd, 1) := by decide +kernel
theorem dX0_sumOfShadows_20 : decode cX0_sumOfShadows 20 = .ok (.istore_n 2, 1) := by decide +kernel
theorem dX0_sumOfShadows_21 : decode cX0_sumOfShadows 21 = .ok (.iinc 3 1, 3) := by decide +kernel
theorem dX0_sumOfShadows_24 : decode cX0_sumOfShadows 24 = .ok (.goto (-20), 3) := by decide +kernel
theorem dX0_sumOfShadows_27 : decode cX0_sumOfShadows 27 = .ok (.iload_n 2, 1) := by decide +kernel
theorem dX0_sumOfShadows_28 : decode cX0_sumOfShadows 28 = .ok (.ireturn, 1) := by decide +kernel
theorem dX0_hasBeatIn_0 : decode cX0_hasBeatIn 0 = .ok (.aload_n 0, 1) := by decide +kernel
theorem dX0_hasBeatIn_1 : decode cX0_hasBeatIn 1 = .ok (.getfield 22, 3) := by decide +kernel
theorem dX0_hasBeatIn_4 : decode cX0_hasBeatIn 4 = .ok (.iload_n 1, 1) := by decide +kernel
theorem dX0_hasBeatIn_5 : decode cX0_hasBeatIn 5 = .ok (.iaload, 1) := by decide +kernel
theorem dX0_hasBeatIn_6 : decode cX0_hasBeatIn 6 = .ok (.istore_n 3, 1) := by decide +kernel
theorem dX0_hasBeatIn_7 : decode cX0_hasBeatIn 7 = .ok (.iload_n 3, 1) := by decide +kernel
theorem dX0_hasBeatIn_8 : decode cX0_hasBeatIn 8 = .ok (.ifCond .le 19, 3) := by decide +kernel
theorem dX0_hasBeatIn_11 : decode cX0_hasBeatIn 11 = .ok (.iload_n 2, 1) := by decide +kernel
theorem dX0_hasBeatIn_12 : decode cX0_hasBeatIn 12 = .ok (.iload_n 3, 1) := by decide +kernel
theorem dX0_hasBeatIn_13 : decode cX0_hasBeatIn 13 = .ok (.irem, 1) := by decide +kernel
theorem dX0_hasBeatIn_14 : decode cX0_hasBeatIn 14 = .ok (.aload_n 0, 1) := by decide +kernel
theorem dX0_hasBeatIn_15 : decode cX0_hasBeatIn 15 = .ok (.getfield 25, 3) := by decide +kernel
theorem dX0_hasBeatIn_18 : decode cX0_hasBeatIn 18 = .ok (.iload_n 1, 1) := by decide +kernel
theorem dX0_hasBeatIn_19 : decode cX0_hasBeatIn 19 = .ok (.iaload, 1) := by decide +kernel
theorem dX0_hasBeatIn_20 : decode cX0_hasBeatIn 20 = .ok (.if_icmp .ne 7, 3) := by decide +kernel
theorem dX0_hasBeatIn_23 : decode cX0_hasBeatIn 23 = .ok (.iconst 1, 1) := by decide +kernel
theorem dX0_hasBeatIn_24 : decode cX0_hasBeatIn 24 = .ok (.goto 4, 3) := by decide +kernel
theorem dX0_hasBeatIn_27 : decode cX0_hasBeatIn 27 = .ok (.iconst 0, 1) := by decide +kernel
theorem dX0_hasBeatIn_28 : decode cX0_hasBeatIn 28 = .ok (.ireturn, 1) := by decide +kernel
set_option maxRecDepth 20000 in
theorem ggX0_ticksIn_X0_hasBeatIn : GoodIn wsX0_ticksIn wsX0_hasBeatIn := goodIn_r _ [6, 7, 8, 9, 10, 11, 12, 13, 14, 15, 16, 17, 18, 19, 20, 21, 22, 23, 24, 25] (by decide +kernel) (by decide +kernel)
set_option maxRecDepth 20000 in
theorem gX0_ticksIn_X0_hasBeatIn : GoodIn wsX0_ticksIn (wsV RX0 78 RX0 yX0_hasBeatIn wsX0_hasBeatIn) := goodIn_app (goodIn_of _ (by decide +kernel)) ggX0_ticksIn_X0_hasBeatIn
theorem dX0_ticksIn_0 : decode cX0_ticksIn 0 = .ok (.aload_n 0, 1) := by decide +kernel
theorem dX0_ticksIn_1 : decode cX0_ticksIn 1 = .ok (.getfield 19, 3) := by decide +kernel
theorem dX0_ticksIn_4 : decode cX0_ticksIn 4 = .ok (.iload_n 2, 1) := by decide +kernel
theorem dX0_ticksIn_5 : decode cX0_ticksIn 5 = .ok (.iaload, 1) := by decide +kernel
theorem dX0_ticksIn_6 : decode cX0_ticksIn 6 = .ok (.ifCond .ne 16, 3) := by decide +kernel
theorem dX0_ticksIn_9 : decode cX0_ticksIn 9 = .ok (.aload_n 0, 1) := by decide +kernel
theorem dX0_ticksIn_10 : decode cX0_ticksIn 10 = .ok (.iload_n 1, 1) := by decide +kernel
theorem dX0_ticksIn_11 : decode cX0_ticksIn 11 = .ok (.iload_n 2, 1) := by decide +kernel
theorem dX0_ticksIn_12 : decode cX0_ticksIn 12 = .ok (.invokevirtual 78, 3) := by decide +kernel
theorem dX0_ticksIn_15 : decode cX0_ticksIn 15 = .ok (.ifCond .eq 7, 3) := by decide +kernel
theorem dX0_ticksIn_18 : decode cX0_ticksIn 18 = .ok (.iconst 1, 1) := by decide +kernel
theorem dX0_ticksIn_19 : decode cX0_ticksIn 19 = .ok (.goto 4, 3) := by decide +kernel
theorem dX0_ticksIn_22 : decode cX0_ticksIn 22 = .ok (.iconst 0, 1) := by decide +kernel
theorem dX0_ticksIn_23 : decode cX0_ticksIn 23 = .ok (.ireturn, 1) := by decide +kernel
set_option maxRecDepth 20000 in
theorem ggX0_countTicks_X0_ticksIn : GoodIn wsX0_countTicks wsX0_ticksIn := goodIn_r _ [6, 7, 8, 9, 10, 5, 11, 12, 13, 14, 15, 16, 17, 18, 19, 20, 21, 22, 23, 24, 25, 26, 27, 28, 29, 30] (by decide +kernel) (by decide +kernel)
set_option maxRecDepth 20000 in
theorem gX0_countTicks_X0_ticksIn : GoodIn wsX0_countTicks (wsV RX0 152 RX0 yX0_ticksIn wsX0_ticksIn) := goodIn_app (goodIn_of _ (by decide +kernel)) ggX0_countTicks_X0_ticksIn
theorem dX0_countTicks_0 : decode cX0_countTicks 0 = .ok (.iconst 0, 1) := by decide +kernel
theorem dX0_countTicks_1 : decode cX0_countTicks 1 = .ok (.istore_n 2, 1) := by decide +kernel
theorem dX0_countTicks_2 : decode cX0_countTicks 2 = .ok (.iconst 0, 1) := by decide +kernel
theorem dX0_countTicks_3 : decode cX0_countTicks 3 = .ok (.istore_n 3, 1) := by decide +kernel
theorem dX0_countTicks_4 : decode cX0_countTicks 4 = .ok (.iload_n 3, 1) := by decide +kernel
theorem dX0_countTicks_5 : decode cX0_countTicks 5 = .ok (.aload_n 0, 1) := by decide +kernel
theorem dX0_countTicks_6 : decode cX0_countTicks 6 = .ok (.getfield 97, 3) := by decide +kernel
theorem dX0_countTicks_9 : decode cX0_countTicks 9 = .ok (.if_icmp .ge 21, 3) := by decide +kernel
theorem dX0_countTicks_12 : decode cX0_countTicks 12 = .ok (.aload_n 0, 1) := by decide +kernel
theorem dX0_countTicks_13 : decode cX0_countTicks 13 = .ok (.iload_n 1, 1) := by decide +kernel
theorem dX0_countTicks_14 : decode cX0_countTicks 14 = .ok (.iload_n 3, 1) := by decide +kernel
theorem dX0_countTicks_15 : decode cX0_countTicks 15 = .ok (.invokevirtual 152, 3) := by decide +kernel
theorem dX0_countTicks_18 : decode cX0_countTicks 18 = .ok (.ifCond .eq 6, 3) := by decide +kernel
theorem dX0_countTicks_21 : decode cX0_countTicks 21 = .ok (.iinc 2 1, 3) := by decide +kernel
theorem dX0_countTicks_24 : decode cX0_countTicks 24 = .ok (.iinc 3 1, 3) := by decide +kernel
theorem dX0_countTicks_27 : decode cX0_countTicks 27 = .ok (.goto (-23), 3) := by decide +kernel
theorem dX0_countTicks_30 : decode cX0_countTicks 30 = .ok (.iload_n 2, 1) := by decide +kernel
theorem dX0_countTicks_31 : decode cX0_countTicks 31 = .ok (.ireturn, 1) := by decide +kernel
theorem dX0_contentAfter_0 : decode cX0_contentAfter 0 = .ok (.aload_n 0, 1) := by decide +kernel
theorem dX0_contentAfter_1 : decode cX0_contentAfter 1 = .ok (.getfield 19, 3) := by decide +kernel
theorem dX0_contentAfter_4 : decode cX0_contentAfter 4 = .ok (.iload_n 1, 1) := by decide +kernel
theorem dX0_contentAfter_5 : decode cX0_contentAfter 5 = .ok (.iaload, 1) := by decide +kernel
theorem dX0_contentAfter_6 : decode cX0_contentAfter 6 = .ok (.ifCond .le 5, 3) := by decide +kernel
theorem dX0_contentAfter_9 : decode cX0_contentAfter 9 = .ok (.iload_n 2, 1) := by decide +kernel
theorem dX0_contentAfter_10 : decode cX0_contentAfter 10 = .ok (.ireturn, 1) := by decide +kernel
theorem dX0_contentAfter_11 : decode cX0_contentAfter 11 = .ok (.iconst 0, 1) := by decide +kernel
theorem dX0_contentAfter_12 : decode cX0_contentAfter 12 = .ok (.iload_n 2, 1) := by decide +kernel
theorem dX0_contentAfter_13 : decode cX0_contentAfter 13 = .ok (.iload_n 3, 1) := by decide +kernel
theorem dX0_contentAfter_14 : decode cX0_contentAfter 14 = .ok (.iadd, 1) := by decide +kernel
theorem dX0_contentAfter_15 : decode cX0_contentAfter 15 = .ok (.aload_n 0, 1) := by decide +kernel
theorem dX0_contentAfter_16 : decode cX0_contentAfter 16 = .ok (.getfield 38, 3) := by decide +kernel
theorem dX0_contentAfter_19 : decode cX0_contentAfter 19 = .ok (.aload_n 0, 1) := by decide +kernel
theorem dX0_contentAfter_20 : decode cX0_contentAfter 20 = .ok (.getfield 28, 3) := by decide +kernel
theorem dX0_contentAfter_23 : decode cX0_contentAfter 23 = .ok (.iload_n 1, 1) := by decide +kernel
theorem dX0_contentAfter_24 : decode cX0_contentAfter 24 = .ok (.iaload, 1) := by decide +kernel
theorem dX0_contentAfter_25 : decode cX0_contentAfter 25 = .ok (.imul, 1) := by decide +kernel
theorem dX0_contentAfter_26 : decode cX0_contentAfter 26 = .ok (.isub, 1) := by decide +kernel
theorem dX0_contentAfter_27 : decode cX0_contentAfter 27 = .ok (.invokestatic 119, 3) := by decide +kernel
theorem dX0_contentAfter_30 : decode cX0_contentAfter 30 = .ok (.ireturn, 1) := by decide +kernel
theorem dX0_excess_0 : decode cX0_excess 0 = .ok (.iconst 0, 1) := by decide +kernel
theorem dX0_excess_1 : decode cX0_excess 1 = .ok (.iload_n 1, 1) := by decide +kernel
theorem dX0_excess_2 : decode cX0_excess 2 = .ok (.aload_n 0, 1) := by decide +kernel
theorem dX0_excess_3 : decode cX0_excess 3 = .ok (.getfield 31, 3) := by decide +kernel
theorem dX0_excess_6 : decode cX0_excess 6 = .ok (.isub, 1) := by decide +kernel
theorem dX0_excess_7 : decode cX0_excess 7 = .ok (.invokestatic 119, 3) := by decide +kernel
theorem dX0_excess_10 : decode cX0_excess 10 = .ok (.ireturn, 1) := by decide +kernel
set_option maxRecDepth 20000 in
theorem ggX0_pourInto_X0_excess : GoodIn wsX0_pourInto wsX0_excess := goodIn_r _ [7, 8, 9, 10, 11, 12, 13, 14, 15, 16, 17, 18, 19, 20, 21, 22, 23, 24, 25, 26, 27, 28, 29] (by decide +kernel) (by decide +kernel)
set_option maxRecDepth 20000 in
theorem gX0_pourInto_X0_excess : GoodIn wsX0_pourInto (wsV RX0 155 RX0 yX0_excess wsX0_excess) := goodIn_app (goodIn_of _ (by decide +kernel)) ggX0_pourInto_X0_excess
theorem dX0_pourInto_0 : decode cX0_pourInto 0 = .ok (.aload_n 0, 1) := by decide +kernel
theorem dX0_pourInto_1 : decode cX0_pourInto 1 = .ok (.iload_n 1, 1) := by decide +kernel
theorem dX0_pourInto_2 : decode cX0_pourInto 2 = .ok (.invokevirtual 155, 3) := by decide +kernel
theorem dX0_pourInto_5 : decode cX0_pourInto 5 = .ok (.istore_n 2, 1) := by decide +kernel
theorem dX0_pourInto_6 : decode cX0_pourInto 6 = .ok (.aload_n 0, 1) := by decide +kernel
theorem dX0_pourInto_7 : decode cX0_pourInto 7 = .ok (.iload_n 1, 1) := by decide +kernel
theorem dX0_pourInto_8 : decode cX0_pourInto 8 = .ok (.iload_n 2, 1) := by decide +kernel
theorem dX0_pourInto_9 : decode cX0_pourInto 9 = .ok (.isub, 1) := by decide +kernel
theorem dX0_pourInto_10 : decode cX0_pourInto 10 = .ok (.putfield 88, 3) := by decide +kernel
theorem dX0_pourInto_13 : decode cX0_pourInto 13 = .ok (.aload_n 0, 1) := by decide +kernel
theorem dX0_pourInto_14 : decode cX0_pourInto 14 = .ok (.dup, 1) := by decide +kernel
theorem dX0_pourInto_15 : decode cX0_pourInto 15 = .ok (.getfield 106, 3) := by decide +kernel
theorem dX0_pourInto_18 : decode cX0_pourInto 18 = .ok (.iload_n 2, 1) := by decide +kernel
theorem dX0_pourInto_19 : decode cX0_pourInto 19 = .ok (.iadd, 1) := by decide +kernel
theorem dX0_pourInto_20 : decode cX0_pourInto 20 = .ok (.putfield 106, 3) := by decide +kernel
theorem dX0_pourInto_23 : decode cX0_pourInto 23 = .ok (.iload_n 2, 1) := by decide +kernel
theorem dX0_pourInto_24 : decode cX0_pourInto 24 = .ok (.ireturn, 1) := by decide +kernel
set_option maxRecDepth 20000 in
theorem ggX0_firstSpillWith_X0_contentAfter : GoodIn wsX0_firstSpillWith wsX0_contentAfter := goodIn_r _ [7, 8, 9, 10, 11, 12, 13, 14, 20, 21, 22, 23, 24, 25, 26, 27, 28, 29, 30, 31, 32, 33, 34, 35, 36] (by decide +kernel) (by decide +kernel)
set_option maxRecDepth 20000 in
theorem gX0_firstSpillWith_X0_contentAfter : GoodIn wsX0_firstSpillWith (wsV RX0 102 RX0 yX0_contentAfter wsX0_contentAfter) := goodIn_app (goodIn_of _ (by decide +kernel)) ggX0_firstSpillWith_X0_contentAfter
set_option maxRecDepth 20000 in
theorem ggX0_firstSpillWith_X0_excess : GoodIn wsX0_firstSpillWith wsX0_excess := goodIn_r _ [18, 19, 11, 12, 13, 14, 20, 21, 22, 23, 24, 25, 26, 27, 28, 29, 30, 31, 32, 33, 34, 35, 36] (by decide +kernel) (by decide +kernel)
set_option maxRecDepth 20000 in
theorem gX0_firstSpillWith_X0_excess : GoodIn wsX0_firstSpillWith (wsV RX0 155 RX0 yX0_excess wsX0_excess) := goodIn_app (goodIn_of _ (by decide +kernel)) ggX0_firstSpillWith_X0_excess
theorem dX0_firstSpillWith_0 : decode cX0_firstSpillWith 0 = .ok (.aload_n 0, 1) := by decide +kernel
theorem dX0_firstSpillWith_1 : decode cX0_firstSpillWith 1 = .ok (.getfield 88, 3) := by decide +kernel
theorem dX0_firstSpillWith_4 : decode cX0_firstSpillWith 4 = .ok (.istore_n 2, 1) := by decide +kernel
theorem dX0_firstSpillWith_5 : decode cX0_firstSpillWith 5 = .ok (.aload_n 0, 1) := by decide +kernel
theorem dX0_firstSpillWith_6 : decode cX0_firstSpillWith 6 = .ok (.getfield 97, 3) := by decide +kernel
theorem dX0_firstSpillWith_9 : decode cX0_firstSpillWith 9 = .ok (.istore_n 3, 1) := by decide +kernel
theorem dX0_firstSpillWith_10 : decode cX0_firstSpillWith 10 = .ok (.iload_n 3, 1) := by decide +kernel
theorem dX0_firstSpillWith_11 : decode cX0_firstSpillWith 11 = .ok (.sipush 360, 3) := by decide +kernel
theorem dX0_firstSpillWith_14 : decode cX0_firstSpillWith 14 = .ok (.if_icmp .ge 27, 3) := by decide +kernel
theorem dX0_firstSpillWith_17 : decode cX0_firstSpillWith 17 = .ok (.aload_n 0, 1) := by decide +kernel
theorem dX0_firstSpillWith_18 : decode cX0_firstSpillWith 18 = .ok (.iload_n 3, 1) := by decide +kernel
theorem dX0_firstSpillWith_19 : decode cX0_firstSpillWith 19 = .ok (.iload_n 2, 1) := by decide +kernel
theorem dX0_firstSpillWith_20 : decode cX0_firstSpillWith 20 = .ok (.iload_n 1, 1) := by decide +kernel
theorem dX0_firstSpillWith_21 : decode cX0_firstSpillWith 21 = .ok (.invokevirtual 102, 3) := by decide +kernel
theorem dX0_firstSpillWith_24 : decode cX0_firstSpillWith 24 = .ok (.istore_n 2, 1) := by decide +kernel
theorem dX0_firstSpillWith_25 : decode cX0_firstSpillWith 25 = .ok (.aload_n 0, 1) := by decide +kernel
theorem dX0_firstSpillWith_26 : decode cX0_firstSpillWith 26 = .ok (.iload_n 2, 1) := by decide +kernel
theorem dX0_firstSpillWith_27 : decode cX0_firstSpillWith 27 = .ok (.invokevirtual 155, 3) := by decide +kernel
theorem dX0_firstSpillWith_30 : decode cX0_firstSpillWith 30 = .ok (.ifCond .le 5, 3) := by decide +kernel
theorem dX0_firstSpillWith_33 : decode cX0_firstSpillWith 33 = .ok (.iload_n 3, 1) := by decide +kernel
theorem dX0_firstSpillWith_34 : decode cX0_firstSpillWith 34 = .ok (.ireturn, 1) := by decide +kernel
theorem dX0_firstSpillWith_35 : decode cX0_firstSpillWith 35 = .ok (.iinc 3 1, 3) := by decide +kernel
theorem dX0_firstSpillWith_38 : decode cX0_firstSpillWith 38 = .ok (.goto (-28), 3) := by decide +kernel
theorem dX0_firstSpillWith_41 : decode cX0_firstSpillWith 41 = .ok (.iconst (-1), 1) := by decide +kernel
theorem dX0_firstSpillWith_42 : decode cX0_firstSpillWith 42 = .ok (.ireturn, 1) := by decide +kernel
set_option maxRecDepth 20000 in
theorem ggX0_withSticks_X0_shadowOf : GoodIn wsX0_withSticks wsX0_shadowOf := goodIn_r _ [7, 8, 9, 10, 11, 12, 13, 14, 15, 16, 17, 18, 19, 20, 21, 22, 23, 24, 25] (by decide +kernel) (by decide +kernel)
set_option maxRecDepth 20000 in
theorem gX0_withSticks_X0_shadowOf : GoodIn wsX0_withSticks (wsV RX0 128 RX0 yX0_shadowOf wsX0_shadowOf) := goodIn_app (goodIn_of _ (by decide +kernel)) ggX0_withSticks_X0_shadowOf
theorem dX0_withSticks_0 : decode cX0_withSticks 0 = .ok (.lload_n 1, 1) := by decide +kernel
theorem dX0_withSticks_1 : decode cX0_withSticks 1 = .ok (.lstore_n 3, 1) := by decide +kernel
theorem dX0_withSticks_2 : decode cX0_withSticks 2 = .ok (.iconst 0, 1) := by decide +kernel
theorem dX0_withSticks_3 : decode cX0_withSticks 3 = .ok (.istore 5, 2) := by decide +kernel
theorem dX0_withSticks_5 : decode cX0_withSticks 5 = .ok (.iload 5, 2) := by decide +kernel
theorem dX0_withSticks_7 : decode cX0_withSticks 7 = .ok (.aload_n 0, 1) := by decide +kernel
theorem dX0_withSticks_8 : decode cX0_withSticks 8 = .ok (.getfield 48, 3) := by decide +kernel
theorem dX0_withSticks_11 : decode cX0_withSticks 11 = .ok (.if_icmp .ge 25, 3) := by decide +kernel
theorem dX0_withSticks_14 : decode cX0_withSticks 14 = .ok (.lload_n 3, 1) := by decide +kernel
theorem dX0_withSticks_15 : decode cX0_withSticks 15 = .ok (.ldc2_w 163, 3) := by decide +kernel
theorem dX0_withSticks_18 : decode cX0_withSticks 18 = .ok (.lmul, 1) := by decide +kernel
theorem dX0_withSticks_19 : decode cX0_withSticks 19 = .ok (.aload_n 0, 1) := by decide +kernel
theorem dX0_withSticks_20 : decode cX0_withSticks 20 = .ok (.iload 5, 2) := by decide +kernel
theorem dX0_withSticks_22 : decode cX0_withSticks 22 = .ok (.bipush 100, 2) := by decide +kernel
theorem dX0_withSticks_24 : decode cX0_withSticks 24 = .ok (.invokevirtual 128, 3) := by decide +kernel
theorem dX0_withSticks_27 : decode cX0_withSticks 27 = .ok (.i2l, 1) := by decide +kernel
theorem dX0_withSticks_28 : decode cX0_withSticks 28 = .ok (.ladd, 1) := by decide +kernel
theorem dX0_withSticks_29 : decode cX0_withSticks 29 = .ok (.lstore_n 3, 1) := by decide +kernel
theorem dX0_withSticks_30 : decode cX0_withSticks 30 = .ok (.iinc 5 1, 3) := by decide +kernel
theorem dX0_withSticks_33 : decode cX0_withSticks 33 = .ok (.goto (-28), 3) := by decide +kernel
theorem dX0_withSticks_36 : decode cX0_withSticks 36 = .ok (.lload_n 3, 1) := by decide +kernel
theorem dX0_withSticks_37 : decode cX0_withSticks 37 = .ok (.lreturn, 1) := by decide +kernel
set_option maxRecDepth 20000 in
theorem ggX0_withNaps_X0_countAlone : GoodIn wsX0_withNaps wsX0_countAlone := goodIn_r _ [9, 10, 11, 12, 13, 8, 14, 3, 4, 15, 16, 17, 18, 19, 20, 21, 22, 23, 24, 25, 26, 27, 28, 29, 30, 31] (by decide +kernel) (by decide +kernel)
set_option maxRecDepth 20000 in
theorem gX0_withNaps_X0_countAlone : GoodIn wsX0_withNaps (wsV RX0 134 RX0 yX0_countAlone wsX0_countAlone) := goodIn_app (goodIn_of _ (by decide +kernel)) ggX0_withNaps_X0_countAlone
theorem dX0_withNaps_0 : decode cX0_withNaps 0 = .ok (.lload_n 1, 1) := by decide +kernel
theorem dX0_withNaps_1 : decode cX0_withNaps 1 = .ok (.lstore_n 3, 1) := by decide +kernel
theorem dX0_withNaps_2 : decode cX0_withNaps 2 = .ok (.iconst 0, 1) := by decide +kernel
theorem dX0_withNaps_3 : decode cX0_withNaps 3 = .ok (.istore 5, 2) := by decide +kernel
theorem dX0_withNaps_5 : decode cX0_withNaps 5 = .ok (.iload 5, 2) := by decide +kernel
theorem dX0_withNaps_7 : decode cX0_withNaps 7 = .ok (.aload_n 0, 1) := by decide +kernel
theorem dX0_withNaps_8 : decode cX0_withNaps 8 = .ok (.getfield 58, 3) := by decide +kernel
theorem dX0_withNaps_11 : decode cX0_withNaps 11 = .ok (.if_icmp .ge 61, 3) := by decide +kernel
theorem dX0_withNaps_14 : decode cX0_withNaps 14 = .ok (.lload_n 3, 1) := by decide +kernel
theorem dX0_withNaps_15 : decode cX0_withNaps 15 = .ok (.ldc2_w 163, 3) := by decide +kernel
theorem dX0_withNaps_18 : decode cX0_withNaps 18 = .ok (.lmul, 1) := by decide +kernel
theorem dX0_withNaps_19 : decode cX0_withNaps 19 = .ok (.aload_n 0, 1) := by decide +kernel
theorem dX0_withNaps_20 : decode cX0_withNaps 20 = .ok (.getfield 13, 3) := by decide +kernel
theorem dX0_withNaps_23 : decode cX0_withNaps 23 = .ok (.iload 5, 2) := by decide +kernel
theorem dX0_withNaps_25 : decode cX0_withNaps 25 = .ok (.iaload, 1) := by decide +kernel
theorem dX0_withNaps_26 : decode cX0_withNaps 26 = .ok (.i2l, 1) := by decide +kernel
theorem dX0_withNaps_27 : decode cX0_withNaps 27 = .ok (.ladd, 1) := by decide +kernel
theorem dX0_withNaps_28 : decode cX0_withNaps 28 = .ok (.lstore_n 3, 1) := by decide +kernel
theorem dX0_withNaps_29 : decode cX0_withNaps 29 = .ok (.lload_n 3, 1) := by decide +kernel
theorem dX0_withNaps_30 : decode cX0_withNaps 30 = .ok (.ldc2_w 163, 3) := by decide +kernel
theorem dX0_withNaps_33 : decode cX0_withNaps 33 = .ok (.lmul, 1) := by decide +kernel
theorem dX0_withNaps_34 : decode cX0_withNaps 34 = .ok (.aload_n 0, 1) := by decide +kernel
theorem dX0_withNaps_35 : decode cX0_withNaps 35 = .ok (.getfield 16, 3) := by decide +kernel
theorem dX0_withNaps_38 : decode cX0_withNaps 38 = .ok (.iload 5, 2) := by decide +kernel
theorem dX0_withNaps_40 : decode cX0_withNaps 40 = .ok (.iaload, 1) := by decide +kernel
theorem dX0_withNaps_41 : decode cX0_withNaps 41 = .ok (.aload_n 0, 1) := by decide +kernel
theorem dX0_withNaps_42 : decode cX0_withNaps 42 = .ok (.getfield 13, 3) := by decide +kernel
theorem dX0_withNaps_45 : decode cX0_withNaps 45 = .ok (.iload 5, 2) := by decide +kernel
theorem dX0_withNaps_47 : decode cX0_withNaps 47 = .ok (.iaload, 1) := by decide +kernel
theorem dX0_withNaps_48 : decode cX0_withNaps 48 = .ok (.isub, 1) := by decide +kernel
theorem dX0_withNaps_49 : decode cX0_withNaps 49 = .ok (.i2l, 1) := by decide +kernel
theorem dX0_withNaps_50 : decode cX0_withNaps 50 = .ok (.ladd, 1) := by decide +kernel
theorem dX0_withNaps_51 : decode cX0_withNaps 51 = .ok (.lstore_n 3, 1) := by decide +kernel
theorem dX0_withNaps_52 : decode cX0_withNaps 52 = .ok (.lload_n 3, 1) := by decide +kernel
theorem dX0_withNaps_53 : decode cX0_withNaps 53 = .ok (.ldc2_w 163, 3) := by decide +kernel
theorem dX0_withNaps_56 : decode cX0_withNaps 56 = .ok (.lmul, 1) := by decide +kernel
theorem dX0_withNaps_57 : decode cX0_withNaps 57 = .ok (.aload_n 0, 1) := by decide +kernel
theorem dX0_withNaps_58 : decode cX0_withNaps 58 = .ok (.iload 5, 2) := by decide +kernel
theorem dX0_withNaps_60 : decode cX0_withNaps 60 = .ok (.invokevirtual 134, 3) := by decide +kernel
theorem dX0_withNaps_63 : decode cX0_withNaps 63 = .ok (.i2l, 1) := by decide +kernel
theorem dX0_withNaps_64 : decode cX0_withNaps 64 = .ok (.ladd, 1) := by decide +kernel
theorem dX0_withNaps_65 : decode cX0_withNaps 65 = .ok (.lstore_n 3, 1) := by decide +kernel
theorem dX0_withNaps_66 : decode cX0_withNaps 66 = .ok (.iinc 5 1, 3) := by decide +kernel
theorem dX0_withNaps_69 : decode cX0_withNaps 69 = .ok (.goto (-64), 3) := by decide +kernel
theorem dX0_withNaps_72 : decode cX0_withNaps 72 = .ok (.lload_n 3, 1) := by decide +kernel
theorem dX0_withNaps_73 : decode cX0_withNaps 73 = .ok (.lreturn, 1) := by decide +kernel
set_option maxRecDepth 20000 in
theorem ggX0_withBees_X0_countTicks : GoodIn wsX0_withBees wsX0_countTicks := goodIn_r _ [7, 8, 9, 10, 11, 6, 12, 13, 14, 15, 16, 17, 18, 19, 34, 35, 36, 37, 38, 39, 40, 41, 42, 43, 44, 45, 46, 47, 48, 49, 50] (by decide +kernel) (by decide +kernel)
set_option maxRecDepth 20000 in
theorem gX0_withBees_X0_countTicks : GoodIn wsX0_withBees (wsV RX0 140 RX0 yX0_countTicks wsX0_countTicks) := goodIn_app (goodIn_of _ (by decide +kernel)) ggX0_withBees_X0_countTicks
set_option maxRecDepth 20000 in
theorem ggX0_withBees_X0_measuredBy : GoodIn wsX0_withBees wsX0_measuredBy := goodIn_ca (goodIn_r _ [23, 18, 24, 25, 26, 6, 27, 28, 29, 1, 3, 4, 5, 7, 8, 9, 10, 11, 12, 13, 14, 15, 16, 17, 19, 34, 35, 36, 37, 38, 39, 40, 41, 42, 43, 44, 45, 46, 47, 48, 49, 50] (by decide +kernel) (by decide +kernel)) (goodIn_sub (fun _ h => List.mem_cons_of_mem _ (List.mem_append_right _ h)) (by decide +kernel))
set_option maxRecDepth 20000 in
theorem gX0_withBees_X0_measuredBy : GoodIn wsX0_withBees (wsV RX0 143 RX0 yX0_measuredBy wsX0_measuredBy) := goodIn_app (goodIn_of _ (by decide +kernel)) ggX0_withBees_X0_measuredBy
set_option maxRecDepth 20000 in
theorem ggX0_withBees_X0_nextTick : GoodIn wsX0_withBees wsX0_nextTick := goodIn_ca (goodIn_r _ [33, 8, 24, 25, 26, 6, 27, 28, 29, 1, 9, 10, 11, 12, 13, 14, 15, 16, 17, 18, 19, 34, 35, 36, 37, 38, 39, 40, 41, 42, 43, 44, 45, 46, 47, 48, 49, 50] (by decide +kernel) (by decide +kernel)) (goodIn_sub (fun _ h => List.mem_cons_of_mem _ (List.mem_append_right _ h)) (by decide +kernel))
set_option maxRecDepth 20000 in
theorem gX0_withBees_X0_nextTick : GoodIn wsX0_withBees (wsV RX0 204 RX0 yX0_nextTick wsX0_nextTick) := goodIn_app (goodIn_of _ (by decide +kernel)) ggX0_withBees_X0_nextTick
theorem dX0_withBees_0 : decode cX0_withBees 0 = .ok (.lload_n 1, 1) := by decide +kernel
theorem dX0_withBees_1 : decode cX0_withBees 1 = .ok (.lstore_n 3, 1) := by decide +kernel
theorem dX0_withBees_2 : decode cX0_withBees 2 = .ok (.iconst 0, 1) := by decide +kernel
theorem dX0_withBees_3 : decode cX0_withBees 3 = .ok (.istore 5, 2) := by decide +kernel
theorem dX0_withBees_5 : decode cX0_withBees 5 = .ok (.iload 5, 2) := by decide +kernel
theorem dX0_withBees_7 : decode cX0_withBees 7 = .ok (.aload_n 0, 1) := by decide +kernel
theorem dX0_withBees_8 : decode cX0_withBees 8 = .ok (.getfield 73, 3) := by decide +kernel
theorem dX0_withBees_11 : decode cX0_withBees 11 = .ok (.if_icmp .ge 51, 3) := by decide +kernel
theorem dX0_withBees_14 : decode cX0_withBees 14 = .ok (.lload_n 3, 1) := by decide +kernel
theorem dX0_withBees_15 : decode cX0_withBees 15 = .ok (.ldc2_w 163, 3) := by decide +kernel
theorem dX0_withBees_18 : decode cX0_withBees 18 = .ok (.lmul, 1) := by decide +kernel
theorem dX0_withBees_19 : decode cX0_withBees 19 = .ok (.aload_n 0, 1) := by decide +kernel
theorem dX0_withBees_20 : decode cX0_withBees 20 = .ok (.iload 5, 2) := by decide +kernel
theorem dX0_withBees_22 : decode cX0_withBees 22 = .ok (.invokevirtual 140, 3) := by decide +kernel
theorem dX0_withBees_25 : decode cX0_withBees 25 = .ok (.i2l, 1) := by decide +kernel
theorem dX0_withBees_26 : decode cX0_withBees 26 = .ok (.ladd, 1) := by decide +kernel
theorem dX0_withBees_27 : decode cX0_withBees 27 = .ok (.lstore_n 3, 1) := by decide +kernel
theorem dX0_withBees_28 : decode cX0_withBees 28 = .ok (.lload_n 3, 1) := by decide +kernel
theorem dX0_withBees_29 : decode cX0_withBees 29 = .ok (.ldc2_w 163, 3) := by decide +kernel
theorem dX0_withBees_32 : decode cX0_withBees 32 = .ok (.lmul, 1) := by decide +kernel
theorem dX0_withBees_33 : decode cX0_withBees 33 = .ok (.aload_n 0, 1) := by decide +kernel
theorem dX0_withBees_34 : decode cX0_withBees 34 = .ok (.iload 5, 2) := by decide +kernel
theorem dX0_withBees_36 : decode cX0_withBees 36 = .ok (.invokevirtual 143, 3) := by decide +kernel
theorem dX0_withBees_39 : decode cX0_withBees 39 = .ok (.i2l, 1) := by decide +kernel
theorem dX0_withBees_40 : decode cX0_withBees 40 = .ok (.ladd, 1) := by decide +kernel
theorem dX0_withBees_41 : decode cX0_withBees 41 = .ok (.lstore_n 3, 1) := by decide +kernel
theorem dX0_withBees_42 : decode cX0_withBees 42 = .ok (.lload_n 3, 1) := by decide +kernel
theorem dX0_withBees_43 : decode cX0_withBees 43 = .ok (.ldc2_w 163, 3) := by decide +kernel
theorem dX0_withBees_46 : decode cX0_withBees 46 = .ok (.lmul, 1) := by decide +kernel
theorem dX0_withBees_47 : decode cX0_withBees 47 = .ok (.aload_n 0, 1) := by decide +kernel
theorem dX0_withBees_48 : decode cX0_withBees 48 = .ok (.iload 5, 2) := by decide +kernel
theorem dX0_withBees_50 : decode cX0_withBees 50 = .ok (.invokevirtual 204, 3) := by decide +kernel
theorem dX0_withBees_53 : decode cX0_withBees 53 = .ok (.i2l, 1) := by decide +kernel
theorem dX0_withBees_54 : decode cX0_withBees 54 = .ok (.ladd, 1) := by decide +kernel
theorem dX0_withBees_55 : decode cX0_withBees 55 = .ok (.lstore_n 3, 1) := by decide +kernel
theorem dX0_withBees_56 : decode cX0_withBees 56 = .ok (.iinc 5 1, 3) := by decide +kernel
theorem dX0_withBees_59 : decode cX0_withBees 59 = .ok (.goto (-54), 3) := by decide +kernel
theorem dX0_withBees_62 : decode cX0_withBees 62 = .ok (.lload_n 3, 1) := by decide +kernel
theorem dX0_withBees_63 : decode cX0_withBees 63 = .ok (.lreturn, 1) := by decide +kernel
end
section
theorem dX1_init_0 : decode cX1_init 0 = .ok (.aload_n 0, 1) := by decide +kernel
theorem dX1_init_1 : decode cX1_init 1 = .ok (.invokespecial 1, 3) := by decide +kernel
theorem dX1_init_4 : decode cX1_init 4 = .ok (.aload_n 0, 1) := by decide +kernel
theorem dX1_init_5 : decode cX1_init 5 = .ok (.iconst 4, 1) := by decide +kernel
theorem dX1_init_6 : decode cX1_init 6 = .ok (.newarray .int, 2) := by decide +kernel
theorem dX1_init_8 : decode cX1_init 8 = .ok (.putfield 9, 3) := by decide +kernel
theorem dX1_init_11 : decode cX1_init 11 = .ok (.aload_n 0, 1) := by decide +kernel
theorem dX1_init_12 : decode cX1_init 12 = .ok (.bipush 8, 2) := by decide +kernel
theorem dX1_init_14 : decode cX1_init 14 = .ok (.newarray .int, 2) := by decide +kernel
theorem dX1_init_16 : decode cX1_init 16 = .ok (.putfield 13, 3) := by decide +kernel
theorem dX1_init_19 : decode cX1_init 19 = .ok (.aload_n 0, 1) := by decide +kernel
theorem dX1_init_20 : decode cX1_init 20 = .ok (.bipush 8, 2) := by decide +kernel
theorem dX1_init_22 : decode cX1_init 22 = .ok (.newarray .int, 2) := by decide +kernel
theorem dX1_init_24 : decode cX1_init 24 = .ok (.putfield 16, 3) := by decide +kernel
theorem dX1_init_27 : decode cX1_init 27 = .ok (.aload_n 0, 1) := by decide +kernel
theorem dX1_init_28 : decode cX1_init 28 = .ok (.sipush 360, 3) := by decide +kernel
theorem dX1_init_31 : decode cX1_init 31 = .ok (.newarray .int, 2) := by decide +kernel
theorem dX1_init_33 : decode cX1_init 33 = .ok (.putfield 19, 3) := by decide +kernel
theorem dX1_init_36 : decode cX1_init 36 = .ok (.aload_n 0, 1) := by decide +kernel
theorem dX1_init_37 : decode cX1_init 37 = .ok (.bipush 6, 2) := by decide +kernel
theorem dX1_init_39 : decode cX1_init 39 = .ok (.newarray .int, 2) := by decide +kernel
theorem dX1_init_41 : decode cX1_init 41 = .ok (.putfield 22, 3) := by decide +kernel
theorem dX1_init_44 : decode cX1_init 44 = .ok (.aload_n 0, 1) := by decide +kernel
theorem dX1_init_45 : decode cX1_init 45 = .ok (.bipush 6, 2) := by decide +kernel
theorem dX1_init_47 : decode cX1_init 47 = .ok (.newarray .int, 2) := by decide +kernel
theorem dX1_init_49 : decode cX1_init 49 = .ok (.putfield 25, 3) := by decide +kernel
theorem dX1_init_52 : decode cX1_init 52 = .ok (.aload_n 0, 1) := by decide +kernel
theorem dX1_init_53 : decode cX1_init 53 = .ok (.bipush 20, 2) := by decide +kernel
theorem dX1_init_55 : decode cX1_init 55 = .ok (.putfield 28, 3) := by decide +kernel
theorem dX1_init_58 : decode cX1_init 58 = .ok (.aload_n 0, 1) := by decide +kernel
theorem dX1_init_59 : decode cX1_init 59 = .ok (.iconst 1, 1) := by decide +kernel
theorem dX1_init_60 : decode cX1_init 60 = .ok (.putfield 32, 3) := by decide +kernel
theorem dX1_init_63 : decode cX1_init 63 = .ok (.aload_n 0, 1) := by decide +kernel
theorem dX1_init_64 : decode cX1_init 64 = .ok (.iconst 3, 1) := by decide +kernel
theorem dX1_init_65 : decode cX1_init 65 = .ok (.putfield 35, 3) := by decide +kernel
theorem dX1_init_68 : decode cX1_init 68 = .ok (.return_, 1) := by decide +kernel
theorem dX1_thrown_0 : decode cX1_thrown 0 = .ok (.aload_n 0, 1) := by decide +kernel
theorem dX1_thrown_1 : decode cX1_thrown 1 = .ok (.getfield 38, 3) := by decide +kernel
theorem dX1_thrown_4 : decode cX1_thrown 4 = .ok (.ireturn, 1) := by decide +kernel
theorem dX1_no_0 : decode cX1_no 0 = .ok (.aload_n 0, 1) := by decide +kernel
theorem dX1_no_1 : decode cX1_no 1 = .ok (.iload_n 1, 1) := by decide +kernel
theorem dX1_no_2 : decode cX1_no 2 = .ok (.putfield 38, 3) := by decide +kernel
theorem dX1_no_5 : decode cX1_no 5 = .ok (.iconst 0, 1) := by decide +kernel
theorem dX1_no_6 : decode cX1_no 6 = .ok (.ireturn, 1) := by decide +kernel
theorem dX1_ok_0 : decode cX1_ok 0 = .ok (.aload_n 0, 1) := by decide +kernel
theorem dX1_ok_1 : decode cX1_ok 1 = .ok (.iconst 0, 1) := by decide +kernel
theorem dX1_ok_2 : decode cX1_ok 2 = .ok (.putfield 38, 3) := by decide +kernel
theorem dX1_ok_5 : decode cX1_ok 5 = .ok (.iload_n 1, 1) := by decide +kernel
theorem dX1_ok_6 : decode cX1_ok 6 = .ok (.ireturn, 1) := by decide +kernel
theorem dX1_isIn_0 : decode cX1_isIn 0 = .ok (.iload_n 0, 1) := by decide +kernel
theorem dX1_isIn_1 : decode cX1_isIn 1 = .ok (.iload_n 1, 1) := by decide +kernel
theorem dX1_isIn_2 : decode cX1_isIn 2 = .ok (.if_icmp .lt 12, 3) := by decide +kernel
theorem dX1_isIn_5 : decode cX1_isIn 5 = .ok (.iload_n 0, 1) := by decide +kernel
theorem dX1_isIn_6 : decode cX1_isIn 6 = .ok (.iload_n 2, 1) := by decide +kernel
theorem dX1_isIn_7 : decode cX1_isIn 7 = .ok (.if_icmp .gt 7, 3) := by decide +kernel
theorem dX1_isIn_10 : decode cX1_isIn 10 = .ok (.iconst 1, 1) := by decide +kernel
theorem dX1_isIn_11 : decode cX1_isIn 11 = .ok (.goto 4, 3) := by decide +kernel
theorem dX1_isIn_14 : decode cX1_isIn 14 = .ok (.iconst 0, 1) := by decide +kernel
theorem dX1_isIn_15 : decode cX1_isIn 15 = .ok (.ireturn, 1) := by decide +kernel
set_option maxRecDepth 20000 in
theorem ggX1_isStick_X1_isIn : GoodIn wsX1_isStick wsX1_isIn := goodIn_r _ [5] (by decide +kernel) (by decide +kernel)
set_option maxRecDepth 20000 in
theorem gX1_isStick_X1_isIn : GoodIn wsX1_isStick (va_wsS RX1 44 yX1_isIn wsX1_isIn) := goodIn_app (goodIn_of _ (by decide +kernel)) ggX1_isStick_X1_isIn
theorem dX1_isStick_0 : decode cX1_isStick 0 = .ok (.iload_n 1, 1) := by decide +kernel
theorem dX1_isStick_1 : decode cX1_isStick 1 = .ok (.iconst 0, 1) := by decide +kernel
theorem dX1_isStick_2 : decode cX1_isStick 2 = .ok (.aload_n 0, 1) := by decide +kernel
theorem dX1_isStick_3 : decode cX1_isStick 3 = .ok (.getfield 41, 3) := by decide +kernel
theorem dX1_isStick_6 : decode cX1_isStick 6 = .ok (.iconst 1, 1) := by decide +kernel
theorem dX1_isStick_7 : decode cX1_isStick 7 = .ok (.isub, 1) := by decide +kernel
theorem dX1_isStick_8 : decode cX1_isStick 8 = .ok (.invokestatic 44, 3) := by decide +kernel
theorem dX1_isStick_11 : decode cX1_isStick 11 = .ok (.ireturn, 1) := by decide +kernel
set_option maxRecDepth 20000 in
theorem ggX1_isNap_X1_isIn : GoodIn wsX1_isNap wsX1_isIn := goodIn_r _ [5] (by decide +kernel) (by decide +kernel)
set_option maxRecDepth 20000 in
theorem gX1_isNap_X1_isIn : GoodIn wsX1_isNap (va_wsS RX1 44 yX1_isIn wsX1_isIn) := goodIn_app (goodIn_of _ (by decide +kernel)) ggX1_isNap_X1_isIn
theorem dX1_isNap_0 : decode cX1_isNap 0 = .ok (.iload_n 1, 1) := by decide +kernel
theorem dX1_isNap_1 : decode cX1_isNap 1 = .ok (.iconst 0, 1) := by decide +kernel
theorem dX1_isNap_2 : decode cX1_isNap 2 = .ok (.aload_n 0, 1) := by decide +kernel
theorem dX1_isNap_3 : decode cX1_isNap 3 = .ok (.getfield 48, 3) := by decide +kernel
theorem dX1_isNap_6 : decode cX1_isNap 6 = .ok (.iconst 1, 1) := by decide +kernel
theorem dX1_isNap_7 : decode cX1_isNap 7 = .ok (.isub, 1) := by decide +kernel
theorem dX1_isNap_8 : decode cX1_isNap 8 = .ok (.invokestatic 44, 3) := by decide +kernel
theorem dX1_isNap_11 : decode cX1_isNap 11 = .ok (.ireturn, 1) := by decide +kernel
set_option maxRecDepth 20000 in
theorem ggX1_isBee_X1_isIn : GoodIn wsX1_isBee wsX1_isIn := goodIn_r _ [5] (by decide +kernel) (by decide +kernel)
set_option maxRecDepth 20000 in
theorem gX1_isBee_X1_isIn : GoodIn wsX1_isBee (va_wsS RX1 44 yX1_isIn wsX1_isIn) := goodIn_app (goodIn_of _ (by decide +kernel)) ggX1_isBee_X1_isIn
theorem dX1_isBee_0 : decode cX1_isBee 0 = .ok (.iload_n 1, 1) := by decide +kernel
theorem dX1_isBee_1 : decode cX1_isBee 1 = .ok (.iconst 0, 1) := by decide +kernel
theorem dX1_isBee_2 : decode cX1_isBee 2 = .ok (.aload_n 0, 1) := by decide +kernel
theorem dX1_isBee_3 : decode cX1_isBee 3 = .ok (.getfield 51, 3) := by decide +kernel
theorem dX1_isBee_6 : decode cX1_isBee 6 = .ok (.iconst 1, 1) := by decide +kernel
theorem dX1_isBee_7 : decode cX1_isBee 7 = .ok (.isub, 1) := by decide +kernel
theorem dX1_isBee_8 : decode cX1_isBee 8 = .ok (.invokestatic 44, 3) := by decide +kernel
theorem dX1_isBee_11 : decode cX1_isBee 11 = .ok (.ireturn, 1) := by decide +kernel
set_option maxRecDepth 20000 in
theorem ggX1_isMinute_X1_isIn : GoodIn wsX1_isMinute wsX1_isIn := goodIn_r _ [4] (by decide +kernel) (by decide +kernel)
set_option maxRecDepth 20000 in
theorem gX1_isMinute_X1_isIn : GoodIn wsX1_isMinute (va_wsS RX1 44 yX1_isIn wsX1_isIn) := goodIn_app (goodIn_of _ (by decide +kernel)) ggX1_isMinute_X1_isIn
theorem dX1_isMinute_0 : decode cX1_isMinute 0 = .ok (.iload_n 0, 1) := by decide +kernel
theorem dX1_isMinute_1 : decode cX1_isMinute 1 = .ok (.iconst 0, 1) := by decide +kernel
theorem dX1_isMinute_2 : decode cX1_isMinute 2 = .ok (.sipush 359, 3) := by decide +kernel
theorem dX1_isMinute_5 : decode cX1_isMinute 5 = .ok (.invokestatic 44, 3) := by decide +kernel
theorem dX1_isMinute_8 : decode cX1_isMinute 8 = .ok (.ireturn, 1) := by decide +kernel
theorem dX1_lay_0 : decode cX1_lay 0 = .ok (.aload_n 0, 1) := by decide +kernel
theorem dX1_lay_1 : decode cX1_lay 1 = .ok (.getfield 13, 3) := by decide +kernel
theorem dX1_lay_4 : decode cX1_lay 4 = .ok (.iload_n 1, 1) := by decide +kernel
theorem dX1_lay_5 : decode cX1_lay 5 = .ok (.iaload, 1) := by decide +kernel
theorem dX1_lay_6 : decode cX1_lay 6 = .ok (.istore_n 3, 1) := by decide +kernel
theorem dX1_lay_7 : decode cX1_lay 7 = .ok (.iload_n 3, 1) := by decide +kernel
theorem dX1_lay_8 : decode cX1_lay 8 = .ok (.aload_n 0, 1) := by decide +kernel
theorem dX1_lay_9 : decode cX1_lay 9 = .ok (.getfield 16, 3) := by decide +kernel
theorem dX1_lay_12 : decode cX1_lay 12 = .ok (.iload_n 1, 1) := by decide +kernel
theorem dX1_lay_13 : decode cX1_lay 13 = .ok (.iaload, 1) := by decide +kernel
theorem dX1_lay_14 : decode cX1_lay 14 = .ok (.if_icmp .ge 19, 3) := by decide +kernel
theorem dX1_lay_17 : decode cX1_lay 17 = .ok (.aload_n 0, 1) := by decide +kernel
theorem dX1_lay_18 : decode cX1_lay 18 = .ok (.getfield 19, 3) := by decide +kernel
theorem dX1_lay_21 : decode cX1_lay 21 = .ok (.iload_n 3, 1) := by decide +kernel
theorem dX1_lay_22 : decode cX1_lay 22 = .ok (.dup2, 1) := by decide +kernel
theorem dX1_lay_23 : decode cX1_lay 23 = .ok (.iaload, 1) := by decide +kernel
theorem dX1_lay_24 : decode cX1_lay 24 = .ok (.iload_n 2, 1) := by decide +kernel
theorem dX1_lay_25 : decode cX1_lay 25 = .ok (.iadd, 1) := by decide +kernel
theorem dX1_lay_26 : decode cX1_lay 26 = .ok (.iastore, 1) := by decide +kernel
theorem dX1_lay_27 : decode cX1_lay 27 = .ok (.iinc 3 1, 3) := by decide +kernel
theorem dX1_lay_30 : decode cX1_lay 30 = .ok (.goto (-23), 3) := by decide +kernel
theorem dX1_lay_33 : decode cX1_lay 33 = .ok (.return_, 1) := by decide +kernel
theorem dX1_isAwake_0 : decode cX1_isAwake 0 = .ok (.aload_n 0, 1) := by decide +kernel
theorem dX1_isAwake_1 : decode cX1_isAwake 1 = .ok (.getfield 19, 3) := by decide +kernel
theorem dX1_isAwake_4 : decode cX1_isAwake 4 = .ok (.iload_n 1, 1) := by decide +kernel
theorem dX1_isAwake_5 : decode cX1_isAwake 5 = .ok (.iaload, 1) := by decide +kernel
theorem dX1_isAwake_6 : decode cX1_isAwake 6 = .ok (.ifCond .ne 7, 3) := by decide +kernel
theorem dX1_isAwake_9 : decode cX1_isAwake 9 = .ok (.iconst 1, 1) := by decide +kernel
theorem dX1_isAwake_10 : decode cX1_isAwake 10 = .ok (.goto 4, 3) := by decide +kernel
theorem dX1_isAwake_13 : decode cX1_isAwake 13 = .ok (.iconst 0, 1) := by decide +kernel
theorem dX1_isAwake_14 : decode cX1_isAwake 14 = .ok (.ireturn, 1) := by decide +kernel
set_option maxRecDepth 20000 in
theorem ggX1_awake_X1_isAwake : GoodIn wsX1_awake wsX1_isAwake := goodIn_r _ [5, 6, 7, 8, 9, 10, 11, 12, 13, 14, 15, 16, 17, 18, 19, 20, 21, 22, 23] (by decide +kernel) (by decide +kernel)
set_option maxRecDepth 20000 in
theorem gX1_awake_X1_isAwake : GoodIn wsX1_awake (wsV RX1 54 RX1 yX1_isAwake wsX1_isAwake) := goodIn_app (goodIn_of _ (by decide +kernel)) ggX1_awake_X1_isAwake
theorem dX1_awake_0 : decode cX1_awake 0 = .ok (.iconst 0, 1) := by decide +kernel
theorem dX1_awake_1 : decode cX1_awake 1 = .ok (.istore_n 2, 1) := by decide +kernel
theorem dX1_awake_2 : decode cX1_awake 2 = .ok (.iconst 0, 1) := by decide +kernel
theorem dX1_awake_3 : decode cX1_awake 3 = .ok (.istore_n 3, 1) := by decide +kernel
theorem dX1_awake_4 : decode cX1_awake 4 = .ok (.iload_n 3, 1) := by decide +kernel
theorem dX1_awake_5 : decode cX1_awake 5 = .ok (.iload_n 1, 1) := by decide +kernel
theorem dX1_awake_6 : decode cX1_awake 6 = .ok (.if_icmp .ge 25, 3) := by decide +kernel
theorem dX1_awake_9 : decode cX1_awake 9 = .ok (.iload_n 2, 1) := by decide +kernel
theorem dX1_awake_10 : decode cX1_awake 10 = .ok (.aload_n 0, 1) := by decide +kernel
theorem dX1_awake_11 : decode cX1_awake 11 = .ok (.iload_n 3, 1) := by decide +kernel
theorem dX1_awake_12 : decode cX1_awake 12 = .ok (.invokevirtual 54, 3) := by decide +kernel
theorem dX1_awake_15 : decode cX1_awake 15 = .ok (.ifCond .eq 7, 3) := by decide +kernel
theorem dX1_awake_18 : decode cX1_awake 18 = .ok (.iconst 1, 1) := by decide +kernel
theorem dX1_awake_19 : decode cX1_awake 19 = .ok (.goto 4, 3) := by decide +kernel
theorem dX1_awake_22 : decode cX1_awake 22 = .ok (.iconst 0, 1) := by decide +kernel
theorem dX1_awake_23 : decode cX1_awake 23 = .ok (.iadd, 1) := by decide +kernel
theorem dX1_awake_24 : decode cX1_awake 24 = .ok (.istore_n 2, 1) := by decide +kernel
theorem dX1_awake_25 : decode cX1_awake 25 = .ok (.iinc 3 1, 3) := by decide +kernel
theorem dX1_awake_28 : decode cX1_awake 28 = .ok (.goto (-24), 3) := by decide +kernel
theorem dX1_awake_31 : decode cX1_awake 31 = .ok (.iload_n 2, 1) := by decide +kernel
theorem dX1_awake_32 : decode cX1_awake 32 = .ok (.ireturn, 1) := by decide +kernel
set_option maxRecDepth 20000 in
theorem ggX1_longest_X1_isAwake : GoodIn wsX1_longest wsX1_isAwake := goodIn_r _ [9, 10, 11, 12, 13, 14, 15, 16, 17, 18, 19, 20, 21, 22, 23, 24, 25, 26, 27] (by decide +kernel) (by decide +kernel)
set_option maxRecDepth 20000 in
theorem gX1_longest_X1_isAwake : GoodIn wsX1_longest (wsV RX1 54 RX1 yX1_isAwake wsX1_isAwake) := goodIn_app (goodIn_of _ (by decide +kernel)) ggX1_longest_X1_isAwake
theorem dX1_longest_0 : decode cX1_longest 0 = .ok (.iconst 0, 1) := by decide +kernel
theorem dX1_longest_1 : decode cX1_longest 1 = .ok (.istore_n 1, 1) := by decide +kernel
theorem dX1_longest_2 : decode cX1_longest 2 = .ok (.iconst 0, 1) := by decide +kernel
theorem dX1_longest_3 : decode cX1_longest 3 = .ok (.istore_n 2, 1) := by decide +kernel
theorem dX1_longest_4 : decode cX1_longest 4 = .ok (.iconst 0, 1) := by decide +kernel
theorem dX1_longest_5 : decode cX1_longest 5 = .ok (.istore_n 3, 1) := by decide +kernel
theorem dX1_longest_6 : decode cX1_longest 6 = .ok (.iload_n 3, 1) := by decide +kernel
theorem dX1_longest_7 : decode cX1_longest 7 = .ok (.sipush 360, 3) := by decide +kernel
theorem dX1_longest_10 : decode cX1_longest 10 = .ok (.if_icmp .ge 31, 3) := by decide +kernel
theorem dX1_longest_13 : decode cX1_longest 13 = .ok (.aload_n 0, 1) := by decide +kernel
theorem dX1_longest_14 : decode cX1_longest 14 = .ok (.iload_n 3, 1) := by decide +kernel
theorem dX1_longest_15 : decode cX1_longest 15 = .ok (.invokevirtual 54, 3) := by decide +kernel
theorem dX1_longest_18 : decode cX1_longest 18 = .ok (.ifCond .eq 9, 3) := by decide +kernel
theorem dX1_longest_21 : decode cX1_longest 21 = .ok (.iload_n 2, 1) := by decide +kernel
theorem dX1_longest_22 : decode cX1_longest 22 = .ok (.iconst 1, 1) := by decide +kernel
theorem dX1_longest_23 : decode cX1_longest 23 = .ok (.iadd, 1) := by decide +kernel
theorem dX1_longest_24 : decode cX1_longest 24 = .ok (.goto 4, 3) := by decide +kernel
theorem dX1_longest_27 : decode cX1_longest 27 = .ok (.iconst 0, 1) := by decide +kernel
theorem dX1_longest_28 : decode cX1_longest 28 = .ok (.istore_n 2, 1) := by decide +kernel
theorem dX1_longest_29 : decode cX1_longest 29 = .ok (.iload_n 1, 1) := by decide +kernel
theorem dX1_longest_30 : decode cX1_longest 30 = .ok (.iload_n 2, 1) := by decide +kernel
theorem dX1_longest_31 : decode cX1_longest 31 = .ok (.invokestatic 58, 3) := by decide +kernel
theorem dX1_longest_34 : decode cX1_longest 34 = .ok (.istore_n 1, 1) := by decide +kernel
theorem dX1_longest_35 : decode cX1_longest 35 = .ok (.iinc 3 1, 3) := by decide +kernel
theorem dX1_longest_38 : decode cX1_longest 38 = .ok (.goto (-32), 3) := by decide +kernel
theorem dX1_longest_41 : decode cX1_longest 41 = .ok (.iload_n 1, 1) := by decide +kernel
theorem dX1_longest_42 : decode cX1_longest 42 = .ok (.ireturn, 1) := by decide +kernel
theorem dX1_alone_0 : decode cX1_alone 0 = .ok (.iconst 0, 1) := by decide +kernel
theorem dX1_alone_1 : decode cX1_alone 1 = .ok (.istore_n 2, 1) := by decide +kernel
theorem dX1_alone_2 : decode cX1_alone 2 = .ok (.aload_n 0, 1) := by decide +kernel
theorem dX1_alone_3 : decode cX1_alone 3 = .ok (.getfield 13, 3) := by decide +kernel
theorem dX1_alone_6 : decode cX1_alone 6 = .ok (.iload_n 1, 1) := by decide +kernel
theorem dX1_alone_7 : decode cX1_alone 7 = .ok (.iaload, 1) := by decide +kernel
theorem dX1_alone_8 : decode cX1_alone 8 = .ok (.istore_n 3, 1) := by decide +kernel
theorem dX1_alone_9 : decode cX1_alone 9 = .ok (.iload_n 3, 1) := by decide +kernel
theorem dX1_alone_10 : decode cX1_alone 10 = .ok (.aload_n 0, 1) := by decide +kernel
theorem dX1_alone_11 : decode cX1_alone 11 = .ok (.getfield 16, 3) := by decide +kernel
theorem dX1_alone_14 : decode cX1_alone 14 = .ok (.iload_n 1, 1) := by decide +kernel
theorem dX1_alone_15 : decode cX1_alone 15 = .ok (.iaload, 1) := by decide +kernel
theorem dX1_alone_16 : decode cX1_alone 16 = .ok (.if_icmp .ge 27, 3) := by decide +kernel
theorem dX1_alone_19 : decode cX1_alone 19 = .ok (.iload_n 2, 1) := by decide +kernel
theorem dX1_alone_20 : decode cX1_alone 20 = .ok (.aload_n 0, 1) := by decide +kernel
theorem dX1_alone_21 : decode cX1_alone 21 = .ok (.getfield 19, 3) := by decide +kernel
theorem dX1_alone_24 : decode cX1_alone 24 = .ok (.iload_n 3, 1) := by decide +kernel
theorem dX1_alone_25 : decode cX1_alone 25 = .ok (.iaload, 1) := by decide +kernel
theorem dX1_alone_26 : decode cX1_alone 26 = .ok (.iconst 1, 1) := by decide +kernel
theorem dX1_alone_27 : decode cX1_alone 27 = .ok (.if_icmp .ne 7, 3) := by decide +kernel
theorem dX1_alone_30 : decode cX1_alone 30 = .ok (.iconst 1, 1) := by decide +kernel
theorem dX1_alone_31 : decode cX1_alone 31 = .ok (.goto 4, 3) := by decide +kernel
theorem dX1_alone_34 : decode cX1_alone 34 = .ok (.iconst 0, 1) := by decide +kernel
theorem dX1_alone_35 : decode cX1_alone 35 = .ok (.iadd, 1) := by decide +kernel
theorem dX1_alone_36 : decode cX1_alone 36 = .ok (.istore_n 2, 1) := by decide +kernel
theorem dX1_alone_37 : decode cX1_alone 37 = .ok (.iinc 3 1, 3) := by decide +kernel
theorem dX1_alone_40 : decode cX1_alone 40 = .ok (.goto (-31), 3) := by decide +kernel
theorem dX1_alone_43 : decode cX1_alone 43 = .ok (.iload_n 2, 1) := by decide +kernel
theorem dX1_alone_44 : decode cX1_alone 44 = .ok (.ireturn, 1) := by decide +kernel
set_option maxRecDepth 20000 in
theorem ggX1_ticks_X1_isAwake : GoodIn wsX1_ticks wsX1_isAwake := goodIn_r _ [7, 8, 9, 10, 11, 12, 13, 14, 15, 16, 17, 18, 19, 20, 21, 22, 23, 24, 25] (by decide +kernel) (by decide +kernel)
set_option maxRecDepth 20000 in
theorem gX1_ticks_X1_isAwake : GoodIn wsX1_ticks (wsV RX1 54 RX1 yX1_isAwake wsX1_isAwake) := goodIn_app (goodIn_of _ (by decide +kernel)) ggX1_ticks_X1_isAwake
theorem dX1_ticks_0 : decode cX1_ticks 0 = .ok (.aload_n 0, 1) := by decide +kernel
theorem dX1_ticks_1 : decode cX1_ticks 1 = .ok (.iload_n 2, 1) := by decide +kernel
theorem dX1_ticks_2 : decode cX1_ticks 2 = .ok (.invokevirtual 54, 3) := by decide +kernel
theorem dX1_ticks_5 : decode cX1_ticks 5 = .ok (.ifCond .eq 24, 3) := by decide +kernel
theorem dX1_ticks_8 : decode cX1_ticks 8 = .ok (.iload_n 2, 1) := by decide +kernel
theorem dX1_ticks_9 : decode cX1_ticks 9 = .ok (.aload_n 0, 1) := by decide +kernel
theorem dX1_ticks_10 : decode cX1_ticks 10 = .ok (.getfield 22, 3) := by decide +kernel
theorem dX1_ticks_13 : decode cX1_ticks 13 = .ok (.iload_n 1, 1) := by decide +kernel
theorem dX1_ticks_14 : decode cX1_ticks 14 = .ok (.iaload, 1) := by decide +kernel
theorem dX1_ticks_15 : decode cX1_ticks 15 = .ok (.irem, 1) := by decide +kernel
theorem dX1_ticks_16 : decode cX1_ticks 16 = .ok (.aload_n 0, 1) := by decide +kernel
theorem dX1_ticks_17 : decode cX1_ticks 17 = .ok (.getfield 25, 3) := by decide +kernel
theorem dX1_ticks_20 : decode cX1_ticks 20 = .ok (.iload_n 1, 1) := by decide +kernel
theorem dX1_ticks_21 : decode cX1_ticks 21 = .ok (.iaload, 1) := by decide +kernel
theorem dX1_ticks_22 : decode cX1_ticks 22 = .ok (.if_icmp .ne 7, 3) := by decide +kernel
theorem dX1_ticks_25 : decode cX1_ticks 25 = .ok (.iconst 1, 1) := by decide +kernel
theorem dX1_ticks_26 : decode cX1_ticks 26 = .ok (.goto 4, 3) := by decide +kernel
theorem dX1_ticks_29 : decode cX1_ticks 29 = .ok (.iconst 0, 1) := by decide +kernel
theorem dX1_ticks_30 : decode cX1_ticks 30 = .ok (.ireturn, 1) := by decide +kernel
set_option maxRecDepth 20000 in
theorem ggX1_ticked_X1_ticks : GoodIn wsX1_ticked wsX1_ticks := goodIn_r _ [6, 7, 8, 9, 10, 11, 5, 12, 13, 14, 15, 16, 17, 18, 19, 20, 21, 22, 23, 24, 25, 26, 27, 28, 29, 30] (by decide +kernel) (by decide +kernel)
set_option maxRecDepth 20000 in
theorem gX1_ticked_X1_ticks : GoodIn wsX1_ticked (wsV RX1 67 RX1 yX1_ticks wsX1_ticks) := goodIn_app (goodIn_of _ (by decide +kernel)) ggX1_ticked_X1_ticks
theorem dX1_ticked_0 : decode cX1_ticked 0 = .ok (.iconst 0, 1) := by decide +kernel
theorem dX1_ticked_1 : decode cX1_ticked 1 = .ok (.istore_n 2, 1) := by decide +kernel
theorem dX1_ticked_2 : decode cX1_ticked 2 = .ok (.iconst 0, 1) := by decide +kernel
theorem dX1_ticked_3 : decode cX1_ticked 3 = .ok (.istore_n 3, 1) := by decide +kernel
theorem dX1_ticked_4 : decode cX1_ticked 4 = .ok (.iload_n 3, 1) := by decide +kernel
theorem dX1_ticked_5 : decode cX1_ticked 5 = .ok (.aload_n 0, 1) := by decide +kernel
theorem dX1_ticked_6 : decode cX1_ticked 6 = .ok (.getfield 64, 3) := by decide +kernel
theorem dX1_ticked_9 : decode cX1_ticked 9 = .ok (.if_icmp .ge 26, 3) := by decide +kernel
theorem dX1_ticked_12 : decode cX1_ticked 12 = .ok (.iload_n 2, 1) := by decide +kernel
theorem dX1_ticked_13 : decode cX1_ticked 13 = .ok (.aload_n 0, 1) := by decide +kernel
theorem dX1_ticked_14 : decode cX1_ticked 14 = .ok (.iload_n 1, 1) := by decide +kernel
theorem dX1_ticked_15 : decode cX1_ticked 15 = .ok (.iload_n 3, 1) := by decide +kernel
theorem dX1_ticked_16 : decode cX1_ticked 16 = .ok (.invokevirtual 67, 3) := by decide +kernel
theorem dX1_ticked_19 : decode cX1_ticked 19 = .ok (.ifCond .eq 7, 3) := by decide +kernel
theorem dX1_ticked_22 : decode cX1_ticked 22 = .ok (.iconst 1, 1) := by decide +kernel
theorem dX1_ticked_23 : decode cX1_ticked 23 = .ok (.goto 4, 3) := by decide +kernel
theorem dX1_ticked_26 : decode cX1_ticked 26 = .ok (.iconst 0, 1) := by decide +kernel
theorem dX1_ticked_27 : decode cX1_ticked 27 = .ok (.iadd, 1) := by decide +kernel
theorem dX1_ticked_28 : decode cX1_ticked 28 = .ok (.istore_n 2, 1) := by decide +kernel
theorem dX1_ticked_29 : decode cX1_ticked 29 = .ok (.iinc 3 1, 3) := by decide +kernel
theorem dX1_ticked_32 : decode cX1_ticked 32 = .ok (.goto (-28), 3) := by decide +kernel
theorem dX1_ticked_35 : decode cX1_ticked 35 = .ok (.iload_n 2, 1) := by decide +kernel
theorem dX1_ticked_36 : decode cX1_ticked 36 = .ok (.ireturn, 1) := by decide +kernel
set_option maxRecDepth 20000 in
theorem ggX1_next_X1_ticks : GoodIn wsX1_next wsX1_ticks := goodIn_r _ [6, 7, 8, 9, 10, 11, 5, 12, 13, 14, 15, 16, 17, 18, 19, 20, 21, 22, 23, 24, 25, 26, 27, 28, 29, 30] (by decide +kernel) (by decide +kernel)
set_option maxRecDepth 20000 in
theorem gX1_next_X1_ticks : GoodIn wsX1_next (wsV RX1 67 RX1 yX1_ticks wsX1_ticks) := goodIn_app (goodIn_of _ (by decide +kernel)) ggX1_next_X1_ticks
theorem dX1_next_0 : decode cX1_next 0 = .ok (.aload_n 0, 1) := by decide +kernel
theorem dX1_next_1 : decode cX1_next 1 = .ok (.getfield 64, 3) := by decide +kernel
theorem dX1_next_4 : decode cX1_next 4 = .ok (.istore_n 2, 1) := by decide +kernel
theorem dX1_next_5 : decode cX1_next 5 = .ok (.iload_n 2, 1) := by decide +kernel
theorem dX1_next_6 : decode cX1_next 6 = .ok (.sipush 360, 3) := by decide +kernel
theorem dX1_next_9 : decode cX1_next 9 = .ok (.if_icmp .ge 20, 3) := by decide +kernel
theorem dX1_next_12 : decode cX1_next 12 = .ok (.aload_n 0, 1) := by decide +kernel
theorem dX1_next_13 : decode cX1_next 13 = .ok (.iload_n 1, 1) := by decide +kernel
theorem dX1_next_14 : decode cX1_next 14 = .ok (.iload_n 2, 1) := by decide +kernel
theorem dX1_next_15 : decode cX1_next 15 = .ok (.invokevirtual 67, 3) := by decide +kernel
theorem dX1_next_18 : decode cX1_next 18 = .ok (.ifCond .eq 5, 3) := by decide +kernel
theorem dX1_next_21 : decode cX1_next 21 = .ok (.iload_n 2, 1) := by decide +kernel
theorem dX1_next_22 : decode cX1_next 22 = .ok (.ireturn, 1) := by decide +kernel
theorem dX1_next_23 : decode cX1_next 23 = .ok (.iinc 2 1, 3) := by decide +kernel
theorem dX1_next_26 : decode cX1_next 26 = .ok (.goto (-21), 3) := by decide +kernel
theorem dX1_next_29 : decode cX1_next 29 = .ok (.iconst (-1), 1) := by decide +kernel
theorem dX1_next_30 : decode cX1_next 30 = .ok (.ireturn, 1) := by decide +kernel
set_option maxRecDepth 20000 in
theorem ggX1_error_X1_ticked : GoodIn wsX1_error wsX1_ticked := goodIn_r _ [7, 2, 8, 9, 10, 6, 11, 1, 12, 13, 14, 15, 16, 17, 22, 23, 24, 25, 26, 27, 28, 29, 30, 31, 32, 33, 34, 35, 36, 37, 38] (by decide +kernel) (by decide +kernel)
set_option maxRecDepth 20000 in
theorem gX1_error_X1_ticked : GoodIn wsX1_error (wsV RX1 71 RX1 yX1_ticked wsX1_ticked) := goodIn_app (goodIn_of _ (by decide +kernel)) ggX1_error_X1_ticked
set_option maxRecDepth 20000 in
theorem ggX1_error_X1_awake : GoodIn wsX1_error wsX1_awake := goodIn_r _ [21, 13, 14, 15, 6, 16, 17, 22, 23, 24, 25, 26, 27, 28, 29, 30, 31, 32, 33, 34, 35, 36, 37, 38] (by decide +kernel) (by decide +kernel)
set_option maxRecDepth 20000 in
theorem gX1_error_X1_awake : GoodIn wsX1_error (wsV RX1 75 RX1 yX1_awake wsX1_awake) := goodIn_app (goodIn_of _ (by decide +kernel)) ggX1_error_X1_awake
theorem dX1_error_0 : decode cX1_error 0 = .ok (.aload_n 0, 1) := by decide +kernel
theorem dX1_error_1 : decode cX1_error 1 = .ok (.iload_n 1, 1) := by decide +kernel
theorem dX1_error_2 : decode cX1_error 2 = .ok (.invokevirtual 71, 3) := by decide +kernel
theorem dX1_error_5 : decode cX1_error 5 = .ok (.aload_n 0, 1) := by decide +kernel
theorem dX1_error_6 : decode cX1_error 6 = .ok (.getfield 22, 3) := by decide +kernel
theorem dX1_error_9 : decode cX1_error 9 = .ok (.iload_n 1, 1) := by decide +kernel
theorem dX1_error_10 : decode cX1_error 10 = .ok (.iaload, 1) := by decide +kernel
theorem dX1_error_11 : decode cX1_error 11 = .ok (.imul, 1) := by decide +kernel
theorem dX1_error_12 : decode cX1_error 12 = .ok (.aload_n 0, 1) := by decide +kernel
theorem dX1_error_13 : decode cX1_error 13 = .ok (.aload_n 0, 1) := by decide +kernel
theorem dX1_error_14 : decode cX1_error 14 = .ok (.getfield 64, 3) := by decide +kernel
theorem dX1_error_17 : decode cX1_error 17 = .ok (.invokevirtual 75, 3) := by decide +kernel
theorem dX1_error_20 : decode cX1_error 20 = .ok (.isub, 1) := by decide +kernel
theorem dX1_error_21 : decode cX1_error 21 = .ok (.ireturn, 1) := by decide +kernel
set_option maxRecDepth 20000 in
theorem ggX1_best_X1_error : GoodIn wsX1_best wsX1_error := goodIn_r _ [10, 11, 12, 13, 14, 15, 9, 16, 17, 18, 19, 20, 21, 22, 23, 24, 25, 26, 27, 28, 29, 30, 31, 32, 33, 34, 35, 36, 37, 38, 39, 40, 41, 42, 43, 44, 45, 46, 47] (by decide +kernel) (by decide +kernel)
set_option maxRecDepth 20000 in
theorem gX1_best_X1_error : GoodIn wsX1_best (wsV RX1 78 RX1 yX1_error wsX1_error) := goodIn_app (goodIn_of _ (by decide +kernel)) ggX1_best_X1_error
theorem dX1_best_0 : decode cX1_best 0 = .ok (.iconst (-1), 1) := by decide +kernel
theorem dX1_best_1 : decode cX1_best 1 = .ok (.istore_n 1, 1) := by decide +kernel
theorem dX1_best_2 : decode cX1_best 2 = .ok (.iconst 0, 1) := by decide +kernel
theorem dX1_best_3 : decode cX1_best 3 = .ok (.istore_n 2, 1) := by decide +kernel
theorem dX1_best_4 : decode cX1_best 4 = .ok (.iload_n 2, 1) := by decide +kernel
theorem dX1_best_5 : decode cX1_best 5 = .ok (.aload_n 0, 1) := by decide +kernel
theorem dX1_best_6 : decode cX1_best 6 = .ok (.getfield 51, 3) := by decide +kernel
theorem dX1_best_9 : decode cX1_best 9 = .ok (.if_icmp .ge 35, 3) := by decide +kernel
theorem dX1_best_12 : decode cX1_best 12 = .ok (.iload_n 1, 1) := by decide +kernel
theorem dX1_best_13 : decode cX1_best 13 = .ok (.iconst (-1), 1) := by decide +kernel
theorem dX1_best_14 : decode cX1_best 14 = .ok (.if_icmp .eq 22, 3) := by decide +kernel
theorem dX1_best_17 : decode cX1_best 17 = .ok (.aload_n 0, 1) := by decide +kernel
theorem dX1_best_18 : decode cX1_best 18 = .ok (.iload_n 2, 1) := by decide +kernel
theorem dX1_best_19 : decode cX1_best 19 = .ok (.invokevirtual 78, 3) := by decide +kernel
theorem dX1_best_22 : decode cX1_best 22 = .ok (.invokestatic 81, 3) := by decide +kernel
theorem dX1_best_25 : decode cX1_best 25 = .ok (.aload_n 0, 1) := by decide +kernel
theorem dX1_best_26 : decode cX1_best 26 = .ok (.iload_n 1, 1) := by decide +kernel
theorem dX1_best_27 : decode cX1_best 27 = .ok (.invokevirtual 78, 3) := by decide +kernel
theorem dX1_best_30 : decode cX1_best 30 = .ok (.invokestatic 81, 3) := by decide +kernel
theorem dX1_best_33 : decode cX1_best 33 = .ok (.if_icmp .ge 5, 3) := by decide +kernel
theorem dX1_best_36 : decode cX1_best 36 = .ok (.iload_n 2, 1) := by decide +kernel
theorem dX1_best_37 : decode cX1_best 37 = .ok (.istore_n 1, 1) := by decide +kernel
theorem dX1_best_38 : decode cX1_best 38 = .ok (.iinc 2 1, 3) := by decide +kernel
theorem dX1_best_41 : decode cX1_best 41 = .ok (.goto (-37), 3) := by decide +kernel
theorem dX1_best_44 : decode cX1_best 44 = .ok (.iload_n 1, 1) := by decide +kernel
theorem dX1_best_45 : decode cX1_best 45 = .ok (.ireturn, 1) := by decide +kernel
set_option maxRecDepth 20000 in
theorem ggX1_poured_X1_isAwake : GoodIn wsX1_poured wsX1_isAwake := goodIn_r _ [11, 12, 19, 20, 21, 22, 23, 24, 25, 26, 27, 28, 29, 30, 31, 32, 33, 34, 35] (by decide +kernel) (by decide +kernel)
set_option maxRecDepth 20000 in
theorem gX1_poured_X1_isAwake : GoodIn wsX1_poured (wsV RX1 54 RX1 yX1_isAwake wsX1_isAwake) := goodIn_app (goodIn_of _ (by decide +kernel)) ggX1_poured_X1_isAwake
set_option maxRecDepth 20000 in
theorem ggX1_poured_X1_ticks : GoodIn wsX1_poured wsX1_ticks := goodIn_r _ [16, 17, 18, 7, 8, 9, 10, 11, 12, 19, 20, 21, 22, 23, 24, 25, 26, 27, 28, 29, 30, 31, 32, 33, 34, 35] (by decide +kernel) (by decide +kernel)
set_option maxRecDepth 20000 in
theorem gX1_poured_X1_ticks : GoodIn wsX1_poured (wsV RX1 67 RX1 yX1_ticks wsX1_ticks) := goodIn_app (goodIn_of _ (by decide +kernel)) ggX1_poured_X1_ticks
theorem dX1_poured_0 : decode cX1_poured 0 = .ok (.aload_n 0, 1) := by decide +kernel
theorem dX1_poured_1 : decode cX1_poured 1 = .ok (.iload_n 1, 1) := by decide +kernel
theorem dX1_poured_2 : decode cX1_poured 2 = .ok (.invokevirtual 54, 3) := by decide +kernel
theorem dX1_poured_5 : decode cX1_poured 5 = .ok (.ifCond .ne 5, 3) := by decide +kernel
theorem dX1_poured_8 : decode cX1_poured 8 = .ok (.iload_n 2, 1) := by decide +kernel
theorem dX1_poured_9 : decode cX1_poured 9 = .ok (.ireturn, 1) := by decide +kernel
theorem dX1_poured_10 : decode cX1_poured 10 = .ok (.iload_n 2, 1) := by decide +kernel
theorem dX1_poured_11 : decode cX1_poured 11 = .ok (.iload_n 3, 1) := by decide +kernel
theorem dX1_poured_12 : decode cX1_poured 12 = .ok (.iadd, 1) := by decide +kernel
theorem dX1_poured_13 : decode cX1_poured 13 = .ok (.istore 4, 2) := by decide +kernel
theorem dX1_poured_15 : decode cX1_poured 15 = .ok (.iconst 0, 1) := by decide +kernel
theorem dX1_poured_16 : decode cX1_poured 16 = .ok (.istore 5, 2) := by decide +kernel
theorem dX1_poured_18 : decode cX1_poured 18 = .ok (.iload 5, 2) := by decide +kernel
theorem dX1_poured_20 : decode cX1_poured 20 = .ok (.aload_n 0, 1) := by decide +kernel
theorem dX1_poured_21 : decode cX1_poured 21 = .ok (.getfield 51, 3) := by decide +kernel
theorem dX1_poured_24 : decode cX1_poured 24 = .ok (.if_icmp .ge 33, 3) := by decide +kernel
theorem dX1_poured_27 : decode cX1_poured 27 = .ok (.aload_n 0, 1) := by decide +kernel
theorem dX1_poured_28 : decode cX1_poured 28 = .ok (.iload 5, 2) := by decide +kernel
theorem dX1_poured_30 : decode cX1_poured 30 = .ok (.iload_n 1, 1) := by decide +kernel
theorem dX1_poured_31 : decode cX1_poured 31 = .ok (.invokevirtual 67, 3) := by decide +kernel
theorem dX1_poured_34 : decode cX1_poured 34 = .ok (.ifCond .eq 17, 3) := by decide +kernel
theorem dX1_poured_37 : decode cX1_poured 37 = .ok (.iload 4, 2) := by decide +kernel
theorem dX1_poured_39 : decode cX1_poured 39 = .ok (.iload 4, 2) := by decide +kernel
theorem dX1_poured_41 : decode cX1_poured 41 = .ok (.aload_n 0, 1) := by decide +kernel
theorem dX1_poured_42 : decode cX1_poured 42 = .ok (.getfield 35, 3) := by decide +kernel
theorem dX1_poured_45 : decode cX1_poured 45 = .ok (.invokestatic 84, 3) := by decide +kernel
theorem dX1_poured_48 : decode cX1_poured 48 = .ok (.isub, 1) := by decide +kernel
theorem dX1_poured_49 : decode cX1_poured 49 = .ok (.istore 4, 2) := by decide +kernel
theorem dX1_poured_51 : decode cX1_poured 51 = .ok (.iinc 5 1, 3) := by decide +kernel
theorem dX1_poured_54 : decode cX1_poured 54 = .ok (.goto (-36), 3) := by decide +kernel
theorem dX1_poured_57 : decode cX1_poured 57 = .ok (.iload 4, 2) := by decide +kernel
theorem dX1_poured_59 : decode cX1_poured 59 = .ok (.ireturn, 1) := by decide +kernel
set_option maxRecDepth 20000 in
theorem ggX1_go_X1_poured : GoodIn wsX1_go wsX1_poured := goodIn_r _ [14, 15, 16, 5, 6, 7, 8, 17, 18, 19, 13, 20, 21, 22, 23, 24, 25, 26, 27, 28, 29, 30, 31, 32, 33, 34, 35, 36, 37, 38, 39, 40, 41, 42, 43, 44] (by decide +kernel) (by decide +kernel)
set_option maxRecDepth 20000 in
theorem gX1_go_X1_poured : GoodIn wsX1_go (wsV RX1 90 RX1 yX1_poured wsX1_poured) := goodIn_app (goodIn_of _ (by decide +kernel)) ggX1_go_X1_poured
theorem dX1_go_0 : decode cX1_go 0 = .ok (.iconst 0, 1) := by decide +kernel
theorem dX1_go_1 : decode cX1_go 1 = .ok (.istore_n 2, 1) := by decide +kernel
theorem dX1_go_2 : decode cX1_go 2 = .ok (.iconst 0, 1) := by decide +kernel
theorem dX1_go_3 : decode cX1_go 3 = .ok (.istore_n 3, 1) := by decide +kernel
theorem dX1_go_4 : decode cX1_go 4 = .ok (.iload_n 3, 1) := by decide +kernel
theorem dX1_go_5 : decode cX1_go 5 = .ok (.iload_n 1, 1) := by decide +kernel
theorem dX1_go_6 : decode cX1_go 6 = .ok (.if_icmp .ge 60, 3) := by decide +kernel
theorem dX1_go_9 : decode cX1_go 9 = .ok (.aload_n 0, 1) := by decide +kernel
theorem dX1_go_10 : decode cX1_go 10 = .ok (.aload_n 0, 1) := by decide +kernel
theorem dX1_go_11 : decode cX1_go 11 = .ok (.getfield 64, 3) := by decide +kernel
theorem dX1_go_14 : decode cX1_go 14 = .ok (.aload_n 0, 1) := by decide +kernel
theorem dX1_go_15 : decode cX1_go 15 = .ok (.getfield 87, 3) := by decide +kernel
theorem dX1_go_18 : decode cX1_go 18 = .ok (.aload_n 0, 1) := by decide +kernel
theorem dX1_go_19 : decode cX1_go 19 = .ok (.getfield 32, 3) := by decide +kernel
theorem dX1_go_22 : decode cX1_go 22 = .ok (.invokevirtual 90, 3) := by decide +kernel
theorem dX1_go_25 : decode cX1_go 25 = .ok (.istore 4, 2) := by decide +kernel
theorem dX1_go_27 : decode cX1_go 27 = .ok (.aload_n 0, 1) := by decide +kernel
theorem dX1_go_28 : decode cX1_go 28 = .ok (.aload_n 0, 1) := by decide +kernel
theorem dX1_go_29 : decode cX1_go 29 = .ok (.getfield 28, 3) := by decide +kernel
theorem dX1_go_32 : decode cX1_go 32 = .ok (.iload 4, 2) := by decide +kernel
theorem dX1_go_34 : decode cX1_go 34 = .ok (.invokestatic 84, 3) := by decide +kernel
theorem dX1_go_37 : decode cX1_go 37 = .ok (.putfield 87, 3) := by decide +kernel
theorem dX1_go_40 : decode cX1_go 40 = .ok (.iload_n 2, 1) := by decide +kernel
theorem dX1_go_41 : decode cX1_go 41 = .ok (.iload 4, 2) := by decide +kernel
theorem dX1_go_43 : decode cX1_go 43 = .ok (.aload_n 0, 1) := by decide +kernel
theorem dX1_go_44 : decode cX1_go 44 = .ok (.getfield 87, 3) := by decide +kernel
theorem dX1_go_47 : decode cX1_go 47 = .ok (.isub, 1) := by decide +kernel
theorem dX1_go_48 : decode cX1_go 48 = .ok (.iadd, 1) := by decide +kernel
theorem dX1_go_49 : decode cX1_go 49 = .ok (.istore_n 2, 1) := by decide +kernel
theorem dX1_go_50 : decode cX1_go 50 = .ok (.aload_n 0, 1) := by decide +kernel
theorem dX1_go_51 : decode cX1_go 51 = .ok (.dup, 1) := by decide +kernel
theorem dX1_go_52 : decode cX1_go 52 = .ok (.getfield 64, 3) := by decide +kernel
theorem dX1_go_55 : decode cX1_go 55 = .ok (.iconst 1, 1) := by decide +kernel
theorem dX1_go_56 : decode cX1_go 56 = .ok (.iadd, 1) := by decide +kernel
theorem dX1_go_57 : decode cX1_go 57 = .ok (.putfield 64, 3) := by decide +kernel
theorem dX1_go_60 : decode cX1_go 60 = .ok (.iinc 3 1, 3) := by decide +kernel
theorem dX1_go_63 : decode cX1_go 63 = .ok (.goto (-59), 3) := by decide +kernel
theorem dX1_go_66 : decode cX1_go 66 = .ok (.aload_n 0, 1) := by decide +kernel
theorem dX1_go_67 : decode cX1_go 67 = .ok (.dup, 1) := by decide +kernel
theorem dX1_go_68 : decode cX1_go 68 = .ok (.getfield 94, 3) := by decide +kernel
theorem dX1_go_71 : decode cX1_go 71 = .ok (.iload_n 2, 1) := by decide +kernel
theorem dX1_go_72 : decode cX1_go 72 = .ok (.iadd, 1) := by decide +kernel
theorem dX1_go_73 : decode cX1_go 73 = .ok (.putfield 94, 3) := by decide +kernel
theorem dX1_go_76 : decode cX1_go 76 = .ok (.iload_n 2, 1) := by decide +kernel
theorem dX1_go_77 : decode cX1_go 77 = .ok (.ireturn, 1) := by decide +kernel
set_option maxRecDepth 20000 in
theorem ggX1_spill_X1_poured : GoodIn wsX1_spill wsX1_poured := goodIn_r _ [8, 9, 10, 11, 12, 13, 14, 15, 16, 17, 7, 18, 19, 20, 21, 22, 23, 24, 25, 26, 27, 28, 29, 30, 31, 32, 33, 34, 35, 36, 37, 38, 39, 40, 41, 42] (by decide +kernel) (by decide +kernel)
set_option maxRecDepth 20000 in
theorem gX1_spill_X1_poured : GoodIn wsX1_spill (wsV RX1 90 RX1 yX1_poured wsX1_poured) := goodIn_app (goodIn_of _ (by decide +kernel)) ggX1_spill_X1_poured
theorem dX1_spill_0 : decode cX1_spill 0 = .ok (.aload_n 0, 1) := by decide +kernel
theorem dX1_spill_1 : decode cX1_spill 1 = .ok (.getfield 87, 3) := by decide +kernel
theorem dX1_spill_4 : decode cX1_spill 4 = .ok (.istore_n 2, 1) := by decide +kernel
theorem dX1_spill_5 : decode cX1_spill 5 = .ok (.aload_n 0, 1) := by decide +kernel
theorem dX1_spill_6 : decode cX1_spill 6 = .ok (.getfield 64, 3) := by decide +kernel
theorem dX1_spill_9 : decode cX1_spill 9 = .ok (.istore_n 3, 1) := by decide +kernel
theorem dX1_spill_10 : decode cX1_spill 10 = .ok (.iload_n 3, 1) := by decide +kernel
theorem dX1_spill_11 : decode cX1_spill 11 = .ok (.sipush 360, 3) := by decide +kernel
theorem dX1_spill_14 : decode cX1_spill 14 = .ok (.if_icmp .ge 27, 3) := by decide +kernel
theorem dX1_spill_17 : decode cX1_spill 17 = .ok (.aload_n 0, 1) := by decide +kernel
theorem dX1_spill_18 : decode cX1_spill 18 = .ok (.iload_n 3, 1) := by decide +kernel
theorem dX1_spill_19 : decode cX1_spill 19 = .ok (.iload_n 2, 1) := by decide +kernel
theorem dX1_spill_20 : decode cX1_spill 20 = .ok (.iload_n 1, 1) := by decide +kernel
theorem dX1_spill_21 : decode cX1_spill 21 = .ok (.invokevirtual 90, 3) := by decide +kernel
theorem dX1_spill_24 : decode cX1_spill 24 = .ok (.istore_n 2, 1) := by decide +kernel
theorem dX1_spill_25 : decode cX1_spill 25 = .ok (.iload_n 2, 1) := by decide +kernel
theorem dX1_spill_26 : decode cX1_spill 26 = .ok (.aload_n 0, 1) := by decide +kernel
theorem dX1_spill_27 : decode cX1_spill 27 = .ok (.getfield 28, 3) := by decide +kernel
theorem dX1_spill_30 : decode cX1_spill 30 = .ok (.if_icmp .le 5, 3) := by decide +kernel
theorem dX1_spill_33 : decode cX1_spill 33 = .ok (.iload_n 3, 1) := by decide +kernel
theorem dX1_spill_34 : decode cX1_spill 34 = .ok (.ireturn, 1) := by decide +kernel
theorem dX1_spill_35 : decode cX1_spill 35 = .ok (.iinc 3 1, 3) := by decide +kernel
theorem dX1_spill_38 : decode cX1_spill 38 = .ok (.goto (-28), 3) := by decide +kernel
theorem dX1_spill_41 : decode cX1_spill 41 = .ok (.iconst (-1), 1) := by decide +kernel
theorem dX1_spill_42 : decode cX1_spill 42 = .ok (.ireturn, 1) := by decide +kernel
set_option maxRecDepth 20000 in
theorem ggX1_atEnd_X1_poured : GoodIn wsX1_atEnd wsX1_poured := goodIn_r _ [14, 15, 16, 6, 7, 8, 9, 17, 18, 19, 13, 20, 21, 22, 23, 24, 25, 26, 27, 28, 29, 30, 31, 32, 33, 34, 35, 36, 37, 38, 39, 40, 41, 42, 43, 44] (by decide +kernel) (by decide +kernel)
set_option maxRecDepth 20000 in
theorem gX1_atEnd_X1_poured : GoodIn wsX1_atEnd (wsV RX1 90 RX1 yX1_poured wsX1_poured) := goodIn_app (goodIn_of _ (by decide +kernel)) ggX1_atEnd_X1_poured
theorem dX1_atEnd_0 : decode cX1_atEnd 0 = .ok (.aload_n 0, 1) := by decide +kernel
theorem dX1_atEnd_1 : decode cX1_atEnd 1 = .ok (.getfield 87, 3) := by decide +kernel
theorem dX1_atEnd_4 : decode cX1_atEnd 4 = .ok (.istore_n 1, 1) := by decide +kernel
theorem dX1_atEnd_5 : decode cX1_atEnd 5 = .ok (.aload_n 0, 1) := by decide +kernel
theorem dX1_atEnd_6 : decode cX1_atEnd 6 = .ok (.getfield 94, 3) := by decide +kernel
theorem dX1_atEnd_9 : decode cX1_atEnd 9 = .ok (.istore_n 2, 1) := by decide +kernel
theorem dX1_atEnd_10 : decode cX1_atEnd 10 = .ok (.aload_n 0, 1) := by decide +kernel
theorem dX1_atEnd_11 : decode cX1_atEnd 11 = .ok (.getfield 64, 3) := by decide +kernel
theorem dX1_atEnd_14 : decode cX1_atEnd 14 = .ok (.istore_n 3, 1) := by decide +kernel
theorem dX1_atEnd_15 : decode cX1_atEnd 15 = .ok (.iload_n 3, 1) := by decide +kernel
theorem dX1_atEnd_16 : decode cX1_atEnd 16 = .ok (.sipush 360, 3) := by decide +kernel
theorem dX1_atEnd_19 : decode cX1_atEnd 19 = .ok (.if_icmp .ge 38, 3) := by decide +kernel
theorem dX1_atEnd_22 : decode cX1_atEnd 22 = .ok (.aload_n 0, 1) := by decide +kernel
theorem dX1_atEnd_23 : decode cX1_atEnd 23 = .ok (.iload_n 3, 1) := by decide +kernel
theorem dX1_atEnd_24 : decode cX1_atEnd 24 = .ok (.iload_n 1, 1) := by decide +kernel
theorem dX1_atEnd_25 : decode cX1_atEnd 25 = .ok (.aload_n 0, 1) := by decide +kernel
theorem dX1_atEnd_26 : decode cX1_atEnd 26 = .ok (.getfield 32, 3) := by decide +kernel
theorem dX1_atEnd_29 : decode cX1_atEnd 29 = .ok (.invokevirtual 90, 3) := by decide +kernel
theorem dX1_atEnd_32 : decode cX1_atEnd 32 = .ok (.istore 4, 2) := by decide +kernel
theorem dX1_atEnd_34 : decode cX1_atEnd 34 = .ok (.aload_n 0, 1) := by decide +kernel
theorem dX1_atEnd_35 : decode cX1_atEnd 35 = .ok (.getfield 28, 3) := by decide +kernel
theorem dX1_atEnd_38 : decode cX1_atEnd 38 = .ok (.iload 4, 2) := by decide +kernel
theorem dX1_atEnd_40 : decode cX1_atEnd 40 = .ok (.invokestatic 84, 3) := by decide +kernel
theorem dX1_atEnd_43 : decode cX1_atEnd 43 = .ok (.istore_n 1, 1) := by decide +kernel
theorem dX1_atEnd_44 : decode cX1_atEnd 44 = .ok (.iload_n 2, 1) := by decide +kernel
theorem dX1_atEnd_45 : decode cX1_atEnd 45 = .ok (.iload 4, 2) := by decide +kernel
theorem dX1_atEnd_47 : decode cX1_atEnd 47 = .ok (.iload_n 1, 1) := by decide +kernel
theorem dX1_atEnd_48 : decode cX1_atEnd 48 = .ok (.isub, 1) := by decide +kernel
theorem dX1_atEnd_49 : decode cX1_atEnd 49 = .ok (.iadd, 1) := by decide +kernel
theorem dX1_atEnd_50 : decode cX1_atEnd 50 = .ok (.istore_n 2, 1) := by decide +kernel
theorem dX1_atEnd_51 : decode cX1_atEnd 51 = .ok (.iinc 3 1, 3) := by decide +kernel
theorem dX1_atEnd_54 : decode cX1_atEnd 54 = .ok (.goto (-39), 3) := by decide +kernel
theorem dX1_atEnd_57 : decode cX1_atEnd 57 = .ok (.iload_n 2, 1) := by decide +kernel
theorem dX1_atEnd_58 : decode cX1_atEnd 58 = .ok (.ireturn, 1) := by decide +kernel
set_option maxRecDepth 20000 in
theorem ggX1_safest_X1_spill : GoodIn wsX1_safest wsX1_spill := goodIn_r _ [5, 6, 7, 8, 9, 10, 11, 4, 12, 13, 14, 15, 16, 17, 18, 19, 20, 21, 22, 23, 24, 25, 26, 27, 28, 29, 30, 31, 32, 33, 34, 35, 36, 37, 38, 39, 40, 41, 42, 43, 44, 45, 46] (by decide +kernel) (by decide +kernel)
set_option maxRecDepth 20000 in
theorem gX1_safest_X1_spill : GoodIn wsX1_safest (wsV RX1 97 RX1 yX1_spill wsX1_spill) := goodIn_app (goodIn_of _ (by decide +kernel)) ggX1_safest_X1_spill
theorem dX1_safest_0 : decode cX1_safest 0 = .ok (.bipush 9, 2) := by decide +kernel
theorem dX1_safest_2 : decode cX1_safest 2 = .ok (.istore_n 1, 1) := by decide +kernel
theorem dX1_safest_3 : decode cX1_safest 3 = .ok (.iload_n 1, 1) := by decide +kernel
theorem dX1_safest_4 : decode cX1_safest 4 = .ok (.ifCond .le 18, 3) := by decide +kernel
theorem dX1_safest_7 : decode cX1_safest 7 = .ok (.aload_n 0, 1) := by decide +kernel
theorem dX1_safest_8 : decode cX1_safest 8 = .ok (.iload_n 1, 1) := by decide +kernel
theorem dX1_safest_9 : decode cX1_safest 9 = .ok (.invokevirtual 97, 3) := by decide +kernel
theorem dX1_safest_12 : decode cX1_safest 12 = .ok (.iconst (-1), 1) := by decide +kernel
theorem dX1_safest_13 : decode cX1_safest 13 = .ok (.if_icmp .eq 9, 3) := by decide +kernel
theorem dX1_safest_16 : decode cX1_safest 16 = .ok (.iinc 1 (-1), 3) := by decide +kernel
theorem dX1_safest_19 : decode cX1_safest 19 = .ok (.goto (-16), 3) := by decide +kernel
theorem dX1_safest_22 : decode cX1_safest 22 = .ok (.iload_n 1, 1) := by decide +kernel
theorem dX1_safest_23 : decode cX1_safest 23 = .ok (.ireturn, 1) := by decide +kernel
set_option maxRecDepth 20000 in
theorem ggX1_addStick_X1_isIn : GoodIn wsX1_addStick wsX1_isIn := goodIn_r _ [7] (by decide +kernel) (by decide +kernel)
set_option maxRecDepth 20000 in
theorem gX1_addStick_X1_isIn : GoodIn wsX1_addStick (va_wsS RX1 44 yX1_isIn wsX1_isIn) := goodIn_app (goodIn_of _ (by decide +kernel)) ggX1_addStick_X1_isIn
set_option maxRecDepth 20000 in
theorem ggX1_addStick_X1_no : GoodIn wsX1_addStick wsX1_no := goodIn_r _ [11, 1, 12, 13, 14, 15, 16, 17, 18, 19, 20, 21, 22, 23, 24, 25, 26, 27, 28] (by decide +kernel) (by decide +kernel)
set_option maxRecDepth 20000 in
theorem gX1_addStick_X1_no : GoodIn wsX1_addStick (wsV RX1 100 RX1 yX1_no wsX1_no) := goodIn_app (goodIn_of _ (by decide +kernel)) ggX1_addStick_X1_no
theorem dX1_addStick_0 : decode cX1_addStick 0 = .ok (.aload_n 0, 1) := by decide +kernel
theorem dX1_addStick_1 : decode cX1_addStick 1 = .ok (.iconst 0, 1) := by decide +kernel
theorem dX1_addStick_2 : decode cX1_addStick 2 = .ok (.putfield 38, 3) := by decide +kernel
theorem dX1_addStick_5 : decode cX1_addStick 5 = .ok (.iload_n 1, 1) := by decide +kernel
theorem dX1_addStick_6 : decode cX1_addStick 6 = .ok (.iconst 1, 1) := by decide +kernel
theorem dX1_addStick_7 : decode cX1_addStick 7 = .ok (.bipush 30, 2) := by decide +kernel
theorem dX1_addStick_9 : decode cX1_addStick 9 = .ok (.invokestatic 44, 3) := by decide +kernel
theorem dX1_addStick_12 : decode cX1_addStick 12 = .ok (.ifCond .ne 9, 3) := by decide +kernel
theorem dX1_addStick_15 : decode cX1_addStick 15 = .ok (.aload_n 0, 1) := by decide +kernel
theorem dX1_addStick_16 : decode cX1_addStick 16 = .ok (.iconst 1, 1) := by decide +kernel
theorem dX1_addStick_17 : decode cX1_addStick 17 = .ok (.invokevirtual 100, 3) := by decide +kernel
theorem dX1_addStick_20 : decode cX1_addStick 20 = .ok (.ireturn, 1) := by decide +kernel
theorem dX1_addStick_21 : decode cX1_addStick 21 = .ok (.aload_n 0, 1) := by decide +kernel
theorem dX1_addStick_22 : decode cX1_addStick 22 = .ok (.getfield 41, 3) := by decide +kernel
theorem dX1_addStick_25 : decode cX1_addStick 25 = .ok (.iconst 4, 1) := by decide +kernel
theorem dX1_addStick_26 : decode cX1_addStick 26 = .ok (.if_icmp .ne 9, 3) := by decide +kernel
theorem dX1_addStick_29 : decode cX1_addStick 29 = .ok (.aload_n 0, 1) := by decide +kernel
theorem dX1_addStick_30 : decode cX1_addStick 30 = .ok (.iconst 2, 1) := by decide +kernel
theorem dX1_addStick_31 : decode cX1_addStick 31 = .ok (.invokevirtual 100, 3) := by decide +kernel
theorem dX1_addStick_34 : decode cX1_addStick 34 = .ok (.ireturn, 1) := by decide +kernel
theorem dX1_addStick_35 : decode cX1_addStick 35 = .ok (.aload_n 0, 1) := by decide +kernel
theorem dX1_addStick_36 : decode cX1_addStick 36 = .ok (.getfield 9, 3) := by decide +kernel
theorem dX1_addStick_39 : decode cX1_addStick 39 = .ok (.aload_n 0, 1) := by decide +kernel
theorem dX1_addStick_40 : decode cX1_addStick 40 = .ok (.getfield 41, 3) := by decide +kernel
theorem dX1_addStick_43 : decode cX1_addStick 43 = .ok (.iload_n 1, 1) := by decide +kernel
theorem dX1_addStick_44 : decode cX1_addStick 44 = .ok (.iastore, 1) := by decide +kernel
theorem dX1_addStick_45 : decode cX1_addStick 45 = .ok (.aload_n 0, 1) := by decide +kernel
theorem dX1_addStick_46 : decode cX1_addStick 46 = .ok (.dup, 1) := by decide +kernel
theorem dX1_addStick_47 : decode cX1_addStick 47 = .ok (.getfield 41, 3) := by decide +kernel
theorem dX1_addStick_50 : decode cX1_addStick 50 = .ok (.iconst 1, 1) := by decide +kernel
theorem dX1_addStick_51 : decode cX1_addStick 51 = .ok (.iadd, 1) := by decide +kernel
theorem dX1_addStick_52 : decode cX1_addStick 52 = .ok (.putfield 41, 3) := by decide +kernel
theorem dX1_addStick_55 : decode cX1_addStick 55 = .ok (.aload_n 0, 1) := by decide +kernel
theorem dX1_addStick_56 : decode cX1_addStick 56 = .ok (.getfield 41, 3) := by decide +kernel
theorem dX1_addStick_59 : decode cX1_addStick 59 = .ok (.iconst 1, 1) := by decide +kernel
theorem dX1_addStick_60 : decode cX1_addStick 60 = .ok (.isub, 1) := by decide +kernel
theorem dX1_addStick_61 : decode cX1_addStick 61 = .ok (.ireturn, 1) := by decide +kernel
set_option maxRecDepth 20000 in
theorem ggX1_addNap_X1_no : GoodIn wsX1_addNap wsX1_no := goodIn_r _ [9, 1, 15, 16, 17, 18, 19, 20, 21, 22, 23, 24, 25, 26, 27, 28, 29, 30, 31] (by decide +kernel) (by decide +kernel)
set_option maxRecDepth 20000 in
theorem gX1_addNap_X1_no : GoodIn wsX1_addNap (wsV RX1 100 RX1 yX1_no wsX1_no) := goodIn_app (goodIn_of _ (by decide +kernel)) ggX1_addNap_X1_no
set_option maxRecDepth 20000 in
theorem ggX1_addNap_X1_lay : GoodIn wsX1_addNap wsX1_lay := goodIn_r _ [13, 3, 4, 14, 15, 16, 17, 18, 19, 20, 21, 22, 23, 24, 25, 26, 27, 28, 29, 30, 31] (by decide +kernel) (by decide +kernel)
set_option maxRecDepth 20000 in
theorem gX1_addNap_X1_lay : GoodIn wsX1_addNap (wsV RX1 103 RX1 yX1_lay wsX1_lay) := goodIn_app (goodIn_of _ (by decide +kernel)) ggX1_addNap_X1_lay
theorem dX1_addNap_0 : decode cX1_addNap 0 = .ok (.aload_n 0, 1) := by decide +kernel
theorem dX1_addNap_1 : decode cX1_addNap 1 = .ok (.iconst 0, 1) := by decide +kernel
theorem dX1_addNap_2 : decode cX1_addNap 2 = .ok (.putfield 38, 3) := by decide +kernel
theorem dX1_addNap_5 : decode cX1_addNap 5 = .ok (.iload_n 1, 1) := by decide +kernel
theorem dX1_addNap_6 : decode cX1_addNap 6 = .ok (.ifCond .lt 15, 3) := by decide +kernel
theorem dX1_addNap_9 : decode cX1_addNap 9 = .ok (.iload_n 2, 1) := by decide +kernel
theorem dX1_addNap_10 : decode cX1_addNap 10 = .ok (.sipush 360, 3) := by decide +kernel
theorem dX1_addNap_13 : decode cX1_addNap 13 = .ok (.if_icmp .gt 8, 3) := by decide +kernel
theorem dX1_addNap_16 : decode cX1_addNap 16 = .ok (.iload_n 2, 1) := by decide +kernel
theorem dX1_addNap_17 : decode cX1_addNap 17 = .ok (.iload_n 1, 1) := by decide +kernel
theorem dX1_addNap_18 : decode cX1_addNap 18 = .ok (.if_icmp .gt 9, 3) := by decide +kernel
theorem dX1_addNap_21 : decode cX1_addNap 21 = .ok (.aload_n 0, 1) := by decide +kernel
theorem dX1_addNap_22 : decode cX1_addNap 22 = .ok (.iconst 1, 1) := by decide +kernel
theorem dX1_addNap_23 : decode cX1_addNap 23 = .ok (.invokevirtual 100, 3) := by decide +kernel
theorem dX1_addNap_26 : decode cX1_addNap 26 = .ok (.ireturn, 1) := by decide +kernel
theorem dX1_addNap_27 : decode cX1_addNap 27 = .ok (.aload_n 0, 1) := by decide +kernel
theorem dX1_addNap_28 : decode cX1_addNap 28 = .ok (.getfield 48, 3) := by decide +kernel
theorem dX1_addNap_31 : decode cX1_addNap 31 = .ok (.bipush 8, 2) := by decide +kernel
theorem dX1_addNap_33 : decode cX1_addNap 33 = .ok (.if_icmp .ne 9, 3) := by decide +kernel
theorem dX1_addNap_36 : decode cX1_addNap 36 = .ok (.aload_n 0, 1) := by decide +kernel
theorem dX1_addNap_37 : decode cX1_addNap 37 = .ok (.iconst 2, 1) := by decide +kernel
theorem dX1_addNap_38 : decode cX1_addNap 38 = .ok (.invokevirtual 100, 3) := by decide +kernel
theorem dX1_addNap_41 : decode cX1_addNap 41 = .ok (.ireturn, 1) := by decide +kernel
theorem dX1_addNap_42 : decode cX1_addNap 42 = .ok (.aload_n 0, 1) := by decide +kernel
theorem dX1_addNap_43 : decode cX1_addNap 43 = .ok (.getfield 13, 3) := by decide +kernel
theorem dX1_addNap_46 : decode cX1_addNap 46 = .ok (.aload_n 0, 1) := by decide +kernel
theorem dX1_addNap_47 : decode cX1_addNap 47 = .ok (.getfield 48, 3) := by decide +kernel
theorem dX1_addNap_50 : decode cX1_addNap 50 = .ok (.iload_n 1, 1) := by decide +kernel
theorem dX1_addNap_51 : decode cX1_addNap 51 = .ok (.iastore, 1) := by decide +kernel
theorem dX1_addNap_52 : decode cX1_addNap 52 = .ok (.aload_n 0, 1) := by decide +kernel
theorem dX1_addNap_53 : decode cX1_addNap 53 = .ok (.getfield 16, 3) := by decide +kernel
theorem dX1_addNap_56 : decode cX1_addNap 56 = .ok (.aload_n 0, 1) := by decide +kernel
theorem dX1_addNap_57 : decode cX1_addNap 57 = .ok (.getfield 48, 3) := by decide +kernel
theorem dX1_addNap_60 : decode cX1_addNap 60 = .ok (.iload_n 2, 1) := by decide +kernel
theorem dX1_addNap_61 : decode cX1_addNap 61 = .ok (.iastore, 1) := by decide +kernel
theorem dX1_addNap_62 : decode cX1_addNap 62 = .ok (.aload_n 0, 1) := by decide +kernel
theorem dX1_addNap_63 : decode cX1_addNap 63 = .ok (.aload_n 0, 1) := by decide +kernel
theorem dX1_addNap_64 : decode cX1_addNap 64 = .ok (.getfield 48, 3) := by decide +kernel
theorem dX1_addNap_67 : decode cX1_addNap 67 = .ok (.iconst 1, 1) := by decide +kernel
theorem dX1_addNap_68 : decode cX1_addNap 68 = .ok (.invokevirtual 103, 3) := by decide +kernel
theorem dX1_addNap_71 : decode cX1_addNap 71 = .ok (.aload_n 0, 1) := by decide +kernel
theorem dX1_addNap_72 : decode cX1_addNap 72 = .ok (.dup, 1) := by decide +kernel
theorem dX1_addNap_73 : decode cX1_addNap 73 = .ok (.getfield 48, 3) := by decide +kernel
theorem dX1_addNap_76 : decode cX1_addNap 76 = .ok (.iconst 1, 1) := by decide +kernel
theorem dX1_addNap_77 : decode cX1_addNap 77 = .ok (.iadd, 1) := by decide +kernel
theorem dX1_addNap_78 : decode cX1_addNap 78 = .ok (.putfield 48, 3) := by decide +kernel
theorem dX1_addNap_81 : decode cX1_addNap 81 = .ok (.aload_n 0, 1) := by decide +kernel
theorem dX1_addNap_82 : decode cX1_addNap 82 = .ok (.getfield 48, 3) := by decide +kernel
theorem dX1_addNap_85 : decode cX1_addNap 85 = .ok (.iconst 1, 1) := by decide +kernel
theorem dX1_addNap_86 : decode cX1_addNap 86 = .ok (.isub, 1) := by decide +kernel
theorem dX1_addNap_87 : decode cX1_addNap 87 = .ok (.ireturn, 1) := by decide +kernel
set_option maxRecDepth 20000 in
theorem ggX1_giveUp_X1_isNap : GoodIn wsX1_giveUp wsX1_isNap := goodIn_r _ [9, 2, 10, 11, 8, 12, 22, 23, 24, 25, 26, 27, 28, 29, 30, 31, 32, 33, 34, 35, 36, 37, 38] (by decide +kernel) (by decide +kernel)
set_option maxRecDepth 20000 in
theorem gX1_giveUp_X1_isNap : GoodIn wsX1_giveUp (wsV RX1 107 RX1 yX1_isNap wsX1_isNap) := goodIn_app (goodIn_of _ (by decide +kernel)) ggX1_giveUp_X1_isNap
set_option maxRecDepth 20000 in
theorem ggX1_giveUp_X1_no : GoodIn wsX1_giveUp wsX1_no := goodIn_r _ [16, 1, 22, 23, 24, 25, 26, 27, 28, 29, 30, 31, 32, 33, 34, 35, 36, 37, 38] (by decide +kernel) (by decide +kernel)
set_option maxRecDepth 20000 in
theorem gX1_giveUp_X1_no : GoodIn wsX1_giveUp (wsV RX1 100 RX1 yX1_no wsX1_no) := goodIn_app (goodIn_of _ (by decide +kernel)) ggX1_giveUp_X1_no
set_option maxRecDepth 20000 in
theorem ggX1_giveUp_X1_lay : GoodIn wsX1_giveUp wsX1_lay := goodIn_r _ [20, 3, 4, 21, 22, 23, 24, 25, 26, 27, 28, 29, 30, 31, 32, 33, 34, 35, 36, 37, 38] (by decide +kernel) (by decide +kernel)
set_option maxRecDepth 20000 in
theorem gX1_giveUp_X1_lay : GoodIn wsX1_giveUp (wsV RX1 103 RX1 yX1_lay wsX1_lay) := goodIn_app (goodIn_of _ (by decide +kernel)) ggX1_giveUp_X1_lay
theorem dX1_giveUp_0 : decode cX1_giveUp 0 = .ok (.aload_n 0, 1) := by decide +kernel
theorem dX1_giveUp_1 : decode cX1_giveUp 1 = .ok (.iconst 0, 1) := by decide +kernel
theorem dX1_giveUp_2 : decode cX1_giveUp 2 = .ok (.putfield 38, 3) := by decide +kernel
theorem dX1_giveUp_5 : decode cX1_giveUp 5 = .ok (.aload_n 0, 1) := by decide +kernel
theorem dX1_giveUp_6 : decode cX1_giveUp 6 = .ok (.iload_n 1, 1) := by decide +kernel
theorem dX1_giveUp_7 : decode cX1_giveUp 7 = .ok (.invokevirtual 107, 3) := by decide +kernel
theorem dX1_giveUp_10 : decode cX1_giveUp 10 = .ok (.ifCond .ne 9, 3) := by decide +kernel
theorem dX1_giveUp_13 : decode cX1_giveUp 13 = .ok (.aload_n 0, 1) := by decide +kernel
theorem dX1_giveUp_14 : decode cX1_giveUp 14 = .ok (.iconst 1, 1) := by decide +kernel
theorem dX1_giveUp_15 : decode cX1_giveUp 15 = .ok (.invokevirtual 100, 3) := by decide +kernel
theorem dX1_giveUp_18 : decode cX1_giveUp 18 = .ok (.ireturn, 1) := by decide +kernel
theorem dX1_giveUp_19 : decode cX1_giveUp 19 = .ok (.aload_n 0, 1) := by decide +kernel
theorem dX1_giveUp_20 : decode cX1_giveUp 20 = .ok (.iload_n 1, 1) := by decide +kernel
theorem dX1_giveUp_21 : decode cX1_giveUp 21 = .ok (.iconst (-1), 1) := by decide +kernel
theorem dX1_giveUp_22 : decode cX1_giveUp 22 = .ok (.invokevirtual 103, 3) := by decide +kernel
theorem dX1_giveUp_25 : decode cX1_giveUp 25 = .ok (.aload_n 0, 1) := by decide +kernel
theorem dX1_giveUp_26 : decode cX1_giveUp 26 = .ok (.dup, 1) := by decide +kernel
theorem dX1_giveUp_27 : decode cX1_giveUp 27 = .ok (.getfield 48, 3) := by decide +kernel
theorem dX1_giveUp_30 : decode cX1_giveUp 30 = .ok (.iconst 1, 1) := by decide +kernel
theorem dX1_giveUp_31 : decode cX1_giveUp 31 = .ok (.isub, 1) := by decide +kernel
theorem dX1_giveUp_32 : decode cX1_giveUp 32 = .ok (.putfield 48, 3) := by decide +kernel
theorem dX1_giveUp_35 : decode cX1_giveUp 35 = .ok (.iload_n 1, 1) := by decide +kernel
theorem dX1_giveUp_36 : decode cX1_giveUp 36 = .ok (.istore_n 2, 1) := by decide +kernel
theorem dX1_giveUp_37 : decode cX1_giveUp 37 = .ok (.iload_n 2, 1) := by decide +kernel
theorem dX1_giveUp_38 : decode cX1_giveUp 38 = .ok (.aload_n 0, 1) := by decide +kernel
theorem dX1_giveUp_39 : decode cX1_giveUp 39 = .ok (.getfield 48, 3) := by decide +kernel
theorem dX1_giveUp_42 : decode cX1_giveUp 42 = .ok (.if_icmp .ge 37, 3) := by decide +kernel
theorem dX1_giveUp_45 : decode cX1_giveUp 45 = .ok (.aload_n 0, 1) := by decide +kernel
theorem dX1_giveUp_46 : decode cX1_giveUp 46 = .ok (.getfield 13, 3) := by decide +kernel
theorem dX1_giveUp_49 : decode cX1_giveUp 49 = .ok (.iload_n 2, 1) := by decide +kernel
theorem dX1_giveUp_50 : decode cX1_giveUp 50 = .ok (.aload_n 0, 1) := by decide +kernel
theorem dX1_giveUp_51 : decode cX1_giveUp 51 = .ok (.getfield 13, 3) := by decide +kernel
theorem dX1_giveUp_54 : decode cX1_giveUp 54 = .ok (.iload_n 2, 1) := by decide +kernel
theorem dX1_giveUp_55 : decode cX1_giveUp 55 = .ok (.iconst 1, 1) := by decide +kernel
theorem dX1_giveUp_56 : decode cX1_giveUp 56 = .ok (.iadd, 1) := by decide +kernel
theorem dX1_giveUp_57 : decode cX1_giveUp 57 = .ok (.iaload, 1) := by decide +kernel
theorem dX1_giveUp_58 : decode cX1_giveUp 58 = .ok (.iastore, 1) := by decide +kernel
theorem dX1_giveUp_59 : decode cX1_giveUp 59 = .ok (.aload_n 0, 1) := by decide +kernel
theorem dX1_giveUp_60 : decode cX1_giveUp 60 = .ok (.getfield 16, 3) := by decide +kernel
theorem dX1_giveUp_63 : decode cX1_giveUp 63 = .ok (.iload_n 2, 1) := by decide +kernel
theorem dX1_giveUp_64 : decode cX1_giveUp 64 = .ok (.aload_n 0, 1) := by decide +kernel
theorem dX1_giveUp_65 : decode cX1_giveUp 65 = .ok (.getfield 16, 3) := by decide +kernel
theorem dX1_giveUp_68 : decode cX1_giveUp 68 = .ok (.iload_n 2, 1) := by decide +kernel
theorem dX1_giveUp_69 : decode cX1_giveUp 69 = .ok (.iconst 1, 1) := by decide +kernel
theorem dX1_giveUp_70 : decode cX1_giveUp 70 = .ok (.iadd, 1) := by decide +kernel
theorem dX1_giveUp_71 : decode cX1_giveUp 71 = .ok (.iaload, 1) := by decide +kernel
theorem dX1_giveUp_72 : decode cX1_giveUp 72 = .ok (.iastore, 1) := by decide +kernel
theorem dX1_giveUp_73 : decode cX1_giveUp 73 = .ok (.iinc 2 1, 3) := by decide +kernel
theorem dX1_giveUp_76 : decode cX1_giveUp 76 = .ok (.goto (-39), 3) := by decide +kernel
theorem dX1_giveUp_79 : decode cX1_giveUp 79 = .ok (.aload_n 0, 1) := by decide +kernel
theorem dX1_giveUp_80 : decode cX1_giveUp 80 = .ok (.getfield 48, 3) := by decide +kernel
theorem dX1_giveUp_83 : decode cX1_giveUp 83 = .ok (.ireturn, 1) := by decide +kernel
set_option maxRecDepth 20000 in
theorem ggX1_addBee_X1_isIn : GoodIn wsX1_addBee wsX1_isIn := goodIn_r _ [8] (by decide +kernel) (by decide +kernel)
set_option maxRecDepth 20000 in
theorem gX1_addBee_X1_isIn : GoodIn wsX1_addBee (va_wsS RX1 44 yX1_isIn wsX1_isIn) := goodIn_app (goodIn_of _ (by decide +kernel)) ggX1_addBee_X1_isIn
set_option maxRecDepth 20000 in
theorem ggX1_addBee_X1_no : GoodIn wsX1_addBee wsX1_no := goodIn_r _ [12, 1, 13, 14, 15, 16, 17, 18, 19, 20, 21, 22, 23, 24, 25, 26, 27, 28, 29] (by decide +kernel) (by decide +kernel)
set_option maxRecDepth 20000 in
theorem gX1_addBee_X1_no : GoodIn wsX1_addBee (wsV RX1 100 RX1 yX1_no wsX1_no) := goodIn_app (goodIn_of _ (by decide +kernel)) ggX1_addBee_X1_no
theorem dX1_addBee_0 : decode cX1_addBee 0 = .ok (.aload_n 0, 1) := by decide +kernel
theorem dX1_addBee_1 : decode cX1_addBee 1 = .ok (.iconst 0, 1) := by decide +kernel
theorem dX1_addBee_2 : decode cX1_addBee 2 = .ok (.putfield 38, 3) := by decide +kernel
theorem dX1_addBee_5 : decode cX1_addBee 5 = .ok (.iload_n 1, 1) := by decide +kernel
theorem dX1_addBee_6 : decode cX1_addBee 6 = .ok (.iconst 2, 1) := by decide +kernel
theorem dX1_addBee_7 : decode cX1_addBee 7 = .ok (.bipush 30, 2) := by decide +kernel
theorem dX1_addBee_9 : decode cX1_addBee 9 = .ok (.invokestatic 44, 3) := by decide +kernel
theorem dX1_addBee_12 : decode cX1_addBee 12 = .ok (.ifCond .eq 14, 3) := by decide +kernel
theorem dX1_addBee_15 : decode cX1_addBee 15 = .ok (.iload_n 2, 1) := by decide +kernel
theorem dX1_addBee_16 : decode cX1_addBee 16 = .ok (.iconst 0, 1) := by decide +kernel
theorem dX1_addBee_17 : decode cX1_addBee 17 = .ok (.iload_n 1, 1) := by decide +kernel
theorem dX1_addBee_18 : decode cX1_addBee 18 = .ok (.iconst 1, 1) := by decide +kernel
theorem dX1_addBee_19 : decode cX1_addBee 19 = .ok (.isub, 1) := by decide +kernel
theorem dX1_addBee_20 : decode cX1_addBee 20 = .ok (.invokestatic 44, 3) := by decide +kernel
theorem dX1_addBee_23 : decode cX1_addBee 23 = .ok (.ifCond .ne 9, 3) := by decide +kernel
theorem dX1_addBee_26 : decode cX1_addBee 26 = .ok (.aload_n 0, 1) := by decide +kernel
theorem dX1_addBee_27 : decode cX1_addBee 27 = .ok (.iconst 1, 1) := by decide +kernel
theorem dX1_addBee_28 : decode cX1_addBee 28 = .ok (.invokevirtual 100, 3) := by decide +kernel
theorem dX1_addBee_31 : decode cX1_addBee 31 = .ok (.ireturn, 1) := by decide +kernel
theorem dX1_addBee_32 : decode cX1_addBee 32 = .ok (.aload_n 0, 1) := by decide +kernel
theorem dX1_addBee_33 : decode cX1_addBee 33 = .ok (.getfield 51, 3) := by decide +kernel
theorem dX1_addBee_36 : decode cX1_addBee 36 = .ok (.bipush 6, 2) := by decide +kernel
theorem dX1_addBee_38 : decode cX1_addBee 38 = .ok (.if_icmp .ne 9, 3) := by decide +kernel
theorem dX1_addBee_41 : decode cX1_addBee 41 = .ok (.aload_n 0, 1) := by decide +kernel
theorem dX1_addBee_42 : decode cX1_addBee 42 = .ok (.iconst 2, 1) := by decide +kernel
theorem dX1_addBee_43 : decode cX1_addBee 43 = .ok (.invokevirtual 100, 3) := by decide +kernel
theorem dX1_addBee_46 : decode cX1_addBee 46 = .ok (.ireturn, 1) := by decide +kernel
theorem dX1_addBee_47 : decode cX1_addBee 47 = .ok (.aload_n 0, 1) := by decide +kernel
theorem dX1_addBee_48 : decode cX1_addBee 48 = .ok (.getfield 22, 3) := by decide +kernel
theorem dX1_addBee_51 : decode cX1_addBee 51 = .ok (.aload_n 0, 1) := by decide +kernel
theorem dX1_addBee_52 : decode cX1_addBee 52 = .ok (.getfield 51, 3) := by decide +kernel
theorem dX1_addBee_55 : decode cX1_addBee 55 = .ok (.iload_n 1, 1) := by decide +kernel
theorem dX1_addBee_56 : decode cX1_addBee 56 = .ok (.iastore, 1) := by decide +kernel
theorem dX1_addBee_57 : decode cX1_addBee 57 = .ok (.aload_n 0, 1) := by decide +kernel
theorem dX1_addBee_58 : decode cX1_addBee 58 = .ok (.getfield 25, 3) := by decide +kernel
theorem dX1_addBee_61 : decode cX1_addBee 61 = .ok (.aload_n 0, 1) := by decide +kernel
theorem dX1_addBee_62 : decode cX1_addBee 62 = .ok (.getfield 51, 3) := by decide +kernel
theorem dX1_addBee_65 : decode cX1_addBee 65 = .ok (.iload_n 2, 1) := by decide +kernel
theorem dX1_addBee_66 : decode cX1_addBee 66 = .ok (.iastore, 1) := by decide +kernel
theorem dX1_addBee_67 : decode cX1_addBee 67 = .ok (.aload_n 0, 1) := by decide +kernel
theorem dX1_addBee_68 : decode cX1_addBee 68 = .ok (.dup, 1) := by decide +kernel
theorem dX1_addBee_69 : decode cX1_addBee 69 = .ok (.getfield 51, 3) := by decide +kernel
theorem dX1_addBee_72 : decode cX1_addBee 72 = .ok (.iconst 1, 1) := by decide +kernel
theorem dX1_addBee_73 : decode cX1_addBee 73 = .ok (.iadd, 1) := by decide +kernel
theorem dX1_addBee_74 : decode cX1_addBee 74 = .ok (.putfield 51, 3) := by decide +kernel
theorem dX1_addBee_77 : decode cX1_addBee 77 = .ok (.aload_n 0, 1) := by decide +kernel
theorem dX1_addBee_78 : decode cX1_addBee 78 = .ok (.getfield 51, 3) := by decide +kernel
theorem dX1_addBee_81 : decode cX1_addBee 81 = .ok (.iconst 1, 1) := by decide +kernel
theorem dX1_addBee_82 : decode cX1_addBee 82 = .ok (.isub, 1) := by decide +kernel
theorem dX1_addBee_83 : decode cX1_addBee 83 = .ok (.ireturn, 1) := by decide +kernel
set_option maxRecDepth 20000 in
theorem ggX1_setTea_X1_isIn : GoodIn wsX1_setTea wsX1_isIn := goodIn_r _ [14] (by decide +kernel) (by decide +kernel)
set_option maxRecDepth 20000 in
theorem gX1_setTea_X1_isIn : GoodIn wsX1_setTea (va_wsS RX1 44 yX1_isIn wsX1_isIn) := goodIn_app (goodIn_of _ (by decide +kernel)) ggX1_setTea_X1_isIn
set_option maxRecDepth 20000 in
theorem ggX1_setTea_X1_no : GoodIn wsX1_setTea wsX1_no := goodIn_r _ [18, 1, 19, 20, 21, 22, 23, 24, 25, 26, 27, 28, 29, 30, 31, 32, 33, 34, 35] (by decide +kernel) (by decide +kernel)
set_option maxRecDepth 20000 in
theorem gX1_setTea_X1_no : GoodIn wsX1_setTea (wsV RX1 100 RX1 yX1_no wsX1_no) := goodIn_app (goodIn_of _ (by decide +kernel)) ggX1_setTea_X1_no
theorem dX1_setTea_0 : decode cX1_setTea 0 = .ok (.aload_n 0, 1) := by decide +kernel
theorem dX1_setTea_1 : decode cX1_setTea 1 = .ok (.iconst 0, 1) := by decide +kernel
theorem dX1_setTea_2 : decode cX1_setTea 2 = .ok (.putfield 38, 3) := by decide +kernel
theorem dX1_setTea_5 : decode cX1_setTea 5 = .ok (.iload_n 1, 1) := by decide +kernel
theorem dX1_setTea_6 : decode cX1_setTea 6 = .ok (.iconst 1, 1) := by decide +kernel
theorem dX1_setTea_7 : decode cX1_setTea 7 = .ok (.bipush 50, 2) := by decide +kernel
theorem dX1_setTea_9 : decode cX1_setTea 9 = .ok (.invokestatic 44, 3) := by decide +kernel
theorem dX1_setTea_12 : decode cX1_setTea 12 = .ok (.ifCond .eq 23, 3) := by decide +kernel
theorem dX1_setTea_15 : decode cX1_setTea 15 = .ok (.iload_n 2, 1) := by decide +kernel
theorem dX1_setTea_16 : decode cX1_setTea 16 = .ok (.iconst 0, 1) := by decide +kernel
theorem dX1_setTea_17 : decode cX1_setTea 17 = .ok (.bipush 9, 2) := by decide +kernel
theorem dX1_setTea_19 : decode cX1_setTea 19 = .ok (.invokestatic 44, 3) := by decide +kernel
theorem dX1_setTea_22 : decode cX1_setTea 22 = .ok (.ifCond .eq 13, 3) := by decide +kernel
theorem dX1_setTea_25 : decode cX1_setTea 25 = .ok (.iload_n 3, 1) := by decide +kernel
theorem dX1_setTea_26 : decode cX1_setTea 26 = .ok (.iconst 0, 1) := by decide +kernel
theorem dX1_setTea_27 : decode cX1_setTea 27 = .ok (.bipush 9, 2) := by decide +kernel
theorem dX1_setTea_29 : decode cX1_setTea 29 = .ok (.invokestatic 44, 3) := by decide +kernel
theorem dX1_setTea_32 : decode cX1_setTea 32 = .ok (.ifCond .ne 9, 3) := by decide +kernel
theorem dX1_setTea_35 : decode cX1_setTea 35 = .ok (.aload_n 0, 1) := by decide +kernel
theorem dX1_setTea_36 : decode cX1_setTea 36 = .ok (.iconst 1, 1) := by decide +kernel
theorem dX1_setTea_37 : decode cX1_setTea 37 = .ok (.invokevirtual 100, 3) := by decide +kernel
theorem dX1_setTea_40 : decode cX1_setTea 40 = .ok (.ireturn, 1) := by decide +kernel
theorem dX1_setTea_41 : decode cX1_setTea 41 = .ok (.aload_n 0, 1) := by decide +kernel
theorem dX1_setTea_42 : decode cX1_setTea 42 = .ok (.iload_n 1, 1) := by decide +kernel
theorem dX1_setTea_43 : decode cX1_setTea 43 = .ok (.putfield 28, 3) := by decide +kernel
theorem dX1_setTea_46 : decode cX1_setTea 46 = .ok (.aload_n 0, 1) := by decide +kernel
theorem dX1_setTea_47 : decode cX1_setTea 47 = .ok (.iload_n 2, 1) := by decide +kernel
theorem dX1_setTea_48 : decode cX1_setTea 48 = .ok (.putfield 32, 3) := by decide +kernel
theorem dX1_setTea_51 : decode cX1_setTea 51 = .ok (.aload_n 0, 1) := by decide +kernel
theorem dX1_setTea_52 : decode cX1_setTea 52 = .ok (.iload_n 3, 1) := by decide +kernel
theorem dX1_setTea_53 : decode cX1_setTea 53 = .ok (.putfield 35, 3) := by decide +kernel
theorem dX1_setTea_56 : decode cX1_setTea 56 = .ok (.iconst 0, 1) := by decide +kernel
theorem dX1_setTea_57 : decode cX1_setTea 57 = .ok (.aload_n 0, 1) := by decide +kernel
theorem dX1_setTea_58 : decode cX1_setTea 58 = .ok (.getfield 87, 3) := by decide +kernel
theorem dX1_setTea_61 : decode cX1_setTea 61 = .ok (.aload_n 0, 1) := by decide +kernel
theorem dX1_setTea_62 : decode cX1_setTea 62 = .ok (.getfield 28, 3) := by decide +kernel
theorem dX1_setTea_65 : decode cX1_setTea 65 = .ok (.isub, 1) := by decide +kernel
theorem dX1_setTea_66 : decode cX1_setTea 66 = .ok (.invokestatic 58, 3) := by decide +kernel
theorem dX1_setTea_69 : decode cX1_setTea 69 = .ok (.istore 4, 2) := by decide +kernel
theorem dX1_setTea_71 : decode cX1_setTea 71 = .ok (.aload_n 0, 1) := by decide +kernel
theorem dX1_setTea_72 : decode cX1_setTea 72 = .ok (.dup, 1) := by decide +kernel
theorem dX1_setTea_73 : decode cX1_setTea 73 = .ok (.getfield 87, 3) := by decide +kernel
theorem dX1_setTea_76 : decode cX1_setTea 76 = .ok (.iload 4, 2) := by decide +kernel
theorem dX1_setTea_78 : decode cX1_setTea 78 = .ok (.isub, 1) := by decide +kernel
theorem dX1_setTea_79 : decode cX1_setTea 79 = .ok (.putfield 87, 3) := by decide +kernel
theorem dX1_setTea_82 : decode cX1_setTea 82 = .ok (.aload_n 0, 1) := by decide +kernel
theorem dX1_setTea_83 : decode cX1_setTea 83 = .ok (.dup, 1) := by decide +kernel
theorem dX1_setTea_84 : decode cX1_setTea 84 = .ok (.getfield 94, 3) := by decide +kernel
theorem dX1_setTea_87 : decode cX1_setTea 87 = .ok (.iload 4, 2) := by decide +kernel
theorem dX1_setTea_89 : decode cX1_setTea 89 = .ok (.iadd, 1) := by decide +kernel
theorem dX1_setTea_90 : decode cX1_setTea 90 = .ok (.putfield 94, 3) := by decide +kernel
theorem dX1_setTea_93 : decode cX1_setTea 93 = .ok (.iload 4, 2) := by decide +kernel
theorem dX1_setTea_95 : decode cX1_setTea 95 = .ok (.ireturn, 1) := by decide +kernel
set_option maxRecDepth 20000 in
theorem ggX1_pass_X1_isIn : GoodIn wsX1_pass wsX1_isIn := goodIn_r _ [6] (by decide +kernel) (by decide +kernel)
set_option maxRecDepth 20000 in
theorem gX1_pass_X1_isIn : GoodIn wsX1_pass (va_wsS RX1 44 yX1_isIn wsX1_isIn) := goodIn_app (goodIn_of _ (by decide +kernel)) ggX1_pass_X1_isIn
set_option maxRecDepth 20000 in
theorem ggX1_pass_X1_no : GoodIn wsX1_pass wsX1_no := goodIn_r _ [10, 1, 40, 41, 42, 43, 44, 45, 46, 47, 48, 49, 50, 51, 52, 53, 54, 55, 56] (by decide +kernel) (by decide +kernel)
set_option maxRecDepth 20000 in
theorem gX1_pass_X1_no : GoodIn wsX1_pass (wsV RX1 100 RX1 yX1_no wsX1_no) := goodIn_app (goodIn_of _ (by decide +kernel)) ggX1_pass_X1_no
set_option maxRecDepth 20000 in
theorem ggX1_pass_X1_go : GoodIn wsX1_pass wsX1_go := goodIn_r _ [14, 2, 15, 16, 17, 18, 19, 20, 21, 22, 23, 24, 25, 5, 26, 27, 28, 29, 30, 31, 32, 33, 34, 35, 36, 37, 38, 39, 40, 41, 42, 43, 44, 45, 46, 47, 48, 49, 50, 51, 52, 53, 54, 55, 56] (by decide +kernel) (by decide +kernel)
set_option maxRecDepth 20000 in
theorem gX1_pass_X1_go : GoodIn wsX1_pass (wsV RX1 110 RX1 yX1_go wsX1_go) := goodIn_app (goodIn_of _ (by decide +kernel)) ggX1_pass_X1_go
theorem dX1_pass_0 : decode cX1_pass 0 = .ok (.aload_n 0, 1) := by decide +kernel
theorem dX1_pass_1 : decode cX1_pass 1 = .ok (.iconst 0, 1) := by decide +kernel
theorem dX1_pass_2 : decode cX1_pass 2 = .ok (.putfield 38, 3) := by decide +kernel
theorem dX1_pass_5 : decode cX1_pass 5 = .ok (.iload_n 1, 1) := by decide +kernel
theorem dX1_pass_6 : decode cX1_pass 6 = .ok (.iconst 1, 1) := by decide +kernel
theorem dX1_pass_7 : decode cX1_pass 7 = .ok (.sipush 360, 3) := by decide +kernel
theorem dX1_pass_10 : decode cX1_pass 10 = .ok (.invokestatic 44, 3) := by decide +kernel
theorem dX1_pass_13 : decode cX1_pass 13 = .ok (.ifCond .ne 9, 3) := by decide +kernel
theorem dX1_pass_16 : decode cX1_pass 16 = .ok (.aload_n 0, 1) := by decide +kernel
theorem dX1_pass_17 : decode cX1_pass 17 = .ok (.iconst 1, 1) := by decide +kernel
theorem dX1_pass_18 : decode cX1_pass 18 = .ok (.invokevirtual 100, 3) := by decide +kernel
theorem dX1_pass_21 : decode cX1_pass 21 = .ok (.ireturn, 1) := by decide +kernel
theorem dX1_pass_22 : decode cX1_pass 22 = .ok (.aload_n 0, 1) := by decide +kernel
theorem dX1_pass_23 : decode cX1_pass 23 = .ok (.getfield 64, 3) := by decide +kernel
theorem dX1_pass_26 : decode cX1_pass 26 = .ok (.iload_n 1, 1) := by decide +kernel
theorem dX1_pass_27 : decode cX1_pass 27 = .ok (.iadd, 1) := by decide +kernel
theorem dX1_pass_28 : decode cX1_pass 28 = .ok (.sipush 360, 3) := by decide +kernel
theorem dX1_pass_31 : decode cX1_pass 31 = .ok (.if_icmp .le 11, 3) := by decide +kernel
theorem dX1_pass_34 : decode cX1_pass 34 = .ok (.aload_n 0, 1) := by decide +kernel
theorem dX1_pass_35 : decode cX1_pass 35 = .ok (.iconst 2, 1) := by decide +kernel
theorem dX1_pass_36 : decode cX1_pass 36 = .ok (.invokevirtual 100, 3) := by decide +kernel
theorem dX1_pass_39 : decode cX1_pass 39 = .ok (.goto 8, 3) := by decide +kernel
theorem dX1_pass_42 : decode cX1_pass 42 = .ok (.aload_n 0, 1) := by decide +kernel
theorem dX1_pass_43 : decode cX1_pass 43 = .ok (.iload_n 1, 1) := by decide +kernel
theorem dX1_pass_44 : decode cX1_pass 44 = .ok (.invokevirtual 110, 3) := by decide +kernel
theorem dX1_pass_47 : decode cX1_pass 47 = .ok (.ireturn, 1) := by decide +kernel
theorem dX1_begin_0 : decode cX1_begin 0 = .ok (.aload_n 0, 1) := by decide +kernel
theorem dX1_begin_1 : decode cX1_begin 1 = .ok (.iconst 0, 1) := by decide +kernel
theorem dX1_begin_2 : decode cX1_begin 2 = .ok (.putfield 38, 3) := by decide +kernel
theorem dX1_begin_5 : decode cX1_begin 5 = .ok (.aload_n 0, 1) := by decide +kernel
theorem dX1_begin_6 : decode cX1_begin 6 = .ok (.dup, 1) := by decide +kernel
theorem dX1_begin_7 : decode cX1_begin 7 = .ok (.getfield 113, 3) := by decide +kernel
theorem dX1_begin_10 : decode cX1_begin 10 = .ok (.iconst 1, 1) := by decide +kernel
theorem dX1_begin_11 : decode cX1_begin 11 = .ok (.iadd, 1) := by decide +kernel
theorem dX1_begin_12 : decode cX1_begin 12 = .ok (.putfield 113, 3) := by decide +kernel
theorem dX1_begin_15 : decode cX1_begin 15 = .ok (.aload_n 0, 1) := by decide +kernel
theorem dX1_begin_16 : decode cX1_begin 16 = .ok (.iconst 0, 1) := by decide +kernel
theorem dX1_begin_17 : decode cX1_begin 17 = .ok (.putfield 64, 3) := by decide +kernel
theorem dX1_begin_20 : decode cX1_begin 20 = .ok (.aload_n 0, 1) := by decide +kernel
theorem dX1_begin_21 : decode cX1_begin 21 = .ok (.iconst 0, 1) := by decide +kernel
theorem dX1_begin_22 : decode cX1_begin 22 = .ok (.putfield 87, 3) := by decide +kernel
theorem dX1_begin_25 : decode cX1_begin 25 = .ok (.aload_n 0, 1) := by decide +kernel
theorem dX1_begin_26 : decode cX1_begin 26 = .ok (.iconst 0, 1) := by decide +kernel
theorem dX1_begin_27 : decode cX1_begin 27 = .ok (.putfield 94, 3) := by decide +kernel
theorem dX1_begin_30 : decode cX1_begin 30 = .ok (.aload_n 0, 1) := by decide +kernel
theorem dX1_begin_31 : decode cX1_begin 31 = .ok (.getfield 113, 3) := by decide +kernel
theorem dX1_begin_34 : decode cX1_begin 34 = .ok (.ireturn, 1) := by decide +kernel
set_option maxRecDepth 20000 in
theorem ggX1_afternoon_X1_ok : GoodIn wsX1_afternoon wsX1_ok := goodIn_r _ [6, 7, 8, 9, 10, 11, 12, 13, 14, 15, 16, 17, 18, 19, 20, 21, 22, 23, 24] (by decide +kernel) (by decide +kernel)
set_option maxRecDepth 20000 in
theorem gX1_afternoon_X1_ok : GoodIn wsX1_afternoon (wsV RX1 116 RX1 yX1_ok wsX1_ok) := goodIn_app (goodIn_of _ (by decide +kernel)) ggX1_afternoon_X1_ok
theorem dX1_afternoon_0 : decode cX1_afternoon 0 = .ok (.aload_n 0, 1) := by decide +kernel
theorem dX1_afternoon_1 : decode cX1_afternoon 1 = .ok (.aload_n 0, 1) := by decide +kernel
theorem dX1_afternoon_2 : decode cX1_afternoon 2 = .ok (.getfield 113, 3) := by decide +kernel
theorem dX1_afternoon_5 : decode cX1_afternoon 5 = .ok (.invokevirtual 116, 3) := by decide +kernel
theorem dX1_afternoon_8 : decode cX1_afternoon 8 = .ok (.ireturn, 1) := by decide +kernel
set_option maxRecDepth 20000 in
theorem ggX1_minute_X1_ok : GoodIn wsX1_minute wsX1_ok := goodIn_r _ [6, 7, 8, 9, 10, 11, 12, 13, 14, 15, 16, 17, 18, 19, 20, 21, 22, 23, 24] (by decide +kernel) (by decide +kernel)
set_option maxRecDepth 20000 in
theorem gX1_minute_X1_ok : GoodIn wsX1_minute (wsV RX1 116 RX1 yX1_ok wsX1_ok) := goodIn_app (goodIn_of _ (by decide +kernel)) ggX1_minute_X1_ok
theorem dX1_minute_0 : decode cX1_minute 0 = .ok (.aload_n 0, 1) := by decide +kernel
theorem dX1_minute_1 : decode cX1_minute 1 = .ok (.aload_n 0, 1) := by decide +kernel
theorem dX1_minute_2 : decode cX1_minute 2 = .ok (.getfield 64, 3) := by decide +kernel
theorem dX1_minute_5 : decode cX1_minute 5 = .ok (.invokevirtual 116, 3) := by decide +kernel
theorem dX1_minute_8 : decode cX1_minute 8 = .ok (.ireturn, 1) := by decide +kernel
set_option maxRecDepth 20000 in
theorem ggX1_isAsleep_X1_isMinute : GoodIn wsX1_isAsleep wsX1_isMinute := goodIn_r _ [5, 6, 7, 4, 8] (by decide +kernel) (by decide +kernel)
set_option maxRecDepth 20000 in
theorem gX1_isAsleep_X1_isMinute : GoodIn wsX1_isAsleep (va_wsS RX1 119 yX1_isMinute wsX1_isMinute) := goodIn_app (goodIn_of _ (by decide +kernel)) ggX1_isAsleep_X1_isMinute
set_option maxRecDepth 20000 in
theorem ggX1_isAsleep_X1_isAwake : GoodIn wsX1_isAsleep wsX1_isAwake := goodIn_r _ [12, 13, 14, 15, 16, 17, 18, 19, 20, 21, 22, 23, 24, 25, 26, 27, 28, 29, 30] (by decide +kernel) (by decide +kernel)
set_option maxRecDepth 20000 in
theorem gX1_isAsleep_X1_isAwake : GoodIn wsX1_isAsleep (wsV RX1 54 RX1 yX1_isAwake wsX1_isAwake) := goodIn_app (goodIn_of _ (by decide +kernel)) ggX1_isAsleep_X1_isAwake
theorem dX1_isAsleep_0 : decode cX1_isAsleep 0 = .ok (.aload_n 0, 1) := by decide +kernel
theorem dX1_isAsleep_1 : decode cX1_isAsleep 1 = .ok (.iload_n 1, 1) := by decide +kernel
theorem dX1_isAsleep_2 : decode cX1_isAsleep 2 = .ok (.invokestatic 119, 3) := by decide +kernel
theorem dX1_isAsleep_5 : decode cX1_isAsleep 5 = .ok (.ifCond .eq 7, 3) := by decide +kernel
theorem dX1_isAsleep_8 : decode cX1_isAsleep 8 = .ok (.iconst 0, 1) := by decide +kernel
theorem dX1_isAsleep_9 : decode cX1_isAsleep 9 = .ok (.goto 4, 3) := by decide +kernel
theorem dX1_isAsleep_12 : decode cX1_isAsleep 12 = .ok (.iconst 1, 1) := by decide +kernel
theorem dX1_isAsleep_13 : decode cX1_isAsleep 13 = .ok (.putfield 38, 3) := by decide +kernel
theorem dX1_isAsleep_16 : decode cX1_isAsleep 16 = .ok (.aload_n 0, 1) := by decide +kernel
theorem dX1_isAsleep_17 : decode cX1_isAsleep 17 = .ok (.getfield 38, 3) := by decide +kernel
theorem dX1_isAsleep_20 : decode cX1_isAsleep 20 = .ok (.ifCond .ne 15, 3) := by decide +kernel
theorem dX1_isAsleep_23 : decode cX1_isAsleep 23 = .ok (.aload_n 0, 1) := by decide +kernel
theorem dX1_isAsleep_24 : decode cX1_isAsleep 24 = .ok (.iload_n 1, 1) := by decide +kernel
theorem dX1_isAsleep_25 : decode cX1_isAsleep 25 = .ok (.invokevirtual 54, 3) := by decide +kernel
theorem dX1_isAsleep_28 : decode cX1_isAsleep 28 = .ok (.ifCond .ne 7, 3) := by decide +kernel
theorem dX1_isAsleep_31 : decode cX1_isAsleep 31 = .ok (.iconst 1, 1) := by decide +kernel
theorem dX1_isAsleep_32 : decode cX1_isAsleep 32 = .ok (.goto 4, 3) := by decide +kernel
theorem dX1_isAsleep_35 : decode cX1_isAsleep 35 = .ok (.iconst 0, 1) := by decide +kernel
theorem dX1_isAsleep_36 : decode cX1_isAsleep 36 = .ok (.ireturn, 1) := by decide +kernel
set_option maxRecDepth 20000 in
theorem ggX1_awakeMinutes_X1_awake : GoodIn wsX1_awakeMinutes wsX1_awake := goodIn_r _ [6, 7, 8, 9, 5, 10, 11, 17, 18, 19, 20, 21, 22, 23, 24, 25, 26, 27, 28, 29, 30, 31, 32, 33] (by decide +kernel) (by decide +kernel)
set_option maxRecDepth 20000 in
theorem gX1_awakeMinutes_X1_awake : GoodIn wsX1_awakeMinutes (wsV RX1 75 RX1 yX1_awake wsX1_awake) := goodIn_app (goodIn_of _ (by decide +kernel)) ggX1_awakeMinutes_X1_awake
set_option maxRecDepth 20000 in
theorem ggX1_awakeMinutes_X1_ok : GoodIn wsX1_awakeMinutes wsX1_ok := goodIn_r _ [15, 16, 17, 18, 19, 20, 21, 22, 23, 24, 25, 26, 27, 28, 29, 30, 31, 32, 33] (by decide +kernel) (by decide +kernel)
set_option maxRecDepth 20000 in
theorem gX1_awakeMinutes_X1_ok : GoodIn wsX1_awakeMinutes (wsV RX1 116 RX1 yX1_ok wsX1_ok) := goodIn_app (goodIn_of _ (by decide +kernel)) ggX1_awakeMinutes_X1_ok
theorem dX1_awakeMinutes_0 : decode cX1_awakeMinutes 0 = .ok (.aload_n 0, 1) := by decide +kernel
theorem dX1_awakeMinutes_1 : decode cX1_awakeMinutes 1 = .ok (.aload_n 0, 1) := by decide +kernel
theorem dX1_awakeMinutes_2 : decode cX1_awakeMinutes 2 = .ok (.aload_n 0, 1) := by decide +kernel
theorem dX1_awakeMinutes_3 : decode cX1_awakeMinutes 3 = .ok (.getfield 64, 3) := by decide +kernel
theorem dX1_awakeMinutes_6 : decode cX1_awakeMinutes 6 = .ok (.invokevirtual 75, 3) := by decide +kernel
theorem dX1_awakeMinutes_9 : decode cX1_awakeMinutes 9 = .ok (.invokevirtual 116, 3) := by decide +kernel
theorem dX1_awakeMinutes_12 : decode cX1_awakeMinutes 12 = .ok (.ireturn, 1) := by decide +kernel
set_option maxRecDepth 20000 in
theorem ggX1_sleptMinutes_X1_awake : GoodIn wsX1_sleptMinutes wsX1_awake := goodIn_r _ [6, 7, 8, 9, 5, 10, 11, 17, 18, 19, 20, 21, 22, 23, 24, 25, 26, 27, 28, 29, 30, 31, 32, 33] (by decide +kernel) (by decide +kernel)
set_option maxRecDepth 20000 in
theorem gX1_sleptMinutes_X1_awake : GoodIn wsX1_sleptMinutes (wsV RX1 75 RX1 yX1_awake wsX1_awake) := goodIn_app (goodIn_of _ (by decide +kernel)) ggX1_sleptMinutes_X1_awake
set_option maxRecDepth 20000 in
theorem ggX1_sleptMinutes_X1_ok : GoodIn wsX1_sleptMinutes wsX1_ok := goodIn_r _ [15, 16, 17, 18, 19, 20, 21, 22, 23, 24, 25, 26, 27, 28, 29, 30, 31, 32, 33] (by decide +kernel) (by decide +kernel)
set_option maxRecDepth 20000 in
theorem gX1_sleptMinutes_X1_ok : GoodIn wsX1_sleptMinutes (wsV RX1 116 RX1 yX1_ok wsX1_ok) := goodIn_app (goodIn_of _ (by decide +kernel)) ggX1_sleptMinutes_X1_ok
theorem dX1_sleptMinutes_0 : decode cX1_sleptMinutes 0 = .ok (.aload_n 0, 1) := by decide +kernel
theorem dX1_sleptMinutes_1 : decode cX1_sleptMinutes 1 = .ok (.aload_n 0, 1) := by decide +kernel
theorem dX1_sleptMinutes_2 : decode cX1_sleptMinutes 2 = .ok (.getfield 64, 3) := by decide +kernel
theorem dX1_sleptMinutes_5 : decode cX1_sleptMinutes 5 = .ok (.aload_n 0, 1) := by decide +kernel
theorem dX1_sleptMinutes_6 : decode cX1_sleptMinutes 6 = .ok (.aload_n 0, 1) := by decide +kernel
theorem dX1_sleptMinutes_7 : decode cX1_sleptMinutes 7 = .ok (.getfield 64, 3) := by decide +kernel
theorem dX1_sleptMinutes_10 : decode cX1_sleptMinutes 10 = .ok (.invokevirtual 75, 3) := by decide +kernel
theorem dX1_sleptMinutes_13 : decode cX1_sleptMinutes 13 = .ok (.isub, 1) := by decide +kernel
theorem dX1_sleptMinutes_14 : decode cX1_sleptMinutes 14 = .ok (.invokevirtual 116, 3) := by decide +kernel
theorem dX1_sleptMinutes_17 : decode cX1_sleptMinutes 17 = .ok (.ireturn, 1) := by decide +kernel
set_option maxRecDepth 20000 in
theorem ggX1_longestAwake_X1_longest : GoodIn wsX1_longestAwake wsX1_longest := goodIn_r _ [5, 6, 7, 8, 9, 10, 11, 12, 4, 13, 14, 20, 21, 22, 23, 24, 25, 26, 27, 28, 29, 30, 31, 32, 33, 34, 35, 36] (by decide +kernel) (by decide +kernel)
set_option maxRecDepth 20000 in
theorem gX1_longestAwake_X1_longest : GoodIn wsX1_longestAwake (wsV RX1 122 RX1 yX1_longest wsX1_longest) := goodIn_app (goodIn_of _ (by decide +kernel)) ggX1_longestAwake_X1_longest
set_option maxRecDepth 20000 in
theorem ggX1_longestAwake_X1_ok : GoodIn wsX1_longestAwake wsX1_ok := goodIn_r _ [18, 19, 20, 21, 22, 23, 24, 25, 26, 27, 28, 29, 30, 31, 32, 33, 34, 35, 36] (by decide +kernel) (by decide +kernel)
set_option maxRecDepth 20000 in
theorem gX1_longestAwake_X1_ok : GoodIn wsX1_longestAwake (wsV RX1 116 RX1 yX1_ok wsX1_ok) := goodIn_app (goodIn_of _ (by decide +kernel)) ggX1_longestAwake_X1_ok
theorem dX1_longestAwake_0 : decode cX1_longestAwake 0 = .ok (.aload_n 0, 1) := by decide +kernel
theorem dX1_longestAwake_1 : decode cX1_longestAwake 1 = .ok (.aload_n 0, 1) := by decide +kernel
theorem dX1_longestAwake_2 : decode cX1_longestAwake 2 = .ok (.invokevirtual 122, 3) := by decide +kernel
theorem dX1_longestAwake_5 : decode cX1_longestAwake 5 = .ok (.invokevirtual 116, 3) := by decide +kernel
theorem dX1_longestAwake_8 : decode cX1_longestAwake 8 = .ok (.ireturn, 1) := by decide +kernel
theorem dX1_shadow_0 : decode cX1_shadow 0 = .ok (.aload_n 0, 1) := by decide +kernel
theorem dX1_shadow_1 : decode cX1_shadow 1 = .ok (.getfield 9, 3) := by decide +kernel
theorem dX1_shadow_4 : decode cX1_shadow 4 = .ok (.iload_n 1, 1) := by decide +kernel
theorem dX1_shadow_5 : decode cX1_shadow 5 = .ok (.iaload, 1) := by decide +kernel
theorem dX1_shadow_6 : decode cX1_shadow 6 = .ok (.bipush 60, 2) := by decide +kernel
theorem dX1_shadow_8 : decode cX1_shadow 8 = .ok (.iload_n 2, 1) := by decide +kernel
theorem dX1_shadow_9 : decode cX1_shadow 9 = .ok (.iadd, 1) := by decide +kernel
theorem dX1_shadow_10 : decode cX1_shadow 10 = .ok (.imul, 1) := by decide +kernel
theorem dX1_shadow_11 : decode cX1_shadow 11 = .ok (.bipush 120, 2) := by decide +kernel
theorem dX1_shadow_13 : decode cX1_shadow 13 = .ok (.idiv, 1) := by decide +kernel
theorem dX1_shadow_14 : decode cX1_shadow 14 = .ok (.ireturn, 1) := by decide +kernel
set_option maxRecDepth 20000 in
theorem ggX1_sticks_X1_ok : GoodIn wsX1_sticks wsX1_ok := goodIn_r _ [6, 7, 8, 9, 10, 11, 12, 13, 14, 15, 16, 17, 18, 19, 20, 21, 22, 23, 24] (by decide +kernel) (by decide +kernel)
set_option maxRecDepth 20000 in
theorem gX1_sticks_X1_ok : GoodIn wsX1_sticks (wsV RX1 116 RX1 yX1_ok wsX1_ok) := goodIn_app (goodIn_of _ (by decide +kernel)) ggX1_sticks_X1_ok
theorem dX1_sticks_0 : decode cX1_sticks 0 = .ok (.aload_n 0, 1) := by decide +kernel
theorem dX1_sticks_1 : decode cX1_sticks 1 = .ok (.aload_n 0, 1) := by decide +kernel
theorem dX1_sticks_2 : decode cX1_sticks 2 = .ok (.getfield 41, 3) := by decide +kernel
theorem dX1_sticks_5 : decode cX1_sticks 5 = .ok (.invokevirtual 116, 3) := by decide +kernel
theorem dX1_sticks_8 : decode cX1_sticks 8 = .ok (.ireturn, 1) := by decide +kernel
set_option maxRecDepth 20000 in
theorem ggX1_shadowAt_X1_isStick : GoodIn wsX1_shadowAt wsX1_isStick := goodIn_r _ [6, 7, 8, 9, 5, 10, 23, 24, 25, 26, 27, 28, 29, 30, 31, 32, 33, 34, 35, 36, 37, 38, 39] (by decide +kernel) (by decide +kernel)
set_option maxRecDepth 20000 in
theorem gX1_shadowAt_X1_isStick : GoodIn wsX1_shadowAt (wsV RX1 126 RX1 yX1_isStick wsX1_isStick) := goodIn_app (goodIn_of _ (by decide +kernel)) ggX1_shadowAt_X1_isStick
set_option maxRecDepth 20000 in
theorem ggX1_shadowAt_X1_no : GoodIn wsX1_shadowAt wsX1_no := goodIn_r _ [14, 1, 23, 24, 25, 26, 27, 28, 29, 30, 31, 32, 33, 34, 35, 36, 37, 38, 39] (by decide +kernel) (by decide +kernel)
set_option maxRecDepth 20000 in
theorem gX1_shadowAt_X1_no : GoodIn wsX1_shadowAt (wsV RX1 100 RX1 yX1_no wsX1_no) := goodIn_app (goodIn_of _ (by decide +kernel)) ggX1_shadowAt_X1_no
set_option maxRecDepth 20000 in
theorem ggX1_shadowAt_X1_isMinute : GoodIn wsX1_shadowAt wsX1_isMinute := goodIn_r _ [17, 8, 9, 5, 10] (by decide +kernel) (by decide +kernel)
set_option maxRecDepth 20000 in
theorem gX1_shadowAt_X1_isMinute : GoodIn wsX1_shadowAt (va_wsS RX1 119 yX1_isMinute wsX1_isMinute) := goodIn_app (goodIn_of _ (by decide +kernel)) ggX1_shadowAt_X1_isMinute
set_option maxRecDepth 20000 in
theorem ggX1_shadowAt_X1_shadow : GoodIn wsX1_shadowAt wsX1_shadow := goodIn_r _ [21, 22, 23, 24, 25, 26, 27, 28, 29, 30, 31, 32, 33, 34, 35, 36, 37, 38, 39] (by decide +kernel) (by decide +kernel)
set_option maxRecDepth 20000 in
theorem gX1_shadowAt_X1_shadow : GoodIn wsX1_shadowAt (wsV RX1 129 RX1 yX1_shadow wsX1_shadow) := goodIn_app (goodIn_of _ (by decide +kernel)) ggX1_shadowAt_X1_shadow
theorem dX1_shadowAt_0 : decode cX1_shadowAt 0 = .ok (.aload_n 0, 1) := by decide +kernel
theorem dX1_shadowAt_1 : decode cX1_shadowAt 1 = .ok (.iconst 0, 1) := by decide +kernel
theorem dX1_shadowAt_2 : decode cX1_shadowAt 2 = .ok (.putfield 38, 3) := by decide +kernel
theorem dX1_shadowAt_5 : decode cX1_shadowAt 5 = .ok (.aload_n 0, 1) := by decide +kernel
theorem dX1_shadowAt_6 : decode cX1_shadowAt 6 = .ok (.iload_n 1, 1) := by decide +kernel
theorem dX1_shadowAt_7 : decode cX1_shadowAt 7 = .ok (.invokevirtual 126, 3) := by decide +kernel
theorem dX1_shadowAt_10 : decode cX1_shadowAt 10 = .ok (.ifCond .ne 9, 3) := by decide +kernel
theorem dX1_shadowAt_13 : decode cX1_shadowAt 13 = .ok (.aload_n 0, 1) := by decide +kernel
theorem dX1_shadowAt_14 : decode cX1_shadowAt 14 = .ok (.iconst 1, 1) := by decide +kernel
theorem dX1_shadowAt_15 : decode cX1_shadowAt 15 = .ok (.invokevirtual 100, 3) := by decide +kernel
theorem dX1_shadowAt_18 : decode cX1_shadowAt 18 = .ok (.ireturn, 1) := by decide +kernel
theorem dX1_shadowAt_19 : decode cX1_shadowAt 19 = .ok (.iload_n 2, 1) := by decide +kernel
theorem dX1_shadowAt_20 : decode cX1_shadowAt 20 = .ok (.invokestatic 119, 3) := by decide +kernel
theorem dX1_shadowAt_23 : decode cX1_shadowAt 23 = .ok (.ifCond .eq 12, 3) := by decide +kernel
theorem dX1_shadowAt_26 : decode cX1_shadowAt 26 = .ok (.aload_n 0, 1) := by decide +kernel
theorem dX1_shadowAt_27 : decode cX1_shadowAt 27 = .ok (.iload_n 1, 1) := by decide +kernel
theorem dX1_shadowAt_28 : decode cX1_shadowAt 28 = .ok (.iload_n 2, 1) := by decide +kernel
theorem dX1_shadowAt_29 : decode cX1_shadowAt 29 = .ok (.invokevirtual 129, 3) := by decide +kernel
theorem dX1_shadowAt_32 : decode cX1_shadowAt 32 = .ok (.goto 8, 3) := by decide +kernel
theorem dX1_shadowAt_35 : decode cX1_shadowAt 35 = .ok (.aload_n 0, 1) := by decide +kernel
theorem dX1_shadowAt_36 : decode cX1_shadowAt 36 = .ok (.iconst 2, 1) := by decide +kernel
theorem dX1_shadowAt_37 : decode cX1_shadowAt 37 = .ok (.invokevirtual 100, 3) := by decide +kernel
theorem dX1_shadowAt_40 : decode cX1_shadowAt 40 = .ok (.ireturn, 1) := by decide +kernel
set_option maxRecDepth 20000 in
theorem ggX1_minuteOfShadow_X1_isStick : GoodIn wsX1_minuteOfShadow wsX1_isStick := goodIn_r _ [6, 7, 8, 9, 5, 10, 20, 21, 22, 23, 24, 25, 26, 27, 28, 29, 30, 31, 32, 33, 34, 35, 36] (by decide +kernel) (by decide +kernel)
set_option maxRecDepth 20000 in
theorem gX1_minuteOfShadow_X1_isStick : GoodIn wsX1_minuteOfShadow (wsV RX1 126 RX1 yX1_isStick wsX1_isStick) := goodIn_app (goodIn_of _ (by decide +kernel)) ggX1_minuteOfShadow_X1_isStick
set_option maxRecDepth 20000 in
theorem ggX1_minuteOfShadow_X1_no : GoodIn wsX1_minuteOfShadow wsX1_no := goodIn_r _ [14, 1, 20, 21, 22, 23, 24, 25, 26, 27, 28, 29, 30, 31, 32, 33, 34, 35, 36] (by decide +kernel) (by decide +kernel)
set_option maxRecDepth 20000 in
theorem gX1_minuteOfShadow_X1_no : GoodIn wsX1_minuteOfShadow (wsV RX1 100 RX1 yX1_no wsX1_no) := goodIn_app (goodIn_of _ (by decide +kernel)) ggX1_minuteOfShadow_X1_no
set_option maxRecDepth 20000 in
theorem ggX1_minuteOfShadow_X1_shadow : GoodIn wsX1_minuteOfShadow wsX1_shadow := goodIn_r _ [18, 19, 20, 21, 22, 23, 24, 25, 26, 27, 28, 29, 30, 31, 32, 33, 34, 35, 36] (by decide +kernel) (by decide +kernel)
set_option maxRecDepth 20000 in
theorem gX1_minuteOfShadow_X1_shadow : GoodIn wsX1_minuteOfShadow (wsV RX1 129 RX1 yX1_shadow wsX1_shadow) := goodIn_app (goodIn_of _ (by decide +kernel)) ggX1_minuteOfShadow_X1_shadow
theorem dX1_minuteOfShadow_0 : decode cX1_minuteOfShadow 0 = .ok (.aload_n 0, 1) := by decide +kernel
theorem dX1_minuteOfShadow_1 : decode cX1_minuteOfShadow 1 = .ok (.iconst 0, 1) := by decide +kernel
theorem dX1_minuteOfShadow_2 : decode cX1_minuteOfShadow 2 = .ok (.putfield 38, 3) := by decide +kernel
theorem dX1_minuteOfShadow_5 : decode cX1_minuteOfShadow 5 = .ok (.aload_n 0, 1) := by decide +kernel
theorem dX1_minuteOfShadow_6 : decode cX1_minuteOfShadow 6 = .ok (.iload_n 1, 1) := by decide +kernel
theorem dX1_minuteOfShadow_7 : decode cX1_minuteOfShadow 7 = .ok (.invokevirtual 126, 3) := by decide +kernel
theorem dX1_minuteOfShadow_10 : decode cX1_minuteOfShadow 10 = .ok (.ifCond .ne 9, 3) := by decide +kernel
theorem dX1_minuteOfShadow_13 : decode cX1_minuteOfShadow 13 = .ok (.aload_n 0, 1) := by decide +kernel
theorem dX1_minuteOfShadow_14 : decode cX1_minuteOfShadow 14 = .ok (.iconst 1, 1) := by decide +kernel
theorem dX1_minuteOfShadow_15 : decode cX1_minuteOfShadow 15 = .ok (.invokevirtual 100, 3) := by decide +kernel
theorem dX1_minuteOfShadow_18 : decode cX1_minuteOfShadow 18 = .ok (.ireturn, 1) := by decide +kernel
theorem dX1_minuteOfShadow_19 : decode cX1_minuteOfShadow 19 = .ok (.iconst 0, 1) := by decide +kernel
theorem dX1_minuteOfShadow_20 : decode cX1_minuteOfShadow 20 = .ok (.istore_n 3, 1) := by decide +kernel
theorem dX1_minuteOfShadow_21 : decode cX1_minuteOfShadow 21 = .ok (.iload_n 3, 1) := by decide +kernel
theorem dX1_minuteOfShadow_22 : decode cX1_minuteOfShadow 22 = .ok (.sipush 360, 3) := by decide +kernel
theorem dX1_minuteOfShadow_25 : decode cX1_minuteOfShadow 25 = .ok (.if_icmp .ge 21, 3) := by decide +kernel
theorem dX1_minuteOfShadow_28 : decode cX1_minuteOfShadow 28 = .ok (.aload_n 0, 1) := by decide +kernel
theorem dX1_minuteOfShadow_29 : decode cX1_minuteOfShadow 29 = .ok (.iload_n 1, 1) := by decide +kernel
theorem dX1_minuteOfShadow_30 : decode cX1_minuteOfShadow 30 = .ok (.iload_n 3, 1) := by decide +kernel
theorem dX1_minuteOfShadow_31 : decode cX1_minuteOfShadow 31 = .ok (.invokevirtual 129, 3) := by decide +kernel
theorem dX1_minuteOfShadow_34 : decode cX1_minuteOfShadow 34 = .ok (.iload_n 2, 1) := by decide +kernel
theorem dX1_minuteOfShadow_35 : decode cX1_minuteOfShadow 35 = .ok (.if_icmp .lt 5, 3) := by decide +kernel
theorem dX1_minuteOfShadow_38 : decode cX1_minuteOfShadow 38 = .ok (.iload_n 3, 1) := by decide +kernel
theorem dX1_minuteOfShadow_39 : decode cX1_minuteOfShadow 39 = .ok (.ireturn, 1) := by decide +kernel
theorem dX1_minuteOfShadow_40 : decode cX1_minuteOfShadow 40 = .ok (.iinc 3 1, 3) := by decide +kernel
theorem dX1_minuteOfShadow_43 : decode cX1_minuteOfShadow 43 = .ok (.goto (-22), 3) := by decide +kernel
theorem dX1_minuteOfShadow_46 : decode cX1_minuteOfShadow 46 = .ok (.iconst (-1), 1) := by decide +kernel
theorem dX1_minuteOfShadow_47 : decode cX1_minuteOfShadow 47 = .ok (.ireturn, 1) := by decide +kernel
set_option maxRecDepth 20000 in
theorem ggX1_allShadows_X1_isMinute : GoodIn wsX1_allShadows wsX1_isMinute := goodIn_r _ [6, 7, 8, 5, 9] (by decide +kernel) (by decide +kernel)
set_option maxRecDepth 20000 in
theorem gX1_allShadows_X1_isMinute : GoodIn wsX1_allShadows (va_wsS RX1 119 yX1_isMinute wsX1_isMinute) := goodIn_app (goodIn_of _ (by decide +kernel)) ggX1_allShadows_X1_isMinute
set_option maxRecDepth 20000 in
theorem ggX1_allShadows_X1_no : GoodIn wsX1_allShadows wsX1_no := goodIn_r _ [13, 1, 19, 20, 21, 22, 23, 24, 25, 26, 27, 28, 29, 30, 31, 32, 33, 34, 35] (by decide +kernel) (by decide +kernel)
set_option maxRecDepth 20000 in
theorem gX1_allShadows_X1_no : GoodIn wsX1_allShadows (wsV RX1 100 RX1 yX1_no wsX1_no) := goodIn_app (goodIn_of _ (by decide +kernel)) ggX1_allShadows_X1_no
set_option maxRecDepth 20000 in
theorem ggX1_allShadows_X1_shadow : GoodIn wsX1_allShadows wsX1_shadow := goodIn_r _ [17, 18, 19, 20, 21, 22, 23, 24, 25, 26, 27, 28, 29, 30, 31, 32, 33, 34, 35] (by decide +kernel) (by decide +kernel)
set_option maxRecDepth 20000 in
theorem gX1_allShadows_X1_shadow : GoodIn wsX1_allShadows (wsV RX1 129 RX1 yX1_shadow wsX1_shadow) := goodIn_app (goodIn_of _ (by decide +kernel)) ggX1_allShadows_X1_shadow
theorem dX1_allShadows_0 : decode cX1_allShadows 0 = .ok (.aload_n 0, 1) := by decide +kernel
theorem dX1_allShadows_1 : decode cX1_allShadows 1 = .ok (.iconst 0, 1) := by decide +kernel
theorem dX1_allShadows_2 : decode cX1_allShadows 2 = .ok (.putfield 38, 3) := by decide +kernel
theorem dX1_allShadows_5 : decode cX1_allShadows 5 = .ok (.iload_n 1, 1) := by decide +kernel
theorem dX1_allShadows_6 : decode cX1_allShadows 6 = .ok (.invokestatic 119, 3) := by decide +kernel
theorem dX1_allShadows_9 : decode cX1_allShadows 9 = .ok (.ifCond .ne 9, 3) := by decide +kernel
theorem dX1_allShadows_12 : decode cX1_allShadows 12 = .ok (.aload_n 0, 1) := by decide +kernel
theorem dX1_allShadows_13 : decode cX1_allShadows 13 = .ok (.iconst 1, 1) := by decide +kernel
theorem dX1_allShadows_14 : decode cX1_allShadows 14 = .ok (.invokevirtual 100, 3) := by decide +kernel
theorem dX1_allShadows_17 : decode cX1_allShadows 17 = .ok (.ireturn, 1) := by decide +kernel
theorem dX1_allShadows_18 : decode cX1_allShadows 18 = .ok (.iconst 0, 1) := by decide +kernel
theorem dX1_allShadows_19 : decode cX1_allShadows 19 = .ok (.istore_n 2, 1) := by decide +kernel
theorem dX1_allShadows_20 : decode cX1_allShadows 20 = .ok (.iconst 0, 1) := by decide +kernel
theorem dX1_allShadows_21 : decode cX1_allShadows 21 = .ok (.istore_n 3, 1) := by decide +kernel
theorem dX1_allShadows_22 : decode cX1_allShadows 22 = .ok (.iload_n 3, 1) := by decide +kernel
theorem dX1_allShadows_23 : decode cX1_allShadows 23 = .ok (.aload_n 0, 1) := by decide +kernel
theorem dX1_allShadows_24 : decode cX1_allShadows 24 = .ok (.getfield 41, 3) := by decide +kernel
theorem dX1_allShadows_27 : decode cX1_allShadows 27 = .ok (.if_icmp .ge 18, 3) := by decide +kernel
theorem dX1_allShadows_30 : decode cX1_allShadows 30 = .ok (.iload_n 2, 1) := by decide +kernel
theorem dX1_allShadows_31 : decode cX1_allShadows 31 = .ok (.aload_n 0, 1) := by decide +kernel
theorem dX1_allShadows_32 : decode cX1_allShadows 32 = .ok (.iload_n 3, 1) := by decide +kernel
theorem dX1_allShadows_33 : decode cX1_allShadows 33 = .ok (.iload_n 1, 1) := by decide +kernel
theorem dX1_allShadows_34 : decode cX1_allShadows 34 = .ok (.invokevirtual 129, 3) := by decide +kernel
theorem dX1_allShadows_37 : decode cX1_allShadows 37 = .ok (.iadd, 1) := by decide +kernel
theorem dX1_allShadows_38 : decode cX1_allShadows 38 = .ok (.istore_n 2, 1) := by decide +kernel
theorem dX1_allShadows_39 : decode cX1_allShadows 39 = .ok (.iinc 3 1, 3) := by decide +kernel
theorem dX1_allShadows_42 : decode cX1_allShadows 42 = .ok (.goto (-20), 3) := by decide +kernel
theorem dX1_allShadows_45 : decode cX1_allShadows 45 = .ok (.iload_n 2, 1) := by decide +kernel
theorem dX1_allShadows_46 : decode cX1_allShadows 46 = .ok (.ireturn, 1) := by decide +kernel
set_option maxRecDepth 20000 in
theorem ggX1_naps_X1_ok : GoodIn wsX1_naps wsX1_ok := goodIn_r _ [6, 7, 8, 9, 10, 11, 12, 13, 14, 15, 16, 17, 18, 19, 20, 21, 22, 23, 24] (by decide +kernel) (by decide +kernel)
set_option maxRecDepth 20000 in
theorem gX1_naps_X1_ok : GoodIn wsX1_naps (wsV RX1 116 RX1 yX1_ok wsX1_ok) := goodIn_app (goodIn_of _ (by decide +kernel)) ggX1_naps_X1_ok
theorem dX1_naps_0 : decode cX1_naps 0 = .ok (.aload_n 0, 1) := by decide +kernel
theorem dX1_naps_1 : decode cX1_naps 1 = .ok (.aload_n 0, 1) := by decide +kernel
theorem dX1_naps_2 : decode cX1_naps 2 = .ok (.getfield 48, 3) := by decide +kernel
theorem dX1_naps_5 : decode cX1_naps 5 = .ok (.invokevirtual 116, 3) := by decide +kernel
theorem dX1_naps_8 : decode cX1_naps 8 = .ok (.ireturn, 1) := by decide +kernel
set_option maxRecDepth 20000 in
theorem ggX1_startOf_X1_isNap : GoodIn wsX1_startOf wsX1_isNap := goodIn_r _ [7, 8, 9, 10, 6, 11, 16, 17, 18, 19, 20, 21, 22, 23, 24, 25, 26, 27, 28, 29, 30, 31, 32] (by decide +kernel) (by decide +kernel)
set_option maxRecDepth 20000 in
theorem gX1_startOf_X1_isNap : GoodIn wsX1_startOf (wsV RX1 107 RX1 yX1_isNap wsX1_isNap) := goodIn_app (goodIn_of _ (by decide +kernel)) ggX1_startOf_X1_isNap
set_option maxRecDepth 20000 in
theorem ggX1_startOf_X1_no : GoodIn wsX1_startOf wsX1_no := goodIn_r _ [15, 1, 16, 17, 18, 19, 20, 21, 22, 23, 24, 25, 26, 27, 28, 29, 30, 31, 32] (by decide +kernel) (by decide +kernel)
set_option maxRecDepth 20000 in
theorem gX1_startOf_X1_no : GoodIn wsX1_startOf (wsV RX1 100 RX1 yX1_no wsX1_no) := goodIn_app (goodIn_of _ (by decide +kernel)) ggX1_startOf_X1_no
theorem dX1_startOf_0 : decode cX1_startOf 0 = .ok (.aload_n 0, 1) := by decide +kernel
theorem dX1_startOf_1 : decode cX1_startOf 1 = .ok (.iconst 0, 1) := by decide +kernel
theorem dX1_startOf_2 : decode cX1_startOf 2 = .ok (.putfield 38, 3) := by decide +kernel
theorem dX1_startOf_5 : decode cX1_startOf 5 = .ok (.aload_n 0, 1) := by decide +kernel
theorem dX1_startOf_6 : decode cX1_startOf 6 = .ok (.iload_n 1, 1) := by decide +kernel
theorem dX1_startOf_7 : decode cX1_startOf 7 = .ok (.invokevirtual 107, 3) := by decide +kernel
theorem dX1_startOf_10 : decode cX1_startOf 10 = .ok (.ifCond .eq 12, 3) := by decide +kernel
theorem dX1_startOf_13 : decode cX1_startOf 13 = .ok (.aload_n 0, 1) := by decide +kernel
theorem dX1_startOf_14 : decode cX1_startOf 14 = .ok (.getfield 13, 3) := by decide +kernel
theorem dX1_startOf_17 : decode cX1_startOf 17 = .ok (.iload_n 1, 1) := by decide +kernel
theorem dX1_startOf_18 : decode cX1_startOf 18 = .ok (.iaload, 1) := by decide +kernel
theorem dX1_startOf_19 : decode cX1_startOf 19 = .ok (.goto 8, 3) := by decide +kernel
theorem dX1_startOf_22 : decode cX1_startOf 22 = .ok (.aload_n 0, 1) := by decide +kernel
theorem dX1_startOf_23 : decode cX1_startOf 23 = .ok (.iconst 1, 1) := by decide +kernel
theorem dX1_startOf_24 : decode cX1_startOf 24 = .ok (.invokevirtual 100, 3) := by decide +kernel
theorem dX1_startOf_27 : decode cX1_startOf 27 = .ok (.ireturn, 1) := by decide +kernel
set_option maxRecDepth 20000 in
theorem ggX1_lengthOf_X1_isNap : GoodIn wsX1_lengthOf wsX1_isNap := goodIn_r _ [8, 9, 10, 11, 7, 12, 17, 18, 19, 20, 21, 22, 23, 24, 25, 26, 27, 28, 29, 30, 31, 32, 33] (by decide +kernel) (by decide +kernel)
set_option maxRecDepth 20000 in
theorem gX1_lengthOf_X1_isNap : GoodIn wsX1_lengthOf (wsV RX1 107 RX1 yX1_isNap wsX1_isNap) := goodIn_app (goodIn_of _ (by decide +kernel)) ggX1_lengthOf_X1_isNap
set_option maxRecDepth 20000 in
theorem ggX1_lengthOf_X1_no : GoodIn wsX1_lengthOf wsX1_no := goodIn_r _ [16, 1, 17, 18, 19, 20, 21, 22, 23, 24, 25, 26, 27, 28, 29, 30, 31, 32, 33] (by decide +kernel) (by decide +kernel)
set_option maxRecDepth 20000 in
theorem gX1_lengthOf_X1_no : GoodIn wsX1_lengthOf (wsV RX1 100 RX1 yX1_no wsX1_no) := goodIn_app (goodIn_of _ (by decide +kernel)) ggX1_lengthOf_X1_no
theorem dX1_lengthOf_0 : decode cX1_lengthOf 0 = .ok (.aload_n 0, 1) := by decide +kernel
theorem dX1_lengthOf_1 : decode cX1_lengthOf 1 = .ok (.iconst 0, 1) := by decide +kernel
theorem dX1_lengthOf_2 : decode cX1_lengthOf 2 = .ok (.putfield 38, 3) := by decide +kernel
theorem dX1_lengthOf_5 : decode cX1_lengthOf 5 = .ok (.aload_n 0, 1) := by decide +kernel
theorem dX1_lengthOf_6 : decode cX1_lengthOf 6 = .ok (.iload_n 1, 1) := by decide +kernel
theorem dX1_lengthOf_7 : decode cX1_lengthOf 7 = .ok (.invokevirtual 107, 3) := by decide +kernel
theorem dX1_lengthOf_10 : decode cX1_lengthOf 10 = .ok (.ifCond .eq 19, 3) := by decide +kernel
theorem dX1_lengthOf_13 : decode cX1_lengthOf 13 = .ok (.aload_n 0, 1) := by decide +kernel
theorem dX1_lengthOf_14 : decode cX1_lengthOf 14 = .ok (.getfield 16, 3) := by decide +kernel
theorem dX1_lengthOf_17 : decode cX1_lengthOf 17 = .ok (.iload_n 1, 1) := by decide +kernel
theorem dX1_lengthOf_18 : decode cX1_lengthOf 18 = .ok (.iaload, 1) := by decide +kernel
theorem dX1_lengthOf_19 : decode cX1_lengthOf 19 = .ok (.aload_n 0, 1) := by decide +kernel
theorem dX1_lengthOf_20 : decode cX1_lengthOf 20 = .ok (.getfield 13, 3) := by decide +kernel
theorem dX1_lengthOf_23 : decode cX1_lengthOf 23 = .ok (.iload_n 1, 1) := by decide +kernel
theorem dX1_lengthOf_24 : decode cX1_lengthOf 24 = .ok (.iaload, 1) := by decide +kernel
theorem dX1_lengthOf_25 : decode cX1_lengthOf 25 = .ok (.isub, 1) := by decide +kernel
theorem dX1_lengthOf_26 : decode cX1_lengthOf 26 = .ok (.goto 8, 3) := by decide +kernel
theorem dX1_lengthOf_29 : decode cX1_lengthOf 29 = .ok (.aload_n 0, 1) := by decide +kernel
theorem dX1_lengthOf_30 : decode cX1_lengthOf 30 = .ok (.iconst 1, 1) := by decide +kernel
theorem dX1_lengthOf_31 : decode cX1_lengthOf 31 = .ok (.invokevirtual 100, 3) := by decide +kernel
theorem dX1_lengthOf_34 : decode cX1_lengthOf 34 = .ok (.ireturn, 1) := by decide +kernel
set_option maxRecDepth 20000 in
theorem ggX1_napsAt_X1_isMinute : GoodIn wsX1_napsAt wsX1_isMinute := goodIn_r _ [6, 7, 8, 5, 9] (by decide +kernel) (by decide +kernel)
set_option maxRecDepth 20000 in
theorem gX1_napsAt_X1_isMinute : GoodIn wsX1_napsAt (va_wsS RX1 119 yX1_isMinute wsX1_isMinute) := goodIn_app (goodIn_of _ (by decide +kernel)) ggX1_napsAt_X1_isMinute
set_option maxRecDepth 20000 in
theorem ggX1_napsAt_X1_no : GoodIn wsX1_napsAt wsX1_no := goodIn_r _ [13, 1, 14, 15, 16, 17, 18, 19, 20, 21, 22, 23, 24, 25, 26, 27, 28, 29, 30] (by decide +kernel) (by decide +kernel)
set_option maxRecDepth 20000 in
theorem gX1_napsAt_X1_no : GoodIn wsX1_napsAt (wsV RX1 100 RX1 yX1_no wsX1_no) := goodIn_app (goodIn_of _ (by decide +kernel)) ggX1_napsAt_X1_no
theorem dX1_napsAt_0 : decode cX1_napsAt 0 = .ok (.aload_n 0, 1) := by decide +kernel
theorem dX1_napsAt_1 : decode cX1_napsAt 1 = .ok (.iconst 0, 1) := by decide +kernel
theorem dX1_napsAt_2 : decode cX1_napsAt 2 = .ok (.putfield 38, 3) := by decide +kernel
theorem dX1_napsAt_5 : decode cX1_napsAt 5 = .ok (.iload_n 1, 1) := by decide +kernel
theorem dX1_napsAt_6 : decode cX1_napsAt 6 = .ok (.invokestatic 119, 3) := by decide +kernel
theorem dX1_napsAt_9 : decode cX1_napsAt 9 = .ok (.ifCond .eq 12, 3) := by decide +kernel
theorem dX1_napsAt_12 : decode cX1_napsAt 12 = .ok (.aload_n 0, 1) := by decide +kernel
theorem dX1_napsAt_13 : decode cX1_napsAt 13 = .ok (.getfield 19, 3) := by decide +kernel
theorem dX1_napsAt_16 : decode cX1_napsAt 16 = .ok (.iload_n 1, 1) := by decide +kernel
theorem dX1_napsAt_17 : decode cX1_napsAt 17 = .ok (.iaload, 1) := by decide +kernel
theorem dX1_napsAt_18 : decode cX1_napsAt 18 = .ok (.goto 8, 3) := by decide +kernel
theorem dX1_napsAt_21 : decode cX1_napsAt 21 = .ok (.aload_n 0, 1) := by decide +kernel
theorem dX1_napsAt_22 : decode cX1_napsAt 22 = .ok (.iconst 1, 1) := by decide +kernel
theorem dX1_napsAt_23 : decode cX1_napsAt 23 = .ok (.invokevirtual 100, 3) := by decide +kernel
theorem dX1_napsAt_26 : decode cX1_napsAt 26 = .ok (.ireturn, 1) := by decide +kernel
set_option maxRecDepth 20000 in
theorem ggX1_minutesAlone_X1_isNap : GoodIn wsX1_minutesAlone wsX1_isNap := goodIn_r _ [6, 7, 8, 9, 5, 10, 22, 23, 24, 25, 26, 27, 28, 29, 30, 31, 32, 33, 34, 35, 36, 37, 38] (by decide +kernel) (by decide +kernel)
set_option maxRecDepth 20000 in
theorem gX1_minutesAlone_X1_isNap : GoodIn wsX1_minutesAlone (wsV RX1 107 RX1 yX1_isNap wsX1_isNap) := goodIn_app (goodIn_of _ (by decide +kernel)) ggX1_minutesAlone_X1_isNap
set_option maxRecDepth 20000 in
theorem ggX1_minutesAlone_X1_alone : GoodIn wsX1_minutesAlone wsX1_alone := goodIn_r _ [14, 15, 16, 17, 22, 23, 24, 25, 26, 27, 28, 29, 30, 31, 32, 33, 34, 35, 36, 37, 38] (by decide +kernel) (by decide +kernel)
set_option maxRecDepth 20000 in
theorem gX1_minutesAlone_X1_alone : GoodIn wsX1_minutesAlone (wsV RX1 132 RX1 yX1_alone wsX1_alone) := goodIn_app (goodIn_of _ (by decide +kernel)) ggX1_minutesAlone_X1_alone
set_option maxRecDepth 20000 in
theorem ggX1_minutesAlone_X1_no : GoodIn wsX1_minutesAlone wsX1_no := goodIn_r _ [21, 1, 22, 23, 24, 25, 26, 27, 28, 29, 30, 31, 32, 33, 34, 35, 36, 37, 38] (by decide +kernel) (by decide +kernel)
set_option maxRecDepth 20000 in
theorem gX1_minutesAlone_X1_no : GoodIn wsX1_minutesAlone (wsV RX1 100 RX1 yX1_no wsX1_no) := goodIn_app (goodIn_of _ (by decide +kernel)) ggX1_minutesAlone_X1_no
theorem dX1_minutesAlone_0 : decode cX1_minutesAlone 0 = .ok (.aload_n 0, 1) := by decide +kernel
theorem dX1_minutesAlone_1 : decode cX1_minutesAlone 1 = .ok (.iconst 0, 1) := by decide +kernel
theorem dX1_minutesAlone_2 : decode cX1_minutesAlone 2 = .ok (.putfield 38, 3) := by decide +kernel
theorem dX1_minutesAlone_5 : decode cX1_minutesAlone 5 = .ok (.aload_n 0, 1) := by decide +kernel
theorem dX1_minutesAlone_6 : decode cX1_minutesAlone 6 = .ok (.iload_n 1, 1) := by decide +kernel
theorem dX1_minutesAlone_7 : decode cX1_minutesAlone 7 = .ok (.invokevirtual 107, 3) := by decide +kernel
theorem dX1_minutesAlone_10 : decode cX1_minutesAlone 10 = .ok (.ifCond .eq 11, 3) := by decide +kernel
theorem dX1_minutesAlone_13 : decode cX1_minutesAlone 13 = .ok (.aload_n 0, 1) := by decide +kernel
theorem dX1_minutesAlone_14 : decode cX1_minutesAlone 14 = .ok (.iload_n 1, 1) := by decide +kernel
theorem dX1_minutesAlone_15 : decode cX1_minutesAlone 15 = .ok (.invokevirtual 132, 3) := by decide +kernel
theorem dX1_minutesAlone_18 : decode cX1_minutesAlone 18 = .ok (.goto 8, 3) := by decide +kernel
theorem dX1_minutesAlone_21 : decode cX1_minutesAlone 21 = .ok (.aload_n 0, 1) := by decide +kernel
theorem dX1_minutesAlone_22 : decode cX1_minutesAlone 22 = .ok (.iconst 1, 1) := by decide +kernel
theorem dX1_minutesAlone_23 : decode cX1_minutesAlone 23 = .ok (.invokevirtual 100, 3) := by decide +kernel
theorem dX1_minutesAlone_26 : decode cX1_minutesAlone 26 = .ok (.ireturn, 1) := by decide +kernel
set_option maxRecDepth 20000 in
theorem ggX1_bees_X1_ok : GoodIn wsX1_bees wsX1_ok := goodIn_r _ [6, 7, 8, 9, 10, 11, 12, 13, 14, 15, 16, 17, 18, 19, 20, 21, 22, 23, 24] (by decide +kernel) (by decide +kernel)
set_option maxRecDepth 20000 in
theorem gX1_bees_X1_ok : GoodIn wsX1_bees (wsV RX1 116 RX1 yX1_ok wsX1_ok) := goodIn_app (goodIn_of _ (by decide +kernel)) ggX1_bees_X1_ok
theorem dX1_bees_0 : decode cX1_bees 0 = .ok (.aload_n 0, 1) := by decide +kernel
theorem dX1_bees_1 : decode cX1_bees 1 = .ok (.aload_n 0, 1) := by decide +kernel
theorem dX1_bees_2 : decode cX1_bees 2 = .ok (.getfield 51, 3) := by decide +kernel
theorem dX1_bees_5 : decode cX1_bees 5 = .ok (.invokevirtual 116, 3) := by decide +kernel
theorem dX1_bees_8 : decode cX1_bees 8 = .ok (.ireturn, 1) := by decide +kernel
set_option maxRecDepth 20000 in
theorem ggX1_ticksOf_X1_isBee : GoodIn wsX1_ticksOf wsX1_isBee := goodIn_r _ [6, 7, 8, 9, 5, 10, 31, 32, 33, 34, 35, 36, 37, 38, 39, 40, 41, 42, 43, 44, 45, 46, 47] (by decide +kernel) (by decide +kernel)
set_option maxRecDepth 20000 in
theorem gX1_ticksOf_X1_isBee : GoodIn wsX1_ticksOf (wsV RX1 135 RX1 yX1_isBee wsX1_isBee) := goodIn_app (goodIn_of _ (by decide +kernel)) ggX1_ticksOf_X1_isBee
set_option maxRecDepth 20000 in
theorem ggX1_ticksOf_X1_ticked : GoodIn wsX1_ticksOf wsX1_ticked := goodIn_r _ [14, 15, 16, 17, 18, 5, 19, 20, 21, 22, 23, 24, 25, 26, 31, 32, 33, 34, 35, 36, 37, 38, 39, 40, 41, 42, 43, 44, 45, 46, 47] (by decide +kernel) (by decide +kernel)
set_option maxRecDepth 20000 in
theorem gX1_ticksOf_X1_ticked : GoodIn wsX1_ticksOf (wsV RX1 71 RX1 yX1_ticked wsX1_ticked) := goodIn_app (goodIn_of _ (by decide +kernel)) ggX1_ticksOf_X1_ticked
set_option maxRecDepth 20000 in
theorem ggX1_ticksOf_X1_no : GoodIn wsX1_ticksOf wsX1_no := goodIn_r _ [30, 1, 31, 32, 33, 34, 35, 36, 37, 38, 39, 40, 41, 42, 43, 44, 45, 46, 47] (by decide +kernel) (by decide +kernel)
set_option maxRecDepth 20000 in
theorem gX1_ticksOf_X1_no : GoodIn wsX1_ticksOf (wsV RX1 100 RX1 yX1_no wsX1_no) := goodIn_app (goodIn_of _ (by decide +kernel)) ggX1_ticksOf_X1_no
theorem dX1_ticksOf_0 : decode cX1_ticksOf 0 = .ok (.aload_n 0, 1) := by decide +kernel
theorem dX1_ticksOf_1 : decode cX1_ticksOf 1 = .ok (.iconst 0, 1) := by decide +kernel
theorem dX1_ticksOf_2 : decode cX1_ticksOf 2 = .ok (.putfield 38, 3) := by decide +kernel
theorem dX1_ticksOf_5 : decode cX1_ticksOf 5 = .ok (.aload_n 0, 1) := by decide +kernel
theorem dX1_ticksOf_6 : decode cX1_ticksOf 6 = .ok (.iload_n 1, 1) := by decide +kernel
theorem dX1_ticksOf_7 : decode cX1_ticksOf 7 = .ok (.invokevirtual 135, 3) := by decide +kernel
theorem dX1_ticksOf_10 : decode cX1_ticksOf 10 = .ok (.ifCond .eq 11, 3) := by decide +kernel
theorem dX1_ticksOf_13 : decode cX1_ticksOf 13 = .ok (.aload_n 0, 1) := by decide +kernel
theorem dX1_ticksOf_14 : decode cX1_ticksOf 14 = .ok (.iload_n 1, 1) := by decide +kernel
theorem dX1_ticksOf_15 : decode cX1_ticksOf 15 = .ok (.invokevirtual 71, 3) := by decide +kernel
theorem dX1_ticksOf_18 : decode cX1_ticksOf 18 = .ok (.goto 8, 3) := by decide +kernel
theorem dX1_ticksOf_21 : decode cX1_ticksOf 21 = .ok (.aload_n 0, 1) := by decide +kernel
theorem dX1_ticksOf_22 : decode cX1_ticksOf 22 = .ok (.iconst 1, 1) := by decide +kernel
theorem dX1_ticksOf_23 : decode cX1_ticksOf 23 = .ok (.invokevirtual 100, 3) := by decide +kernel
theorem dX1_ticksOf_26 : decode cX1_ticksOf 26 = .ok (.ireturn, 1) := by decide +kernel
set_option maxRecDepth 20000 in
theorem ggX1_measuredBy_X1_isBee : GoodIn wsX1_measuredBy wsX1_isBee := goodIn_r _ [7, 8, 9, 10, 6, 11, 31, 32, 33, 34, 35, 36, 37, 38, 39, 40, 41, 42, 43, 44, 45, 46, 47] (by decide +kernel) (by decide +kernel)
set_option maxRecDepth 20000 in
theorem gX1_measuredBy_X1_isBee : GoodIn wsX1_measuredBy (wsV RX1 135 RX1 yX1_isBee wsX1_isBee) := goodIn_app (goodIn_of _ (by decide +kernel)) ggX1_measuredBy_X1_isBee
set_option maxRecDepth 20000 in
theorem ggX1_measuredBy_X1_ticked : GoodIn wsX1_measuredBy wsX1_ticked := goodIn_r _ [15, 16, 17, 18, 19, 6, 20, 2, 21, 22, 23, 24, 25, 26, 31, 32, 33, 34, 35, 36, 37, 38, 39, 40, 41, 42, 43, 44, 45, 46, 47] (by decide +kernel) (by decide +kernel)
set_option maxRecDepth 20000 in
theorem gX1_measuredBy_X1_ticked : GoodIn wsX1_measuredBy (wsV RX1 71 RX1 yX1_ticked wsX1_ticked) := goodIn_app (goodIn_of _ (by decide +kernel)) ggX1_measuredBy_X1_ticked
set_option maxRecDepth 20000 in
theorem ggX1_measuredBy_X1_no : GoodIn wsX1_measuredBy wsX1_no := goodIn_r _ [30, 1, 31, 32, 33, 34, 35, 36, 37, 38, 39, 40, 41, 42, 43, 44, 45, 46, 47] (by decide +kernel) (by decide +kernel)
set_option maxRecDepth 20000 in
theorem gX1_measuredBy_X1_no : GoodIn wsX1_measuredBy (wsV RX1 100 RX1 yX1_no wsX1_no) := goodIn_app (goodIn_of _ (by decide +kernel)) ggX1_measuredBy_X1_no
theorem dX1_measuredBy_0 : decode cX1_measuredBy 0 = .ok (.aload_n 0, 1) := by decide +kernel
theorem dX1_measuredBy_1 : decode cX1_measuredBy 1 = .ok (.iconst 0, 1) := by decide +kernel
theorem dX1_measuredBy_2 : decode cX1_measuredBy 2 = .ok (.putfield 38, 3) := by decide +kernel
theorem dX1_measuredBy_5 : decode cX1_measuredBy 5 = .ok (.aload_n 0, 1) := by decide +kernel
theorem dX1_measuredBy_6 : decode cX1_measuredBy 6 = .ok (.iload_n 1, 1) := by decide +kernel
theorem dX1_measuredBy_7 : decode cX1_measuredBy 7 = .ok (.invokevirtual 135, 3) := by decide +kernel
theorem dX1_measuredBy_10 : decode cX1_measuredBy 10 = .ok (.ifCond .eq 18, 3) := by decide +kernel
theorem dX1_measuredBy_13 : decode cX1_measuredBy 13 = .ok (.aload_n 0, 1) := by decide +kernel
theorem dX1_measuredBy_14 : decode cX1_measuredBy 14 = .ok (.iload_n 1, 1) := by decide +kernel
theorem dX1_measuredBy_15 : decode cX1_measuredBy 15 = .ok (.invokevirtual 71, 3) := by decide +kernel
theorem dX1_measuredBy_18 : decode cX1_measuredBy 18 = .ok (.aload_n 0, 1) := by decide +kernel
theorem dX1_measuredBy_19 : decode cX1_measuredBy 19 = .ok (.getfield 22, 3) := by decide +kernel
theorem dX1_measuredBy_22 : decode cX1_measuredBy 22 = .ok (.iload_n 1, 1) := by decide +kernel
theorem dX1_measuredBy_23 : decode cX1_measuredBy 23 = .ok (.iaload, 1) := by decide +kernel
theorem dX1_measuredBy_24 : decode cX1_measuredBy 24 = .ok (.imul, 1) := by decide +kernel
theorem dX1_measuredBy_25 : decode cX1_measuredBy 25 = .ok (.goto 8, 3) := by decide +kernel
theorem dX1_measuredBy_28 : decode cX1_measuredBy 28 = .ok (.aload_n 0, 1) := by decide +kernel
theorem dX1_measuredBy_29 : decode cX1_measuredBy 29 = .ok (.iconst 1, 1) := by decide +kernel
theorem dX1_measuredBy_30 : decode cX1_measuredBy 30 = .ok (.invokevirtual 100, 3) := by decide +kernel
theorem dX1_measuredBy_33 : decode cX1_measuredBy 33 = .ok (.ireturn, 1) := by decide +kernel
set_option maxRecDepth 20000 in
theorem ggX1_errorOf_X1_isBee : GoodIn wsX1_errorOf wsX1_isBee := goodIn_r _ [6, 7, 8, 9, 5, 10, 39, 40, 41, 42, 43, 44, 45, 46, 47, 48, 49, 50, 51, 52, 53, 54, 55] (by decide +kernel) (by decide +kernel)
set_option maxRecDepth 20000 in
theorem gX1_errorOf_X1_isBee : GoodIn wsX1_errorOf (wsV RX1 135 RX1 yX1_isBee wsX1_isBee) := goodIn_app (goodIn_of _ (by decide +kernel)) ggX1_errorOf_X1_isBee
set_option maxRecDepth 20000 in
theorem ggX1_errorOf_X1_error : GoodIn wsX1_errorOf wsX1_error := goodIn_r _ [14, 15, 16, 17, 18, 19, 5, 20, 21, 22, 23, 24, 25, 26, 27, 28, 29, 30, 31, 32, 33, 34, 39, 40, 41, 42, 43, 44, 45, 46, 47, 48, 49, 50, 51, 52, 53, 54, 55] (by decide +kernel) (by decide +kernel)
set_option maxRecDepth 20000 in
theorem gX1_errorOf_X1_error : GoodIn wsX1_errorOf (wsV RX1 78 RX1 yX1_error wsX1_error) := goodIn_app (goodIn_of _ (by decide +kernel)) ggX1_errorOf_X1_error
set_option maxRecDepth 20000 in
theorem ggX1_errorOf_X1_no : GoodIn wsX1_errorOf wsX1_no := goodIn_r _ [38, 1, 39, 40, 41, 42, 43, 44, 45, 46, 47, 48, 49, 50, 51, 52, 53, 54, 55] (by decide +kernel) (by decide +kernel)
set_option maxRecDepth 20000 in
theorem gX1_errorOf_X1_no : GoodIn wsX1_errorOf (wsV RX1 100 RX1 yX1_no wsX1_no) := goodIn_app (goodIn_of _ (by decide +kernel)) ggX1_errorOf_X1_no
theorem dX1_errorOf_0 : decode cX1_errorOf 0 = .ok (.aload_n 0, 1) := by decide +kernel
theorem dX1_errorOf_1 : decode cX1_errorOf 1 = .ok (.iconst 0, 1) := by decide +kernel
theorem dX1_errorOf_2 : decode cX1_errorOf 2 = .ok (.putfield 38, 3) := by decide +kernel
theorem dX1_errorOf_5 : decode cX1_errorOf 5 = .ok (.aload_n 0, 1) := by decide +kernel
theorem dX1_errorOf_6 : decode cX1_errorOf 6 = .ok (.iload_n 1, 1) := by decide +kernel
theorem dX1_errorOf_7 : decode cX1_errorOf 7 = .ok (.invokevirtual 135, 3) := by decide +kernel
theorem dX1_errorOf_10 : decode cX1_errorOf 10 = .ok (.ifCond .eq 11, 3) := by decide +kernel
theorem dX1_errorOf_13 : decode cX1_errorOf 13 = .ok (.aload_n 0, 1) := by decide +kernel
theorem dX1_errorOf_14 : decode cX1_errorOf 14 = .ok (.iload_n 1, 1) := by decide +kernel
theorem dX1_errorOf_15 : decode cX1_errorOf 15 = .ok (.invokevirtual 78, 3) := by decide +kernel
theorem dX1_errorOf_18 : decode cX1_errorOf 18 = .ok (.goto 8, 3) := by decide +kernel
theorem dX1_errorOf_21 : decode cX1_errorOf 21 = .ok (.aload_n 0, 1) := by decide +kernel
theorem dX1_errorOf_22 : decode cX1_errorOf 22 = .ok (.iconst 1, 1) := by decide +kernel
theorem dX1_errorOf_23 : decode cX1_errorOf 23 = .ok (.invokevirtual 100, 3) := by decide +kernel
theorem dX1_errorOf_26 : decode cX1_errorOf 26 = .ok (.ireturn, 1) := by decide +kernel
set_option maxRecDepth 20000 in
theorem ggX1_bestBee_X1_best : GoodIn wsX1_bestBee wsX1_best := goodIn_r _ [5, 6, 7, 8, 9, 10, 11, 12, 13, 4, 14, 15, 16, 17, 18, 19, 20, 21, 22, 23, 24, 25, 26, 27, 28, 29, 30, 31, 32, 33, 34, 40, 41, 42, 43, 44, 45, 46, 47, 48, 49, 50, 51, 52, 53, 54, 55, 56] (by decide +kernel) (by decide +kernel)
set_option maxRecDepth 20000 in
theorem gX1_bestBee_X1_best : GoodIn wsX1_bestBee (wsV RX1 138 RX1 yX1_best wsX1_best) := goodIn_app (goodIn_of _ (by decide +kernel)) ggX1_bestBee_X1_best
set_option maxRecDepth 20000 in
theorem ggX1_bestBee_X1_ok : GoodIn wsX1_bestBee wsX1_ok := goodIn_r _ [38, 39, 40, 41, 42, 43, 44, 45, 46, 47, 48, 49, 50, 51, 52, 53, 54, 55, 56] (by decide +kernel) (by decide +kernel)
set_option maxRecDepth 20000 in
theorem gX1_bestBee_X1_ok : GoodIn wsX1_bestBee (wsV RX1 116 RX1 yX1_ok wsX1_ok) := goodIn_app (goodIn_of _ (by decide +kernel)) ggX1_bestBee_X1_ok
theorem dX1_bestBee_0 : decode cX1_bestBee 0 = .ok (.aload_n 0, 1) := by decide +kernel
theorem dX1_bestBee_1 : decode cX1_bestBee 1 = .ok (.aload_n 0, 1) := by decide +kernel
theorem dX1_bestBee_2 : decode cX1_bestBee 2 = .ok (.invokevirtual 138, 3) := by decide +kernel
theorem dX1_bestBee_5 : decode cX1_bestBee 5 = .ok (.invokevirtual 116, 3) := by decide +kernel
theorem dX1_bestBee_8 : decode cX1_bestBee 8 = .ok (.ireturn, 1) := by decide +kernel
set_option maxRecDepth 20000 in
theorem ggX1_nextTick_X1_isBee : GoodIn wsX1_nextTick wsX1_isBee := goodIn_r _ [6, 7, 8, 9, 5, 10, 31, 32, 33, 34, 35, 36, 37, 38, 39, 40, 41, 42, 43, 44, 45, 46, 47] (by decide +kernel) (by decide +kernel)
set_option maxRecDepth 20000 in
theorem gX1_nextTick_X1_isBee : GoodIn wsX1_nextTick (wsV RX1 135 RX1 yX1_isBee wsX1_isBee) := goodIn_app (goodIn_of _ (by decide +kernel)) ggX1_nextTick_X1_isBee
set_option maxRecDepth 20000 in
theorem ggX1_nextTick_X1_next : GoodIn wsX1_nextTick wsX1_next := goodIn_r _ [14, 15, 16, 17, 18, 5, 19, 20, 21, 22, 23, 24, 25, 26, 31, 32, 33, 34, 35, 36, 37, 38, 39, 40, 41, 42, 43, 44, 45, 46, 47] (by decide +kernel) (by decide +kernel)
set_option maxRecDepth 20000 in
theorem gX1_nextTick_X1_next : GoodIn wsX1_nextTick (wsV RX1 141 RX1 yX1_next wsX1_next) := goodIn_app (goodIn_of _ (by decide +kernel)) ggX1_nextTick_X1_next
set_option maxRecDepth 20000 in
theorem ggX1_nextTick_X1_no : GoodIn wsX1_nextTick wsX1_no := goodIn_r _ [30, 1, 31, 32, 33, 34, 35, 36, 37, 38, 39, 40, 41, 42, 43, 44, 45, 46, 47] (by decide +kernel) (by decide +kernel)
set_option maxRecDepth 20000 in
theorem gX1_nextTick_X1_no : GoodIn wsX1_nextTick (wsV RX1 100 RX1 yX1_no wsX1_no) := goodIn_app (goodIn_of _ (by decide +kernel)) ggX1_nextTick_X1_no
theorem dX1_nextTick_0 : decode cX1_nextTick 0 = .ok (.aload_n 0, 1) := by decide +kernel
theorem dX1_nextTick_1 : decode cX1_nextTick 1 = .ok (.iconst 0, 1) := by decide +kernel
theorem dX1_nextTick_2 : decode cX1_nextTick 2 = .ok (.putfield 38, 3) := by decide +kernel
theorem dX1_nextTick_5 : decode cX1_nextTick 5 = .ok (.aload_n 0, 1) := by decide +kernel
theorem dX1_nextTick_6 : decode cX1_nextTick 6 = .ok (.iload_n 1, 1) := by decide +kernel
theorem dX1_nextTick_7 : decode cX1_nextTick 7 = .ok (.invokevirtual 135, 3) := by decide +kernel
theorem dX1_nextTick_10 : decode cX1_nextTick 10 = .ok (.ifCond .eq 11, 3) := by decide +kernel
theorem dX1_nextTick_13 : decode cX1_nextTick 13 = .ok (.aload_n 0, 1) := by decide +kernel
theorem dX1_nextTick_14 : decode cX1_nextTick 14 = .ok (.iload_n 1, 1) := by decide +kernel
theorem dX1_nextTick_15 : decode cX1_nextTick 15 = .ok (.invokevirtual 141, 3) := by decide +kernel
theorem dX1_nextTick_18 : decode cX1_nextTick 18 = .ok (.goto 8, 3) := by decide +kernel
theorem dX1_nextTick_21 : decode cX1_nextTick 21 = .ok (.aload_n 0, 1) := by decide +kernel
theorem dX1_nextTick_22 : decode cX1_nextTick 22 = .ok (.iconst 1, 1) := by decide +kernel
theorem dX1_nextTick_23 : decode cX1_nextTick 23 = .ok (.invokevirtual 100, 3) := by decide +kernel
theorem dX1_nextTick_26 : decode cX1_nextTick 26 = .ok (.ireturn, 1) := by decide +kernel
set_option maxRecDepth 20000 in
theorem ggX1_tea_X1_ok : GoodIn wsX1_tea wsX1_ok := goodIn_r _ [6, 7, 8, 9, 10, 11, 12, 13, 14, 15, 16, 17, 18, 19, 20, 21, 22, 23, 24] (by decide +kernel) (by decide +kernel)
set_option maxRecDepth 20000 in
theorem gX1_tea_X1_ok : GoodIn wsX1_tea (wsV RX1 116 RX1 yX1_ok wsX1_ok) := goodIn_app (goodIn_of _ (by decide +kernel)) ggX1_tea_X1_ok
theorem dX1_tea_0 : decode cX1_tea 0 = .ok (.aload_n 0, 1) := by decide +kernel
theorem dX1_tea_1 : decode cX1_tea 1 = .ok (.aload_n 0, 1) := by decide +kernel
theorem dX1_tea_2 : decode cX1_tea 2 = .ok (.getfield 87, 3) := by decide +kernel
theorem dX1_tea_5 : decode cX1_tea 5 = .ok (.invokevirtual 116, 3) := by decide +kernel
theorem dX1_tea_8 : decode cX1_tea 8 = .ok (.ireturn, 1) := by decide +kernel
set_option maxRecDepth 20000 in
theorem ggX1_spilt_X1_ok : GoodIn wsX1_spilt wsX1_ok := goodIn_r _ [6, 7, 8, 9, 10, 11, 12, 13, 14, 15, 16, 17, 18, 19, 20, 21, 22, 23, 24] (by decide +kernel) (by decide +kernel)
set_option maxRecDepth 20000 in
theorem gX1_spilt_X1_ok : GoodIn wsX1_spilt (wsV RX1 116 RX1 yX1_ok wsX1_ok) := goodIn_app (goodIn_of _ (by decide +kernel)) ggX1_spilt_X1_ok
theorem dX1_spilt_0 : decode cX1_spilt 0 = .ok (.aload_n 0, 1) := by decide +kernel
theorem dX1_spilt_1 : decode cX1_spilt 1 = .ok (.aload_n 0, 1) := by decide +kernel
theorem dX1_spilt_2 : decode cX1_spilt 2 = .ok (.getfield 94, 3) := by decide +kernel
theorem dX1_spilt_5 : decode cX1_spilt 5 = .ok (.invokevirtual 116, 3) := by decide +kernel
theorem dX1_spilt_8 : decode cX1_spilt 8 = .ok (.ireturn, 1) := by decide +kernel
set_option maxRecDepth 20000 in
theorem ggX1_spiltAtEnd_X1_atEnd : GoodIn wsX1_spiltAtEnd wsX1_atEnd := goodIn_r _ [5, 6, 7, 8, 9, 10, 11, 12, 13, 14, 15, 16, 17, 4, 18, 19, 20, 21, 22, 23, 24, 25, 26, 27, 28, 29, 30, 31, 37, 38, 39, 40, 41, 42, 43, 44, 45, 46, 47, 48, 49, 50, 51, 52, 53] (by decide +kernel) (by decide +kernel)
set_option maxRecDepth 20000 in
theorem gX1_spiltAtEnd_X1_atEnd : GoodIn wsX1_spiltAtEnd (wsV RX1 144 RX1 yX1_atEnd wsX1_atEnd) := goodIn_app (goodIn_of _ (by decide +kernel)) ggX1_spiltAtEnd_X1_atEnd
set_option maxRecDepth 20000 in
theorem ggX1_spiltAtEnd_X1_ok : GoodIn wsX1_spiltAtEnd wsX1_ok := goodIn_r _ [35, 36, 37, 38, 39, 40, 41, 42, 43, 44, 45, 46, 47, 48, 49, 50, 51, 52, 53] (by decide +kernel) (by decide +kernel)
set_option maxRecDepth 20000 in
theorem gX1_spiltAtEnd_X1_ok : GoodIn wsX1_spiltAtEnd (wsV RX1 116 RX1 yX1_ok wsX1_ok) := goodIn_app (goodIn_of _ (by decide +kernel)) ggX1_spiltAtEnd_X1_ok
theorem dX1_spiltAtEnd_0 : decode cX1_spiltAtEnd 0 = .ok (.aload_n 0, 1) := by decide +kernel
theorem dX1_spiltAtEnd_1 : decode cX1_spiltAtEnd 1 = .ok (.aload_n 0, 1) := by decide +kernel
theorem dX1_spiltAtEnd_2 : decode cX1_spiltAtEnd 2 = .ok (.invokevirtual 144, 3) := by decide +kernel
theorem dX1_spiltAtEnd_5 : decode cX1_spiltAtEnd 5 = .ok (.invokevirtual 116, 3) := by decide +kernel
theorem dX1_spiltAtEnd_8 : decode cX1_spiltAtEnd 8 = .ok (.ireturn, 1) := by decide +kernel
set_option maxRecDepth 20000 in
theorem ggX1_minuteOfSpill_X1_spill : GoodIn wsX1_minuteOfSpill wsX1_spill := goodIn_r _ [6, 7, 8, 9, 10, 11, 12, 5, 13, 14, 15, 16, 17, 18, 19, 20, 21, 22, 23, 24, 25, 26, 27, 28, 29, 30, 36, 37, 38, 39, 40, 41, 42, 43, 44, 45, 46, 47, 48, 49, 50, 51, 52] (by decide +kernel) (by decide +kernel)
set_option maxRecDepth 20000 in
theorem gX1_minuteOfSpill_X1_spill : GoodIn wsX1_minuteOfSpill (wsV RX1 97 RX1 yX1_spill wsX1_spill) := goodIn_app (goodIn_of _ (by decide +kernel)) ggX1_minuteOfSpill_X1_spill
set_option maxRecDepth 20000 in
theorem ggX1_minuteOfSpill_X1_ok : GoodIn wsX1_minuteOfSpill wsX1_ok := goodIn_r _ [34, 35, 36, 37, 38, 39, 40, 41, 42, 43, 44, 45, 46, 47, 48, 49, 50, 51, 52] (by decide +kernel) (by decide +kernel)
set_option maxRecDepth 20000 in
theorem gX1_minuteOfSpill_X1_ok : GoodIn wsX1_minuteOfSpill (wsV RX1 116 RX1 yX1_ok wsX1_ok) := goodIn_app (goodIn_of _ (by decide +kernel)) ggX1_minuteOfSpill_X1_ok
theorem dX1_minuteOfSpill_0 : decode cX1_minuteOfSpill 0 = .ok (.aload_n 0, 1) := by decide +kernel
theorem dX1_minuteOfSpill_1 : decode cX1_minuteOfSpill 1 = .ok (.aload_n 0, 1) := by decide +kernel
theorem dX1_minuteOfSpill_2 : decode cX1_minuteOfSpill 2 = .ok (.aload_n 0, 1) := by decide +kernel
theorem dX1_minuteOfSpill_3 : decode cX1_minuteOfSpill 3 = .ok (.getfield 32, 3) := by decide +kernel
theorem dX1_minuteOfSpill_6 : decode cX1_minuteOfSpill 6 = .ok (.invokevirtual 97, 3) := by decide +kernel
theorem dX1_minuteOfSpill_9 : decode cX1_minuteOfSpill 9 = .ok (.invokevirtual 116, 3) := by decide +kernel
theorem dX1_minuteOfSpill_12 : decode cX1_minuteOfSpill 12 = .ok (.ireturn, 1) := by decide +kernel
set_option maxRecDepth 20000 in
theorem ggX1_safeRate_X1_safest : GoodIn wsX1_safeRate wsX1_safest := goodIn_r _ [5, 6, 7, 8, 4, 9, 10, 11, 12, 13, 14, 15, 16, 17, 18, 19, 20, 21, 22, 23, 24, 25, 26, 27, 28, 29, 30, 31, 32, 33, 39, 40, 41, 42, 43, 44, 45, 46, 47, 48, 49, 50, 51, 52, 53, 54, 55] (by decide +kernel) (by decide +kernel)
set_option maxRecDepth 20000 in
theorem gX1_safeRate_X1_safest : GoodIn wsX1_safeRate (wsV RX1 147 RX1 yX1_safest wsX1_safest) := goodIn_app (goodIn_of _ (by decide +kernel)) ggX1_safeRate_X1_safest
set_option maxRecDepth 20000 in
theorem ggX1_safeRate_X1_ok : GoodIn wsX1_safeRate wsX1_ok := goodIn_r _ [37, 38, 39, 40, 41, 42, 43, 44, 45, 46, 47, 48, 49, 50, 51, 52, 53, 54, 55] (by decide +kernel) (by decide +kernel)
set_option maxRecDepth 20000 in
theorem gX1_safeRate_X1_ok : GoodIn wsX1_safeRate (wsV RX1 116 RX1 yX1_ok wsX1_ok) := goodIn_app (goodIn_of _ (by decide +kernel)) ggX1_safeRate_X1_ok
theorem dX1_safeRate_0 : decode cX1_safeRate 0 = .ok (.aload_n 0, 1) := by decide +kernel
theorem dX1_safeRate_1 : decode cX1_safeRate 1 = .ok (.aload_n 0, 1) := by decide +kernel
theorem dX1_safeRate_2 : decode cX1_safeRate 2 = .ok (.invokevirtual 147, 3) := by decide +kernel
theorem dX1_safeRate_5 : decode cX1_safeRate 5 = .ok (.invokevirtual 116, 3) := by decide +kernel
theorem dX1_safeRate_8 : decode cX1_safeRate 8 = .ok (.ireturn, 1) := by decide +kernel
set_option maxRecDepth 20000 in
theorem ggX1_worst_X1_alone : GoodIn wsX1_worst wsX1_alone := goodIn_r _ [6, 7, 8, 9, 10, 11, 12, 13, 14, 15, 16, 17, 18, 19, 20, 21, 22, 23, 24, 25, 26] (by decide +kernel) (by decide +kernel)
set_option maxRecDepth 20000 in
theorem gX1_worst_X1_alone : GoodIn wsX1_worst (wsV RX1 132 RX1 yX1_alone wsX1_alone) := goodIn_app (goodIn_of _ (by decide +kernel)) ggX1_worst_X1_alone
theorem dX1_worst_0 : decode cX1_worst 0 = .ok (.iconst (-1), 1) := by decide +kernel
theorem dX1_worst_1 : decode cX1_worst 1 = .ok (.istore_n 1, 1) := by decide +kernel
theorem dX1_worst_2 : decode cX1_worst 2 = .ok (.iconst 0, 1) := by decide +kernel
theorem dX1_worst_3 : decode cX1_worst 3 = .ok (.istore_n 2, 1) := by decide +kernel
theorem dX1_worst_4 : decode cX1_worst 4 = .ok (.iload_n 2, 1) := by decide +kernel
theorem dX1_worst_5 : decode cX1_worst 5 = .ok (.aload_n 0, 1) := by decide +kernel
theorem dX1_worst_6 : decode cX1_worst 6 = .ok (.getfield 48, 3) := by decide +kernel
theorem dX1_worst_9 : decode cX1_worst 9 = .ok (.if_icmp .ge 29, 3) := by decide +kernel
theorem dX1_worst_12 : decode cX1_worst 12 = .ok (.iload_n 1, 1) := by decide +kernel
theorem dX1_worst_13 : decode cX1_worst 13 = .ok (.iconst (-1), 1) := by decide +kernel
theorem dX1_worst_14 : decode cX1_worst 14 = .ok (.if_icmp .eq 16, 3) := by decide +kernel
theorem dX1_worst_17 : decode cX1_worst 17 = .ok (.aload_n 0, 1) := by decide +kernel
theorem dX1_worst_18 : decode cX1_worst 18 = .ok (.iload_n 2, 1) := by decide +kernel
theorem dX1_worst_19 : decode cX1_worst 19 = .ok (.invokevirtual 132, 3) := by decide +kernel
theorem dX1_worst_22 : decode cX1_worst 22 = .ok (.aload_n 0, 1) := by decide +kernel
theorem dX1_worst_23 : decode cX1_worst 23 = .ok (.iload_n 1, 1) := by decide +kernel
theorem dX1_worst_24 : decode cX1_worst 24 = .ok (.invokevirtual 132, 3) := by decide +kernel
theorem dX1_worst_27 : decode cX1_worst 27 = .ok (.if_icmp .le 5, 3) := by decide +kernel
theorem dX1_worst_30 : decode cX1_worst 30 = .ok (.iload_n 2, 1) := by decide +kernel
theorem dX1_worst_31 : decode cX1_worst 31 = .ok (.istore_n 1, 1) := by decide +kernel
theorem dX1_worst_32 : decode cX1_worst 32 = .ok (.iinc 2 1, 3) := by decide +kernel
theorem dX1_worst_35 : decode cX1_worst 35 = .ok (.goto (-31), 3) := by decide +kernel
theorem dX1_worst_38 : decode cX1_worst 38 = .ok (.iload_n 1, 1) := by decide +kernel
theorem dX1_worst_39 : decode cX1_worst 39 = .ok (.ireturn, 1) := by decide +kernel
set_option maxRecDepth 20000 in
theorem ggX1_bestToGiveUp_X1_worst : GoodIn wsX1_bestToGiveUp wsX1_worst := goodIn_r _ [5, 6, 7, 8, 9, 4, 10, 11, 12, 13, 19, 20, 21, 22, 23, 24, 25, 26, 27, 28, 29, 30, 31, 32, 33, 34, 35] (by decide +kernel) (by decide +kernel)
set_option maxRecDepth 20000 in
theorem gX1_bestToGiveUp_X1_worst : GoodIn wsX1_bestToGiveUp (wsV RX1 150 RX1 yX1_worst wsX1_worst) := goodIn_app (goodIn_of _ (by decide +kernel)) ggX1_bestToGiveUp_X1_worst
set_option maxRecDepth 20000 in
theorem ggX1_bestToGiveUp_X1_ok : GoodIn wsX1_bestToGiveUp wsX1_ok := goodIn_r _ [17, 18, 19, 20, 21, 22, 23, 24, 25, 26, 27, 28, 29, 30, 31, 32, 33, 34, 35] (by decide +kernel) (by decide +kernel)
set_option maxRecDepth 20000 in
theorem gX1_bestToGiveUp_X1_ok : GoodIn wsX1_bestToGiveUp (wsV RX1 116 RX1 yX1_ok wsX1_ok) := goodIn_app (goodIn_of _ (by decide +kernel)) ggX1_bestToGiveUp_X1_ok
theorem dX1_bestToGiveUp_0 : decode cX1_bestToGiveUp 0 = .ok (.aload_n 0, 1) := by decide +kernel
theorem dX1_bestToGiveUp_1 : decode cX1_bestToGiveUp 1 = .ok (.aload_n 0, 1) := by decide +kernel
theorem dX1_bestToGiveUp_2 : decode cX1_bestToGiveUp 2 = .ok (.invokevirtual 150, 3) := by decide +kernel
theorem dX1_bestToGiveUp_5 : decode cX1_bestToGiveUp 5 = .ok (.invokevirtual 116, 3) := by decide +kernel
theorem dX1_bestToGiveUp_8 : decode cX1_bestToGiveUp 8 = .ok (.ireturn, 1) := by decide +kernel
set_option maxRecDepth 20000 in
theorem ggX1_meanLastShadow_X1_shadow : GoodIn wsX1_meanLastShadow wsX1_shadow := goodIn_r _ [7, 8, 9, 10, 11, 12, 13, 14, 15, 16, 17, 18, 19, 20, 21, 22, 23, 24, 25] (by decide +kernel) (by decide +kernel)
set_option maxRecDepth 20000 in
theorem gX1_meanLastShadow_X1_shadow : GoodIn wsX1_meanLastShadow (wsV RX1 129 RX1 yX1_shadow wsX1_shadow) := goodIn_app (goodIn_of _ (by decide +kernel)) ggX1_meanLastShadow_X1_shadow
theorem dX1_meanLastShadow_0 : decode cX1_meanLastShadow 0 = .ok (.aload_n 0, 1) := by decide +kernel
theorem dX1_meanLastShadow_1 : decode cX1_meanLastShadow 1 = .ok (.iconst 0, 1) := by decide +kernel
theorem dX1_meanLastShadow_2 : decode cX1_meanLastShadow 2 = .ok (.putfield 38, 3) := by decide +kernel
theorem dX1_meanLastShadow_5 : decode cX1_meanLastShadow 5 = .ok (.iconst 0, 1) := by decide +kernel
theorem dX1_meanLastShadow_6 : decode cX1_meanLastShadow 6 = .ok (.istore_n 1, 1) := by decide +kernel
theorem dX1_meanLastShadow_7 : decode cX1_meanLastShadow 7 = .ok (.iconst 0, 1) := by decide +kernel
theorem dX1_meanLastShadow_8 : decode cX1_meanLastShadow 8 = .ok (.istore_n 2, 1) := by decide +kernel
theorem dX1_meanLastShadow_9 : decode cX1_meanLastShadow 9 = .ok (.iload_n 2, 1) := by decide +kernel
theorem dX1_meanLastShadow_10 : decode cX1_meanLastShadow 10 = .ok (.aload_n 0, 1) := by decide +kernel
theorem dX1_meanLastShadow_11 : decode cX1_meanLastShadow 11 = .ok (.getfield 41, 3) := by decide +kernel
theorem dX1_meanLastShadow_14 : decode cX1_meanLastShadow 14 = .ok (.if_icmp .ge 20, 3) := by decide +kernel
theorem dX1_meanLastShadow_17 : decode cX1_meanLastShadow 17 = .ok (.iload_n 1, 1) := by decide +kernel
theorem dX1_meanLastShadow_18 : decode cX1_meanLastShadow 18 = .ok (.aload_n 0, 1) := by decide +kernel
theorem dX1_meanLastShadow_19 : decode cX1_meanLastShadow 19 = .ok (.iload_n 2, 1) := by decide +kernel
theorem dX1_meanLastShadow_20 : decode cX1_meanLastShadow 20 = .ok (.sipush 359, 3) := by decide +kernel
theorem dX1_meanLastShadow_23 : decode cX1_meanLastShadow 23 = .ok (.invokevirtual 129, 3) := by decide +kernel
theorem dX1_meanLastShadow_26 : decode cX1_meanLastShadow 26 = .ok (.iadd, 1) := by decide +kernel
theorem dX1_meanLastShadow_27 : decode cX1_meanLastShadow 27 = .ok (.istore_n 1, 1) := by decide +kernel
theorem dX1_meanLastShadow_28 : decode cX1_meanLastShadow 28 = .ok (.iinc 2 1, 3) := by decide +kernel
theorem dX1_meanLastShadow_31 : decode cX1_meanLastShadow 31 = .ok (.goto (-22), 3) := by decide +kernel
theorem dX1_meanLastShadow_34 : decode cX1_meanLastShadow 34 = .ok (.aload_n 0, 1) := by decide +kernel
theorem dX1_meanLastShadow_35 : decode cX1_meanLastShadow 35 = .ok (.getfield 41, 3) := by decide +kernel
theorem dX1_meanLastShadow_38 : decode cX1_meanLastShadow 38 = .ok (.ifCond .ne 7, 3) := by decide +kernel
theorem dX1_meanLastShadow_41 : decode cX1_meanLastShadow 41 = .ok (.dconst 0, 1) := by decide +kernel
theorem dX1_meanLastShadow_42 : decode cX1_meanLastShadow 42 = .ok (.goto 11, 3) := by decide +kernel
theorem dX1_meanLastShadow_45 : decode cX1_meanLastShadow 45 = .ok (.iload_n 1, 1) := by decide +kernel
theorem dX1_meanLastShadow_46 : decode cX1_meanLastShadow 46 = .ok (.i2d, 1) := by decide +kernel
theorem dX1_meanLastShadow_47 : decode cX1_meanLastShadow 47 = .ok (.aload_n 0, 1) := by decide +kernel
theorem dX1_meanLastShadow_48 : decode cX1_meanLastShadow 48 = .ok (.getfield 41, 3) := by decide +kernel
theorem dX1_meanLastShadow_51 : decode cX1_meanLastShadow 51 = .ok (.i2d, 1) := by decide +kernel
theorem dX1_meanLastShadow_52 : decode cX1_meanLastShadow 52 = .ok (.ddiv, 1) := by decide +kernel
theorem dX1_meanLastShadow_53 : decode cX1_meanLastShadow 53 = .ok (.dreturn, 1) := by decide +kernel
set_option maxRecDepth 20000 in
theorem ggX1_digest_X1_awake : GoodIn wsX1_digest wsX1_awake := goodIn_r _ [19, 20, 21, 22, 18, 23, 24, 92, 93, 94, 95, 96, 97, 98, 99, 100, 101, 102, 103, 104, 105, 106, 107, 108] (by decide +kernel) (by decide +kernel)
set_option maxRecDepth 20000 in
theorem gX1_digest_X1_awake : GoodIn wsX1_digest (wsV RX1 75 RX1 yX1_awake wsX1_awake) := goodIn_app (goodIn_of _ (by decide +kernel)) ggX1_digest_X1_awake
set_option maxRecDepth 20000 in
theorem ggX1_digest_X1_longest : GoodIn wsX1_digest wsX1_longest := goodIn_r _ [28, 29, 30, 31, 32, 20, 21, 22, 18, 23, 24, 92, 93, 94, 95, 96, 97, 98, 99, 100, 101, 102, 103, 104, 105, 106, 107, 108] (by decide +kernel) (by decide +kernel)
set_option maxRecDepth 20000 in
theorem gX1_digest_X1_longest : GoodIn wsX1_digest (wsV RX1 122 RX1 yX1_longest wsX1_longest) := goodIn_app (goodIn_of _ (by decide +kernel)) ggX1_digest_X1_longest
set_option maxRecDepth 20000 in
theorem ggX1_digest_X1_atEnd : GoodIn wsX1_digest wsX1_atEnd := goodIn_r _ [36, 8, 9, 4, 37, 38, 39, 40, 31, 41, 42, 43, 44, 18, 45, 7, 46, 20, 21, 22, 23, 24, 47, 48, 49, 50, 14, 51, 92, 93, 94, 95, 96, 97, 98, 99, 100, 101, 102, 103, 104, 105, 106, 107, 108] (by decide +kernel) (by decide +kernel)
set_option maxRecDepth 20000 in
theorem gX1_digest_X1_atEnd : GoodIn wsX1_digest (wsV RX1 144 RX1 yX1_atEnd wsX1_atEnd) := goodIn_app (goodIn_of _ (by decide +kernel)) ggX1_digest_X1_atEnd
set_option maxRecDepth 20000 in
theorem ggX1_digest_X1_safest : GoodIn wsX1_digest wsX1_safest := goodIn_r _ [55, 56, 57, 58, 18, 59, 8, 4, 38, 42, 43, 44, 45, 7, 46, 39, 40, 31, 41, 20, 21, 22, 23, 24, 47, 48, 49, 50, 14, 51, 92, 93, 94, 95, 96, 97, 98, 99, 100, 101, 102, 103, 104, 105, 106, 107, 108] (by decide +kernel) (by decide +kernel)
set_option maxRecDepth 20000 in
theorem gX1_digest_X1_safest : GoodIn wsX1_digest (wsV RX1 147 RX1 yX1_safest wsX1_safest) := goodIn_app (goodIn_of _ (by decide +kernel)) ggX1_digest_X1_safest
set_option maxRecDepth 20000 in
theorem ggX1_digest_X1_worst : GoodIn wsX1_digest wsX1_worst := goodIn_r _ [63, 6, 64, 65, 66, 18, 67, 12, 13, 24, 92, 93, 94, 95, 96, 97, 98, 99, 100, 101, 102, 103, 104, 105, 106, 107, 108] (by decide +kernel) (by decide +kernel)
set_option maxRecDepth 20000 in
theorem gX1_digest_X1_worst : GoodIn wsX1_digest (wsV RX1 150 RX1 yX1_worst wsX1_worst) := goodIn_app (goodIn_of _ (by decide +kernel)) ggX1_digest_X1_worst
set_option maxRecDepth 20000 in
theorem ggX1_digest_X1_best : GoodIn wsX1_digest wsX1_best := goodIn_r _ [71, 7, 72, 73, 31, 74, 75, 76, 77, 18, 78, 14, 4, 79, 80, 81, 82, 47, 48, 49, 50, 51, 20, 21, 22, 23, 24, 15, 16, 17, 19, 92, 93, 94, 95, 96, 97, 98, 99, 100, 101, 102, 103, 104, 105, 106, 107, 108] (by decide +kernel) (by decide +kernel)
set_option maxRecDepth 20000 in
theorem gX1_digest_X1_best : GoodIn wsX1_digest (wsV RX1 138 RX1 yX1_best wsX1_best) := goodIn_app (goodIn_of _ (by decide +kernel)) ggX1_digest_X1_best
set_option maxRecDepth 20000 in
theorem ggX1_digest_X1_shadow : GoodIn wsX1_digest wsX1_shadow := goodIn_r _ [86, 87, 92, 93, 94, 95, 96, 97, 98, 99, 100, 101, 102, 103, 104, 105, 106, 107, 108] (by decide +kernel) (by decide +kernel)
set_option maxRecDepth 20000 in
theorem gX1_digest_X1_shadow : GoodIn wsX1_digest (wsV RX1 129 RX1 yX1_shadow wsX1_shadow) := goodIn_app (goodIn_of _ (by decide +kernel)) ggX1_digest_X1_shadow
set_option maxRecDepth 20000 in
theorem ggX1_digest_X1_alone : GoodIn wsX1_digest wsX1_alone := goodIn_r _ [67, 12, 13, 24, 92, 93, 94, 95, 96, 97, 98, 99, 100, 101, 102, 103, 104, 105, 106, 107, 108] (by decide +kernel) (by decide +kernel)
set_option maxRecDepth 20000 in
theorem gX1_digest_X1_alone : GoodIn wsX1_digest (wsV RX1 132 RX1 yX1_alone wsX1_alone) := goodIn_app (goodIn_of _ (by decide +kernel)) ggX1_digest_X1_alone
set_option maxRecDepth 20000 in
theorem ggX1_digest_X1_ticked : GoodIn wsX1_digest wsX1_ticked := goodIn_r _ [82, 4, 47, 48, 49, 18, 50, 14, 51, 20, 21, 22, 23, 24, 92, 93, 94, 95, 96, 97, 98, 99, 100, 101, 102, 103, 104, 105, 106, 107, 108] (by decide +kernel) (by decide +kernel)
set_option maxRecDepth 20000 in
theorem gX1_digest_X1_ticked : GoodIn wsX1_digest (wsV RX1 71 RX1 yX1_ticked wsX1_ticked) := goodIn_app (goodIn_of _ (by decide +kernel)) ggX1_digest_X1_ticked
set_option maxRecDepth 20000 in
theorem ggX1_digest_X1_next : GoodIn wsX1_digest wsX1_next := goodIn_r _ [91, 4, 47, 48, 49, 18, 50, 14, 51, 20, 21, 22, 23, 24, 92, 93, 94, 95, 96, 97, 98, 99, 100, 101, 102, 103, 104, 105, 106, 107, 108] (by decide +kernel) (by decide +kernel)
set_option maxRecDepth 20000 in
theorem gX1_digest_X1_next : GoodIn wsX1_digest (wsV RX1 141 RX1 yX1_next wsX1_next) := goodIn_app (goodIn_of _ (by decide +kernel)) ggX1_digest_X1_next
theorem dX1_digest_0 : decode cX1_digest 0 = .ok (.aload_n 0, 1) := by decide +kernel
theorem dX1_digest_1 : decode cX1_digest 1 = .ok (.iconst 0, 1) := by decide +kernel
theorem dX1_digest_2 : decode cX1_digest 2 = .ok (.putfield 38, 3) := by decide +kernel
theorem dX1_digest_5 : decode cX1_digest 5 = .ok (.bipush 13, 2) := by decide +kernel
theorem dX1_digest_7 : decode cX1_digest 7 = .ok (.newarray .int, 2) := by decide +kernel
theorem dX1_digest_9 : decode cX1_digest 9 = .ok (.dup, 1) := by decide +kernel
theorem dX1_digest_10 : decode cX1_digest 10 = .ok (.iconst 0, 1) := by decide +kernel
theorem dX1_digest_11 : decode cX1_digest 11 = .ok (.aload_n 0, 1) := by decide +kernel
theorem dX1_digest_12 : decode cX1_digest 12 = .ok (.getfield 113, 3) := by decide +kernel
theorem dX1_digest_15 : decode cX1_digest 15 = .ok (.iastore, 1) := by decide +kernel
theorem dX1_digest_16 : decode cX1_digest 16 = .ok (.dup, 1) := by decide +kernel
theorem dX1_digest_17 : decode cX1_digest 17 = .ok (.iconst 1, 1) := by decide +kernel
theorem dX1_digest_18 : decode cX1_digest 18 = .ok (.aload_n 0, 1) := by decide +kernel
theorem dX1_digest_19 : decode cX1_digest 19 = .ok (.getfield 64, 3) := by decide +kernel
theorem dX1_digest_22 : decode cX1_digest 22 = .ok (.iastore, 1) := by decide +kernel
theorem dX1_digest_23 : decode cX1_digest 23 = .ok (.dup, 1) := by decide +kernel
theorem dX1_digest_24 : decode cX1_digest 24 = .ok (.iconst 2, 1) := by decide +kernel
theorem dX1_digest_25 : decode cX1_digest 25 = .ok (.aload_n 0, 1) := by decide +kernel
theorem dX1_digest_26 : decode cX1_digest 26 = .ok (.aload_n 0, 1) := by decide +kernel
theorem dX1_digest_27 : decode cX1_digest 27 = .ok (.getfield 64, 3) := by decide +kernel
theorem dX1_digest_30 : decode cX1_digest 30 = .ok (.invokevirtual 75, 3) := by decide +kernel
theorem dX1_digest_33 : decode cX1_digest 33 = .ok (.iastore, 1) := by decide +kernel
theorem dX1_digest_34 : decode cX1_digest 34 = .ok (.dup, 1) := by decide +kernel
theorem dX1_digest_35 : decode cX1_digest 35 = .ok (.iconst 3, 1) := by decide +kernel
theorem dX1_digest_36 : decode cX1_digest 36 = .ok (.aload_n 0, 1) := by decide +kernel
theorem dX1_digest_37 : decode cX1_digest 37 = .ok (.invokevirtual 122, 3) := by decide +kernel
theorem dX1_digest_40 : decode cX1_digest 40 = .ok (.iastore, 1) := by decide +kernel
theorem dX1_digest_41 : decode cX1_digest 41 = .ok (.dup, 1) := by decide +kernel
theorem dX1_digest_42 : decode cX1_digest 42 = .ok (.iconst 4, 1) := by decide +kernel
theorem dX1_digest_43 : decode cX1_digest 43 = .ok (.aload_n 0, 1) := by decide +kernel
theorem dX1_digest_44 : decode cX1_digest 44 = .ok (.getfield 41, 3) := by decide +kernel
theorem dX1_digest_47 : decode cX1_digest 47 = .ok (.iastore, 1) := by decide +kernel
theorem dX1_digest_48 : decode cX1_digest 48 = .ok (.dup, 1) := by decide +kernel
theorem dX1_digest_49 : decode cX1_digest 49 = .ok (.iconst 5, 1) := by decide +kernel
theorem dX1_digest_50 : decode cX1_digest 50 = .ok (.aload_n 0, 1) := by decide +kernel
theorem dX1_digest_51 : decode cX1_digest 51 = .ok (.getfield 48, 3) := by decide +kernel
theorem dX1_digest_54 : decode cX1_digest 54 = .ok (.iastore, 1) := by decide +kernel
theorem dX1_digest_55 : decode cX1_digest 55 = .ok (.dup, 1) := by decide +kernel
theorem dX1_digest_56 : decode cX1_digest 56 = .ok (.bipush 6, 2) := by decide +kernel
theorem dX1_digest_58 : decode cX1_digest 58 = .ok (.aload_n 0, 1) := by decide +kernel
theorem dX1_digest_59 : decode cX1_digest 59 = .ok (.getfield 51, 3) := by decide +kernel
theorem dX1_digest_62 : decode cX1_digest 62 = .ok (.iastore, 1) := by decide +kernel
theorem dX1_digest_63 : decode cX1_digest 63 = .ok (.dup, 1) := by decide +kernel
theorem dX1_digest_64 : decode cX1_digest 64 = .ok (.bipush 7, 2) := by decide +kernel
theorem dX1_digest_66 : decode cX1_digest 66 = .ok (.aload_n 0, 1) := by decide +kernel
theorem dX1_digest_67 : decode cX1_digest 67 = .ok (.getfield 87, 3) := by decide +kernel
theorem dX1_digest_70 : decode cX1_digest 70 = .ok (.iastore, 1) := by decide +kernel
theorem dX1_digest_71 : decode cX1_digest 71 = .ok (.dup, 1) := by decide +kernel
theorem dX1_digest_72 : decode cX1_digest 72 = .ok (.bipush 8, 2) := by decide +kernel
theorem dX1_digest_74 : decode cX1_digest 74 = .ok (.aload_n 0, 1) := by decide +kernel
theorem dX1_digest_75 : decode cX1_digest 75 = .ok (.getfield 94, 3) := by decide +kernel
theorem dX1_digest_78 : decode cX1_digest 78 = .ok (.iastore, 1) := by decide +kernel
theorem dX1_digest_79 : decode cX1_digest 79 = .ok (.dup, 1) := by decide +kernel
theorem dX1_digest_80 : decode cX1_digest 80 = .ok (.bipush 9, 2) := by decide +kernel
theorem dX1_digest_82 : decode cX1_digest 82 = .ok (.aload_n 0, 1) := by decide +kernel
theorem dX1_digest_83 : decode cX1_digest 83 = .ok (.invokevirtual 144, 3) := by decide +kernel
theorem dX1_digest_86 : decode cX1_digest 86 = .ok (.iastore, 1) := by decide +kernel
theorem dX1_digest_87 : decode cX1_digest 87 = .ok (.dup, 1) := by decide +kernel
theorem dX1_digest_88 : decode cX1_digest 88 = .ok (.bipush 10, 2) := by decide +kernel
theorem dX1_digest_90 : decode cX1_digest 90 = .ok (.aload_n 0, 1) := by decide +kernel
theorem dX1_digest_91 : decode cX1_digest 91 = .ok (.invokevirtual 147, 3) := by decide +kernel
theorem dX1_digest_94 : decode cX1_digest 94 = .ok (.iastore, 1) := by decide +kernel
theorem dX1_digest_95 : decode cX1_digest 95 = .ok (.dup, 1) := by decide +kernel
theorem dX1_digest_96 : decode cX1_digest 96 = .ok (.bipush 11, 2) := by decide +kernel
theorem dX1_digest_98 : decode cX1_digest 98 = .ok (.aload_n 0, 1) := by decide +kernel
theorem dX1_digest_99 : decode cX1_digest 99 = .ok (.invokevirtual 150, 3) := by decide +kernel
theorem dX1_digest_102 : decode cX1_digest 102 = .ok (.iastore, 1) := by decide +kernel
theorem dX1_digest_103 : decode cX1_digest 103 = .ok (.dup, 1) := by decide +kernel
theorem dX1_digest_104 : decode cX1_digest 104 = .ok (.bipush 12, 2) := by decide +kernel
theorem dX1_digest_106 : decode cX1_digest 106 = .ok (.aload_n 0, 1) := by decide +kernel
theorem dX1_digest_107 : decode cX1_digest 107 = .ok (.invokevirtual 138, 3) := by decide +kernel
theorem dX1_digest_110 : decode cX1_digest 110 = .ok (.iastore, 1) := by decide +kernel
theorem dX1_digest_111 : decode cX1_digest 111 = .ok (.astore_n 1, 1) := by decide +kernel
theorem dX1_digest_112 : decode cX1_digest 112 = .ok (.ldc2_w 153, 3) := by decide +kernel
theorem dX1_digest_115 : decode cX1_digest 115 = .ok (.lstore_n 2, 1) := by decide +kernel
theorem dX1_digest_116 : decode cX1_digest 116 = .ok (.aload_n 1, 1) := by decide +kernel
theorem dX1_digest_117 : decode cX1_digest 117 = .ok (.astore 4, 2) := by decide +kernel
theorem dX1_digest_119 : decode cX1_digest 119 = .ok (.aload 4, 2) := by decide +kernel
theorem dX1_digest_121 : decode cX1_digest 121 = .ok (.arraylength, 1) := by decide +kernel
theorem dX1_digest_122 : decode cX1_digest 122 = .ok (.istore 5, 2) := by decide +kernel
theorem dX1_digest_124 : decode cX1_digest 124 = .ok (.iconst 0, 1) := by decide +kernel
theorem dX1_digest_125 : decode cX1_digest 125 = .ok (.istore 6, 2) := by decide +kernel
theorem dX1_digest_127 : decode cX1_digest 127 = .ok (.iload 6, 2) := by decide +kernel
theorem dX1_digest_129 : decode cX1_digest 129 = .ok (.iload 5, 2) := by decide +kernel
theorem dX1_digest_131 : decode cX1_digest 131 = .ok (.if_icmp .ge 26, 3) := by decide +kernel
theorem dX1_digest_134 : decode cX1_digest 134 = .ok (.aload 4, 2) := by decide +kernel
theorem dX1_digest_136 : decode cX1_digest 136 = .ok (.iload 6, 2) := by decide +kernel
theorem dX1_digest_138 : decode cX1_digest 138 = .ok (.iaload, 1) := by decide +kernel
theorem dX1_digest_139 : decode cX1_digest 139 = .ok (.istore 7, 2) := by decide +kernel
theorem dX1_digest_141 : decode cX1_digest 141 = .ok (.lload_n 2, 1) := by decide +kernel
theorem dX1_digest_142 : decode cX1_digest 142 = .ok (.ldc2_w 155, 3) := by decide +kernel
theorem dX1_digest_145 : decode cX1_digest 145 = .ok (.lmul, 1) := by decide +kernel
theorem dX1_digest_146 : decode cX1_digest 146 = .ok (.iload 7, 2) := by decide +kernel
theorem dX1_digest_148 : decode cX1_digest 148 = .ok (.i2l, 1) := by decide +kernel
theorem dX1_digest_149 : decode cX1_digest 149 = .ok (.ladd, 1) := by decide +kernel
theorem dX1_digest_150 : decode cX1_digest 150 = .ok (.lstore_n 2, 1) := by decide +kernel
theorem dX1_digest_151 : decode cX1_digest 151 = .ok (.iinc 6 1, 3) := by decide +kernel
theorem dX1_digest_154 : decode cX1_digest 154 = .ok (.goto (-27), 3) := by decide +kernel
theorem dX1_digest_157 : decode cX1_digest 157 = .ok (.iconst 0, 1) := by decide +kernel
theorem dX1_digest_158 : decode cX1_digest 158 = .ok (.istore 4, 2) := by decide +kernel
theorem dX1_digest_160 : decode cX1_digest 160 = .ok (.iload 4, 2) := by decide +kernel
theorem dX1_digest_162 : decode cX1_digest 162 = .ok (.aload_n 0, 1) := by decide +kernel
theorem dX1_digest_163 : decode cX1_digest 163 = .ok (.getfield 41, 3) := by decide +kernel
theorem dX1_digest_166 : decode cX1_digest 166 = .ok (.if_icmp .ge 25, 3) := by decide +kernel
theorem dX1_digest_169 : decode cX1_digest 169 = .ok (.lload_n 2, 1) := by decide +kernel
theorem dX1_digest_170 : decode cX1_digest 170 = .ok (.ldc2_w 155, 3) := by decide +kernel
theorem dX1_digest_173 : decode cX1_digest 173 = .ok (.lmul, 1) := by decide +kernel
theorem dX1_digest_174 : decode cX1_digest 174 = .ok (.aload_n 0, 1) := by decide +kernel
theorem dX1_digest_175 : decode cX1_digest 175 = .ok (.iload 4, 2) := by decide +kernel
theorem dX1_digest_177 : decode cX1_digest 177 = .ok (.bipush 100, 2) := by decide +kernel
theorem dX1_digest_179 : decode cX1_digest 179 = .ok (.invokevirtual 129, 3) := by decide +kernel
theorem dX1_digest_182 : decode cX1_digest 182 = .ok (.i2l, 1) := by decide +kernel
theorem dX1_digest_183 : decode cX1_digest 183 = .ok (.ladd, 1) := by decide +kernel
theorem dX1_digest_184 : decode cX1_digest 184 = .ok (.lstore_n 2, 1) := by decide +kernel
theorem dX1_digest_185 : decode cX1_digest 185 = .ok (.iinc 4 1, 3) := by decide +kernel
theorem dX1_digest_188 : decode cX1_digest 188 = .ok (.goto (-28), 3) := by decide +kernel
theorem dX1_digest_191 : decode cX1_digest 191 = .ok (.iconst 0, 1) := by decide +kernel
theorem dX1_digest_192 : decode cX1_digest 192 = .ok (.istore 4, 2) := by decide +kernel
theorem dX1_digest_194 : decode cX1_digest 194 = .ok (.iload 4, 2) := by decide +kernel
theorem dX1_digest_196 : decode cX1_digest 196 = .ok (.aload_n 0, 1) := by decide +kernel
theorem dX1_digest_197 : decode cX1_digest 197 = .ok (.getfield 48, 3) := by decide +kernel
theorem dX1_digest_200 : decode cX1_digest 200 = .ok (.if_icmp .ge 58, 3) := by decide +kernel
theorem dX1_digest_203 : decode cX1_digest 203 = .ok (.lload_n 2, 1) := by decide +kernel
theorem dX1_digest_204 : decode cX1_digest 204 = .ok (.ldc2_w 155, 3) := by decide +kernel
theorem dX1_digest_207 : decode cX1_digest 207 = .ok (.lmul, 1) := by decide +kernel
theorem dX1_digest_208 : decode cX1_digest 208 = .ok (.aload_n 0, 1) := by decide +kernel
theorem dX1_digest_209 : decode cX1_digest 209 = .ok (.getfield 13, 3) := by decide +kernel
theorem dX1_digest_212 : decode cX1_digest 212 = .ok (.iload 4, 2) := by decide +kernel
theorem dX1_digest_214 : decode cX1_digest 214 = .ok (.iaload, 1) := by decide +kernel
theorem dX1_digest_215 : decode cX1_digest 215 = .ok (.i2l, 1) := by decide +kernel
theorem dX1_digest_216 : decode cX1_digest 216 = .ok (.ladd, 1) := by decide +kernel
theorem dX1_digest_217 : decode cX1_digest 217 = .ok (.ldc2_w 155, 3) := by decide +kernel
theorem dX1_digest_220 : decode cX1_digest 220 = .ok (.lmul, 1) := by decide +kernel
theorem dX1_digest_221 : decode cX1_digest 221 = .ok (.aload_n 0, 1) := by decide +kernel
theorem dX1_digest_222 : decode cX1_digest 222 = .ok (.getfield 16, 3) := by decide +kernel
theorem dX1_digest_225 : decode cX1_digest 225 = .ok (.iload 4, 2) := by decide +kernel
theorem dX1_digest_227 : decode cX1_digest 227 = .ok (.iaload, 1) := by decide +kernel
theorem dX1_digest_228 : decode cX1_digest 228 = .ok (.i2l, 1) := by decide +kernel
theorem dX1_digest_229 : decode cX1_digest 229 = .ok (.ladd, 1) := by decide +kernel
theorem dX1_digest_230 : decode cX1_digest 230 = .ok (.aload_n 0, 1) := by decide +kernel
theorem dX1_digest_231 : decode cX1_digest 231 = .ok (.getfield 13, 3) := by decide +kernel
theorem dX1_digest_234 : decode cX1_digest 234 = .ok (.iload 4, 2) := by decide +kernel
theorem dX1_digest_236 : decode cX1_digest 236 = .ok (.iaload, 1) := by decide +kernel
theorem dX1_digest_237 : decode cX1_digest 237 = .ok (.i2l, 1) := by decide +kernel
theorem dX1_digest_238 : decode cX1_digest 238 = .ok (.lsub, 1) := by decide +kernel
theorem dX1_digest_239 : decode cX1_digest 239 = .ok (.ldc2_w 155, 3) := by decide +kernel
theorem dX1_digest_242 : decode cX1_digest 242 = .ok (.lmul, 1) := by decide +kernel
theorem dX1_digest_243 : decode cX1_digest 243 = .ok (.aload_n 0, 1) := by decide +kernel
theorem dX1_digest_244 : decode cX1_digest 244 = .ok (.iload 4, 2) := by decide +kernel
theorem dX1_digest_246 : decode cX1_digest 246 = .ok (.invokevirtual 132, 3) := by decide +kernel
theorem dX1_digest_249 : decode cX1_digest 249 = .ok (.i2l, 1) := by decide +kernel
theorem dX1_digest_250 : decode cX1_digest 250 = .ok (.ladd, 1) := by decide +kernel
theorem dX1_digest_251 : decode cX1_digest 251 = .ok (.lstore_n 2, 1) := by decide +kernel
theorem dX1_digest_252 : decode cX1_digest 252 = .ok (.iinc 4 1, 3) := by decide +kernel
theorem dX1_digest_255 : decode cX1_digest 255 = .ok (.goto (-61), 3) := by decide +kernel
theorem dX1_digest_258 : decode cX1_digest 258 = .ok (.iconst 0, 1) := by decide +kernel
theorem dX1_digest_259 : decode cX1_digest 259 = .ok (.istore 4, 2) := by decide +kernel
theorem dX1_digest_261 : decode cX1_digest 261 = .ok (.iload 4, 2) := by decide +kernel
theorem dX1_digest_263 : decode cX1_digest 263 = .ok (.aload_n 0, 1) := by decide +kernel
theorem dX1_digest_264 : decode cX1_digest 264 = .ok (.getfield 51, 3) := by decide +kernel
theorem dX1_digest_267 : decode cX1_digest 267 = .ok (.if_icmp .ge 55, 3) := by decide +kernel
theorem dX1_digest_270 : decode cX1_digest 270 = .ok (.lload_n 2, 1) := by decide +kernel
theorem dX1_digest_271 : decode cX1_digest 271 = .ok (.ldc2_w 155, 3) := by decide +kernel
theorem dX1_digest_274 : decode cX1_digest 274 = .ok (.lmul, 1) := by decide +kernel
theorem dX1_digest_275 : decode cX1_digest 275 = .ok (.aload_n 0, 1) := by decide +kernel
theorem dX1_digest_276 : decode cX1_digest 276 = .ok (.iload 4, 2) := by decide +kernel
theorem dX1_digest_278 : decode cX1_digest 278 = .ok (.invokevirtual 71, 3) := by decide +kernel
theorem dX1_digest_281 : decode cX1_digest 281 = .ok (.i2l, 1) := by decide +kernel
theorem dX1_digest_282 : decode cX1_digest 282 = .ok (.ladd, 1) := by decide +kernel
theorem dX1_digest_283 : decode cX1_digest 283 = .ok (.ldc2_w 155, 3) := by decide +kernel
theorem dX1_digest_286 : decode cX1_digest 286 = .ok (.lmul, 1) := by decide +kernel
theorem dX1_digest_287 : decode cX1_digest 287 = .ok (.aload_n 0, 1) := by decide +kernel
theorem dX1_digest_288 : decode cX1_digest 288 = .ok (.iload 4, 2) := by decide +kernel
theorem dX1_digest_290 : decode cX1_digest 290 = .ok (.invokevirtual 71, 3) := by decide +kernel
theorem dX1_digest_293 : decode cX1_digest 293 = .ok (.aload_n 0, 1) := by decide +kernel
theorem dX1_digest_294 : decode cX1_digest 294 = .ok (.getfield 22, 3) := by decide +kernel
theorem dX1_digest_297 : decode cX1_digest 297 = .ok (.iload 4, 2) := by decide +kernel
theorem dX1_digest_299 : decode cX1_digest 299 = .ok (.iaload, 1) := by decide +kernel
theorem dX1_digest_300 : decode cX1_digest 300 = .ok (.imul, 1) := by decide +kernel
theorem dX1_digest_301 : decode cX1_digest 301 = .ok (.i2l, 1) := by decide +kernel
theorem dX1_digest_302 : decode cX1_digest 302 = .ok (.ladd, 1) := by decide +kernel
theorem dX1_digest_303 : decode cX1_digest 303 = .ok (.ldc2_w 155, 3) := by decide +kernel
theorem dX1_digest_306 : decode cX1_digest 306 = .ok (.lmul, 1) := by decide +kernel
theorem dX1_digest_307 : decode cX1_digest 307 = .ok (.aload_n 0, 1) := by decide +kernel
theorem dX1_digest_308 : decode cX1_digest 308 = .ok (.iload 4, 2) := by decide +kernel
theorem dX1_digest_310 : decode cX1_digest 310 = .ok (.invokevirtual 141, 3) := by decide +kernel
theorem dX1_digest_313 : decode cX1_digest 313 = .ok (.i2l, 1) := by decide +kernel
theorem dX1_digest_314 : decode cX1_digest 314 = .ok (.ladd, 1) := by decide +kernel
theorem dX1_digest_315 : decode cX1_digest 315 = .ok (.lstore_n 2, 1) := by decide +kernel
theorem dX1_digest_316 : decode cX1_digest 316 = .ok (.iinc 4 1, 3) := by decide +kernel
theorem dX1_digest_319 : decode cX1_digest 319 = .ok (.goto (-58), 3) := by decide +kernel
theorem dX1_digest_322 : decode cX1_digest 322 = .ok (.lload_n 2, 1) := by decide +kernel
theorem dX1_digest_323 : decode cX1_digest 323 = .ok (.lreturn, 1) := by decide +kernel
theorem dJ9_abs_0f7a4_0 : decode cJ9_abs_0f7a4 0 = .ok (.iload_n 0, 1) := by decide +kernel
theorem dJ9_abs_0f7a4_1 : decode cJ9_abs_0f7a4 1 = .ok (.ifCond .ge 8, 3) := by decide +kernel
theorem dJ9_abs_0f7a4_4 : decode cJ9_abs_0f7a4 4 = .ok (.iload_n 0, 1) := by decide +kernel
theorem dJ9_abs_0f7a4_5 : decode cJ9_abs_0f7a4 5 = .ok (.ineg, 1) := by decide +kernel
theorem dJ9_abs_0f7a4_6 : decode cJ9_abs_0f7a4 6 = .ok (.goto 4, 3) := by decide +kernel
theorem dJ9_abs_0f7a4_9 : decode cJ9_abs_0f7a4 9 = .ok (.iload_n 0, 1) := by decide +kernel
theorem dJ9_abs_0f7a4_10 : decode cJ9_abs_0f7a4 10 = .ok (.ireturn, 1) := by decide +kernel
theorem dJ9_max_7cf53_0 : decode cJ9_max_7cf53 0 = .ok (.iload_n 0, 1) := by decide +kernel
theorem dJ9_max_7cf53_1 : decode cJ9_max_7cf53 1 = .ok (.iload_n 1, 1) := by decide +kernel
theorem dJ9_max_7cf53_2 : decode cJ9_max_7cf53 2 = .ok (.if_icmp .lt 7, 3) := by decide +kernel
theorem dJ9_max_7cf53_5 : decode cJ9_max_7cf53 5 = .ok (.iload_n 0, 1) := by decide +kernel
theorem dJ9_max_7cf53_6 : decode cJ9_max_7cf53 6 = .ok (.goto 4, 3) := by decide +kernel
theorem dJ9_max_7cf53_9 : decode cJ9_max_7cf53 9 = .ok (.iload_n 1, 1) := by decide +kernel
theorem dJ9_max_7cf53_10 : decode cJ9_max_7cf53 10 = .ok (.ireturn, 1) := by decide +kernel
theorem dJ9_min_7cf53_0 : decode cJ9_min_7cf53 0 = .ok (.iload_n 0, 1) := by decide +kernel
theorem dJ9_min_7cf53_1 : decode cJ9_min_7cf53 1 = .ok (.iload_n 1, 1) := by decide +kernel
theorem dJ9_min_7cf53_2 : decode cJ9_min_7cf53 2 = .ok (.if_icmp .gt 7, 3) := by decide +kernel
theorem dJ9_min_7cf53_5 : decode cJ9_min_7cf53 5 = .ok (.iload_n 0, 1) := by decide +kernel
theorem dJ9_min_7cf53_6 : decode cJ9_min_7cf53 6 = .ok (.goto 4, 3) := by decide +kernel
theorem dJ9_min_7cf53_9 : decode cJ9_min_7cf53 9 = .ok (.iload_n 1, 1) := by decide +kernel
theorem dJ9_min_7cf53_10 : decode cJ9_min_7cf53 10 = .ok (.ireturn, 1) := by decide +kernel
end
section
set_option maxRecDepth 20000 in
theorem ggL_addStick_X0_addStick : GoodIn wsL_addStick wsX0_addStick := goodIn_ca (goodIn_ca (goodIn_r _ [7, 8, 9, 10, 11, 12, 13, 14, 15, 16, 17, 18, 19, 20, 21, 22, 23, 24, 25, 26, 27, 28, 29, 30] (by decide +kernel) (by decide +kernel)) (goodIn_sub (fun _ h => List.mem_cons_of_mem _ (List.mem_append_left _ (List.mem_append_right _ h))) (by decide +kernel))) (goodIn_sub (fun _ h => List.mem_cons_of_mem _ (List.mem_append_right _ h)) (by decide +kernel))
set_option maxRecDepth 20000 in
theorem gL_addStick_X0_addStick : GoodIn wsL_addStick (wsV RL 7 RX0 yX0_addStick wsX0_addStick) := goodIn_app (goodIn_of _ (by decide +kernel)) ggL_addStick_X0_addStick
theorem dL_addStick_0 : decode cL_addStick 0 = .ok (.aload_n 2, 1) := by decide +kernel
theorem dL_addStick_1 : decode cL_addStick 1 = .ok (.iconst 0, 1) := by decide +kernel
theorem dL_addStick_2 : decode cL_addStick 2 = .ok (.aload_n 0, 1) := by decide +kernel
theorem dL_addStick_3 : decode cL_addStick 3 = .ok (.iload_n 1, 1) := by decide +kernel
theorem dL_addStick_4 : decode cL_addStick 4 = .ok (.invokevirtual 7, 3) := by decide +kernel
theorem dL_addStick_7 : decode cL_addStick 7 = .ok (.i2l, 1) := by decide +kernel
theorem dL_addStick_8 : decode cL_addStick 8 = .ok (.lastore, 1) := by decide +kernel
theorem dL_addStick_9 : decode cL_addStick 9 = .ok (.goto 9, 3) := by decide +kernel
theorem dL_addStick_12 : decode cL_addStick 12 = .ok (.astore_n 3, 1) := by decide +kernel
theorem dL_addStick_13 : decode cL_addStick 13 = .ok (.iconst 1, 1) := by decide +kernel
theorem dL_addStick_14 : decode cL_addStick 14 = .ok (.ireturn, 1) := by decide +kernel
theorem dL_addStick_15 : decode cL_addStick 15 = .ok (.astore_n 3, 1) := by decide +kernel
theorem dL_addStick_16 : decode cL_addStick 16 = .ok (.iconst 2, 1) := by decide +kernel
theorem dL_addStick_17 : decode cL_addStick 17 = .ok (.ireturn, 1) := by decide +kernel
theorem dL_addStick_18 : decode cL_addStick 18 = .ok (.iconst 0, 1) := by decide +kernel
theorem dL_addStick_19 : decode cL_addStick 19 = .ok (.ireturn, 1) := by decide +kernel
set_option maxRecDepth 20000 in
theorem ggL_addNap_X0_addNap : GoodIn wsL_addNap wsX0_addNap := goodIn_ca (goodIn_ca (goodIn_r _ [7, 8, 9, 10, 11, 12, 13, 14, 15, 16, 17, 6, 18, 19, 20, 21, 22, 23, 24, 25, 26, 27, 28, 29, 30, 31, 32, 33, 34, 35, 36, 37, 38, 39, 40] (by decide +kernel) (by decide +kernel)) (goodIn_sub (fun _ h => List.mem_cons_of_mem _ (List.mem_append_left _ (List.mem_append_right _ h))) (by decide +kernel))) (goodIn_sub (fun _ h => List.mem_cons_of_mem _ (List.mem_append_right _ h)) (by decide +kernel))
set_option maxRecDepth 20000 in
theorem gL_addNap_X0_addNap : GoodIn wsL_addNap (wsV RL 17 RX0 yX0_addNap wsX0_addNap) := goodIn_app (goodIn_of _ (by decide +kernel)) ggL_addNap_X0_addNap
theorem dL_addNap_0 : decode cL_addNap 0 = .ok (.aload_n 3, 1) := by decide +kernel
theorem dL_addNap_1 : decode cL_addNap 1 = .ok (.iconst 0, 1) := by decide +kernel
theorem dL_addNap_2 : decode cL_addNap 2 = .ok (.aload_n 0, 1) := by decide +kernel
theorem dL_addNap_3 : decode cL_addNap 3 = .ok (.iload_n 1, 1) := by decide +kernel
theorem dL_addNap_4 : decode cL_addNap 4 = .ok (.iload_n 2, 1) := by decide +kernel
theorem dL_addNap_5 : decode cL_addNap 5 = .ok (.invokevirtual 17, 3) := by decide +kernel
theorem dL_addNap_8 : decode cL_addNap 8 = .ok (.i2l, 1) := by decide +kernel
theorem dL_addNap_9 : decode cL_addNap 9 = .ok (.lastore, 1) := by decide +kernel
theorem dL_addNap_10 : decode cL_addNap 10 = .ok (.goto 11, 3) := by decide +kernel
theorem dL_addNap_13 : decode cL_addNap 13 = .ok (.astore 4, 2) := by decide +kernel
theorem dL_addNap_15 : decode cL_addNap 15 = .ok (.iconst 1, 1) := by decide +kernel
theorem dL_addNap_16 : decode cL_addNap 16 = .ok (.ireturn, 1) := by decide +kernel
theorem dL_addNap_17 : decode cL_addNap 17 = .ok (.astore 4, 2) := by decide +kernel
theorem dL_addNap_19 : decode cL_addNap 19 = .ok (.iconst 2, 1) := by decide +kernel
theorem dL_addNap_20 : decode cL_addNap 20 = .ok (.ireturn, 1) := by decide +kernel
theorem dL_addNap_21 : decode cL_addNap 21 = .ok (.iconst 0, 1) := by decide +kernel
theorem dL_addNap_22 : decode cL_addNap 22 = .ok (.ireturn, 1) := by decide +kernel
set_option maxRecDepth 20000 in
theorem ggL_giveUp_X0_giveUp : GoodIn wsL_giveUp wsX0_giveUp := goodIn_ca (goodIn_r _ [6, 7, 8, 9, 10, 11, 12, 5, 13, 14, 15, 16, 17, 18, 19, 20, 21, 22, 23, 24, 25, 26, 27, 28, 29, 30, 31, 32, 33, 34, 35, 36, 37, 38, 39, 40, 41] (by decide +kernel) (by decide +kernel)) (goodIn_sub (fun _ h => List.mem_cons_of_mem _ (List.mem_append_right _ h)) (by decide +kernel))
set_option maxRecDepth 20000 in
theorem gL_giveUp_X0_giveUp : GoodIn wsL_giveUp (wsV RL 21 RX0 yX0_giveUp wsX0_giveUp) := goodIn_app (goodIn_of _ (by decide +kernel)) ggL_giveUp_X0_giveUp
theorem dL_giveUp_0 : decode cL_giveUp 0 = .ok (.aload_n 2, 1) := by decide +kernel
theorem dL_giveUp_1 : decode cL_giveUp 1 = .ok (.iconst 0, 1) := by decide +kernel
theorem dL_giveUp_2 : decode cL_giveUp 2 = .ok (.aload_n 0, 1) := by decide +kernel
theorem dL_giveUp_3 : decode cL_giveUp 3 = .ok (.iload_n 1, 1) := by decide +kernel
theorem dL_giveUp_4 : decode cL_giveUp 4 = .ok (.invokevirtual 21, 3) := by decide +kernel
theorem dL_giveUp_7 : decode cL_giveUp 7 = .ok (.i2l, 1) := by decide +kernel
theorem dL_giveUp_8 : decode cL_giveUp 8 = .ok (.lastore, 1) := by decide +kernel
theorem dL_giveUp_9 : decode cL_giveUp 9 = .ok (.goto 6, 3) := by decide +kernel
theorem dL_giveUp_12 : decode cL_giveUp 12 = .ok (.astore_n 3, 1) := by decide +kernel
theorem dL_giveUp_13 : decode cL_giveUp 13 = .ok (.iconst 1, 1) := by decide +kernel
theorem dL_giveUp_14 : decode cL_giveUp 14 = .ok (.ireturn, 1) := by decide +kernel
theorem dL_giveUp_15 : decode cL_giveUp 15 = .ok (.iconst 0, 1) := by decide +kernel
theorem dL_giveUp_16 : decode cL_giveUp 16 = .ok (.ireturn, 1) := by decide +kernel
set_option maxRecDepth 20000 in
theorem ggL_addBee_X0_addBee : GoodIn wsL_addBee wsX0_addBee := goodIn_ca (goodIn_ca (goodIn_r _ [7, 8, 9, 10, 11, 12, 13, 14, 15, 16, 17, 18, 6, 19, 20, 21, 22, 23, 24, 25, 26, 27, 28, 29, 30, 31, 32, 33, 34, 35, 36] (by decide +kernel) (by decide +kernel)) (goodIn_sub (fun _ h => List.mem_cons_of_mem _ (List.mem_append_left _ (List.mem_append_right _ h))) (by decide +kernel))) (goodIn_sub (fun _ h => List.mem_cons_of_mem _ (List.mem_append_right _ h)) (by decide +kernel))
set_option maxRecDepth 20000 in
theorem gL_addBee_X0_addBee : GoodIn wsL_addBee (wsV RL 26 RX0 yX0_addBee wsX0_addBee) := goodIn_app (goodIn_of _ (by decide +kernel)) ggL_addBee_X0_addBee
theorem dL_addBee_0 : decode cL_addBee 0 = .ok (.aload_n 3, 1) := by decide +kernel
theorem dL_addBee_1 : decode cL_addBee 1 = .ok (.iconst 0, 1) := by decide +kernel
theorem dL_addBee_2 : decode cL_addBee 2 = .ok (.aload_n 0, 1) := by decide +kernel
theorem dL_addBee_3 : decode cL_addBee 3 = .ok (.iload_n 1, 1) := by decide +kernel
theorem dL_addBee_4 : decode cL_addBee 4 = .ok (.iload_n 2, 1) := by decide +kernel
theorem dL_addBee_5 : decode cL_addBee 5 = .ok (.invokevirtual 26, 3) := by decide +kernel
theorem dL_addBee_8 : decode cL_addBee 8 = .ok (.i2l, 1) := by decide +kernel
theorem dL_addBee_9 : decode cL_addBee 9 = .ok (.lastore, 1) := by decide +kernel
theorem dL_addBee_10 : decode cL_addBee 10 = .ok (.goto 11, 3) := by decide +kernel
theorem dL_addBee_13 : decode cL_addBee 13 = .ok (.astore 4, 2) := by decide +kernel
theorem dL_addBee_15 : decode cL_addBee 15 = .ok (.iconst 1, 1) := by decide +kernel
theorem dL_addBee_16 : decode cL_addBee 16 = .ok (.ireturn, 1) := by decide +kernel
theorem dL_addBee_17 : decode cL_addBee 17 = .ok (.astore 4, 2) := by decide +kernel
theorem dL_addBee_19 : decode cL_addBee 19 = .ok (.iconst 2, 1) := by decide +kernel
theorem dL_addBee_20 : decode cL_addBee 20 = .ok (.ireturn, 1) := by decide +kernel
theorem dL_addBee_21 : decode cL_addBee 21 = .ok (.iconst 0, 1) := by decide +kernel
theorem dL_addBee_22 : decode cL_addBee 22 = .ok (.ireturn, 1) := by decide +kernel
set_option maxRecDepth 20000 in
theorem ggL_setTea_X0_setTea : GoodIn wsL_setTea wsX0_setTea := goodIn_ca (goodIn_r _ [6, 7, 8, 9, 10, 11, 12, 13, 14, 15, 5, 16, 17, 18, 19, 20, 21, 22, 23, 24, 25, 26, 27, 28, 29, 30, 31, 32, 33, 34, 35, 36, 37, 38, 39, 40, 41, 42] (by decide +kernel) (by decide +kernel)) (goodIn_sub (fun _ h => List.mem_cons_of_mem _ (List.mem_append_right _ h)) (by decide +kernel))
set_option maxRecDepth 20000 in
theorem gL_setTea_X0_setTea : GoodIn wsL_setTea (wsV RL 29 RX0 yX0_setTea wsX0_setTea) := goodIn_app (goodIn_of _ (by decide +kernel)) ggL_setTea_X0_setTea
theorem dL_setTea_0 : decode cL_setTea 0 = .ok (.aload 4, 2) := by decide +kernel
theorem dL_setTea_2 : decode cL_setTea 2 = .ok (.iconst 0, 1) := by decide +kernel
theorem dL_setTea_3 : decode cL_setTea 3 = .ok (.aload_n 0, 1) := by decide +kernel
theorem dL_setTea_4 : decode cL_setTea 4 = .ok (.iload_n 1, 1) := by decide +kernel
theorem dL_setTea_5 : decode cL_setTea 5 = .ok (.iload_n 2, 1) := by decide +kernel
theorem dL_setTea_6 : decode cL_setTea 6 = .ok (.iload_n 3, 1) := by decide +kernel
theorem dL_setTea_7 : decode cL_setTea 7 = .ok (.invokevirtual 29, 3) := by decide +kernel
theorem dL_setTea_10 : decode cL_setTea 10 = .ok (.i2l, 1) := by decide +kernel
theorem dL_setTea_11 : decode cL_setTea 11 = .ok (.lastore, 1) := by decide +kernel
theorem dL_setTea_12 : decode cL_setTea 12 = .ok (.goto 7, 3) := by decide +kernel
theorem dL_setTea_15 : decode cL_setTea 15 = .ok (.astore 5, 2) := by decide +kernel
theorem dL_setTea_17 : decode cL_setTea 17 = .ok (.iconst 1, 1) := by decide +kernel
theorem dL_setTea_18 : decode cL_setTea 18 = .ok (.ireturn, 1) := by decide +kernel
theorem dL_setTea_19 : decode cL_setTea 19 = .ok (.iconst 0, 1) := by decide +kernel
theorem dL_setTea_20 : decode cL_setTea 20 = .ok (.ireturn, 1) := by decide +kernel
set_option maxRecDepth 20000 in
theorem ggL_pass_X0_pass : GoodIn wsL_pass wsX0_pass := goodIn_ca (goodIn_ca (goodIn_r _ [7, 8, 9, 10, 11, 12, 13, 14, 15, 16, 17, 6, 18, 19, 20, 21, 22, 23, 24, 25, 26, 27, 28, 29, 30, 31, 32, 33, 34, 35, 36, 37, 38, 39, 40, 41, 42, 43, 44, 45, 46, 47, 48, 49, 50, 51, 52] (by decide +kernel) (by decide +kernel)) (goodIn_sub (fun _ h => List.mem_cons_of_mem _ (List.mem_append_left _ (List.mem_append_right _ h))) (by decide +kernel))) (goodIn_sub (fun _ h => List.mem_cons_of_mem _ (List.mem_append_right _ h)) (by decide +kernel))
set_option maxRecDepth 20000 in
theorem gL_pass_X0_pass : GoodIn wsL_pass (wsV RL 33 RX0 yX0_pass wsX0_pass) := goodIn_app (goodIn_of _ (by decide +kernel)) ggL_pass_X0_pass
theorem dL_pass_0 : decode cL_pass 0 = .ok (.aload_n 2, 1) := by decide +kernel
theorem dL_pass_1 : decode cL_pass 1 = .ok (.iconst 0, 1) := by decide +kernel
theorem dL_pass_2 : decode cL_pass 2 = .ok (.aload_n 0, 1) := by decide +kernel
theorem dL_pass_3 : decode cL_pass 3 = .ok (.iload_n 1, 1) := by decide +kernel
theorem dL_pass_4 : decode cL_pass 4 = .ok (.invokevirtual 33, 3) := by decide +kernel
theorem dL_pass_7 : decode cL_pass 7 = .ok (.i2l, 1) := by decide +kernel
theorem dL_pass_8 : decode cL_pass 8 = .ok (.lastore, 1) := by decide +kernel
theorem dL_pass_9 : decode cL_pass 9 = .ok (.goto 9, 3) := by decide +kernel
theorem dL_pass_12 : decode cL_pass 12 = .ok (.astore_n 3, 1) := by decide +kernel
theorem dL_pass_13 : decode cL_pass 13 = .ok (.iconst 1, 1) := by decide +kernel
theorem dL_pass_14 : decode cL_pass 14 = .ok (.ireturn, 1) := by decide +kernel
theorem dL_pass_15 : decode cL_pass 15 = .ok (.astore_n 3, 1) := by decide +kernel
theorem dL_pass_16 : decode cL_pass 16 = .ok (.iconst 2, 1) := by decide +kernel
theorem dL_pass_17 : decode cL_pass 17 = .ok (.ireturn, 1) := by decide +kernel
theorem dL_pass_18 : decode cL_pass 18 = .ok (.iconst 0, 1) := by decide +kernel
theorem dL_pass_19 : decode cL_pass 19 = .ok (.ireturn, 1) := by decide +kernel
set_option maxRecDepth 20000 in
theorem ggL_isAsleep_X0_isAsleep : GoodIn wsL_isAsleep wsX0_isAsleep := goodIn_ca (goodIn_r _ [6, 7, 8, 9, 10, 5, 11, 12, 13, 14, 15, 16, 17, 18, 19, 20, 21, 22, 23, 24, 25, 26, 27, 28, 29, 30] (by decide +kernel) (by decide +kernel)) (goodIn_sub (fun _ h => List.mem_cons_of_mem _ (List.mem_append_right _ h)) (by decide +kernel))
set_option maxRecDepth 20000 in
theorem gL_isAsleep_X0_isAsleep : GoodIn wsL_isAsleep (wsV RL 36 RX0 yX0_isAsleep wsX0_isAsleep) := goodIn_app (goodIn_of _ (by decide +kernel)) ggL_isAsleep_X0_isAsleep
theorem dL_isAsleep_0 : decode cL_isAsleep 0 = .ok (.aload_n 2, 1) := by decide +kernel
theorem dL_isAsleep_1 : decode cL_isAsleep 1 = .ok (.iconst 0, 1) := by decide +kernel
theorem dL_isAsleep_2 : decode cL_isAsleep 2 = .ok (.aload_n 0, 1) := by decide +kernel
theorem dL_isAsleep_3 : decode cL_isAsleep 3 = .ok (.iload_n 1, 1) := by decide +kernel
theorem dL_isAsleep_4 : decode cL_isAsleep 4 = .ok (.invokevirtual 36, 3) := by decide +kernel
theorem dL_isAsleep_7 : decode cL_isAsleep 7 = .ok (.ifCond .eq 7, 3) := by decide +kernel
theorem dL_isAsleep_10 : decode cL_isAsleep 10 = .ok (.lconst 1, 1) := by decide +kernel
theorem dL_isAsleep_11 : decode cL_isAsleep 11 = .ok (.goto 4, 3) := by decide +kernel
theorem dL_isAsleep_14 : decode cL_isAsleep 14 = .ok (.lconst 0, 1) := by decide +kernel
theorem dL_isAsleep_15 : decode cL_isAsleep 15 = .ok (.lastore, 1) := by decide +kernel
theorem dL_isAsleep_16 : decode cL_isAsleep 16 = .ok (.goto 6, 3) := by decide +kernel
theorem dL_isAsleep_19 : decode cL_isAsleep 19 = .ok (.astore_n 3, 1) := by decide +kernel
theorem dL_isAsleep_20 : decode cL_isAsleep 20 = .ok (.iconst 1, 1) := by decide +kernel
theorem dL_isAsleep_21 : decode cL_isAsleep 21 = .ok (.ireturn, 1) := by decide +kernel
theorem dL_isAsleep_22 : decode cL_isAsleep 22 = .ok (.iconst 0, 1) := by decide +kernel
theorem dL_isAsleep_23 : decode cL_isAsleep 23 = .ok (.ireturn, 1) := by decide +kernel
set_option maxRecDepth 20000 in
theorem ggL_shadowAt_X0_shadowAt : GoodIn wsL_shadowAt wsX0_shadowAt := goodIn_ca (goodIn_ca (goodIn_r _ [7, 8, 9, 10, 6, 11, 12, 13, 14, 15, 16, 17, 18, 19, 20, 21, 22, 23, 24, 25, 26, 27, 28, 29, 30, 31, 32, 33, 34, 35, 36, 37, 38, 39, 40, 41, 42] (by decide +kernel) (by decide +kernel)) (goodIn_sub (fun _ h => List.mem_cons_of_mem _ (List.mem_append_left _ (List.mem_append_right _ h))) (by decide +kernel))) (goodIn_sub (fun _ h => List.mem_cons_of_mem _ (List.mem_append_right _ h)) (by decide +kernel))
set_option maxRecDepth 20000 in
theorem gL_shadowAt_X0_shadowAt : GoodIn wsL_shadowAt (wsV RL 40 RX0 yX0_shadowAt wsX0_shadowAt) := goodIn_app (goodIn_of _ (by decide +kernel)) ggL_shadowAt_X0_shadowAt
theorem dL_shadowAt_0 : decode cL_shadowAt 0 = .ok (.aload_n 3, 1) := by decide +kernel
theorem dL_shadowAt_1 : decode cL_shadowAt 1 = .ok (.iconst 0, 1) := by decide +kernel
theorem dL_shadowAt_2 : decode cL_shadowAt 2 = .ok (.aload_n 0, 1) := by decide +kernel
theorem dL_shadowAt_3 : decode cL_shadowAt 3 = .ok (.iload_n 1, 1) := by decide +kernel
theorem dL_shadowAt_4 : decode cL_shadowAt 4 = .ok (.iload_n 2, 1) := by decide +kernel
theorem dL_shadowAt_5 : decode cL_shadowAt 5 = .ok (.invokevirtual 40, 3) := by decide +kernel
theorem dL_shadowAt_8 : decode cL_shadowAt 8 = .ok (.i2l, 1) := by decide +kernel
theorem dL_shadowAt_9 : decode cL_shadowAt 9 = .ok (.lastore, 1) := by decide +kernel
theorem dL_shadowAt_10 : decode cL_shadowAt 10 = .ok (.goto 11, 3) := by decide +kernel
theorem dL_shadowAt_13 : decode cL_shadowAt 13 = .ok (.astore 4, 2) := by decide +kernel
theorem dL_shadowAt_15 : decode cL_shadowAt 15 = .ok (.iconst 1, 1) := by decide +kernel
theorem dL_shadowAt_16 : decode cL_shadowAt 16 = .ok (.ireturn, 1) := by decide +kernel
theorem dL_shadowAt_17 : decode cL_shadowAt 17 = .ok (.astore 4, 2) := by decide +kernel
theorem dL_shadowAt_19 : decode cL_shadowAt 19 = .ok (.iconst 2, 1) := by decide +kernel
theorem dL_shadowAt_20 : decode cL_shadowAt 20 = .ok (.ireturn, 1) := by decide +kernel
theorem dL_shadowAt_21 : decode cL_shadowAt 21 = .ok (.iconst 0, 1) := by decide +kernel
theorem dL_shadowAt_22 : decode cL_shadowAt 22 = .ok (.ireturn, 1) := by decide +kernel
set_option maxRecDepth 20000 in
theorem ggL_minuteOfShadow_X0_minuteOfShadow : GoodIn wsL_minuteOfShadow wsX0_minuteOfShadow := goodIn_ca (goodIn_r _ [6, 7, 8, 9, 5, 10, 11, 12, 13, 14, 15, 16, 17, 18, 19, 20, 21, 22, 23, 24, 25, 26, 27, 28, 29, 30, 31, 32, 33, 34, 35] (by decide +kernel) (by decide +kernel)) (goodIn_sub (fun _ h => List.mem_cons_of_mem _ (List.mem_append_right _ h)) (by decide +kernel))
set_option maxRecDepth 20000 in
theorem gL_minuteOfShadow_X0_minuteOfShadow : GoodIn wsL_minuteOfShadow (wsV RL 43 RX0 yX0_minuteOfShadow wsX0_minuteOfShadow) := goodIn_app (goodIn_of _ (by decide +kernel)) ggL_minuteOfShadow_X0_minuteOfShadow
theorem dL_minuteOfShadow_0 : decode cL_minuteOfShadow 0 = .ok (.aload_n 3, 1) := by decide +kernel
theorem dL_minuteOfShadow_1 : decode cL_minuteOfShadow 1 = .ok (.iconst 0, 1) := by decide +kernel
theorem dL_minuteOfShadow_2 : decode cL_minuteOfShadow 2 = .ok (.aload_n 0, 1) := by decide +kernel
theorem dL_minuteOfShadow_3 : decode cL_minuteOfShadow 3 = .ok (.iload_n 1, 1) := by decide +kernel
theorem dL_minuteOfShadow_4 : decode cL_minuteOfShadow 4 = .ok (.iload_n 2, 1) := by decide +kernel
theorem dL_minuteOfShadow_5 : decode cL_minuteOfShadow 5 = .ok (.invokevirtual 43, 3) := by decide +kernel
theorem dL_minuteOfShadow_8 : decode cL_minuteOfShadow 8 = .ok (.i2l, 1) := by decide +kernel
theorem dL_minuteOfShadow_9 : decode cL_minuteOfShadow 9 = .ok (.lastore, 1) := by decide +kernel
theorem dL_minuteOfShadow_10 : decode cL_minuteOfShadow 10 = .ok (.goto 7, 3) := by decide +kernel
theorem dL_minuteOfShadow_13 : decode cL_minuteOfShadow 13 = .ok (.astore 4, 2) := by decide +kernel
theorem dL_minuteOfShadow_15 : decode cL_minuteOfShadow 15 = .ok (.iconst 1, 1) := by decide +kernel
theorem dL_minuteOfShadow_16 : decode cL_minuteOfShadow 16 = .ok (.ireturn, 1) := by decide +kernel
theorem dL_minuteOfShadow_17 : decode cL_minuteOfShadow 17 = .ok (.iconst 0, 1) := by decide +kernel
theorem dL_minuteOfShadow_18 : decode cL_minuteOfShadow 18 = .ok (.ireturn, 1) := by decide +kernel
set_option maxRecDepth 20000 in
theorem ggL_allShadows_X0_allShadows : GoodIn wsL_allShadows wsX0_allShadows := goodIn_ca (goodIn_r _ [6, 7, 8, 9, 5, 10, 11, 12, 13, 14, 15, 16, 17, 18, 19, 20, 21, 22, 23, 24, 25, 26, 27, 28, 29, 30, 31, 32, 33, 34, 35, 36, 37, 38, 39] (by decide +kernel) (by decide +kernel)) (goodIn_sub (fun _ h => List.mem_cons_of_mem _ (List.mem_append_right _ h)) (by decide +kernel))
set_option maxRecDepth 20000 in
theorem gL_allShadows_X0_allShadows : GoodIn wsL_allShadows (wsV RL 46 RX0 yX0_allShadows wsX0_allShadows) := goodIn_app (goodIn_of _ (by decide +kernel)) ggL_allShadows_X0_allShadows
theorem dL_allShadows_0 : decode cL_allShadows 0 = .ok (.aload_n 2, 1) := by decide +kernel
theorem dL_allShadows_1 : decode cL_allShadows 1 = .ok (.iconst 0, 1) := by decide +kernel
theorem dL_allShadows_2 : decode cL_allShadows 2 = .ok (.aload_n 0, 1) := by decide +kernel
theorem dL_allShadows_3 : decode cL_allShadows 3 = .ok (.iload_n 1, 1) := by decide +kernel
theorem dL_allShadows_4 : decode cL_allShadows 4 = .ok (.invokevirtual 46, 3) := by decide +kernel
theorem dL_allShadows_7 : decode cL_allShadows 7 = .ok (.i2l, 1) := by decide +kernel
theorem dL_allShadows_8 : decode cL_allShadows 8 = .ok (.lastore, 1) := by decide +kernel
theorem dL_allShadows_9 : decode cL_allShadows 9 = .ok (.goto 6, 3) := by decide +kernel
theorem dL_allShadows_12 : decode cL_allShadows 12 = .ok (.astore_n 3, 1) := by decide +kernel
theorem dL_allShadows_13 : decode cL_allShadows 13 = .ok (.iconst 1, 1) := by decide +kernel
theorem dL_allShadows_14 : decode cL_allShadows 14 = .ok (.ireturn, 1) := by decide +kernel
theorem dL_allShadows_15 : decode cL_allShadows 15 = .ok (.iconst 0, 1) := by decide +kernel
theorem dL_allShadows_16 : decode cL_allShadows 16 = .ok (.ireturn, 1) := by decide +kernel
set_option maxRecDepth 20000 in
theorem ggL_startOf_X0_startOf : GoodIn wsL_startOf wsX0_startOf := goodIn_ca (goodIn_r _ [6, 7, 8, 9, 10, 5, 11, 12, 13, 14, 15, 16, 17, 18, 19, 20, 21, 22, 23, 24, 25, 26, 27, 28, 29, 30, 31] (by decide +kernel) (by decide +kernel)) (goodIn_sub (fun _ h => List.mem_cons_of_mem _ (List.mem_append_right _ h)) (by decide +kernel))
set_option maxRecDepth 20000 in
theorem gL_startOf_X0_startOf : GoodIn wsL_startOf (wsV RL 49 RX0 yX0_startOf wsX0_startOf) := goodIn_app (goodIn_of _ (by decide +kernel)) ggL_startOf_X0_startOf
theorem dL_startOf_0 : decode cL_startOf 0 = .ok (.aload_n 2, 1) := by decide +kernel
theorem dL_startOf_1 : decode cL_startOf 1 = .ok (.iconst 0, 1) := by decide +kernel
theorem dL_startOf_2 : decode cL_startOf 2 = .ok (.aload_n 0, 1) := by decide +kernel
theorem dL_startOf_3 : decode cL_startOf 3 = .ok (.iload_n 1, 1) := by decide +kernel
theorem dL_startOf_4 : decode cL_startOf 4 = .ok (.invokevirtual 49, 3) := by decide +kernel
theorem dL_startOf_7 : decode cL_startOf 7 = .ok (.i2l, 1) := by decide +kernel
theorem dL_startOf_8 : decode cL_startOf 8 = .ok (.lastore, 1) := by decide +kernel
theorem dL_startOf_9 : decode cL_startOf 9 = .ok (.goto 6, 3) := by decide +kernel
theorem dL_startOf_12 : decode cL_startOf 12 = .ok (.astore_n 3, 1) := by decide +kernel
theorem dL_startOf_13 : decode cL_startOf 13 = .ok (.iconst 1, 1) := by decide +kernel
theorem dL_startOf_14 : decode cL_startOf 14 = .ok (.ireturn, 1) := by decide +kernel
theorem dL_startOf_15 : decode cL_startOf 15 = .ok (.iconst 0, 1) := by decide +kernel
theorem dL_startOf_16 : decode cL_startOf 16 = .ok (.ireturn, 1) := by decide +kernel
set_option maxRecDepth 20000 in
theorem ggL_lengthOf_X0_lengthOf : GoodIn wsL_lengthOf wsX0_lengthOf := goodIn_ca (goodIn_r _ [6, 7, 8, 9, 10, 11, 5, 12, 13, 14, 15, 16, 17, 18, 19, 20, 21, 22, 23, 24, 25, 26, 27, 28, 29, 30, 31, 32] (by decide +kernel) (by decide +kernel)) (goodIn_sub (fun _ h => List.mem_cons_of_mem _ (List.mem_append_right _ h)) (by decide +kernel))
set_option maxRecDepth 20000 in
theorem gL_lengthOf_X0_lengthOf : GoodIn wsL_lengthOf (wsV RL 52 RX0 yX0_lengthOf wsX0_lengthOf) := goodIn_app (goodIn_of _ (by decide +kernel)) ggL_lengthOf_X0_lengthOf
theorem dL_lengthOf_0 : decode cL_lengthOf 0 = .ok (.aload_n 2, 1) := by decide +kernel
theorem dL_lengthOf_1 : decode cL_lengthOf 1 = .ok (.iconst 0, 1) := by decide +kernel
theorem dL_lengthOf_2 : decode cL_lengthOf 2 = .ok (.aload_n 0, 1) := by decide +kernel
theorem dL_lengthOf_3 : decode cL_lengthOf 3 = .ok (.iload_n 1, 1) := by decide +kernel
theorem dL_lengthOf_4 : decode cL_lengthOf 4 = .ok (.invokevirtual 52, 3) := by decide +kernel
theorem dL_lengthOf_7 : decode cL_lengthOf 7 = .ok (.i2l, 1) := by decide +kernel
theorem dL_lengthOf_8 : decode cL_lengthOf 8 = .ok (.lastore, 1) := by decide +kernel
theorem dL_lengthOf_9 : decode cL_lengthOf 9 = .ok (.goto 6, 3) := by decide +kernel
theorem dL_lengthOf_12 : decode cL_lengthOf 12 = .ok (.astore_n 3, 1) := by decide +kernel
theorem dL_lengthOf_13 : decode cL_lengthOf 13 = .ok (.iconst 1, 1) := by decide +kernel
theorem dL_lengthOf_14 : decode cL_lengthOf 14 = .ok (.ireturn, 1) := by decide +kernel
theorem dL_lengthOf_15 : decode cL_lengthOf 15 = .ok (.iconst 0, 1) := by decide +kernel
theorem dL_lengthOf_16 : decode cL_lengthOf 16 = .ok (.ireturn, 1) := by decide +kernel
set_option maxRecDepth 20000 in
theorem ggL_napsAt_X0_napsAt : GoodIn wsL_napsAt wsX0_napsAt := goodIn_ca (goodIn_r _ [6, 7, 8, 9, 10, 5, 11, 12, 13, 14, 15, 16, 17, 18, 19, 20, 21, 22, 23, 24, 25, 26, 27, 28, 29, 30] (by decide +kernel) (by decide +kernel)) (goodIn_sub (fun _ h => List.mem_cons_of_mem _ (List.mem_append_right _ h)) (by decide +kernel))
set_option maxRecDepth 20000 in
theorem gL_napsAt_X0_napsAt : GoodIn wsL_napsAt (wsV RL 55 RX0 yX0_napsAt wsX0_napsAt) := goodIn_app (goodIn_of _ (by decide +kernel)) ggL_napsAt_X0_napsAt
theorem dL_napsAt_0 : decode cL_napsAt 0 = .ok (.aload_n 2, 1) := by decide +kernel
theorem dL_napsAt_1 : decode cL_napsAt 1 = .ok (.iconst 0, 1) := by decide +kernel
theorem dL_napsAt_2 : decode cL_napsAt 2 = .ok (.aload_n 0, 1) := by decide +kernel
theorem dL_napsAt_3 : decode cL_napsAt 3 = .ok (.iload_n 1, 1) := by decide +kernel
theorem dL_napsAt_4 : decode cL_napsAt 4 = .ok (.invokevirtual 55, 3) := by decide +kernel
theorem dL_napsAt_7 : decode cL_napsAt 7 = .ok (.i2l, 1) := by decide +kernel
theorem dL_napsAt_8 : decode cL_napsAt 8 = .ok (.lastore, 1) := by decide +kernel
theorem dL_napsAt_9 : decode cL_napsAt 9 = .ok (.goto 6, 3) := by decide +kernel
theorem dL_napsAt_12 : decode cL_napsAt 12 = .ok (.astore_n 3, 1) := by decide +kernel
theorem dL_napsAt_13 : decode cL_napsAt 13 = .ok (.iconst 1, 1) := by decide +kernel
theorem dL_napsAt_14 : decode cL_napsAt 14 = .ok (.ireturn, 1) := by decide +kernel
theorem dL_napsAt_15 : decode cL_napsAt 15 = .ok (.iconst 0, 1) := by decide +kernel
theorem dL_napsAt_16 : decode cL_napsAt 16 = .ok (.ireturn, 1) := by decide +kernel
set_option maxRecDepth 20000 in
theorem ggL_minutesAlone_X0_minutesAlone : GoodIn wsL_minutesAlone wsX0_minutesAlone := goodIn_ca (goodIn_r _ [6, 7, 8, 9, 5, 10, 11, 12, 13, 14, 15, 16, 17, 18, 19, 20, 21, 22, 23, 24, 25, 26, 27, 28, 29, 30, 31, 32, 33, 34, 35, 36, 37, 38, 39, 40, 41] (by decide +kernel) (by decide +kernel)) (goodIn_sub (fun _ h => List.mem_cons_of_mem _ (List.mem_append_right _ h)) (by decide +kernel))
set_option maxRecDepth 20000 in
theorem gL_minutesAlone_X0_minutesAlone : GoodIn wsL_minutesAlone (wsV RL 58 RX0 yX0_minutesAlone wsX0_minutesAlone) := goodIn_app (goodIn_of _ (by decide +kernel)) ggL_minutesAlone_X0_minutesAlone
theorem dL_minutesAlone_0 : decode cL_minutesAlone 0 = .ok (.aload_n 2, 1) := by decide +kernel
theorem dL_minutesAlone_1 : decode cL_minutesAlone 1 = .ok (.iconst 0, 1) := by decide +kernel
theorem dL_minutesAlone_2 : decode cL_minutesAlone 2 = .ok (.aload_n 0, 1) := by decide +kernel
theorem dL_minutesAlone_3 : decode cL_minutesAlone 3 = .ok (.iload_n 1, 1) := by decide +kernel
theorem dL_minutesAlone_4 : decode cL_minutesAlone 4 = .ok (.invokevirtual 58, 3) := by decide +kernel
theorem dL_minutesAlone_7 : decode cL_minutesAlone 7 = .ok (.i2l, 1) := by decide +kernel
theorem dL_minutesAlone_8 : decode cL_minutesAlone 8 = .ok (.lastore, 1) := by decide +kernel
theorem dL_minutesAlone_9 : decode cL_minutesAlone 9 = .ok (.goto 6, 3) := by decide +kernel
theorem dL_minutesAlone_12 : decode cL_minutesAlone 12 = .ok (.astore_n 3, 1) := by decide +kernel
theorem dL_minutesAlone_13 : decode cL_minutesAlone 13 = .ok (.iconst 1, 1) := by decide +kernel
theorem dL_minutesAlone_14 : decode cL_minutesAlone 14 = .ok (.ireturn, 1) := by decide +kernel
theorem dL_minutesAlone_15 : decode cL_minutesAlone 15 = .ok (.iconst 0, 1) := by decide +kernel
theorem dL_minutesAlone_16 : decode cL_minutesAlone 16 = .ok (.ireturn, 1) := by decide +kernel
set_option maxRecDepth 20000 in
theorem ggL_ticksOf_X0_ticksOf : GoodIn wsL_ticksOf wsX0_ticksOf := goodIn_ca (goodIn_r _ [6, 7, 8, 9, 5, 10, 11, 12, 13, 14, 15, 16, 17, 18, 19, 20, 21, 22, 23, 24, 25, 26, 27, 28, 29, 30, 31, 32, 33, 34, 35, 36, 37, 38, 39, 40, 41, 42, 43, 44, 45, 46] (by decide +kernel) (by decide +kernel)) (goodIn_sub (fun _ h => List.mem_cons_of_mem _ (List.mem_append_right _ h)) (by decide +kernel))
set_option maxRecDepth 20000 in
theorem gL_ticksOf_X0_ticksOf : GoodIn wsL_ticksOf (wsV RL 61 RX0 yX0_ticksOf wsX0_ticksOf) := goodIn_app (goodIn_of _ (by decide +kernel)) ggL_ticksOf_X0_ticksOf
theorem dL_ticksOf_0 : decode cL_ticksOf 0 = .ok (.aload_n 2, 1) := by decide +kernel
theorem dL_ticksOf_1 : decode cL_ticksOf 1 = .ok (.iconst 0, 1) := by decide +kernel
theorem dL_ticksOf_2 : decode cL_ticksOf 2 = .ok (.aload_n 0, 1) := by decide +kernel
theorem dL_ticksOf_3 : decode cL_ticksOf 3 = .ok (.iload_n 1, 1) := by decide +kernel
theorem dL_ticksOf_4 : decode cL_ticksOf 4 = .ok (.invokevirtual 61, 3) := by decide +kernel
theorem dL_ticksOf_7 : decode cL_ticksOf 7 = .ok (.i2l, 1) := by decide +kernel
theorem dL_ticksOf_8 : decode cL_ticksOf 8 = .ok (.lastore, 1) := by decide +kernel
theorem dL_ticksOf_9 : decode cL_ticksOf 9 = .ok (.goto 6, 3) := by decide +kernel
theorem dL_ticksOf_12 : decode cL_ticksOf 12 = .ok (.astore_n 3, 1) := by decide +kernel
theorem dL_ticksOf_13 : decode cL_ticksOf 13 = .ok (.iconst 1, 1) := by decide +kernel
theorem dL_ticksOf_14 : decode cL_ticksOf 14 = .ok (.ireturn, 1) := by decide +kernel
theorem dL_ticksOf_15 : decode cL_ticksOf 15 = .ok (.iconst 0, 1) := by decide +kernel
theorem dL_ticksOf_16 : decode cL_ticksOf 16 = .ok (.ireturn, 1) := by decide +kernel
set_option maxRecDepth 20000 in
theorem ggL_measuredBy_X0_measuredBy : GoodIn wsL_measuredBy wsX0_measuredBy := goodIn_ca (goodIn_r _ [6, 7, 8, 9, 10, 5, 11, 12, 13, 14, 15, 16, 17, 18, 19, 20, 21, 22, 23, 24, 25, 26, 27, 28, 29, 30, 31, 32, 33, 34, 35, 36, 37, 38, 39, 40, 41, 42, 43, 44, 45, 46] (by decide +kernel) (by decide +kernel)) (goodIn_sub (fun _ h => List.mem_cons_of_mem _ (List.mem_append_right _ h)) (by decide +kernel))
set_option maxRecDepth 20000 in
theorem gL_measuredBy_X0_measuredBy : GoodIn wsL_measuredBy (wsV RL 64 RX0 yX0_measuredBy wsX0_measuredBy) := goodIn_app (goodIn_of _ (by decide +kernel)) ggL_measuredBy_X0_measuredBy
theorem dL_measuredBy_0 : decode cL_measuredBy 0 = .ok (.aload_n 2, 1) := by decide +kernel
theorem dL_measuredBy_1 : decode cL_measuredBy 1 = .ok (.iconst 0, 1) := by decide +kernel
theorem dL_measuredBy_2 : decode cL_measuredBy 2 = .ok (.aload_n 0, 1) := by decide +kernel
theorem dL_measuredBy_3 : decode cL_measuredBy 3 = .ok (.iload_n 1, 1) := by decide +kernel
theorem dL_measuredBy_4 : decode cL_measuredBy 4 = .ok (.invokevirtual 64, 3) := by decide +kernel
theorem dL_measuredBy_7 : decode cL_measuredBy 7 = .ok (.i2l, 1) := by decide +kernel
theorem dL_measuredBy_8 : decode cL_measuredBy 8 = .ok (.lastore, 1) := by decide +kernel
theorem dL_measuredBy_9 : decode cL_measuredBy 9 = .ok (.goto 6, 3) := by decide +kernel
theorem dL_measuredBy_12 : decode cL_measuredBy 12 = .ok (.astore_n 3, 1) := by decide +kernel
theorem dL_measuredBy_13 : decode cL_measuredBy 13 = .ok (.iconst 1, 1) := by decide +kernel
theorem dL_measuredBy_14 : decode cL_measuredBy 14 = .ok (.ireturn, 1) := by decide +kernel
theorem dL_measuredBy_15 : decode cL_measuredBy 15 = .ok (.iconst 0, 1) := by decide +kernel
theorem dL_measuredBy_16 : decode cL_measuredBy 16 = .ok (.ireturn, 1) := by decide +kernel
set_option maxRecDepth 20000 in
theorem ggL_errorOf_X0_errorOf : GoodIn wsL_errorOf wsX0_errorOf := goodIn_ca (goodIn_r _ [6, 7, 8, 9, 5, 10, 11, 12, 13, 14, 15, 16, 17, 18, 19, 20, 21, 22, 23, 24, 25, 26, 27, 28, 29, 30, 31, 32, 33, 34, 35, 36, 37, 38, 39, 40, 41, 42, 43, 44, 45, 46, 47, 48, 49, 50, 51, 52, 53, 54] (by decide +kernel) (by decide +kernel)) (goodIn_sub (fun _ h => List.mem_cons_of_mem _ (List.mem_append_right _ h)) (by decide +kernel))
set_option maxRecDepth 20000 in
theorem gL_errorOf_X0_errorOf : GoodIn wsL_errorOf (wsV RL 67 RX0 yX0_errorOf wsX0_errorOf) := goodIn_app (goodIn_of _ (by decide +kernel)) ggL_errorOf_X0_errorOf
theorem dL_errorOf_0 : decode cL_errorOf 0 = .ok (.aload_n 2, 1) := by decide +kernel
theorem dL_errorOf_1 : decode cL_errorOf 1 = .ok (.iconst 0, 1) := by decide +kernel
theorem dL_errorOf_2 : decode cL_errorOf 2 = .ok (.aload_n 0, 1) := by decide +kernel
theorem dL_errorOf_3 : decode cL_errorOf 3 = .ok (.iload_n 1, 1) := by decide +kernel
theorem dL_errorOf_4 : decode cL_errorOf 4 = .ok (.invokevirtual 67, 3) := by decide +kernel
theorem dL_errorOf_7 : decode cL_errorOf 7 = .ok (.i2l, 1) := by decide +kernel
theorem dL_errorOf_8 : decode cL_errorOf 8 = .ok (.lastore, 1) := by decide +kernel
theorem dL_errorOf_9 : decode cL_errorOf 9 = .ok (.goto 6, 3) := by decide +kernel
theorem dL_errorOf_12 : decode cL_errorOf 12 = .ok (.astore_n 3, 1) := by decide +kernel
theorem dL_errorOf_13 : decode cL_errorOf 13 = .ok (.iconst 1, 1) := by decide +kernel
theorem dL_errorOf_14 : decode cL_errorOf 14 = .ok (.ireturn, 1) := by decide +kernel
theorem dL_errorOf_15 : decode cL_errorOf 15 = .ok (.iconst 0, 1) := by decide +kernel
theorem dL_errorOf_16 : decode cL_errorOf 16 = .ok (.ireturn, 1) := by decide +kernel
set_option maxRecDepth 20000 in
theorem ggL_nextTick_X0_nextTick : GoodIn wsL_nextTick wsX0_nextTick := goodIn_ca (goodIn_r _ [6, 7, 8, 9, 10, 5, 11, 12, 13, 14, 15, 16, 17, 18, 19, 20, 21, 22, 23, 24, 25, 26, 27, 28, 29, 30, 31, 32, 33, 34, 35, 36, 37, 38, 39, 40, 41, 42] (by decide +kernel) (by decide +kernel)) (goodIn_sub (fun _ h => List.mem_cons_of_mem _ (List.mem_append_right _ h)) (by decide +kernel))
set_option maxRecDepth 20000 in
theorem gL_nextTick_X0_nextTick : GoodIn wsL_nextTick (wsV RL 70 RX0 yX0_nextTick wsX0_nextTick) := goodIn_app (goodIn_of _ (by decide +kernel)) ggL_nextTick_X0_nextTick
theorem dL_nextTick_0 : decode cL_nextTick 0 = .ok (.aload_n 2, 1) := by decide +kernel
theorem dL_nextTick_1 : decode cL_nextTick 1 = .ok (.iconst 0, 1) := by decide +kernel
theorem dL_nextTick_2 : decode cL_nextTick 2 = .ok (.aload_n 0, 1) := by decide +kernel
theorem dL_nextTick_3 : decode cL_nextTick 3 = .ok (.iload_n 1, 1) := by decide +kernel
theorem dL_nextTick_4 : decode cL_nextTick 4 = .ok (.invokevirtual 70, 3) := by decide +kernel
theorem dL_nextTick_7 : decode cL_nextTick 7 = .ok (.i2l, 1) := by decide +kernel
theorem dL_nextTick_8 : decode cL_nextTick 8 = .ok (.lastore, 1) := by decide +kernel
theorem dL_nextTick_9 : decode cL_nextTick 9 = .ok (.goto 6, 3) := by decide +kernel
theorem dL_nextTick_12 : decode cL_nextTick 12 = .ok (.astore_n 3, 1) := by decide +kernel
theorem dL_nextTick_13 : decode cL_nextTick 13 = .ok (.iconst 1, 1) := by decide +kernel
theorem dL_nextTick_14 : decode cL_nextTick 14 = .ok (.ireturn, 1) := by decide +kernel
theorem dL_nextTick_15 : decode cL_nextTick 15 = .ok (.iconst 0, 1) := by decide +kernel
theorem dL_nextTick_16 : decode cL_nextTick 16 = .ok (.ireturn, 1) := by decide +kernel
end
section
set_option maxRecDepth 20000 in
theorem ggL_law_X0_init : GoodIn wsL_law wsX0_init := goodIn_r _ [9, 10, 11, 12, 13, 14, 15, 16, 17, 18, 19, 20, 21, 22, 23, 603, 604, 605, 606, 607, 608, 609, 610, 611, 612, 613, 614, 615, 616, 617, 618, 619] (by decide +kernel) (by decide +kernel)
set_option maxRecDepth 20000 in
theorem gL_law_X0_init : GoodIn wsL_law (wsX0_init) := ggL_law_X0_init
set_option maxRecDepth 20000 in
theorem ggL_law_X1_init : GoodIn wsL_law wsX1_init := goodIn_r _ [26, 27, 11, 12, 13, 28, 29, 30, 31, 32, 33, 34, 35, 36, 620, 621, 622, 623, 624, 625, 626, 627, 628, 629, 630, 631, 632, 633, 634, 635, 636] (by decide +kernel) (by decide +kernel)
set_option maxRecDepth 20000 in
theorem gL_law_X1_init : GoodIn wsL_law (wsX1_init) := ggL_law_X1_init
set_option maxRecDepth 20000 in
theorem ggL_law_L_addStick : GoodIn wsL_law wsL_addStick := goodIn_ca (goodIn_ca (goodIn_r _ [40, 41, 42, 43, 44, 45, 2, 46, 47, 48, 49, 50, 51, 14, 603, 604, 605, 606, 607, 608, 609, 610, 611, 612, 613, 614, 615, 616, 617, 618, 619] (by decide +kernel) (by decide +kernel)) (goodIn_sub (fun _ h => List.mem_append_left _ (List.mem_append_left _ (List.mem_append_right _ h))) (by decide +kernel))) (goodIn_sub (fun _ h => List.mem_append_left _ (List.mem_append_right _ h)) (by decide +kernel))
set_option maxRecDepth 20000 in
theorem gL_law_L_addStick : GoodIn wsL_law (va_wsS RL 77 yL_addStick wsL_addStick) := goodIn_app (goodIn_of _ (by decide +kernel)) ggL_law_L_addStick
set_option maxRecDepth 20000 in
theorem ggL_law_X1_addStick : GoodIn wsL_law wsX1_addStick := goodIn_r _ [55, 56, 57, 28, 58, 59, 5, 60, 61, 62, 63, 64, 620, 621, 622, 623, 624, 625, 626, 627, 628, 629, 630, 631, 632, 633, 634, 635, 636] (by decide +kernel) (by decide +kernel)
set_option maxRecDepth 20000 in
theorem gL_law_X1_addStick : GoodIn wsL_law (wsV RL 82 RX1 yX1_addStick wsX1_addStick) := goodIn_app (goodIn_of _ (by decide +kernel)) ggL_law_X1_addStick
set_option maxRecDepth 20000 in
theorem ggL_law_X1_thrown : GoodIn wsL_law wsX1_thrown := goodIn_r _ [68, 56, 620, 621, 622, 623, 624, 625, 626, 627, 628, 629, 630, 631, 632, 633, 634, 635, 636] (by decide +kernel) (by decide +kernel)
set_option maxRecDepth 20000 in
theorem gL_law_X1_thrown : GoodIn wsL_law (wsV RL 83 RX1 yX1_thrown wsX1_thrown) := goodIn_app (goodIn_of _ (by decide +kernel)) ggL_law_X1_thrown
set_option maxRecDepth 20000 in
theorem ggL_law_L_addNap : GoodIn wsL_law wsL_addNap := goodIn_ca (goodIn_ca (goodIn_r _ [71, 41, 42, 72, 73, 74, 2, 75, 47, 48, 49, 50, 76, 15, 16, 77, 78, 79, 80, 17, 81, 82, 83, 84, 603, 604, 605, 606, 607, 608, 609, 610, 611, 612, 613, 614, 615, 616, 617, 618, 619] (by decide +kernel) (by decide +kernel)) (goodIn_sub (fun _ h => List.mem_append_left _ (List.mem_append_left _ (List.mem_append_right _ h))) (by decide +kernel))) (goodIn_sub (fun _ h => List.mem_append_left _ (List.mem_append_right _ h)) (by decide +kernel))
set_option maxRecDepth 20000 in
theorem gL_law_L_addNap : GoodIn wsL_law (va_wsS RL 87 yL_addNap wsL_addNap) := goodIn_app (goodIn_of _ (by decide +kernel)) ggL_law_L_addNap
set_option maxRecDepth 20000 in
theorem ggL_law_X1_addNap : GoodIn wsL_law wsX1_addNap := goodIn_r _ [88, 56, 89, 29, 30, 61, 62, 63, 5, 64, 90, 91, 92, 93, 31, 620, 621, 622, 623, 624, 625, 626, 627, 628, 629, 630, 631, 632, 633, 634, 635, 636] (by decide +kernel) (by decide +kernel)
set_option maxRecDepth 20000 in
theorem gL_law_X1_addNap : GoodIn wsL_law (wsV RL 90 RX1 yX1_addNap wsX1_addNap) := goodIn_app (goodIn_of _ (by decide +kernel)) ggL_law_X1_addNap
set_option maxRecDepth 20000 in
theorem ggL_law_L_giveUp : GoodIn wsL_law wsL_giveUp := goodIn_ca (goodIn_r _ [96, 97, 98, 99, 100, 2, 101, 76, 15, 16, 102, 103, 104, 105, 106, 107, 77, 78, 79, 80, 17, 81, 82, 83, 84, 603, 604, 605, 606, 607, 608, 609, 610, 611, 612, 613, 614, 615, 616, 617, 618, 619] (by decide +kernel) (by decide +kernel)) (goodIn_sub (fun _ h => List.mem_append_right _ h) (by decide +kernel))
set_option maxRecDepth 20000 in
theorem gL_law_L_giveUp : GoodIn wsL_law (va_wsS RL 91 yL_giveUp wsL_giveUp) := goodIn_app (goodIn_of _ (by decide +kernel)) ggL_law_L_giveUp
set_option maxRecDepth 20000 in
theorem ggL_law_X1_giveUp : GoodIn wsL_law wsX1_giveUp := goodIn_r _ [111, 56, 89, 29, 30, 112, 113, 114, 5, 115, 58, 59, 60, 61, 62, 63, 64, 90, 91, 92, 93, 31, 620, 621, 622, 623, 624, 625, 626, 627, 628, 629, 630, 631, 632, 633, 634, 635, 636] (by decide +kernel) (by decide +kernel)
set_option maxRecDepth 20000 in
theorem gL_law_X1_giveUp : GoodIn wsL_law (wsV RL 93 RX1 yX1_giveUp wsX1_giveUp) := goodIn_app (goodIn_of _ (by decide +kernel)) ggL_law_X1_giveUp
set_option maxRecDepth 20000 in
theorem ggL_law_L_addBee : GoodIn wsL_law wsL_addBee := goodIn_ca (goodIn_ca (goodIn_r _ [118, 41, 42, 119, 120, 121, 2, 122, 47, 48, 49, 50, 123, 18, 19, 20, 124, 125, 126, 127, 603, 604, 605, 606, 607, 608, 609, 610, 611, 612, 613, 614, 615, 616, 617, 618, 619] (by decide +kernel) (by decide +kernel)) (goodIn_sub (fun _ h => List.mem_append_left _ (List.mem_append_left _ (List.mem_append_right _ h))) (by decide +kernel))) (goodIn_sub (fun _ h => List.mem_append_left _ (List.mem_append_right _ h)) (by decide +kernel))
set_option maxRecDepth 20000 in
theorem gL_law_L_addBee : GoodIn wsL_law (va_wsS RL 94 yL_addBee wsL_addBee) := goodIn_app (goodIn_of _ (by decide +kernel)) ggL_law_L_addBee
set_option maxRecDepth 20000 in
theorem ggL_law_X1_addBee : GoodIn wsL_law wsX1_addBee := goodIn_r _ [131, 56, 132, 32, 33, 58, 59, 5, 60, 61, 62, 63, 64, 620, 621, 622, 623, 624, 625, 626, 627, 628, 629, 630, 631, 632, 633, 634, 635, 636] (by decide +kernel) (by decide +kernel)
set_option maxRecDepth 20000 in
theorem gL_law_X1_addBee : GoodIn wsL_law (wsV RL 96 RX1 yX1_addBee wsX1_addBee) := goodIn_app (goodIn_of _ (by decide +kernel)) ggL_law_X1_addBee
set_option maxRecDepth 20000 in
theorem ggL_law_L_setTea : GoodIn wsL_law wsL_setTea := goodIn_ca (goodIn_r _ [135, 41, 136, 137, 138, 2, 139, 47, 48, 21, 22, 23, 140, 141, 142, 143, 144, 145, 146, 147, 148, 149, 150, 151, 152, 153, 603, 604, 605, 606, 607, 608, 609, 610, 611, 612, 613, 614, 615, 616, 617, 618, 619] (by decide +kernel) (by decide +kernel)) (goodIn_sub (fun _ h => List.mem_append_left _ (List.mem_append_left _ (List.mem_append_right _ h))) (by decide +kernel))
set_option maxRecDepth 20000 in
theorem gL_law_L_setTea : GoodIn wsL_law (va_wsS RL 97 yL_setTea wsL_setTea) := goodIn_app (goodIn_of _ (by decide +kernel)) ggL_law_L_setTea
set_option maxRecDepth 20000 in
theorem ggL_law_X1_setTea : GoodIn wsL_law wsX1_setTea := goodIn_r _ [157, 56, 34, 35, 36, 158, 159, 151, 152, 153, 160, 58, 59, 5, 60, 61, 62, 63, 64, 620, 621, 622, 623, 624, 625, 626, 627, 628, 629, 630, 631, 632, 633, 634, 635, 636] (by decide +kernel) (by decide +kernel)
set_option maxRecDepth 20000 in
theorem gL_law_X1_setTea : GoodIn wsL_law (wsV RL 100 RX1 yX1_setTea wsX1_setTea) := goodIn_app (goodIn_of _ (by decide +kernel)) ggL_law_X1_setTea
set_option maxRecDepth 20000 in
theorem ggL_law_L_pass : GoodIn wsL_law wsL_pass := goodIn_ca (goodIn_ca (goodIn_r _ [163, 41, 42, 164, 165, 166, 2, 167, 47, 48, 49, 50, 168, 140, 22, 169, 170, 171, 172, 17, 23, 20, 150, 151, 152, 153, 141, 142, 143, 144, 145, 146, 147, 148, 149, 21, 603, 604, 605, 606, 607, 608, 609, 610, 611, 612, 613, 614, 615, 616, 617, 618, 619] (by decide +kernel) (by decide +kernel)) (goodIn_sub (fun _ h => List.mem_append_left _ (List.mem_append_left _ (List.mem_append_right _ h))) (by decide +kernel))) (goodIn_sub (fun _ h => List.mem_append_left _ (List.mem_append_right _ h)) (by decide +kernel))
set_option maxRecDepth 20000 in
theorem gL_law_L_pass : GoodIn wsL_law (va_wsS RL 101 yL_pass wsL_pass) := goodIn_app (goodIn_of _ (by decide +kernel)) ggL_law_L_pass
set_option maxRecDepth 20000 in
theorem ggL_law_X1_pass : GoodIn wsL_law wsX1_pass := goodIn_r _ [176, 56, 177, 58, 59, 5, 60, 61, 62, 63, 64, 178, 179, 180, 181, 158, 35, 34, 182, 183, 152, 184, 160, 185, 186, 187, 188, 132, 36, 189, 190, 191, 192, 31, 193, 194, 195, 196, 32, 33, 620, 621, 622, 623, 624, 625, 626, 627, 628, 629, 630, 631, 632, 633, 634, 635, 636] (by decide +kernel) (by decide +kernel)
set_option maxRecDepth 20000 in
theorem gL_law_X1_pass : GoodIn wsL_law (wsV RL 103 RX1 yX1_pass wsX1_pass) := goodIn_app (goodIn_of _ (by decide +kernel)) ggL_law_X1_pass
set_option maxRecDepth 20000 in
theorem ggL_law_X0_begin : GoodIn wsL_law wsX0_begin := goodIn_r _ [200, 168, 140, 145, 201, 603, 604, 605, 606, 607, 608, 609, 610, 611, 612, 613, 614, 615, 616, 617, 618, 619] (by decide +kernel) (by decide +kernel)
set_option maxRecDepth 20000 in
theorem gL_law_X0_begin : GoodIn wsL_law (wsV RL 104 RX0 yX0_begin wsX0_begin) := goodIn_app (goodIn_of _ (by decide +kernel)) ggL_law_X0_begin
set_option maxRecDepth 20000 in
theorem ggL_law_X1_begin : GoodIn wsL_law wsX1_begin := goodIn_r _ [205, 56, 206, 177, 158, 160, 620, 621, 622, 623, 624, 625, 626, 627, 628, 629, 630, 631, 632, 633, 634, 635, 636] (by decide +kernel) (by decide +kernel)
set_option maxRecDepth 20000 in
theorem gL_law_X1_begin : GoodIn wsL_law (wsV RL 107 RX1 yX1_begin wsX1_begin) := goodIn_app (goodIn_of _ (by decide +kernel)) ggL_law_X1_begin
set_option maxRecDepth 20000 in
theorem ggL_law_X0_afternoon : GoodIn wsL_law wsX0_afternoon := goodIn_r _ [210, 201, 603, 604, 605, 606, 607, 608, 609, 610, 611, 612, 613, 614, 615, 616, 617, 618, 619] (by decide +kernel) (by decide +kernel)
set_option maxRecDepth 20000 in
theorem gL_law_X0_afternoon : GoodIn wsL_law (wsV RL 108 RX0 yX0_afternoon wsX0_afternoon) := goodIn_app (goodIn_of _ (by decide +kernel)) ggL_law_X0_afternoon
set_option maxRecDepth 20000 in
theorem ggL_law_X1_afternoon : GoodIn wsL_law wsX1_afternoon := goodIn_r _ [214, 206, 215, 216, 217, 5, 218, 56, 620, 621, 622, 623, 624, 625, 626, 627, 628, 629, 630, 631, 632, 633, 634, 635, 636] (by decide +kernel) (by decide +kernel)
set_option maxRecDepth 20000 in
theorem gL_law_X1_afternoon : GoodIn wsL_law (wsV RL 111 RX1 yX1_afternoon wsX1_afternoon) := goodIn_app (goodIn_of _ (by decide +kernel)) ggL_law_X1_afternoon
set_option maxRecDepth 20000 in
theorem ggL_law_X0_minute : GoodIn wsL_law wsX0_minute := goodIn_r _ [222, 168, 603, 604, 605, 606, 607, 608, 609, 610, 611, 612, 613, 614, 615, 616, 617, 618, 619] (by decide +kernel) (by decide +kernel)
set_option maxRecDepth 20000 in
theorem gL_law_X0_minute : GoodIn wsL_law (wsV RL 112 RX0 yX0_minute wsX0_minute) := goodIn_app (goodIn_of _ (by decide +kernel)) ggL_law_X0_minute
set_option maxRecDepth 20000 in
theorem ggL_law_X1_minute : GoodIn wsL_law wsX1_minute := goodIn_r _ [226, 177, 215, 216, 217, 5, 218, 56, 620, 621, 622, 623, 624, 625, 626, 627, 628, 629, 630, 631, 632, 633, 634, 635, 636] (by decide +kernel) (by decide +kernel)
set_option maxRecDepth 20000 in
theorem gL_law_X1_minute : GoodIn wsL_law (wsV RL 115 RX1 yX1_minute wsX1_minute) := goodIn_app (goodIn_of _ (by decide +kernel)) ggL_law_X1_minute
set_option maxRecDepth 20000 in
theorem ggL_law_L_isAsleep : GoodIn wsL_law wsL_isAsleep := goodIn_ca (goodIn_r _ [229, 41, 230, 231, 232, 2, 233, 17, 234, 235, 236, 237, 47, 48, 603, 604, 605, 606, 607, 608, 609, 610, 611, 612, 613, 614, 615, 616, 617, 618, 619] (by decide +kernel) (by decide +kernel)) (goodIn_sub (fun _ h => List.mem_append_left _ (List.mem_append_left _ (List.mem_append_right _ h))) (by decide +kernel))
set_option maxRecDepth 20000 in
theorem gL_law_L_isAsleep : GoodIn wsL_law (va_wsS RL 116 yL_isAsleep wsL_isAsleep) := goodIn_app (goodIn_of _ (by decide +kernel)) ggL_law_L_isAsleep
set_option maxRecDepth 20000 in
theorem ggL_law_X1_isAsleep : GoodIn wsL_law wsX1_isAsleep := goodIn_r _ [241, 56, 242, 243, 5, 244, 58, 59, 60, 189, 190, 191, 192, 31, 620, 621, 622, 623, 624, 625, 626, 627, 628, 629, 630, 631, 632, 633, 634, 635, 636] (by decide +kernel) (by decide +kernel)
set_option maxRecDepth 20000 in
theorem gL_law_X1_isAsleep : GoodIn wsL_law (wsV RL 118 RX1 yX1_isAsleep wsX1_isAsleep) := goodIn_app (goodIn_of _ (by decide +kernel)) ggL_law_X1_isAsleep
set_option maxRecDepth 20000 in
theorem ggL_law_X0_awakeMinutes : GoodIn wsL_law wsX0_awakeMinutes := goodIn_r _ [248, 168, 17, 603, 604, 605, 606, 607, 608, 609, 610, 611, 612, 613, 614, 615, 616, 617, 618, 619] (by decide +kernel) (by decide +kernel)
set_option maxRecDepth 20000 in
theorem gL_law_X0_awakeMinutes : GoodIn wsL_law (wsV RL 119 RX0 yX0_awakeMinutes wsX0_awakeMinutes) := goodIn_app (goodIn_of _ (by decide +kernel)) ggL_law_X0_awakeMinutes
set_option maxRecDepth 20000 in
theorem ggL_law_X1_awakeMinutes : GoodIn wsL_law wsX1_awakeMinutes := goodIn_r _ [252, 177, 253, 254, 255, 5, 256, 189, 190, 191, 192, 31, 215, 216, 217, 218, 56, 620, 621, 622, 623, 624, 625, 626, 627, 628, 629, 630, 631, 632, 633, 634, 635, 636] (by decide +kernel) (by decide +kernel)
set_option maxRecDepth 20000 in
theorem gL_law_X1_awakeMinutes : GoodIn wsL_law (wsV RL 122 RX1 yX1_awakeMinutes wsX1_awakeMinutes) := goodIn_app (goodIn_of _ (by decide +kernel)) ggL_law_X1_awakeMinutes
set_option maxRecDepth 20000 in
theorem ggL_law_X0_sleptMinutes : GoodIn wsL_law wsX0_sleptMinutes := goodIn_r _ [260, 168, 261, 246, 247, 2, 248, 17, 603, 604, 605, 606, 607, 608, 609, 610, 611, 612, 613, 614, 615, 616, 617, 618, 619] (by decide +kernel) (by decide +kernel)
set_option maxRecDepth 20000 in
theorem gL_law_X0_sleptMinutes : GoodIn wsL_law (wsV RL 123 RX0 yX0_sleptMinutes wsX0_sleptMinutes) := goodIn_app (goodIn_of _ (by decide +kernel)) ggL_law_X0_sleptMinutes
set_option maxRecDepth 20000 in
theorem ggL_law_X1_sleptMinutes : GoodIn wsL_law wsX1_sleptMinutes := goodIn_r _ [265, 177, 253, 254, 255, 5, 256, 189, 190, 191, 192, 31, 215, 216, 217, 218, 56, 620, 621, 622, 623, 624, 625, 626, 627, 628, 629, 630, 631, 632, 633, 634, 635, 636] (by decide +kernel) (by decide +kernel)
set_option maxRecDepth 20000 in
theorem gL_law_X1_sleptMinutes : GoodIn wsL_law (wsV RL 126 RX1 yX1_sleptMinutes wsX1_sleptMinutes) := goodIn_app (goodIn_of _ (by decide +kernel)) ggL_law_X1_sleptMinutes
set_option maxRecDepth 20000 in
theorem ggL_law_X0_longestAwake : GoodIn wsL_law wsX0_longestAwake := goodIn_r _ [269, 17, 150, 151, 152, 153, 603, 604, 605, 606, 607, 608, 609, 610, 611, 612, 613, 614, 615, 616, 617, 618, 619] (by decide +kernel) (by decide +kernel)
set_option maxRecDepth 20000 in
theorem gL_law_X0_longestAwake : GoodIn wsL_law (wsV RL 127 RX0 yX0_longestAwake wsX0_longestAwake) := goodIn_app (goodIn_of _ (by decide +kernel)) ggL_law_X0_longestAwake
set_option maxRecDepth 20000 in
theorem ggL_law_X1_longestAwake : GoodIn wsL_law wsX1_longestAwake := goodIn_r _ [273, 274, 275, 276, 5, 277, 159, 151, 152, 153, 189, 190, 191, 192, 31, 215, 216, 217, 218, 56, 620, 621, 622, 623, 624, 625, 626, 627, 628, 629, 630, 631, 632, 633, 634, 635, 636] (by decide +kernel) (by decide +kernel)
set_option maxRecDepth 20000 in
theorem gL_law_X1_longestAwake : GoodIn wsL_law (wsV RL 130 RX1 yX1_longestAwake wsX1_longestAwake) := goodIn_app (goodIn_of _ (by decide +kernel)) ggL_law_X1_longestAwake
set_option maxRecDepth 20000 in
theorem ggL_law_X0_sticks : GoodIn wsL_law wsX0_sticks := goodIn_r _ [281, 51, 603, 604, 605, 606, 607, 608, 609, 610, 611, 612, 613, 614, 615, 616, 617, 618, 619] (by decide +kernel) (by decide +kernel)
set_option maxRecDepth 20000 in
theorem gL_law_X0_sticks : GoodIn wsL_law (wsV RL 131 RX0 yX0_sticks wsX0_sticks) := goodIn_app (goodIn_of _ (by decide +kernel)) ggL_law_X0_sticks
set_option maxRecDepth 20000 in
theorem ggL_law_X1_sticks : GoodIn wsL_law wsX1_sticks := goodIn_r _ [285, 57, 215, 216, 217, 5, 218, 56, 620, 621, 622, 623, 624, 625, 626, 627, 628, 629, 630, 631, 632, 633, 634, 635, 636] (by decide +kernel) (by decide +kernel)
set_option maxRecDepth 20000 in
theorem gL_law_X1_sticks : GoodIn wsL_law (wsV RL 134 RX1 yX1_sticks wsX1_sticks) := goodIn_app (goodIn_of _ (by decide +kernel)) ggL_law_X1_sticks
set_option maxRecDepth 20000 in
theorem ggL_law_L_shadowAt : GoodIn wsL_law wsL_shadowAt := goodIn_ca (goodIn_ca (goodIn_r _ [288, 97, 41, 289, 290, 291, 2, 292, 293, 294, 295, 296, 106, 107, 51, 234, 235, 236, 237, 47, 48, 297, 298, 299, 300, 14, 603, 604, 605, 606, 607, 608, 609, 610, 611, 612, 613, 614, 615, 616, 617, 618, 619] (by decide +kernel) (by decide +kernel)) (goodIn_sub (fun _ h => List.mem_append_right _ h) (by decide +kernel))) (goodIn_sub (fun _ h => List.mem_append_left _ (List.mem_append_left _ (List.mem_append_right _ h))) (by decide +kernel))
set_option maxRecDepth 20000 in
theorem gL_law_L_shadowAt : GoodIn wsL_law (va_wsS RL 135 yL_shadowAt wsL_shadowAt) := goodIn_app (goodIn_of _ (by decide +kernel)) ggL_law_L_shadowAt
set_option maxRecDepth 20000 in
theorem ggL_law_X1_shadowAt : GoodIn wsL_law wsX1_shadowAt := goodIn_r _ [304, 56, 305, 306, 307, 5, 308, 57, 58, 59, 60, 61, 62, 63, 64, 242, 243, 244, 309, 310, 311, 312, 28, 620, 621, 622, 623, 624, 625, 626, 627, 628, 629, 630, 631, 632, 633, 634, 635, 636] (by decide +kernel) (by decide +kernel)
set_option maxRecDepth 20000 in
theorem gL_law_X1_shadowAt : GoodIn wsL_law (wsV RL 137 RX1 yX1_shadowAt wsX1_shadowAt) := goodIn_app (goodIn_of _ (by decide +kernel)) ggL_law_X1_shadowAt
set_option maxRecDepth 20000 in
theorem ggL_law_L_minuteOfShadow : GoodIn wsL_law wsL_minuteOfShadow := goodIn_ca (goodIn_r _ [315, 97, 316, 317, 318, 2, 319, 293, 294, 295, 296, 106, 107, 51, 297, 298, 299, 300, 14, 603, 604, 605, 606, 607, 608, 609, 610, 611, 612, 613, 614, 615, 616, 617, 618, 619] (by decide +kernel) (by decide +kernel)) (goodIn_sub (fun _ h => List.mem_append_right _ h) (by decide +kernel))
set_option maxRecDepth 20000 in
theorem gL_law_L_minuteOfShadow : GoodIn wsL_law (va_wsS RL 138 yL_minuteOfShadow wsL_minuteOfShadow) := goodIn_app (goodIn_of _ (by decide +kernel)) ggL_law_L_minuteOfShadow
set_option maxRecDepth 20000 in
theorem ggL_law_X1_minuteOfShadow : GoodIn wsL_law wsX1_minuteOfShadow := goodIn_r _ [323, 56, 305, 306, 307, 5, 308, 57, 58, 59, 60, 61, 62, 63, 64, 309, 310, 311, 312, 28, 620, 621, 622, 623, 624, 625, 626, 627, 628, 629, 630, 631, 632, 633, 634, 635, 636] (by decide +kernel) (by decide +kernel)
set_option maxRecDepth 20000 in
theorem gL_law_X1_minuteOfShadow : GoodIn wsL_law (wsV RL 140 RX1 yX1_minuteOfShadow wsX1_minuteOfShadow) := goodIn_app (goodIn_of _ (by decide +kernel)) ggL_law_X1_minuteOfShadow
set_option maxRecDepth 20000 in
theorem ggL_law_L_allShadows : GoodIn wsL_law wsL_allShadows := goodIn_ca (goodIn_r _ [326, 41, 327, 328, 329, 2, 330, 234, 235, 236, 237, 47, 48, 331, 332, 333, 334, 51, 297, 298, 299, 300, 14, 603, 604, 605, 606, 607, 608, 609, 610, 611, 612, 613, 614, 615, 616, 617, 618, 619] (by decide +kernel) (by decide +kernel)) (goodIn_sub (fun _ h => List.mem_append_left _ (List.mem_append_left _ (List.mem_append_right _ h))) (by decide +kernel))
set_option maxRecDepth 20000 in
theorem gL_law_L_allShadows : GoodIn wsL_law (va_wsS RL 141 yL_allShadows wsL_allShadows) := goodIn_app (goodIn_of _ (by decide +kernel)) ggL_law_L_allShadows
set_option maxRecDepth 20000 in
theorem ggL_law_X1_allShadows : GoodIn wsL_law wsX1_allShadows := goodIn_r _ [338, 56, 57, 242, 243, 5, 244, 58, 59, 60, 61, 62, 63, 64, 309, 310, 311, 312, 28, 620, 621, 622, 623, 624, 625, 626, 627, 628, 629, 630, 631, 632, 633, 634, 635, 636] (by decide +kernel) (by decide +kernel)
set_option maxRecDepth 20000 in
theorem gL_law_X1_allShadows : GoodIn wsL_law (wsV RL 143 RX1 yX1_allShadows wsX1_allShadows) := goodIn_app (goodIn_of _ (by decide +kernel)) ggL_law_X1_allShadows
set_option maxRecDepth 20000 in
theorem ggL_law_X0_naps : GoodIn wsL_law wsX0_naps := goodIn_r _ [342, 76, 603, 604, 605, 606, 607, 608, 609, 610, 611, 612, 613, 614, 615, 616, 617, 618, 619] (by decide +kernel) (by decide +kernel)
set_option maxRecDepth 20000 in
theorem gL_law_X0_naps : GoodIn wsL_law (wsV RL 144 RX0 yX0_naps wsX0_naps) := goodIn_app (goodIn_of _ (by decide +kernel)) ggL_law_X0_naps
set_option maxRecDepth 20000 in
theorem ggL_law_X1_naps : GoodIn wsL_law wsX1_naps := goodIn_r _ [346, 89, 215, 216, 217, 5, 218, 56, 620, 621, 622, 623, 624, 625, 626, 627, 628, 629, 630, 631, 632, 633, 634, 635, 636] (by decide +kernel) (by decide +kernel)
set_option maxRecDepth 20000 in
theorem gL_law_X1_naps : GoodIn wsL_law (wsV RL 147 RX1 yX1_naps wsX1_naps) := goodIn_app (goodIn_of _ (by decide +kernel)) ggL_law_X1_naps
set_option maxRecDepth 20000 in
theorem ggL_law_L_startOf : GoodIn wsL_law wsL_startOf := goodIn_ca (goodIn_r _ [349, 97, 350, 351, 352, 2, 353, 15, 102, 103, 104, 105, 106, 107, 76, 603, 604, 605, 606, 607, 608, 609, 610, 611, 612, 613, 614, 615, 616, 617, 618, 619] (by decide +kernel) (by decide +kernel)) (goodIn_sub (fun _ h => List.mem_append_right _ h) (by decide +kernel))
set_option maxRecDepth 20000 in
theorem gL_law_L_startOf : GoodIn wsL_law (va_wsS RL 148 yL_startOf wsL_startOf) := goodIn_app (goodIn_of _ (by decide +kernel)) ggL_law_L_startOf
set_option maxRecDepth 20000 in
theorem ggL_law_X1_startOf : GoodIn wsL_law wsX1_startOf := goodIn_r _ [357, 56, 29, 112, 113, 114, 5, 115, 89, 58, 59, 60, 61, 62, 63, 64, 620, 621, 622, 623, 624, 625, 626, 627, 628, 629, 630, 631, 632, 633, 634, 635, 636] (by decide +kernel) (by decide +kernel)
set_option maxRecDepth 20000 in
theorem gL_law_X1_startOf : GoodIn wsL_law (wsV RL 150 RX1 yX1_startOf wsX1_startOf) := goodIn_app (goodIn_of _ (by decide +kernel)) ggL_law_X1_startOf
set_option maxRecDepth 20000 in
theorem ggL_law_L_lengthOf : GoodIn wsL_law wsL_lengthOf := goodIn_ca (goodIn_r _ [360, 97, 361, 362, 363, 2, 364, 16, 15, 102, 103, 104, 105, 106, 107, 76, 603, 604, 605, 606, 607, 608, 609, 610, 611, 612, 613, 614, 615, 616, 617, 618, 619] (by decide +kernel) (by decide +kernel)) (goodIn_sub (fun _ h => List.mem_append_right _ h) (by decide +kernel))
set_option maxRecDepth 20000 in
theorem gL_law_L_lengthOf : GoodIn wsL_law (va_wsS RL 151 yL_lengthOf wsL_lengthOf) := goodIn_app (goodIn_of _ (by decide +kernel)) ggL_law_L_lengthOf
set_option maxRecDepth 20000 in
theorem ggL_law_X1_lengthOf : GoodIn wsL_law wsX1_lengthOf := goodIn_r _ [368, 56, 30, 29, 112, 113, 114, 5, 115, 89, 58, 59, 60, 61, 62, 63, 64, 620, 621, 622, 623, 624, 625, 626, 627, 628, 629, 630, 631, 632, 633, 634, 635, 636] (by decide +kernel) (by decide +kernel)
set_option maxRecDepth 20000 in
theorem gL_law_X1_lengthOf : GoodIn wsL_law (wsV RL 153 RX1 yX1_lengthOf wsX1_lengthOf) := goodIn_app (goodIn_of _ (by decide +kernel)) ggL_law_X1_lengthOf
set_option maxRecDepth 20000 in
theorem ggL_law_L_napsAt : GoodIn wsL_law wsL_napsAt := goodIn_ca (goodIn_r _ [371, 41, 372, 373, 374, 2, 375, 17, 234, 235, 236, 237, 47, 48, 603, 604, 605, 606, 607, 608, 609, 610, 611, 612, 613, 614, 615, 616, 617, 618, 619] (by decide +kernel) (by decide +kernel)) (goodIn_sub (fun _ h => List.mem_append_left _ (List.mem_append_left _ (List.mem_append_right _ h))) (by decide +kernel))
set_option maxRecDepth 20000 in
theorem gL_law_L_napsAt : GoodIn wsL_law (va_wsS RL 154 yL_napsAt wsL_napsAt) := goodIn_app (goodIn_of _ (by decide +kernel)) ggL_law_L_napsAt
set_option maxRecDepth 20000 in
theorem ggL_law_X1_napsAt : GoodIn wsL_law wsX1_napsAt := goodIn_r _ [379, 56, 31, 242, 243, 5, 244, 58, 59, 60, 61, 62, 63, 64, 620, 621, 622, 623, 624, 625, 626, 627, 628, 629, 630, 631, 632, 633, 634, 635, 636] (by decide +kernel) (by decide +kernel)
set_option maxRecDepth 20000 in
theorem gL_law_X1_napsAt : GoodIn wsL_law (wsV RL 156 RX1 yX1_napsAt wsX1_napsAt) := goodIn_app (goodIn_of _ (by decide +kernel)) ggL_law_X1_napsAt
set_option maxRecDepth 20000 in
theorem ggL_law_L_minutesAlone : GoodIn wsL_law wsL_minutesAlone := goodIn_ca (goodIn_r _ [382, 97, 383, 384, 385, 2, 386, 102, 103, 104, 105, 106, 107, 76, 387, 388, 389, 390, 17, 81, 82, 83, 84, 15, 16, 603, 604, 605, 606, 607, 608, 609, 610, 611, 612, 613, 614, 615, 616, 617, 618, 619] (by decide +kernel) (by decide +kernel)) (goodIn_sub (fun _ h => List.mem_append_right _ h) (by decide +kernel))
set_option maxRecDepth 20000 in
theorem gL_law_L_minutesAlone : GoodIn wsL_law (va_wsS RL 157 yL_minutesAlone wsL_minutesAlone) := goodIn_app (goodIn_of _ (by decide +kernel)) ggL_law_L_minutesAlone
set_option maxRecDepth 20000 in
theorem ggL_law_X1_minutesAlone : GoodIn wsL_law wsX1_minutesAlone := goodIn_r _ [394, 56, 112, 113, 114, 5, 115, 89, 58, 59, 60, 395, 396, 397, 398, 29, 30, 31, 61, 62, 63, 64, 620, 621, 622, 623, 624, 625, 626, 627, 628, 629, 630, 631, 632, 633, 634, 635, 636] (by decide +kernel) (by decide +kernel)
set_option maxRecDepth 20000 in
theorem gL_law_X1_minutesAlone : GoodIn wsL_law (wsV RL 159 RX1 yX1_minutesAlone wsX1_minutesAlone) := goodIn_app (goodIn_of _ (by decide +kernel)) ggL_law_X1_minutesAlone
set_option maxRecDepth 20000 in
theorem ggL_law_X0_bees : GoodIn wsL_law wsX0_bees := goodIn_r _ [402, 123, 603, 604, 605, 606, 607, 608, 609, 610, 611, 612, 613, 614, 615, 616, 617, 618, 619] (by decide +kernel) (by decide +kernel)
set_option maxRecDepth 20000 in
theorem gL_law_X0_bees : GoodIn wsL_law (wsV RL 160 RX0 yX0_bees wsX0_bees) := goodIn_app (goodIn_of _ (by decide +kernel)) ggL_law_X0_bees
set_option maxRecDepth 20000 in
theorem ggL_law_X1_bees : GoodIn wsL_law wsX1_bees := goodIn_r _ [406, 132, 215, 216, 217, 5, 218, 56, 620, 621, 622, 623, 624, 625, 626, 627, 628, 629, 630, 631, 632, 633, 634, 635, 636] (by decide +kernel) (by decide +kernel)
set_option maxRecDepth 20000 in
theorem gL_law_X1_bees : GoodIn wsL_law (wsV RL 163 RX1 yX1_bees wsX1_bees) := goodIn_app (goodIn_of _ (by decide +kernel)) ggL_law_X1_bees
set_option maxRecDepth 20000 in
theorem ggL_law_L_ticksOf : GoodIn wsL_law wsL_ticksOf := goodIn_ca (goodIn_r _ [409, 97, 410, 411, 412, 2, 413, 414, 415, 416, 417, 106, 107, 123, 418, 419, 420, 421, 168, 422, 423, 424, 425, 17, 124, 125, 126, 127, 18, 19, 603, 604, 605, 606, 607, 608, 609, 610, 611, 612, 613, 614, 615, 616, 617, 618, 619] (by decide +kernel) (by decide +kernel)) (goodIn_sub (fun _ h => List.mem_append_right _ h) (by decide +kernel))
set_option maxRecDepth 20000 in
theorem gL_law_L_ticksOf : GoodIn wsL_law (va_wsS RL 164 yL_ticksOf wsL_ticksOf) := goodIn_app (goodIn_of _ (by decide +kernel)) ggL_law_L_ticksOf
set_option maxRecDepth 20000 in
theorem ggL_law_X1_ticksOf : GoodIn wsL_law wsX1_ticksOf := goodIn_r _ [429, 56, 430, 431, 432, 5, 433, 132, 58, 59, 60, 434, 435, 436, 437, 177, 193, 194, 195, 196, 32, 33, 189, 190, 191, 192, 31, 61, 62, 63, 64, 620, 621, 622, 623, 624, 625, 626, 627, 628, 629, 630, 631, 632, 633, 634, 635, 636] (by decide +kernel) (by decide +kernel)
set_option maxRecDepth 20000 in
theorem gL_law_X1_ticksOf : GoodIn wsL_law (wsV RL 166 RX1 yX1_ticksOf wsX1_ticksOf) := goodIn_app (goodIn_of _ (by decide +kernel)) ggL_law_X1_ticksOf
set_option maxRecDepth 20000 in
theorem ggL_law_L_measuredBy : GoodIn wsL_law wsL_measuredBy := goodIn_ca (goodIn_r _ [440, 97, 441, 442, 443, 2, 444, 18, 414, 415, 416, 417, 106, 107, 123, 418, 419, 420, 421, 168, 422, 423, 424, 425, 17, 124, 125, 126, 127, 19, 603, 604, 605, 606, 607, 608, 609, 610, 611, 612, 613, 614, 615, 616, 617, 618, 619] (by decide +kernel) (by decide +kernel)) (goodIn_sub (fun _ h => List.mem_append_right _ h) (by decide +kernel))
set_option maxRecDepth 20000 in
theorem gL_law_L_measuredBy : GoodIn wsL_law (va_wsS RL 167 yL_measuredBy wsL_measuredBy) := goodIn_app (goodIn_of _ (by decide +kernel)) ggL_law_L_measuredBy
set_option maxRecDepth 20000 in
theorem ggL_law_X1_measuredBy : GoodIn wsL_law wsX1_measuredBy := goodIn_r _ [448, 56, 32, 430, 431, 432, 5, 433, 132, 58, 59, 60, 434, 435, 436, 437, 177, 193, 194, 195, 196, 33, 189, 190, 191, 192, 31, 61, 62, 63, 64, 620, 621, 622, 623, 624, 625, 626, 627, 628, 629, 630, 631, 632, 633, 634, 635, 636] (by decide +kernel) (by decide +kernel)
set_option maxRecDepth 20000 in
theorem gL_law_X1_measuredBy : GoodIn wsL_law (wsV RL 169 RX1 yX1_measuredBy wsX1_measuredBy) := goodIn_app (goodIn_of _ (by decide +kernel)) ggL_law_X1_measuredBy
set_option maxRecDepth 20000 in
theorem ggL_law_L_errorOf : GoodIn wsL_law wsL_errorOf := goodIn_ca (goodIn_r _ [451, 97, 452, 453, 454, 2, 455, 456, 442, 443, 444, 18, 414, 415, 416, 417, 106, 107, 123, 418, 419, 420, 421, 168, 422, 423, 424, 425, 17, 124, 125, 126, 127, 19, 261, 246, 247, 248, 603, 604, 605, 606, 607, 608, 609, 610, 611, 612, 613, 614, 615, 616, 617, 618, 619] (by decide +kernel) (by decide +kernel)) (goodIn_sub (fun _ h => List.mem_append_right _ h) (by decide +kernel))
set_option maxRecDepth 20000 in
theorem gL_law_L_errorOf : GoodIn wsL_law (va_wsS RL 170 yL_errorOf wsL_errorOf) := goodIn_app (goodIn_of _ (by decide +kernel)) ggL_law_L_errorOf
set_option maxRecDepth 20000 in
theorem ggL_law_X1_errorOf : GoodIn wsL_law wsX1_errorOf := goodIn_r _ [460, 56, 430, 431, 432, 5, 433, 132, 58, 59, 60, 461, 462, 463, 464, 32, 177, 434, 435, 436, 437, 193, 194, 195, 196, 33, 189, 190, 191, 192, 31, 253, 254, 255, 256, 61, 62, 63, 64, 620, 621, 622, 623, 624, 625, 626, 627, 628, 629, 630, 631, 632, 633, 634, 635, 636] (by decide +kernel) (by decide +kernel)
set_option maxRecDepth 20000 in
theorem gL_law_X1_errorOf : GoodIn wsL_law (wsV RL 172 RX1 yX1_errorOf wsX1_errorOf) := goodIn_app (goodIn_of _ (by decide +kernel)) ggL_law_X1_errorOf
set_option maxRecDepth 20000 in
theorem ggL_law_X0_bestBee : GoodIn wsL_law wsX0_bestBee := goodIn_ca (goodIn_r _ [468, 123, 469, 470, 152, 471, 472, 453, 454, 2, 455, 456, 442, 443, 444, 18, 414, 415, 416, 417, 106, 107, 418, 419, 420, 421, 168, 422, 423, 424, 425, 17, 124, 125, 126, 127, 19, 261, 246, 247, 248, 603, 604, 605, 606, 607, 608, 609, 610, 611, 612, 613, 614, 615, 616, 617, 618, 619] (by decide +kernel) (by decide +kernel)) (goodIn_sub (fun _ h => List.mem_append_right _ h) (by decide +kernel))
set_option maxRecDepth 20000 in
theorem gL_law_X0_bestBee : GoodIn wsL_law (wsV RL 173 RX0 yX0_bestBee wsX0_bestBee) := goodIn_app (goodIn_of _ (by decide +kernel)) ggL_law_X0_bestBee
set_option maxRecDepth 20000 in
theorem ggL_law_X1_bestBee : GoodIn wsL_law wsX1_bestBee := goodIn_r _ [476, 477, 478, 479, 5, 480, 132, 481, 470, 152, 471, 461, 462, 463, 464, 32, 177, 434, 435, 436, 437, 193, 194, 195, 196, 33, 189, 190, 191, 192, 31, 253, 254, 255, 256, 215, 216, 217, 218, 56, 620, 621, 622, 623, 624, 625, 626, 627, 628, 629, 630, 631, 632, 633, 634, 635, 636] (by decide +kernel) (by decide +kernel)
set_option maxRecDepth 20000 in
theorem gL_law_X1_bestBee : GoodIn wsL_law (wsV RL 176 RX1 yX1_bestBee wsX1_bestBee) := goodIn_app (goodIn_of _ (by decide +kernel)) ggL_law_X1_bestBee
set_option maxRecDepth 20000 in
theorem ggL_law_L_nextTick : GoodIn wsL_law wsL_nextTick := goodIn_ca (goodIn_r _ [484, 97, 485, 486, 487, 2, 488, 168, 414, 415, 416, 417, 106, 107, 123, 422, 423, 424, 425, 17, 124, 125, 126, 127, 18, 19, 603, 604, 605, 606, 607, 608, 609, 610, 611, 612, 613, 614, 615, 616, 617, 618, 619] (by decide +kernel) (by decide +kernel)) (goodIn_sub (fun _ h => List.mem_append_right _ h) (by decide +kernel))
set_option maxRecDepth 20000 in
theorem gL_law_L_nextTick : GoodIn wsL_law (va_wsS RL 177 yL_nextTick wsL_nextTick) := goodIn_app (goodIn_of _ (by decide +kernel)) ggL_law_L_nextTick
set_option maxRecDepth 20000 in
theorem ggL_law_X1_nextTick : GoodIn wsL_law wsX1_nextTick := goodIn_r _ [492, 56, 430, 431, 432, 5, 433, 132, 58, 59, 60, 493, 494, 495, 496, 177, 193, 194, 195, 196, 32, 33, 189, 190, 191, 192, 31, 61, 62, 63, 64, 620, 621, 622, 623, 624, 625, 626, 627, 628, 629, 630, 631, 632, 633, 634, 635, 636] (by decide +kernel) (by decide +kernel)
set_option maxRecDepth 20000 in
theorem gL_law_X1_nextTick : GoodIn wsL_law (wsV RL 179 RX1 yX1_nextTick wsX1_nextTick) := goodIn_app (goodIn_of _ (by decide +kernel)) ggL_law_X1_nextTick
set_option maxRecDepth 20000 in
theorem ggL_law_X0_tea : GoodIn wsL_law wsX0_tea := goodIn_r _ [500, 140, 603, 604, 605, 606, 607, 608, 609, 610, 611, 612, 613, 614, 615, 616, 617, 618, 619] (by decide +kernel) (by decide +kernel)
set_option maxRecDepth 20000 in
theorem gL_law_X0_tea : GoodIn wsL_law (wsV RL 180 RX0 yX0_tea wsX0_tea) := goodIn_app (goodIn_of _ (by decide +kernel)) ggL_law_X0_tea
set_option maxRecDepth 20000 in
theorem ggL_law_X1_tea : GoodIn wsL_law wsX1_tea := goodIn_r _ [504, 158, 215, 216, 217, 5, 218, 56, 620, 621, 622, 623, 624, 625, 626, 627, 628, 629, 630, 631, 632, 633, 634, 635, 636] (by decide +kernel) (by decide +kernel)
set_option maxRecDepth 20000 in
theorem gL_law_X1_tea : GoodIn wsL_law (wsV RL 183 RX1 yX1_tea wsX1_tea) := goodIn_app (goodIn_of _ (by decide +kernel)) ggL_law_X1_tea
set_option maxRecDepth 20000 in
theorem ggL_law_X0_spilt : GoodIn wsL_law wsX0_spilt := goodIn_r _ [508, 145, 603, 604, 605, 606, 607, 608, 609, 610, 611, 612, 613, 614, 615, 616, 617, 618, 619] (by decide +kernel) (by decide +kernel)
set_option maxRecDepth 20000 in
theorem gL_law_X0_spilt : GoodIn wsL_law (wsV RL 184 RX0 yX0_spilt wsX0_spilt) := goodIn_app (goodIn_of _ (by decide +kernel)) ggL_law_X0_spilt
set_option maxRecDepth 20000 in
theorem ggL_law_X1_spilt : GoodIn wsL_law wsX1_spilt := goodIn_r _ [512, 160, 215, 216, 217, 5, 218, 56, 620, 621, 622, 623, 624, 625, 626, 627, 628, 629, 630, 631, 632, 633, 634, 635, 636] (by decide +kernel) (by decide +kernel)
set_option maxRecDepth 20000 in
theorem gL_law_X1_spilt : GoodIn wsL_law (wsV RL 187 RX1 yX1_spilt wsX1_spilt) := goodIn_app (goodIn_of _ (by decide +kernel)) ggL_law_X1_spilt
set_option maxRecDepth 20000 in
theorem ggL_law_X0_spiltAtEnd : GoodIn wsL_law wsX0_spiltAtEnd := goodIn_r _ [516, 145, 140, 168, 22, 169, 170, 171, 2, 172, 17, 23, 20, 150, 151, 152, 153, 146, 147, 148, 149, 21, 603, 604, 605, 606, 607, 608, 609, 610, 611, 612, 613, 614, 615, 616, 617, 618, 619] (by decide +kernel) (by decide +kernel)
set_option maxRecDepth 20000 in
theorem gL_law_X0_spiltAtEnd : GoodIn wsL_law (wsV RL 188 RX0 yX0_spiltAtEnd wsX0_spiltAtEnd) := goodIn_app (goodIn_of _ (by decide +kernel)) ggL_law_X0_spiltAtEnd
set_option maxRecDepth 20000 in
theorem ggL_law_X1_spiltAtEnd : GoodIn wsL_law wsX1_spiltAtEnd := goodIn_r _ [520, 521, 522, 523, 5, 524, 158, 160, 177, 35, 34, 182, 183, 152, 184, 185, 186, 187, 188, 132, 36, 189, 190, 191, 192, 31, 193, 194, 195, 196, 32, 33, 215, 216, 217, 218, 56, 620, 621, 622, 623, 624, 625, 626, 627, 628, 629, 630, 631, 632, 633, 634, 635, 636] (by decide +kernel) (by decide +kernel)
set_option maxRecDepth 20000 in
theorem gL_law_X1_spiltAtEnd : GoodIn wsL_law (wsV RL 191 RX1 yX1_spiltAtEnd wsX1_spiltAtEnd) := goodIn_app (goodIn_of _ (by decide +kernel)) ggL_law_X1_spiltAtEnd
set_option maxRecDepth 20000 in
theorem ggL_law_X0_minuteOfSpill : GoodIn wsL_law wsX0_minuteOfSpill := goodIn_r _ [528, 22, 529, 530, 531, 2, 532, 140, 168, 169, 170, 171, 172, 17, 23, 20, 150, 151, 152, 153, 146, 147, 148, 149, 21, 603, 604, 605, 606, 607, 608, 609, 610, 611, 612, 613, 614, 615, 616, 617, 618, 619] (by decide +kernel) (by decide +kernel)
set_option maxRecDepth 20000 in
theorem gL_law_X0_minuteOfSpill : GoodIn wsL_law (wsV RL 192 RX0 yX0_minuteOfSpill wsX0_minuteOfSpill) := goodIn_app (goodIn_of _ (by decide +kernel)) ggL_law_X0_minuteOfSpill
set_option maxRecDepth 20000 in
theorem ggL_law_X1_minuteOfSpill : GoodIn wsL_law wsX1_minuteOfSpill := goodIn_r _ [536, 35, 537, 538, 539, 5, 540, 158, 177, 34, 185, 186, 187, 188, 132, 36, 182, 183, 152, 184, 189, 190, 191, 192, 31, 193, 194, 195, 196, 32, 33, 215, 216, 217, 218, 56, 620, 621, 622, 623, 624, 625, 626, 627, 628, 629, 630, 631, 632, 633, 634, 635, 636] (by decide +kernel) (by decide +kernel)
set_option maxRecDepth 20000 in
theorem gL_law_X1_minuteOfSpill : GoodIn wsL_law (wsV RL 195 RX1 yX1_minuteOfSpill wsX1_minuteOfSpill) := goodIn_app (goodIn_of _ (by decide +kernel)) ggL_law_X1_minuteOfSpill
set_option maxRecDepth 20000 in
theorem ggL_law_X0_safeRate : GoodIn wsL_law wsX0_safeRate := goodIn_r _ [544, 529, 530, 531, 2, 532, 140, 168, 169, 170, 171, 172, 17, 23, 20, 150, 151, 152, 153, 146, 147, 148, 149, 21, 603, 604, 605, 606, 607, 608, 609, 610, 611, 612, 613, 614, 615, 616, 617, 618, 619] (by decide +kernel) (by decide +kernel)
set_option maxRecDepth 20000 in
theorem gL_law_X0_safeRate : GoodIn wsL_law (wsV RL 196 RX0 yX0_safeRate wsX0_safeRate) := goodIn_app (goodIn_of _ (by decide +kernel)) ggL_law_X0_safeRate
set_option maxRecDepth 20000 in
theorem ggL_law_X1_safeRate : GoodIn wsL_law wsX1_safeRate := goodIn_r _ [548, 549, 550, 551, 5, 552, 537, 538, 539, 540, 158, 177, 34, 185, 186, 187, 188, 132, 36, 182, 183, 152, 184, 189, 190, 191, 192, 31, 193, 194, 195, 196, 32, 33, 215, 216, 217, 218, 56, 620, 621, 622, 623, 624, 625, 626, 627, 628, 629, 630, 631, 632, 633, 634, 635, 636] (by decide +kernel) (by decide +kernel)
set_option maxRecDepth 20000 in
theorem gL_law_X1_safeRate : GoodIn wsL_law (wsV RL 199 RX1 yX1_safeRate wsX1_safeRate) := goodIn_app (goodIn_of _ (by decide +kernel)) ggL_law_X1_safeRate
set_option maxRecDepth 20000 in
theorem ggL_law_X0_bestToGiveUp : GoodIn wsL_law wsX0_bestToGiveUp := goodIn_r _ [556, 76, 387, 388, 389, 2, 390, 17, 81, 82, 83, 84, 15, 16, 603, 604, 605, 606, 607, 608, 609, 610, 611, 612, 613, 614, 615, 616, 617, 618, 619] (by decide +kernel) (by decide +kernel)
set_option maxRecDepth 20000 in
theorem gL_law_X0_bestToGiveUp : GoodIn wsL_law (wsV RL 200 RX0 yX0_bestToGiveUp wsX0_bestToGiveUp) := goodIn_app (goodIn_of _ (by decide +kernel)) ggL_law_X0_bestToGiveUp
set_option maxRecDepth 20000 in
theorem ggL_law_X1_bestToGiveUp : GoodIn wsL_law wsX1_bestToGiveUp := goodIn_r _ [560, 561, 562, 563, 5, 564, 89, 395, 396, 397, 398, 29, 30, 31, 215, 216, 217, 218, 56, 620, 621, 622, 623, 624, 625, 626, 627, 628, 629, 630, 631, 632, 633, 634, 635, 636] (by decide +kernel) (by decide +kernel)
set_option maxRecDepth 20000 in
theorem gL_law_X1_bestToGiveUp : GoodIn wsL_law (wsV RL 203 RX1 yX1_bestToGiveUp wsX1_bestToGiveUp) := goodIn_app (goodIn_of _ (by decide +kernel)) ggL_law_X1_bestToGiveUp
set_option maxRecDepth 20000 in
theorem ggL_law_X0_meanLastShadow : GoodIn wsL_law wsX0_meanLastShadow := goodIn_r _ [568, 51, 331, 332, 333, 2, 334, 297, 298, 299, 300, 14, 603, 604, 605, 606, 607, 608, 609, 610, 611, 612, 613, 614, 615, 616, 617, 618, 619] (by decide +kernel) (by decide +kernel)
set_option maxRecDepth 20000 in
theorem gL_law_X0_meanLastShadow : GoodIn wsL_law (wsV RL 204 RX0 yX0_meanLastShadow wsX0_meanLastShadow) := goodIn_app (goodIn_of _ (by decide +kernel)) ggL_law_X0_meanLastShadow
set_option maxRecDepth 20000 in
theorem ggL_law_X1_meanLastShadow : GoodIn wsL_law wsX1_meanLastShadow := goodIn_r _ [572, 56, 57, 309, 310, 311, 5, 312, 28, 620, 621, 622, 623, 624, 625, 626, 627, 628, 629, 630, 631, 632, 633, 634, 635, 636] (by decide +kernel) (by decide +kernel)
set_option maxRecDepth 20000 in
theorem gL_law_X1_meanLastShadow : GoodIn wsL_law (wsV RL 208 RX1 yX1_meanLastShadow wsX1_meanLastShadow) := goodIn_app (goodIn_of _ (by decide +kernel)) ggL_law_X1_meanLastShadow
set_option maxRecDepth 20000 in
theorem ggL_law_X0_digest : GoodIn wsL_law wsX0_digest := goodIn_ca (goodIn_r _ [576, 577, 578, 201, 168, 51, 76, 123, 140, 145, 261, 246, 247, 2, 248, 17, 579, 267, 268, 269, 150, 151, 152, 153, 580, 514, 515, 516, 22, 169, 170, 171, 172, 23, 20, 146, 147, 148, 149, 21, 581, 542, 543, 544, 529, 530, 531, 532, 582, 554, 555, 556, 387, 388, 389, 390, 81, 82, 83, 84, 15, 16, 583, 466, 467, 468, 469, 470, 471, 472, 453, 454, 455, 456, 442, 443, 444, 18, 414, 415, 416, 417, 106, 107, 418, 419, 420, 421, 422, 423, 424, 425, 124, 125, 126, 127, 19, 584, 585, 586, 587, 297, 298, 299, 300, 14, 588, 589, 590, 591, 592, 593, 594, 595, 596, 486, 487, 488, 603, 604, 605, 606, 607, 608, 609, 610, 611, 612, 613, 614, 615, 616, 617, 618, 619] (by decide +kernel) (by decide +kernel)) (goodIn_sub (fun _ h => List.mem_append_right _ h) (by decide +kernel))
set_option maxRecDepth 20000 in
theorem gL_law_X0_digest : GoodIn wsL_law (wsV RL 209 RX0 yX0_digest wsX0_digest) := goodIn_app (goodIn_of _ (by decide +kernel)) ggL_law_X0_digest
set_option maxRecDepth 20000 in
theorem ggL_law_X1_digest : GoodIn wsL_law wsX1_digest := goodIn_r _ [600, 56, 13, 206, 177, 57, 89, 132, 158, 160, 601, 602, 29, 30, 32, 253, 254, 255, 5, 256, 189, 190, 191, 192, 31, 274, 275, 276, 277, 159, 151, 152, 153, 521, 522, 523, 524, 35, 34, 182, 183, 184, 185, 186, 187, 188, 36, 193, 194, 195, 196, 33, 549, 550, 551, 552, 537, 538, 539, 540, 561, 562, 563, 564, 395, 396, 397, 398, 477, 478, 479, 480, 481, 470, 471, 461, 462, 463, 464, 434, 435, 436, 437, 309, 310, 311, 312, 28, 493, 494, 495, 496, 620, 621, 622, 623, 624, 625, 626, 627, 628, 629, 630, 631, 632, 633, 634, 635, 636] (by decide +kernel) (by decide +kernel)
set_option maxRecDepth 20000 in
theorem gL_law_X1_digest : GoodIn wsL_law (wsV RL 213 RX1 yX1_digest wsX1_digest) := goodIn_app (goodIn_of _ (by decide +kernel)) ggL_law_X1_digest
end
section
theorem dL_law_0 : decode cL_law 0 = .ok (.new 8, 3) := by decide +kernel
theorem dL_law_3 : decode cL_law 3 = .ok (.dup, 1) := by decide +kernel
theorem dL_law_4 : decode cL_law 4 = .ok (.invokespecial 73, 3) := by decide +kernel
theorem dL_law_7 : decode cL_law 7 = .ok (.astore_n 1, 1) := by decide +kernel
theorem dL_law_8 : decode cL_law 8 = .ok (.new 74, 3) := by decide +kernel
theorem dL_law_11 : decode cL_law 11 = .ok (.dup, 1) := by decide +kernel
theorem dL_law_12 : decode cL_law 12 = .ok (.invokespecial 76, 3) := by decide +kernel
theorem dL_law_15 : decode cL_law 15 = .ok (.astore_n 2, 1) := by decide +kernel
theorem dL_law_16 : decode cL_law 16 = .ok (.iconst 1, 1) := by decide +kernel
theorem dL_law_17 : decode cL_law 17 = .ok (.newarray .long, 2) := by decide +kernel
theorem dL_law_19 : decode cL_law 19 = .ok (.astore_n 3, 1) := by decide +kernel
theorem dL_law_20 : decode cL_law 20 = .ok (.iconst 0, 1) := by decide +kernel
theorem dL_law_21 : decode cL_law 21 = .ok (.istore 4, 2) := by decide +kernel
theorem dL_law_23 : decode cL_law 23 = .ok (.iload 4, 2) := by decide +kernel
theorem dL_law_25 : decode cL_law 25 = .ok (.aload_n 0, 1) := by decide +kernel
theorem dL_law_26 : decode cL_law 26 = .ok (.arraylength, 1) := by decide +kernel
theorem dL_law_27 : decode cL_law 27 = .ok (.iconst 4, 1) := by decide +kernel
theorem dL_law_28 : decode cL_law 28 = .ok (.isub, 1) := by decide +kernel
theorem dL_law_29 : decode cL_law 29 = .ok (.if_icmp .gt 1523, 3) := by decide +kernel
theorem dL_law_32 : decode cL_law 32 = .ok (.aload_n 0, 1) := by decide +kernel
theorem dL_law_33 : decode cL_law 33 = .ok (.iload 4, 2) := by decide +kernel
theorem dL_law_35 : decode cL_law 35 = .ok (.iaload, 1) := by decide +kernel
theorem dL_law_36 : decode cL_law 36 = .ok (.bipush 63, 2) := by decide +kernel
theorem dL_law_38 : decode cL_law 38 = .ok (.iand, 1) := by decide +kernel
theorem dL_law_39 : decode cL_law 39 = .ok (.tableswitch 1507 0 35 #[157, 213, 281, 337, 405, 485, 541, 554, 567, 580, 643, 656, 669, 682, 695, 763, 831, 887, 900, 956, 1012, 1068, 1124, 1137, 1193, 1249, 1305, 1318, 1374, 1387, 1400, 1413, 1426, 1439, 1452, 1493], 157) := by decide +kernel
theorem dL_law_196 : decode cL_law 196 = .ok (.aload_n 1, 1) := by decide +kernel
theorem dL_law_197 : decode cL_law 197 = .ok (.aload_n 0, 1) := by decide +kernel
theorem dL_law_198 : decode cL_law 198 = .ok (.iload 4, 2) := by decide +kernel
theorem dL_law_200 : decode cL_law 200 = .ok (.iconst 1, 1) := by decide +kernel
theorem dL_law_201 : decode cL_law 201 = .ok (.iadd, 1) := by decide +kernel
theorem dL_law_202 : decode cL_law 202 = .ok (.iaload, 1) := by decide +kernel
theorem dL_law_203 : decode cL_law 203 = .ok (.aload_n 3, 1) := by decide +kernel
theorem dL_law_204 : decode cL_law 204 = .ok (.invokestatic 77, 3) := by decide +kernel
theorem dL_law_207 : decode cL_law 207 = .ok (.istore 5, 2) := by decide +kernel
theorem dL_law_209 : decode cL_law 209 = .ok (.aload_n 2, 1) := by decide +kernel
theorem dL_law_210 : decode cL_law 210 = .ok (.aload_n 0, 1) := by decide +kernel
theorem dL_law_211 : decode cL_law 211 = .ok (.iload 4, 2) := by decide +kernel
theorem dL_law_213 : decode cL_law 213 = .ok (.iconst 1, 1) := by decide +kernel
theorem dL_law_214 : decode cL_law 214 = .ok (.iadd, 1) := by decide +kernel
theorem dL_law_215 : decode cL_law 215 = .ok (.iaload, 1) := by decide +kernel
theorem dL_law_216 : decode cL_law 216 = .ok (.invokevirtual 82, 3) := by decide +kernel
theorem dL_law_219 : decode cL_law 219 = .ok (.istore 6, 2) := by decide +kernel
theorem dL_law_221 : decode cL_law 221 = .ok (.aload_n 2, 1) := by decide +kernel
theorem dL_law_222 : decode cL_law 222 = .ok (.invokevirtual 83, 3) := by decide +kernel
theorem dL_law_225 : decode cL_law 225 = .ok (.iload 5, 2) := by decide +kernel
theorem dL_law_227 : decode cL_law 227 = .ok (.if_icmp .eq 5, 3) := by decide +kernel
theorem dL_law_230 : decode cL_law 230 = .ok (.iconst 0, 1) := by decide +kernel
theorem dL_law_231 : decode cL_law 231 = .ok (.ireturn, 1) := by decide +kernel
theorem dL_law_232 : decode cL_law 232 = .ok (.iload 5, 2) := by decide +kernel
theorem dL_law_234 : decode cL_law 234 = .ok (.ifCond .ne 15, 3) := by decide +kernel
theorem dL_law_237 : decode cL_law 237 = .ok (.aload_n 3, 1) := by decide +kernel
theorem dL_law_238 : decode cL_law 238 = .ok (.iconst 0, 1) := by decide +kernel
theorem dL_law_239 : decode cL_law 239 = .ok (.laload, 1) := by decide +kernel
theorem dL_law_240 : decode cL_law 240 = .ok (.iload 6, 2) := by decide +kernel
theorem dL_law_242 : decode cL_law 242 = .ok (.i2l, 1) := by decide +kernel
theorem dL_law_243 : decode cL_law 243 = .ok (.lcmp, 1) := by decide +kernel
theorem dL_law_244 : decode cL_law 244 = .ok (.ifCond .eq 5, 3) := by decide +kernel
theorem dL_law_247 : decode cL_law 247 = .ok (.iconst 0, 1) := by decide +kernel
theorem dL_law_248 : decode cL_law 248 = .ok (.ireturn, 1) := by decide +kernel
theorem dL_law_249 : decode cL_law 249 = .ok (.goto 1297, 3) := by decide +kernel
theorem dL_law_252 : decode cL_law 252 = .ok (.aload_n 1, 1) := by decide +kernel
theorem dL_law_253 : decode cL_law 253 = .ok (.aload_n 0, 1) := by decide +kernel
theorem dL_law_254 : decode cL_law 254 = .ok (.iload 4, 2) := by decide +kernel
theorem dL_law_256 : decode cL_law 256 = .ok (.iconst 1, 1) := by decide +kernel
theorem dL_law_257 : decode cL_law 257 = .ok (.iadd, 1) := by decide +kernel
theorem dL_law_258 : decode cL_law 258 = .ok (.iaload, 1) := by decide +kernel
theorem dL_law_259 : decode cL_law 259 = .ok (.aload_n 0, 1) := by decide +kernel
theorem dL_law_260 : decode cL_law 260 = .ok (.iload 4, 2) := by decide +kernel
theorem dL_law_262 : decode cL_law 262 = .ok (.iconst 2, 1) := by decide +kernel
theorem dL_law_263 : decode cL_law 263 = .ok (.iadd, 1) := by decide +kernel
theorem dL_law_264 : decode cL_law 264 = .ok (.iaload, 1) := by decide +kernel
theorem dL_law_265 : decode cL_law 265 = .ok (.aload_n 3, 1) := by decide +kernel
theorem dL_law_266 : decode cL_law 266 = .ok (.invokestatic 87, 3) := by decide +kernel
theorem dL_law_269 : decode cL_law 269 = .ok (.istore 5, 2) := by decide +kernel
theorem dL_law_271 : decode cL_law 271 = .ok (.aload_n 2, 1) := by decide +kernel
theorem dL_law_272 : decode cL_law 272 = .ok (.aload_n 0, 1) := by decide +kernel
theorem dL_law_273 : decode cL_law 273 = .ok (.iload 4, 2) := by decide +kernel
theorem dL_law_275 : decode cL_law 275 = .ok (.iconst 1, 1) := by decide +kernel
theorem dL_law_276 : decode cL_law 276 = .ok (.iadd, 1) := by decide +kernel
theorem dL_law_277 : decode cL_law 277 = .ok (.iaload, 1) := by decide +kernel
theorem dL_law_278 : decode cL_law 278 = .ok (.aload_n 0, 1) := by decide +kernel
theorem dL_law_279 : decode cL_law 279 = .ok (.iload 4, 2) := by decide +kernel
theorem dL_law_281 : decode cL_law 281 = .ok (.iconst 2, 1) := by decide +kernel
theorem dL_law_282 : decode cL_law 282 = .ok (.iadd, 1) := by decide +kernel
theorem dL_law_283 : decode cL_law 283 = .ok (.iaload, 1) := by decide +kernel
theorem dL_law_284 : decode cL_law 284 = .ok (.invokevirtual 90, 3) := by decide +kernel
theorem dL_law_287 : decode cL_law 287 = .ok (.istore 6, 2) := by decide +kernel
theorem dL_law_289 : decode cL_law 289 = .ok (.aload_n 2, 1) := by decide +kernel
theorem dL_law_290 : decode cL_law 290 = .ok (.invokevirtual 83, 3) := by decide +kernel
theorem dL_law_293 : decode cL_law 293 = .ok (.iload 5, 2) := by decide +kernel
theorem dL_law_295 : decode cL_law 295 = .ok (.if_icmp .eq 5, 3) := by decide +kernel
theorem dL_law_298 : decode cL_law 298 = .ok (.iconst 0, 1) := by decide +kernel
theorem dL_law_299 : decode cL_law 299 = .ok (.ireturn, 1) := by decide +kernel
theorem dL_law_300 : decode cL_law 300 = .ok (.iload 5, 2) := by decide +kernel
theorem dL_law_302 : decode cL_law 302 = .ok (.ifCond .ne 15, 3) := by decide +kernel
theorem dL_law_305 : decode cL_law 305 = .ok (.aload_n 3, 1) := by decide +kernel
theorem dL_law_306 : decode cL_law 306 = .ok (.iconst 0, 1) := by decide +kernel
theorem dL_law_307 : decode cL_law 307 = .ok (.laload, 1) := by decide +kernel
theorem dL_law_308 : decode cL_law 308 = .ok (.iload 6, 2) := by decide +kernel
theorem dL_law_310 : decode cL_law 310 = .ok (.i2l, 1) := by decide +kernel
theorem dL_law_311 : decode cL_law 311 = .ok (.lcmp, 1) := by decide +kernel
theorem dL_law_312 : decode cL_law 312 = .ok (.ifCond .eq 5, 3) := by decide +kernel
theorem dL_law_315 : decode cL_law 315 = .ok (.iconst 0, 1) := by decide +kernel
theorem dL_law_316 : decode cL_law 316 = .ok (.ireturn, 1) := by decide +kernel
theorem dL_law_317 : decode cL_law 317 = .ok (.goto 1229, 3) := by decide +kernel
theorem dL_law_320 : decode cL_law 320 = .ok (.aload_n 1, 1) := by decide +kernel
theorem dL_law_321 : decode cL_law 321 = .ok (.aload_n 0, 1) := by decide +kernel
theorem dL_law_322 : decode cL_law 322 = .ok (.iload 4, 2) := by decide +kernel
theorem dL_law_324 : decode cL_law 324 = .ok (.iconst 1, 1) := by decide +kernel
theorem dL_law_325 : decode cL_law 325 = .ok (.iadd, 1) := by decide +kernel
theorem dL_law_326 : decode cL_law 326 = .ok (.iaload, 1) := by decide +kernel
theorem dL_law_327 : decode cL_law 327 = .ok (.aload_n 3, 1) := by decide +kernel
theorem dL_law_328 : decode cL_law 328 = .ok (.invokestatic 91, 3) := by decide +kernel
theorem dL_law_331 : decode cL_law 331 = .ok (.istore 5, 2) := by decide +kernel
theorem dL_law_333 : decode cL_law 333 = .ok (.aload_n 2, 1) := by decide +kernel
theorem dL_law_334 : decode cL_law 334 = .ok (.aload_n 0, 1) := by decide +kernel
theorem dL_law_335 : decode cL_law 335 = .ok (.iload 4, 2) := by decide +kernel
theorem dL_law_337 : decode cL_law 337 = .ok (.iconst 1, 1) := by decide +kernel
theorem dL_law_338 : decode cL_law 338 = .ok (.iadd, 1) := by decide +kernel
theorem dL_law_339 : decode cL_law 339 = .ok (.iaload, 1) := by decide +kernel
theorem dL_law_340 : decode cL_law 340 = .ok (.invokevirtual 93, 3) := by decide +kernel
theorem dL_law_343 : decode cL_law 343 = .ok (.istore 6, 2) := by decide +kernel
theorem dL_law_345 : decode cL_law 345 = .ok (.aload_n 2, 1) := by decide +kernel
theorem dL_law_346 : decode cL_law 346 = .ok (.invokevirtual 83, 3) := by decide +kernel
theorem dL_law_349 : decode cL_law 349 = .ok (.iload 5, 2) := by decide +kernel
theorem dL_law_351 : decode cL_law 351 = .ok (.if_icmp .eq 5, 3) := by decide +kernel
theorem dL_law_354 : decode cL_law 354 = .ok (.iconst 0, 1) := by decide +kernel
theorem dL_law_355 : decode cL_law 355 = .ok (.ireturn, 1) := by decide +kernel
theorem dL_law_356 : decode cL_law 356 = .ok (.iload 5, 2) := by decide +kernel
theorem dL_law_358 : decode cL_law 358 = .ok (.ifCond .ne 15, 3) := by decide +kernel
theorem dL_law_361 : decode cL_law 361 = .ok (.aload_n 3, 1) := by decide +kernel
theorem dL_law_362 : decode cL_law 362 = .ok (.iconst 0, 1) := by decide +kernel
theorem dL_law_363 : decode cL_law 363 = .ok (.laload, 1) := by decide +kernel
theorem dL_law_364 : decode cL_law 364 = .ok (.iload 6, 2) := by decide +kernel
theorem dL_law_366 : decode cL_law 366 = .ok (.i2l, 1) := by decide +kernel
theorem dL_law_367 : decode cL_law 367 = .ok (.lcmp, 1) := by decide +kernel
theorem dL_law_368 : decode cL_law 368 = .ok (.ifCond .eq 5, 3) := by decide +kernel
theorem dL_law_371 : decode cL_law 371 = .ok (.iconst 0, 1) := by decide +kernel
theorem dL_law_372 : decode cL_law 372 = .ok (.ireturn, 1) := by decide +kernel
theorem dL_law_373 : decode cL_law 373 = .ok (.goto 1173, 3) := by decide +kernel
theorem dL_law_376 : decode cL_law 376 = .ok (.aload_n 1, 1) := by decide +kernel
theorem dL_law_377 : decode cL_law 377 = .ok (.aload_n 0, 1) := by decide +kernel
theorem dL_law_378 : decode cL_law 378 = .ok (.iload 4, 2) := by decide +kernel
theorem dL_law_380 : decode cL_law 380 = .ok (.iconst 1, 1) := by decide +kernel
theorem dL_law_381 : decode cL_law 381 = .ok (.iadd, 1) := by decide +kernel
theorem dL_law_382 : decode cL_law 382 = .ok (.iaload, 1) := by decide +kernel
theorem dL_law_383 : decode cL_law 383 = .ok (.aload_n 0, 1) := by decide +kernel
theorem dL_law_384 : decode cL_law 384 = .ok (.iload 4, 2) := by decide +kernel
theorem dL_law_386 : decode cL_law 386 = .ok (.iconst 2, 1) := by decide +kernel
theorem dL_law_387 : decode cL_law 387 = .ok (.iadd, 1) := by decide +kernel
theorem dL_law_388 : decode cL_law 388 = .ok (.iaload, 1) := by decide +kernel
theorem dL_law_389 : decode cL_law 389 = .ok (.aload_n 3, 1) := by decide +kernel
theorem dL_law_390 : decode cL_law 390 = .ok (.invokestatic 94, 3) := by decide +kernel
theorem dL_law_393 : decode cL_law 393 = .ok (.istore 5, 2) := by decide +kernel
theorem dL_law_395 : decode cL_law 395 = .ok (.aload_n 2, 1) := by decide +kernel
theorem dL_law_396 : decode cL_law 396 = .ok (.aload_n 0, 1) := by decide +kernel
theorem dL_law_397 : decode cL_law 397 = .ok (.iload 4, 2) := by decide +kernel
theorem dL_law_399 : decode cL_law 399 = .ok (.iconst 1, 1) := by decide +kernel
theorem dL_law_400 : decode cL_law 400 = .ok (.iadd, 1) := by decide +kernel
theorem dL_law_401 : decode cL_law 401 = .ok (.iaload, 1) := by decide +kernel
theorem dL_law_402 : decode cL_law 402 = .ok (.aload_n 0, 1) := by decide +kernel
theorem dL_law_403 : decode cL_law 403 = .ok (.iload 4, 2) := by decide +kernel
theorem dL_law_405 : decode cL_law 405 = .ok (.iconst 2, 1) := by decide +kernel
theorem dL_law_406 : decode cL_law 406 = .ok (.iadd, 1) := by decide +kernel
theorem dL_law_407 : decode cL_law 407 = .ok (.iaload, 1) := by decide +kernel
theorem dL_law_408 : decode cL_law 408 = .ok (.invokevirtual 96, 3) := by decide +kernel
theorem dL_law_411 : decode cL_law 411 = .ok (.istore 6, 2) := by decide +kernel
theorem dL_law_413 : decode cL_law 413 = .ok (.aload_n 2, 1) := by decide +kernel
theorem dL_law_414 : decode cL_law 414 = .ok (.invokevirtual 83, 3) := by decide +kernel
theorem dL_law_417 : decode cL_law 417 = .ok (.iload 5, 2) := by decide +kernel
theorem dL_law_419 : decode cL_law 419 = .ok (.if_icmp .eq 5, 3) := by decide +kernel
theorem dL_law_422 : decode cL_law 422 = .ok (.iconst 0, 1) := by decide +kernel
theorem dL_law_423 : decode cL_law 423 = .ok (.ireturn, 1) := by decide +kernel
theorem dL_law_424 : decode cL_law 424 = .ok (.iload 5, 2) := by decide +kernel
theorem dL_law_426 : decode cL_law 426 = .ok (.ifCond .ne 15, 3) := by decide +kernel
theorem dL_law_429 : decode cL_law 429 = .ok (.aload_n 3, 1) := by decide +kernel
theorem dL_law_430 : decode cL_law 430 = .ok (.iconst 0, 1) := by decide +kernel
theorem dL_law_431 : decode cL_law 431 = .ok (.laload, 1) := by decide +kernel
theorem dL_law_432 : decode cL_law 432 = .ok (.iload 6, 2) := by decide +kernel
theorem dL_law_434 : decode cL_law 434 = .ok (.i2l, 1) := by decide +kernel
theorem dL_law_435 : decode cL_law 435 = .ok (.lcmp, 1) := by decide +kernel
theorem dL_law_436 : decode cL_law 436 = .ok (.ifCond .eq 5, 3) := by decide +kernel
theorem dL_law_439 : decode cL_law 439 = .ok (.iconst 0, 1) := by decide +kernel
theorem dL_law_440 : decode cL_law 440 = .ok (.ireturn, 1) := by decide +kernel
theorem dL_law_441 : decode cL_law 441 = .ok (.goto 1105, 3) := by decide +kernel
theorem dL_law_444 : decode cL_law 444 = .ok (.aload_n 1, 1) := by decide +kernel
theorem dL_law_445 : decode cL_law 445 = .ok (.aload_n 0, 1) := by decide +kernel
theorem dL_law_446 : decode cL_law 446 = .ok (.iload 4, 2) := by decide +kernel
theorem dL_law_448 : decode cL_law 448 = .ok (.iconst 1, 1) := by decide +kernel
theorem dL_law_449 : decode cL_law 449 = .ok (.iadd, 1) := by decide +kernel
theorem dL_law_450 : decode cL_law 450 = .ok (.iaload, 1) := by decide +kernel
theorem dL_law_451 : decode cL_law 451 = .ok (.aload_n 0, 1) := by decide +kernel
theorem dL_law_452 : decode cL_law 452 = .ok (.iload 4, 2) := by decide +kernel
theorem dL_law_454 : decode cL_law 454 = .ok (.iconst 2, 1) := by decide +kernel
theorem dL_law_455 : decode cL_law 455 = .ok (.iadd, 1) := by decide +kernel
theorem dL_law_456 : decode cL_law 456 = .ok (.iaload, 1) := by decide +kernel
theorem dL_law_457 : decode cL_law 457 = .ok (.aload_n 0, 1) := by decide +kernel
theorem dL_law_458 : decode cL_law 458 = .ok (.iload 4, 2) := by decide +kernel
theorem dL_law_460 : decode cL_law 460 = .ok (.iconst 3, 1) := by decide +kernel
theorem dL_law_461 : decode cL_law 461 = .ok (.iadd, 1) := by decide +kernel
theorem dL_law_462 : decode cL_law 462 = .ok (.iaload, 1) := by decide +kernel
theorem dL_law_463 : decode cL_law 463 = .ok (.aload_n 3, 1) := by decide +kernel
theorem dL_law_464 : decode cL_law 464 = .ok (.invokestatic 97, 3) := by decide +kernel
theorem dL_law_467 : decode cL_law 467 = .ok (.istore 5, 2) := by decide +kernel
theorem dL_law_469 : decode cL_law 469 = .ok (.aload_n 2, 1) := by decide +kernel
theorem dL_law_470 : decode cL_law 470 = .ok (.aload_n 0, 1) := by decide +kernel
theorem dL_law_471 : decode cL_law 471 = .ok (.iload 4, 2) := by decide +kernel
theorem dL_law_473 : decode cL_law 473 = .ok (.iconst 1, 1) := by decide +kernel
theorem dL_law_474 : decode cL_law 474 = .ok (.iadd, 1) := by decide +kernel
theorem dL_law_475 : decode cL_law 475 = .ok (.iaload, 1) := by decide +kernel
theorem dL_law_476 : decode cL_law 476 = .ok (.aload_n 0, 1) := by decide +kernel
theorem dL_law_477 : decode cL_law 477 = .ok (.iload 4, 2) := by decide +kernel
theorem dL_law_479 : decode cL_law 479 = .ok (.iconst 2, 1) := by decide +kernel
theorem dL_law_480 : decode cL_law 480 = .ok (.iadd, 1) := by decide +kernel
theorem dL_law_481 : decode cL_law 481 = .ok (.iaload, 1) := by decide +kernel
theorem dL_law_482 : decode cL_law 482 = .ok (.aload_n 0, 1) := by decide +kernel
theorem dL_law_483 : decode cL_law 483 = .ok (.iload 4, 2) := by decide +kernel
theorem dL_law_485 : decode cL_law 485 = .ok (.iconst 3, 1) := by decide +kernel
theorem dL_law_486 : decode cL_law 486 = .ok (.iadd, 1) := by decide +kernel
theorem dL_law_487 : decode cL_law 487 = .ok (.iaload, 1) := by decide +kernel
theorem dL_law_488 : decode cL_law 488 = .ok (.invokevirtual 100, 3) := by decide +kernel
theorem dL_law_491 : decode cL_law 491 = .ok (.istore 6, 2) := by decide +kernel
theorem dL_law_493 : decode cL_law 493 = .ok (.aload_n 2, 1) := by decide +kernel
theorem dL_law_494 : decode cL_law 494 = .ok (.invokevirtual 83, 3) := by decide +kernel
theorem dL_law_497 : decode cL_law 497 = .ok (.iload 5, 2) := by decide +kernel
theorem dL_law_499 : decode cL_law 499 = .ok (.if_icmp .eq 5, 3) := by decide +kernel
theorem dL_law_502 : decode cL_law 502 = .ok (.iconst 0, 1) := by decide +kernel
theorem dL_law_503 : decode cL_law 503 = .ok (.ireturn, 1) := by decide +kernel
theorem dL_law_504 : decode cL_law 504 = .ok (.iload 5, 2) := by decide +kernel
theorem dL_law_506 : decode cL_law 506 = .ok (.ifCond .ne 15, 3) := by decide +kernel
theorem dL_law_509 : decode cL_law 509 = .ok (.aload_n 3, 1) := by decide +kernel
theorem dL_law_510 : decode cL_law 510 = .ok (.iconst 0, 1) := by decide +kernel
theorem dL_law_511 : decode cL_law 511 = .ok (.laload, 1) := by decide +kernel
theorem dL_law_512 : decode cL_law 512 = .ok (.iload 6, 2) := by decide +kernel
theorem dL_law_514 : decode cL_law 514 = .ok (.i2l, 1) := by decide +kernel
theorem dL_law_515 : decode cL_law 515 = .ok (.lcmp, 1) := by decide +kernel
theorem dL_law_516 : decode cL_law 516 = .ok (.ifCond .eq 5, 3) := by decide +kernel
theorem dL_law_519 : decode cL_law 519 = .ok (.iconst 0, 1) := by decide +kernel
theorem dL_law_520 : decode cL_law 520 = .ok (.ireturn, 1) := by decide +kernel
theorem dL_law_521 : decode cL_law 521 = .ok (.goto 1025, 3) := by decide +kernel
theorem dL_law_524 : decode cL_law 524 = .ok (.aload_n 1, 1) := by decide +kernel
theorem dL_law_525 : decode cL_law 525 = .ok (.aload_n 0, 1) := by decide +kernel
theorem dL_law_526 : decode cL_law 526 = .ok (.iload 4, 2) := by decide +kernel
theorem dL_law_528 : decode cL_law 528 = .ok (.iconst 1, 1) := by decide +kernel
theorem dL_law_529 : decode cL_law 529 = .ok (.iadd, 1) := by decide +kernel
theorem dL_law_530 : decode cL_law 530 = .ok (.iaload, 1) := by decide +kernel
theorem dL_law_531 : decode cL_law 531 = .ok (.aload_n 3, 1) := by decide +kernel
theorem dL_law_532 : decode cL_law 532 = .ok (.invokestatic 101, 3) := by decide +kernel
theorem dL_law_535 : decode cL_law 535 = .ok (.istore 5, 2) := by decide +kernel
theorem dL_law_537 : decode cL_law 537 = .ok (.aload_n 2, 1) := by decide +kernel
theorem dL_law_538 : decode cL_law 538 = .ok (.aload_n 0, 1) := by decide +kernel
theorem dL_law_539 : decode cL_law 539 = .ok (.iload 4, 2) := by decide +kernel
theorem dL_law_541 : decode cL_law 541 = .ok (.iconst 1, 1) := by decide +kernel
theorem dL_law_542 : decode cL_law 542 = .ok (.iadd, 1) := by decide +kernel
theorem dL_law_543 : decode cL_law 543 = .ok (.iaload, 1) := by decide +kernel
theorem dL_law_544 : decode cL_law 544 = .ok (.invokevirtual 103, 3) := by decide +kernel
theorem dL_law_547 : decode cL_law 547 = .ok (.istore 6, 2) := by decide +kernel
theorem dL_law_549 : decode cL_law 549 = .ok (.aload_n 2, 1) := by decide +kernel
theorem dL_law_550 : decode cL_law 550 = .ok (.invokevirtual 83, 3) := by decide +kernel
theorem dL_law_553 : decode cL_law 553 = .ok (.iload 5, 2) := by decide +kernel
theorem dL_law_555 : decode cL_law 555 = .ok (.if_icmp .eq 5, 3) := by decide +kernel
theorem dL_law_558 : decode cL_law 558 = .ok (.iconst 0, 1) := by decide +kernel
theorem dL_law_559 : decode cL_law 559 = .ok (.ireturn, 1) := by decide +kernel
theorem dL_law_560 : decode cL_law 560 = .ok (.iload 5, 2) := by decide +kernel
theorem dL_law_562 : decode cL_law 562 = .ok (.ifCond .ne 15, 3) := by decide +kernel
theorem dL_law_565 : decode cL_law 565 = .ok (.aload_n 3, 1) := by decide +kernel
theorem dL_law_566 : decode cL_law 566 = .ok (.iconst 0, 1) := by decide +kernel
theorem dL_law_567 : decode cL_law 567 = .ok (.laload, 1) := by decide +kernel
theorem dL_law_568 : decode cL_law 568 = .ok (.iload 6, 2) := by decide +kernel
theorem dL_law_570 : decode cL_law 570 = .ok (.i2l, 1) := by decide +kernel
theorem dL_law_571 : decode cL_law 571 = .ok (.lcmp, 1) := by decide +kernel
theorem dL_law_572 : decode cL_law 572 = .ok (.ifCond .eq 5, 3) := by decide +kernel
theorem dL_law_575 : decode cL_law 575 = .ok (.iconst 0, 1) := by decide +kernel
theorem dL_law_576 : decode cL_law 576 = .ok (.ireturn, 1) := by decide +kernel
theorem dL_law_577 : decode cL_law 577 = .ok (.goto 969, 3) := by decide +kernel
theorem dL_law_580 : decode cL_law 580 = .ok (.aload_n 1, 1) := by decide +kernel
theorem dL_law_581 : decode cL_law 581 = .ok (.invokevirtual 104, 3) := by decide +kernel
theorem dL_law_584 : decode cL_law 584 = .ok (.aload_n 2, 1) := by decide +kernel
theorem dL_law_585 : decode cL_law 585 = .ok (.invokevirtual 107, 3) := by decide +kernel
theorem dL_law_588 : decode cL_law 588 = .ok (.if_icmp .eq 958, 3) := by decide +kernel
theorem dL_law_591 : decode cL_law 591 = .ok (.iconst 0, 1) := by decide +kernel
theorem dL_law_592 : decode cL_law 592 = .ok (.ireturn, 1) := by decide +kernel
theorem dL_law_593 : decode cL_law 593 = .ok (.aload_n 1, 1) := by decide +kernel
theorem dL_law_594 : decode cL_law 594 = .ok (.invokevirtual 108, 3) := by decide +kernel
theorem dL_law_597 : decode cL_law 597 = .ok (.aload_n 2, 1) := by decide +kernel
theorem dL_law_598 : decode cL_law 598 = .ok (.invokevirtual 111, 3) := by decide +kernel
theorem dL_law_601 : decode cL_law 601 = .ok (.if_icmp .eq 945, 3) := by decide +kernel
theorem dL_law_604 : decode cL_law 604 = .ok (.iconst 0, 1) := by decide +kernel
theorem dL_law_605 : decode cL_law 605 = .ok (.ireturn, 1) := by decide +kernel
theorem dL_law_606 : decode cL_law 606 = .ok (.aload_n 1, 1) := by decide +kernel
theorem dL_law_607 : decode cL_law 607 = .ok (.invokevirtual 112, 3) := by decide +kernel
theorem dL_law_610 : decode cL_law 610 = .ok (.aload_n 2, 1) := by decide +kernel
theorem dL_law_611 : decode cL_law 611 = .ok (.invokevirtual 115, 3) := by decide +kernel
theorem dL_law_614 : decode cL_law 614 = .ok (.if_icmp .eq 932, 3) := by decide +kernel
theorem dL_law_617 : decode cL_law 617 = .ok (.iconst 0, 1) := by decide +kernel
theorem dL_law_618 : decode cL_law 618 = .ok (.ireturn, 1) := by decide +kernel
theorem dL_law_619 : decode cL_law 619 = .ok (.aload_n 1, 1) := by decide +kernel
theorem dL_law_620 : decode cL_law 620 = .ok (.aload_n 0, 1) := by decide +kernel
theorem dL_law_621 : decode cL_law 621 = .ok (.iload 4, 2) := by decide +kernel
theorem dL_law_623 : decode cL_law 623 = .ok (.iconst 1, 1) := by decide +kernel
theorem dL_law_624 : decode cL_law 624 = .ok (.iadd, 1) := by decide +kernel
theorem dL_law_625 : decode cL_law 625 = .ok (.iaload, 1) := by decide +kernel
theorem dL_law_626 : decode cL_law 626 = .ok (.aload_n 3, 1) := by decide +kernel
theorem dL_law_627 : decode cL_law 627 = .ok (.invokestatic 116, 3) := by decide +kernel
theorem dL_law_630 : decode cL_law 630 = .ok (.istore 5, 2) := by decide +kernel
theorem dL_law_632 : decode cL_law 632 = .ok (.aload_n 2, 1) := by decide +kernel
theorem dL_law_633 : decode cL_law 633 = .ok (.aload_n 0, 1) := by decide +kernel
theorem dL_law_634 : decode cL_law 634 = .ok (.iload 4, 2) := by decide +kernel
theorem dL_law_636 : decode cL_law 636 = .ok (.iconst 1, 1) := by decide +kernel
theorem dL_law_637 : decode cL_law 637 = .ok (.iadd, 1) := by decide +kernel
theorem dL_law_638 : decode cL_law 638 = .ok (.iaload, 1) := by decide +kernel
theorem dL_law_639 : decode cL_law 639 = .ok (.invokevirtual 118, 3) := by decide +kernel
theorem dL_law_642 : decode cL_law 642 = .ok (.istore 6, 2) := by decide +kernel
theorem dL_law_644 : decode cL_law 644 = .ok (.aload_n 2, 1) := by decide +kernel
theorem dL_law_645 : decode cL_law 645 = .ok (.invokevirtual 83, 3) := by decide +kernel
theorem dL_law_648 : decode cL_law 648 = .ok (.iload 5, 2) := by decide +kernel
theorem dL_law_650 : decode cL_law 650 = .ok (.if_icmp .eq 5, 3) := by decide +kernel
theorem dL_law_653 : decode cL_law 653 = .ok (.iconst 0, 1) := by decide +kernel
theorem dL_law_654 : decode cL_law 654 = .ok (.ireturn, 1) := by decide +kernel
theorem dL_law_655 : decode cL_law 655 = .ok (.iload 5, 2) := by decide +kernel
theorem dL_law_657 : decode cL_law 657 = .ok (.ifCond .ne 22, 3) := by decide +kernel
theorem dL_law_660 : decode cL_law 660 = .ok (.aload_n 3, 1) := by decide +kernel
theorem dL_law_661 : decode cL_law 661 = .ok (.iconst 0, 1) := by decide +kernel
theorem dL_law_662 : decode cL_law 662 = .ok (.laload, 1) := by decide +kernel
theorem dL_law_663 : decode cL_law 663 = .ok (.iload 6, 2) := by decide +kernel
theorem dL_law_665 : decode cL_law 665 = .ok (.ifCond .eq 7, 3) := by decide +kernel
theorem dL_law_668 : decode cL_law 668 = .ok (.lconst 1, 1) := by decide +kernel
theorem dL_law_669 : decode cL_law 669 = .ok (.goto 4, 3) := by decide +kernel
theorem dL_law_672 : decode cL_law 672 = .ok (.lconst 0, 1) := by decide +kernel
theorem dL_law_673 : decode cL_law 673 = .ok (.lcmp, 1) := by decide +kernel
theorem dL_law_674 : decode cL_law 674 = .ok (.ifCond .eq 5, 3) := by decide +kernel
theorem dL_law_677 : decode cL_law 677 = .ok (.iconst 0, 1) := by decide +kernel
theorem dL_law_678 : decode cL_law 678 = .ok (.ireturn, 1) := by decide +kernel
theorem dL_law_679 : decode cL_law 679 = .ok (.goto 867, 3) := by decide +kernel
theorem dL_law_682 : decode cL_law 682 = .ok (.aload_n 1, 1) := by decide +kernel
theorem dL_law_683 : decode cL_law 683 = .ok (.invokevirtual 119, 3) := by decide +kernel
theorem dL_law_686 : decode cL_law 686 = .ok (.aload_n 2, 1) := by decide +kernel
theorem dL_law_687 : decode cL_law 687 = .ok (.invokevirtual 122, 3) := by decide +kernel
theorem dL_law_690 : decode cL_law 690 = .ok (.if_icmp .eq 856, 3) := by decide +kernel
theorem dL_law_693 : decode cL_law 693 = .ok (.iconst 0, 1) := by decide +kernel
theorem dL_law_694 : decode cL_law 694 = .ok (.ireturn, 1) := by decide +kernel
theorem dL_law_695 : decode cL_law 695 = .ok (.aload_n 1, 1) := by decide +kernel
theorem dL_law_696 : decode cL_law 696 = .ok (.invokevirtual 123, 3) := by decide +kernel
theorem dL_law_699 : decode cL_law 699 = .ok (.aload_n 2, 1) := by decide +kernel
theorem dL_law_700 : decode cL_law 700 = .ok (.invokevirtual 126, 3) := by decide +kernel
theorem dL_law_703 : decode cL_law 703 = .ok (.if_icmp .eq 843, 3) := by decide +kernel
theorem dL_law_706 : decode cL_law 706 = .ok (.iconst 0, 1) := by decide +kernel
theorem dL_law_707 : decode cL_law 707 = .ok (.ireturn, 1) := by decide +kernel
theorem dL_law_708 : decode cL_law 708 = .ok (.aload_n 1, 1) := by decide +kernel
theorem dL_law_709 : decode cL_law 709 = .ok (.invokevirtual 127, 3) := by decide +kernel
theorem dL_law_712 : decode cL_law 712 = .ok (.aload_n 2, 1) := by decide +kernel
theorem dL_law_713 : decode cL_law 713 = .ok (.invokevirtual 130, 3) := by decide +kernel
theorem dL_law_716 : decode cL_law 716 = .ok (.if_icmp .eq 830, 3) := by decide +kernel
theorem dL_law_719 : decode cL_law 719 = .ok (.iconst 0, 1) := by decide +kernel
theorem dL_law_720 : decode cL_law 720 = .ok (.ireturn, 1) := by decide +kernel
theorem dL_law_721 : decode cL_law 721 = .ok (.aload_n 1, 1) := by decide +kernel
theorem dL_law_722 : decode cL_law 722 = .ok (.invokevirtual 131, 3) := by decide +kernel
theorem dL_law_725 : decode cL_law 725 = .ok (.aload_n 2, 1) := by decide +kernel
theorem dL_law_726 : decode cL_law 726 = .ok (.invokevirtual 134, 3) := by decide +kernel
theorem dL_law_729 : decode cL_law 729 = .ok (.if_icmp .eq 817, 3) := by decide +kernel
theorem dL_law_732 : decode cL_law 732 = .ok (.iconst 0, 1) := by decide +kernel
theorem dL_law_733 : decode cL_law 733 = .ok (.ireturn, 1) := by decide +kernel
theorem dL_law_734 : decode cL_law 734 = .ok (.aload_n 1, 1) := by decide +kernel
theorem dL_law_735 : decode cL_law 735 = .ok (.aload_n 0, 1) := by decide +kernel
theorem dL_law_736 : decode cL_law 736 = .ok (.iload 4, 2) := by decide +kernel
theorem dL_law_738 : decode cL_law 738 = .ok (.iconst 1, 1) := by decide +kernel
theorem dL_law_739 : decode cL_law 739 = .ok (.iadd, 1) := by decide +kernel
theorem dL_law_740 : decode cL_law 740 = .ok (.iaload, 1) := by decide +kernel
theorem dL_law_741 : decode cL_law 741 = .ok (.aload_n 0, 1) := by decide +kernel
theorem dL_law_742 : decode cL_law 742 = .ok (.iload 4, 2) := by decide +kernel
theorem dL_law_744 : decode cL_law 744 = .ok (.iconst 2, 1) := by decide +kernel
theorem dL_law_745 : decode cL_law 745 = .ok (.iadd, 1) := by decide +kernel
theorem dL_law_746 : decode cL_law 746 = .ok (.iaload, 1) := by decide +kernel
theorem dL_law_747 : decode cL_law 747 = .ok (.aload_n 3, 1) := by decide +kernel
theorem dL_law_748 : decode cL_law 748 = .ok (.invokestatic 135, 3) := by decide +kernel
theorem dL_law_751 : decode cL_law 751 = .ok (.istore 5, 2) := by decide +kernel
theorem dL_law_753 : decode cL_law 753 = .ok (.aload_n 2, 1) := by decide +kernel
theorem dL_law_754 : decode cL_law 754 = .ok (.aload_n 0, 1) := by decide +kernel
theorem dL_law_755 : decode cL_law 755 = .ok (.iload 4, 2) := by decide +kernel
theorem dL_law_757 : decode cL_law 757 = .ok (.iconst 1, 1) := by decide +kernel
theorem dL_law_758 : decode cL_law 758 = .ok (.iadd, 1) := by decide +kernel
theorem dL_law_759 : decode cL_law 759 = .ok (.iaload, 1) := by decide +kernel
theorem dL_law_760 : decode cL_law 760 = .ok (.aload_n 0, 1) := by decide +kernel
theorem dL_law_761 : decode cL_law 761 = .ok (.iload 4, 2) := by decide +kernel
theorem dL_law_763 : decode cL_law 763 = .ok (.iconst 2, 1) := by decide +kernel
theorem dL_law_764 : decode cL_law 764 = .ok (.iadd, 1) := by decide +kernel
theorem dL_law_765 : decode cL_law 765 = .ok (.iaload, 1) := by decide +kernel
theorem dL_law_766 : decode cL_law 766 = .ok (.invokevirtual 137, 3) := by decide +kernel
theorem dL_law_769 : decode cL_law 769 = .ok (.istore 6, 2) := by decide +kernel
theorem dL_law_771 : decode cL_law 771 = .ok (.aload_n 2, 1) := by decide +kernel
theorem dL_law_772 : decode cL_law 772 = .ok (.invokevirtual 83, 3) := by decide +kernel
theorem dL_law_775 : decode cL_law 775 = .ok (.iload 5, 2) := by decide +kernel
theorem dL_law_777 : decode cL_law 777 = .ok (.if_icmp .eq 5, 3) := by decide +kernel
theorem dL_law_780 : decode cL_law 780 = .ok (.iconst 0, 1) := by decide +kernel
theorem dL_law_781 : decode cL_law 781 = .ok (.ireturn, 1) := by decide +kernel
theorem dL_law_782 : decode cL_law 782 = .ok (.iload 5, 2) := by decide +kernel
theorem dL_law_784 : decode cL_law 784 = .ok (.ifCond .ne 15, 3) := by decide +kernel
theorem dL_law_787 : decode cL_law 787 = .ok (.aload_n 3, 1) := by decide +kernel
theorem dL_law_788 : decode cL_law 788 = .ok (.iconst 0, 1) := by decide +kernel
theorem dL_law_789 : decode cL_law 789 = .ok (.laload, 1) := by decide +kernel
theorem dL_law_790 : decode cL_law 790 = .ok (.iload 6, 2) := by decide +kernel
theorem dL_law_792 : decode cL_law 792 = .ok (.i2l, 1) := by decide +kernel
theorem dL_law_793 : decode cL_law 793 = .ok (.lcmp, 1) := by decide +kernel
theorem dL_law_794 : decode cL_law 794 = .ok (.ifCond .eq 5, 3) := by decide +kernel
theorem dL_law_797 : decode cL_law 797 = .ok (.iconst 0, 1) := by decide +kernel
theorem dL_law_798 : decode cL_law 798 = .ok (.ireturn, 1) := by decide +kernel
theorem dL_law_799 : decode cL_law 799 = .ok (.goto 747, 3) := by decide +kernel
theorem dL_law_802 : decode cL_law 802 = .ok (.aload_n 1, 1) := by decide +kernel
theorem dL_law_803 : decode cL_law 803 = .ok (.aload_n 0, 1) := by decide +kernel
theorem dL_law_804 : decode cL_law 804 = .ok (.iload 4, 2) := by decide +kernel
theorem dL_law_806 : decode cL_law 806 = .ok (.iconst 1, 1) := by decide +kernel
theorem dL_law_807 : decode cL_law 807 = .ok (.iadd, 1) := by decide +kernel
theorem dL_law_808 : decode cL_law 808 = .ok (.iaload, 1) := by decide +kernel
theorem dL_law_809 : decode cL_law 809 = .ok (.aload_n 0, 1) := by decide +kernel
theorem dL_law_810 : decode cL_law 810 = .ok (.iload 4, 2) := by decide +kernel
theorem dL_law_812 : decode cL_law 812 = .ok (.iconst 2, 1) := by decide +kernel
theorem dL_law_813 : decode cL_law 813 = .ok (.iadd, 1) := by decide +kernel
theorem dL_law_814 : decode cL_law 814 = .ok (.iaload, 1) := by decide +kernel
theorem dL_law_815 : decode cL_law 815 = .ok (.aload_n 3, 1) := by decide +kernel
theorem dL_law_816 : decode cL_law 816 = .ok (.invokestatic 138, 3) := by decide +kernel
theorem dL_law_819 : decode cL_law 819 = .ok (.istore 5, 2) := by decide +kernel
theorem dL_law_821 : decode cL_law 821 = .ok (.aload_n 2, 1) := by decide +kernel
theorem dL_law_822 : decode cL_law 822 = .ok (.aload_n 0, 1) := by decide +kernel
theorem dL_law_823 : decode cL_law 823 = .ok (.iload 4, 2) := by decide +kernel
theorem dL_law_825 : decode cL_law 825 = .ok (.iconst 1, 1) := by decide +kernel
theorem dL_law_826 : decode cL_law 826 = .ok (.iadd, 1) := by decide +kernel
theorem dL_law_827 : decode cL_law 827 = .ok (.iaload, 1) := by decide +kernel
theorem dL_law_828 : decode cL_law 828 = .ok (.aload_n 0, 1) := by decide +kernel
theorem dL_law_829 : decode cL_law 829 = .ok (.iload 4, 2) := by decide +kernel
theorem dL_law_831 : decode cL_law 831 = .ok (.iconst 2, 1) := by decide +kernel
theorem dL_law_832 : decode cL_law 832 = .ok (.iadd, 1) := by decide +kernel
theorem dL_law_833 : decode cL_law 833 = .ok (.iaload, 1) := by decide +kernel
end
section
theorem dL_law_834 : decode cL_law 834 = .ok (.invokevirtual 140, 3) := by decide +kernel
theorem dL_law_837 : decode cL_law 837 = .ok (.istore 6, 2) := by decide +kernel
theorem dL_law_839 : decode cL_law 839 = .ok (.aload_n 2, 1) := by decide +kernel
theorem dL_law_840 : decode cL_law 840 = .ok (.invokevirtual 83, 3) := by decide +kernel
theorem dL_law_843 : decode cL_law 843 = .ok (.iload 5, 2) := by decide +kernel
theorem dL_law_845 : decode cL_law 845 = .ok (.if_icmp .eq 5, 3) := by decide +kernel
theorem dL_law_848 : decode cL_law 848 = .ok (.iconst 0, 1) := by decide +kernel
theorem dL_law_849 : decode cL_law 849 = .ok (.ireturn, 1) := by decide +kernel
theorem dL_law_850 : decode cL_law 850 = .ok (.iload 5, 2) := by decide +kernel
theorem dL_law_852 : decode cL_law 852 = .ok (.ifCond .ne 15, 3) := by decide +kernel
theorem dL_law_855 : decode cL_law 855 = .ok (.aload_n 3, 1) := by decide +kernel
theorem dL_law_856 : decode cL_law 856 = .ok (.iconst 0, 1) := by decide +kernel
theorem dL_law_857 : decode cL_law 857 = .ok (.laload, 1) := by decide +kernel
theorem dL_law_858 : decode cL_law 858 = .ok (.iload 6, 2) := by decide +kernel
theorem dL_law_860 : decode cL_law 860 = .ok (.i2l, 1) := by decide +kernel
theorem dL_law_861 : decode cL_law 861 = .ok (.lcmp, 1) := by decide +kernel
theorem dL_law_862 : decode cL_law 862 = .ok (.ifCond .eq 5, 3) := by decide +kernel
theorem dL_law_865 : decode cL_law 865 = .ok (.iconst 0, 1) := by decide +kernel
theorem dL_law_866 : decode cL_law 866 = .ok (.ireturn, 1) := by decide +kernel
theorem dL_law_867 : decode cL_law 867 = .ok (.goto 679, 3) := by decide +kernel
theorem dL_law_870 : decode cL_law 870 = .ok (.aload_n 1, 1) := by decide +kernel
theorem dL_law_871 : decode cL_law 871 = .ok (.aload_n 0, 1) := by decide +kernel
theorem dL_law_872 : decode cL_law 872 = .ok (.iload 4, 2) := by decide +kernel
theorem dL_law_874 : decode cL_law 874 = .ok (.iconst 1, 1) := by decide +kernel
theorem dL_law_875 : decode cL_law 875 = .ok (.iadd, 1) := by decide +kernel
theorem dL_law_876 : decode cL_law 876 = .ok (.iaload, 1) := by decide +kernel
theorem dL_law_877 : decode cL_law 877 = .ok (.aload_n 3, 1) := by decide +kernel
theorem dL_law_878 : decode cL_law 878 = .ok (.invokestatic 141, 3) := by decide +kernel
theorem dL_law_881 : decode cL_law 881 = .ok (.istore 5, 2) := by decide +kernel
theorem dL_law_883 : decode cL_law 883 = .ok (.aload_n 2, 1) := by decide +kernel
theorem dL_law_884 : decode cL_law 884 = .ok (.aload_n 0, 1) := by decide +kernel
theorem dL_law_885 : decode cL_law 885 = .ok (.iload 4, 2) := by decide +kernel
theorem dL_law_887 : decode cL_law 887 = .ok (.iconst 1, 1) := by decide +kernel
theorem dL_law_888 : decode cL_law 888 = .ok (.iadd, 1) := by decide +kernel
theorem dL_law_889 : decode cL_law 889 = .ok (.iaload, 1) := by decide +kernel
theorem dL_law_890 : decode cL_law 890 = .ok (.invokevirtual 143, 3) := by decide +kernel
theorem dL_law_893 : decode cL_law 893 = .ok (.istore 6, 2) := by decide +kernel
theorem dL_law_895 : decode cL_law 895 = .ok (.aload_n 2, 1) := by decide +kernel
theorem dL_law_896 : decode cL_law 896 = .ok (.invokevirtual 83, 3) := by decide +kernel
theorem dL_law_899 : decode cL_law 899 = .ok (.iload 5, 2) := by decide +kernel
theorem dL_law_901 : decode cL_law 901 = .ok (.if_icmp .eq 5, 3) := by decide +kernel
theorem dL_law_904 : decode cL_law 904 = .ok (.iconst 0, 1) := by decide +kernel
theorem dL_law_905 : decode cL_law 905 = .ok (.ireturn, 1) := by decide +kernel
theorem dL_law_906 : decode cL_law 906 = .ok (.iload 5, 2) := by decide +kernel
theorem dL_law_908 : decode cL_law 908 = .ok (.ifCond .ne 15, 3) := by decide +kernel
theorem dL_law_911 : decode cL_law 911 = .ok (.aload_n 3, 1) := by decide +kernel
theorem dL_law_912 : decode cL_law 912 = .ok (.iconst 0, 1) := by decide +kernel
theorem dL_law_913 : decode cL_law 913 = .ok (.laload, 1) := by decide +kernel
theorem dL_law_914 : decode cL_law 914 = .ok (.iload 6, 2) := by decide +kernel
theorem dL_law_916 : decode cL_law 916 = .ok (.i2l, 1) := by decide +kernel
theorem dL_law_917 : decode cL_law 917 = .ok (.lcmp, 1) := by decide +kernel
theorem dL_law_918 : decode cL_law 918 = .ok (.ifCond .eq 5, 3) := by decide +kernel
theorem dL_law_921 : decode cL_law 921 = .ok (.iconst 0, 1) := by decide +kernel
theorem dL_law_922 : decode cL_law 922 = .ok (.ireturn, 1) := by decide +kernel
theorem dL_law_923 : decode cL_law 923 = .ok (.goto 623, 3) := by decide +kernel
theorem dL_law_926 : decode cL_law 926 = .ok (.aload_n 1, 1) := by decide +kernel
theorem dL_law_927 : decode cL_law 927 = .ok (.invokevirtual 144, 3) := by decide +kernel
theorem dL_law_930 : decode cL_law 930 = .ok (.aload_n 2, 1) := by decide +kernel
theorem dL_law_931 : decode cL_law 931 = .ok (.invokevirtual 147, 3) := by decide +kernel
theorem dL_law_934 : decode cL_law 934 = .ok (.if_icmp .eq 612, 3) := by decide +kernel
theorem dL_law_937 : decode cL_law 937 = .ok (.iconst 0, 1) := by decide +kernel
theorem dL_law_938 : decode cL_law 938 = .ok (.ireturn, 1) := by decide +kernel
theorem dL_law_939 : decode cL_law 939 = .ok (.aload_n 1, 1) := by decide +kernel
theorem dL_law_940 : decode cL_law 940 = .ok (.aload_n 0, 1) := by decide +kernel
theorem dL_law_941 : decode cL_law 941 = .ok (.iload 4, 2) := by decide +kernel
theorem dL_law_943 : decode cL_law 943 = .ok (.iconst 1, 1) := by decide +kernel
theorem dL_law_944 : decode cL_law 944 = .ok (.iadd, 1) := by decide +kernel
theorem dL_law_945 : decode cL_law 945 = .ok (.iaload, 1) := by decide +kernel
theorem dL_law_946 : decode cL_law 946 = .ok (.aload_n 3, 1) := by decide +kernel
theorem dL_law_947 : decode cL_law 947 = .ok (.invokestatic 148, 3) := by decide +kernel
theorem dL_law_950 : decode cL_law 950 = .ok (.istore 5, 2) := by decide +kernel
theorem dL_law_952 : decode cL_law 952 = .ok (.aload_n 2, 1) := by decide +kernel
theorem dL_law_953 : decode cL_law 953 = .ok (.aload_n 0, 1) := by decide +kernel
theorem dL_law_954 : decode cL_law 954 = .ok (.iload 4, 2) := by decide +kernel
theorem dL_law_956 : decode cL_law 956 = .ok (.iconst 1, 1) := by decide +kernel
theorem dL_law_957 : decode cL_law 957 = .ok (.iadd, 1) := by decide +kernel
theorem dL_law_958 : decode cL_law 958 = .ok (.iaload, 1) := by decide +kernel
theorem dL_law_959 : decode cL_law 959 = .ok (.invokevirtual 150, 3) := by decide +kernel
theorem dL_law_962 : decode cL_law 962 = .ok (.istore 6, 2) := by decide +kernel
theorem dL_law_964 : decode cL_law 964 = .ok (.aload_n 2, 1) := by decide +kernel
theorem dL_law_965 : decode cL_law 965 = .ok (.invokevirtual 83, 3) := by decide +kernel
theorem dL_law_968 : decode cL_law 968 = .ok (.iload 5, 2) := by decide +kernel
theorem dL_law_970 : decode cL_law 970 = .ok (.if_icmp .eq 5, 3) := by decide +kernel
theorem dL_law_973 : decode cL_law 973 = .ok (.iconst 0, 1) := by decide +kernel
theorem dL_law_974 : decode cL_law 974 = .ok (.ireturn, 1) := by decide +kernel
theorem dL_law_975 : decode cL_law 975 = .ok (.iload 5, 2) := by decide +kernel
theorem dL_law_977 : decode cL_law 977 = .ok (.ifCond .ne 15, 3) := by decide +kernel
theorem dL_law_980 : decode cL_law 980 = .ok (.aload_n 3, 1) := by decide +kernel
theorem dL_law_981 : decode cL_law 981 = .ok (.iconst 0, 1) := by decide +kernel
theorem dL_law_982 : decode cL_law 982 = .ok (.laload, 1) := by decide +kernel
theorem dL_law_983 : decode cL_law 983 = .ok (.iload 6, 2) := by decide +kernel
theorem dL_law_985 : decode cL_law 985 = .ok (.i2l, 1) := by decide +kernel
theorem dL_law_986 : decode cL_law 986 = .ok (.lcmp, 1) := by decide +kernel
theorem dL_law_987 : decode cL_law 987 = .ok (.ifCond .eq 5, 3) := by decide +kernel
theorem dL_law_990 : decode cL_law 990 = .ok (.iconst 0, 1) := by decide +kernel
theorem dL_law_991 : decode cL_law 991 = .ok (.ireturn, 1) := by decide +kernel
theorem dL_law_992 : decode cL_law 992 = .ok (.goto 554, 3) := by decide +kernel
theorem dL_law_995 : decode cL_law 995 = .ok (.aload_n 1, 1) := by decide +kernel
theorem dL_law_996 : decode cL_law 996 = .ok (.aload_n 0, 1) := by decide +kernel
theorem dL_law_997 : decode cL_law 997 = .ok (.iload 4, 2) := by decide +kernel
theorem dL_law_999 : decode cL_law 999 = .ok (.iconst 1, 1) := by decide +kernel
theorem dL_law_1000 : decode cL_law 1000 = .ok (.iadd, 1) := by decide +kernel
theorem dL_law_1001 : decode cL_law 1001 = .ok (.iaload, 1) := by decide +kernel
theorem dL_law_1002 : decode cL_law 1002 = .ok (.aload_n 3, 1) := by decide +kernel
theorem dL_law_1003 : decode cL_law 1003 = .ok (.invokestatic 151, 3) := by decide +kernel
theorem dL_law_1006 : decode cL_law 1006 = .ok (.istore 5, 2) := by decide +kernel
theorem dL_law_1008 : decode cL_law 1008 = .ok (.aload_n 2, 1) := by decide +kernel
theorem dL_law_1009 : decode cL_law 1009 = .ok (.aload_n 0, 1) := by decide +kernel
theorem dL_law_1010 : decode cL_law 1010 = .ok (.iload 4, 2) := by decide +kernel
theorem dL_law_1012 : decode cL_law 1012 = .ok (.iconst 1, 1) := by decide +kernel
theorem dL_law_1013 : decode cL_law 1013 = .ok (.iadd, 1) := by decide +kernel
theorem dL_law_1014 : decode cL_law 1014 = .ok (.iaload, 1) := by decide +kernel
theorem dL_law_1015 : decode cL_law 1015 = .ok (.invokevirtual 153, 3) := by decide +kernel
theorem dL_law_1018 : decode cL_law 1018 = .ok (.istore 6, 2) := by decide +kernel
theorem dL_law_1020 : decode cL_law 1020 = .ok (.aload_n 2, 1) := by decide +kernel
theorem dL_law_1021 : decode cL_law 1021 = .ok (.invokevirtual 83, 3) := by decide +kernel
theorem dL_law_1024 : decode cL_law 1024 = .ok (.iload 5, 2) := by decide +kernel
theorem dL_law_1026 : decode cL_law 1026 = .ok (.if_icmp .eq 5, 3) := by decide +kernel
theorem dL_law_1029 : decode cL_law 1029 = .ok (.iconst 0, 1) := by decide +kernel
theorem dL_law_1030 : decode cL_law 1030 = .ok (.ireturn, 1) := by decide +kernel
theorem dL_law_1031 : decode cL_law 1031 = .ok (.iload 5, 2) := by decide +kernel
theorem dL_law_1033 : decode cL_law 1033 = .ok (.ifCond .ne 15, 3) := by decide +kernel
theorem dL_law_1036 : decode cL_law 1036 = .ok (.aload_n 3, 1) := by decide +kernel
theorem dL_law_1037 : decode cL_law 1037 = .ok (.iconst 0, 1) := by decide +kernel
theorem dL_law_1038 : decode cL_law 1038 = .ok (.laload, 1) := by decide +kernel
theorem dL_law_1039 : decode cL_law 1039 = .ok (.iload 6, 2) := by decide +kernel
theorem dL_law_1041 : decode cL_law 1041 = .ok (.i2l, 1) := by decide +kernel
theorem dL_law_1042 : decode cL_law 1042 = .ok (.lcmp, 1) := by decide +kernel
theorem dL_law_1043 : decode cL_law 1043 = .ok (.ifCond .eq 5, 3) := by decide +kernel
theorem dL_law_1046 : decode cL_law 1046 = .ok (.iconst 0, 1) := by decide +kernel
theorem dL_law_1047 : decode cL_law 1047 = .ok (.ireturn, 1) := by decide +kernel
theorem dL_law_1048 : decode cL_law 1048 = .ok (.goto 498, 3) := by decide +kernel
theorem dL_law_1051 : decode cL_law 1051 = .ok (.aload_n 1, 1) := by decide +kernel
theorem dL_law_1052 : decode cL_law 1052 = .ok (.aload_n 0, 1) := by decide +kernel
theorem dL_law_1053 : decode cL_law 1053 = .ok (.iload 4, 2) := by decide +kernel
theorem dL_law_1055 : decode cL_law 1055 = .ok (.iconst 1, 1) := by decide +kernel
theorem dL_law_1056 : decode cL_law 1056 = .ok (.iadd, 1) := by decide +kernel
theorem dL_law_1057 : decode cL_law 1057 = .ok (.iaload, 1) := by decide +kernel
theorem dL_law_1058 : decode cL_law 1058 = .ok (.aload_n 3, 1) := by decide +kernel
theorem dL_law_1059 : decode cL_law 1059 = .ok (.invokestatic 154, 3) := by decide +kernel
theorem dL_law_1062 : decode cL_law 1062 = .ok (.istore 5, 2) := by decide +kernel
theorem dL_law_1064 : decode cL_law 1064 = .ok (.aload_n 2, 1) := by decide +kernel
theorem dL_law_1065 : decode cL_law 1065 = .ok (.aload_n 0, 1) := by decide +kernel
theorem dL_law_1066 : decode cL_law 1066 = .ok (.iload 4, 2) := by decide +kernel
theorem dL_law_1068 : decode cL_law 1068 = .ok (.iconst 1, 1) := by decide +kernel
theorem dL_law_1069 : decode cL_law 1069 = .ok (.iadd, 1) := by decide +kernel
theorem dL_law_1070 : decode cL_law 1070 = .ok (.iaload, 1) := by decide +kernel
theorem dL_law_1071 : decode cL_law 1071 = .ok (.invokevirtual 156, 3) := by decide +kernel
theorem dL_law_1074 : decode cL_law 1074 = .ok (.istore 6, 2) := by decide +kernel
theorem dL_law_1076 : decode cL_law 1076 = .ok (.aload_n 2, 1) := by decide +kernel
theorem dL_law_1077 : decode cL_law 1077 = .ok (.invokevirtual 83, 3) := by decide +kernel
theorem dL_law_1080 : decode cL_law 1080 = .ok (.iload 5, 2) := by decide +kernel
theorem dL_law_1082 : decode cL_law 1082 = .ok (.if_icmp .eq 5, 3) := by decide +kernel
theorem dL_law_1085 : decode cL_law 1085 = .ok (.iconst 0, 1) := by decide +kernel
theorem dL_law_1086 : decode cL_law 1086 = .ok (.ireturn, 1) := by decide +kernel
theorem dL_law_1087 : decode cL_law 1087 = .ok (.iload 5, 2) := by decide +kernel
theorem dL_law_1089 : decode cL_law 1089 = .ok (.ifCond .ne 15, 3) := by decide +kernel
theorem dL_law_1092 : decode cL_law 1092 = .ok (.aload_n 3, 1) := by decide +kernel
theorem dL_law_1093 : decode cL_law 1093 = .ok (.iconst 0, 1) := by decide +kernel
theorem dL_law_1094 : decode cL_law 1094 = .ok (.laload, 1) := by decide +kernel
theorem dL_law_1095 : decode cL_law 1095 = .ok (.iload 6, 2) := by decide +kernel
theorem dL_law_1097 : decode cL_law 1097 = .ok (.i2l, 1) := by decide +kernel
theorem dL_law_1098 : decode cL_law 1098 = .ok (.lcmp, 1) := by decide +kernel
theorem dL_law_1099 : decode cL_law 1099 = .ok (.ifCond .eq 5, 3) := by decide +kernel
theorem dL_law_1102 : decode cL_law 1102 = .ok (.iconst 0, 1) := by decide +kernel
theorem dL_law_1103 : decode cL_law 1103 = .ok (.ireturn, 1) := by decide +kernel
theorem dL_law_1104 : decode cL_law 1104 = .ok (.goto 442, 3) := by decide +kernel
theorem dL_law_1107 : decode cL_law 1107 = .ok (.aload_n 1, 1) := by decide +kernel
theorem dL_law_1108 : decode cL_law 1108 = .ok (.aload_n 0, 1) := by decide +kernel
theorem dL_law_1109 : decode cL_law 1109 = .ok (.iload 4, 2) := by decide +kernel
theorem dL_law_1111 : decode cL_law 1111 = .ok (.iconst 1, 1) := by decide +kernel
theorem dL_law_1112 : decode cL_law 1112 = .ok (.iadd, 1) := by decide +kernel
theorem dL_law_1113 : decode cL_law 1113 = .ok (.iaload, 1) := by decide +kernel
theorem dL_law_1114 : decode cL_law 1114 = .ok (.aload_n 3, 1) := by decide +kernel
theorem dL_law_1115 : decode cL_law 1115 = .ok (.invokestatic 157, 3) := by decide +kernel
theorem dL_law_1118 : decode cL_law 1118 = .ok (.istore 5, 2) := by decide +kernel
theorem dL_law_1120 : decode cL_law 1120 = .ok (.aload_n 2, 1) := by decide +kernel
theorem dL_law_1121 : decode cL_law 1121 = .ok (.aload_n 0, 1) := by decide +kernel
theorem dL_law_1122 : decode cL_law 1122 = .ok (.iload 4, 2) := by decide +kernel
theorem dL_law_1124 : decode cL_law 1124 = .ok (.iconst 1, 1) := by decide +kernel
theorem dL_law_1125 : decode cL_law 1125 = .ok (.iadd, 1) := by decide +kernel
theorem dL_law_1126 : decode cL_law 1126 = .ok (.iaload, 1) := by decide +kernel
theorem dL_law_1127 : decode cL_law 1127 = .ok (.invokevirtual 159, 3) := by decide +kernel
theorem dL_law_1130 : decode cL_law 1130 = .ok (.istore 6, 2) := by decide +kernel
theorem dL_law_1132 : decode cL_law 1132 = .ok (.aload_n 2, 1) := by decide +kernel
theorem dL_law_1133 : decode cL_law 1133 = .ok (.invokevirtual 83, 3) := by decide +kernel
theorem dL_law_1136 : decode cL_law 1136 = .ok (.iload 5, 2) := by decide +kernel
theorem dL_law_1138 : decode cL_law 1138 = .ok (.if_icmp .eq 5, 3) := by decide +kernel
theorem dL_law_1141 : decode cL_law 1141 = .ok (.iconst 0, 1) := by decide +kernel
theorem dL_law_1142 : decode cL_law 1142 = .ok (.ireturn, 1) := by decide +kernel
theorem dL_law_1143 : decode cL_law 1143 = .ok (.iload 5, 2) := by decide +kernel
theorem dL_law_1145 : decode cL_law 1145 = .ok (.ifCond .ne 15, 3) := by decide +kernel
theorem dL_law_1148 : decode cL_law 1148 = .ok (.aload_n 3, 1) := by decide +kernel
theorem dL_law_1149 : decode cL_law 1149 = .ok (.iconst 0, 1) := by decide +kernel
theorem dL_law_1150 : decode cL_law 1150 = .ok (.laload, 1) := by decide +kernel
theorem dL_law_1151 : decode cL_law 1151 = .ok (.iload 6, 2) := by decide +kernel
theorem dL_law_1153 : decode cL_law 1153 = .ok (.i2l, 1) := by decide +kernel
theorem dL_law_1154 : decode cL_law 1154 = .ok (.lcmp, 1) := by decide +kernel
theorem dL_law_1155 : decode cL_law 1155 = .ok (.ifCond .eq 5, 3) := by decide +kernel
theorem dL_law_1158 : decode cL_law 1158 = .ok (.iconst 0, 1) := by decide +kernel
theorem dL_law_1159 : decode cL_law 1159 = .ok (.ireturn, 1) := by decide +kernel
theorem dL_law_1160 : decode cL_law 1160 = .ok (.goto 386, 3) := by decide +kernel
theorem dL_law_1163 : decode cL_law 1163 = .ok (.aload_n 1, 1) := by decide +kernel
theorem dL_law_1164 : decode cL_law 1164 = .ok (.invokevirtual 160, 3) := by decide +kernel
theorem dL_law_1167 : decode cL_law 1167 = .ok (.aload_n 2, 1) := by decide +kernel
theorem dL_law_1168 : decode cL_law 1168 = .ok (.invokevirtual 163, 3) := by decide +kernel
theorem dL_law_1171 : decode cL_law 1171 = .ok (.if_icmp .eq 375, 3) := by decide +kernel
theorem dL_law_1174 : decode cL_law 1174 = .ok (.iconst 0, 1) := by decide +kernel
theorem dL_law_1175 : decode cL_law 1175 = .ok (.ireturn, 1) := by decide +kernel
theorem dL_law_1176 : decode cL_law 1176 = .ok (.aload_n 1, 1) := by decide +kernel
theorem dL_law_1177 : decode cL_law 1177 = .ok (.aload_n 0, 1) := by decide +kernel
theorem dL_law_1178 : decode cL_law 1178 = .ok (.iload 4, 2) := by decide +kernel
theorem dL_law_1180 : decode cL_law 1180 = .ok (.iconst 1, 1) := by decide +kernel
theorem dL_law_1181 : decode cL_law 1181 = .ok (.iadd, 1) := by decide +kernel
theorem dL_law_1182 : decode cL_law 1182 = .ok (.iaload, 1) := by decide +kernel
theorem dL_law_1183 : decode cL_law 1183 = .ok (.aload_n 3, 1) := by decide +kernel
theorem dL_law_1184 : decode cL_law 1184 = .ok (.invokestatic 164, 3) := by decide +kernel
theorem dL_law_1187 : decode cL_law 1187 = .ok (.istore 5, 2) := by decide +kernel
theorem dL_law_1189 : decode cL_law 1189 = .ok (.aload_n 2, 1) := by decide +kernel
theorem dL_law_1190 : decode cL_law 1190 = .ok (.aload_n 0, 1) := by decide +kernel
theorem dL_law_1191 : decode cL_law 1191 = .ok (.iload 4, 2) := by decide +kernel
theorem dL_law_1193 : decode cL_law 1193 = .ok (.iconst 1, 1) := by decide +kernel
theorem dL_law_1194 : decode cL_law 1194 = .ok (.iadd, 1) := by decide +kernel
theorem dL_law_1195 : decode cL_law 1195 = .ok (.iaload, 1) := by decide +kernel
theorem dL_law_1196 : decode cL_law 1196 = .ok (.invokevirtual 166, 3) := by decide +kernel
theorem dL_law_1199 : decode cL_law 1199 = .ok (.istore 6, 2) := by decide +kernel
theorem dL_law_1201 : decode cL_law 1201 = .ok (.aload_n 2, 1) := by decide +kernel
theorem dL_law_1202 : decode cL_law 1202 = .ok (.invokevirtual 83, 3) := by decide +kernel
theorem dL_law_1205 : decode cL_law 1205 = .ok (.iload 5, 2) := by decide +kernel
theorem dL_law_1207 : decode cL_law 1207 = .ok (.if_icmp .eq 5, 3) := by decide +kernel
theorem dL_law_1210 : decode cL_law 1210 = .ok (.iconst 0, 1) := by decide +kernel
theorem dL_law_1211 : decode cL_law 1211 = .ok (.ireturn, 1) := by decide +kernel
theorem dL_law_1212 : decode cL_law 1212 = .ok (.iload 5, 2) := by decide +kernel
theorem dL_law_1214 : decode cL_law 1214 = .ok (.ifCond .ne 15, 3) := by decide +kernel
theorem dL_law_1217 : decode cL_law 1217 = .ok (.aload_n 3, 1) := by decide +kernel
theorem dL_law_1218 : decode cL_law 1218 = .ok (.iconst 0, 1) := by decide +kernel
theorem dL_law_1219 : decode cL_law 1219 = .ok (.laload, 1) := by decide +kernel
theorem dL_law_1220 : decode cL_law 1220 = .ok (.iload 6, 2) := by decide +kernel
theorem dL_law_1222 : decode cL_law 1222 = .ok (.i2l, 1) := by decide +kernel
theorem dL_law_1223 : decode cL_law 1223 = .ok (.lcmp, 1) := by decide +kernel
theorem dL_law_1224 : decode cL_law 1224 = .ok (.ifCond .eq 5, 3) := by decide +kernel
theorem dL_law_1227 : decode cL_law 1227 = .ok (.iconst 0, 1) := by decide +kernel
theorem dL_law_1228 : decode cL_law 1228 = .ok (.ireturn, 1) := by decide +kernel
theorem dL_law_1229 : decode cL_law 1229 = .ok (.goto 317, 3) := by decide +kernel
theorem dL_law_1232 : decode cL_law 1232 = .ok (.aload_n 1, 1) := by decide +kernel
theorem dL_law_1233 : decode cL_law 1233 = .ok (.aload_n 0, 1) := by decide +kernel
theorem dL_law_1234 : decode cL_law 1234 = .ok (.iload 4, 2) := by decide +kernel
theorem dL_law_1236 : decode cL_law 1236 = .ok (.iconst 1, 1) := by decide +kernel
theorem dL_law_1237 : decode cL_law 1237 = .ok (.iadd, 1) := by decide +kernel
theorem dL_law_1238 : decode cL_law 1238 = .ok (.iaload, 1) := by decide +kernel
theorem dL_law_1239 : decode cL_law 1239 = .ok (.aload_n 3, 1) := by decide +kernel
theorem dL_law_1240 : decode cL_law 1240 = .ok (.invokestatic 167, 3) := by decide +kernel
theorem dL_law_1243 : decode cL_law 1243 = .ok (.istore 5, 2) := by decide +kernel
theorem dL_law_1245 : decode cL_law 1245 = .ok (.aload_n 2, 1) := by decide +kernel
theorem dL_law_1246 : decode cL_law 1246 = .ok (.aload_n 0, 1) := by decide +kernel
theorem dL_law_1247 : decode cL_law 1247 = .ok (.iload 4, 2) := by decide +kernel
theorem dL_law_1249 : decode cL_law 1249 = .ok (.iconst 1, 1) := by decide +kernel
theorem dL_law_1250 : decode cL_law 1250 = .ok (.iadd, 1) := by decide +kernel
theorem dL_law_1251 : decode cL_law 1251 = .ok (.iaload, 1) := by decide +kernel
theorem dL_law_1252 : decode cL_law 1252 = .ok (.invokevirtual 169, 3) := by decide +kernel
theorem dL_law_1255 : decode cL_law 1255 = .ok (.istore 6, 2) := by decide +kernel
theorem dL_law_1257 : decode cL_law 1257 = .ok (.aload_n 2, 1) := by decide +kernel
theorem dL_law_1258 : decode cL_law 1258 = .ok (.invokevirtual 83, 3) := by decide +kernel
theorem dL_law_1261 : decode cL_law 1261 = .ok (.iload 5, 2) := by decide +kernel
theorem dL_law_1263 : decode cL_law 1263 = .ok (.if_icmp .eq 5, 3) := by decide +kernel
theorem dL_law_1266 : decode cL_law 1266 = .ok (.iconst 0, 1) := by decide +kernel
theorem dL_law_1267 : decode cL_law 1267 = .ok (.ireturn, 1) := by decide +kernel
theorem dL_law_1268 : decode cL_law 1268 = .ok (.iload 5, 2) := by decide +kernel
theorem dL_law_1270 : decode cL_law 1270 = .ok (.ifCond .ne 15, 3) := by decide +kernel
theorem dL_law_1273 : decode cL_law 1273 = .ok (.aload_n 3, 1) := by decide +kernel
theorem dL_law_1274 : decode cL_law 1274 = .ok (.iconst 0, 1) := by decide +kernel
theorem dL_law_1275 : decode cL_law 1275 = .ok (.laload, 1) := by decide +kernel
theorem dL_law_1276 : decode cL_law 1276 = .ok (.iload 6, 2) := by decide +kernel
theorem dL_law_1278 : decode cL_law 1278 = .ok (.i2l, 1) := by decide +kernel
theorem dL_law_1279 : decode cL_law 1279 = .ok (.lcmp, 1) := by decide +kernel
theorem dL_law_1280 : decode cL_law 1280 = .ok (.ifCond .eq 5, 3) := by decide +kernel
theorem dL_law_1283 : decode cL_law 1283 = .ok (.iconst 0, 1) := by decide +kernel
theorem dL_law_1284 : decode cL_law 1284 = .ok (.ireturn, 1) := by decide +kernel
theorem dL_law_1285 : decode cL_law 1285 = .ok (.goto 261, 3) := by decide +kernel
theorem dL_law_1288 : decode cL_law 1288 = .ok (.aload_n 1, 1) := by decide +kernel
theorem dL_law_1289 : decode cL_law 1289 = .ok (.aload_n 0, 1) := by decide +kernel
theorem dL_law_1290 : decode cL_law 1290 = .ok (.iload 4, 2) := by decide +kernel
theorem dL_law_1292 : decode cL_law 1292 = .ok (.iconst 1, 1) := by decide +kernel
theorem dL_law_1293 : decode cL_law 1293 = .ok (.iadd, 1) := by decide +kernel
theorem dL_law_1294 : decode cL_law 1294 = .ok (.iaload, 1) := by decide +kernel
theorem dL_law_1295 : decode cL_law 1295 = .ok (.aload_n 3, 1) := by decide +kernel
theorem dL_law_1296 : decode cL_law 1296 = .ok (.invokestatic 170, 3) := by decide +kernel
theorem dL_law_1299 : decode cL_law 1299 = .ok (.istore 5, 2) := by decide +kernel
theorem dL_law_1301 : decode cL_law 1301 = .ok (.aload_n 2, 1) := by decide +kernel
theorem dL_law_1302 : decode cL_law 1302 = .ok (.aload_n 0, 1) := by decide +kernel
theorem dL_law_1303 : decode cL_law 1303 = .ok (.iload 4, 2) := by decide +kernel
theorem dL_law_1305 : decode cL_law 1305 = .ok (.iconst 1, 1) := by decide +kernel
theorem dL_law_1306 : decode cL_law 1306 = .ok (.iadd, 1) := by decide +kernel
theorem dL_law_1307 : decode cL_law 1307 = .ok (.iaload, 1) := by decide +kernel
theorem dL_law_1308 : decode cL_law 1308 = .ok (.invokevirtual 172, 3) := by decide +kernel
theorem dL_law_1311 : decode cL_law 1311 = .ok (.istore 6, 2) := by decide +kernel
theorem dL_law_1313 : decode cL_law 1313 = .ok (.aload_n 2, 1) := by decide +kernel
theorem dL_law_1314 : decode cL_law 1314 = .ok (.invokevirtual 83, 3) := by decide +kernel
theorem dL_law_1317 : decode cL_law 1317 = .ok (.iload 5, 2) := by decide +kernel
theorem dL_law_1319 : decode cL_law 1319 = .ok (.if_icmp .eq 5, 3) := by decide +kernel
theorem dL_law_1322 : decode cL_law 1322 = .ok (.iconst 0, 1) := by decide +kernel
theorem dL_law_1323 : decode cL_law 1323 = .ok (.ireturn, 1) := by decide +kernel
theorem dL_law_1324 : decode cL_law 1324 = .ok (.iload 5, 2) := by decide +kernel
theorem dL_law_1326 : decode cL_law 1326 = .ok (.ifCond .ne 15, 3) := by decide +kernel
theorem dL_law_1329 : decode cL_law 1329 = .ok (.aload_n 3, 1) := by decide +kernel
theorem dL_law_1330 : decode cL_law 1330 = .ok (.iconst 0, 1) := by decide +kernel
theorem dL_law_1331 : decode cL_law 1331 = .ok (.laload, 1) := by decide +kernel
theorem dL_law_1332 : decode cL_law 1332 = .ok (.iload 6, 2) := by decide +kernel
theorem dL_law_1334 : decode cL_law 1334 = .ok (.i2l, 1) := by decide +kernel
theorem dL_law_1335 : decode cL_law 1335 = .ok (.lcmp, 1) := by decide +kernel
theorem dL_law_1336 : decode cL_law 1336 = .ok (.ifCond .eq 5, 3) := by decide +kernel
theorem dL_law_1339 : decode cL_law 1339 = .ok (.iconst 0, 1) := by decide +kernel
theorem dL_law_1340 : decode cL_law 1340 = .ok (.ireturn, 1) := by decide +kernel
theorem dL_law_1341 : decode cL_law 1341 = .ok (.goto 205, 3) := by decide +kernel
theorem dL_law_1344 : decode cL_law 1344 = .ok (.aload_n 1, 1) := by decide +kernel
theorem dL_law_1345 : decode cL_law 1345 = .ok (.invokevirtual 173, 3) := by decide +kernel
theorem dL_law_1348 : decode cL_law 1348 = .ok (.aload_n 2, 1) := by decide +kernel
theorem dL_law_1349 : decode cL_law 1349 = .ok (.invokevirtual 176, 3) := by decide +kernel
theorem dL_law_1352 : decode cL_law 1352 = .ok (.if_icmp .eq 194, 3) := by decide +kernel
theorem dL_law_1355 : decode cL_law 1355 = .ok (.iconst 0, 1) := by decide +kernel
theorem dL_law_1356 : decode cL_law 1356 = .ok (.ireturn, 1) := by decide +kernel
theorem dL_law_1357 : decode cL_law 1357 = .ok (.aload_n 1, 1) := by decide +kernel
theorem dL_law_1358 : decode cL_law 1358 = .ok (.aload_n 0, 1) := by decide +kernel
theorem dL_law_1359 : decode cL_law 1359 = .ok (.iload 4, 2) := by decide +kernel
theorem dL_law_1361 : decode cL_law 1361 = .ok (.iconst 1, 1) := by decide +kernel
theorem dL_law_1362 : decode cL_law 1362 = .ok (.iadd, 1) := by decide +kernel
theorem dL_law_1363 : decode cL_law 1363 = .ok (.iaload, 1) := by decide +kernel
theorem dL_law_1364 : decode cL_law 1364 = .ok (.aload_n 3, 1) := by decide +kernel
theorem dL_law_1365 : decode cL_law 1365 = .ok (.invokestatic 177, 3) := by decide +kernel
theorem dL_law_1368 : decode cL_law 1368 = .ok (.istore 5, 2) := by decide +kernel
theorem dL_law_1370 : decode cL_law 1370 = .ok (.aload_n 2, 1) := by decide +kernel
theorem dL_law_1371 : decode cL_law 1371 = .ok (.aload_n 0, 1) := by decide +kernel
theorem dL_law_1372 : decode cL_law 1372 = .ok (.iload 4, 2) := by decide +kernel
theorem dL_law_1374 : decode cL_law 1374 = .ok (.iconst 1, 1) := by decide +kernel
theorem dL_law_1375 : decode cL_law 1375 = .ok (.iadd, 1) := by decide +kernel
theorem dL_law_1376 : decode cL_law 1376 = .ok (.iaload, 1) := by decide +kernel
theorem dL_law_1377 : decode cL_law 1377 = .ok (.invokevirtual 179, 3) := by decide +kernel
theorem dL_law_1380 : decode cL_law 1380 = .ok (.istore 6, 2) := by decide +kernel
theorem dL_law_1382 : decode cL_law 1382 = .ok (.aload_n 2, 1) := by decide +kernel
theorem dL_law_1383 : decode cL_law 1383 = .ok (.invokevirtual 83, 3) := by decide +kernel
theorem dL_law_1386 : decode cL_law 1386 = .ok (.iload 5, 2) := by decide +kernel
theorem dL_law_1388 : decode cL_law 1388 = .ok (.if_icmp .eq 5, 3) := by decide +kernel
theorem dL_law_1391 : decode cL_law 1391 = .ok (.iconst 0, 1) := by decide +kernel
theorem dL_law_1392 : decode cL_law 1392 = .ok (.ireturn, 1) := by decide +kernel
theorem dL_law_1393 : decode cL_law 1393 = .ok (.iload 5, 2) := by decide +kernel
theorem dL_law_1395 : decode cL_law 1395 = .ok (.ifCond .ne 15, 3) := by decide +kernel
theorem dL_law_1398 : decode cL_law 1398 = .ok (.aload_n 3, 1) := by decide +kernel
theorem dL_law_1399 : decode cL_law 1399 = .ok (.iconst 0, 1) := by decide +kernel
theorem dL_law_1400 : decode cL_law 1400 = .ok (.laload, 1) := by decide +kernel
theorem dL_law_1401 : decode cL_law 1401 = .ok (.iload 6, 2) := by decide +kernel
theorem dL_law_1403 : decode cL_law 1403 = .ok (.i2l, 1) := by decide +kernel
theorem dL_law_1404 : decode cL_law 1404 = .ok (.lcmp, 1) := by decide +kernel
theorem dL_law_1405 : decode cL_law 1405 = .ok (.ifCond .eq 5, 3) := by decide +kernel
theorem dL_law_1408 : decode cL_law 1408 = .ok (.iconst 0, 1) := by decide +kernel
theorem dL_law_1409 : decode cL_law 1409 = .ok (.ireturn, 1) := by decide +kernel
theorem dL_law_1410 : decode cL_law 1410 = .ok (.goto 136, 3) := by decide +kernel
theorem dL_law_1413 : decode cL_law 1413 = .ok (.aload_n 1, 1) := by decide +kernel
theorem dL_law_1414 : decode cL_law 1414 = .ok (.invokevirtual 180, 3) := by decide +kernel
theorem dL_law_1417 : decode cL_law 1417 = .ok (.aload_n 2, 1) := by decide +kernel
theorem dL_law_1418 : decode cL_law 1418 = .ok (.invokevirtual 183, 3) := by decide +kernel
theorem dL_law_1421 : decode cL_law 1421 = .ok (.if_icmp .eq 125, 3) := by decide +kernel
theorem dL_law_1424 : decode cL_law 1424 = .ok (.iconst 0, 1) := by decide +kernel
theorem dL_law_1425 : decode cL_law 1425 = .ok (.ireturn, 1) := by decide +kernel
theorem dL_law_1426 : decode cL_law 1426 = .ok (.aload_n 1, 1) := by decide +kernel
theorem dL_law_1427 : decode cL_law 1427 = .ok (.invokevirtual 184, 3) := by decide +kernel
theorem dL_law_1430 : decode cL_law 1430 = .ok (.aload_n 2, 1) := by decide +kernel
theorem dL_law_1431 : decode cL_law 1431 = .ok (.invokevirtual 187, 3) := by decide +kernel
theorem dL_law_1434 : decode cL_law 1434 = .ok (.if_icmp .eq 112, 3) := by decide +kernel
theorem dL_law_1437 : decode cL_law 1437 = .ok (.iconst 0, 1) := by decide +kernel
theorem dL_law_1438 : decode cL_law 1438 = .ok (.ireturn, 1) := by decide +kernel
theorem dL_law_1439 : decode cL_law 1439 = .ok (.aload_n 1, 1) := by decide +kernel
theorem dL_law_1440 : decode cL_law 1440 = .ok (.invokevirtual 188, 3) := by decide +kernel
theorem dL_law_1443 : decode cL_law 1443 = .ok (.aload_n 2, 1) := by decide +kernel
theorem dL_law_1444 : decode cL_law 1444 = .ok (.invokevirtual 191, 3) := by decide +kernel
theorem dL_law_1447 : decode cL_law 1447 = .ok (.if_icmp .eq 99, 3) := by decide +kernel
theorem dL_law_1450 : decode cL_law 1450 = .ok (.iconst 0, 1) := by decide +kernel
theorem dL_law_1451 : decode cL_law 1451 = .ok (.ireturn, 1) := by decide +kernel
theorem dL_law_1452 : decode cL_law 1452 = .ok (.aload_n 1, 1) := by decide +kernel
theorem dL_law_1453 : decode cL_law 1453 = .ok (.invokevirtual 192, 3) := by decide +kernel
theorem dL_law_1456 : decode cL_law 1456 = .ok (.aload_n 2, 1) := by decide +kernel
theorem dL_law_1457 : decode cL_law 1457 = .ok (.invokevirtual 195, 3) := by decide +kernel
theorem dL_law_1460 : decode cL_law 1460 = .ok (.if_icmp .eq 86, 3) := by decide +kernel
theorem dL_law_1463 : decode cL_law 1463 = .ok (.iconst 0, 1) := by decide +kernel
theorem dL_law_1464 : decode cL_law 1464 = .ok (.ireturn, 1) := by decide +kernel
theorem dL_law_1465 : decode cL_law 1465 = .ok (.aload_n 1, 1) := by decide +kernel
theorem dL_law_1466 : decode cL_law 1466 = .ok (.invokevirtual 196, 3) := by decide +kernel
theorem dL_law_1469 : decode cL_law 1469 = .ok (.aload_n 2, 1) := by decide +kernel
theorem dL_law_1470 : decode cL_law 1470 = .ok (.invokevirtual 199, 3) := by decide +kernel
theorem dL_law_1473 : decode cL_law 1473 = .ok (.if_icmp .eq 73, 3) := by decide +kernel
theorem dL_law_1476 : decode cL_law 1476 = .ok (.iconst 0, 1) := by decide +kernel
theorem dL_law_1477 : decode cL_law 1477 = .ok (.ireturn, 1) := by decide +kernel
theorem dL_law_1478 : decode cL_law 1478 = .ok (.aload_n 1, 1) := by decide +kernel
theorem dL_law_1479 : decode cL_law 1479 = .ok (.invokevirtual 200, 3) := by decide +kernel
theorem dL_law_1482 : decode cL_law 1482 = .ok (.aload_n 2, 1) := by decide +kernel
theorem dL_law_1483 : decode cL_law 1483 = .ok (.invokevirtual 203, 3) := by decide +kernel
theorem dL_law_1486 : decode cL_law 1486 = .ok (.if_icmp .eq 60, 3) := by decide +kernel
theorem dL_law_1489 : decode cL_law 1489 = .ok (.iconst 0, 1) := by decide +kernel
theorem dL_law_1490 : decode cL_law 1490 = .ok (.ireturn, 1) := by decide +kernel
theorem dL_law_1491 : decode cL_law 1491 = .ok (.aload_n 1, 1) := by decide +kernel
theorem dL_law_1492 : decode cL_law 1492 = .ok (.invokevirtual 204, 3) := by decide +kernel
theorem dL_law_1495 : decode cL_law 1495 = .ok (.dstore 5, 2) := by decide +kernel
theorem dL_law_1497 : decode cL_law 1497 = .ok (.aload_n 2, 1) := by decide +kernel
theorem dL_law_1498 : decode cL_law 1498 = .ok (.invokevirtual 208, 3) := by decide +kernel
theorem dL_law_1501 : decode cL_law 1501 = .ok (.dstore 7, 2) := by decide +kernel
theorem dL_law_1503 : decode cL_law 1503 = .ok (.dload 5, 2) := by decide +kernel
theorem dL_law_1505 : decode cL_law 1505 = .ok (.dload 7, 2) := by decide +kernel
theorem dL_law_1507 : decode cL_law 1507 = .ok (.dcmp .l, 1) := by decide +kernel
theorem dL_law_1508 : decode cL_law 1508 = .ok (.ifCond .eq 21, 3) := by decide +kernel
theorem dL_law_1511 : decode cL_law 1511 = .ok (.dload 5, 2) := by decide +kernel
theorem dL_law_1513 : decode cL_law 1513 = .ok (.dload 5, 2) := by decide +kernel
theorem dL_law_1515 : decode cL_law 1515 = .ok (.dcmp .l, 1) := by decide +kernel
theorem dL_law_1516 : decode cL_law 1516 = .ok (.ifCond .eq 11, 3) := by decide +kernel
theorem dL_law_1519 : decode cL_law 1519 = .ok (.dload 7, 2) := by decide +kernel
theorem dL_law_1521 : decode cL_law 1521 = .ok (.dload 7, 2) := by decide +kernel
theorem dL_law_1523 : decode cL_law 1523 = .ok (.dcmp .l, 1) := by decide +kernel
theorem dL_law_1524 : decode cL_law 1524 = .ok (.ifCond .ne 5, 3) := by decide +kernel
theorem dL_law_1527 : decode cL_law 1527 = .ok (.iconst 0, 1) := by decide +kernel
theorem dL_law_1528 : decode cL_law 1528 = .ok (.ireturn, 1) := by decide +kernel
theorem dL_law_1529 : decode cL_law 1529 = .ok (.goto 17, 3) := by decide +kernel
theorem dL_law_1532 : decode cL_law 1532 = .ok (.aload_n 1, 1) := by decide +kernel
theorem dL_law_1533 : decode cL_law 1533 = .ok (.invokevirtual 209, 3) := by decide +kernel
theorem dL_law_1536 : decode cL_law 1536 = .ok (.aload_n 2, 1) := by decide +kernel
theorem dL_law_1537 : decode cL_law 1537 = .ok (.invokevirtual 213, 3) := by decide +kernel
theorem dL_law_1540 : decode cL_law 1540 = .ok (.lcmp, 1) := by decide +kernel
theorem dL_law_1541 : decode cL_law 1541 = .ok (.ifCond .eq 5, 3) := by decide +kernel
theorem dL_law_1544 : decode cL_law 1544 = .ok (.iconst 0, 1) := by decide +kernel
theorem dL_law_1545 : decode cL_law 1545 = .ok (.ireturn, 1) := by decide +kernel
theorem dL_law_1546 : decode cL_law 1546 = .ok (.iinc 4 4, 3) := by decide +kernel
theorem dL_law_1549 : decode cL_law 1549 = .ok (.goto (-1526), 3) := by decide +kernel
theorem dL_law_1552 : decode cL_law 1552 = .ok (.iconst 1, 1) := by decide +kernel
theorem dL_law_1553 : decode cL_law 1553 = .ok (.ireturn, 1) := by decide +kernel
end
section
/-! the state of class and reference as one value; rows derived from the kit's -/
abbrev MS : Type := Nat × Nat × Nat × Nat × Nat × Nat × Nat × Nat × Int32 × Int32 × (Nat → Int32) × (Nat → Int32) × (Nat → Int32) × (Nat → Int32) × (Nat → Int32) × (Nat → Int32)
abbrev mSc (u : MS) : Nat := u.1
abbrev mNc (u : MS) : Nat := u.2.1
abbrev mBc (u : MS) : Nat := u.2.2.1
abbrev mNow (u : MS) : Nat := u.2.2.2.1
abbrev mRoom (u : MS) : Nat := u.2.2.2.2.1
abbrev mRate (u : MS) : Nat := u.2.2.2.2.2.1
abbrev mSip (u : MS) : Nat := u.2.2.2.2.2.2.1
abbrev mTea (u : MS) : Nat := u.2.2.2.2.2.2.2.1
abbrev mSpl (u : MS) : Int32 := u.2.2.2.2.2.2.2.2.1
abbrev mAft (u : MS) : Int32 := u.2.2.2.2.2.2.2.2.2.1
abbrev mHt (u : MS) : Nat → Int32 := u.2.2.2.2.2.2.2.2.2.2.1
abbrev mFr (u : MS) : Nat → Int32 := u.2.2.2.2.2.2.2.2.2.2.2.1
abbrev mTo (u : MS) : Nat → Int32 := u.2.2.2.2.2.2.2.2.2.2.2.2.1
abbrev mCov (u : MS) : Nat → Int32 := u.2.2.2.2.2.2.2.2.2.2.2.2.2.1
abbrev mPe (u : MS) : Nat → Int32 := u.2.2.2.2.2.2.2.2.2.2.2.2.2.2.1
abbrev mBe (u : MS) : Nat → Int32 := u.2.2.2.2.2.2.2.2.2.2.2.2.2.2.2
/-- the class's cells -/
abbrev pic0 (cI : ClassId) (h : Nat) (a : Nat → Nat) (u : MS) (on : Nat → Int32) : va_W :=
  [(h, .inr (0, [.ref (a 0), .int (nI (mSc u)), .ref (a 1), .ref (a 2), .int (nI (mNc u)), .ref (a 3), .ref (a 4), .ref (a 5), .int (nI (mBc u)), .ref (a 6), .int (nI (mRoom u)), .int (nI (mRate u)), .int (nI (mSip u)), .int (nI (mTea u)), .int (mSpl u), .int (nI (mNow u)), .int (mAft u)])),
   (a 0, .inl (cI, 4, .inl (mHt u))), (a 1, .inl (cI, 8, .inl (mFr u))), (a 2, .inl (cI, 8, .inl (mTo u))), (a 3, .inl (cI, 360, .inl (mCov u))), (a 4, .inl (cI, 6, .inl (mPe u))), (a 5, .inl (cI, 6, .inl (mBe u))), (a 6, .inl (cI, 360, .inl on))]
/-- the reference's cells -/
abbrev pic1 (cI : ClassId) (h : Nat) (a : Nat → Nat) (u : MS) (th : Int32) : va_W :=
  [(h, .inr (1, [.int th, .int (nI (mSc u)), .ref (a 0), .int (nI (mNc u)), .ref (a 1), .ref (a 2), .ref (a 3), .int (nI (mBc u)), .ref (a 4), .ref (a 5), .int (nI (mRoom u)), .int (nI (mRate u)), .int (nI (mSip u)), .int (mAft u), .int (nI (mNow u)), .int (nI (mTea u)), .int (mSpl u)])),
   (a 0, .inl (cI, 4, .inl (mHt u))), (a 1, .inl (cI, 8, .inl (mFr u))), (a 2, .inl (cI, 8, .inl (mTo u))), (a 3, .inl (cI, 360, .inl (mCov u))), (a 4, .inl (cI, 6, .inl (mPe u))), (a 5, .inl (cI, 6, .inl (mBe u)))]
/-! numbers -/
def bI (b : Bool) : Int32 := if b = true then nI 1 else nI 0
theorem bI_eq0 {b : Bool} (h : bI b = 0) : b = false := by
  cases b
  · rfl
  · exact absurd h (by decide +kernel)
theorem bI_ne0 {b : Bool} (h : ¬ bI b = 0) : b = true := by
  cases b
  · exact absurd (show bI false = 0 by decide +kernel) h
  · rfl
theorem bI_nar (b : Bool) : narrow .boolean (.int (bI b)) = .int (bI b) := by cases b <;> decide +kernel
theorem bI_t : nI 1 = bI true := rfl
theorem bI_f : nI 0 = bI false := rfl
theorem nI_i1 (k : Nat) : nI k + Int32.ofInt 1 = nI (k + 1) := nI_1 k
theorem nI_mul (a b : Nat) : nI a * nI b = nI (a * b) := (Int32.ofNat_mul a b).symm
theorem nI_sub {a b : Nat} (h : b ≤ a) : nI a - nI b = nI (a - b) := by
  have h1 := nI_add (a - b) b
  rw [Nat.sub_add_cancel h] at h1
  rw [← h1]
  exact Int32.add_sub_cancel _ _
theorem eN {a b : Nat} (h : nI a = nI b) (ha : a < 2147483648 := by omega) (hb : b < 2147483648 := by omega) : a = b := (nI_eq ha hb).mp h
theorem neN {a b : Nat} (h : ¬ nI a = nI b) : a ≠ b := fun e => h (by rw [e])
theorem leN {a b : Nat} (h : nI a ≤ nI b) (ha : a < 2147483648 := by omega) (hb : b < 2147483648 := by omega) : a ≤ b := (nI_leI ha hb).mp h
theorem nleN {a b : Nat} (h : ¬ nI a ≤ nI b) (ha : a < 2147483648 := by omega) (hb : b < 2147483648 := by omega) : b < a := Nat.not_le.mp fun z => h ((nI_leI ha hb).mpr z)
theorem ltN {a b : Nat} (h : nI a < nI b) (ha : a < 2147483648 := by omega) (hb : b < 2147483648 := by omega) : a < b := (nI_ltI ha hb).mp h
theorem nltN {a b : Nat} (h : ¬ nI a < nI b) (ha : a < 2147483648 := by omega) (hb : b < 2147483648 := by omega) : b ≤ a := Nat.not_lt.mp fun z => h ((nI_ltI ha hb).mpr z)
/-! folds and searches -/
def fz {α : Type} (f : Nat → α → α) : Nat → α → α
  | 0, a => a
  | k + 1, a => f k (fz f k a)
def fs {α : Type} (f : Nat → α → α) (s : Nat) : Nat → α → α
  | 0, a => a
  | k + 1, a => f (s + k) (fs f s k a)
def fd (P : Nat → Bool) : Nat → Nat → Int32
  | 0, _ => -1
  | n + 1, s => if P s = true then nI s else fd P n (s + 1)
theorem fd_hit {P : Nat → Bool} {n s : Nat} (h : P s = true) : fd P (n + 1) s = nI s := if_pos h
theorem fd_miss {P : Nat → Bool} {n s : Nat} (h : P s = false) : fd P (n + 1) s = fd P n (s + 1) := if_neg (by rw [h]; decide)
theorem fz_cong {α : Type} {f g : Nat → α → α} (I : α → Prop) {a : α} (h0 : I a) : ∀ n, (∀ k, k < n → ∀ x, I x → f k x = g k x ∧ I (g k x)) → fz f n a = fz g n a ∧ I (fz g n a) := by
  intro n
  induction n with
  | zero => exact fun _ => ⟨rfl, h0⟩
  | succ n ih =>
    intro h
    obtain ⟨e1, e2⟩ := ih (fun k hk => h k (Nat.lt_succ_of_lt hk))
    have h3 := h n (Nat.lt_succ_self n) _ e2
    exact ⟨by show f n (fz f n a) = g n (fz g n a); rw [e1]; exact h3.1, h3.2⟩
/-! a method that changes nothing: its entry, and its call -/
theorem en_pu {l : Launch} {y : MethodName} {ws ws' : List Cond} {rm : Room} {Qc : Array Value → State → Outcome → State → Prop} {cc : ByteArray} {maxL : Nat} {ret : Option FieldType} {D : va_G} {cl : List vw_C} {tys : List (ClassId × FieldType)} (W0 : va_W) (av : List Value)
    (hy : plainName y.cls = true) (hw : ws = Cond.code y cc maxL ret :: ws') (hlen : (lg_sl av).length ≤ maxL)
    (body : ∀ (p : Program) (e : Env) (s : State) (m : MethodId) (args : Array Value) (below : List Frame) (meth : Method) (c : Code) (ls : Array Slot), p.tables.exec = Jvm.exec → c.code = cc → c.maxLocals = maxL → meth.sig.returnType = ret → meth.locks = false → (∀ w ∈ ws, w.before args s = true) → s.vm.findClass y.cls = some m.cls → va_P D cl W0 s.heap → va_K D cl tys s → lv_has ls maxL (lv_args 0 av) →
      W p l e rm s m args below meth c s.heap [] 0 0 (MQ below Qc args s 0 0 (fun _ => False)) (F0 m 0 ls [])) :
    Met l y ws rm (va_Pc av (fun U => va_P D cl W0 U.heap ∧ va_K D cl tys U)) Qc 0 0 (fun _ => False) := by
  refine Met.ofW (cc := cc) (maxL := maxL) (ret := ret) hy hw ?_
  intro p e s m args below meth c s₁ B hml hv
  obtain ⟨rfl, hP, hK⟩ := hv
  have hl := lv_entry av (n := maxL) hlen
  rw [lg_entry_eq]
  exact body p e s m _ below meth c _ B.exec B.bytes hml B.returns B.notSynchronized (atoms_spec (ws := ws) B.pre) (findClass_of_methodNamed B.named) hP hK hl
theorem pu_pre {s : State} {H : Heap} {D : va_G} {cl : List vw_C} {tys : List (ClassId × FieldType)} {W0 : va_W} {h ci N : Nat} {fs : List Value} {C : String} {T : u_T} {As : List Value} (hK : va_K D cl tys s) (hP : va_P D cl W0 H) (he : W0[0]? = some (h, .inr (ci, fs))) (hc : cl[ci]? = some (C, T, N)) :
    PreV s H C h (va_Pc (.ref h :: As) (fun U => va_P D cl W0 U.heap ∧ va_K D cl tys U)) As :=
  ⟨fun a U g mk q => by
    obtain ⟨q0, qP, qK⟩ := q
    exact ⟨q0, qP, va_K.moved (u := U) (U := U.calling g mk a) (Vm.Alike.refl U.vm) qK⟩, va_recv hK hP hc he, fun U hU hW => ⟨rfl, by rw [hU]; exact hP, va_K.moved hW.alike hK⟩⟩
/-- a static method that looks at nothing -/
theorem en_st {l : Launch} {y : MethodName} {ws ws' : List Cond} {rm : Room} {Qc : Array Value → State → Outcome → State → Prop} {cc : ByteArray} {maxL : Nat} {ret : Option FieldType} (av : List Value)
    (hy : plainName y.cls = true) (hw : ws = Cond.code y cc maxL ret :: ws') (hlen : (lg_sl av).length ≤ maxL)
    (body : ∀ (p : Program) (e : Env) (s : State) (m : MethodId) (args : Array Value) (below : List Frame) (meth : Method) (c : Code) (ls : Array Slot), p.tables.exec = Jvm.exec → c.code = cc → c.maxLocals = maxL → meth.sig.returnType = ret → meth.locks = false → (∀ w ∈ ws, w.before args s = true) → s.vm.findClass y.cls = some m.cls → lv_has ls maxL (lv_args 0 av) →
      W p l e rm s m args below meth c s.heap [] 0 0 (MQ below Qc args s 0 0 (fun _ => False)) (F0 m 0 ls [])) :
    Met l y ws rm (fun v _ => v = av.toArray) Qc 0 0 (fun _ => False) := by
  refine Met.ofW (cc := cc) (maxL := maxL) (ret := ret) hy hw ?_
  intro p e s m args below meth c s₁ B hml hv
  subst hv
  have hl := lv_entry av (n := maxL) hlen
  rw [lg_entry_eq]
  exact body p e s m _ below meth c _ B.exec B.bytes hml B.returns B.notSynchronized (atoms_spec (ws := ws) B.pre) (findClass_of_methodNamed B.named) hl
section QR
variable {p : Program} {l : Launch} {e : Env} {R : Room} {s : State} {m : MethodId} {args : Array Value} {below : List Frame} {meth : Method} {c : Code} {H : Heap} {locs : List Loc} {cells slots : Nat} {Q : State → Prop} {cc : ByteArray} {pc : Nat} {ls : Array Slot} {rest : List Value} {D : va_G} {cl : List vw_C} {ws : va_W} {tys : List (ClassId × FieldType)} {a : Nat} {A : Nat → Prop} {H0 : Heap}
theorem q_iald (hexec : p.tables.exec = Jvm.exec) (hb : c.code = cc) (hK : va_K D cl tys s) (hP : va_P D cl ws H) (q0 t0 : Nat) {cA : ClassId} {n : Nat} {f : Nat → Int32} (ha : ws[q0]? = some (a, .inl (cA, n, .inl f))) (ht : tys[t0]? = some (cA, .int)) {k : Nat} (hk : k < n) (hn : n < 2 ^ 31) {v : Int32} (hv : f k = v) (hdg : decode cc pc = .ok (.iaload, 1))
    (kk : W p l e R s m args below meth c H locs cells slots Q (F0 m (pc + 1) ls (.int v :: rest))) : W p l e R s m args below meth c H locs cells slots Q (F0 m pc ls (.int (nI k) :: .ref a :: rest)) := by
  refine va_iald hexec hb hK hP q0 t0 ha ht (vp_in_nI hk hn) hdg ?_
  rw [nI_clamp (Nat.lt_trans hk hn), hv]
  exact kk
theorem q_iast (hexec : p.tables.exec = Jvm.exec) (hb : c.code = cc) (hK : va_K D cl tys s) (hP : va_P D cl ws H) (hD : va_D A ws) (hS : va_S A H0 H locs) (q0 t0 : Nat) {cA : ClassId} {n : Nat} {f : Nat → Int32} (ha : ws[q0]? = some (a, .inl (cA, n, .inl f))) (ht : tys[t0]? = some (cA, .int)) {k : Nat} {x : Int32} (hk : k < n) (hn : n < 2 ^ 31) (hdg : decode cc pc = .ok (.iastore, 1))
    (kk : ∀ (H1 : Heap) (locs1 : List Loc), va_P D cl (ws.set q0 (a, .inl (cA, n, .inl (upd f k x)))) H1 → va_D A (ws.set q0 (a, .inl (cA, n, .inl (upd f k x)))) → va_S A H0 H1 locs1 → W p l e R s m args below meth c H1 locs1 cells slots Q (F0 m (pc + 1) ls rest)) : W p l e R s m args below meth c H locs cells slots Q (F0 m pc ls (.int x :: .int (nI k) :: .ref a :: rest)) := by
  refine va_iast hexec hb hK hP hD hS q0 t0 ha ht (vp_in_nI hk hn) hdg (fun H1 locs1 h1 h2 h3 => ?_)
  rw [nI_clamp (Nat.lt_trans hk hn)] at h1 h2
  exact kk H1 locs1 h1 h2 h3
theorem q_iaddN (hexec : p.tables.exec = Jvm.exec) (hb : c.code = cc) {x y : Nat} (hdg : decode cc pc = .ok (.iadd, 1))
    (k : W p l e R s m args below meth c H locs cells slots Q (F0 m (pc + 1) ls (.int (nI (x + y)) :: rest))) : W p l e R s m args below meth c H locs cells slots Q (F0 m pc ls (.int (nI y) :: .int (nI x) :: rest)) := by
  refine lv_iadd hexec hb hdg ?_
  rw [nI_add]
  exact k
theorem q_isubN (hexec : p.tables.exec = Jvm.exec) (hb : c.code = cc) {x y : Nat} (hxy : y ≤ x) (hdg : decode cc pc = .ok (.isub, 1))
    (k : W p l e R s m args below meth c H locs cells slots Q (F0 m (pc + 1) ls (.int (nI (x - y)) :: rest))) : W p l e R s m args below meth c H locs cells slots Q (F0 m pc ls (.int (nI y) :: .int (nI x) :: rest)) := by
  refine lv_isub hexec hb hdg ?_
  rw [nI_sub hxy]
  exact k
theorem q_imulN (hexec : p.tables.exec = Jvm.exec) (hb : c.code = cc) {x y : Nat} (hdg : decode cc pc = .ok (.imul, 1))
    (k : W p l e R s m args below meth c H locs cells slots Q (F0 m (pc + 1) ls (.int (nI (x * y)) :: rest))) : W p l e R s m args below meth c H locs cells slots Q (F0 m pc ls (.int (nI y) :: .int (nI x) :: rest)) := by
  refine lv_imul hexec hb hdg ?_
  rw [nI_mul]
  exact k
theorem q_iremN (hexec : p.tables.exec = Jvm.exec) (hb : c.code = cc) {x y : Nat} (hx : x < 2 ^ 31) (hy0 : 0 < y) (hy : y < 2 ^ 31) (hdg : decode cc pc = .ok (.irem, 1))
    (k : W p l e R s m args below meth c H locs cells slots Q (F0 m (pc + 1) ls (.int (nI (x % y)) :: rest))) : W p l e R s m args below meth c H locs cells slots Q (F0 m pc ls (.int (nI y) :: .int (nI x) :: rest)) := by
  refine lv_irem hexec hb hdg (nI_ne0 hy0 hy) ?_
  rw [pk_rem hx hy0 hy]
  exact k
end QR
end
section
/-! what the answers are, in numbers read off the state -/
def ct (P : Nat → Bool) : Nat → Nat
  | 0 => 0
  | n + 1 => ct P n + (if P n = true then 1 else 0)
theorem ct_le (P : Nat → Bool) : ∀ n, ct P n ≤ n := by
  intro n
  induction n with
  | zero => exact Nat.le_refl 0
  | succ n ih =>
    show ct P n + (if P n = true then 1 else 0) ≤ n + 1
    split <;> omega
def pN (u : MS) (b : Nat) : Nat := (mPe u b).toNatClampNeg
def qN (u : MS) (b : Nat) : Nat := (mBe u b).toNatClampNeg
def aN (u : MS) (n : Nat) : Nat := (mFr u n).toNatClampNeg
def bN (u : MS) (n : Nat) : Nat := (mTo u n).toNatClampNeg
def hN (u : MS) (s : Nat) : Nat := (mHt u s).toNatClampNeg
def cvB (u : MS) (n t : Nat) : Bool := decide (aN u n ≤ t ∧ t < bN u n)
def htB (u : MS) (b t : Nat) : Bool := decide (t % pN u b = qN u b)
def cN (u : MS) (t : Nat) : Nat := ct (fun n => cvB u n t) (mNc u)
def oN (u : MS) (t : Nat) : Nat := ct (fun b => htB u b t) (mBc u)
theorem cN_le (u : MS) (t : Nat) : cN u t ≤ mNc u := ct_le _ _
theorem oN_le (u : MS) (t : Nat) : oN u t ≤ mBc u := ct_le _ _
def Inv (u : MS) : Prop := mSc u ≤ 4 ∧ mNc u ≤ 8 ∧ mBc u ≤ 6 ∧ mNow u ≤ 360 ∧ (mTea u ≤ mRoom u ∧ mRoom u ≤ 50 ∧ mRate u ≤ 9 ∧ mSip u ≤ 9 ∧ 1 ≤ mRoom u) ∧
  (∀ b, b < mBc u → mPe u b = nI (pN u b) ∧ mBe u b = nI (qN u b) ∧ 2 ≤ pN u b ∧ pN u b ≤ 30 ∧ qN u b < pN u b) ∧
  (∀ n, n < mNc u → mFr u n = nI (aN u n) ∧ mTo u n = nI (bN u n) ∧ aN u n < bN u n ∧ bN u n ≤ 360) ∧
  (∀ t, t < 360 → mCov u t = nI (cN u t)) ∧ (∀ s, s < mSc u → mHt u s = nI (hN u s) ∧ 1 ≤ hN u s ∧ hN u s ≤ 30) ∧ True
def InvO (u : MS) (on : Nat → Int32) : Prop := ∀ t, t < 360 → on t = nI (oN u t)
theorem nI1 : nI 1 = 1 := rfl
theorem mx0 {a b : Nat} (ha : a < 1073741824) (hb : b < 1073741824) : (if nI 0 < nI a - nI b then nI a - nI b else nI 0) = nI (a - b) := by
  by_cases h : a ≤ b
  · have h1 : ¬ nI 0 < nI a - nI b := by
      rw [Int32.lt_iff_toInt_lt, pk_sub_toInt ha hb, nI_toInt (by decide)]
      omega
    rw [if_neg h1, Nat.sub_eq_zero_of_le h]
  · have h2 : b ≤ a := by omega
    have h1 : nI 0 < nI a - nI b := by
      rw [Int32.lt_iff_toInt_lt, pk_sub_toInt ha hb, nI_toInt (by decide)]
      omega
    rw [if_pos h1, nI_sub h2]
def awF (u : MS) (t : Nat) (x : Int32) : Int32 := if cN u t = 0 then x + nI 1 else x
def fAw (u : MS) : Int32 := fz (awF u) (mNow u) (nI 0)
def lgF (u : MS) (t : Nat) (x : Int32 × Int32) : Int32 × Int32 := if cN u t = 0 then (if x.1 < x.2 + nI 1 then x.2 + nI 1 else x.1, x.2 + nI 1) else (if x.1 < nI 0 then nI 0 else x.1, nI 0)
def lgS (u : MS) (k : Nat) : Int32 × Int32 := fz (lgF u) k (nI 0, nI 0)
def fLong (u : MS) : Int32 := (lgS u 360).1
theorem lg_yes {u : MS} {t : Nat} {x : Int32 × Int32} (h : cN u t = 0) : lgF u t x = (if x.1 < x.2 + nI 1 then x.2 + nI 1 else x.1, x.2 + nI 1) := if_pos h
theorem lg_no {u : MS} {t : Nat} {x : Int32 × Int32} (h : ¬ cN u t = 0) : lgF u t x = (if x.1 < nI 0 then nI 0 else x.1, nI 0) := if_neg h
def fShad (u : MS) (s t : Nat) : Int32 := mHt u s * nI (60 + t) / nI 120
def shF (u : MS) (t s : Nat) (x : Int32) : Int32 := x + fShad u s t
def fSum (u : MS) (t : Nat) : Int32 := fz (shF u t) (mSc u) (nI 0)
def msB (u : MS) (s : Nat) (len : Int32) (t : Nat) : Bool := decide (len ≤ fShad u s t)
def fMoS (u : MS) (s : Nat) (len : Int32) : Int32 := fd (msB u s len) 360 0
def alF (u : MS) (n t : Nat) (x : Int32) : Int32 := if cN u t = 1 ∧ cvB u n t = true then x + nI 1 else x
def fAl (u : MS) (n : Nat) : Int32 := fz (alF u n) 360 (nI 0)
def tkB (u : MS) (b t : Nat) : Bool := decide (cN u t = 0 ∧ t % pN u b = qN u b)
def tkF (u : MS) (b t : Nat) (x : Int32) : Int32 := if tkB u b t = true then x + nI 1 else x
def fTk (u : MS) (b : Nat) : Int32 := fz (tkF u b) (mNow u) (nI 0)
def fMe (u : MS) (b : Nat) : Int32 := fTk u b * nI (pN u b)
def fEr (u : MS) (b : Nat) : Int32 := fMe u b - fAw u
def fNx (u : MS) (b : Nat) : Int32 := fd (tkB u b) (360 - mNow u) (mNow u)
def abI (x : Int32) : Int32 := if 0 ≤ x then x else 0 - x
def bbF (u : MS) (b : Nat) (x : Int32 × Int32) : Int32 × Int32 := if x.1 = -1 ∨ abI (fEr u b) < x.2 then (nI b, abI (fEr u b)) else x
def bbS (u : MS) (k : Nat) : Int32 × Int32 := fz (bbF u) k (-1, nI 0)
def fBB (u : MS) : Int32 := (bbS u (mBc u)).1
theorem bb_yes {u : MS} {b : Nat} {x : Int32 × Int32} (h : x.1 = -1 ∨ abI (fEr u b) < x.2) : bbF u b x = (nI b, abI (fEr u b)) := if_pos h
theorem bb_no {u : MS} {b : Nat} {x : Int32 × Int32} (h : ¬ (x.1 = -1 ∨ abI (fEr u b) < x.2)) : bbF u b x = x := if_neg h
def cAf (u : MS) (t c r : Nat) : Nat := if cN u t = 0 then c + r - mSip u * oN u t else c
theorem cAf_le (u : MS) (t c r : Nat) : cAf u t c r ≤ c + r := by
  unfold cAf
  split <;> omega
def spF (u : MS) (r : Nat) : Nat → Nat → Nat → Int32
  | 0, _, _ => -1
  | n + 1, t, c => if mRoom u < cAf u t c r then nI t else spF u r n (t + 1) (cAf u t c r)
theorem sp_hit {u : MS} {r n t c : Nat} (h : mRoom u < cAf u t c r) : spF u r (n + 1) t c = nI t := if_pos h
theorem sp_go {u : MS} {r n t c : Nat} (h : ¬ mRoom u < cAf u t c r) : spF u r (n + 1) t c = spF u r n (t + 1) (cAf u t c r) := if_neg h
def fSp (u : MS) (r : Nat) : Int32 := spF u r (360 - mNow u) (mNow u) (mTea u)
def sfF (u : MS) : Nat → Nat
  | 0 => 0
  | k + 1 => if fSp u (k + 1) = -1 then k + 1 else sfF u k
theorem sf_yes {u : MS} {k : Nat} (h : fSp u (k + 1) = -1) : sfF u (k + 1) = k + 1 := if_pos h
theorem sf_no {u : MS} {k : Nat} (h : ¬ fSp u (k + 1) = -1) : sfF u (k + 1) = sfF u k := if_neg h
def enF (u : MS) (t : Nat) (x : Int32 × Nat) : Int32 × Nat := (x.1 + nI (cAf u t x.2 (mRate u) - mRoom u), cAf u t x.2 (mRate u) - (cAf u t x.2 (mRate u) - mRoom u))
def enS (u : MS) (k : Nat) : Int32 × Nat := fs (enF u) (mNow u) k (mSpl u, mTea u)
def fEnd (u : MS) : Int32 := (enS u (360 - mNow u)).1
def bgF (u : MS) (n : Nat) (x : Int32 × Int32) : Int32 × Int32 := if x.1 = -1 ∨ x.2 < fAl u n then (nI n, fAl u n) else x
def bgS (u : MS) (k : Nat) : Int32 × Int32 := fz (bgF u) k (-1, nI 0)
def fBG (u : MS) : Int32 := (bgS u (mNc u)).1
theorem bg_yes {u : MS} {b : Nat} {x : Int32 × Int32} (h : x.1 = -1 ∨ x.2 < fAl u b) : bgF u b x = (nI b, fAl u b) := if_pos h
theorem bg_no {u : MS} {b : Nat} {x : Int32 × Int32} (h : ¬ (x.1 = -1 ∨ x.2 < fAl u b)) : bgF u b x = x := if_neg h
def fMean (u : MS) : UInt64 := if mSc u = 0 then FP.dconst0 else FP.ddiv (FP.i2d (fSum u 359)) (FP.i2d (nI (mSc u)))
def wsF (u : MS) (s : Nat) (x : Int64) : Int64 := x * 31 + Int32.toInt64 (fShad u s 100)
def wnF (u : MS) (n : Nat) (x : Int64) : Int64 := ((x * 31 + Int32.toInt64 (nI (aN u n))) * 31 + Int32.toInt64 (nI (bN u n - aN u n))) * 31 + Int32.toInt64 (fAl u n)
def wbF (u : MS) (b : Nat) (x : Int64) : Int64 := ((x * 31 + Int32.toInt64 (fTk u b)) * 31 + Int32.toInt64 (fMe u b)) * 31 + Int32.toInt64 (fNx u b)
def s31 (d : Int64) (x : Int32) : Int64 := d * 31 + Int32.toInt64 x
def dgH (u : MS) : Int64 := s31 (s31 (s31 (s31 (s31 (s31 (s31 (s31 (s31 (s31 (s31 (s31 (s31 2083 (mAft u)) (nI (mNow u))) (fAw u)) (fLong u)) (nI (mSc u))) (nI (mNc u))) (nI (mBc u))) (nI (mTea u))) (mSpl u)) (fEnd u)) (nI (sfF u 9))) (fBG u)) (fBB u)
def fDig (u : MS) : Int64 := fz (wbF u) (mBc u) (fz (wnF u) (mNc u) (fz (wsF u) (mSc u) (dgH u)))
theorem gtI {a b : Int32} (h : ¬ a ≤ b) : b < a := Int32.not_le.mp h
theorem ngI {a b : Int32} (h : a ≤ b) : ¬ b < a := Int32.not_lt.mpr h
theorem leI {a b : Int32} (h : ¬ a < b) : b ≤ a := Int32.not_lt.mp h
theorem mean_ok {u : MS} (hI : Inv u) (h : ¬ mSc u = 0) : vf_n64 (FP.ddiv (FP.i2d (fSum u 359)) (FP.i2d (nI (mSc u)))) := by
  sorry
end
section
set_option maxHeartbeats 4000000 in
set_option maxRecDepth 100000 in
theorem c_X0_covers (l : Launch) (D : va_G) (cI : ClassId) (h : Nat) (a : Nat → Nat) (u : MS) (on : Nat → Int32) (np : Nat) (tt : Nat) (h8 : np < 8) (hf1 : mFr u np = nI (aN u np)) (hf2 : mTo u np = nI (bN u np)) (hf3 : aN u np ≤ 360) (hf4 : bN u np ≤ 360) (ht : tt < 360) : Met l yX0_covers wsX0_covers ({ frames := 0, cells := 0, slots := 0, locals := 0 } : Room) (va_Pc [.ref h, .int (nI np), .int (nI tt)] (fun U => va_P D vwCl (pic0 cI h a u on) U.heap ∧ va_K D vwCl [(cI, .int)] U)) (vp_Si (fun r => r = bI (cvB u np tt))) 0 0 (fun _ => False) := by
  refine en_pu (cc := cX0_covers) (maxL := 3) (ret := (some .boolean)) _ _ (by decide) rfl (Nat.le_of_ble_eq_true rfl) ?_
  intro p e s m args below meth c ls hx hb hml hr hlocks hts hown hP hK hl
  have hown : s.vm.findClass RX0 = some m.cls := hown
  have hin : ∀ w ∈ wsX00, w ∈ wsX0_covers := fun _ h9 => List.mem_cons_of_mem _ (List.mem_append_right _ h9)
  have hl : lv_has ls 3 [(0, .ref h), (1, .int (nI np)), (2, .int (nI tt))] := hl
  refine lv_aload_n hx hb dX0_covers_0 rfl (lv_at hl 0 rfl) ?_
  refine va_get (D := D) (ci := 0) (v := .ref (a 1)) (C := RX0) (T := TX0) (N := 17) hx hb hts hin hown hK hP 0 rfl rfl 2 (by decide) (hts (.fieldLink RX0 13 "AfternoonMeter" "napStarts" "[I") (List.mem_of_getElem? (i := 1) rfl)) (fun _ h9 => h9) rfl dX0_covers_1 ?_
  refine lv_iload_n hx hb dX0_covers_4 rfl (lv_at hl 1 rfl) ?_
  refine q_iald (v := nI (aN u np)) hx hb hK hP 2 0 rfl rfl (by omega) (by decide) (hf1) dX0_covers_5 ?_
  refine lv_iload_n hx hb dX0_covers_6 rfl (lv_at hl 2 rfl) ?_
  refine lv_icmp_gt (tgt := 24) hx hb dX0_covers_7 (by decide) (fun c_7 => ?_) (fun c_7 => ?_)
  · skip
    replace c_7 : tt < (aN u np) := ltN c_7
    refine lv_iconst (v := nI 0) hx hb dX0_covers_24 (by decide +kernel) ?_
    have hq : nI 0 = bI (cvB u np tt) := by rw [show cvB u np tt = false from decide_eq_false (by omega)]; rfl
    exact W.zret (ty := .boolean) hx hb hr (by decide +kernel) (fun t ht _ => ⟨_, rfl, hq, ht⟩) (fun _ h9 => nomatch h9) dX0_covers_25
  · skip
    replace c_7 : (aN u np) ≤ tt := nltN c_7
    refine lv_iload_n hx hb dX0_covers_10 rfl (lv_at hl 2 rfl) ?_
    refine lv_aload_n hx hb dX0_covers_11 rfl (lv_at hl 0 rfl) ?_
    refine va_get (D := D) (ci := 0) (v := .ref (a 2)) (C := RX0) (T := TX0) (N := 17) hx hb hts hin hown hK hP 0 rfl rfl 3 (by decide) (hts (.fieldLink RX0 16 "AfternoonMeter" "napEnds" "[I") (List.mem_of_getElem? (i := 2) rfl)) (fun _ h9 => h9) rfl dX0_covers_12 ?_
    refine lv_iload_n hx hb dX0_covers_15 rfl (lv_at hl 1 rfl) ?_
    refine q_iald (v := nI (bN u np)) hx hb hK hP 3 0 rfl rfl (by omega) (by decide) (hf2) dX0_covers_16 ?_
    refine lv_icmp_ge (tgt := 24) hx hb dX0_covers_17 (by decide) (fun c_17 => ?_) (fun c_17 => ?_)
    · skip
      replace c_17 : (bN u np) ≤ tt := leN c_17
      refine lv_iconst (v := nI 0) hx hb dX0_covers_24 (by decide +kernel) ?_
      have hq : nI 0 = bI (cvB u np tt) := by rw [show cvB u np tt = false from decide_eq_false (by omega)]; rfl
      exact W.zret (ty := .boolean) hx hb hr (by decide +kernel) (fun t ht _ => ⟨_, rfl, hq, ht⟩) (fun _ h9 => nomatch h9) dX0_covers_25
    · skip
      replace c_17 : tt < (bN u np) := nleN c_17
      refine lv_iconst (v := nI 1) hx hb dX0_covers_20 (by decide +kernel) ?_
      refine lv_goto (tgt := 25) hx hb dX0_covers_21 (by decide) ?_
      have hq : nI 1 = bI (cvB u np tt) := by rw [show cvB u np tt = true from decide_eq_true (by omega)]; rfl
      exact W.zret (ty := .boolean) hx hb hr (by decide +kernel) (fun t ht _ => ⟨_, rfl, hq, ht⟩) (fun _ h9 => nomatch h9) dX0_covers_25
set_option maxHeartbeats 4000000 in
set_option maxRecDepth 100000 in
theorem c_X0_shadowOf (l : Launch) (D : va_G) (cI : ClassId) (h : Nat) (a : Nat → Nat) (u : MS) (on : Nat → Int32) (sk : Nat) (tt : Nat) (h4 : sk < 4) : Met l yX0_shadowOf wsX0_shadowOf ({ frames := 0, cells := 0, slots := 0, locals := 0 } : Room) (va_Pc [.ref h, .int (nI sk), .int (nI tt)] (fun U => va_P D vwCl (pic0 cI h a u on) U.heap ∧ va_K D vwCl [(cI, .int)] U)) (vp_Si (fun r => r = fShad u sk tt)) 0 0 (fun _ => False) := by
  refine en_pu (cc := cX0_shadowOf) (maxL := 3) (ret := (some .int)) _ _ (by decide) rfl (Nat.le_of_ble_eq_true rfl) ?_
  intro p e s m args below meth c ls hx hb hml hr hlocks hts hown hP hK hl
  have hown : s.vm.findClass RX0 = some m.cls := hown
  have hin : ∀ w ∈ wsX00, w ∈ wsX0_shadowOf := fun _ h9 => List.mem_cons_of_mem _ (List.mem_append_right _ h9)
  have hl : lv_has ls 3 [(0, .ref h), (1, .int (nI sk)), (2, .int (nI tt))] := hl
  refine lv_aload_n hx hb dX0_shadowOf_0 rfl (lv_at hl 0 rfl) ?_
  refine va_get (D := D) (ci := 0) (v := .ref (a 0)) (C := RX0) (T := TX0) (N := 17) hx hb hts hin hown hK hP 0 rfl rfl 0 (by decide) (hts (.fieldLink RX0 9 "AfternoonMeter" "heights" "[I") (List.mem_of_getElem? (i := 1) rfl)) (fun _ h9 => h9) rfl dX0_shadowOf_1 ?_
  refine lv_iload_n hx hb dX0_shadowOf_4 rfl (lv_at hl 1 rfl) ?_
  refine q_iald (v := (mHt u) sk) hx hb hK hP 1 0 rfl rfl (by omega) (by decide) (rfl) dX0_shadowOf_5 ?_
  refine lv_bipush (v := nI 60) hx hb dX0_shadowOf_6 (by decide +kernel) ?_
  refine lv_iload_n hx hb dX0_shadowOf_8 rfl (lv_at hl 2 rfl) ?_
  refine q_iaddN hx hb dX0_shadowOf_9 ?_
  refine lv_imul hx hb dX0_shadowOf_10 ?_
  refine lv_bipush (v := nI 120) hx hb dX0_shadowOf_11 (by decide +kernel) ?_
  refine lv_idiv hx hb dX0_shadowOf_13 (by decide +kernel) ?_
  have hq : (((mHt u) sk) * (nI (60 + tt))) / (nI 120) = fShad u sk tt := by rfl
  exact W.iret hx hb hr (fun t ht _ => ⟨_, rfl, hq, ht⟩) (fun _ h9 => nomatch h9) dX0_shadowOf_14
set_option maxHeartbeats 4000000 in
set_option maxRecDepth 100000 in
theorem c_X0_hasBeatIn (l : Launch) (D : va_G) (cI : ClassId) (h : Nat) (a : Nat → Nat) (u : MS) (on : Nat → Int32) (bb : Nat) (tt : Nat) (h6 : bb < 6) (hf1 : mPe u bb = nI (pN u bb)) (hf2 : mBe u bb = nI (qN u bb)) (hf3 : 2 ≤ pN u bb ∧ pN u bb ≤ 30) (hf4 : qN u bb < pN u bb) (ht : tt < 360) : Met l yX0_hasBeatIn wsX0_hasBeatIn ({ frames := 0, cells := 0, slots := 0, locals := 0 } : Room) (va_Pc [.ref h, .int (nI bb), .int (nI tt)] (fun U => va_P D vwCl (pic0 cI h a u on) U.heap ∧ va_K D vwCl [(cI, .int)] U)) (vp_Si (fun r => r = bI (htB u bb tt))) 0 0 (fun _ => False) := by
  refine en_pu (cc := cX0_hasBeatIn) (maxL := 4) (ret := (some .boolean)) _ _ (by decide) rfl (Nat.le_of_ble_eq_true rfl) ?_
  intro p e s m args below meth c ls hx hb hml hr hlocks hts hown hP hK hl
  have hown : s.vm.findClass RX0 = some m.cls := hown
  have hin : ∀ w ∈ wsX00, w ∈ wsX0_hasBeatIn := fun _ h9 => List.mem_cons_of_mem _ (List.mem_append_right _ h9)
  have hl : lv_has ls 4 [(0, .ref h), (1, .int (nI bb)), (2, .int (nI tt))] := hl
  have hm : tt % pN u bb < pN u bb := Nat.mod_lt tt (by omega)
  refine lv_aload_n hx hb dX0_hasBeatIn_0 rfl (lv_at hl 0 rfl) ?_
  refine va_get (D := D) (ci := 0) (v := .ref (a 4)) (C := RX0) (T := TX0) (N := 17) hx hb hts hin hown hK hP 0 rfl rfl 6 (by decide) (hts (.fieldLink RX0 22 "AfternoonMeter" "periods" "[I") (List.mem_of_getElem? (i := 1) rfl)) (fun _ h9 => h9) rfl dX0_hasBeatIn_1 ?_
  refine lv_iload_n hx hb dX0_hasBeatIn_4 rfl (lv_at hl 1 rfl) ?_
  refine q_iald (v := nI (pN u bb)) hx hb hK hP 5 0 rfl rfl (by omega) (by decide) (hf1) dX0_hasBeatIn_5 ?_
  refine lv_istore_n (lv' := [(3, .int (nI (pN u bb))), (0, .ref h), (1, .int (nI bb)), (2, .int (nI tt))]) hx hb dX0_hasBeatIn_6 rfl hl (by decide) rfl (fun ls hl => ?_)
  refine lv_iload_n hx hb dX0_hasBeatIn_7 rfl (lv_at hl 0 rfl) ?_
  refine lv_if_le (tgt := 27) hx hb dX0_hasBeatIn_8 (by decide) (fun c_8 => ?_) (fun c_8 => ?_)
  · skip
    replace c_8 : (pN u bb) ≤ 0 := leN c_8
    exact (by omega : False).elim
  · skip
    replace c_8 : 0 < (pN u bb) := nleN c_8
    refine lv_iload_n hx hb dX0_hasBeatIn_11 rfl (lv_at hl 3 rfl) ?_
    refine lv_iload_n hx hb dX0_hasBeatIn_12 rfl (lv_at hl 0 rfl) ?_
    refine q_iremN hx hb (by omega) (by omega) (by omega) dX0_hasBeatIn_13 ?_
    refine lv_aload_n hx hb dX0_hasBeatIn_14 rfl (lv_at hl 1 rfl) ?_
    refine va_get (D := D) (ci := 0) (v := .ref (a 5)) (C := RX0) (T := TX0) (N := 17) hx hb hts hin hown hK hP 0 rfl rfl 7 (by decide) (hts (.fieldLink RX0 25 "AfternoonMeter" "beats" "[I") (List.mem_of_getElem? (i := 2) rfl)) (fun _ h9 => h9) rfl dX0_hasBeatIn_15 ?_
    refine lv_iload_n hx hb dX0_hasBeatIn_18 rfl (lv_at hl 2 rfl) ?_
    refine q_iald (v := nI (qN u bb)) hx hb hK hP 6 0 rfl rfl (by omega) (by decide) (hf2) dX0_hasBeatIn_19 ?_
    refine lv_icmp_ne (tgt := 27) hx hb dX0_hasBeatIn_20 (by decide) (fun c_20 => ?_) (fun c_20 => ?_)
    · skip
      replace c_20 : (tt % (pN u bb)) ≠ (qN u bb) := neN c_20
      refine lv_iconst (v := nI 0) hx hb dX0_hasBeatIn_27 (by decide +kernel) ?_
      have hq : nI 0 = bI (htB u bb tt) := by rw [show htB u bb tt = false from decide_eq_false (by omega)]; rfl
      exact W.zret (ty := .boolean) hx hb hr (by decide +kernel) (fun t ht _ => ⟨_, rfl, hq, ht⟩) (fun _ h9 => nomatch h9) dX0_hasBeatIn_28
    · skip
      replace c_20 : (tt % (pN u bb)) = (qN u bb) := eN c_20
      refine lv_iconst (v := nI 1) hx hb dX0_hasBeatIn_23 (by decide +kernel) ?_
      refine lv_goto (tgt := 28) hx hb dX0_hasBeatIn_24 (by decide) ?_
      have hq : nI 1 = bI (htB u bb tt) := by rw [show htB u bb tt = true from decide_eq_true (by omega)]; rfl
      exact W.zret (ty := .boolean) hx hb hr (by decide +kernel) (fun t ht _ => ⟨_, rfl, hq, ht⟩) (fun _ h9 => nomatch h9) dX0_hasBeatIn_28
set_option maxHeartbeats 4000000 in
set_option maxRecDepth 100000 in
theorem c_X0_ticksIn (l : Launch) (D : va_G) (cI : ClassId) (h : Nat) (a : Nat → Nat) (u : MS) (on : Nat → Int32) (bb : Nat) (tt : Nat) (hI : Inv u) (hbb : bb < mBc u) (ht : tt < 360) : Met l yX0_ticksIn wsX0_ticksIn ({ frames := 1, cells := 0, slots := 0, locals := 23 } : Room) (va_Pc [.ref h, .int (nI bb), .int (nI tt)] (fun U => va_P D vwCl (pic0 cI h a u on) U.heap ∧ va_K D vwCl [(cI, .int)] U)) (vp_Si (fun r => r = bI (tkB u bb tt))) 0 0 (fun _ => False) := by
  refine en_pu (cc := cX0_ticksIn) (maxL := 3) (ret := (some .boolean)) _ _ (by decide) rfl (Nat.le_of_ble_eq_true rfl) ?_
  intro p e s m args below meth c ls hx hb hml hr hlocks hts hown hP hK hl
  have hown : s.vm.findClass RX0 = some m.cls := hown
  have hin : ∀ w ∈ wsX00, w ∈ wsX0_ticksIn := fun _ h9 => List.mem_cons_of_mem _ (List.mem_append_right _ h9)
  have hl : lv_has ls 3 [(0, .ref h), (1, .int (nI bb)), (2, .int (nI tt))] := hl
  obtain ⟨hIa, hIb, hIc, hId, hIe, hIf, hIg, hIh, hIi, hIj⟩ := id hI
  refine lv_aload_n hx hb dX0_ticksIn_0 rfl (lv_at hl 0 rfl) ?_
  refine va_get (D := D) (ci := 0) (v := .ref (a 3)) (C := RX0) (T := TX0) (N := 17) hx hb hts hin hown hK hP 0 rfl rfl 5 (by decide) (hts (.fieldLink RX0 19 "AfternoonMeter" "napsOver" "[I") (List.mem_of_getElem? (i := 1) rfl)) (fun _ h9 => h9) rfl dX0_ticksIn_1 ?_
  refine lv_iload_n hx hb dX0_ticksIn_4 rfl (lv_at hl 2 rfl) ?_
  refine q_iald (v := nI (cN u tt)) hx hb hK hP 4 0 rfl rfl (by omega) (by decide) (hIh tt (by omega)) dX0_ticksIn_5 ?_
  have hcn := cN_le u tt
  refine lv_if_ne (tgt := 22) hx hb dX0_ticksIn_6 (by decide) (fun c_6 => ?_) (fun c_6 => ?_)
  · skip
    replace c_6 : (cN u tt) ≠ 0 := neN c_6
    refine lv_iconst (v := nI 0) hx hb dX0_ticksIn_22 (by decide +kernel) ?_
    have hq : nI 0 = bI (tkB u bb tt) := by rw [show tkB u bb tt = false from decide_eq_false (fun z => c_6 z.1)]; rfl
    exact W.zret (ty := .boolean) hx hb hr (by decide +kernel) (fun t ht _ => ⟨_, rfl, hq, ht⟩) (fun _ h9 => nomatch h9) dX0_ticksIn_23
  · skip
    replace c_6 : (cN u tt) = 0 := eN c_6
    refine lv_aload_n hx hb dX0_ticksIn_9 rfl (lv_at hl 0 rfl) ?_
    refine lv_iload_n hx hb dX0_ticksIn_10 rfl (lv_at hl 1 rfl) ?_
    refine lv_iload_n hx hb dX0_ticksIn_11 rfl (lv_at hl 2 rfl) ?_
    refine vp_callSi (W.runV (As := [.int (nI bb), .int (nI tt)]) (rest := []) ⟨hx, hb, hml, hown, hts⟩ (c_X0_hasBeatIn l D cI h a u on bb tt (by omega) (hIf bb (by omega)).1 (hIf bb (by omega)).2.1 (by obtain ⟨_, _, g1, g2, _⟩ := hIf bb (by omega); exact ⟨g1, g2⟩) (hIf bb (by omega)).2.2.2.2 (by omega)) (cwV 2 hts gX0_ticksIn_X0_hasBeatIn rfl rfl rfl (by decide +kernel) ⟨Nat.le_of_ble_eq_true rfl, Nat.le_of_ble_eq_true rfl⟩) (pu_pre hK hP rfl rfl) rfl rfl hl.1 rfl (lv_room (Nat.le_of_ble_eq_true rfl)) dX0_ticksIn_12 ⟨Nat.le_of_ble_eq_true rfl, Nat.le_of_ble_eq_true rfl⟩) (fun r hr => ?_)
    subst hr
    refine lv_if_eq (tgt := 22) hx hb dX0_ticksIn_15 (by decide) (fun c_15 => ?_) (fun c_15 => ?_)
    · skip
      replace c_15 : (htB u bb tt) = false := bI_eq0 c_15
      refine lv_iconst (v := nI 0) hx hb dX0_ticksIn_22 (by decide +kernel) ?_
      have hq : nI 0 = bI (tkB u bb tt) := by rw [show tkB u bb tt = false from decide_eq_false (fun z => of_decide_eq_false c_15 z.2)]; rfl
      exact W.zret (ty := .boolean) hx hb hr (by decide +kernel) (fun t ht _ => ⟨_, rfl, hq, ht⟩) (fun _ h9 => nomatch h9) dX0_ticksIn_23
    · skip
      replace c_15 : (htB u bb tt) = true := bI_ne0 c_15
      refine lv_iconst (v := nI 1) hx hb dX0_ticksIn_18 (by decide +kernel) ?_
      refine lv_goto (tgt := 23) hx hb dX0_ticksIn_19 (by decide) ?_
      have hq : nI 1 = bI (tkB u bb tt) := by rw [show tkB u bb tt = true from decide_eq_true (⟨c_6, of_decide_eq_true c_15⟩)]; rfl
      exact W.zret (ty := .boolean) hx hb hr (by decide +kernel) (fun t ht _ => ⟨_, rfl, hq, ht⟩) (fun _ h9 => nomatch h9) dX0_ticksIn_23
set_option maxHeartbeats 4000000 in
set_option maxRecDepth 100000 in
theorem c_X0_countTicks (l : Launch) (D : va_G) (cI : ClassId) (h : Nat) (a : Nat → Nat) (u : MS) (on : Nat → Int32) (bb : Nat) (hI : Inv u) (hbb : bb < mBc u) : Met l yX0_countTicks wsX0_countTicks ({ frames := 2, cells := 0, slots := 0, locals := 45 } : Room) (va_Pc [.ref h, .int (nI bb)] (fun U => va_P D vwCl (pic0 cI h a u on) U.heap ∧ va_K D vwCl [(cI, .int)] U)) (vp_Si (fun r => r = fTk u bb)) 0 0 (fun _ => False) := by
  refine en_pu (cc := cX0_countTicks) (maxL := 4) (ret := (some .int)) _ _ (by decide) rfl (Nat.le_of_ble_eq_true rfl) ?_
  intro p e s m args below meth c ls hx hb hml hr hlocks hts hown hP hK hl
  have hown : s.vm.findClass RX0 = some m.cls := hown
  have hin : ∀ w ∈ wsX00, w ∈ wsX0_countTicks := fun _ h9 => List.mem_cons_of_mem _ (List.mem_append_right _ h9)
  have hl : lv_has ls 4 [(0, .ref h), (1, .int (nI bb))] := hl
  obtain ⟨hIa, hIb, hIc, hId, hIe, hIf, hIg, hIh, hIi, hIj⟩ := id hI
  refine lv_iconst (v := nI 0) hx hb dX0_countTicks_0 (by decide +kernel) ?_
  refine lv_istore_n (lv' := [(2, .int (nI 0)), (0, .ref h), (1, .int (nI bb))]) hx hb dX0_countTicks_1 rfl hl (by decide) rfl (fun ls hl => ?_)
  refine lv_iconst (v := nI 0) hx hb dX0_countTicks_2 (by decide +kernel) ?_
  refine lv_istore_n (lv' := [(3, .int (nI 0)), (2, .int (nI 0)), (0, .ref h), (1, .int (nI bb))]) hx hb dX0_countTicks_3 rfl hl (by decide) rfl (fun ls hl => ?_)
  have lp4 : ∀ (n k : Nat), k + n = mNow u → ∀ (X : Int32), X = fz (tkF u bb) k (nI 0) → ∀ (ls : Array Slot), lv_has ls 4 [(0, .ref h), (1, .int (nI bb)), (2, .int X), (3, .int (nI k))] → W p l e ({ frames := 2, cells := 0, slots := 0, locals := 45 } : Room) s m args below meth c s.heap [] 0 0 (MQ below (vp_Si (fun r => r = fTk u bb)) args s 0 0 (fun _ => False)) (F0 m 4 ls []) := by
    intro n
    induction n with
    | zero =>
      intro k hk X eX ls hl
      have ek : k = mNow u := by omega
      refine lv_iload_n hx hb dX0_countTicks_4 rfl (lv_at hl 3 rfl) ?_
      refine lv_aload_n hx hb dX0_countTicks_5 rfl (lv_at hl 0 rfl) ?_
      refine va_get (D := D) (ci := 0) (v := .int (nI (mNow u))) (C := RX0) (T := TX0) (N := 17) hx hb hts hin hown hK hP 0 rfl rfl 15 (by decide) (hts (.fieldLink RX0 97 "AfternoonMeter" "now" "I") (List.mem_of_getElem? (i := 1) rfl)) (fun _ h9 => h9) rfl dX0_countTicks_6 ?_
      refine lv_icmp_ge (tgt := 30) hx hb dX0_countTicks_9 (by decide) (fun c_9 => ?_) (fun c_9 => ?_)
      · skip
        replace c_9 : (mNow u) ≤ k := leN c_9
        refine lv_iload_n hx hb dX0_countTicks_30 rfl (lv_at hl 2 rfl) ?_
        have hq : X = fTk u bb := by rw [eX, ek]; rfl
        exact W.iret hx hb hr (fun t ht _ => ⟨_, rfl, hq, ht⟩) (fun _ h9 => nomatch h9) dX0_countTicks_31
      · skip
        replace c_9 : k < (mNow u) := nleN c_9
        exact (by omega : False).elim
    | succ n ih =>
      intro k hk X eX ls hl
      refine lv_iload_n hx hb dX0_countTicks_4 rfl (lv_at hl 3 rfl) ?_
      refine lv_aload_n hx hb dX0_countTicks_5 rfl (lv_at hl 0 rfl) ?_
      refine va_get (D := D) (ci := 0) (v := .int (nI (mNow u))) (C := RX0) (T := TX0) (N := 17) hx hb hts hin hown hK hP 0 rfl rfl 15 (by decide) (hts (.fieldLink RX0 97 "AfternoonMeter" "now" "I") (List.mem_of_getElem? (i := 1) rfl)) (fun _ h9 => h9) rfl dX0_countTicks_6 ?_
      refine lv_icmp_ge (tgt := 30) hx hb dX0_countTicks_9 (by decide) (fun c_9 => ?_) (fun c_9 => ?_)
      · skip
        replace c_9 : (mNow u) ≤ k := leN c_9
        exact (by omega : False).elim
      · skip
        replace c_9 : k < (mNow u) := nleN c_9
        refine lv_aload_n hx hb dX0_countTicks_12 rfl (lv_at hl 0 rfl) ?_
        refine lv_iload_n hx hb dX0_countTicks_13 rfl (lv_at hl 1 rfl) ?_
        refine lv_iload_n hx hb dX0_countTicks_14 rfl (lv_at hl 3 rfl) ?_
        refine vp_callSi (W.runV (As := [.int (nI bb), .int (nI k)]) (rest := []) ⟨hx, hb, hml, hown, hts⟩ (c_X0_ticksIn l D cI h a u on bb k hI (by omega) (by omega)) (cwV 2 hts gX0_countTicks_X0_ticksIn rfl rfl rfl (by decide +kernel) ⟨Nat.le_of_ble_eq_true rfl, Nat.le_of_ble_eq_true rfl⟩) (pu_pre hK hP rfl rfl) rfl rfl hl.1 rfl (lv_room (Nat.le_of_ble_eq_true rfl)) dX0_countTicks_15 ⟨Nat.le_of_ble_eq_true rfl, Nat.le_of_ble_eq_true rfl⟩) (fun r hr => ?_)
        subst hr
        refine lv_if_eq (tgt := 24) hx hb dX0_countTicks_18 (by decide) (fun c_18 => ?_) (fun c_18 => ?_)
        · skip
          replace c_18 : (tkB u bb k) = false := bI_eq0 c_18
          refine lv_iinc (v := nI (k + 1)) (lv' := [(3, .int (nI (k + 1))), (0, .ref h), (1, .int (nI bb)), (2, .int X)]) hx hb dX0_countTicks_24 hl (k := 3) rfl (nI_i1 _) (by decide) rfl (fun ls hl => ?_)
          refine lv_goto (tgt := 4) hx hb dX0_countTicks_27 (by decide) ?_
          exact ih (k + 1) (by omega) X (by subst eX; simp [fz, tkF, nI1, c_18]) _ (lv_sub hl [1, 2, 3, 0] rfl)
        · skip
          replace c_18 : (tkB u bb k) = true := bI_ne0 c_18
          refine lv_iinc (v := X + 1) (lv' := [(2, .int (X + 1)), (0, .ref h), (1, .int (nI bb)), (3, .int (nI k))]) hx hb dX0_countTicks_21 hl (k := 2) rfl (rfl) (by decide) rfl (fun ls hl => ?_)
          refine lv_iinc (v := nI (k + 1)) (lv' := [(3, .int (nI (k + 1))), (2, .int (X + 1)), (0, .ref h), (1, .int (nI bb))]) hx hb dX0_countTicks_24 hl (k := 3) rfl (nI_i1 _) (by decide) rfl (fun ls hl => ?_)
          refine lv_goto (tgt := 4) hx hb dX0_countTicks_27 (by decide) ?_
          exact ih (k + 1) (by omega) (X + 1) (by subst eX; simp [fz, tkF, nI1, c_18]) _ (lv_sub hl [2, 3, 1, 0] rfl)
  exact lp4 _ 0 (Nat.zero_add _) (nI 0) (by rfl) _ (lv_sub hl [2, 3, 1, 0] rfl)
set_option maxHeartbeats 4000000 in
set_option maxRecDepth 100000 in
theorem c_X0_countAlone (l : Launch) (D : va_G) (cI : ClassId) (h : Nat) (a : Nat → Nat) (u : MS) (on : Nat → Int32) (np : Nat) (hI : Inv u) (hnp : np < mNc u) : Met l yX0_countAlone wsX0_countAlone ({ frames := 1, cells := 0, slots := 0, locals := 22 } : Room) (va_Pc [.ref h, .int (nI np)] (fun U => va_P D vwCl (pic0 cI h a u on) U.heap ∧ va_K D vwCl [(cI, .int)] U)) (vp_Si (fun r => r = fAl u np)) 0 0 (fun _ => False) := by
  refine en_pu (cc := cX0_countAlone) (maxL := 4) (ret := (some .int)) _ _ (by decide) rfl (Nat.le_of_ble_eq_true rfl) ?_
  intro p e s m args below meth c ls hx hb hml hr hlocks hts hown hP hK hl
  have hown : s.vm.findClass RX0 = some m.cls := hown
  have hin : ∀ w ∈ wsX00, w ∈ wsX0_countAlone := fun _ h9 => List.mem_cons_of_mem _ (List.mem_append_right _ h9)
  have hl : lv_has ls 4 [(0, .ref h), (1, .int (nI np))] := hl
  obtain ⟨hIa, hIb, hIc, hId, hIe, hIf, hIg, hIh, hIi, hIj⟩ := id hI
  obtain ⟨_, _, _, _⟩ := hIg np hnp
  refine lv_iconst (v := nI 0) hx hb dX0_countAlone_0 (by decide +kernel) ?_
  refine lv_istore_n (lv' := [(2, .int (nI 0)), (0, .ref h), (1, .int (nI np))]) hx hb dX0_countAlone_1 rfl hl (by decide) rfl (fun ls hl => ?_)
  refine lv_iconst (v := nI 0) hx hb dX0_countAlone_2 (by decide +kernel) ?_
  refine lv_istore_n (lv' := [(3, .int (nI 0)), (2, .int (nI 0)), (0, .ref h), (1, .int (nI np))]) hx hb dX0_countAlone_3 rfl hl (by decide) rfl (fun ls hl => ?_)
  have lp4 : ∀ (n k : Nat), k + n = 360 → ∀ (X : Int32), X = fz (alF u np) k (nI 0) → ∀ (ls : Array Slot), lv_has ls 4 [(0, .ref h), (1, .int (nI np)), (2, .int X), (3, .int (nI k))] → W p l e ({ frames := 1, cells := 0, slots := 0, locals := 22 } : Room) s m args below meth c s.heap [] 0 0 (MQ below (vp_Si (fun r => r = fAl u np)) args s 0 0 (fun _ => False)) (F0 m 4 ls []) := by
    intro n
    induction n with
    | zero =>
      intro k hk X eX ls hl
      have ek : k = 360 := by omega
      refine lv_iload_n hx hb dX0_countAlone_4 rfl (lv_at hl 3 rfl) ?_
      refine lv_sipush (v := nI 360) hx hb dX0_countAlone_5 (by decide +kernel) ?_
      refine lv_icmp_ge (tgt := 39) hx hb dX0_countAlone_8 (by decide) (fun c_8 => ?_) (fun c_8 => ?_)
      · skip
        replace c_8 : 360 ≤ k := leN c_8
        refine lv_iload_n hx hb dX0_countAlone_39 rfl (lv_at hl 2 rfl) ?_
        have hq : X = fAl u np := by rw [eX, ek]; rfl
        exact W.iret hx hb hr (fun t ht _ => ⟨_, rfl, hq, ht⟩) (fun _ h9 => nomatch h9) dX0_countAlone_40
      · skip
        replace c_8 : k < 360 := nleN c_8
        exact (by omega : False).elim
    | succ n ih =>
      intro k hk X eX ls hl
      refine lv_iload_n hx hb dX0_countAlone_4 rfl (lv_at hl 3 rfl) ?_
      refine lv_sipush (v := nI 360) hx hb dX0_countAlone_5 (by decide +kernel) ?_
      refine lv_icmp_ge (tgt := 39) hx hb dX0_countAlone_8 (by decide) (fun c_8 => ?_) (fun c_8 => ?_)
      · skip
        replace c_8 : 360 ≤ k := leN c_8
        exact (by omega : False).elim
      · skip
        replace c_8 : k < 360 := nleN c_8
        refine lv_aload_n hx hb dX0_countAlone_11 rfl (lv_at hl 0 rfl) ?_
        refine va_get (D := D) (ci := 0) (v := .ref (a 3)) (C := RX0) (T := TX0) (N := 17) hx hb hts hin hown hK hP 0 rfl rfl 5 (by decide) (hts (.fieldLink RX0 19 "AfternoonMeter" "napsOver" "[I") (List.mem_of_getElem? (i := 1) rfl)) (fun _ h9 => h9) rfl dX0_countAlone_12 ?_
        refine lv_iload_n hx hb dX0_countAlone_15 rfl (lv_at hl 3 rfl) ?_
        refine q_iald (v := nI (cN u k)) hx hb hK hP 4 0 rfl rfl (by omega) (by decide) (hIh k (by omega)) dX0_countAlone_16 ?_
        have hcn := cN_le u k
        refine lv_iconst (v := nI 1) hx hb dX0_countAlone_17 (by decide +kernel) ?_
        refine lv_icmp_ne (tgt := 33) hx hb dX0_countAlone_18 (by decide) (fun c_18 => ?_) (fun c_18 => ?_)
        · skip
          replace c_18 : (cN u k) ≠ 1 := neN c_18
          refine lv_iinc (v := nI (k + 1)) (lv' := [(3, .int (nI (k + 1))), (0, .ref h), (1, .int (nI np)), (2, .int X)]) hx hb dX0_countAlone_33 hl (k := 3) rfl (nI_i1 _) (by decide) rfl (fun ls hl => ?_)
          refine lv_goto (tgt := 4) hx hb dX0_countAlone_36 (by decide) ?_
          exact ih (k + 1) (by omega) X (by subst eX; simp [fz, alF, nI1, c_18]) _ (lv_sub hl [1, 2, 3, 0] rfl)
        · skip
          replace c_18 : (cN u k) = 1 := eN c_18
          refine lv_aload_n hx hb dX0_countAlone_21 rfl (lv_at hl 0 rfl) ?_
          refine lv_iload_n hx hb dX0_countAlone_22 rfl (lv_at hl 1 rfl) ?_
          refine lv_iload_n hx hb dX0_countAlone_23 rfl (lv_at hl 3 rfl) ?_
          refine vp_callSi (W.runV (As := [.int (nI np), .int (nI k)]) (rest := []) ⟨hx, hb, hml, hown, hts⟩ (c_X0_covers l D cI h a u on np k (by omega) (hIg np (by omega)).1 (hIg np (by omega)).2.1 (by omega) (by omega) (by omega)) (cwV 2 hts gX0_countAlone_X0_covers rfl rfl rfl (by decide +kernel) ⟨Nat.le_of_ble_eq_true rfl, Nat.le_of_ble_eq_true rfl⟩) (pu_pre hK hP rfl rfl) rfl rfl hl.1 rfl (lv_room (Nat.le_of_ble_eq_true rfl)) dX0_countAlone_24 ⟨Nat.le_of_ble_eq_true rfl, Nat.le_of_ble_eq_true rfl⟩) (fun r hr => ?_)
          subst hr
          refine lv_if_eq (tgt := 33) hx hb dX0_countAlone_27 (by decide) (fun c_27 => ?_) (fun c_27 => ?_)
          · skip
            replace c_27 : (cvB u np k) = false := bI_eq0 c_27
            refine lv_iinc (v := nI (k + 1)) (lv' := [(3, .int (nI (k + 1))), (0, .ref h), (1, .int (nI np)), (2, .int X)]) hx hb dX0_countAlone_33 hl (k := 3) rfl (nI_i1 _) (by decide) rfl (fun ls hl => ?_)
            refine lv_goto (tgt := 4) hx hb dX0_countAlone_36 (by decide) ?_
            exact ih (k + 1) (by omega) X (by subst eX; simp [fz, alF, nI1, c_18, c_27]) _ (lv_sub hl [1, 2, 3, 0] rfl)
          · skip
            replace c_27 : (cvB u np k) = true := bI_ne0 c_27
            refine lv_iinc (v := X + 1) (lv' := [(2, .int (X + 1)), (0, .ref h), (1, .int (nI np)), (3, .int (nI k))]) hx hb dX0_countAlone_30 hl (k := 2) rfl (rfl) (by decide) rfl (fun ls hl => ?_)
            refine lv_iinc (v := nI (k + 1)) (lv' := [(3, .int (nI (k + 1))), (2, .int (X + 1)), (0, .ref h), (1, .int (nI np))]) hx hb dX0_countAlone_33 hl (k := 3) rfl (nI_i1 _) (by decide) rfl (fun ls hl => ?_)
            refine lv_goto (tgt := 4) hx hb dX0_countAlone_36 (by decide) ?_
            exact ih (k + 1) (by omega) (X + 1) (by subst eX; simp [fz, alF, nI1, c_18, c_27]) _ (lv_sub hl [2, 3, 1, 0] rfl)
  exact lp4 _ 0 (Nat.zero_add _) (nI 0) (by rfl) _ (lv_sub hl [2, 3, 1, 0] rfl)
set_option maxHeartbeats 4000000 in
set_option maxRecDepth 100000 in
theorem c_X0_sumOfShadows (l : Launch) (D : va_G) (cI : ClassId) (h : Nat) (a : Nat → Nat) (u : MS) (on : Nat → Int32) (tt : Nat) (hI : Inv u) : Met l yX0_sumOfShadows wsX0_sumOfShadows ({ frames := 1, cells := 0, slots := 0, locals := 22 } : Room) (va_Pc [.ref h, .int (nI tt)] (fun U => va_P D vwCl (pic0 cI h a u on) U.heap ∧ va_K D vwCl [(cI, .int)] U)) (vp_Si (fun r => r = fSum u tt)) 0 0 (fun _ => False) := by
  refine en_pu (cc := cX0_sumOfShadows) (maxL := 4) (ret := (some .int)) _ _ (by decide) rfl (Nat.le_of_ble_eq_true rfl) ?_
  intro p e s m args below meth c ls hx hb hml hr hlocks hts hown hP hK hl
  have hown : s.vm.findClass RX0 = some m.cls := hown
  have hin : ∀ w ∈ wsX00, w ∈ wsX0_sumOfShadows := fun _ h9 => List.mem_cons_of_mem _ (List.mem_append_right _ h9)
  have hl : lv_has ls 4 [(0, .ref h), (1, .int (nI tt))] := hl
  obtain ⟨hIa, hIb, hIc, hId, hIe, hIf, hIg, hIh, hIi, hIj⟩ := id hI
  refine lv_iconst (v := nI 0) hx hb dX0_sumOfShadows_0 (by decide +kernel) ?_
  refine lv_istore_n (lv' := [(2, .int (nI 0)), (0, .ref h), (1, .int (nI tt))]) hx hb dX0_sumOfShadows_1 rfl hl (by decide) rfl (fun ls hl => ?_)
  refine lv_iconst (v := nI 0) hx hb dX0_sumOfShadows_2 (by decide +kernel) ?_
  refine lv_istore_n (lv' := [(3, .int (nI 0)), (2, .int (nI 0)), (0, .ref h), (1, .int (nI tt))]) hx hb dX0_sumOfShadows_3 rfl hl (by decide) rfl (fun ls hl => ?_)
  have lp4 : ∀ (n k : Nat), k + n = mSc u → ∀ (X : Int32), X = fz (shF u tt) k (nI 0) → ∀ (ls : Array Slot), lv_has ls 4 [(0, .ref h), (1, .int (nI tt)), (2, .int X), (3, .int (nI k))] → W p l e ({ frames := 1, cells := 0, slots := 0, locals := 22 } : Room) s m args below meth c s.heap [] 0 0 (MQ below (vp_Si (fun r => r = fSum u tt)) args s 0 0 (fun _ => False)) (F0 m 4 ls []) := by
    intro n
    induction n with
    | zero =>
      intro k hk X eX ls hl
      have ek : k = mSc u := by omega
      refine lv_iload_n hx hb dX0_sumOfShadows_4 rfl (lv_at hl 3 rfl) ?_
      refine lv_aload_n hx hb dX0_sumOfShadows_5 rfl (lv_at hl 0 rfl) ?_
      refine va_get (D := D) (ci := 0) (v := .int (nI (mSc u))) (C := RX0) (T := TX0) (N := 17) hx hb hts hin hown hK hP 0 rfl rfl 1 (by decide) (hts (.fieldLink RX0 48 "AfternoonMeter" "stickCount" "I") (List.mem_of_getElem? (i := 1) rfl)) (fun _ h9 => h9) rfl dX0_sumOfShadows_6 ?_
      refine lv_icmp_ge (tgt := 27) hx hb dX0_sumOfShadows_9 (by decide) (fun c_9 => ?_) (fun c_9 => ?_)
      · skip
        replace c_9 : (mSc u) ≤ k := leN c_9
        refine lv_iload_n hx hb dX0_sumOfShadows_27 rfl (lv_at hl 2 rfl) ?_
        have hq : X = fSum u tt := by rw [eX, ek]; rfl
        exact W.iret hx hb hr (fun t ht _ => ⟨_, rfl, hq, ht⟩) (fun _ h9 => nomatch h9) dX0_sumOfShadows_28
      · skip
        replace c_9 : k < (mSc u) := nleN c_9
        exact (by omega : False).elim
    | succ n ih =>
      intro k hk X eX ls hl
      refine lv_iload_n hx hb dX0_sumOfShadows_4 rfl (lv_at hl 3 rfl) ?_
      refine lv_aload_n hx hb dX0_sumOfShadows_5 rfl (lv_at hl 0 rfl) ?_
      refine va_get (D := D) (ci := 0) (v := .int (nI (mSc u))) (C := RX0) (T := TX0) (N := 17) hx hb hts hin hown hK hP 0 rfl rfl 1 (by decide) (hts (.fieldLink RX0 48 "AfternoonMeter" "stickCount" "I") (List.mem_of_getElem? (i := 1) rfl)) (fun _ h9 => h9) rfl dX0_sumOfShadows_6 ?_
      refine lv_icmp_ge (tgt := 27) hx hb dX0_sumOfShadows_9 (by decide) (fun c_9 => ?_) (fun c_9 => ?_)
      · skip
        replace c_9 : (mSc u) ≤ k := leN c_9
        exact (by omega : False).elim
      · skip
        replace c_9 : k < (mSc u) := nleN c_9
        refine lv_iload_n hx hb dX0_sumOfShadows_12 rfl (lv_at hl 2 rfl) ?_
        refine lv_aload_n hx hb dX0_sumOfShadows_13 rfl (lv_at hl 0 rfl) ?_
        refine lv_iload_n hx hb dX0_sumOfShadows_14 rfl (lv_at hl 3 rfl) ?_
        refine lv_iload_n hx hb dX0_sumOfShadows_15 rfl (lv_at hl 1 rfl) ?_
        refine vp_callSi (W.runV (As := [.int (nI k), .int (nI tt)]) (rest := [.int X]) ⟨hx, hb, hml, hown, hts⟩ (c_X0_shadowOf l D cI h a u on k tt (by omega)) (cwV 2 hts gX0_sumOfShadows_X0_shadowOf rfl rfl rfl (by decide +kernel) ⟨Nat.le_of_ble_eq_true rfl, Nat.le_of_ble_eq_true rfl⟩) (pu_pre hK hP rfl rfl) rfl rfl hl.1 rfl (lv_room (Nat.le_of_ble_eq_true rfl)) dX0_sumOfShadows_16 ⟨Nat.le_of_ble_eq_true rfl, Nat.le_of_ble_eq_true rfl⟩) (fun r hr => ?_)
        subst hr
        refine lv_iadd hx hb dX0_sumOfShadows_19 ?_
        refine lv_istore_n (lv' := [(2, .int (X + (fShad u k tt))), (0, .ref h), (1, .int (nI tt)), (3, .int (nI k))]) hx hb dX0_sumOfShadows_20 rfl hl (by decide) rfl (fun ls hl => ?_)
        refine lv_iinc (v := nI (k + 1)) (lv' := [(3, .int (nI (k + 1))), (2, .int (X + (fShad u k tt))), (0, .ref h), (1, .int (nI tt))]) hx hb dX0_sumOfShadows_21 hl (k := 3) rfl (nI_i1 _) (by decide) rfl (fun ls hl => ?_)
        refine lv_goto (tgt := 4) hx hb dX0_sumOfShadows_24 (by decide) ?_
        exact ih (k + 1) (by omega) (X + (fShad u k tt)) (by subst eX; rfl) _ (lv_sub hl [2, 3, 1, 0] rfl)
  exact lp4 _ 0 (Nat.zero_add _) (nI 0) (by rfl) _ (lv_sub hl [2, 3, 1, 0] rfl)
set_option maxHeartbeats 4000000 in
set_option maxRecDepth 100000 in
theorem c_X0_contentAfter (l : Launch) (D : va_G) (cI : ClassId) (h : Nat) (a : Nat → Nat) (u : MS) (on : Nat → Int32) (tt : Nat) (cc0 : Nat) (rr : Nat) (hI : Inv u) (hO : InvO u on) (ht : tt < 360) (hc9 : cc0 ≤ 1000) (hr9 : rr ≤ 9) : Met l yX0_contentAfter wsX0_contentAfter ({ frames := 1, cells := 0, slots := 0, locals := 13 } : Room) (va_Pc [.ref h, .int (nI tt), .int (nI cc0), .int (nI rr)] (fun U => va_P D vwCl (pic0 cI h a u on) U.heap ∧ va_K D vwCl [(cI, .int)] U)) (vp_Si (fun r => r = nI (cAf u tt cc0 rr))) 0 0 (fun _ => False) := by
  refine en_pu (cc := cX0_contentAfter) (maxL := 4) (ret := (some .int)) _ _ (by decide) rfl (Nat.le_of_ble_eq_true rfl) ?_
  intro p e s m args below meth c ls hx hb hml hr hlocks hts hown hP hK hl
  have hown : s.vm.findClass RX0 = some m.cls := hown
  have hin : ∀ w ∈ wsX00, w ∈ wsX0_contentAfter := fun _ h9 => List.mem_cons_of_mem _ (List.mem_append_right _ h9)
  have hl : lv_has ls 4 [(0, .ref h), (1, .int (nI tt)), (2, .int (nI cc0)), (3, .int (nI rr))] := hl
  obtain ⟨hIa, hIb, hIc, hId, hIe, hIf, hIg, hIh, hIi, hIj⟩ := id hI
  have hm : mSip u * oN u tt ≤ 9 * 6 := Nat.mul_le_mul (by omega) (Nat.le_trans (oN_le u tt) hIc)
  refine lv_aload_n hx hb dX0_contentAfter_0 rfl (lv_at hl 0 rfl) ?_
  refine va_get (D := D) (ci := 0) (v := .ref (a 3)) (C := RX0) (T := TX0) (N := 17) hx hb hts hin hown hK hP 0 rfl rfl 5 (by decide) (hts (.fieldLink RX0 19 "AfternoonMeter" "napsOver" "[I") (List.mem_of_getElem? (i := 1) rfl)) (fun _ h9 => h9) rfl dX0_contentAfter_1 ?_
  refine lv_iload_n hx hb dX0_contentAfter_4 rfl (lv_at hl 1 rfl) ?_
  refine q_iald (v := nI (cN u tt)) hx hb hK hP 4 0 rfl rfl (by omega) (by decide) (hIh tt (by omega)) dX0_contentAfter_5 ?_
  have hcn := cN_le u tt
  refine lv_if_le (tgt := 11) hx hb dX0_contentAfter_6 (by decide) (fun c_6 => ?_) (fun c_6 => ?_)
  · skip
    replace c_6 : (cN u tt) ≤ 0 := leN c_6
    refine lv_iconst (v := nI 0) hx hb dX0_contentAfter_11 (by decide +kernel) ?_
    refine lv_iload_n hx hb dX0_contentAfter_12 rfl (lv_at hl 2 rfl) ?_
    refine lv_iload_n hx hb dX0_contentAfter_13 rfl (lv_at hl 3 rfl) ?_
    refine q_iaddN hx hb dX0_contentAfter_14 ?_
    refine lv_aload_n hx hb dX0_contentAfter_15 rfl (lv_at hl 0 rfl) ?_
    refine va_get (D := D) (ci := 0) (v := .int (nI (mSip u))) (C := RX0) (T := TX0) (N := 17) hx hb hts hin hown hK hP 0 rfl rfl 12 (by decide) (hts (.fieldLink RX0 38 "AfternoonMeter" "sip" "I") (List.mem_of_getElem? (i := 2) rfl)) (fun _ h9 => h9) rfl dX0_contentAfter_16 ?_
    refine lv_aload_n hx hb dX0_contentAfter_19 rfl (lv_at hl 0 rfl) ?_
    refine va_get (D := D) (ci := 0) (v := .ref (a 6)) (C := RX0) (T := TX0) (N := 17) hx hb hts hin hown hK hP 0 rfl rfl 9 (by decide) (hts (.fieldLink RX0 28 "AfternoonMeter" "beesOn" "[I") (List.mem_of_getElem? (i := 3) rfl)) (fun _ h9 => h9) rfl dX0_contentAfter_20 ?_
    refine lv_iload_n hx hb dX0_contentAfter_23 rfl (lv_at hl 1 rfl) ?_
    refine q_iald (v := nI (oN u tt)) hx hb hK hP 7 0 rfl rfl (by omega) (by decide) (hO tt (by omega)) dX0_contentAfter_24 ?_
    have hon := oN_le u tt
    refine q_imulN hx hb dX0_contentAfter_25 ?_
    refine lv_isub hx hb dX0_contentAfter_26 ?_
    refine va_mmax hx hb (hml.trans hl.1.symm) hown (hts (.methodLink RX0 119 Lib.Math.max.name) (List.mem_of_getElem? (i := 4) rfl)) (hts (.static Lib.Math.max.name) (List.mem_of_getElem? (i := 5) rfl)) (hts (.initialized "java/lang/Math") (List.mem_of_getElem? (i := 6) rfl)) (hts _ (List.mem_of_getElem? (i := 7) rfl)) (Nat.le_of_ble_eq_true rfl) (Nat.le_of_ble_eq_true rfl) (Nat.le_of_ble_eq_true rfl) (Nat.le_of_ble_eq_true rfl) dX0_contentAfter_27 ?_
    rw [show (if nI 0 < (nI (cc0 + rr)) - (nI ((mSip u) * (oN u tt))) then (nI (cc0 + rr)) - (nI ((mSip u) * (oN u tt))) else nI 0) = nI (cAf u tt cc0 rr) from (mx0 (by omega) (by omega)).trans (congrArg nI (if_pos (by omega) : cAf u tt cc0 rr = cc0 + rr - mSip u * oN u tt).symm)]
    have hq : nI (cAf u tt cc0 rr) = nI (cAf u tt cc0 rr) := by rfl
    exact W.iret hx hb hr (fun t ht _ => ⟨_, rfl, hq, ht⟩) (fun _ h9 => nomatch h9) dX0_contentAfter_30
  · skip
    replace c_6 : 0 < (cN u tt) := nleN c_6
    refine lv_iload_n hx hb dX0_contentAfter_9 rfl (lv_at hl 2 rfl) ?_
    have hq : nI cc0 = nI (cAf u tt cc0 rr) := by rw [show cAf u tt cc0 rr = cc0 from if_neg (by omega)]
    exact W.iret hx hb hr (fun t ht _ => ⟨_, rfl, hq, ht⟩) (fun _ h9 => nomatch h9) dX0_contentAfter_10
set_option maxHeartbeats 4000000 in
set_option maxRecDepth 100000 in
theorem c_X0_excess (l : Launch) (D : va_G) (cI : ClassId) (h : Nat) (a : Nat → Nat) (u : MS) (on : Nat → Int32) (cc0 : Nat) (hI : Inv u) (hc9 : cc0 ≤ 1000) : Met l yX0_excess wsX0_excess ({ frames := 1, cells := 0, slots := 0, locals := 13 } : Room) (va_Pc [.ref h, .int (nI cc0)] (fun U => va_P D vwCl (pic0 cI h a u on) U.heap ∧ va_K D vwCl [(cI, .int)] U)) (vp_Si (fun r => r = nI (cc0 - mRoom u))) 0 0 (fun _ => False) := by
  refine en_pu (cc := cX0_excess) (maxL := 2) (ret := (some .int)) _ _ (by decide) rfl (Nat.le_of_ble_eq_true rfl) ?_
  intro p e s m args below meth c ls hx hb hml hr hlocks hts hown hP hK hl
  have hown : s.vm.findClass RX0 = some m.cls := hown
  have hin : ∀ w ∈ wsX00, w ∈ wsX0_excess := fun _ h9 => List.mem_cons_of_mem _ (List.mem_append_right _ h9)
  have hl : lv_has ls 2 [(0, .ref h), (1, .int (nI cc0))] := hl
  obtain ⟨hIa, hIb, hIc, hId, hIe, hIf, hIg, hIh, hIi, hIj⟩ := id hI
  refine lv_iconst (v := nI 0) hx hb dX0_excess_0 (by decide +kernel) ?_
  refine lv_iload_n hx hb dX0_excess_1 rfl (lv_at hl 1 rfl) ?_
  refine lv_aload_n hx hb dX0_excess_2 rfl (lv_at hl 0 rfl) ?_
  refine va_get (D := D) (ci := 0) (v := .int (nI (mRoom u))) (C := RX0) (T := TX0) (N := 17) hx hb hts hin hown hK hP 0 rfl rfl 10 (by decide) (hts (.fieldLink RX0 31 "AfternoonMeter" "room" "I") (List.mem_of_getElem? (i := 1) rfl)) (fun _ h9 => h9) rfl dX0_excess_3 ?_
  refine lv_isub hx hb dX0_excess_6 ?_
  refine va_mmax hx hb (hml.trans hl.1.symm) hown (hts (.methodLink RX0 119 Lib.Math.max.name) (List.mem_of_getElem? (i := 2) rfl)) (hts (.static Lib.Math.max.name) (List.mem_of_getElem? (i := 3) rfl)) (hts (.initialized "java/lang/Math") (List.mem_of_getElem? (i := 4) rfl)) (hts _ (List.mem_of_getElem? (i := 5) rfl)) (Nat.le_of_ble_eq_true rfl) (Nat.le_of_ble_eq_true rfl) (Nat.le_of_ble_eq_true rfl) (Nat.le_of_ble_eq_true rfl) dX0_excess_7 ?_
  rw [show (if nI 0 < (nI cc0) - (nI (mRoom u)) then (nI cc0) - (nI (mRoom u)) else nI 0) = nI (cc0 - mRoom u) from mx0 (by omega) (by omega)]
  have hq : nI (cc0 - mRoom u) = nI (cc0 - mRoom u) := by rfl
  exact W.iret hx hb hr (fun t ht _ => ⟨_, rfl, hq, ht⟩) (fun _ h9 => nomatch h9) dX0_excess_10
set_option maxHeartbeats 4000000 in
set_option maxRecDepth 100000 in
theorem c_X0_firstSpillWith (l : Launch) (D : va_G) (cI : ClassId) (h : Nat) (a : Nat → Nat) (u : MS) (on : Nat → Int32) (rr : Nat) (hI : Inv u) (hO : InvO u on) (hr9 : rr ≤ 9) : Met l yX0_firstSpillWith wsX0_firstSpillWith ({ frames := 2, cells := 0, slots := 0, locals := 36 } : Room) (va_Pc [.ref h, .int (nI rr)] (fun U => va_P D vwCl (pic0 cI h a u on) U.heap ∧ va_K D vwCl [(cI, .int)] U)) (vp_Si (fun r => r = fSp u rr)) 0 0 (fun _ => False) := by
  refine en_pu (cc := cX0_firstSpillWith) (maxL := 4) (ret := (some .int)) _ _ (by decide) rfl (Nat.le_of_ble_eq_true rfl) ?_
  intro p e s m args below meth c ls hx hb hml hr hlocks hts hown hP hK hl
  have hown : s.vm.findClass RX0 = some m.cls := hown
  have hin : ∀ w ∈ wsX00, w ∈ wsX0_firstSpillWith := fun _ h9 => List.mem_cons_of_mem _ (List.mem_append_right _ h9)
  have hl : lv_has ls 4 [(0, .ref h), (1, .int (nI rr))] := hl
  obtain ⟨hIa, hIb, hIc, hId, hIe, hIf, hIg, hIh, hIi, hIj⟩ := id hI
  refine lv_aload_n hx hb dX0_firstSpillWith_0 rfl (lv_at hl 0 rfl) ?_
  refine va_get (D := D) (ci := 0) (v := .int (nI (mTea u))) (C := RX0) (T := TX0) (N := 17) hx hb hts hin hown hK hP 0 rfl rfl 13 (by decide) (hts (.fieldLink RX0 88 "AfternoonMeter" "inCup" "I") (List.mem_of_getElem? (i := 1) rfl)) (fun _ h9 => h9) rfl dX0_firstSpillWith_1 ?_
  refine lv_istore_n (lv' := [(2, .int (nI (mTea u))), (0, .ref h), (1, .int (nI rr))]) hx hb dX0_firstSpillWith_4 rfl hl (by decide) rfl (fun ls hl => ?_)
  refine lv_aload_n hx hb dX0_firstSpillWith_5 rfl (lv_at hl 1 rfl) ?_
  refine va_get (D := D) (ci := 0) (v := .int (nI (mNow u))) (C := RX0) (T := TX0) (N := 17) hx hb hts hin hown hK hP 0 rfl rfl 15 (by decide) (hts (.fieldLink RX0 97 "AfternoonMeter" "now" "I") (List.mem_of_getElem? (i := 2) rfl)) (fun _ h9 => h9) rfl dX0_firstSpillWith_6 ?_
  refine lv_istore_n (lv' := [(3, .int (nI (mNow u))), (2, .int (nI (mTea u))), (0, .ref h), (1, .int (nI rr))]) hx hb dX0_firstSpillWith_9 rfl hl (by decide) rfl (fun ls hl => ?_)
  have lp10 : ∀ (n k : Nat), k + n = 360 - mNow u → ∀ (X : Nat), X ≤ mRoom u → fSp u rr = spF u rr n (mNow u + k) X → ∀ (ls : Array Slot), lv_has ls 4 [(0, .ref h), (1, .int (nI rr)), (2, .int (nI X)), (3, .int (nI (mNow u + k)))] → W p l e ({ frames := 2, cells := 0, slots := 0, locals := 36 } : Room) s m args below meth c s.heap [] 0 0 (MQ below (vp_Si (fun r => r = fSp u rr)) args s 0 0 (fun _ => False)) (F0 m 10 ls []) := by
    intro n
    induction n with
    | zero =>
      intro k hk X hX hq0 ls hl
      refine lv_iload_n hx hb dX0_firstSpillWith_10 rfl (lv_at hl 3 rfl) ?_
      refine lv_sipush (v := nI 360) hx hb dX0_firstSpillWith_11 (by decide +kernel) ?_
      refine lv_icmp_ge (tgt := 41) hx hb dX0_firstSpillWith_14 (by decide) (fun c_14 => ?_) (fun c_14 => ?_)
      · skip
        replace c_14 : 360 ≤ (mNow u + k) := leN c_14
        refine lv_iconst (v := (-1)) hx hb dX0_firstSpillWith_41 (by decide +kernel) ?_
        have hq : (-1) = fSp u rr := by rw [hq0]; rfl
        exact W.iret hx hb hr (fun t ht _ => ⟨_, rfl, hq, ht⟩) (fun _ h9 => nomatch h9) dX0_firstSpillWith_42
      · skip
        replace c_14 : (mNow u + k) < 360 := nleN c_14
        exact (by omega : False).elim
    | succ n ih =>
      intro k hk X hX hq0 ls hl
      refine lv_iload_n hx hb dX0_firstSpillWith_10 rfl (lv_at hl 3 rfl) ?_
      refine lv_sipush (v := nI 360) hx hb dX0_firstSpillWith_11 (by decide +kernel) ?_
      refine lv_icmp_ge (tgt := 41) hx hb dX0_firstSpillWith_14 (by decide) (fun c_14 => ?_) (fun c_14 => ?_)
      · skip
        replace c_14 : 360 ≤ (mNow u + k) := leN c_14
        exact (by omega : False).elim
      · skip
        replace c_14 : (mNow u + k) < 360 := nleN c_14
        refine lv_aload_n hx hb dX0_firstSpillWith_17 rfl (lv_at hl 0 rfl) ?_
        refine lv_iload_n hx hb dX0_firstSpillWith_18 rfl (lv_at hl 3 rfl) ?_
        refine lv_iload_n hx hb dX0_firstSpillWith_19 rfl (lv_at hl 2 rfl) ?_
        refine lv_iload_n hx hb dX0_firstSpillWith_20 rfl (lv_at hl 1 rfl) ?_
        refine vp_callSi (W.runV (As := [.int (nI (mNow u + k)), .int (nI X), .int (nI rr)]) (rest := []) ⟨hx, hb, hml, hown, hts⟩ (c_X0_contentAfter l D cI h a u on (mNow u + k) X rr hI (by omega) (by omega) (by omega) (by omega)) (cwV 3 hts gX0_firstSpillWith_X0_contentAfter rfl rfl rfl (by decide +kernel) ⟨Nat.le_of_ble_eq_true rfl, Nat.le_of_ble_eq_true rfl⟩) (pu_pre hK hP rfl rfl) rfl rfl hl.1 rfl (lv_room (Nat.le_of_ble_eq_true rfl)) dX0_firstSpillWith_21 ⟨Nat.le_of_ble_eq_true rfl, Nat.le_of_ble_eq_true rfl⟩) (fun r hr => ?_)
        subst hr
        have hca := cAf_le u (mNow u + k) X rr
        refine lv_istore_n (lv' := [(2, .int (nI (cAf u (mNow u + k) X rr))), (0, .ref h), (1, .int (nI rr)), (3, .int (nI (mNow u + k)))]) hx hb dX0_firstSpillWith_24 rfl hl (by decide) rfl (fun ls hl => ?_)
        refine lv_aload_n hx hb dX0_firstSpillWith_25 rfl (lv_at hl 1 rfl) ?_
        refine lv_iload_n hx hb dX0_firstSpillWith_26 rfl (lv_at hl 0 rfl) ?_
        refine vp_callSi (W.runV (As := [.int (nI (cAf u (mNow u + k) X rr))]) (rest := []) ⟨hx, hb, hml, hown, hts⟩ (c_X0_excess l D cI h a u on (cAf u (mNow u + k) X rr) hI (by omega)) (cwV 1 hts gX0_firstSpillWith_X0_excess rfl rfl rfl (by decide +kernel) ⟨Nat.le_of_ble_eq_true rfl, Nat.le_of_ble_eq_true rfl⟩) (pu_pre hK hP rfl rfl) rfl rfl hl.1 rfl (lv_room (Nat.le_of_ble_eq_true rfl)) dX0_firstSpillWith_27 ⟨Nat.le_of_ble_eq_true rfl, Nat.le_of_ble_eq_true rfl⟩) (fun r hr => ?_)
        subst hr
        refine lv_if_le (tgt := 35) hx hb dX0_firstSpillWith_30 (by decide) (fun c_30 => ?_) (fun c_30 => ?_)
        · skip
          replace c_30 : ((cAf u (mNow u + k) X rr) - mRoom u) ≤ 0 := leN c_30
          refine lv_iinc (v := nI (mNow u + k + 1)) (lv' := [(3, .int (nI (mNow u + k + 1))), (2, .int (nI (cAf u (mNow u + k) X rr))), (0, .ref h), (1, .int (nI rr))]) hx hb dX0_firstSpillWith_35 hl (k := 3) rfl (nI_i1 _) (by decide) rfl (fun ls hl => ?_)
          refine lv_goto (tgt := 10) hx hb dX0_firstSpillWith_38 (by decide) ?_
          exact ih (k + 1) (by omega) (cAf u (mNow u + k) X rr) (by omega) (by rw [hq0, sp_go (by omega)]; rfl) _ (lv_sub hl [2, 3, 1, 0] rfl)
        · skip
          replace c_30 : 0 < ((cAf u (mNow u + k) X rr) - mRoom u) := nleN c_30
          refine lv_iload_n hx hb dX0_firstSpillWith_33 rfl (lv_at hl 3 rfl) ?_
          have hq : nI (mNow u + k) = fSp u rr := by rw [hq0, sp_hit (by omega)]
          exact W.iret hx hb hr (fun t ht _ => ⟨_, rfl, hq, ht⟩) (fun _ h9 => nomatch h9) dX0_firstSpillWith_34
  exact lp10 _ 0 (Nat.zero_add _) (mTea u) (by omega) (by rfl) _ (lv_sub hl [2, 3, 1, 0] rfl)
set_option maxHeartbeats 4000000 in
set_option maxRecDepth 100000 in
theorem c_X0_checkMinute (l : Launch) (D : va_G) (cI : ClassId) (h : Nat) (a : Nat → Nat) (u : MS) (on : Nat → Int32) (tt : Nat) (ht : tt < 360) : Met l yX0_checkMinute wsX0_checkMinute ({ frames := 0, cells := 0, slots := 0, locals := 0 } : Room) (va_Pc [.ref h, .int (nI tt)] (fun U => va_P D vwCl (pic0 cI h a u on) U.heap ∧ va_K D vwCl [(cI, .int)] U)) (va_Sv (fun _ => True)) 0 0 (fun _ => False) := by
  refine en_pu (cc := cX0_checkMinute) (maxL := 2) (ret := none) _ _ (by decide) rfl (Nat.le_of_ble_eq_true rfl) ?_
  intro p e s m args below meth c ls hx hb hml hr hlocks hts hown hP hK hl
  have hown : s.vm.findClass RX0 = some m.cls := hown
  have hl : lv_has ls 2 [(0, .ref h), (1, .int (nI tt))] := hl
  refine lv_iload_n hx hb dX0_checkMinute_0 rfl (lv_at hl 1 rfl) ?_
  refine lv_if_lt (tgt := 11) hx hb dX0_checkMinute_1 (by decide) (fun c_1 => ?_) (fun c_1 => ?_)
  · skip
    replace c_1 : tt < 0 := ltN c_1
    exact (by omega : False).elim
  · skip
    replace c_1 : 0 ≤ tt := nltN c_1
    refine lv_iload_n hx hb dX0_checkMinute_4 rfl (lv_at hl 1 rfl) ?_
    refine lv_sipush (v := nI 360) hx hb dX0_checkMinute_5 (by decide +kernel) ?_
    refine lv_icmp_lt (tgt := 21) hx hb dX0_checkMinute_8 (by decide) (fun c_8 => ?_) (fun c_8 => ?_)
    · skip
      replace c_8 : tt < 360 := ltN c_8
      exact W.vret hx hb hr (fun t ht _ => ⟨rfl, trivial, ht⟩) (fun _ h9 => nomatch h9) dX0_checkMinute_21
    · skip
      replace c_8 : 360 ≤ tt := nltN c_8
      exact (by omega : False).elim
set_option maxHeartbeats 4000000 in
set_option maxRecDepth 100000 in
theorem c_X0_checkStick (l : Launch) (D : va_G) (cI : ClassId) (h : Nat) (a : Nat → Nat) (u : MS) (on : Nat → Int32) (sk : Nat) (hI : Inv u) (hsk : sk < mSc u) : Met l yX0_checkStick wsX0_checkStick ({ frames := 0, cells := 0, slots := 0, locals := 0 } : Room) (va_Pc [.ref h, .int (nI sk)] (fun U => va_P D vwCl (pic0 cI h a u on) U.heap ∧ va_K D vwCl [(cI, .int)] U)) (va_Sv (fun _ => True)) 0 0 (fun _ => False) := by
  refine en_pu (cc := cX0_checkStick) (maxL := 2) (ret := none) _ _ (by decide) rfl (Nat.le_of_ble_eq_true rfl) ?_
  intro p e s m args below meth c ls hx hb hml hr hlocks hts hown hP hK hl
  have hown : s.vm.findClass RX0 = some m.cls := hown
  have hin : ∀ w ∈ wsX00, w ∈ wsX0_checkStick := fun _ h9 => List.mem_cons_of_mem _ (List.mem_append_left _ (List.mem_append_right _ h9))
  have hl : lv_has ls 2 [(0, .ref h), (1, .int (nI sk))] := hl
  obtain ⟨hIa, hIb, hIc, hId, hIe, hIf, hIg, hIh, hIi, hIj⟩ := id hI
  refine lv_iload_n hx hb dX0_checkStick_0 rfl (lv_at hl 1 rfl) ?_
  refine lv_if_lt (tgt := 12) hx hb dX0_checkStick_1 (by decide) (fun c_1 => ?_) (fun c_1 => ?_)
  · skip
    replace c_1 : sk < 0 := ltN c_1
    exact (by omega : False).elim
  · skip
    replace c_1 : 0 ≤ sk := nltN c_1
    refine lv_iload_n hx hb dX0_checkStick_4 rfl (lv_at hl 1 rfl) ?_
    refine lv_aload_n hx hb dX0_checkStick_5 rfl (lv_at hl 0 rfl) ?_
    refine va_get (D := D) (ci := 0) (v := .int (nI (mSc u))) (C := RX0) (T := TX0) (N := 17) hx hb hts hin hown hK hP 0 rfl rfl 1 (by decide) (hts (.fieldLink RX0 48 "AfternoonMeter" "stickCount" "I") (List.mem_of_getElem? (i := 3) rfl)) (fun _ h9 => h9) rfl dX0_checkStick_6 ?_
    refine lv_icmp_lt (tgt := 22) hx hb dX0_checkStick_9 (by decide) (fun c_9 => ?_) (fun c_9 => ?_)
    · skip
      replace c_9 : sk < (mSc u) := ltN c_9
      exact W.vret hx hb hr (fun t ht _ => ⟨rfl, trivial, ht⟩) (fun _ h9 => nomatch h9) dX0_checkStick_22
    · skip
      replace c_9 : (mSc u) ≤ sk := nltN c_9
      exact (by omega : False).elim
set_option maxHeartbeats 4000000 in
set_option maxRecDepth 100000 in
theorem c_X0_checkNap (l : Launch) (D : va_G) (cI : ClassId) (h : Nat) (a : Nat → Nat) (u : MS) (on : Nat → Int32) (np : Nat) (hI : Inv u) (hnp : np < mNc u) : Met l yX0_checkNap wsX0_checkNap ({ frames := 0, cells := 0, slots := 0, locals := 0 } : Room) (va_Pc [.ref h, .int (nI np)] (fun U => va_P D vwCl (pic0 cI h a u on) U.heap ∧ va_K D vwCl [(cI, .int)] U)) (va_Sv (fun _ => True)) 0 0 (fun _ => False) := by
  refine en_pu (cc := cX0_checkNap) (maxL := 2) (ret := none) _ _ (by decide) rfl (Nat.le_of_ble_eq_true rfl) ?_
  intro p e s m args below meth c ls hx hb hml hr hlocks hts hown hP hK hl
  have hown : s.vm.findClass RX0 = some m.cls := hown
  have hin : ∀ w ∈ wsX00, w ∈ wsX0_checkNap := fun _ h9 => List.mem_cons_of_mem _ (List.mem_append_left _ (List.mem_append_right _ h9))
  have hl : lv_has ls 2 [(0, .ref h), (1, .int (nI np))] := hl
  obtain ⟨hIa, hIb, hIc, hId, hIe, hIf, hIg, hIh, hIi, hIj⟩ := id hI
  refine lv_iload_n hx hb dX0_checkNap_0 rfl (lv_at hl 1 rfl) ?_
  refine lv_if_lt (tgt := 12) hx hb dX0_checkNap_1 (by decide) (fun c_1 => ?_) (fun c_1 => ?_)
  · skip
    replace c_1 : np < 0 := ltN c_1
    exact (by omega : False).elim
  · skip
    replace c_1 : 0 ≤ np := nltN c_1
    refine lv_iload_n hx hb dX0_checkNap_4 rfl (lv_at hl 1 rfl) ?_
    refine lv_aload_n hx hb dX0_checkNap_5 rfl (lv_at hl 0 rfl) ?_
    refine va_get (D := D) (ci := 0) (v := .int (nI (mNc u))) (C := RX0) (T := TX0) (N := 17) hx hb hts hin hown hK hP 0 rfl rfl 4 (by decide) (hts (.fieldLink RX0 58 "AfternoonMeter" "napCount" "I") (List.mem_of_getElem? (i := 3) rfl)) (fun _ h9 => h9) rfl dX0_checkNap_6 ?_
    refine lv_icmp_lt (tgt := 22) hx hb dX0_checkNap_9 (by decide) (fun c_9 => ?_) (fun c_9 => ?_)
    · skip
      replace c_9 : np < (mNc u) := ltN c_9
      exact W.vret hx hb hr (fun t ht _ => ⟨rfl, trivial, ht⟩) (fun _ h9 => nomatch h9) dX0_checkNap_22
    · skip
      replace c_9 : (mNc u) ≤ np := nltN c_9
      exact (by omega : False).elim
set_option maxHeartbeats 4000000 in
set_option maxRecDepth 100000 in
theorem c_X0_checkBee (l : Launch) (D : va_G) (cI : ClassId) (h : Nat) (a : Nat → Nat) (u : MS) (on : Nat → Int32) (bb : Nat) (hI : Inv u) (hbb : bb < mBc u) : Met l yX0_checkBee wsX0_checkBee ({ frames := 0, cells := 0, slots := 0, locals := 0 } : Room) (va_Pc [.ref h, .int (nI bb)] (fun U => va_P D vwCl (pic0 cI h a u on) U.heap ∧ va_K D vwCl [(cI, .int)] U)) (va_Sv (fun _ => True)) 0 0 (fun _ => False) := by
  refine en_pu (cc := cX0_checkBee) (maxL := 2) (ret := none) _ _ (by decide) rfl (Nat.le_of_ble_eq_true rfl) ?_
  intro p e s m args below meth c ls hx hb hml hr hlocks hts hown hP hK hl
  have hown : s.vm.findClass RX0 = some m.cls := hown
  have hin : ∀ w ∈ wsX00, w ∈ wsX0_checkBee := fun _ h9 => List.mem_cons_of_mem _ (List.mem_append_left _ (List.mem_append_right _ h9))
  have hl : lv_has ls 2 [(0, .ref h), (1, .int (nI bb))] := hl
  obtain ⟨hIa, hIb, hIc, hId, hIe, hIf, hIg, hIh, hIi, hIj⟩ := id hI
  refine lv_iload_n hx hb dX0_checkBee_0 rfl (lv_at hl 1 rfl) ?_
  refine lv_if_lt (tgt := 12) hx hb dX0_checkBee_1 (by decide) (fun c_1 => ?_) (fun c_1 => ?_)
  · skip
    replace c_1 : bb < 0 := ltN c_1
    exact (by omega : False).elim
  · skip
    replace c_1 : 0 ≤ bb := nltN c_1
    refine lv_iload_n hx hb dX0_checkBee_4 rfl (lv_at hl 1 rfl) ?_
    refine lv_aload_n hx hb dX0_checkBee_5 rfl (lv_at hl 0 rfl) ?_
    refine va_get (D := D) (ci := 0) (v := .int (nI (mBc u))) (C := RX0) (T := TX0) (N := 17) hx hb hts hin hown hK hP 0 rfl rfl 8 (by decide) (hts (.fieldLink RX0 73 "AfternoonMeter" "beeCount" "I") (List.mem_of_getElem? (i := 3) rfl)) (fun _ h9 => h9) rfl dX0_checkBee_6 ?_
    refine lv_icmp_lt (tgt := 22) hx hb dX0_checkBee_9 (by decide) (fun c_9 => ?_) (fun c_9 => ?_)
    · skip
      replace c_9 : bb < (mBc u) := ltN c_9
      exact W.vret hx hb hr (fun t ht _ => ⟨rfl, trivial, ht⟩) (fun _ h9 => nomatch h9) dX0_checkBee_22
    · skip
      replace c_9 : (mBc u) ≤ bb := nltN c_9
      exact (by omega : False).elim
end
section
set_option maxHeartbeats 4000000 in
set_option maxRecDepth 100000 in
theorem c_X0_afternoon (l : Launch) (D : va_G) (cI : ClassId) (h : Nat) (a : Nat → Nat) (u : MS) (on : Nat → Int32) : Met l yX0_afternoon wsX0_afternoon ({ frames := 0, cells := 0, slots := 0, locals := 0 } : Room) (va_Pc [.ref h] (fun U => va_P D vwCl (pic0 cI h a u on) U.heap ∧ va_K D vwCl [(cI, .int)] U)) (vp_Si (fun r => r = mAft u)) 0 0 (fun _ => False) := by
  refine en_pu (cc := cX0_afternoon) (maxL := 1) (ret := (some .int)) _ _ (by decide) rfl (Nat.le_of_ble_eq_true rfl) ?_
  intro p e s m args below meth c ls hx hb hml hr hlocks hts hown hP hK hl
  have hown : s.vm.findClass RX0 = some m.cls := hown
  have hin : ∀ w ∈ wsX00, w ∈ wsX0_afternoon := fun _ h9 => List.mem_cons_of_mem _ (List.mem_append_right _ h9)
  have hl : lv_has ls 1 [(0, .ref h)] := hl
  refine lv_aload_n hx hb dX0_afternoon_0 rfl (lv_at hl 0 rfl) ?_
  refine va_get (D := D) (ci := 0) (v := .int (mAft u)) (C := RX0) (T := TX0) (N := 17) hx hb hts hin hown hK hP 0 rfl rfl 16 (by decide) (hts (.fieldLink RX0 109 "AfternoonMeter" "afternoonNumber" "I") (List.mem_of_getElem? (i := 1) rfl)) (fun _ h9 => h9) rfl dX0_afternoon_1 ?_
  have hq : mAft u = mAft u := by rfl
  exact W.iret hx hb hr (fun t ht _ => ⟨_, rfl, hq, ht⟩) (fun _ h9 => nomatch h9) dX0_afternoon_4
set_option maxHeartbeats 4000000 in
set_option maxRecDepth 100000 in
theorem c_X0_minute (l : Launch) (D : va_G) (cI : ClassId) (h : Nat) (a : Nat → Nat) (u : MS) (on : Nat → Int32) : Met l yX0_minute wsX0_minute ({ frames := 0, cells := 0, slots := 0, locals := 0 } : Room) (va_Pc [.ref h] (fun U => va_P D vwCl (pic0 cI h a u on) U.heap ∧ va_K D vwCl [(cI, .int)] U)) (vp_Si (fun r => r = nI (mNow u))) 0 0 (fun _ => False) := by
  refine en_pu (cc := cX0_minute) (maxL := 1) (ret := (some .int)) _ _ (by decide) rfl (Nat.le_of_ble_eq_true rfl) ?_
  intro p e s m args below meth c ls hx hb hml hr hlocks hts hown hP hK hl
  have hown : s.vm.findClass RX0 = some m.cls := hown
  have hin : ∀ w ∈ wsX00, w ∈ wsX0_minute := fun _ h9 => List.mem_cons_of_mem _ (List.mem_append_right _ h9)
  have hl : lv_has ls 1 [(0, .ref h)] := hl
  refine lv_aload_n hx hb dX0_minute_0 rfl (lv_at hl 0 rfl) ?_
  refine va_get (D := D) (ci := 0) (v := .int (nI (mNow u))) (C := RX0) (T := TX0) (N := 17) hx hb hts hin hown hK hP 0 rfl rfl 15 (by decide) (hts (.fieldLink RX0 97 "AfternoonMeter" "now" "I") (List.mem_of_getElem? (i := 1) rfl)) (fun _ h9 => h9) rfl dX0_minute_1 ?_
  have hq : nI (mNow u) = nI (mNow u) := by rfl
  exact W.iret hx hb hr (fun t ht _ => ⟨_, rfl, hq, ht⟩) (fun _ h9 => nomatch h9) dX0_minute_4
set_option maxHeartbeats 4000000 in
set_option maxRecDepth 100000 in
theorem c_X0_sticks (l : Launch) (D : va_G) (cI : ClassId) (h : Nat) (a : Nat → Nat) (u : MS) (on : Nat → Int32) : Met l yX0_sticks wsX0_sticks ({ frames := 0, cells := 0, slots := 0, locals := 0 } : Room) (va_Pc [.ref h] (fun U => va_P D vwCl (pic0 cI h a u on) U.heap ∧ va_K D vwCl [(cI, .int)] U)) (vp_Si (fun r => r = nI (mSc u))) 0 0 (fun _ => False) := by
  refine en_pu (cc := cX0_sticks) (maxL := 1) (ret := (some .int)) _ _ (by decide) rfl (Nat.le_of_ble_eq_true rfl) ?_
  intro p e s m args below meth c ls hx hb hml hr hlocks hts hown hP hK hl
  have hown : s.vm.findClass RX0 = some m.cls := hown
  have hin : ∀ w ∈ wsX00, w ∈ wsX0_sticks := fun _ h9 => List.mem_cons_of_mem _ (List.mem_append_right _ h9)
  have hl : lv_has ls 1 [(0, .ref h)] := hl
  refine lv_aload_n hx hb dX0_sticks_0 rfl (lv_at hl 0 rfl) ?_
  refine va_get (D := D) (ci := 0) (v := .int (nI (mSc u))) (C := RX0) (T := TX0) (N := 17) hx hb hts hin hown hK hP 0 rfl rfl 1 (by decide) (hts (.fieldLink RX0 48 "AfternoonMeter" "stickCount" "I") (List.mem_of_getElem? (i := 1) rfl)) (fun _ h9 => h9) rfl dX0_sticks_1 ?_
  have hq : nI (mSc u) = nI (mSc u) := by rfl
  exact W.iret hx hb hr (fun t ht _ => ⟨_, rfl, hq, ht⟩) (fun _ h9 => nomatch h9) dX0_sticks_4
set_option maxHeartbeats 4000000 in
set_option maxRecDepth 100000 in
theorem c_X0_naps (l : Launch) (D : va_G) (cI : ClassId) (h : Nat) (a : Nat → Nat) (u : MS) (on : Nat → Int32) : Met l yX0_naps wsX0_naps ({ frames := 0, cells := 0, slots := 0, locals := 0 } : Room) (va_Pc [.ref h] (fun U => va_P D vwCl (pic0 cI h a u on) U.heap ∧ va_K D vwCl [(cI, .int)] U)) (vp_Si (fun r => r = nI (mNc u))) 0 0 (fun _ => False) := by
  refine en_pu (cc := cX0_naps) (maxL := 1) (ret := (some .int)) _ _ (by decide) rfl (Nat.le_of_ble_eq_true rfl) ?_
  intro p e s m args below meth c ls hx hb hml hr hlocks hts hown hP hK hl
  have hown : s.vm.findClass RX0 = some m.cls := hown
  have hin : ∀ w ∈ wsX00, w ∈ wsX0_naps := fun _ h9 => List.mem_cons_of_mem _ (List.mem_append_right _ h9)
  have hl : lv_has ls 1 [(0, .ref h)] := hl
  refine lv_aload_n hx hb dX0_naps_0 rfl (lv_at hl 0 rfl) ?_
  refine va_get (D := D) (ci := 0) (v := .int (nI (mNc u))) (C := RX0) (T := TX0) (N := 17) hx hb hts hin hown hK hP 0 rfl rfl 4 (by decide) (hts (.fieldLink RX0 58 "AfternoonMeter" "napCount" "I") (List.mem_of_getElem? (i := 1) rfl)) (fun _ h9 => h9) rfl dX0_naps_1 ?_
  have hq : nI (mNc u) = nI (mNc u) := by rfl
  exact W.iret hx hb hr (fun t ht _ => ⟨_, rfl, hq, ht⟩) (fun _ h9 => nomatch h9) dX0_naps_4
set_option maxHeartbeats 4000000 in
set_option maxRecDepth 100000 in
theorem c_X0_bees (l : Launch) (D : va_G) (cI : ClassId) (h : Nat) (a : Nat → Nat) (u : MS) (on : Nat → Int32) : Met l yX0_bees wsX0_bees ({ frames := 0, cells := 0, slots := 0, locals := 0 } : Room) (va_Pc [.ref h] (fun U => va_P D vwCl (pic0 cI h a u on) U.heap ∧ va_K D vwCl [(cI, .int)] U)) (vp_Si (fun r => r = nI (mBc u))) 0 0 (fun _ => False) := by
  refine en_pu (cc := cX0_bees) (maxL := 1) (ret := (some .int)) _ _ (by decide) rfl (Nat.le_of_ble_eq_true rfl) ?_
  intro p e s m args below meth c ls hx hb hml hr hlocks hts hown hP hK hl
  have hown : s.vm.findClass RX0 = some m.cls := hown
  have hin : ∀ w ∈ wsX00, w ∈ wsX0_bees := fun _ h9 => List.mem_cons_of_mem _ (List.mem_append_right _ h9)
  have hl : lv_has ls 1 [(0, .ref h)] := hl
  refine lv_aload_n hx hb dX0_bees_0 rfl (lv_at hl 0 rfl) ?_
  refine va_get (D := D) (ci := 0) (v := .int (nI (mBc u))) (C := RX0) (T := TX0) (N := 17) hx hb hts hin hown hK hP 0 rfl rfl 8 (by decide) (hts (.fieldLink RX0 73 "AfternoonMeter" "beeCount" "I") (List.mem_of_getElem? (i := 1) rfl)) (fun _ h9 => h9) rfl dX0_bees_1 ?_
  have hq : nI (mBc u) = nI (mBc u) := by rfl
  exact W.iret hx hb hr (fun t ht _ => ⟨_, rfl, hq, ht⟩) (fun _ h9 => nomatch h9) dX0_bees_4
set_option maxHeartbeats 4000000 in
set_option maxRecDepth 100000 in
theorem c_X0_tea (l : Launch) (D : va_G) (cI : ClassId) (h : Nat) (a : Nat → Nat) (u : MS) (on : Nat → Int32) : Met l yX0_tea wsX0_tea ({ frames := 0, cells := 0, slots := 0, locals := 0 } : Room) (va_Pc [.ref h] (fun U => va_P D vwCl (pic0 cI h a u on) U.heap ∧ va_K D vwCl [(cI, .int)] U)) (vp_Si (fun r => r = nI (mTea u))) 0 0 (fun _ => False) := by
  refine en_pu (cc := cX0_tea) (maxL := 1) (ret := (some .int)) _ _ (by decide) rfl (Nat.le_of_ble_eq_true rfl) ?_
  intro p e s m args below meth c ls hx hb hml hr hlocks hts hown hP hK hl
  have hown : s.vm.findClass RX0 = some m.cls := hown
  have hin : ∀ w ∈ wsX00, w ∈ wsX0_tea := fun _ h9 => List.mem_cons_of_mem _ (List.mem_append_right _ h9)
  have hl : lv_has ls 1 [(0, .ref h)] := hl
  refine lv_aload_n hx hb dX0_tea_0 rfl (lv_at hl 0 rfl) ?_
  refine va_get (D := D) (ci := 0) (v := .int (nI (mTea u))) (C := RX0) (T := TX0) (N := 17) hx hb hts hin hown hK hP 0 rfl rfl 13 (by decide) (hts (.fieldLink RX0 88 "AfternoonMeter" "inCup" "I") (List.mem_of_getElem? (i := 1) rfl)) (fun _ h9 => h9) rfl dX0_tea_1 ?_
  have hq : nI (mTea u) = nI (mTea u) := by rfl
  exact W.iret hx hb hr (fun t ht _ => ⟨_, rfl, hq, ht⟩) (fun _ h9 => nomatch h9) dX0_tea_4
set_option maxHeartbeats 4000000 in
set_option maxRecDepth 100000 in
theorem c_X0_spilt (l : Launch) (D : va_G) (cI : ClassId) (h : Nat) (a : Nat → Nat) (u : MS) (on : Nat → Int32) : Met l yX0_spilt wsX0_spilt ({ frames := 0, cells := 0, slots := 0, locals := 0 } : Room) (va_Pc [.ref h] (fun U => va_P D vwCl (pic0 cI h a u on) U.heap ∧ va_K D vwCl [(cI, .int)] U)) (vp_Si (fun r => r = mSpl u)) 0 0 (fun _ => False) := by
  refine en_pu (cc := cX0_spilt) (maxL := 1) (ret := (some .int)) _ _ (by decide) rfl (Nat.le_of_ble_eq_true rfl) ?_
  intro p e s m args below meth c ls hx hb hml hr hlocks hts hown hP hK hl
  have hown : s.vm.findClass RX0 = some m.cls := hown
  have hin : ∀ w ∈ wsX00, w ∈ wsX0_spilt := fun _ h9 => List.mem_cons_of_mem _ (List.mem_append_right _ h9)
  have hl : lv_has ls 1 [(0, .ref h)] := hl
  refine lv_aload_n hx hb dX0_spilt_0 rfl (lv_at hl 0 rfl) ?_
  refine va_get (D := D) (ci := 0) (v := .int (mSpl u)) (C := RX0) (T := TX0) (N := 17) hx hb hts hin hown hK hP 0 rfl rfl 14 (by decide) (hts (.fieldLink RX0 106 "AfternoonMeter" "ranOver" "I") (List.mem_of_getElem? (i := 1) rfl)) (fun _ h9 => h9) rfl dX0_spilt_1 ?_
  have hq : mSpl u = mSpl u := by rfl
  exact W.iret hx hb hr (fun t ht _ => ⟨_, rfl, hq, ht⟩) (fun _ h9 => nomatch h9) dX0_spilt_4
set_option maxHeartbeats 4000000 in
set_option maxRecDepth 100000 in
theorem c_X0_isAsleep (l : Launch) (D : va_G) (cI : ClassId) (h : Nat) (a : Nat → Nat) (u : MS) (on : Nat → Int32) (tt : Nat) (hI : Inv u) (ht : tt < 360) : Met l yX0_isAsleep wsX0_isAsleep ({ frames := 1, cells := 0, slots := 0, locals := 21 } : Room) (va_Pc [.ref h, .int (nI tt)] (fun U => va_P D vwCl (pic0 cI h a u on) U.heap ∧ va_K D vwCl [(cI, .int)] U)) (vp_Si (fun r => r = bI (decide (0 < cN u tt)))) 0 0 (fun _ => False) := by
  refine en_pu (cc := cX0_isAsleep) (maxL := 2) (ret := (some .boolean)) _ _ (by decide) rfl (Nat.le_of_ble_eq_true rfl) ?_
  intro p e s m args below meth c ls hx hb hml hr hlocks hts hown hP hK hl
  have hown : s.vm.findClass RX0 = some m.cls := hown
  have hin : ∀ w ∈ wsX00, w ∈ wsX0_isAsleep := fun _ h9 => List.mem_cons_of_mem _ (List.mem_append_left _ (List.mem_append_right _ h9))
  have hl : lv_has ls 2 [(0, .ref h), (1, .int (nI tt))] := hl
  obtain ⟨hIa, hIb, hIc, hId, hIe, hIf, hIg, hIh, hIi, hIj⟩ := id hI
  refine lv_aload_n hx hb dX0_isAsleep_0 rfl (lv_at hl 0 rfl) ?_
  refine lv_iload_n hx hb dX0_isAsleep_1 rfl (lv_at hl 1 rfl) ?_
  refine va_csv (W.runV (As := [.int (nI tt)]) (rest := []) ⟨hx, hb, hml, hown, hts⟩ (c_X0_checkMinute l D cI h a u on tt (by omega)) (cwV 1 hts gX0_isAsleep_X0_checkMinute rfl rfl rfl (by decide +kernel) ⟨Nat.le_of_ble_eq_true rfl, Nat.le_of_ble_eq_true rfl⟩) (pu_pre hK hP rfl rfl) rfl rfl hl.1 rfl (lv_room (Nat.le_of_ble_eq_true rfl)) dX0_isAsleep_2 ⟨Nat.le_of_ble_eq_true rfl, Nat.le_of_ble_eq_true rfl⟩) (fun _ => ?_)
  refine lv_aload_n hx hb dX0_isAsleep_5 rfl (lv_at hl 0 rfl) ?_
  refine va_get (D := D) (ci := 0) (v := .ref (a 3)) (C := RX0) (T := TX0) (N := 17) hx hb hts hin hown hK hP 0 rfl rfl 5 (by decide) (hts (.fieldLink RX0 19 "AfternoonMeter" "napsOver" "[I") (List.mem_of_getElem? (i := 1) rfl)) (fun _ h9 => h9) rfl dX0_isAsleep_6 ?_
  refine lv_iload_n hx hb dX0_isAsleep_9 rfl (lv_at hl 1 rfl) ?_
  refine q_iald (v := nI (cN u tt)) hx hb hK hP 4 0 rfl rfl (by omega) (by decide) (hIh tt (by omega)) dX0_isAsleep_10 ?_
  have hcn := cN_le u tt
  refine lv_if_le (tgt := 18) hx hb dX0_isAsleep_11 (by decide) (fun c_11 => ?_) (fun c_11 => ?_)
  · skip
    replace c_11 : (cN u tt) ≤ 0 := leN c_11
    refine lv_iconst (v := nI 0) hx hb dX0_isAsleep_18 (by decide +kernel) ?_
    have hq : nI 0 = bI (decide (0 < cN u tt)) := by rw [show decide (0 < cN u tt) = false from decide_eq_false (Nat.not_lt.mpr c_11)]; rfl
    exact W.zret (ty := .boolean) hx hb hr (by decide +kernel) (fun t ht _ => ⟨_, rfl, hq, ht⟩) (fun _ h9 => nomatch h9) dX0_isAsleep_19
  · skip
    replace c_11 : 0 < (cN u tt) := nleN c_11
    refine lv_iconst (v := nI 1) hx hb dX0_isAsleep_14 (by decide +kernel) ?_
    refine lv_goto (tgt := 19) hx hb dX0_isAsleep_15 (by decide) ?_
    have hq : nI 1 = bI (decide (0 < cN u tt)) := by rw [show decide (0 < cN u tt) = true from decide_eq_true (c_11)]; rfl
    exact W.zret (ty := .boolean) hx hb hr (by decide +kernel) (fun t ht _ => ⟨_, rfl, hq, ht⟩) (fun _ h9 => nomatch h9) dX0_isAsleep_19
set_option maxHeartbeats 4000000 in
set_option maxRecDepth 100000 in
theorem c_X0_awakeMinutes (l : Launch) (D : va_G) (cI : ClassId) (h : Nat) (a : Nat → Nat) (u : MS) (on : Nat → Int32) (hI : Inv u) : Met l yX0_awakeMinutes wsX0_awakeMinutes ({ frames := 0, cells := 0, slots := 0, locals := 0 } : Room) (va_Pc [.ref h] (fun U => va_P D vwCl (pic0 cI h a u on) U.heap ∧ va_K D vwCl [(cI, .int)] U)) (vp_Si (fun r => r = fAw u)) 0 0 (fun _ => False) := by
  refine en_pu (cc := cX0_awakeMinutes) (maxL := 3) (ret := (some .int)) _ _ (by decide) rfl (Nat.le_of_ble_eq_true rfl) ?_
  intro p e s m args below meth c ls hx hb hml hr hlocks hts hown hP hK hl
  have hown : s.vm.findClass RX0 = some m.cls := hown
  have hin : ∀ w ∈ wsX00, w ∈ wsX0_awakeMinutes := fun _ h9 => List.mem_cons_of_mem _ (List.mem_append_right _ h9)
  have hl : lv_has ls 3 [(0, .ref h)] := hl
  obtain ⟨hIa, hIb, hIc, hId, hIe, hIf, hIg, hIh, hIi, hIj⟩ := id hI
  refine lv_iconst (v := nI 0) hx hb dX0_awakeMinutes_0 (by decide +kernel) ?_
  refine lv_istore_n (lv' := [(1, .int (nI 0)), (0, .ref h)]) hx hb dX0_awakeMinutes_1 rfl hl (by decide) rfl (fun ls hl => ?_)
  refine lv_iconst (v := nI 0) hx hb dX0_awakeMinutes_2 (by decide +kernel) ?_
  refine lv_istore_n (lv' := [(2, .int (nI 0)), (1, .int (nI 0)), (0, .ref h)]) hx hb dX0_awakeMinutes_3 rfl hl (by decide) rfl (fun ls hl => ?_)
  have lp4 : ∀ (n k : Nat), k + n = mNow u → ∀ (X : Int32), X = fz (awF u) k (nI 0) → ∀ (ls : Array Slot), lv_has ls 3 [(0, .ref h), (1, .int X), (2, .int (nI k))] → W p l e ({ frames := 0, cells := 0, slots := 0, locals := 0 } : Room) s m args below meth c s.heap [] 0 0 (MQ below (vp_Si (fun r => r = fAw u)) args s 0 0 (fun _ => False)) (F0 m 4 ls []) := by
    intro n
    induction n with
    | zero =>
      intro k hk X eX ls hl
      have ek : k = mNow u := by omega
      refine lv_iload_n hx hb dX0_awakeMinutes_4 rfl (lv_at hl 2 rfl) ?_
      refine lv_aload_n hx hb dX0_awakeMinutes_5 rfl (lv_at hl 0 rfl) ?_
      refine va_get (D := D) (ci := 0) (v := .int (nI (mNow u))) (C := RX0) (T := TX0) (N := 17) hx hb hts hin hown hK hP 0 rfl rfl 15 (by decide) (hts (.fieldLink RX0 97 "AfternoonMeter" "now" "I") (List.mem_of_getElem? (i := 1) rfl)) (fun _ h9 => h9) rfl dX0_awakeMinutes_6 ?_
      refine lv_icmp_ge (tgt := 30) hx hb dX0_awakeMinutes_9 (by decide) (fun c_9 => ?_) (fun c_9 => ?_)
      · skip
        replace c_9 : (mNow u) ≤ k := leN c_9
        refine lv_iload_n hx hb dX0_awakeMinutes_30 rfl (lv_at hl 1 rfl) ?_
        have hq : X = fAw u := by rw [eX, ek]; rfl
        exact W.iret hx hb hr (fun t ht _ => ⟨_, rfl, hq, ht⟩) (fun _ h9 => nomatch h9) dX0_awakeMinutes_31
      · skip
        replace c_9 : k < (mNow u) := nleN c_9
        exact (by omega : False).elim
    | succ n ih =>
      intro k hk X eX ls hl
      refine lv_iload_n hx hb dX0_awakeMinutes_4 rfl (lv_at hl 2 rfl) ?_
      refine lv_aload_n hx hb dX0_awakeMinutes_5 rfl (lv_at hl 0 rfl) ?_
      refine va_get (D := D) (ci := 0) (v := .int (nI (mNow u))) (C := RX0) (T := TX0) (N := 17) hx hb hts hin hown hK hP 0 rfl rfl 15 (by decide) (hts (.fieldLink RX0 97 "AfternoonMeter" "now" "I") (List.mem_of_getElem? (i := 1) rfl)) (fun _ h9 => h9) rfl dX0_awakeMinutes_6 ?_
      refine lv_icmp_ge (tgt := 30) hx hb dX0_awakeMinutes_9 (by decide) (fun c_9 => ?_) (fun c_9 => ?_)
      · skip
        replace c_9 : (mNow u) ≤ k := leN c_9
        exact (by omega : False).elim
      · skip
        replace c_9 : k < (mNow u) := nleN c_9
        refine lv_aload_n hx hb dX0_awakeMinutes_12 rfl (lv_at hl 0 rfl) ?_
        refine va_get (D := D) (ci := 0) (v := .ref (a 3)) (C := RX0) (T := TX0) (N := 17) hx hb hts hin hown hK hP 0 rfl rfl 5 (by decide) (hts (.fieldLink RX0 19 "AfternoonMeter" "napsOver" "[I") (List.mem_of_getElem? (i := 2) rfl)) (fun _ h9 => h9) rfl dX0_awakeMinutes_13 ?_
        refine lv_iload_n hx hb dX0_awakeMinutes_16 rfl (lv_at hl 2 rfl) ?_
        refine q_iald (v := nI (cN u k)) hx hb hK hP 4 0 rfl rfl (by omega) (by decide) (hIh k (by omega)) dX0_awakeMinutes_17 ?_
        have hcn := cN_le u k
        refine lv_if_ne (tgt := 24) hx hb dX0_awakeMinutes_18 (by decide) (fun c_18 => ?_) (fun c_18 => ?_)
        · skip
          replace c_18 : (cN u k) ≠ 0 := neN c_18
          refine lv_iinc (v := nI (k + 1)) (lv' := [(2, .int (nI (k + 1))), (0, .ref h), (1, .int X)]) hx hb dX0_awakeMinutes_24 hl (k := 2) rfl (nI_i1 _) (by decide) rfl (fun ls hl => ?_)
          refine lv_goto (tgt := 4) hx hb dX0_awakeMinutes_27 (by decide) ?_
          exact ih (k + 1) (by omega) X (by subst eX; simp [fz, awF, nI1, c_18]) _ (lv_sub hl [1, 2, 0] rfl)
        · skip
          replace c_18 : (cN u k) = 0 := eN c_18
          refine lv_iinc (v := X + 1) (lv' := [(1, .int (X + 1)), (0, .ref h), (2, .int (nI k))]) hx hb dX0_awakeMinutes_21 hl (k := 1) rfl (rfl) (by decide) rfl (fun ls hl => ?_)
          refine lv_iinc (v := nI (k + 1)) (lv' := [(2, .int (nI (k + 1))), (1, .int (X + 1)), (0, .ref h)]) hx hb dX0_awakeMinutes_24 hl (k := 2) rfl (nI_i1 _) (by decide) rfl (fun ls hl => ?_)
          refine lv_goto (tgt := 4) hx hb dX0_awakeMinutes_27 (by decide) ?_
          exact ih (k + 1) (by omega) (X + 1) (by subst eX; simp [fz, awF, nI1, c_18]) _ (lv_sub hl [2, 1, 0] rfl)
  exact lp4 _ 0 (Nat.zero_add _) (nI 0) (by rfl) _ (lv_sub hl [2, 1, 0] rfl)
set_option maxHeartbeats 4000000 in
set_option maxRecDepth 100000 in
theorem c_X0_sleptMinutes (l : Launch) (D : va_G) (cI : ClassId) (h : Nat) (a : Nat → Nat) (u : MS) (on : Nat → Int32) (hI : Inv u) : Met l yX0_sleptMinutes wsX0_sleptMinutes ({ frames := 1, cells := 0, slots := 0, locals := 22 } : Room) (va_Pc [.ref h] (fun U => va_P D vwCl (pic0 cI h a u on) U.heap ∧ va_K D vwCl [(cI, .int)] U)) (vp_Si (fun r => r = nI (mNow u) - fAw u)) 0 0 (fun _ => False) := by
  refine en_pu (cc := cX0_sleptMinutes) (maxL := 1) (ret := (some .int)) _ _ (by decide) rfl (Nat.le_of_ble_eq_true rfl) ?_
  intro p e s m args below meth c ls hx hb hml hr hlocks hts hown hP hK hl
  have hown : s.vm.findClass RX0 = some m.cls := hown
  have hin : ∀ w ∈ wsX00, w ∈ wsX0_sleptMinutes := fun _ h9 => List.mem_cons_of_mem _ (List.mem_append_right _ h9)
  have hl : lv_has ls 1 [(0, .ref h)] := hl
  obtain ⟨hIa, hIb, hIc, hId, hIe, hIf, hIg, hIh, hIi, hIj⟩ := id hI
  refine lv_aload_n hx hb dX0_sleptMinutes_0 rfl (lv_at hl 0 rfl) ?_
  refine va_get (D := D) (ci := 0) (v := .int (nI (mNow u))) (C := RX0) (T := TX0) (N := 17) hx hb hts hin hown hK hP 0 rfl rfl 15 (by decide) (hts (.fieldLink RX0 97 "AfternoonMeter" "now" "I") (List.mem_of_getElem? (i := 1) rfl)) (fun _ h9 => h9) rfl dX0_sleptMinutes_1 ?_
  refine lv_aload_n hx hb dX0_sleptMinutes_4 rfl (lv_at hl 0 rfl) ?_
  refine vp_callSi (W.runV (As := []) (rest := [.int (nI (mNow u))]) ⟨hx, hb, hml, hown, hts⟩ (c_X0_awakeMinutes l D cI h a u on hI) (cwV 0 hts gX0_sleptMinutes_X0_awakeMinutes rfl rfl rfl (by decide +kernel) ⟨Nat.le_of_ble_eq_true rfl, Nat.le_of_ble_eq_true rfl⟩) (pu_pre hK hP rfl rfl) rfl rfl hl.1 rfl (lv_room (Nat.le_of_ble_eq_true rfl)) dX0_sleptMinutes_5 ⟨Nat.le_of_ble_eq_true rfl, Nat.le_of_ble_eq_true rfl⟩) (fun r hr => ?_)
  subst hr
  refine lv_isub hx hb dX0_sleptMinutes_8 ?_
  have hq : (nI (mNow u)) - (fAw u) = nI (mNow u) - fAw u := by rfl
  exact W.iret hx hb hr (fun t ht _ => ⟨_, rfl, hq, ht⟩) (fun _ h9 => nomatch h9) dX0_sleptMinutes_9
set_option maxHeartbeats 4000000 in
set_option maxRecDepth 100000 in
theorem c_X0_longestAwake (l : Launch) (D : va_G) (cI : ClassId) (h : Nat) (a : Nat → Nat) (u : MS) (on : Nat → Int32) (hI : Inv u) : Met l yX0_longestAwake wsX0_longestAwake ({ frames := 1, cells := 0, slots := 0, locals := 13 } : Room) (va_Pc [.ref h] (fun U => va_P D vwCl (pic0 cI h a u on) U.heap ∧ va_K D vwCl [(cI, .int)] U)) (vp_Si (fun r => r = fLong u)) 0 0 (fun _ => False) := by
  refine en_pu (cc := cX0_longestAwake) (maxL := 4) (ret := (some .int)) _ _ (by decide) rfl (Nat.le_of_ble_eq_true rfl) ?_
  intro p e s m args below meth c ls hx hb hml hr hlocks hts hown hP hK hl
  have hown : s.vm.findClass RX0 = some m.cls := hown
  have hin : ∀ w ∈ wsX00, w ∈ wsX0_longestAwake := fun _ h9 => List.mem_cons_of_mem _ (List.mem_append_right _ h9)
  have hl : lv_has ls 4 [(0, .ref h)] := hl
  obtain ⟨hIa, hIb, hIc, hId, hIe, hIf, hIg, hIh, hIi, hIj⟩ := id hI
  refine lv_iconst (v := nI 0) hx hb dX0_longestAwake_0 (by decide +kernel) ?_
  refine lv_istore_n (lv' := [(1, .int (nI 0)), (0, .ref h)]) hx hb dX0_longestAwake_1 rfl hl (by decide) rfl (fun ls hl => ?_)
  refine lv_iconst (v := nI 0) hx hb dX0_longestAwake_2 (by decide +kernel) ?_
  refine lv_istore_n (lv' := [(2, .int (nI 0)), (1, .int (nI 0)), (0, .ref h)]) hx hb dX0_longestAwake_3 rfl hl (by decide) rfl (fun ls hl => ?_)
  refine lv_iconst (v := nI 0) hx hb dX0_longestAwake_4 (by decide +kernel) ?_
  refine lv_istore_n (lv' := [(3, .int (nI 0)), (2, .int (nI 0)), (1, .int (nI 0)), (0, .ref h)]) hx hb dX0_longestAwake_5 rfl hl (by decide) rfl (fun ls hl => ?_)
  have lp6 : ∀ (n k : Nat), k + n = 360 → ∀ (X : Int32), X = (lgS u k).1 → ∀ (Y : Int32), Y = (lgS u k).2 → ∀ (ls : Array Slot), lv_has ls 4 [(0, .ref h), (1, .int X), (2, .int Y), (3, .int (nI k))] → W p l e ({ frames := 1, cells := 0, slots := 0, locals := 13 } : Room) s m args below meth c s.heap [] 0 0 (MQ below (vp_Si (fun r => r = fLong u)) args s 0 0 (fun _ => False)) (F0 m 6 ls []) := by
    intro n
    induction n with
    | zero =>
      intro k hk X eX Y eY ls hl
      have ek : k = 360 := by omega
      refine lv_iload_n hx hb dX0_longestAwake_6 rfl (lv_at hl 3 rfl) ?_
      refine lv_sipush (v := nI 360) hx hb dX0_longestAwake_7 (by decide +kernel) ?_
      refine lv_icmp_ge (tgt := 42) hx hb dX0_longestAwake_10 (by decide) (fun c_10 => ?_) (fun c_10 => ?_)
      · skip
        replace c_10 : 360 ≤ k := leN c_10
        refine lv_iload_n hx hb dX0_longestAwake_42 rfl (lv_at hl 1 rfl) ?_
        have hq : X = fLong u := by rw [eX, ek]; rfl
        exact W.iret hx hb hr (fun t ht _ => ⟨_, rfl, hq, ht⟩) (fun _ h9 => nomatch h9) dX0_longestAwake_43
      · skip
        replace c_10 : k < 360 := nleN c_10
        exact (by omega : False).elim
    | succ n ih =>
      intro k hk X eX Y eY ls hl
      refine lv_iload_n hx hb dX0_longestAwake_6 rfl (lv_at hl 3 rfl) ?_
      refine lv_sipush (v := nI 360) hx hb dX0_longestAwake_7 (by decide +kernel) ?_
      refine lv_icmp_ge (tgt := 42) hx hb dX0_longestAwake_10 (by decide) (fun c_10 => ?_) (fun c_10 => ?_)
      · skip
        replace c_10 : 360 ≤ k := leN c_10
        exact (by omega : False).elim
      · skip
        replace c_10 : k < 360 := nleN c_10
        refine lv_aload_n hx hb dX0_longestAwake_13 rfl (lv_at hl 0 rfl) ?_
        refine va_get (D := D) (ci := 0) (v := .ref (a 3)) (C := RX0) (T := TX0) (N := 17) hx hb hts hin hown hK hP 0 rfl rfl 5 (by decide) (hts (.fieldLink RX0 19 "AfternoonMeter" "napsOver" "[I") (List.mem_of_getElem? (i := 1) rfl)) (fun _ h9 => h9) rfl dX0_longestAwake_14 ?_
        refine lv_iload_n hx hb dX0_longestAwake_17 rfl (lv_at hl 3 rfl) ?_
        refine q_iald (v := nI (cN u k)) hx hb hK hP 4 0 rfl rfl (by omega) (by decide) (hIh k (by omega)) dX0_longestAwake_18 ?_
        have hcn := cN_le u k
        refine lv_if_ne (tgt := 28) hx hb dX0_longestAwake_19 (by decide) (fun c_19 => ?_) (fun c_19 => ?_)
        · skip
          replace c_19 : (cN u k) ≠ 0 := neN c_19
          refine lv_iconst (v := nI 0) hx hb dX0_longestAwake_28 (by decide +kernel) ?_
          refine lv_istore_n (lv' := [(2, .int (nI 0)), (0, .ref h), (1, .int X), (3, .int (nI k))]) hx hb dX0_longestAwake_29 rfl hl (by decide) rfl (fun ls hl => ?_)
          refine lv_iload_n hx hb dX0_longestAwake_30 rfl (lv_at hl 2 rfl) ?_
          refine lv_iload_n hx hb dX0_longestAwake_31 rfl (lv_at hl 0 rfl) ?_
          refine va_mmax hx hb (hml.trans hl.1.symm) hown (hts (.methodLink RX0 119 Lib.Math.max.name) (List.mem_of_getElem? (i := 2) rfl)) (hts (.static Lib.Math.max.name) (List.mem_of_getElem? (i := 3) rfl)) (hts (.initialized "java/lang/Math") (List.mem_of_getElem? (i := 4) rfl)) (hts _ (List.mem_of_getElem? (i := 5) rfl)) (Nat.le_of_ble_eq_true rfl) (Nat.le_of_ble_eq_true rfl) (Nat.le_of_ble_eq_true rfl) (Nat.le_of_ble_eq_true rfl) dX0_longestAwake_32 ?_
          refine lv_istore_n (lv' := [(1, .int (if X < nI 0 then nI 0 else X)), (2, .int (nI 0)), (0, .ref h), (3, .int (nI k))]) hx hb dX0_longestAwake_35 rfl hl (by decide) rfl (fun ls hl => ?_)
          refine lv_iinc (v := nI (k + 1)) (lv' := [(3, .int (nI (k + 1))), (1, .int (if X < nI 0 then nI 0 else X)), (2, .int (nI 0)), (0, .ref h)]) hx hb dX0_longestAwake_36 hl (k := 3) rfl (nI_i1 _) (by decide) rfl (fun ls hl => ?_)
          refine lv_goto (tgt := 6) hx hb dX0_longestAwake_39 (by decide) ?_
          exact ih (k + 1) (by omega) (if X < nI 0 then nI 0 else X) (by subst eX eY; show _ = (lgF u k (lgS u k)).1; rw [lg_no c_19]) (nI 0) (by subst eX eY; show _ = (lgF u k (lgS u k)).2; rw [lg_no c_19]) _ (lv_sub hl [3, 1, 2, 0] rfl)
        · skip
          replace c_19 : (cN u k) = 0 := eN c_19
          refine lv_iload_n hx hb dX0_longestAwake_22 rfl (lv_at hl 2 rfl) ?_
          refine lv_iconst (v := nI 1) hx hb dX0_longestAwake_23 (by decide +kernel) ?_
          refine lv_iadd hx hb dX0_longestAwake_24 ?_
          refine lv_goto (tgt := 29) hx hb dX0_longestAwake_25 (by decide) ?_
          refine lv_istore_n (lv' := [(2, .int (Y + (nI 1))), (0, .ref h), (1, .int X), (3, .int (nI k))]) hx hb dX0_longestAwake_29 rfl hl (by decide) rfl (fun ls hl => ?_)
          refine lv_iload_n hx hb dX0_longestAwake_30 rfl (lv_at hl 2 rfl) ?_
          refine lv_iload_n hx hb dX0_longestAwake_31 rfl (lv_at hl 0 rfl) ?_
          refine va_mmax hx hb (hml.trans hl.1.symm) hown (hts (.methodLink RX0 119 Lib.Math.max.name) (List.mem_of_getElem? (i := 2) rfl)) (hts (.static Lib.Math.max.name) (List.mem_of_getElem? (i := 3) rfl)) (hts (.initialized "java/lang/Math") (List.mem_of_getElem? (i := 4) rfl)) (hts _ (List.mem_of_getElem? (i := 5) rfl)) (Nat.le_of_ble_eq_true rfl) (Nat.le_of_ble_eq_true rfl) (Nat.le_of_ble_eq_true rfl) (Nat.le_of_ble_eq_true rfl) dX0_longestAwake_32 ?_
          refine lv_istore_n (lv' := [(1, .int (if X < Y + (nI 1) then Y + (nI 1) else X)), (2, .int (Y + (nI 1))), (0, .ref h), (3, .int (nI k))]) hx hb dX0_longestAwake_35 rfl hl (by decide) rfl (fun ls hl => ?_)
          refine lv_iinc (v := nI (k + 1)) (lv' := [(3, .int (nI (k + 1))), (1, .int (if X < Y + (nI 1) then Y + (nI 1) else X)), (2, .int (Y + (nI 1))), (0, .ref h)]) hx hb dX0_longestAwake_36 hl (k := 3) rfl (nI_i1 _) (by decide) rfl (fun ls hl => ?_)
          refine lv_goto (tgt := 6) hx hb dX0_longestAwake_39 (by decide) ?_
          exact ih (k + 1) (by omega) (if X < Y + (nI 1) then Y + (nI 1) else X) (by subst eX eY; show _ = (lgF u k (lgS u k)).1; rw [lg_yes c_19]) (Y + (nI 1)) (by subst eX eY; show _ = (lgF u k (lgS u k)).2; rw [lg_yes c_19]) _ (lv_sub hl [3, 1, 2, 0] rfl)
  exact lp6 _ 0 (Nat.zero_add _) (nI 0) (by rfl) (nI 0) (by rfl) _ (lv_sub hl [3, 2, 1, 0] rfl)
set_option maxHeartbeats 4000000 in
set_option maxRecDepth 100000 in
theorem c_X0_shadowAt (l : Launch) (D : va_G) (cI : ClassId) (h : Nat) (a : Nat → Nat) (u : MS) (on : Nat → Int32) (sk : Nat) (tt : Nat) (hI : Inv u) (hsk : sk < mSc u) (ht : tt < 360) : Met l yX0_shadowAt wsX0_shadowAt ({ frames := 1, cells := 0, slots := 0, locals := 22 } : Room) (va_Pc [.ref h, .int (nI sk), .int (nI tt)] (fun U => va_P D vwCl (pic0 cI h a u on) U.heap ∧ va_K D vwCl [(cI, .int)] U)) (vp_Si (fun r => r = fShad u sk tt)) 0 0 (fun _ => False) := by
  refine en_pu (cc := cX0_shadowAt) (maxL := 3) (ret := (some .int)) _ _ (by decide) rfl (Nat.le_of_ble_eq_true rfl) ?_
  intro p e s m args below meth c ls hx hb hml hr hlocks hts hown hP hK hl
  have hown : s.vm.findClass RX0 = some m.cls := hown
  have hin : ∀ w ∈ wsX00, w ∈ wsX0_shadowAt := fun _ h9 => List.mem_cons_of_mem _ (List.mem_append_left _ (List.mem_append_left _ (List.mem_append_right _ h9)))
  have hl : lv_has ls 3 [(0, .ref h), (1, .int (nI sk)), (2, .int (nI tt))] := hl
  obtain ⟨hIa, hIb, hIc, hId, hIe, hIf, hIg, hIh, hIi, hIj⟩ := id hI
  refine lv_aload_n hx hb dX0_shadowAt_0 rfl (lv_at hl 0 rfl) ?_
  refine lv_iload_n hx hb dX0_shadowAt_1 rfl (lv_at hl 1 rfl) ?_
  refine va_csv (W.runV (As := [.int (nI sk)]) (rest := []) ⟨hx, hb, hml, hown, hts⟩ (c_X0_checkStick l D cI h a u on sk hI (by omega)) (cwV 1 hts gX0_shadowAt_X0_checkStick rfl rfl rfl (by decide +kernel) ⟨Nat.le_of_ble_eq_true rfl, Nat.le_of_ble_eq_true rfl⟩) (pu_pre hK hP rfl rfl) rfl rfl hl.1 rfl (lv_room (Nat.le_of_ble_eq_true rfl)) dX0_shadowAt_2 ⟨Nat.le_of_ble_eq_true rfl, Nat.le_of_ble_eq_true rfl⟩) (fun _ => ?_)
  refine lv_aload_n hx hb dX0_shadowAt_5 rfl (lv_at hl 0 rfl) ?_
  refine lv_iload_n hx hb dX0_shadowAt_6 rfl (lv_at hl 2 rfl) ?_
  refine va_csv (W.runV (As := [.int (nI tt)]) (rest := []) ⟨hx, hb, hml, hown, hts⟩ (c_X0_checkMinute l D cI h a u on tt (by omega)) (cwV 1 hts gX0_shadowAt_X0_checkMinute rfl rfl rfl (by decide +kernel) ⟨Nat.le_of_ble_eq_true rfl, Nat.le_of_ble_eq_true rfl⟩) (pu_pre hK hP rfl rfl) rfl rfl hl.1 rfl (lv_room (Nat.le_of_ble_eq_true rfl)) dX0_shadowAt_7 ⟨Nat.le_of_ble_eq_true rfl, Nat.le_of_ble_eq_true rfl⟩) (fun _ => ?_)
  refine lv_aload_n hx hb dX0_shadowAt_10 rfl (lv_at hl 0 rfl) ?_
  refine lv_iload_n hx hb dX0_shadowAt_11 rfl (lv_at hl 1 rfl) ?_
  refine lv_iload_n hx hb dX0_shadowAt_12 rfl (lv_at hl 2 rfl) ?_
  refine vp_callSi (W.runV (As := [.int (nI sk), .int (nI tt)]) (rest := []) ⟨hx, hb, hml, hown, hts⟩ (c_X0_shadowOf l D cI h a u on sk tt (by omega)) (cwV 2 hts gX0_shadowAt_X0_shadowOf rfl rfl rfl (by decide +kernel) ⟨Nat.le_of_ble_eq_true rfl, Nat.le_of_ble_eq_true rfl⟩) (pu_pre hK hP rfl rfl) rfl rfl hl.1 rfl (lv_room (Nat.le_of_ble_eq_true rfl)) dX0_shadowAt_13 ⟨Nat.le_of_ble_eq_true rfl, Nat.le_of_ble_eq_true rfl⟩) (fun r hr => ?_)
  subst hr
  have hq : fShad u sk tt = fShad u sk tt := by rfl
  exact W.iret hx hb hr (fun t ht _ => ⟨_, rfl, hq, ht⟩) (fun _ h9 => nomatch h9) dX0_shadowAt_16
set_option maxHeartbeats 4000000 in
set_option maxRecDepth 100000 in
theorem c_X0_minuteOfShadow (l : Launch) (D : va_G) (cI : ClassId) (h : Nat) (a : Nat → Nat) (u : MS) (on : Nat → Int32) (sk : Nat) (len : Int32) (hI : Inv u) (hsk : sk < mSc u) : Met l yX0_minuteOfShadow wsX0_minuteOfShadow ({ frames := 1, cells := 0, slots := 0, locals := 22 } : Room) (va_Pc [.ref h, .int (nI sk), .int len] (fun U => va_P D vwCl (pic0 cI h a u on) U.heap ∧ va_K D vwCl [(cI, .int)] U)) (vp_Si (fun r => r = fMoS u sk len)) 0 0 (fun _ => False) := by
  refine en_pu (cc := cX0_minuteOfShadow) (maxL := 4) (ret := (some .int)) _ _ (by decide) rfl (Nat.le_of_ble_eq_true rfl) ?_
  intro p e s m args below meth c ls hx hb hml hr hlocks hts hown hP hK hl
  have hown : s.vm.findClass RX0 = some m.cls := hown
  have hin : ∀ w ∈ wsX00, w ∈ wsX0_minuteOfShadow := fun _ h9 => List.mem_cons_of_mem _ (List.mem_append_left _ (List.mem_append_right _ h9))
  have hl : lv_has ls 4 [(0, .ref h), (1, .int (nI sk)), (2, .int len)] := hl
  obtain ⟨hIa, hIb, hIc, hId, hIe, hIf, hIg, hIh, hIi, hIj⟩ := id hI
  refine lv_aload_n hx hb dX0_minuteOfShadow_0 rfl (lv_at hl 0 rfl) ?_
  refine lv_iload_n hx hb dX0_minuteOfShadow_1 rfl (lv_at hl 1 rfl) ?_
  refine va_csv (W.runV (As := [.int (nI sk)]) (rest := []) ⟨hx, hb, hml, hown, hts⟩ (c_X0_checkStick l D cI h a u on sk hI (by omega)) (cwV 1 hts gX0_minuteOfShadow_X0_checkStick rfl rfl rfl (by decide +kernel) ⟨Nat.le_of_ble_eq_true rfl, Nat.le_of_ble_eq_true rfl⟩) (pu_pre hK hP rfl rfl) rfl rfl hl.1 rfl (lv_room (Nat.le_of_ble_eq_true rfl)) dX0_minuteOfShadow_2 ⟨Nat.le_of_ble_eq_true rfl, Nat.le_of_ble_eq_true rfl⟩) (fun _ => ?_)
  refine lv_iconst (v := nI 0) hx hb dX0_minuteOfShadow_5 (by decide +kernel) ?_
  refine lv_istore_n (lv' := [(3, .int (nI 0)), (0, .ref h), (1, .int (nI sk)), (2, .int len)]) hx hb dX0_minuteOfShadow_6 rfl hl (by decide) rfl (fun ls hl => ?_)
  have lp7 : ∀ (n k : Nat), k + n = 360 → fMoS u sk len = fd (msB u sk len) n k → ∀ (ls : Array Slot), lv_has ls 4 [(0, .ref h), (1, .int (nI sk)), (2, .int len), (3, .int (nI k))] → W p l e ({ frames := 1, cells := 0, slots := 0, locals := 22 } : Room) s m args below meth c s.heap [] 0 0 (MQ below (vp_Si (fun r => r = fMoS u sk len)) args s 0 0 (fun _ => False)) (F0 m 7 ls []) := by
    intro n
    induction n with
    | zero =>
      intro k hk hq0 ls hl
      refine lv_iload_n hx hb dX0_minuteOfShadow_7 rfl (lv_at hl 3 rfl) ?_
      refine lv_sipush (v := nI 360) hx hb dX0_minuteOfShadow_8 (by decide +kernel) ?_
      refine lv_icmp_ge (tgt := 32) hx hb dX0_minuteOfShadow_11 (by decide) (fun c_11 => ?_) (fun c_11 => ?_)
      · skip
        replace c_11 : 360 ≤ k := leN c_11
        refine lv_iconst (v := (-1)) hx hb dX0_minuteOfShadow_32 (by decide +kernel) ?_
        have hq : (-1) = fMoS u sk len := by rw [hq0]; rfl
        exact W.iret hx hb hr (fun t ht _ => ⟨_, rfl, hq, ht⟩) (fun _ h9 => nomatch h9) dX0_minuteOfShadow_33
      · skip
        replace c_11 : k < 360 := nleN c_11
        exact (by omega : False).elim
    | succ n ih =>
      intro k hk hq0 ls hl
      refine lv_iload_n hx hb dX0_minuteOfShadow_7 rfl (lv_at hl 3 rfl) ?_
      refine lv_sipush (v := nI 360) hx hb dX0_minuteOfShadow_8 (by decide +kernel) ?_
      refine lv_icmp_ge (tgt := 32) hx hb dX0_minuteOfShadow_11 (by decide) (fun c_11 => ?_) (fun c_11 => ?_)
      · skip
        replace c_11 : 360 ≤ k := leN c_11
        exact (by omega : False).elim
      · skip
        replace c_11 : k < 360 := nleN c_11
        refine lv_aload_n hx hb dX0_minuteOfShadow_14 rfl (lv_at hl 0 rfl) ?_
        refine lv_iload_n hx hb dX0_minuteOfShadow_15 rfl (lv_at hl 1 rfl) ?_
        refine lv_iload_n hx hb dX0_minuteOfShadow_16 rfl (lv_at hl 3 rfl) ?_
        refine vp_callSi (W.runV (As := [.int (nI sk), .int (nI k)]) (rest := []) ⟨hx, hb, hml, hown, hts⟩ (c_X0_shadowOf l D cI h a u on sk k (by omega)) (cwV 2 hts gX0_minuteOfShadow_X0_shadowOf rfl rfl rfl (by decide +kernel) ⟨Nat.le_of_ble_eq_true rfl, Nat.le_of_ble_eq_true rfl⟩) (pu_pre hK hP rfl rfl) rfl rfl hl.1 rfl (lv_room (Nat.le_of_ble_eq_true rfl)) dX0_minuteOfShadow_17 ⟨Nat.le_of_ble_eq_true rfl, Nat.le_of_ble_eq_true rfl⟩) (fun r hr => ?_)
        subst hr
        refine lv_iload_n hx hb dX0_minuteOfShadow_20 rfl (lv_at hl 2 rfl) ?_
        refine lv_icmp_lt (tgt := 26) hx hb dX0_minuteOfShadow_21 (by decide) (fun c_21 => ?_) (fun c_21 => ?_)
        · skip
          refine lv_iinc (v := nI (k + 1)) (lv' := [(3, .int (nI (k + 1))), (0, .ref h), (1, .int (nI sk)), (2, .int len)]) hx hb dX0_minuteOfShadow_26 hl (k := 3) rfl (nI_i1 _) (by decide) rfl (fun ls hl => ?_)
          refine lv_goto (tgt := 7) hx hb dX0_minuteOfShadow_29 (by decide) ?_
          exact ih (k + 1) (by omega) (by rw [hq0, fd_miss (decide_eq_false (Int32.not_le.mpr c_21))]) _ (lv_sub hl [1, 2, 3, 0] rfl)
        · skip
          refine lv_iload_n hx hb dX0_minuteOfShadow_24 rfl (lv_at hl 3 rfl) ?_
          have hq : nI k = fMoS u sk len := by rw [hq0, fd_hit (decide_eq_true (leI c_21))]
          exact W.iret hx hb hr (fun t ht _ => ⟨_, rfl, hq, ht⟩) (fun _ h9 => nomatch h9) dX0_minuteOfShadow_25
  exact lp7 _ 0 (Nat.zero_add _) (by rfl) _ (lv_sub hl [1, 2, 3, 0] rfl)
set_option maxHeartbeats 4000000 in
set_option maxRecDepth 100000 in
theorem c_X0_allShadows (l : Launch) (D : va_G) (cI : ClassId) (h : Nat) (a : Nat → Nat) (u : MS) (on : Nat → Int32) (tt : Nat) (hI : Inv u) (ht : tt < 360) : Met l yX0_allShadows wsX0_allShadows ({ frames := 2, cells := 0, slots := 0, locals := 45 } : Room) (va_Pc [.ref h, .int (nI tt)] (fun U => va_P D vwCl (pic0 cI h a u on) U.heap ∧ va_K D vwCl [(cI, .int)] U)) (vp_Si (fun r => r = fSum u tt)) 0 0 (fun _ => False) := by
  refine en_pu (cc := cX0_allShadows) (maxL := 2) (ret := (some .int)) _ _ (by decide) rfl (Nat.le_of_ble_eq_true rfl) ?_
  intro p e s m args below meth c ls hx hb hml hr hlocks hts hown hP hK hl
  have hown : s.vm.findClass RX0 = some m.cls := hown
  have hin : ∀ w ∈ wsX00, w ∈ wsX0_allShadows := fun _ h9 => List.mem_cons_of_mem _ (List.mem_append_left _ (List.mem_append_right _ h9))
  have hl : lv_has ls 2 [(0, .ref h), (1, .int (nI tt))] := hl
  obtain ⟨hIa, hIb, hIc, hId, hIe, hIf, hIg, hIh, hIi, hIj⟩ := id hI
  refine lv_aload_n hx hb dX0_allShadows_0 rfl (lv_at hl 0 rfl) ?_
  refine lv_iload_n hx hb dX0_allShadows_1 rfl (lv_at hl 1 rfl) ?_
  refine va_csv (W.runV (As := [.int (nI tt)]) (rest := []) ⟨hx, hb, hml, hown, hts⟩ (c_X0_checkMinute l D cI h a u on tt (by omega)) (cwV 1 hts gX0_allShadows_X0_checkMinute rfl rfl rfl (by decide +kernel) ⟨Nat.le_of_ble_eq_true rfl, Nat.le_of_ble_eq_true rfl⟩) (pu_pre hK hP rfl rfl) rfl rfl hl.1 rfl (lv_room (Nat.le_of_ble_eq_true rfl)) dX0_allShadows_2 ⟨Nat.le_of_ble_eq_true rfl, Nat.le_of_ble_eq_true rfl⟩) (fun _ => ?_)
  refine lv_aload_n hx hb dX0_allShadows_5 rfl (lv_at hl 0 rfl) ?_
  refine lv_iload_n hx hb dX0_allShadows_6 rfl (lv_at hl 1 rfl) ?_
  refine vp_callSi (W.runV (As := [.int (nI tt)]) (rest := []) ⟨hx, hb, hml, hown, hts⟩ (c_X0_sumOfShadows l D cI h a u on tt hI) (cwV 1 hts gX0_allShadows_X0_sumOfShadows rfl rfl rfl (by decide +kernel) ⟨Nat.le_of_ble_eq_true rfl, Nat.le_of_ble_eq_true rfl⟩) (pu_pre hK hP rfl rfl) rfl rfl hl.1 rfl (lv_room (Nat.le_of_ble_eq_true rfl)) dX0_allShadows_7 ⟨Nat.le_of_ble_eq_true rfl, Nat.le_of_ble_eq_true rfl⟩) (fun r hr => ?_)
  subst hr
  have hq : fSum u tt = fSum u tt := by rfl
  exact W.iret hx hb hr (fun t ht _ => ⟨_, rfl, hq, ht⟩) (fun _ h9 => nomatch h9) dX0_allShadows_10
set_option maxHeartbeats 4000000 in
set_option maxRecDepth 100000 in
theorem c_X0_startOf (l : Launch) (D : va_G) (cI : ClassId) (h : Nat) (a : Nat → Nat) (u : MS) (on : Nat → Int32) (np : Nat) (hI : Inv u) (hnp : np < mNc u) : Met l yX0_startOf wsX0_startOf ({ frames := 1, cells := 0, slots := 0, locals := 21 } : Room) (va_Pc [.ref h, .int (nI np)] (fun U => va_P D vwCl (pic0 cI h a u on) U.heap ∧ va_K D vwCl [(cI, .int)] U)) (vp_Si (fun r => r = nI (aN u np))) 0 0 (fun _ => False) := by
  refine en_pu (cc := cX0_startOf) (maxL := 2) (ret := (some .int)) _ _ (by decide) rfl (Nat.le_of_ble_eq_true rfl) ?_
  intro p e s m args below meth c ls hx hb hml hr hlocks hts hown hP hK hl
  have hown : s.vm.findClass RX0 = some m.cls := hown
  have hin : ∀ w ∈ wsX00, w ∈ wsX0_startOf := fun _ h9 => List.mem_cons_of_mem _ (List.mem_append_left _ (List.mem_append_right _ h9))
  have hl : lv_has ls 2 [(0, .ref h), (1, .int (nI np))] := hl
  obtain ⟨hIa, hIb, hIc, hId, hIe, hIf, hIg, hIh, hIi, hIj⟩ := id hI
  refine lv_aload_n hx hb dX0_startOf_0 rfl (lv_at hl 0 rfl) ?_
  refine lv_iload_n hx hb dX0_startOf_1 rfl (lv_at hl 1 rfl) ?_
  refine va_csv (W.runV (As := [.int (nI np)]) (rest := []) ⟨hx, hb, hml, hown, hts⟩ (c_X0_checkNap l D cI h a u on np hI (by omega)) (cwV 1 hts gX0_startOf_X0_checkNap rfl rfl rfl (by decide +kernel) ⟨Nat.le_of_ble_eq_true rfl, Nat.le_of_ble_eq_true rfl⟩) (pu_pre hK hP rfl rfl) rfl rfl hl.1 rfl (lv_room (Nat.le_of_ble_eq_true rfl)) dX0_startOf_2 ⟨Nat.le_of_ble_eq_true rfl, Nat.le_of_ble_eq_true rfl⟩) (fun _ => ?_)
  refine lv_aload_n hx hb dX0_startOf_5 rfl (lv_at hl 0 rfl) ?_
  refine va_get (D := D) (ci := 0) (v := .ref (a 1)) (C := RX0) (T := TX0) (N := 17) hx hb hts hin hown hK hP 0 rfl rfl 2 (by decide) (hts (.fieldLink RX0 13 "AfternoonMeter" "napStarts" "[I") (List.mem_of_getElem? (i := 1) rfl)) (fun _ h9 => h9) rfl dX0_startOf_6 ?_
  refine lv_iload_n hx hb dX0_startOf_9 rfl (lv_at hl 1 rfl) ?_
  refine q_iald (v := nI (aN u np)) hx hb hK hP 2 0 rfl rfl (by omega) (by decide) ((hIg np (by omega)).1) dX0_startOf_10 ?_
  obtain ⟨_, _, _, _⟩ := hIg np (by omega)
  have hq : nI (aN u np) = nI (aN u np) := by rfl
  exact W.iret hx hb hr (fun t ht _ => ⟨_, rfl, hq, ht⟩) (fun _ h9 => nomatch h9) dX0_startOf_11
set_option maxHeartbeats 4000000 in
set_option maxRecDepth 100000 in
theorem c_X0_lengthOf (l : Launch) (D : va_G) (cI : ClassId) (h : Nat) (a : Nat → Nat) (u : MS) (on : Nat → Int32) (np : Nat) (hI : Inv u) (hnp : np < mNc u) : Met l yX0_lengthOf wsX0_lengthOf ({ frames := 1, cells := 0, slots := 0, locals := 21 } : Room) (va_Pc [.ref h, .int (nI np)] (fun U => va_P D vwCl (pic0 cI h a u on) U.heap ∧ va_K D vwCl [(cI, .int)] U)) (vp_Si (fun r => r = nI (bN u np - aN u np))) 0 0 (fun _ => False) := by
  refine en_pu (cc := cX0_lengthOf) (maxL := 2) (ret := (some .int)) _ _ (by decide) rfl (Nat.le_of_ble_eq_true rfl) ?_
  intro p e s m args below meth c ls hx hb hml hr hlocks hts hown hP hK hl
  have hown : s.vm.findClass RX0 = some m.cls := hown
  have hin : ∀ w ∈ wsX00, w ∈ wsX0_lengthOf := fun _ h9 => List.mem_cons_of_mem _ (List.mem_append_left _ (List.mem_append_right _ h9))
  have hl : lv_has ls 2 [(0, .ref h), (1, .int (nI np))] := hl
  obtain ⟨hIa, hIb, hIc, hId, hIe, hIf, hIg, hIh, hIi, hIj⟩ := id hI
  refine lv_aload_n hx hb dX0_lengthOf_0 rfl (lv_at hl 0 rfl) ?_
  refine lv_iload_n hx hb dX0_lengthOf_1 rfl (lv_at hl 1 rfl) ?_
  refine va_csv (W.runV (As := [.int (nI np)]) (rest := []) ⟨hx, hb, hml, hown, hts⟩ (c_X0_checkNap l D cI h a u on np hI (by omega)) (cwV 1 hts gX0_lengthOf_X0_checkNap rfl rfl rfl (by decide +kernel) ⟨Nat.le_of_ble_eq_true rfl, Nat.le_of_ble_eq_true rfl⟩) (pu_pre hK hP rfl rfl) rfl rfl hl.1 rfl (lv_room (Nat.le_of_ble_eq_true rfl)) dX0_lengthOf_2 ⟨Nat.le_of_ble_eq_true rfl, Nat.le_of_ble_eq_true rfl⟩) (fun _ => ?_)
  refine lv_aload_n hx hb dX0_lengthOf_5 rfl (lv_at hl 0 rfl) ?_
  refine va_get (D := D) (ci := 0) (v := .ref (a 2)) (C := RX0) (T := TX0) (N := 17) hx hb hts hin hown hK hP 0 rfl rfl 3 (by decide) (hts (.fieldLink RX0 16 "AfternoonMeter" "napEnds" "[I") (List.mem_of_getElem? (i := 1) rfl)) (fun _ h9 => h9) rfl dX0_lengthOf_6 ?_
  refine lv_iload_n hx hb dX0_lengthOf_9 rfl (lv_at hl 1 rfl) ?_
  refine q_iald (v := nI (bN u np)) hx hb hK hP 3 0 rfl rfl (by omega) (by decide) ((hIg np (by omega)).2.1) dX0_lengthOf_10 ?_
  obtain ⟨_, _, _, _⟩ := hIg np (by omega)
  refine lv_aload_n hx hb dX0_lengthOf_11 rfl (lv_at hl 0 rfl) ?_
  refine va_get (D := D) (ci := 0) (v := .ref (a 1)) (C := RX0) (T := TX0) (N := 17) hx hb hts hin hown hK hP 0 rfl rfl 2 (by decide) (hts (.fieldLink RX0 13 "AfternoonMeter" "napStarts" "[I") (List.mem_of_getElem? (i := 2) rfl)) (fun _ h9 => h9) rfl dX0_lengthOf_12 ?_
  refine lv_iload_n hx hb dX0_lengthOf_15 rfl (lv_at hl 1 rfl) ?_
  refine q_iald (v := nI (aN u np)) hx hb hK hP 2 0 rfl rfl (by omega) (by decide) ((hIg np (by omega)).1) dX0_lengthOf_16 ?_
  obtain ⟨_, _, _, _⟩ := hIg np (by omega)
  refine q_isubN hx hb (by omega) dX0_lengthOf_17 ?_
  have hq : nI ((bN u np) - (aN u np)) = nI (bN u np - aN u np) := by rfl
  exact W.iret hx hb hr (fun t ht _ => ⟨_, rfl, hq, ht⟩) (fun _ h9 => nomatch h9) dX0_lengthOf_18
set_option maxHeartbeats 4000000 in
set_option maxRecDepth 100000 in
theorem c_X0_napsAt (l : Launch) (D : va_G) (cI : ClassId) (h : Nat) (a : Nat → Nat) (u : MS) (on : Nat → Int32) (tt : Nat) (hI : Inv u) (ht : tt < 360) : Met l yX0_napsAt wsX0_napsAt ({ frames := 1, cells := 0, slots := 0, locals := 21 } : Room) (va_Pc [.ref h, .int (nI tt)] (fun U => va_P D vwCl (pic0 cI h a u on) U.heap ∧ va_K D vwCl [(cI, .int)] U)) (vp_Si (fun r => r = nI (cN u tt))) 0 0 (fun _ => False) := by
  refine en_pu (cc := cX0_napsAt) (maxL := 2) (ret := (some .int)) _ _ (by decide) rfl (Nat.le_of_ble_eq_true rfl) ?_
  intro p e s m args below meth c ls hx hb hml hr hlocks hts hown hP hK hl
  have hown : s.vm.findClass RX0 = some m.cls := hown
  have hin : ∀ w ∈ wsX00, w ∈ wsX0_napsAt := fun _ h9 => List.mem_cons_of_mem _ (List.mem_append_left _ (List.mem_append_right _ h9))
  have hl : lv_has ls 2 [(0, .ref h), (1, .int (nI tt))] := hl
  obtain ⟨hIa, hIb, hIc, hId, hIe, hIf, hIg, hIh, hIi, hIj⟩ := id hI
  refine lv_aload_n hx hb dX0_napsAt_0 rfl (lv_at hl 0 rfl) ?_
  refine lv_iload_n hx hb dX0_napsAt_1 rfl (lv_at hl 1 rfl) ?_
  refine va_csv (W.runV (As := [.int (nI tt)]) (rest := []) ⟨hx, hb, hml, hown, hts⟩ (c_X0_checkMinute l D cI h a u on tt (by omega)) (cwV 1 hts gX0_napsAt_X0_checkMinute rfl rfl rfl (by decide +kernel) ⟨Nat.le_of_ble_eq_true rfl, Nat.le_of_ble_eq_true rfl⟩) (pu_pre hK hP rfl rfl) rfl rfl hl.1 rfl (lv_room (Nat.le_of_ble_eq_true rfl)) dX0_napsAt_2 ⟨Nat.le_of_ble_eq_true rfl, Nat.le_of_ble_eq_true rfl⟩) (fun _ => ?_)
  refine lv_aload_n hx hb dX0_napsAt_5 rfl (lv_at hl 0 rfl) ?_
  refine va_get (D := D) (ci := 0) (v := .ref (a 3)) (C := RX0) (T := TX0) (N := 17) hx hb hts hin hown hK hP 0 rfl rfl 5 (by decide) (hts (.fieldLink RX0 19 "AfternoonMeter" "napsOver" "[I") (List.mem_of_getElem? (i := 1) rfl)) (fun _ h9 => h9) rfl dX0_napsAt_6 ?_
  refine lv_iload_n hx hb dX0_napsAt_9 rfl (lv_at hl 1 rfl) ?_
  refine q_iald (v := nI (cN u tt)) hx hb hK hP 4 0 rfl rfl (by omega) (by decide) (hIh tt (by omega)) dX0_napsAt_10 ?_
  have hcn := cN_le u tt
  have hq : nI (cN u tt) = nI (cN u tt) := by rfl
  exact W.iret hx hb hr (fun t ht _ => ⟨_, rfl, hq, ht⟩) (fun _ h9 => nomatch h9) dX0_napsAt_11
set_option maxHeartbeats 4000000 in
set_option maxRecDepth 100000 in
theorem c_X0_minutesAlone (l : Launch) (D : va_G) (cI : ClassId) (h : Nat) (a : Nat → Nat) (u : MS) (on : Nat → Int32) (np : Nat) (hI : Inv u) (hnp : np < mNc u) : Met l yX0_minutesAlone wsX0_minutesAlone ({ frames := 2, cells := 0, slots := 0, locals := 45 } : Room) (va_Pc [.ref h, .int (nI np)] (fun U => va_P D vwCl (pic0 cI h a u on) U.heap ∧ va_K D vwCl [(cI, .int)] U)) (vp_Si (fun r => r = fAl u np)) 0 0 (fun _ => False) := by
  refine en_pu (cc := cX0_minutesAlone) (maxL := 2) (ret := (some .int)) _ _ (by decide) rfl (Nat.le_of_ble_eq_true rfl) ?_
  intro p e s m args below meth c ls hx hb hml hr hlocks hts hown hP hK hl
  have hown : s.vm.findClass RX0 = some m.cls := hown
  have hin : ∀ w ∈ wsX00, w ∈ wsX0_minutesAlone := fun _ h9 => List.mem_cons_of_mem _ (List.mem_append_left _ (List.mem_append_right _ h9))
  have hl : lv_has ls 2 [(0, .ref h), (1, .int (nI np))] := hl
  obtain ⟨hIa, hIb, hIc, hId, hIe, hIf, hIg, hIh, hIi, hIj⟩ := id hI
  refine lv_aload_n hx hb dX0_minutesAlone_0 rfl (lv_at hl 0 rfl) ?_
  refine lv_iload_n hx hb dX0_minutesAlone_1 rfl (lv_at hl 1 rfl) ?_
  refine va_csv (W.runV (As := [.int (nI np)]) (rest := []) ⟨hx, hb, hml, hown, hts⟩ (c_X0_checkNap l D cI h a u on np hI (by omega)) (cwV 1 hts gX0_minutesAlone_X0_checkNap rfl rfl rfl (by decide +kernel) ⟨Nat.le_of_ble_eq_true rfl, Nat.le_of_ble_eq_true rfl⟩) (pu_pre hK hP rfl rfl) rfl rfl hl.1 rfl (lv_room (Nat.le_of_ble_eq_true rfl)) dX0_minutesAlone_2 ⟨Nat.le_of_ble_eq_true rfl, Nat.le_of_ble_eq_true rfl⟩) (fun _ => ?_)
  refine lv_aload_n hx hb dX0_minutesAlone_5 rfl (lv_at hl 0 rfl) ?_
  refine lv_iload_n hx hb dX0_minutesAlone_6 rfl (lv_at hl 1 rfl) ?_
  refine vp_callSi (W.runV (As := [.int (nI np)]) (rest := []) ⟨hx, hb, hml, hown, hts⟩ (c_X0_countAlone l D cI h a u on np hI (by omega)) (cwV 1 hts gX0_minutesAlone_X0_countAlone rfl rfl rfl (by decide +kernel) ⟨Nat.le_of_ble_eq_true rfl, Nat.le_of_ble_eq_true rfl⟩) (pu_pre hK hP rfl rfl) rfl rfl hl.1 rfl (lv_room (Nat.le_of_ble_eq_true rfl)) dX0_minutesAlone_7 ⟨Nat.le_of_ble_eq_true rfl, Nat.le_of_ble_eq_true rfl⟩) (fun r hr => ?_)
  subst hr
  have hq : fAl u np = fAl u np := by rfl
  exact W.iret hx hb hr (fun t ht _ => ⟨_, rfl, hq, ht⟩) (fun _ h9 => nomatch h9) dX0_minutesAlone_10
set_option maxHeartbeats 4000000 in
set_option maxRecDepth 100000 in
theorem c_X0_ticksOf (l : Launch) (D : va_G) (cI : ClassId) (h : Nat) (a : Nat → Nat) (u : MS) (on : Nat → Int32) (bb : Nat) (hI : Inv u) (hbb : bb < mBc u) : Met l yX0_ticksOf wsX0_ticksOf ({ frames := 3, cells := 0, slots := 0, locals := 68 } : Room) (va_Pc [.ref h, .int (nI bb)] (fun U => va_P D vwCl (pic0 cI h a u on) U.heap ∧ va_K D vwCl [(cI, .int)] U)) (vp_Si (fun r => r = fTk u bb)) 0 0 (fun _ => False) := by
  refine en_pu (cc := cX0_ticksOf) (maxL := 2) (ret := (some .int)) _ _ (by decide) rfl (Nat.le_of_ble_eq_true rfl) ?_
  intro p e s m args below meth c ls hx hb hml hr hlocks hts hown hP hK hl
  have hown : s.vm.findClass RX0 = some m.cls := hown
  have hin : ∀ w ∈ wsX00, w ∈ wsX0_ticksOf := fun _ h9 => List.mem_cons_of_mem _ (List.mem_append_left _ (List.mem_append_right _ h9))
  have hl : lv_has ls 2 [(0, .ref h), (1, .int (nI bb))] := hl
  obtain ⟨hIa, hIb, hIc, hId, hIe, hIf, hIg, hIh, hIi, hIj⟩ := id hI
  refine lv_aload_n hx hb dX0_ticksOf_0 rfl (lv_at hl 0 rfl) ?_
  refine lv_iload_n hx hb dX0_ticksOf_1 rfl (lv_at hl 1 rfl) ?_
  refine va_csv (W.runV (As := [.int (nI bb)]) (rest := []) ⟨hx, hb, hml, hown, hts⟩ (c_X0_checkBee l D cI h a u on bb hI (by omega)) (cwV 1 hts gX0_ticksOf_X0_checkBee rfl rfl rfl (by decide +kernel) ⟨Nat.le_of_ble_eq_true rfl, Nat.le_of_ble_eq_true rfl⟩) (pu_pre hK hP rfl rfl) rfl rfl hl.1 rfl (lv_room (Nat.le_of_ble_eq_true rfl)) dX0_ticksOf_2 ⟨Nat.le_of_ble_eq_true rfl, Nat.le_of_ble_eq_true rfl⟩) (fun _ => ?_)
  refine lv_aload_n hx hb dX0_ticksOf_5 rfl (lv_at hl 0 rfl) ?_
  refine lv_iload_n hx hb dX0_ticksOf_6 rfl (lv_at hl 1 rfl) ?_
  refine vp_callSi (W.runV (As := [.int (nI bb)]) (rest := []) ⟨hx, hb, hml, hown, hts⟩ (c_X0_countTicks l D cI h a u on bb hI (by omega)) (cwV 1 hts gX0_ticksOf_X0_countTicks rfl rfl rfl (by decide +kernel) ⟨Nat.le_of_ble_eq_true rfl, Nat.le_of_ble_eq_true rfl⟩) (pu_pre hK hP rfl rfl) rfl rfl hl.1 rfl (lv_room (Nat.le_of_ble_eq_true rfl)) dX0_ticksOf_7 ⟨Nat.le_of_ble_eq_true rfl, Nat.le_of_ble_eq_true rfl⟩) (fun r hr => ?_)
  subst hr
  have hq : fTk u bb = fTk u bb := by rfl
  exact W.iret hx hb hr (fun t ht _ => ⟨_, rfl, hq, ht⟩) (fun _ h9 => nomatch h9) dX0_ticksOf_10
set_option maxHeartbeats 4000000 in
set_option maxRecDepth 100000 in
theorem c_X0_measuredBy (l : Launch) (D : va_G) (cI : ClassId) (h : Nat) (a : Nat → Nat) (u : MS) (on : Nat → Int32) (bb : Nat) (hI : Inv u) (hbb : bb < mBc u) : Met l yX0_measuredBy wsX0_measuredBy ({ frames := 3, cells := 0, slots := 0, locals := 68 } : Room) (va_Pc [.ref h, .int (nI bb)] (fun U => va_P D vwCl (pic0 cI h a u on) U.heap ∧ va_K D vwCl [(cI, .int)] U)) (vp_Si (fun r => r = fMe u bb)) 0 0 (fun _ => False) := by
  refine en_pu (cc := cX0_measuredBy) (maxL := 2) (ret := (some .int)) _ _ (by decide) rfl (Nat.le_of_ble_eq_true rfl) ?_
  intro p e s m args below meth c ls hx hb hml hr hlocks hts hown hP hK hl
  have hown : s.vm.findClass RX0 = some m.cls := hown
  have hin : ∀ w ∈ wsX00, w ∈ wsX0_measuredBy := fun _ h9 => List.mem_cons_of_mem _ (List.mem_append_left _ (List.mem_append_right _ h9))
  have hl : lv_has ls 2 [(0, .ref h), (1, .int (nI bb))] := hl
  obtain ⟨hIa, hIb, hIc, hId, hIe, hIf, hIg, hIh, hIi, hIj⟩ := id hI
  refine lv_aload_n hx hb dX0_measuredBy_0 rfl (lv_at hl 0 rfl) ?_
  refine lv_iload_n hx hb dX0_measuredBy_1 rfl (lv_at hl 1 rfl) ?_
  refine va_csv (W.runV (As := [.int (nI bb)]) (rest := []) ⟨hx, hb, hml, hown, hts⟩ (c_X0_checkBee l D cI h a u on bb hI (by omega)) (cwV 1 hts gX0_measuredBy_X0_checkBee rfl rfl rfl (by decide +kernel) ⟨Nat.le_of_ble_eq_true rfl, Nat.le_of_ble_eq_true rfl⟩) (pu_pre hK hP rfl rfl) rfl rfl hl.1 rfl (lv_room (Nat.le_of_ble_eq_true rfl)) dX0_measuredBy_2 ⟨Nat.le_of_ble_eq_true rfl, Nat.le_of_ble_eq_true rfl⟩) (fun _ => ?_)
  refine lv_aload_n hx hb dX0_measuredBy_5 rfl (lv_at hl 0 rfl) ?_
  refine lv_iload_n hx hb dX0_measuredBy_6 rfl (lv_at hl 1 rfl) ?_
  refine vp_callSi (W.runV (As := [.int (nI bb)]) (rest := []) ⟨hx, hb, hml, hown, hts⟩ (c_X0_countTicks l D cI h a u on bb hI (by omega)) (cwV 1 hts gX0_measuredBy_X0_countTicks rfl rfl rfl (by decide +kernel) ⟨Nat.le_of_ble_eq_true rfl, Nat.le_of_ble_eq_true rfl⟩) (pu_pre hK hP rfl rfl) rfl rfl hl.1 rfl (lv_room (Nat.le_of_ble_eq_true rfl)) dX0_measuredBy_7 ⟨Nat.le_of_ble_eq_true rfl, Nat.le_of_ble_eq_true rfl⟩) (fun r hr => ?_)
  subst hr
  refine lv_aload_n hx hb dX0_measuredBy_10 rfl (lv_at hl 0 rfl) ?_
  refine va_get (D := D) (ci := 0) (v := .ref (a 4)) (C := RX0) (T := TX0) (N := 17) hx hb hts hin hown hK hP 0 rfl rfl 6 (by decide) (hts (.fieldLink RX0 22 "AfternoonMeter" "periods" "[I") (List.mem_of_getElem? (i := 1) rfl)) (fun _ h9 => h9) rfl dX0_measuredBy_11 ?_
  refine lv_iload_n hx hb dX0_measuredBy_14 rfl (lv_at hl 1 rfl) ?_
  refine q_iald (v := nI (pN u bb)) hx hb hK hP 5 0 rfl rfl (by omega) (by decide) ((hIf bb (by omega)).1) dX0_measuredBy_15 ?_
  obtain ⟨_, _, _, _, _⟩ := hIf bb (by omega)
  refine lv_imul hx hb dX0_measuredBy_16 ?_
  have hq : (fTk u bb) * (nI (pN u bb)) = fMe u bb := by rfl
  exact W.iret hx hb hr (fun t ht _ => ⟨_, rfl, hq, ht⟩) (fun _ h9 => nomatch h9) dX0_measuredBy_17
set_option maxHeartbeats 4000000 in
set_option maxRecDepth 100000 in
theorem c_X0_errorOf (l : Launch) (D : va_G) (cI : ClassId) (h : Nat) (a : Nat → Nat) (u : MS) (on : Nat → Int32) (bb : Nat) (hI : Inv u) (hbb : bb < mBc u) : Met l yX0_errorOf wsX0_errorOf ({ frames := 4, cells := 0, slots := 0, locals := 89 } : Room) (va_Pc [.ref h, .int (nI bb)] (fun U => va_P D vwCl (pic0 cI h a u on) U.heap ∧ va_K D vwCl [(cI, .int)] U)) (vp_Si (fun r => r = fEr u bb)) 0 0 (fun _ => False) := by
  refine en_pu (cc := cX0_errorOf) (maxL := 2) (ret := (some .int)) _ _ (by decide) rfl (Nat.le_of_ble_eq_true rfl) ?_
  intro p e s m args below meth c ls hx hb hml hr hlocks hts hown hP hK hl
  have hown : s.vm.findClass RX0 = some m.cls := hown
  have hin : ∀ w ∈ wsX00, w ∈ wsX0_errorOf := fun _ h9 => List.mem_cons_of_mem _ (List.mem_append_left _ (List.mem_append_right _ h9))
  have hl : lv_has ls 2 [(0, .ref h), (1, .int (nI bb))] := hl
  obtain ⟨hIa, hIb, hIc, hId, hIe, hIf, hIg, hIh, hIi, hIj⟩ := id hI
  refine lv_aload_n hx hb dX0_errorOf_0 rfl (lv_at hl 0 rfl) ?_
  refine lv_iload_n hx hb dX0_errorOf_1 rfl (lv_at hl 1 rfl) ?_
  refine vp_callSi (W.runV (As := [.int (nI bb)]) (rest := []) ⟨hx, hb, hml, hown, hts⟩ (c_X0_measuredBy l D cI h a u on bb hI (by omega)) (cwV 1 hts gX0_errorOf_X0_measuredBy rfl rfl rfl (by decide +kernel) ⟨Nat.le_of_ble_eq_true rfl, Nat.le_of_ble_eq_true rfl⟩) (pu_pre hK hP rfl rfl) rfl rfl hl.1 rfl (lv_room (Nat.le_of_ble_eq_true rfl)) dX0_errorOf_2 ⟨Nat.le_of_ble_eq_true rfl, Nat.le_of_ble_eq_true rfl⟩) (fun r hr => ?_)
  subst hr
  refine lv_aload_n hx hb dX0_errorOf_5 rfl (lv_at hl 0 rfl) ?_
  refine vp_callSi (W.runV (As := []) (rest := [.int (fMe u bb)]) ⟨hx, hb, hml, hown, hts⟩ (c_X0_awakeMinutes l D cI h a u on hI) (cwV 0 hts gX0_errorOf_X0_awakeMinutes rfl rfl rfl (by decide +kernel) ⟨Nat.le_of_ble_eq_true rfl, Nat.le_of_ble_eq_true rfl⟩) (pu_pre hK hP rfl rfl) rfl rfl hl.1 rfl (lv_room (Nat.le_of_ble_eq_true rfl)) dX0_errorOf_6 ⟨Nat.le_of_ble_eq_true rfl, Nat.le_of_ble_eq_true rfl⟩) (fun r hr => ?_)
  subst hr
  refine lv_isub hx hb dX0_errorOf_9 ?_
  have hq : (fMe u bb) - (fAw u) = fEr u bb := by rfl
  exact W.iret hx hb hr (fun t ht _ => ⟨_, rfl, hq, ht⟩) (fun _ h9 => nomatch h9) dX0_errorOf_10
set_option maxHeartbeats 4000000 in
set_option maxRecDepth 100000 in
theorem c_X0_bestBee (l : Launch) (D : va_G) (cI : ClassId) (h : Nat) (a : Nat → Nat) (u : MS) (on : Nat → Int32) (hI : Inv u) : Met l yX0_bestBee wsX0_bestBee ({ frames := 5, cells := 0, slots := 0, locals := 110 } : Room) (va_Pc [.ref h] (fun U => va_P D vwCl (pic0 cI h a u on) U.heap ∧ va_K D vwCl [(cI, .int)] U)) (vp_Si (fun r => r = fBB u)) 0 0 (fun _ => False) := by
  refine en_pu (cc := cX0_bestBee) (maxL := 5) (ret := (some .int)) _ _ (by decide) rfl (Nat.le_of_ble_eq_true rfl) ?_
  intro p e s m args below meth c ls hx hb hml hr hlocks hts hown hP hK hl
  have hown : s.vm.findClass RX0 = some m.cls := hown
  have hin : ∀ w ∈ wsX00, w ∈ wsX0_bestBee := fun _ h9 => List.mem_cons_of_mem _ (List.mem_append_left _ (List.mem_append_right _ h9))
  have hl : lv_has ls 5 [(0, .ref h)] := hl
  obtain ⟨hIa, hIb, hIc, hId, hIe, hIf, hIg, hIh, hIi, hIj⟩ := id hI
  refine lv_iconst (v := (-1)) hx hb dX0_bestBee_0 (by decide +kernel) ?_
  refine lv_istore_n (lv' := [(1, .int (-1)), (0, .ref h)]) hx hb dX0_bestBee_1 rfl hl (by decide) rfl (fun ls hl => ?_)
  refine lv_iconst (v := nI 0) hx hb dX0_bestBee_2 (by decide +kernel) ?_
  refine lv_istore_n (lv' := [(2, .int (nI 0)), (1, .int (-1)), (0, .ref h)]) hx hb dX0_bestBee_3 rfl hl (by decide) rfl (fun ls hl => ?_)
  refine lv_iconst (v := nI 0) hx hb dX0_bestBee_4 (by decide +kernel) ?_
  refine lv_istore_n (lv' := [(3, .int (nI 0)), (2, .int (nI 0)), (1, .int (-1)), (0, .ref h)]) hx hb dX0_bestBee_5 rfl hl (by decide) rfl (fun ls hl => ?_)
  have lp6 : ∀ (n k : Nat), k + n = mBc u → ∀ (X : Int32), X = (bbS u k).1 → ∀ (Y : Int32), Y = (bbS u k).2 → ∀ (ls : Array Slot), lv_has ls 5 [(0, .ref h), (1, .int X), (2, .int Y), (3, .int (nI k))] → W p l e ({ frames := 5, cells := 0, slots := 0, locals := 110 } : Room) s m args below meth c s.heap [] 0 0 (MQ below (vp_Si (fun r => r = fBB u)) args s 0 0 (fun _ => False)) (F0 m 6 ls []) := by
    intro n
    induction n with
    | zero =>
      intro k hk X eX Y eY ls hl
      have ek : k = mBc u := by omega
      refine lv_iload_n hx hb dX0_bestBee_6 rfl (lv_at hl 3 rfl) ?_
      refine lv_aload_n hx hb dX0_bestBee_7 rfl (lv_at hl 0 rfl) ?_
      refine va_get (D := D) (ci := 0) (v := .int (nI (mBc u))) (C := RX0) (T := TX0) (N := 17) hx hb hts hin hown hK hP 0 rfl rfl 8 (by decide) (hts (.fieldLink RX0 73 "AfternoonMeter" "beeCount" "I") (List.mem_of_getElem? (i := 1) rfl)) (fun _ h9 => h9) rfl dX0_bestBee_8 ?_
      refine lv_icmp_ge (tgt := 46) hx hb dX0_bestBee_11 (by decide) (fun c_11 => ?_) (fun c_11 => ?_)
      · skip
        replace c_11 : (mBc u) ≤ k := leN c_11
        refine lv_iload_n hx hb dX0_bestBee_46 rfl (lv_at hl 1 rfl) ?_
        have hq : X = fBB u := by rw [eX, ek]; rfl
        exact W.iret hx hb hr (fun t ht _ => ⟨_, rfl, hq, ht⟩) (fun _ h9 => nomatch h9) dX0_bestBee_47
      · skip
        replace c_11 : k < (mBc u) := nleN c_11
        exact (by omega : False).elim
    | succ n ih =>
      intro k hk X eX Y eY ls hl
      refine lv_iload_n hx hb dX0_bestBee_6 rfl (lv_at hl 3 rfl) ?_
      refine lv_aload_n hx hb dX0_bestBee_7 rfl (lv_at hl 0 rfl) ?_
      refine va_get (D := D) (ci := 0) (v := .int (nI (mBc u))) (C := RX0) (T := TX0) (N := 17) hx hb hts hin hown hK hP 0 rfl rfl 8 (by decide) (hts (.fieldLink RX0 73 "AfternoonMeter" "beeCount" "I") (List.mem_of_getElem? (i := 1) rfl)) (fun _ h9 => h9) rfl dX0_bestBee_8 ?_
      refine lv_icmp_ge (tgt := 46) hx hb dX0_bestBee_11 (by decide) (fun c_11 => ?_) (fun c_11 => ?_)
      · skip
        replace c_11 : (mBc u) ≤ k := leN c_11
        exact (by omega : False).elim
      · skip
        replace c_11 : k < (mBc u) := nleN c_11
        refine lv_aload_n hx hb dX0_bestBee_14 rfl (lv_at hl 0 rfl) ?_
        refine lv_iload_n hx hb dX0_bestBee_15 rfl (lv_at hl 3 rfl) ?_
        refine vp_callSi (W.runV (As := [.int (nI k)]) (rest := []) ⟨hx, hb, hml, hown, hts⟩ (c_X0_errorOf l D cI h a u on k hI (by omega)) (cwV 1 hts gX0_bestBee_X0_errorOf rfl rfl rfl (by decide +kernel) ⟨Nat.le_of_ble_eq_true rfl, Nat.le_of_ble_eq_true rfl⟩) (pu_pre hK hP rfl rfl) rfl rfl hl.1 rfl (lv_room (Nat.le_of_ble_eq_true rfl)) dX0_bestBee_16 ⟨Nat.le_of_ble_eq_true rfl, Nat.le_of_ble_eq_true rfl⟩) (fun r hr => ?_)
        subst hr
        refine va_mabs hx hb (hml.trans hl.1.symm) hown (hts (.methodLink RX0 149 Lib.Math.abs.name) (List.mem_of_getElem? (i := 2) rfl)) (hts (.static Lib.Math.abs.name) (List.mem_of_getElem? (i := 3) rfl)) (hts (.initialized "java/lang/Math") (List.mem_of_getElem? (i := 4) rfl)) (hts _ (List.mem_of_getElem? (i := 5) rfl)) (Nat.le_of_ble_eq_true rfl) (Nat.le_of_ble_eq_true rfl) (Nat.le_of_ble_eq_true rfl) (Nat.le_of_ble_eq_true rfl) dX0_bestBee_19 ?_
        rw [show (if 0 ≤ fEr u k then fEr u k else 0 - (fEr u k)) = abI (fEr u k) from rfl]
        refine lv_istore (lv' := [(4, .int (abI (fEr u k))), (0, .ref h), (1, .int X), (2, .int Y), (3, .int (nI k))]) hx hb dX0_bestBee_22 hl (by decide) rfl (fun ls hl => ?_)
        refine lv_iload_n hx hb dX0_bestBee_24 rfl (lv_at hl 2 rfl) ?_
        refine lv_iconst (v := (-1)) hx hb dX0_bestBee_25 (by decide +kernel) ?_
        refine lv_icmp_eq (tgt := 35) hx hb dX0_bestBee_26 (by decide) (fun c_26 => ?_) (fun c_26 => ?_)
        · skip
          refine lv_iload_n hx hb dX0_bestBee_35 rfl (lv_at hl 4 rfl) ?_
          refine lv_istore_n (lv' := [(1, .int (nI k)), (4, .int (abI (fEr u k))), (0, .ref h), (2, .int Y), (3, .int (nI k))]) hx hb dX0_bestBee_36 rfl hl (by decide) rfl (fun ls hl => ?_)
          refine lv_iload hx hb dX0_bestBee_37 (lv_at hl 1 rfl) ?_
          refine lv_istore_n (lv' := [(2, .int (abI (fEr u k))), (1, .int (nI k)), (4, .int (abI (fEr u k))), (0, .ref h), (3, .int (nI k))]) hx hb dX0_bestBee_39 rfl hl (by decide) rfl (fun ls hl => ?_)
          refine lv_iinc (v := nI (k + 1)) (lv' := [(3, .int (nI (k + 1))), (2, .int (abI (fEr u k))), (1, .int (nI k)), (4, .int (abI (fEr u k))), (0, .ref h)]) hx hb dX0_bestBee_40 hl (k := 4) rfl (nI_i1 _) (by decide) rfl (fun ls hl => ?_)
          refine lv_goto (tgt := 6) hx hb dX0_bestBee_43 (by decide) ?_
          exact ih (k + 1) (by omega) (nI k) (by subst eX eY; show _ = (bbF u k (bbS u k)).1; rw [bb_yes (Or.inl c_26)]) (abI (fEr u k)) (by subst eX eY; show _ = (bbF u k (bbS u k)).2; rw [bb_yes (Or.inl c_26)]) _ (lv_sub hl [4, 2, 1, 0] rfl)
        · skip
          refine lv_iload hx hb dX0_bestBee_29 (lv_at hl 0 rfl) ?_
          refine lv_iload_n hx hb dX0_bestBee_31 rfl (lv_at hl 3 rfl) ?_
          refine lv_icmp_ge (tgt := 40) hx hb dX0_bestBee_32 (by decide) (fun c_32 => ?_) (fun c_32 => ?_)
          · skip
            refine lv_iinc (v := nI (k + 1)) (lv' := [(3, .int (nI (k + 1))), (4, .int (abI (fEr u k))), (0, .ref h), (1, .int X), (2, .int Y)]) hx hb dX0_bestBee_40 hl (k := 4) rfl (nI_i1 _) (by decide) rfl (fun ls hl => ?_)
            refine lv_goto (tgt := 6) hx hb dX0_bestBee_43 (by decide) ?_
            exact ih (k + 1) (by omega) X (by subst eX eY; show _ = (bbF u k (bbS u k)).1; rw [bb_no (fun z => z.elim c_26 (ngI c_32))]) Y (by subst eX eY; show _ = (bbF u k (bbS u k)).2; rw [bb_no (fun z => z.elim c_26 (ngI c_32))]) _ (lv_sub hl [2, 3, 4, 0] rfl)
          · skip
            refine lv_iload_n hx hb dX0_bestBee_35 rfl (lv_at hl 4 rfl) ?_
            refine lv_istore_n (lv' := [(1, .int (nI k)), (4, .int (abI (fEr u k))), (0, .ref h), (2, .int Y), (3, .int (nI k))]) hx hb dX0_bestBee_36 rfl hl (by decide) rfl (fun ls hl => ?_)
            refine lv_iload hx hb dX0_bestBee_37 (lv_at hl 1 rfl) ?_
            refine lv_istore_n (lv' := [(2, .int (abI (fEr u k))), (1, .int (nI k)), (4, .int (abI (fEr u k))), (0, .ref h), (3, .int (nI k))]) hx hb dX0_bestBee_39 rfl hl (by decide) rfl (fun ls hl => ?_)
            refine lv_iinc (v := nI (k + 1)) (lv' := [(3, .int (nI (k + 1))), (2, .int (abI (fEr u k))), (1, .int (nI k)), (4, .int (abI (fEr u k))), (0, .ref h)]) hx hb dX0_bestBee_40 hl (k := 4) rfl (nI_i1 _) (by decide) rfl (fun ls hl => ?_)
            refine lv_goto (tgt := 6) hx hb dX0_bestBee_43 (by decide) ?_
            exact ih (k + 1) (by omega) (nI k) (by subst eX eY; show _ = (bbF u k (bbS u k)).1; rw [bb_yes (Or.inr (gtI c_32))]) (abI (fEr u k)) (by subst eX eY; show _ = (bbF u k (bbS u k)).2; rw [bb_yes (Or.inr (gtI c_32))]) _ (lv_sub hl [4, 2, 1, 0] rfl)
  exact lp6 _ 0 (Nat.zero_add _) (-1) (by rfl) (nI 0) (by rfl) _ (lv_sub hl [3, 2, 1, 0] rfl)
set_option maxHeartbeats 4000000 in
set_option maxRecDepth 100000 in
theorem c_X0_nextTick (l : Launch) (D : va_G) (cI : ClassId) (h : Nat) (a : Nat → Nat) (u : MS) (on : Nat → Int32) (bb : Nat) (hI : Inv u) (hbb : bb < mBc u) : Met l yX0_nextTick wsX0_nextTick ({ frames := 2, cells := 0, slots := 0, locals := 45 } : Room) (va_Pc [.ref h, .int (nI bb)] (fun U => va_P D vwCl (pic0 cI h a u on) U.heap ∧ va_K D vwCl [(cI, .int)] U)) (vp_Si (fun r => r = fNx u bb)) 0 0 (fun _ => False) := by
  refine en_pu (cc := cX0_nextTick) (maxL := 3) (ret := (some .int)) _ _ (by decide) rfl (Nat.le_of_ble_eq_true rfl) ?_
  intro p e s m args below meth c ls hx hb hml hr hlocks hts hown hP hK hl
  have hown : s.vm.findClass RX0 = some m.cls := hown
  have hin : ∀ w ∈ wsX00, w ∈ wsX0_nextTick := fun _ h9 => List.mem_cons_of_mem _ (List.mem_append_left _ (List.mem_append_right _ h9))
  have hl : lv_has ls 3 [(0, .ref h), (1, .int (nI bb))] := hl
  obtain ⟨hIa, hIb, hIc, hId, hIe, hIf, hIg, hIh, hIi, hIj⟩ := id hI
  refine lv_aload_n hx hb dX0_nextTick_0 rfl (lv_at hl 0 rfl) ?_
  refine lv_iload_n hx hb dX0_nextTick_1 rfl (lv_at hl 1 rfl) ?_
  refine va_csv (W.runV (As := [.int (nI bb)]) (rest := []) ⟨hx, hb, hml, hown, hts⟩ (c_X0_checkBee l D cI h a u on bb hI (by omega)) (cwV 1 hts gX0_nextTick_X0_checkBee rfl rfl rfl (by decide +kernel) ⟨Nat.le_of_ble_eq_true rfl, Nat.le_of_ble_eq_true rfl⟩) (pu_pre hK hP rfl rfl) rfl rfl hl.1 rfl (lv_room (Nat.le_of_ble_eq_true rfl)) dX0_nextTick_2 ⟨Nat.le_of_ble_eq_true rfl, Nat.le_of_ble_eq_true rfl⟩) (fun _ => ?_)
  refine lv_aload_n hx hb dX0_nextTick_5 rfl (lv_at hl 0 rfl) ?_
  refine va_get (D := D) (ci := 0) (v := .int (nI (mNow u))) (C := RX0) (T := TX0) (N := 17) hx hb hts hin hown hK hP 0 rfl rfl 15 (by decide) (hts (.fieldLink RX0 97 "AfternoonMeter" "now" "I") (List.mem_of_getElem? (i := 1) rfl)) (fun _ h9 => h9) rfl dX0_nextTick_6 ?_
  refine lv_istore_n (lv' := [(2, .int (nI (mNow u))), (0, .ref h), (1, .int (nI bb))]) hx hb dX0_nextTick_9 rfl hl (by decide) rfl (fun ls hl => ?_)
  have lp10 : ∀ (n k : Nat), k + n = 360 - mNow u → fNx u bb = fd (tkB u bb) n (mNow u + k) → ∀ (ls : Array Slot), lv_has ls 3 [(0, .ref h), (1, .int (nI bb)), (2, .int (nI (mNow u + k)))] → W p l e ({ frames := 2, cells := 0, slots := 0, locals := 45 } : Room) s m args below meth c s.heap [] 0 0 (MQ below (vp_Si (fun r => r = fNx u bb)) args s 0 0 (fun _ => False)) (F0 m 10 ls []) := by
    intro n
    induction n with
    | zero =>
      intro k hk hq0 ls hl
      refine lv_iload_n hx hb dX0_nextTick_10 rfl (lv_at hl 2 rfl) ?_
      refine lv_sipush (v := nI 360) hx hb dX0_nextTick_11 (by decide +kernel) ?_
      refine lv_icmp_ge (tgt := 34) hx hb dX0_nextTick_14 (by decide) (fun c_14 => ?_) (fun c_14 => ?_)
      · skip
        replace c_14 : 360 ≤ (mNow u + k) := leN c_14
        refine lv_iconst (v := (-1)) hx hb dX0_nextTick_34 (by decide +kernel) ?_
        have hq : (-1) = fNx u bb := by rw [hq0]; rfl
        exact W.iret hx hb hr (fun t ht _ => ⟨_, rfl, hq, ht⟩) (fun _ h9 => nomatch h9) dX0_nextTick_35
      · skip
        replace c_14 : (mNow u + k) < 360 := nleN c_14
        exact (by omega : False).elim
    | succ n ih =>
      intro k hk hq0 ls hl
      refine lv_iload_n hx hb dX0_nextTick_10 rfl (lv_at hl 2 rfl) ?_
      refine lv_sipush (v := nI 360) hx hb dX0_nextTick_11 (by decide +kernel) ?_
      refine lv_icmp_ge (tgt := 34) hx hb dX0_nextTick_14 (by decide) (fun c_14 => ?_) (fun c_14 => ?_)
      · skip
        replace c_14 : 360 ≤ (mNow u + k) := leN c_14
        exact (by omega : False).elim
      · skip
        replace c_14 : (mNow u + k) < 360 := nleN c_14
        refine lv_aload_n hx hb dX0_nextTick_17 rfl (lv_at hl 0 rfl) ?_
        refine lv_iload_n hx hb dX0_nextTick_18 rfl (lv_at hl 1 rfl) ?_
        refine lv_iload_n hx hb dX0_nextTick_19 rfl (lv_at hl 2 rfl) ?_
        refine vp_callSi (W.runV (As := [.int (nI bb), .int (nI (mNow u + k))]) (rest := []) ⟨hx, hb, hml, hown, hts⟩ (c_X0_ticksIn l D cI h a u on bb (mNow u + k) hI (by omega) (by omega)) (cwV 2 hts gX0_nextTick_X0_ticksIn rfl rfl rfl (by decide +kernel) ⟨Nat.le_of_ble_eq_true rfl, Nat.le_of_ble_eq_true rfl⟩) (pu_pre hK hP rfl rfl) rfl rfl hl.1 rfl (lv_room (Nat.le_of_ble_eq_true rfl)) dX0_nextTick_20 ⟨Nat.le_of_ble_eq_true rfl, Nat.le_of_ble_eq_true rfl⟩) (fun r hr => ?_)
        subst hr
        refine lv_if_eq (tgt := 28) hx hb dX0_nextTick_23 (by decide) (fun c_23 => ?_) (fun c_23 => ?_)
        · skip
          replace c_23 : (tkB u bb (mNow u + k)) = false := bI_eq0 c_23
          refine lv_iinc (v := nI (mNow u + k + 1)) (lv' := [(2, .int (nI (mNow u + k + 1))), (0, .ref h), (1, .int (nI bb))]) hx hb dX0_nextTick_28 hl (k := 2) rfl (nI_i1 _) (by decide) rfl (fun ls hl => ?_)
          refine lv_goto (tgt := 10) hx hb dX0_nextTick_31 (by decide) ?_
          exact ih (k + 1) (by omega) (by rw [hq0, fd_miss c_23]; rfl) _ (lv_sub hl [1, 2, 0] rfl)
        · skip
          replace c_23 : (tkB u bb (mNow u + k)) = true := bI_ne0 c_23
          refine lv_iload_n hx hb dX0_nextTick_26 rfl (lv_at hl 2 rfl) ?_
          have hq : nI (mNow u + k) = fNx u bb := by rw [hq0, fd_hit c_23]
          exact W.iret hx hb hr (fun t ht _ => ⟨_, rfl, hq, ht⟩) (fun _ h9 => nomatch h9) dX0_nextTick_27
  exact lp10 _ 0 (Nat.zero_add _) (by rfl) _ (lv_sub hl [1, 2, 0] rfl)
set_option maxHeartbeats 4000000 in
set_option maxRecDepth 100000 in
theorem c_X0_spiltAtEnd (l : Launch) (D : va_G) (cI : ClassId) (h : Nat) (a : Nat → Nat) (u : MS) (on : Nat → Int32) (hI : Inv u) (hO : InvO u on) : Met l yX0_spiltAtEnd wsX0_spiltAtEnd ({ frames := 2, cells := 0, slots := 0, locals := 36 } : Room) (va_Pc [.ref h] (fun U => va_P D vwCl (pic0 cI h a u on) U.heap ∧ va_K D vwCl [(cI, .int)] U)) (vp_Si (fun r => r = fEnd u)) 0 0 (fun _ => False) := by
  refine en_pu (cc := cX0_spiltAtEnd) (maxL := 5) (ret := (some .int)) _ _ (by decide) rfl (Nat.le_of_ble_eq_true rfl) ?_
  intro p e s m args below meth c ls hx hb hml hr hlocks hts hown hP hK hl
  have hown : s.vm.findClass RX0 = some m.cls := hown
  have hin : ∀ w ∈ wsX00, w ∈ wsX0_spiltAtEnd := fun _ h9 => List.mem_cons_of_mem _ (List.mem_append_right _ h9)
  have hl : lv_has ls 5 [(0, .ref h)] := hl
  obtain ⟨hIa, hIb, hIc, hId, hIe, hIf, hIg, hIh, hIi, hIj⟩ := id hI
  refine lv_aload_n hx hb dX0_spiltAtEnd_0 rfl (lv_at hl 0 rfl) ?_
  refine va_get (D := D) (ci := 0) (v := .int (mSpl u)) (C := RX0) (T := TX0) (N := 17) hx hb hts hin hown hK hP 0 rfl rfl 14 (by decide) (hts (.fieldLink RX0 106 "AfternoonMeter" "ranOver" "I") (List.mem_of_getElem? (i := 1) rfl)) (fun _ h9 => h9) rfl dX0_spiltAtEnd_1 ?_
  refine lv_istore_n (lv' := [(1, .int (mSpl u)), (0, .ref h)]) hx hb dX0_spiltAtEnd_4 rfl hl (by decide) rfl (fun ls hl => ?_)
  refine lv_aload_n hx hb dX0_spiltAtEnd_5 rfl (lv_at hl 1 rfl) ?_
  refine va_get (D := D) (ci := 0) (v := .int (nI (mTea u))) (C := RX0) (T := TX0) (N := 17) hx hb hts hin hown hK hP 0 rfl rfl 13 (by decide) (hts (.fieldLink RX0 88 "AfternoonMeter" "inCup" "I") (List.mem_of_getElem? (i := 2) rfl)) (fun _ h9 => h9) rfl dX0_spiltAtEnd_6 ?_
  refine lv_istore_n (lv' := [(2, .int (nI (mTea u))), (1, .int (mSpl u)), (0, .ref h)]) hx hb dX0_spiltAtEnd_9 rfl hl (by decide) rfl (fun ls hl => ?_)
  refine lv_aload_n hx hb dX0_spiltAtEnd_10 rfl (lv_at hl 2 rfl) ?_
  refine va_get (D := D) (ci := 0) (v := .int (nI (mNow u))) (C := RX0) (T := TX0) (N := 17) hx hb hts hin hown hK hP 0 rfl rfl 15 (by decide) (hts (.fieldLink RX0 97 "AfternoonMeter" "now" "I") (List.mem_of_getElem? (i := 3) rfl)) (fun _ h9 => h9) rfl dX0_spiltAtEnd_11 ?_
  refine lv_istore_n (lv' := [(3, .int (nI (mNow u))), (2, .int (nI (mTea u))), (1, .int (mSpl u)), (0, .ref h)]) hx hb dX0_spiltAtEnd_14 rfl hl (by decide) rfl (fun ls hl => ?_)
  have lp15 : ∀ (n k : Nat), k + n = 360 - mNow u → ∀ (X : Int32), X = (enS u k).1 → ∀ (Y : Nat), Y = (enS u k).2 → Y ≤ mRoom u → ∀ (ls : Array Slot), lv_has ls 5 [(0, .ref h), (1, .int X), (2, .int (nI Y)), (3, .int (nI (mNow u + k)))] → W p l e ({ frames := 2, cells := 0, slots := 0, locals := 36 } : Room) s m args below meth c s.heap [] 0 0 (MQ below (vp_Si (fun r => r = fEnd u)) args s 0 0 (fun _ => False)) (F0 m 15 ls []) := by
    intro n
    induction n with
    | zero =>
      intro k hk X eX Y eY hY ls hl
      have ek : k = 360 - mNow u := by omega
      refine lv_iload_n hx hb dX0_spiltAtEnd_15 rfl (lv_at hl 3 rfl) ?_
      refine lv_sipush (v := nI 360) hx hb dX0_spiltAtEnd_16 (by decide +kernel) ?_
      refine lv_icmp_ge (tgt := 56) hx hb dX0_spiltAtEnd_19 (by decide) (fun c_19 => ?_) (fun c_19 => ?_)
      · skip
        replace c_19 : 360 ≤ (mNow u + k) := leN c_19
        refine lv_iload_n hx hb dX0_spiltAtEnd_56 rfl (lv_at hl 1 rfl) ?_
        have hq : X = fEnd u := by rw [eX, ek]; rfl
        exact W.iret hx hb hr (fun t ht _ => ⟨_, rfl, hq, ht⟩) (fun _ h9 => nomatch h9) dX0_spiltAtEnd_57
      · skip
        replace c_19 : (mNow u + k) < 360 := nleN c_19
        exact (by omega : False).elim
    | succ n ih =>
      intro k hk X eX Y eY hY ls hl
      refine lv_iload_n hx hb dX0_spiltAtEnd_15 rfl (lv_at hl 3 rfl) ?_
      refine lv_sipush (v := nI 360) hx hb dX0_spiltAtEnd_16 (by decide +kernel) ?_
      refine lv_icmp_ge (tgt := 56) hx hb dX0_spiltAtEnd_19 (by decide) (fun c_19 => ?_) (fun c_19 => ?_)
      · skip
        replace c_19 : 360 ≤ (mNow u + k) := leN c_19
        exact (by omega : False).elim
      · skip
        replace c_19 : (mNow u + k) < 360 := nleN c_19
        refine lv_aload_n hx hb dX0_spiltAtEnd_22 rfl (lv_at hl 0 rfl) ?_
        refine lv_iload_n hx hb dX0_spiltAtEnd_23 rfl (lv_at hl 3 rfl) ?_
        refine lv_iload_n hx hb dX0_spiltAtEnd_24 rfl (lv_at hl 2 rfl) ?_
        refine lv_aload_n hx hb dX0_spiltAtEnd_25 rfl (lv_at hl 0 rfl) ?_
        refine va_get (D := D) (ci := 0) (v := .int (nI (mRate u))) (C := RX0) (T := TX0) (N := 17) hx hb hts hin hown hK hP 0 rfl rfl 11 (by decide) (hts (.fieldLink RX0 35 "AfternoonMeter" "rate" "I") (List.mem_of_getElem? (i := 4) rfl)) (fun _ h9 => h9) rfl dX0_spiltAtEnd_26 ?_
        refine vp_callSi (W.runV (As := [.int (nI (mNow u + k)), .int (nI Y), .int (nI (mRate u))]) (rest := []) ⟨hx, hb, hml, hown, hts⟩ (c_X0_contentAfter l D cI h a u on (mNow u + k) Y (mRate u) hI (by omega) (by omega) (by omega) (by omega)) (cwV 3 hts gX0_spiltAtEnd_X0_contentAfter rfl rfl rfl (by decide +kernel) ⟨Nat.le_of_ble_eq_true rfl, Nat.le_of_ble_eq_true rfl⟩) (pu_pre hK hP rfl rfl) rfl rfl hl.1 rfl (lv_room (Nat.le_of_ble_eq_true rfl)) dX0_spiltAtEnd_29 ⟨Nat.le_of_ble_eq_true rfl, Nat.le_of_ble_eq_true rfl⟩) (fun r hr => ?_)
        subst hr
        have hca := cAf_le u (mNow u + k) Y (mRate u)
        refine lv_istore_n (lv' := [(2, .int (nI (cAf u (mNow u + k) Y (mRate u)))), (0, .ref h), (1, .int X), (3, .int (nI (mNow u + k)))]) hx hb dX0_spiltAtEnd_32 rfl hl (by decide) rfl (fun ls hl => ?_)
        refine lv_aload_n hx hb dX0_spiltAtEnd_33 rfl (lv_at hl 1 rfl) ?_
        refine lv_iload_n hx hb dX0_spiltAtEnd_34 rfl (lv_at hl 0 rfl) ?_
        refine vp_callSi (W.runV (As := [.int (nI (cAf u (mNow u + k) Y (mRate u)))]) (rest := []) ⟨hx, hb, hml, hown, hts⟩ (c_X0_excess l D cI h a u on (cAf u (mNow u + k) Y (mRate u)) hI (by omega)) (cwV 1 hts gX0_spiltAtEnd_X0_excess rfl rfl rfl (by decide +kernel) ⟨Nat.le_of_ble_eq_true rfl, Nat.le_of_ble_eq_true rfl⟩) (pu_pre hK hP rfl rfl) rfl rfl hl.1 rfl (lv_room (Nat.le_of_ble_eq_true rfl)) dX0_spiltAtEnd_35 ⟨Nat.le_of_ble_eq_true rfl, Nat.le_of_ble_eq_true rfl⟩) (fun r hr => ?_)
        subst hr
        refine lv_istore (lv' := [(4, .int (nI ((cAf u (mNow u + k) Y (mRate u)) - mRoom u))), (2, .int (nI (cAf u (mNow u + k) Y (mRate u)))), (0, .ref h), (1, .int X), (3, .int (nI (mNow u + k)))]) hx hb dX0_spiltAtEnd_38 hl (by decide) rfl (fun ls hl => ?_)
        refine lv_iload_n hx hb dX0_spiltAtEnd_40 rfl (lv_at hl 3 rfl) ?_
        refine lv_iload hx hb dX0_spiltAtEnd_41 (lv_at hl 0 rfl) ?_
        refine lv_iadd hx hb dX0_spiltAtEnd_43 ?_
        refine lv_istore_n (lv' := [(1, .int (X + (nI ((cAf u (mNow u + k) Y (mRate u)) - mRoom u)))), (4, .int (nI ((cAf u (mNow u + k) Y (mRate u)) - mRoom u))), (2, .int (nI (cAf u (mNow u + k) Y (mRate u)))), (0, .ref h), (3, .int (nI (mNow u + k)))]) hx hb dX0_spiltAtEnd_44 rfl hl (by decide) rfl (fun ls hl => ?_)
        refine lv_iload_n hx hb dX0_spiltAtEnd_45 rfl (lv_at hl 2 rfl) ?_
        refine lv_iload hx hb dX0_spiltAtEnd_46 (lv_at hl 1 rfl) ?_
        refine q_isubN hx hb (by omega) dX0_spiltAtEnd_48 ?_
        refine lv_istore_n (lv' := [(2, .int (nI ((cAf u (mNow u + k) Y (mRate u)) - ((cAf u (mNow u + k) Y (mRate u)) - mRoom u)))), (1, .int (X + (nI ((cAf u (mNow u + k) Y (mRate u)) - mRoom u)))), (4, .int (nI ((cAf u (mNow u + k) Y (mRate u)) - mRoom u))), (0, .ref h), (3, .int (nI (mNow u + k)))]) hx hb dX0_spiltAtEnd_49 rfl hl (by decide) rfl (fun ls hl => ?_)
        refine lv_iinc (v := nI (mNow u + k + 1)) (lv' := [(3, .int (nI (mNow u + k + 1))), (2, .int (nI ((cAf u (mNow u + k) Y (mRate u)) - ((cAf u (mNow u + k) Y (mRate u)) - mRoom u)))), (1, .int (X + (nI ((cAf u (mNow u + k) Y (mRate u)) - mRoom u)))), (4, .int (nI ((cAf u (mNow u + k) Y (mRate u)) - mRoom u))), (0, .ref h)]) hx hb dX0_spiltAtEnd_50 hl (k := 4) rfl (nI_i1 _) (by decide) rfl (fun ls hl => ?_)
        refine lv_goto (tgt := 15) hx hb dX0_spiltAtEnd_53 (by decide) ?_
        exact ih (k + 1) (by omega) (X + (nI ((cAf u (mNow u + k) Y (mRate u)) - mRoom u))) (by subst eX eY; rfl) ((cAf u (mNow u + k) Y (mRate u)) - ((cAf u (mNow u + k) Y (mRate u)) - mRoom u)) (by subst eX eY; rfl) (by omega) _ (lv_sub hl [4, 2, 1, 0] rfl)
  exact lp15 _ 0 (Nat.zero_add _) (mSpl u) (by rfl) (mTea u) (by rfl) (by omega) _ (lv_sub hl [3, 2, 1, 0] rfl)
set_option maxHeartbeats 4000000 in
set_option maxRecDepth 100000 in
theorem c_X0_minuteOfSpill (l : Launch) (D : va_G) (cI : ClassId) (h : Nat) (a : Nat → Nat) (u : MS) (on : Nat → Int32) (hI : Inv u) (hO : InvO u on) : Met l yX0_minuteOfSpill wsX0_minuteOfSpill ({ frames := 3, cells := 0, slots := 0, locals := 59 } : Room) (va_Pc [.ref h] (fun U => va_P D vwCl (pic0 cI h a u on) U.heap ∧ va_K D vwCl [(cI, .int)] U)) (vp_Si (fun r => r = fSp u (mRate u))) 0 0 (fun _ => False) := by
  refine en_pu (cc := cX0_minuteOfSpill) (maxL := 1) (ret := (some .int)) _ _ (by decide) rfl (Nat.le_of_ble_eq_true rfl) ?_
  intro p e s m args below meth c ls hx hb hml hr hlocks hts hown hP hK hl
  have hown : s.vm.findClass RX0 = some m.cls := hown
  have hin : ∀ w ∈ wsX00, w ∈ wsX0_minuteOfSpill := fun _ h9 => List.mem_cons_of_mem _ (List.mem_append_right _ h9)
  have hl : lv_has ls 1 [(0, .ref h)] := hl
  obtain ⟨hIa, hIb, hIc, hId, hIe, hIf, hIg, hIh, hIi, hIj⟩ := id hI
  refine lv_aload_n hx hb dX0_minuteOfSpill_0 rfl (lv_at hl 0 rfl) ?_
  refine lv_aload_n hx hb dX0_minuteOfSpill_1 rfl (lv_at hl 0 rfl) ?_
  refine va_get (D := D) (ci := 0) (v := .int (nI (mRate u))) (C := RX0) (T := TX0) (N := 17) hx hb hts hin hown hK hP 0 rfl rfl 11 (by decide) (hts (.fieldLink RX0 35 "AfternoonMeter" "rate" "I") (List.mem_of_getElem? (i := 1) rfl)) (fun _ h9 => h9) rfl dX0_minuteOfSpill_2 ?_
  refine vp_callSi (W.runV (As := [.int (nI (mRate u))]) (rest := []) ⟨hx, hb, hml, hown, hts⟩ (c_X0_firstSpillWith l D cI h a u on (mRate u) hI (by omega) (by omega)) (cwV 1 hts gX0_minuteOfSpill_X0_firstSpillWith rfl rfl rfl (by decide +kernel) ⟨Nat.le_of_ble_eq_true rfl, Nat.le_of_ble_eq_true rfl⟩) (pu_pre hK hP rfl rfl) rfl rfl hl.1 rfl (lv_room (Nat.le_of_ble_eq_true rfl)) dX0_minuteOfSpill_5 ⟨Nat.le_of_ble_eq_true rfl, Nat.le_of_ble_eq_true rfl⟩) (fun r hr => ?_)
  subst hr
  have hq : fSp u (mRate u) = fSp u (mRate u) := by rfl
  exact W.iret hx hb hr (fun t ht _ => ⟨_, rfl, hq, ht⟩) (fun _ h9 => nomatch h9) dX0_minuteOfSpill_8
set_option maxHeartbeats 4000000 in
set_option maxRecDepth 100000 in
theorem c_X0_safeRate (l : Launch) (D : va_G) (cI : ClassId) (h : Nat) (a : Nat → Nat) (u : MS) (on : Nat → Int32) (hI : Inv u) (hO : InvO u on) : Met l yX0_safeRate wsX0_safeRate ({ frames := 3, cells := 0, slots := 0, locals := 59 } : Room) (va_Pc [.ref h] (fun U => va_P D vwCl (pic0 cI h a u on) U.heap ∧ va_K D vwCl [(cI, .int)] U)) (vp_Si (fun r => r = nI (sfF u 9))) 0 0 (fun _ => False) := by
  refine en_pu (cc := cX0_safeRate) (maxL := 2) (ret := (some .int)) _ _ (by decide) rfl (Nat.le_of_ble_eq_true rfl) ?_
  intro p e s m args below meth c ls hx hb hml hr hlocks hts hown hP hK hl
  have hown : s.vm.findClass RX0 = some m.cls := hown
  have hin : ∀ w ∈ wsX00, w ∈ wsX0_safeRate := fun _ h9 => List.mem_cons_of_mem _ (List.mem_append_right _ h9)
  have hl : lv_has ls 2 [(0, .ref h)] := hl
  obtain ⟨hIa, hIb, hIc, hId, hIe, hIf, hIg, hIh, hIi, hIj⟩ := id hI
  refine lv_bipush (v := nI 9) hx hb dX0_safeRate_0 (by decide +kernel) ?_
  refine lv_istore_n (lv' := [(1, .int (nI 9)), (0, .ref h)]) hx hb dX0_safeRate_2 rfl hl (by decide) rfl (fun ls hl => ?_)
  have lp3 : ∀ (n k : Nat), k + n = 9 → sfF u 9 = sfF u n → ∀ (ls : Array Slot), lv_has ls 2 [(0, .ref h), (1, .int (nI n))] → W p l e ({ frames := 3, cells := 0, slots := 0, locals := 59 } : Room) s m args below meth c s.heap [] 0 0 (MQ below (vp_Si (fun r => r = nI (sfF u 9))) args s 0 0 (fun _ => False)) (F0 m 3 ls []) := by
    intro n
    induction n with
    | zero =>
      intro k hk hq0 ls hl
      refine lv_iload_n hx hb dX0_safeRate_3 rfl (lv_at hl 1 rfl) ?_
      refine lv_if_le (tgt := 22) hx hb dX0_safeRate_4 (by decide) (fun c_4 => ?_) (fun c_4 => ?_)
      · skip
        replace c_4 : 0 ≤ 0 := leN c_4
        refine lv_iload_n hx hb dX0_safeRate_22 rfl (lv_at hl 1 rfl) ?_
        have hq : nI 0 = nI (sfF u 9) := by rw [hq0]; rfl
        exact W.iret hx hb hr (fun t ht _ => ⟨_, rfl, hq, ht⟩) (fun _ h9 => nomatch h9) dX0_safeRate_23
      · skip
        replace c_4 : 0 < 0 := nleN c_4
        exact (by omega : False).elim
    | succ n ih =>
      intro k hk hq0 ls hl
      refine lv_iload_n hx hb dX0_safeRate_3 rfl (lv_at hl 1 rfl) ?_
      refine lv_if_le (tgt := 22) hx hb dX0_safeRate_4 (by decide) (fun c_4 => ?_) (fun c_4 => ?_)
      · skip
        replace c_4 : (n + 1) ≤ 0 := leN c_4
        exact (by omega : False).elim
      · skip
        replace c_4 : 0 < (n + 1) := nleN c_4
        refine lv_aload_n hx hb dX0_safeRate_7 rfl (lv_at hl 0 rfl) ?_
        refine lv_iload_n hx hb dX0_safeRate_8 rfl (lv_at hl 1 rfl) ?_
        refine vp_callSi (W.runV (As := [.int (nI (n + 1))]) (rest := []) ⟨hx, hb, hml, hown, hts⟩ (c_X0_firstSpillWith l D cI h a u on (n + 1) hI (by omega) (by omega)) (cwV 1 hts gX0_safeRate_X0_firstSpillWith rfl rfl rfl (by decide +kernel) ⟨Nat.le_of_ble_eq_true rfl, Nat.le_of_ble_eq_true rfl⟩) (pu_pre hK hP rfl rfl) rfl rfl hl.1 rfl (lv_room (Nat.le_of_ble_eq_true rfl)) dX0_safeRate_9 ⟨Nat.le_of_ble_eq_true rfl, Nat.le_of_ble_eq_true rfl⟩) (fun r hr => ?_)
        subst hr
        refine lv_iconst (v := (-1)) hx hb dX0_safeRate_12 (by decide +kernel) ?_
        refine lv_icmp_eq (tgt := 22) hx hb dX0_safeRate_13 (by decide) (fun c_13 => ?_) (fun c_13 => ?_)
        · skip
          refine lv_iload_n hx hb dX0_safeRate_22 rfl (lv_at hl 1 rfl) ?_
          have hq : nI (n + 1) = nI (sfF u 9) := by rw [hq0, sf_yes c_13]
          exact W.iret hx hb hr (fun t ht _ => ⟨_, rfl, hq, ht⟩) (fun _ h9 => nomatch h9) dX0_safeRate_23
        · skip
          refine lv_iinc (v := nI n) (lv' := [(1, .int (nI n)), (0, .ref h)]) hx hb dX0_safeRate_16 hl (k := 1) rfl (pk_m1 _) (by decide) rfl (fun ls hl => ?_)
          refine lv_goto (tgt := 3) hx hb dX0_safeRate_19 (by decide) ?_
          exact ih (k + 1) (by omega) (by rw [hq0, sf_no c_13]) _ (lv_sub hl [1, 0] rfl)
  exact lp3 _ 0 (Nat.zero_add _) (by rfl) _ (lv_sub hl [1, 0] rfl)
set_option maxHeartbeats 4000000 in
set_option maxRecDepth 100000 in
theorem c_X0_bestToGiveUp (l : Launch) (D : va_G) (cI : ClassId) (h : Nat) (a : Nat → Nat) (u : MS) (on : Nat → Int32) (hI : Inv u) : Met l yX0_bestToGiveUp wsX0_bestToGiveUp ({ frames := 2, cells := 0, slots := 0, locals := 45 } : Room) (va_Pc [.ref h] (fun U => va_P D vwCl (pic0 cI h a u on) U.heap ∧ va_K D vwCl [(cI, .int)] U)) (vp_Si (fun r => r = fBG u)) 0 0 (fun _ => False) := by
  refine en_pu (cc := cX0_bestToGiveUp) (maxL := 5) (ret := (some .int)) _ _ (by decide) rfl (Nat.le_of_ble_eq_true rfl) ?_
  intro p e s m args below meth c ls hx hb hml hr hlocks hts hown hP hK hl
  have hown : s.vm.findClass RX0 = some m.cls := hown
  have hin : ∀ w ∈ wsX00, w ∈ wsX0_bestToGiveUp := fun _ h9 => List.mem_cons_of_mem _ (List.mem_append_right _ h9)
  have hl : lv_has ls 5 [(0, .ref h)] := hl
  obtain ⟨hIa, hIb, hIc, hId, hIe, hIf, hIg, hIh, hIi, hIj⟩ := id hI
  refine lv_iconst (v := (-1)) hx hb dX0_bestToGiveUp_0 (by decide +kernel) ?_
  refine lv_istore_n (lv' := [(1, .int (-1)), (0, .ref h)]) hx hb dX0_bestToGiveUp_1 rfl hl (by decide) rfl (fun ls hl => ?_)
  refine lv_iconst (v := nI 0) hx hb dX0_bestToGiveUp_2 (by decide +kernel) ?_
  refine lv_istore_n (lv' := [(2, .int (nI 0)), (1, .int (-1)), (0, .ref h)]) hx hb dX0_bestToGiveUp_3 rfl hl (by decide) rfl (fun ls hl => ?_)
  refine lv_iconst (v := nI 0) hx hb dX0_bestToGiveUp_4 (by decide +kernel) ?_
  refine lv_istore_n (lv' := [(3, .int (nI 0)), (2, .int (nI 0)), (1, .int (-1)), (0, .ref h)]) hx hb dX0_bestToGiveUp_5 rfl hl (by decide) rfl (fun ls hl => ?_)
  have lp6 : ∀ (n k : Nat), k + n = mNc u → ∀ (X : Int32), X = (bgS u k).1 → ∀ (Y : Int32), Y = (bgS u k).2 → ∀ (ls : Array Slot), lv_has ls 5 [(0, .ref h), (1, .int X), (2, .int Y), (3, .int (nI k))] → W p l e ({ frames := 2, cells := 0, slots := 0, locals := 45 } : Room) s m args below meth c s.heap [] 0 0 (MQ below (vp_Si (fun r => r = fBG u)) args s 0 0 (fun _ => False)) (F0 m 6 ls []) := by
    intro n
    induction n with
    | zero =>
      intro k hk X eX Y eY ls hl
      have ek : k = mNc u := by omega
      refine lv_iload_n hx hb dX0_bestToGiveUp_6 rfl (lv_at hl 3 rfl) ?_
      refine lv_aload_n hx hb dX0_bestToGiveUp_7 rfl (lv_at hl 0 rfl) ?_
      refine va_get (D := D) (ci := 0) (v := .int (nI (mNc u))) (C := RX0) (T := TX0) (N := 17) hx hb hts hin hown hK hP 0 rfl rfl 4 (by decide) (hts (.fieldLink RX0 58 "AfternoonMeter" "napCount" "I") (List.mem_of_getElem? (i := 1) rfl)) (fun _ h9 => h9) rfl dX0_bestToGiveUp_8 ?_
      refine lv_icmp_ge (tgt := 43) hx hb dX0_bestToGiveUp_11 (by decide) (fun c_11 => ?_) (fun c_11 => ?_)
      · skip
        replace c_11 : (mNc u) ≤ k := leN c_11
        refine lv_iload_n hx hb dX0_bestToGiveUp_43 rfl (lv_at hl 1 rfl) ?_
        have hq : X = fBG u := by rw [eX, ek]; rfl
        exact W.iret hx hb hr (fun t ht _ => ⟨_, rfl, hq, ht⟩) (fun _ h9 => nomatch h9) dX0_bestToGiveUp_44
      · skip
        replace c_11 : k < (mNc u) := nleN c_11
        exact (by omega : False).elim
    | succ n ih =>
      intro k hk X eX Y eY ls hl
      refine lv_iload_n hx hb dX0_bestToGiveUp_6 rfl (lv_at hl 3 rfl) ?_
      refine lv_aload_n hx hb dX0_bestToGiveUp_7 rfl (lv_at hl 0 rfl) ?_
      refine va_get (D := D) (ci := 0) (v := .int (nI (mNc u))) (C := RX0) (T := TX0) (N := 17) hx hb hts hin hown hK hP 0 rfl rfl 4 (by decide) (hts (.fieldLink RX0 58 "AfternoonMeter" "napCount" "I") (List.mem_of_getElem? (i := 1) rfl)) (fun _ h9 => h9) rfl dX0_bestToGiveUp_8 ?_
      refine lv_icmp_ge (tgt := 43) hx hb dX0_bestToGiveUp_11 (by decide) (fun c_11 => ?_) (fun c_11 => ?_)
      · skip
        replace c_11 : (mNc u) ≤ k := leN c_11
        exact (by omega : False).elim
      · skip
        replace c_11 : k < (mNc u) := nleN c_11
        refine lv_aload_n hx hb dX0_bestToGiveUp_14 rfl (lv_at hl 0 rfl) ?_
        refine lv_iload_n hx hb dX0_bestToGiveUp_15 rfl (lv_at hl 3 rfl) ?_
        refine vp_callSi (W.runV (As := [.int (nI k)]) (rest := []) ⟨hx, hb, hml, hown, hts⟩ (c_X0_countAlone l D cI h a u on k hI (by omega)) (cwV 1 hts gX0_bestToGiveUp_X0_countAlone rfl rfl rfl (by decide +kernel) ⟨Nat.le_of_ble_eq_true rfl, Nat.le_of_ble_eq_true rfl⟩) (pu_pre hK hP rfl rfl) rfl rfl hl.1 rfl (lv_room (Nat.le_of_ble_eq_true rfl)) dX0_bestToGiveUp_16 ⟨Nat.le_of_ble_eq_true rfl, Nat.le_of_ble_eq_true rfl⟩) (fun r hr => ?_)
        subst hr
        refine lv_istore (lv' := [(4, .int (fAl u k)), (0, .ref h), (1, .int X), (2, .int Y), (3, .int (nI k))]) hx hb dX0_bestToGiveUp_19 hl (by decide) rfl (fun ls hl => ?_)
        refine lv_iload_n hx hb dX0_bestToGiveUp_21 rfl (lv_at hl 2 rfl) ?_
        refine lv_iconst (v := (-1)) hx hb dX0_bestToGiveUp_22 (by decide +kernel) ?_
        refine lv_icmp_eq (tgt := 32) hx hb dX0_bestToGiveUp_23 (by decide) (fun c_23 => ?_) (fun c_23 => ?_)
        · skip
          refine lv_iload_n hx hb dX0_bestToGiveUp_32 rfl (lv_at hl 4 rfl) ?_
          refine lv_istore_n (lv' := [(1, .int (nI k)), (4, .int (fAl u k)), (0, .ref h), (2, .int Y), (3, .int (nI k))]) hx hb dX0_bestToGiveUp_33 rfl hl (by decide) rfl (fun ls hl => ?_)
          refine lv_iload hx hb dX0_bestToGiveUp_34 (lv_at hl 1 rfl) ?_
          refine lv_istore_n (lv' := [(2, .int (fAl u k)), (1, .int (nI k)), (4, .int (fAl u k)), (0, .ref h), (3, .int (nI k))]) hx hb dX0_bestToGiveUp_36 rfl hl (by decide) rfl (fun ls hl => ?_)
          refine lv_iinc (v := nI (k + 1)) (lv' := [(3, .int (nI (k + 1))), (2, .int (fAl u k)), (1, .int (nI k)), (4, .int (fAl u k)), (0, .ref h)]) hx hb dX0_bestToGiveUp_37 hl (k := 4) rfl (nI_i1 _) (by decide) rfl (fun ls hl => ?_)
          refine lv_goto (tgt := 6) hx hb dX0_bestToGiveUp_40 (by decide) ?_
          exact ih (k + 1) (by omega) (nI k) (by subst eX eY; show _ = (bgF u k (bgS u k)).1; rw [bg_yes (Or.inl c_23)]) (fAl u k) (by subst eX eY; show _ = (bgF u k (bgS u k)).2; rw [bg_yes (Or.inl c_23)]) _ (lv_sub hl [4, 2, 1, 0] rfl)
        · skip
          refine lv_iload hx hb dX0_bestToGiveUp_26 (lv_at hl 0 rfl) ?_
          refine lv_iload_n hx hb dX0_bestToGiveUp_28 rfl (lv_at hl 3 rfl) ?_
          refine lv_icmp_le (tgt := 37) hx hb dX0_bestToGiveUp_29 (by decide) (fun c_29 => ?_) (fun c_29 => ?_)
          · skip
            refine lv_iinc (v := nI (k + 1)) (lv' := [(3, .int (nI (k + 1))), (4, .int (fAl u k)), (0, .ref h), (1, .int X), (2, .int Y)]) hx hb dX0_bestToGiveUp_37 hl (k := 4) rfl (nI_i1 _) (by decide) rfl (fun ls hl => ?_)
            refine lv_goto (tgt := 6) hx hb dX0_bestToGiveUp_40 (by decide) ?_
            exact ih (k + 1) (by omega) X (by subst eX eY; show _ = (bgF u k (bgS u k)).1; rw [bg_no (fun z => z.elim c_23 (ngI c_29))]) Y (by subst eX eY; show _ = (bgF u k (bgS u k)).2; rw [bg_no (fun z => z.elim c_23 (ngI c_29))]) _ (lv_sub hl [2, 3, 4, 0] rfl)
          · skip
            refine lv_iload_n hx hb dX0_bestToGiveUp_32 rfl (lv_at hl 4 rfl) ?_
            refine lv_istore_n (lv' := [(1, .int (nI k)), (4, .int (fAl u k)), (0, .ref h), (2, .int Y), (3, .int (nI k))]) hx hb dX0_bestToGiveUp_33 rfl hl (by decide) rfl (fun ls hl => ?_)
            refine lv_iload hx hb dX0_bestToGiveUp_34 (lv_at hl 1 rfl) ?_
            refine lv_istore_n (lv' := [(2, .int (fAl u k)), (1, .int (nI k)), (4, .int (fAl u k)), (0, .ref h), (3, .int (nI k))]) hx hb dX0_bestToGiveUp_36 rfl hl (by decide) rfl (fun ls hl => ?_)
            refine lv_iinc (v := nI (k + 1)) (lv' := [(3, .int (nI (k + 1))), (2, .int (fAl u k)), (1, .int (nI k)), (4, .int (fAl u k)), (0, .ref h)]) hx hb dX0_bestToGiveUp_37 hl (k := 4) rfl (nI_i1 _) (by decide) rfl (fun ls hl => ?_)
            refine lv_goto (tgt := 6) hx hb dX0_bestToGiveUp_40 (by decide) ?_
            exact ih (k + 1) (by omega) (nI k) (by subst eX eY; show _ = (bgF u k (bgS u k)).1; rw [bg_yes (Or.inr (gtI c_29))]) (fAl u k) (by subst eX eY; show _ = (bgF u k (bgS u k)).2; rw [bg_yes (Or.inr (gtI c_29))]) _ (lv_sub hl [4, 2, 1, 0] rfl)
  exact lp6 _ 0 (Nat.zero_add _) (-1) (by rfl) (nI 0) (by rfl) _ (lv_sub hl [3, 2, 1, 0] rfl)
set_option maxHeartbeats 4000000 in
set_option maxRecDepth 100000 in
theorem c_X0_meanLastShadow (l : Launch) (D : va_G) (cI : ClassId) (h : Nat) (a : Nat → Nat) (u : MS) (on : Nat → Int32) (hI : Inv u) : Met l yX0_meanLastShadow wsX0_meanLastShadow ({ frames := 2, cells := 0, slots := 0, locals := 45 } : Room) (va_Pc [.ref h] (fun U => va_P D vwCl (pic0 cI h a u on) U.heap ∧ va_K D vwCl [(cI, .int)] U)) (vp_Sd (fun r => r = fMean u)) 0 0 (fun _ => False) := by
  refine en_pu (cc := cX0_meanLastShadow) (maxL := 1) (ret := (some .double)) _ _ (by decide) rfl (Nat.le_of_ble_eq_true rfl) ?_
  intro p e s m args below meth c ls hx hb hml hr hlocks hts hown hP hK hl
  have hown : s.vm.findClass RX0 = some m.cls := hown
  have hin : ∀ w ∈ wsX00, w ∈ wsX0_meanLastShadow := fun _ h9 => List.mem_cons_of_mem _ (List.mem_append_right _ h9)
  have hl : lv_has ls 1 [(0, .ref h)] := hl
  obtain ⟨hIa, hIb, hIc, hId, hIe, hIf, hIg, hIh, hIi, hIj⟩ := id hI
  refine lv_aload_n hx hb dX0_meanLastShadow_0 rfl (lv_at hl 0 rfl) ?_
  refine va_get (D := D) (ci := 0) (v := .int (nI (mSc u))) (C := RX0) (T := TX0) (N := 17) hx hb hts hin hown hK hP 0 rfl rfl 1 (by decide) (hts (.fieldLink RX0 48 "AfternoonMeter" "stickCount" "I") (List.mem_of_getElem? (i := 1) rfl)) (fun _ h9 => h9) rfl dX0_meanLastShadow_1 ?_
  refine lv_if_ne (tgt := 9) hx hb dX0_meanLastShadow_4 (by decide) (fun c_4 => ?_) (fun c_4 => ?_)
  · skip
    replace c_4 : (mSc u) ≠ 0 := neN c_4
    refine lv_aload_n hx hb dX0_meanLastShadow_9 rfl (lv_at hl 0 rfl) ?_
    refine lv_sipush (v := nI 359) hx hb dX0_meanLastShadow_10 (by decide +kernel) ?_
    refine vp_callSi (W.runV (As := [.int (nI 359)]) (rest := []) ⟨hx, hb, hml, hown, hts⟩ (c_X0_sumOfShadows l D cI h a u on 359 hI) (cwV 1 hts gX0_meanLastShadow_X0_sumOfShadows rfl rfl rfl (by decide +kernel) ⟨Nat.le_of_ble_eq_true rfl, Nat.le_of_ble_eq_true rfl⟩) (pu_pre hK hP rfl rfl) rfl rfl hl.1 rfl (lv_room (Nat.le_of_ble_eq_true rfl)) dX0_meanLastShadow_13 ⟨Nat.le_of_ble_eq_true rfl, Nat.le_of_ble_eq_true rfl⟩) (fun r hr => ?_)
    subst hr
    refine lv_i2d hx hb dX0_meanLastShadow_16 ?_
    refine lv_aload_n hx hb dX0_meanLastShadow_17 rfl (lv_at hl 0 rfl) ?_
    refine va_get (D := D) (ci := 0) (v := .int (nI (mSc u))) (C := RX0) (T := TX0) (N := 17) hx hb hts hin hown hK hP 0 rfl rfl 1 (by decide) (hts (.fieldLink RX0 48 "AfternoonMeter" "stickCount" "I") (List.mem_of_getElem? (i := 1) rfl)) (fun _ h9 => h9) rfl dX0_meanLastShadow_18 ?_
    refine lv_i2d hx hb dX0_meanLastShadow_21 ?_
    refine lv_ddiv hx hb dX0_meanLastShadow_22 (mean_ok hI c_4) ?_
    have hq : FP.ddiv (FP.i2d (fSum u 359)) (FP.i2d (nI (mSc u))) = fMean u := by rw [fMean, if_neg c_4]
    exact W.dret hx hb hr (fun t ht _ => ⟨_, rfl, hq, ht⟩) (fun _ h9 => nomatch h9) dX0_meanLastShadow_23
  · skip
    replace c_4 : (mSc u) = 0 := eN c_4
    refine lv_dconst0 hx hb dX0_meanLastShadow_7 ?_
    have hq : FP.dconst0 = fMean u := by rw [fMean, if_pos c_4]
    exact W.dret hx hb hr (fun t ht _ => ⟨_, rfl, hq, ht⟩) (fun _ h9 => nomatch h9) dX0_meanLastShadow_8
end
section
set_option maxHeartbeats 4000000 in
set_option maxRecDepth 100000 in
theorem c_X0_withSticks (l : Launch) (D : va_G) (cI : ClassId) (h : Nat) (a : Nat → Nat) (u : MS) (on : Nat → Int32) (d0 : Int64) (hI : Inv u) : Met l yX0_withSticks wsX0_withSticks ({ frames := 1, cells := 0, slots := 0, locals := 22 } : Room) (va_Pc [.ref h, .long d0] (fun U => va_P D vwCl (pic0 cI h a u on) U.heap ∧ va_K D vwCl [(cI, .int)] U)) (vp_Sl (fun r => r = fz (wsF u) (mSc u) d0)) 0 0 (fun _ => False) := by
  refine en_pu (cc := cX0_withSticks) (maxL := 6) (ret := (some .long)) _ _ (by decide) rfl (Nat.le_of_ble_eq_true rfl) ?_
  intro p e s m args below meth c ls hx hb hml hr hlocks hts hown hP hK hl
  have hown : s.vm.findClass RX0 = some m.cls := hown
  have hin : ∀ w ∈ wsX00, w ∈ wsX0_withSticks := fun _ h9 => List.mem_cons_of_mem _ (List.mem_append_right _ h9)
  have hl : lv_has ls 6 [(0, .ref h), (1, .long d0)] := hl
  obtain ⟨hIa, hIb, hIc, hId, hIe, hIf, hIg, hIh, hIi, hIj⟩ := id hI
  refine lv_lload_n hx hb dX0_withSticks_0 rfl (lv_at hl 1 rfl) ?_
  refine lv_lstore_n (lv' := [(3, .long d0), (0, .ref h), (1, .long d0)]) hx hb dX0_withSticks_1 rfl hl (by decide) rfl (fun ls hl => ?_)
  refine lv_iconst (v := nI 0) hx hb dX0_withSticks_2 (by decide +kernel) ?_
  refine lv_istore (lv' := [(5, .int (nI 0)), (3, .long d0), (0, .ref h), (1, .long d0)]) hx hb dX0_withSticks_3 hl (by decide) rfl (fun ls hl => ?_)
  have lp5 : ∀ (n k : Nat), k + n = mSc u → ∀ (X : Int64), X = fz (wsF u) k d0 → ∀ (ls : Array Slot), lv_has ls 6 [(0, .ref h), (1, .long d0), (3, .long X), (5, .int (nI k))] → W p l e ({ frames := 1, cells := 0, slots := 0, locals := 22 } : Room) s m args below meth c s.heap [] 0 0 (MQ below (vp_Sl (fun r => r = fz (wsF u) (mSc u) d0)) args s 0 0 (fun _ => False)) (F0 m 5 ls []) := by
    intro n
    induction n with
    | zero =>
      intro k hk X eX ls hl
      have ek : k = mSc u := by omega
      refine lv_iload hx hb dX0_withSticks_5 (lv_at hl 3 rfl) ?_
      refine lv_aload_n hx hb dX0_withSticks_7 rfl (lv_at hl 0 rfl) ?_
      refine va_get (D := D) (ci := 0) (v := .int (nI (mSc u))) (C := RX0) (T := TX0) (N := 17) hx hb hts hin hown hK hP 0 rfl rfl 1 (by decide) (hts (.fieldLink RX0 48 "AfternoonMeter" "stickCount" "I") (List.mem_of_getElem? (i := 1) rfl)) (fun _ h9 => h9) rfl dX0_withSticks_8 ?_
      refine lv_icmp_ge (tgt := 36) hx hb dX0_withSticks_11 (by decide) (fun c_11 => ?_) (fun c_11 => ?_)
      · skip
        replace c_11 : (mSc u) ≤ k := leN c_11
        refine lv_lload_n hx hb dX0_withSticks_36 rfl (lv_at hl 2 rfl) ?_
        have hq : X = fz (wsF u) (mSc u) d0 := by rw [eX, ek]
        exact W.lret hx hb hr (fun t ht _ => ⟨_, rfl, hq, ht⟩) (fun _ h9 => nomatch h9) dX0_withSticks_37
      · skip
        replace c_11 : k < (mSc u) := nleN c_11
        exact (by omega : False).elim
    | succ n ih =>
      intro k hk X eX ls hl
      refine lv_iload hx hb dX0_withSticks_5 (lv_at hl 3 rfl) ?_
      refine lv_aload_n hx hb dX0_withSticks_7 rfl (lv_at hl 0 rfl) ?_
      refine va_get (D := D) (ci := 0) (v := .int (nI (mSc u))) (C := RX0) (T := TX0) (N := 17) hx hb hts hin hown hK hP 0 rfl rfl 1 (by decide) (hts (.fieldLink RX0 48 "AfternoonMeter" "stickCount" "I") (List.mem_of_getElem? (i := 1) rfl)) (fun _ h9 => h9) rfl dX0_withSticks_8 ?_
      refine lv_icmp_ge (tgt := 36) hx hb dX0_withSticks_11 (by decide) (fun c_11 => ?_) (fun c_11 => ?_)
      · skip
        replace c_11 : (mSc u) ≤ k := leN c_11
        exact (by omega : False).elim
      · skip
        replace c_11 : k < (mSc u) := nleN c_11
        refine lv_lload_n hx hb dX0_withSticks_14 rfl (lv_at hl 2 rfl) ?_
        refine lv_ldc2 (v := (31)) hx hb hown (hts (.constantLong RX0 163 (31)) (List.mem_of_getElem? (i := 2) rfl)) dX0_withSticks_15 ?_
        refine lv_lmul hx hb dX0_withSticks_18 ?_
        refine lv_aload_n hx hb dX0_withSticks_19 rfl (lv_at hl 0 rfl) ?_
        refine lv_iload hx hb dX0_withSticks_20 (lv_at hl 3 rfl) ?_
        refine lv_bipush (v := nI 100) hx hb dX0_withSticks_22 (by decide +kernel) ?_
        refine vp_callSi (W.runV (As := [.int (nI k), .int (nI 100)]) (rest := [.long (X * (31))]) ⟨hx, hb, hml, hown, hts⟩ (c_X0_shadowOf l D cI h a u on k 100 (by omega)) (cwV 2 hts gX0_withSticks_X0_shadowOf rfl rfl rfl (by decide +kernel) ⟨Nat.le_of_ble_eq_true rfl, Nat.le_of_ble_eq_true rfl⟩) (pu_pre hK hP rfl rfl) rfl rfl hl.1 rfl (lv_room (Nat.le_of_ble_eq_true rfl)) dX0_withSticks_24 ⟨Nat.le_of_ble_eq_true rfl, Nat.le_of_ble_eq_true rfl⟩) (fun r hr => ?_)
        subst hr
        refine lv_i2l (v := Int32.toInt64 (fShad u k 100)) hx hb dX0_withSticks_27 rfl ?_
        refine lv_ladd hx hb dX0_withSticks_28 ?_
        refine lv_lstore_n (lv' := [(3, .long ((X * (31)) + (Int32.toInt64 (fShad u k 100)))), (0, .ref h), (1, .long d0), (5, .int (nI k))]) hx hb dX0_withSticks_29 rfl hl (by decide) rfl (fun ls hl => ?_)
        refine lv_iinc (v := nI (k + 1)) (lv' := [(5, .int (nI (k + 1))), (3, .long ((X * (31)) + (Int32.toInt64 (fShad u k 100)))), (0, .ref h), (1, .long d0)]) hx hb dX0_withSticks_30 hl (k := 3) rfl (nI_i1 _) (by decide) rfl (fun ls hl => ?_)
        refine lv_goto (tgt := 5) hx hb dX0_withSticks_33 (by decide) ?_
        exact ih (k + 1) (by omega) ((X * (31)) + (Int32.toInt64 (fShad u k 100))) (by subst eX; rfl) _ (lv_sub hl [2, 3, 1, 0] rfl)
  exact lp5 _ 0 (Nat.zero_add _) d0 (by rfl) _ (lv_sub hl [2, 3, 1, 0] rfl)
set_option maxHeartbeats 4000000 in
set_option maxRecDepth 100000 in
theorem c_X0_withNaps (l : Launch) (D : va_G) (cI : ClassId) (h : Nat) (a : Nat → Nat) (u : MS) (on : Nat → Int32) (d0 : Int64) (hI : Inv u) : Met l yX0_withNaps wsX0_withNaps ({ frames := 2, cells := 0, slots := 0, locals := 45 } : Room) (va_Pc [.ref h, .long d0] (fun U => va_P D vwCl (pic0 cI h a u on) U.heap ∧ va_K D vwCl [(cI, .int)] U)) (vp_Sl (fun r => r = fz (wnF u) (mNc u) d0)) 0 0 (fun _ => False) := by
  refine en_pu (cc := cX0_withNaps) (maxL := 6) (ret := (some .long)) _ _ (by decide) rfl (Nat.le_of_ble_eq_true rfl) ?_
  intro p e s m args below meth c ls hx hb hml hr hlocks hts hown hP hK hl
  have hown : s.vm.findClass RX0 = some m.cls := hown
  have hin : ∀ w ∈ wsX00, w ∈ wsX0_withNaps := fun _ h9 => List.mem_cons_of_mem _ (List.mem_append_right _ h9)
  have hl : lv_has ls 6 [(0, .ref h), (1, .long d0)] := hl
  obtain ⟨hIa, hIb, hIc, hId, hIe, hIf, hIg, hIh, hIi, hIj⟩ := id hI
  refine lv_lload_n hx hb dX0_withNaps_0 rfl (lv_at hl 1 rfl) ?_
  refine lv_lstore_n (lv' := [(3, .long d0), (0, .ref h), (1, .long d0)]) hx hb dX0_withNaps_1 rfl hl (by decide) rfl (fun ls hl => ?_)
  refine lv_iconst (v := nI 0) hx hb dX0_withNaps_2 (by decide +kernel) ?_
  refine lv_istore (lv' := [(5, .int (nI 0)), (3, .long d0), (0, .ref h), (1, .long d0)]) hx hb dX0_withNaps_3 hl (by decide) rfl (fun ls hl => ?_)
  have lp5 : ∀ (n k : Nat), k + n = mNc u → ∀ (X : Int64), X = fz (wnF u) k d0 → ∀ (ls : Array Slot), lv_has ls 6 [(0, .ref h), (1, .long d0), (3, .long X), (5, .int (nI k))] → W p l e ({ frames := 2, cells := 0, slots := 0, locals := 45 } : Room) s m args below meth c s.heap [] 0 0 (MQ below (vp_Sl (fun r => r = fz (wnF u) (mNc u) d0)) args s 0 0 (fun _ => False)) (F0 m 5 ls []) := by
    intro n
    induction n with
    | zero =>
      intro k hk X eX ls hl
      have ek : k = mNc u := by omega
      refine lv_iload hx hb dX0_withNaps_5 (lv_at hl 3 rfl) ?_
      refine lv_aload_n hx hb dX0_withNaps_7 rfl (lv_at hl 0 rfl) ?_
      refine va_get (D := D) (ci := 0) (v := .int (nI (mNc u))) (C := RX0) (T := TX0) (N := 17) hx hb hts hin hown hK hP 0 rfl rfl 4 (by decide) (hts (.fieldLink RX0 58 "AfternoonMeter" "napCount" "I") (List.mem_of_getElem? (i := 1) rfl)) (fun _ h9 => h9) rfl dX0_withNaps_8 ?_
      refine lv_icmp_ge (tgt := 72) hx hb dX0_withNaps_11 (by decide) (fun c_11 => ?_) (fun c_11 => ?_)
      · skip
        replace c_11 : (mNc u) ≤ k := leN c_11
        refine lv_lload_n hx hb dX0_withNaps_72 rfl (lv_at hl 2 rfl) ?_
        have hq : X = fz (wnF u) (mNc u) d0 := by rw [eX, ek]
        exact W.lret hx hb hr (fun t ht _ => ⟨_, rfl, hq, ht⟩) (fun _ h9 => nomatch h9) dX0_withNaps_73
      · skip
        replace c_11 : k < (mNc u) := nleN c_11
        exact (by omega : False).elim
    | succ n ih =>
      intro k hk X eX ls hl
      refine lv_iload hx hb dX0_withNaps_5 (lv_at hl 3 rfl) ?_
      refine lv_aload_n hx hb dX0_withNaps_7 rfl (lv_at hl 0 rfl) ?_
      refine va_get (D := D) (ci := 0) (v := .int (nI (mNc u))) (C := RX0) (T := TX0) (N := 17) hx hb hts hin hown hK hP 0 rfl rfl 4 (by decide) (hts (.fieldLink RX0 58 "AfternoonMeter" "napCount" "I") (List.mem_of_getElem? (i := 1) rfl)) (fun _ h9 => h9) rfl dX0_withNaps_8 ?_
      refine lv_icmp_ge (tgt := 72) hx hb dX0_withNaps_11 (by decide) (fun c_11 => ?_) (fun c_11 => ?_)
      · skip
        replace c_11 : (mNc u) ≤ k := leN c_11
        exact (by omega : False).elim
      · skip
        replace c_11 : k < (mNc u) := nleN c_11
        refine lv_lload_n hx hb dX0_withNaps_14 rfl (lv_at hl 2 rfl) ?_
        refine lv_ldc2 (v := (31)) hx hb hown (hts (.constantLong RX0 163 (31)) (List.mem_of_getElem? (i := 2) rfl)) dX0_withNaps_15 ?_
        refine lv_lmul hx hb dX0_withNaps_18 ?_
        refine lv_aload_n hx hb dX0_withNaps_19 rfl (lv_at hl 0 rfl) ?_
        refine va_get (D := D) (ci := 0) (v := .ref (a 1)) (C := RX0) (T := TX0) (N := 17) hx hb hts hin hown hK hP 0 rfl rfl 2 (by decide) (hts (.fieldLink RX0 13 "AfternoonMeter" "napStarts" "[I") (List.mem_of_getElem? (i := 3) rfl)) (fun _ h9 => h9) rfl dX0_withNaps_20 ?_
        refine lv_iload hx hb dX0_withNaps_23 (lv_at hl 3 rfl) ?_
        refine q_iald (v := nI (aN u k)) hx hb hK hP 2 0 rfl rfl (by omega) (by decide) ((hIg k (by omega)).1) dX0_withNaps_25 ?_
        obtain ⟨_, _, _, _⟩ := hIg k (by omega)
        refine lv_i2l (v := Int32.toInt64 (nI (aN u k))) hx hb dX0_withNaps_26 rfl ?_
        refine lv_ladd hx hb dX0_withNaps_27 ?_
        refine lv_lstore_n (lv' := [(3, .long ((X * (31)) + (Int32.toInt64 (nI (aN u k))))), (0, .ref h), (1, .long d0), (5, .int (nI k))]) hx hb dX0_withNaps_28 rfl hl (by decide) rfl (fun ls hl => ?_)
        refine lv_lload_n hx hb dX0_withNaps_29 rfl (lv_at hl 0 rfl) ?_
        refine lv_ldc2 (v := (31)) hx hb hown (hts (.constantLong RX0 163 (31)) (List.mem_of_getElem? (i := 2) rfl)) dX0_withNaps_30 ?_
        refine lv_lmul hx hb dX0_withNaps_33 ?_
        refine lv_aload_n hx hb dX0_withNaps_34 rfl (lv_at hl 1 rfl) ?_
        refine va_get (D := D) (ci := 0) (v := .ref (a 2)) (C := RX0) (T := TX0) (N := 17) hx hb hts hin hown hK hP 0 rfl rfl 3 (by decide) (hts (.fieldLink RX0 16 "AfternoonMeter" "napEnds" "[I") (List.mem_of_getElem? (i := 4) rfl)) (fun _ h9 => h9) rfl dX0_withNaps_35 ?_
        refine lv_iload hx hb dX0_withNaps_38 (lv_at hl 3 rfl) ?_
        refine q_iald (v := nI (bN u k)) hx hb hK hP 3 0 rfl rfl (by omega) (by decide) ((hIg k (by omega)).2.1) dX0_withNaps_40 ?_
        obtain ⟨_, _, _, _⟩ := hIg k (by omega)
        refine lv_aload_n hx hb dX0_withNaps_41 rfl (lv_at hl 1 rfl) ?_
        refine va_get (D := D) (ci := 0) (v := .ref (a 1)) (C := RX0) (T := TX0) (N := 17) hx hb hts hin hown hK hP 0 rfl rfl 2 (by decide) (hts (.fieldLink RX0 13 "AfternoonMeter" "napStarts" "[I") (List.mem_of_getElem? (i := 3) rfl)) (fun _ h9 => h9) rfl dX0_withNaps_42 ?_
        refine lv_iload hx hb dX0_withNaps_45 (lv_at hl 3 rfl) ?_
        refine q_iald (v := nI (aN u k)) hx hb hK hP 2 0 rfl rfl (by omega) (by decide) ((hIg k (by omega)).1) dX0_withNaps_47 ?_
        obtain ⟨_, _, _, _⟩ := hIg k (by omega)
        refine q_isubN hx hb (by omega) dX0_withNaps_48 ?_
        refine lv_i2l (v := Int32.toInt64 (nI ((bN u k) - (aN u k)))) hx hb dX0_withNaps_49 rfl ?_
        refine lv_ladd hx hb dX0_withNaps_50 ?_
        refine lv_lstore_n (lv' := [(3, .long ((((X * (31)) + (Int32.toInt64 (nI (aN u k)))) * (31)) + (Int32.toInt64 (nI ((bN u k) - (aN u k)))))), (0, .ref h), (1, .long d0), (5, .int (nI k))]) hx hb dX0_withNaps_51 rfl hl (by decide) rfl (fun ls hl => ?_)
        refine lv_lload_n hx hb dX0_withNaps_52 rfl (lv_at hl 0 rfl) ?_
        refine lv_ldc2 (v := (31)) hx hb hown (hts (.constantLong RX0 163 (31)) (List.mem_of_getElem? (i := 2) rfl)) dX0_withNaps_53 ?_
        refine lv_lmul hx hb dX0_withNaps_56 ?_
        refine lv_aload_n hx hb dX0_withNaps_57 rfl (lv_at hl 1 rfl) ?_
        refine lv_iload hx hb dX0_withNaps_58 (lv_at hl 3 rfl) ?_
        refine vp_callSi (W.runV (As := [.int (nI k)]) (rest := [.long (((((X * (31)) + (Int32.toInt64 (nI (aN u k)))) * (31)) + (Int32.toInt64 (nI ((bN u k) - (aN u k))))) * (31))]) ⟨hx, hb, hml, hown, hts⟩ (c_X0_countAlone l D cI h a u on k hI (by omega)) (cwV 1 hts gX0_withNaps_X0_countAlone rfl rfl rfl (by decide +kernel) ⟨Nat.le_of_ble_eq_true rfl, Nat.le_of_ble_eq_true rfl⟩) (pu_pre hK hP rfl rfl) rfl rfl hl.1 rfl (lv_room (Nat.le_of_ble_eq_true rfl)) dX0_withNaps_60 ⟨Nat.le_of_ble_eq_true rfl, Nat.le_of_ble_eq_true rfl⟩) (fun r hr => ?_)
        subst hr
        refine lv_i2l (v := Int32.toInt64 (fAl u k)) hx hb dX0_withNaps_63 rfl ?_
        refine lv_ladd hx hb dX0_withNaps_64 ?_
        refine lv_lstore_n (lv' := [(3, .long ((((((X * (31)) + (Int32.toInt64 (nI (aN u k)))) * (31)) + (Int32.toInt64 (nI ((bN u k) - (aN u k))))) * (31)) + (Int32.toInt64 (fAl u k)))), (0, .ref h), (1, .long d0), (5, .int (nI k))]) hx hb dX0_withNaps_65 rfl hl (by decide) rfl (fun ls hl => ?_)
        refine lv_iinc (v := nI (k + 1)) (lv' := [(5, .int (nI (k + 1))), (3, .long ((((((X * (31)) + (Int32.toInt64 (nI (aN u k)))) * (31)) + (Int32.toInt64 (nI ((bN u k) - (aN u k))))) * (31)) + (Int32.toInt64 (fAl u k)))), (0, .ref h), (1, .long d0)]) hx hb dX0_withNaps_66 hl (k := 3) rfl (nI_i1 _) (by decide) rfl (fun ls hl => ?_)
        refine lv_goto (tgt := 5) hx hb dX0_withNaps_69 (by decide) ?_
        exact ih (k + 1) (by omega) ((((((X * (31)) + (Int32.toInt64 (nI (aN u k)))) * (31)) + (Int32.toInt64 (nI ((bN u k) - (aN u k))))) * (31)) + (Int32.toInt64 (fAl u k))) (by subst eX; rfl) _ (lv_sub hl [2, 3, 1, 0] rfl)
  exact lp5 _ 0 (Nat.zero_add _) d0 (by rfl) _ (lv_sub hl [2, 3, 1, 0] rfl)
set_option maxHeartbeats 4000000 in
set_option maxRecDepth 100000 in
theorem c_X0_withBees (l : Launch) (D : va_G) (cI : ClassId) (h : Nat) (a : Nat → Nat) (u : MS) (on : Nat → Int32) (d0 : Int64) (hI : Inv u) : Met l yX0_withBees wsX0_withBees ({ frames := 4, cells := 0, slots := 0, locals := 89 } : Room) (va_Pc [.ref h, .long d0] (fun U => va_P D vwCl (pic0 cI h a u on) U.heap ∧ va_K D vwCl [(cI, .int)] U)) (vp_Sl (fun r => r = fz (wbF u) (mBc u) d0)) 0 0 (fun _ => False) := by
  refine en_pu (cc := cX0_withBees) (maxL := 6) (ret := (some .long)) _ _ (by decide) rfl (Nat.le_of_ble_eq_true rfl) ?_
  intro p e s m args below meth c ls hx hb hml hr hlocks hts hown hP hK hl
  have hown : s.vm.findClass RX0 = some m.cls := hown
  have hin : ∀ w ∈ wsX00, w ∈ wsX0_withBees := fun _ h9 => List.mem_cons_of_mem _ (List.mem_append_left _ (List.mem_append_right _ h9))
  have hl : lv_has ls 6 [(0, .ref h), (1, .long d0)] := hl
  obtain ⟨hIa, hIb, hIc, hId, hIe, hIf, hIg, hIh, hIi, hIj⟩ := id hI
  refine lv_lload_n hx hb dX0_withBees_0 rfl (lv_at hl 1 rfl) ?_
  refine lv_lstore_n (lv' := [(3, .long d0), (0, .ref h), (1, .long d0)]) hx hb dX0_withBees_1 rfl hl (by decide) rfl (fun ls hl => ?_)
  refine lv_iconst (v := nI 0) hx hb dX0_withBees_2 (by decide +kernel) ?_
  refine lv_istore (lv' := [(5, .int (nI 0)), (3, .long d0), (0, .ref h), (1, .long d0)]) hx hb dX0_withBees_3 hl (by decide) rfl (fun ls hl => ?_)
  have lp5 : ∀ (n k : Nat), k + n = mBc u → ∀ (X : Int64), X = fz (wbF u) k d0 → ∀ (ls : Array Slot), lv_has ls 6 [(0, .ref h), (1, .long d0), (3, .long X), (5, .int (nI k))] → W p l e ({ frames := 4, cells := 0, slots := 0, locals := 89 } : Room) s m args below meth c s.heap [] 0 0 (MQ below (vp_Sl (fun r => r = fz (wbF u) (mBc u) d0)) args s 0 0 (fun _ => False)) (F0 m 5 ls []) := by
    intro n
    induction n with
    | zero =>
      intro k hk X eX ls hl
      have ek : k = mBc u := by omega
      refine lv_iload hx hb dX0_withBees_5 (lv_at hl 3 rfl) ?_
      refine lv_aload_n hx hb dX0_withBees_7 rfl (lv_at hl 0 rfl) ?_
      refine va_get (D := D) (ci := 0) (v := .int (nI (mBc u))) (C := RX0) (T := TX0) (N := 17) hx hb hts hin hown hK hP 0 rfl rfl 8 (by decide) (hts (.fieldLink RX0 73 "AfternoonMeter" "beeCount" "I") (List.mem_of_getElem? (i := 1) rfl)) (fun _ h9 => h9) rfl dX0_withBees_8 ?_
      refine lv_icmp_ge (tgt := 62) hx hb dX0_withBees_11 (by decide) (fun c_11 => ?_) (fun c_11 => ?_)
      · skip
        replace c_11 : (mBc u) ≤ k := leN c_11
        refine lv_lload_n hx hb dX0_withBees_62 rfl (lv_at hl 2 rfl) ?_
        have hq : X = fz (wbF u) (mBc u) d0 := by rw [eX, ek]
        exact W.lret hx hb hr (fun t ht _ => ⟨_, rfl, hq, ht⟩) (fun _ h9 => nomatch h9) dX0_withBees_63
      · skip
        replace c_11 : k < (mBc u) := nleN c_11
        exact (by omega : False).elim
    | succ n ih =>
      intro k hk X eX ls hl
      refine lv_iload hx hb dX0_withBees_5 (lv_at hl 3 rfl) ?_
      refine lv_aload_n hx hb dX0_withBees_7 rfl (lv_at hl 0 rfl) ?_
      refine va_get (D := D) (ci := 0) (v := .int (nI (mBc u))) (C := RX0) (T := TX0) (N := 17) hx hb hts hin hown hK hP 0 rfl rfl 8 (by decide) (hts (.fieldLink RX0 73 "AfternoonMeter" "beeCount" "I") (List.mem_of_getElem? (i := 1) rfl)) (fun _ h9 => h9) rfl dX0_withBees_8 ?_
      refine lv_icmp_ge (tgt := 62) hx hb dX0_withBees_11 (by decide) (fun c_11 => ?_) (fun c_11 => ?_)
      · skip
        replace c_11 : (mBc u) ≤ k := leN c_11
        exact (by omega : False).elim
      · skip
        replace c_11 : k < (mBc u) := nleN c_11
        refine lv_lload_n hx hb dX0_withBees_14 rfl (lv_at hl 2 rfl) ?_
        refine lv_ldc2 (v := (31)) hx hb hown (hts (.constantLong RX0 163 (31)) (List.mem_of_getElem? (i := 2) rfl)) dX0_withBees_15 ?_
        refine lv_lmul hx hb dX0_withBees_18 ?_
        refine lv_aload_n hx hb dX0_withBees_19 rfl (lv_at hl 0 rfl) ?_
        refine lv_iload hx hb dX0_withBees_20 (lv_at hl 3 rfl) ?_
        refine vp_callSi (W.runV (As := [.int (nI k)]) (rest := [.long (X * (31))]) ⟨hx, hb, hml, hown, hts⟩ (c_X0_countTicks l D cI h a u on k hI (by omega)) (cwV 1 hts gX0_withBees_X0_countTicks rfl rfl rfl (by decide +kernel) ⟨Nat.le_of_ble_eq_true rfl, Nat.le_of_ble_eq_true rfl⟩) (pu_pre hK hP rfl rfl) rfl rfl hl.1 rfl (lv_room (Nat.le_of_ble_eq_true rfl)) dX0_withBees_22 ⟨Nat.le_of_ble_eq_true rfl, Nat.le_of_ble_eq_true rfl⟩) (fun r hr => ?_)
        subst hr
        refine lv_i2l (v := Int32.toInt64 (fTk u k)) hx hb dX0_withBees_25 rfl ?_
        refine lv_ladd hx hb dX0_withBees_26 ?_
        refine lv_lstore_n (lv' := [(3, .long ((X * (31)) + (Int32.toInt64 (fTk u k)))), (0, .ref h), (1, .long d0), (5, .int (nI k))]) hx hb dX0_withBees_27 rfl hl (by decide) rfl (fun ls hl => ?_)
        refine lv_lload_n hx hb dX0_withBees_28 rfl (lv_at hl 0 rfl) ?_
        refine lv_ldc2 (v := (31)) hx hb hown (hts (.constantLong RX0 163 (31)) (List.mem_of_getElem? (i := 2) rfl)) dX0_withBees_29 ?_
        refine lv_lmul hx hb dX0_withBees_32 ?_
        refine lv_aload_n hx hb dX0_withBees_33 rfl (lv_at hl 1 rfl) ?_
        refine lv_iload hx hb dX0_withBees_34 (lv_at hl 3 rfl) ?_
        refine vp_callSi (W.runV (As := [.int (nI k)]) (rest := [.long (((X * (31)) + (Int32.toInt64 (fTk u k))) * (31))]) ⟨hx, hb, hml, hown, hts⟩ (c_X0_measuredBy l D cI h a u on k hI (by omega)) (cwV 1 hts gX0_withBees_X0_measuredBy rfl rfl rfl (by decide +kernel) ⟨Nat.le_of_ble_eq_true rfl, Nat.le_of_ble_eq_true rfl⟩) (pu_pre hK hP rfl rfl) rfl rfl hl.1 rfl (lv_room (Nat.le_of_ble_eq_true rfl)) dX0_withBees_36 ⟨Nat.le_of_ble_eq_true rfl, Nat.le_of_ble_eq_true rfl⟩) (fun r hr => ?_)
        subst hr
        refine lv_i2l (v := Int32.toInt64 (fMe u k)) hx hb dX0_withBees_39 rfl ?_
        refine lv_ladd hx hb dX0_withBees_40 ?_
        refine lv_lstore_n (lv' := [(3, .long ((((X * (31)) + (Int32.toInt64 (fTk u k))) * (31)) + (Int32.toInt64 (fMe u k)))), (0, .ref h), (1, .long d0), (5, .int (nI k))]) hx hb dX0_withBees_41 rfl hl (by decide) rfl (fun ls hl => ?_)
        refine lv_lload_n hx hb dX0_withBees_42 rfl (lv_at hl 0 rfl) ?_
        refine lv_ldc2 (v := (31)) hx hb hown (hts (.constantLong RX0 163 (31)) (List.mem_of_getElem? (i := 2) rfl)) dX0_withBees_43 ?_
        refine lv_lmul hx hb dX0_withBees_46 ?_
        refine lv_aload_n hx hb dX0_withBees_47 rfl (lv_at hl 1 rfl) ?_
        refine lv_iload hx hb dX0_withBees_48 (lv_at hl 3 rfl) ?_
        refine vp_callSi (W.runV (As := [.int (nI k)]) (rest := [.long (((((X * (31)) + (Int32.toInt64 (fTk u k))) * (31)) + (Int32.toInt64 (fMe u k))) * (31))]) ⟨hx, hb, hml, hown, hts⟩ (c_X0_nextTick l D cI h a u on k hI (by omega)) (cwV 1 hts gX0_withBees_X0_nextTick rfl rfl rfl (by decide +kernel) ⟨Nat.le_of_ble_eq_true rfl, Nat.le_of_ble_eq_true rfl⟩) (pu_pre hK hP rfl rfl) rfl rfl hl.1 rfl (lv_room (Nat.le_of_ble_eq_true rfl)) dX0_withBees_50 ⟨Nat.le_of_ble_eq_true rfl, Nat.le_of_ble_eq_true rfl⟩) (fun r hr => ?_)
        subst hr
        refine lv_i2l (v := Int32.toInt64 (fNx u k)) hx hb dX0_withBees_53 rfl ?_
        refine lv_ladd hx hb dX0_withBees_54 ?_
        refine lv_lstore_n (lv' := [(3, .long ((((((X * (31)) + (Int32.toInt64 (fTk u k))) * (31)) + (Int32.toInt64 (fMe u k))) * (31)) + (Int32.toInt64 (fNx u k)))), (0, .ref h), (1, .long d0), (5, .int (nI k))]) hx hb dX0_withBees_55 rfl hl (by decide) rfl (fun ls hl => ?_)
        refine lv_iinc (v := nI (k + 1)) (lv' := [(5, .int (nI (k + 1))), (3, .long ((((((X * (31)) + (Int32.toInt64 (fTk u k))) * (31)) + (Int32.toInt64 (fMe u k))) * (31)) + (Int32.toInt64 (fNx u k)))), (0, .ref h), (1, .long d0)]) hx hb dX0_withBees_56 hl (k := 3) rfl (nI_i1 _) (by decide) rfl (fun ls hl => ?_)
        refine lv_goto (tgt := 5) hx hb dX0_withBees_59 (by decide) ?_
        exact ih (k + 1) (by omega) ((((((X * (31)) + (Int32.toInt64 (fTk u k))) * (31)) + (Int32.toInt64 (fMe u k))) * (31)) + (Int32.toInt64 (fNx u k))) (by subst eX; rfl) _ (lv_sub hl [2, 3, 1, 0] rfl)
  exact lp5 _ 0 (Nat.zero_add _) d0 (by rfl) _ (lv_sub hl [2, 3, 1, 0] rfl)
set_option maxHeartbeats 4000000 in
set_option maxRecDepth 100000 in
theorem c_X0_digest (l : Launch) (D : va_G) (cI : ClassId) (h : Nat) (a : Nat → Nat) (u : MS) (on : Nat → Int32) (hI : Inv u) (hO : InvO u on) : Met l yX0_digest wsX0_digest ({ frames := 6, cells := 0, slots := 0, locals := 134 } : Room) (va_Pc [.ref h] (fun U => va_P D vwCl (pic0 cI h a u on) U.heap ∧ va_K D vwCl [(cI, .int)] U)) (vp_Sl (fun r => r = fDig u)) 0 0 (fun _ => False) := by
  refine en_pu (cc := cX0_digest) (maxL := 3) (ret := (some .long)) _ _ (by decide) rfl (Nat.le_of_ble_eq_true rfl) ?_
  intro p e s m args below meth c ls hx hb hml hr hlocks hts hown hP hK hl
  have hown : s.vm.findClass RX0 = some m.cls := hown
  have hin : ∀ w ∈ wsX00, w ∈ wsX0_digest := fun _ h9 => List.mem_cons_of_mem _ (List.mem_append_left _ (List.mem_append_right _ h9))
  have hl : lv_has ls 3 [(0, .ref h)] := hl
  obtain ⟨hIa, hIb, hIc, hId, hIe, hIf, hIg, hIh, hIi, hIj⟩ := id hI
  refine lv_ldc2 (v := (2083)) hx hb hown (hts (.constantLong RX0 161 (2083)) (List.mem_of_getElem? (i := 1) rfl)) dX0_digest_0 ?_
  refine lv_lstore_n (lv' := [(1, .long (2083)), (0, .ref h)]) hx hb dX0_digest_3 rfl hl (by decide) rfl (fun ls hl => ?_)
  refine lv_lload_n hx hb dX0_digest_4 rfl (lv_at hl 0 rfl) ?_
  refine lv_ldc2 (v := (31)) hx hb hown (hts (.constantLong RX0 163 (31)) (List.mem_of_getElem? (i := 2) rfl)) dX0_digest_5 ?_
  refine lv_lmul hx hb dX0_digest_8 ?_
  refine lv_aload_n hx hb dX0_digest_9 rfl (lv_at hl 1 rfl) ?_
  refine va_get (D := D) (ci := 0) (v := .int (mAft u)) (C := RX0) (T := TX0) (N := 17) hx hb hts hin hown hK hP 0 rfl rfl 16 (by decide) (hts (.fieldLink RX0 109 "AfternoonMeter" "afternoonNumber" "I") (List.mem_of_getElem? (i := 3) rfl)) (fun _ h9 => h9) rfl dX0_digest_10 ?_
  refine lv_i2l (v := Int32.toInt64 (mAft u)) hx hb dX0_digest_13 rfl ?_
  refine lv_ladd hx hb dX0_digest_14 ?_
  refine lv_topl (fun d_14 ed_14 => ?_)
  refine lv_lstore_n (lv' := [(1, .long d_14), (0, .ref h)]) hx hb dX0_digest_15 rfl hl (by decide) rfl (fun ls hl => ?_)
  refine lv_lload_n hx hb dX0_digest_16 rfl (lv_at hl 0 rfl) ?_
  refine lv_ldc2 (v := (31)) hx hb hown (hts (.constantLong RX0 163 (31)) (List.mem_of_getElem? (i := 2) rfl)) dX0_digest_17 ?_
  refine lv_lmul hx hb dX0_digest_20 ?_
  refine lv_aload_n hx hb dX0_digest_21 rfl (lv_at hl 1 rfl) ?_
  refine va_get (D := D) (ci := 0) (v := .int (nI (mNow u))) (C := RX0) (T := TX0) (N := 17) hx hb hts hin hown hK hP 0 rfl rfl 15 (by decide) (hts (.fieldLink RX0 97 "AfternoonMeter" "now" "I") (List.mem_of_getElem? (i := 4) rfl)) (fun _ h9 => h9) rfl dX0_digest_22 ?_
  refine lv_i2l (v := Int32.toInt64 (nI (mNow u))) hx hb dX0_digest_25 rfl ?_
  refine lv_ladd hx hb dX0_digest_26 ?_
  refine lv_topl (fun d_26 ed_26 => ?_)
  refine lv_lstore_n (lv' := [(1, .long d_26), (0, .ref h)]) hx hb dX0_digest_27 rfl hl (by decide) rfl (fun ls hl => ?_)
  refine lv_lload_n hx hb dX0_digest_28 rfl (lv_at hl 0 rfl) ?_
  refine lv_ldc2 (v := (31)) hx hb hown (hts (.constantLong RX0 163 (31)) (List.mem_of_getElem? (i := 2) rfl)) dX0_digest_29 ?_
  refine lv_lmul hx hb dX0_digest_32 ?_
  refine lv_aload_n hx hb dX0_digest_33 rfl (lv_at hl 1 rfl) ?_
  refine vp_callSi (W.runV (As := []) (rest := [.long (d_26 * (31))]) ⟨hx, hb, hml, hown, hts⟩ (c_X0_awakeMinutes l D cI h a u on hI) (cwV 0 hts gX0_digest_X0_awakeMinutes rfl rfl rfl (by decide +kernel) ⟨Nat.le_of_ble_eq_true rfl, Nat.le_of_ble_eq_true rfl⟩) (pu_pre hK hP rfl rfl) rfl rfl hl.1 rfl (lv_room (Nat.le_of_ble_eq_true rfl)) dX0_digest_34 ⟨Nat.le_of_ble_eq_true rfl, Nat.le_of_ble_eq_true rfl⟩) (fun r hr => ?_)
  subst hr
  refine lv_i2l (v := Int32.toInt64 (fAw u)) hx hb dX0_digest_37 rfl ?_
  refine lv_ladd hx hb dX0_digest_38 ?_
  refine lv_topl (fun d_38 ed_38 => ?_)
  refine lv_lstore_n (lv' := [(1, .long d_38), (0, .ref h)]) hx hb dX0_digest_39 rfl hl (by decide) rfl (fun ls hl => ?_)
  refine lv_lload_n hx hb dX0_digest_40 rfl (lv_at hl 0 rfl) ?_
  refine lv_ldc2 (v := (31)) hx hb hown (hts (.constantLong RX0 163 (31)) (List.mem_of_getElem? (i := 2) rfl)) dX0_digest_41 ?_
  refine lv_lmul hx hb dX0_digest_44 ?_
  refine lv_aload_n hx hb dX0_digest_45 rfl (lv_at hl 1 rfl) ?_
  refine vp_callSi (W.runV (As := []) (rest := [.long (d_38 * (31))]) ⟨hx, hb, hml, hown, hts⟩ (c_X0_longestAwake l D cI h a u on hI) (cwV 0 hts gX0_digest_X0_longestAwake rfl rfl rfl (by decide +kernel) ⟨Nat.le_of_ble_eq_true rfl, Nat.le_of_ble_eq_true rfl⟩) (pu_pre hK hP rfl rfl) rfl rfl hl.1 rfl (lv_room (Nat.le_of_ble_eq_true rfl)) dX0_digest_46 ⟨Nat.le_of_ble_eq_true rfl, Nat.le_of_ble_eq_true rfl⟩) (fun r hr => ?_)
  subst hr
  refine lv_i2l (v := Int32.toInt64 (fLong u)) hx hb dX0_digest_49 rfl ?_
  refine lv_ladd hx hb dX0_digest_50 ?_
  refine lv_topl (fun d_50 ed_50 => ?_)
  refine lv_lstore_n (lv' := [(1, .long d_50), (0, .ref h)]) hx hb dX0_digest_51 rfl hl (by decide) rfl (fun ls hl => ?_)
  refine lv_lload_n hx hb dX0_digest_52 rfl (lv_at hl 0 rfl) ?_
  refine lv_ldc2 (v := (31)) hx hb hown (hts (.constantLong RX0 163 (31)) (List.mem_of_getElem? (i := 2) rfl)) dX0_digest_53 ?_
  refine lv_lmul hx hb dX0_digest_56 ?_
  refine lv_aload_n hx hb dX0_digest_57 rfl (lv_at hl 1 rfl) ?_
  refine va_get (D := D) (ci := 0) (v := .int (nI (mSc u))) (C := RX0) (T := TX0) (N := 17) hx hb hts hin hown hK hP 0 rfl rfl 1 (by decide) (hts (.fieldLink RX0 48 "AfternoonMeter" "stickCount" "I") (List.mem_of_getElem? (i := 5) rfl)) (fun _ h9 => h9) rfl dX0_digest_58 ?_
  refine lv_i2l (v := Int32.toInt64 (nI (mSc u))) hx hb dX0_digest_61 rfl ?_
  refine lv_ladd hx hb dX0_digest_62 ?_
  refine lv_topl (fun d_62 ed_62 => ?_)
  refine lv_lstore_n (lv' := [(1, .long d_62), (0, .ref h)]) hx hb dX0_digest_63 rfl hl (by decide) rfl (fun ls hl => ?_)
  refine lv_lload_n hx hb dX0_digest_64 rfl (lv_at hl 0 rfl) ?_
  refine lv_ldc2 (v := (31)) hx hb hown (hts (.constantLong RX0 163 (31)) (List.mem_of_getElem? (i := 2) rfl)) dX0_digest_65 ?_
  refine lv_lmul hx hb dX0_digest_68 ?_
  refine lv_aload_n hx hb dX0_digest_69 rfl (lv_at hl 1 rfl) ?_
  refine va_get (D := D) (ci := 0) (v := .int (nI (mNc u))) (C := RX0) (T := TX0) (N := 17) hx hb hts hin hown hK hP 0 rfl rfl 4 (by decide) (hts (.fieldLink RX0 58 "AfternoonMeter" "napCount" "I") (List.mem_of_getElem? (i := 6) rfl)) (fun _ h9 => h9) rfl dX0_digest_70 ?_
  refine lv_i2l (v := Int32.toInt64 (nI (mNc u))) hx hb dX0_digest_73 rfl ?_
  refine lv_ladd hx hb dX0_digest_74 ?_
  refine lv_topl (fun d_74 ed_74 => ?_)
  refine lv_lstore_n (lv' := [(1, .long d_74), (0, .ref h)]) hx hb dX0_digest_75 rfl hl (by decide) rfl (fun ls hl => ?_)
  refine lv_lload_n hx hb dX0_digest_76 rfl (lv_at hl 0 rfl) ?_
  refine lv_ldc2 (v := (31)) hx hb hown (hts (.constantLong RX0 163 (31)) (List.mem_of_getElem? (i := 2) rfl)) dX0_digest_77 ?_
  refine lv_lmul hx hb dX0_digest_80 ?_
  refine lv_aload_n hx hb dX0_digest_81 rfl (lv_at hl 1 rfl) ?_
  refine va_get (D := D) (ci := 0) (v := .int (nI (mBc u))) (C := RX0) (T := TX0) (N := 17) hx hb hts hin hown hK hP 0 rfl rfl 8 (by decide) (hts (.fieldLink RX0 73 "AfternoonMeter" "beeCount" "I") (List.mem_of_getElem? (i := 7) rfl)) (fun _ h9 => h9) rfl dX0_digest_82 ?_
  refine lv_i2l (v := Int32.toInt64 (nI (mBc u))) hx hb dX0_digest_85 rfl ?_
  refine lv_ladd hx hb dX0_digest_86 ?_
  refine lv_topl (fun d_86 ed_86 => ?_)
  refine lv_lstore_n (lv' := [(1, .long d_86), (0, .ref h)]) hx hb dX0_digest_87 rfl hl (by decide) rfl (fun ls hl => ?_)
  refine lv_lload_n hx hb dX0_digest_88 rfl (lv_at hl 0 rfl) ?_
  refine lv_ldc2 (v := (31)) hx hb hown (hts (.constantLong RX0 163 (31)) (List.mem_of_getElem? (i := 2) rfl)) dX0_digest_89 ?_
  refine lv_lmul hx hb dX0_digest_92 ?_
  refine lv_aload_n hx hb dX0_digest_93 rfl (lv_at hl 1 rfl) ?_
  refine va_get (D := D) (ci := 0) (v := .int (nI (mTea u))) (C := RX0) (T := TX0) (N := 17) hx hb hts hin hown hK hP 0 rfl rfl 13 (by decide) (hts (.fieldLink RX0 88 "AfternoonMeter" "inCup" "I") (List.mem_of_getElem? (i := 8) rfl)) (fun _ h9 => h9) rfl dX0_digest_94 ?_
  refine lv_i2l (v := Int32.toInt64 (nI (mTea u))) hx hb dX0_digest_97 rfl ?_
  refine lv_ladd hx hb dX0_digest_98 ?_
  refine lv_topl (fun d_98 ed_98 => ?_)
  refine lv_lstore_n (lv' := [(1, .long d_98), (0, .ref h)]) hx hb dX0_digest_99 rfl hl (by decide) rfl (fun ls hl => ?_)
  refine lv_lload_n hx hb dX0_digest_100 rfl (lv_at hl 0 rfl) ?_
  refine lv_ldc2 (v := (31)) hx hb hown (hts (.constantLong RX0 163 (31)) (List.mem_of_getElem? (i := 2) rfl)) dX0_digest_101 ?_
  refine lv_lmul hx hb dX0_digest_104 ?_
  refine lv_aload_n hx hb dX0_digest_105 rfl (lv_at hl 1 rfl) ?_
  refine va_get (D := D) (ci := 0) (v := .int (mSpl u)) (C := RX0) (T := TX0) (N := 17) hx hb hts hin hown hK hP 0 rfl rfl 14 (by decide) (hts (.fieldLink RX0 106 "AfternoonMeter" "ranOver" "I") (List.mem_of_getElem? (i := 9) rfl)) (fun _ h9 => h9) rfl dX0_digest_106 ?_
  refine lv_i2l (v := Int32.toInt64 (mSpl u)) hx hb dX0_digest_109 rfl ?_
  refine lv_ladd hx hb dX0_digest_110 ?_
  refine lv_topl (fun d_110 ed_110 => ?_)
  refine lv_lstore_n (lv' := [(1, .long d_110), (0, .ref h)]) hx hb dX0_digest_111 rfl hl (by decide) rfl (fun ls hl => ?_)
  refine lv_lload_n hx hb dX0_digest_112 rfl (lv_at hl 0 rfl) ?_
  refine lv_ldc2 (v := (31)) hx hb hown (hts (.constantLong RX0 163 (31)) (List.mem_of_getElem? (i := 2) rfl)) dX0_digest_113 ?_
  refine lv_lmul hx hb dX0_digest_116 ?_
  refine lv_aload_n hx hb dX0_digest_117 rfl (lv_at hl 1 rfl) ?_
  refine vp_callSi (W.runV (As := []) (rest := [.long (d_110 * (31))]) ⟨hx, hb, hml, hown, hts⟩ (c_X0_spiltAtEnd l D cI h a u on hI (by omega)) (cwV 0 hts gX0_digest_X0_spiltAtEnd rfl rfl rfl (by decide +kernel) ⟨Nat.le_of_ble_eq_true rfl, Nat.le_of_ble_eq_true rfl⟩) (pu_pre hK hP rfl rfl) rfl rfl hl.1 rfl (lv_room (Nat.le_of_ble_eq_true rfl)) dX0_digest_118 ⟨Nat.le_of_ble_eq_true rfl, Nat.le_of_ble_eq_true rfl⟩) (fun r hr => ?_)
  subst hr
  refine lv_i2l (v := Int32.toInt64 (fEnd u)) hx hb dX0_digest_121 rfl ?_
  refine lv_ladd hx hb dX0_digest_122 ?_
  refine lv_topl (fun d_122 ed_122 => ?_)
  refine lv_lstore_n (lv' := [(1, .long d_122), (0, .ref h)]) hx hb dX0_digest_123 rfl hl (by decide) rfl (fun ls hl => ?_)
  refine lv_lload_n hx hb dX0_digest_124 rfl (lv_at hl 0 rfl) ?_
  refine lv_ldc2 (v := (31)) hx hb hown (hts (.constantLong RX0 163 (31)) (List.mem_of_getElem? (i := 2) rfl)) dX0_digest_125 ?_
  refine lv_lmul hx hb dX0_digest_128 ?_
  refine lv_aload_n hx hb dX0_digest_129 rfl (lv_at hl 1 rfl) ?_
  refine vp_callSi (W.runV (As := []) (rest := [.long (d_122 * (31))]) ⟨hx, hb, hml, hown, hts⟩ (c_X0_safeRate l D cI h a u on hI (by omega)) (cwV 0 hts gX0_digest_X0_safeRate rfl rfl rfl (by decide +kernel) ⟨Nat.le_of_ble_eq_true rfl, Nat.le_of_ble_eq_true rfl⟩) (pu_pre hK hP rfl rfl) rfl rfl hl.1 rfl (lv_room (Nat.le_of_ble_eq_true rfl)) dX0_digest_130 ⟨Nat.le_of_ble_eq_true rfl, Nat.le_of_ble_eq_true rfl⟩) (fun r hr => ?_)
  subst hr
  refine lv_i2l (v := Int32.toInt64 (nI (sfF u 9))) hx hb dX0_digest_133 rfl ?_
  refine lv_ladd hx hb dX0_digest_134 ?_
  refine lv_topl (fun d_134 ed_134 => ?_)
  refine lv_lstore_n (lv' := [(1, .long d_134), (0, .ref h)]) hx hb dX0_digest_135 rfl hl (by decide) rfl (fun ls hl => ?_)
  refine lv_lload_n hx hb dX0_digest_136 rfl (lv_at hl 0 rfl) ?_
  refine lv_ldc2 (v := (31)) hx hb hown (hts (.constantLong RX0 163 (31)) (List.mem_of_getElem? (i := 2) rfl)) dX0_digest_137 ?_
  refine lv_lmul hx hb dX0_digest_140 ?_
  refine lv_aload_n hx hb dX0_digest_141 rfl (lv_at hl 1 rfl) ?_
  refine vp_callSi (W.runV (As := []) (rest := [.long (d_134 * (31))]) ⟨hx, hb, hml, hown, hts⟩ (c_X0_bestToGiveUp l D cI h a u on hI) (cwV 0 hts gX0_digest_X0_bestToGiveUp rfl rfl rfl (by decide +kernel) ⟨Nat.le_of_ble_eq_true rfl, Nat.le_of_ble_eq_true rfl⟩) (pu_pre hK hP rfl rfl) rfl rfl hl.1 rfl (lv_room (Nat.le_of_ble_eq_true rfl)) dX0_digest_142 ⟨Nat.le_of_ble_eq_true rfl, Nat.le_of_ble_eq_true rfl⟩) (fun r hr => ?_)
  subst hr
  refine lv_i2l (v := Int32.toInt64 (fBG u)) hx hb dX0_digest_145 rfl ?_
  refine lv_ladd hx hb dX0_digest_146 ?_
  refine lv_topl (fun d_146 ed_146 => ?_)
  refine lv_lstore_n (lv' := [(1, .long d_146), (0, .ref h)]) hx hb dX0_digest_147 rfl hl (by decide) rfl (fun ls hl => ?_)
  refine lv_lload_n hx hb dX0_digest_148 rfl (lv_at hl 0 rfl) ?_
  refine lv_ldc2 (v := (31)) hx hb hown (hts (.constantLong RX0 163 (31)) (List.mem_of_getElem? (i := 2) rfl)) dX0_digest_149 ?_
  refine lv_lmul hx hb dX0_digest_152 ?_
  refine lv_aload_n hx hb dX0_digest_153 rfl (lv_at hl 1 rfl) ?_
  refine vp_callSi (W.runV (As := []) (rest := [.long (d_146 * (31))]) ⟨hx, hb, hml, hown, hts⟩ (c_X0_bestBee l D cI h a u on hI) (cwV 0 hts gX0_digest_X0_bestBee rfl rfl rfl (by decide +kernel) ⟨Nat.le_of_ble_eq_true rfl, Nat.le_of_ble_eq_true rfl⟩) (pu_pre hK hP rfl rfl) rfl rfl hl.1 rfl (lv_room (Nat.le_of_ble_eq_true rfl)) dX0_digest_154 ⟨Nat.le_of_ble_eq_true rfl, Nat.le_of_ble_eq_true rfl⟩) (fun r hr => ?_)
  subst hr
  refine lv_i2l (v := Int32.toInt64 (fBB u)) hx hb dX0_digest_157 rfl ?_
  refine lv_ladd hx hb dX0_digest_158 ?_
  refine lv_topl (fun d_158 ed_158 => ?_)
  refine lv_lstore_n (lv' := [(1, .long d_158), (0, .ref h)]) hx hb dX0_digest_159 rfl hl (by decide) rfl (fun ls hl => ?_)
  refine lv_aload_n hx hb dX0_digest_160 rfl (lv_at hl 1 rfl) ?_
  refine lv_aload_n hx hb dX0_digest_161 rfl (lv_at hl 1 rfl) ?_
  refine lv_aload_n hx hb dX0_digest_162 rfl (lv_at hl 1 rfl) ?_
  refine lv_lload_n hx hb dX0_digest_163 rfl (lv_at hl 0 rfl) ?_
  refine vp_callSl (W.runV (As := [.long d_158]) (rest := [.ref h, .ref h]) ⟨hx, hb, hml, hown, hts⟩ (c_X0_withSticks l D cI h a u on d_158 hI) (cwV 1 hts gX0_digest_X0_withSticks rfl rfl rfl (by decide +kernel) ⟨Nat.le_of_ble_eq_true rfl, Nat.le_of_ble_eq_true rfl⟩) (pu_pre hK hP rfl rfl) rfl rfl hl.1 rfl (lv_room (Nat.le_of_ble_eq_true rfl)) dX0_digest_164 ⟨Nat.le_of_ble_eq_true rfl, Nat.le_of_ble_eq_true rfl⟩) (fun r hr => ?_)
  subst hr
  refine vp_callSl (W.runV (As := [.long (fz (wsF u) (mSc u) d_158)]) (rest := [.ref h]) ⟨hx, hb, hml, hown, hts⟩ (c_X0_withNaps l D cI h a u on (fz (wsF u) (mSc u) d_158) hI) (cwV 1 hts gX0_digest_X0_withNaps rfl rfl rfl (by decide +kernel) ⟨Nat.le_of_ble_eq_true rfl, Nat.le_of_ble_eq_true rfl⟩) (pu_pre hK hP rfl rfl) rfl rfl hl.1 rfl (lv_room (Nat.le_of_ble_eq_true rfl)) dX0_digest_167 ⟨Nat.le_of_ble_eq_true rfl, Nat.le_of_ble_eq_true rfl⟩) (fun r hr => ?_)
  subst hr
  refine vp_callSl (W.runV (As := [.long (fz (wnF u) (mNc u) (fz (wsF u) (mSc u) d_158))]) (rest := []) ⟨hx, hb, hml, hown, hts⟩ (c_X0_withBees l D cI h a u on (fz (wnF u) (mNc u) (fz (wsF u) (mSc u) d_158)) hI) (cwV 1 hts gX0_digest_X0_withBees rfl rfl rfl (by decide +kernel) ⟨Nat.le_of_ble_eq_true rfl, Nat.le_of_ble_eq_true rfl⟩) (pu_pre hK hP rfl rfl) rfl rfl hl.1 rfl (lv_room (Nat.le_of_ble_eq_true rfl)) dX0_digest_170 ⟨Nat.le_of_ble_eq_true rfl, Nat.le_of_ble_eq_true rfl⟩) (fun r hr => ?_)
  subst hr
  have hq : fz (wbF u) (mBc u) (fz (wnF u) (mNc u) (fz (wsF u) (mSc u) d_158)) = fDig u := by subst ed_14 ed_26 ed_38 ed_50 ed_62 ed_74 ed_86 ed_98 ed_110 ed_122 ed_134 ed_146 ed_158; rfl
  exact W.lret hx hb hr (fun t ht _ => ⟨_, rfl, hq, ht⟩) (fun _ h9 => nomatch h9) dX0_digest_173
end
