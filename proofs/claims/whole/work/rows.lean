section
-- ===== PART A: goes FIRST, ahead of the names: the tables' words, and 'selects' of the private methods out of them =====
/-- a private method of a class that the tables say can be made, by its rows of tables_1 -/
def lw_okq (q : MethodName × Nat) : Prop := (q.1.cls ≠ "java/lang/invoke/MethodHandle" ∧ q.1.cls ≠ "java/lang/invoke/VarHandle") ∧ Cond.instantiable q.1.cls q.2 ∈ tables_1 ∧ Cond.privateMethod q.1 ∈ tables_1 ∧ Cond.instanceMethod q.1 ∈ tables_1
theorem lw_p0 : lw_okq (⟨"BeansBox$Reader", "append", "(I)Z"⟩, 4) := ⟨⟨by decide +kernel, by decide +kernel⟩, List.mem_of_getElem? (i := 20) (by decide +kernel), List.mem_of_getElem? (i := 230) (by decide +kernel), List.mem_of_getElem? (i := 231) (by decide +kernel)⟩
theorem lw_p1 : lw_okq (⟨"BeansBox$Reader", "readInto", "(LBeansBox$Kitchen;)I"⟩, 4) := ⟨⟨by decide +kernel, by decide +kernel⟩, List.mem_of_getElem? (i := 20) (by decide +kernel), List.mem_of_getElem? (i := 239) (by decide +kernel), List.mem_of_getElem? (i := 240) (by decide +kernel)⟩
theorem lw_p2 : lw_okq (⟨"BeansBox$Kitchen", "empty", "()V"⟩, 10) := ⟨⟨by decide +kernel, by decide +kernel⟩, List.mem_of_getElem? (i := 42) (by decide +kernel), List.mem_of_getElem? (i := 243) (by decide +kernel), List.mem_of_getElem? (i := 244) (by decide +kernel)⟩
theorem lw_p3 : lw_okq (⟨"BeansBox$Reader", "skipBlanks", "()V"⟩, 4) := ⟨⟨by decide +kernel, by decide +kernel⟩, List.mem_of_getElem? (i := 20) (by decide +kernel), List.mem_of_getElem? (i := 247) (by decide +kernel), List.mem_of_getElem? (i := 248) (by decide +kernel)⟩
theorem lw_p4 : lw_okq (⟨"BeansBox$Reader", "readClause", "(LBeansBox$Kitchen;)V"⟩, 4) := ⟨⟨by decide +kernel, by decide +kernel⟩, List.mem_of_getElem? (i := 20) (by decide +kernel), List.mem_of_getElem? (i := 251) (by decide +kernel), List.mem_of_getElem? (i := 252) (by decide +kernel)⟩
theorem lw_p5 : lw_okq (⟨"BeansBox$Reader", "letterHere", "()I"⟩, 4) := ⟨⟨by decide +kernel, by decide +kernel⟩, List.mem_of_getElem? (i := 20) (by decide +kernel), List.mem_of_getElem? (i := 255) (by decide +kernel), List.mem_of_getElem? (i := 256) (by decide +kernel)⟩
theorem lw_p6 : lw_okq (⟨"BeansBox$Reader", "stop", "(II)V"⟩, 4) := ⟨⟨by decide +kernel, by decide +kernel⟩, List.mem_of_getElem? (i := 20) (by decide +kernel), List.mem_of_getElem? (i := 259) (by decide +kernel), List.mem_of_getElem? (i := 260) (by decide +kernel)⟩
theorem lw_p7 : lw_okq (⟨"BeansBox$Reader", "readBox", "(LBeansBox$Kitchen;)V"⟩, 4) := ⟨⟨by decide +kernel, by decide +kernel⟩, List.mem_of_getElem? (i := 20) (by decide +kernel), List.mem_of_getElem? (i := 263) (by decide +kernel), List.mem_of_getElem? (i := 264) (by decide +kernel)⟩
theorem lw_p8 : lw_okq (⟨"BeansBox$Reader", "readNumber", "(I)I"⟩, 4) := ⟨⟨by decide +kernel, by decide +kernel⟩, List.mem_of_getElem? (i := 20) (by decide +kernel), List.mem_of_getElem? (i := 267) (by decide +kernel), List.mem_of_getElem? (i := 268) (by decide +kernel)⟩
theorem lw_p9 : lw_okq (⟨"BeansBox$Reader", "readEnd", "()V"⟩, 4) := ⟨⟨by decide +kernel, by decide +kernel⟩, List.mem_of_getElem? (i := 20) (by decide +kernel), List.mem_of_getElem? (i := 278) (by decide +kernel), List.mem_of_getElem? (i := 279) (by decide +kernel)⟩
theorem lw_p10 : lw_okq (⟨"BeansBox$Kitchen", "setBox", "(III)V"⟩, 10) := ⟨⟨by decide +kernel, by decide +kernel⟩, List.mem_of_getElem? (i := 42) (by decide +kernel), List.mem_of_getElem? (i := 282) (by decide +kernel), List.mem_of_getElem? (i := 283) (by decide +kernel)⟩
theorem lw_p11 : lw_okq (⟨"BeansBox$Reader", "readWord", "(LBeansBox$Kitchen;)V"⟩, 4) := ⟨⟨by decide +kernel, by decide +kernel⟩, List.mem_of_getElem? (i := 20) (by decide +kernel), List.mem_of_getElem? (i := 286) (by decide +kernel), List.mem_of_getElem? (i := 287) (by decide +kernel)⟩
theorem lw_p12 : lw_okq (⟨"BeansBox$Kitchen", "addWord", "(III)V"⟩, 10) := ⟨⟨by decide +kernel, by decide +kernel⟩, List.mem_of_getElem? (i := 42) (by decide +kernel), List.mem_of_getElem? (i := 290) (by decide +kernel), List.mem_of_getElem? (i := 291) (by decide +kernel)⟩
theorem lw_p13 : lw_okq (⟨"BeansBox$Reader", "readVoice", "(LBeansBox$Kitchen;)V"⟩, 4) := ⟨⟨by decide +kernel, by decide +kernel⟩, List.mem_of_getElem? (i := 20) (by decide +kernel), List.mem_of_getElem? (i := 294) (by decide +kernel), List.mem_of_getElem? (i := 295) (by decide +kernel)⟩
theorem lw_p14 : lw_okq (⟨"BeansBox$Kitchen", "addVoice", "(I)V"⟩, 10) := ⟨⟨by decide +kernel, by decide +kernel⟩, List.mem_of_getElem? (i := 42) (by decide +kernel), List.mem_of_getElem? (i := 298) (by decide +kernel), List.mem_of_getElem? (i := 299) (by decide +kernel)⟩
theorem lw_p15 : lw_okq (⟨"BeansBox$Reader", "forget", "()V"⟩, 4) := ⟨⟨by decide +kernel, by decide +kernel⟩, List.mem_of_getElem? (i := 20) (by decide +kernel), List.mem_of_getElem? (i := 302) (by decide +kernel), List.mem_of_getElem? (i := 303) (by decide +kernel)⟩
def lw_privs_1 : List (MethodName × Nat) := [(⟨"BeansBox$Reader", "append", "(I)Z"⟩, 4), (⟨"BeansBox$Reader", "readInto", "(LBeansBox$Kitchen;)I"⟩, 4), (⟨"BeansBox$Kitchen", "empty", "()V"⟩, 10), (⟨"BeansBox$Reader", "skipBlanks", "()V"⟩, 4), (⟨"BeansBox$Reader", "readClause", "(LBeansBox$Kitchen;)V"⟩, 4), (⟨"BeansBox$Reader", "letterHere", "()I"⟩, 4), (⟨"BeansBox$Reader", "stop", "(II)V"⟩, 4), (⟨"BeansBox$Reader", "readBox", "(LBeansBox$Kitchen;)V"⟩, 4), (⟨"BeansBox$Reader", "readNumber", "(I)I"⟩, 4), (⟨"BeansBox$Reader", "readEnd", "()V"⟩, 4), (⟨"BeansBox$Kitchen", "setBox", "(III)V"⟩, 10), (⟨"BeansBox$Reader", "readWord", "(LBeansBox$Kitchen;)V"⟩, 4), (⟨"BeansBox$Kitchen", "addWord", "(III)V"⟩, 10), (⟨"BeansBox$Reader", "readVoice", "(LBeansBox$Kitchen;)V"⟩, 4), (⟨"BeansBox$Kitchen", "addVoice", "(I)V"⟩, 10), (⟨"BeansBox$Reader", "forget", "()V"⟩, 4)]
theorem lw_r1 : ∀ q ∈ lw_privs_1, lw_okq q := List.forall_mem_cons.mpr ⟨lw_p0, List.forall_mem_cons.mpr ⟨lw_p1, List.forall_mem_cons.mpr ⟨lw_p2, List.forall_mem_cons.mpr ⟨lw_p3, List.forall_mem_cons.mpr ⟨lw_p4, List.forall_mem_cons.mpr ⟨lw_p5, List.forall_mem_cons.mpr ⟨lw_p6, List.forall_mem_cons.mpr ⟨lw_p7, List.forall_mem_cons.mpr ⟨lw_p8, List.forall_mem_cons.mpr ⟨lw_p9, List.forall_mem_cons.mpr ⟨lw_p10, List.forall_mem_cons.mpr ⟨lw_p11, List.forall_mem_cons.mpr ⟨lw_p12, List.forall_mem_cons.mpr ⟨lw_p13, List.forall_mem_cons.mpr ⟨lw_p14, List.forall_mem_cons.mpr ⟨lw_p15, fun _ h => absurd h List.not_mem_nil⟩⟩⟩⟩⟩⟩⟩⟩⟩⟩⟩⟩⟩⟩⟩⟩
theorem lw_p16 : lw_okq (⟨"BeansBox$Deeds", "begin", "(LBeansBox$Kitchen;)V"⟩, 7) := ⟨⟨by decide +kernel, by decide +kernel⟩, List.mem_of_getElem? (i := 93) (by decide +kernel), List.mem_of_getElem? (i := 306) (by decide +kernel), List.mem_of_getElem? (i := 307) (by decide +kernel)⟩
theorem lw_p17 : lw_okq (⟨"BeansBox$Past", "clear", "()V"⟩, 3) := ⟨⟨by decide +kernel, by decide +kernel⟩, List.mem_of_getElem? (i := 127) (by decide +kernel), List.mem_of_getElem? (i := 310) (by decide +kernel), List.mem_of_getElem? (i := 311) (by decide +kernel)⟩
theorem lw_p18 : lw_okq (⟨"BeansBox$Pairs", "clear", "()V"⟩, 3) := ⟨⟨by decide +kernel, by decide +kernel⟩, List.mem_of_getElem? (i := 149) (by decide +kernel), List.mem_of_getElem? (i := 314) (by decide +kernel), List.mem_of_getElem? (i := 315) (by decide +kernel)⟩
theorem lw_p19 : lw_okq (⟨"BeansBox$Deeds", "allOnList", "()I"⟩, 7) := ⟨⟨by decide +kernel, by decide +kernel⟩, List.mem_of_getElem? (i := 93) (by decide +kernel), List.mem_of_getElem? (i := 326) (by decide +kernel), List.mem_of_getElem? (i := 327) (by decide +kernel)⟩
theorem lw_p20 : lw_okq (⟨"BeansBox", "isWord", "(I)Z"⟩, 11) := ⟨⟨by decide +kernel, by decide +kernel⟩, List.mem_of_getElem? (i := 12) (by decide +kernel), List.mem_of_getElem? (i := 334) (by decide +kernel), List.mem_of_getElem? (i := 335) (by decide +kernel)⟩
theorem lw_p21 : lw_okq (⟨"BeansBox", "isVoice", "(I)Z"⟩, 11) := ⟨⟨by decide +kernel, by decide +kernel⟩, List.mem_of_getElem? (i := 12) (by decide +kernel), List.mem_of_getElem? (i := 343) (by decide +kernel), List.mem_of_getElem? (i := 344) (by decide +kernel)⟩
theorem lw_p22 : lw_okq (⟨"BeansBox$Past", "push", "(LBeansBox$Deeds;)V"⟩, 3) := ⟨⟨by decide +kernel, by decide +kernel⟩, List.mem_of_getElem? (i := 127) (by decide +kernel), List.mem_of_getElem? (i := 355) (by decide +kernel), List.mem_of_getElem? (i := 356) (by decide +kernel)⟩
theorem lw_p23 : lw_okq (⟨"BeansBox$Deeds", "copy", "(LBeansBox$Deeds;)V"⟩, 7) := ⟨⟨by decide +kernel, by decide +kernel⟩, List.mem_of_getElem? (i := 93) (by decide +kernel), List.mem_of_getElem? (i := 359) (by decide +kernel), List.mem_of_getElem? (i := 360) (by decide +kernel)⟩
theorem lw_p24 : lw_okq (⟨"BeansBox", "takeIn", "(I)I"⟩, 11) := ⟨⟨by decide +kernel, by decide +kernel⟩, List.mem_of_getElem? (i := 12) (by decide +kernel), List.mem_of_getElem? (i := 364) (by decide +kernel), List.mem_of_getElem? (i := 365) (by decide +kernel)⟩
theorem lw_p25 : lw_okq (⟨"BeansBox", "cheapest", "(LBeansBox$Deeds;I)I"⟩, 11) := ⟨⟨by decide +kernel, by decide +kernel⟩, List.mem_of_getElem? (i := 12) (by decide +kernel), List.mem_of_getElem? (i := 368) (by decide +kernel), List.mem_of_getElem? (i := 369) (by decide +kernel)⟩
theorem lw_p26 : lw_okq (⟨"BeansBox", "cost", "(LBeansBox$Deeds;II)I"⟩, 11) := ⟨⟨by decide +kernel, by decide +kernel⟩, List.mem_of_getElem? (i := 12) (by decide +kernel), List.mem_of_getElem? (i := 372) (by decide +kernel), List.mem_of_getElem? (i := 373) (by decide +kernel)⟩
theorem lw_p27 : lw_okq (⟨"BeansBox$Deeds", "strongest", "(I)I"⟩, 7) := ⟨⟨by decide +kernel, by decide +kernel⟩, List.mem_of_getElem? (i := 93) (by decide +kernel), List.mem_of_getElem? (i := 376) (by decide +kernel), List.mem_of_getElem? (i := 377) (by decide +kernel)⟩
theorem lw_p28 : lw_okq (⟨"BeansBox$Deeds", "weight", "(II)I"⟩, 7) := ⟨⟨by decide +kernel, by decide +kernel⟩, List.mem_of_getElem? (i := 93) (by decide +kernel), List.mem_of_getElem? (i := 380) (by decide +kernel), List.mem_of_getElem? (i := 381) (by decide +kernel)⟩
theorem lw_p29 : lw_okq (⟨"BeansBox$Deeds", "certainty", "(II)I"⟩, 7) := ⟨⟨by decide +kernel, by decide +kernel⟩, List.mem_of_getElem? (i := 93) (by decide +kernel), List.mem_of_getElem? (i := 391) (by decide +kernel), List.mem_of_getElem? (i := 392) (by decide +kernel)⟩
theorem lw_p30 : lw_okq (⟨"BeansBox$Deeds", "react", "(II)V"⟩, 7) := ⟨⟨by decide +kernel, by decide +kernel⟩, List.mem_of_getElem? (i := 93) (by decide +kernel), List.mem_of_getElem? (i := 396) (by decide +kernel), List.mem_of_getElem? (i := 397) (by decide +kernel)⟩
theorem lw_p31 : lw_okq (⟨"BeansBox$Deeds", "putOnList", "(I)V"⟩, 7) := ⟨⟨by decide +kernel, by decide +kernel⟩, List.mem_of_getElem? (i := 93) (by decide +kernel), List.mem_of_getElem? (i := 400) (by decide +kernel), List.mem_of_getElem? (i := 401) (by decide +kernel)⟩
def lw_privs_2 : List (MethodName × Nat) := [(⟨"BeansBox$Deeds", "begin", "(LBeansBox$Kitchen;)V"⟩, 7), (⟨"BeansBox$Past", "clear", "()V"⟩, 3), (⟨"BeansBox$Pairs", "clear", "()V"⟩, 3), (⟨"BeansBox$Deeds", "allOnList", "()I"⟩, 7), (⟨"BeansBox", "isWord", "(I)Z"⟩, 11), (⟨"BeansBox", "isVoice", "(I)Z"⟩, 11), (⟨"BeansBox$Past", "push", "(LBeansBox$Deeds;)V"⟩, 3), (⟨"BeansBox$Deeds", "copy", "(LBeansBox$Deeds;)V"⟩, 7), (⟨"BeansBox", "takeIn", "(I)I"⟩, 11), (⟨"BeansBox", "cheapest", "(LBeansBox$Deeds;I)I"⟩, 11), (⟨"BeansBox", "cost", "(LBeansBox$Deeds;II)I"⟩, 11), (⟨"BeansBox$Deeds", "strongest", "(I)I"⟩, 7), (⟨"BeansBox$Deeds", "weight", "(II)I"⟩, 7), (⟨"BeansBox$Deeds", "certainty", "(II)I"⟩, 7), (⟨"BeansBox$Deeds", "react", "(II)V"⟩, 7), (⟨"BeansBox$Deeds", "putOnList", "(I)V"⟩, 7)]
theorem lw_r2 : ∀ q ∈ lw_privs_2, lw_okq q := List.forall_mem_cons.mpr ⟨lw_p16, List.forall_mem_cons.mpr ⟨lw_p17, List.forall_mem_cons.mpr ⟨lw_p18, List.forall_mem_cons.mpr ⟨lw_p19, List.forall_mem_cons.mpr ⟨lw_p20, List.forall_mem_cons.mpr ⟨lw_p21, List.forall_mem_cons.mpr ⟨lw_p22, List.forall_mem_cons.mpr ⟨lw_p23, List.forall_mem_cons.mpr ⟨lw_p24, List.forall_mem_cons.mpr ⟨lw_p25, List.forall_mem_cons.mpr ⟨lw_p26, List.forall_mem_cons.mpr ⟨lw_p27, List.forall_mem_cons.mpr ⟨lw_p28, List.forall_mem_cons.mpr ⟨lw_p29, List.forall_mem_cons.mpr ⟨lw_p30, List.forall_mem_cons.mpr ⟨lw_p31, fun _ h => absurd h List.not_mem_nil⟩⟩⟩⟩⟩⟩⟩⟩⟩⟩⟩⟩⟩⟩⟩⟩
theorem lw_p32 : lw_okq (⟨"BeansBox$Deeds", "isThere", "(I)Z"⟩, 7) := ⟨⟨by decide +kernel, by decide +kernel⟩, List.mem_of_getElem? (i := 93) (by decide +kernel), List.mem_of_getElem? (i := 404) (by decide +kernel), List.mem_of_getElem? (i := 405) (by decide +kernel)⟩
theorem lw_p33 : lw_okq (⟨"BeansBox$Deeds", "correctTo", "(I)V"⟩, 7) := ⟨⟨by decide +kernel, by decide +kernel⟩, List.mem_of_getElem? (i := 93) (by decide +kernel), List.mem_of_getElem? (i := 413) (by decide +kernel), List.mem_of_getElem? (i := 414) (by decide +kernel)⟩
theorem lw_p34 : lw_okq (⟨"BeansBox$Deeds", "confirm", "()V"⟩, 7) := ⟨⟨by decide +kernel, by decide +kernel⟩, List.mem_of_getElem? (i := 93) (by decide +kernel), List.mem_of_getElem? (i := 422) (by decide +kernel), List.mem_of_getElem? (i := 423) (by decide +kernel)⟩
theorem lw_p35 : lw_okq (⟨"BeansBox", "draw", "(I)I"⟩, 11) := ⟨⟨by decide +kernel, by decide +kernel⟩, List.mem_of_getElem? (i := 12) (by decide +kernel), List.mem_of_getElem? (i := 435) (by decide +kernel), List.mem_of_getElem? (i := 436) (by decide +kernel)⟩
theorem lw_p36 : lw_okq (⟨"BeansBox", "spoken", "(II)I"⟩, 11) := ⟨⟨by decide +kernel, by decide +kernel⟩, List.mem_of_getElem? (i := 12) (by decide +kernel), List.mem_of_getElem? (i := 443) (by decide +kernel), List.mem_of_getElem? (i := 444) (by decide +kernel)⟩
theorem lw_p37 : lw_okq (⟨"BeansBox$Deeds", "learn", "(IZ)V"⟩, 7) := ⟨⟨by decide +kernel, by decide +kernel⟩, List.mem_of_getElem? (i := 93) (by decide +kernel), List.mem_of_getElem? (i := 450) (by decide +kernel), List.mem_of_getElem? (i := 451) (by decide +kernel)⟩
theorem lw_p38 : lw_okq (⟨"BeansBox$Past", "pop", "(LBeansBox$Deeds;)Z"⟩, 3) := ⟨⟨by decide +kernel, by decide +kernel⟩, List.mem_of_getElem? (i := 127) (by decide +kernel), List.mem_of_getElem? (i := 460) (by decide +kernel), List.mem_of_getElem? (i := 461) (by decide +kernel)⟩
theorem lw_p39 : lw_okq (⟨"BeansBox", "understood", "(II)I"⟩, 11) := ⟨⟨by decide +kernel, by decide +kernel⟩, List.mem_of_getElem? (i := 12) (by decide +kernel), List.mem_of_getElem? (i := 488) (by decide +kernel), List.mem_of_getElem? (i := 489) (by decide +kernel)⟩
theorem lw_p40 : lw_okq (⟨"BeansBox", "wordsSpokenAs", "(II)I"⟩, 11) := ⟨⟨by decide +kernel, by decide +kernel⟩, List.mem_of_getElem? (i := 12) (by decide +kernel), List.mem_of_getElem? (i := 496) (by decide +kernel), List.mem_of_getElem? (i := 497) (by decide +kernel)⟩
theorem lw_p41 : lw_okq (⟨"BeansBox$Deeds", "nearest", "(I)I"⟩, 7) := ⟨⟨by decide +kernel, by decide +kernel⟩, List.mem_of_getElem? (i := 93) (by decide +kernel), List.mem_of_getElem? (i := 515) (by decide +kernel), List.mem_of_getElem? (i := 516) (by decide +kernel)⟩
theorem lw_p42 : lw_okq (⟨"BeansBox", "voicesHeardRight", "(III)I"⟩, 11) := ⟨⟨by decide +kernel, by decide +kernel⟩, List.mem_of_getElem? (i := 12) (by decide +kernel), List.mem_of_getElem? (i := 532) (by decide +kernel), List.mem_of_getElem? (i := 533) (by decide +kernel)⟩
theorem lw_p43 : lw_okq (⟨"BeansBox$Pairs", "append", "(II)Z"⟩, 3) := ⟨⟨by decide +kernel, by decide +kernel⟩, List.mem_of_getElem? (i := 149) (by decide +kernel), List.mem_of_getElem? (i := 550) (by decide +kernel), List.mem_of_getElem? (i := 551) (by decide +kernel)⟩
theorem lw_p44 : lw_okq (⟨"BeansBox", "couldHaveSpoken", "(I)Z"⟩, 11) := ⟨⟨by decide +kernel, by decide +kernel⟩, List.mem_of_getElem? (i := 12) (by decide +kernel), List.mem_of_getElem? (i := 558) (by decide +kernel), List.mem_of_getElem? (i := 559) (by decide +kernel)⟩
theorem lw_p45 : lw_okq (⟨"BeansBox", "greatestPart", "(II)I"⟩, 11) := ⟨⟨by decide +kernel, by decide +kernel⟩, List.mem_of_getElem? (i := 12) (by decide +kernel), List.mem_of_getElem? (i := 573) (by decide +kernel), List.mem_of_getElem? (i := 574) (by decide +kernel)⟩
theorem lw_p46 : lw_okq (⟨"BeansBoxModel", "reads", "()Z"⟩, 29) := ⟨⟨by decide +kernel, by decide +kernel⟩, List.mem_of_getElem? (i := 605) (by decide +kernel), List.mem_of_getElem? (i := 718) (by decide +kernel), List.mem_of_getElem? (i := 719) (by decide +kernel)⟩
theorem lw_p47 : lw_okq (⟨"BeansBoxModel", "blanks", "()V"⟩, 29) := ⟨⟨by decide +kernel, by decide +kernel⟩, List.mem_of_getElem? (i := 605) (by decide +kernel), List.mem_of_getElem? (i := 722) (by decide +kernel), List.mem_of_getElem? (i := 723) (by decide +kernel)⟩
def lw_privs_3 : List (MethodName × Nat) := [(⟨"BeansBox$Deeds", "isThere", "(I)Z"⟩, 7), (⟨"BeansBox$Deeds", "correctTo", "(I)V"⟩, 7), (⟨"BeansBox$Deeds", "confirm", "()V"⟩, 7), (⟨"BeansBox", "draw", "(I)I"⟩, 11), (⟨"BeansBox", "spoken", "(II)I"⟩, 11), (⟨"BeansBox$Deeds", "learn", "(IZ)V"⟩, 7), (⟨"BeansBox$Past", "pop", "(LBeansBox$Deeds;)Z"⟩, 3), (⟨"BeansBox", "understood", "(II)I"⟩, 11), (⟨"BeansBox", "wordsSpokenAs", "(II)I"⟩, 11), (⟨"BeansBox$Deeds", "nearest", "(I)I"⟩, 7), (⟨"BeansBox", "voicesHeardRight", "(III)I"⟩, 11), (⟨"BeansBox$Pairs", "append", "(II)Z"⟩, 3), (⟨"BeansBox", "couldHaveSpoken", "(I)Z"⟩, 11), (⟨"BeansBox", "greatestPart", "(II)I"⟩, 11), (⟨"BeansBoxModel", "reads", "()Z"⟩, 29), (⟨"BeansBoxModel", "blanks", "()V"⟩, 29)]
theorem lw_r3 : ∀ q ∈ lw_privs_3, lw_okq q := List.forall_mem_cons.mpr ⟨lw_p32, List.forall_mem_cons.mpr ⟨lw_p33, List.forall_mem_cons.mpr ⟨lw_p34, List.forall_mem_cons.mpr ⟨lw_p35, List.forall_mem_cons.mpr ⟨lw_p36, List.forall_mem_cons.mpr ⟨lw_p37, List.forall_mem_cons.mpr ⟨lw_p38, List.forall_mem_cons.mpr ⟨lw_p39, List.forall_mem_cons.mpr ⟨lw_p40, List.forall_mem_cons.mpr ⟨lw_p41, List.forall_mem_cons.mpr ⟨lw_p42, List.forall_mem_cons.mpr ⟨lw_p43, List.forall_mem_cons.mpr ⟨lw_p44, List.forall_mem_cons.mpr ⟨lw_p45, List.forall_mem_cons.mpr ⟨lw_p46, List.forall_mem_cons.mpr ⟨lw_p47, fun _ h => absurd h List.not_mem_nil⟩⟩⟩⟩⟩⟩⟩⟩⟩⟩⟩⟩⟩⟩⟩⟩
theorem lw_p48 : lw_okq (⟨"BeansBoxModel", "letterAt", "(I)I"⟩, 29) := ⟨⟨by decide +kernel, by decide +kernel⟩, List.mem_of_getElem? (i := 605) (by decide +kernel), List.mem_of_getElem? (i := 726) (by decide +kernel), List.mem_of_getElem? (i := 727) (by decide +kernel)⟩
theorem lw_p49 : lw_okq (⟨"BeansBoxModel", "readsClause", "(Z)Z"⟩, 29) := ⟨⟨by decide +kernel, by decide +kernel⟩, List.mem_of_getElem? (i := 605) (by decide +kernel), List.mem_of_getElem? (i := 730) (by decide +kernel), List.mem_of_getElem? (i := 731) (by decide +kernel)⟩
theorem lw_p50 : lw_okq (⟨"BeansBoxModel", "readsBox", "(Z)Z"⟩, 29) := ⟨⟨by decide +kernel, by decide +kernel⟩, List.mem_of_getElem? (i := 605) (by decide +kernel), List.mem_of_getElem? (i := 734) (by decide +kernel), List.mem_of_getElem? (i := 735) (by decide +kernel)⟩
theorem lw_p51 : lw_okq (⟨"BeansBoxModel", "fails", "(I)Z"⟩, 29) := ⟨⟨by decide +kernel, by decide +kernel⟩, List.mem_of_getElem? (i := 605) (by decide +kernel), List.mem_of_getElem? (i := 738) (by decide +kernel), List.mem_of_getElem? (i := 739) (by decide +kernel)⟩
theorem lw_p52 : lw_okq (⟨"BeansBoxModel", "number", "(I)I"⟩, 29) := ⟨⟨by decide +kernel, by decide +kernel⟩, List.mem_of_getElem? (i := 605) (by decide +kernel), List.mem_of_getElem? (i := 742) (by decide +kernel), List.mem_of_getElem? (i := 743) (by decide +kernel)⟩
theorem lw_p53 : lw_okq (⟨"BeansBoxModel", "ends", "()Z"⟩, 29) := ⟨⟨by decide +kernel, by decide +kernel⟩, List.mem_of_getElem? (i := 605) (by decide +kernel), List.mem_of_getElem? (i := 746) (by decide +kernel), List.mem_of_getElem? (i := 747) (by decide +kernel)⟩
theorem lw_p54 : lw_okq (⟨"BeansBoxModel", "readsWord", "()Z"⟩, 29) := ⟨⟨by decide +kernel, by decide +kernel⟩, List.mem_of_getElem? (i := 605) (by decide +kernel), List.mem_of_getElem? (i := 750) (by decide +kernel), List.mem_of_getElem? (i := 751) (by decide +kernel)⟩
theorem lw_p55 : lw_okq (⟨"BeansBoxModel", "readsVoice", "()Z"⟩, 29) := ⟨⟨by decide +kernel, by decide +kernel⟩, List.mem_of_getElem? (i := 605) (by decide +kernel), List.mem_of_getElem? (i := 754) (by decide +kernel), List.mem_of_getElem? (i := 755) (by decide +kernel)⟩
theorem lw_p56 : lw_okq (⟨"BeansBoxModel", "allListed", "()I"⟩, 29) := ⟨⟨by decide +kernel, by decide +kernel⟩, List.mem_of_getElem? (i := 605) (by decide +kernel), List.mem_of_getElem? (i := 762) (by decide +kernel), List.mem_of_getElem? (i := 763) (by decide +kernel)⟩
theorem lw_p57 : lw_okq (⟨"BeansBoxModel", "isWord", "(I)Z"⟩, 29) := ⟨⟨by decide +kernel, by decide +kernel⟩, List.mem_of_getElem? (i := 605) (by decide +kernel), List.mem_of_getElem? (i := 770) (by decide +kernel), List.mem_of_getElem? (i := 771) (by decide +kernel)⟩
theorem lw_p58 : lw_okq (⟨"BeansBoxModel", "isVoice", "(I)Z"⟩, 29) := ⟨⟨by decide +kernel, by decide +kernel⟩, List.mem_of_getElem? (i := 605) (by decide +kernel), List.mem_of_getElem? (i := 779) (by decide +kernel), List.mem_of_getElem? (i := 780) (by decide +kernel)⟩
theorem lw_p59 : lw_okq (⟨"BeansBoxModel", "remember", "()V"⟩, 29) := ⟨⟨by decide +kernel, by decide +kernel⟩, List.mem_of_getElem? (i := 605) (by decide +kernel), List.mem_of_getElem? (i := 791) (by decide +kernel), List.mem_of_getElem? (i := 792) (by decide +kernel)⟩
theorem lw_p60 : lw_okq (⟨"BeansBoxModel", "hears", "(I)I"⟩, 29) := ⟨⟨by decide +kernel, by decide +kernel⟩, List.mem_of_getElem? (i := 605) (by decide +kernel), List.mem_of_getElem? (i := 795) (by decide +kernel), List.mem_of_getElem? (i := 796) (by decide +kernel)⟩
theorem lw_p61 : lw_okq (⟨"BeansBoxModel", "ruleOf", "(I)I"⟩, 29) := ⟨⟨by decide +kernel, by decide +kernel⟩, List.mem_of_getElem? (i := 605) (by decide +kernel), List.mem_of_getElem? (i := 799) (by decide +kernel), List.mem_of_getElem? (i := 800) (by decide +kernel)⟩
theorem lw_p62 : lw_okq (⟨"BeansBoxModel", "costOf", "(II)I"⟩, 29) := ⟨⟨by decide +kernel, by decide +kernel⟩, List.mem_of_getElem? (i := 605) (by decide +kernel), List.mem_of_getElem? (i := 803) (by decide +kernel), List.mem_of_getElem? (i := 804) (by decide +kernel)⟩
theorem lw_p63 : lw_okq (⟨"BeansBoxModel", "guessOf", "(I)I"⟩, 29) := ⟨⟨by decide +kernel, by decide +kernel⟩, List.mem_of_getElem? (i := 605) (by decide +kernel), List.mem_of_getElem? (i := 807) (by decide +kernel), List.mem_of_getElem? (i := 808) (by decide +kernel)⟩
def lw_privs_4 : List (MethodName × Nat) := [(⟨"BeansBoxModel", "letterAt", "(I)I"⟩, 29), (⟨"BeansBoxModel", "readsClause", "(Z)Z"⟩, 29), (⟨"BeansBoxModel", "readsBox", "(Z)Z"⟩, 29), (⟨"BeansBoxModel", "fails", "(I)Z"⟩, 29), (⟨"BeansBoxModel", "number", "(I)I"⟩, 29), (⟨"BeansBoxModel", "ends", "()Z"⟩, 29), (⟨"BeansBoxModel", "readsWord", "()Z"⟩, 29), (⟨"BeansBoxModel", "readsVoice", "()Z"⟩, 29), (⟨"BeansBoxModel", "allListed", "()I"⟩, 29), (⟨"BeansBoxModel", "isWord", "(I)Z"⟩, 29), (⟨"BeansBoxModel", "isVoice", "(I)Z"⟩, 29), (⟨"BeansBoxModel", "remember", "()V"⟩, 29), (⟨"BeansBoxModel", "hears", "(I)I"⟩, 29), (⟨"BeansBoxModel", "ruleOf", "(I)I"⟩, 29), (⟨"BeansBoxModel", "costOf", "(II)I"⟩, 29), (⟨"BeansBoxModel", "guessOf", "(I)I"⟩, 29)]
theorem lw_r4 : ∀ q ∈ lw_privs_4, lw_okq q := List.forall_mem_cons.mpr ⟨lw_p48, List.forall_mem_cons.mpr ⟨lw_p49, List.forall_mem_cons.mpr ⟨lw_p50, List.forall_mem_cons.mpr ⟨lw_p51, List.forall_mem_cons.mpr ⟨lw_p52, List.forall_mem_cons.mpr ⟨lw_p53, List.forall_mem_cons.mpr ⟨lw_p54, List.forall_mem_cons.mpr ⟨lw_p55, List.forall_mem_cons.mpr ⟨lw_p56, List.forall_mem_cons.mpr ⟨lw_p57, List.forall_mem_cons.mpr ⟨lw_p58, List.forall_mem_cons.mpr ⟨lw_p59, List.forall_mem_cons.mpr ⟨lw_p60, List.forall_mem_cons.mpr ⟨lw_p61, List.forall_mem_cons.mpr ⟨lw_p62, List.forall_mem_cons.mpr ⟨lw_p63, fun _ h => absurd h List.not_mem_nil⟩⟩⟩⟩⟩⟩⟩⟩⟩⟩⟩⟩⟩⟩⟩⟩
theorem lw_p64 : lw_okq (⟨"BeansBoxModel", "weight", "(II)I"⟩, 29) := ⟨⟨by decide +kernel, by decide +kernel⟩, List.mem_of_getElem? (i := 605) (by decide +kernel), List.mem_of_getElem? (i := 811) (by decide +kernel), List.mem_of_getElem? (i := 812) (by decide +kernel)⟩
theorem lw_p65 : lw_okq (⟨"BeansBoxModel", "sureOf", "(II)I"⟩, 29) := ⟨⟨by decide +kernel, by decide +kernel⟩, List.mem_of_getElem? (i := 605) (by decide +kernel), List.mem_of_getElem? (i := 822) (by decide +kernel), List.mem_of_getElem? (i := 823) (by decide +kernel)⟩
theorem lw_p66 : lw_okq (⟨"BeansBoxModel", "takesBack", "(I)V"⟩, 29) := ⟨⟨by decide +kernel, by decide +kernel⟩, List.mem_of_getElem? (i := 605) (by decide +kernel), List.mem_of_getElem? (i := 834) (by decide +kernel), List.mem_of_getElem? (i := 835) (by decide +kernel)⟩
theorem lw_p67 : lw_okq (⟨"BeansBoxModel", "letsBe", "()I"⟩, 29) := ⟨⟨by decide +kernel, by decide +kernel⟩, List.mem_of_getElem? (i := 605) (by decide +kernel), List.mem_of_getElem? (i := 845) (by decide +kernel), List.mem_of_getElem? (i := 846) (by decide +kernel)⟩
theorem lw_p68 : lw_okq (⟨"BeansBoxModel", "draw", "(I)I"⟩, 29) := ⟨⟨by decide +kernel, by decide +kernel⟩, List.mem_of_getElem? (i := 605) (by decide +kernel), List.mem_of_getElem? (i := 857) (by decide +kernel), List.mem_of_getElem? (i := 858) (by decide +kernel)⟩
theorem lw_p69 : lw_okq (⟨"BeansBoxModel", "saidBy", "(II)I"⟩, 29) := ⟨⟨by decide +kernel, by decide +kernel⟩, List.mem_of_getElem? (i := 605) (by decide +kernel), List.mem_of_getElem? (i := 865) (by decide +kernel), List.mem_of_getElem? (i := 866) (by decide +kernel)⟩
theorem lw_p70 : lw_okq (⟨"BeansBoxModel", "meantBy", "(II)I"⟩, 29) := ⟨⟨by decide +kernel, by decide +kernel⟩, List.mem_of_getElem? (i := 605) (by decide +kernel), List.mem_of_getElem? (i := 904) (by decide +kernel), List.mem_of_getElem? (i := 905) (by decide +kernel)⟩
theorem lw_p71 : lw_okq (⟨"BeansBoxModel", "heardBy", "(I)I"⟩, 29) := ⟨⟨by decide +kernel, by decide +kernel⟩, List.mem_of_getElem? (i := 605) (by decide +kernel), List.mem_of_getElem? (i := 932) (by decide +kernel), List.mem_of_getElem? (i := 933) (by decide +kernel)⟩
theorem lw_p72 : lw_okq (⟨"BeansBoxModel", "greatestPart", "(II)I"⟩, 29) := ⟨⟨by decide +kernel, by decide +kernel⟩, List.mem_of_getElem? (i := 605) (by decide +kernel), List.mem_of_getElem? (i := 962) (by decide +kernel), List.mem_of_getElem? (i := 963) (by decide +kernel)⟩
def lw_privs_5 : List (MethodName × Nat) := [(⟨"BeansBoxModel", "weight", "(II)I"⟩, 29), (⟨"BeansBoxModel", "sureOf", "(II)I"⟩, 29), (⟨"BeansBoxModel", "takesBack", "(I)V"⟩, 29), (⟨"BeansBoxModel", "letsBe", "()I"⟩, 29), (⟨"BeansBoxModel", "draw", "(I)I"⟩, 29), (⟨"BeansBoxModel", "saidBy", "(II)I"⟩, 29), (⟨"BeansBoxModel", "meantBy", "(II)I"⟩, 29), (⟨"BeansBoxModel", "heardBy", "(I)I"⟩, 29), (⟨"BeansBoxModel", "greatestPart", "(II)I"⟩, 29)]
theorem lw_r5 : ∀ q ∈ lw_privs_5, lw_okq q := List.forall_mem_cons.mpr ⟨lw_p64, List.forall_mem_cons.mpr ⟨lw_p65, List.forall_mem_cons.mpr ⟨lw_p66, List.forall_mem_cons.mpr ⟨lw_p67, List.forall_mem_cons.mpr ⟨lw_p68, List.forall_mem_cons.mpr ⟨lw_p69, List.forall_mem_cons.mpr ⟨lw_p70, List.forall_mem_cons.mpr ⟨lw_p71, List.forall_mem_cons.mpr ⟨lw_p72, fun _ h => absurd h List.not_mem_nil⟩⟩⟩⟩⟩⟩⟩⟩⟩
def lw_privs : List (MethodName × Nat) := lw_privs_1 ++ (lw_privs_2 ++ (lw_privs_3 ++ (lw_privs_4 ++ (lw_privs_5))))
def lw_tbl : List Cond := k2_sels lw_privs ++ tables_1
theorem lw_privs_ok : ∀ q ∈ lw_privs, lw_okq q := by
  show ∀ q ∈ lw_privs_1 ++ (lw_privs_2 ++ (lw_privs_3 ++ (lw_privs_4 ++ (lw_privs_5)))), lw_okq q
  exact List.forall_mem_append.mpr ⟨lw_r1, List.forall_mem_append.mpr ⟨lw_r2, List.forall_mem_append.mpr ⟨lw_r3, List.forall_mem_append.mpr ⟨lw_r4, lw_r5⟩⟩⟩⟩
-- ===== end of PART A; then your names; then what follows =====
end
section
/-! ===== BEGIN words of one list among another's, by their places ===== -/
theorem goodIn_r {big : List Cond} (ws : List Cond) (ps : List Nat) (hp : ws = ps.filterMap (fun i => big[i]?)) (h : ws.all goodWord = true) : GoodIn big ws := by
  intro w hw
  have h1 := List.all_eq_true.mp h w hw
  rw [hp] at hw
  obtain ⟨i, -, hi⟩ := List.mem_filterMap.mp hw
  have hm : w ∈ big := by first | exact List.mem_of_getElem? hi | exact List.getElem?_mem hi
  exact ⟨hm, good_of_word h1⟩
theorem goodIn_app {big a b : List Cond} (ha : GoodIn big a) (hb : GoodIn big b) : GoodIn big (a ++ b) := fun w h => (List.mem_append.mp h).elim (ha w) (hb w)
theorem goodIn_ca {big a b : List Cond} {c : Cond} (ha : GoodIn big (c :: a)) (hb : GoodIn big b) : GoodIn big (c :: (a ++ b)) := fun w h => (List.mem_cons.mp h).elim (fun e => ha w (List.mem_cons.mpr (Or.inl e))) (fun h => (List.mem_append.mp h).elim (fun h => ha w (List.mem_cons.mpr (Or.inr h))) (hb w))
theorem goodIn_sub {big ws : List Cond} (hm : ∀ w ∈ ws, w ∈ big) (h : ws.all goodWord = true) : GoodIn big ws := fun w hw => ⟨hm w hw, good_of_word (List.all_eq_true.mp h w hw)⟩
/-! ===== END ===== -/

/-! ===== BEGIN printed: names, fields, word lists, decode rows ===== -/
def RX0 : String := "BeansBox$Deeds"
def TX0 : u_T := fun k => match k with
  | 0 => ("BeansBox$Deeds", "words", "I", false)
  | 1 => ("BeansBox$Deeds", "sounds", "[I", true)
  | 2 => ("BeansBox$Deeds", "usual", "[I", true)
  | 3 => ("BeansBox$Deeds", "onList", "[I", true)
  | 4 => ("BeansBox$Deeds", "cross", "I", false)
  | 5 => ("BeansBox$Deeds", "heard", "I", false)
  | _ => ("BeansBox$Deeds", "kept", "I", false)
def tyX0 : Nat → FieldType := fun k => match k with
  | 0 => .int
  | 1 => .array .int
  | 2 => .array .int
  | 3 => .array .int
  | 4 => .int
  | 5 => .int
  | _ => .int
abbrev wsX00 : List Cond := u_ws RX0 TX0 7
theorem nmX0 : ∀ a, a < 7 → ∀ b, b < 7 → a ≠ b → (TX0 a).2.1 ≠ (TX0 b).2.1 := by decide +kernel
theorem tyX0_ok : ∀ k, k < 7 → parseFieldDescriptor (TX0 k).2.2.1 = some (tyX0 k) := by decide +kernel
abbrev cX0_init : ByteArray := prog_2_method_1_code
def yX0_init : MethodName := ⟨RX0, "<init>", "()V"⟩
abbrev cX0_begin : ByteArray := prog_2_method_2_code
def yX0_begin : MethodName := ⟨RX0, "begin", "(LBeansBox$Kitchen;)V"⟩
abbrev cX0_copy : ByteArray := prog_2_method_3_code
def yX0_copy : MethodName := ⟨RX0, "copy", "(LBeansBox$Deeds;)V"⟩
abbrev cX0_allOnList : ByteArray := prog_2_method_4_code
def yX0_allOnList : MethodName := ⟨RX0, "allOnList", "()I"⟩
abbrev cX0_weight : ByteArray := prog_2_method_5_code
def yX0_weight : MethodName := ⟨RX0, "weight", "(II)I"⟩
abbrev cX0_strongest : ByteArray := prog_2_method_6_code
def yX0_strongest : MethodName := ⟨RX0, "strongest", "(I)I"⟩
abbrev cX0_certainty : ByteArray := prog_2_method_7_code
def yX0_certainty : MethodName := ⟨RX0, "certainty", "(II)I"⟩
abbrev cX0_nearest : ByteArray := prog_2_method_8_code
def yX0_nearest : MethodName := ⟨RX0, "nearest", "(I)I"⟩
abbrev cX0_react : ByteArray := prog_2_method_9_code
def yX0_react : MethodName := ⟨RX0, "react", "(II)V"⟩
abbrev cX0_learn : ByteArray := prog_2_method_10_code
def yX0_learn : MethodName := ⟨RX0, "learn", "(IZ)V"⟩
abbrev cX0_confirm : ByteArray := prog_2_method_11_code
def yX0_confirm : MethodName := ⟨RX0, "confirm", "()V"⟩
abbrev cX0_correctTo : ByteArray := prog_2_method_12_code
def yX0_correctTo : MethodName := ⟨RX0, "correctTo", "(I)V"⟩
abbrev cX0_putOnList : ByteArray := prog_2_method_13_code
def yX0_putOnList : MethodName := ⟨RX0, "putOnList", "(I)V"⟩
abbrev cX0_isThere : ByteArray := prog_2_method_14_code
def yX0_isThere : MethodName := ⟨RX0, "isThere", "(I)Z"⟩
def RX1 : String := "BeansBox$Image"
def TX1 : u_T := fun k => match k with
  | 0 => ("BeansBox$Image", "kept", "Z", false)
  | 1 => ("BeansBox$Image", "deeds", "LBeansBox$Deeds;", true)
  | _ => ("BeansBox$Image", "drawn", "I", false)
def tyX1 : Nat → FieldType := fun k => match k with
  | 0 => .boolean
  | 1 => .object "BeansBox$Deeds"
  | _ => .int
abbrev wsX10 : List Cond := u_ws RX1 TX1 3
theorem nmX1 : ∀ a, a < 3 → ∀ b, b < 3 → a ≠ b → (TX1 a).2.1 ≠ (TX1 b).2.1 := by decide +kernel
theorem tyX1_ok : ∀ k, k < 3 → parseFieldDescriptor (TX1 k).2.2.1 = some (tyX1 k) := by decide +kernel
abbrev cX1_init : ByteArray := prog_3_method_1_code
def yX1_init : MethodName := ⟨RX1, "<init>", "()V"⟩
def RX2 : String := "BeansBox$Kitchen"
def TX2 : u_T := fun k => match k with
  | 0 => ("BeansBox$Kitchen", "stands", "Z", false)
  | 1 => ("BeansBox$Kitchen", "askCost", "I", false)
  | 2 => ("BeansBox$Kitchen", "silenceCost", "I", false)
  | 3 => ("BeansBox$Kitchen", "wakeSound", "I", false)
  | 4 => ("BeansBox$Kitchen", "words", "I", false)
  | 5 => ("BeansBox$Kitchen", "voices", "I", false)
  | 6 => ("BeansBox$Kitchen", "sounds", "[I", true)
  | 7 => ("BeansBox$Kitchen", "usual", "[I", true)
  | 8 => ("BeansBox$Kitchen", "wrongCosts", "[I", true)
  | _ => ("BeansBox$Kitchen", "shifts", "[I", true)
def tyX2 : Nat → FieldType := fun k => match k with
  | 0 => .boolean
  | 1 => .int
  | 2 => .int
  | 3 => .int
  | 4 => .int
  | 5 => .int
  | 6 => .array .int
  | 7 => .array .int
  | 8 => .array .int
  | _ => .array .int
abbrev wsX20 : List Cond := u_ws RX2 TX2 10
theorem nmX2 : ∀ a, a < 10 → ∀ b, b < 10 → a ≠ b → (TX2 a).2.1 ≠ (TX2 b).2.1 := by decide +kernel
theorem tyX2_ok : ∀ k, k < 10 → parseFieldDescriptor (TX2 k).2.2.1 = some (tyX2 k) := by decide +kernel
abbrev cX2_init : ByteArray := prog_4_method_1_code
def yX2_init : MethodName := ⟨RX2, "<init>", "()V"⟩
abbrev cX2_empty : ByteArray := prog_4_method_2_code
def yX2_empty : MethodName := ⟨RX2, "empty", "()V"⟩
abbrev cX2_setBox : ByteArray := prog_4_method_3_code
def yX2_setBox : MethodName := ⟨RX2, "setBox", "(III)V"⟩
abbrev cX2_addWord : ByteArray := prog_4_method_4_code
def yX2_addWord : MethodName := ⟨RX2, "addWord", "(III)V"⟩
abbrev cX2_addVoice : ByteArray := prog_4_method_5_code
def yX2_addVoice : MethodName := ⟨RX2, "addVoice", "(I)V"⟩
def RX3 : String := "BeansBox$Pairs"
def TX3 : u_T := fun k => match k with
  | 0 => ("BeansBox$Pairs", "first", "[I", true)
  | 1 => ("BeansBox$Pairs", "second", "[I", true)
  | _ => ("BeansBox$Pairs", "count", "I", false)
def tyX3 : Nat → FieldType := fun k => match k with
  | 0 => .array .int
  | 1 => .array .int
  | _ => .int
abbrev wsX30 : List Cond := u_ws RX3 TX3 3
theorem nmX3 : ∀ a, a < 3 → ∀ b, b < 3 → a ≠ b → (TX3 a).2.1 ≠ (TX3 b).2.1 := by decide +kernel
theorem tyX3_ok : ∀ k, k < 3 → parseFieldDescriptor (TX3 k).2.2.1 = some (tyX3 k) := by decide +kernel
abbrev cX3_init : ByteArray := prog_5_method_1_code
def yX3_init : MethodName := ⟨RX3, "<init>", "(I)V"⟩
abbrev cX3_append : ByteArray := prog_5_method_2_code
def yX3_append : MethodName := ⟨RX3, "append", "(II)Z"⟩
abbrev cX3_clear : ByteArray := prog_5_method_3_code
def yX3_clear : MethodName := ⟨RX3, "clear", "()V"⟩
def RX4 : String := "BeansBox$Past"
def TX4 : u_T := fun k => match k with
  | 0 => ("BeansBox$Past", "ring", "[LBeansBox$Deeds;", true)
  | 1 => ("BeansBox$Past", "next", "I", false)
  | _ => ("BeansBox$Past", "count", "I", false)
def tyX4 : Nat → FieldType := fun k => match k with
  | 0 => .array (.object "BeansBox$Deeds")
  | 1 => .int
  | _ => .int
abbrev wsX40 : List Cond := u_ws RX4 TX4 3
theorem nmX4 : ∀ a, a < 3 → ∀ b, b < 3 → a ≠ b → (TX4 a).2.1 ≠ (TX4 b).2.1 := by decide +kernel
theorem tyX4_ok : ∀ k, k < 3 → parseFieldDescriptor (TX4 k).2.2.1 = some (tyX4 k) := by decide +kernel
abbrev cX4_init : ByteArray := prog_6_method_1_code
def yX4_init : MethodName := ⟨RX4, "<init>", "()V"⟩
abbrev cX4_clear : ByteArray := prog_6_method_2_code
def yX4_clear : MethodName := ⟨RX4, "clear", "()V"⟩
abbrev cX4_push : ByteArray := prog_6_method_3_code
def yX4_push : MethodName := ⟨RX4, "push", "(LBeansBox$Deeds;)V"⟩
abbrev cX4_pop : ByteArray := prog_6_method_4_code
def yX4_pop : MethodName := ⟨RX4, "pop", "(LBeansBox$Deeds;)Z"⟩
def RX5 : String := "BeansBox$Reader"
def TX5 : u_T := fun k => match k with
  | 0 => ("BeansBox$Reader", "text", "[I", true)
  | 1 => ("BeansBox$Reader", "length", "I", false)
  | 2 => ("BeansBox$Reader", "place", "I", false)
  | _ => ("BeansBox$Reader", "kind", "I", false)
def tyX5 : Nat → FieldType := fun k => match k with
  | 0 => .array .int
  | 1 => .int
  | 2 => .int
  | _ => .int
abbrev wsX50 : List Cond := u_ws RX5 TX5 4
theorem nmX5 : ∀ a, a < 4 → ∀ b, b < 4 → a ≠ b → (TX5 a).2.1 ≠ (TX5 b).2.1 := by decide +kernel
theorem tyX5_ok : ∀ k, k < 4 → parseFieldDescriptor (TX5 k).2.2.1 = some (tyX5 k) := by decide +kernel
abbrev cX5_init : ByteArray := prog_7_method_1_code
def yX5_init : MethodName := ⟨RX5, "<init>", "()V"⟩
abbrev cX5_append : ByteArray := prog_7_method_2_code
def yX5_append : MethodName := ⟨RX5, "append", "(I)Z"⟩
abbrev cX5_forget : ByteArray := prog_7_method_3_code
def yX5_forget : MethodName := ⟨RX5, "forget", "()V"⟩
abbrev cX5_readInto : ByteArray := prog_7_method_4_code
def yX5_readInto : MethodName := ⟨RX5, "readInto", "(LBeansBox$Kitchen;)I"⟩
abbrev cX5_readClause : ByteArray := prog_7_method_5_code
def yX5_readClause : MethodName := ⟨RX5, "readClause", "(LBeansBox$Kitchen;)V"⟩
abbrev cX5_readBox : ByteArray := prog_7_method_6_code
def yX5_readBox : MethodName := ⟨RX5, "readBox", "(LBeansBox$Kitchen;)V"⟩
abbrev cX5_readWord : ByteArray := prog_7_method_7_code
def yX5_readWord : MethodName := ⟨RX5, "readWord", "(LBeansBox$Kitchen;)V"⟩
abbrev cX5_readVoice : ByteArray := prog_7_method_8_code
def yX5_readVoice : MethodName := ⟨RX5, "readVoice", "(LBeansBox$Kitchen;)V"⟩
abbrev cX5_readNumber : ByteArray := prog_7_method_9_code
def yX5_readNumber : MethodName := ⟨RX5, "readNumber", "(I)I"⟩
abbrev cX5_readEnd : ByteArray := prog_7_method_10_code
def yX5_readEnd : MethodName := ⟨RX5, "readEnd", "()V"⟩
abbrev cX5_skipBlanks : ByteArray := prog_7_method_11_code
def yX5_skipBlanks : MethodName := ⟨RX5, "skipBlanks", "()V"⟩
abbrev cX5_letterHere : ByteArray := prog_7_method_12_code
def yX5_letterHere : MethodName := ⟨RX5, "letterHere", "()I"⟩
abbrev cX5_isFigure : ByteArray := prog_7_method_13_code
def yX5_isFigure : MethodName := ⟨RX5, "isFigure", "(I)Z"⟩
abbrev cX5_stop : ByteArray := prog_7_method_14_code
def yX5_stop : MethodName := ⟨RX5, "stop", "(II)V"⟩
def RX6 : String := "BeansBox"
def TX6 : u_T := fun k => match k with
  | 0 => ("BeansBox", "reader", "LBeansBox$Reader;", true)
  | 1 => ("BeansBox", "faultPlace", "I", false)
  | 2 => ("BeansBox", "kitchen", "LBeansBox$Kitchen;", false)
  | 3 => ("BeansBox", "spare", "LBeansBox$Kitchen;", false)
  | 4 => ("BeansBox", "now", "LBeansBox$Deeds;", true)
  | 5 => ("BeansBox", "trial", "LBeansBox$Deeds;", true)
  | 6 => ("BeansBox", "past", "LBeansBox$Past;", true)
  | 7 => ("BeansBox", "images", "[LBeansBox$Image;", true)
  | 8 => ("BeansBox", "drawn", "I", false)
  | 9 => ("BeansBox", "seen", "LBeansBox$Pairs;", true)
  | _ => ("BeansBox", "book", "LBeansBox$Pairs;", true)
def tyX6 : Nat → FieldType := fun k => match k with
  | 0 => .object "BeansBox$Reader"
  | 1 => .int
  | 2 => .object "BeansBox$Kitchen"
  | 3 => .object "BeansBox$Kitchen"
  | 4 => .object "BeansBox$Deeds"
  | 5 => .object "BeansBox$Deeds"
  | 6 => .object "BeansBox$Past"
  | 7 => .array (.object "BeansBox$Image")
  | 8 => .int
  | 9 => .object "BeansBox$Pairs"
  | _ => .object "BeansBox$Pairs"
abbrev wsX60 : List Cond := u_ws RX6 TX6 11
theorem nmX6 : ∀ a, a < 11 → ∀ b, b < 11 → a ≠ b → (TX6 a).2.1 ≠ (TX6 b).2.1 := by decide +kernel
theorem tyX6_ok : ∀ k, k < 11 → parseFieldDescriptor (TX6 k).2.2.1 = some (tyX6 k) := by decide +kernel
abbrev cX6_init : ByteArray := prog_1_method_1_code
def yX6_init : MethodName := ⟨RX6, "<init>", "()V"⟩
abbrev cX6_feed : ByteArray := prog_1_method_2_code
def yX6_feed : MethodName := ⟨RX6, "feed", "(I)I"⟩
abbrev cX6_kitchen : ByteArray := prog_1_method_3_code
def yX6_kitchen : MethodName := ⟨RX6, "kitchen", "()I"⟩
abbrev cX6_fault : ByteArray := prog_1_method_4_code
def yX6_fault : MethodName := ⟨RX6, "fault", "()I"⟩
abbrev cX6_told : ByteArray := prog_1_method_5_code
def yX6_told : MethodName := ⟨RX6, "told", "(I)I"⟩
abbrev cX6_word : ByteArray := prog_1_method_6_code
def yX6_word : MethodName := ⟨RX6, "word", "(II)I"⟩
abbrev cX6_voice : ByteArray := prog_1_method_7_code
def yX6_voice : MethodName := ⟨RX6, "voice", "(I)I"⟩
abbrev cX6_hear : ByteArray := prog_1_method_8_code
def yX6_hear : MethodName := ⟨RX6, "hear", "(I)I"⟩
abbrev cX6_takeBack : ByteArray := prog_1_method_9_code
def yX6_takeBack : MethodName := ⟨RX6, "takeBack", "(I)I"⟩
abbrev cX6_letBe : ByteArray := prog_1_method_10_code
def yX6_letBe : MethodName := ⟨RX6, "letBe", "()I"⟩
abbrev cX6_call : ByteArray := prog_1_method_11_code
def yX6_call : MethodName := ⟨RX6, "call", "(II)I"⟩
abbrev cX6_drift : ByteArray := prog_1_method_12_code
def yX6_drift : MethodName := ⟨RX6, "drift", "(I)I"⟩
abbrev cX6_undo : ByteArray := prog_1_method_13_code
def yX6_undo : MethodName := ⟨RX6, "undo", "()I"⟩
abbrev cX6_guess : ByteArray := prog_1_method_14_code
def yX6_guess : MethodName := ⟨RX6, "guess", "(I)I"⟩
abbrev cX6_sure : ByteArray := prog_1_method_15_code
def yX6_sure : MethodName := ⟨RX6, "sure", "(II)I"⟩
abbrev cX6_rule : ByteArray := prog_1_method_16_code
def yX6_rule : MethodName := ⟨RX6, "rule", "(I)I"⟩
abbrev cX6_worth : ByteArray := prog_1_method_17_code
def yX6_worth : MethodName := ⟨RX6, "worth", "(II)I"⟩
abbrev cX6_said : ByteArray := prog_1_method_18_code
def yX6_said : MethodName := ⟨RX6, "said", "(II)I"⟩
abbrev cX6_misheard : ByteArray := prog_1_method_19_code
def yX6_misheard : MethodName := ⟨RX6, "misheard", "(I)I"⟩
abbrev cX6_who : ByteArray := prog_1_method_20_code
def yX6_who : MethodName := ⟨RX6, "who", "(I)I"⟩
abbrev cX6_meant : ByteArray := prog_1_method_21_code
def yX6_meant : MethodName := ⟨RX6, "meant", "(II)I"⟩
abbrev cX6_alike : ByteArray := prog_1_method_22_code
def yX6_alike : MethodName := ⟨RX6, "alike", "(II)I"⟩
abbrev cX6_wake : ByteArray := prog_1_method_23_code
def yX6_wake : MethodName := ⟨RX6, "wake", "(I)I"⟩
abbrev cX6_falsely : ByteArray := prog_1_method_24_code
def yX6_falsely : MethodName := ⟨RX6, "falsely", "(II)I"⟩
abbrev cX6_needs : ByteArray := prog_1_method_25_code
def yX6_needs : MethodName := ⟨RX6, "needs", "(III)I"⟩
abbrev cX6_bestCalled : ByteArray := prog_1_method_26_code
def yX6_bestCalled : MethodName := ⟨RX6, "bestCalled", "(II)I"⟩
abbrev cX6_asks : ByteArray := prog_1_method_27_code
def yX6_asks : MethodName := ⟨RX6, "asks", "(I)I"⟩
abbrev cX6_waked : ByteArray := prog_1_method_28_code
def yX6_waked : MethodName := ⟨RX6, "waked", "(II)I"⟩
abbrev cX6_see : ByteArray := prog_1_method_29_code
def yX6_see : MethodName := ⟨RX6, "see", "(II)I"⟩
abbrev cX6_speaker : ByteArray := prog_1_method_30_code
def yX6_speaker : MethodName := ⟨RX6, "speaker", "()I"⟩
abbrev cX6_sayNext : ByteArray := prog_1_method_31_code
def yX6_sayNext : MethodName := ⟨RX6, "sayNext", "()I"⟩
abbrev cX6_write : ByteArray := prog_1_method_32_code
def yX6_write : MethodName := ⟨RX6, "write", "(II)I"⟩
abbrev cX6_tear : ByteArray := prog_1_method_33_code
def yX6_tear : MethodName := ⟨RX6, "tear", "()I"⟩
abbrev cX6_judge : ByteArray := prog_1_method_34_code
def yX6_judge : MethodName := ⟨RX6, "judge", "()I"⟩
abbrev cX6_seed : ByteArray := prog_1_method_35_code
def yX6_seed : MethodName := ⟨RX6, "seed", "(I)I"⟩
abbrev cX6_keep : ByteArray := prog_1_method_36_code
def yX6_keep : MethodName := ⟨RX6, "keep", "(I)I"⟩
abbrev cX6_goBack : ByteArray := prog_1_method_37_code
def yX6_goBack : MethodName := ⟨RX6, "goBack", "(I)I"⟩
abbrev cX6_isWord : ByteArray := prog_1_method_38_code
def yX6_isWord : MethodName := ⟨RX6, "isWord", "(I)Z"⟩
abbrev cX6_isVoice : ByteArray := prog_1_method_39_code
def yX6_isVoice : MethodName := ⟨RX6, "isVoice", "(I)Z"⟩
abbrev cX6_isImage : ByteArray := prog_1_method_40_code
def yX6_isImage : MethodName := ⟨RX6, "isImage", "(I)Z"⟩
abbrev cX6_isSound : ByteArray := prog_1_method_41_code
def yX6_isSound : MethodName := ⟨RX6, "isSound", "(I)Z"⟩
abbrev cX6_isDistance : ByteArray := prog_1_method_42_code
def yX6_isDistance : MethodName := ⟨RX6, "isDistance", "(I)Z"⟩
abbrev cX6_apart : ByteArray := prog_1_method_43_code
def yX6_apart : MethodName := ⟨RX6, "apart", "(II)I"⟩
abbrev cX6_shifted : ByteArray := prog_1_method_44_code
def yX6_shifted : MethodName := ⟨RX6, "shifted", "(II)I"⟩
abbrev cX6_spoken : ByteArray := prog_1_method_45_code
def yX6_spoken : MethodName := ⟨RX6, "spoken", "(II)I"⟩
abbrev cX6_understood : ByteArray := prog_1_method_46_code
def yX6_understood : MethodName := ⟨RX6, "understood", "(II)I"⟩
abbrev cX6_wordsSpokenAs : ByteArray := prog_1_method_47_code
def yX6_wordsSpokenAs : MethodName := ⟨RX6, "wordsSpokenAs", "(II)I"⟩
abbrev cX6_voicesHeardRight : ByteArray := prog_1_method_48_code
def yX6_voicesHeardRight : MethodName := ⟨RX6, "voicesHeardRight", "(III)I"⟩
abbrev cX6_cost : ByteArray := prog_1_method_49_code
def yX6_cost : MethodName := ⟨RX6, "cost", "(LBeansBox$Deeds;II)I"⟩
abbrev cX6_cheapest : ByteArray := prog_1_method_50_code
def yX6_cheapest : MethodName := ⟨RX6, "cheapest", "(LBeansBox$Deeds;I)I"⟩
abbrev cX6_takeIn : ByteArray := prog_1_method_51_code
def yX6_takeIn : MethodName := ⟨RX6, "takeIn", "(I)I"⟩
abbrev cX6_draw : ByteArray := prog_1_method_52_code
def yX6_draw : MethodName := ⟨RX6, "draw", "(I)I"⟩
abbrev cX6_couldHaveSpoken : ByteArray := prog_1_method_53_code
def yX6_couldHaveSpoken : MethodName := ⟨RX6, "couldHaveSpoken", "(I)Z"⟩
abbrev cX6_greatestPart : ByteArray := prog_1_method_54_code
def yX6_greatestPart : MethodName := ⟨RX6, "greatestPart", "(II)I"⟩
def RX7 : String := "BeansBoxModel"
def TX7 : u_T := fun k => match k with
  | 0 => ("BeansBoxModel", "letterMany", "I", false)
  | 1 => ("BeansBoxModel", "text", "[I", true)
  | 2 => ("BeansBoxModel", "faultAt", "I", false)
  | 3 => ("BeansBoxModel", "readAt", "I", false)
  | 4 => ("BeansBoxModel", "readFault", "I", false)
  | 5 => ("BeansBoxModel", "readWords", "I", false)
  | 6 => ("BeansBoxModel", "readVoices", "I", false)
  | 7 => ("BeansBoxModel", "readBox", "[I", true)
  | 8 => ("BeansBoxModel", "readWord", "[I", true)
  | 9 => ("BeansBoxModel", "readVoice", "[I", true)
  | 10 => ("BeansBoxModel", "isRead", "Z", false)
  | 11 => ("BeansBoxModel", "isKitchen", "Z", false)
  | 12 => ("BeansBoxModel", "n", "I", false)
  | 13 => ("BeansBoxModel", "voiceMany", "I", false)
  | 14 => ("BeansBoxModel", "box", "[I", true)
  | 15 => ("BeansBoxModel", "costs", "[I", true)
  | 16 => ("BeansBoxModel", "voices", "[I", true)
  | 17 => ("BeansBoxModel", "now", "[I", true)
  | 18 => ("BeansBoxModel", "undoMany", "I", false)
  | 19 => ("BeansBoxModel", "undoAt", "I", false)
  | 20 => ("BeansBoxModel", "undos", "[I", true)
  | 21 => ("BeansBoxModel", "seed", "J", false)
  | 22 => ("BeansBoxModel", "seenMany", "I", false)
  | 23 => ("BeansBoxModel", "seen", "[I", true)
  | 24 => ("BeansBoxModel", "bookMany", "I", false)
  | 25 => ("BeansBoxModel", "book", "[I", true)
  | 26 => ("BeansBoxModel", "isKept", "[Z", true)
  | 27 => ("BeansBoxModel", "kept", "[I", true)
  | _ => ("BeansBoxModel", "keptSeeds", "[J", true)
def tyX7 : Nat → FieldType := fun k => match k with
  | 0 => .int
  | 1 => .array .int
  | 2 => .int
  | 3 => .int
  | 4 => .int
  | 5 => .int
  | 6 => .int
  | 7 => .array .int
  | 8 => .array .int
  | 9 => .array .int
  | 10 => .boolean
  | 11 => .boolean
  | 12 => .int
  | 13 => .int
  | 14 => .array .int
  | 15 => .array .int
  | 16 => .array .int
  | 17 => .array .int
  | 18 => .int
  | 19 => .int
  | 20 => .array .int
  | 21 => .long
  | 22 => .int
  | 23 => .array .int
  | 24 => .int
  | 25 => .array .int
  | 26 => .array .boolean
  | 27 => .array .int
  | _ => .array .long
abbrev wsX70 : List Cond := u_ws RX7 TX7 29
theorem nmX7 : ∀ a, a < 29 → ∀ b, b < 29 → a ≠ b → (TX7 a).2.1 ≠ (TX7 b).2.1 := by decide +kernel
theorem tyX7_ok : ∀ k, k < 29 → parseFieldDescriptor (TX7 k).2.2.1 = some (tyX7 k) := by decide +kernel
abbrev cX7_init : ByteArray := prog_9_method_1_code
def yX7_init : MethodName := ⟨RX7, "<init>", "()V"⟩
abbrev cX7_in : ByteArray := prog_9_method_2_code
def yX7_in : MethodName := ⟨RX7, "in", "(III)Z"⟩
abbrev cX7_bits : ByteArray := prog_9_method_3_code
def yX7_bits : MethodName := ⟨RX7, "bits", "(I)I"⟩
abbrev cX7_feed : ByteArray := prog_9_method_4_code
def yX7_feed : MethodName := ⟨RX7, "feed", "(I)I"⟩
abbrev cX7_fault : ByteArray := prog_9_method_5_code
def yX7_fault : MethodName := ⟨RX7, "fault", "()I"⟩
abbrev cX7_letterAt : ByteArray := prog_9_method_6_code
def yX7_letterAt : MethodName := ⟨RX7, "letterAt", "(I)I"⟩
abbrev cX7_blanks : ByteArray := prog_9_method_7_code
def yX7_blanks : MethodName := ⟨RX7, "blanks", "()V"⟩
abbrev cX7_fails : ByteArray := prog_9_method_8_code
def yX7_fails : MethodName := ⟨RX7, "fails", "(I)Z"⟩
abbrev cX7_number : ByteArray := prog_9_method_9_code
def yX7_number : MethodName := ⟨RX7, "number", "(I)I"⟩
abbrev cX7_ends : ByteArray := prog_9_method_10_code
def yX7_ends : MethodName := ⟨RX7, "ends", "()Z"⟩
abbrev cX7_readsBox : ByteArray := prog_9_method_11_code
def yX7_readsBox : MethodName := ⟨RX7, "readsBox", "(Z)Z"⟩
abbrev cX7_readsWord : ByteArray := prog_9_method_12_code
def yX7_readsWord : MethodName := ⟨RX7, "readsWord", "()Z"⟩
abbrev cX7_readsVoice : ByteArray := prog_9_method_13_code
def yX7_readsVoice : MethodName := ⟨RX7, "readsVoice", "()Z"⟩
abbrev cX7_readsClause : ByteArray := prog_9_method_14_code
def yX7_readsClause : MethodName := ⟨RX7, "readsClause", "(Z)Z"⟩
abbrev cX7_reads : ByteArray := prog_9_method_15_code
def yX7_reads : MethodName := ⟨RX7, "reads", "()Z"⟩
abbrev cX7_kitchen : ByteArray := prog_9_method_16_code
def yX7_kitchen : MethodName := ⟨RX7, "kitchen", "()I"⟩
abbrev cX7_isWord : ByteArray := prog_9_method_17_code
def yX7_isWord : MethodName := ⟨RX7, "isWord", "(I)Z"⟩
abbrev cX7_isVoice : ByteArray := prog_9_method_18_code
def yX7_isVoice : MethodName := ⟨RX7, "isVoice", "(I)Z"⟩
abbrev cX7_isSound : ByteArray := prog_9_method_19_code
def yX7_isSound : MethodName := ⟨RX7, "isSound", "(I)Z"⟩
abbrev cX7_allListed : ByteArray := prog_9_method_20_code
def yX7_allListed : MethodName := ⟨RX7, "allListed", "()I"⟩
abbrev cX7_told : ByteArray := prog_9_method_21_code
def yX7_told : MethodName := ⟨RX7, "told", "(I)I"⟩
abbrev cX7_word : ByteArray := prog_9_method_22_code
def yX7_word : MethodName := ⟨RX7, "word", "(II)I"⟩
abbrev cX7_voice : ByteArray := prog_9_method_23_code
def yX7_voice : MethodName := ⟨RX7, "voice", "(I)I"⟩
abbrev cX7_far : ByteArray := prog_9_method_24_code
def yX7_far : MethodName := ⟨RX7, "far", "(II)I"⟩
abbrev cX7_apart : ByteArray := prog_9_method_25_code
def yX7_apart : MethodName := ⟨RX7, "apart", "(II)I"⟩
abbrev cX7_shifted : ByteArray := prog_9_method_26_code
def yX7_shifted : MethodName := ⟨RX7, "shifted", "(II)I"⟩
abbrev cX7_saidBy : ByteArray := prog_9_method_27_code
def yX7_saidBy : MethodName := ⟨RX7, "saidBy", "(II)I"⟩
abbrev cX7_weight : ByteArray := prog_9_method_28_code
def yX7_weight : MethodName := ⟨RX7, "weight", "(II)I"⟩
abbrev cX7_guessOf : ByteArray := prog_9_method_29_code
def yX7_guessOf : MethodName := ⟨RX7, "guessOf", "(I)I"⟩
abbrev cX7_sureOf : ByteArray := prog_9_method_30_code
def yX7_sureOf : MethodName := ⟨RX7, "sureOf", "(II)I"⟩
abbrev cX7_costOf : ByteArray := prog_9_method_31_code
def yX7_costOf : MethodName := ⟨RX7, "costOf", "(II)I"⟩
abbrev cX7_ruleOf : ByteArray := prog_9_method_32_code
def yX7_ruleOf : MethodName := ⟨RX7, "ruleOf", "(I)I"⟩
abbrev cX7_remember : ByteArray := prog_9_method_33_code
def yX7_remember : MethodName := ⟨RX7, "remember", "()V"⟩
abbrev cX7_atMost : ByteArray := prog_9_method_34_code
def yX7_atMost : MethodName := ⟨RX7, "atMost", "(I)I"⟩
abbrev cX7_less : ByteArray := prog_9_method_35_code
def yX7_less : MethodName := ⟨RX7, "less", "(I)I"⟩
abbrev cX7_hears : ByteArray := prog_9_method_36_code
def yX7_hears : MethodName := ⟨RX7, "hears", "(I)I"⟩
abbrev cX7_takesBack : ByteArray := prog_9_method_37_code
def yX7_takesBack : MethodName := ⟨RX7, "takesBack", "(I)V"⟩
abbrev cX7_letsBe : ByteArray := prog_9_method_38_code
def yX7_letsBe : MethodName := ⟨RX7, "letsBe", "()I"⟩
abbrev cX7_hear : ByteArray := prog_9_method_39_code
def yX7_hear : MethodName := ⟨RX7, "hear", "(I)I"⟩
abbrev cX7_takeBack : ByteArray := prog_9_method_40_code
def yX7_takeBack : MethodName := ⟨RX7, "takeBack", "(I)I"⟩
abbrev cX7_letBe : ByteArray := prog_9_method_41_code
def yX7_letBe : MethodName := ⟨RX7, "letBe", "()I"⟩
abbrev cX7_call : ByteArray := prog_9_method_42_code
def yX7_call : MethodName := ⟨RX7, "call", "(II)I"⟩
abbrev cX7_draw : ByteArray := prog_9_method_43_code
def yX7_draw : MethodName := ⟨RX7, "draw", "(I)I"⟩
abbrev cX7_drift : ByteArray := prog_9_method_44_code
def yX7_drift : MethodName := ⟨RX7, "drift", "(I)I"⟩
abbrev cX7_undo : ByteArray := prog_9_method_45_code
def yX7_undo : MethodName := ⟨RX7, "undo", "()I"⟩
abbrev cX7_guess : ByteArray := prog_9_method_46_code
def yX7_guess : MethodName := ⟨RX7, "guess", "(I)I"⟩
abbrev cX7_sure : ByteArray := prog_9_method_47_code
def yX7_sure : MethodName := ⟨RX7, "sure", "(II)I"⟩
abbrev cX7_rule : ByteArray := prog_9_method_48_code
def yX7_rule : MethodName := ⟨RX7, "rule", "(I)I"⟩
abbrev cX7_worth : ByteArray := prog_9_method_49_code
def yX7_worth : MethodName := ⟨RX7, "worth", "(II)I"⟩
abbrev cX7_said : ByteArray := prog_9_method_50_code
def yX7_said : MethodName := ⟨RX7, "said", "(II)I"⟩
abbrev cX7_misheard : ByteArray := prog_9_method_51_code
def yX7_misheard : MethodName := ⟨RX7, "misheard", "(I)I"⟩
abbrev cX7_meantBy : ByteArray := prog_9_method_52_code
def yX7_meantBy : MethodName := ⟨RX7, "meantBy", "(II)I"⟩
abbrev cX7_who : ByteArray := prog_9_method_53_code
def yX7_who : MethodName := ⟨RX7, "who", "(I)I"⟩
abbrev cX7_meant : ByteArray := prog_9_method_54_code
def yX7_meant : MethodName := ⟨RX7, "meant", "(II)I"⟩
abbrev cX7_alike : ByteArray := prog_9_method_55_code
def yX7_alike : MethodName := ⟨RX7, "alike", "(II)I"⟩
abbrev cX7_wake : ByteArray := prog_9_method_56_code
def yX7_wake : MethodName := ⟨RX7, "wake", "(I)I"⟩
abbrev cX7_falsely : ByteArray := prog_9_method_57_code
def yX7_falsely : MethodName := ⟨RX7, "falsely", "(II)I"⟩
abbrev cX7_needs : ByteArray := prog_9_method_58_code
def yX7_needs : MethodName := ⟨RX7, "needs", "(III)I"⟩
abbrev cX7_heardBy : ByteArray := prog_9_method_59_code
def yX7_heardBy : MethodName := ⟨RX7, "heardBy", "(I)I"⟩
abbrev cX7_bestCalled : ByteArray := prog_9_method_60_code
def yX7_bestCalled : MethodName := ⟨RX7, "bestCalled", "(II)I"⟩
abbrev cX7_asks : ByteArray := prog_9_method_61_code
def yX7_asks : MethodName := ⟨RX7, "asks", "(I)I"⟩
abbrev cX7_waked : ByteArray := prog_9_method_62_code
def yX7_waked : MethodName := ⟨RX7, "waked", "(II)I"⟩
abbrev cX7_see : ByteArray := prog_9_method_63_code
def yX7_see : MethodName := ⟨RX7, "see", "(II)I"⟩
abbrev cX7_speaker : ByteArray := prog_9_method_64_code
def yX7_speaker : MethodName := ⟨RX7, "speaker", "()I"⟩
abbrev cX7_greatestPart : ByteArray := prog_9_method_65_code
def yX7_greatestPart : MethodName := ⟨RX7, "greatestPart", "(II)I"⟩
abbrev cX7_sayNext : ByteArray := prog_9_method_66_code
def yX7_sayNext : MethodName := ⟨RX7, "sayNext", "()I"⟩
abbrev cX7_write : ByteArray := prog_9_method_67_code
def yX7_write : MethodName := ⟨RX7, "write", "(II)I"⟩
abbrev cX7_tear : ByteArray := prog_9_method_68_code
def yX7_tear : MethodName := ⟨RX7, "tear", "()I"⟩
abbrev cX7_judge : ByteArray := prog_9_method_69_code
def yX7_judge : MethodName := ⟨RX7, "judge", "()I"⟩
abbrev cX7_seed : ByteArray := prog_9_method_70_code
def yX7_seed : MethodName := ⟨RX7, "seed", "(I)I"⟩
abbrev cX7_keep : ByteArray := prog_9_method_71_code
def yX7_keep : MethodName := ⟨RX7, "keep", "(I)I"⟩
abbrev cX7_goBack : ByteArray := prog_9_method_72_code
def yX7_goBack : MethodName := ⟨RX7, "goBack", "(I)I"⟩
def RJ6 : String := "java/lang/Integer"
def TJ6 : u_T := fun k => match k with
  | _ => ("", "", "", false)
def tyJ6 : Nat → FieldType := fun k => match k with
  | _ => .int
abbrev wsJ60 : List Cond := u_ws RJ6 TJ6 0
theorem nmJ6 : ∀ a, a < 0 → ∀ b, b < 0 → a ≠ b → (TJ6 a).2.1 ≠ (TJ6 b).2.1 := by decide +kernel
theorem tyJ6_ok : ∀ k, k < 0 → parseFieldDescriptor (TJ6 k).2.2.1 = some (tyJ6 k) := by decide +kernel
abbrev cJ6_bitCount_0f7a4 : ByteArray := prog_10_method_49_code
def yJ6_bitCount_0f7a4 : MethodName := ⟨RJ6, "bitCount", "(I)I"⟩
def RJ9 : String := "java/lang/Math"
def TJ9 : u_T := fun k => match k with
  | _ => ("", "", "", false)
def tyJ9 : Nat → FieldType := fun k => match k with
  | _ => .int
abbrev wsJ90 : List Cond := u_ws RJ9 TJ9 0
theorem nmJ9 : ∀ a, a < 0 → ∀ b, b < 0 → a ≠ b → (TJ9 a).2.1 ≠ (TJ9 b).2.1 := by decide +kernel
theorem tyJ9_ok : ∀ k, k < 0 → parseFieldDescriptor (TJ9 k).2.2.1 = some (tyJ9 k) := by decide +kernel
abbrev cJ9_abs_0f7a4 : ByteArray := prog_11_method_59_code
def yJ9_abs_0f7a4 : MethodName := ⟨RJ9, "abs", "(I)I"⟩
abbrev cJ9_max_7cf53 : ByteArray := prog_11_method_65_code
def yJ9_max_7cf53 : MethodName := ⟨RJ9, "max", "(II)I"⟩
abbrev cJ9_min_7cf53 : ByteArray := prog_11_method_69_code
def yJ9_min_7cf53 : MethodName := ⟨RJ9, "min", "(II)I"⟩
def RL : String := "BeansBoxLaw"
abbrev cL_law : ByteArray := code
def yL_law : MethodName := ⟨RL, "law", "([I)Z"⟩
abbrev vwCl : List vw_C := [(RX0, TX0, 7), (RX1, TX1, 3), (RX2, TX2, 10), (RX3, TX3, 3), (RX4, TX4, 3), (RX5, TX5, 4), (RX6, TX6, 11), (RX7, TX7, 29)]
/-! ===== END ===== -/
end
section
/-! ===== BEGIN my layer: one judgement (AW) for a point of a method, one (AM) for a method ===== -/
abbrev GT : Type := va_G × (Nat → ClassId)
def aTys (G : GT) : List (ClassId × FieldType) := [(G.2 0, .int), (G.2 1, .long), (G.2 2, .boolean), (G.2 3, .object RX0), (G.2 4, .object RX1)]
/-- the tables' words that hold behind any step; those of nest mates go beside them -/
def wsT : List Cond := lw_tbl.filter goodWord
def nestWord : Cond → Bool
  | .fieldLinkNest .. => true
  | .methodLinkNest .. => true
  | _ => false
def nsW : List Cond := lw_tbl.filter nestWord
theorem wsT_good : ∀ w ∈ wsT, goodWord w = true := fun _ h => (List.mem_filter.mp h).2
theorem wsT_in : ∀ w ∈ wsT, w ∈ lw_tbl := fun _ h => (List.mem_filter.mp h).1
theorem nsW_in : ∀ w ∈ nsW, w ∈ lw_tbl := fun _ h => (List.mem_filter.mp h).1
def KX (G : GT) (U : State) : Prop := va_K G.1 vwCl (aTys G) U ∧ va_AO RX0 U ∧ va_AO RX1 U ∧ ∀ w ∈ nsW, va_Nw w U
theorem KX.warm {G : GT} {s U : State} (hW : s.WarmedH U.vm) (h : KX G s) : KX G U := by
  refine ⟨va_K.moved hW.alike h.1, va_AO.moved hW.alike h.2.1, va_AO.moved hW.alike h.2.2.1, fun w hw => ?_⟩
  have h1 := h.2.2.2 w hw
  have h2 := (List.mem_filter.mp hw).2
  cases w <;> first | (simp [nestWord] at h2; done) | exact va_Nw.warmF hW h1 | exact va_Nw.warmM hW h1
theorem KX.same {G : GT} {s U : State} (hvm : s.vm = U.vm) (h : KX G s) : KX G U := by
  refine ⟨va_K.moved (by rw [hvm]; exact Vm.Alike.refl _) h.1, va_AO.moved (by rw [hvm]; exact Vm.Alike.refl _) h.2.1, va_AO.moved (by rw [hvm]; exact Vm.Alike.refl _) h.2.2.1, fun w hw => ?_⟩
  have h1 := h.2.2.2 w hw
  have h2 := (List.mem_filter.mp hw).2
  cases w <;> first | (simp [nestWord] at h2; done) | exact va_Nw.same rfl hvm h1
/-- an object of class ci at a, with its fields -/
def Ob (G : GT) (H : Heap) (a ci : Nat) (fs : List Value) : Prop := va_at G.1 vwCl (a, .inr (ci, fs)) H
/-- an array of ints, longs, booleans, references -/
def Ai (G : GT) (H : Heap) (a n : Nat) (f : Nat → Int32) : Prop := H[a]? = some (arrV (G.2 0) n (fun j => .int (f j)))
def Al (G : GT) (H : Heap) (a n : Nat) (f : Nat → Int64) : Prop := H[a]? = some (arrV (G.2 1) n (fun j => .long (f j)))
def Az (G : GT) (H : Heap) (a n : Nat) (f : Nat → Int32) : Prop := H[a]? = some (arrV (G.2 2) n (fun j => .int (f j)))
def Aq (G : GT) (H : Heap) (a t n : Nat) (f : Nat → Option Nat) : Prop := H[a]? = some (arrV (G.2 t) n (fun j => va_rf (f j)))
theorem Ob.kept {G : GT} {H H1 : Heap} {a ci : Nat} {fs : List Value} (h : Ob G H a ci fs) (hq : H1[a]? = H[a]?) : Ob G H1 a ci fs := va_at.kept (q := (a, .inr (ci, fs))) h hq
theorem Ai.kept {G : GT} {H H1 : Heap} {a n : Nat} {f : Nat → Int32} (h : Ai G H a n f) (hq : H1[a]? = H[a]?) : Ai G H1 a n f := hq.trans h
theorem Al.kept {G : GT} {H H1 : Heap} {a n : Nat} {f : Nat → Int64} (h : Al G H a n f) (hq : H1[a]? = H[a]?) : Al G H1 a n f := hq.trans h
theorem Az.kept {G : GT} {H H1 : Heap} {a n : Nat} {f : Nat → Int32} (h : Az G H a n f) (hq : H1[a]? = H[a]?) : Az G H1 a n f := hq.trans h
theorem Aq.kept {G : GT} {H H1 : Heap} {a t n : Nat} {f : Nat → Option Nat} (h : Aq G H a t n f) (hq : H1[a]? = H[a]?) : Aq G H1 a t n f := hq.trans h
theorem Ob.lt {G : GT} {H : Heap} {a ci : Nat} {fs : List Value} (h : Ob G H a ci fs) : a < H.size := va_at.lt (q := (a, .inr (ci, fs))) h
theorem Ai.lt {G : GT} {H : Heap} {a n : Nat} {f : Nat → Int32} (h : Ai G H a n f) : a < H.size := (Array.getElem?_eq_some_iff.mp h).1
theorem Al.lt {G : GT} {H : Heap} {a n : Nat} {f : Nat → Int64} (h : Al G H a n f) : a < H.size := (Array.getElem?_eq_some_iff.mp h).1
theorem Az.lt {G : GT} {H : Heap} {a n : Nat} {f : Nat → Int32} (h : Az G H a n f) : a < H.size := (Array.getElem?_eq_some_iff.mp h).1
theorem Aq.lt {G : GT} {H : Heap} {a t n : Nat} {f : Nat → Option Nat} (h : Aq G H a t n f) : a < H.size := (Array.getElem?_eq_some_iff.mp h).1
theorem arrV_ext {cA : ClassId} {n : Nat} {f g : Nat → Value} (h : ∀ j, j < n → f j = g j) : arrV cA n f = arrV cA n g := by
  unfold arrV
  congr 1
  apply congrArg
  funext j
  exact h j.val j.isLt
theorem Ai.to {G : GT} {H : Heap} {a n : Nat} {f g : Nat → Int32} (h : Ai G H a n f) (hg : ∀ j, j < n → f j = g j) : Ai G H a n g := h.trans (congrArg some (arrV_ext fun j hj => by rw [hg j hj]))
theorem Al.to {G : GT} {H : Heap} {a n : Nat} {f g : Nat → Int64} (h : Al G H a n f) (hg : ∀ j, j < n → f j = g j) : Al G H a n g := h.trans (congrArg some (arrV_ext fun j hj => by rw [hg j hj]))
theorem Az.to {G : GT} {H : Heap} {a n : Nat} {f g : Nat → Int32} (h : Az G H a n f) (hg : ∀ j, j < n → f j = g j) : Az G H a n g := h.trans (congrArg some (arrV_ext fun j hj => by rw [hg j hj]))
theorem Aq.to {G : GT} {H : Heap} {a t n : Nat} {f g : Nat → Option Nat} (h : Aq G H a t n f) (hg : ∀ j, j < n → f j = g j) : Aq G H a t n g := h.trans (congrArg some (arrV_ext fun j hj => by rw [hg j hj]))
/-- what stands fixed in a method: the machine, its code, the tables' words, the classes -/
def MC (G : GT) (B : Nat) (own : String) (cc : ByteArray) (nL : Nat) (ini : Bool) (p : Program) (s : State) (m : MethodId) (args : Array Value) (meth : Method) (c : Code) : Prop :=
  p.tables.exec = Jvm.exec ∧ c.code = cc ∧ c.maxLocals = nL ∧ s.vm.findClass own = some m.cls ∧ (∀ w ∈ wsT, w.before args s = true) ∧ KX G s ∧ (ini = true → meth.name = "<init>") ∧ B ≤ s.heap.size
def retAt (cc : ByteArray) (pc : Nat) (v : Option Value) : Prop := (v = none ∧ decode cc pc = .ok (.return_, 1)) ∨ (∃ x : Int32, v = some (.int x) ∧ decode cc pc = .ok (.ireturn, 1))
/-- from this point the method comes to an end of which 'fin answer heap cells slots' holds; below B nothing changes -/
def AW (G : GT) (B : Nat) (l : Launch) (R : Room) (own : String) (cc : ByteArray) (nL : Nat) (ini : Bool) (fin : Option Value → Heap → Nat → Nat → Prop) (pc : Nat) (lv : List (Nat × Value)) (st : List Value) (H : Heap) (ce sl : Nat) : Prop :=
  ∀ (p : Program) (e : Env) (s : State) (m : MethodId) (args : Array Value) (below : List Frame) (meth : Method) (c : Code) (Q : State → Prop) (locs : List Loc) (ls : Array Slot),
    MC G B own cc nL ini p s m args meth c →
    (∀ (v : Option Value) (H' : Heap) (locs' : List Loc) (pc' : Nat) (ls' : Array Slot) (ce' sl' : Nat), fin v H' ce' sl' → retAt cc pc' v → va_S (fun q => B ≤ q) s.heap H' locs' → W p l e R s m args below meth c H' locs' ce' sl' Q (F0 m pc' ls' v.toList)) →
    va_S (fun q => B ≤ q) s.heap H locs → lv_has ls nL lv →
    W p l e R s m args below meth c H locs ce sl Q (F0 m pc ls st)
/-- a method's contract at this heap: its answer and the heap behind it -/
def AM (G : GT) (B : Nat) (l : Launch) (y : MethodName) (cc : ByteArray) (nL : Nat) (ret : Option FieldType) (d mc ms : Nat) (av : List Value) (H : Heap) (post : Option Value → Heap → Prop) : Prop :=
  B ≤ H.size → Met l y (.code y cc nL ret :: wsT) { frames := d, cells := mc, slots := ms, locals := 27 * d } (va_Pc av (fun U => U.heap = H ∧ KX G U)) (fun _ st oc t => (∃ v, oc = .returned v ∧ post v t.heap) ∧ va_F (fun q => B ≤ q) st t) mc ms (fun q => B ≤ q)
def bI (b : Bool) : Int32 := if b = true then 1 else 0
theorem bI_narrow (b : Bool) : narrow .boolean (.int (bI b)) = .int (bI b) := by cases b <;> decide
theorem bI_zero {b : Bool} : bI b = 0 ↔ b = false := by cases b <;> decide
section AX
variable {G : GT} {B : Nat} {l : Launch} {R : Room} {own : String} {cc : ByteArray} {nL : Nat} {ini : Bool} {fin : Option Value → Heap → Nat → Nat → Prop}
variable {pc : Nat} {lv lv' : List (Nat × Value)} {st : List Value} {H : Heap} {ce sl : Nat}
theorem AM.head {y : MethodName} {ret : Option FieldType} {d mc ms : Nat} {av : List Value} {post : Option Value → Heap → Prop} (hy : plainName y.cls = true) (hini : ini = true → y.name = "<init>") (hlen : (lg_sl av).length ≤ nL) (hlv : lv_args 0 av = lv)
    (hend : ∀ (p : Program) (e : Env) (s : State) (m : MethodId) (below : List Frame) (meth : Method) (c : Code) (v : Option Value) (H' : Heap) (locs' : List Loc) (pc' : Nat) (ls' : Array Slot) (ce' sl' : Nat), p.tables.exec = Jvm.exec → c.code = cc → meth.sig.returnType = ret → meth.locks = false → fin v H' ce' sl' → retAt cc pc' v → va_S (fun q => B ≤ q) s.heap H' locs' →
      W p l e { frames := d, cells := mc, slots := ms, locals := 27 * d } s m av.toArray below meth c H' locs' ce' sl' (MQ below (fun _ st oc t => (∃ v, oc = .returned v ∧ post v t.heap) ∧ va_F (fun q => B ≤ q) st t) av.toArray s mc ms (fun q => B ≤ q)) (F0 m pc' ls' v.toList))
    (k : AW G B l { frames := d, cells := mc, slots := ms, locals := 27 * d } y.cls cc nL ini fin 0 lv [] H 0 0) : AM G B l y cc nL ret d mc ms av H post := by
  intro hB
  refine Met.ofW (cc := cc) (maxL := nL) (ret := ret) hy rfl ?_
  intro p e s m args below meth c s₁ Bd hml hv
  obtain ⟨rfl, hH, hK⟩ := hv
  subst hH
  subst hlv
  rw [lg_entry_eq]
  refine k p e s m _ below meth c _ [] _ ⟨Bd.exec, Bd.bytes, hml, findClass_of_methodNamed Bd.named, fun w hw => ?_, hK, fun hi => ?_, hB⟩ (fun v H' locs' pc' ls' ce' sl' h1 h2 h3 => hend p e s m below meth c v H' locs' pc' ls' ce' sl' Bd.exec Bd.bytes Bd.returns Bd.notSynchronized h1 h2 h3) va_S.rf (lv_entry av hlen)
  · exact atoms_spec (ws := .code y cc nL ret :: wsT) Bd.pre w (List.mem_cons_of_mem _ hw)
  · rw [(name_of_methodNamed Bd.named Bd.method).1]; exact hini hi
theorem AM.ofI {y : MethodName} {d mc ms : Nat} {av : List Value} {post : Option Value → Heap → Prop} (hy : plainName y.cls = true) (hlen : (lg_sl av).length ≤ nL) (hlv : lv_args 0 av = lv)
    (k : AW G B l { frames := d, cells := mc, slots := ms, locals := 27 * d } y.cls cc nL false (fun v H' ce' sl' => post v H' ∧ ce' = mc ∧ sl' = ms) 0 lv [] H 0 0) (hv : ∀ H', ¬ post none H') : AM G B l y cc nL (some .int) d mc ms av H post := by
  refine AM.head hy (fun h => by cases h) hlen hlv ?_ k
  rintro p e s m below meth c v H' locs' pc' ls' ce' sl' hx hb hr hlocks ⟨hp, rfl, rfl⟩ (⟨rfl, -⟩ | ⟨x, rfl, hd⟩) hS
  · exact absurd hp (hv H')
  · exact W.iret hx hb hr (fun t ht hW => ⟨⟨_, rfl, by rw [ht]; exact hp⟩, va_S.F hS ht⟩) hS.2.2 hd
theorem AM.ofZ {y : MethodName} {d mc ms : Nat} {av : List Value} {post : Option Value → Heap → Prop} (hy : plainName y.cls = true) (hlen : (lg_sl av).length ≤ nL) (hlv : lv_args 0 av = lv)
    (k : AW G B l { frames := d, cells := mc, slots := ms, locals := 27 * d } y.cls cc nL false (fun v H' ce' sl' => post v H' ∧ ce' = mc ∧ sl' = ms) 0 lv [] H 0 0) (hv : ∀ v H', post v H' → ∃ b, v = some (.int (bI b))) : AM G B l y cc nL (some .boolean) d mc ms av H post := by
  refine AM.head hy (fun h => by cases h) hlen hlv ?_ k
  rintro p e s m below meth c v H' locs' pc' ls' ce' sl' hx hb hr hlocks ⟨hp, rfl, rfl⟩ (⟨rfl, -⟩ | ⟨x, rfl, hd⟩) hS
  · obtain ⟨b, h⟩ := hv _ _ hp
    cases h
  · obtain ⟨b, h⟩ := hv _ _ hp
    obtain rfl : x = bI b := by cases h; rfl
    exact W.zret hx hb hr (bI_narrow b) (fun t ht hW => ⟨⟨_, rfl, by rw [ht]; exact hp⟩, va_S.F hS ht⟩) hS.2.2 hd
theorem AM.ofV {y : MethodName} {d mc ms : Nat} {av : List Value} {post : Option Value → Heap → Prop} (hy : plainName y.cls = true) (hini : ini = true → y.name = "<init>") (hlen : (lg_sl av).length ≤ nL) (hlv : lv_args 0 av = lv)
    (k : AW G B l { frames := d, cells := mc, slots := ms, locals := 27 * d } y.cls cc nL ini (fun v H' ce' sl' => post v H' ∧ ce' = mc ∧ sl' = ms) 0 lv [] H 0 0) (hv : ∀ v H', post v H' → v = none) : AM G B l y cc nL none d mc ms av H post := by
  refine AM.head hy hini hlen hlv ?_ k
  rintro p e s m below meth c v H' locs' pc' ls' ce' sl' hx hb hr hlocks ⟨hp, rfl, rfl⟩ (⟨rfl, hd⟩ | ⟨x, rfl, -⟩) hS
  · exact W.vret hx hb hr (fun t ht hW => ⟨⟨_, rfl, by rw [ht]; exact hp⟩, va_S.F hS ht⟩) hS.2.2 hd
  · exact absurd (hv _ _ hp) (fun h => by cases h)

theorem a_ret {x : Int32} (hd : decode cc pc = .ok (.ireturn, 1)) (k : fin (some (.int x)) H ce sl) : AW G B l R own cc nL ini fin pc lv [.int x] H ce sl := fun p e s m args below meth c Q locs ls C hr hS hl => hr (some (.int x)) H locs pc ls ce sl k (Or.inr ⟨x, rfl, hd⟩) hS
theorem a_retv  (hd : decode cc pc = .ok (.return_, 1)) (k : fin none H ce sl) : AW G B l R own cc nL ini fin pc lv [] H ce sl := fun p e s m args below meth c Q locs ls C hr hS hl => hr none H locs pc ls ce sl k (Or.inl ⟨rfl, hd⟩) hS
theorem a_widen {ce2 sl2 : Nat} (h1 : ce ≤ ce2) (h2 : sl ≤ sl2) (k : AW G B l R own cc nL ini fin pc lv st H ce2 sl2) : AW G B l R own cc nL ini fin pc lv st H ce sl := fun p e s m args below meth c Q locs ls C hr hS hl => W.widen h1 h2 (k p e s m args below meth c Q locs ls C hr hS hl)
theorem a_sub  (is : List Nat) (hs : lv_pick lv is = lv') (k : AW G B l R own cc nL ini fin pc lv' st H ce sl) : AW G B l R own cc nL ini fin pc lv st H ce sl := fun p e s m args below meth c Q locs ls C hr hS hl => k p e s m args below meth c Q locs ls C hr hS (lv_sub hl is hs)
theorem a_iconst {n : Int} (v : Int32) (hd : decode cc pc = .ok (.iconst n, 1)) (hv : Int32.ofInt n = v := by decide) (k : AW G B l R own cc nL ini fin (pc + 1) lv (.int v :: st) H ce sl) : AW G B l R own cc nL ini fin pc lv st H ce sl := fun p e s m args below meth c Q locs ls C hr hS hl => lv_iconst C.1 C.2.1 hd hv (k p e s m args below meth c Q locs ls C hr hS hl)
theorem a_bipush {n : Int} (v : Int32) (hd : decode cc pc = .ok (.bipush n, 2)) (hv : (Int8.ofInt n).toInt32 = v := by decide) (k : AW G B l R own cc nL ini fin (pc + 2) lv (.int v :: st) H ce sl) : AW G B l R own cc nL ini fin pc lv st H ce sl := fun p e s m args below meth c Q locs ls C hr hS hl => lv_bipush C.1 C.2.1 hd hv (k p e s m args below meth c Q locs ls C hr hS hl)
theorem a_sipush {n : Int} (v : Int32) (hd : decode cc pc = .ok (.sipush n, 3)) (hv : (Int16.ofInt n).toInt32 = v := by decide) (k : AW G B l R own cc nL ini fin (pc + 3) lv (.int v :: st) H ce sl) : AW G B l R own cc nL ini fin pc lv st H ce sl := fun p e s m args below meth c Q locs ls C hr hS hl => lv_sipush C.1 C.2.1 hd hv (k p e s m args below meth c Q locs ls C hr hS hl)
theorem a_ldc {i : Nat} (v : Int32) (hw : Cond.constant own i v ∈ wsT) (hd : decode cc pc = .ok (.ldc i, 2)) (k : AW G B l R own cc nL ini fin (pc + 2) lv (.int v :: st) H ce sl) : AW G B l R own cc nL ini fin pc lv st H ce sl := fun p e s m args below meth c Q locs ls C hr hS hl => lv_ldc C.1 C.2.1 C.2.2.2.1 (C.2.2.2.2.1 _ hw) hd (k p e s m args below meth c Q locs ls C hr hS hl)
theorem a_ldcw {i : Nat} (v : Int32) (hw : Cond.constant own i v ∈ wsT) (hd : decode cc pc = .ok (.ldc_w i, 3)) (k : AW G B l R own cc nL ini fin (pc + 3) lv (.int v :: st) H ce sl) : AW G B l R own cc nL ini fin pc lv st H ce sl := fun p e s m args below meth c Q locs ls C hr hS hl => lv_ldcw C.1 C.2.1 C.2.2.2.1 (C.2.2.2.2.1 _ hw) hd (k p e s m args below meth c Q locs ls C hr hS hl)
theorem a_ldc2 {i : Nat} (v : Int64) (hw : Cond.constantLong own i v ∈ wsT) (hd : decode cc pc = .ok (.ldc2_w i, 3)) (k : AW G B l R own cc nL ini fin (pc + 3) lv (.long v :: st) H ce sl) : AW G B l R own cc nL ini fin pc lv st H ce sl := fun p e s m args below meth c Q locs ls C hr hS hl => lv_ldc2 C.1 C.2.1 C.2.2.2.1 (C.2.2.2.2.1 _ hw) hd (k p e s m args below meth c Q locs ls C hr hS hl)
theorem a_lconst {n : Fin 2} (v : Int64) (hd : decode cc pc = .ok (.lconst n, 1)) (hv : Int64.ofNat (n : Nat) = v := by decide) (k : AW G B l R own cc nL ini fin (pc + 1) lv (.long v :: st) H ce sl) : AW G B l R own cc nL ini fin pc lv st H ce sl := fun p e s m args below meth c Q locs ls C hr hS hl => lv_lconst C.1 C.2.1 hd hv (k p e s m args below meth c Q locs ls C hr hS hl)
theorem a_iload_n {j : Fin 4} {i : Nat} {x : Int32} (q : Nat) (hd : decode cc pc = .ok (.iload_n j, 1)) (hi : (j : Nat) = i) (hk : lv[q]? = some (i, .int x)) (k : AW G B l R own cc nL ini fin (pc + 1) lv (.int x :: st) H ce sl) : AW G B l R own cc nL ini fin pc lv st H ce sl := fun p e s m args below meth c Q locs ls C hr hS hl => lv_iload_n C.1 C.2.1 hd hi (lv_at hl q hk) (k p e s m args below meth c Q locs ls C hr hS hl)
theorem a_iload {i : Nat} {x : Int32} (q : Nat) (hd : decode cc pc = .ok (.iload i, 2)) (hk : lv[q]? = some (i, .int x)) (k : AW G B l R own cc nL ini fin (pc + 2) lv (.int x :: st) H ce sl) : AW G B l R own cc nL ini fin pc lv st H ce sl := fun p e s m args below meth c Q locs ls C hr hS hl => lv_iload C.1 C.2.1 hd (lv_at hl q hk) (k p e s m args below meth c Q locs ls C hr hS hl)
theorem a_lload_n {j : Fin 4} {i : Nat} {x : Int64} (q : Nat) (hd : decode cc pc = .ok (.lload_n j, 1)) (hi : (j : Nat) = i) (hk : lv[q]? = some (i, .long x)) (k : AW G B l R own cc nL ini fin (pc + 1) lv (.long x :: st) H ce sl) : AW G B l R own cc nL ini fin pc lv st H ce sl := fun p e s m args below meth c Q locs ls C hr hS hl => lv_lload_n C.1 C.2.1 hd hi (lv_at hl q hk) (k p e s m args below meth c Q locs ls C hr hS hl)
theorem a_lload {i : Nat} {x : Int64} (q : Nat) (hd : decode cc pc = .ok (.lload i, 2)) (hk : lv[q]? = some (i, .long x)) (k : AW G B l R own cc nL ini fin (pc + 2) lv (.long x :: st) H ce sl) : AW G B l R own cc nL ini fin pc lv st H ce sl := fun p e s m args below meth c Q locs ls C hr hS hl => lv_lload C.1 C.2.1 hd (lv_at hl q hk) (k p e s m args below meth c Q locs ls C hr hS hl)
theorem a_aload_n {j : Fin 4} {i : Nat} {x : Nat} (q : Nat) (hd : decode cc pc = .ok (.aload_n j, 1)) (hi : (j : Nat) = i) (hk : lv[q]? = some (i, .ref x)) (k : AW G B l R own cc nL ini fin (pc + 1) lv (.ref x :: st) H ce sl) : AW G B l R own cc nL ini fin pc lv st H ce sl := fun p e s m args below meth c Q locs ls C hr hS hl => lv_aload_n C.1 C.2.1 hd hi (lv_at hl q hk) (k p e s m args below meth c Q locs ls C hr hS hl)
theorem a_aload {i : Nat} {x : Nat} (q : Nat) (hd : decode cc pc = .ok (.aload i, 2)) (hk : lv[q]? = some (i, .ref x)) (k : AW G B l R own cc nL ini fin (pc + 2) lv (.ref x :: st) H ce sl) : AW G B l R own cc nL ini fin pc lv st H ce sl := fun p e s m args below meth c Q locs ls C hr hS hl => lv_aload C.1 C.2.1 hd (lv_at hl q hk) (k p e s m args below meth c Q locs ls C hr hS hl)
theorem a_istore_n {j : Fin 4} {i : Nat} {x : Int32} (hd : decode cc pc = .ok (.istore_n j, 1)) (hi : (j : Nat) = i) (hn : i < nL) (hs : (i, Value.int x) :: lv.filter (fun q => !(q.1 == i) && !(q.1 + 1 == i && q.2.category == 2)) = lv') (k : AW G B l R own cc nL ini fin (pc + 1) lv' st H ce sl) : AW G B l R own cc nL ini fin pc lv (.int x :: st) H ce sl := fun p e s m args below meth c Q locs ls C hr hS hl => lv_istore_n C.1 C.2.1 hd hi hl hn hs (fun ls' hl' => k p e s m args below meth c Q locs ls' C hr hS hl')
theorem a_istore {i : Nat} {x : Int32} (hd : decode cc pc = .ok (.istore i, 2)) (hn : i < nL) (hs : (i, Value.int x) :: lv.filter (fun q => !(q.1 == i) && !(q.1 + 1 == i && q.2.category == 2)) = lv') (k : AW G B l R own cc nL ini fin (pc + 2) lv' st H ce sl) : AW G B l R own cc nL ini fin pc lv (.int x :: st) H ce sl := fun p e s m args below meth c Q locs ls C hr hS hl => lv_istore C.1 C.2.1 hd hl hn hs (fun ls' hl' => k p e s m args below meth c Q locs ls' C hr hS hl')
theorem a_astore_n {j : Fin 4} {i : Nat} {x : Nat} (hd : decode cc pc = .ok (.astore_n j, 1)) (hi : (j : Nat) = i) (hn : i < nL) (hs : (i, Value.ref x) :: lv.filter (fun q => !(q.1 == i) && !(q.1 + 1 == i && q.2.category == 2)) = lv') (k : AW G B l R own cc nL ini fin (pc + 1) lv' st H ce sl) : AW G B l R own cc nL ini fin pc lv (.ref x :: st) H ce sl := fun p e s m args below meth c Q locs ls C hr hS hl => lv_astore_n C.1 C.2.1 hd hi hl hn hs (fun ls' hl' => k p e s m args below meth c Q locs ls' C hr hS hl')
theorem a_astore {i : Nat} {x : Nat} (hd : decode cc pc = .ok (.astore i, 2)) (hn : i < nL) (hs : (i, Value.ref x) :: lv.filter (fun q => !(q.1 == i) && !(q.1 + 1 == i && q.2.category == 2)) = lv') (k : AW G B l R own cc nL ini fin (pc + 2) lv' st H ce sl) : AW G B l R own cc nL ini fin pc lv (.ref x :: st) H ce sl := fun p e s m args below meth c Q locs ls C hr hS hl => lv_astore C.1 C.2.1 hd hl hn hs (fun ls' hl' => k p e s m args below meth c Q locs ls' C hr hS hl')
theorem a_lstore_n {j : Fin 4} {i : Nat} {x : Int64} (hd : decode cc pc = .ok (.lstore_n j, 1)) (hi : (j : Nat) = i) (hn : i + 1 < nL) (hs : (i, Value.long x) :: lv.filter (fun q => !(q.1 == i) && (!(q.1 == i + 1) && !(q.1 + 1 == i && q.2.category == 2))) = lv') (k : AW G B l R own cc nL ini fin (pc + 1) lv' st H ce sl) : AW G B l R own cc nL ini fin pc lv (.long x :: st) H ce sl := fun p e s m args below meth c Q locs ls C hr hS hl => lv_lstore_n C.1 C.2.1 hd hi hl hn hs (fun ls' hl' => k p e s m args below meth c Q locs ls' C hr hS hl')
theorem a_lstore {i : Nat} {x : Int64} (hd : decode cc pc = .ok (.lstore i, 2)) (hn : i + 1 < nL) (hs : (i, Value.long x) :: lv.filter (fun q => !(q.1 == i) && (!(q.1 == i + 1) && !(q.1 + 1 == i && q.2.category == 2))) = lv') (k : AW G B l R own cc nL ini fin (pc + 2) lv' st H ce sl) : AW G B l R own cc nL ini fin pc lv (.long x :: st) H ce sl := fun p e s m args below meth c Q locs ls C hr hS hl => lv_lstore C.1 C.2.1 hd hl hn hs (fun ls' hl' => k p e s m args below meth c Q locs ls' C hr hS hl')
theorem a_iinc {i q : Nat} {n : Int} {x y : Int32} (hd : decode cc pc = .ok (.iinc i n, 3)) (hk : lv[q]? = some (i, .int x)) (hv : Int32.ofInt n = y) (hn : i < nL) (hs : (i, Value.int (x + y)) :: lv.filter (fun q => !(q.1 == i) && !(q.1 + 1 == i && q.2.category == 2)) = lv') (k : AW G B l R own cc nL ini fin (pc + 3) lv' st H ce sl) : AW G B l R own cc nL ini fin pc lv st H ce sl := fun p e s m args below meth c Q locs ls C hr hS hl => lv_iinc C.1 C.2.1 hd hl hk (by rw [hv]) hn hs (fun ls' hl' => k p e s m args below meth c Q locs ls' C hr hS hl')
theorem a_iincN {i q a : Nat} (hd : decode cc pc = .ok (.iinc i 1, 3)) (hk : lv[q]? = some (i, .int (nI a))) (hn : i < nL) (hs : (i, Value.int (nI (a + 1))) :: lv.filter (fun q => !(q.1 == i) && !(q.1 + 1 == i && q.2.category == 2)) = lv') (k : AW G B l R own cc nL ini fin (pc + 3) lv' st H ce sl) : AW G B l R own cc nL ini fin pc lv st H ce sl := fun p e s m args below meth c Q locs ls C hr hS hl => lv_iinc C.1 C.2.1 hd hl hk (nI_1 a) hn hs (fun ls' hl' => k p e s m args below meth c Q locs ls' C hr hS hl')
theorem a_iadd {x y : Int32} (hd : decode cc pc = .ok (.iadd, 1)) (k : AW G B l R own cc nL ini fin (pc + 1) lv (.int (x + y) :: st) H ce sl) : AW G B l R own cc nL ini fin pc lv (.int y :: .int x :: st) H ce sl := fun p e s m args below meth c Q locs ls C hr hS hl => lv_iadd C.1 C.2.1 hd (k p e s m args below meth c Q locs ls C hr hS hl)
theorem a_isub {x y : Int32} (hd : decode cc pc = .ok (.isub, 1)) (k : AW G B l R own cc nL ini fin (pc + 1) lv (.int (x - y) :: st) H ce sl) : AW G B l R own cc nL ini fin pc lv (.int y :: .int x :: st) H ce sl := fun p e s m args below meth c Q locs ls C hr hS hl => lv_isub C.1 C.2.1 hd (k p e s m args below meth c Q locs ls C hr hS hl)
theorem a_imul {x y : Int32} (hd : decode cc pc = .ok (.imul, 1)) (k : AW G B l R own cc nL ini fin (pc + 1) lv (.int (x * y) :: st) H ce sl) : AW G B l R own cc nL ini fin pc lv (.int y :: .int x :: st) H ce sl := fun p e s m args below meth c Q locs ls C hr hS hl => lv_imul C.1 C.2.1 hd (k p e s m args below meth c Q locs ls C hr hS hl)
theorem a_iand {x y : Int32} (hd : decode cc pc = .ok (.iand, 1)) (k : AW G B l R own cc nL ini fin (pc + 1) lv (.int (x &&& y) :: st) H ce sl) : AW G B l R own cc nL ini fin pc lv (.int y :: .int x :: st) H ce sl := fun p e s m args below meth c Q locs ls C hr hS hl => lv_iand C.1 C.2.1 hd (k p e s m args below meth c Q locs ls C hr hS hl)
theorem a_ior {x y : Int32} (hd : decode cc pc = .ok (.ior, 1)) (k : AW G B l R own cc nL ini fin (pc + 1) lv (.int (x ||| y) :: st) H ce sl) : AW G B l R own cc nL ini fin pc lv (.int y :: .int x :: st) H ce sl := fun p e s m args below meth c Q locs ls C hr hS hl => lv_ior C.1 C.2.1 hd (k p e s m args below meth c Q locs ls C hr hS hl)
theorem a_idiv {x y : Int32} (hd : decode cc pc = .ok (.idiv, 1)) (hy : ¬ y = 0) (k : AW G B l R own cc nL ini fin (pc + 1) lv (.int (x / y) :: st) H ce sl) : AW G B l R own cc nL ini fin pc lv (.int y :: .int x :: st) H ce sl := fun p e s m args below meth c Q locs ls C hr hS hl => lv_idiv C.1 C.2.1 hd hy (k p e s m args below meth c Q locs ls C hr hS hl)
theorem a_ladd {x y : Int64} (hd : decode cc pc = .ok (.ladd, 1)) (k : AW G B l R own cc nL ini fin (pc + 1) lv (.long (x + y) :: st) H ce sl) : AW G B l R own cc nL ini fin pc lv (.long y :: .long x :: st) H ce sl := fun p e s m args below meth c Q locs ls C hr hS hl => lv_ladd C.1 C.2.1 hd (k p e s m args below meth c Q locs ls C hr hS hl)
theorem a_lmul {x y : Int64} (hd : decode cc pc = .ok (.lmul, 1)) (k : AW G B l R own cc nL ini fin (pc + 1) lv (.long (x * y) :: st) H ce sl) : AW G B l R own cc nL ini fin pc lv (.long y :: .long x :: st) H ce sl := fun p e s m args below meth c Q locs ls C hr hS hl => lv_lmul C.1 C.2.1 hd (k p e s m args below meth c Q locs ls C hr hS hl)
theorem a_ldiv {x y : Int64} (hd : decode cc pc = .ok (.ldiv, 1)) (hy : ¬ y = 0) (k : AW G B l R own cc nL ini fin (pc + 1) lv (.long (x / y) :: st) H ce sl) : AW G B l R own cc nL ini fin pc lv (.long y :: .long x :: st) H ce sl := fun p e s m args below meth c Q locs ls C hr hS hl => lv_ldiv C.1 C.2.1 hd hy (k p e s m args below meth c Q locs ls C hr hS hl)
theorem a_ishl {x y : Int32} (hd : decode cc pc = .ok (.ishl, 1)) (k : AW G B l R own cc nL ini fin (pc + 1) lv (.int (x <<< (y &&& 31)) :: st) H ce sl) : AW G B l R own cc nL ini fin pc lv (.int y :: .int x :: st) H ce sl := fun p e s m args below meth c Q locs ls C hr hS hl => lv_ishl C.1 C.2.1 hd (k p e s m args below meth c Q locs ls C hr hS hl)
theorem a_ishr {x y : Int32} (hd : decode cc pc = .ok (.ishr, 1)) (k : AW G B l R own cc nL ini fin (pc + 1) lv (.int (x >>> (y &&& 31)) :: st) H ce sl) : AW G B l R own cc nL ini fin pc lv (.int y :: .int x :: st) H ce sl := fun p e s m args below meth c Q locs ls C hr hS hl => lv_ishr C.1 C.2.1 hd (k p e s m args below meth c Q locs ls C hr hS hl)
theorem a_irem {x y : Int32} (hd : decode cc pc = .ok (.irem, 1)) (hy : ¬ y = 0) (k : AW G B l R own cc nL ini fin (pc + 1) lv (.int (x % y) :: st) H ce sl) : AW G B l R own cc nL ini fin pc lv (.int y :: .int x :: st) H ce sl := fun p e s m args below meth c Q locs ls C hr hS hl => lv_irem C.1 C.2.1 hd hy (by rw [irem_eq_mod]; exact k p e s m args below meth c Q locs ls C hr hS hl)
theorem a_lrem {x y : Int64} (hd : decode cc pc = .ok (.lrem, 1)) (hy : ¬ y = 0) (k : AW G B l R own cc nL ini fin (pc + 1) lv (.long (x - x / y * y) :: st) H ce sl) : AW G B l R own cc nL ini fin pc lv (.long y :: .long x :: st) H ce sl := fun p e s m args below meth c Q locs ls C hr hS hl => lv_lrem C.1 C.2.1 hd hy (k p e s m args below meth c Q locs ls C hr hS hl)
theorem a_ineg {x : Int32} (hd : decode cc pc = .ok (.ineg, 1)) (k : AW G B l R own cc nL ini fin (pc + 1) lv (.int (-x) :: st) H ce sl) : AW G B l R own cc nL ini fin pc lv (.int x :: st) H ce sl := fun p e s m args below meth c Q locs ls C hr hS hl => lv_ineg C.1 C.2.1 hd (k p e s m args below meth c Q locs ls C hr hS hl)
theorem a_i2l {x : Int32} (hd : decode cc pc = .ok (.i2l, 1)) (k : AW G B l R own cc nL ini fin (pc + 1) lv (.long x.toInt64 :: st) H ce sl) : AW G B l R own cc nL ini fin pc lv (.int x :: st) H ce sl := fun p e s m args below meth c Q locs ls C hr hS hl => lv_i2l C.1 C.2.1 hd rfl (k p e s m args below meth c Q locs ls C hr hS hl)
theorem a_l2i {x : Int64} (hd : decode cc pc = .ok (.l2i, 1)) (k : AW G B l R own cc nL ini fin (pc + 1) lv (.int x.toInt32 :: st) H ce sl) : AW G B l R own cc nL ini fin pc lv (.long x :: st) H ce sl := fun p e s m args below meth c Q locs ls C hr hS hl => lv_l2i C.1 C.2.1 hd rfl (k p e s m args below meth c Q locs ls C hr hS hl)
theorem a_iaddN {a b : Nat} (hd : decode cc pc = .ok (.iadd, 1)) (k : AW G B l R own cc nL ini fin (pc + 1) lv (.int (nI (a + b)) :: st) H ce sl) : AW G B l R own cc nL ini fin pc lv (.int (nI b) :: .int (nI a) :: st) H ce sl := fun p e s m args below meth c Q locs ls C hr hS hl => lv_iadd C.1 C.2.1 hd (by rw [nI_add]; exact k p e s m args below meth c Q locs ls C hr hS hl)
theorem a_imulN {a b : Nat} (hd : decode cc pc = .ok (.imul, 1)) (k : AW G B l R own cc nL ini fin (pc + 1) lv (.int (nI (a * b)) :: st) H ce sl) : AW G B l R own cc nL ini fin pc lv (.int (nI b) :: .int (nI a) :: st) H ce sl := fun p e s m args below meth c Q locs ls C hr hS hl => lv_imul C.1 C.2.1 hd (by rw [pk_mul]; exact k p e s m args below meth c Q locs ls C hr hS hl)
theorem a_isubN {a b : Nat} (hd : decode cc pc = .ok (.isub, 1)) (hab : b ≤ a) (k : AW G B l R own cc nL ini fin (pc + 1) lv (.int (nI (a - b)) :: st) H ce sl) : AW G B l R own cc nL ini fin pc lv (.int (nI b) :: .int (nI a) :: st) H ce sl := fun p e s m args below meth c Q locs ls C hr hS hl => lv_isub C.1 C.2.1 hd (by rw [pk_sub hab]; exact k p e s m args below meth c Q locs ls C hr hS hl)
theorem a_topi {x : Int32}  (k : ∀ y : Int32, y = x → AW G B l R own cc nL ini fin pc lv (.int y :: st) H ce sl) : AW G B l R own cc nL ini fin pc lv (.int x :: st) H ce sl := fun p e s m args below meth c Q locs ls C hr hS hl => k x rfl p e s m args below meth c Q locs ls C hr hS hl
theorem a_toeq {x : Int32} (y : Int32) (h : x = y) (k : AW G B l R own cc nL ini fin pc lv (.int y :: st) H ce sl) : AW G B l R own cc nL ini fin pc lv (.int x :: st) H ce sl := fun p e s m args below meth c Q locs ls C hr hS hl => (by rw [h]; exact k p e s m args below meth c Q locs ls C hr hS hl)
theorem a_toeql {x : Int64} (y : Int64) (h : x = y) (k : AW G B l R own cc nL ini fin pc lv (.long y :: st) H ce sl) : AW G B l R own cc nL ini fin pc lv (.long x :: st) H ce sl := fun p e s m args below meth c Q locs ls C hr hS hl => (by rw [h]; exact k p e s m args below meth c Q locs ls C hr hS hl)
theorem a_dup {v : Value} (hd : decode cc pc = .ok (.dup, 1)) (hv : v.category = 1) (k : AW G B l R own cc nL ini fin (pc + 1) lv (v :: v :: st) H ce sl) : AW G B l R own cc nL ini fin pc lv (v :: st) H ce sl := fun p e s m args below meth c Q locs ls C hr hS hl => lv_dup C.1 C.2.1 hd hv (k p e s m args below meth c Q locs ls C hr hS hl)
theorem a_pop {v : Value} (hd : decode cc pc = .ok (.pop, 1)) (hv : v.category = 1) (k : AW G B l R own cc nL ini fin (pc + 1) lv st H ce sl) : AW G B l R own cc nL ini fin pc lv (v :: st) H ce sl := fun p e s m args below meth c Q locs ls C hr hS hl => lv_pop C.1 C.2.1 hd hv (k p e s m args below meth c Q locs ls C hr hS hl)
theorem a_dup2 {v w : Value} (hd : decode cc pc = .ok (.dup2, 1)) (hv : v.category = 1) (hw : w.category = 1) (k : AW G B l R own cc nL ini fin (pc + 1) lv (v :: w :: v :: w :: st) H ce sl) : AW G B l R own cc nL ini fin pc lv (v :: w :: st) H ce sl := fun p e s m args below meth c Q locs ls C hr hS hl => lv_dup2_11 C.1 C.2.1 hd hv hw (k p e s m args below meth c Q locs ls C hr hS hl)
theorem a_goto {off : Int} (tgt : Nat) (hd : decode cc pc = .ok (.goto off, 3)) (ht : (pc : Int) + off = (tgt : Int)) (k : AW G B l R own cc nL ini fin tgt lv st H ce sl) : AW G B l R own cc nL ini fin pc lv st H ce sl := fun p e s m args below meth c Q locs ls C hr hS hl => lv_goto C.1 C.2.1 hd ht (k p e s m args below meth c Q locs ls C hr hS hl)
theorem a_ifeq {x : Int32} {off : Int} (tgt : Nat) (hd : decode cc pc = .ok (.ifCond .eq off, 3)) (ht : (pc : Int) + off = (tgt : Int)) (kt : x = 0 → AW G B l R own cc nL ini fin tgt lv st H ce sl) (kf : ¬ x = 0 → AW G B l R own cc nL ini fin (pc + 3) lv st H ce sl) : AW G B l R own cc nL ini fin pc lv (.int x :: st) H ce sl := fun p e s m args below meth c Q locs ls C hr hS hl => lv_if_eq C.1 C.2.1 hd ht (fun hc => kt hc p e s m args below meth c Q locs ls C hr hS hl) (fun hc => kf hc p e s m args below meth c Q locs ls C hr hS hl)
theorem a_ifne {x : Int32} {off : Int} (tgt : Nat) (hd : decode cc pc = .ok (.ifCond .ne off, 3)) (ht : (pc : Int) + off = (tgt : Int)) (kt : ¬ x = 0 → AW G B l R own cc nL ini fin tgt lv st H ce sl) (kf : x = 0 → AW G B l R own cc nL ini fin (pc + 3) lv st H ce sl) : AW G B l R own cc nL ini fin pc lv (.int x :: st) H ce sl := fun p e s m args below meth c Q locs ls C hr hS hl => lv_if_ne C.1 C.2.1 hd ht (fun hc => kt hc p e s m args below meth c Q locs ls C hr hS hl) (fun hc => kf hc p e s m args below meth c Q locs ls C hr hS hl)
theorem a_iflt {x : Int32} {off : Int} (tgt : Nat) (hd : decode cc pc = .ok (.ifCond .lt off, 3)) (ht : (pc : Int) + off = (tgt : Int)) (kt : x < 0 → AW G B l R own cc nL ini fin tgt lv st H ce sl) (kf : ¬ x < 0 → AW G B l R own cc nL ini fin (pc + 3) lv st H ce sl) : AW G B l R own cc nL ini fin pc lv (.int x :: st) H ce sl := fun p e s m args below meth c Q locs ls C hr hS hl => lv_if_lt C.1 C.2.1 hd ht (fun hc => kt hc p e s m args below meth c Q locs ls C hr hS hl) (fun hc => kf hc p e s m args below meth c Q locs ls C hr hS hl)
theorem a_ifge {x : Int32} {off : Int} (tgt : Nat) (hd : decode cc pc = .ok (.ifCond .ge off, 3)) (ht : (pc : Int) + off = (tgt : Int)) (kt : 0 ≤ x → AW G B l R own cc nL ini fin tgt lv st H ce sl) (kf : ¬ 0 ≤ x → AW G B l R own cc nL ini fin (pc + 3) lv st H ce sl) : AW G B l R own cc nL ini fin pc lv (.int x :: st) H ce sl := fun p e s m args below meth c Q locs ls C hr hS hl => lv_if_ge C.1 C.2.1 hd ht (fun hc => kt hc p e s m args below meth c Q locs ls C hr hS hl) (fun hc => kf hc p e s m args below meth c Q locs ls C hr hS hl)
theorem a_ifgt {x : Int32} {off : Int} (tgt : Nat) (hd : decode cc pc = .ok (.ifCond .gt off, 3)) (ht : (pc : Int) + off = (tgt : Int)) (kt : 0 < x → AW G B l R own cc nL ini fin tgt lv st H ce sl) (kf : ¬ 0 < x → AW G B l R own cc nL ini fin (pc + 3) lv st H ce sl) : AW G B l R own cc nL ini fin pc lv (.int x :: st) H ce sl := fun p e s m args below meth c Q locs ls C hr hS hl => lv_if_gt C.1 C.2.1 hd ht (fun hc => kt hc p e s m args below meth c Q locs ls C hr hS hl) (fun hc => kf hc p e s m args below meth c Q locs ls C hr hS hl)
theorem a_ifle {x : Int32} {off : Int} (tgt : Nat) (hd : decode cc pc = .ok (.ifCond .le off, 3)) (ht : (pc : Int) + off = (tgt : Int)) (kt : x ≤ 0 → AW G B l R own cc nL ini fin tgt lv st H ce sl) (kf : ¬ x ≤ 0 → AW G B l R own cc nL ini fin (pc + 3) lv st H ce sl) : AW G B l R own cc nL ini fin pc lv (.int x :: st) H ce sl := fun p e s m args below meth c Q locs ls C hr hS hl => lv_if_le C.1 C.2.1 hd ht (fun hc => kt hc p e s m args below meth c Q locs ls C hr hS hl) (fun hc => kf hc p e s m args below meth c Q locs ls C hr hS hl)
theorem a_icmpeq {x y : Int32} {off : Int} (tgt : Nat) (hd : decode cc pc = .ok (.if_icmp .eq off, 3)) (ht : (pc : Int) + off = (tgt : Int)) (kt : x = y → AW G B l R own cc nL ini fin tgt lv st H ce sl) (kf : ¬ x = y → AW G B l R own cc nL ini fin (pc + 3) lv st H ce sl) : AW G B l R own cc nL ini fin pc lv (.int y :: .int x :: st) H ce sl := fun p e s m args below meth c Q locs ls C hr hS hl => lv_icmp_eq C.1 C.2.1 hd ht (fun hc => kt hc p e s m args below meth c Q locs ls C hr hS hl) (fun hc => kf hc p e s m args below meth c Q locs ls C hr hS hl)
theorem a_icmpne {x y : Int32} {off : Int} (tgt : Nat) (hd : decode cc pc = .ok (.if_icmp .ne off, 3)) (ht : (pc : Int) + off = (tgt : Int)) (kt : ¬ x = y → AW G B l R own cc nL ini fin tgt lv st H ce sl) (kf : x = y → AW G B l R own cc nL ini fin (pc + 3) lv st H ce sl) : AW G B l R own cc nL ini fin pc lv (.int y :: .int x :: st) H ce sl := fun p e s m args below meth c Q locs ls C hr hS hl => lv_icmp_ne C.1 C.2.1 hd ht (fun hc => kt hc p e s m args below meth c Q locs ls C hr hS hl) (fun hc => kf hc p e s m args below meth c Q locs ls C hr hS hl)
theorem a_icmplt {x y : Int32} {off : Int} (tgt : Nat) (hd : decode cc pc = .ok (.if_icmp .lt off, 3)) (ht : (pc : Int) + off = (tgt : Int)) (kt : x < y → AW G B l R own cc nL ini fin tgt lv st H ce sl) (kf : ¬ x < y → AW G B l R own cc nL ini fin (pc + 3) lv st H ce sl) : AW G B l R own cc nL ini fin pc lv (.int y :: .int x :: st) H ce sl := fun p e s m args below meth c Q locs ls C hr hS hl => lv_icmp_lt C.1 C.2.1 hd ht (fun hc => kt hc p e s m args below meth c Q locs ls C hr hS hl) (fun hc => kf hc p e s m args below meth c Q locs ls C hr hS hl)
theorem a_icmpge {x y : Int32} {off : Int} (tgt : Nat) (hd : decode cc pc = .ok (.if_icmp .ge off, 3)) (ht : (pc : Int) + off = (tgt : Int)) (kt : y ≤ x → AW G B l R own cc nL ini fin tgt lv st H ce sl) (kf : ¬ y ≤ x → AW G B l R own cc nL ini fin (pc + 3) lv st H ce sl) : AW G B l R own cc nL ini fin pc lv (.int y :: .int x :: st) H ce sl := fun p e s m args below meth c Q locs ls C hr hS hl => lv_icmp_ge C.1 C.2.1 hd ht (fun hc => kt hc p e s m args below meth c Q locs ls C hr hS hl) (fun hc => kf hc p e s m args below meth c Q locs ls C hr hS hl)
theorem a_icmpgt {x y : Int32} {off : Int} (tgt : Nat) (hd : decode cc pc = .ok (.if_icmp .gt off, 3)) (ht : (pc : Int) + off = (tgt : Int)) (kt : y < x → AW G B l R own cc nL ini fin tgt lv st H ce sl) (kf : ¬ y < x → AW G B l R own cc nL ini fin (pc + 3) lv st H ce sl) : AW G B l R own cc nL ini fin pc lv (.int y :: .int x :: st) H ce sl := fun p e s m args below meth c Q locs ls C hr hS hl => lv_icmp_gt C.1 C.2.1 hd ht (fun hc => kt hc p e s m args below meth c Q locs ls C hr hS hl) (fun hc => kf hc p e s m args below meth c Q locs ls C hr hS hl)
theorem a_icmple {x y : Int32} {off : Int} (tgt : Nat) (hd : decode cc pc = .ok (.if_icmp .le off, 3)) (ht : (pc : Int) + off = (tgt : Int)) (kt : x ≤ y → AW G B l R own cc nL ini fin tgt lv st H ce sl) (kf : ¬ x ≤ y → AW G B l R own cc nL ini fin (pc + 3) lv st H ce sl) : AW G B l R own cc nL ini fin pc lv (.int y :: .int x :: st) H ce sl := fun p e s m args below meth c Q locs ls C hr hS hl => lv_icmp_le C.1 C.2.1 hd ht (fun hc => kt hc p e s m args below meth c Q locs ls C hr hS hl) (fun hc => kf hc p e s m args below meth c Q locs ls C hr hS hl)
theorem a_icmpeqN {a b : Nat} {off : Int} (tgt : Nat) (hd : decode cc pc = .ok (.if_icmp .eq off, 3)) (ht : (pc : Int) + off = (tgt : Int)) (ha : a < 2 ^ 31) (hb : b < 2 ^ 31) (kt : a = b → AW G B l R own cc nL ini fin tgt lv st H ce sl) (kf : a ≠ b → AW G B l R own cc nL ini fin (pc + 3) lv st H ce sl) : AW G B l R own cc nL ini fin pc lv (.int (nI b) :: .int (nI a) :: st) H ce sl := fun p e s m args below meth c Q locs ls C hr hS hl => lv_icmp_eq C.1 C.2.1 hd ht (fun hc => kt ((nI_eq ha hb).mp hc) p e s m args below meth c Q locs ls C hr hS hl) (fun hc => kf (fun h => hc ((nI_eq ha hb).mpr h)) p e s m args below meth c Q locs ls C hr hS hl)
theorem a_icmpneN {a b : Nat} {off : Int} (tgt : Nat) (hd : decode cc pc = .ok (.if_icmp .ne off, 3)) (ht : (pc : Int) + off = (tgt : Int)) (ha : a < 2 ^ 31) (hb : b < 2 ^ 31) (kt : a ≠ b → AW G B l R own cc nL ini fin tgt lv st H ce sl) (kf : a = b → AW G B l R own cc nL ini fin (pc + 3) lv st H ce sl) : AW G B l R own cc nL ini fin pc lv (.int (nI b) :: .int (nI a) :: st) H ce sl := fun p e s m args below meth c Q locs ls C hr hS hl => lv_icmp_ne C.1 C.2.1 hd ht (fun hc => kt (fun h => hc ((nI_eq ha hb).mpr h)) p e s m args below meth c Q locs ls C hr hS hl) (fun hc => kf ((nI_eq ha hb).mp hc) p e s m args below meth c Q locs ls C hr hS hl)
theorem a_icmpltN {a b : Nat} {off : Int} (tgt : Nat) (hd : decode cc pc = .ok (.if_icmp .lt off, 3)) (ht : (pc : Int) + off = (tgt : Int)) (ha : a < 2 ^ 31) (hb : b < 2 ^ 31) (kt : a < b → AW G B l R own cc nL ini fin tgt lv st H ce sl) (kf : b ≤ a → AW G B l R own cc nL ini fin (pc + 3) lv st H ce sl) : AW G B l R own cc nL ini fin pc lv (.int (nI b) :: .int (nI a) :: st) H ce sl := fun p e s m args below meth c Q locs ls C hr hS hl => lv_icmp_lt C.1 C.2.1 hd ht (fun hc => kt ((nI_ltI ha hb).mp hc) p e s m args below meth c Q locs ls C hr hS hl) (fun hc => kf (Nat.not_lt.mp fun h => hc ((nI_ltI ha hb).mpr h)) p e s m args below meth c Q locs ls C hr hS hl)
theorem a_icmpgeN {a b : Nat} {off : Int} (tgt : Nat) (hd : decode cc pc = .ok (.if_icmp .ge off, 3)) (ht : (pc : Int) + off = (tgt : Int)) (ha : a < 2 ^ 31) (hb : b < 2 ^ 31) (kt : b ≤ a → AW G B l R own cc nL ini fin tgt lv st H ce sl) (kf : a < b → AW G B l R own cc nL ini fin (pc + 3) lv st H ce sl) : AW G B l R own cc nL ini fin pc lv (.int (nI b) :: .int (nI a) :: st) H ce sl := fun p e s m args below meth c Q locs ls C hr hS hl => lv_icmp_ge C.1 C.2.1 hd ht (fun hc => kt ((nI_leI hb ha).mp hc) p e s m args below meth c Q locs ls C hr hS hl) (fun hc => kf (Nat.not_le.mp fun h => hc ((nI_leI hb ha).mpr h)) p e s m args below meth c Q locs ls C hr hS hl)
theorem a_icmpgtN {a b : Nat} {off : Int} (tgt : Nat) (hd : decode cc pc = .ok (.if_icmp .gt off, 3)) (ht : (pc : Int) + off = (tgt : Int)) (ha : a < 2 ^ 31) (hb : b < 2 ^ 31) (kt : b < a → AW G B l R own cc nL ini fin tgt lv st H ce sl) (kf : a ≤ b → AW G B l R own cc nL ini fin (pc + 3) lv st H ce sl) : AW G B l R own cc nL ini fin pc lv (.int (nI b) :: .int (nI a) :: st) H ce sl := fun p e s m args below meth c Q locs ls C hr hS hl => lv_icmp_gt C.1 C.2.1 hd ht (fun hc => kt ((nI_ltI hb ha).mp hc) p e s m args below meth c Q locs ls C hr hS hl) (fun hc => kf (Nat.not_lt.mp fun h => hc ((nI_ltI hb ha).mpr h)) p e s m args below meth c Q locs ls C hr hS hl)
theorem a_icmpleN {a b : Nat} {off : Int} (tgt : Nat) (hd : decode cc pc = .ok (.if_icmp .le off, 3)) (ht : (pc : Int) + off = (tgt : Int)) (ha : a < 2 ^ 31) (hb : b < 2 ^ 31) (kt : a ≤ b → AW G B l R own cc nL ini fin tgt lv st H ce sl) (kf : b < a → AW G B l R own cc nL ini fin (pc + 3) lv st H ce sl) : AW G B l R own cc nL ini fin pc lv (.int (nI b) :: .int (nI a) :: st) H ce sl := fun p e s m args below meth c Q locs ls C hr hS hl => lv_icmp_le C.1 C.2.1 hd ht (fun hc => kt ((nI_leI ha hb).mp hc) p e s m args below meth c Q locs ls C hr hS hl) (fun hc => kf (Nat.not_le.mp fun h => hc ((nI_leI ha hb).mpr h)) p e s m args below meth c Q locs ls C hr hS hl)
theorem a_ifeqB {b : Bool} {off : Int} (tgt : Nat) (hd : decode cc pc = .ok (.ifCond .eq off, 3)) (ht : (pc : Int) + off = (tgt : Int)) (kt : b = false → AW G B l R own cc nL ini fin tgt lv st H ce sl) (kf : b = true → AW G B l R own cc nL ini fin (pc + 3) lv st H ce sl) : AW G B l R own cc nL ini fin pc lv (.int (bI b) :: st) H ce sl := fun p e s m args below meth c Q locs ls C hr hS hl => lv_if_eq C.1 C.2.1 hd ht (fun hc => kt (bI_zero.mp hc) p e s m args below meth c Q locs ls C hr hS hl) (fun hc => kf (Bool.not_eq_false _ |>.mp fun h => hc (bI_zero.mpr h)) p e s m args below meth c Q locs ls C hr hS hl)
theorem a_ifneB {b : Bool} {off : Int} (tgt : Nat) (hd : decode cc pc = .ok (.ifCond .ne off, 3)) (ht : (pc : Int) + off = (tgt : Int)) (kt : b = true → AW G B l R own cc nL ini fin tgt lv st H ce sl) (kf : b = false → AW G B l R own cc nL ini fin (pc + 3) lv st H ce sl) : AW G B l R own cc nL ini fin pc lv (.int (bI b) :: st) H ce sl := fun p e s m args below meth c Q locs ls C hr hS hl => lv_if_ne C.1 C.2.1 hd ht (fun hc => kt (Bool.not_eq_false _ |>.mp fun h => hc (bI_zero.mpr h)) p e s m args below meth c Q locs ls C hr hS hl) (fun hc => kf (bI_zero.mp hc) p e s m args below meth c Q locs ls C hr hS hl)
theorem a_tabOut {dflt lo hi : Int} {offs : Array Int} {len : Nat} {x : Int32} (tgt : Nat) (hd : decode cc pc = .ok (.tableswitch dflt lo hi offs, len)) (h : x.toInt < lo ∨ hi < x.toInt) (ht : (pc : Int) + dflt = (tgt : Int)) (k : AW G B l R own cc nL ini fin tgt lv st H ce sl) : AW G B l R own cc nL ini fin pc lv (.int x :: st) H ce sl := fun p e s m args below meth c Q locs ls C hr hS hl => lv_tableOut C.1 C.2.1 hd h ht (k p e s m args below meth c Q locs ls C hr hS hl)
theorem a_tabIn {dflt lo hi off : Int} {offs : Array Int} {len : Nat} {x : Int32} (tgt : Nat) (hd : decode cc pc = .ok (.tableswitch dflt lo hi offs, len)) (h1 : ¬ x.toInt < lo) (h2 : ¬ hi < x.toInt) (ho : offs[(x.toInt - lo).toNat]? = some off) (ht : (pc : Int) + off = (tgt : Int)) (k : AW G B l R own cc nL ini fin tgt lv st H ce sl) : AW G B l R own cc nL ini fin pc lv (.int x :: st) H ce sl := fun p e s m args below meth c Q locs ls C hr hS hl => lv_tableIn C.1 C.2.1 hd h1 h2 ho ht (k p e s m args below meth c Q locs ls C hr hS hl)
/-- a field's place: class, slot; and the pool entry of the method's class that names it -/
def FL (own : String) (idx ci f : Nat) : Prop := ∃ (C : String) (T : u_T) (N : Nat), vwCl[ci]? = some (C, T, N) ∧ f < N ∧ (∀ w ∈ u_ws C T N, w ∈ wsT) ∧ (Cond.fieldLink own idx (T f).1 (T f).2.1 (T f).2.2.1 ∈ wsT ∨ ∃ host : String, Cond.fieldLinkNest own idx (T f).1 (T f).2.1 (T f).2.2.1 host ∈ nsW)
/-- and what may be put there -/
def FP (own : String) (idx ci f : Nat) (ty : FieldType) (ini : Bool) : Prop := ∃ (C : String) (T : u_T) (N : Nat) (ty0 : Nat → FieldType), vwCl[ci]? = some (C, T, N) ∧ (∀ k, k < N → parseFieldDescriptor (T k).2.2.1 = some (ty0 k)) ∧ (∀ a, a < N → ∀ b, b < N → a ≠ b → (T a).2.1 ≠ (T b).2.1) ∧ parseFieldDescriptor (T f).2.2.1 = some ty ∧ ((T f).2.2.2 = false ∨ ((T f).2.2.2 = true ∧ ini = true ∧ (T f).1 = own ∧ Cond.fieldLink own idx (T f).1 (T f).2.1 (T f).2.2.1 ∈ wsT))
theorem a_get {idx a ci f : Nat} {fs : List Value} {v : Value} (hf : FL own idx ci f) (hd : decode cc pc = .ok (.getfield idx, 3)) (ho : Ob G H a ci fs) (hv : fs[f]? = some v) (k : AW G B l R own cc nL ini fin (pc + 3) lv (v :: st) H ce sl) : AW G B l R own cc nL ini fin pc lv (.ref a :: st) H ce sl := by
  intro p e s m args below meth c Q locs ls C hr hS hl
  obtain ⟨C0, T, N, h1, h2, h3, h4⟩ := hf
  have hP1 : va_P G.1 vwCl [(a, .inr (ci, fs))] H := fun j q hq => by
    cases j with
    | zero => cases hq; exact ho
    | succ j => simp at hq
  rcases h4 with h4 | ⟨host, h4⟩
  · exact va_get (ws := [(a, .inr (ci, fs))]) C.1 C.2.1 C.2.2.2.2.1 h3 C.2.2.2.1 C.2.2.2.2.2.1.1 hP1 0 rfl h1 f h2 (C.2.2.2.2.1 _ h4) (fun _ h => h) hv hd (k p e s m args below meth c Q locs ls C hr hS hl)
  · exact va_getN (ws := [(a, .inr (ci, fs))]) C.1 C.2.1 C.2.2.2.2.1 h3 C.2.2.2.1 C.2.2.2.2.2.1.1 hP1 0 rfl h1 f h2 (va_Nw.use rfl (C.2.2.2.2.2.1.2.2.2 _ h4)) (fun _ h => h) hv hd (k p e s m args below meth c Q locs ls C hr hS hl)
theorem a_put {idx a ci f : Nat} {fs : List Value} {v : Value} {ty : FieldType} (hf : FL own idx ci f) (hp : FP own idx ci f ty ini) (hd : decode cc pc = .ok (.putfield idx, 3)) (ho : Ob G H a ci fs) (hfs : f < fs.length) (hn : narrow ty v = v) (hfit : fits ty v = true) (hB : B ≤ a)
    (k : ∀ H1 : Heap, Ob G H1 a ci (fs.set f v) → H1.size = H.size → (∀ q, q ≠ a → H1[q]? = H[q]?) → AW G B l R own cc nL ini fin (pc + 3) lv st H1 ce sl) : AW G B l R own cc nL ini fin pc lv (v :: .ref a :: st) H ce sl := by
  intro p e s m args below meth c Q locs ls C hr hS hl
  obtain ⟨C0, T, N, hc, hk, hin, hlink⟩ := hf
  obtain ⟨C1, T1, N1, ty0, hc1, hty, hnm, hdd, hfin⟩ := hp
  cases hc.symm.trans hc1
  have hts := C.2.2.2.2.1
  have hK := C.2.2.2.2.2.1.1
  have hap := va_apart (own := own) hts hin ty0 hty hnm hK hc
  obtain ⟨r, h1, cell, q1, q2, q3, q4⟩ := ho
  have hr' : r = (C0, T, N) := Option.some.inj (h1.symm.trans hc)
  subst hr'
  obtain ⟨hSl, hfc, kC, hkC, hkind⟩ := hK.1 ci _ hc
  obtain ⟨cf, kf, fi, fd, hi, hsl⟩ := hSl f hk
  have hst := (u_facts hfc hkC (u_lays hts hin hk) hi).1
  have hlay := hts _ (hin _ (u_in_lay hk))
  unfold u_lay at hlay
  rcases hfin with hfin | ⟨hfin, hini, hdecl, hlink⟩
  · rw [if_neg (by rw [hfin]; decide)] at hlay
    have h6 := u_store hfc hkC hkind hlay hi hdd hn hfit
    rcases hlink with hlink | ⟨host, hlink⟩
    · refine W.putK C.1 C.2.1 (f := fd) ⟨C.2.2.2.1, hts _ hlink, ⟨_, _, _, hi⟩, hst⟩ (by rw [q2]; exact h6) q1 q3 (by rw [hsl]; exact k2_hasslot (q4 f hk)) rfl rfl hd fun H' e1 e2 e3 => ?_
      rw [hsl] at e1 ⊢
      exact k H' ⟨_, hc, t_OB.to (V := updV (vp_V fs) f v) ⟨_, e1, q2, q3, t_set q4 hap hk v⟩ (fun j _ => vp_updV_set hfs v j)⟩ e2 e3 p e s m args below meth c Q _ ls C hr (hS.put e2 e3 hB) hl
    · refine va_WputK C.1 C.2.1 (f := fd) C.2.2.2.1 (va_Nw.use rfl (C.2.2.2.2.2.1.2.2.2 _ hlink)) hi hst (by rw [q2]; exact h6) q1 q3 (by rw [hsl]; exact k2_hasslot (q4 f hk)) rfl rfl hd fun H' e1 e2 e3 => ?_
      rw [hsl] at e1 ⊢
      exact k H' ⟨_, hc, t_OB.to (V := updV (vp_V fs) f v) ⟨_, e1, q2, q3, t_set q4 hap hk v⟩ (fun j _ => vp_updV_set hfs v j)⟩ e2 e3 p e s m args below meth c Q _ ls C hr (hS.put e2 e3 hB) hl
  · rw [if_pos hfin] at hlay
    have hcf : m.cls = cf := by
      obtain ⟨_, _, c', _, _, _, -, -, hf', -, -, -, hown2, -⟩ := Cond.laysFinal_spec hlay
      have e1 : c' = cf := by have := hi.symm.trans hf'; simp at this; exact this.1.symm
      rw [hdecl] at hown2
      rw [← e1]; exact Option.some.inj (C.2.2.2.1.symm.trans hown2)
    have h6 := u_fits hfc hkC hkind (Or.inr hlay) hi hdd hn hfit
    refine W.putFinK C.1 C.2.1 C.2.2.2.1 (hts _ hlink) hi hst hcf (C.2.2.2.2.2.2.1 hini) (by rw [q2]; exact h6) q1 q3 (by rw [hsl]; exact k2_hasslot (q4 f hk)) rfl rfl hd fun H' e1 e2 e3 => ?_
    rw [hsl] at e1 ⊢
    exact k H' ⟨_, hc, t_OB.to (V := updV (vp_V fs) f v) ⟨_, e1, q2, q3, t_set q4 hap hk v⟩ (fun j _ => vp_updV_set hfs v j)⟩ e2 e3 p e s m args below meth c Q _ ls C hr (hS.put e2 e3 hB) hl

theorem a_iald {a n : Nat} {f : Nat → Int32} {i : Int32} (hd : decode cc pc = .ok (.iaload, 1)) (ho : Ai G H a n f) (hi : vp_in i n) (k : AW G B l R own cc nL ini fin (pc + 1) lv (.int (f i.toNatClampNeg) :: st) H ce sl) : AW G B l R own cc nL ini fin pc lv (.int i :: .ref a :: st) H ce sl := by
  intro p e s m args below meth c Q locs ls C hr hS hl
  have hlt : i.toNatClampNeg < n := Nat.not_le.mp fun q => hi (Or.inr q)
  exact W.iald (v := .int (f i.toNatClampNeg)) C.1 C.2.1 ho ((C.2.2.2.2.2.1.1.2 0 _ rfl).1 n (fun j => .int (f j))) (fun q => by cases q) (by show ¬ (i < 0 ∨ (arrV _ _ _).slots.size ≤ _); rw [arrV_size]; exact hi) (by show (arrV _ _ _).slots[_]? = _; rw [arrV_read _ _ hlt]) rfl rfl hd (k p e s m args below meth c Q locs ls C hr hS hl)
theorem a_lald {a n : Nat} {f : Nat → Int64} {i : Int32} (hd : decode cc pc = .ok (.laload, 1)) (ho : Al G H a n f) (hi : vp_in i n) (k : AW G B l R own cc nL ini fin (pc + 1) lv (.long (f i.toNatClampNeg) :: st) H ce sl) : AW G B l R own cc nL ini fin pc lv (.int i :: .ref a :: st) H ce sl := by
  intro p e s m args below meth c Q locs ls C hr hS hl
  have hlt : i.toNatClampNeg < n := Nat.not_le.mp fun q => hi (Or.inr q)
  exact W.lald (v := .long (f i.toNatClampNeg)) C.1 C.2.1 ho ((C.2.2.2.2.2.1.1.2 1 _ rfl).1 n (fun j => .long (f j))) (fun q => by cases q) (by show ¬ (i < 0 ∨ (arrV _ _ _).slots.size ≤ _); rw [arrV_size]; exact hi) (by show (arrV _ _ _).slots[_]? = _; rw [arrV_read _ _ hlt]) rfl rfl hd (k p e s m args below meth c Q locs ls C hr hS hl)
theorem a_zald {a n : Nat} {f : Nat → Int32} {i : Int32} (hd : decode cc pc = .ok (.baload, 1)) (ho : Az G H a n f) (hi : vp_in i n) (k : AW G B l R own cc nL ini fin (pc + 1) lv (.int (f i.toNatClampNeg) :: st) H ce sl) : AW G B l R own cc nL ini fin pc lv (.int i :: .ref a :: st) H ce sl := by
  intro p e s m args below meth c Q locs ls C hr hS hl
  have hlt : i.toNatClampNeg < n := Nat.not_le.mp fun q => hi (Or.inr q)
  exact W.zald (v := .int (f i.toNatClampNeg)) C.1 C.2.1 ho ((C.2.2.2.2.2.1.1.2 2 _ rfl).1 n (fun j => .int (f j))) (fun q => by cases q) (by show ¬ (i < 0 ∨ (arrV _ _ _).slots.size ≤ _); rw [arrV_size]; exact hi) (by show (arrV _ _ _).slots[_]? = _; rw [arrV_read _ _ hlt]) rfl rfl hd (k p e s m args below meth c Q locs ls C hr hS hl)
theorem a_ialdN {a n j : Nat} {f : Nat → Int32} (hd : decode cc pc = .ok (.iaload, 1)) (ho : Ai G H a n f) (hj : j < n) (hn : n < 2 ^ 31) (k : AW G B l R own cc nL ini fin (pc + 1) lv (.int (f j) :: st) H ce sl) : AW G B l R own cc nL ini fin pc lv (.int (nI j) :: .ref a :: st) H ce sl :=
  a_iald hd ho (vp_in_nI hj hn) (by rw [nI_clamp (Nat.lt_trans hj hn)]; exact k)
theorem a_aald {a n t j x : Nat} {C0 : String} {f : Nat → Option Nat} (ht : ∀ G : GT, (aTys G)[t]? = some (G.2 t, .object C0)) (hd : decode cc pc = .ok (.aaload, 1)) (ho : Aq G H a t n f) (hj : j < n) (hn : n < 2 ^ 31) (hx : f j = some x) (k : AW G B l R own cc nL ini fin (pc + 1) lv (.ref x :: st) H ce sl) : AW G B l R own cc nL ini fin pc lv (.int (nI j) :: .ref a :: st) H ce sl := by
  intro p e s m args below meth c Q locs ls C hr hS hl
  have hi := vp_in_nI hj hn
  have hlt : (nI j).toNatClampNeg < n := Nat.not_le.mp fun q => hi (Or.inr q)
  have hv : va_rf (f (nI j).toNatClampNeg) = .ref x := by rw [nI_clamp (Nat.lt_trans hj hn), hx]; rfl
  exact W.aald (v := .ref x) (ty := .object C0) C.1 C.2.1 ho ((C.2.2.2.2.2.1.1.2 t _ (ht G)).1 n (fun j => va_rf (f j))) rfl (fun q => by cases q) (by show ¬ (nI j < 0 ∨ (arrV _ _ _).slots.size ≤ _); rw [arrV_size]; exact hi) (by show (arrV _ _ _).slots[_]? = _; rw [arrV_read _ _ hlt, hv]) rfl rfl hd (k p e s m args below meth c Q locs ls C hr hS hl)
theorem a_iast {a n : Nat} {f : Nat → Int32} {i : Int32} {x : Int32} (hd : decode cc pc = .ok (.iastore, 1)) (ho : Ai G H a n f) (hi : vp_in i n) (hB : B ≤ a)
    (k : ∀ H1 : Heap, Ai G H1 a n (upd f i.toNatClampNeg x) → H1.size = H.size → (∀ q, q ≠ a → H1[q]? = H[q]?) → AW G B l R own cc nL ini fin (pc + 1) lv st H1 ce sl) : AW G B l R own cc nL ini fin pc lv (.int x :: .int i :: .ref a :: st) H ce sl := by
  intro p e s m args below meth c Q locs ls C hr hS hl
  refine W.iast C.1 C.2.1 ho ((C.2.2.2.2.2.1.1.2 0 _ rfl).1 n (fun j => .int (f j))) (fun q => by cases q) (by show ¬ (i < 0 ∨ (arrV _ _ _).slots.size ≤ _); rw [arrV_size]; exact hi) rfl rfl hd fun H1 e z oq => ?_
  refine k H1 ?_ z oq p _ s m args below meth c Q _ ls C hr (hS.put z oq hB) hl
  refine e.trans ?_
  rw [arrV_store]
  congr 2
  funext q
  by_cases hq : q = i.toNatClampNeg
  · subst hq
    simp [updV, upd]
  · simp [updV, upd, hq]
theorem a_last {a n : Nat} {f : Nat → Int64} {i : Int32} {x : Int64} (hd : decode cc pc = .ok (.lastore, 1)) (ho : Al G H a n f) (hi : vp_in i n) (hB : B ≤ a)
    (k : ∀ H1 : Heap, Al G H1 a n (vp_updL f i.toNatClampNeg x) → H1.size = H.size → (∀ q, q ≠ a → H1[q]? = H[q]?) → AW G B l R own cc nL ini fin (pc + 1) lv st H1 ce sl) : AW G B l R own cc nL ini fin pc lv (.long x :: .int i :: .ref a :: st) H ce sl := by
  intro p e s m args below meth c Q locs ls C hr hS hl
  refine W.last C.1 C.2.1 ho ((C.2.2.2.2.2.1.1.2 1 _ rfl).1 n (fun j => .long (f j))) (fun q => by cases q) (by show ¬ (i < 0 ∨ (arrV _ _ _).slots.size ≤ _); rw [arrV_size]; exact hi) rfl rfl hd fun H1 e z oq => ?_
  refine k H1 ?_ z oq p _ s m args below meth c Q _ ls C hr (hS.put z oq hB) hl
  refine e.trans ?_
  rw [arrV_store]
  congr 2
  funext q
  by_cases hq : q = i.toNatClampNeg
  · subst hq
    simp [updV, vp_updL]
  · simp [updV, vp_updL, hq]
theorem a_iastN {a n j : Nat} {f : Nat → Int32} {x : Int32} (hd : decode cc pc = .ok (.iastore, 1)) (ho : Ai G H a n f) (hj : j < n) (hn : n < 2 ^ 31) (hB : B ≤ a)
    (k : ∀ H1 : Heap, Ai G H1 a n (upd f j x) → H1.size = H.size → (∀ q, q ≠ a → H1[q]? = H[q]?) → AW G B l R own cc nL ini fin (pc + 1) lv st H1 ce sl) : AW G B l R own cc nL ini fin pc lv (.int x :: .int (nI j) :: .ref a :: st) H ce sl :=
  a_iast hd ho (vp_in_nI hj hn) hB (fun H1 h => k H1 (by rw [nI_clamp (Nat.lt_trans hj hn)] at h; exact h))
theorem a_zast {a n : Nat} {f : Nat → Int32} {i : Int32} {b : Bool} (hd : decode cc pc = .ok (.bastore, 1)) (ho : Az G H a n f) (hi : vp_in i n) (hB : B ≤ a)
    (k : ∀ H1 : Heap, Az G H1 a n (upd f i.toNatClampNeg (bI b)) → H1.size = H.size → (∀ q, q ≠ a → H1[q]? = H[q]?) → AW G B l R own cc nL ini fin (pc + 1) lv st H1 ce sl) : AW G B l R own cc nL ini fin pc lv (.int (bI b) :: .int i :: .ref a :: st) H ce sl := by
  intro p e s m args below meth c Q locs ls C hr hS hl
  refine W.zast C.1 C.2.1 ho ((C.2.2.2.2.2.1.1.2 2 _ rfl).1 n (fun j => .int (f j))) (fun q => by cases q) (by show ¬ (i < 0 ∨ (arrV _ _ _).slots.size ≤ _); rw [arrV_size]; exact hi) rfl rfl hd fun H1 e z oq => ?_
  refine k H1 ?_ z oq p _ s m args below meth c Q _ ls C hr (hS.put z oq hB) hl
  refine e.trans ?_
  rw [bI_narrow, arrV_store]
  congr 2
  funext q
  by_cases hq : q = i.toNatClampNeg
  · subst hq
    simp [updV, upd]
  · simp [updV, upd, hq]
theorem a_aast {a n t v ci j : Nat} {C0 : String} {fs : List Value} {f : Nat → Option Nat} (ht : ∀ G : GT, (aTys G)[t]? = some (G.2 t, .object C0)) (hC : ∃ q : vw_C, vwCl[ci]? = some q ∧ q.1 = C0) (hd : decode cc pc = .ok (.aastore, 1)) (ho : Aq G H a t n f) (hov : Ob G H v ci fs) (hj : j < n) (hn : n < 2 ^ 31) (hB : B ≤ a)
    (k : ∀ H1 : Heap, Aq G H1 a t n (va_up f j (some v)) → H1.size = H.size → (∀ q, q ≠ a → H1[q]? = H[q]?) → AW G B l R own cc nL ini fin (pc + 1) lv st H1 ce sl) : AW G B l R own cc nL ini fin pc lv (.ref v :: .int (nI j) :: .ref a :: st) H ce sl := by
  intro p e s m args below meth c Q locs ls C hr hS hl
  obtain ⟨⟨C1, T, N⟩, hc, rfl⟩ := hC
  have hi := vp_in_nI hj hn
  have hlt : (nI j).toNatClampNeg < n := Nat.not_le.mp fun q => hi (Or.inr q)
  have h0 : ¬ nI j < 0 := fun q => hi (Or.inl q)
  obtain ⟨r', hr', cellV, g1, g2, g3, -⟩ := hov
  have hK := C.2.2.2.2.2.1.1
  have hcls := (hK.1 ci _ hc).2
  obtain ⟨kA, comp, k1, k2, k3, -⟩ := (hK.2 t _ (ht G)).2
  have hcomp : comp = G.1.1 ci := Option.some.inj (k3.symm.trans hcls.1)
  subst hcomp
  obtain ⟨kC, hkC, -⟩ := hcls.2
  refine W.aast C.1 C.2.1 ho (fun q h => by cases h) (fun h => by cases h) k1 k2 rfl hkC ⟨h0, by show _ < (arrV _ _ _).slots.size; rw [arrV_size]; exact hlt⟩ g1 (fun q h => by rw [g3] at h; cases h) (by rw [g2]; exact hkC) (by rw [g2]; exact va_assign hcls) rfl rfl hd fun H1 e z oq => ?_
  refine k H1 ?_ z oq p _ s m args below meth c Q _ ls C hr (hS.put z oq hB) hl
  refine e.trans ?_
  rw [arrV_store, nI_clamp (Nat.lt_trans hj hn)]
  congr 2
  funext q
  by_cases hq : q = j
  · subst hq
    simp [updV, va_up, va_rf]
  · simp [updV, va_up, hq]
theorem a_alen {a n : Nat} {f : Nat → Int32} (hd : decode cc pc = .ok (.arraylength, 1)) (ho : Ai G H a n f) (k : AW G B l R own cc nL ini fin (pc + 1) lv (.int (nI n) :: st) H ce sl) : AW G B l R own cc nL ini fin pc lv (.ref a :: st) H ce sl := by
  intro p e s m args below meth c Q locs ls C hr hS hl
  exact W.alen (n := nI n) C.1 C.2.1 ho ((C.2.2.2.2.2.1.1.2 0 _ rfl).1 n (fun j => .int (f j))) (by rw [arrV_size] <;> rfl) rfl rfl hd (k p e s m args below meth c Q locs ls C hr hS hl)
def NW (own : String) (idx ci : Nat) (ty : Nat → FieldType) : Prop := ∃ (C : String) (T : u_T) (N : Nat), vwCl[ci]? = some (C, T, N) ∧ (∀ w ∈ u_ws C T N, w ∈ wsT) ∧ (∀ k, k < N → parseFieldDescriptor (T k).2.2.1 = some (ty k)) ∧ Cond.classLink own idx C ∈ wsT ∧ Cond.instantiable C N ∈ wsT ∧ Cond.initialized C ∈ wsT
theorem a_new {idx ci N : Nat} {ty : Nat → FieldType} {fs : List Value} (hw : NW own idx ci ty) (hN : ∀ q : vw_C, vwCl[ci]? = some q → q.2.2 = N) (hd : decode cc pc = .ok (.new idx, 3)) (hfs : ∀ j, j < N → defaultValue (ty j) = vp_V fs j) (hce : ce + 1 ≤ R.cells) (hsl : sl + N ≤ R.slots)
    (k : ∀ H1 : Heap, Ob G H1 H.size ci fs → H1.size = H.size + 1 → (∀ q, q < H.size → H1[q]? = H[q]?) → AW G B l R own cc nL ini fin (pc + 3) lv (.ref H.size :: st) H1 (ce + 1) (sl + N)) : AW G B l R own cc nL ini fin pc lv st H ce sl := by
  intro p e s m args below meth c Q locs ls C hr hS hl
  obtain ⟨C0, T, N0, hc, hin, hty, w1, w2, w3⟩ := hw
  obtain rfl : N0 = N := hN _ hc
  have hts := C.2.2.2.2.1
  have hKn := C.2.2.2.2.2.1.1.1 ci _ hc
  refine W.newcK C.1 C.2.1 C.2.2.2.1 (hts _ w1) (hts _ w2) (hts _ w3) rfl hd hce hsl hKn.2.1 rfl fun H1 kC hkC e1 z1 o1 => ?_
  refine k H1 ⟨_, hc, (u_born ty hts hin hKn hkC e1 hty).to hfs⟩ z1 o1 p e s m args below meth c Q _ ls C hr ⟨Nat.le_trans hS.1 (by omega), fun x h1 h2 => (o1 x (Nat.lt_of_lt_of_le h1 hS.1)).trans (hS.2.1 x h1 h2), hS.2.2⟩ hl
theorem a_newI {n : Nat} (hw : Cond.arrayClass .int ∈ wsT) (hd : decode cc pc = .ok (.newarray .int, 2)) (hn : n < 2 ^ 20) (hce : ce + 1 ≤ R.cells) (hsl : sl + n ≤ R.slots)
    (k : ∀ H1 : Heap, Ai G H1 H.size n (fun _ => 0) → H1.size = H.size + 1 → (∀ q, q < H.size → H1[q]? = H[q]?) → AW G B l R own cc nL ini fin (pc + 2) lv (.ref H.size :: st) H1 (ce + 1) (sl + n)) : AW G B l R own cc nL ini fin pc lv (.int (nI n) :: st) H ce sl := by
  intro p e s m args below meth c Q locs ls C hr hS hl
  refine va_newaK (atype := .int) (N := n) C.1 C.2.1 (C.2.2.2.2.1 _ hw) rfl hd rfl (nI_pos (by omega)) (nI_clamp (by omega)) (by show n * _ ≤ _; simp [newarray.typeOf, componentBytes]; omega) hce hsl rfl fun H1 cA e1 z1 o1 hAr hNm => ?_
  have hcA : cA = G.2 0 := Option.some.inj (hNm.symm.trans (C.2.2.2.2.2.1.1.2 0 _ rfl).2)
  subst hcA
  exact k H1 e1 z1 o1 p e s m args below meth c Q _ ls C hr ⟨Nat.le_trans hS.1 (by omega), fun x h1 h2 => (o1 x (Nat.lt_of_lt_of_le h1 hS.1)).trans (hS.2.1 x h1 h2), hS.2.2⟩ hl
theorem a_newL {n : Nat} (hw : Cond.arrayClass .long ∈ wsT) (hd : decode cc pc = .ok (.newarray .long, 2)) (hn : n < 2 ^ 20) (hce : ce + 1 ≤ R.cells) (hsl : sl + n ≤ R.slots)
    (k : ∀ H1 : Heap, Al G H1 H.size n (fun _ => 0) → H1.size = H.size + 1 → (∀ q, q < H.size → H1[q]? = H[q]?) → AW G B l R own cc nL ini fin (pc + 2) lv (.ref H.size :: st) H1 (ce + 1) (sl + n)) : AW G B l R own cc nL ini fin pc lv (.int (nI n) :: st) H ce sl := by
  intro p e s m args below meth c Q locs ls C hr hS hl
  refine va_newaK (atype := .long) (N := n) C.1 C.2.1 (C.2.2.2.2.1 _ hw) rfl hd rfl (nI_pos (by omega)) (nI_clamp (by omega)) (by show n * _ ≤ _; simp [newarray.typeOf, componentBytes]; omega) hce hsl rfl fun H1 cA e1 z1 o1 hAr hNm => ?_
  have hcA : cA = G.2 1 := Option.some.inj (hNm.symm.trans (C.2.2.2.2.2.1.1.2 1 _ rfl).2)
  subst hcA
  exact k H1 e1 z1 o1 p e s m args below meth c Q _ ls C hr ⟨Nat.le_trans hS.1 (by omega), fun x h1 h2 => (o1 x (Nat.lt_of_lt_of_le h1 hS.1)).trans (hS.2.1 x h1 h2), hS.2.2⟩ hl
theorem a_newZ {n : Nat} (hw : Cond.arrayClass .boolean ∈ wsT) (hd : decode cc pc = .ok (.newarray .boolean, 2)) (hn : n < 2 ^ 20) (hce : ce + 1 ≤ R.cells) (hsl : sl + n ≤ R.slots)
    (k : ∀ H1 : Heap, Az G H1 H.size n (fun _ => 0) → H1.size = H.size + 1 → (∀ q, q < H.size → H1[q]? = H[q]?) → AW G B l R own cc nL ini fin (pc + 2) lv (.ref H.size :: st) H1 (ce + 1) (sl + n)) : AW G B l R own cc nL ini fin pc lv (.int (nI n) :: st) H ce sl := by
  intro p e s m args below meth c Q locs ls C hr hS hl
  refine va_newaK (atype := .boolean) (N := n) C.1 C.2.1 (C.2.2.2.2.1 _ hw) rfl hd rfl (nI_pos (by omega)) (nI_clamp (by omega)) (by show n * _ ≤ _; simp [newarray.typeOf, componentBytes]; omega) hce hsl rfl fun H1 cA e1 z1 o1 hAr hNm => ?_
  have hcA : cA = G.2 2 := Option.some.inj (hNm.symm.trans (C.2.2.2.2.2.1.1.2 2 _ rfl).2)
  subst hcA
  exact k H1 e1 z1 o1 p e s m args below meth c Q _ ls C hr ⟨Nat.le_trans hS.1 (by omega), fun x h1 h2 => (o1 x (Nat.lt_of_lt_of_le h1 hS.1)).trans (hS.2.1 x h1 h2), hS.2.2⟩ hl
theorem a_newq {idx t n : Nat} {C0 : String} (ht : ∀ G : GT, (aTys G)[t]? = some (G.2 t, .object C0)) (hC : C0 = RX0 ∨ C0 = RX1) (hw : Cond.classLink own idx C0 ∈ wsT) (hd : decode cc pc = .ok (.anewarray idx, 3)) (hn : n < 2 ^ 20) (hce : ce + 1 ≤ R.cells) (hsl : sl + n ≤ R.slots)
    (k : ∀ H1 : Heap, Aq G H1 H.size t n (fun _ => none) → H1.size = H.size + 1 → (∀ q, q < H.size → H1[q]? = H[q]?) → AW G B l R own cc nL ini fin (pc + 3) lv (.ref H.size :: st) H1 (ce + 1) (sl + n)) : AW G B l R own cc nL ini fin pc lv (.int (nI n) :: st) H ce sl := by
  intro p e s m args below meth c Q locs ls C hr hS hl
  have hAO : va_AO C0 s := by rcases hC with rfl | rfl; exact C.2.2.2.2.2.1.2.1; exact C.2.2.2.2.2.1.2.2.1
  have hcl : (nI n).toNatClampNeg = n := nI_clamp (by omega)
  refine W.anew C.1 C.2.1 C.2.2.2.1 (C.2.2.2.2.1 _ hw) (va_AO.use hAO) rfl hd rfl (nI_pos (by omega)) (by rw [hcl]; omega) hce (by rw [hcl]; exact hsl) fun cA kA comp f1 f2 f3 f4 => ?_
  rw [hcl]
  obtain ⟨kA', comp', g1, g2, g3, g4⟩ := (C.2.2.2.2.2.1.1.2 t _ (ht G)).2
  have hcA : cA = G.2 t := Option.some.inj (f1.symm.trans g4)
  subst hcA
  generalize hH1 : H.push ({ cls := G.2 t, slots := Array.replicate n .null, vm := .none } : Cell) = H1
  have z1 : H1.size = H.size + 1 := by rw [← hH1, Array.size_push]
  have e1 : H1[H.size]? = some (arrV (G.2 t) n (fun _ => .null)) := by rw [← hH1, Array.getElem?_push_size, ← arrV_new]
  have o1 : ∀ q : Nat, q < H.size → H1[q]? = H[q]? := fun q hq => by rw [← hH1, Array.getElem?_push, if_neg (Nat.ne_of_lt hq)]
  exact k H1 e1 z1 o1 p e s m args below meth c Q _ ls C hr ⟨Nat.le_trans hS.1 (by omega), fun x h1 h2 => (o1 x (Nat.lt_of_lt_of_le h1 hS.1)).trans (hS.2.1 x h1 h2), hS.2.2⟩ hl
/-- what a call site's words give: the callee linked, its code, its number of arguments -/
def CL (own : String) (idx : Nat) (y : MethodName) (cy : ByteArray) (nLy : Nat) (ret : Option FieldType) (n : Nat) : Prop := (Cond.methodLink own idx y ∈ wsT ∨ ∃ host : String, Cond.methodLinkNest own idx y host ∈ nsW) ∧ Cond.code y cy nLy ret ∈ wsT ∧ Cond.initialized y.cls ∈ wsT ∧ (y.cls ≠ "java/lang/invoke/MethodHandle" ∧ y.cls ≠ "java/lang/invoke/VarHandle" ∧ (parseMethodDescriptor y.desc).map (fun d => d.parameters.length) = some n)
theorem callB_mk {own : String} {idx : Nat} {y : MethodName} {cy : ByteArray} {nLy n d mc ms : Nat} {ret : Option FieldType} {args : Array Value} {s : State} (hts : ∀ w ∈ wsT, w.before args s = true) (hns : ∀ w ∈ nsW, va_Nw w s) (h : CL own idx y cy nLy ret n) (hR : d + 1 ≤ R.frames ∧ 8 + (nLy + 11) + 27 * d ≤ R.locals) :
    CallB R s args own idx y cy nLy ret (.code y cy nLy ret :: wsT) { frames := d, cells := mc, slots := ms, locals := 27 * d } mc ms n ∨ ∃ host : String, va_CN R s args own idx y host cy nLy ret (.code y cy nLy ret :: wsT) { frames := d, cells := mc, slots := ms, locals := 27 * d } mc ms n := by
  obtain ⟨h1, h2, h3, h4, h5, h6⟩ := h
  have hg : ∀ w ∈ wsT, (w.onTables && w.keeps) = true ∨ ∃ ty, w = .arrayClass ty := fun w hw => good_of_word (wsT_good w hw)
  have hpay := pay_in (ws := .code y cy nLy ret :: wsT) hts (fun w hw => by
    rcases List.mem_cons.mp hw with rfl | hw
    · exact ⟨h2, hg _ h2⟩
    · exact ⟨hw, hg _ hw⟩)
  have hsig : ∀ sig, parseMethodDescriptor y.desc = some sig → n = sig.parameters.length := fun sig hs => by
    rw [hs] at h6
    exact (Option.some.inj h6).symm
  rcases h1 with h1 | ⟨host, h1⟩
  · exact Or.inl ⟨rfl, rfl, hR.1, hR.2, hpay, List.mem_cons_self, hts _ h2, hts _ h3, ⟨h4, h5⟩, hsig, hts _ h1⟩
  · exact Or.inr ⟨host, ⟨rfl, rfl, hR.1, hR.2, hpay, List.mem_cons_self⟩, hts _ h2, hts _ h3, ⟨h4, h5⟩, hsig, va_Nw.use rfl (hns _ h1)⟩
theorem blind_mk {G : GT} {H : Heap} {av : List Value} : FrameBlind (va_Pc av (fun U => U.heap = H ∧ KX G U)) := fun a U g mk q => by
  obtain ⟨q0, q1, q2⟩ := q
  exact ⟨q0, q1, KX.same (s := U) (U := U.calling g mk a) rfl q2⟩
theorem run_go {p : Program} {e : Env} {s : State} {m : MethodId} {args : Array Value} {below : List Frame} {meth : Method} {c : Code} {locs : List Loc} {Q : State → Prop} {ls : Array Slot} {mc ms : Nat} {st0 rest : List Value} {post : Option Value → Heap → Prop} (hB : B ≤ s.heap.size)
    (hr : va_Run p l e R s m args below meth c H locs ce sl mc ms (F0 m pc ls st0) rest (fun st oc t => (∃ v, oc = .returned v ∧ post v t.heap) ∧ va_F (fun q => B ≤ q) st t) (fun q => B ≤ q)) (hS : va_S (fun q => B ≤ q) s.heap H locs)
    (kk : ∀ (v : Option Value) (H' : Heap) (locs' : List Loc), post v H' → va_S (fun q => B ≤ q) s.heap H' locs' → W p l e R s m args below meth c H' locs' (ce + mc) (sl + ms) Q (F0 m (pc + 3) ls (v.toList ++ rest))) : W p l e R s m args below meth c H locs ce sl Q (F0 m pc ls st0) := by
  intro T hT X
  obtain ⟨v, st₀, t, T', L, h0, X', hL, e1, e2, ⟨⟨v', hv, hp⟩, hz, hk⟩, st⟩ := hr T hT X
  cases hv
  rw [h0] at hz hk
  obtain ⟨t2, a1, b1⟩ := kk v T'.heap (locs ++ L) (by rw [e1]; exact hp)
    ⟨Nat.le_trans hS.1 (by rw [e1]; exact hz), fun q h1 h2 => by rw [e1, hk q (Nat.lt_of_lt_of_le h1 hS.1) h2]; exact hS.2.1 q h1 h2, fun q hq => by
      rcases List.mem_append.mp hq with h | h
      · exact hS.2.2 q h
      · exact hL q h⟩ T' rfl X'
  exact ⟨t2, st t2 a1, b1⟩
theorem a_callV {y : MethodName} {cy : ByteArray} {nLy d mc ms idx b ci : Nat} {ret : Option FieldType} {As rest : List Value} {fs : List Value} {post : Option Value → Heap → Prop} (hcl : CL own idx y cy nLy ret As.length) (hin : Cond.instanceMethod y ∈ wsT) (hse : Cond.selects y.cls y y ∈ wsT) (hci : ∃ q : vw_C, vwCl[ci]? = some q ∧ q.1 = y.cls) (hd : decode cc pc = .ok (.invokevirtual idx, 3))
    (hR : d + 1 ≤ R.frames ∧ 8 + (nLy + 11) + 27 * d ≤ R.locals) (hst : st = As.reverse ++ .ref b :: rest) (hrest : (rest.map fun v => v.category).sum ≤ 8) (hcs : ce + mc ≤ R.cells ∧ sl + ms ≤ R.slots) (ho : Ob G H b ci fs)
    (hM : AM G B l y cy nLy ret d mc ms (.ref b :: As) H post)
    (k : ∀ (v : Option Value) (H' : Heap), post v H' → AW G B l R own cc nL ini fin (pc + 3) lv (v.toList ++ rest) H' (ce + mc) (sl + ms)) : AW G B l R own cc nL ini fin pc lv st H ce sl := by
  intro p e s m args below meth c Q locs ls C hr hS hl
  obtain ⟨⟨C0, T, N⟩, hc, hcy⟩ := hci
  subst hst
  have hrec : ∃ cell : Cell, H[b]? = some cell ∧ cell.vm.isStatics = false ∧ s.vm.findClass y.cls = some cell.cls := by
    obtain ⟨q', h1, cell, g1, g2, g3, -⟩ := ho
    exact ⟨cell, g1, by rw [g3]; rfl, by rw [g2, ← hcy]; exact (C.2.2.2.2.2.1.1.1 ci _ hc).2.1⟩
  rcases callB_mk (mc := mc) (ms := ms) C.2.2.2.2.1 C.2.2.2.2.2.1.2.2.2 hcl hR with hcb | ⟨host, hcb⟩
  · exact run_go C.2.2.2.2.2.2.2 (va_runV (As := As) (rest := rest) ⟨C.1, C.2.1, C.2.2.1, C.2.2.2.1, C.2.2.2.2.1⟩ (hM (Nat.le_trans C.2.2.2.2.2.2.2 hS.1)) ⟨hcb, C.2.2.2.2.1 _ hin, C.2.2.2.2.1 _ hse⟩ ⟨blind_mk, hrec, fun U hU hW => ⟨rfl, hU, KX.warm hW C.2.2.2.2.2.1⟩⟩ rfl rfl hl.1 rfl (lv_room hrest) hd hcs) hS (fun v H' locs' hp hS' => k v H' hp p e s m args below meth c Q locs' ls C hr hS' hl)
  · exact run_go C.2.2.2.2.2.2.2 (va_runVN (As := As) (rest := rest) ⟨C.1, C.2.1, C.2.2.1, C.2.2.2.1, C.2.2.2.2.1⟩ (hM (Nat.le_trans C.2.2.2.2.2.2.2 hS.1)) ⟨hcb, C.2.2.2.2.1 _ hin, C.2.2.2.2.1 _ hse⟩ ⟨blind_mk, hrec, fun U hU hW => ⟨rfl, hU, KX.warm hW C.2.2.2.2.2.1⟩⟩ rfl rfl hl.1 rfl (lv_room hrest) hd hcs) hS (fun v H' locs' hp hS' => k v H' hp p e s m args below meth c Q locs' ls C hr hS' hl)
theorem a_callS {y : MethodName} {cy : ByteArray} {nLy d mc ms idx : Nat} {ret : Option FieldType} {As rest : List Value} {post : Option Value → Heap → Prop} (hcl : CL own idx y cy nLy ret As.length) (hsm : Cond.static y ∈ wsT) (hd : decode cc pc = .ok (.invokestatic idx, 3))
    (hR : d + 1 ≤ R.frames ∧ 8 + (nLy + 11) + 27 * d ≤ R.locals) (hst : st = As.reverse ++ rest) (hrest : (rest.map fun v => v.category).sum ≤ 8) (hcs : ce + mc ≤ R.cells ∧ sl + ms ≤ R.slots)
    (hM : AM G B l y cy nLy ret d mc ms As H post)
    (k : ∀ (v : Option Value) (H' : Heap), post v H' → AW G B l R own cc nL ini fin (pc + 3) lv (v.toList ++ rest) H' (ce + mc) (sl + ms)) : AW G B l R own cc nL ini fin pc lv st H ce sl := by
  intro p e s m args below meth c Q locs ls C hr hS hl
  subst hst
  rcases callB_mk (mc := mc) (ms := ms) C.2.2.2.2.1 C.2.2.2.2.2.1.2.2.2 hcl hR with hcb | ⟨host, hcb⟩
  · exact run_go C.2.2.2.2.2.2.2 (va_runS (As := As) (rest := rest) ⟨C.1, C.2.1, C.2.2.1, C.2.2.2.1, C.2.2.2.2.1⟩ (hM (Nat.le_trans C.2.2.2.2.2.2.2 hS.1)) ⟨hcb, C.2.2.2.2.1 _ hsm⟩ ⟨blind_mk, fun U hU hW => ⟨rfl, hU, KX.warm hW C.2.2.2.2.2.1⟩⟩ rfl rfl hl.1 rfl (lv_room hrest) hd hcs) hS (fun v H' locs' hp hS' => k v H' hp p e s m args below meth c Q locs' ls C hr hS' hl)
  · exact run_go C.2.2.2.2.2.2.2 (va_runSN (As := As) (rest := rest) ⟨C.1, C.2.1, C.2.2.1, C.2.2.2.1, C.2.2.2.2.1⟩ (hM (Nat.le_trans C.2.2.2.2.2.2.2 hS.1)) ⟨hcb, C.2.2.2.2.1 _ hsm, trivial⟩ ⟨blind_mk, fun U hU hW => ⟨rfl, hU, KX.warm hW C.2.2.2.2.2.1⟩⟩ rfl rfl hl.1 rfl (lv_room hrest) hd hcs) hS (fun v H' locs' hp hS' => k v H' hp p e s m args below meth c Q locs' ls C hr hS' hl)
theorem a_callI {y : MethodName} {cy : ByteArray} {nLy d mc ms idx b : Nat} {As rest : List Value} {post : Option Value → Heap → Prop} (hcl : CL own idx y cy nLy none As.length) (hin : Cond.instanceMethod y ∈ wsT) (hy : y.name = "<init>") (hd : decode cc pc = .ok (.invokespecial idx, 3))
    (hR : d + 1 ≤ R.frames ∧ 8 + (nLy + 11) + 27 * d ≤ R.locals) (hst : st = As.reverse ++ .ref b :: rest) (hrest : (rest.map fun v => v.category).sum ≤ 8) (hcs : ce + mc ≤ R.cells ∧ sl + ms ≤ R.slots)
    (hM : AM G B l y cy nLy none d mc ms (.ref b :: As) H post)
    (k : ∀ (v : Option Value) (H' : Heap), post v H' → AW G B l R own cc nL ini fin (pc + 3) lv (v.toList ++ rest) H' (ce + mc) (sl + ms)) : AW G B l R own cc nL ini fin pc lv st H ce sl := by
  intro p e s m args below meth c Q locs ls C hr hS hl
  subst hst
  rcases callB_mk (mc := mc) (ms := ms) C.2.2.2.2.1 C.2.2.2.2.2.1.2.2.2 hcl hR with hcb | ⟨host, hcb⟩
  · exact run_go C.2.2.2.2.2.2.2 (va_runI (As := As) (rest := rest) ⟨C.1, C.2.1, C.2.2.1, C.2.2.2.1, C.2.2.2.2.1⟩ (hM (Nat.le_trans C.2.2.2.2.2.2.2 hS.1)) ⟨hcb, hy, C.2.2.2.2.1 _ hin⟩ ⟨blind_mk, fun U hU hW => ⟨rfl, hU, KX.warm hW C.2.2.2.2.2.1⟩⟩ rfl rfl hl.1 rfl (lv_room hrest) hd hcs) hS (fun v H' locs' hp hS' => k v H' hp p e s m args below meth c Q locs' ls C hr hS' hl)
  · exact run_go C.2.2.2.2.2.2.2 (va_runIN (As := As) (rest := rest) ⟨C.1, C.2.1, C.2.2.1, C.2.2.2.1, C.2.2.2.2.1⟩ (hM (Nat.le_trans C.2.2.2.2.2.2.2 hS.1)) ⟨hcb, hy, C.2.2.2.2.1 _ hin⟩ ⟨blind_mk, fun U hU hW => ⟨rfl, hU, KX.warm hW C.2.2.2.2.2.1⟩⟩ rfl rfl hl.1 rfl (lv_room hrest) hd hcs) hS (fun v H' locs' hp hS' => k v H' hp p e s m args below meth c Q locs' ls C hr hS' hl)
theorem a_objI {idx a : Nat} (hw : Cond.methodLink own idx objectInit ∈ wsT ∧ Cond.instanceMethod objectInit ∈ wsT ∧ Cond.code objectInit ⟨#[0xb1]⟩ 1 none ∈ wsT) (hd : decode cc pc = .ok (.invokespecial idx, 3)) (hf : 1 ≤ R.frames) (hlo : (st.map fun v => v.category).sum + 12 ≤ R.locals) (k : AW G B l R own cc nL ini fin (pc + 3) lv st H ce sl) : AW G B l R own cc nL ini fin pc lv (.ref a :: st) H ce sl := by
  intro p e s m args below meth c Q locs ls C hr hS hl
  refine W.objInit C.1 C.2.1 C.2.2.2.1 (C.2.2.2.2.1 _ hw.1) (C.2.2.2.2.1 _ hw.2.1) (C.2.2.2.2.1 _ hw.2.2) rfl (by rw [C.2.2.1]; exact hl.1) rfl hd hf (by show 2 * 0 + _ + 12 ≤ _; omega) ?_
  exact k p e s m args below meth c Q locs ls C hr hS hl
def ML (own : String) (idx : Nat) (y : MethodName) (cy : ByteArray) (n : Nat) : Prop := Cond.methodLink own idx y ∈ wsT ∧ Cond.static y ∈ wsT ∧ Cond.initialized "java/lang/Math" ∈ wsT ∧ Cond.code y cy n (some .int) ∈ wsT
theorem a_max {idx : Nat} {x y : Int32} (hw : ML own idx Lib.Math.max.name Lib.Math.max.code 2) (hd : decode cc pc = .ok (.invokestatic idx, 3)) (hf : 1 ≤ R.frames) (hlo : (st.map fun v => v.category).sum + 13 ≤ R.locals) (hcs : ce ≤ R.cells ∧ sl ≤ R.slots) (k : AW G B l R own cc nL ini fin (pc + 3) lv (.int (if x < y then y else x) :: st) H ce sl) : AW G B l R own cc nL ini fin pc lv (.int y :: .int x :: st) H ce sl := fun p e s m args below meth c Q locs ls C hr hS hl =>
  va_mmax C.1 C.2.1 (by rw [C.2.2.1]; exact hl.1.symm) C.2.2.2.1 (C.2.2.2.2.1 _ hw.1) (C.2.2.2.2.1 _ hw.2.1) (C.2.2.2.2.1 _ hw.2.2.1) (C.2.2.2.2.1 _ hw.2.2.2) hf hlo hcs.1 hcs.2 hd (k p e s m args below meth c Q locs ls C hr hS hl)
theorem a_min {idx : Nat} {x y : Int32} (hw : ML own idx Lib.Math.min.name Lib.Math.min.code 2) (hd : decode cc pc = .ok (.invokestatic idx, 3)) (hf : 1 ≤ R.frames) (hlo : (st.map fun v => v.category).sum + 13 ≤ R.locals) (hcs : ce ≤ R.cells ∧ sl ≤ R.slots) (k : AW G B l R own cc nL ini fin (pc + 3) lv (.int (if y < x then y else x) :: st) H ce sl) : AW G B l R own cc nL ini fin pc lv (.int y :: .int x :: st) H ce sl := fun p e s m args below meth c Q locs ls C hr hS hl =>
  va_mmin C.1 C.2.1 (by rw [C.2.2.1]; exact hl.1.symm) C.2.2.2.1 (C.2.2.2.2.1 _ hw.1) (C.2.2.2.2.1 _ hw.2.1) (C.2.2.2.2.1 _ hw.2.2.1) (C.2.2.2.2.1 _ hw.2.2.2) hf hlo hcs.1 hcs.2 hd (k p e s m args below meth c Q locs ls C hr hS hl)
theorem a_abs {idx : Nat} {x : Int32} (hw : ML own idx Lib.Math.abs.name Lib.Math.abs.code 1) (hd : decode cc pc = .ok (.invokestatic idx, 3)) (hf : 1 ≤ R.frames) (hlo : (st.map fun v => v.category).sum + 13 ≤ R.locals) (hcs : ce ≤ R.cells ∧ sl ≤ R.slots) (k : AW G B l R own cc nL ini fin (pc + 3) lv (.int (if 0 ≤ x then x else 0 - x) :: st) H ce sl) : AW G B l R own cc nL ini fin pc lv (.int x :: st) H ce sl := fun p e s m args below meth c Q locs ls C hr hS hl =>
  va_mabs C.1 C.2.1 (by rw [C.2.2.1]; exact hl.1.symm) C.2.2.2.1 (C.2.2.2.2.1 _ hw.1) (C.2.2.2.2.1 _ hw.2.1) (C.2.2.2.2.1 _ hw.2.2.1) (C.2.2.2.2.1 _ hw.2.2.2) hf hlo hcs.1 hcs.2 hd (k p e s m args below meth c Q locs ls C hr hS hl)
end AX
/-! ===== END my layer ===== -/
end
section
/-! ===== BEGIN words by their places ===== -/
theorem tj1 {w : Cond} (j : Nat) (h : tables_1_1[j]? = some w) (hg : goodWord w = true) : w ∈ wsT := List.mem_filter.mpr ⟨List.mem_append_right _ (List.mem_append_left _ (List.mem_of_getElem? h)), hg⟩
theorem ns1 {w : Cond} (j : Nat) (h : tables_1_1[j]? = some w) (hg : nestWord w = true) : w ∈ nsW := List.mem_filter.mpr ⟨List.mem_append_right _ (List.mem_append_left _ (List.mem_of_getElem? h)), hg⟩
theorem tj2 {w : Cond} (j : Nat) (h : tables_1_2[j]? = some w) (hg : goodWord w = true) : w ∈ wsT := List.mem_filter.mpr ⟨List.mem_append_right _ (List.mem_append_right _ (List.mem_append_left _ (List.mem_of_getElem? h))), hg⟩
theorem ns2 {w : Cond} (j : Nat) (h : tables_1_2[j]? = some w) (hg : nestWord w = true) : w ∈ nsW := List.mem_filter.mpr ⟨List.mem_append_right _ (List.mem_append_right _ (List.mem_append_left _ (List.mem_of_getElem? h))), hg⟩
theorem tj3 {w : Cond} (j : Nat) (h : tables_1_3[j]? = some w) (hg : goodWord w = true) : w ∈ wsT := List.mem_filter.mpr ⟨List.mem_append_right _ (List.mem_append_right _ (List.mem_append_right _ (List.mem_append_left _ (List.mem_of_getElem? h)))), hg⟩
theorem ns3 {w : Cond} (j : Nat) (h : tables_1_3[j]? = some w) (hg : nestWord w = true) : w ∈ nsW := List.mem_filter.mpr ⟨List.mem_append_right _ (List.mem_append_right _ (List.mem_append_right _ (List.mem_append_left _ (List.mem_of_getElem? h)))), hg⟩
theorem tj4 {w : Cond} (j : Nat) (h : tables_1_4[j]? = some w) (hg : goodWord w = true) : w ∈ wsT := List.mem_filter.mpr ⟨List.mem_append_right _ (List.mem_append_right _ (List.mem_append_right _ (List.mem_append_right _ (List.mem_append_left _ (List.mem_of_getElem? h))))), hg⟩
theorem ns4 {w : Cond} (j : Nat) (h : tables_1_4[j]? = some w) (hg : nestWord w = true) : w ∈ nsW := List.mem_filter.mpr ⟨List.mem_append_right _ (List.mem_append_right _ (List.mem_append_right _ (List.mem_append_right _ (List.mem_append_left _ (List.mem_of_getElem? h))))), hg⟩
theorem tj5 {w : Cond} (j : Nat) (h : tables_1_5[j]? = some w) (hg : goodWord w = true) : w ∈ wsT := List.mem_filter.mpr ⟨List.mem_append_right _ (List.mem_append_right _ (List.mem_append_right _ (List.mem_append_right _ (List.mem_append_right _ (List.mem_of_getElem? h))))), hg⟩
theorem ns5 {w : Cond} (j : Nat) (h : tables_1_5[j]? = some w) (hg : nestWord w = true) : w ∈ nsW := List.mem_filter.mpr ⟨List.mem_append_right _ (List.mem_append_right _ (List.mem_append_right _ (List.mem_append_right _ (List.mem_append_right _ (List.mem_of_getElem? h))))), hg⟩
theorem tjs {w : Cond} (j : Nat) (h : (k2_sels lw_privs)[j]? = some w) (hg : goodWord w = true) : w ∈ wsT := List.mem_filter.mpr ⟨List.mem_append_left _ (List.mem_of_getElem? h), hg⟩
set_option maxRecDepth 20000 in
theorem inl_X0 : ∀ w ∈ u_ws RX0 TX0 7, w ∈ wsT := by
  intro w hw
  obtain ⟨k, hk, rfl⟩ := List.mem_map.mp hw
  have hk := List.mem_range.mp hk
  rcases (show k = 0 ∨ k = 1 ∨ k = 2 ∨ k = 3 ∨ k = 4 ∨ k = 5 ∨ k = 6 by omega) with rfl | rfl | rfl | rfl | rfl | rfl | rfl
  · exact (tj1 111 rfl rfl)
  · exact (tj1 113 rfl rfl)
  · exact (tj1 115 rfl rfl)
  · exact (tj1 117 rfl rfl)
  · exact (tj1 119 rfl rfl)
  · exact (tj1 121 rfl rfl)
  · exact (tj1 123 rfl rfl)
set_option maxRecDepth 20000 in
theorem inl_X1 : ∀ w ∈ u_ws RX1 TX1 3, w ∈ wsT := by
  intro w hw
  obtain ⟨k, hk, rfl⟩ := List.mem_map.mp hw
  have hk := List.mem_range.mp hk
  rcases (show k = 0 ∨ k = 1 ∨ k = 2 by omega) with rfl | rfl | rfl
  · exact (tj1 183 rfl rfl)
  · exact (tj1 185 rfl rfl)
  · exact (tj1 187 rfl rfl)
set_option maxRecDepth 20000 in
theorem inl_X2 : ∀ w ∈ u_ws RX2 TX2 10, w ∈ wsT := by
  intro w hw
  obtain ⟨k, hk, rfl⟩ := List.mem_map.mp hw
  have hk := List.mem_range.mp hk
  rcases (show k = 0 ∨ k = 1 ∨ k = 2 ∨ k = 3 ∨ k = 4 ∨ k = 5 ∨ k = 6 ∨ k = 7 ∨ k = 8 ∨ k = 9 by omega) with rfl | rfl | rfl | rfl | rfl | rfl | rfl | rfl | rfl | rfl
  · exact (tj1 71 rfl rfl)
  · exact (tj1 73 rfl rfl)
  · exact (tj1 75 rfl rfl)
  · exact (tj1 77 rfl rfl)
  · exact (tj1 79 rfl rfl)
  · exact (tj1 81 rfl rfl)
  · exact (tj1 83 rfl rfl)
  · exact (tj1 85 rfl rfl)
  · exact (tj1 87 rfl rfl)
  · exact (tj1 89 rfl rfl)
set_option maxRecDepth 20000 in
theorem inl_X3 : ∀ w ∈ u_ws RX3 TX3 3, w ∈ wsT := by
  intro w hw
  obtain ⟨k, hk, rfl⟩ := List.mem_map.mp hw
  have hk := List.mem_range.mp hk
  rcases (show k = 0 ∨ k = 1 ∨ k = 2 by omega) with rfl | rfl | rfl
  · exact (tj1 163 rfl rfl)
  · exact (tj1 165 rfl rfl)
  · exact (tj1 167 rfl rfl)
set_option maxRecDepth 20000 in
theorem inl_X4 : ∀ w ∈ u_ws RX4 TX4 3, w ∈ wsT := by
  intro w hw
  obtain ⟨k, hk, rfl⟩ := List.mem_map.mp hw
  have hk := List.mem_range.mp hk
  rcases (show k = 0 ∨ k = 1 ∨ k = 2 by omega) with rfl | rfl | rfl
  · exact (tj1 139 rfl rfl)
  · exact (tj1 141 rfl rfl)
  · exact (tj1 143 rfl rfl)
set_option maxRecDepth 20000 in
theorem inl_X5 : ∀ w ∈ u_ws RX5 TX5 4, w ∈ wsT := by
  intro w hw
  obtain ⟨k, hk, rfl⟩ := List.mem_map.mp hw
  have hk := List.mem_range.mp hk
  rcases (show k = 0 ∨ k = 1 ∨ k = 2 ∨ k = 3 by omega) with rfl | rfl | rfl | rfl
  · exact (tj1 31 rfl rfl)
  · exact (tj1 33 rfl rfl)
  · exact (tj1 35 rfl rfl)
  · exact (tj1 37 rfl rfl)
set_option maxRecDepth 20000 in
theorem inl_X6 : ∀ w ∈ u_ws RX6 TX6 11, w ∈ wsT := by
  intro w hw
  obtain ⟨k, hk, rfl⟩ := List.mem_map.mp hw
  have hk := List.mem_range.mp hk
  rcases (show k = 0 ∨ k = 1 ∨ k = 2 ∨ k = 3 ∨ k = 4 ∨ k = 5 ∨ k = 6 ∨ k = 7 ∨ k = 8 ∨ k = 9 ∨ k = 10 by omega) with rfl | rfl | rfl | rfl | rfl | rfl | rfl | rfl | rfl | rfl | rfl
  · exact (tj1 201 rfl rfl)
  · exact (tj1 203 rfl rfl)
  · exact (tj1 205 rfl rfl)
  · exact (tj1 207 rfl rfl)
  · exact (tj1 209 rfl rfl)
  · exact (tj1 211 rfl rfl)
  · exact (tj1 213 rfl rfl)
  · exact (tj1 215 rfl rfl)
  · exact (tj1 217 rfl rfl)
  · exact (tj1 219 rfl rfl)
  · exact (tj1 221 rfl rfl)
set_option maxRecDepth 20000 in
theorem inl_X7 : ∀ w ∈ u_ws RX7 TX7 29, w ∈ wsT := by
  intro w hw
  obtain ⟨k, hk, rfl⟩ := List.mem_map.mp hw
  have hk := List.mem_range.mp hk
  rcases (show k = 0 ∨ k = 1 ∨ k = 2 ∨ k = 3 ∨ k = 4 ∨ k = 5 ∨ k = 6 ∨ k = 7 ∨ k = 8 ∨ k = 9 ∨ k = 10 ∨ k = 11 ∨ k = 12 ∨ k = 13 ∨ k = 14 ∨ k = 15 ∨ k = 16 ∨ k = 17 ∨ k = 18 ∨ k = 19 ∨ k = 20 ∨ k = 21 ∨ k = 22 ∨ k = 23 ∨ k = 24 ∨ k = 25 ∨ k = 26 ∨ k = 27 ∨ k = 28 by omega) with rfl | rfl | rfl | rfl | rfl | rfl | rfl | rfl | rfl | rfl | rfl | rfl | rfl | rfl | rfl | rfl | rfl | rfl | rfl | rfl | rfl | rfl | rfl | rfl | rfl | rfl | rfl | rfl | rfl
  · exact (tj3 159 rfl rfl)
  · exact (tj3 161 rfl rfl)
  · exact (tj3 163 rfl rfl)
  · exact (tj3 165 rfl rfl)
  · exact (tj3 167 rfl rfl)
  · exact (tj3 169 rfl rfl)
  · exact (tj3 171 rfl rfl)
  · exact (tj3 173 rfl rfl)
  · exact (tj3 175 rfl rfl)
  · exact (tj3 177 rfl rfl)
  · exact (tj3 179 rfl rfl)
  · exact (tj3 181 rfl rfl)
  · exact (tj3 183 rfl rfl)
  · exact (tj3 185 rfl rfl)
  · exact (tj3 187 rfl rfl)
  · exact (tj3 189 rfl rfl)
  · exact (tj3 191 rfl rfl)
  · exact (tj3 193 rfl rfl)
  · exact (tj3 195 rfl rfl)
  · exact (tj3 197 rfl rfl)
  · exact (tj3 199 rfl rfl)
  · exact (tj3 201 rfl rfl)
  · exact (tj3 203 rfl rfl)
  · exact (tj3 205 rfl rfl)
  · exact (tj3 207 rfl rfl)
  · exact (tj3 209 rfl rfl)
  · exact (tj3 211 rfl rfl)
  · exact (tj3 213 rfl rfl)
  · exact (tj3 215 rfl rfl)
set_option maxRecDepth 20000 in
theorem oi_X0_3 : Cond.methodLink RX0 3 objectInit ∈ wsT ∧ Cond.instanceMethod objectInit ∈ wsT ∧ Cond.code objectInit ⟨#[0xb1]⟩ 1 none ∈ wsT := ⟨(tj1 97 rfl rfl), (tj1 17 rfl rfl), (tj1 18 rfl rfl)⟩
set_option maxRecDepth 20000 in
theorem f_X0_9 : FL RX0 9 0 0 := ⟨RX0, TX0, 7, rfl, by decide, inl_X0, Or.inl (tj1 98 rfl rfl)⟩
set_option maxRecDepth 20000 in
theorem p_X0_9 {ini : Bool} : FP RX0 9 0 0 (tyX0 0) ini := ⟨RX0, TX0, 7, tyX0, rfl, tyX0_ok, nmX0, tyX0_ok 0 (by decide), Or.inl rfl⟩
set_option maxRecDepth 20000 in
theorem f_X0_15 : FL RX0 15 0 1 := ⟨RX0, TX0, 7, rfl, by decide, inl_X0, Or.inl (tj1 99 rfl rfl)⟩
set_option maxRecDepth 20000 in
theorem p_X0_15 : FP RX0 15 0 1 (tyX0 1) true := ⟨RX0, TX0, 7, tyX0, rfl, tyX0_ok, nmX0, tyX0_ok 1 (by decide), Or.inr ⟨rfl, rfl, rfl, (tj1 99 rfl rfl)⟩⟩
set_option maxRecDepth 20000 in
theorem f_X0_19 : FL RX0 19 0 2 := ⟨RX0, TX0, 7, rfl, by decide, inl_X0, Or.inl (tj1 101 rfl rfl)⟩
set_option maxRecDepth 20000 in
theorem p_X0_19 : FP RX0 19 0 2 (tyX0 2) true := ⟨RX0, TX0, 7, tyX0, rfl, tyX0_ok, nmX0, tyX0_ok 2 (by decide), Or.inr ⟨rfl, rfl, rfl, (tj1 101 rfl rfl)⟩⟩
set_option maxRecDepth 20000 in
theorem f_X0_22 : FL RX0 22 0 3 := ⟨RX0, TX0, 7, rfl, by decide, inl_X0, Or.inl (tj1 103 rfl rfl)⟩
set_option maxRecDepth 20000 in
theorem p_X0_22 : FP RX0 22 0 3 (tyX0 3) true := ⟨RX0, TX0, 7, tyX0, rfl, tyX0_ok, nmX0, tyX0_ok 3 (by decide), Or.inr ⟨rfl, rfl, rfl, (tj1 103 rfl rfl)⟩⟩
set_option maxRecDepth 20000 in
theorem f_X0_25 : FL RX0 25 0 4 := ⟨RX0, TX0, 7, rfl, by decide, inl_X0, Or.inl (tj1 105 rfl rfl)⟩
set_option maxRecDepth 20000 in
theorem p_X0_25 {ini : Bool} : FP RX0 25 0 4 (tyX0 4) ini := ⟨RX0, TX0, 7, tyX0, rfl, tyX0_ok, nmX0, tyX0_ok 4 (by decide), Or.inl rfl⟩
set_option maxRecDepth 20000 in
theorem f_X0_28 : FL RX0 28 0 5 := ⟨RX0, TX0, 7, rfl, by decide, inl_X0, Or.inl (tj1 107 rfl rfl)⟩
set_option maxRecDepth 20000 in
theorem p_X0_28 {ini : Bool} : FP RX0 28 0 5 (tyX0 5) ini := ⟨RX0, TX0, 7, tyX0, rfl, tyX0_ok, nmX0, tyX0_ok 5 (by decide), Or.inl rfl⟩
set_option maxRecDepth 20000 in
theorem f_X0_31 : FL RX0 31 0 6 := ⟨RX0, TX0, 7, rfl, by decide, inl_X0, Or.inl (tj1 109 rfl rfl)⟩
set_option maxRecDepth 20000 in
theorem p_X0_31 {ini : Bool} : FP RX0 31 0 6 (tyX0 6) ini := ⟨RX0, TX0, 7, tyX0, rfl, tyX0_ok, nmX0, tyX0_ok 6 (by decide), Or.inl rfl⟩
set_option maxRecDepth 20000 in
theorem f_X0_34 : FL RX0 34 2 4 := ⟨RX2, TX2, 10, rfl, by decide, inl_X2, Or.inr ⟨"BeansBox", (ns1 57 rfl rfl)⟩⟩
set_option maxRecDepth 20000 in
theorem f_X0_37 : FL RX0 37 2 6 := ⟨RX2, TX2, 10, rfl, by decide, inl_X2, Or.inr ⟨"BeansBox", (ns1 64 rfl rfl)⟩⟩
set_option maxRecDepth 20000 in
theorem f_X0_38 : FL RX0 38 2 7 := ⟨RX2, TX2, 10, rfl, by decide, inl_X2, Or.inr ⟨"BeansBox", (ns1 66 rfl rfl)⟩⟩
set_option maxRecDepth 20000 in
theorem st_X6_apart : Cond.static yX6_apart ∈ wsT := (tj2 144 rfl rfl)
set_option maxRecDepth 20000 in
theorem l_X0_39 : CL RX0 39 yX6_apart cX6_apart 2 (some .int) 2 := ⟨Or.inr ⟨"BeansBox", (ns2 143 rfl rfl)⟩, (tj2 145 rfl rfl), (tj1 1 rfl rfl), by decide +kernel⟩
set_option maxRecDepth 20000 in
theorem im_X0_weight : Cond.instanceMethod yX0_weight ∈ wsT := (tj2 141 rfl rfl)
set_option maxRecDepth 20000 in
theorem se_X0_weight : Cond.selects (yX0_weight).cls yX0_weight yX0_weight ∈ wsT := tjs 28 rfl rfl
set_option maxRecDepth 20000 in
theorem l_X0_43 : CL RX0 43 yX0_weight cX0_weight 3 (some .int) 2 := ⟨Or.inl (tj2 139 rfl rfl), (tj2 142 rfl rfl), (tj1 4 rfl rfl), by decide +kernel⟩
set_option maxRecDepth 20000 in
theorem k_X0_46 : Cond.constantLong RX0 46 (1000000) ∈ wsT := (tj2 154 rfl rfl)
set_option maxRecDepth 20000 in
theorem ml_X0_48 : ML RX0 48 Lib.Math.min.name Lib.Math.min.code 2 := ⟨(tj2 167 rfl rfl), (tj2 35 rfl rfl), (tj1 7 rfl rfl), (tj2 36 rfl rfl)⟩
set_option maxRecDepth 20000 in
theorem im_X0_putOnList : Cond.instanceMethod yX0_putOnList ∈ wsT := (tj2 161 rfl rfl)
set_option maxRecDepth 20000 in
theorem se_X0_putOnList : Cond.selects (yX0_putOnList).cls yX0_putOnList yX0_putOnList ∈ wsT := tjs 31 rfl rfl
set_option maxRecDepth 20000 in
theorem l_X0_53 : CL RX0 53 yX0_putOnList cX0_putOnList 2 none 1 := ⟨Or.inl (tj2 159 rfl rfl), (tj2 162 rfl rfl), (tj1 4 rfl rfl), by decide +kernel⟩
set_option maxRecDepth 20000 in
theorem im_X0_correctTo : Cond.instanceMethod yX0_correctTo ∈ wsT := (tj2 174 rfl rfl)
set_option maxRecDepth 20000 in
theorem se_X0_correctTo : Cond.selects (yX0_correctTo).cls yX0_correctTo yX0_correctTo ∈ wsT := tjs 33 rfl rfl
set_option maxRecDepth 20000 in
theorem l_X0_57 : CL RX0 57 yX0_correctTo cX0_correctTo 2 none 1 := ⟨Or.inl (tj2 213 rfl rfl), (tj2 175 rfl rfl), (tj1 4 rfl rfl), by decide +kernel⟩
set_option maxRecDepth 20000 in
theorem im_X0_confirm : Cond.instanceMethod yX0_confirm ∈ wsT := (tj2 183 rfl rfl)
set_option maxRecDepth 20000 in
theorem se_X0_confirm : Cond.selects (yX0_confirm).cls yX0_confirm yX0_confirm ∈ wsT := tjs 34 rfl rfl
set_option maxRecDepth 20000 in
theorem l_X0_60 : CL RX0 60 yX0_confirm cX0_confirm 1 none 0 := ⟨Or.inl (tj2 214 rfl rfl), (tj2 184 rfl rfl), (tj1 4 rfl rfl), by decide +kernel⟩
set_option maxRecDepth 20000 in
theorem im_X0_isThere : Cond.instanceMethod yX0_isThere ∈ wsT := (tj2 165 rfl rfl)
set_option maxRecDepth 20000 in
theorem se_X0_isThere : Cond.selects (yX0_isThere).cls yX0_isThere yX0_isThere ∈ wsT := tjs 32 rfl rfl
set_option maxRecDepth 20000 in
theorem l_X0_63 : CL RX0 63 yX0_isThere cX0_isThere 2 (some .boolean) 1 := ⟨Or.inl (tj2 163 rfl rfl), (tj2 166 rfl rfl), (tj1 4 rfl rfl), by decide +kernel⟩
set_option maxRecDepth 20000 in
theorem ml_X0_67 : ML RX0 67 Lib.Math.max.name Lib.Math.max.code 2 := ⟨(tj2 176 rfl rfl), (tj1 155 rfl rfl), (tj1 7 rfl rfl), (tj1 156 rfl rfl)⟩
set_option maxRecDepth 20000 in
theorem oi_X1_1 : Cond.methodLink RX1 1 objectInit ∈ wsT ∧ Cond.instanceMethod objectInit ∈ wsT ∧ Cond.code objectInit ⟨#[0xb1]⟩ 1 none ∈ wsT := ⟨(tj1 174 rfl rfl), (tj1 17 rfl rfl), (tj1 18 rfl rfl)⟩
set_option maxRecDepth 20000 in
theorem f_X1_7 : FL RX1 7 1 0 := ⟨RX1, TX1, 3, rfl, by decide, inl_X1, Or.inl (tj1 177 rfl rfl)⟩
set_option maxRecDepth 20000 in
theorem p_X1_7 {ini : Bool} : FP RX1 7 1 0 (tyX1 0) ini := ⟨RX1, TX1, 3, tyX1, rfl, tyX1_ok, nmX1, tyX1_ok 0 (by decide), Or.inl rfl⟩
set_option maxRecDepth 20000 in
theorem nw_X1_13 : NW RX1 13 0 tyX0 := ⟨RX0, TX0, 7, rfl, inl_X0, tyX0_ok, (tj1 175 rfl rfl), (tj1 93 rfl rfl), (tj1 4 rfl rfl)⟩
set_option maxRecDepth 20000 in
theorem im_X0_init : Cond.instanceMethod yX0_init ∈ wsT := (tj1 95 rfl rfl)
set_option maxRecDepth 20000 in
theorem l_X1_15 : CL RX1 15 yX0_init cX0_init 1 none 0 := ⟨Or.inr ⟨"BeansBox", (ns1 176 rfl rfl)⟩, (tj1 96 rfl rfl), (tj1 4 rfl rfl), by decide +kernel⟩
set_option maxRecDepth 20000 in
theorem f_X1_16 : FL RX1 16 1 1 := ⟨RX1, TX1, 3, rfl, by decide, inl_X1, Or.inl (tj1 179 rfl rfl)⟩
set_option maxRecDepth 20000 in
theorem p_X1_16 : FP RX1 16 1 1 (tyX1 1) true := ⟨RX1, TX1, 3, tyX1, rfl, tyX1_ok, nmX1, tyX1_ok 1 (by decide), Or.inr ⟨rfl, rfl, rfl, (tj1 179 rfl rfl)⟩⟩
set_option maxRecDepth 20000 in
theorem f_X1_20 : FL RX1 20 1 2 := ⟨RX1, TX1, 3, rfl, by decide, inl_X1, Or.inl (tj1 181 rfl rfl)⟩
set_option maxRecDepth 20000 in
theorem p_X1_20 {ini : Bool} : FP RX1 20 1 2 (tyX1 2) ini := ⟨RX1, TX1, 3, tyX1, rfl, tyX1_ok, nmX1, tyX1_ok 2 (by decide), Or.inl rfl⟩
set_option maxRecDepth 20000 in
theorem oi_X2_3 : Cond.methodLink RX2 3 objectInit ∈ wsT ∧ Cond.instanceMethod objectInit ∈ wsT ∧ Cond.code objectInit ⟨#[0xb1]⟩ 1 none ∈ wsT := ⟨(tj1 46 rfl rfl), (tj1 17 rfl rfl), (tj1 18 rfl rfl)⟩
set_option maxRecDepth 20000 in
theorem f_X2_9 : FL RX2 9 2 0 := ⟨RX2, TX2, 10, rfl, by decide, inl_X2, Or.inl (tj1 47 rfl rfl)⟩
set_option maxRecDepth 20000 in
theorem p_X2_9 {ini : Bool} : FP RX2 9 2 0 (tyX2 0) ini := ⟨RX2, TX2, 10, tyX2, rfl, tyX2_ok, nmX2, tyX2_ok 0 (by decide), Or.inl rfl⟩
set_option maxRecDepth 20000 in
theorem f_X2_15 : FL RX2 15 2 1 := ⟨RX2, TX2, 10, rfl, by decide, inl_X2, Or.inl (tj1 50 rfl rfl)⟩
set_option maxRecDepth 20000 in
theorem p_X2_15 {ini : Bool} : FP RX2 15 2 1 (tyX2 1) ini := ⟨RX2, TX2, 10, tyX2, rfl, tyX2_ok, nmX2, tyX2_ok 1 (by decide), Or.inl rfl⟩
set_option maxRecDepth 20000 in
theorem f_X2_19 : FL RX2 19 2 2 := ⟨RX2, TX2, 10, rfl, by decide, inl_X2, Or.inl (tj1 52 rfl rfl)⟩
set_option maxRecDepth 20000 in
theorem p_X2_19 {ini : Bool} : FP RX2 19 2 2 (tyX2 2) ini := ⟨RX2, TX2, 10, tyX2, rfl, tyX2_ok, nmX2, tyX2_ok 2 (by decide), Or.inl rfl⟩
set_option maxRecDepth 20000 in
theorem f_X2_22 : FL RX2 22 2 3 := ⟨RX2, TX2, 10, rfl, by decide, inl_X2, Or.inl (tj1 54 rfl rfl)⟩
set_option maxRecDepth 20000 in
theorem p_X2_22 {ini : Bool} : FP RX2 22 2 3 (tyX2 3) ini := ⟨RX2, TX2, 10, tyX2, rfl, tyX2_ok, nmX2, tyX2_ok 3 (by decide), Or.inl rfl⟩
set_option maxRecDepth 20000 in
theorem f_X2_25 : FL RX2 25 2 4 := ⟨RX2, TX2, 10, rfl, by decide, inl_X2, Or.inl (tj1 56 rfl rfl)⟩
set_option maxRecDepth 20000 in
theorem p_X2_25 {ini : Bool} : FP RX2 25 2 4 (tyX2 4) ini := ⟨RX2, TX2, 10, tyX2, rfl, tyX2_ok, nmX2, tyX2_ok 4 (by decide), Or.inl rfl⟩
set_option maxRecDepth 20000 in
theorem f_X2_28 : FL RX2 28 2 5 := ⟨RX2, TX2, 10, rfl, by decide, inl_X2, Or.inl (tj1 60 rfl rfl)⟩
set_option maxRecDepth 20000 in
theorem p_X2_28 {ini : Bool} : FP RX2 28 2 5 (tyX2 5) ini := ⟨RX2, TX2, 10, tyX2, rfl, tyX2_ok, nmX2, tyX2_ok 5 (by decide), Or.inl rfl⟩
set_option maxRecDepth 20000 in
theorem f_X2_31 : FL RX2 31 2 6 := ⟨RX2, TX2, 10, rfl, by decide, inl_X2, Or.inl (tj1 63 rfl rfl)⟩
set_option maxRecDepth 20000 in
theorem p_X2_31 : FP RX2 31 2 6 (tyX2 6) true := ⟨RX2, TX2, 10, tyX2, rfl, tyX2_ok, nmX2, tyX2_ok 6 (by decide), Or.inr ⟨rfl, rfl, rfl, (tj1 63 rfl rfl)⟩⟩
set_option maxRecDepth 20000 in
theorem f_X2_35 : FL RX2 35 2 7 := ⟨RX2, TX2, 10, rfl, by decide, inl_X2, Or.inl (tj1 65 rfl rfl)⟩
set_option maxRecDepth 20000 in
theorem p_X2_35 : FP RX2 35 2 7 (tyX2 7) true := ⟨RX2, TX2, 10, tyX2, rfl, tyX2_ok, nmX2, tyX2_ok 7 (by decide), Or.inr ⟨rfl, rfl, rfl, (tj1 65 rfl rfl)⟩⟩
set_option maxRecDepth 20000 in
theorem f_X2_38 : FL RX2 38 2 8 := ⟨RX2, TX2, 10, rfl, by decide, inl_X2, Or.inl (tj1 67 rfl rfl)⟩
set_option maxRecDepth 20000 in
theorem p_X2_38 : FP RX2 38 2 8 (tyX2 8) true := ⟨RX2, TX2, 10, tyX2, rfl, tyX2_ok, nmX2, tyX2_ok 8 (by decide), Or.inr ⟨rfl, rfl, rfl, (tj1 67 rfl rfl)⟩⟩
set_option maxRecDepth 20000 in
theorem f_X2_41 : FL RX2 41 2 9 := ⟨RX2, TX2, 10, rfl, by decide, inl_X2, Or.inl (tj1 69 rfl rfl)⟩
set_option maxRecDepth 20000 in
theorem p_X2_41 : FP RX2 41 2 9 (tyX2 9) true := ⟨RX2, TX2, 10, tyX2, rfl, tyX2_ok, nmX2, tyX2_ok 9 (by decide), Or.inr ⟨rfl, rfl, rfl, (tj1 69 rfl rfl)⟩⟩
set_option maxRecDepth 20000 in
theorem oi_X3_1 : Cond.methodLink RX3 1 objectInit ∈ wsT ∧ Cond.instanceMethod objectInit ∈ wsT ∧ Cond.code objectInit ⟨#[0xb1]⟩ 1 none ∈ wsT := ⟨(tj1 153 rfl rfl), (tj1 17 rfl rfl), (tj1 18 rfl rfl)⟩
set_option maxRecDepth 20000 in
theorem f_X3_7 : FL RX3 7 3 2 := ⟨RX3, TX3, 3, rfl, by decide, inl_X3, Or.inl (tj1 161 rfl rfl)⟩
set_option maxRecDepth 20000 in
theorem p_X3_7 {ini : Bool} : FP RX3 7 3 2 (tyX3 2) ini := ⟨RX3, TX3, 3, tyX3, rfl, tyX3_ok, nmX3, tyX3_ok 2 (by decide), Or.inl rfl⟩
set_option maxRecDepth 20000 in
theorem ml_X3_13 : ML RX3 13 Lib.Math.max.name Lib.Math.max.code 2 := ⟨(tj1 154 rfl rfl), (tj1 155 rfl rfl), (tj1 7 rfl rfl), (tj1 156 rfl rfl)⟩
set_option maxRecDepth 20000 in
theorem f_X3_19 : FL RX3 19 3 0 := ⟨RX3, TX3, 3, rfl, by decide, inl_X3, Or.inl (tj1 157 rfl rfl)⟩
set_option maxRecDepth 20000 in
theorem p_X3_19 : FP RX3 19 3 0 (tyX3 0) true := ⟨RX3, TX3, 3, tyX3, rfl, tyX3_ok, nmX3, tyX3_ok 0 (by decide), Or.inr ⟨rfl, rfl, rfl, (tj1 157 rfl rfl)⟩⟩
set_option maxRecDepth 20000 in
theorem f_X3_23 : FL RX3 23 3 1 := ⟨RX3, TX3, 3, rfl, by decide, inl_X3, Or.inl (tj1 159 rfl rfl)⟩
set_option maxRecDepth 20000 in
theorem p_X3_23 : FP RX3 23 3 1 (tyX3 1) true := ⟨RX3, TX3, 3, tyX3, rfl, tyX3_ok, nmX3, tyX3_ok 1 (by decide), Or.inr ⟨rfl, rfl, rfl, (tj1 159 rfl rfl)⟩⟩
set_option maxRecDepth 20000 in
theorem oi_X4_3 : Cond.methodLink RX4 3 objectInit ∈ wsT ∧ Cond.instanceMethod objectInit ∈ wsT ∧ Cond.code objectInit ⟨#[0xb1]⟩ 1 none ∈ wsT := ⟨(tj1 131 rfl rfl), (tj1 17 rfl rfl), (tj1 18 rfl rfl)⟩
set_option maxRecDepth 20000 in
theorem cl_X4_9 : Cond.classLink RX4 9 RX0 ∈ wsT := (tj1 132 rfl rfl)
set_option maxRecDepth 20000 in
theorem f_X4_11 : FL RX4 11 4 0 := ⟨RX4, TX4, 3, rfl, by decide, inl_X4, Or.inl (tj1 135 rfl rfl)⟩
set_option maxRecDepth 20000 in
theorem p_X4_11 : FP RX4 11 4 0 (tyX4 0) true := ⟨RX4, TX4, 3, tyX4, rfl, tyX4_ok, nmX4, tyX4_ok 0 (by decide), Or.inr ⟨rfl, rfl, rfl, (tj1 135 rfl rfl)⟩⟩
set_option maxRecDepth 20000 in
theorem f_X4_17 : FL RX4 17 4 1 := ⟨RX4, TX4, 3, rfl, by decide, inl_X4, Or.inl (tj1 136 rfl rfl)⟩
set_option maxRecDepth 20000 in
theorem p_X4_17 {ini : Bool} : FP RX4 17 4 1 (tyX4 1) ini := ⟨RX4, TX4, 3, tyX4, rfl, tyX4_ok, nmX4, tyX4_ok 1 (by decide), Or.inl rfl⟩
set_option maxRecDepth 20000 in
theorem f_X4_21 : FL RX4 21 4 2 := ⟨RX4, TX4, 3, rfl, by decide, inl_X4, Or.inl (tj1 137 rfl rfl)⟩
set_option maxRecDepth 20000 in
theorem p_X4_21 {ini : Bool} : FP RX4 21 4 2 (tyX4 2) ini := ⟨RX4, TX4, 3, tyX4, rfl, tyX4_ok, nmX4, tyX4_ok 2 (by decide), Or.inl rfl⟩
set_option maxRecDepth 20000 in
theorem nw_X4_9 : NW RX4 9 0 tyX0 := ⟨RX0, TX0, 7, rfl, inl_X0, tyX0_ok, (tj1 132 rfl rfl), (tj1 93 rfl rfl), (tj1 4 rfl rfl)⟩
set_option maxRecDepth 20000 in
theorem l_X4_24 : CL RX4 24 yX0_init cX0_init 1 none 0 := ⟨Or.inr ⟨"BeansBox", (ns1 134 rfl rfl)⟩, (tj1 96 rfl rfl), (tj1 4 rfl rfl), by decide +kernel⟩
set_option maxRecDepth 20000 in
theorem im_X0_copy : Cond.instanceMethod yX0_copy ∈ wsT := (tj2 120 rfl rfl)
set_option maxRecDepth 20000 in
theorem se_X0_copy : Cond.selects (yX0_copy).cls yX0_copy yX0_copy ∈ wsT := tjs 23 rfl rfl
set_option maxRecDepth 20000 in
theorem l_X4_25 : CL RX4 25 yX0_copy cX0_copy 3 none 1 := ⟨Or.inr ⟨"BeansBox", (ns2 118 rfl rfl)⟩, (tj2 121 rfl rfl), (tj1 4 rfl rfl), by decide +kernel⟩
set_option maxRecDepth 20000 in
theorem ml_X4_29 : ML RX4 29 Lib.Math.min.name Lib.Math.min.code 2 := ⟨(tj2 122 rfl rfl), (tj2 35 rfl rfl), (tj1 7 rfl rfl), (tj2 36 rfl rfl)⟩
set_option maxRecDepth 20000 in
theorem oi_X5_3 : Cond.methodLink RX5 3 objectInit ∈ wsT ∧ Cond.instanceMethod objectInit ∈ wsT ∧ Cond.code objectInit ⟨#[0xb1]⟩ 1 none ∈ wsT := ⟨(tj1 24 rfl rfl), (tj1 17 rfl rfl), (tj1 18 rfl rfl)⟩
set_option maxRecDepth 20000 in
theorem f_X5_9 : FL RX5 9 5 0 := ⟨RX5, TX5, 4, rfl, by decide, inl_X5, Or.inl (tj1 25 rfl rfl)⟩
set_option maxRecDepth 20000 in
theorem p_X5_9 : FP RX5 9 5 0 (tyX5 0) true := ⟨RX5, TX5, 4, tyX5, rfl, tyX5_ok, nmX5, tyX5_ok 0 (by decide), Or.inr ⟨rfl, rfl, rfl, (tj1 25 rfl rfl)⟩⟩
set_option maxRecDepth 20000 in
theorem f_X5_15 : FL RX5 15 5 1 := ⟨RX5, TX5, 4, rfl, by decide, inl_X5, Or.inl (tj1 26 rfl rfl)⟩
set_option maxRecDepth 20000 in
theorem p_X5_15 {ini : Bool} : FP RX5 15 5 1 (tyX5 1) ini := ⟨RX5, TX5, 4, tyX5, rfl, tyX5_ok, nmX5, tyX5_ok 1 (by decide), Or.inl rfl⟩
set_option maxRecDepth 20000 in
theorem f_X5_19 : FL RX5 19 5 2 := ⟨RX5, TX5, 4, rfl, by decide, inl_X5, Or.inl (tj1 28 rfl rfl)⟩
set_option maxRecDepth 20000 in
theorem p_X5_19 {ini : Bool} : FP RX5 19 5 2 (tyX5 2) ini := ⟨RX5, TX5, 4, tyX5, rfl, tyX5_ok, nmX5, tyX5_ok 2 (by decide), Or.inl rfl⟩
set_option maxRecDepth 20000 in
theorem f_X5_22 : FL RX5 22 5 3 := ⟨RX5, TX5, 4, rfl, by decide, inl_X5, Or.inl (tj1 30 rfl rfl)⟩
set_option maxRecDepth 20000 in
theorem p_X5_22 {ini : Bool} : FP RX5 22 5 3 (tyX5 3) ini := ⟨RX5, TX5, 4, tyX5, rfl, tyX5_ok, nmX5, tyX5_ok 3 (by decide), Or.inl rfl⟩
set_option maxRecDepth 20000 in
theorem im_X2_empty : Cond.instanceMethod yX2_empty ∈ wsT := (tj2 4 rfl rfl)
set_option maxRecDepth 20000 in
theorem se_X2_empty : Cond.selects (yX2_empty).cls yX2_empty yX2_empty ∈ wsT := tjs 2 rfl rfl
set_option maxRecDepth 20000 in
theorem l_X5_25 : CL RX5 25 yX2_empty cX2_empty 1 none 0 := ⟨Or.inr ⟨"BeansBox", (ns2 2 rfl rfl)⟩, (tj2 5 rfl rfl), (tj1 3 rfl rfl), by decide +kernel⟩
set_option maxRecDepth 20000 in
theorem im_X5_skipBlanks : Cond.instanceMethod yX5_skipBlanks ∈ wsT := (tj2 8 rfl rfl)
set_option maxRecDepth 20000 in
theorem se_X5_skipBlanks : Cond.selects (yX5_skipBlanks).cls yX5_skipBlanks yX5_skipBlanks ∈ wsT := tjs 3 rfl rfl
set_option maxRecDepth 20000 in
theorem l_X5_30 : CL RX5 30 yX5_skipBlanks cX5_skipBlanks 1 none 0 := ⟨Or.inl (tj2 6 rfl rfl), (tj2 9 rfl rfl), (tj1 2 rfl rfl), by decide +kernel⟩
set_option maxRecDepth 20000 in
theorem im_X5_readClause : Cond.instanceMethod yX5_readClause ∈ wsT := (tj2 12 rfl rfl)
set_option maxRecDepth 20000 in
theorem se_X5_readClause : Cond.selects (yX5_readClause).cls yX5_readClause yX5_readClause ∈ wsT := tjs 4 rfl rfl
set_option maxRecDepth 20000 in
theorem l_X5_33 : CL RX5 33 yX5_readClause cX5_readClause 3 none 1 := ⟨Or.inl (tj2 10 rfl rfl), (tj2 13 rfl rfl), (tj1 2 rfl rfl), by decide +kernel⟩
set_option maxRecDepth 20000 in
theorem im_X5_letterHere : Cond.instanceMethod yX5_letterHere ∈ wsT := (tj2 16 rfl rfl)
set_option maxRecDepth 20000 in
theorem se_X5_letterHere : Cond.selects (yX5_letterHere).cls yX5_letterHere yX5_letterHere ∈ wsT := tjs 5 rfl rfl
set_option maxRecDepth 20000 in
theorem l_X5_37 : CL RX5 37 yX5_letterHere cX5_letterHere 1 (some .int) 0 := ⟨Or.inl (tj2 14 rfl rfl), (tj2 17 rfl rfl), (tj1 2 rfl rfl), by decide +kernel⟩
set_option maxRecDepth 20000 in
theorem f_X5_41 : FL RX5 41 2 0 := ⟨RX2, TX2, 10, rfl, by decide, inl_X2, Or.inr ⟨"BeansBox", (ns1 48 rfl rfl)⟩⟩
set_option maxRecDepth 20000 in
theorem f_X5_45 : FL RX5 45 2 4 := ⟨RX2, TX2, 10, rfl, by decide, inl_X2, Or.inr ⟨"BeansBox", (ns1 59 rfl rfl)⟩⟩
set_option maxRecDepth 20000 in
theorem f_X5_48 : FL RX5 48 2 5 := ⟨RX2, TX2, 10, rfl, by decide, inl_X2, Or.inr ⟨"BeansBox", (ns1 61 rfl rfl)⟩⟩
set_option maxRecDepth 20000 in
theorem im_X5_stop : Cond.instanceMethod yX5_stop ∈ wsT := (tj2 20 rfl rfl)
set_option maxRecDepth 20000 in
theorem se_X5_stop : Cond.selects (yX5_stop).cls yX5_stop yX5_stop ∈ wsT := tjs 6 rfl rfl
set_option maxRecDepth 20000 in
theorem l_X5_51 : CL RX5 51 yX5_stop cX5_stop 3 none 2 := ⟨Or.inl (tj2 18 rfl rfl), (tj2 21 rfl rfl), (tj1 2 rfl rfl), by decide +kernel⟩
set_option maxRecDepth 20000 in
theorem im_X5_readBox : Cond.instanceMethod yX5_readBox ∈ wsT := (tj2 24 rfl rfl)
set_option maxRecDepth 20000 in
theorem se_X5_readBox : Cond.selects (yX5_readBox).cls yX5_readBox yX5_readBox ∈ wsT := tjs 7 rfl rfl
set_option maxRecDepth 20000 in
theorem l_X5_55 : CL RX5 55 yX5_readBox cX5_readBox 5 none 1 := ⟨Or.inl (tj2 22 rfl rfl), (tj2 25 rfl rfl), (tj1 2 rfl rfl), by decide +kernel⟩
set_option maxRecDepth 20000 in
theorem im_X5_readWord : Cond.instanceMethod yX5_readWord ∈ wsT := (tj2 47 rfl rfl)
set_option maxRecDepth 20000 in
theorem se_X5_readWord : Cond.selects (yX5_readWord).cls yX5_readWord yX5_readWord ∈ wsT := tjs 11 rfl rfl
set_option maxRecDepth 20000 in
theorem l_X5_58 : CL RX5 58 yX5_readWord cX5_readWord 5 none 1 := ⟨Or.inl (tj2 45 rfl rfl), (tj2 48 rfl rfl), (tj1 2 rfl rfl), by decide +kernel⟩
set_option maxRecDepth 20000 in
theorem im_X5_readVoice : Cond.instanceMethod yX5_readVoice ∈ wsT := (tj2 55 rfl rfl)
set_option maxRecDepth 20000 in
theorem se_X5_readVoice : Cond.selects (yX5_readVoice).cls yX5_readVoice yX5_readVoice ∈ wsT := tjs 13 rfl rfl
set_option maxRecDepth 20000 in
theorem l_X5_61 : CL RX5 61 yX5_readVoice cX5_readVoice 3 none 1 := ⟨Or.inl (tj2 53 rfl rfl), (tj2 56 rfl rfl), (tj1 2 rfl rfl), by decide +kernel⟩
set_option maxRecDepth 20000 in
theorem im_X5_readNumber : Cond.instanceMethod yX5_readNumber ∈ wsT := (tj2 28 rfl rfl)
set_option maxRecDepth 20000 in
theorem se_X5_readNumber : Cond.selects (yX5_readNumber).cls yX5_readNumber yX5_readNumber ∈ wsT := tjs 8 rfl rfl
set_option maxRecDepth 20000 in
theorem l_X5_64 : CL RX5 64 yX5_readNumber cX5_readNumber 4 (some .int) 1 := ⟨Or.inl (tj2 26 rfl rfl), (tj2 29 rfl rfl), (tj1 2 rfl rfl), by decide +kernel⟩
set_option maxRecDepth 20000 in
theorem im_X5_readEnd : Cond.instanceMethod yX5_readEnd ∈ wsT := (tj2 39 rfl rfl)
set_option maxRecDepth 20000 in
theorem se_X5_readEnd : Cond.selects (yX5_readEnd).cls yX5_readEnd yX5_readEnd ∈ wsT := tjs 9 rfl rfl
set_option maxRecDepth 20000 in
theorem l_X5_68 : CL RX5 68 yX5_readEnd cX5_readEnd 1 none 0 := ⟨Or.inl (tj2 37 rfl rfl), (tj2 40 rfl rfl), (tj1 2 rfl rfl), by decide +kernel⟩
set_option maxRecDepth 20000 in
theorem im_X2_setBox : Cond.instanceMethod yX2_setBox ∈ wsT := (tj2 43 rfl rfl)
set_option maxRecDepth 20000 in
theorem se_X2_setBox : Cond.selects (yX2_setBox).cls yX2_setBox yX2_setBox ∈ wsT := tjs 10 rfl rfl
set_option maxRecDepth 20000 in
theorem l_X5_71 : CL RX5 71 yX2_setBox cX2_setBox 4 none 3 := ⟨Or.inr ⟨"BeansBox", (ns2 41 rfl rfl)⟩, (tj2 44 rfl rfl), (tj1 3 rfl rfl), by decide +kernel⟩
set_option maxRecDepth 20000 in
theorem im_X2_addWord : Cond.instanceMethod yX2_addWord ∈ wsT := (tj2 51 rfl rfl)
set_option maxRecDepth 20000 in
theorem se_X2_addWord : Cond.selects (yX2_addWord).cls yX2_addWord yX2_addWord ∈ wsT := tjs 12 rfl rfl
set_option maxRecDepth 20000 in
theorem l_X5_75 : CL RX5 75 yX2_addWord cX2_addWord 4 none 3 := ⟨Or.inr ⟨"BeansBox", (ns2 49 rfl rfl)⟩, (tj2 52 rfl rfl), (tj1 3 rfl rfl), by decide +kernel⟩
set_option maxRecDepth 20000 in
theorem im_X2_addVoice : Cond.instanceMethod yX2_addVoice ∈ wsT := (tj2 59 rfl rfl)
set_option maxRecDepth 20000 in
theorem se_X2_addVoice : Cond.selects (yX2_addVoice).cls yX2_addVoice yX2_addVoice ∈ wsT := tjs 14 rfl rfl
set_option maxRecDepth 20000 in
theorem l_X5_78 : CL RX5 78 yX2_addVoice cX2_addVoice 2 none 1 := ⟨Or.inr ⟨"BeansBox", (ns2 57 rfl rfl)⟩, (tj2 60 rfl rfl), (tj1 3 rfl rfl), by decide +kernel⟩
set_option maxRecDepth 20000 in
theorem st_X5_isFigure : Cond.static yX5_isFigure ∈ wsT := (tj2 31 rfl rfl)
set_option maxRecDepth 20000 in
theorem l_X5_82 : CL RX5 82 yX5_isFigure cX5_isFigure 1 (some .boolean) 1 := ⟨Or.inl (tj2 30 rfl rfl), (tj2 32 rfl rfl), (tj1 2 rfl rfl), by decide +kernel⟩
set_option maxRecDepth 20000 in
theorem k_X5_86 : Cond.constant RX5 86 (1000000) ∈ wsT := (tj2 33 rfl rfl)
set_option maxRecDepth 20000 in
theorem ml_X5_87 : ML RX5 87 Lib.Math.min.name Lib.Math.min.code 2 := ⟨(tj2 34 rfl rfl), (tj2 35 rfl rfl), (tj1 7 rfl rfl), (tj2 36 rfl rfl)⟩
set_option maxRecDepth 20000 in
theorem oi_X6_1 : Cond.methodLink RX6 1 objectInit ∈ wsT ∧ Cond.instanceMethod objectInit ∈ wsT ∧ Cond.code objectInit ⟨#[0xb1]⟩ 1 none ∈ wsT := ⟨(tj1 16 rfl rfl), (tj1 17 rfl rfl), (tj1 18 rfl rfl)⟩
set_option maxRecDepth 20000 in
theorem nw_X6_7 : NW RX6 7 5 tyX5 := ⟨RX5, TX5, 4, rfl, inl_X5, tyX5_ok, (tj1 19 rfl rfl), (tj1 20 rfl rfl), (tj1 2 rfl rfl)⟩
set_option maxRecDepth 20000 in
theorem im_X5_init : Cond.instanceMethod yX5_init ∈ wsT := (tj1 22 rfl rfl)
set_option maxRecDepth 20000 in
theorem l_X6_9 : CL RX6 9 yX5_init cX5_init 1 none 0 := ⟨Or.inr ⟨"BeansBox", (ns1 21 rfl rfl)⟩, (tj1 23 rfl rfl), (tj1 2 rfl rfl), by decide +kernel⟩
set_option maxRecDepth 20000 in
theorem f_X6_10 : FL RX6 10 6 0 := ⟨RX6, TX6, 11, rfl, by decide, inl_X6, Or.inl (tj1 190 rfl rfl)⟩
set_option maxRecDepth 20000 in
theorem p_X6_10 : FP RX6 10 6 0 (tyX6 0) true := ⟨RX6, TX6, 11, tyX6, rfl, tyX6_ok, nmX6, tyX6_ok 0 (by decide), Or.inr ⟨rfl, rfl, rfl, (tj1 190 rfl rfl)⟩⟩
set_option maxRecDepth 20000 in
theorem f_X6_16 : FL RX6 16 6 1 := ⟨RX6, TX6, 11, rfl, by decide, inl_X6, Or.inl (tj1 191 rfl rfl)⟩
set_option maxRecDepth 20000 in
theorem p_X6_16 {ini : Bool} : FP RX6 16 6 1 (tyX6 1) ini := ⟨RX6, TX6, 11, tyX6, rfl, tyX6_ok, nmX6, tyX6_ok 1 (by decide), Or.inl rfl⟩
set_option maxRecDepth 20000 in
theorem nw_X6_20 : NW RX6 20 2 tyX2 := ⟨RX2, TX2, 10, rfl, inl_X2, tyX2_ok, (tj1 41 rfl rfl), (tj1 42 rfl rfl), (tj1 3 rfl rfl)⟩
set_option maxRecDepth 20000 in
theorem im_X2_init : Cond.instanceMethod yX2_init ∈ wsT := (tj1 44 rfl rfl)
set_option maxRecDepth 20000 in
theorem l_X6_22 : CL RX6 22 yX2_init cX2_init 1 none 0 := ⟨Or.inr ⟨"BeansBox", (ns1 43 rfl rfl)⟩, (tj1 45 rfl rfl), (tj1 3 rfl rfl), by decide +kernel⟩
set_option maxRecDepth 20000 in
theorem f_X6_23 : FL RX6 23 6 2 := ⟨RX6, TX6, 11, rfl, by decide, inl_X6, Or.inl (tj1 192 rfl rfl)⟩
set_option maxRecDepth 20000 in
theorem p_X6_23 {ini : Bool} : FP RX6 23 6 2 (tyX6 2) ini := ⟨RX6, TX6, 11, tyX6, rfl, tyX6_ok, nmX6, tyX6_ok 2 (by decide), Or.inl rfl⟩
set_option maxRecDepth 20000 in
theorem f_X6_27 : FL RX6 27 6 3 := ⟨RX6, TX6, 11, rfl, by decide, inl_X6, Or.inl (tj1 193 rfl rfl)⟩
set_option maxRecDepth 20000 in
theorem p_X6_27 {ini : Bool} : FP RX6 27 6 3 (tyX6 3) ini := ⟨RX6, TX6, 11, tyX6, rfl, tyX6_ok, nmX6, tyX6_ok 3 (by decide), Or.inl rfl⟩
set_option maxRecDepth 20000 in
theorem nw_X6_30 : NW RX6 30 0 tyX0 := ⟨RX0, TX0, 7, rfl, inl_X0, tyX0_ok, (tj1 92 rfl rfl), (tj1 93 rfl rfl), (tj1 4 rfl rfl)⟩
set_option maxRecDepth 20000 in
theorem l_X6_32 : CL RX6 32 yX0_init cX0_init 1 none 0 := ⟨Or.inr ⟨"BeansBox", (ns1 94 rfl rfl)⟩, (tj1 96 rfl rfl), (tj1 4 rfl rfl), by decide +kernel⟩
set_option maxRecDepth 20000 in
theorem f_X6_33 : FL RX6 33 6 4 := ⟨RX6, TX6, 11, rfl, by decide, inl_X6, Or.inl (tj1 194 rfl rfl)⟩
set_option maxRecDepth 20000 in
theorem p_X6_33 : FP RX6 33 6 4 (tyX6 4) true := ⟨RX6, TX6, 11, tyX6, rfl, tyX6_ok, nmX6, tyX6_ok 4 (by decide), Or.inr ⟨rfl, rfl, rfl, (tj1 194 rfl rfl)⟩⟩
set_option maxRecDepth 20000 in
theorem f_X6_37 : FL RX6 37 6 5 := ⟨RX6, TX6, 11, rfl, by decide, inl_X6, Or.inl (tj1 195 rfl rfl)⟩
set_option maxRecDepth 20000 in
theorem p_X6_37 : FP RX6 37 6 5 (tyX6 5) true := ⟨RX6, TX6, 11, tyX6, rfl, tyX6_ok, nmX6, tyX6_ok 5 (by decide), Or.inr ⟨rfl, rfl, rfl, (tj1 195 rfl rfl)⟩⟩
set_option maxRecDepth 20000 in
theorem nw_X6_40 : NW RX6 40 4 tyX4 := ⟨RX4, TX4, 3, rfl, inl_X4, tyX4_ok, (tj1 126 rfl rfl), (tj1 127 rfl rfl), (tj1 5 rfl rfl)⟩
set_option maxRecDepth 20000 in
theorem im_X4_init : Cond.instanceMethod yX4_init ∈ wsT := (tj1 129 rfl rfl)
set_option maxRecDepth 20000 in
theorem l_X6_42 : CL RX6 42 yX4_init cX4_init 2 none 0 := ⟨Or.inr ⟨"BeansBox", (ns1 128 rfl rfl)⟩, (tj1 130 rfl rfl), (tj1 5 rfl rfl), by decide +kernel⟩
set_option maxRecDepth 20000 in
theorem f_X6_43 : FL RX6 43 6 6 := ⟨RX6, TX6, 11, rfl, by decide, inl_X6, Or.inl (tj1 196 rfl rfl)⟩
set_option maxRecDepth 20000 in
theorem p_X6_43 : FP RX6 43 6 6 (tyX6 6) true := ⟨RX6, TX6, 11, tyX6, rfl, tyX6_ok, nmX6, tyX6_ok 6 (by decide), Or.inr ⟨rfl, rfl, rfl, (tj1 196 rfl rfl)⟩⟩
set_option maxRecDepth 20000 in
theorem cl_X6_47 : Cond.classLink RX6 47 RX1 ∈ wsT := (tj1 146 rfl rfl)
set_option maxRecDepth 20000 in
theorem f_X6_49 : FL RX6 49 6 7 := ⟨RX6, TX6, 11, rfl, by decide, inl_X6, Or.inl (tj1 197 rfl rfl)⟩
set_option maxRecDepth 20000 in
theorem p_X6_49 : FP RX6 49 6 7 (tyX6 7) true := ⟨RX6, TX6, 11, tyX6, rfl, tyX6_ok, nmX6, tyX6_ok 7 (by decide), Or.inr ⟨rfl, rfl, rfl, (tj1 197 rfl rfl)⟩⟩
set_option maxRecDepth 20000 in
theorem f_X6_53 : FL RX6 53 6 8 := ⟨RX6, TX6, 11, rfl, by decide, inl_X6, Or.inl (tj1 198 rfl rfl)⟩
set_option maxRecDepth 20000 in
theorem p_X6_53 {ini : Bool} : FP RX6 53 6 8 (tyX6 8) ini := ⟨RX6, TX6, 11, tyX6, rfl, tyX6_ok, nmX6, tyX6_ok 8 (by decide), Or.inl rfl⟩
set_option maxRecDepth 20000 in
theorem nw_X6_56 : NW RX6 56 3 tyX3 := ⟨RX3, TX3, 3, rfl, inl_X3, tyX3_ok, (tj1 148 rfl rfl), (tj1 149 rfl rfl), (tj1 6 rfl rfl)⟩
set_option maxRecDepth 20000 in
theorem im_X3_init : Cond.instanceMethod yX3_init ∈ wsT := (tj1 151 rfl rfl)
set_option maxRecDepth 20000 in
theorem l_X6_58 : CL RX6 58 yX3_init cX3_init 3 none 1 := ⟨Or.inr ⟨"BeansBox", (ns1 150 rfl rfl)⟩, (tj1 152 rfl rfl), (tj1 6 rfl rfl), by decide +kernel⟩
set_option maxRecDepth 20000 in
theorem f_X6_61 : FL RX6 61 6 9 := ⟨RX6, TX6, 11, rfl, by decide, inl_X6, Or.inl (tj1 199 rfl rfl)⟩
set_option maxRecDepth 20000 in
theorem p_X6_61 : FP RX6 61 6 9 (tyX6 9) true := ⟨RX6, TX6, 11, tyX6, rfl, tyX6_ok, nmX6, tyX6_ok 9 (by decide), Or.inr ⟨rfl, rfl, rfl, (tj1 199 rfl rfl)⟩⟩
set_option maxRecDepth 20000 in
theorem f_X6_65 : FL RX6 65 6 10 := ⟨RX6, TX6, 11, rfl, by decide, inl_X6, Or.inl (tj1 200 rfl rfl)⟩
set_option maxRecDepth 20000 in
theorem p_X6_65 : FP RX6 65 6 10 (tyX6 10) true := ⟨RX6, TX6, 11, tyX6, rfl, tyX6_ok, nmX6, tyX6_ok 10 (by decide), Or.inr ⟨rfl, rfl, rfl, (tj1 200 rfl rfl)⟩⟩
set_option maxRecDepth 20000 in
theorem nw_X6_47 : NW RX6 47 1 tyX1 := ⟨RX1, TX1, 3, rfl, inl_X1, tyX1_ok, (tj1 146 rfl rfl), (tj1 170 rfl rfl), (tj1 8 rfl rfl)⟩
set_option maxRecDepth 20000 in
theorem im_X1_init : Cond.instanceMethod yX1_init ∈ wsT := (tj1 172 rfl rfl)
set_option maxRecDepth 20000 in
theorem l_X6_68 : CL RX6 68 yX1_init cX1_init 1 none 0 := ⟨Or.inr ⟨"BeansBox", (ns1 171 rfl rfl)⟩, (tj1 173 rfl rfl), (tj1 8 rfl rfl), by decide +kernel⟩
set_option maxRecDepth 20000 in
theorem k_X6_69 : Cond.constant RX6 69 (-1000000002) ∈ wsT := (tj1 228 rfl rfl)
set_option maxRecDepth 20000 in
theorem im_X5_append : Cond.instanceMethod yX5_append ∈ wsT := (tj1 231 rfl rfl)
set_option maxRecDepth 20000 in
theorem se_X5_append : Cond.selects (yX5_append).cls yX5_append yX5_append ∈ wsT := tjs 0 rfl rfl
set_option maxRecDepth 20000 in
theorem l_X6_70 : CL RX6 70 yX5_append cX5_append 2 (some .boolean) 1 := ⟨Or.inr ⟨"BeansBox", (ns1 229 rfl rfl)⟩, (tj1 232 rfl rfl), (tj1 2 rfl rfl), by decide +kernel⟩
set_option maxRecDepth 20000 in
theorem f_X6_74 : FL RX6 74 5 1 := ⟨RX5, TX5, 4, rfl, by decide, inl_X5, Or.inr ⟨"BeansBox", (ns1 27 rfl rfl)⟩⟩
set_option maxRecDepth 20000 in
theorem k_X6_77 : Cond.constant RX6 77 (-1000000004) ∈ wsT := (tj1 233 rfl rfl)
set_option maxRecDepth 20000 in
theorem im_X5_readInto : Cond.instanceMethod yX5_readInto ∈ wsT := (tj2 0 rfl rfl)
set_option maxRecDepth 20000 in
theorem se_X5_readInto : Cond.selects (yX5_readInto).cls yX5_readInto yX5_readInto ∈ wsT := tjs 1 rfl rfl
set_option maxRecDepth 20000 in
theorem l_X6_78 : CL RX6 78 yX5_readInto cX5_readInto 3 (some .int) 1 := ⟨Or.inr ⟨"BeansBox", (ns1 238 rfl rfl)⟩, (tj2 1 rfl rfl), (tj1 2 rfl rfl), by decide +kernel⟩
set_option maxRecDepth 20000 in
theorem f_X6_82 : FL RX6 82 5 2 := ⟨RX5, TX5, 4, rfl, by decide, inl_X5, Or.inr ⟨"BeansBox", (ns1 29 rfl rfl)⟩⟩
set_option maxRecDepth 20000 in
theorem im_X5_forget : Cond.instanceMethod yX5_forget ∈ wsT := (tj2 63 rfl rfl)
set_option maxRecDepth 20000 in
theorem se_X5_forget : Cond.selects (yX5_forget).cls yX5_forget yX5_forget ∈ wsT := tjs 15 rfl rfl
set_option maxRecDepth 20000 in
theorem l_X6_85 : CL RX6 85 yX5_forget cX5_forget 1 none 0 := ⟨Or.inr ⟨"BeansBox", (ns2 61 rfl rfl)⟩, (tj2 64 rfl rfl), (tj1 2 rfl rfl), by decide +kernel⟩
set_option maxRecDepth 20000 in
theorem im_X0_begin : Cond.instanceMethod yX0_begin ∈ wsT := (tj2 67 rfl rfl)
set_option maxRecDepth 20000 in
theorem se_X0_begin : Cond.selects (yX0_begin).cls yX0_begin yX0_begin ∈ wsT := tjs 16 rfl rfl
set_option maxRecDepth 20000 in
theorem l_X6_88 : CL RX6 88 yX0_begin cX0_begin 3 none 1 := ⟨Or.inr ⟨"BeansBox", (ns2 65 rfl rfl)⟩, (tj2 68 rfl rfl), (tj1 4 rfl rfl), by decide +kernel⟩
set_option maxRecDepth 20000 in
theorem im_X4_clear : Cond.instanceMethod yX4_clear ∈ wsT := (tj2 71 rfl rfl)
set_option maxRecDepth 20000 in
theorem se_X4_clear : Cond.selects (yX4_clear).cls yX4_clear yX4_clear ∈ wsT := tjs 17 rfl rfl
set_option maxRecDepth 20000 in
theorem l_X6_92 : CL RX6 92 yX4_clear cX4_clear 1 none 0 := ⟨Or.inr ⟨"BeansBox", (ns2 69 rfl rfl)⟩, (tj2 72 rfl rfl), (tj1 5 rfl rfl), by decide +kernel⟩
set_option maxRecDepth 20000 in
theorem f_X6_95 : FL RX6 95 1 0 := ⟨RX1, TX1, 3, rfl, by decide, inl_X1, Or.inr ⟨"BeansBox", (ns1 178 rfl rfl)⟩⟩
set_option maxRecDepth 20000 in
theorem p_X6_95 {ini : Bool} : FP RX6 95 1 0 (tyX1 0) ini := ⟨RX1, TX1, 3, tyX1, rfl, tyX1_ok, nmX1, tyX1_ok 0 (by decide), Or.inl rfl⟩
set_option maxRecDepth 20000 in
theorem im_X3_clear : Cond.instanceMethod yX3_clear ∈ wsT := (tj2 75 rfl rfl)
set_option maxRecDepth 20000 in
theorem se_X3_clear : Cond.selects (yX3_clear).cls yX3_clear yX3_clear ∈ wsT := tjs 18 rfl rfl
set_option maxRecDepth 20000 in
theorem l_X6_99 : CL RX6 99 yX3_clear cX3_clear 1 none 0 := ⟨Or.inr ⟨"BeansBox", (ns2 73 rfl rfl)⟩, (tj2 76 rfl rfl), (tj1 6 rfl rfl), by decide +kernel⟩
set_option maxRecDepth 20000 in
theorem f_X6_100 : FL RX6 100 2 4 := ⟨RX2, TX2, 10, rfl, by decide, inl_X2, Or.inr ⟨"BeansBox", (ns1 58 rfl rfl)⟩⟩
set_option maxRecDepth 20000 in
theorem f_X6_103 : FL RX6 103 2 1 := ⟨RX2, TX2, 10, rfl, by decide, inl_X2, Or.inr ⟨"BeansBox", (ns1 51 rfl rfl)⟩⟩
set_option maxRecDepth 20000 in
theorem f_X6_106 : FL RX6 106 2 2 := ⟨RX2, TX2, 10, rfl, by decide, inl_X2, Or.inr ⟨"BeansBox", (ns1 53 rfl rfl)⟩⟩
set_option maxRecDepth 20000 in
theorem f_X6_109 : FL RX6 109 2 3 := ⟨RX2, TX2, 10, rfl, by decide, inl_X2, Or.inr ⟨"BeansBox", (ns1 55 rfl rfl)⟩⟩
set_option maxRecDepth 20000 in
theorem f_X6_112 : FL RX6 112 2 5 := ⟨RX2, TX2, 10, rfl, by decide, inl_X2, Or.inr ⟨"BeansBox", (ns1 62 rfl rfl)⟩⟩
set_option maxRecDepth 20000 in
theorem f_X6_115 : FL RX6 115 0 5 := ⟨RX0, TX0, 7, rfl, by decide, inl_X0, Or.inr ⟨"BeansBox", (ns1 108 rfl rfl)⟩⟩
set_option maxRecDepth 20000 in
theorem f_X6_118 : FL RX6 118 0 4 := ⟨RX0, TX0, 7, rfl, by decide, inl_X0, Or.inr ⟨"BeansBox", (ns1 106 rfl rfl)⟩⟩
set_option maxRecDepth 20000 in
theorem f_X6_121 : FL RX6 121 0 6 := ⟨RX0, TX0, 7, rfl, by decide, inl_X0, Or.inr ⟨"BeansBox", (ns1 110 rfl rfl)⟩⟩
set_option maxRecDepth 20000 in
theorem im_X0_allOnList : Cond.instanceMethod yX0_allOnList ∈ wsT := (tj2 87 rfl rfl)
set_option maxRecDepth 20000 in
theorem se_X0_allOnList : Cond.selects (yX0_allOnList).cls yX0_allOnList yX0_allOnList ∈ wsT := tjs 19 rfl rfl
set_option maxRecDepth 20000 in
theorem l_X6_123 : CL RX6 123 yX0_allOnList cX0_allOnList 3 (some .int) 0 := ⟨Or.inr ⟨"BeansBox", (ns2 85 rfl rfl)⟩, (tj2 88 rfl rfl), (tj1 4 rfl rfl), by decide +kernel⟩
set_option maxRecDepth 20000 in
theorem f_X6_127 : FL RX6 127 3 2 := ⟨RX3, TX3, 3, rfl, by decide, inl_X3, Or.inr ⟨"BeansBox", (ns1 162 rfl rfl)⟩⟩
set_option maxRecDepth 20000 in
theorem f_X6_130 : FL RX6 130 4 2 := ⟨RX4, TX4, 3, rfl, by decide, inl_X4, Or.inr ⟨"BeansBox", (ns1 138 rfl rfl)⟩⟩
set_option maxRecDepth 20000 in
theorem im_X6_isWord : Cond.instanceMethod yX6_isWord ∈ wsT := (tj2 95 rfl rfl)
set_option maxRecDepth 20000 in
theorem se_X6_isWord : Cond.selects (yX6_isWord).cls yX6_isWord yX6_isWord ∈ wsT := tjs 20 rfl rfl
set_option maxRecDepth 20000 in
theorem l_X6_131 : CL RX6 131 yX6_isWord cX6_isWord 2 (some .boolean) 1 := ⟨Or.inl (tj2 93 rfl rfl), (tj2 96 rfl rfl), (tj1 1 rfl rfl), by decide +kernel⟩
set_option maxRecDepth 20000 in
theorem k_X6_134 : Cond.constant RX6 134 (-1000000001) ∈ wsT := (tj2 97 rfl rfl)
set_option maxRecDepth 20000 in
theorem f_X6_135 : FL RX6 135 0 1 := ⟨RX0, TX0, 7, rfl, by decide, inl_X0, Or.inr ⟨"BeansBox", (ns1 100 rfl rfl)⟩⟩
set_option maxRecDepth 20000 in
theorem f_X6_139 : FL RX6 139 0 2 := ⟨RX0, TX0, 7, rfl, by decide, inl_X0, Or.inr ⟨"BeansBox", (ns1 102 rfl rfl)⟩⟩
set_option maxRecDepth 20000 in
theorem f_X6_142 : FL RX6 142 2 8 := ⟨RX2, TX2, 10, rfl, by decide, inl_X2, Or.inr ⟨"BeansBox", (ns1 68 rfl rfl)⟩⟩
set_option maxRecDepth 20000 in
theorem f_X6_145 : FL RX6 145 0 3 := ⟨RX0, TX0, 7, rfl, by decide, inl_X0, Or.inr ⟨"BeansBox", (ns1 104 rfl rfl)⟩⟩
set_option maxRecDepth 20000 in
theorem im_X6_isVoice : Cond.instanceMethod yX6_isVoice ∈ wsT := (tj2 104 rfl rfl)
set_option maxRecDepth 20000 in
theorem se_X6_isVoice : Cond.selects (yX6_isVoice).cls yX6_isVoice yX6_isVoice ∈ wsT := tjs 21 rfl rfl
set_option maxRecDepth 20000 in
theorem l_X6_148 : CL RX6 148 yX6_isVoice cX6_isVoice 2 (some .boolean) 1 := ⟨Or.inl (tj2 102 rfl rfl), (tj2 105 rfl rfl), (tj1 1 rfl rfl), by decide +kernel⟩
set_option maxRecDepth 20000 in
theorem f_X6_151 : FL RX6 151 2 9 := ⟨RX2, TX2, 10, rfl, by decide, inl_X2, Or.inr ⟨"BeansBox", (ns1 70 rfl rfl)⟩⟩
set_option maxRecDepth 20000 in
theorem st_X6_isSound : Cond.static yX6_isSound ∈ wsT := (tj2 111 rfl rfl)
set_option maxRecDepth 20000 in
theorem l_X6_154 : CL RX6 154 yX6_isSound cX6_isSound 1 (some .boolean) 1 := ⟨Or.inl (tj2 110 rfl rfl), (tj2 112 rfl rfl), (tj1 1 rfl rfl), by decide +kernel⟩
set_option maxRecDepth 20000 in
theorem k_X6_157 : Cond.constant RX6 157 (-1000000003) ∈ wsT := (tj2 113 rfl rfl)
set_option maxRecDepth 20000 in
theorem im_X4_push : Cond.instanceMethod yX4_push ∈ wsT := (tj2 116 rfl rfl)
set_option maxRecDepth 20000 in
theorem se_X4_push : Cond.selects (yX4_push).cls yX4_push yX4_push ∈ wsT := tjs 22 rfl rfl
set_option maxRecDepth 20000 in
theorem l_X6_158 : CL RX6 158 yX4_push cX4_push 2 none 1 := ⟨Or.inr ⟨"BeansBox", (ns2 114 rfl rfl)⟩, (tj2 117 rfl rfl), (tj1 5 rfl rfl), by decide +kernel⟩
set_option maxRecDepth 20000 in
theorem im_X6_takeIn : Cond.instanceMethod yX6_takeIn ∈ wsT := (tj2 125 rfl rfl)
set_option maxRecDepth 20000 in
theorem se_X6_takeIn : Cond.selects (yX6_takeIn).cls yX6_takeIn yX6_takeIn ∈ wsT := tjs 24 rfl rfl
set_option maxRecDepth 20000 in
theorem l_X6_162 : CL RX6 162 yX6_takeIn cX6_takeIn 3 (some .int) 1 := ⟨Or.inl (tj2 123 rfl rfl), (tj2 126 rfl rfl), (tj1 1 rfl rfl), by decide +kernel⟩
set_option maxRecDepth 20000 in
theorem l_X6_166 : CL RX6 166 yX0_correctTo cX0_correctTo 2 none 1 := ⟨Or.inr ⟨"BeansBox", (ns2 172 rfl rfl)⟩, (tj2 175 rfl rfl), (tj1 4 rfl rfl), by decide +kernel⟩
set_option maxRecDepth 20000 in
theorem l_X6_169 : CL RX6 169 yX0_confirm cX0_confirm 1 none 0 := ⟨Or.inr ⟨"BeansBox", (ns2 181 rfl rfl)⟩, (tj2 184 rfl rfl), (tj1 4 rfl rfl), by decide +kernel⟩
set_option maxRecDepth 20000 in
theorem l_X6_172 : CL RX6 172 yX6_apart cX6_apart 2 (some .int) 2 := ⟨Or.inl (tj2 189 rfl rfl), (tj2 145 rfl rfl), (tj1 1 rfl rfl), by decide +kernel⟩
set_option maxRecDepth 20000 in
theorem f_X6_176 : FL RX6 176 2 0 := ⟨RX2, TX2, 10, rfl, by decide, inl_X2, Or.inr ⟨"BeansBox", (ns1 49 rfl rfl)⟩⟩
set_option maxRecDepth 20000 in
theorem im_X6_draw : Cond.instanceMethod yX6_draw ∈ wsT := (tj2 196 rfl rfl)
set_option maxRecDepth 20000 in
theorem se_X6_draw : Cond.selects (yX6_draw).cls yX6_draw yX6_draw ∈ wsT := tjs 35 rfl rfl
set_option maxRecDepth 20000 in
theorem l_X6_179 : CL RX6 179 yX6_draw cX6_draw 2 (some .int) 1 := ⟨Or.inl (tj2 194 rfl rfl), (tj2 197 rfl rfl), (tj1 1 rfl rfl), by decide +kernel⟩
set_option maxRecDepth 20000 in
theorem im_X6_spoken : Cond.instanceMethod yX6_spoken ∈ wsT := (tj2 204 rfl rfl)
set_option maxRecDepth 20000 in
theorem se_X6_spoken : Cond.selects (yX6_spoken).cls yX6_spoken yX6_spoken ∈ wsT := tjs 36 rfl rfl
set_option maxRecDepth 20000 in
theorem l_X6_182 : CL RX6 182 yX6_spoken cX6_spoken 3 (some .int) 2 := ⟨Or.inl (tj2 202 rfl rfl), (tj2 205 rfl rfl), (tj1 1 rfl rfl), by decide +kernel⟩
set_option maxRecDepth 20000 in
theorem im_X0_learn : Cond.instanceMethod yX0_learn ∈ wsT := (tj2 211 rfl rfl)
set_option maxRecDepth 20000 in
theorem se_X0_learn : Cond.selects (yX0_learn).cls yX0_learn yX0_learn ∈ wsT := tjs 37 rfl rfl
set_option maxRecDepth 20000 in
theorem l_X6_185 : CL RX6 185 yX0_learn cX0_learn 3 none 2 := ⟨Or.inr ⟨"BeansBox", (ns2 209 rfl rfl)⟩, (tj2 212 rfl rfl), (tj1 4 rfl rfl), by decide +kernel⟩
set_option maxRecDepth 20000 in
theorem im_X4_pop : Cond.instanceMethod yX4_pop ∈ wsT := (tj2 221 rfl rfl)
set_option maxRecDepth 20000 in
theorem se_X4_pop : Cond.selects (yX4_pop).cls yX4_pop yX4_pop ∈ wsT := tjs 38 rfl rfl
set_option maxRecDepth 20000 in
theorem l_X6_189 : CL RX6 189 yX4_pop cX4_pop 2 (some .boolean) 1 := ⟨Or.inr ⟨"BeansBox", (ns2 219 rfl rfl)⟩, (tj2 222 rfl rfl), (tj1 5 rfl rfl), by decide +kernel⟩
set_option maxRecDepth 20000 in
theorem im_X0_strongest : Cond.instanceMethod yX0_strongest ∈ wsT := (tj2 137 rfl rfl)
set_option maxRecDepth 20000 in
theorem se_X0_strongest : Cond.selects (yX0_strongest).cls yX0_strongest yX0_strongest ∈ wsT := tjs 27 rfl rfl
set_option maxRecDepth 20000 in
theorem l_X6_193 : CL RX6 193 yX0_strongest cX0_strongest 6 (some .int) 1 := ⟨Or.inr ⟨"BeansBox", (ns2 135 rfl rfl)⟩, (tj2 138 rfl rfl), (tj1 4 rfl rfl), by decide +kernel⟩
set_option maxRecDepth 20000 in
theorem im_X0_certainty : Cond.instanceMethod yX0_certainty ∈ wsT := (tj2 152 rfl rfl)
set_option maxRecDepth 20000 in
theorem se_X0_certainty : Cond.selects (yX0_certainty).cls yX0_certainty yX0_certainty ∈ wsT := tjs 29 rfl rfl
set_option maxRecDepth 20000 in
theorem l_X6_196 : CL RX6 196 yX0_certainty cX0_certainty 5 (some .int) 2 := ⟨Or.inr ⟨"BeansBox", (ns2 150 rfl rfl)⟩, (tj2 153 rfl rfl), (tj1 4 rfl rfl), by decide +kernel⟩
set_option maxRecDepth 20000 in
theorem im_X6_cheapest : Cond.instanceMethod yX6_cheapest ∈ wsT := (tj2 129 rfl rfl)
set_option maxRecDepth 20000 in
theorem se_X6_cheapest : Cond.selects (yX6_cheapest).cls yX6_cheapest yX6_cheapest ∈ wsT := tjs 25 rfl rfl
set_option maxRecDepth 20000 in
theorem l_X6_199 : CL RX6 199 yX6_cheapest cX6_cheapest 7 (some .int) 2 := ⟨Or.inl (tj2 127 rfl rfl), (tj2 130 rfl rfl), (tj1 1 rfl rfl), by decide +kernel⟩
set_option maxRecDepth 20000 in
theorem im_X6_cost : Cond.instanceMethod yX6_cost ∈ wsT := (tj2 133 rfl rfl)
set_option maxRecDepth 20000 in
theorem se_X6_cost : Cond.selects (yX6_cost).cls yX6_cost yX6_cost ∈ wsT := tjs 26 rfl rfl
set_option maxRecDepth 20000 in
theorem l_X6_203 : CL RX6 203 yX6_cost cX6_cost 5 (some .int) 3 := ⟨Or.inl (tj2 131 rfl rfl), (tj2 134 rfl rfl), (tj1 1 rfl rfl), by decide +kernel⟩
set_option maxRecDepth 20000 in
theorem im_X6_understood : Cond.instanceMethod yX6_understood ∈ wsT := (tj3 9 rfl rfl)
set_option maxRecDepth 20000 in
theorem se_X6_understood : Cond.selects (yX6_understood).cls yX6_understood yX6_understood ∈ wsT := tjs 39 rfl rfl
set_option maxRecDepth 20000 in
theorem l_X6_207 : CL RX6 207 yX6_understood cX6_understood 3 (some .int) 2 := ⟨Or.inl (tj3 7 rfl rfl), (tj3 10 rfl rfl), (tj1 1 rfl rfl), by decide +kernel⟩
set_option maxRecDepth 20000 in
theorem im_X6_wordsSpokenAs : Cond.instanceMethod yX6_wordsSpokenAs ∈ wsT := (tj3 17 rfl rfl)
set_option maxRecDepth 20000 in
theorem se_X6_wordsSpokenAs : Cond.selects (yX6_wordsSpokenAs).cls yX6_wordsSpokenAs yX6_wordsSpokenAs ∈ wsT := tjs 40 rfl rfl
set_option maxRecDepth 20000 in
theorem l_X6_210 : CL RX6 210 yX6_wordsSpokenAs cX6_wordsSpokenAs 5 (some .int) 2 := ⟨Or.inl (tj3 15 rfl rfl), (tj3 18 rfl rfl), (tj1 1 rfl rfl), by decide +kernel⟩
set_option maxRecDepth 20000 in
theorem st_X6_isDistance : Cond.static yX6_isDistance ∈ wsT := (tj3 28 rfl rfl)
set_option maxRecDepth 20000 in
theorem l_X6_213 : CL RX6 213 yX6_isDistance cX6_isDistance 1 (some .boolean) 1 := ⟨Or.inl (tj3 27 rfl rfl), (tj3 29 rfl rfl), (tj1 1 rfl rfl), by decide +kernel⟩
set_option maxRecDepth 20000 in
theorem im_X0_nearest : Cond.instanceMethod yX0_nearest ∈ wsT := (tj3 36 rfl rfl)
set_option maxRecDepth 20000 in
theorem se_X0_nearest : Cond.selects (yX0_nearest).cls yX0_nearest yX0_nearest ∈ wsT := tjs 41 rfl rfl
set_option maxRecDepth 20000 in
theorem l_X6_216 : CL RX6 216 yX0_nearest cX0_nearest 4 (some .int) 1 := ⟨Or.inr ⟨"BeansBox", (ns3 34 rfl rfl)⟩, (tj3 37 rfl rfl), (tj1 4 rfl rfl), by decide +kernel⟩
set_option maxRecDepth 20000 in
theorem l_X6_219 : CL RX6 219 yX0_copy cX0_copy 3 none 1 := ⟨Or.inr ⟨"BeansBox", (ns3 46 rfl rfl)⟩, (tj2 121 rfl rfl), (tj1 4 rfl rfl), by decide +kernel⟩
set_option maxRecDepth 20000 in
theorem im_X6_voicesHeardRight : Cond.instanceMethod yX6_voicesHeardRight ∈ wsT := (tj3 53 rfl rfl)
set_option maxRecDepth 20000 in
theorem se_X6_voicesHeardRight : Cond.selects (yX6_voicesHeardRight).cls yX6_voicesHeardRight yX6_voicesHeardRight ∈ wsT := tjs 42 rfl rfl
set_option maxRecDepth 20000 in
theorem l_X6_222 : CL RX6 222 yX6_voicesHeardRight cX6_voicesHeardRight 6 (some .int) 3 := ⟨Or.inl (tj3 51 rfl rfl), (tj3 54 rfl rfl), (tj1 1 rfl rfl), by decide +kernel⟩
set_option maxRecDepth 20000 in
theorem k_X6_226 : Cond.constantLong RX6 226 (1000000000) ∈ wsT := (tj3 63 rfl rfl)
set_option maxRecDepth 20000 in
theorem k_X6_228 : Cond.constantLong RX6 228 (100) ∈ wsT := (tj3 64 rfl rfl)
set_option maxRecDepth 20000 in
theorem im_X3_append : Cond.instanceMethod yX3_append ∈ wsT := (tj3 71 rfl rfl)
set_option maxRecDepth 20000 in
theorem se_X3_append : Cond.selects (yX3_append).cls yX3_append yX3_append ∈ wsT := tjs 43 rfl rfl
set_option maxRecDepth 20000 in
theorem l_X6_230 : CL RX6 230 yX3_append cX3_append 3 (some .boolean) 2 := ⟨Or.inr ⟨"BeansBox", (ns3 69 rfl rfl)⟩, (tj3 72 rfl rfl), (tj1 6 rfl rfl), by decide +kernel⟩
set_option maxRecDepth 20000 in
theorem im_X6_couldHaveSpoken : Cond.instanceMethod yX6_couldHaveSpoken ∈ wsT := (tj3 79 rfl rfl)
set_option maxRecDepth 20000 in
theorem se_X6_couldHaveSpoken : Cond.selects (yX6_couldHaveSpoken).cls yX6_couldHaveSpoken yX6_couldHaveSpoken ∈ wsT := tjs 44 rfl rfl
set_option maxRecDepth 20000 in
theorem l_X6_233 : CL RX6 233 yX6_couldHaveSpoken cX6_couldHaveSpoken 4 (some .boolean) 1 := ⟨Or.inl (tj3 77 rfl rfl), (tj3 80 rfl rfl), (tj1 1 rfl rfl), by decide +kernel⟩
set_option maxRecDepth 20000 in
theorem im_X6_speaker : Cond.instanceMethod yX6_speaker ∈ wsT := (tj3 74 rfl rfl)
set_option maxRecDepth 20000 in
theorem se_X6_speaker : Cond.selects (yX6_speaker).cls yX6_speaker yX6_speaker ∈ wsT := (tj3 75 rfl rfl)
set_option maxRecDepth 20000 in
theorem l_X6_236 : CL RX6 236 yX6_speaker cX6_speaker 3 (some .int) 0 := ⟨Or.inl (tj3 85 rfl rfl), (tj3 76 rfl rfl), (tj1 1 rfl rfl), by decide +kernel⟩
set_option maxRecDepth 20000 in
theorem st_J6_bitCount_0f7a4 : Cond.static yJ6_bitCount_0f7a4 ∈ wsT := (tj3 87 rfl rfl)
set_option maxRecDepth 20000 in
theorem l_X6_239 : CL RX6 239 yJ6_bitCount_0f7a4 cJ6_bitCount_0f7a4 1 (some .int) 1 := ⟨Or.inl (tj3 86 rfl rfl), (tj3 88 rfl rfl), (tj1 10 rfl rfl), by decide +kernel⟩
set_option maxRecDepth 20000 in
theorem im_X6_greatestPart : Cond.instanceMethod yX6_greatestPart ∈ wsT := (tj3 94 rfl rfl)
set_option maxRecDepth 20000 in
theorem se_X6_greatestPart : Cond.selects (yX6_greatestPart).cls yX6_greatestPart yX6_greatestPart ∈ wsT := tjs 45 rfl rfl
set_option maxRecDepth 20000 in
theorem l_X6_244 : CL RX6 244 yX6_greatestPart cX6_greatestPart 7 (some .int) 2 := ⟨Or.inl (tj3 92 rfl rfl), (tj3 95 rfl rfl), (tj1 1 rfl rfl), by decide +kernel⟩
set_option maxRecDepth 20000 in
theorem f_X6_247 : FL RX6 247 3 0 := ⟨RX3, TX3, 3, rfl, by decide, inl_X3, Or.inr ⟨"BeansBox", (ns1 158 rfl rfl)⟩⟩
set_option maxRecDepth 20000 in
theorem f_X6_250 : FL RX6 250 3 1 := ⟨RX3, TX3, 3, rfl, by decide, inl_X3, Or.inr ⟨"BeansBox", (ns1 160 rfl rfl)⟩⟩
set_option maxRecDepth 20000 in
theorem st_X6_isImage : Cond.static yX6_isImage ∈ wsT := (tj3 118 rfl rfl)
set_option maxRecDepth 20000 in
theorem l_X6_253 : CL RX6 253 yX6_isImage cX6_isImage 1 (some .boolean) 1 := ⟨Or.inl (tj3 117 rfl rfl), (tj3 119 rfl rfl), (tj1 1 rfl rfl), by decide +kernel⟩
set_option maxRecDepth 20000 in
theorem f_X6_256 : FL RX6 256 1 1 := ⟨RX1, TX1, 3, rfl, by decide, inl_X1, Or.inr ⟨"BeansBox", (ns1 180 rfl rfl)⟩⟩
set_option maxRecDepth 20000 in
theorem f_X6_259 : FL RX6 259 1 2 := ⟨RX1, TX1, 3, rfl, by decide, inl_X1, Or.inr ⟨"BeansBox", (ns1 182 rfl rfl)⟩⟩
set_option maxRecDepth 20000 in
theorem p_X6_259 {ini : Bool} : FP RX6 259 1 2 (tyX1 2) ini := ⟨RX1, TX1, 3, tyX1, rfl, tyX1_ok, nmX1, tyX1_ok 2 (by decide), Or.inl rfl⟩
set_option maxRecDepth 20000 in
theorem ml_X6_260 : ML RX6 260 Lib.Math.abs.name Lib.Math.abs.code 1 := ⟨(tj2 146 rfl rfl), (tj2 147 rfl rfl), (tj1 7 rfl rfl), (tj2 148 rfl rfl)⟩
set_option maxRecDepth 20000 in
theorem st_X6_shifted : Cond.static yX6_shifted ∈ wsT := (tj2 207 rfl rfl)
set_option maxRecDepth 20000 in
theorem l_X6_265 : CL RX6 265 yX6_shifted cX6_shifted 5 (some .int) 2 := ⟨Or.inl (tj2 206 rfl rfl), (tj2 208 rfl rfl), (tj1 1 rfl rfl), by decide +kernel⟩
set_option maxRecDepth 20000 in
theorem k_X6_268 : Cond.constant RX6 268 (1000000) ∈ wsT := (tj2 149 rfl rfl)
set_option maxRecDepth 20000 in
theorem im_X0_react : Cond.instanceMethod yX0_react ∈ wsT := (tj2 157 rfl rfl)
set_option maxRecDepth 20000 in
theorem se_X0_react : Cond.selects (yX0_react).cls yX0_react yX0_react ∈ wsT := tjs 30 rfl rfl
set_option maxRecDepth 20000 in
theorem l_X6_269 : CL RX6 269 yX0_react cX0_react 3 none 2 := ⟨Or.inr ⟨"BeansBox", (ns2 155 rfl rfl)⟩, (tj2 158 rfl rfl), (tj1 4 rfl rfl), by decide +kernel⟩
set_option maxRecDepth 20000 in
theorem k_X6_273 : Cond.constantLong RX6 273 (1103515245) ∈ wsT := (tj2 198 rfl rfl)
set_option maxRecDepth 20000 in
theorem k_X6_275 : Cond.constantLong RX6 275 (12345) ∈ wsT := (tj2 199 rfl rfl)
set_option maxRecDepth 20000 in
theorem k_X6_277 : Cond.constantLong RX6 277 (2147483648) ∈ wsT := (tj2 200 rfl rfl)
set_option maxRecDepth 20000 in
theorem k_X6_279 : Cond.constant RX6 279 (65536) ∈ wsT := (tj2 201 rfl rfl)
set_option maxRecDepth 20000 in
theorem ml_X6_280 : ML RX6 280 Lib.Math.max.name Lib.Math.max.code 2 := ⟨(tj3 96 rfl rfl), (tj1 155 rfl rfl), (tj1 7 rfl rfl), (tj1 156 rfl rfl)⟩
set_option maxRecDepth 20000 in
theorem oi_X7_1 : Cond.methodLink RX7 1 objectInit ∈ wsT ∧ Cond.instanceMethod objectInit ∈ wsT ∧ Cond.code objectInit ⟨#[0xb1]⟩ 1 none ∈ wsT := ⟨(tj3 129 rfl rfl), (tj1 17 rfl rfl), (tj1 18 rfl rfl)⟩
set_option maxRecDepth 20000 in
theorem f_X7_7 : FL RX7 7 7 1 := ⟨RX7, TX7, 29, rfl, by decide, inl_X7, Or.inl (tj3 131 rfl rfl)⟩
set_option maxRecDepth 20000 in
theorem p_X7_7 : FP RX7 7 7 1 (tyX7 1) true := ⟨RX7, TX7, 29, tyX7, rfl, tyX7_ok, nmX7, tyX7_ok 1 (by decide), Or.inr ⟨rfl, rfl, rfl, (tj3 131 rfl rfl)⟩⟩
set_option maxRecDepth 20000 in
theorem f_X7_13 : FL RX7 13 7 2 := ⟨RX7, TX7, 29, rfl, by decide, inl_X7, Or.inl (tj3 132 rfl rfl)⟩
set_option maxRecDepth 20000 in
theorem p_X7_13 {ini : Bool} : FP RX7 13 7 2 (tyX7 2) ini := ⟨RX7, TX7, 29, tyX7, rfl, tyX7_ok, nmX7, tyX7_ok 2 (by decide), Or.inl rfl⟩
set_option maxRecDepth 20000 in
theorem f_X7_17 : FL RX7 17 7 7 := ⟨RX7, TX7, 29, rfl, by decide, inl_X7, Or.inl (tj3 137 rfl rfl)⟩
set_option maxRecDepth 20000 in
theorem p_X7_17 : FP RX7 17 7 7 (tyX7 7) true := ⟨RX7, TX7, 29, tyX7, rfl, tyX7_ok, nmX7, tyX7_ok 7 (by decide), Or.inr ⟨rfl, rfl, rfl, (tj3 137 rfl rfl)⟩⟩
set_option maxRecDepth 20000 in
theorem f_X7_20 : FL RX7 20 7 8 := ⟨RX7, TX7, 29, rfl, by decide, inl_X7, Or.inl (tj3 138 rfl rfl)⟩
set_option maxRecDepth 20000 in
theorem p_X7_20 : FP RX7 20 7 8 (tyX7 8) true := ⟨RX7, TX7, 29, tyX7, rfl, tyX7_ok, nmX7, tyX7_ok 8 (by decide), Or.inr ⟨rfl, rfl, rfl, (tj3 138 rfl rfl)⟩⟩
set_option maxRecDepth 20000 in
theorem f_X7_23 : FL RX7 23 7 9 := ⟨RX7, TX7, 29, rfl, by decide, inl_X7, Or.inl (tj3 139 rfl rfl)⟩
set_option maxRecDepth 20000 in
theorem p_X7_23 : FP RX7 23 7 9 (tyX7 9) true := ⟨RX7, TX7, 29, tyX7, rfl, tyX7_ok, nmX7, tyX7_ok 9 (by decide), Or.inr ⟨rfl, rfl, rfl, (tj3 139 rfl rfl)⟩⟩
set_option maxRecDepth 20000 in
theorem f_X7_26 : FL RX7 26 7 14 := ⟨RX7, TX7, 29, rfl, by decide, inl_X7, Or.inl (tj3 144 rfl rfl)⟩
set_option maxRecDepth 20000 in
theorem p_X7_26 : FP RX7 26 7 14 (tyX7 14) true := ⟨RX7, TX7, 29, tyX7, rfl, tyX7_ok, nmX7, tyX7_ok 14 (by decide), Or.inr ⟨rfl, rfl, rfl, (tj3 144 rfl rfl)⟩⟩
set_option maxRecDepth 20000 in
theorem f_X7_29 : FL RX7 29 7 15 := ⟨RX7, TX7, 29, rfl, by decide, inl_X7, Or.inl (tj3 145 rfl rfl)⟩
set_option maxRecDepth 20000 in
theorem p_X7_29 : FP RX7 29 7 15 (tyX7 15) true := ⟨RX7, TX7, 29, tyX7, rfl, tyX7_ok, nmX7, tyX7_ok 15 (by decide), Or.inr ⟨rfl, rfl, rfl, (tj3 145 rfl rfl)⟩⟩
set_option maxRecDepth 20000 in
theorem f_X7_32 : FL RX7 32 7 16 := ⟨RX7, TX7, 29, rfl, by decide, inl_X7, Or.inl (tj3 146 rfl rfl)⟩
set_option maxRecDepth 20000 in
theorem p_X7_32 : FP RX7 32 7 16 (tyX7 16) true := ⟨RX7, TX7, 29, tyX7, rfl, tyX7_ok, nmX7, tyX7_ok 16 (by decide), Or.inr ⟨rfl, rfl, rfl, (tj3 146 rfl rfl)⟩⟩
set_option maxRecDepth 20000 in
theorem f_X7_35 : FL RX7 35 7 17 := ⟨RX7, TX7, 29, rfl, by decide, inl_X7, Or.inl (tj3 147 rfl rfl)⟩
set_option maxRecDepth 20000 in
theorem p_X7_35 : FP RX7 35 7 17 (tyX7 17) true := ⟨RX7, TX7, 29, tyX7, rfl, tyX7_ok, nmX7, tyX7_ok 17 (by decide), Or.inr ⟨rfl, rfl, rfl, (tj3 147 rfl rfl)⟩⟩
set_option maxRecDepth 20000 in
theorem f_X7_38 : FL RX7 38 7 20 := ⟨RX7, TX7, 29, rfl, by decide, inl_X7, Or.inl (tj3 150 rfl rfl)⟩
set_option maxRecDepth 20000 in
theorem p_X7_38 : FP RX7 38 7 20 (tyX7 20) true := ⟨RX7, TX7, 29, tyX7, rfl, tyX7_ok, nmX7, tyX7_ok 20 (by decide), Or.inr ⟨rfl, rfl, rfl, (tj3 150 rfl rfl)⟩⟩
set_option maxRecDepth 20000 in
theorem f_X7_41 : FL RX7 41 7 23 := ⟨RX7, TX7, 29, rfl, by decide, inl_X7, Or.inl (tj3 153 rfl rfl)⟩
set_option maxRecDepth 20000 in
theorem p_X7_41 : FP RX7 41 7 23 (tyX7 23) true := ⟨RX7, TX7, 29, tyX7, rfl, tyX7_ok, nmX7, tyX7_ok 23 (by decide), Or.inr ⟨rfl, rfl, rfl, (tj3 153 rfl rfl)⟩⟩
set_option maxRecDepth 20000 in
theorem f_X7_44 : FL RX7 44 7 25 := ⟨RX7, TX7, 29, rfl, by decide, inl_X7, Or.inl (tj3 155 rfl rfl)⟩
set_option maxRecDepth 20000 in
theorem p_X7_44 : FP RX7 44 7 25 (tyX7 25) true := ⟨RX7, TX7, 29, tyX7, rfl, tyX7_ok, nmX7, tyX7_ok 25 (by decide), Or.inr ⟨rfl, rfl, rfl, (tj3 155 rfl rfl)⟩⟩
set_option maxRecDepth 20000 in
theorem f_X7_47 : FL RX7 47 7 26 := ⟨RX7, TX7, 29, rfl, by decide, inl_X7, Or.inl (tj3 156 rfl rfl)⟩
set_option maxRecDepth 20000 in
theorem p_X7_47 : FP RX7 47 7 26 (tyX7 26) true := ⟨RX7, TX7, 29, tyX7, rfl, tyX7_ok, nmX7, tyX7_ok 26 (by decide), Or.inr ⟨rfl, rfl, rfl, (tj3 156 rfl rfl)⟩⟩
set_option maxRecDepth 20000 in
theorem f_X7_51 : FL RX7 51 7 27 := ⟨RX7, TX7, 29, rfl, by decide, inl_X7, Or.inl (tj3 157 rfl rfl)⟩
set_option maxRecDepth 20000 in
theorem p_X7_51 : FP RX7 51 7 27 (tyX7 27) true := ⟨RX7, TX7, 29, tyX7, rfl, tyX7_ok, nmX7, tyX7_ok 27 (by decide), Or.inr ⟨rfl, rfl, rfl, (tj3 157 rfl rfl)⟩⟩
set_option maxRecDepth 20000 in
theorem f_X7_54 : FL RX7 54 7 28 := ⟨RX7, TX7, 29, rfl, by decide, inl_X7, Or.inl (tj3 158 rfl rfl)⟩
set_option maxRecDepth 20000 in
theorem p_X7_54 : FP RX7 54 7 28 (tyX7 28) true := ⟨RX7, TX7, 29, tyX7, rfl, tyX7_ok, nmX7, tyX7_ok 28 (by decide), Or.inr ⟨rfl, rfl, rfl, (tj3 158 rfl rfl)⟩⟩
set_option maxRecDepth 20000 in
theorem st_X7_in : Cond.static yX7_in ∈ wsT := (tj3 225 rfl rfl)
set_option maxRecDepth 20000 in
theorem l_X7_58 : CL RX7 58 yX7_in cX7_in 3 (some .boolean) 3 := ⟨Or.inl (tj3 224 rfl rfl), (tj3 226 rfl rfl), (tj1 9 rfl rfl), by decide +kernel⟩
set_option maxRecDepth 20000 in
theorem k_X7_62 : Cond.constant RX7 62 (-1000000002) ∈ wsT := (tj3 227 rfl rfl)
set_option maxRecDepth 20000 in
theorem f_X7_63 : FL RX7 63 7 0 := ⟨RX7, TX7, 29, rfl, by decide, inl_X7, Or.inl (tj3 130 rfl rfl)⟩
set_option maxRecDepth 20000 in
theorem k_X7_66 : Cond.constant RX7 66 (-1000000004) ∈ wsT := (tj3 228 rfl rfl)
set_option maxRecDepth 20000 in
theorem p_X7_63 {ini : Bool} : FP RX7 63 7 0 (tyX7 0) ini := ⟨RX7, TX7, 29, tyX7, rfl, tyX7_ok, nmX7, tyX7_ok 0 (by decide), Or.inl rfl⟩
set_option maxRecDepth 20000 in
theorem f_X7_67 : FL RX7 67 7 3 := ⟨RX7, TX7, 29, rfl, by decide, inl_X7, Or.inl (tj3 133 rfl rfl)⟩
set_option maxRecDepth 20000 in
theorem im_X7_letterAt : Cond.instanceMethod yX7_letterAt ∈ wsT := (tj4 7 rfl rfl)
set_option maxRecDepth 20000 in
theorem se_X7_letterAt : Cond.selects (yX7_letterAt).cls yX7_letterAt yX7_letterAt ∈ wsT := tjs 48 rfl rfl
set_option maxRecDepth 20000 in
theorem l_X7_70 : CL RX7 70 yX7_letterAt cX7_letterAt 2 (some .int) 1 := ⟨Or.inl (tj4 5 rfl rfl), (tj4 8 rfl rfl), (tj1 9 rfl rfl), by decide +kernel⟩
set_option maxRecDepth 20000 in
theorem p_X7_67 {ini : Bool} : FP RX7 67 7 3 (tyX7 3) ini := ⟨RX7, TX7, 29, tyX7, rfl, tyX7_ok, nmX7, tyX7_ok 3 (by decide), Or.inl rfl⟩
set_option maxRecDepth 20000 in
theorem f_X7_74 : FL RX7 74 7 4 := ⟨RX7, TX7, 29, rfl, by decide, inl_X7, Or.inl (tj3 134 rfl rfl)⟩
set_option maxRecDepth 20000 in
theorem p_X7_74 {ini : Bool} : FP RX7 74 7 4 (tyX7 4) ini := ⟨RX7, TX7, 29, tyX7, rfl, tyX7_ok, nmX7, tyX7_ok 4 (by decide), Or.inl rfl⟩
set_option maxRecDepth 20000 in
theorem im_X7_blanks : Cond.instanceMethod yX7_blanks ∈ wsT := (tj4 3 rfl rfl)
set_option maxRecDepth 20000 in
theorem se_X7_blanks : Cond.selects (yX7_blanks).cls yX7_blanks yX7_blanks ∈ wsT := tjs 47 rfl rfl
set_option maxRecDepth 20000 in
theorem l_X7_77 : CL RX7 77 yX7_blanks cX7_blanks 1 none 0 := ⟨Or.inl (tj4 1 rfl rfl), (tj4 4 rfl rfl), (tj1 9 rfl rfl), by decide +kernel⟩
set_option maxRecDepth 20000 in
theorem im_X7_fails : Cond.instanceMethod yX7_fails ∈ wsT := (tj4 19 rfl rfl)
set_option maxRecDepth 20000 in
theorem se_X7_fails : Cond.selects (yX7_fails).cls yX7_fails yX7_fails ∈ wsT := tjs 51 rfl rfl
set_option maxRecDepth 20000 in
theorem l_X7_80 : CL RX7 80 yX7_fails cX7_fails 2 (some .boolean) 1 := ⟨Or.inl (tj4 17 rfl rfl), (tj4 20 rfl rfl), (tj1 9 rfl rfl), by decide +kernel⟩
set_option maxRecDepth 20000 in
theorem im_X7_number : Cond.instanceMethod yX7_number ∈ wsT := (tj4 23 rfl rfl)
set_option maxRecDepth 20000 in
theorem se_X7_number : Cond.selects (yX7_number).cls yX7_number yX7_number ∈ wsT := tjs 52 rfl rfl
set_option maxRecDepth 20000 in
theorem l_X7_84 : CL RX7 84 yX7_number cX7_number 5 (some .int) 1 := ⟨Or.inl (tj4 21 rfl rfl), (tj4 24 rfl rfl), (tj1 9 rfl rfl), by decide +kernel⟩
set_option maxRecDepth 20000 in
theorem im_X7_ends : Cond.instanceMethod yX7_ends ∈ wsT := (tj4 27 rfl rfl)
set_option maxRecDepth 20000 in
theorem se_X7_ends : Cond.selects (yX7_ends).cls yX7_ends yX7_ends ∈ wsT := tjs 53 rfl rfl
set_option maxRecDepth 20000 in
theorem l_X7_87 : CL RX7 87 yX7_ends cX7_ends 1 (some .boolean) 0 := ⟨Or.inl (tj4 25 rfl rfl), (tj4 28 rfl rfl), (tj1 9 rfl rfl), by decide +kernel⟩
set_option maxRecDepth 20000 in
theorem f_X7_91 : FL RX7 91 7 5 := ⟨RX7, TX7, 29, rfl, by decide, inl_X7, Or.inl (tj3 135 rfl rfl)⟩
set_option maxRecDepth 20000 in
theorem p_X7_91 {ini : Bool} : FP RX7 91 7 5 (tyX7 5) ini := ⟨RX7, TX7, 29, tyX7, rfl, tyX7_ok, nmX7, tyX7_ok 5 (by decide), Or.inl rfl⟩
set_option maxRecDepth 20000 in
theorem f_X7_94 : FL RX7 94 7 6 := ⟨RX7, TX7, 29, rfl, by decide, inl_X7, Or.inl (tj3 136 rfl rfl)⟩
set_option maxRecDepth 20000 in
theorem p_X7_94 {ini : Bool} : FP RX7 94 7 6 (tyX7 6) ini := ⟨RX7, TX7, 29, tyX7, rfl, tyX7_ok, nmX7, tyX7_ok 6 (by decide), Or.inl rfl⟩
set_option maxRecDepth 20000 in
theorem im_X7_readsBox : Cond.instanceMethod yX7_readsBox ∈ wsT := (tj4 15 rfl rfl)
set_option maxRecDepth 20000 in
theorem se_X7_readsBox : Cond.selects (yX7_readsBox).cls yX7_readsBox yX7_readsBox ∈ wsT := tjs 50 rfl rfl
set_option maxRecDepth 20000 in
theorem l_X7_97 : CL RX7 97 yX7_readsBox cX7_readsBox 3 (some .boolean) 1 := ⟨Or.inl (tj4 13 rfl rfl), (tj4 16 rfl rfl), (tj1 9 rfl rfl), by decide +kernel⟩
set_option maxRecDepth 20000 in
theorem im_X7_readsWord : Cond.instanceMethod yX7_readsWord ∈ wsT := (tj4 31 rfl rfl)
set_option maxRecDepth 20000 in
theorem se_X7_readsWord : Cond.selects (yX7_readsWord).cls yX7_readsWord yX7_readsWord ∈ wsT := tjs 54 rfl rfl
set_option maxRecDepth 20000 in
theorem l_X7_101 : CL RX7 101 yX7_readsWord cX7_readsWord 3 (some .boolean) 0 := ⟨Or.inl (tj4 29 rfl rfl), (tj4 32 rfl rfl), (tj1 9 rfl rfl), by decide +kernel⟩
set_option maxRecDepth 20000 in
theorem im_X7_readsVoice : Cond.instanceMethod yX7_readsVoice ∈ wsT := (tj4 35 rfl rfl)
set_option maxRecDepth 20000 in
theorem se_X7_readsVoice : Cond.selects (yX7_readsVoice).cls yX7_readsVoice yX7_readsVoice ∈ wsT := tjs 55 rfl rfl
set_option maxRecDepth 20000 in
theorem l_X7_104 : CL RX7 104 yX7_readsVoice cX7_readsVoice 2 (some .boolean) 0 := ⟨Or.inl (tj4 33 rfl rfl), (tj4 36 rfl rfl), (tj1 9 rfl rfl), by decide +kernel⟩
set_option maxRecDepth 20000 in
theorem im_X7_readsClause : Cond.instanceMethod yX7_readsClause ∈ wsT := (tj4 11 rfl rfl)
set_option maxRecDepth 20000 in
theorem se_X7_readsClause : Cond.selects (yX7_readsClause).cls yX7_readsClause yX7_readsClause ∈ wsT := tjs 49 rfl rfl
set_option maxRecDepth 20000 in
theorem l_X7_107 : CL RX7 107 yX7_readsClause cX7_readsClause 3 (some .boolean) 1 := ⟨Or.inl (tj4 9 rfl rfl), (tj4 12 rfl rfl), (tj1 9 rfl rfl), by decide +kernel⟩
set_option maxRecDepth 20000 in
theorem f_X7_110 : FL RX7 110 7 10 := ⟨RX7, TX7, 29, rfl, by decide, inl_X7, Or.inl (tj3 140 rfl rfl)⟩
set_option maxRecDepth 20000 in
theorem p_X7_110 {ini : Bool} : FP RX7 110 7 10 (tyX7 10) ini := ⟨RX7, TX7, 29, tyX7, rfl, tyX7_ok, nmX7, tyX7_ok 10 (by decide), Or.inl rfl⟩
set_option maxRecDepth 20000 in
theorem im_X7_reads : Cond.instanceMethod yX7_reads ∈ wsT := (tj3 239 rfl rfl)
set_option maxRecDepth 20000 in
theorem se_X7_reads : Cond.selects (yX7_reads).cls yX7_reads yX7_reads ∈ wsT := tjs 46 rfl rfl
set_option maxRecDepth 20000 in
theorem l_X7_114 : CL RX7 114 yX7_reads cX7_reads 2 (some .boolean) 0 := ⟨Or.inl (tj3 237 rfl rfl), (tj4 0 rfl rfl), (tj1 9 rfl rfl), by decide +kernel⟩
set_option maxRecDepth 20000 in
theorem f_X7_117 : FL RX7 117 7 11 := ⟨RX7, TX7, 29, rfl, by decide, inl_X7, Or.inl (tj3 141 rfl rfl)⟩
set_option maxRecDepth 20000 in
theorem p_X7_117 {ini : Bool} : FP RX7 117 7 11 (tyX7 11) ini := ⟨RX7, TX7, 29, tyX7, rfl, tyX7_ok, nmX7, tyX7_ok 11 (by decide), Or.inl rfl⟩
set_option maxRecDepth 20000 in
theorem f_X7_120 : FL RX7 120 7 12 := ⟨RX7, TX7, 29, rfl, by decide, inl_X7, Or.inl (tj3 142 rfl rfl)⟩
set_option maxRecDepth 20000 in
theorem p_X7_120 {ini : Bool} : FP RX7 120 7 12 (tyX7 12) ini := ⟨RX7, TX7, 29, tyX7, rfl, tyX7_ok, nmX7, tyX7_ok 12 (by decide), Or.inl rfl⟩
set_option maxRecDepth 20000 in
theorem f_X7_123 : FL RX7 123 7 13 := ⟨RX7, TX7, 29, rfl, by decide, inl_X7, Or.inl (tj3 143 rfl rfl)⟩
set_option maxRecDepth 20000 in
theorem p_X7_123 {ini : Bool} : FP RX7 123 7 13 (tyX7 13) ini := ⟨RX7, TX7, 29, tyX7, rfl, tyX7_ok, nmX7, tyX7_ok 13 (by decide), Or.inl rfl⟩
set_option maxRecDepth 20000 in
theorem f_X7_126 : FL RX7 126 7 22 := ⟨RX7, TX7, 29, rfl, by decide, inl_X7, Or.inl (tj3 152 rfl rfl)⟩
set_option maxRecDepth 20000 in
theorem p_X7_126 {ini : Bool} : FP RX7 126 7 22 (tyX7 22) ini := ⟨RX7, TX7, 29, tyX7, rfl, tyX7_ok, nmX7, tyX7_ok 22 (by decide), Or.inl rfl⟩
set_option maxRecDepth 20000 in
theorem f_X7_129 : FL RX7 129 7 24 := ⟨RX7, TX7, 29, rfl, by decide, inl_X7, Or.inl (tj3 154 rfl rfl)⟩
set_option maxRecDepth 20000 in
theorem p_X7_129 {ini : Bool} : FP RX7 129 7 24 (tyX7 24) ini := ⟨RX7, TX7, 29, tyX7, rfl, tyX7_ok, nmX7, tyX7_ok 24 (by decide), Or.inl rfl⟩
set_option maxRecDepth 20000 in
theorem f_X7_132 : FL RX7 132 7 18 := ⟨RX7, TX7, 29, rfl, by decide, inl_X7, Or.inl (tj3 148 rfl rfl)⟩
set_option maxRecDepth 20000 in
theorem p_X7_132 {ini : Bool} : FP RX7 132 7 18 (tyX7 18) ini := ⟨RX7, TX7, 29, tyX7, rfl, tyX7_ok, nmX7, tyX7_ok 18 (by decide), Or.inl rfl⟩
set_option maxRecDepth 20000 in
theorem im_X7_allListed : Cond.instanceMethod yX7_allListed ∈ wsT := (tj4 43 rfl rfl)
set_option maxRecDepth 20000 in
theorem se_X7_allListed : Cond.selects (yX7_allListed).cls yX7_allListed yX7_allListed ∈ wsT := tjs 56 rfl rfl
set_option maxRecDepth 20000 in
theorem l_X7_135 : CL RX7 135 yX7_allListed cX7_allListed 3 (some .int) 0 := ⟨Or.inl (tj4 41 rfl rfl), (tj4 44 rfl rfl), (tj1 9 rfl rfl), by decide +kernel⟩
set_option maxRecDepth 20000 in
theorem im_X7_isWord : Cond.instanceMethod yX7_isWord ∈ wsT := (tj4 51 rfl rfl)
set_option maxRecDepth 20000 in
theorem se_X7_isWord : Cond.selects (yX7_isWord).cls yX7_isWord yX7_isWord ∈ wsT := tjs 57 rfl rfl
set_option maxRecDepth 20000 in
theorem l_X7_139 : CL RX7 139 yX7_isWord cX7_isWord 2 (some .boolean) 1 := ⟨Or.inl (tj4 49 rfl rfl), (tj4 52 rfl rfl), (tj1 9 rfl rfl), by decide +kernel⟩
set_option maxRecDepth 20000 in
theorem k_X7_142 : Cond.constant RX7 142 (-1000000001) ∈ wsT := (tj4 53 rfl rfl)
set_option maxRecDepth 20000 in
theorem im_X7_isVoice : Cond.instanceMethod yX7_isVoice ∈ wsT := (tj4 60 rfl rfl)
set_option maxRecDepth 20000 in
theorem se_X7_isVoice : Cond.selects (yX7_isVoice).cls yX7_isVoice yX7_isVoice ∈ wsT := tjs 58 rfl rfl
set_option maxRecDepth 20000 in
theorem l_X7_143 : CL RX7 143 yX7_isVoice cX7_isVoice 2 (some .boolean) 1 := ⟨Or.inl (tj4 58 rfl rfl), (tj4 61 rfl rfl), (tj1 9 rfl rfl), by decide +kernel⟩
set_option maxRecDepth 20000 in
theorem st_X7_far : Cond.static yX7_far ∈ wsT := (tj4 98 rfl rfl)
set_option maxRecDepth 20000 in
theorem l_X7_146 : CL RX7 146 yX7_far cX7_far 3 (some .int) 2 := ⟨Or.inl (tj4 97 rfl rfl), (tj4 99 rfl rfl), (tj1 9 rfl rfl), by decide +kernel⟩
set_option maxRecDepth 20000 in
theorem st_X7_shifted : Cond.static yX7_shifted ∈ wsT := (tj4 149 rfl rfl)
set_option maxRecDepth 20000 in
theorem l_X7_150 : CL RX7 150 yX7_shifted cX7_shifted 2 (some .int) 2 := ⟨Or.inl (tj4 148 rfl rfl), (tj4 150 rfl rfl), (tj1 9 rfl rfl), by decide +kernel⟩
set_option maxRecDepth 20000 in
theorem st_X7_apart : Cond.static yX7_apart ∈ wsT := (tj4 95 rfl rfl)
set_option maxRecDepth 20000 in
theorem l_X7_153 : CL RX7 153 yX7_apart cX7_apart 2 (some .int) 2 := ⟨Or.inl (tj4 94 rfl rfl), (tj4 96 rfl rfl), (tj1 9 rfl rfl), by decide +kernel⟩
set_option maxRecDepth 20000 in
theorem im_X7_weight : Cond.instanceMethod yX7_weight ∈ wsT := (tj4 92 rfl rfl)
set_option maxRecDepth 20000 in
theorem se_X7_weight : Cond.selects (yX7_weight).cls yX7_weight yX7_weight ∈ wsT := tjs 64 rfl rfl
set_option maxRecDepth 20000 in
theorem l_X7_156 : CL RX7 156 yX7_weight cX7_weight 3 (some .int) 2 := ⟨Or.inl (tj4 90 rfl rfl), (tj4 93 rfl rfl), (tj1 9 rfl rfl), by decide +kernel⟩
set_option maxRecDepth 20000 in
theorem k_X7_159 : Cond.constantLong RX7 159 (1000000) ∈ wsT := (tj4 105 rfl rfl)
set_option maxRecDepth 20000 in
theorem im_X7_guessOf : Cond.instanceMethod yX7_guessOf ∈ wsT := (tj4 88 rfl rfl)
set_option maxRecDepth 20000 in
theorem se_X7_guessOf : Cond.selects (yX7_guessOf).cls yX7_guessOf yX7_guessOf ∈ wsT := tjs 63 rfl rfl
set_option maxRecDepth 20000 in
theorem l_X7_161 : CL RX7 161 yX7_guessOf cX7_guessOf 6 (some .int) 1 := ⟨Or.inl (tj4 86 rfl rfl), (tj4 89 rfl rfl), (tj1 9 rfl rfl), by decide +kernel⟩
set_option maxRecDepth 20000 in
theorem k_X7_164 : Cond.constant RX7 164 (1000000) ∈ wsT := (tj4 100 rfl rfl)
set_option maxRecDepth 20000 in
theorem im_X7_sureOf : Cond.instanceMethod yX7_sureOf ∈ wsT := (tj4 103 rfl rfl)
set_option maxRecDepth 20000 in
theorem se_X7_sureOf : Cond.selects (yX7_sureOf).cls yX7_sureOf yX7_sureOf ∈ wsT := tjs 65 rfl rfl
set_option maxRecDepth 20000 in
theorem l_X7_165 : CL RX7 165 yX7_sureOf cX7_sureOf 6 (some .int) 2 := ⟨Or.inl (tj4 101 rfl rfl), (tj4 104 rfl rfl), (tj1 9 rfl rfl), by decide +kernel⟩
set_option maxRecDepth 20000 in
theorem im_X7_costOf : Cond.instanceMethod yX7_costOf ∈ wsT := (tj4 84 rfl rfl)
set_option maxRecDepth 20000 in
theorem se_X7_costOf : Cond.selects (yX7_costOf).cls yX7_costOf yX7_costOf ∈ wsT := tjs 62 rfl rfl
set_option maxRecDepth 20000 in
theorem l_X7_168 : CL RX7 168 yX7_costOf cX7_costOf 4 (some .int) 2 := ⟨Or.inl (tj4 82 rfl rfl), (tj4 85 rfl rfl), (tj1 9 rfl rfl), by decide +kernel⟩
set_option maxRecDepth 20000 in
theorem f_X7_171 : FL RX7 171 7 19 := ⟨RX7, TX7, 29, rfl, by decide, inl_X7, Or.inl (tj3 149 rfl rfl)⟩
set_option maxRecDepth 20000 in
theorem p_X7_171 {ini : Bool} : FP RX7 171 7 19 (tyX7 19) ini := ⟨RX7, TX7, 29, tyX7, rfl, tyX7_ok, nmX7, tyX7_ok 19 (by decide), Or.inl rfl⟩
set_option maxRecDepth 20000 in
theorem im_X7_ruleOf : Cond.instanceMethod yX7_ruleOf ∈ wsT := (tj4 80 rfl rfl)
set_option maxRecDepth 20000 in
theorem se_X7_ruleOf : Cond.selects (yX7_ruleOf).cls yX7_ruleOf yX7_ruleOf ∈ wsT := tjs 61 rfl rfl
set_option maxRecDepth 20000 in
theorem l_X7_174 : CL RX7 174 yX7_ruleOf cX7_ruleOf 4 (some .int) 1 := ⟨Or.inl (tj4 78 rfl rfl), (tj4 81 rfl rfl), (tj1 9 rfl rfl), by decide +kernel⟩
set_option maxRecDepth 20000 in
theorem st_X7_atMost : Cond.static yX7_atMost ∈ wsT := (tj4 107 rfl rfl)
set_option maxRecDepth 20000 in
theorem l_X7_177 : CL RX7 177 yX7_atMost cX7_atMost 1 (some .int) 1 := ⟨Or.inl (tj4 106 rfl rfl), (tj4 108 rfl rfl), (tj1 9 rfl rfl), by decide +kernel⟩
set_option maxRecDepth 20000 in
theorem st_X7_less : Cond.static yX7_less ∈ wsT := (tj4 118 rfl rfl)
set_option maxRecDepth 20000 in
theorem l_X7_180 : CL RX7 180 yX7_less cX7_less 1 (some .int) 1 := ⟨Or.inl (tj4 117 rfl rfl), (tj4 119 rfl rfl), (tj1 9 rfl rfl), by decide +kernel⟩
set_option maxRecDepth 20000 in
theorem st_X7_isSound : Cond.static yX7_isSound ∈ wsT := (tj4 67 rfl rfl)
set_option maxRecDepth 20000 in
theorem l_X7_183 : CL RX7 183 yX7_isSound cX7_isSound 1 (some .boolean) 1 := ⟨Or.inl (tj4 66 rfl rfl), (tj4 68 rfl rfl), (tj1 9 rfl rfl), by decide +kernel⟩
set_option maxRecDepth 20000 in
theorem k_X7_186 : Cond.constant RX7 186 (-1000000003) ∈ wsT := (tj4 69 rfl rfl)
set_option maxRecDepth 20000 in
theorem im_X7_remember : Cond.instanceMethod yX7_remember ∈ wsT := (tj4 72 rfl rfl)
set_option maxRecDepth 20000 in
theorem se_X7_remember : Cond.selects (yX7_remember).cls yX7_remember yX7_remember ∈ wsT := tjs 59 rfl rfl
set_option maxRecDepth 20000 in
theorem l_X7_187 : CL RX7 187 yX7_remember cX7_remember 2 none 0 := ⟨Or.inl (tj4 70 rfl rfl), (tj4 73 rfl rfl), (tj1 9 rfl rfl), by decide +kernel⟩
set_option maxRecDepth 20000 in
theorem im_X7_hears : Cond.instanceMethod yX7_hears ∈ wsT := (tj4 76 rfl rfl)
set_option maxRecDepth 20000 in
theorem se_X7_hears : Cond.selects (yX7_hears).cls yX7_hears yX7_hears ∈ wsT := tjs 60 rfl rfl
set_option maxRecDepth 20000 in
theorem l_X7_190 : CL RX7 190 yX7_hears cX7_hears 4 (some .int) 1 := ⟨Or.inl (tj4 74 rfl rfl), (tj4 77 rfl rfl), (tj1 9 rfl rfl), by decide +kernel⟩
set_option maxRecDepth 20000 in
theorem im_X7_takesBack : Cond.instanceMethod yX7_takesBack ∈ wsT := (tj4 115 rfl rfl)
set_option maxRecDepth 20000 in
theorem se_X7_takesBack : Cond.selects (yX7_takesBack).cls yX7_takesBack yX7_takesBack ∈ wsT := tjs 66 rfl rfl
set_option maxRecDepth 20000 in
theorem l_X7_193 : CL RX7 193 yX7_takesBack cX7_takesBack 3 none 1 := ⟨Or.inl (tj4 113 rfl rfl), (tj4 116 rfl rfl), (tj1 9 rfl rfl), by decide +kernel⟩
set_option maxRecDepth 20000 in
theorem im_X7_letsBe : Cond.instanceMethod yX7_letsBe ∈ wsT := (tj4 126 rfl rfl)
set_option maxRecDepth 20000 in
theorem se_X7_letsBe : Cond.selects (yX7_letsBe).cls yX7_letsBe yX7_letsBe ∈ wsT := tjs 67 rfl rfl
set_option maxRecDepth 20000 in
theorem l_X7_197 : CL RX7 197 yX7_letsBe cX7_letsBe 2 (some .int) 0 := ⟨Or.inl (tj4 124 rfl rfl), (tj4 127 rfl rfl), (tj1 9 rfl rfl), by decide +kernel⟩
set_option maxRecDepth 20000 in
theorem f_X7_200 : FL RX7 200 7 21 := ⟨RX7, TX7, 29, rfl, by decide, inl_X7, Or.inl (tj3 151 rfl rfl)⟩
set_option maxRecDepth 20000 in
theorem k_X7_204 : Cond.constantLong RX7 204 (1103515245) ∈ wsT := (tj4 140 rfl rfl)
set_option maxRecDepth 20000 in
theorem k_X7_206 : Cond.constantLong RX7 206 (12345) ∈ wsT := (tj4 141 rfl rfl)
set_option maxRecDepth 20000 in
theorem k_X7_208 : Cond.constantLong RX7 208 (2147483648) ∈ wsT := (tj4 142 rfl rfl)
set_option maxRecDepth 20000 in
theorem p_X7_200 {ini : Bool} : FP RX7 200 7 21 (tyX7 21) ini := ⟨RX7, TX7, 29, tyX7, rfl, tyX7_ok, nmX7, tyX7_ok 21 (by decide), Or.inl rfl⟩
set_option maxRecDepth 20000 in
theorem k_X7_210 : Cond.constantLong RX7 210 (65536) ∈ wsT := (tj4 143 rfl rfl)
set_option maxRecDepth 20000 in
theorem im_X7_draw : Cond.instanceMethod yX7_draw ∈ wsT := (tj4 138 rfl rfl)
set_option maxRecDepth 20000 in
theorem se_X7_draw : Cond.selects (yX7_draw).cls yX7_draw yX7_draw ∈ wsT := tjs 68 rfl rfl
set_option maxRecDepth 20000 in
theorem l_X7_212 : CL RX7 212 yX7_draw cX7_draw 2 (some .int) 1 := ⟨Or.inl (tj4 136 rfl rfl), (tj4 139 rfl rfl), (tj1 9 rfl rfl), by decide +kernel⟩
set_option maxRecDepth 20000 in
theorem im_X7_saidBy : Cond.instanceMethod yX7_saidBy ∈ wsT := (tj4 146 rfl rfl)
set_option maxRecDepth 20000 in
theorem se_X7_saidBy : Cond.selects (yX7_saidBy).cls yX7_saidBy yX7_saidBy ∈ wsT := tjs 69 rfl rfl
set_option maxRecDepth 20000 in
theorem l_X7_215 : CL RX7 215 yX7_saidBy cX7_saidBy 3 (some .int) 2 := ⟨Or.inl (tj4 144 rfl rfl), (tj4 147 rfl rfl), (tj1 9 rfl rfl), by decide +kernel⟩
set_option maxRecDepth 20000 in
theorem im_X7_meantBy : Cond.instanceMethod yX7_meantBy ∈ wsT := (tj4 185 rfl rfl)
set_option maxRecDepth 20000 in
theorem se_X7_meantBy : Cond.selects (yX7_meantBy).cls yX7_meantBy yX7_meantBy ∈ wsT := tjs 70 rfl rfl
set_option maxRecDepth 20000 in
theorem l_X7_218 : CL RX7 218 yX7_meantBy cX7_meantBy 5 (some .int) 2 := ⟨Or.inl (tj4 183 rfl rfl), (tj4 186 rfl rfl), (tj1 9 rfl rfl), by decide +kernel⟩
set_option maxRecDepth 20000 in
theorem im_X7_heardBy : Cond.instanceMethod yX7_heardBy ∈ wsT := (tj4 213 rfl rfl)
set_option maxRecDepth 20000 in
theorem se_X7_heardBy : Cond.selects (yX7_heardBy).cls yX7_heardBy yX7_heardBy ∈ wsT := tjs 71 rfl rfl
set_option maxRecDepth 20000 in
theorem l_X7_221 : CL RX7 221 yX7_heardBy cX7_heardBy 4 (some .int) 1 := ⟨Or.inl (tj4 211 rfl rfl), (tj4 214 rfl rfl), (tj1 9 rfl rfl), by decide +kernel⟩
set_option maxRecDepth 20000 in
theorem k_X7_224 : Cond.constantLong RX7 224 (1000000000) ∈ wsT := (tj4 223 rfl rfl)
set_option maxRecDepth 20000 in
theorem k_X7_226 : Cond.constantLong RX7 226 (100) ∈ wsT := (tj4 224 rfl rfl)
set_option maxRecDepth 20000 in
theorem im_X7_speaker : Cond.instanceMethod yX7_speaker ∈ wsT := (tj4 230 rfl rfl)
set_option maxRecDepth 20000 in
theorem se_X7_speaker : Cond.selects (yX7_speaker).cls yX7_speaker yX7_speaker ∈ wsT := (tj4 231 rfl rfl)
set_option maxRecDepth 20000 in
theorem l_X7_228 : CL RX7 228 yX7_speaker cX7_speaker 5 (some .int) 0 := ⟨Or.inl (tj4 237 rfl rfl), (tj4 232 rfl rfl), (tj1 9 rfl rfl), by decide +kernel⟩
set_option maxRecDepth 20000 in
theorem st_X7_bits : Cond.static yX7_bits ∈ wsT := (tj4 239 rfl rfl)
set_option maxRecDepth 20000 in
theorem l_X7_231 : CL RX7 231 yX7_bits cX7_bits 3 (some .int) 1 := ⟨Or.inl (tj4 238 rfl rfl), (tj5 0 rfl rfl), (tj1 9 rfl rfl), by decide +kernel⟩
set_option maxRecDepth 20000 in
theorem im_X7_greatestPart : Cond.instanceMethod yX7_greatestPart ∈ wsT := (tj5 3 rfl rfl)
set_option maxRecDepth 20000 in
theorem se_X7_greatestPart : Cond.selects (yX7_greatestPart).cls yX7_greatestPart yX7_greatestPart ∈ wsT := tjs 72 rfl rfl
set_option maxRecDepth 20000 in
theorem l_X7_234 : CL RX7 234 yX7_greatestPart cX7_greatestPart 7 (some .int) 2 := ⟨Or.inl (tj5 1 rfl rfl), (tj5 4 rfl rfl), (tj1 9 rfl rfl), by decide +kernel⟩
set_option maxRecDepth 20000 in
theorem k_J6_265 : Cond.constant RJ6 265 (1431655765) ∈ wsT := (tj3 89 rfl rfl)
set_option maxRecDepth 20000 in
theorem k_J6_266 : Cond.constant RJ6 266 (858993459) ∈ wsT := (tj3 90 rfl rfl)
set_option maxRecDepth 20000 in
theorem k_J6_267 : Cond.constant RJ6 267 (252645135) ∈ wsT := (tj3 91 rfl rfl)
set_option maxRecDepth 20000 in
theorem nw_L_7 : NW RL 7 6 tyX6 := ⟨RX6, TX6, 11, rfl, inl_X6, tyX6_ok, (tj1 11 rfl rfl), (tj1 12 rfl rfl), (tj1 1 rfl rfl)⟩
set_option maxRecDepth 20000 in
theorem im_X6_init : Cond.instanceMethod yX6_init ∈ wsT := (tj1 14 rfl rfl)
set_option maxRecDepth 20000 in
theorem l_L_9 : CL RL 9 yX6_init cX6_init 2 none 0 := ⟨Or.inl (tj1 13 rfl rfl), (tj1 15 rfl rfl), (tj1 1 rfl rfl), by decide +kernel⟩
set_option maxRecDepth 20000 in
theorem nw_L_10 : NW RL 10 7 tyX7 := ⟨RX7, TX7, 29, rfl, inl_X7, tyX7_ok, (tj3 124 rfl rfl), (tj3 125 rfl rfl), (tj1 9 rfl rfl)⟩
set_option maxRecDepth 20000 in
theorem im_X7_init : Cond.instanceMethod yX7_init ∈ wsT := (tj3 127 rfl rfl)
set_option maxRecDepth 20000 in
theorem l_L_12 : CL RL 12 yX7_init cX7_init 1 none 0 := ⟨Or.inl (tj3 126 rfl rfl), (tj3 128 rfl rfl), (tj1 9 rfl rfl), by decide +kernel⟩
set_option maxRecDepth 20000 in
theorem im_X6_feed : Cond.instanceMethod yX6_feed ∈ wsT := (tj1 225 rfl rfl)
set_option maxRecDepth 20000 in
theorem se_X6_feed : Cond.selects (yX6_feed).cls yX6_feed yX6_feed ∈ wsT := (tj1 226 rfl rfl)
set_option maxRecDepth 20000 in
theorem l_L_13 : CL RL 13 yX6_feed cX6_feed 2 (some .int) 1 := ⟨Or.inl (tj1 224 rfl rfl), (tj1 227 rfl rfl), (tj1 1 rfl rfl), by decide +kernel⟩
set_option maxRecDepth 20000 in
theorem im_X7_feed : Cond.instanceMethod yX7_feed ∈ wsT := (tj3 221 rfl rfl)
set_option maxRecDepth 20000 in
theorem se_X7_feed : Cond.selects (yX7_feed).cls yX7_feed yX7_feed ∈ wsT := (tj3 222 rfl rfl)
set_option maxRecDepth 20000 in
theorem l_L_17 : CL RL 17 yX7_feed cX7_feed 2 (some .int) 1 := ⟨Or.inl (tj3 220 rfl rfl), (tj3 223 rfl rfl), (tj1 9 rfl rfl), by decide +kernel⟩
set_option maxRecDepth 20000 in
theorem im_X6_kitchen : Cond.instanceMethod yX6_kitchen ∈ wsT := (tj1 235 rfl rfl)
set_option maxRecDepth 20000 in
theorem se_X6_kitchen : Cond.selects (yX6_kitchen).cls yX6_kitchen yX6_kitchen ∈ wsT := (tj1 236 rfl rfl)
set_option maxRecDepth 20000 in
theorem l_L_18 : CL RL 18 yX6_kitchen cX6_kitchen 4 (some .int) 0 := ⟨Or.inl (tj1 234 rfl rfl), (tj1 237 rfl rfl), (tj1 1 rfl rfl), by decide +kernel⟩
set_option maxRecDepth 20000 in
theorem im_X7_kitchen : Cond.instanceMethod yX7_kitchen ∈ wsT := (tj3 234 rfl rfl)
set_option maxRecDepth 20000 in
theorem se_X7_kitchen : Cond.selects (yX7_kitchen).cls yX7_kitchen yX7_kitchen ∈ wsT := (tj3 235 rfl rfl)
set_option maxRecDepth 20000 in
theorem l_L_22 : CL RL 22 yX7_kitchen cX7_kitchen 3 (some .int) 0 := ⟨Or.inl (tj3 233 rfl rfl), (tj3 236 rfl rfl), (tj1 9 rfl rfl), by decide +kernel⟩
set_option maxRecDepth 20000 in
theorem im_X6_fault : Cond.instanceMethod yX6_fault ∈ wsT := (tj2 78 rfl rfl)
set_option maxRecDepth 20000 in
theorem se_X6_fault : Cond.selects (yX6_fault).cls yX6_fault yX6_fault ∈ wsT := (tj2 79 rfl rfl)
set_option maxRecDepth 20000 in
theorem l_L_23 : CL RL 23 yX6_fault cX6_fault 1 (some .int) 0 := ⟨Or.inl (tj2 77 rfl rfl), (tj2 80 rfl rfl), (tj1 1 rfl rfl), by decide +kernel⟩
set_option maxRecDepth 20000 in
theorem im_X7_fault : Cond.instanceMethod yX7_fault ∈ wsT := (tj3 230 rfl rfl)
set_option maxRecDepth 20000 in
theorem se_X7_fault : Cond.selects (yX7_fault).cls yX7_fault yX7_fault ∈ wsT := (tj3 231 rfl rfl)
set_option maxRecDepth 20000 in
theorem l_L_26 : CL RL 26 yX7_fault cX7_fault 1 (some .int) 0 := ⟨Or.inl (tj3 229 rfl rfl), (tj3 232 rfl rfl), (tj1 9 rfl rfl), by decide +kernel⟩
set_option maxRecDepth 20000 in
theorem im_X6_told : Cond.instanceMethod yX6_told ∈ wsT := (tj2 82 rfl rfl)
set_option maxRecDepth 20000 in
theorem se_X6_told : Cond.selects (yX6_told).cls yX6_told yX6_told ∈ wsT := (tj2 83 rfl rfl)
set_option maxRecDepth 20000 in
theorem l_L_27 : CL RL 27 yX6_told cX6_told 2 (some .int) 1 := ⟨Or.inl (tj2 81 rfl rfl), (tj2 84 rfl rfl), (tj1 1 rfl rfl), by decide +kernel⟩
set_option maxRecDepth 20000 in
theorem im_X7_told : Cond.instanceMethod yX7_told ∈ wsT := (tj4 38 rfl rfl)
set_option maxRecDepth 20000 in
theorem se_X7_told : Cond.selects (yX7_told).cls yX7_told yX7_told ∈ wsT := (tj4 39 rfl rfl)
set_option maxRecDepth 20000 in
theorem l_L_30 : CL RL 30 yX7_told cX7_told 2 (some .int) 1 := ⟨Or.inl (tj4 37 rfl rfl), (tj4 40 rfl rfl), (tj1 9 rfl rfl), by decide +kernel⟩
set_option maxRecDepth 20000 in
theorem im_X6_word : Cond.instanceMethod yX6_word ∈ wsT := (tj2 90 rfl rfl)
set_option maxRecDepth 20000 in
theorem se_X6_word : Cond.selects (yX6_word).cls yX6_word yX6_word ∈ wsT := (tj2 91 rfl rfl)
set_option maxRecDepth 20000 in
theorem l_L_31 : CL RL 31 yX6_word cX6_word 3 (some .int) 2 := ⟨Or.inl (tj2 89 rfl rfl), (tj2 92 rfl rfl), (tj1 1 rfl rfl), by decide +kernel⟩
set_option maxRecDepth 20000 in
theorem im_X7_word : Cond.instanceMethod yX7_word ∈ wsT := (tj4 46 rfl rfl)
set_option maxRecDepth 20000 in
theorem se_X7_word : Cond.selects (yX7_word).cls yX7_word yX7_word ∈ wsT := (tj4 47 rfl rfl)
set_option maxRecDepth 20000 in
theorem l_L_35 : CL RL 35 yX7_word cX7_word 3 (some .int) 2 := ⟨Or.inl (tj4 45 rfl rfl), (tj4 48 rfl rfl), (tj1 9 rfl rfl), by decide +kernel⟩
set_option maxRecDepth 20000 in
theorem im_X6_voice : Cond.instanceMethod yX6_voice ∈ wsT := (tj2 99 rfl rfl)
set_option maxRecDepth 20000 in
theorem se_X6_voice : Cond.selects (yX6_voice).cls yX6_voice yX6_voice ∈ wsT := (tj2 100 rfl rfl)
set_option maxRecDepth 20000 in
theorem l_L_36 : CL RL 36 yX6_voice cX6_voice 2 (some .int) 1 := ⟨Or.inl (tj2 98 rfl rfl), (tj2 101 rfl rfl), (tj1 1 rfl rfl), by decide +kernel⟩
set_option maxRecDepth 20000 in
theorem im_X7_voice : Cond.instanceMethod yX7_voice ∈ wsT := (tj4 55 rfl rfl)
set_option maxRecDepth 20000 in
theorem se_X7_voice : Cond.selects (yX7_voice).cls yX7_voice yX7_voice ∈ wsT := (tj4 56 rfl rfl)
set_option maxRecDepth 20000 in
theorem l_L_39 : CL RL 39 yX7_voice cX7_voice 2 (some .int) 1 := ⟨Or.inl (tj4 54 rfl rfl), (tj4 57 rfl rfl), (tj1 9 rfl rfl), by decide +kernel⟩
set_option maxRecDepth 20000 in
theorem im_X6_hear : Cond.instanceMethod yX6_hear ∈ wsT := (tj2 107 rfl rfl)
set_option maxRecDepth 20000 in
theorem se_X6_hear : Cond.selects (yX6_hear).cls yX6_hear yX6_hear ∈ wsT := (tj2 108 rfl rfl)
set_option maxRecDepth 20000 in
theorem l_L_40 : CL RL 40 yX6_hear cX6_hear 2 (some .int) 1 := ⟨Or.inl (tj2 106 rfl rfl), (tj2 109 rfl rfl), (tj1 1 rfl rfl), by decide +kernel⟩
set_option maxRecDepth 20000 in
theorem im_X7_hear : Cond.instanceMethod yX7_hear ∈ wsT := (tj4 63 rfl rfl)
set_option maxRecDepth 20000 in
theorem se_X7_hear : Cond.selects (yX7_hear).cls yX7_hear yX7_hear ∈ wsT := (tj4 64 rfl rfl)
set_option maxRecDepth 20000 in
theorem l_L_43 : CL RL 43 yX7_hear cX7_hear 2 (some .int) 1 := ⟨Or.inl (tj4 62 rfl rfl), (tj4 65 rfl rfl), (tj1 9 rfl rfl), by decide +kernel⟩
set_option maxRecDepth 20000 in
theorem im_X6_takeBack : Cond.instanceMethod yX6_takeBack ∈ wsT := (tj2 169 rfl rfl)
set_option maxRecDepth 20000 in
theorem se_X6_takeBack : Cond.selects (yX6_takeBack).cls yX6_takeBack yX6_takeBack ∈ wsT := (tj2 170 rfl rfl)
set_option maxRecDepth 20000 in
theorem l_L_44 : CL RL 44 yX6_takeBack cX6_takeBack 2 (some .int) 1 := ⟨Or.inl (tj2 168 rfl rfl), (tj2 171 rfl rfl), (tj1 1 rfl rfl), by decide +kernel⟩
set_option maxRecDepth 20000 in
theorem im_X7_takeBack : Cond.instanceMethod yX7_takeBack ∈ wsT := (tj4 110 rfl rfl)
set_option maxRecDepth 20000 in
theorem se_X7_takeBack : Cond.selects (yX7_takeBack).cls yX7_takeBack yX7_takeBack ∈ wsT := (tj4 111 rfl rfl)
set_option maxRecDepth 20000 in
theorem l_L_47 : CL RL 47 yX7_takeBack cX7_takeBack 2 (some .int) 1 := ⟨Or.inl (tj4 109 rfl rfl), (tj4 112 rfl rfl), (tj1 9 rfl rfl), by decide +kernel⟩
set_option maxRecDepth 20000 in
theorem im_X6_letBe : Cond.instanceMethod yX6_letBe ∈ wsT := (tj2 178 rfl rfl)
set_option maxRecDepth 20000 in
theorem se_X6_letBe : Cond.selects (yX6_letBe).cls yX6_letBe yX6_letBe ∈ wsT := (tj2 179 rfl rfl)
set_option maxRecDepth 20000 in
theorem l_L_48 : CL RL 48 yX6_letBe cX6_letBe 2 (some .int) 0 := ⟨Or.inl (tj2 177 rfl rfl), (tj2 180 rfl rfl), (tj1 1 rfl rfl), by decide +kernel⟩
set_option maxRecDepth 20000 in
theorem im_X7_letBe : Cond.instanceMethod yX7_letBe ∈ wsT := (tj4 121 rfl rfl)
set_option maxRecDepth 20000 in
theorem se_X7_letBe : Cond.selects (yX7_letBe).cls yX7_letBe yX7_letBe ∈ wsT := (tj4 122 rfl rfl)
set_option maxRecDepth 20000 in
theorem l_L_51 : CL RL 51 yX7_letBe cX7_letBe 1 (some .int) 0 := ⟨Or.inl (tj4 120 rfl rfl), (tj4 123 rfl rfl), (tj1 9 rfl rfl), by decide +kernel⟩
set_option maxRecDepth 20000 in
theorem im_X6_call : Cond.instanceMethod yX6_call ∈ wsT := (tj2 186 rfl rfl)
set_option maxRecDepth 20000 in
theorem se_X6_call : Cond.selects (yX6_call).cls yX6_call yX6_call ∈ wsT := (tj2 187 rfl rfl)
set_option maxRecDepth 20000 in
theorem l_L_52 : CL RL 52 yX6_call cX6_call 4 (some .int) 2 := ⟨Or.inl (tj2 185 rfl rfl), (tj2 188 rfl rfl), (tj1 1 rfl rfl), by decide +kernel⟩
set_option maxRecDepth 20000 in
theorem im_X7_call : Cond.instanceMethod yX7_call ∈ wsT := (tj4 129 rfl rfl)
set_option maxRecDepth 20000 in
theorem se_X7_call : Cond.selects (yX7_call).cls yX7_call yX7_call ∈ wsT := (tj4 130 rfl rfl)
set_option maxRecDepth 20000 in
theorem l_L_55 : CL RL 55 yX7_call cX7_call 4 (some .int) 2 := ⟨Or.inl (tj4 128 rfl rfl), (tj4 131 rfl rfl), (tj1 9 rfl rfl), by decide +kernel⟩
set_option maxRecDepth 20000 in
theorem im_X6_drift : Cond.instanceMethod yX6_drift ∈ wsT := (tj2 191 rfl rfl)
set_option maxRecDepth 20000 in
theorem se_X6_drift : Cond.selects (yX6_drift).cls yX6_drift yX6_drift ∈ wsT := (tj2 192 rfl rfl)
set_option maxRecDepth 20000 in
theorem l_L_56 : CL RL 56 yX6_drift cX6_drift 5 (some .int) 1 := ⟨Or.inl (tj2 190 rfl rfl), (tj2 193 rfl rfl), (tj1 1 rfl rfl), by decide +kernel⟩
set_option maxRecDepth 20000 in
theorem im_X7_drift : Cond.instanceMethod yX7_drift ∈ wsT := (tj4 133 rfl rfl)
set_option maxRecDepth 20000 in
theorem se_X7_drift : Cond.selects (yX7_drift).cls yX7_drift yX7_drift ∈ wsT := (tj4 134 rfl rfl)
set_option maxRecDepth 20000 in
theorem l_L_59 : CL RL 59 yX7_drift cX7_drift 5 (some .int) 1 := ⟨Or.inl (tj4 132 rfl rfl), (tj4 135 rfl rfl), (tj1 9 rfl rfl), by decide +kernel⟩
set_option maxRecDepth 20000 in
theorem im_X6_undo : Cond.instanceMethod yX6_undo ∈ wsT := (tj2 216 rfl rfl)
set_option maxRecDepth 20000 in
theorem se_X6_undo : Cond.selects (yX6_undo).cls yX6_undo yX6_undo ∈ wsT := (tj2 217 rfl rfl)
set_option maxRecDepth 20000 in
theorem l_L_60 : CL RL 60 yX6_undo cX6_undo 1 (some .int) 0 := ⟨Or.inl (tj2 215 rfl rfl), (tj2 218 rfl rfl), (tj1 1 rfl rfl), by decide +kernel⟩
set_option maxRecDepth 20000 in
theorem im_X7_undo : Cond.instanceMethod yX7_undo ∈ wsT := (tj4 152 rfl rfl)
set_option maxRecDepth 20000 in
theorem se_X7_undo : Cond.selects (yX7_undo).cls yX7_undo yX7_undo ∈ wsT := (tj4 153 rfl rfl)
set_option maxRecDepth 20000 in
theorem l_L_63 : CL RL 63 yX7_undo cX7_undo 2 (some .int) 0 := ⟨Or.inl (tj4 151 rfl rfl), (tj4 154 rfl rfl), (tj1 9 rfl rfl), by decide +kernel⟩
set_option maxRecDepth 20000 in
theorem im_X6_guess : Cond.instanceMethod yX6_guess ∈ wsT := (tj2 224 rfl rfl)
set_option maxRecDepth 20000 in
theorem se_X6_guess : Cond.selects (yX6_guess).cls yX6_guess yX6_guess ∈ wsT := (tj2 225 rfl rfl)
set_option maxRecDepth 20000 in
theorem l_L_64 : CL RL 64 yX6_guess cX6_guess 2 (some .int) 1 := ⟨Or.inl (tj2 223 rfl rfl), (tj2 226 rfl rfl), (tj1 1 rfl rfl), by decide +kernel⟩
set_option maxRecDepth 20000 in
theorem im_X7_guess : Cond.instanceMethod yX7_guess ∈ wsT := (tj4 156 rfl rfl)
set_option maxRecDepth 20000 in
theorem se_X7_guess : Cond.selects (yX7_guess).cls yX7_guess yX7_guess ∈ wsT := (tj4 157 rfl rfl)
set_option maxRecDepth 20000 in
theorem l_L_67 : CL RL 67 yX7_guess cX7_guess 2 (some .int) 1 := ⟨Or.inl (tj4 155 rfl rfl), (tj4 158 rfl rfl), (tj1 9 rfl rfl), by decide +kernel⟩
set_option maxRecDepth 20000 in
theorem im_X6_sure : Cond.instanceMethod yX6_sure ∈ wsT := (tj2 228 rfl rfl)
set_option maxRecDepth 20000 in
theorem se_X6_sure : Cond.selects (yX6_sure).cls yX6_sure yX6_sure ∈ wsT := (tj2 229 rfl rfl)
set_option maxRecDepth 20000 in
theorem l_L_68 : CL RL 68 yX6_sure cX6_sure 3 (some .int) 2 := ⟨Or.inl (tj2 227 rfl rfl), (tj2 230 rfl rfl), (tj1 1 rfl rfl), by decide +kernel⟩
set_option maxRecDepth 20000 in
theorem im_X7_sure : Cond.instanceMethod yX7_sure ∈ wsT := (tj4 160 rfl rfl)
set_option maxRecDepth 20000 in
theorem se_X7_sure : Cond.selects (yX7_sure).cls yX7_sure yX7_sure ∈ wsT := (tj4 161 rfl rfl)
set_option maxRecDepth 20000 in
theorem l_L_71 : CL RL 71 yX7_sure cX7_sure 3 (some .int) 2 := ⟨Or.inl (tj4 159 rfl rfl), (tj4 162 rfl rfl), (tj1 9 rfl rfl), by decide +kernel⟩
set_option maxRecDepth 20000 in
theorem im_X6_rule : Cond.instanceMethod yX6_rule ∈ wsT := (tj2 232 rfl rfl)
set_option maxRecDepth 20000 in
theorem se_X6_rule : Cond.selects (yX6_rule).cls yX6_rule yX6_rule ∈ wsT := (tj2 233 rfl rfl)
set_option maxRecDepth 20000 in
theorem l_L_72 : CL RL 72 yX6_rule cX6_rule 2 (some .int) 1 := ⟨Or.inl (tj2 231 rfl rfl), (tj2 234 rfl rfl), (tj1 1 rfl rfl), by decide +kernel⟩
set_option maxRecDepth 20000 in
theorem im_X7_rule : Cond.instanceMethod yX7_rule ∈ wsT := (tj4 164 rfl rfl)
set_option maxRecDepth 20000 in
theorem se_X7_rule : Cond.selects (yX7_rule).cls yX7_rule yX7_rule ∈ wsT := (tj4 165 rfl rfl)
set_option maxRecDepth 20000 in
theorem l_L_75 : CL RL 75 yX7_rule cX7_rule 2 (some .int) 1 := ⟨Or.inl (tj4 163 rfl rfl), (tj4 166 rfl rfl), (tj1 9 rfl rfl), by decide +kernel⟩
set_option maxRecDepth 20000 in
theorem im_X6_worth : Cond.instanceMethod yX6_worth ∈ wsT := (tj2 236 rfl rfl)
set_option maxRecDepth 20000 in
theorem se_X6_worth : Cond.selects (yX6_worth).cls yX6_worth yX6_worth ∈ wsT := (tj2 237 rfl rfl)
set_option maxRecDepth 20000 in
theorem l_L_76 : CL RL 76 yX6_worth cX6_worth 3 (some .int) 2 := ⟨Or.inl (tj2 235 rfl rfl), (tj2 238 rfl rfl), (tj1 1 rfl rfl), by decide +kernel⟩
set_option maxRecDepth 20000 in
theorem im_X7_worth : Cond.instanceMethod yX7_worth ∈ wsT := (tj4 168 rfl rfl)
set_option maxRecDepth 20000 in
theorem se_X7_worth : Cond.selects (yX7_worth).cls yX7_worth yX7_worth ∈ wsT := (tj4 169 rfl rfl)
set_option maxRecDepth 20000 in
theorem l_L_79 : CL RL 79 yX7_worth cX7_worth 3 (some .int) 2 := ⟨Or.inl (tj4 167 rfl rfl), (tj4 170 rfl rfl), (tj1 9 rfl rfl), by decide +kernel⟩
set_option maxRecDepth 20000 in
theorem im_X6_said : Cond.instanceMethod yX6_said ∈ wsT := (tj3 0 rfl rfl)
set_option maxRecDepth 20000 in
theorem se_X6_said : Cond.selects (yX6_said).cls yX6_said yX6_said ∈ wsT := (tj3 1 rfl rfl)
set_option maxRecDepth 20000 in
theorem l_L_80 : CL RL 80 yX6_said cX6_said 3 (some .int) 2 := ⟨Or.inl (tj2 239 rfl rfl), (tj3 2 rfl rfl), (tj1 1 rfl rfl), by decide +kernel⟩
set_option maxRecDepth 20000 in
theorem im_X7_said : Cond.instanceMethod yX7_said ∈ wsT := (tj4 172 rfl rfl)
set_option maxRecDepth 20000 in
theorem se_X7_said : Cond.selects (yX7_said).cls yX7_said yX7_said ∈ wsT := (tj4 173 rfl rfl)
set_option maxRecDepth 20000 in
theorem l_L_83 : CL RL 83 yX7_said cX7_said 3 (some .int) 2 := ⟨Or.inl (tj4 171 rfl rfl), (tj4 174 rfl rfl), (tj1 9 rfl rfl), by decide +kernel⟩
set_option maxRecDepth 20000 in
theorem im_X6_misheard : Cond.instanceMethod yX6_misheard ∈ wsT := (tj3 4 rfl rfl)
set_option maxRecDepth 20000 in
theorem se_X6_misheard : Cond.selects (yX6_misheard).cls yX6_misheard yX6_misheard ∈ wsT := (tj3 5 rfl rfl)
set_option maxRecDepth 20000 in
theorem l_L_84 : CL RL 84 yX6_misheard cX6_misheard 5 (some .int) 1 := ⟨Or.inl (tj3 3 rfl rfl), (tj3 6 rfl rfl), (tj1 1 rfl rfl), by decide +kernel⟩
set_option maxRecDepth 20000 in
theorem im_X7_misheard : Cond.instanceMethod yX7_misheard ∈ wsT := (tj4 176 rfl rfl)
set_option maxRecDepth 20000 in
theorem se_X7_misheard : Cond.selects (yX7_misheard).cls yX7_misheard yX7_misheard ∈ wsT := (tj4 177 rfl rfl)
set_option maxRecDepth 20000 in
theorem l_L_87 : CL RL 87 yX7_misheard cX7_misheard 6 (some .int) 1 := ⟨Or.inl (tj4 175 rfl rfl), (tj4 178 rfl rfl), (tj1 9 rfl rfl), by decide +kernel⟩
set_option maxRecDepth 20000 in
theorem im_X6_who : Cond.instanceMethod yX6_who ∈ wsT := (tj3 12 rfl rfl)
set_option maxRecDepth 20000 in
theorem se_X6_who : Cond.selects (yX6_who).cls yX6_who yX6_who ∈ wsT := (tj3 13 rfl rfl)
set_option maxRecDepth 20000 in
theorem l_L_88 : CL RL 88 yX6_who cX6_who 4 (some .int) 1 := ⟨Or.inl (tj3 11 rfl rfl), (tj3 14 rfl rfl), (tj1 1 rfl rfl), by decide +kernel⟩
set_option maxRecDepth 20000 in
theorem im_X7_who : Cond.instanceMethod yX7_who ∈ wsT := (tj4 180 rfl rfl)
set_option maxRecDepth 20000 in
theorem se_X7_who : Cond.selects (yX7_who).cls yX7_who yX7_who ∈ wsT := (tj4 181 rfl rfl)
set_option maxRecDepth 20000 in
theorem l_L_91 : CL RL 91 yX7_who cX7_who 4 (some .int) 1 := ⟨Or.inl (tj4 179 rfl rfl), (tj4 182 rfl rfl), (tj1 9 rfl rfl), by decide +kernel⟩
set_option maxRecDepth 20000 in
theorem im_X6_meant : Cond.instanceMethod yX6_meant ∈ wsT := (tj3 20 rfl rfl)
set_option maxRecDepth 20000 in
theorem se_X6_meant : Cond.selects (yX6_meant).cls yX6_meant yX6_meant ∈ wsT := (tj3 21 rfl rfl)
set_option maxRecDepth 20000 in
theorem l_L_92 : CL RL 92 yX6_meant cX6_meant 3 (some .int) 2 := ⟨Or.inl (tj3 19 rfl rfl), (tj3 22 rfl rfl), (tj1 1 rfl rfl), by decide +kernel⟩
set_option maxRecDepth 20000 in
theorem im_X7_meant : Cond.instanceMethod yX7_meant ∈ wsT := (tj4 188 rfl rfl)
set_option maxRecDepth 20000 in
theorem se_X7_meant : Cond.selects (yX7_meant).cls yX7_meant yX7_meant ∈ wsT := (tj4 189 rfl rfl)
set_option maxRecDepth 20000 in
theorem l_L_95 : CL RL 95 yX7_meant cX7_meant 3 (some .int) 2 := ⟨Or.inl (tj4 187 rfl rfl), (tj4 190 rfl rfl), (tj1 9 rfl rfl), by decide +kernel⟩
set_option maxRecDepth 20000 in
theorem im_X6_alike : Cond.instanceMethod yX6_alike ∈ wsT := (tj3 24 rfl rfl)
set_option maxRecDepth 20000 in
theorem se_X6_alike : Cond.selects (yX6_alike).cls yX6_alike yX6_alike ∈ wsT := (tj3 25 rfl rfl)
set_option maxRecDepth 20000 in
theorem l_L_96 : CL RL 96 yX6_alike cX6_alike 6 (some .int) 2 := ⟨Or.inl (tj3 23 rfl rfl), (tj3 26 rfl rfl), (tj1 1 rfl rfl), by decide +kernel⟩
set_option maxRecDepth 20000 in
theorem im_X7_alike : Cond.instanceMethod yX7_alike ∈ wsT := (tj4 192 rfl rfl)
set_option maxRecDepth 20000 in
theorem se_X7_alike : Cond.selects (yX7_alike).cls yX7_alike yX7_alike ∈ wsT := (tj4 193 rfl rfl)
set_option maxRecDepth 20000 in
theorem l_L_99 : CL RL 99 yX7_alike cX7_alike 7 (some .int) 2 := ⟨Or.inl (tj4 191 rfl rfl), (tj4 194 rfl rfl), (tj1 9 rfl rfl), by decide +kernel⟩
set_option maxRecDepth 20000 in
theorem im_X6_wake : Cond.instanceMethod yX6_wake ∈ wsT := (tj3 31 rfl rfl)
set_option maxRecDepth 20000 in
theorem se_X6_wake : Cond.selects (yX6_wake).cls yX6_wake yX6_wake ∈ wsT := (tj3 32 rfl rfl)
set_option maxRecDepth 20000 in
theorem l_L_100 : CL RL 100 yX6_wake cX6_wake 6 (some .int) 1 := ⟨Or.inl (tj3 30 rfl rfl), (tj3 33 rfl rfl), (tj1 1 rfl rfl), by decide +kernel⟩
set_option maxRecDepth 20000 in
theorem im_X7_wake : Cond.instanceMethod yX7_wake ∈ wsT := (tj4 196 rfl rfl)
set_option maxRecDepth 20000 in
theorem se_X7_wake : Cond.selects (yX7_wake).cls yX7_wake yX7_wake ∈ wsT := (tj4 197 rfl rfl)
set_option maxRecDepth 20000 in
theorem l_L_103 : CL RL 103 yX7_wake cX7_wake 8 (some .int) 1 := ⟨Or.inl (tj4 195 rfl rfl), (tj4 198 rfl rfl), (tj1 9 rfl rfl), by decide +kernel⟩
set_option maxRecDepth 20000 in
theorem im_X6_falsely : Cond.instanceMethod yX6_falsely ∈ wsT := (tj3 39 rfl rfl)
set_option maxRecDepth 20000 in
theorem se_X6_falsely : Cond.selects (yX6_falsely).cls yX6_falsely yX6_falsely ∈ wsT := (tj3 40 rfl rfl)
set_option maxRecDepth 20000 in
theorem l_L_104 : CL RL 104 yX6_falsely cX6_falsely 5 (some .int) 2 := ⟨Or.inl (tj3 38 rfl rfl), (tj3 41 rfl rfl), (tj1 1 rfl rfl), by decide +kernel⟩
set_option maxRecDepth 20000 in
theorem im_X7_falsely : Cond.instanceMethod yX7_falsely ∈ wsT := (tj4 200 rfl rfl)
set_option maxRecDepth 20000 in
theorem se_X7_falsely : Cond.selects (yX7_falsely).cls yX7_falsely yX7_falsely ∈ wsT := (tj4 201 rfl rfl)
set_option maxRecDepth 20000 in
theorem l_L_107 : CL RL 107 yX7_falsely cX7_falsely 5 (some .int) 2 := ⟨Or.inl (tj4 199 rfl rfl), (tj4 202 rfl rfl), (tj1 9 rfl rfl), by decide +kernel⟩
set_option maxRecDepth 20000 in
theorem im_X6_needs : Cond.instanceMethod yX6_needs ∈ wsT := (tj3 43 rfl rfl)
set_option maxRecDepth 20000 in
theorem se_X6_needs : Cond.selects (yX6_needs).cls yX6_needs yX6_needs ∈ wsT := (tj3 44 rfl rfl)
set_option maxRecDepth 20000 in
theorem l_L_108 : CL RL 108 yX6_needs cX6_needs 6 (some .int) 3 := ⟨Or.inl (tj3 42 rfl rfl), (tj3 45 rfl rfl), (tj1 1 rfl rfl), by decide +kernel⟩
set_option maxRecDepth 20000 in
theorem im_X7_needs : Cond.instanceMethod yX7_needs ∈ wsT := (tj4 204 rfl rfl)
set_option maxRecDepth 20000 in
theorem se_X7_needs : Cond.selects (yX7_needs).cls yX7_needs yX7_needs ∈ wsT := (tj4 205 rfl rfl)
set_option maxRecDepth 20000 in
theorem l_L_112 : CL RL 112 yX7_needs cX7_needs 8 (some .int) 3 := ⟨Or.inl (tj4 203 rfl rfl), (tj4 206 rfl rfl), (tj1 9 rfl rfl), by decide +kernel⟩
set_option maxRecDepth 20000 in
theorem im_X6_bestCalled : Cond.instanceMethod yX6_bestCalled ∈ wsT := (tj3 48 rfl rfl)
set_option maxRecDepth 20000 in
theorem se_X6_bestCalled : Cond.selects (yX6_bestCalled).cls yX6_bestCalled yX6_bestCalled ∈ wsT := (tj3 49 rfl rfl)
set_option maxRecDepth 20000 in
theorem l_L_113 : CL RL 113 yX6_bestCalled cX6_bestCalled 11 (some .int) 2 := ⟨Or.inl (tj3 47 rfl rfl), (tj3 50 rfl rfl), (tj1 1 rfl rfl), by decide +kernel⟩
set_option maxRecDepth 20000 in
theorem im_X7_bestCalled : Cond.instanceMethod yX7_bestCalled ∈ wsT := (tj4 208 rfl rfl)
set_option maxRecDepth 20000 in
theorem se_X7_bestCalled : Cond.selects (yX7_bestCalled).cls yX7_bestCalled yX7_bestCalled ∈ wsT := (tj4 209 rfl rfl)
set_option maxRecDepth 20000 in
theorem l_L_116 : CL RL 116 yX7_bestCalled cX7_bestCalled 8 (some .int) 2 := ⟨Or.inl (tj4 207 rfl rfl), (tj4 210 rfl rfl), (tj1 9 rfl rfl), by decide +kernel⟩
set_option maxRecDepth 20000 in
theorem im_X6_asks : Cond.instanceMethod yX6_asks ∈ wsT := (tj3 56 rfl rfl)
set_option maxRecDepth 20000 in
theorem se_X6_asks : Cond.selects (yX6_asks).cls yX6_asks yX6_asks ∈ wsT := (tj3 57 rfl rfl)
set_option maxRecDepth 20000 in
theorem l_L_117 : CL RL 117 yX6_asks cX6_asks 4 (some .int) 1 := ⟨Or.inl (tj3 55 rfl rfl), (tj3 58 rfl rfl), (tj1 1 rfl rfl), by decide +kernel⟩
set_option maxRecDepth 20000 in
theorem im_X7_asks : Cond.instanceMethod yX7_asks ∈ wsT := (tj4 216 rfl rfl)
set_option maxRecDepth 20000 in
theorem se_X7_asks : Cond.selects (yX7_asks).cls yX7_asks yX7_asks ∈ wsT := (tj4 217 rfl rfl)
set_option maxRecDepth 20000 in
theorem l_L_120 : CL RL 120 yX7_asks cX7_asks 4 (some .int) 1 := ⟨Or.inl (tj4 215 rfl rfl), (tj4 218 rfl rfl), (tj1 9 rfl rfl), by decide +kernel⟩
set_option maxRecDepth 20000 in
theorem im_X6_waked : Cond.instanceMethod yX6_waked ∈ wsT := (tj3 60 rfl rfl)
set_option maxRecDepth 20000 in
theorem se_X6_waked : Cond.selects (yX6_waked).cls yX6_waked yX6_waked ∈ wsT := (tj3 61 rfl rfl)
set_option maxRecDepth 20000 in
theorem l_L_121 : CL RL 121 yX6_waked cX6_waked 6 (some .int) 2 := ⟨Or.inl (tj3 59 rfl rfl), (tj3 62 rfl rfl), (tj1 1 rfl rfl), by decide +kernel⟩
set_option maxRecDepth 20000 in
theorem im_X7_waked : Cond.instanceMethod yX7_waked ∈ wsT := (tj4 220 rfl rfl)
set_option maxRecDepth 20000 in
theorem se_X7_waked : Cond.selects (yX7_waked).cls yX7_waked yX7_waked ∈ wsT := (tj4 221 rfl rfl)
set_option maxRecDepth 20000 in
theorem l_L_124 : CL RL 124 yX7_waked cX7_waked 6 (some .int) 2 := ⟨Or.inl (tj4 219 rfl rfl), (tj4 222 rfl rfl), (tj1 9 rfl rfl), by decide +kernel⟩
set_option maxRecDepth 20000 in
theorem im_X6_see : Cond.instanceMethod yX6_see ∈ wsT := (tj3 66 rfl rfl)
set_option maxRecDepth 20000 in
theorem se_X6_see : Cond.selects (yX6_see).cls yX6_see yX6_see ∈ wsT := (tj3 67 rfl rfl)
set_option maxRecDepth 20000 in
theorem l_L_125 : CL RL 125 yX6_see cX6_see 3 (some .int) 2 := ⟨Or.inl (tj3 65 rfl rfl), (tj3 68 rfl rfl), (tj1 1 rfl rfl), by decide +kernel⟩
set_option maxRecDepth 20000 in
theorem im_X7_see : Cond.instanceMethod yX7_see ∈ wsT := (tj4 226 rfl rfl)
set_option maxRecDepth 20000 in
theorem se_X7_see : Cond.selects (yX7_see).cls yX7_see yX7_see ∈ wsT := (tj4 227 rfl rfl)
set_option maxRecDepth 20000 in
theorem l_L_128 : CL RL 128 yX7_see cX7_see 3 (some .int) 2 := ⟨Or.inl (tj4 225 rfl rfl), (tj4 228 rfl rfl), (tj1 9 rfl rfl), by decide +kernel⟩
set_option maxRecDepth 20000 in
theorem l_L_129 : CL RL 129 yX6_speaker cX6_speaker 3 (some .int) 0 := ⟨Or.inl (tj3 73 rfl rfl), (tj3 76 rfl rfl), (tj1 1 rfl rfl), by decide +kernel⟩
set_option maxRecDepth 20000 in
theorem l_L_132 : CL RL 132 yX7_speaker cX7_speaker 5 (some .int) 0 := ⟨Or.inl (tj4 229 rfl rfl), (tj4 232 rfl rfl), (tj1 9 rfl rfl), by decide +kernel⟩
set_option maxRecDepth 20000 in
theorem im_X6_sayNext : Cond.instanceMethod yX6_sayNext ∈ wsT := (tj3 82 rfl rfl)
set_option maxRecDepth 20000 in
theorem se_X6_sayNext : Cond.selects (yX6_sayNext).cls yX6_sayNext yX6_sayNext ∈ wsT := (tj3 83 rfl rfl)
set_option maxRecDepth 20000 in
theorem l_L_133 : CL RL 133 yX6_sayNext cX6_sayNext 6 (some .int) 0 := ⟨Or.inl (tj3 81 rfl rfl), (tj3 84 rfl rfl), (tj1 1 rfl rfl), by decide +kernel⟩
set_option maxRecDepth 20000 in
theorem im_X7_sayNext : Cond.instanceMethod yX7_sayNext ∈ wsT := (tj4 234 rfl rfl)
set_option maxRecDepth 20000 in
theorem se_X7_sayNext : Cond.selects (yX7_sayNext).cls yX7_sayNext yX7_sayNext ∈ wsT := (tj4 235 rfl rfl)
set_option maxRecDepth 20000 in
theorem l_L_136 : CL RL 136 yX7_sayNext cX7_sayNext 6 (some .int) 0 := ⟨Or.inl (tj4 233 rfl rfl), (tj4 236 rfl rfl), (tj1 9 rfl rfl), by decide +kernel⟩
set_option maxRecDepth 20000 in
theorem im_X6_write : Cond.instanceMethod yX6_write ∈ wsT := (tj3 98 rfl rfl)
set_option maxRecDepth 20000 in
theorem se_X6_write : Cond.selects (yX6_write).cls yX6_write yX6_write ∈ wsT := (tj3 99 rfl rfl)
set_option maxRecDepth 20000 in
theorem l_L_137 : CL RL 137 yX6_write cX6_write 3 (some .int) 2 := ⟨Or.inl (tj3 97 rfl rfl), (tj3 100 rfl rfl), (tj1 1 rfl rfl), by decide +kernel⟩
set_option maxRecDepth 20000 in
theorem im_X7_write : Cond.instanceMethod yX7_write ∈ wsT := (tj5 6 rfl rfl)
set_option maxRecDepth 20000 in
theorem se_X7_write : Cond.selects (yX7_write).cls yX7_write yX7_write ∈ wsT := (tj5 7 rfl rfl)
set_option maxRecDepth 20000 in
theorem l_L_140 : CL RL 140 yX7_write cX7_write 3 (some .int) 2 := ⟨Or.inl (tj5 5 rfl rfl), (tj5 8 rfl rfl), (tj1 9 rfl rfl), by decide +kernel⟩
set_option maxRecDepth 20000 in
theorem im_X6_tear : Cond.instanceMethod yX6_tear ∈ wsT := (tj3 102 rfl rfl)
set_option maxRecDepth 20000 in
theorem se_X6_tear : Cond.selects (yX6_tear).cls yX6_tear yX6_tear ∈ wsT := (tj3 103 rfl rfl)
set_option maxRecDepth 20000 in
theorem l_L_141 : CL RL 141 yX6_tear cX6_tear 2 (some .int) 0 := ⟨Or.inl (tj3 101 rfl rfl), (tj3 104 rfl rfl), (tj1 1 rfl rfl), by decide +kernel⟩
set_option maxRecDepth 20000 in
theorem im_X7_tear : Cond.instanceMethod yX7_tear ∈ wsT := (tj5 10 rfl rfl)
set_option maxRecDepth 20000 in
theorem se_X7_tear : Cond.selects (yX7_tear).cls yX7_tear yX7_tear ∈ wsT := (tj5 11 rfl rfl)
set_option maxRecDepth 20000 in
theorem l_L_144 : CL RL 144 yX7_tear cX7_tear 2 (some .int) 0 := ⟨Or.inl (tj5 9 rfl rfl), (tj5 12 rfl rfl), (tj1 9 rfl rfl), by decide +kernel⟩
set_option maxRecDepth 20000 in
theorem im_X6_judge : Cond.instanceMethod yX6_judge ∈ wsT := (tj3 106 rfl rfl)
set_option maxRecDepth 20000 in
theorem se_X6_judge : Cond.selects (yX6_judge).cls yX6_judge yX6_judge ∈ wsT := (tj3 107 rfl rfl)
set_option maxRecDepth 20000 in
theorem l_L_145 : CL RL 145 yX6_judge cX6_judge 3 (some .int) 0 := ⟨Or.inl (tj3 105 rfl rfl), (tj3 108 rfl rfl), (tj1 1 rfl rfl), by decide +kernel⟩
set_option maxRecDepth 20000 in
theorem im_X7_judge : Cond.instanceMethod yX7_judge ∈ wsT := (tj5 14 rfl rfl)
set_option maxRecDepth 20000 in
theorem se_X7_judge : Cond.selects (yX7_judge).cls yX7_judge yX7_judge ∈ wsT := (tj5 15 rfl rfl)
set_option maxRecDepth 20000 in
theorem l_L_148 : CL RL 148 yX7_judge cX7_judge 3 (some .int) 0 := ⟨Or.inl (tj5 13 rfl rfl), (tj5 16 rfl rfl), (tj1 9 rfl rfl), by decide +kernel⟩
set_option maxRecDepth 20000 in
theorem im_X6_seed : Cond.instanceMethod yX6_seed ∈ wsT := (tj3 110 rfl rfl)
set_option maxRecDepth 20000 in
theorem se_X6_seed : Cond.selects (yX6_seed).cls yX6_seed yX6_seed ∈ wsT := (tj3 111 rfl rfl)
set_option maxRecDepth 20000 in
theorem l_L_149 : CL RL 149 yX6_seed cX6_seed 3 (some .int) 1 := ⟨Or.inl (tj3 109 rfl rfl), (tj3 112 rfl rfl), (tj1 1 rfl rfl), by decide +kernel⟩
set_option maxRecDepth 20000 in
theorem im_X7_seed : Cond.instanceMethod yX7_seed ∈ wsT := (tj5 18 rfl rfl)
set_option maxRecDepth 20000 in
theorem se_X7_seed : Cond.selects (yX7_seed).cls yX7_seed yX7_seed ∈ wsT := (tj5 19 rfl rfl)
set_option maxRecDepth 20000 in
theorem l_L_152 : CL RL 152 yX7_seed cX7_seed 3 (some .int) 1 := ⟨Or.inl (tj5 17 rfl rfl), (tj5 20 rfl rfl), (tj1 9 rfl rfl), by decide +kernel⟩
set_option maxRecDepth 20000 in
theorem im_X6_keep : Cond.instanceMethod yX6_keep ∈ wsT := (tj3 114 rfl rfl)
set_option maxRecDepth 20000 in
theorem se_X6_keep : Cond.selects (yX6_keep).cls yX6_keep yX6_keep ∈ wsT := (tj3 115 rfl rfl)
set_option maxRecDepth 20000 in
theorem l_L_153 : CL RL 153 yX6_keep cX6_keep 2 (some .int) 1 := ⟨Or.inl (tj3 113 rfl rfl), (tj3 116 rfl rfl), (tj1 1 rfl rfl), by decide +kernel⟩
set_option maxRecDepth 20000 in
theorem im_X7_keep : Cond.instanceMethod yX7_keep ∈ wsT := (tj5 22 rfl rfl)
set_option maxRecDepth 20000 in
theorem se_X7_keep : Cond.selects (yX7_keep).cls yX7_keep yX7_keep ∈ wsT := (tj5 23 rfl rfl)
set_option maxRecDepth 20000 in
theorem l_L_156 : CL RL 156 yX7_keep cX7_keep 3 (some .int) 1 := ⟨Or.inl (tj5 21 rfl rfl), (tj5 24 rfl rfl), (tj1 9 rfl rfl), by decide +kernel⟩
set_option maxRecDepth 20000 in
theorem im_X6_goBack : Cond.instanceMethod yX6_goBack ∈ wsT := (tj3 121 rfl rfl)
set_option maxRecDepth 20000 in
theorem se_X6_goBack : Cond.selects (yX6_goBack).cls yX6_goBack yX6_goBack ∈ wsT := (tj3 122 rfl rfl)
set_option maxRecDepth 20000 in
theorem l_L_157 : CL RL 157 yX6_goBack cX6_goBack 2 (some .int) 1 := ⟨Or.inl (tj3 120 rfl rfl), (tj3 123 rfl rfl), (tj1 1 rfl rfl), by decide +kernel⟩
set_option maxRecDepth 20000 in
theorem im_X7_goBack : Cond.instanceMethod yX7_goBack ∈ wsT := (tj5 26 rfl rfl)
set_option maxRecDepth 20000 in
theorem se_X7_goBack : Cond.selects (yX7_goBack).cls yX7_goBack yX7_goBack ∈ wsT := (tj5 27 rfl rfl)
set_option maxRecDepth 20000 in
theorem l_L_160 : CL RL 160 yX7_goBack cX7_goBack 3 (some .int) 1 := ⟨Or.inl (tj5 25 rfl rfl), (tj5 28 rfl rfl), (tj1 9 rfl rfl), by decide +kernel⟩
set_option maxRecDepth 20000 in
theorem ac_I : Cond.arrayClass .int ∈ wsT := (tj1 40 rfl rfl)
set_option maxRecDepth 20000 in
theorem ac_J : Cond.arrayClass .long ∈ wsT := (tj3 219 rfl rfl)
set_option maxRecDepth 20000 in
theorem ac_Z : Cond.arrayClass .boolean ∈ wsT := (tj3 218 rfl rfl)
/-! ===== END words ===== -/
end
section
theorem dX0_init_0 : decode cX0_init 0 = .ok (.aload_n 0, 1) := by decide +kernel
theorem dX0_init_1 : decode cX0_init 1 = .ok (.invokespecial 3, 3) := by decide +kernel
theorem dX0_init_4 : decode cX0_init 4 = .ok (.aload_n 0, 1) := by decide +kernel
theorem dX0_init_5 : decode cX0_init 5 = .ok (.iconst 0, 1) := by decide +kernel
theorem dX0_init_6 : decode cX0_init 6 = .ok (.putfield 9, 3) := by decide +kernel
theorem dX0_init_9 : decode cX0_init 9 = .ok (.aload_n 0, 1) := by decide +kernel
theorem dX0_init_10 : decode cX0_init 10 = .ok (.bipush 8, 2) := by decide +kernel
theorem dX0_init_12 : decode cX0_init 12 = .ok (.newarray .int, 2) := by decide +kernel
theorem dX0_init_14 : decode cX0_init 14 = .ok (.putfield 15, 3) := by decide +kernel
theorem dX0_init_17 : decode cX0_init 17 = .ok (.aload_n 0, 1) := by decide +kernel
theorem dX0_init_18 : decode cX0_init 18 = .ok (.bipush 8, 2) := by decide +kernel
theorem dX0_init_20 : decode cX0_init 20 = .ok (.newarray .int, 2) := by decide +kernel
theorem dX0_init_22 : decode cX0_init 22 = .ok (.putfield 19, 3) := by decide +kernel
theorem dX0_init_25 : decode cX0_init 25 = .ok (.aload_n 0, 1) := by decide +kernel
theorem dX0_init_26 : decode cX0_init 26 = .ok (.bipush 8, 2) := by decide +kernel
theorem dX0_init_28 : decode cX0_init 28 = .ok (.newarray .int, 2) := by decide +kernel
theorem dX0_init_30 : decode cX0_init 30 = .ok (.putfield 22, 3) := by decide +kernel
theorem dX0_init_33 : decode cX0_init 33 = .ok (.aload_n 0, 1) := by decide +kernel
theorem dX0_init_34 : decode cX0_init 34 = .ok (.iconst 0, 1) := by decide +kernel
theorem dX0_init_35 : decode cX0_init 35 = .ok (.putfield 25, 3) := by decide +kernel
theorem dX0_init_38 : decode cX0_init 38 = .ok (.aload_n 0, 1) := by decide +kernel
theorem dX0_init_39 : decode cX0_init 39 = .ok (.iconst 0, 1) := by decide +kernel
theorem dX0_init_40 : decode cX0_init 40 = .ok (.putfield 28, 3) := by decide +kernel
theorem dX0_init_43 : decode cX0_init 43 = .ok (.aload_n 0, 1) := by decide +kernel
theorem dX0_init_44 : decode cX0_init 44 = .ok (.iconst (-1), 1) := by decide +kernel
theorem dX0_init_45 : decode cX0_init 45 = .ok (.putfield 31, 3) := by decide +kernel
theorem dX0_init_48 : decode cX0_init 48 = .ok (.return_, 1) := by decide +kernel
theorem dX0_begin_0 : decode cX0_begin 0 = .ok (.aload_n 0, 1) := by decide +kernel
theorem dX0_begin_1 : decode cX0_begin 1 = .ok (.aload_n 1, 1) := by decide +kernel
theorem dX0_begin_2 : decode cX0_begin 2 = .ok (.getfield 34, 3) := by decide +kernel
theorem dX0_begin_5 : decode cX0_begin 5 = .ok (.putfield 9, 3) := by decide +kernel
theorem dX0_begin_8 : decode cX0_begin 8 = .ok (.iconst 0, 1) := by decide +kernel
theorem dX0_begin_9 : decode cX0_begin 9 = .ok (.istore_n 2, 1) := by decide +kernel
theorem dX0_begin_10 : decode cX0_begin 10 = .ok (.iload_n 2, 1) := by decide +kernel
theorem dX0_begin_11 : decode cX0_begin 11 = .ok (.aload_n 0, 1) := by decide +kernel
theorem dX0_begin_12 : decode cX0_begin 12 = .ok (.getfield 9, 3) := by decide +kernel
theorem dX0_begin_15 : decode cX0_begin 15 = .ok (.if_icmp .ge 40, 3) := by decide +kernel
theorem dX0_begin_18 : decode cX0_begin 18 = .ok (.aload_n 0, 1) := by decide +kernel
theorem dX0_begin_19 : decode cX0_begin 19 = .ok (.getfield 15, 3) := by decide +kernel
theorem dX0_begin_22 : decode cX0_begin 22 = .ok (.iload_n 2, 1) := by decide +kernel
theorem dX0_begin_23 : decode cX0_begin 23 = .ok (.aload_n 1, 1) := by decide +kernel
theorem dX0_begin_24 : decode cX0_begin 24 = .ok (.getfield 37, 3) := by decide +kernel
theorem dX0_begin_27 : decode cX0_begin 27 = .ok (.iload_n 2, 1) := by decide +kernel
theorem dX0_begin_28 : decode cX0_begin 28 = .ok (.iaload, 1) := by decide +kernel
theorem dX0_begin_29 : decode cX0_begin 29 = .ok (.iastore, 1) := by decide +kernel
theorem dX0_begin_30 : decode cX0_begin 30 = .ok (.aload_n 0, 1) := by decide +kernel
theorem dX0_begin_31 : decode cX0_begin 31 = .ok (.getfield 19, 3) := by decide +kernel
theorem dX0_begin_34 : decode cX0_begin 34 = .ok (.iload_n 2, 1) := by decide +kernel
theorem dX0_begin_35 : decode cX0_begin 35 = .ok (.aload_n 1, 1) := by decide +kernel
theorem dX0_begin_36 : decode cX0_begin 36 = .ok (.getfield 38, 3) := by decide +kernel
theorem dX0_begin_39 : decode cX0_begin 39 = .ok (.iload_n 2, 1) := by decide +kernel
theorem dX0_begin_40 : decode cX0_begin 40 = .ok (.iaload, 1) := by decide +kernel
theorem dX0_begin_41 : decode cX0_begin 41 = .ok (.iastore, 1) := by decide +kernel
theorem dX0_begin_42 : decode cX0_begin 42 = .ok (.aload_n 0, 1) := by decide +kernel
theorem dX0_begin_43 : decode cX0_begin 43 = .ok (.getfield 22, 3) := by decide +kernel
theorem dX0_begin_46 : decode cX0_begin 46 = .ok (.iload_n 2, 1) := by decide +kernel
theorem dX0_begin_47 : decode cX0_begin 47 = .ok (.iconst 0, 1) := by decide +kernel
theorem dX0_begin_48 : decode cX0_begin 48 = .ok (.iastore, 1) := by decide +kernel
theorem dX0_begin_49 : decode cX0_begin 49 = .ok (.iinc 2 1, 3) := by decide +kernel
theorem dX0_begin_52 : decode cX0_begin 52 = .ok (.goto (-42), 3) := by decide +kernel
theorem dX0_begin_55 : decode cX0_begin 55 = .ok (.aload_n 0, 1) := by decide +kernel
theorem dX0_begin_56 : decode cX0_begin 56 = .ok (.iconst 0, 1) := by decide +kernel
theorem dX0_begin_57 : decode cX0_begin 57 = .ok (.putfield 25, 3) := by decide +kernel
theorem dX0_begin_60 : decode cX0_begin 60 = .ok (.aload_n 0, 1) := by decide +kernel
theorem dX0_begin_61 : decode cX0_begin 61 = .ok (.iconst 0, 1) := by decide +kernel
theorem dX0_begin_62 : decode cX0_begin 62 = .ok (.putfield 28, 3) := by decide +kernel
theorem dX0_begin_65 : decode cX0_begin 65 = .ok (.aload_n 0, 1) := by decide +kernel
theorem dX0_begin_66 : decode cX0_begin 66 = .ok (.iconst (-1), 1) := by decide +kernel
theorem dX0_begin_67 : decode cX0_begin 67 = .ok (.putfield 31, 3) := by decide +kernel
theorem dX0_begin_70 : decode cX0_begin 70 = .ok (.return_, 1) := by decide +kernel
theorem dX0_copy_0 : decode cX0_copy 0 = .ok (.aload_n 0, 1) := by decide +kernel
theorem dX0_copy_1 : decode cX0_copy 1 = .ok (.aload_n 1, 1) := by decide +kernel
theorem dX0_copy_2 : decode cX0_copy 2 = .ok (.getfield 9, 3) := by decide +kernel
theorem dX0_copy_5 : decode cX0_copy 5 = .ok (.putfield 9, 3) := by decide +kernel
theorem dX0_copy_8 : decode cX0_copy 8 = .ok (.iconst 0, 1) := by decide +kernel
theorem dX0_copy_9 : decode cX0_copy 9 = .ok (.istore_n 2, 1) := by decide +kernel
theorem dX0_copy_10 : decode cX0_copy 10 = .ok (.iload_n 2, 1) := by decide +kernel
theorem dX0_copy_11 : decode cX0_copy 11 = .ok (.aload_n 0, 1) := by decide +kernel
theorem dX0_copy_12 : decode cX0_copy 12 = .ok (.getfield 9, 3) := by decide +kernel
theorem dX0_copy_15 : decode cX0_copy 15 = .ok (.if_icmp .ge 45, 3) := by decide +kernel
theorem dX0_copy_18 : decode cX0_copy 18 = .ok (.aload_n 0, 1) := by decide +kernel
theorem dX0_copy_19 : decode cX0_copy 19 = .ok (.getfield 15, 3) := by decide +kernel
theorem dX0_copy_22 : decode cX0_copy 22 = .ok (.iload_n 2, 1) := by decide +kernel
theorem dX0_copy_23 : decode cX0_copy 23 = .ok (.aload_n 1, 1) := by decide +kernel
theorem dX0_copy_24 : decode cX0_copy 24 = .ok (.getfield 15, 3) := by decide +kernel
theorem dX0_copy_27 : decode cX0_copy 27 = .ok (.iload_n 2, 1) := by decide +kernel
theorem dX0_copy_28 : decode cX0_copy 28 = .ok (.iaload, 1) := by decide +kernel
theorem dX0_copy_29 : decode cX0_copy 29 = .ok (.iastore, 1) := by decide +kernel
theorem dX0_copy_30 : decode cX0_copy 30 = .ok (.aload_n 0, 1) := by decide +kernel
theorem dX0_copy_31 : decode cX0_copy 31 = .ok (.getfield 19, 3) := by decide +kernel
theorem dX0_copy_34 : decode cX0_copy 34 = .ok (.iload_n 2, 1) := by decide +kernel
theorem dX0_copy_35 : decode cX0_copy 35 = .ok (.aload_n 1, 1) := by decide +kernel
theorem dX0_copy_36 : decode cX0_copy 36 = .ok (.getfield 19, 3) := by decide +kernel
theorem dX0_copy_39 : decode cX0_copy 39 = .ok (.iload_n 2, 1) := by decide +kernel
theorem dX0_copy_40 : decode cX0_copy 40 = .ok (.iaload, 1) := by decide +kernel
theorem dX0_copy_41 : decode cX0_copy 41 = .ok (.iastore, 1) := by decide +kernel
theorem dX0_copy_42 : decode cX0_copy 42 = .ok (.aload_n 0, 1) := by decide +kernel
theorem dX0_copy_43 : decode cX0_copy 43 = .ok (.getfield 22, 3) := by decide +kernel
theorem dX0_copy_46 : decode cX0_copy 46 = .ok (.iload_n 2, 1) := by decide +kernel
theorem dX0_copy_47 : decode cX0_copy 47 = .ok (.aload_n 1, 1) := by decide +kernel
theorem dX0_copy_48 : decode cX0_copy 48 = .ok (.getfield 22, 3) := by decide +kernel
theorem dX0_copy_51 : decode cX0_copy 51 = .ok (.iload_n 2, 1) := by decide +kernel
theorem dX0_copy_52 : decode cX0_copy 52 = .ok (.iaload, 1) := by decide +kernel
theorem dX0_copy_53 : decode cX0_copy 53 = .ok (.iastore, 1) := by decide +kernel
theorem dX0_copy_54 : decode cX0_copy 54 = .ok (.iinc 2 1, 3) := by decide +kernel
theorem dX0_copy_57 : decode cX0_copy 57 = .ok (.goto (-47), 3) := by decide +kernel
theorem dX0_copy_60 : decode cX0_copy 60 = .ok (.aload_n 0, 1) := by decide +kernel
theorem dX0_copy_61 : decode cX0_copy 61 = .ok (.aload_n 1, 1) := by decide +kernel
theorem dX0_copy_62 : decode cX0_copy 62 = .ok (.getfield 25, 3) := by decide +kernel
theorem dX0_copy_65 : decode cX0_copy 65 = .ok (.putfield 25, 3) := by decide +kernel
theorem dX0_copy_68 : decode cX0_copy 68 = .ok (.aload_n 0, 1) := by decide +kernel
theorem dX0_copy_69 : decode cX0_copy 69 = .ok (.aload_n 1, 1) := by decide +kernel
theorem dX0_copy_70 : decode cX0_copy 70 = .ok (.getfield 28, 3) := by decide +kernel
theorem dX0_copy_73 : decode cX0_copy 73 = .ok (.putfield 28, 3) := by decide +kernel
theorem dX0_copy_76 : decode cX0_copy 76 = .ok (.aload_n 0, 1) := by decide +kernel
theorem dX0_copy_77 : decode cX0_copy 77 = .ok (.aload_n 1, 1) := by decide +kernel
theorem dX0_copy_78 : decode cX0_copy 78 = .ok (.getfield 31, 3) := by decide +kernel
theorem dX0_copy_81 : decode cX0_copy 81 = .ok (.putfield 31, 3) := by decide +kernel
theorem dX0_copy_84 : decode cX0_copy 84 = .ok (.return_, 1) := by decide +kernel
theorem dX0_allOnList_0 : decode cX0_allOnList 0 = .ok (.iconst 0, 1) := by decide +kernel
theorem dX0_allOnList_1 : decode cX0_allOnList 1 = .ok (.istore_n 1, 1) := by decide +kernel
theorem dX0_allOnList_2 : decode cX0_allOnList 2 = .ok (.iconst 0, 1) := by decide +kernel
theorem dX0_allOnList_3 : decode cX0_allOnList 3 = .ok (.istore_n 2, 1) := by decide +kernel
theorem dX0_allOnList_4 : decode cX0_allOnList 4 = .ok (.iload_n 2, 1) := by decide +kernel
theorem dX0_allOnList_5 : decode cX0_allOnList 5 = .ok (.aload_n 0, 1) := by decide +kernel
theorem dX0_allOnList_6 : decode cX0_allOnList 6 = .ok (.getfield 9, 3) := by decide +kernel
theorem dX0_allOnList_9 : decode cX0_allOnList 9 = .ok (.if_icmp .ge 18, 3) := by decide +kernel
theorem dX0_allOnList_12 : decode cX0_allOnList 12 = .ok (.iload_n 1, 1) := by decide +kernel
theorem dX0_allOnList_13 : decode cX0_allOnList 13 = .ok (.aload_n 0, 1) := by decide +kernel
theorem dX0_allOnList_14 : decode cX0_allOnList 14 = .ok (.getfield 22, 3) := by decide +kernel
theorem dX0_allOnList_17 : decode cX0_allOnList 17 = .ok (.iload_n 2, 1) := by decide +kernel
theorem dX0_allOnList_18 : decode cX0_allOnList 18 = .ok (.iaload, 1) := by decide +kernel
theorem dX0_allOnList_19 : decode cX0_allOnList 19 = .ok (.iadd, 1) := by decide +kernel
theorem dX0_allOnList_20 : decode cX0_allOnList 20 = .ok (.istore_n 1, 1) := by decide +kernel
theorem dX0_allOnList_21 : decode cX0_allOnList 21 = .ok (.iinc 2 1, 3) := by decide +kernel
theorem dX0_allOnList_24 : decode cX0_allOnList 24 = .ok (.goto (-20), 3) := by decide +kernel
theorem dX0_allOnList_27 : decode cX0_allOnList 27 = .ok (.iload_n 1, 1) := by decide +kernel
theorem dX0_allOnList_28 : decode cX0_allOnList 28 = .ok (.ireturn, 1) := by decide +kernel
theorem dX0_weight_0 : decode cX0_weight 0 = .ok (.aload_n 0, 1) := by decide +kernel
theorem dX0_weight_1 : decode cX0_weight 1 = .ok (.getfield 19, 3) := by decide +kernel
theorem dX0_weight_4 : decode cX0_weight 4 = .ok (.iload_n 1, 1) := by decide +kernel
theorem dX0_weight_5 : decode cX0_weight 5 = .ok (.iaload, 1) := by decide +kernel
theorem dX0_weight_6 : decode cX0_weight 6 = .ok (.iconst 1, 1) := by decide +kernel
theorem dX0_weight_7 : decode cX0_weight 7 = .ok (.iadd, 1) := by decide +kernel
theorem dX0_weight_8 : decode cX0_weight 8 = .ok (.bipush 28, 2) := by decide +kernel
theorem dX0_weight_10 : decode cX0_weight 10 = .ok (.aload_n 0, 1) := by decide +kernel
theorem dX0_weight_11 : decode cX0_weight 11 = .ok (.getfield 15, 3) := by decide +kernel
theorem dX0_weight_14 : decode cX0_weight 14 = .ok (.iload_n 1, 1) := by decide +kernel
theorem dX0_weight_15 : decode cX0_weight 15 = .ok (.iaload, 1) := by decide +kernel
theorem dX0_weight_16 : decode cX0_weight 16 = .ok (.iload_n 2, 1) := by decide +kernel
theorem dX0_weight_17 : decode cX0_weight 17 = .ok (.invokestatic 39, 3) := by decide +kernel
theorem dX0_weight_20 : decode cX0_weight 20 = .ok (.isub, 1) := by decide +kernel
theorem dX0_weight_21 : decode cX0_weight 21 = .ok (.imul, 1) := by decide +kernel
theorem dX0_weight_22 : decode cX0_weight 22 = .ok (.ireturn, 1) := by decide +kernel
theorem dX0_strongest_0 : decode cX0_strongest 0 = .ok (.iconst (-1), 1) := by decide +kernel
theorem dX0_strongest_1 : decode cX0_strongest 1 = .ok (.istore_n 2, 1) := by decide +kernel
theorem dX0_strongest_2 : decode cX0_strongest 2 = .ok (.iconst 0, 1) := by decide +kernel
theorem dX0_strongest_3 : decode cX0_strongest 3 = .ok (.istore_n 3, 1) := by decide +kernel
theorem dX0_strongest_4 : decode cX0_strongest 4 = .ok (.iconst 0, 1) := by decide +kernel
theorem dX0_strongest_5 : decode cX0_strongest 5 = .ok (.istore 4, 2) := by decide +kernel
theorem dX0_strongest_7 : decode cX0_strongest 7 = .ok (.iload 4, 2) := by decide +kernel
theorem dX0_strongest_9 : decode cX0_strongest 9 = .ok (.aload_n 0, 1) := by decide +kernel
theorem dX0_strongest_10 : decode cX0_strongest 10 = .ok (.getfield 9, 3) := by decide +kernel
theorem dX0_strongest_13 : decode cX0_strongest 13 = .ok (.if_icmp .ge 30, 3) := by decide +kernel
theorem dX0_strongest_16 : decode cX0_strongest 16 = .ok (.aload_n 0, 1) := by decide +kernel
theorem dX0_strongest_17 : decode cX0_strongest 17 = .ok (.iload 4, 2) := by decide +kernel
theorem dX0_strongest_19 : decode cX0_strongest 19 = .ok (.iload_n 1, 1) := by decide +kernel
theorem dX0_strongest_20 : decode cX0_strongest 20 = .ok (.invokevirtual 43, 3) := by decide +kernel
theorem dX0_strongest_23 : decode cX0_strongest 23 = .ok (.istore 5, 2) := by decide +kernel
theorem dX0_strongest_25 : decode cX0_strongest 25 = .ok (.iload 5, 2) := by decide +kernel
theorem dX0_strongest_27 : decode cX0_strongest 27 = .ok (.iload_n 3, 1) := by decide +kernel
theorem dX0_strongest_28 : decode cX0_strongest 28 = .ok (.if_icmp .le 9, 3) := by decide +kernel
theorem dX0_strongest_31 : decode cX0_strongest 31 = .ok (.iload 4, 2) := by decide +kernel
theorem dX0_strongest_33 : decode cX0_strongest 33 = .ok (.istore_n 2, 1) := by decide +kernel
theorem dX0_strongest_34 : decode cX0_strongest 34 = .ok (.iload 5, 2) := by decide +kernel
theorem dX0_strongest_36 : decode cX0_strongest 36 = .ok (.istore_n 3, 1) := by decide +kernel
theorem dX0_strongest_37 : decode cX0_strongest 37 = .ok (.iinc 4 1, 3) := by decide +kernel
theorem dX0_strongest_40 : decode cX0_strongest 40 = .ok (.goto (-33), 3) := by decide +kernel
theorem dX0_strongest_43 : decode cX0_strongest 43 = .ok (.iload_n 2, 1) := by decide +kernel
theorem dX0_strongest_44 : decode cX0_strongest 44 = .ok (.ireturn, 1) := by decide +kernel
theorem dX0_certainty_0 : decode cX0_certainty 0 = .ok (.iconst 0, 1) := by decide +kernel
theorem dX0_certainty_1 : decode cX0_certainty 1 = .ok (.istore_n 3, 1) := by decide +kernel
theorem dX0_certainty_2 : decode cX0_certainty 2 = .ok (.iconst 0, 1) := by decide +kernel
theorem dX0_certainty_3 : decode cX0_certainty 3 = .ok (.istore 4, 2) := by decide +kernel
theorem dX0_certainty_5 : decode cX0_certainty 5 = .ok (.iload 4, 2) := by decide +kernel
theorem dX0_certainty_7 : decode cX0_certainty 7 = .ok (.aload_n 0, 1) := by decide +kernel
theorem dX0_certainty_8 : decode cX0_certainty 8 = .ok (.getfield 9, 3) := by decide +kernel
theorem dX0_certainty_11 : decode cX0_certainty 11 = .ok (.if_icmp .ge 19, 3) := by decide +kernel
theorem dX0_certainty_14 : decode cX0_certainty 14 = .ok (.iload_n 3, 1) := by decide +kernel
theorem dX0_certainty_15 : decode cX0_certainty 15 = .ok (.aload_n 0, 1) := by decide +kernel
theorem dX0_certainty_16 : decode cX0_certainty 16 = .ok (.iload 4, 2) := by decide +kernel
theorem dX0_certainty_18 : decode cX0_certainty 18 = .ok (.iload_n 2, 1) := by decide +kernel
theorem dX0_certainty_19 : decode cX0_certainty 19 = .ok (.invokevirtual 43, 3) := by decide +kernel
theorem dX0_certainty_22 : decode cX0_certainty 22 = .ok (.iadd, 1) := by decide +kernel
theorem dX0_certainty_23 : decode cX0_certainty 23 = .ok (.istore_n 3, 1) := by decide +kernel
theorem dX0_certainty_24 : decode cX0_certainty 24 = .ok (.iinc 4 1, 3) := by decide +kernel
theorem dX0_certainty_27 : decode cX0_certainty 27 = .ok (.goto (-22), 3) := by decide +kernel
theorem dX0_certainty_30 : decode cX0_certainty 30 = .ok (.iload_n 3, 1) := by decide +kernel
theorem dX0_certainty_31 : decode cX0_certainty 31 = .ok (.ifCond .gt 7, 3) := by decide +kernel
theorem dX0_certainty_34 : decode cX0_certainty 34 = .ok (.iconst 0, 1) := by decide +kernel
theorem dX0_certainty_35 : decode cX0_certainty 35 = .ok (.goto 18, 3) := by decide +kernel
theorem dX0_certainty_38 : decode cX0_certainty 38 = .ok (.aload_n 0, 1) := by decide +kernel
theorem dX0_certainty_39 : decode cX0_certainty 39 = .ok (.iload_n 1, 1) := by decide +kernel
theorem dX0_certainty_40 : decode cX0_certainty 40 = .ok (.iload_n 2, 1) := by decide +kernel
theorem dX0_certainty_41 : decode cX0_certainty 41 = .ok (.invokevirtual 43, 3) := by decide +kernel
theorem dX0_certainty_44 : decode cX0_certainty 44 = .ok (.i2l, 1) := by decide +kernel
theorem dX0_certainty_45 : decode cX0_certainty 45 = .ok (.ldc2_w 46, 3) := by decide +kernel
theorem dX0_certainty_48 : decode cX0_certainty 48 = .ok (.lmul, 1) := by decide +kernel
theorem dX0_certainty_49 : decode cX0_certainty 49 = .ok (.iload_n 3, 1) := by decide +kernel
theorem dX0_certainty_50 : decode cX0_certainty 50 = .ok (.i2l, 1) := by decide +kernel
theorem dX0_certainty_51 : decode cX0_certainty 51 = .ok (.ldiv, 1) := by decide +kernel
theorem dX0_certainty_52 : decode cX0_certainty 52 = .ok (.l2i, 1) := by decide +kernel
theorem dX0_certainty_53 : decode cX0_certainty 53 = .ok (.ireturn, 1) := by decide +kernel
theorem dX0_nearest_0 : decode cX0_nearest 0 = .ok (.bipush 27, 2) := by decide +kernel
theorem dX0_nearest_2 : decode cX0_nearest 2 = .ok (.istore_n 2, 1) := by decide +kernel
theorem dX0_nearest_3 : decode cX0_nearest 3 = .ok (.iconst 0, 1) := by decide +kernel
theorem dX0_nearest_4 : decode cX0_nearest 4 = .ok (.istore_n 3, 1) := by decide +kernel
theorem dX0_nearest_5 : decode cX0_nearest 5 = .ok (.iload_n 3, 1) := by decide +kernel
theorem dX0_nearest_6 : decode cX0_nearest 6 = .ok (.aload_n 0, 1) := by decide +kernel
theorem dX0_nearest_7 : decode cX0_nearest 7 = .ok (.getfield 9, 3) := by decide +kernel
theorem dX0_nearest_10 : decode cX0_nearest 10 = .ok (.if_icmp .ge 24, 3) := by decide +kernel
theorem dX0_nearest_13 : decode cX0_nearest 13 = .ok (.iload_n 2, 1) := by decide +kernel
theorem dX0_nearest_14 : decode cX0_nearest 14 = .ok (.aload_n 0, 1) := by decide +kernel
theorem dX0_nearest_15 : decode cX0_nearest 15 = .ok (.getfield 15, 3) := by decide +kernel
theorem dX0_nearest_18 : decode cX0_nearest 18 = .ok (.iload_n 3, 1) := by decide +kernel
theorem dX0_nearest_19 : decode cX0_nearest 19 = .ok (.iaload, 1) := by decide +kernel
theorem dX0_nearest_20 : decode cX0_nearest 20 = .ok (.iload_n 1, 1) := by decide +kernel
theorem dX0_nearest_21 : decode cX0_nearest 21 = .ok (.invokestatic 39, 3) := by decide +kernel
theorem dX0_nearest_24 : decode cX0_nearest 24 = .ok (.invokestatic 48, 3) := by decide +kernel
theorem dX0_nearest_27 : decode cX0_nearest 27 = .ok (.istore_n 2, 1) := by decide +kernel
theorem dX0_nearest_28 : decode cX0_nearest 28 = .ok (.iinc 3 1, 3) := by decide +kernel
theorem dX0_nearest_31 : decode cX0_nearest 31 = .ok (.goto (-26), 3) := by decide +kernel
theorem dX0_nearest_34 : decode cX0_nearest 34 = .ok (.iload_n 2, 1) := by decide +kernel
theorem dX0_nearest_35 : decode cX0_nearest 35 = .ok (.ireturn, 1) := by decide +kernel
theorem dX0_react_0 : decode cX0_react 0 = .ok (.iload_n 2, 1) := by decide +kernel
theorem dX0_react_1 : decode cX0_react 1 = .ok (.ifCond .ne 11, 3) := by decide +kernel
theorem dX0_react_4 : decode cX0_react 4 = .ok (.aload_n 0, 1) := by decide +kernel
theorem dX0_react_5 : decode cX0_react 5 = .ok (.iload_n 1, 1) := by decide +kernel
theorem dX0_react_6 : decode cX0_react 6 = .ok (.invokevirtual 53, 3) := by decide +kernel
theorem dX0_react_9 : decode cX0_react 9 = .ok (.goto 18, 3) := by decide +kernel
theorem dX0_react_12 : decode cX0_react 12 = .ok (.iload_n 2, 1) := by decide +kernel
theorem dX0_react_13 : decode cX0_react 13 = .ok (.iconst 1, 1) := by decide +kernel
theorem dX0_react_14 : decode cX0_react 14 = .ok (.if_icmp .ne 13, 3) := by decide +kernel
theorem dX0_react_17 : decode cX0_react 17 = .ok (.aload_n 0, 1) := by decide +kernel
theorem dX0_react_18 : decode cX0_react 18 = .ok (.dup, 1) := by decide +kernel
theorem dX0_react_19 : decode cX0_react 19 = .ok (.getfield 25, 3) := by decide +kernel
theorem dX0_react_22 : decode cX0_react 22 = .ok (.iconst 1, 1) := by decide +kernel
theorem dX0_react_23 : decode cX0_react 23 = .ok (.iadd, 1) := by decide +kernel
theorem dX0_react_24 : decode cX0_react 24 = .ok (.putfield 25, 3) := by decide +kernel
theorem dX0_react_27 : decode cX0_react 27 = .ok (.aload_n 0, 1) := by decide +kernel
theorem dX0_react_28 : decode cX0_react 28 = .ok (.dup, 1) := by decide +kernel
theorem dX0_react_29 : decode cX0_react 29 = .ok (.getfield 28, 3) := by decide +kernel
theorem dX0_react_32 : decode cX0_react 32 = .ok (.iconst 1, 1) := by decide +kernel
theorem dX0_react_33 : decode cX0_react 33 = .ok (.iadd, 1) := by decide +kernel
theorem dX0_react_34 : decode cX0_react 34 = .ok (.putfield 28, 3) := by decide +kernel
theorem dX0_react_37 : decode cX0_react 37 = .ok (.aload_n 0, 1) := by decide +kernel
theorem dX0_react_38 : decode cX0_react 38 = .ok (.iload_n 1, 1) := by decide +kernel
theorem dX0_react_39 : decode cX0_react 39 = .ok (.putfield 31, 3) := by decide +kernel
theorem dX0_react_42 : decode cX0_react 42 = .ok (.return_, 1) := by decide +kernel
theorem dX0_learn_0 : decode cX0_learn 0 = .ok (.iload_n 2, 1) := by decide +kernel
theorem dX0_learn_1 : decode cX0_learn 1 = .ok (.ifCond .eq 19, 3) := by decide +kernel
theorem dX0_learn_4 : decode cX0_learn 4 = .ok (.aload_n 0, 1) := by decide +kernel
theorem dX0_learn_5 : decode cX0_learn 5 = .ok (.getfield 31, 3) := by decide +kernel
theorem dX0_learn_8 : decode cX0_learn 8 = .ok (.iload_n 1, 1) := by decide +kernel
theorem dX0_learn_9 : decode cX0_learn 9 = .ok (.if_icmp .eq 11, 3) := by decide +kernel
theorem dX0_learn_12 : decode cX0_learn 12 = .ok (.aload_n 0, 1) := by decide +kernel
theorem dX0_learn_13 : decode cX0_learn 13 = .ok (.iload_n 1, 1) := by decide +kernel
theorem dX0_learn_14 : decode cX0_learn 14 = .ok (.invokevirtual 57, 3) := by decide +kernel
theorem dX0_learn_17 : decode cX0_learn 17 = .ok (.goto 7, 3) := by decide +kernel
theorem dX0_learn_20 : decode cX0_learn 20 = .ok (.aload_n 0, 1) := by decide +kernel
theorem dX0_learn_21 : decode cX0_learn 21 = .ok (.invokevirtual 60, 3) := by decide +kernel
theorem dX0_learn_24 : decode cX0_learn 24 = .ok (.return_, 1) := by decide +kernel
theorem dX0_confirm_0 : decode cX0_confirm 0 = .ok (.aload_n 0, 1) := by decide +kernel
theorem dX0_confirm_1 : decode cX0_confirm 1 = .ok (.aload_n 0, 1) := by decide +kernel
theorem dX0_confirm_2 : decode cX0_confirm 2 = .ok (.getfield 31, 3) := by decide +kernel
theorem dX0_confirm_5 : decode cX0_confirm 5 = .ok (.invokevirtual 63, 3) := by decide +kernel
theorem dX0_confirm_8 : decode cX0_confirm 8 = .ok (.ifCond .eq 28, 3) := by decide +kernel
theorem dX0_confirm_11 : decode cX0_confirm 11 = .ok (.aload_n 0, 1) := by decide +kernel
theorem dX0_confirm_12 : decode cX0_confirm 12 = .ok (.getfield 19, 3) := by decide +kernel
theorem dX0_confirm_15 : decode cX0_confirm 15 = .ok (.aload_n 0, 1) := by decide +kernel
theorem dX0_confirm_16 : decode cX0_confirm 16 = .ok (.getfield 31, 3) := by decide +kernel
theorem dX0_confirm_19 : decode cX0_confirm 19 = .ok (.aload_n 0, 1) := by decide +kernel
theorem dX0_confirm_20 : decode cX0_confirm 20 = .ok (.getfield 19, 3) := by decide +kernel
theorem dX0_confirm_23 : decode cX0_confirm 23 = .ok (.aload_n 0, 1) := by decide +kernel
theorem dX0_confirm_24 : decode cX0_confirm 24 = .ok (.getfield 31, 3) := by decide +kernel
theorem dX0_confirm_27 : decode cX0_confirm 27 = .ok (.iaload, 1) := by decide +kernel
theorem dX0_confirm_28 : decode cX0_confirm 28 = .ok (.iconst 1, 1) := by decide +kernel
theorem dX0_confirm_29 : decode cX0_confirm 29 = .ok (.iadd, 1) := by decide +kernel
theorem dX0_confirm_30 : decode cX0_confirm 30 = .ok (.bipush 99, 2) := by decide +kernel
theorem dX0_confirm_32 : decode cX0_confirm 32 = .ok (.invokestatic 48, 3) := by decide +kernel
theorem dX0_confirm_35 : decode cX0_confirm 35 = .ok (.iastore, 1) := by decide +kernel
theorem dX0_confirm_36 : decode cX0_confirm 36 = .ok (.aload_n 0, 1) := by decide +kernel
theorem dX0_confirm_37 : decode cX0_confirm 37 = .ok (.iconst (-1), 1) := by decide +kernel
theorem dX0_confirm_38 : decode cX0_confirm 38 = .ok (.putfield 31, 3) := by decide +kernel
theorem dX0_confirm_41 : decode cX0_confirm 41 = .ok (.return_, 1) := by decide +kernel
theorem dX0_correctTo_0 : decode cX0_correctTo 0 = .ok (.aload_n 0, 1) := by decide +kernel
theorem dX0_correctTo_1 : decode cX0_correctTo 1 = .ok (.aload_n 0, 1) := by decide +kernel
theorem dX0_correctTo_2 : decode cX0_correctTo 2 = .ok (.getfield 31, 3) := by decide +kernel
theorem dX0_correctTo_5 : decode cX0_correctTo 5 = .ok (.invokevirtual 63, 3) := by decide +kernel
theorem dX0_correctTo_8 : decode cX0_correctTo 8 = .ok (.ifCond .eq 51, 3) := by decide +kernel
theorem dX0_correctTo_11 : decode cX0_correctTo 11 = .ok (.aload_n 0, 1) := by decide +kernel
theorem dX0_correctTo_12 : decode cX0_correctTo 12 = .ok (.getfield 22, 3) := by decide +kernel
theorem dX0_correctTo_15 : decode cX0_correctTo 15 = .ok (.aload_n 0, 1) := by decide +kernel
theorem dX0_correctTo_16 : decode cX0_correctTo 16 = .ok (.getfield 31, 3) := by decide +kernel
theorem dX0_correctTo_19 : decode cX0_correctTo 19 = .ok (.aload_n 0, 1) := by decide +kernel
theorem dX0_correctTo_20 : decode cX0_correctTo 20 = .ok (.getfield 22, 3) := by decide +kernel
theorem dX0_correctTo_23 : decode cX0_correctTo 23 = .ok (.aload_n 0, 1) := by decide +kernel
theorem dX0_correctTo_24 : decode cX0_correctTo 24 = .ok (.getfield 31, 3) := by decide +kernel
theorem dX0_correctTo_27 : decode cX0_correctTo 27 = .ok (.iaload, 1) := by decide +kernel
theorem dX0_correctTo_28 : decode cX0_correctTo 28 = .ok (.iconst 1, 1) := by decide +kernel
theorem dX0_correctTo_29 : decode cX0_correctTo 29 = .ok (.isub, 1) := by decide +kernel
theorem dX0_correctTo_30 : decode cX0_correctTo 30 = .ok (.iconst 0, 1) := by decide +kernel
theorem dX0_correctTo_31 : decode cX0_correctTo 31 = .ok (.invokestatic 67, 3) := by decide +kernel
theorem dX0_correctTo_34 : decode cX0_correctTo 34 = .ok (.iastore, 1) := by decide +kernel
theorem dX0_correctTo_35 : decode cX0_correctTo 35 = .ok (.aload_n 0, 1) := by decide +kernel
theorem dX0_correctTo_36 : decode cX0_correctTo 36 = .ok (.getfield 19, 3) := by decide +kernel
theorem dX0_correctTo_39 : decode cX0_correctTo 39 = .ok (.aload_n 0, 1) := by decide +kernel
theorem dX0_correctTo_40 : decode cX0_correctTo 40 = .ok (.getfield 31, 3) := by decide +kernel
theorem dX0_correctTo_43 : decode cX0_correctTo 43 = .ok (.aload_n 0, 1) := by decide +kernel
theorem dX0_correctTo_44 : decode cX0_correctTo 44 = .ok (.getfield 19, 3) := by decide +kernel
theorem dX0_correctTo_47 : decode cX0_correctTo 47 = .ok (.aload_n 0, 1) := by decide +kernel
theorem dX0_correctTo_48 : decode cX0_correctTo 48 = .ok (.getfield 31, 3) := by decide +kernel
theorem dX0_correctTo_51 : decode cX0_correctTo 51 = .ok (.iaload, 1) := by decide +kernel
theorem dX0_correctTo_52 : decode cX0_correctTo 52 = .ok (.iconst 1, 1) := by decide +kernel
theorem dX0_correctTo_53 : decode cX0_correctTo 53 = .ok (.isub, 1) := by decide +kernel
theorem dX0_correctTo_54 : decode cX0_correctTo 54 = .ok (.iconst 0, 1) := by decide +kernel
theorem dX0_correctTo_55 : decode cX0_correctTo 55 = .ok (.invokestatic 67, 3) := by decide +kernel
theorem dX0_correctTo_58 : decode cX0_correctTo 58 = .ok (.iastore, 1) := by decide +kernel
theorem dX0_correctTo_59 : decode cX0_correctTo 59 = .ok (.aload_n 0, 1) := by decide +kernel
theorem dX0_correctTo_60 : decode cX0_correctTo 60 = .ok (.iload_n 1, 1) := by decide +kernel
theorem dX0_correctTo_61 : decode cX0_correctTo 61 = .ok (.invokevirtual 63, 3) := by decide +kernel
theorem dX0_correctTo_64 : decode cX0_correctTo 64 = .ok (.ifCond .eq 27, 3) := by decide +kernel
theorem dX0_correctTo_67 : decode cX0_correctTo 67 = .ok (.aload_n 0, 1) := by decide +kernel
theorem dX0_correctTo_68 : decode cX0_correctTo 68 = .ok (.getfield 19, 3) := by decide +kernel
theorem dX0_correctTo_71 : decode cX0_correctTo 71 = .ok (.iload_n 1, 1) := by decide +kernel
theorem dX0_correctTo_72 : decode cX0_correctTo 72 = .ok (.aload_n 0, 1) := by decide +kernel
theorem dX0_correctTo_73 : decode cX0_correctTo 73 = .ok (.getfield 19, 3) := by decide +kernel
theorem dX0_correctTo_76 : decode cX0_correctTo 76 = .ok (.iload_n 1, 1) := by decide +kernel
theorem dX0_correctTo_77 : decode cX0_correctTo 77 = .ok (.iaload, 1) := by decide +kernel
theorem dX0_correctTo_78 : decode cX0_correctTo 78 = .ok (.iconst 2, 1) := by decide +kernel
theorem dX0_correctTo_79 : decode cX0_correctTo 79 = .ok (.iadd, 1) := by decide +kernel
theorem dX0_correctTo_80 : decode cX0_correctTo 80 = .ok (.bipush 99, 2) := by decide +kernel
theorem dX0_correctTo_82 : decode cX0_correctTo 82 = .ok (.invokestatic 48, 3) := by decide +kernel
theorem dX0_correctTo_85 : decode cX0_correctTo 85 = .ok (.iastore, 1) := by decide +kernel
theorem dX0_correctTo_86 : decode cX0_correctTo 86 = .ok (.aload_n 0, 1) := by decide +kernel
theorem dX0_correctTo_87 : decode cX0_correctTo 87 = .ok (.iload_n 1, 1) := by decide +kernel
theorem dX0_correctTo_88 : decode cX0_correctTo 88 = .ok (.invokevirtual 53, 3) := by decide +kernel
theorem dX0_correctTo_91 : decode cX0_correctTo 91 = .ok (.aload_n 0, 1) := by decide +kernel
theorem dX0_correctTo_92 : decode cX0_correctTo 92 = .ok (.iconst (-1), 1) := by decide +kernel
theorem dX0_correctTo_93 : decode cX0_correctTo 93 = .ok (.putfield 31, 3) := by decide +kernel
theorem dX0_correctTo_96 : decode cX0_correctTo 96 = .ok (.return_, 1) := by decide +kernel
theorem dX0_putOnList_0 : decode cX0_putOnList 0 = .ok (.aload_n 0, 1) := by decide +kernel
theorem dX0_putOnList_1 : decode cX0_putOnList 1 = .ok (.iload_n 1, 1) := by decide +kernel
theorem dX0_putOnList_2 : decode cX0_putOnList 2 = .ok (.invokevirtual 63, 3) := by decide +kernel
theorem dX0_putOnList_5 : decode cX0_putOnList 5 = .ok (.ifCond .eq 22, 3) := by decide +kernel
theorem dX0_putOnList_8 : decode cX0_putOnList 8 = .ok (.aload_n 0, 1) := by decide +kernel
theorem dX0_putOnList_9 : decode cX0_putOnList 9 = .ok (.getfield 22, 3) := by decide +kernel
theorem dX0_putOnList_12 : decode cX0_putOnList 12 = .ok (.iload_n 1, 1) := by decide +kernel
theorem dX0_putOnList_13 : decode cX0_putOnList 13 = .ok (.aload_n 0, 1) := by decide +kernel
theorem dX0_putOnList_14 : decode cX0_putOnList 14 = .ok (.getfield 22, 3) := by decide +kernel
theorem dX0_putOnList_17 : decode cX0_putOnList 17 = .ok (.iload_n 1, 1) := by decide +kernel
theorem dX0_putOnList_18 : decode cX0_putOnList 18 = .ok (.iaload, 1) := by decide +kernel
theorem dX0_putOnList_19 : decode cX0_putOnList 19 = .ok (.iconst 1, 1) := by decide +kernel
theorem dX0_putOnList_20 : decode cX0_putOnList 20 = .ok (.iadd, 1) := by decide +kernel
theorem dX0_putOnList_21 : decode cX0_putOnList 21 = .ok (.bipush 99, 2) := by decide +kernel
theorem dX0_putOnList_23 : decode cX0_putOnList 23 = .ok (.invokestatic 48, 3) := by decide +kernel
theorem dX0_putOnList_26 : decode cX0_putOnList 26 = .ok (.iastore, 1) := by decide +kernel
theorem dX0_putOnList_27 : decode cX0_putOnList 27 = .ok (.return_, 1) := by decide +kernel
theorem dX0_isThere_0 : decode cX0_isThere 0 = .ok (.iload_n 1, 1) := by decide +kernel
theorem dX0_isThere_1 : decode cX0_isThere 1 = .ok (.ifCond .lt 15, 3) := by decide +kernel
theorem dX0_isThere_4 : decode cX0_isThere 4 = .ok (.iload_n 1, 1) := by decide +kernel
theorem dX0_isThere_5 : decode cX0_isThere 5 = .ok (.aload_n 0, 1) := by decide +kernel
theorem dX0_isThere_6 : decode cX0_isThere 6 = .ok (.getfield 9, 3) := by decide +kernel
theorem dX0_isThere_9 : decode cX0_isThere 9 = .ok (.if_icmp .ge 7, 3) := by decide +kernel
theorem dX0_isThere_12 : decode cX0_isThere 12 = .ok (.iconst 1, 1) := by decide +kernel
theorem dX0_isThere_13 : decode cX0_isThere 13 = .ok (.goto 4, 3) := by decide +kernel
theorem dX0_isThere_16 : decode cX0_isThere 16 = .ok (.iconst 0, 1) := by decide +kernel
theorem dX0_isThere_17 : decode cX0_isThere 17 = .ok (.ireturn, 1) := by decide +kernel
theorem dX1_init_0 : decode cX1_init 0 = .ok (.aload_n 0, 1) := by decide +kernel
theorem dX1_init_1 : decode cX1_init 1 = .ok (.invokespecial 1, 3) := by decide +kernel
theorem dX1_init_4 : decode cX1_init 4 = .ok (.aload_n 0, 1) := by decide +kernel
theorem dX1_init_5 : decode cX1_init 5 = .ok (.iconst 0, 1) := by decide +kernel
theorem dX1_init_6 : decode cX1_init 6 = .ok (.putfield 7, 3) := by decide +kernel
theorem dX1_init_9 : decode cX1_init 9 = .ok (.aload_n 0, 1) := by decide +kernel
theorem dX1_init_10 : decode cX1_init 10 = .ok (.new 13, 3) := by decide +kernel
theorem dX1_init_13 : decode cX1_init 13 = .ok (.dup, 1) := by decide +kernel
theorem dX1_init_14 : decode cX1_init 14 = .ok (.invokespecial 15, 3) := by decide +kernel
theorem dX1_init_17 : decode cX1_init 17 = .ok (.putfield 16, 3) := by decide +kernel
theorem dX1_init_20 : decode cX1_init 20 = .ok (.aload_n 0, 1) := by decide +kernel
theorem dX1_init_21 : decode cX1_init 21 = .ok (.iconst 0, 1) := by decide +kernel
theorem dX1_init_22 : decode cX1_init 22 = .ok (.putfield 20, 3) := by decide +kernel
theorem dX1_init_25 : decode cX1_init 25 = .ok (.return_, 1) := by decide +kernel
theorem dX2_init_0 : decode cX2_init 0 = .ok (.aload_n 0, 1) := by decide +kernel
theorem dX2_init_1 : decode cX2_init 1 = .ok (.invokespecial 3, 3) := by decide +kernel
theorem dX2_init_4 : decode cX2_init 4 = .ok (.aload_n 0, 1) := by decide +kernel
theorem dX2_init_5 : decode cX2_init 5 = .ok (.iconst 0, 1) := by decide +kernel
theorem dX2_init_6 : decode cX2_init 6 = .ok (.putfield 9, 3) := by decide +kernel
theorem dX2_init_9 : decode cX2_init 9 = .ok (.aload_n 0, 1) := by decide +kernel
theorem dX2_init_10 : decode cX2_init 10 = .ok (.iconst 0, 1) := by decide +kernel
theorem dX2_init_11 : decode cX2_init 11 = .ok (.putfield 15, 3) := by decide +kernel
theorem dX2_init_14 : decode cX2_init 14 = .ok (.aload_n 0, 1) := by decide +kernel
theorem dX2_init_15 : decode cX2_init 15 = .ok (.iconst 0, 1) := by decide +kernel
theorem dX2_init_16 : decode cX2_init 16 = .ok (.putfield 19, 3) := by decide +kernel
theorem dX2_init_19 : decode cX2_init 19 = .ok (.aload_n 0, 1) := by decide +kernel
theorem dX2_init_20 : decode cX2_init 20 = .ok (.iconst 0, 1) := by decide +kernel
theorem dX2_init_21 : decode cX2_init 21 = .ok (.putfield 22, 3) := by decide +kernel
theorem dX2_init_24 : decode cX2_init 24 = .ok (.aload_n 0, 1) := by decide +kernel
theorem dX2_init_25 : decode cX2_init 25 = .ok (.iconst 0, 1) := by decide +kernel
theorem dX2_init_26 : decode cX2_init 26 = .ok (.putfield 25, 3) := by decide +kernel
theorem dX2_init_29 : decode cX2_init 29 = .ok (.aload_n 0, 1) := by decide +kernel
theorem dX2_init_30 : decode cX2_init 30 = .ok (.iconst 0, 1) := by decide +kernel
theorem dX2_init_31 : decode cX2_init 31 = .ok (.putfield 28, 3) := by decide +kernel
theorem dX2_init_34 : decode cX2_init 34 = .ok (.aload_n 0, 1) := by decide +kernel
theorem dX2_init_35 : decode cX2_init 35 = .ok (.bipush 8, 2) := by decide +kernel
theorem dX2_init_37 : decode cX2_init 37 = .ok (.newarray .int, 2) := by decide +kernel
theorem dX2_init_39 : decode cX2_init 39 = .ok (.putfield 31, 3) := by decide +kernel
theorem dX2_init_42 : decode cX2_init 42 = .ok (.aload_n 0, 1) := by decide +kernel
theorem dX2_init_43 : decode cX2_init 43 = .ok (.bipush 8, 2) := by decide +kernel
theorem dX2_init_45 : decode cX2_init 45 = .ok (.newarray .int, 2) := by decide +kernel
theorem dX2_init_47 : decode cX2_init 47 = .ok (.putfield 35, 3) := by decide +kernel
theorem dX2_init_50 : decode cX2_init 50 = .ok (.aload_n 0, 1) := by decide +kernel
theorem dX2_init_51 : decode cX2_init 51 = .ok (.bipush 8, 2) := by decide +kernel
theorem dX2_init_53 : decode cX2_init 53 = .ok (.newarray .int, 2) := by decide +kernel
theorem dX2_init_55 : decode cX2_init 55 = .ok (.putfield 38, 3) := by decide +kernel
theorem dX2_init_58 : decode cX2_init 58 = .ok (.aload_n 0, 1) := by decide +kernel
theorem dX2_init_59 : decode cX2_init 59 = .ok (.iconst 4, 1) := by decide +kernel
theorem dX2_init_60 : decode cX2_init 60 = .ok (.newarray .int, 2) := by decide +kernel
theorem dX2_init_62 : decode cX2_init 62 = .ok (.putfield 41, 3) := by decide +kernel
theorem dX2_init_65 : decode cX2_init 65 = .ok (.return_, 1) := by decide +kernel
theorem dX2_empty_0 : decode cX2_empty 0 = .ok (.aload_n 0, 1) := by decide +kernel
theorem dX2_empty_1 : decode cX2_empty 1 = .ok (.iconst 0, 1) := by decide +kernel
theorem dX2_empty_2 : decode cX2_empty 2 = .ok (.putfield 9, 3) := by decide +kernel
theorem dX2_empty_5 : decode cX2_empty 5 = .ok (.aload_n 0, 1) := by decide +kernel
theorem dX2_empty_6 : decode cX2_empty 6 = .ok (.iconst 0, 1) := by decide +kernel
theorem dX2_empty_7 : decode cX2_empty 7 = .ok (.putfield 15, 3) := by decide +kernel
theorem dX2_empty_10 : decode cX2_empty 10 = .ok (.aload_n 0, 1) := by decide +kernel
theorem dX2_empty_11 : decode cX2_empty 11 = .ok (.iconst 0, 1) := by decide +kernel
theorem dX2_empty_12 : decode cX2_empty 12 = .ok (.putfield 19, 3) := by decide +kernel
theorem dX2_empty_15 : decode cX2_empty 15 = .ok (.aload_n 0, 1) := by decide +kernel
theorem dX2_empty_16 : decode cX2_empty 16 = .ok (.iconst 0, 1) := by decide +kernel
theorem dX2_empty_17 : decode cX2_empty 17 = .ok (.putfield 22, 3) := by decide +kernel
theorem dX2_empty_20 : decode cX2_empty 20 = .ok (.aload_n 0, 1) := by decide +kernel
theorem dX2_empty_21 : decode cX2_empty 21 = .ok (.iconst 0, 1) := by decide +kernel
theorem dX2_empty_22 : decode cX2_empty 22 = .ok (.putfield 25, 3) := by decide +kernel
theorem dX2_empty_25 : decode cX2_empty 25 = .ok (.aload_n 0, 1) := by decide +kernel
theorem dX2_empty_26 : decode cX2_empty 26 = .ok (.iconst 0, 1) := by decide +kernel
theorem dX2_empty_27 : decode cX2_empty 27 = .ok (.putfield 28, 3) := by decide +kernel
theorem dX2_empty_30 : decode cX2_empty 30 = .ok (.return_, 1) := by decide +kernel
theorem dX2_setBox_0 : decode cX2_setBox 0 = .ok (.aload_n 0, 1) := by decide +kernel
theorem dX2_setBox_1 : decode cX2_setBox 1 = .ok (.iconst 1, 1) := by decide +kernel
theorem dX2_setBox_2 : decode cX2_setBox 2 = .ok (.putfield 9, 3) := by decide +kernel
theorem dX2_setBox_5 : decode cX2_setBox 5 = .ok (.aload_n 0, 1) := by decide +kernel
theorem dX2_setBox_6 : decode cX2_setBox 6 = .ok (.iload_n 1, 1) := by decide +kernel
theorem dX2_setBox_7 : decode cX2_setBox 7 = .ok (.putfield 15, 3) := by decide +kernel
theorem dX2_setBox_10 : decode cX2_setBox 10 = .ok (.aload_n 0, 1) := by decide +kernel
theorem dX2_setBox_11 : decode cX2_setBox 11 = .ok (.iload_n 2, 1) := by decide +kernel
theorem dX2_setBox_12 : decode cX2_setBox 12 = .ok (.putfield 19, 3) := by decide +kernel
theorem dX2_setBox_15 : decode cX2_setBox 15 = .ok (.aload_n 0, 1) := by decide +kernel
theorem dX2_setBox_16 : decode cX2_setBox 16 = .ok (.iload_n 3, 1) := by decide +kernel
theorem dX2_setBox_17 : decode cX2_setBox 17 = .ok (.putfield 22, 3) := by decide +kernel
theorem dX2_setBox_20 : decode cX2_setBox 20 = .ok (.return_, 1) := by decide +kernel
theorem dX2_addWord_0 : decode cX2_addWord 0 = .ok (.aload_n 0, 1) := by decide +kernel
theorem dX2_addWord_1 : decode cX2_addWord 1 = .ok (.getfield 25, 3) := by decide +kernel
theorem dX2_addWord_4 : decode cX2_addWord 4 = .ok (.bipush 8, 2) := by decide +kernel
theorem dX2_addWord_6 : decode cX2_addWord 6 = .ok (.if_icmp .ge 43, 3) := by decide +kernel
theorem dX2_addWord_9 : decode cX2_addWord 9 = .ok (.aload_n 0, 1) := by decide +kernel
theorem dX2_addWord_10 : decode cX2_addWord 10 = .ok (.getfield 31, 3) := by decide +kernel
theorem dX2_addWord_13 : decode cX2_addWord 13 = .ok (.aload_n 0, 1) := by decide +kernel
theorem dX2_addWord_14 : decode cX2_addWord 14 = .ok (.getfield 25, 3) := by decide +kernel
theorem dX2_addWord_17 : decode cX2_addWord 17 = .ok (.iload_n 1, 1) := by decide +kernel
theorem dX2_addWord_18 : decode cX2_addWord 18 = .ok (.iastore, 1) := by decide +kernel
theorem dX2_addWord_19 : decode cX2_addWord 19 = .ok (.aload_n 0, 1) := by decide +kernel
theorem dX2_addWord_20 : decode cX2_addWord 20 = .ok (.getfield 35, 3) := by decide +kernel
theorem dX2_addWord_23 : decode cX2_addWord 23 = .ok (.aload_n 0, 1) := by decide +kernel
theorem dX2_addWord_24 : decode cX2_addWord 24 = .ok (.getfield 25, 3) := by decide +kernel
theorem dX2_addWord_27 : decode cX2_addWord 27 = .ok (.iload_n 2, 1) := by decide +kernel
theorem dX2_addWord_28 : decode cX2_addWord 28 = .ok (.iastore, 1) := by decide +kernel
theorem dX2_addWord_29 : decode cX2_addWord 29 = .ok (.aload_n 0, 1) := by decide +kernel
theorem dX2_addWord_30 : decode cX2_addWord 30 = .ok (.getfield 38, 3) := by decide +kernel
theorem dX2_addWord_33 : decode cX2_addWord 33 = .ok (.aload_n 0, 1) := by decide +kernel
theorem dX2_addWord_34 : decode cX2_addWord 34 = .ok (.getfield 25, 3) := by decide +kernel
theorem dX2_addWord_37 : decode cX2_addWord 37 = .ok (.iload_n 3, 1) := by decide +kernel
theorem dX2_addWord_38 : decode cX2_addWord 38 = .ok (.iastore, 1) := by decide +kernel
theorem dX2_addWord_39 : decode cX2_addWord 39 = .ok (.aload_n 0, 1) := by decide +kernel
theorem dX2_addWord_40 : decode cX2_addWord 40 = .ok (.dup, 1) := by decide +kernel
theorem dX2_addWord_41 : decode cX2_addWord 41 = .ok (.getfield 25, 3) := by decide +kernel
theorem dX2_addWord_44 : decode cX2_addWord 44 = .ok (.iconst 1, 1) := by decide +kernel
theorem dX2_addWord_45 : decode cX2_addWord 45 = .ok (.iadd, 1) := by decide +kernel
theorem dX2_addWord_46 : decode cX2_addWord 46 = .ok (.putfield 25, 3) := by decide +kernel
theorem dX2_addWord_49 : decode cX2_addWord 49 = .ok (.return_, 1) := by decide +kernel
theorem dX2_addVoice_0 : decode cX2_addVoice 0 = .ok (.aload_n 0, 1) := by decide +kernel
theorem dX2_addVoice_1 : decode cX2_addVoice 1 = .ok (.getfield 28, 3) := by decide +kernel
theorem dX2_addVoice_4 : decode cX2_addVoice 4 = .ok (.iconst 4, 1) := by decide +kernel
theorem dX2_addVoice_5 : decode cX2_addVoice 5 = .ok (.if_icmp .ge 23, 3) := by decide +kernel
theorem dX2_addVoice_8 : decode cX2_addVoice 8 = .ok (.aload_n 0, 1) := by decide +kernel
theorem dX2_addVoice_9 : decode cX2_addVoice 9 = .ok (.getfield 41, 3) := by decide +kernel
theorem dX2_addVoice_12 : decode cX2_addVoice 12 = .ok (.aload_n 0, 1) := by decide +kernel
theorem dX2_addVoice_13 : decode cX2_addVoice 13 = .ok (.getfield 28, 3) := by decide +kernel
theorem dX2_addVoice_16 : decode cX2_addVoice 16 = .ok (.iload_n 1, 1) := by decide +kernel
theorem dX2_addVoice_17 : decode cX2_addVoice 17 = .ok (.iastore, 1) := by decide +kernel
theorem dX2_addVoice_18 : decode cX2_addVoice 18 = .ok (.aload_n 0, 1) := by decide +kernel
theorem dX2_addVoice_19 : decode cX2_addVoice 19 = .ok (.dup, 1) := by decide +kernel
theorem dX2_addVoice_20 : decode cX2_addVoice 20 = .ok (.getfield 28, 3) := by decide +kernel
theorem dX2_addVoice_23 : decode cX2_addVoice 23 = .ok (.iconst 1, 1) := by decide +kernel
theorem dX2_addVoice_24 : decode cX2_addVoice 24 = .ok (.iadd, 1) := by decide +kernel
theorem dX2_addVoice_25 : decode cX2_addVoice 25 = .ok (.putfield 28, 3) := by decide +kernel
theorem dX2_addVoice_28 : decode cX2_addVoice 28 = .ok (.return_, 1) := by decide +kernel
theorem dX3_init_0 : decode cX3_init 0 = .ok (.aload_n 0, 1) := by decide +kernel
theorem dX3_init_1 : decode cX3_init 1 = .ok (.invokespecial 1, 3) := by decide +kernel
theorem dX3_init_4 : decode cX3_init 4 = .ok (.aload_n 0, 1) := by decide +kernel
theorem dX3_init_5 : decode cX3_init 5 = .ok (.iconst 0, 1) := by decide +kernel
theorem dX3_init_6 : decode cX3_init 6 = .ok (.putfield 7, 3) := by decide +kernel
theorem dX3_init_9 : decode cX3_init 9 = .ok (.iload_n 1, 1) := by decide +kernel
theorem dX3_init_10 : decode cX3_init 10 = .ok (.iconst 0, 1) := by decide +kernel
theorem dX3_init_11 : decode cX3_init 11 = .ok (.invokestatic 13, 3) := by decide +kernel
theorem dX3_init_14 : decode cX3_init 14 = .ok (.istore_n 2, 1) := by decide +kernel
theorem dX3_init_15 : decode cX3_init 15 = .ok (.aload_n 0, 1) := by decide +kernel
theorem dX3_init_16 : decode cX3_init 16 = .ok (.iload_n 2, 1) := by decide +kernel
theorem dX3_init_17 : decode cX3_init 17 = .ok (.newarray .int, 2) := by decide +kernel
theorem dX3_init_19 : decode cX3_init 19 = .ok (.putfield 19, 3) := by decide +kernel
theorem dX3_init_22 : decode cX3_init 22 = .ok (.aload_n 0, 1) := by decide +kernel
theorem dX3_init_23 : decode cX3_init 23 = .ok (.iload_n 2, 1) := by decide +kernel
theorem dX3_init_24 : decode cX3_init 24 = .ok (.newarray .int, 2) := by decide +kernel
theorem dX3_init_26 : decode cX3_init 26 = .ok (.putfield 23, 3) := by decide +kernel
theorem dX3_init_29 : decode cX3_init 29 = .ok (.return_, 1) := by decide +kernel
theorem dX3_append_0 : decode cX3_append 0 = .ok (.aload_n 0, 1) := by decide +kernel
theorem dX3_append_1 : decode cX3_append 1 = .ok (.getfield 7, 3) := by decide +kernel
theorem dX3_append_4 : decode cX3_append 4 = .ok (.aload_n 0, 1) := by decide +kernel
theorem dX3_append_5 : decode cX3_append 5 = .ok (.getfield 19, 3) := by decide +kernel
theorem dX3_append_8 : decode cX3_append 8 = .ok (.arraylength, 1) := by decide +kernel
theorem dX3_append_9 : decode cX3_append 9 = .ok (.if_icmp .lt 5, 3) := by decide +kernel
theorem dX3_append_12 : decode cX3_append 12 = .ok (.iconst 0, 1) := by decide +kernel
theorem dX3_append_13 : decode cX3_append 13 = .ok (.ireturn, 1) := by decide +kernel
theorem dX3_append_14 : decode cX3_append 14 = .ok (.aload_n 0, 1) := by decide +kernel
theorem dX3_append_15 : decode cX3_append 15 = .ok (.getfield 19, 3) := by decide +kernel
theorem dX3_append_18 : decode cX3_append 18 = .ok (.aload_n 0, 1) := by decide +kernel
theorem dX3_append_19 : decode cX3_append 19 = .ok (.getfield 7, 3) := by decide +kernel
theorem dX3_append_22 : decode cX3_append 22 = .ok (.iload_n 1, 1) := by decide +kernel
theorem dX3_append_23 : decode cX3_append 23 = .ok (.iastore, 1) := by decide +kernel
theorem dX3_append_24 : decode cX3_append 24 = .ok (.aload_n 0, 1) := by decide +kernel
theorem dX3_append_25 : decode cX3_append 25 = .ok (.getfield 23, 3) := by decide +kernel
theorem dX3_append_28 : decode cX3_append 28 = .ok (.aload_n 0, 1) := by decide +kernel
theorem dX3_append_29 : decode cX3_append 29 = .ok (.getfield 7, 3) := by decide +kernel
theorem dX3_append_32 : decode cX3_append 32 = .ok (.iload_n 2, 1) := by decide +kernel
theorem dX3_append_33 : decode cX3_append 33 = .ok (.iastore, 1) := by decide +kernel
theorem dX3_append_34 : decode cX3_append 34 = .ok (.aload_n 0, 1) := by decide +kernel
theorem dX3_append_35 : decode cX3_append 35 = .ok (.dup, 1) := by decide +kernel
theorem dX3_append_36 : decode cX3_append 36 = .ok (.getfield 7, 3) := by decide +kernel
theorem dX3_append_39 : decode cX3_append 39 = .ok (.iconst 1, 1) := by decide +kernel
theorem dX3_append_40 : decode cX3_append 40 = .ok (.iadd, 1) := by decide +kernel
theorem dX3_append_41 : decode cX3_append 41 = .ok (.putfield 7, 3) := by decide +kernel
theorem dX3_append_44 : decode cX3_append 44 = .ok (.iconst 1, 1) := by decide +kernel
theorem dX3_append_45 : decode cX3_append 45 = .ok (.ireturn, 1) := by decide +kernel
theorem dX3_clear_0 : decode cX3_clear 0 = .ok (.aload_n 0, 1) := by decide +kernel
theorem dX3_clear_1 : decode cX3_clear 1 = .ok (.iconst 0, 1) := by decide +kernel
theorem dX3_clear_2 : decode cX3_clear 2 = .ok (.putfield 7, 3) := by decide +kernel
theorem dX3_clear_5 : decode cX3_clear 5 = .ok (.return_, 1) := by decide +kernel
theorem dX4_init_0 : decode cX4_init 0 = .ok (.aload_n 0, 1) := by decide +kernel
theorem dX4_init_1 : decode cX4_init 1 = .ok (.invokespecial 3, 3) := by decide +kernel
theorem dX4_init_4 : decode cX4_init 4 = .ok (.aload_n 0, 1) := by decide +kernel
theorem dX4_init_5 : decode cX4_init 5 = .ok (.bipush 20, 2) := by decide +kernel
theorem dX4_init_7 : decode cX4_init 7 = .ok (.anewarray 9, 3) := by decide +kernel
theorem dX4_init_10 : decode cX4_init 10 = .ok (.putfield 11, 3) := by decide +kernel
theorem dX4_init_13 : decode cX4_init 13 = .ok (.aload_n 0, 1) := by decide +kernel
theorem dX4_init_14 : decode cX4_init 14 = .ok (.iconst 0, 1) := by decide +kernel
theorem dX4_init_15 : decode cX4_init 15 = .ok (.putfield 17, 3) := by decide +kernel
theorem dX4_init_18 : decode cX4_init 18 = .ok (.aload_n 0, 1) := by decide +kernel
theorem dX4_init_19 : decode cX4_init 19 = .ok (.iconst 0, 1) := by decide +kernel
theorem dX4_init_20 : decode cX4_init 20 = .ok (.putfield 21, 3) := by decide +kernel
theorem dX4_init_23 : decode cX4_init 23 = .ok (.iconst 0, 1) := by decide +kernel
theorem dX4_init_24 : decode cX4_init 24 = .ok (.istore_n 1, 1) := by decide +kernel
theorem dX4_init_25 : decode cX4_init 25 = .ok (.iload_n 1, 1) := by decide +kernel
theorem dX4_init_26 : decode cX4_init 26 = .ok (.bipush 20, 2) := by decide +kernel
theorem dX4_init_28 : decode cX4_init 28 = .ok (.if_icmp .ge 22, 3) := by decide +kernel
theorem dX4_init_31 : decode cX4_init 31 = .ok (.aload_n 0, 1) := by decide +kernel
theorem dX4_init_32 : decode cX4_init 32 = .ok (.getfield 11, 3) := by decide +kernel
theorem dX4_init_35 : decode cX4_init 35 = .ok (.iload_n 1, 1) := by decide +kernel
theorem dX4_init_36 : decode cX4_init 36 = .ok (.new 9, 3) := by decide +kernel
theorem dX4_init_39 : decode cX4_init 39 = .ok (.dup, 1) := by decide +kernel
theorem dX4_init_40 : decode cX4_init 40 = .ok (.invokespecial 24, 3) := by decide +kernel
theorem dX4_init_43 : decode cX4_init 43 = .ok (.aastore, 1) := by decide +kernel
theorem dX4_init_44 : decode cX4_init 44 = .ok (.iinc 1 1, 3) := by decide +kernel
theorem dX4_init_47 : decode cX4_init 47 = .ok (.goto (-22), 3) := by decide +kernel
theorem dX4_init_50 : decode cX4_init 50 = .ok (.return_, 1) := by decide +kernel
theorem dX4_clear_0 : decode cX4_clear 0 = .ok (.aload_n 0, 1) := by decide +kernel
theorem dX4_clear_1 : decode cX4_clear 1 = .ok (.iconst 0, 1) := by decide +kernel
theorem dX4_clear_2 : decode cX4_clear 2 = .ok (.putfield 21, 3) := by decide +kernel
theorem dX4_clear_5 : decode cX4_clear 5 = .ok (.return_, 1) := by decide +kernel
theorem dX4_push_0 : decode cX4_push 0 = .ok (.aload_n 0, 1) := by decide +kernel
theorem dX4_push_1 : decode cX4_push 1 = .ok (.getfield 11, 3) := by decide +kernel
theorem dX4_push_4 : decode cX4_push 4 = .ok (.aload_n 0, 1) := by decide +kernel
theorem dX4_push_5 : decode cX4_push 5 = .ok (.getfield 17, 3) := by decide +kernel
theorem dX4_push_8 : decode cX4_push 8 = .ok (.aaload, 1) := by decide +kernel
theorem dX4_push_9 : decode cX4_push 9 = .ok (.aload_n 1, 1) := by decide +kernel
theorem dX4_push_10 : decode cX4_push 10 = .ok (.invokevirtual 25, 3) := by decide +kernel
theorem dX4_push_13 : decode cX4_push 13 = .ok (.aload_n 0, 1) := by decide +kernel
theorem dX4_push_14 : decode cX4_push 14 = .ok (.aload_n 0, 1) := by decide +kernel
theorem dX4_push_15 : decode cX4_push 15 = .ok (.getfield 17, 3) := by decide +kernel
theorem dX4_push_18 : decode cX4_push 18 = .ok (.iconst 1, 1) := by decide +kernel
theorem dX4_push_19 : decode cX4_push 19 = .ok (.iadd, 1) := by decide +kernel
theorem dX4_push_20 : decode cX4_push 20 = .ok (.bipush 20, 2) := by decide +kernel
theorem dX4_push_22 : decode cX4_push 22 = .ok (.irem, 1) := by decide +kernel
theorem dX4_push_23 : decode cX4_push 23 = .ok (.putfield 17, 3) := by decide +kernel
theorem dX4_push_26 : decode cX4_push 26 = .ok (.aload_n 0, 1) := by decide +kernel
theorem dX4_push_27 : decode cX4_push 27 = .ok (.aload_n 0, 1) := by decide +kernel
theorem dX4_push_28 : decode cX4_push 28 = .ok (.getfield 21, 3) := by decide +kernel
theorem dX4_push_31 : decode cX4_push 31 = .ok (.iconst 1, 1) := by decide +kernel
theorem dX4_push_32 : decode cX4_push 32 = .ok (.iadd, 1) := by decide +kernel
theorem dX4_push_33 : decode cX4_push 33 = .ok (.bipush 20, 2) := by decide +kernel
theorem dX4_push_35 : decode cX4_push 35 = .ok (.invokestatic 29, 3) := by decide +kernel
theorem dX4_push_38 : decode cX4_push 38 = .ok (.putfield 21, 3) := by decide +kernel
theorem dX4_push_41 : decode cX4_push 41 = .ok (.return_, 1) := by decide +kernel
theorem dX4_pop_0 : decode cX4_pop 0 = .ok (.aload_n 0, 1) := by decide +kernel
theorem dX4_pop_1 : decode cX4_pop 1 = .ok (.getfield 21, 3) := by decide +kernel
theorem dX4_pop_4 : decode cX4_pop 4 = .ok (.ifCond .ne 5, 3) := by decide +kernel
theorem dX4_pop_7 : decode cX4_pop 7 = .ok (.iconst 0, 1) := by decide +kernel
theorem dX4_pop_8 : decode cX4_pop 8 = .ok (.ireturn, 1) := by decide +kernel
theorem dX4_pop_9 : decode cX4_pop 9 = .ok (.aload_n 0, 1) := by decide +kernel
theorem dX4_pop_10 : decode cX4_pop 10 = .ok (.aload_n 0, 1) := by decide +kernel
theorem dX4_pop_11 : decode cX4_pop 11 = .ok (.getfield 17, 3) := by decide +kernel
theorem dX4_pop_14 : decode cX4_pop 14 = .ok (.bipush 20, 2) := by decide +kernel
theorem dX4_pop_16 : decode cX4_pop 16 = .ok (.iadd, 1) := by decide +kernel
theorem dX4_pop_17 : decode cX4_pop 17 = .ok (.iconst 1, 1) := by decide +kernel
theorem dX4_pop_18 : decode cX4_pop 18 = .ok (.isub, 1) := by decide +kernel
theorem dX4_pop_19 : decode cX4_pop 19 = .ok (.bipush 20, 2) := by decide +kernel
theorem dX4_pop_21 : decode cX4_pop 21 = .ok (.irem, 1) := by decide +kernel
theorem dX4_pop_22 : decode cX4_pop 22 = .ok (.putfield 17, 3) := by decide +kernel
theorem dX4_pop_25 : decode cX4_pop 25 = .ok (.aload_n 0, 1) := by decide +kernel
theorem dX4_pop_26 : decode cX4_pop 26 = .ok (.dup, 1) := by decide +kernel
theorem dX4_pop_27 : decode cX4_pop 27 = .ok (.getfield 21, 3) := by decide +kernel
theorem dX4_pop_30 : decode cX4_pop 30 = .ok (.iconst 1, 1) := by decide +kernel
theorem dX4_pop_31 : decode cX4_pop 31 = .ok (.isub, 1) := by decide +kernel
theorem dX4_pop_32 : decode cX4_pop 32 = .ok (.putfield 21, 3) := by decide +kernel
theorem dX4_pop_35 : decode cX4_pop 35 = .ok (.aload_n 1, 1) := by decide +kernel
theorem dX4_pop_36 : decode cX4_pop 36 = .ok (.aload_n 0, 1) := by decide +kernel
theorem dX4_pop_37 : decode cX4_pop 37 = .ok (.getfield 11, 3) := by decide +kernel
theorem dX4_pop_40 : decode cX4_pop 40 = .ok (.aload_n 0, 1) := by decide +kernel
theorem dX4_pop_41 : decode cX4_pop 41 = .ok (.getfield 17, 3) := by decide +kernel
theorem dX4_pop_44 : decode cX4_pop 44 = .ok (.aaload, 1) := by decide +kernel
theorem dX4_pop_45 : decode cX4_pop 45 = .ok (.invokevirtual 25, 3) := by decide +kernel
theorem dX4_pop_48 : decode cX4_pop 48 = .ok (.iconst 1, 1) := by decide +kernel
theorem dX4_pop_49 : decode cX4_pop 49 = .ok (.ireturn, 1) := by decide +kernel
theorem dX5_init_0 : decode cX5_init 0 = .ok (.aload_n 0, 1) := by decide +kernel
theorem dX5_init_1 : decode cX5_init 1 = .ok (.invokespecial 3, 3) := by decide +kernel
theorem dX5_init_4 : decode cX5_init 4 = .ok (.aload_n 0, 1) := by decide +kernel
theorem dX5_init_5 : decode cX5_init 5 = .ok (.sipush 240, 3) := by decide +kernel
theorem dX5_init_8 : decode cX5_init 8 = .ok (.newarray .int, 2) := by decide +kernel
theorem dX5_init_10 : decode cX5_init 10 = .ok (.putfield 9, 3) := by decide +kernel
theorem dX5_init_13 : decode cX5_init 13 = .ok (.aload_n 0, 1) := by decide +kernel
theorem dX5_init_14 : decode cX5_init 14 = .ok (.iconst 0, 1) := by decide +kernel
theorem dX5_init_15 : decode cX5_init 15 = .ok (.putfield 15, 3) := by decide +kernel
theorem dX5_init_18 : decode cX5_init 18 = .ok (.aload_n 0, 1) := by decide +kernel
theorem dX5_init_19 : decode cX5_init 19 = .ok (.iconst 0, 1) := by decide +kernel
theorem dX5_init_20 : decode cX5_init 20 = .ok (.putfield 19, 3) := by decide +kernel
theorem dX5_init_23 : decode cX5_init 23 = .ok (.aload_n 0, 1) := by decide +kernel
theorem dX5_init_24 : decode cX5_init 24 = .ok (.iconst 0, 1) := by decide +kernel
theorem dX5_init_25 : decode cX5_init 25 = .ok (.putfield 22, 3) := by decide +kernel
theorem dX5_init_28 : decode cX5_init 28 = .ok (.return_, 1) := by decide +kernel
theorem dX5_append_0 : decode cX5_append 0 = .ok (.aload_n 0, 1) := by decide +kernel
theorem dX5_append_1 : decode cX5_append 1 = .ok (.getfield 15, 3) := by decide +kernel
theorem dX5_append_4 : decode cX5_append 4 = .ok (.sipush 240, 3) := by decide +kernel
theorem dX5_append_7 : decode cX5_append 7 = .ok (.if_icmp .lt 5, 3) := by decide +kernel
theorem dX5_append_10 : decode cX5_append 10 = .ok (.iconst 0, 1) := by decide +kernel
theorem dX5_append_11 : decode cX5_append 11 = .ok (.ireturn, 1) := by decide +kernel
theorem dX5_append_12 : decode cX5_append 12 = .ok (.aload_n 0, 1) := by decide +kernel
theorem dX5_append_13 : decode cX5_append 13 = .ok (.getfield 9, 3) := by decide +kernel
theorem dX5_append_16 : decode cX5_append 16 = .ok (.aload_n 0, 1) := by decide +kernel
theorem dX5_append_17 : decode cX5_append 17 = .ok (.getfield 15, 3) := by decide +kernel
theorem dX5_append_20 : decode cX5_append 20 = .ok (.iload_n 1, 1) := by decide +kernel
theorem dX5_append_21 : decode cX5_append 21 = .ok (.iastore, 1) := by decide +kernel
theorem dX5_append_22 : decode cX5_append 22 = .ok (.aload_n 0, 1) := by decide +kernel
theorem dX5_append_23 : decode cX5_append 23 = .ok (.dup, 1) := by decide +kernel
theorem dX5_append_24 : decode cX5_append 24 = .ok (.getfield 15, 3) := by decide +kernel
theorem dX5_append_27 : decode cX5_append 27 = .ok (.iconst 1, 1) := by decide +kernel
theorem dX5_append_28 : decode cX5_append 28 = .ok (.iadd, 1) := by decide +kernel
theorem dX5_append_29 : decode cX5_append 29 = .ok (.putfield 15, 3) := by decide +kernel
theorem dX5_append_32 : decode cX5_append 32 = .ok (.iconst 1, 1) := by decide +kernel
theorem dX5_append_33 : decode cX5_append 33 = .ok (.ireturn, 1) := by decide +kernel
theorem dX5_forget_0 : decode cX5_forget 0 = .ok (.aload_n 0, 1) := by decide +kernel
theorem dX5_forget_1 : decode cX5_forget 1 = .ok (.iconst 0, 1) := by decide +kernel
theorem dX5_forget_2 : decode cX5_forget 2 = .ok (.putfield 15, 3) := by decide +kernel
theorem dX5_forget_5 : decode cX5_forget 5 = .ok (.return_, 1) := by decide +kernel
theorem dX5_readInto_0 : decode cX5_readInto 0 = .ok (.aload_n 1, 1) := by decide +kernel
theorem dX5_readInto_1 : decode cX5_readInto 1 = .ok (.invokevirtual 25, 3) := by decide +kernel
theorem dX5_readInto_4 : decode cX5_readInto 4 = .ok (.aload_n 0, 1) := by decide +kernel
theorem dX5_readInto_5 : decode cX5_readInto 5 = .ok (.iconst 0, 1) := by decide +kernel
theorem dX5_readInto_6 : decode cX5_readInto 6 = .ok (.putfield 19, 3) := by decide +kernel
theorem dX5_readInto_9 : decode cX5_readInto 9 = .ok (.aload_n 0, 1) := by decide +kernel
theorem dX5_readInto_10 : decode cX5_readInto 10 = .ok (.iconst 0, 1) := by decide +kernel
theorem dX5_readInto_11 : decode cX5_readInto 11 = .ok (.putfield 22, 3) := by decide +kernel
theorem dX5_readInto_14 : decode cX5_readInto 14 = .ok (.aload_n 0, 1) := by decide +kernel
theorem dX5_readInto_15 : decode cX5_readInto 15 = .ok (.invokevirtual 30, 3) := by decide +kernel
theorem dX5_readInto_18 : decode cX5_readInto 18 = .ok (.iconst 0, 1) := by decide +kernel
theorem dX5_readInto_19 : decode cX5_readInto 19 = .ok (.istore_n 2, 1) := by decide +kernel
theorem dX5_readInto_20 : decode cX5_readInto 20 = .ok (.iload_n 2, 1) := by decide +kernel
theorem dX5_readInto_21 : decode cX5_readInto 21 = .ok (.sipush 240, 3) := by decide +kernel
theorem dX5_readInto_24 : decode cX5_readInto 24 = .ok (.if_icmp .ge 36, 3) := by decide +kernel
theorem dX5_readInto_27 : decode cX5_readInto 27 = .ok (.aload_n 0, 1) := by decide +kernel
theorem dX5_readInto_28 : decode cX5_readInto 28 = .ok (.getfield 22, 3) := by decide +kernel
theorem dX5_readInto_31 : decode cX5_readInto 31 = .ok (.ifCond .ne 29, 3) := by decide +kernel
theorem dX5_readInto_34 : decode cX5_readInto 34 = .ok (.aload_n 0, 1) := by decide +kernel
theorem dX5_readInto_35 : decode cX5_readInto 35 = .ok (.getfield 19, 3) := by decide +kernel
theorem dX5_readInto_38 : decode cX5_readInto 38 = .ok (.aload_n 0, 1) := by decide +kernel
theorem dX5_readInto_39 : decode cX5_readInto 39 = .ok (.getfield 15, 3) := by decide +kernel
theorem dX5_readInto_42 : decode cX5_readInto 42 = .ok (.if_icmp .ge 18, 3) := by decide +kernel
theorem dX5_readInto_45 : decode cX5_readInto 45 = .ok (.aload_n 0, 1) := by decide +kernel
theorem dX5_readInto_46 : decode cX5_readInto 46 = .ok (.aload_n 1, 1) := by decide +kernel
theorem dX5_readInto_47 : decode cX5_readInto 47 = .ok (.invokevirtual 33, 3) := by decide +kernel
theorem dX5_readInto_50 : decode cX5_readInto 50 = .ok (.aload_n 0, 1) := by decide +kernel
theorem dX5_readInto_51 : decode cX5_readInto 51 = .ok (.invokevirtual 30, 3) := by decide +kernel
theorem dX5_readInto_54 : decode cX5_readInto 54 = .ok (.iinc 2 1, 3) := by decide +kernel
theorem dX5_readInto_57 : decode cX5_readInto 57 = .ok (.goto (-37), 3) := by decide +kernel
theorem dX5_readInto_60 : decode cX5_readInto 60 = .ok (.aload_n 0, 1) := by decide +kernel
theorem dX5_readInto_61 : decode cX5_readInto 61 = .ok (.getfield 22, 3) := by decide +kernel
theorem dX5_readInto_64 : decode cX5_readInto 64 = .ok (.ireturn, 1) := by decide +kernel
theorem dX5_readClause_0 : decode cX5_readClause 0 = .ok (.aload_n 0, 1) := by decide +kernel
theorem dX5_readClause_1 : decode cX5_readClause 1 = .ok (.invokevirtual 37, 3) := by decide +kernel
theorem dX5_readClause_4 : decode cX5_readClause 4 = .ok (.istore_n 2, 1) := by decide +kernel
theorem dX5_readClause_5 : decode cX5_readClause 5 = .ok (.iload_n 2, 1) := by decide +kernel
theorem dX5_readClause_6 : decode cX5_readClause 6 = .ok (.bipush 98, 2) := by decide +kernel
theorem dX5_readClause_8 : decode cX5_readClause 8 = .ok (.if_icmp .ne 10, 3) := by decide +kernel
theorem dX5_readClause_11 : decode cX5_readClause 11 = .ok (.aload_n 1, 1) := by decide +kernel
theorem dX5_readClause_12 : decode cX5_readClause 12 = .ok (.getfield 41, 3) := by decide +kernel
theorem dX5_readClause_15 : decode cX5_readClause 15 = .ok (.ifCond .ne 32, 3) := by decide +kernel
theorem dX5_readClause_18 : decode cX5_readClause 18 = .ok (.iload_n 2, 1) := by decide +kernel
theorem dX5_readClause_19 : decode cX5_readClause 19 = .ok (.bipush 119, 2) := by decide +kernel
theorem dX5_readClause_21 : decode cX5_readClause 21 = .ok (.if_icmp .ne 12, 3) := by decide +kernel
theorem dX5_readClause_24 : decode cX5_readClause 24 = .ok (.aload_n 1, 1) := by decide +kernel
theorem dX5_readClause_25 : decode cX5_readClause 25 = .ok (.getfield 45, 3) := by decide +kernel
theorem dX5_readClause_28 : decode cX5_readClause 28 = .ok (.bipush 8, 2) := by decide +kernel
theorem dX5_readClause_30 : decode cX5_readClause 30 = .ok (.if_icmp .ge 17, 3) := by decide +kernel
theorem dX5_readClause_33 : decode cX5_readClause 33 = .ok (.iload_n 2, 1) := by decide +kernel
theorem dX5_readClause_34 : decode cX5_readClause 34 = .ok (.bipush 118, 2) := by decide +kernel
theorem dX5_readClause_36 : decode cX5_readClause 36 = .ok (.if_icmp .ne 23, 3) := by decide +kernel
theorem dX5_readClause_39 : decode cX5_readClause 39 = .ok (.aload_n 1, 1) := by decide +kernel
theorem dX5_readClause_40 : decode cX5_readClause 40 = .ok (.getfield 48, 3) := by decide +kernel
theorem dX5_readClause_43 : decode cX5_readClause 43 = .ok (.iconst 4, 1) := by decide +kernel
theorem dX5_readClause_44 : decode cX5_readClause 44 = .ok (.if_icmp .lt 15, 3) := by decide +kernel
theorem dX5_readClause_47 : decode cX5_readClause 47 = .ok (.aload_n 0, 1) := by decide +kernel
theorem dX5_readClause_48 : decode cX5_readClause 48 = .ok (.iconst 3, 1) := by decide +kernel
theorem dX5_readClause_49 : decode cX5_readClause 49 = .ok (.aload_n 0, 1) := by decide +kernel
theorem dX5_readClause_50 : decode cX5_readClause 50 = .ok (.getfield 19, 3) := by decide +kernel
theorem dX5_readClause_53 : decode cX5_readClause 53 = .ok (.invokevirtual 51, 3) := by decide +kernel
theorem dX5_readClause_56 : decode cX5_readClause 56 = .ok (.goto 68, 3) := by decide +kernel
theorem dX5_readClause_59 : decode cX5_readClause 59 = .ok (.iload_n 2, 1) := by decide +kernel
theorem dX5_readClause_60 : decode cX5_readClause 60 = .ok (.bipush 98, 2) := by decide +kernel
theorem dX5_readClause_62 : decode cX5_readClause 62 = .ok (.if_icmp .ne 11, 3) := by decide +kernel
theorem dX5_readClause_65 : decode cX5_readClause 65 = .ok (.aload_n 0, 1) := by decide +kernel
theorem dX5_readClause_66 : decode cX5_readClause 66 = .ok (.aload_n 1, 1) := by decide +kernel
theorem dX5_readClause_67 : decode cX5_readClause 67 = .ok (.invokevirtual 55, 3) := by decide +kernel
theorem dX5_readClause_70 : decode cX5_readClause 70 = .ok (.goto 54, 3) := by decide +kernel
theorem dX5_readClause_73 : decode cX5_readClause 73 = .ok (.iload_n 2, 1) := by decide +kernel
theorem dX5_readClause_74 : decode cX5_readClause 74 = .ok (.bipush 119, 2) := by decide +kernel
theorem dX5_readClause_76 : decode cX5_readClause 76 = .ok (.if_icmp .ne 18, 3) := by decide +kernel
theorem dX5_readClause_79 : decode cX5_readClause 79 = .ok (.aload_n 1, 1) := by decide +kernel
theorem dX5_readClause_80 : decode cX5_readClause 80 = .ok (.getfield 41, 3) := by decide +kernel
theorem dX5_readClause_83 : decode cX5_readClause 83 = .ok (.ifCond .eq 11, 3) := by decide +kernel
theorem dX5_readClause_86 : decode cX5_readClause 86 = .ok (.aload_n 0, 1) := by decide +kernel
theorem dX5_readClause_87 : decode cX5_readClause 87 = .ok (.aload_n 1, 1) := by decide +kernel
theorem dX5_readClause_88 : decode cX5_readClause 88 = .ok (.invokevirtual 58, 3) := by decide +kernel
theorem dX5_readClause_91 : decode cX5_readClause 91 = .ok (.goto 33, 3) := by decide +kernel
theorem dX5_readClause_94 : decode cX5_readClause 94 = .ok (.iload_n 2, 1) := by decide +kernel
theorem dX5_readClause_95 : decode cX5_readClause 95 = .ok (.bipush 118, 2) := by decide +kernel
theorem dX5_readClause_97 : decode cX5_readClause 97 = .ok (.if_icmp .ne 18, 3) := by decide +kernel
theorem dX5_readClause_100 : decode cX5_readClause 100 = .ok (.aload_n 1, 1) := by decide +kernel
theorem dX5_readClause_101 : decode cX5_readClause 101 = .ok (.getfield 41, 3) := by decide +kernel
theorem dX5_readClause_104 : decode cX5_readClause 104 = .ok (.ifCond .eq 11, 3) := by decide +kernel
theorem dX5_readClause_107 : decode cX5_readClause 107 = .ok (.aload_n 0, 1) := by decide +kernel
theorem dX5_readClause_108 : decode cX5_readClause 108 = .ok (.aload_n 1, 1) := by decide +kernel
theorem dX5_readClause_109 : decode cX5_readClause 109 = .ok (.invokevirtual 61, 3) := by decide +kernel
theorem dX5_readClause_112 : decode cX5_readClause 112 = .ok (.goto 12, 3) := by decide +kernel
theorem dX5_readClause_115 : decode cX5_readClause 115 = .ok (.aload_n 0, 1) := by decide +kernel
theorem dX5_readClause_116 : decode cX5_readClause 116 = .ok (.iconst 1, 1) := by decide +kernel
theorem dX5_readClause_117 : decode cX5_readClause 117 = .ok (.aload_n 0, 1) := by decide +kernel
theorem dX5_readClause_118 : decode cX5_readClause 118 = .ok (.getfield 19, 3) := by decide +kernel
theorem dX5_readClause_121 : decode cX5_readClause 121 = .ok (.invokevirtual 51, 3) := by decide +kernel
theorem dX5_readClause_124 : decode cX5_readClause 124 = .ok (.return_, 1) := by decide +kernel
theorem dX5_readBox_0 : decode cX5_readBox 0 = .ok (.aload_n 0, 1) := by decide +kernel
theorem dX5_readBox_1 : decode cX5_readBox 1 = .ok (.dup, 1) := by decide +kernel
theorem dX5_readBox_2 : decode cX5_readBox 2 = .ok (.getfield 19, 3) := by decide +kernel
theorem dX5_readBox_5 : decode cX5_readBox 5 = .ok (.iconst 1, 1) := by decide +kernel
theorem dX5_readBox_6 : decode cX5_readBox 6 = .ok (.iadd, 1) := by decide +kernel
theorem dX5_readBox_7 : decode cX5_readBox 7 = .ok (.putfield 19, 3) := by decide +kernel
theorem dX5_readBox_10 : decode cX5_readBox 10 = .ok (.aload_n 0, 1) := by decide +kernel
theorem dX5_readBox_11 : decode cX5_readBox 11 = .ok (.bipush 99, 2) := by decide +kernel
theorem dX5_readBox_13 : decode cX5_readBox 13 = .ok (.invokevirtual 64, 3) := by decide +kernel
theorem dX5_readBox_16 : decode cX5_readBox 16 = .ok (.istore_n 2, 1) := by decide +kernel
theorem dX5_readBox_17 : decode cX5_readBox 17 = .ok (.aload_n 0, 1) := by decide +kernel
theorem dX5_readBox_18 : decode cX5_readBox 18 = .ok (.bipush 99, 2) := by decide +kernel
theorem dX5_readBox_20 : decode cX5_readBox 20 = .ok (.invokevirtual 64, 3) := by decide +kernel
theorem dX5_readBox_23 : decode cX5_readBox 23 = .ok (.istore_n 3, 1) := by decide +kernel
theorem dX5_readBox_24 : decode cX5_readBox 24 = .ok (.aload_n 0, 1) := by decide +kernel
theorem dX5_readBox_25 : decode cX5_readBox 25 = .ok (.sipush 999, 3) := by decide +kernel
theorem dX5_readBox_28 : decode cX5_readBox 28 = .ok (.invokevirtual 64, 3) := by decide +kernel
theorem dX5_readBox_31 : decode cX5_readBox 31 = .ok (.istore 4, 2) := by decide +kernel
theorem dX5_readBox_33 : decode cX5_readBox 33 = .ok (.aload_n 0, 1) := by decide +kernel
theorem dX5_readBox_34 : decode cX5_readBox 34 = .ok (.invokevirtual 68, 3) := by decide +kernel
theorem dX5_readBox_37 : decode cX5_readBox 37 = .ok (.aload_n 1, 1) := by decide +kernel
theorem dX5_readBox_38 : decode cX5_readBox 38 = .ok (.iload_n 2, 1) := by decide +kernel
theorem dX5_readBox_39 : decode cX5_readBox 39 = .ok (.iload_n 3, 1) := by decide +kernel
theorem dX5_readBox_40 : decode cX5_readBox 40 = .ok (.iload 4, 2) := by decide +kernel
theorem dX5_readBox_42 : decode cX5_readBox 42 = .ok (.invokevirtual 71, 3) := by decide +kernel
theorem dX5_readBox_45 : decode cX5_readBox 45 = .ok (.return_, 1) := by decide +kernel
theorem dX5_readWord_0 : decode cX5_readWord 0 = .ok (.aload_n 0, 1) := by decide +kernel
theorem dX5_readWord_1 : decode cX5_readWord 1 = .ok (.dup, 1) := by decide +kernel
theorem dX5_readWord_2 : decode cX5_readWord 2 = .ok (.getfield 19, 3) := by decide +kernel
theorem dX5_readWord_5 : decode cX5_readWord 5 = .ok (.iconst 1, 1) := by decide +kernel
theorem dX5_readWord_6 : decode cX5_readWord 6 = .ok (.iadd, 1) := by decide +kernel
theorem dX5_readWord_7 : decode cX5_readWord 7 = .ok (.putfield 19, 3) := by decide +kernel
theorem dX5_readWord_10 : decode cX5_readWord 10 = .ok (.aload_n 0, 1) := by decide +kernel
theorem dX5_readWord_11 : decode cX5_readWord 11 = .ok (.sipush 999, 3) := by decide +kernel
theorem dX5_readWord_14 : decode cX5_readWord 14 = .ok (.invokevirtual 64, 3) := by decide +kernel
theorem dX5_readWord_17 : decode cX5_readWord 17 = .ok (.istore_n 2, 1) := by decide +kernel
theorem dX5_readWord_18 : decode cX5_readWord 18 = .ok (.aload_n 0, 1) := by decide +kernel
theorem dX5_readWord_19 : decode cX5_readWord 19 = .ok (.bipush 99, 2) := by decide +kernel
theorem dX5_readWord_21 : decode cX5_readWord 21 = .ok (.invokevirtual 64, 3) := by decide +kernel
theorem dX5_readWord_24 : decode cX5_readWord 24 = .ok (.istore_n 3, 1) := by decide +kernel
theorem dX5_readWord_25 : decode cX5_readWord 25 = .ok (.aload_n 0, 1) := by decide +kernel
theorem dX5_readWord_26 : decode cX5_readWord 26 = .ok (.bipush 99, 2) := by decide +kernel
theorem dX5_readWord_28 : decode cX5_readWord 28 = .ok (.invokevirtual 64, 3) := by decide +kernel
theorem dX5_readWord_31 : decode cX5_readWord 31 = .ok (.istore 4, 2) := by decide +kernel
theorem dX5_readWord_33 : decode cX5_readWord 33 = .ok (.aload_n 0, 1) := by decide +kernel
theorem dX5_readWord_34 : decode cX5_readWord 34 = .ok (.invokevirtual 68, 3) := by decide +kernel
theorem dX5_readWord_37 : decode cX5_readWord 37 = .ok (.aload_n 1, 1) := by decide +kernel
theorem dX5_readWord_38 : decode cX5_readWord 38 = .ok (.iload_n 2, 1) := by decide +kernel
theorem dX5_readWord_39 : decode cX5_readWord 39 = .ok (.iload_n 3, 1) := by decide +kernel
theorem dX5_readWord_40 : decode cX5_readWord 40 = .ok (.iload 4, 2) := by decide +kernel
theorem dX5_readWord_42 : decode cX5_readWord 42 = .ok (.invokevirtual 75, 3) := by decide +kernel
theorem dX5_readWord_45 : decode cX5_readWord 45 = .ok (.return_, 1) := by decide +kernel
theorem dX5_readVoice_0 : decode cX5_readVoice 0 = .ok (.aload_n 0, 1) := by decide +kernel
theorem dX5_readVoice_1 : decode cX5_readVoice 1 = .ok (.dup, 1) := by decide +kernel
theorem dX5_readVoice_2 : decode cX5_readVoice 2 = .ok (.getfield 19, 3) := by decide +kernel
theorem dX5_readVoice_5 : decode cX5_readVoice 5 = .ok (.iconst 1, 1) := by decide +kernel
theorem dX5_readVoice_6 : decode cX5_readVoice 6 = .ok (.iadd, 1) := by decide +kernel
theorem dX5_readVoice_7 : decode cX5_readVoice 7 = .ok (.putfield 19, 3) := by decide +kernel
theorem dX5_readVoice_10 : decode cX5_readVoice 10 = .ok (.aload_n 0, 1) := by decide +kernel
theorem dX5_readVoice_11 : decode cX5_readVoice 11 = .ok (.sipush 999, 3) := by decide +kernel
theorem dX5_readVoice_14 : decode cX5_readVoice 14 = .ok (.invokevirtual 64, 3) := by decide +kernel
theorem dX5_readVoice_17 : decode cX5_readVoice 17 = .ok (.istore_n 2, 1) := by decide +kernel
theorem dX5_readVoice_18 : decode cX5_readVoice 18 = .ok (.aload_n 0, 1) := by decide +kernel
theorem dX5_readVoice_19 : decode cX5_readVoice 19 = .ok (.invokevirtual 68, 3) := by decide +kernel
theorem dX5_readVoice_22 : decode cX5_readVoice 22 = .ok (.aload_n 1, 1) := by decide +kernel
theorem dX5_readVoice_23 : decode cX5_readVoice 23 = .ok (.iload_n 2, 1) := by decide +kernel
theorem dX5_readVoice_24 : decode cX5_readVoice 24 = .ok (.invokevirtual 78, 3) := by decide +kernel
theorem dX5_readVoice_27 : decode cX5_readVoice 27 = .ok (.return_, 1) := by decide +kernel
theorem dX5_readNumber_0 : decode cX5_readNumber 0 = .ok (.aload_n 0, 1) := by decide +kernel
theorem dX5_readNumber_1 : decode cX5_readNumber 1 = .ok (.getfield 22, 3) := by decide +kernel
theorem dX5_readNumber_4 : decode cX5_readNumber 4 = .ok (.ifCond .eq 5, 3) := by decide +kernel
theorem dX5_readNumber_7 : decode cX5_readNumber 7 = .ok (.iconst 0, 1) := by decide +kernel
theorem dX5_readNumber_8 : decode cX5_readNumber 8 = .ok (.ireturn, 1) := by decide +kernel
theorem dX5_readNumber_9 : decode cX5_readNumber 9 = .ok (.aload_n 0, 1) := by decide +kernel
theorem dX5_readNumber_10 : decode cX5_readNumber 10 = .ok (.invokevirtual 30, 3) := by decide +kernel
theorem dX5_readNumber_13 : decode cX5_readNumber 13 = .ok (.aload_n 0, 1) := by decide +kernel
theorem dX5_readNumber_14 : decode cX5_readNumber 14 = .ok (.getfield 19, 3) := by decide +kernel
theorem dX5_readNumber_17 : decode cX5_readNumber 17 = .ok (.istore_n 2, 1) := by decide +kernel
theorem dX5_readNumber_18 : decode cX5_readNumber 18 = .ok (.iconst 0, 1) := by decide +kernel
theorem dX5_readNumber_19 : decode cX5_readNumber 19 = .ok (.istore_n 3, 1) := by decide +kernel
theorem dX5_readNumber_20 : decode cX5_readNumber 20 = .ok (.aload_n 0, 1) := by decide +kernel
theorem dX5_readNumber_21 : decode cX5_readNumber 21 = .ok (.getfield 19, 3) := by decide +kernel
theorem dX5_readNumber_24 : decode cX5_readNumber 24 = .ok (.aload_n 0, 1) := by decide +kernel
theorem dX5_readNumber_25 : decode cX5_readNumber 25 = .ok (.getfield 15, 3) := by decide +kernel
theorem dX5_readNumber_28 : decode cX5_readNumber 28 = .ok (.if_icmp .ge 54, 3) := by decide +kernel
theorem dX5_readNumber_31 : decode cX5_readNumber 31 = .ok (.aload_n 0, 1) := by decide +kernel
theorem dX5_readNumber_32 : decode cX5_readNumber 32 = .ok (.getfield 9, 3) := by decide +kernel
theorem dX5_readNumber_35 : decode cX5_readNumber 35 = .ok (.aload_n 0, 1) := by decide +kernel
theorem dX5_readNumber_36 : decode cX5_readNumber 36 = .ok (.getfield 19, 3) := by decide +kernel
theorem dX5_readNumber_39 : decode cX5_readNumber 39 = .ok (.iaload, 1) := by decide +kernel
theorem dX5_readNumber_40 : decode cX5_readNumber 40 = .ok (.invokestatic 82, 3) := by decide +kernel
theorem dX5_readNumber_43 : decode cX5_readNumber 43 = .ok (.ifCond .eq 39, 3) := by decide +kernel
theorem dX5_readNumber_46 : decode cX5_readNumber 46 = .ok (.bipush 10, 2) := by decide +kernel
theorem dX5_readNumber_48 : decode cX5_readNumber 48 = .ok (.iload_n 3, 1) := by decide +kernel
theorem dX5_readNumber_49 : decode cX5_readNumber 49 = .ok (.imul, 1) := by decide +kernel
theorem dX5_readNumber_50 : decode cX5_readNumber 50 = .ok (.aload_n 0, 1) := by decide +kernel
theorem dX5_readNumber_51 : decode cX5_readNumber 51 = .ok (.getfield 9, 3) := by decide +kernel
theorem dX5_readNumber_54 : decode cX5_readNumber 54 = .ok (.aload_n 0, 1) := by decide +kernel
theorem dX5_readNumber_55 : decode cX5_readNumber 55 = .ok (.getfield 19, 3) := by decide +kernel
theorem dX5_readNumber_58 : decode cX5_readNumber 58 = .ok (.iaload, 1) := by decide +kernel
theorem dX5_readNumber_59 : decode cX5_readNumber 59 = .ok (.iadd, 1) := by decide +kernel
theorem dX5_readNumber_60 : decode cX5_readNumber 60 = .ok (.bipush 48, 2) := by decide +kernel
theorem dX5_readNumber_62 : decode cX5_readNumber 62 = .ok (.isub, 1) := by decide +kernel
theorem dX5_readNumber_63 : decode cX5_readNumber 63 = .ok (.ldc 86, 2) := by decide +kernel
theorem dX5_readNumber_65 : decode cX5_readNumber 65 = .ok (.invokestatic 87, 3) := by decide +kernel
theorem dX5_readNumber_68 : decode cX5_readNumber 68 = .ok (.istore_n 3, 1) := by decide +kernel
theorem dX5_readNumber_69 : decode cX5_readNumber 69 = .ok (.aload_n 0, 1) := by decide +kernel
theorem dX5_readNumber_70 : decode cX5_readNumber 70 = .ok (.dup, 1) := by decide +kernel
theorem dX5_readNumber_71 : decode cX5_readNumber 71 = .ok (.getfield 19, 3) := by decide +kernel
theorem dX5_readNumber_74 : decode cX5_readNumber 74 = .ok (.iconst 1, 1) := by decide +kernel
theorem dX5_readNumber_75 : decode cX5_readNumber 75 = .ok (.iadd, 1) := by decide +kernel
theorem dX5_readNumber_76 : decode cX5_readNumber 76 = .ok (.putfield 19, 3) := by decide +kernel
theorem dX5_readNumber_79 : decode cX5_readNumber 79 = .ok (.goto (-59), 3) := by decide +kernel
theorem dX5_readNumber_82 : decode cX5_readNumber 82 = .ok (.aload_n 0, 1) := by decide +kernel
theorem dX5_readNumber_83 : decode cX5_readNumber 83 = .ok (.getfield 19, 3) := by decide +kernel
theorem dX5_readNumber_86 : decode cX5_readNumber 86 = .ok (.iload_n 2, 1) := by decide +kernel
theorem dX5_readNumber_87 : decode cX5_readNumber 87 = .ok (.if_icmp .ne 15, 3) := by decide +kernel
theorem dX5_readNumber_90 : decode cX5_readNumber 90 = .ok (.aload_n 0, 1) := by decide +kernel
theorem dX5_readNumber_91 : decode cX5_readNumber 91 = .ok (.iconst 1, 1) := by decide +kernel
theorem dX5_readNumber_92 : decode cX5_readNumber 92 = .ok (.aload_n 0, 1) := by decide +kernel
theorem dX5_readNumber_93 : decode cX5_readNumber 93 = .ok (.getfield 19, 3) := by decide +kernel
theorem dX5_readNumber_96 : decode cX5_readNumber 96 = .ok (.invokevirtual 51, 3) := by decide +kernel
theorem dX5_readNumber_99 : decode cX5_readNumber 99 = .ok (.goto 24, 3) := by decide +kernel
theorem dX5_readNumber_102 : decode cX5_readNumber 102 = .ok (.aload_n 0, 1) := by decide +kernel
theorem dX5_readNumber_103 : decode cX5_readNumber 103 = .ok (.getfield 19, 3) := by decide +kernel
theorem dX5_readNumber_106 : decode cX5_readNumber 106 = .ok (.iload_n 2, 1) := by decide +kernel
theorem dX5_readNumber_107 : decode cX5_readNumber 107 = .ok (.isub, 1) := by decide +kernel
theorem dX5_readNumber_108 : decode cX5_readNumber 108 = .ok (.iconst 3, 1) := by decide +kernel
theorem dX5_readNumber_109 : decode cX5_readNumber 109 = .ok (.if_icmp .gt 8, 3) := by decide +kernel
theorem dX5_readNumber_112 : decode cX5_readNumber 112 = .ok (.iload_n 3, 1) := by decide +kernel
theorem dX5_readNumber_113 : decode cX5_readNumber 113 = .ok (.iload_n 1, 1) := by decide +kernel
theorem dX5_readNumber_114 : decode cX5_readNumber 114 = .ok (.if_icmp .le 9, 3) := by decide +kernel
theorem dX5_readNumber_117 : decode cX5_readNumber 117 = .ok (.aload_n 0, 1) := by decide +kernel
theorem dX5_readNumber_118 : decode cX5_readNumber 118 = .ok (.iconst 2, 1) := by decide +kernel
theorem dX5_readNumber_119 : decode cX5_readNumber 119 = .ok (.iload_n 2, 1) := by decide +kernel
theorem dX5_readNumber_120 : decode cX5_readNumber 120 = .ok (.invokevirtual 51, 3) := by decide +kernel
theorem dX5_readNumber_123 : decode cX5_readNumber 123 = .ok (.iload_n 3, 1) := by decide +kernel
theorem dX5_readNumber_124 : decode cX5_readNumber 124 = .ok (.ireturn, 1) := by decide +kernel
theorem dX5_readEnd_0 : decode cX5_readEnd 0 = .ok (.aload_n 0, 1) := by decide +kernel
theorem dX5_readEnd_1 : decode cX5_readEnd 1 = .ok (.getfield 22, 3) := by decide +kernel
theorem dX5_readEnd_4 : decode cX5_readEnd 4 = .ok (.ifCond .eq 4, 3) := by decide +kernel
theorem dX5_readEnd_7 : decode cX5_readEnd 7 = .ok (.return_, 1) := by decide +kernel
theorem dX5_readEnd_8 : decode cX5_readEnd 8 = .ok (.aload_n 0, 1) := by decide +kernel
theorem dX5_readEnd_9 : decode cX5_readEnd 9 = .ok (.invokevirtual 30, 3) := by decide +kernel
theorem dX5_readEnd_12 : decode cX5_readEnd 12 = .ok (.aload_n 0, 1) := by decide +kernel
theorem dX5_readEnd_13 : decode cX5_readEnd 13 = .ok (.invokevirtual 37, 3) := by decide +kernel
theorem dX5_readEnd_16 : decode cX5_readEnd 16 = .ok (.bipush 59, 2) := by decide +kernel
theorem dX5_readEnd_18 : decode cX5_readEnd 18 = .ok (.if_icmp .ne 16, 3) := by decide +kernel
theorem dX5_readEnd_21 : decode cX5_readEnd 21 = .ok (.aload_n 0, 1) := by decide +kernel
theorem dX5_readEnd_22 : decode cX5_readEnd 22 = .ok (.dup, 1) := by decide +kernel
theorem dX5_readEnd_23 : decode cX5_readEnd 23 = .ok (.getfield 19, 3) := by decide +kernel
theorem dX5_readEnd_26 : decode cX5_readEnd 26 = .ok (.iconst 1, 1) := by decide +kernel
theorem dX5_readEnd_27 : decode cX5_readEnd 27 = .ok (.iadd, 1) := by decide +kernel
theorem dX5_readEnd_28 : decode cX5_readEnd 28 = .ok (.putfield 19, 3) := by decide +kernel
theorem dX5_readEnd_31 : decode cX5_readEnd 31 = .ok (.goto 12, 3) := by decide +kernel
theorem dX5_readEnd_34 : decode cX5_readEnd 34 = .ok (.aload_n 0, 1) := by decide +kernel
theorem dX5_readEnd_35 : decode cX5_readEnd 35 = .ok (.iconst 1, 1) := by decide +kernel
theorem dX5_readEnd_36 : decode cX5_readEnd 36 = .ok (.aload_n 0, 1) := by decide +kernel
theorem dX5_readEnd_37 : decode cX5_readEnd 37 = .ok (.getfield 19, 3) := by decide +kernel
theorem dX5_readEnd_40 : decode cX5_readEnd 40 = .ok (.invokevirtual 51, 3) := by decide +kernel
theorem dX5_readEnd_43 : decode cX5_readEnd 43 = .ok (.return_, 1) := by decide +kernel
theorem dX5_skipBlanks_0 : decode cX5_skipBlanks 0 = .ok (.aload_n 0, 1) := by decide +kernel
theorem dX5_skipBlanks_1 : decode cX5_skipBlanks 1 = .ok (.getfield 22, 3) := by decide +kernel
theorem dX5_skipBlanks_4 : decode cX5_skipBlanks 4 = .ok (.ifCond .ne 41, 3) := by decide +kernel
theorem dX5_skipBlanks_7 : decode cX5_skipBlanks 7 = .ok (.aload_n 0, 1) := by decide +kernel
theorem dX5_skipBlanks_8 : decode cX5_skipBlanks 8 = .ok (.getfield 19, 3) := by decide +kernel
theorem dX5_skipBlanks_11 : decode cX5_skipBlanks 11 = .ok (.aload_n 0, 1) := by decide +kernel
theorem dX5_skipBlanks_12 : decode cX5_skipBlanks 12 = .ok (.getfield 15, 3) := by decide +kernel
theorem dX5_skipBlanks_15 : decode cX5_skipBlanks 15 = .ok (.if_icmp .ge 30, 3) := by decide +kernel
theorem dX5_skipBlanks_18 : decode cX5_skipBlanks 18 = .ok (.aload_n 0, 1) := by decide +kernel
theorem dX5_skipBlanks_19 : decode cX5_skipBlanks 19 = .ok (.getfield 9, 3) := by decide +kernel
theorem dX5_skipBlanks_22 : decode cX5_skipBlanks 22 = .ok (.aload_n 0, 1) := by decide +kernel
theorem dX5_skipBlanks_23 : decode cX5_skipBlanks 23 = .ok (.getfield 19, 3) := by decide +kernel
theorem dX5_skipBlanks_26 : decode cX5_skipBlanks 26 = .ok (.iaload, 1) := by decide +kernel
theorem dX5_skipBlanks_27 : decode cX5_skipBlanks 27 = .ok (.bipush 32, 2) := by decide +kernel
theorem dX5_skipBlanks_29 : decode cX5_skipBlanks 29 = .ok (.if_icmp .ne 16, 3) := by decide +kernel
theorem dX5_skipBlanks_32 : decode cX5_skipBlanks 32 = .ok (.aload_n 0, 1) := by decide +kernel
theorem dX5_skipBlanks_33 : decode cX5_skipBlanks 33 = .ok (.dup, 1) := by decide +kernel
theorem dX5_skipBlanks_34 : decode cX5_skipBlanks 34 = .ok (.getfield 19, 3) := by decide +kernel
theorem dX5_skipBlanks_37 : decode cX5_skipBlanks 37 = .ok (.iconst 1, 1) := by decide +kernel
theorem dX5_skipBlanks_38 : decode cX5_skipBlanks 38 = .ok (.iadd, 1) := by decide +kernel
theorem dX5_skipBlanks_39 : decode cX5_skipBlanks 39 = .ok (.putfield 19, 3) := by decide +kernel
theorem dX5_skipBlanks_42 : decode cX5_skipBlanks 42 = .ok (.goto (-42), 3) := by decide +kernel
theorem dX5_skipBlanks_45 : decode cX5_skipBlanks 45 = .ok (.return_, 1) := by decide +kernel
theorem dX5_letterHere_0 : decode cX5_letterHere 0 = .ok (.aload_n 0, 1) := by decide +kernel
theorem dX5_letterHere_1 : decode cX5_letterHere 1 = .ok (.getfield 19, 3) := by decide +kernel
theorem dX5_letterHere_4 : decode cX5_letterHere 4 = .ok (.aload_n 0, 1) := by decide +kernel
theorem dX5_letterHere_5 : decode cX5_letterHere 5 = .ok (.getfield 15, 3) := by decide +kernel
theorem dX5_letterHere_8 : decode cX5_letterHere 8 = .ok (.if_icmp .ge 15, 3) := by decide +kernel
theorem dX5_letterHere_11 : decode cX5_letterHere 11 = .ok (.aload_n 0, 1) := by decide +kernel
theorem dX5_letterHere_12 : decode cX5_letterHere 12 = .ok (.getfield 9, 3) := by decide +kernel
theorem dX5_letterHere_15 : decode cX5_letterHere 15 = .ok (.aload_n 0, 1) := by decide +kernel
theorem dX5_letterHere_16 : decode cX5_letterHere 16 = .ok (.getfield 19, 3) := by decide +kernel
theorem dX5_letterHere_19 : decode cX5_letterHere 19 = .ok (.iaload, 1) := by decide +kernel
theorem dX5_letterHere_20 : decode cX5_letterHere 20 = .ok (.goto 4, 3) := by decide +kernel
theorem dX5_letterHere_23 : decode cX5_letterHere 23 = .ok (.iconst (-1), 1) := by decide +kernel
theorem dX5_letterHere_24 : decode cX5_letterHere 24 = .ok (.ireturn, 1) := by decide +kernel
theorem dX5_isFigure_0 : decode cX5_isFigure 0 = .ok (.iload_n 0, 1) := by decide +kernel
theorem dX5_isFigure_1 : decode cX5_isFigure 1 = .ok (.bipush 48, 2) := by decide +kernel
theorem dX5_isFigure_3 : decode cX5_isFigure 3 = .ok (.if_icmp .lt 13, 3) := by decide +kernel
theorem dX5_isFigure_6 : decode cX5_isFigure 6 = .ok (.iload_n 0, 1) := by decide +kernel
theorem dX5_isFigure_7 : decode cX5_isFigure 7 = .ok (.bipush 57, 2) := by decide +kernel
theorem dX5_isFigure_9 : decode cX5_isFigure 9 = .ok (.if_icmp .gt 7, 3) := by decide +kernel
theorem dX5_isFigure_12 : decode cX5_isFigure 12 = .ok (.iconst 1, 1) := by decide +kernel
theorem dX5_isFigure_13 : decode cX5_isFigure 13 = .ok (.goto 4, 3) := by decide +kernel
theorem dX5_isFigure_16 : decode cX5_isFigure 16 = .ok (.iconst 0, 1) := by decide +kernel
theorem dX5_isFigure_17 : decode cX5_isFigure 17 = .ok (.ireturn, 1) := by decide +kernel
theorem dX5_stop_0 : decode cX5_stop 0 = .ok (.aload_n 0, 1) := by decide +kernel
theorem dX5_stop_1 : decode cX5_stop 1 = .ok (.iload_n 1, 1) := by decide +kernel
theorem dX5_stop_2 : decode cX5_stop 2 = .ok (.putfield 22, 3) := by decide +kernel
theorem dX5_stop_5 : decode cX5_stop 5 = .ok (.aload_n 0, 1) := by decide +kernel
theorem dX5_stop_6 : decode cX5_stop 6 = .ok (.iload_n 2, 1) := by decide +kernel
theorem dX5_stop_7 : decode cX5_stop 7 = .ok (.putfield 19, 3) := by decide +kernel
theorem dX5_stop_10 : decode cX5_stop 10 = .ok (.return_, 1) := by decide +kernel
end
section
theorem dX6_init_0 : decode cX6_init 0 = .ok (.aload_n 0, 1) := by decide +kernel
theorem dX6_init_1 : decode cX6_init 1 = .ok (.invokespecial 1, 3) := by decide +kernel
theorem dX6_init_4 : decode cX6_init 4 = .ok (.aload_n 0, 1) := by decide +kernel
theorem dX6_init_5 : decode cX6_init 5 = .ok (.new 7, 3) := by decide +kernel
theorem dX6_init_8 : decode cX6_init 8 = .ok (.dup, 1) := by decide +kernel
theorem dX6_init_9 : decode cX6_init 9 = .ok (.invokespecial 9, 3) := by decide +kernel
theorem dX6_init_12 : decode cX6_init 12 = .ok (.putfield 10, 3) := by decide +kernel
theorem dX6_init_15 : decode cX6_init 15 = .ok (.aload_n 0, 1) := by decide +kernel
theorem dX6_init_16 : decode cX6_init 16 = .ok (.iconst (-1), 1) := by decide +kernel
theorem dX6_init_17 : decode cX6_init 17 = .ok (.putfield 16, 3) := by decide +kernel
theorem dX6_init_20 : decode cX6_init 20 = .ok (.aload_n 0, 1) := by decide +kernel
theorem dX6_init_21 : decode cX6_init 21 = .ok (.new 20, 3) := by decide +kernel
theorem dX6_init_24 : decode cX6_init 24 = .ok (.dup, 1) := by decide +kernel
theorem dX6_init_25 : decode cX6_init 25 = .ok (.invokespecial 22, 3) := by decide +kernel
theorem dX6_init_28 : decode cX6_init 28 = .ok (.putfield 23, 3) := by decide +kernel
theorem dX6_init_31 : decode cX6_init 31 = .ok (.aload_n 0, 1) := by decide +kernel
theorem dX6_init_32 : decode cX6_init 32 = .ok (.new 20, 3) := by decide +kernel
theorem dX6_init_35 : decode cX6_init 35 = .ok (.dup, 1) := by decide +kernel
theorem dX6_init_36 : decode cX6_init 36 = .ok (.invokespecial 22, 3) := by decide +kernel
theorem dX6_init_39 : decode cX6_init 39 = .ok (.putfield 27, 3) := by decide +kernel
theorem dX6_init_42 : decode cX6_init 42 = .ok (.aload_n 0, 1) := by decide +kernel
theorem dX6_init_43 : decode cX6_init 43 = .ok (.new 30, 3) := by decide +kernel
theorem dX6_init_46 : decode cX6_init 46 = .ok (.dup, 1) := by decide +kernel
theorem dX6_init_47 : decode cX6_init 47 = .ok (.invokespecial 32, 3) := by decide +kernel
theorem dX6_init_50 : decode cX6_init 50 = .ok (.putfield 33, 3) := by decide +kernel
theorem dX6_init_53 : decode cX6_init 53 = .ok (.aload_n 0, 1) := by decide +kernel
theorem dX6_init_54 : decode cX6_init 54 = .ok (.new 30, 3) := by decide +kernel
theorem dX6_init_57 : decode cX6_init 57 = .ok (.dup, 1) := by decide +kernel
theorem dX6_init_58 : decode cX6_init 58 = .ok (.invokespecial 32, 3) := by decide +kernel
theorem dX6_init_61 : decode cX6_init 61 = .ok (.putfield 37, 3) := by decide +kernel
theorem dX6_init_64 : decode cX6_init 64 = .ok (.aload_n 0, 1) := by decide +kernel
theorem dX6_init_65 : decode cX6_init 65 = .ok (.new 40, 3) := by decide +kernel
theorem dX6_init_68 : decode cX6_init 68 = .ok (.dup, 1) := by decide +kernel
theorem dX6_init_69 : decode cX6_init 69 = .ok (.invokespecial 42, 3) := by decide +kernel
theorem dX6_init_72 : decode cX6_init 72 = .ok (.putfield 43, 3) := by decide +kernel
theorem dX6_init_75 : decode cX6_init 75 = .ok (.aload_n 0, 1) := by decide +kernel
theorem dX6_init_76 : decode cX6_init 76 = .ok (.iconst 2, 1) := by decide +kernel
theorem dX6_init_77 : decode cX6_init 77 = .ok (.anewarray 47, 3) := by decide +kernel
theorem dX6_init_80 : decode cX6_init 80 = .ok (.putfield 49, 3) := by decide +kernel
theorem dX6_init_83 : decode cX6_init 83 = .ok (.aload_n 0, 1) := by decide +kernel
theorem dX6_init_84 : decode cX6_init 84 = .ok (.iconst 0, 1) := by decide +kernel
theorem dX6_init_85 : decode cX6_init 85 = .ok (.putfield 53, 3) := by decide +kernel
theorem dX6_init_88 : decode cX6_init 88 = .ok (.aload_n 0, 1) := by decide +kernel
theorem dX6_init_89 : decode cX6_init 89 = .ok (.new 56, 3) := by decide +kernel
theorem dX6_init_92 : decode cX6_init 92 = .ok (.dup, 1) := by decide +kernel
theorem dX6_init_93 : decode cX6_init 93 = .ok (.bipush 6, 2) := by decide +kernel
theorem dX6_init_95 : decode cX6_init 95 = .ok (.invokespecial 58, 3) := by decide +kernel
theorem dX6_init_98 : decode cX6_init 98 = .ok (.putfield 61, 3) := by decide +kernel
theorem dX6_init_101 : decode cX6_init 101 = .ok (.aload_n 0, 1) := by decide +kernel
theorem dX6_init_102 : decode cX6_init 102 = .ok (.new 56, 3) := by decide +kernel
theorem dX6_init_105 : decode cX6_init 105 = .ok (.dup, 1) := by decide +kernel
theorem dX6_init_106 : decode cX6_init 106 = .ok (.bipush 15, 2) := by decide +kernel
theorem dX6_init_108 : decode cX6_init 108 = .ok (.invokespecial 58, 3) := by decide +kernel
theorem dX6_init_111 : decode cX6_init 111 = .ok (.putfield 65, 3) := by decide +kernel
theorem dX6_init_114 : decode cX6_init 114 = .ok (.iconst 0, 1) := by decide +kernel
theorem dX6_init_115 : decode cX6_init 115 = .ok (.istore_n 1, 1) := by decide +kernel
theorem dX6_init_116 : decode cX6_init 116 = .ok (.iload_n 1, 1) := by decide +kernel
theorem dX6_init_117 : decode cX6_init 117 = .ok (.iconst 2, 1) := by decide +kernel
theorem dX6_init_118 : decode cX6_init 118 = .ok (.if_icmp .ge 22, 3) := by decide +kernel
theorem dX6_init_121 : decode cX6_init 121 = .ok (.aload_n 0, 1) := by decide +kernel
theorem dX6_init_122 : decode cX6_init 122 = .ok (.getfield 49, 3) := by decide +kernel
theorem dX6_init_125 : decode cX6_init 125 = .ok (.iload_n 1, 1) := by decide +kernel
theorem dX6_init_126 : decode cX6_init 126 = .ok (.new 47, 3) := by decide +kernel
theorem dX6_init_129 : decode cX6_init 129 = .ok (.dup, 1) := by decide +kernel
theorem dX6_init_130 : decode cX6_init 130 = .ok (.invokespecial 68, 3) := by decide +kernel
theorem dX6_init_133 : decode cX6_init 133 = .ok (.aastore, 1) := by decide +kernel
theorem dX6_init_134 : decode cX6_init 134 = .ok (.iinc 1 1, 3) := by decide +kernel
theorem dX6_init_137 : decode cX6_init 137 = .ok (.goto (-21), 3) := by decide +kernel
theorem dX6_init_140 : decode cX6_init 140 = .ok (.return_, 1) := by decide +kernel
theorem dX6_feed_0 : decode cX6_feed 0 = .ok (.iload_n 1, 1) := by decide +kernel
theorem dX6_feed_1 : decode cX6_feed 1 = .ok (.ifCond .lt 10, 3) := by decide +kernel
theorem dX6_feed_4 : decode cX6_feed 4 = .ok (.iload_n 1, 1) := by decide +kernel
theorem dX6_feed_5 : decode cX6_feed 5 = .ok (.sipush 255, 3) := by decide +kernel
theorem dX6_feed_8 : decode cX6_feed 8 = .ok (.if_icmp .le 6, 3) := by decide +kernel
theorem dX6_feed_11 : decode cX6_feed 11 = .ok (.ldc 69, 2) := by decide +kernel
theorem dX6_feed_13 : decode cX6_feed 13 = .ok (.ireturn, 1) := by decide +kernel
theorem dX6_feed_14 : decode cX6_feed 14 = .ok (.aload_n 0, 1) := by decide +kernel
theorem dX6_feed_15 : decode cX6_feed 15 = .ok (.getfield 10, 3) := by decide +kernel
theorem dX6_feed_18 : decode cX6_feed 18 = .ok (.iload_n 1, 1) := by decide +kernel
theorem dX6_feed_19 : decode cX6_feed 19 = .ok (.invokevirtual 70, 3) := by decide +kernel
theorem dX6_feed_22 : decode cX6_feed 22 = .ok (.ifCond .eq 13, 3) := by decide +kernel
theorem dX6_feed_25 : decode cX6_feed 25 = .ok (.aload_n 0, 1) := by decide +kernel
theorem dX6_feed_26 : decode cX6_feed 26 = .ok (.getfield 10, 3) := by decide +kernel
theorem dX6_feed_29 : decode cX6_feed 29 = .ok (.getfield 74, 3) := by decide +kernel
theorem dX6_feed_32 : decode cX6_feed 32 = .ok (.goto 5, 3) := by decide +kernel
theorem dX6_feed_35 : decode cX6_feed 35 = .ok (.ldc 77, 2) := by decide +kernel
theorem dX6_feed_37 : decode cX6_feed 37 = .ok (.ireturn, 1) := by decide +kernel
theorem dX6_kitchen_0 : decode cX6_kitchen 0 = .ok (.aload_n 0, 1) := by decide +kernel
theorem dX6_kitchen_1 : decode cX6_kitchen 1 = .ok (.getfield 10, 3) := by decide +kernel
theorem dX6_kitchen_4 : decode cX6_kitchen 4 = .ok (.aload_n 0, 1) := by decide +kernel
theorem dX6_kitchen_5 : decode cX6_kitchen 5 = .ok (.getfield 27, 3) := by decide +kernel
theorem dX6_kitchen_8 : decode cX6_kitchen 8 = .ok (.invokevirtual 78, 3) := by decide +kernel
theorem dX6_kitchen_11 : decode cX6_kitchen 11 = .ok (.istore_n 1, 1) := by decide +kernel
theorem dX6_kitchen_12 : decode cX6_kitchen 12 = .ok (.aload_n 0, 1) := by decide +kernel
theorem dX6_kitchen_13 : decode cX6_kitchen 13 = .ok (.iload_n 1, 1) := by decide +kernel
theorem dX6_kitchen_14 : decode cX6_kitchen 14 = .ok (.ifCond .ne 7, 3) := by decide +kernel
theorem dX6_kitchen_17 : decode cX6_kitchen 17 = .ok (.iconst (-1), 1) := by decide +kernel
theorem dX6_kitchen_18 : decode cX6_kitchen 18 = .ok (.goto 10, 3) := by decide +kernel
theorem dX6_kitchen_21 : decode cX6_kitchen 21 = .ok (.aload_n 0, 1) := by decide +kernel
theorem dX6_kitchen_22 : decode cX6_kitchen 22 = .ok (.getfield 10, 3) := by decide +kernel
theorem dX6_kitchen_25 : decode cX6_kitchen 25 = .ok (.getfield 82, 3) := by decide +kernel
theorem dX6_kitchen_28 : decode cX6_kitchen 28 = .ok (.putfield 16, 3) := by decide +kernel
theorem dX6_kitchen_31 : decode cX6_kitchen 31 = .ok (.aload_n 0, 1) := by decide +kernel
theorem dX6_kitchen_32 : decode cX6_kitchen 32 = .ok (.getfield 10, 3) := by decide +kernel
theorem dX6_kitchen_35 : decode cX6_kitchen 35 = .ok (.invokevirtual 85, 3) := by decide +kernel
theorem dX6_kitchen_38 : decode cX6_kitchen 38 = .ok (.iload_n 1, 1) := by decide +kernel
theorem dX6_kitchen_39 : decode cX6_kitchen 39 = .ok (.ifCond .eq 8, 3) := by decide +kernel
theorem dX6_kitchen_42 : decode cX6_kitchen 42 = .ok (.bipush (-10), 2) := by decide +kernel
theorem dX6_kitchen_44 : decode cX6_kitchen 44 = .ok (.iload_n 1, 1) := by decide +kernel
theorem dX6_kitchen_45 : decode cX6_kitchen 45 = .ok (.isub, 1) := by decide +kernel
theorem dX6_kitchen_46 : decode cX6_kitchen 46 = .ok (.ireturn, 1) := by decide +kernel
theorem dX6_kitchen_47 : decode cX6_kitchen 47 = .ok (.aload_n 0, 1) := by decide +kernel
theorem dX6_kitchen_48 : decode cX6_kitchen 48 = .ok (.getfield 27, 3) := by decide +kernel
theorem dX6_kitchen_51 : decode cX6_kitchen 51 = .ok (.astore_n 2, 1) := by decide +kernel
theorem dX6_kitchen_52 : decode cX6_kitchen 52 = .ok (.aload_n 0, 1) := by decide +kernel
theorem dX6_kitchen_53 : decode cX6_kitchen 53 = .ok (.aload_n 0, 1) := by decide +kernel
theorem dX6_kitchen_54 : decode cX6_kitchen 54 = .ok (.getfield 23, 3) := by decide +kernel
theorem dX6_kitchen_57 : decode cX6_kitchen 57 = .ok (.putfield 27, 3) := by decide +kernel
theorem dX6_kitchen_60 : decode cX6_kitchen 60 = .ok (.aload_n 0, 1) := by decide +kernel
theorem dX6_kitchen_61 : decode cX6_kitchen 61 = .ok (.aload_n 2, 1) := by decide +kernel
theorem dX6_kitchen_62 : decode cX6_kitchen 62 = .ok (.putfield 23, 3) := by decide +kernel
theorem dX6_kitchen_65 : decode cX6_kitchen 65 = .ok (.aload_n 0, 1) := by decide +kernel
theorem dX6_kitchen_66 : decode cX6_kitchen 66 = .ok (.getfield 33, 3) := by decide +kernel
theorem dX6_kitchen_69 : decode cX6_kitchen 69 = .ok (.aload_n 0, 1) := by decide +kernel
theorem dX6_kitchen_70 : decode cX6_kitchen 70 = .ok (.getfield 23, 3) := by decide +kernel
theorem dX6_kitchen_73 : decode cX6_kitchen 73 = .ok (.invokevirtual 88, 3) := by decide +kernel
theorem dX6_kitchen_76 : decode cX6_kitchen 76 = .ok (.aload_n 0, 1) := by decide +kernel
theorem dX6_kitchen_77 : decode cX6_kitchen 77 = .ok (.getfield 43, 3) := by decide +kernel
theorem dX6_kitchen_80 : decode cX6_kitchen 80 = .ok (.invokevirtual 92, 3) := by decide +kernel
theorem dX6_kitchen_83 : decode cX6_kitchen 83 = .ok (.iconst 0, 1) := by decide +kernel
theorem dX6_kitchen_84 : decode cX6_kitchen 84 = .ok (.istore_n 3, 1) := by decide +kernel
theorem dX6_kitchen_85 : decode cX6_kitchen 85 = .ok (.iload_n 3, 1) := by decide +kernel
theorem dX6_kitchen_86 : decode cX6_kitchen 86 = .ok (.iconst 2, 1) := by decide +kernel
theorem dX6_kitchen_87 : decode cX6_kitchen 87 = .ok (.if_icmp .ge 19, 3) := by decide +kernel
theorem dX6_kitchen_90 : decode cX6_kitchen 90 = .ok (.aload_n 0, 1) := by decide +kernel
theorem dX6_kitchen_91 : decode cX6_kitchen 91 = .ok (.getfield 49, 3) := by decide +kernel
theorem dX6_kitchen_94 : decode cX6_kitchen 94 = .ok (.iload_n 3, 1) := by decide +kernel
theorem dX6_kitchen_95 : decode cX6_kitchen 95 = .ok (.aaload, 1) := by decide +kernel
theorem dX6_kitchen_96 : decode cX6_kitchen 96 = .ok (.iconst 0, 1) := by decide +kernel
theorem dX6_kitchen_97 : decode cX6_kitchen 97 = .ok (.putfield 95, 3) := by decide +kernel
theorem dX6_kitchen_100 : decode cX6_kitchen 100 = .ok (.iinc 3 1, 3) := by decide +kernel
theorem dX6_kitchen_103 : decode cX6_kitchen 103 = .ok (.goto (-18), 3) := by decide +kernel
theorem dX6_kitchen_106 : decode cX6_kitchen 106 = .ok (.aload_n 0, 1) := by decide +kernel
theorem dX6_kitchen_107 : decode cX6_kitchen 107 = .ok (.getfield 61, 3) := by decide +kernel
theorem dX6_kitchen_110 : decode cX6_kitchen 110 = .ok (.invokevirtual 99, 3) := by decide +kernel
theorem dX6_kitchen_113 : decode cX6_kitchen 113 = .ok (.aload_n 0, 1) := by decide +kernel
theorem dX6_kitchen_114 : decode cX6_kitchen 114 = .ok (.getfield 65, 3) := by decide +kernel
theorem dX6_kitchen_117 : decode cX6_kitchen 117 = .ok (.invokevirtual 99, 3) := by decide +kernel
theorem dX6_kitchen_120 : decode cX6_kitchen 120 = .ok (.aload_n 0, 1) := by decide +kernel
theorem dX6_kitchen_121 : decode cX6_kitchen 121 = .ok (.getfield 23, 3) := by decide +kernel
theorem dX6_kitchen_124 : decode cX6_kitchen 124 = .ok (.getfield 100, 3) := by decide +kernel
theorem dX6_kitchen_127 : decode cX6_kitchen 127 = .ok (.ireturn, 1) := by decide +kernel
theorem dX6_fault_0 : decode cX6_fault 0 = .ok (.aload_n 0, 1) := by decide +kernel
theorem dX6_fault_1 : decode cX6_fault 1 = .ok (.getfield 16, 3) := by decide +kernel
theorem dX6_fault_4 : decode cX6_fault 4 = .ok (.ireturn, 1) := by decide +kernel
theorem dX6_told_0 : decode cX6_told 0 = .ok (.iload_n 1, 1) := by decide +kernel
theorem dX6_told_1 : decode cX6_told 1 = .ok (.tableswitch 171 0 12 #[67, 75, 83, 91, 99, 107, 115, 123, 131, 139, 147, 155, 163], 67) := by decide +kernel
theorem dX6_told_68 : decode cX6_told 68 = .ok (.aload_n 0, 1) := by decide +kernel
theorem dX6_told_69 : decode cX6_told 69 = .ok (.getfield 23, 3) := by decide +kernel
theorem dX6_told_72 : decode cX6_told 72 = .ok (.getfield 103, 3) := by decide +kernel
theorem dX6_told_75 : decode cX6_told 75 = .ok (.ireturn, 1) := by decide +kernel
theorem dX6_told_76 : decode cX6_told 76 = .ok (.aload_n 0, 1) := by decide +kernel
theorem dX6_told_77 : decode cX6_told 77 = .ok (.getfield 23, 3) := by decide +kernel
theorem dX6_told_80 : decode cX6_told 80 = .ok (.getfield 106, 3) := by decide +kernel
theorem dX6_told_83 : decode cX6_told 83 = .ok (.ireturn, 1) := by decide +kernel
theorem dX6_told_84 : decode cX6_told 84 = .ok (.aload_n 0, 1) := by decide +kernel
theorem dX6_told_85 : decode cX6_told 85 = .ok (.getfield 23, 3) := by decide +kernel
theorem dX6_told_88 : decode cX6_told 88 = .ok (.getfield 109, 3) := by decide +kernel
theorem dX6_told_91 : decode cX6_told 91 = .ok (.ireturn, 1) := by decide +kernel
theorem dX6_told_92 : decode cX6_told 92 = .ok (.aload_n 0, 1) := by decide +kernel
theorem dX6_told_93 : decode cX6_told 93 = .ok (.getfield 23, 3) := by decide +kernel
theorem dX6_told_96 : decode cX6_told 96 = .ok (.getfield 100, 3) := by decide +kernel
theorem dX6_told_99 : decode cX6_told 99 = .ok (.ireturn, 1) := by decide +kernel
theorem dX6_told_100 : decode cX6_told 100 = .ok (.aload_n 0, 1) := by decide +kernel
theorem dX6_told_101 : decode cX6_told 101 = .ok (.getfield 23, 3) := by decide +kernel
theorem dX6_told_104 : decode cX6_told 104 = .ok (.getfield 112, 3) := by decide +kernel
theorem dX6_told_107 : decode cX6_told 107 = .ok (.ireturn, 1) := by decide +kernel
theorem dX6_told_108 : decode cX6_told 108 = .ok (.aload_n 0, 1) := by decide +kernel
theorem dX6_told_109 : decode cX6_told 109 = .ok (.getfield 10, 3) := by decide +kernel
theorem dX6_told_112 : decode cX6_told 112 = .ok (.getfield 74, 3) := by decide +kernel
theorem dX6_told_115 : decode cX6_told 115 = .ok (.ireturn, 1) := by decide +kernel
theorem dX6_told_116 : decode cX6_told 116 = .ok (.aload_n 0, 1) := by decide +kernel
theorem dX6_told_117 : decode cX6_told 117 = .ok (.getfield 33, 3) := by decide +kernel
theorem dX6_told_120 : decode cX6_told 120 = .ok (.getfield 115, 3) := by decide +kernel
theorem dX6_told_123 : decode cX6_told 123 = .ok (.ireturn, 1) := by decide +kernel
theorem dX6_told_124 : decode cX6_told 124 = .ok (.aload_n 0, 1) := by decide +kernel
theorem dX6_told_125 : decode cX6_told 125 = .ok (.getfield 33, 3) := by decide +kernel
theorem dX6_told_128 : decode cX6_told 128 = .ok (.getfield 118, 3) := by decide +kernel
theorem dX6_told_131 : decode cX6_told 131 = .ok (.ireturn, 1) := by decide +kernel
theorem dX6_told_132 : decode cX6_told 132 = .ok (.aload_n 0, 1) := by decide +kernel
theorem dX6_told_133 : decode cX6_told 133 = .ok (.getfield 33, 3) := by decide +kernel
theorem dX6_told_136 : decode cX6_told 136 = .ok (.getfield 121, 3) := by decide +kernel
theorem dX6_told_139 : decode cX6_told 139 = .ok (.ireturn, 1) := by decide +kernel
theorem dX6_told_140 : decode cX6_told 140 = .ok (.aload_n 0, 1) := by decide +kernel
theorem dX6_told_141 : decode cX6_told 141 = .ok (.getfield 33, 3) := by decide +kernel
theorem dX6_told_144 : decode cX6_told 144 = .ok (.invokevirtual 123, 3) := by decide +kernel
theorem dX6_told_147 : decode cX6_told 147 = .ok (.ireturn, 1) := by decide +kernel
theorem dX6_told_148 : decode cX6_told 148 = .ok (.aload_n 0, 1) := by decide +kernel
theorem dX6_told_149 : decode cX6_told 149 = .ok (.getfield 61, 3) := by decide +kernel
theorem dX6_told_152 : decode cX6_told 152 = .ok (.getfield 127, 3) := by decide +kernel
theorem dX6_told_155 : decode cX6_told 155 = .ok (.ireturn, 1) := by decide +kernel
theorem dX6_told_156 : decode cX6_told 156 = .ok (.aload_n 0, 1) := by decide +kernel
theorem dX6_told_157 : decode cX6_told 157 = .ok (.getfield 65, 3) := by decide +kernel
theorem dX6_told_160 : decode cX6_told 160 = .ok (.getfield 127, 3) := by decide +kernel
theorem dX6_told_163 : decode cX6_told 163 = .ok (.ireturn, 1) := by decide +kernel
theorem dX6_told_164 : decode cX6_told 164 = .ok (.aload_n 0, 1) := by decide +kernel
theorem dX6_told_165 : decode cX6_told 165 = .ok (.getfield 43, 3) := by decide +kernel
theorem dX6_told_168 : decode cX6_told 168 = .ok (.getfield 130, 3) := by decide +kernel
theorem dX6_told_171 : decode cX6_told 171 = .ok (.ireturn, 1) := by decide +kernel
theorem dX6_told_172 : decode cX6_told 172 = .ok (.ldc 69, 2) := by decide +kernel
theorem dX6_told_174 : decode cX6_told 174 = .ok (.ireturn, 1) := by decide +kernel
theorem dX6_word_0 : decode cX6_word 0 = .ok (.aload_n 0, 1) := by decide +kernel
theorem dX6_word_1 : decode cX6_word 1 = .ok (.iload_n 1, 1) := by decide +kernel
theorem dX6_word_2 : decode cX6_word 2 = .ok (.invokevirtual 131, 3) := by decide +kernel
theorem dX6_word_5 : decode cX6_word 5 = .ok (.ifCond .ne 6, 3) := by decide +kernel
theorem dX6_word_8 : decode cX6_word 8 = .ok (.ldc 134, 2) := by decide +kernel
theorem dX6_word_10 : decode cX6_word 10 = .ok (.ireturn, 1) := by decide +kernel
theorem dX6_word_11 : decode cX6_word 11 = .ok (.iload_n 2, 1) := by decide +kernel
theorem dX6_word_12 : decode cX6_word 12 = .ok (.tableswitch 72 0 3 #[32, 42, 52, 62], 32) := by decide +kernel
theorem dX6_word_44 : decode cX6_word 44 = .ok (.aload_n 0, 1) := by decide +kernel
theorem dX6_word_45 : decode cX6_word 45 = .ok (.getfield 33, 3) := by decide +kernel
theorem dX6_word_48 : decode cX6_word 48 = .ok (.getfield 135, 3) := by decide +kernel
theorem dX6_word_51 : decode cX6_word 51 = .ok (.iload_n 1, 1) := by decide +kernel
theorem dX6_word_52 : decode cX6_word 52 = .ok (.iaload, 1) := by decide +kernel
theorem dX6_word_53 : decode cX6_word 53 = .ok (.ireturn, 1) := by decide +kernel
theorem dX6_word_54 : decode cX6_word 54 = .ok (.aload_n 0, 1) := by decide +kernel
theorem dX6_word_55 : decode cX6_word 55 = .ok (.getfield 33, 3) := by decide +kernel
theorem dX6_word_58 : decode cX6_word 58 = .ok (.getfield 139, 3) := by decide +kernel
theorem dX6_word_61 : decode cX6_word 61 = .ok (.iload_n 1, 1) := by decide +kernel
theorem dX6_word_62 : decode cX6_word 62 = .ok (.iaload, 1) := by decide +kernel
theorem dX6_word_63 : decode cX6_word 63 = .ok (.ireturn, 1) := by decide +kernel
theorem dX6_word_64 : decode cX6_word 64 = .ok (.aload_n 0, 1) := by decide +kernel
theorem dX6_word_65 : decode cX6_word 65 = .ok (.getfield 23, 3) := by decide +kernel
theorem dX6_word_68 : decode cX6_word 68 = .ok (.getfield 142, 3) := by decide +kernel
theorem dX6_word_71 : decode cX6_word 71 = .ok (.iload_n 1, 1) := by decide +kernel
theorem dX6_word_72 : decode cX6_word 72 = .ok (.iaload, 1) := by decide +kernel
theorem dX6_word_73 : decode cX6_word 73 = .ok (.ireturn, 1) := by decide +kernel
theorem dX6_word_74 : decode cX6_word 74 = .ok (.aload_n 0, 1) := by decide +kernel
theorem dX6_word_75 : decode cX6_word 75 = .ok (.getfield 33, 3) := by decide +kernel
theorem dX6_word_78 : decode cX6_word 78 = .ok (.getfield 145, 3) := by decide +kernel
theorem dX6_word_81 : decode cX6_word 81 = .ok (.iload_n 1, 1) := by decide +kernel
theorem dX6_word_82 : decode cX6_word 82 = .ok (.iaload, 1) := by decide +kernel
theorem dX6_word_83 : decode cX6_word 83 = .ok (.ireturn, 1) := by decide +kernel
theorem dX6_word_84 : decode cX6_word 84 = .ok (.ldc 69, 2) := by decide +kernel
theorem dX6_word_86 : decode cX6_word 86 = .ok (.ireturn, 1) := by decide +kernel
theorem dX6_voice_0 : decode cX6_voice 0 = .ok (.aload_n 0, 1) := by decide +kernel
theorem dX6_voice_1 : decode cX6_voice 1 = .ok (.iload_n 1, 1) := by decide +kernel
theorem dX6_voice_2 : decode cX6_voice 2 = .ok (.invokevirtual 148, 3) := by decide +kernel
theorem dX6_voice_5 : decode cX6_voice 5 = .ok (.ifCond .eq 15, 3) := by decide +kernel
theorem dX6_voice_8 : decode cX6_voice 8 = .ok (.aload_n 0, 1) := by decide +kernel
theorem dX6_voice_9 : decode cX6_voice 9 = .ok (.getfield 23, 3) := by decide +kernel
theorem dX6_voice_12 : decode cX6_voice 12 = .ok (.getfield 151, 3) := by decide +kernel
theorem dX6_voice_15 : decode cX6_voice 15 = .ok (.iload_n 1, 1) := by decide +kernel
theorem dX6_voice_16 : decode cX6_voice 16 = .ok (.iaload, 1) := by decide +kernel
theorem dX6_voice_17 : decode cX6_voice 17 = .ok (.goto 5, 3) := by decide +kernel
theorem dX6_voice_20 : decode cX6_voice 20 = .ok (.ldc 134, 2) := by decide +kernel
theorem dX6_voice_22 : decode cX6_voice 22 = .ok (.ireturn, 1) := by decide +kernel
theorem dX6_hear_0 : decode cX6_hear 0 = .ok (.iload_n 1, 1) := by decide +kernel
theorem dX6_hear_1 : decode cX6_hear 1 = .ok (.invokestatic 154, 3) := by decide +kernel
theorem dX6_hear_4 : decode cX6_hear 4 = .ok (.ifCond .ne 6, 3) := by decide +kernel
theorem dX6_hear_7 : decode cX6_hear 7 = .ok (.ldc 69, 2) := by decide +kernel
theorem dX6_hear_9 : decode cX6_hear 9 = .ok (.ireturn, 1) := by decide +kernel
theorem dX6_hear_10 : decode cX6_hear 10 = .ok (.aload_n 0, 1) := by decide +kernel
theorem dX6_hear_11 : decode cX6_hear 11 = .ok (.getfield 23, 3) := by decide +kernel
theorem dX6_hear_14 : decode cX6_hear 14 = .ok (.getfield 100, 3) := by decide +kernel
theorem dX6_hear_17 : decode cX6_hear 17 = .ok (.ifCond .ne 6, 3) := by decide +kernel
theorem dX6_hear_20 : decode cX6_hear 20 = .ok (.ldc 157, 2) := by decide +kernel
theorem dX6_hear_22 : decode cX6_hear 22 = .ok (.ireturn, 1) := by decide +kernel
theorem dX6_hear_23 : decode cX6_hear 23 = .ok (.aload_n 0, 1) := by decide +kernel
theorem dX6_hear_24 : decode cX6_hear 24 = .ok (.getfield 33, 3) := by decide +kernel
theorem dX6_hear_27 : decode cX6_hear 27 = .ok (.getfield 115, 3) := by decide +kernel
theorem dX6_hear_30 : decode cX6_hear 30 = .ok (.sipush 9000, 3) := by decide +kernel
theorem dX6_hear_33 : decode cX6_hear 33 = .ok (.if_icmp .le 6, 3) := by decide +kernel
theorem dX6_hear_36 : decode cX6_hear 36 = .ok (.ldc 77, 2) := by decide +kernel
theorem dX6_hear_38 : decode cX6_hear 38 = .ok (.ireturn, 1) := by decide +kernel
theorem dX6_hear_39 : decode cX6_hear 39 = .ok (.aload_n 0, 1) := by decide +kernel
theorem dX6_hear_40 : decode cX6_hear 40 = .ok (.getfield 43, 3) := by decide +kernel
theorem dX6_hear_43 : decode cX6_hear 43 = .ok (.aload_n 0, 1) := by decide +kernel
theorem dX6_hear_44 : decode cX6_hear 44 = .ok (.getfield 33, 3) := by decide +kernel
theorem dX6_hear_47 : decode cX6_hear 47 = .ok (.invokevirtual 158, 3) := by decide +kernel
theorem dX6_hear_50 : decode cX6_hear 50 = .ok (.aload_n 0, 1) := by decide +kernel
theorem dX6_hear_51 : decode cX6_hear 51 = .ok (.iload_n 1, 1) := by decide +kernel
theorem dX6_hear_52 : decode cX6_hear 52 = .ok (.invokevirtual 162, 3) := by decide +kernel
theorem dX6_hear_55 : decode cX6_hear 55 = .ok (.ireturn, 1) := by decide +kernel
theorem dX6_takeBack_0 : decode cX6_takeBack 0 = .ok (.aload_n 0, 1) := by decide +kernel
theorem dX6_takeBack_1 : decode cX6_takeBack 1 = .ok (.iload_n 1, 1) := by decide +kernel
theorem dX6_takeBack_2 : decode cX6_takeBack 2 = .ok (.invokevirtual 131, 3) := by decide +kernel
theorem dX6_takeBack_5 : decode cX6_takeBack 5 = .ok (.ifCond .ne 6, 3) := by decide +kernel
theorem dX6_takeBack_8 : decode cX6_takeBack 8 = .ok (.ldc 134, 2) := by decide +kernel
theorem dX6_takeBack_10 : decode cX6_takeBack 10 = .ok (.ireturn, 1) := by decide +kernel
theorem dX6_takeBack_11 : decode cX6_takeBack 11 = .ok (.aload_n 0, 1) := by decide +kernel
theorem dX6_takeBack_12 : decode cX6_takeBack 12 = .ok (.getfield 33, 3) := by decide +kernel
theorem dX6_takeBack_15 : decode cX6_takeBack 15 = .ok (.getfield 121, 3) := by decide +kernel
theorem dX6_takeBack_18 : decode cX6_takeBack 18 = .ok (.iconst (-1), 1) := by decide +kernel
theorem dX6_takeBack_19 : decode cX6_takeBack 19 = .ok (.if_icmp .eq 14, 3) := by decide +kernel
theorem dX6_takeBack_22 : decode cX6_takeBack 22 = .ok (.aload_n 0, 1) := by decide +kernel
theorem dX6_takeBack_23 : decode cX6_takeBack 23 = .ok (.getfield 33, 3) := by decide +kernel
theorem dX6_takeBack_26 : decode cX6_takeBack 26 = .ok (.getfield 121, 3) := by decide +kernel
theorem dX6_takeBack_29 : decode cX6_takeBack 29 = .ok (.iload_n 1, 1) := by decide +kernel
theorem dX6_takeBack_30 : decode cX6_takeBack 30 = .ok (.if_icmp .ne 6, 3) := by decide +kernel
theorem dX6_takeBack_33 : decode cX6_takeBack 33 = .ok (.ldc 157, 2) := by decide +kernel
theorem dX6_takeBack_35 : decode cX6_takeBack 35 = .ok (.ireturn, 1) := by decide +kernel
theorem dX6_takeBack_36 : decode cX6_takeBack 36 = .ok (.aload_n 0, 1) := by decide +kernel
theorem dX6_takeBack_37 : decode cX6_takeBack 37 = .ok (.getfield 43, 3) := by decide +kernel
theorem dX6_takeBack_40 : decode cX6_takeBack 40 = .ok (.aload_n 0, 1) := by decide +kernel
theorem dX6_takeBack_41 : decode cX6_takeBack 41 = .ok (.getfield 33, 3) := by decide +kernel
theorem dX6_takeBack_44 : decode cX6_takeBack 44 = .ok (.invokevirtual 158, 3) := by decide +kernel
theorem dX6_takeBack_47 : decode cX6_takeBack 47 = .ok (.aload_n 0, 1) := by decide +kernel
theorem dX6_takeBack_48 : decode cX6_takeBack 48 = .ok (.getfield 33, 3) := by decide +kernel
theorem dX6_takeBack_51 : decode cX6_takeBack 51 = .ok (.iload_n 1, 1) := by decide +kernel
theorem dX6_takeBack_52 : decode cX6_takeBack 52 = .ok (.invokevirtual 166, 3) := by decide +kernel
theorem dX6_takeBack_55 : decode cX6_takeBack 55 = .ok (.aload_n 0, 1) := by decide +kernel
theorem dX6_takeBack_56 : decode cX6_takeBack 56 = .ok (.getfield 33, 3) := by decide +kernel
theorem dX6_takeBack_59 : decode cX6_takeBack 59 = .ok (.getfield 139, 3) := by decide +kernel
theorem dX6_takeBack_62 : decode cX6_takeBack 62 = .ok (.iload_n 1, 1) := by decide +kernel
theorem dX6_takeBack_63 : decode cX6_takeBack 63 = .ok (.iaload, 1) := by decide +kernel
theorem dX6_takeBack_64 : decode cX6_takeBack 64 = .ok (.ireturn, 1) := by decide +kernel
theorem dX6_letBe_0 : decode cX6_letBe 0 = .ok (.aload_n 0, 1) := by decide +kernel
theorem dX6_letBe_1 : decode cX6_letBe 1 = .ok (.getfield 33, 3) := by decide +kernel
theorem dX6_letBe_4 : decode cX6_letBe 4 = .ok (.getfield 121, 3) := by decide +kernel
theorem dX6_letBe_7 : decode cX6_letBe 7 = .ok (.istore_n 1, 1) := by decide +kernel
theorem dX6_letBe_8 : decode cX6_letBe 8 = .ok (.aload_n 0, 1) := by decide +kernel
theorem dX6_letBe_9 : decode cX6_letBe 9 = .ok (.iload_n 1, 1) := by decide +kernel
theorem dX6_letBe_10 : decode cX6_letBe 10 = .ok (.invokevirtual 131, 3) := by decide +kernel
theorem dX6_letBe_13 : decode cX6_letBe 13 = .ok (.ifCond .ne 6, 3) := by decide +kernel
theorem dX6_letBe_16 : decode cX6_letBe 16 = .ok (.ldc 157, 2) := by decide +kernel
theorem dX6_letBe_18 : decode cX6_letBe 18 = .ok (.ireturn, 1) := by decide +kernel
theorem dX6_letBe_19 : decode cX6_letBe 19 = .ok (.aload_n 0, 1) := by decide +kernel
theorem dX6_letBe_20 : decode cX6_letBe 20 = .ok (.getfield 43, 3) := by decide +kernel
theorem dX6_letBe_23 : decode cX6_letBe 23 = .ok (.aload_n 0, 1) := by decide +kernel
theorem dX6_letBe_24 : decode cX6_letBe 24 = .ok (.getfield 33, 3) := by decide +kernel
theorem dX6_letBe_27 : decode cX6_letBe 27 = .ok (.invokevirtual 158, 3) := by decide +kernel
theorem dX6_letBe_30 : decode cX6_letBe 30 = .ok (.aload_n 0, 1) := by decide +kernel
theorem dX6_letBe_31 : decode cX6_letBe 31 = .ok (.getfield 33, 3) := by decide +kernel
theorem dX6_letBe_34 : decode cX6_letBe 34 = .ok (.invokevirtual 169, 3) := by decide +kernel
theorem dX6_letBe_37 : decode cX6_letBe 37 = .ok (.aload_n 0, 1) := by decide +kernel
theorem dX6_letBe_38 : decode cX6_letBe 38 = .ok (.getfield 33, 3) := by decide +kernel
theorem dX6_letBe_41 : decode cX6_letBe 41 = .ok (.getfield 139, 3) := by decide +kernel
theorem dX6_letBe_44 : decode cX6_letBe 44 = .ok (.iload_n 1, 1) := by decide +kernel
theorem dX6_letBe_45 : decode cX6_letBe 45 = .ok (.iaload, 1) := by decide +kernel
theorem dX6_letBe_46 : decode cX6_letBe 46 = .ok (.ireturn, 1) := by decide +kernel
theorem dX6_call_0 : decode cX6_call 0 = .ok (.aload_n 0, 1) := by decide +kernel
theorem dX6_call_1 : decode cX6_call 1 = .ok (.iload_n 1, 1) := by decide +kernel
theorem dX6_call_2 : decode cX6_call 2 = .ok (.invokevirtual 131, 3) := by decide +kernel
theorem dX6_call_5 : decode cX6_call 5 = .ok (.ifCond .ne 6, 3) := by decide +kernel
theorem dX6_call_8 : decode cX6_call 8 = .ok (.ldc 134, 2) := by decide +kernel
theorem dX6_call_10 : decode cX6_call 10 = .ok (.ireturn, 1) := by decide +kernel
theorem dX6_call_11 : decode cX6_call 11 = .ok (.iload_n 2, 1) := by decide +kernel
theorem dX6_call_12 : decode cX6_call 12 = .ok (.invokestatic 154, 3) := by decide +kernel
theorem dX6_call_15 : decode cX6_call 15 = .ok (.ifCond .ne 6, 3) := by decide +kernel
theorem dX6_call_18 : decode cX6_call 18 = .ok (.ldc 69, 2) := by decide +kernel
theorem dX6_call_20 : decode cX6_call 20 = .ok (.ireturn, 1) := by decide +kernel
theorem dX6_call_21 : decode cX6_call 21 = .ok (.aload_n 0, 1) := by decide +kernel
theorem dX6_call_22 : decode cX6_call 22 = .ok (.getfield 43, 3) := by decide +kernel
theorem dX6_call_25 : decode cX6_call 25 = .ok (.aload_n 0, 1) := by decide +kernel
theorem dX6_call_26 : decode cX6_call 26 = .ok (.getfield 33, 3) := by decide +kernel
theorem dX6_call_29 : decode cX6_call 29 = .ok (.invokevirtual 158, 3) := by decide +kernel
theorem dX6_call_32 : decode cX6_call 32 = .ok (.aload_n 0, 1) := by decide +kernel
theorem dX6_call_33 : decode cX6_call 33 = .ok (.getfield 33, 3) := by decide +kernel
theorem dX6_call_36 : decode cX6_call 36 = .ok (.getfield 135, 3) := by decide +kernel
theorem dX6_call_39 : decode cX6_call 39 = .ok (.iload_n 1, 1) := by decide +kernel
theorem dX6_call_40 : decode cX6_call 40 = .ok (.iaload, 1) := by decide +kernel
theorem dX6_call_41 : decode cX6_call 41 = .ok (.iload_n 2, 1) := by decide +kernel
theorem dX6_call_42 : decode cX6_call 42 = .ok (.invokestatic 172, 3) := by decide +kernel
theorem dX6_call_45 : decode cX6_call 45 = .ok (.istore_n 3, 1) := by decide +kernel
theorem dX6_call_46 : decode cX6_call 46 = .ok (.aload_n 0, 1) := by decide +kernel
theorem dX6_call_47 : decode cX6_call 47 = .ok (.getfield 33, 3) := by decide +kernel
theorem dX6_call_50 : decode cX6_call 50 = .ok (.getfield 135, 3) := by decide +kernel
theorem dX6_call_53 : decode cX6_call 53 = .ok (.iload_n 1, 1) := by decide +kernel
theorem dX6_call_54 : decode cX6_call 54 = .ok (.iload_n 2, 1) := by decide +kernel
theorem dX6_call_55 : decode cX6_call 55 = .ok (.iastore, 1) := by decide +kernel
theorem dX6_call_56 : decode cX6_call 56 = .ok (.iload_n 3, 1) := by decide +kernel
theorem dX6_call_57 : decode cX6_call 57 = .ok (.ireturn, 1) := by decide +kernel
theorem dX6_drift_0 : decode cX6_drift 0 = .ok (.iload_n 1, 1) := by decide +kernel
theorem dX6_drift_1 : decode cX6_drift 1 = .ok (.iconst 1, 1) := by decide +kernel
theorem dX6_drift_2 : decode cX6_drift 2 = .ok (.if_icmp .lt 9, 3) := by decide +kernel
theorem dX6_drift_5 : decode cX6_drift 5 = .ok (.iload_n 1, 1) := by decide +kernel
theorem dX6_drift_6 : decode cX6_drift 6 = .ok (.bipush 60, 2) := by decide +kernel
theorem dX6_drift_8 : decode cX6_drift 8 = .ok (.if_icmp .le 6, 3) := by decide +kernel
theorem dX6_drift_11 : decode cX6_drift 11 = .ok (.ldc 69, 2) := by decide +kernel
theorem dX6_drift_13 : decode cX6_drift 13 = .ok (.ireturn, 1) := by decide +kernel
theorem dX6_drift_14 : decode cX6_drift 14 = .ok (.aload_n 0, 1) := by decide +kernel
theorem dX6_drift_15 : decode cX6_drift 15 = .ok (.getfield 23, 3) := by decide +kernel
theorem dX6_drift_18 : decode cX6_drift 18 = .ok (.getfield 176, 3) := by decide +kernel
theorem dX6_drift_21 : decode cX6_drift 21 = .ok (.ifCond .ne 6, 3) := by decide +kernel
theorem dX6_drift_24 : decode cX6_drift 24 = .ok (.ldc 157, 2) := by decide +kernel
theorem dX6_drift_26 : decode cX6_drift 26 = .ok (.ireturn, 1) := by decide +kernel
theorem dX6_drift_27 : decode cX6_drift 27 = .ok (.aload_n 0, 1) := by decide +kernel
theorem dX6_drift_28 : decode cX6_drift 28 = .ok (.getfield 33, 3) := by decide +kernel
theorem dX6_drift_31 : decode cX6_drift 31 = .ok (.getfield 115, 3) := by decide +kernel
theorem dX6_drift_34 : decode cX6_drift 34 = .ok (.sipush 9000, 3) := by decide +kernel
theorem dX6_drift_37 : decode cX6_drift 37 = .ok (.if_icmp .le 6, 3) := by decide +kernel
theorem dX6_drift_40 : decode cX6_drift 40 = .ok (.ldc 77, 2) := by decide +kernel
theorem dX6_drift_42 : decode cX6_drift 42 = .ok (.ireturn, 1) := by decide +kernel
theorem dX6_drift_43 : decode cX6_drift 43 = .ok (.aload_n 0, 1) := by decide +kernel
theorem dX6_drift_44 : decode cX6_drift 44 = .ok (.getfield 43, 3) := by decide +kernel
theorem dX6_drift_47 : decode cX6_drift 47 = .ok (.aload_n 0, 1) := by decide +kernel
theorem dX6_drift_48 : decode cX6_drift 48 = .ok (.getfield 33, 3) := by decide +kernel
theorem dX6_drift_51 : decode cX6_drift 51 = .ok (.invokevirtual 158, 3) := by decide +kernel
theorem dX6_drift_54 : decode cX6_drift 54 = .ok (.aload_n 0, 1) := by decide +kernel
theorem dX6_drift_55 : decode cX6_drift 55 = .ok (.getfield 23, 3) := by decide +kernel
theorem dX6_drift_58 : decode cX6_drift 58 = .ok (.getfield 100, 3) := by decide +kernel
theorem dX6_drift_61 : decode cX6_drift 61 = .ok (.ifCond .le 85, 3) := by decide +kernel
theorem dX6_drift_64 : decode cX6_drift 64 = .ok (.aload_n 0, 1) := by decide +kernel
theorem dX6_drift_65 : decode cX6_drift 65 = .ok (.getfield 23, 3) := by decide +kernel
theorem dX6_drift_68 : decode cX6_drift 68 = .ok (.getfield 112, 3) := by decide +kernel
theorem dX6_drift_71 : decode cX6_drift 71 = .ok (.ifCond .le 75, 3) := by decide +kernel
theorem dX6_drift_74 : decode cX6_drift 74 = .ok (.iconst 0, 1) := by decide +kernel
theorem dX6_drift_75 : decode cX6_drift 75 = .ok (.istore_n 2, 1) := by decide +kernel
theorem dX6_drift_76 : decode cX6_drift 76 = .ok (.iload_n 2, 1) := by decide +kernel
theorem dX6_drift_77 : decode cX6_drift 77 = .ok (.iload_n 1, 1) := by decide +kernel
theorem dX6_drift_78 : decode cX6_drift 78 = .ok (.if_icmp .ge 68, 3) := by decide +kernel
theorem dX6_drift_81 : decode cX6_drift 81 = .ok (.aload_n 0, 1) := by decide +kernel
theorem dX6_drift_82 : decode cX6_drift 82 = .ok (.aload_n 0, 1) := by decide +kernel
theorem dX6_drift_83 : decode cX6_drift 83 = .ok (.getfield 23, 3) := by decide +kernel
theorem dX6_drift_86 : decode cX6_drift 86 = .ok (.getfield 112, 3) := by decide +kernel
theorem dX6_drift_89 : decode cX6_drift 89 = .ok (.invokevirtual 179, 3) := by decide +kernel
theorem dX6_drift_92 : decode cX6_drift 92 = .ok (.istore_n 3, 1) := by decide +kernel
theorem dX6_drift_93 : decode cX6_drift 93 = .ok (.aload_n 0, 1) := by decide +kernel
theorem dX6_drift_94 : decode cX6_drift 94 = .ok (.aload_n 0, 1) := by decide +kernel
theorem dX6_drift_95 : decode cX6_drift 95 = .ok (.getfield 23, 3) := by decide +kernel
theorem dX6_drift_98 : decode cX6_drift 98 = .ok (.getfield 100, 3) := by decide +kernel
theorem dX6_drift_101 : decode cX6_drift 101 = .ok (.invokevirtual 179, 3) := by decide +kernel
theorem dX6_drift_104 : decode cX6_drift 104 = .ok (.istore 4, 2) := by decide +kernel
theorem dX6_drift_106 : decode cX6_drift 106 = .ok (.aload_n 0, 1) := by decide +kernel
theorem dX6_drift_107 : decode cX6_drift 107 = .ok (.aload_n 0, 1) := by decide +kernel
theorem dX6_drift_108 : decode cX6_drift 108 = .ok (.iload 4, 2) := by decide +kernel
theorem dX6_drift_110 : decode cX6_drift 110 = .ok (.iload_n 3, 1) := by decide +kernel
theorem dX6_drift_111 : decode cX6_drift 111 = .ok (.invokevirtual 182, 3) := by decide +kernel
theorem dX6_drift_114 : decode cX6_drift 114 = .ok (.invokevirtual 162, 3) := by decide +kernel
theorem dX6_drift_117 : decode cX6_drift 117 = .ok (.pop, 1) := by decide +kernel
theorem dX6_drift_118 : decode cX6_drift 118 = .ok (.aload_n 0, 1) := by decide +kernel
theorem dX6_drift_119 : decode cX6_drift 119 = .ok (.getfield 33, 3) := by decide +kernel
theorem dX6_drift_122 : decode cX6_drift 122 = .ok (.iload 4, 2) := by decide +kernel
theorem dX6_drift_124 : decode cX6_drift 124 = .ok (.aload_n 0, 1) := by decide +kernel
theorem dX6_drift_125 : decode cX6_drift 125 = .ok (.iconst 3, 1) := by decide +kernel
theorem dX6_drift_126 : decode cX6_drift 126 = .ok (.invokevirtual 179, 3) := by decide +kernel
theorem dX6_drift_129 : decode cX6_drift 129 = .ok (.ifCond .ne 7, 3) := by decide +kernel
theorem dX6_drift_132 : decode cX6_drift 132 = .ok (.iconst 1, 1) := by decide +kernel
theorem dX6_drift_133 : decode cX6_drift 133 = .ok (.goto 4, 3) := by decide +kernel
theorem dX6_drift_136 : decode cX6_drift 136 = .ok (.iconst 0, 1) := by decide +kernel
theorem dX6_drift_137 : decode cX6_drift 137 = .ok (.invokevirtual 185, 3) := by decide +kernel
theorem dX6_drift_140 : decode cX6_drift 140 = .ok (.iinc 2 1, 3) := by decide +kernel
theorem dX6_drift_143 : decode cX6_drift 143 = .ok (.goto (-67), 3) := by decide +kernel
theorem dX6_drift_146 : decode cX6_drift 146 = .ok (.aload_n 0, 1) := by decide +kernel
theorem dX6_drift_147 : decode cX6_drift 147 = .ok (.getfield 33, 3) := by decide +kernel
theorem dX6_drift_150 : decode cX6_drift 150 = .ok (.getfield 118, 3) := by decide +kernel
theorem dX6_drift_153 : decode cX6_drift 153 = .ok (.ireturn, 1) := by decide +kernel
theorem dX6_undo_0 : decode cX6_undo 0 = .ok (.aload_n 0, 1) := by decide +kernel
theorem dX6_undo_1 : decode cX6_undo 1 = .ok (.getfield 43, 3) := by decide +kernel
theorem dX6_undo_4 : decode cX6_undo 4 = .ok (.aload_n 0, 1) := by decide +kernel
theorem dX6_undo_5 : decode cX6_undo 5 = .ok (.getfield 33, 3) := by decide +kernel
theorem dX6_undo_8 : decode cX6_undo 8 = .ok (.invokevirtual 189, 3) := by decide +kernel
theorem dX6_undo_11 : decode cX6_undo 11 = .ok (.ifCond .eq 13, 3) := by decide +kernel
theorem dX6_undo_14 : decode cX6_undo 14 = .ok (.aload_n 0, 1) := by decide +kernel
theorem dX6_undo_15 : decode cX6_undo 15 = .ok (.getfield 43, 3) := by decide +kernel
theorem dX6_undo_18 : decode cX6_undo 18 = .ok (.getfield 130, 3) := by decide +kernel
theorem dX6_undo_21 : decode cX6_undo 21 = .ok (.goto 5, 3) := by decide +kernel
theorem dX6_undo_24 : decode cX6_undo 24 = .ok (.ldc 157, 2) := by decide +kernel
theorem dX6_undo_26 : decode cX6_undo 26 = .ok (.ireturn, 1) := by decide +kernel
theorem dX6_guess_0 : decode cX6_guess 0 = .ok (.iload_n 1, 1) := by decide +kernel
theorem dX6_guess_1 : decode cX6_guess 1 = .ok (.invokestatic 154, 3) := by decide +kernel
theorem dX6_guess_4 : decode cX6_guess 4 = .ok (.ifCond .eq 14, 3) := by decide +kernel
theorem dX6_guess_7 : decode cX6_guess 7 = .ok (.aload_n 0, 1) := by decide +kernel
theorem dX6_guess_8 : decode cX6_guess 8 = .ok (.getfield 33, 3) := by decide +kernel
theorem dX6_guess_11 : decode cX6_guess 11 = .ok (.iload_n 1, 1) := by decide +kernel
theorem dX6_guess_12 : decode cX6_guess 12 = .ok (.invokevirtual 193, 3) := by decide +kernel
theorem dX6_guess_15 : decode cX6_guess 15 = .ok (.goto 5, 3) := by decide +kernel
theorem dX6_guess_18 : decode cX6_guess 18 = .ok (.ldc 69, 2) := by decide +kernel
theorem dX6_guess_20 : decode cX6_guess 20 = .ok (.ireturn, 1) := by decide +kernel
theorem dX6_sure_0 : decode cX6_sure 0 = .ok (.aload_n 0, 1) := by decide +kernel
theorem dX6_sure_1 : decode cX6_sure 1 = .ok (.iload_n 1, 1) := by decide +kernel
theorem dX6_sure_2 : decode cX6_sure 2 = .ok (.invokevirtual 131, 3) := by decide +kernel
theorem dX6_sure_5 : decode cX6_sure 5 = .ok (.ifCond .ne 6, 3) := by decide +kernel
theorem dX6_sure_8 : decode cX6_sure 8 = .ok (.ldc 134, 2) := by decide +kernel
theorem dX6_sure_10 : decode cX6_sure 10 = .ok (.ireturn, 1) := by decide +kernel
theorem dX6_sure_11 : decode cX6_sure 11 = .ok (.iload_n 2, 1) := by decide +kernel
theorem dX6_sure_12 : decode cX6_sure 12 = .ok (.invokestatic 154, 3) := by decide +kernel
theorem dX6_sure_15 : decode cX6_sure 15 = .ok (.ifCond .eq 15, 3) := by decide +kernel
theorem dX6_sure_18 : decode cX6_sure 18 = .ok (.aload_n 0, 1) := by decide +kernel
theorem dX6_sure_19 : decode cX6_sure 19 = .ok (.getfield 33, 3) := by decide +kernel
theorem dX6_sure_22 : decode cX6_sure 22 = .ok (.iload_n 1, 1) := by decide +kernel
theorem dX6_sure_23 : decode cX6_sure 23 = .ok (.iload_n 2, 1) := by decide +kernel
theorem dX6_sure_24 : decode cX6_sure 24 = .ok (.invokevirtual 196, 3) := by decide +kernel
theorem dX6_sure_27 : decode cX6_sure 27 = .ok (.goto 5, 3) := by decide +kernel
theorem dX6_sure_30 : decode cX6_sure 30 = .ok (.ldc 69, 2) := by decide +kernel
theorem dX6_sure_32 : decode cX6_sure 32 = .ok (.ireturn, 1) := by decide +kernel
theorem dX6_rule_0 : decode cX6_rule 0 = .ok (.iload_n 1, 1) := by decide +kernel
theorem dX6_rule_1 : decode cX6_rule 1 = .ok (.invokestatic 154, 3) := by decide +kernel
theorem dX6_rule_4 : decode cX6_rule 4 = .ok (.ifCond .ne 6, 3) := by decide +kernel
theorem dX6_rule_7 : decode cX6_rule 7 = .ok (.ldc 69, 2) := by decide +kernel
theorem dX6_rule_9 : decode cX6_rule 9 = .ok (.ireturn, 1) := by decide +kernel
theorem dX6_rule_10 : decode cX6_rule 10 = .ok (.aload_n 0, 1) := by decide +kernel
theorem dX6_rule_11 : decode cX6_rule 11 = .ok (.getfield 23, 3) := by decide +kernel
theorem dX6_rule_14 : decode cX6_rule 14 = .ok (.getfield 100, 3) := by decide +kernel
theorem dX6_rule_17 : decode cX6_rule 17 = .ok (.ifCond .ne 8, 3) := by decide +kernel
theorem dX6_rule_20 : decode cX6_rule 20 = .ok (.ldc 157, 2) := by decide +kernel
theorem dX6_rule_22 : decode cX6_rule 22 = .ok (.goto 12, 3) := by decide +kernel
theorem dX6_rule_25 : decode cX6_rule 25 = .ok (.aload_n 0, 1) := by decide +kernel
theorem dX6_rule_26 : decode cX6_rule 26 = .ok (.aload_n 0, 1) := by decide +kernel
theorem dX6_rule_27 : decode cX6_rule 27 = .ok (.getfield 33, 3) := by decide +kernel
theorem dX6_rule_30 : decode cX6_rule 30 = .ok (.iload_n 1, 1) := by decide +kernel
theorem dX6_rule_31 : decode cX6_rule 31 = .ok (.invokevirtual 199, 3) := by decide +kernel
theorem dX6_rule_34 : decode cX6_rule 34 = .ok (.ireturn, 1) := by decide +kernel
theorem dX6_worth_0 : decode cX6_worth 0 = .ok (.iload_n 1, 1) := by decide +kernel
theorem dX6_worth_1 : decode cX6_worth 1 = .ok (.invokestatic 154, 3) := by decide +kernel
theorem dX6_worth_4 : decode cX6_worth 4 = .ok (.ifCond .eq 12, 3) := by decide +kernel
theorem dX6_worth_7 : decode cX6_worth 7 = .ok (.iload_n 2, 1) := by decide +kernel
theorem dX6_worth_8 : decode cX6_worth 8 = .ok (.ifCond .lt 8, 3) := by decide +kernel
theorem dX6_worth_11 : decode cX6_worth 11 = .ok (.iload_n 2, 1) := by decide +kernel
theorem dX6_worth_12 : decode cX6_worth 12 = .ok (.iconst 2, 1) := by decide +kernel
theorem dX6_worth_13 : decode cX6_worth 13 = .ok (.if_icmp .le 6, 3) := by decide +kernel
theorem dX6_worth_16 : decode cX6_worth 16 = .ok (.ldc 69, 2) := by decide +kernel
theorem dX6_worth_18 : decode cX6_worth 18 = .ok (.ireturn, 1) := by decide +kernel
theorem dX6_worth_19 : decode cX6_worth 19 = .ok (.aload_n 0, 1) := by decide +kernel
theorem dX6_worth_20 : decode cX6_worth 20 = .ok (.getfield 23, 3) := by decide +kernel
theorem dX6_worth_23 : decode cX6_worth 23 = .ok (.getfield 100, 3) := by decide +kernel
theorem dX6_worth_26 : decode cX6_worth 26 = .ok (.ifCond .ne 8, 3) := by decide +kernel
theorem dX6_worth_29 : decode cX6_worth 29 = .ok (.ldc 157, 2) := by decide +kernel
theorem dX6_worth_31 : decode cX6_worth 31 = .ok (.goto 13, 3) := by decide +kernel
theorem dX6_worth_34 : decode cX6_worth 34 = .ok (.aload_n 0, 1) := by decide +kernel
theorem dX6_worth_35 : decode cX6_worth 35 = .ok (.aload_n 0, 1) := by decide +kernel
theorem dX6_worth_36 : decode cX6_worth 36 = .ok (.getfield 33, 3) := by decide +kernel
theorem dX6_worth_39 : decode cX6_worth 39 = .ok (.iload_n 1, 1) := by decide +kernel
theorem dX6_worth_40 : decode cX6_worth 40 = .ok (.iload_n 2, 1) := by decide +kernel
theorem dX6_worth_41 : decode cX6_worth 41 = .ok (.invokevirtual 203, 3) := by decide +kernel
theorem dX6_worth_44 : decode cX6_worth 44 = .ok (.ireturn, 1) := by decide +kernel
theorem dX6_said_0 : decode cX6_said 0 = .ok (.aload_n 0, 1) := by decide +kernel
theorem dX6_said_1 : decode cX6_said 1 = .ok (.iload_n 1, 1) := by decide +kernel
theorem dX6_said_2 : decode cX6_said 2 = .ok (.invokevirtual 131, 3) := by decide +kernel
theorem dX6_said_5 : decode cX6_said 5 = .ok (.ifCond .eq 20, 3) := by decide +kernel
theorem dX6_said_8 : decode cX6_said 8 = .ok (.aload_n 0, 1) := by decide +kernel
theorem dX6_said_9 : decode cX6_said 9 = .ok (.iload_n 2, 1) := by decide +kernel
theorem dX6_said_10 : decode cX6_said 10 = .ok (.invokevirtual 148, 3) := by decide +kernel
theorem dX6_said_13 : decode cX6_said 13 = .ok (.ifCond .eq 12, 3) := by decide +kernel
theorem dX6_said_16 : decode cX6_said 16 = .ok (.aload_n 0, 1) := by decide +kernel
theorem dX6_said_17 : decode cX6_said 17 = .ok (.iload_n 1, 1) := by decide +kernel
theorem dX6_said_18 : decode cX6_said 18 = .ok (.iload_n 2, 1) := by decide +kernel
theorem dX6_said_19 : decode cX6_said 19 = .ok (.invokevirtual 182, 3) := by decide +kernel
theorem dX6_said_22 : decode cX6_said 22 = .ok (.goto 5, 3) := by decide +kernel
theorem dX6_said_25 : decode cX6_said 25 = .ok (.ldc 134, 2) := by decide +kernel
theorem dX6_said_27 : decode cX6_said 27 = .ok (.ireturn, 1) := by decide +kernel
theorem dX6_misheard_0 : decode cX6_misheard 0 = .ok (.iconst 0, 1) := by decide +kernel
theorem dX6_misheard_1 : decode cX6_misheard 1 = .ok (.istore_n 2, 1) := by decide +kernel
theorem dX6_misheard_2 : decode cX6_misheard 2 = .ok (.iconst 0, 1) := by decide +kernel
theorem dX6_misheard_3 : decode cX6_misheard 3 = .ok (.istore_n 3, 1) := by decide +kernel
theorem dX6_misheard_4 : decode cX6_misheard 4 = .ok (.iload_n 3, 1) := by decide +kernel
theorem dX6_misheard_5 : decode cX6_misheard 5 = .ok (.aload_n 0, 1) := by decide +kernel
theorem dX6_misheard_6 : decode cX6_misheard 6 = .ok (.getfield 23, 3) := by decide +kernel
theorem dX6_misheard_9 : decode cX6_misheard 9 = .ok (.getfield 112, 3) := by decide +kernel
theorem dX6_misheard_12 : decode cX6_misheard 12 = .ok (.if_icmp .ge 58, 3) := by decide +kernel
theorem dX6_misheard_15 : decode cX6_misheard 15 = .ok (.iconst 0, 1) := by decide +kernel
theorem dX6_misheard_16 : decode cX6_misheard 16 = .ok (.istore 4, 2) := by decide +kernel
theorem dX6_misheard_18 : decode cX6_misheard 18 = .ok (.iload 4, 2) := by decide +kernel
theorem dX6_misheard_20 : decode cX6_misheard 20 = .ok (.aload_n 0, 1) := by decide +kernel
theorem dX6_misheard_21 : decode cX6_misheard 21 = .ok (.getfield 23, 3) := by decide +kernel
theorem dX6_misheard_24 : decode cX6_misheard 24 = .ok (.getfield 100, 3) := by decide +kernel
theorem dX6_misheard_27 : decode cX6_misheard 27 = .ok (.if_icmp .ge 37, 3) := by decide +kernel
theorem dX6_misheard_30 : decode cX6_misheard 30 = .ok (.aload_n 0, 1) := by decide +kernel
theorem dX6_misheard_31 : decode cX6_misheard 31 = .ok (.iload 4, 2) := by decide +kernel
theorem dX6_misheard_33 : decode cX6_misheard 33 = .ok (.iload_n 3, 1) := by decide +kernel
theorem dX6_misheard_34 : decode cX6_misheard 34 = .ok (.invokevirtual 207, 3) := by decide +kernel
theorem dX6_misheard_37 : decode cX6_misheard 37 = .ok (.iload 4, 2) := by decide +kernel
theorem dX6_misheard_39 : decode cX6_misheard 39 = .ok (.if_icmp .eq 19, 3) := by decide +kernel
theorem dX6_misheard_42 : decode cX6_misheard 42 = .ok (.iload_n 2, 1) := by decide +kernel
theorem dX6_misheard_43 : decode cX6_misheard 43 = .ok (.iload_n 1, 1) := by decide +kernel
theorem dX6_misheard_44 : decode cX6_misheard 44 = .ok (.if_icmp .ne 11, 3) := by decide +kernel
theorem dX6_misheard_47 : decode cX6_misheard 47 = .ok (.bipush 10, 2) := by decide +kernel
theorem dX6_misheard_49 : decode cX6_misheard 49 = .ok (.iload_n 3, 1) := by decide +kernel
theorem dX6_misheard_50 : decode cX6_misheard 50 = .ok (.imul, 1) := by decide +kernel
theorem dX6_misheard_51 : decode cX6_misheard 51 = .ok (.iload 4, 2) := by decide +kernel
theorem dX6_misheard_53 : decode cX6_misheard 53 = .ok (.iadd, 1) := by decide +kernel
theorem dX6_misheard_54 : decode cX6_misheard 54 = .ok (.ireturn, 1) := by decide +kernel
theorem dX6_misheard_55 : decode cX6_misheard 55 = .ok (.iinc 2 1, 3) := by decide +kernel
theorem dX6_misheard_58 : decode cX6_misheard 58 = .ok (.iinc 4 1, 3) := by decide +kernel
theorem dX6_misheard_61 : decode cX6_misheard 61 = .ok (.goto (-43), 3) := by decide +kernel
theorem dX6_misheard_64 : decode cX6_misheard 64 = .ok (.iinc 3 1, 3) := by decide +kernel
theorem dX6_misheard_67 : decode cX6_misheard 67 = .ok (.goto (-63), 3) := by decide +kernel
theorem dX6_misheard_70 : decode cX6_misheard 70 = .ok (.iload_n 1, 1) := by decide +kernel
theorem dX6_misheard_71 : decode cX6_misheard 71 = .ok (.iconst (-1), 1) := by decide +kernel
theorem dX6_misheard_72 : decode cX6_misheard 72 = .ok (.if_icmp .ne 7, 3) := by decide +kernel
theorem dX6_misheard_75 : decode cX6_misheard 75 = .ok (.iload_n 2, 1) := by decide +kernel
theorem dX6_misheard_76 : decode cX6_misheard 76 = .ok (.goto 4, 3) := by decide +kernel
theorem dX6_misheard_79 : decode cX6_misheard 79 = .ok (.iconst (-1), 1) := by decide +kernel
theorem dX6_misheard_80 : decode cX6_misheard 80 = .ok (.ireturn, 1) := by decide +kernel
theorem dX6_who_0 : decode cX6_who 0 = .ok (.iload_n 1, 1) := by decide +kernel
theorem dX6_who_1 : decode cX6_who 1 = .ok (.invokestatic 154, 3) := by decide +kernel
theorem dX6_who_4 : decode cX6_who 4 = .ok (.ifCond .ne 6, 3) := by decide +kernel
theorem dX6_who_7 : decode cX6_who 7 = .ok (.ldc 69, 2) := by decide +kernel
theorem dX6_who_9 : decode cX6_who 9 = .ok (.ireturn, 1) := by decide +kernel
theorem dX6_who_10 : decode cX6_who 10 = .ok (.iconst 0, 1) := by decide +kernel
theorem dX6_who_11 : decode cX6_who 11 = .ok (.istore_n 2, 1) := by decide +kernel
theorem dX6_who_12 : decode cX6_who 12 = .ok (.iconst 0, 1) := by decide +kernel
theorem dX6_who_13 : decode cX6_who 13 = .ok (.istore_n 3, 1) := by decide +kernel
theorem dX6_who_14 : decode cX6_who 14 = .ok (.iload_n 3, 1) := by decide +kernel
theorem dX6_who_15 : decode cX6_who 15 = .ok (.aload_n 0, 1) := by decide +kernel
theorem dX6_who_16 : decode cX6_who 16 = .ok (.getfield 23, 3) := by decide +kernel
theorem dX6_who_19 : decode cX6_who 19 = .ok (.getfield 112, 3) := by decide +kernel
theorem dX6_who_22 : decode cX6_who 22 = .ok (.if_icmp .ge 24, 3) := by decide +kernel
theorem dX6_who_25 : decode cX6_who 25 = .ok (.aload_n 0, 1) := by decide +kernel
theorem dX6_who_26 : decode cX6_who 26 = .ok (.iload_n 3, 1) := by decide +kernel
theorem dX6_who_27 : decode cX6_who 27 = .ok (.iload_n 1, 1) := by decide +kernel
theorem dX6_who_28 : decode cX6_who 28 = .ok (.invokevirtual 210, 3) := by decide +kernel
theorem dX6_who_31 : decode cX6_who 31 = .ok (.ifCond .eq 9, 3) := by decide +kernel
theorem dX6_who_34 : decode cX6_who 34 = .ok (.iload_n 2, 1) := by decide +kernel
theorem dX6_who_35 : decode cX6_who 35 = .ok (.iconst 1, 1) := by decide +kernel
theorem dX6_who_36 : decode cX6_who 36 = .ok (.iload_n 3, 1) := by decide +kernel
theorem dX6_who_37 : decode cX6_who 37 = .ok (.ishl, 1) := by decide +kernel
theorem dX6_who_38 : decode cX6_who 38 = .ok (.ior, 1) := by decide +kernel
theorem dX6_who_39 : decode cX6_who 39 = .ok (.istore_n 2, 1) := by decide +kernel
theorem dX6_who_40 : decode cX6_who 40 = .ok (.iinc 3 1, 3) := by decide +kernel
theorem dX6_who_43 : decode cX6_who 43 = .ok (.goto (-29), 3) := by decide +kernel
theorem dX6_who_46 : decode cX6_who 46 = .ok (.iload_n 2, 1) := by decide +kernel
theorem dX6_who_47 : decode cX6_who 47 = .ok (.ireturn, 1) := by decide +kernel
theorem dX6_meant_0 : decode cX6_meant 0 = .ok (.aload_n 0, 1) := by decide +kernel
theorem dX6_meant_1 : decode cX6_meant 1 = .ok (.iload_n 1, 1) := by decide +kernel
theorem dX6_meant_2 : decode cX6_meant 2 = .ok (.invokevirtual 148, 3) := by decide +kernel
theorem dX6_meant_5 : decode cX6_meant 5 = .ok (.ifCond .ne 6, 3) := by decide +kernel
theorem dX6_meant_8 : decode cX6_meant 8 = .ok (.ldc 134, 2) := by decide +kernel
theorem dX6_meant_10 : decode cX6_meant 10 = .ok (.ireturn, 1) := by decide +kernel
theorem dX6_meant_11 : decode cX6_meant 11 = .ok (.iload_n 2, 1) := by decide +kernel
theorem dX6_meant_12 : decode cX6_meant 12 = .ok (.invokestatic 154, 3) := by decide +kernel
theorem dX6_meant_15 : decode cX6_meant 15 = .ok (.ifCond .eq 12, 3) := by decide +kernel
theorem dX6_meant_18 : decode cX6_meant 18 = .ok (.aload_n 0, 1) := by decide +kernel
theorem dX6_meant_19 : decode cX6_meant 19 = .ok (.iload_n 1, 1) := by decide +kernel
theorem dX6_meant_20 : decode cX6_meant 20 = .ok (.iload_n 2, 1) := by decide +kernel
theorem dX6_meant_21 : decode cX6_meant 21 = .ok (.invokevirtual 210, 3) := by decide +kernel
theorem dX6_meant_24 : decode cX6_meant 24 = .ok (.goto 5, 3) := by decide +kernel
theorem dX6_meant_27 : decode cX6_meant 27 = .ok (.ldc 69, 2) := by decide +kernel
theorem dX6_meant_29 : decode cX6_meant 29 = .ok (.ireturn, 1) := by decide +kernel
theorem dX6_alike_0 : decode cX6_alike 0 = .ok (.iload_n 1, 1) := by decide +kernel
theorem dX6_alike_1 : decode cX6_alike 1 = .ok (.invokestatic 213, 3) := by decide +kernel
theorem dX6_alike_4 : decode cX6_alike 4 = .ok (.ifCond .ne 6, 3) := by decide +kernel
theorem dX6_alike_7 : decode cX6_alike 7 = .ok (.ldc 69, 2) := by decide +kernel
theorem dX6_alike_9 : decode cX6_alike 9 = .ok (.ireturn, 1) := by decide +kernel
theorem dX6_alike_10 : decode cX6_alike 10 = .ok (.iconst 0, 1) := by decide +kernel
theorem dX6_alike_11 : decode cX6_alike 11 = .ok (.istore_n 3, 1) := by decide +kernel
theorem dX6_alike_12 : decode cX6_alike 12 = .ok (.iconst 0, 1) := by decide +kernel
theorem dX6_alike_13 : decode cX6_alike 13 = .ok (.istore 4, 2) := by decide +kernel
theorem dX6_alike_15 : decode cX6_alike 15 = .ok (.iload 4, 2) := by decide +kernel
theorem dX6_alike_17 : decode cX6_alike 17 = .ok (.aload_n 0, 1) := by decide +kernel
theorem dX6_alike_18 : decode cX6_alike 18 = .ok (.getfield 23, 3) := by decide +kernel
theorem dX6_alike_21 : decode cX6_alike 21 = .ok (.getfield 100, 3) := by decide +kernel
theorem dX6_alike_24 : decode cX6_alike 24 = .ok (.if_icmp .ge 77, 3) := by decide +kernel
theorem dX6_alike_27 : decode cX6_alike 27 = .ok (.iload 4, 2) := by decide +kernel
theorem dX6_alike_29 : decode cX6_alike 29 = .ok (.iconst 1, 1) := by decide +kernel
theorem dX6_alike_30 : decode cX6_alike 30 = .ok (.iadd, 1) := by decide +kernel
theorem dX6_alike_31 : decode cX6_alike 31 = .ok (.istore 5, 2) := by decide +kernel
theorem dX6_alike_33 : decode cX6_alike 33 = .ok (.iload 5, 2) := by decide +kernel
theorem dX6_alike_35 : decode cX6_alike 35 = .ok (.aload_n 0, 1) := by decide +kernel
theorem dX6_alike_36 : decode cX6_alike 36 = .ok (.getfield 23, 3) := by decide +kernel
theorem dX6_alike_39 : decode cX6_alike 39 = .ok (.getfield 100, 3) := by decide +kernel
theorem dX6_alike_42 : decode cX6_alike 42 = .ok (.if_icmp .ge 53, 3) := by decide +kernel
theorem dX6_alike_45 : decode cX6_alike 45 = .ok (.aload_n 0, 1) := by decide +kernel
theorem dX6_alike_46 : decode cX6_alike 46 = .ok (.getfield 33, 3) := by decide +kernel
theorem dX6_alike_49 : decode cX6_alike 49 = .ok (.getfield 135, 3) := by decide +kernel
theorem dX6_alike_52 : decode cX6_alike 52 = .ok (.iload 4, 2) := by decide +kernel
theorem dX6_alike_54 : decode cX6_alike 54 = .ok (.iaload, 1) := by decide +kernel
theorem dX6_alike_55 : decode cX6_alike 55 = .ok (.aload_n 0, 1) := by decide +kernel
theorem dX6_alike_56 : decode cX6_alike 56 = .ok (.getfield 33, 3) := by decide +kernel
theorem dX6_alike_59 : decode cX6_alike 59 = .ok (.getfield 135, 3) := by decide +kernel
theorem dX6_alike_62 : decode cX6_alike 62 = .ok (.iload 5, 2) := by decide +kernel
theorem dX6_alike_64 : decode cX6_alike 64 = .ok (.iaload, 1) := by decide +kernel
theorem dX6_alike_65 : decode cX6_alike 65 = .ok (.invokestatic 172, 3) := by decide +kernel
theorem dX6_alike_68 : decode cX6_alike 68 = .ok (.iload_n 1, 1) := by decide +kernel
theorem dX6_alike_69 : decode cX6_alike 69 = .ok (.if_icmp .gt 20, 3) := by decide +kernel
theorem dX6_alike_72 : decode cX6_alike 72 = .ok (.iload_n 3, 1) := by decide +kernel
theorem dX6_alike_73 : decode cX6_alike 73 = .ok (.iload_n 2, 1) := by decide +kernel
theorem dX6_alike_74 : decode cX6_alike 74 = .ok (.if_icmp .ne 12, 3) := by decide +kernel
theorem dX6_alike_77 : decode cX6_alike 77 = .ok (.bipush 10, 2) := by decide +kernel
theorem dX6_alike_79 : decode cX6_alike 79 = .ok (.iload 4, 2) := by decide +kernel
theorem dX6_alike_81 : decode cX6_alike 81 = .ok (.imul, 1) := by decide +kernel
theorem dX6_alike_82 : decode cX6_alike 82 = .ok (.iload 5, 2) := by decide +kernel
theorem dX6_alike_84 : decode cX6_alike 84 = .ok (.iadd, 1) := by decide +kernel
theorem dX6_alike_85 : decode cX6_alike 85 = .ok (.ireturn, 1) := by decide +kernel
theorem dX6_alike_86 : decode cX6_alike 86 = .ok (.iinc 3 1, 3) := by decide +kernel
theorem dX6_alike_89 : decode cX6_alike 89 = .ok (.iinc 5 1, 3) := by decide +kernel
theorem dX6_alike_92 : decode cX6_alike 92 = .ok (.goto (-59), 3) := by decide +kernel
theorem dX6_alike_95 : decode cX6_alike 95 = .ok (.iinc 4 1, 3) := by decide +kernel
theorem dX6_alike_98 : decode cX6_alike 98 = .ok (.goto (-83), 3) := by decide +kernel
theorem dX6_alike_101 : decode cX6_alike 101 = .ok (.iload_n 2, 1) := by decide +kernel
theorem dX6_alike_102 : decode cX6_alike 102 = .ok (.iconst (-1), 1) := by decide +kernel
theorem dX6_alike_103 : decode cX6_alike 103 = .ok (.if_icmp .ne 7, 3) := by decide +kernel
theorem dX6_alike_106 : decode cX6_alike 106 = .ok (.iload_n 3, 1) := by decide +kernel
theorem dX6_alike_107 : decode cX6_alike 107 = .ok (.goto 4, 3) := by decide +kernel
theorem dX6_alike_110 : decode cX6_alike 110 = .ok (.iconst (-1), 1) := by decide +kernel
theorem dX6_alike_111 : decode cX6_alike 111 = .ok (.ireturn, 1) := by decide +kernel
theorem dX6_wake_0 : decode cX6_wake 0 = .ok (.iload_n 1, 1) := by decide +kernel
theorem dX6_wake_1 : decode cX6_wake 1 = .ok (.ifCond .eq 11, 3) := by decide +kernel
theorem dX6_wake_4 : decode cX6_wake 4 = .ok (.iload_n 1, 1) := by decide +kernel
theorem dX6_wake_5 : decode cX6_wake 5 = .ok (.iconst 1, 1) := by decide +kernel
theorem dX6_wake_6 : decode cX6_wake 6 = .ok (.if_icmp .eq 6, 3) := by decide +kernel
theorem dX6_wake_9 : decode cX6_wake 9 = .ok (.ldc 69, 2) := by decide +kernel
theorem dX6_wake_11 : decode cX6_wake 11 = .ok (.ireturn, 1) := by decide +kernel
theorem dX6_wake_12 : decode cX6_wake 12 = .ok (.iconst 0, 1) := by decide +kernel
theorem dX6_wake_13 : decode cX6_wake 13 = .ok (.istore_n 2, 1) := by decide +kernel
theorem dX6_wake_14 : decode cX6_wake 14 = .ok (.aload_n 0, 1) := by decide +kernel
theorem dX6_wake_15 : decode cX6_wake 15 = .ok (.getfield 33, 3) := by decide +kernel
theorem dX6_wake_18 : decode cX6_wake 18 = .ok (.iconst 0, 1) := by decide +kernel
theorem dX6_wake_19 : decode cX6_wake 19 = .ok (.invokevirtual 216, 3) := by decide +kernel
theorem dX6_wake_22 : decode cX6_wake 22 = .ok (.istore_n 3, 1) := by decide +kernel
theorem dX6_wake_23 : decode cX6_wake 23 = .ok (.iconst 1, 1) := by decide +kernel
theorem dX6_wake_24 : decode cX6_wake 24 = .ok (.istore 4, 2) := by decide +kernel
theorem dX6_wake_26 : decode cX6_wake 26 = .ok (.iload 4, 2) := by decide +kernel
theorem dX6_wake_28 : decode cX6_wake 28 = .ok (.sipush 1000, 3) := by decide +kernel
theorem dX6_wake_31 : decode cX6_wake 31 = .ok (.if_icmp .ge 32, 3) := by decide +kernel
theorem dX6_wake_34 : decode cX6_wake 34 = .ok (.aload_n 0, 1) := by decide +kernel
theorem dX6_wake_35 : decode cX6_wake 35 = .ok (.getfield 33, 3) := by decide +kernel
theorem dX6_wake_38 : decode cX6_wake 38 = .ok (.iload 4, 2) := by decide +kernel
theorem dX6_wake_40 : decode cX6_wake 40 = .ok (.invokevirtual 216, 3) := by decide +kernel
theorem dX6_wake_43 : decode cX6_wake 43 = .ok (.istore 5, 2) := by decide +kernel
theorem dX6_wake_45 : decode cX6_wake 45 = .ok (.iload 5, 2) := by decide +kernel
theorem dX6_wake_47 : decode cX6_wake 47 = .ok (.iload_n 3, 1) := by decide +kernel
theorem dX6_wake_48 : decode cX6_wake 48 = .ok (.if_icmp .le 9, 3) := by decide +kernel
theorem dX6_wake_51 : decode cX6_wake 51 = .ok (.iload 4, 2) := by decide +kernel
theorem dX6_wake_53 : decode cX6_wake 53 = .ok (.istore_n 2, 1) := by decide +kernel
theorem dX6_wake_54 : decode cX6_wake 54 = .ok (.iload 5, 2) := by decide +kernel
theorem dX6_wake_56 : decode cX6_wake 56 = .ok (.istore_n 3, 1) := by decide +kernel
theorem dX6_wake_57 : decode cX6_wake 57 = .ok (.iinc 4 1, 3) := by decide +kernel
theorem dX6_wake_60 : decode cX6_wake 60 = .ok (.goto (-34), 3) := by decide +kernel
theorem dX6_wake_63 : decode cX6_wake 63 = .ok (.iload_n 1, 1) := by decide +kernel
theorem dX6_wake_64 : decode cX6_wake 64 = .ok (.ifCond .ne 7, 3) := by decide +kernel
theorem dX6_wake_67 : decode cX6_wake 67 = .ok (.iload_n 2, 1) := by decide +kernel
theorem dX6_wake_68 : decode cX6_wake 68 = .ok (.goto 4, 3) := by decide +kernel
theorem dX6_wake_71 : decode cX6_wake 71 = .ok (.iload_n 3, 1) := by decide +kernel
theorem dX6_wake_72 : decode cX6_wake 72 = .ok (.ireturn, 1) := by decide +kernel
theorem dX6_falsely_0 : decode cX6_falsely 0 = .ok (.aload_n 0, 1) := by decide +kernel
theorem dX6_falsely_1 : decode cX6_falsely 1 = .ok (.iload_n 1, 1) := by decide +kernel
theorem dX6_falsely_2 : decode cX6_falsely 2 = .ok (.invokevirtual 148, 3) := by decide +kernel
theorem dX6_falsely_5 : decode cX6_falsely 5 = .ok (.ifCond .ne 6, 3) := by decide +kernel
theorem dX6_falsely_8 : decode cX6_falsely 8 = .ok (.ldc 134, 2) := by decide +kernel
theorem dX6_falsely_10 : decode cX6_falsely 10 = .ok (.ireturn, 1) := by decide +kernel
theorem dX6_falsely_11 : decode cX6_falsely 11 = .ok (.iload_n 2, 1) := by decide +kernel
theorem dX6_falsely_12 : decode cX6_falsely 12 = .ok (.invokestatic 213, 3) := by decide +kernel
theorem dX6_falsely_15 : decode cX6_falsely 15 = .ok (.ifCond .ne 6, 3) := by decide +kernel
theorem dX6_falsely_18 : decode cX6_falsely 18 = .ok (.ldc 69, 2) := by decide +kernel
theorem dX6_falsely_20 : decode cX6_falsely 20 = .ok (.ireturn, 1) := by decide +kernel
theorem dX6_falsely_21 : decode cX6_falsely 21 = .ok (.iconst 0, 1) := by decide +kernel
theorem dX6_falsely_22 : decode cX6_falsely 22 = .ok (.istore_n 3, 1) := by decide +kernel
theorem dX6_falsely_23 : decode cX6_falsely 23 = .ok (.iconst 0, 1) := by decide +kernel
theorem dX6_falsely_24 : decode cX6_falsely 24 = .ok (.istore 4, 2) := by decide +kernel
theorem dX6_falsely_26 : decode cX6_falsely 26 = .ok (.iload 4, 2) := by decide +kernel
theorem dX6_falsely_28 : decode cX6_falsely 28 = .ok (.aload_n 0, 1) := by decide +kernel
theorem dX6_falsely_29 : decode cX6_falsely 29 = .ok (.getfield 23, 3) := by decide +kernel
theorem dX6_falsely_32 : decode cX6_falsely 32 = .ok (.getfield 100, 3) := by decide +kernel
theorem dX6_falsely_35 : decode cX6_falsely 35 = .ok (.if_icmp .ge 37, 3) := by decide +kernel
theorem dX6_falsely_38 : decode cX6_falsely 38 = .ok (.aload_n 0, 1) := by decide +kernel
theorem dX6_falsely_39 : decode cX6_falsely 39 = .ok (.iload 4, 2) := by decide +kernel
theorem dX6_falsely_41 : decode cX6_falsely 41 = .ok (.iload_n 1, 1) := by decide +kernel
theorem dX6_falsely_42 : decode cX6_falsely 42 = .ok (.invokevirtual 182, 3) := by decide +kernel
theorem dX6_falsely_45 : decode cX6_falsely 45 = .ok (.aload_n 0, 1) := by decide +kernel
theorem dX6_falsely_46 : decode cX6_falsely 46 = .ok (.getfield 23, 3) := by decide +kernel
theorem dX6_falsely_49 : decode cX6_falsely 49 = .ok (.getfield 109, 3) := by decide +kernel
theorem dX6_falsely_52 : decode cX6_falsely 52 = .ok (.invokestatic 172, 3) := by decide +kernel
theorem dX6_falsely_55 : decode cX6_falsely 55 = .ok (.iload_n 2, 1) := by decide +kernel
theorem dX6_falsely_56 : decode cX6_falsely 56 = .ok (.if_icmp .gt 10, 3) := by decide +kernel
theorem dX6_falsely_59 : decode cX6_falsely 59 = .ok (.iload_n 3, 1) := by decide +kernel
theorem dX6_falsely_60 : decode cX6_falsely 60 = .ok (.iconst 1, 1) := by decide +kernel
theorem dX6_falsely_61 : decode cX6_falsely 61 = .ok (.iload 4, 2) := by decide +kernel
theorem dX6_falsely_63 : decode cX6_falsely 63 = .ok (.ishl, 1) := by decide +kernel
theorem dX6_falsely_64 : decode cX6_falsely 64 = .ok (.ior, 1) := by decide +kernel
theorem dX6_falsely_65 : decode cX6_falsely 65 = .ok (.istore_n 3, 1) := by decide +kernel
theorem dX6_falsely_66 : decode cX6_falsely 66 = .ok (.iinc 4 1, 3) := by decide +kernel
theorem dX6_falsely_69 : decode cX6_falsely 69 = .ok (.goto (-43), 3) := by decide +kernel
theorem dX6_falsely_72 : decode cX6_falsely 72 = .ok (.iload_n 3, 1) := by decide +kernel
theorem dX6_falsely_73 : decode cX6_falsely 73 = .ok (.ireturn, 1) := by decide +kernel
theorem dX6_needs_0 : decode cX6_needs 0 = .ok (.aload_n 0, 1) := by decide +kernel
theorem dX6_needs_1 : decode cX6_needs 1 = .ok (.iload_n 1, 1) := by decide +kernel
theorem dX6_needs_2 : decode cX6_needs 2 = .ok (.invokevirtual 131, 3) := by decide +kernel
theorem dX6_needs_5 : decode cX6_needs 5 = .ok (.ifCond .eq 11, 3) := by decide +kernel
theorem dX6_needs_8 : decode cX6_needs 8 = .ok (.aload_n 0, 1) := by decide +kernel
theorem dX6_needs_9 : decode cX6_needs 9 = .ok (.iload_n 2, 1) := by decide +kernel
theorem dX6_needs_10 : decode cX6_needs 10 = .ok (.invokevirtual 148, 3) := by decide +kernel
theorem dX6_needs_13 : decode cX6_needs 13 = .ok (.ifCond .ne 6, 3) := by decide +kernel
theorem dX6_needs_16 : decode cX6_needs 16 = .ok (.ldc 134, 2) := by decide +kernel
theorem dX6_needs_18 : decode cX6_needs 18 = .ok (.ireturn, 1) := by decide +kernel
theorem dX6_needs_19 : decode cX6_needs 19 = .ok (.iload_n 3, 1) := by decide +kernel
theorem dX6_needs_20 : decode cX6_needs 20 = .ok (.ifCond .eq 11, 3) := by decide +kernel
theorem dX6_needs_23 : decode cX6_needs 23 = .ok (.iload_n 3, 1) := by decide +kernel
theorem dX6_needs_24 : decode cX6_needs 24 = .ok (.iconst 1, 1) := by decide +kernel
theorem dX6_needs_25 : decode cX6_needs 25 = .ok (.if_icmp .eq 6, 3) := by decide +kernel
theorem dX6_needs_28 : decode cX6_needs 28 = .ok (.ldc 69, 2) := by decide +kernel
theorem dX6_needs_30 : decode cX6_needs 30 = .ok (.ireturn, 1) := by decide +kernel
theorem dX6_needs_31 : decode cX6_needs 31 = .ok (.aload_n 0, 1) := by decide +kernel
theorem dX6_needs_32 : decode cX6_needs 32 = .ok (.iload_n 1, 1) := by decide +kernel
theorem dX6_needs_33 : decode cX6_needs 33 = .ok (.iload_n 2, 1) := by decide +kernel
theorem dX6_needs_34 : decode cX6_needs 34 = .ok (.invokevirtual 182, 3) := by decide +kernel
theorem dX6_needs_37 : decode cX6_needs 37 = .ok (.istore 4, 2) := by decide +kernel
theorem dX6_needs_39 : decode cX6_needs 39 = .ok (.aload_n 0, 1) := by decide +kernel
theorem dX6_needs_40 : decode cX6_needs 40 = .ok (.getfield 37, 3) := by decide +kernel
theorem dX6_needs_43 : decode cX6_needs 43 = .ok (.aload_n 0, 1) := by decide +kernel
theorem dX6_needs_44 : decode cX6_needs 44 = .ok (.getfield 33, 3) := by decide +kernel
theorem dX6_needs_47 : decode cX6_needs 47 = .ok (.invokevirtual 219, 3) := by decide +kernel
theorem dX6_needs_50 : decode cX6_needs 50 = .ok (.iconst 0, 1) := by decide +kernel
theorem dX6_needs_51 : decode cX6_needs 51 = .ok (.istore 5, 2) := by decide +kernel
theorem dX6_needs_53 : decode cX6_needs 53 = .ok (.iload 5, 2) := by decide +kernel
theorem dX6_needs_55 : decode cX6_needs 55 = .ok (.bipush 99, 2) := by decide +kernel
theorem dX6_needs_57 : decode cX6_needs 57 = .ok (.if_icmp .gt 53, 3) := by decide +kernel
theorem dX6_needs_60 : decode cX6_needs 60 = .ok (.aload_n 0, 1) := by decide +kernel
theorem dX6_needs_61 : decode cX6_needs 61 = .ok (.getfield 37, 3) := by decide +kernel
theorem dX6_needs_64 : decode cX6_needs 64 = .ok (.getfield 139, 3) := by decide +kernel
theorem dX6_needs_67 : decode cX6_needs 67 = .ok (.iload_n 1, 1) := by decide +kernel
theorem dX6_needs_68 : decode cX6_needs 68 = .ok (.iload 5, 2) := by decide +kernel
theorem dX6_needs_70 : decode cX6_needs 70 = .ok (.iastore, 1) := by decide +kernel
theorem dX6_needs_71 : decode cX6_needs 71 = .ok (.aload_n 0, 1) := by decide +kernel
theorem dX6_needs_72 : decode cX6_needs 72 = .ok (.getfield 37, 3) := by decide +kernel
theorem dX6_needs_75 : decode cX6_needs 75 = .ok (.iload 4, 2) := by decide +kernel
theorem dX6_needs_77 : decode cX6_needs 77 = .ok (.invokevirtual 193, 3) := by decide +kernel
theorem dX6_needs_80 : decode cX6_needs 80 = .ok (.iload_n 1, 1) := by decide +kernel
theorem dX6_needs_81 : decode cX6_needs 81 = .ok (.if_icmp .ne 23, 3) := by decide +kernel
theorem dX6_needs_84 : decode cX6_needs 84 = .ok (.iload_n 3, 1) := by decide +kernel
theorem dX6_needs_85 : decode cX6_needs 85 = .ok (.ifCond .eq 16, 3) := by decide +kernel
theorem dX6_needs_88 : decode cX6_needs 88 = .ok (.aload_n 0, 1) := by decide +kernel
theorem dX6_needs_89 : decode cX6_needs 89 = .ok (.aload_n 0, 1) := by decide +kernel
theorem dX6_needs_90 : decode cX6_needs 90 = .ok (.getfield 37, 3) := by decide +kernel
theorem dX6_needs_93 : decode cX6_needs 93 = .ok (.iload 4, 2) := by decide +kernel
theorem dX6_needs_95 : decode cX6_needs 95 = .ok (.invokevirtual 199, 3) := by decide +kernel
theorem dX6_needs_98 : decode cX6_needs 98 = .ok (.ifCond .ne 6, 3) := by decide +kernel
theorem dX6_needs_101 : decode cX6_needs 101 = .ok (.iload 5, 2) := by decide +kernel
theorem dX6_needs_103 : decode cX6_needs 103 = .ok (.ireturn, 1) := by decide +kernel
theorem dX6_needs_104 : decode cX6_needs 104 = .ok (.iinc 5 1, 3) := by decide +kernel
theorem dX6_needs_107 : decode cX6_needs 107 = .ok (.goto (-54), 3) := by decide +kernel
theorem dX6_needs_110 : decode cX6_needs 110 = .ok (.iconst (-1), 1) := by decide +kernel
theorem dX6_needs_111 : decode cX6_needs 111 = .ok (.ireturn, 1) := by decide +kernel
theorem dX6_bestCalled_0 : decode cX6_bestCalled 0 = .ok (.aload_n 0, 1) := by decide +kernel
theorem dX6_bestCalled_1 : decode cX6_bestCalled 1 = .ok (.iload_n 1, 1) := by decide +kernel
theorem dX6_bestCalled_2 : decode cX6_bestCalled 2 = .ok (.invokevirtual 131, 3) := by decide +kernel
theorem dX6_bestCalled_5 : decode cX6_bestCalled 5 = .ok (.ifCond .ne 6, 3) := by decide +kernel
theorem dX6_bestCalled_8 : decode cX6_bestCalled 8 = .ok (.ldc 134, 2) := by decide +kernel
theorem dX6_bestCalled_10 : decode cX6_bestCalled 10 = .ok (.ireturn, 1) := by decide +kernel
theorem dX6_bestCalled_11 : decode cX6_bestCalled 11 = .ok (.iload_n 2, 1) := by decide +kernel
theorem dX6_bestCalled_12 : decode cX6_bestCalled 12 = .ok (.ifCond .eq 11, 3) := by decide +kernel
theorem dX6_bestCalled_15 : decode cX6_bestCalled 15 = .ok (.iload_n 2, 1) := by decide +kernel
theorem dX6_bestCalled_16 : decode cX6_bestCalled 16 = .ok (.iconst 1, 1) := by decide +kernel
theorem dX6_bestCalled_17 : decode cX6_bestCalled 17 = .ok (.if_icmp .eq 6, 3) := by decide +kernel
theorem dX6_bestCalled_20 : decode cX6_bestCalled 20 = .ok (.ldc 69, 2) := by decide +kernel
theorem dX6_bestCalled_22 : decode cX6_bestCalled 22 = .ok (.ireturn, 1) := by decide +kernel
theorem dX6_bestCalled_23 : decode cX6_bestCalled 23 = .ok (.aload_n 0, 1) := by decide +kernel
theorem dX6_bestCalled_24 : decode cX6_bestCalled 24 = .ok (.getfield 37, 3) := by decide +kernel
theorem dX6_bestCalled_27 : decode cX6_bestCalled 27 = .ok (.aload_n 0, 1) := by decide +kernel
theorem dX6_bestCalled_28 : decode cX6_bestCalled 28 = .ok (.getfield 33, 3) := by decide +kernel
theorem dX6_bestCalled_31 : decode cX6_bestCalled 31 = .ok (.invokevirtual 219, 3) := by decide +kernel
theorem dX6_bestCalled_34 : decode cX6_bestCalled 34 = .ok (.aload_n 0, 1) := by decide +kernel
theorem dX6_bestCalled_35 : decode cX6_bestCalled 35 = .ok (.getfield 33, 3) := by decide +kernel
theorem dX6_bestCalled_38 : decode cX6_bestCalled 38 = .ok (.getfield 135, 3) := by decide +kernel
theorem dX6_bestCalled_41 : decode cX6_bestCalled 41 = .ok (.iload_n 1, 1) := by decide +kernel
theorem dX6_bestCalled_42 : decode cX6_bestCalled 42 = .ok (.iaload, 1) := by decide +kernel
theorem dX6_bestCalled_43 : decode cX6_bestCalled 43 = .ok (.istore_n 3, 1) := by decide +kernel
theorem dX6_bestCalled_44 : decode cX6_bestCalled 44 = .ok (.iload_n 3, 1) := by decide +kernel
theorem dX6_bestCalled_45 : decode cX6_bestCalled 45 = .ok (.istore 4, 2) := by decide +kernel
theorem dX6_bestCalled_47 : decode cX6_bestCalled 47 = .ok (.iconst 0, 1) := by decide +kernel
theorem dX6_bestCalled_48 : decode cX6_bestCalled 48 = .ok (.istore 5, 2) := by decide +kernel
theorem dX6_bestCalled_50 : decode cX6_bestCalled 50 = .ok (.aload_n 0, 1) := by decide +kernel
theorem dX6_bestCalled_51 : decode cX6_bestCalled 51 = .ok (.iload_n 1, 1) := by decide +kernel
theorem dX6_bestCalled_52 : decode cX6_bestCalled 52 = .ok (.iload_n 3, 1) := by decide +kernel
theorem dX6_bestCalled_53 : decode cX6_bestCalled 53 = .ok (.iconst 0, 1) := by decide +kernel
theorem dX6_bestCalled_54 : decode cX6_bestCalled 54 = .ok (.invokevirtual 222, 3) := by decide +kernel
theorem dX6_bestCalled_57 : decode cX6_bestCalled 57 = .ok (.istore 6, 2) := by decide +kernel
theorem dX6_bestCalled_59 : decode cX6_bestCalled 59 = .ok (.iconst 0, 1) := by decide +kernel
theorem dX6_bestCalled_60 : decode cX6_bestCalled 60 = .ok (.istore 7, 2) := by decide +kernel
theorem dX6_bestCalled_62 : decode cX6_bestCalled 62 = .ok (.iload 7, 2) := by decide +kernel
theorem dX6_bestCalled_64 : decode cX6_bestCalled 64 = .ok (.sipush 1000, 3) := by decide +kernel
theorem dX6_bestCalled_67 : decode cX6_bestCalled 67 = .ok (.if_icmp .ge 65, 3) := by decide +kernel
theorem dX6_bestCalled_70 : decode cX6_bestCalled 70 = .ok (.iload_n 3, 1) := by decide +kernel
theorem dX6_bestCalled_71 : decode cX6_bestCalled 71 = .ok (.iload 7, 2) := by decide +kernel
theorem dX6_bestCalled_73 : decode cX6_bestCalled 73 = .ok (.invokestatic 172, 3) := by decide +kernel
theorem dX6_bestCalled_76 : decode cX6_bestCalled 76 = .ok (.istore 8, 2) := by decide +kernel
theorem dX6_bestCalled_78 : decode cX6_bestCalled 78 = .ok (.iload 8, 2) := by decide +kernel
theorem dX6_bestCalled_80 : decode cX6_bestCalled 80 = .ok (.iload 5, 2) := by decide +kernel
theorem dX6_bestCalled_82 : decode cX6_bestCalled 82 = .ok (.if_icmp .ge 8, 3) := by decide +kernel
theorem dX6_bestCalled_85 : decode cX6_bestCalled 85 = .ok (.iload 6, 2) := by decide +kernel
theorem dX6_bestCalled_87 : decode cX6_bestCalled 87 = .ok (.goto 7, 3) := by decide +kernel
theorem dX6_bestCalled_90 : decode cX6_bestCalled 90 = .ok (.iload 6, 2) := by decide +kernel
theorem dX6_bestCalled_92 : decode cX6_bestCalled 92 = .ok (.iconst 1, 1) := by decide +kernel
theorem dX6_bestCalled_93 : decode cX6_bestCalled 93 = .ok (.iadd, 1) := by decide +kernel
theorem dX6_bestCalled_94 : decode cX6_bestCalled 94 = .ok (.istore 9, 2) := by decide +kernel
theorem dX6_bestCalled_96 : decode cX6_bestCalled 96 = .ok (.aload_n 0, 1) := by decide +kernel
theorem dX6_bestCalled_97 : decode cX6_bestCalled 97 = .ok (.iload_n 1, 1) := by decide +kernel
theorem dX6_bestCalled_98 : decode cX6_bestCalled 98 = .ok (.iload 7, 2) := by decide +kernel
theorem dX6_bestCalled_100 : decode cX6_bestCalled 100 = .ok (.iload 9, 2) := by decide +kernel
theorem dX6_bestCalled_102 : decode cX6_bestCalled 102 = .ok (.invokevirtual 222, 3) := by decide +kernel
theorem dX6_bestCalled_105 : decode cX6_bestCalled 105 = .ok (.istore 10, 2) := by decide +kernel
theorem dX6_bestCalled_107 : decode cX6_bestCalled 107 = .ok (.iload 10, 2) := by decide +kernel
theorem dX6_bestCalled_109 : decode cX6_bestCalled 109 = .ok (.iload 9, 2) := by decide +kernel
theorem dX6_bestCalled_111 : decode cX6_bestCalled 111 = .ok (.if_icmp .lt 15, 3) := by decide +kernel
theorem dX6_bestCalled_114 : decode cX6_bestCalled 114 = .ok (.iload 7, 2) := by decide +kernel
theorem dX6_bestCalled_116 : decode cX6_bestCalled 116 = .ok (.istore 4, 2) := by decide +kernel
theorem dX6_bestCalled_118 : decode cX6_bestCalled 118 = .ok (.iload 8, 2) := by decide +kernel
theorem dX6_bestCalled_120 : decode cX6_bestCalled 120 = .ok (.istore 5, 2) := by decide +kernel
theorem dX6_bestCalled_122 : decode cX6_bestCalled 122 = .ok (.iload 10, 2) := by decide +kernel
theorem dX6_bestCalled_124 : decode cX6_bestCalled 124 = .ok (.istore 6, 2) := by decide +kernel
theorem dX6_bestCalled_126 : decode cX6_bestCalled 126 = .ok (.iinc 7 1, 3) := by decide +kernel
theorem dX6_bestCalled_129 : decode cX6_bestCalled 129 = .ok (.goto (-67), 3) := by decide +kernel
theorem dX6_bestCalled_132 : decode cX6_bestCalled 132 = .ok (.iload_n 2, 1) := by decide +kernel
theorem dX6_bestCalled_133 : decode cX6_bestCalled 133 = .ok (.ifCond .ne 8, 3) := by decide +kernel
theorem dX6_bestCalled_136 : decode cX6_bestCalled 136 = .ok (.iload 4, 2) := by decide +kernel
theorem dX6_bestCalled_138 : decode cX6_bestCalled 138 = .ok (.goto 5, 3) := by decide +kernel
theorem dX6_bestCalled_141 : decode cX6_bestCalled 141 = .ok (.iload 6, 2) := by decide +kernel
theorem dX6_bestCalled_143 : decode cX6_bestCalled 143 = .ok (.ireturn, 1) := by decide +kernel
theorem dX6_asks_0 : decode cX6_asks 0 = .ok (.iload_n 1, 1) := by decide +kernel
theorem dX6_asks_1 : decode cX6_asks 1 = .ok (.ifCond .lt 10, 3) := by decide +kernel
theorem dX6_asks_4 : decode cX6_asks 4 = .ok (.iload_n 1, 1) := by decide +kernel
theorem dX6_asks_5 : decode cX6_asks 5 = .ok (.sipush 9999, 3) := by decide +kernel
theorem dX6_asks_8 : decode cX6_asks 8 = .ok (.if_icmp .le 6, 3) := by decide +kernel
theorem dX6_asks_11 : decode cX6_asks 11 = .ok (.ldc 69, 2) := by decide +kernel
theorem dX6_asks_13 : decode cX6_asks 13 = .ok (.ireturn, 1) := by decide +kernel
theorem dX6_asks_14 : decode cX6_asks 14 = .ok (.iconst 0, 1) := by decide +kernel
theorem dX6_asks_15 : decode cX6_asks 15 = .ok (.istore_n 2, 1) := by decide +kernel
theorem dX6_asks_16 : decode cX6_asks 16 = .ok (.iconst 0, 1) := by decide +kernel
theorem dX6_asks_17 : decode cX6_asks 17 = .ok (.istore_n 3, 1) := by decide +kernel
theorem dX6_asks_18 : decode cX6_asks 18 = .ok (.iload_n 3, 1) := by decide +kernel
theorem dX6_asks_19 : decode cX6_asks 19 = .ok (.bipush 99, 2) := by decide +kernel
theorem dX6_asks_21 : decode cX6_asks 21 = .ok (.if_icmp .ge 36, 3) := by decide +kernel
theorem dX6_asks_24 : decode cX6_asks 24 = .ok (.iload_n 2, 1) := by decide +kernel
theorem dX6_asks_25 : decode cX6_asks 25 = .ok (.aload_n 0, 1) := by decide +kernel
theorem dX6_asks_26 : decode cX6_asks 26 = .ok (.getfield 23, 3) := by decide +kernel
theorem dX6_asks_29 : decode cX6_asks 29 = .ok (.getfield 103, 3) := by decide +kernel
theorem dX6_asks_32 : decode cX6_asks 32 = .ok (.aload_n 0, 1) := by decide +kernel
theorem dX6_asks_33 : decode cX6_asks 33 = .ok (.getfield 33, 3) := by decide +kernel
theorem dX6_asks_36 : decode cX6_asks 36 = .ok (.getfield 118, 3) := by decide +kernel
theorem dX6_asks_39 : decode cX6_asks 39 = .ok (.iadd, 1) := by decide +kernel
theorem dX6_asks_40 : decode cX6_asks 40 = .ok (.iload_n 3, 1) := by decide +kernel
theorem dX6_asks_41 : decode cX6_asks 41 = .ok (.iadd, 1) := by decide +kernel
theorem dX6_asks_42 : decode cX6_asks 42 = .ok (.iadd, 1) := by decide +kernel
theorem dX6_asks_43 : decode cX6_asks 43 = .ok (.istore_n 2, 1) := by decide +kernel
theorem dX6_asks_44 : decode cX6_asks 44 = .ok (.iload_n 2, 1) := by decide +kernel
theorem dX6_asks_45 : decode cX6_asks 45 = .ok (.iload_n 1, 1) := by decide +kernel
theorem dX6_asks_46 : decode cX6_asks 46 = .ok (.if_icmp .le 5, 3) := by decide +kernel
theorem dX6_asks_49 : decode cX6_asks 49 = .ok (.iload_n 3, 1) := by decide +kernel
theorem dX6_asks_50 : decode cX6_asks 50 = .ok (.ireturn, 1) := by decide +kernel
theorem dX6_asks_51 : decode cX6_asks 51 = .ok (.iinc 3 1, 3) := by decide +kernel
theorem dX6_asks_54 : decode cX6_asks 54 = .ok (.goto (-36), 3) := by decide +kernel
theorem dX6_asks_57 : decode cX6_asks 57 = .ok (.bipush 99, 2) := by decide +kernel
theorem dX6_asks_59 : decode cX6_asks 59 = .ok (.ireturn, 1) := by decide +kernel
theorem dX6_waked_0 : decode cX6_waked 0 = .ok (.iload_n 1, 1) := by decide +kernel
theorem dX6_waked_1 : decode cX6_waked 1 = .ok (.ifCond .lt 19, 3) := by decide +kernel
theorem dX6_waked_4 : decode cX6_waked 4 = .ok (.iload_n 1, 1) := by decide +kernel
theorem dX6_waked_5 : decode cX6_waked 5 = .ok (.bipush 60, 2) := by decide +kernel
theorem dX6_waked_7 : decode cX6_waked 7 = .ok (.if_icmp .gt 13, 3) := by decide +kernel
theorem dX6_waked_10 : decode cX6_waked 10 = .ok (.iload_n 2, 1) := by decide +kernel
theorem dX6_waked_11 : decode cX6_waked 11 = .ok (.ifCond .lt 9, 3) := by decide +kernel
theorem dX6_waked_14 : decode cX6_waked 14 = .ok (.iload_n 2, 1) := by decide +kernel
theorem dX6_waked_15 : decode cX6_waked 15 = .ok (.bipush 100, 2) := by decide +kernel
theorem dX6_waked_17 : decode cX6_waked 17 = .ok (.if_icmp .le 6, 3) := by decide +kernel
theorem dX6_waked_20 : decode cX6_waked 20 = .ok (.ldc 69, 2) := by decide +kernel
theorem dX6_waked_22 : decode cX6_waked 22 = .ok (.ireturn, 1) := by decide +kernel
theorem dX6_waked_23 : decode cX6_waked 23 = .ok (.ldc2_w 226, 3) := by decide +kernel
theorem dX6_waked_26 : decode cX6_waked 26 = .ok (.lstore_n 3, 1) := by decide +kernel
theorem dX6_waked_27 : decode cX6_waked 27 = .ok (.iconst 0, 1) := by decide +kernel
theorem dX6_waked_28 : decode cX6_waked 28 = .ok (.istore 5, 2) := by decide +kernel
theorem dX6_waked_30 : decode cX6_waked 30 = .ok (.iload 5, 2) := by decide +kernel
theorem dX6_waked_32 : decode cX6_waked 32 = .ok (.iload_n 1, 1) := by decide +kernel
theorem dX6_waked_33 : decode cX6_waked 33 = .ok (.if_icmp .ge 21, 3) := by decide +kernel
theorem dX6_waked_36 : decode cX6_waked 36 = .ok (.lload_n 3, 1) := by decide +kernel
theorem dX6_waked_37 : decode cX6_waked 37 = .ok (.bipush 100, 2) := by decide +kernel
theorem dX6_waked_39 : decode cX6_waked 39 = .ok (.iload_n 2, 1) := by decide +kernel
theorem dX6_waked_40 : decode cX6_waked 40 = .ok (.isub, 1) := by decide +kernel
theorem dX6_waked_41 : decode cX6_waked 41 = .ok (.i2l, 1) := by decide +kernel
theorem dX6_waked_42 : decode cX6_waked 42 = .ok (.lmul, 1) := by decide +kernel
theorem dX6_waked_43 : decode cX6_waked 43 = .ok (.ldc2_w 228, 3) := by decide +kernel
theorem dX6_waked_46 : decode cX6_waked 46 = .ok (.ldiv, 1) := by decide +kernel
theorem dX6_waked_47 : decode cX6_waked 47 = .ok (.lstore_n 3, 1) := by decide +kernel
theorem dX6_waked_48 : decode cX6_waked 48 = .ok (.iinc 5 1, 3) := by decide +kernel
theorem dX6_waked_51 : decode cX6_waked 51 = .ok (.goto (-21), 3) := by decide +kernel
theorem dX6_waked_54 : decode cX6_waked 54 = .ok (.lload_n 3, 1) := by decide +kernel
theorem dX6_waked_55 : decode cX6_waked 55 = .ok (.l2i, 1) := by decide +kernel
theorem dX6_waked_56 : decode cX6_waked 56 = .ok (.ireturn, 1) := by decide +kernel
theorem dX6_see_0 : decode cX6_see 0 = .ok (.aload_n 0, 1) := by decide +kernel
theorem dX6_see_1 : decode cX6_see 1 = .ok (.iload_n 1, 1) := by decide +kernel
theorem dX6_see_2 : decode cX6_see 2 = .ok (.invokevirtual 131, 3) := by decide +kernel
theorem dX6_see_5 : decode cX6_see 5 = .ok (.ifCond .eq 11, 3) := by decide +kernel
theorem dX6_see_8 : decode cX6_see 8 = .ok (.aload_n 0, 1) := by decide +kernel
theorem dX6_see_9 : decode cX6_see 9 = .ok (.iload_n 2, 1) := by decide +kernel
theorem dX6_see_10 : decode cX6_see 10 = .ok (.invokevirtual 131, 3) := by decide +kernel
theorem dX6_see_13 : decode cX6_see 13 = .ok (.ifCond .ne 6, 3) := by decide +kernel
theorem dX6_see_16 : decode cX6_see 16 = .ok (.ldc 134, 2) := by decide +kernel
theorem dX6_see_18 : decode cX6_see 18 = .ok (.ireturn, 1) := by decide +kernel
theorem dX6_see_19 : decode cX6_see 19 = .ok (.aload_n 0, 1) := by decide +kernel
theorem dX6_see_20 : decode cX6_see 20 = .ok (.getfield 61, 3) := by decide +kernel
theorem dX6_see_23 : decode cX6_see 23 = .ok (.iload_n 1, 1) := by decide +kernel
theorem dX6_see_24 : decode cX6_see 24 = .ok (.iload_n 2, 1) := by decide +kernel
theorem dX6_see_25 : decode cX6_see 25 = .ok (.invokevirtual 230, 3) := by decide +kernel
theorem dX6_see_28 : decode cX6_see 28 = .ok (.ifCond .eq 13, 3) := by decide +kernel
theorem dX6_see_31 : decode cX6_see 31 = .ok (.aload_n 0, 1) := by decide +kernel
theorem dX6_see_32 : decode cX6_see 32 = .ok (.getfield 61, 3) := by decide +kernel
theorem dX6_see_35 : decode cX6_see 35 = .ok (.getfield 127, 3) := by decide +kernel
theorem dX6_see_38 : decode cX6_see 38 = .ok (.goto 5, 3) := by decide +kernel
theorem dX6_see_41 : decode cX6_see 41 = .ok (.ldc 77, 2) := by decide +kernel
theorem dX6_see_43 : decode cX6_see 43 = .ok (.ireturn, 1) := by decide +kernel
theorem dX6_speaker_0 : decode cX6_speaker 0 = .ok (.iconst 0, 1) := by decide +kernel
theorem dX6_speaker_1 : decode cX6_speaker 1 = .ok (.istore_n 1, 1) := by decide +kernel
theorem dX6_speaker_2 : decode cX6_speaker 2 = .ok (.iconst 0, 1) := by decide +kernel
theorem dX6_speaker_3 : decode cX6_speaker 3 = .ok (.istore_n 2, 1) := by decide +kernel
theorem dX6_speaker_4 : decode cX6_speaker 4 = .ok (.iload_n 2, 1) := by decide +kernel
theorem dX6_speaker_5 : decode cX6_speaker 5 = .ok (.aload_n 0, 1) := by decide +kernel
theorem dX6_speaker_6 : decode cX6_speaker 6 = .ok (.getfield 23, 3) := by decide +kernel
theorem dX6_speaker_9 : decode cX6_speaker 9 = .ok (.getfield 112, 3) := by decide +kernel
theorem dX6_speaker_12 : decode cX6_speaker 12 = .ok (.if_icmp .ge 23, 3) := by decide +kernel
theorem dX6_speaker_15 : decode cX6_speaker 15 = .ok (.aload_n 0, 1) := by decide +kernel
theorem dX6_speaker_16 : decode cX6_speaker 16 = .ok (.iload_n 2, 1) := by decide +kernel
theorem dX6_speaker_17 : decode cX6_speaker 17 = .ok (.invokevirtual 233, 3) := by decide +kernel
theorem dX6_speaker_20 : decode cX6_speaker 20 = .ok (.ifCond .eq 9, 3) := by decide +kernel
theorem dX6_speaker_23 : decode cX6_speaker 23 = .ok (.iload_n 1, 1) := by decide +kernel
theorem dX6_speaker_24 : decode cX6_speaker 24 = .ok (.iconst 1, 1) := by decide +kernel
theorem dX6_speaker_25 : decode cX6_speaker 25 = .ok (.iload_n 2, 1) := by decide +kernel
theorem dX6_speaker_26 : decode cX6_speaker 26 = .ok (.ishl, 1) := by decide +kernel
theorem dX6_speaker_27 : decode cX6_speaker 27 = .ok (.ior, 1) := by decide +kernel
theorem dX6_speaker_28 : decode cX6_speaker 28 = .ok (.istore_n 1, 1) := by decide +kernel
theorem dX6_speaker_29 : decode cX6_speaker 29 = .ok (.iinc 2 1, 3) := by decide +kernel
theorem dX6_speaker_32 : decode cX6_speaker 32 = .ok (.goto (-28), 3) := by decide +kernel
theorem dX6_speaker_35 : decode cX6_speaker 35 = .ok (.iload_n 1, 1) := by decide +kernel
theorem dX6_speaker_36 : decode cX6_speaker 36 = .ok (.ireturn, 1) := by decide +kernel
theorem dX6_sayNext_0 : decode cX6_sayNext 0 = .ok (.aload_n 0, 1) := by decide +kernel
theorem dX6_sayNext_1 : decode cX6_sayNext 1 = .ok (.invokevirtual 236, 3) := by decide +kernel
theorem dX6_sayNext_4 : decode cX6_sayNext 4 = .ok (.istore_n 1, 1) := by decide +kernel
theorem dX6_sayNext_5 : decode cX6_sayNext 5 = .ok (.iconst (-1), 1) := by decide +kernel
theorem dX6_sayNext_6 : decode cX6_sayNext 6 = .ok (.istore_n 2, 1) := by decide +kernel
theorem dX6_sayNext_7 : decode cX6_sayNext 7 = .ok (.iload_n 1, 1) := by decide +kernel
theorem dX6_sayNext_8 : decode cX6_sayNext 8 = .ok (.invokestatic 239, 3) := by decide +kernel
theorem dX6_sayNext_11 : decode cX6_sayNext 11 = .ok (.istore_n 3, 1) := by decide +kernel
theorem dX6_sayNext_12 : decode cX6_sayNext 12 = .ok (.iconst 0, 1) := by decide +kernel
theorem dX6_sayNext_13 : decode cX6_sayNext 13 = .ok (.istore 4, 2) := by decide +kernel
theorem dX6_sayNext_15 : decode cX6_sayNext 15 = .ok (.iload 4, 2) := by decide +kernel
theorem dX6_sayNext_17 : decode cX6_sayNext 17 = .ok (.aload_n 0, 1) := by decide +kernel
theorem dX6_sayNext_18 : decode cX6_sayNext 18 = .ok (.getfield 23, 3) := by decide +kernel
theorem dX6_sayNext_21 : decode cX6_sayNext 21 = .ok (.getfield 100, 3) := by decide +kernel
theorem dX6_sayNext_24 : decode cX6_sayNext 24 = .ok (.if_icmp .ge 30, 3) := by decide +kernel
theorem dX6_sayNext_27 : decode cX6_sayNext 27 = .ok (.aload_n 0, 1) := by decide +kernel
theorem dX6_sayNext_28 : decode cX6_sayNext 28 = .ok (.iload 4, 2) := by decide +kernel
theorem dX6_sayNext_30 : decode cX6_sayNext 30 = .ok (.iload_n 1, 1) := by decide +kernel
theorem dX6_sayNext_31 : decode cX6_sayNext 31 = .ok (.invokevirtual 244, 3) := by decide +kernel
theorem dX6_sayNext_34 : decode cX6_sayNext 34 = .ok (.istore 5, 2) := by decide +kernel
theorem dX6_sayNext_36 : decode cX6_sayNext 36 = .ok (.iload 5, 2) := by decide +kernel
theorem dX6_sayNext_38 : decode cX6_sayNext 38 = .ok (.iload_n 3, 1) := by decide +kernel
theorem dX6_sayNext_39 : decode cX6_sayNext 39 = .ok (.if_icmp .ge 9, 3) := by decide +kernel
theorem dX6_sayNext_42 : decode cX6_sayNext 42 = .ok (.iload 4, 2) := by decide +kernel
theorem dX6_sayNext_44 : decode cX6_sayNext 44 = .ok (.istore_n 2, 1) := by decide +kernel
theorem dX6_sayNext_45 : decode cX6_sayNext 45 = .ok (.iload 5, 2) := by decide +kernel
theorem dX6_sayNext_47 : decode cX6_sayNext 47 = .ok (.istore_n 3, 1) := by decide +kernel
theorem dX6_sayNext_48 : decode cX6_sayNext 48 = .ok (.iinc 4 1, 3) := by decide +kernel
theorem dX6_sayNext_51 : decode cX6_sayNext 51 = .ok (.goto (-36), 3) := by decide +kernel
theorem dX6_sayNext_54 : decode cX6_sayNext 54 = .ok (.iload_n 2, 1) := by decide +kernel
theorem dX6_sayNext_55 : decode cX6_sayNext 55 = .ok (.ireturn, 1) := by decide +kernel
theorem dX6_write_0 : decode cX6_write 0 = .ok (.aload_n 0, 1) := by decide +kernel
theorem dX6_write_1 : decode cX6_write 1 = .ok (.iload_n 1, 1) := by decide +kernel
theorem dX6_write_2 : decode cX6_write 2 = .ok (.invokevirtual 131, 3) := by decide +kernel
theorem dX6_write_5 : decode cX6_write 5 = .ok (.ifCond .ne 6, 3) := by decide +kernel
theorem dX6_write_8 : decode cX6_write 8 = .ok (.ldc 134, 2) := by decide +kernel
theorem dX6_write_10 : decode cX6_write 10 = .ok (.ireturn, 1) := by decide +kernel
theorem dX6_write_11 : decode cX6_write 11 = .ok (.iload_n 2, 1) := by decide +kernel
theorem dX6_write_12 : decode cX6_write 12 = .ok (.ifCond .lt 9, 3) := by decide +kernel
theorem dX6_write_15 : decode cX6_write 15 = .ok (.iload_n 2, 1) := by decide +kernel
theorem dX6_write_16 : decode cX6_write 16 = .ok (.bipush 99, 2) := by decide +kernel
theorem dX6_write_18 : decode cX6_write 18 = .ok (.if_icmp .le 6, 3) := by decide +kernel
theorem dX6_write_21 : decode cX6_write 21 = .ok (.ldc 69, 2) := by decide +kernel
theorem dX6_write_23 : decode cX6_write 23 = .ok (.ireturn, 1) := by decide +kernel
theorem dX6_write_24 : decode cX6_write 24 = .ok (.aload_n 0, 1) := by decide +kernel
theorem dX6_write_25 : decode cX6_write 25 = .ok (.getfield 65, 3) := by decide +kernel
theorem dX6_write_28 : decode cX6_write 28 = .ok (.iload_n 1, 1) := by decide +kernel
theorem dX6_write_29 : decode cX6_write 29 = .ok (.iload_n 2, 1) := by decide +kernel
theorem dX6_write_30 : decode cX6_write 30 = .ok (.invokevirtual 230, 3) := by decide +kernel
theorem dX6_write_33 : decode cX6_write 33 = .ok (.ifCond .eq 13, 3) := by decide +kernel
theorem dX6_write_36 : decode cX6_write 36 = .ok (.aload_n 0, 1) := by decide +kernel
theorem dX6_write_37 : decode cX6_write 37 = .ok (.getfield 65, 3) := by decide +kernel
theorem dX6_write_40 : decode cX6_write 40 = .ok (.getfield 127, 3) := by decide +kernel
theorem dX6_write_43 : decode cX6_write 43 = .ok (.goto 5, 3) := by decide +kernel
theorem dX6_write_46 : decode cX6_write 46 = .ok (.ldc 77, 2) := by decide +kernel
theorem dX6_write_48 : decode cX6_write 48 = .ok (.ireturn, 1) := by decide +kernel
theorem dX6_tear_0 : decode cX6_tear 0 = .ok (.aload_n 0, 1) := by decide +kernel
theorem dX6_tear_1 : decode cX6_tear 1 = .ok (.getfield 61, 3) := by decide +kernel
theorem dX6_tear_4 : decode cX6_tear 4 = .ok (.getfield 127, 3) := by decide +kernel
theorem dX6_tear_7 : decode cX6_tear 7 = .ok (.aload_n 0, 1) := by decide +kernel
theorem dX6_tear_8 : decode cX6_tear 8 = .ok (.getfield 65, 3) := by decide +kernel
theorem dX6_tear_11 : decode cX6_tear 11 = .ok (.getfield 127, 3) := by decide +kernel
theorem dX6_tear_14 : decode cX6_tear 14 = .ok (.iadd, 1) := by decide +kernel
theorem dX6_tear_15 : decode cX6_tear 15 = .ok (.istore_n 1, 1) := by decide +kernel
theorem dX6_tear_16 : decode cX6_tear 16 = .ok (.aload_n 0, 1) := by decide +kernel
theorem dX6_tear_17 : decode cX6_tear 17 = .ok (.getfield 61, 3) := by decide +kernel
theorem dX6_tear_20 : decode cX6_tear 20 = .ok (.invokevirtual 99, 3) := by decide +kernel
theorem dX6_tear_23 : decode cX6_tear 23 = .ok (.aload_n 0, 1) := by decide +kernel
theorem dX6_tear_24 : decode cX6_tear 24 = .ok (.getfield 65, 3) := by decide +kernel
theorem dX6_tear_27 : decode cX6_tear 27 = .ok (.invokevirtual 99, 3) := by decide +kernel
theorem dX6_tear_30 : decode cX6_tear 30 = .ok (.iload_n 1, 1) := by decide +kernel
theorem dX6_tear_31 : decode cX6_tear 31 = .ok (.ireturn, 1) := by decide +kernel
theorem dX6_judge_0 : decode cX6_judge 0 = .ok (.iconst 0, 1) := by decide +kernel
theorem dX6_judge_1 : decode cX6_judge 1 = .ok (.istore_n 1, 1) := by decide +kernel
theorem dX6_judge_2 : decode cX6_judge 2 = .ok (.iload_n 1, 1) := by decide +kernel
theorem dX6_judge_3 : decode cX6_judge 3 = .ok (.aload_n 0, 1) := by decide +kernel
theorem dX6_judge_4 : decode cX6_judge 4 = .ok (.getfield 65, 3) := by decide +kernel
theorem dX6_judge_7 : decode cX6_judge 7 = .ok (.getfield 127, 3) := by decide +kernel
theorem dX6_judge_10 : decode cX6_judge 10 = .ok (.if_icmp .ge 50, 3) := by decide +kernel
theorem dX6_judge_13 : decode cX6_judge 13 = .ok (.aload_n 0, 1) := by decide +kernel
theorem dX6_judge_14 : decode cX6_judge 14 = .ok (.getfield 65, 3) := by decide +kernel
theorem dX6_judge_17 : decode cX6_judge 17 = .ok (.getfield 247, 3) := by decide +kernel
theorem dX6_judge_20 : decode cX6_judge 20 = .ok (.iload_n 1, 1) := by decide +kernel
theorem dX6_judge_21 : decode cX6_judge 21 = .ok (.iaload, 1) := by decide +kernel
theorem dX6_judge_22 : decode cX6_judge 22 = .ok (.istore_n 2, 1) := by decide +kernel
theorem dX6_judge_23 : decode cX6_judge 23 = .ok (.aload_n 0, 1) := by decide +kernel
theorem dX6_judge_24 : decode cX6_judge 24 = .ok (.iload_n 2, 1) := by decide +kernel
theorem dX6_judge_25 : decode cX6_judge 25 = .ok (.invokevirtual 131, 3) := by decide +kernel
theorem dX6_judge_28 : decode cX6_judge 28 = .ok (.ifCond .eq 26, 3) := by decide +kernel
theorem dX6_judge_31 : decode cX6_judge 31 = .ok (.aload_n 0, 1) := by decide +kernel
theorem dX6_judge_32 : decode cX6_judge 32 = .ok (.getfield 33, 3) := by decide +kernel
theorem dX6_judge_35 : decode cX6_judge 35 = .ok (.getfield 145, 3) := by decide +kernel
theorem dX6_judge_38 : decode cX6_judge 38 = .ok (.iload_n 2, 1) := by decide +kernel
theorem dX6_judge_39 : decode cX6_judge 39 = .ok (.iaload, 1) := by decide +kernel
theorem dX6_judge_40 : decode cX6_judge 40 = .ok (.aload_n 0, 1) := by decide +kernel
theorem dX6_judge_41 : decode cX6_judge 41 = .ok (.getfield 65, 3) := by decide +kernel
theorem dX6_judge_44 : decode cX6_judge 44 = .ok (.getfield 250, 3) := by decide +kernel
theorem dX6_judge_47 : decode cX6_judge 47 = .ok (.iload_n 1, 1) := by decide +kernel
theorem dX6_judge_48 : decode cX6_judge 48 = .ok (.iaload, 1) := by decide +kernel
theorem dX6_judge_49 : decode cX6_judge 49 = .ok (.if_icmp .eq 5, 3) := by decide +kernel
theorem dX6_judge_52 : decode cX6_judge 52 = .ok (.iload_n 1, 1) := by decide +kernel
theorem dX6_judge_53 : decode cX6_judge 53 = .ok (.ireturn, 1) := by decide +kernel
theorem dX6_judge_54 : decode cX6_judge 54 = .ok (.iinc 1 1, 3) := by decide +kernel
theorem dX6_judge_57 : decode cX6_judge 57 = .ok (.goto (-55), 3) := by decide +kernel
theorem dX6_judge_60 : decode cX6_judge 60 = .ok (.iconst (-1), 1) := by decide +kernel
theorem dX6_judge_61 : decode cX6_judge 61 = .ok (.ireturn, 1) := by decide +kernel
theorem dX6_seed_0 : decode cX6_seed 0 = .ok (.iload_n 1, 1) := by decide +kernel
theorem dX6_seed_1 : decode cX6_seed 1 = .ok (.ifCond .ge 6, 3) := by decide +kernel
theorem dX6_seed_4 : decode cX6_seed 4 = .ok (.ldc 69, 2) := by decide +kernel
theorem dX6_seed_6 : decode cX6_seed 6 = .ok (.ireturn, 1) := by decide +kernel
theorem dX6_seed_7 : decode cX6_seed 7 = .ok (.aload_n 0, 1) := by decide +kernel
theorem dX6_seed_8 : decode cX6_seed 8 = .ok (.getfield 53, 3) := by decide +kernel
theorem dX6_seed_11 : decode cX6_seed 11 = .ok (.istore_n 2, 1) := by decide +kernel
theorem dX6_seed_12 : decode cX6_seed 12 = .ok (.aload_n 0, 1) := by decide +kernel
theorem dX6_seed_13 : decode cX6_seed 13 = .ok (.iload_n 1, 1) := by decide +kernel
theorem dX6_seed_14 : decode cX6_seed 14 = .ok (.putfield 53, 3) := by decide +kernel
theorem dX6_seed_17 : decode cX6_seed 17 = .ok (.iload_n 2, 1) := by decide +kernel
theorem dX6_seed_18 : decode cX6_seed 18 = .ok (.ireturn, 1) := by decide +kernel
theorem dX6_keep_0 : decode cX6_keep 0 = .ok (.iload_n 1, 1) := by decide +kernel
theorem dX6_keep_1 : decode cX6_keep 1 = .ok (.invokestatic 253, 3) := by decide +kernel
theorem dX6_keep_4 : decode cX6_keep 4 = .ok (.ifCond .ne 6, 3) := by decide +kernel
theorem dX6_keep_7 : decode cX6_keep 7 = .ok (.ldc 134, 2) := by decide +kernel
theorem dX6_keep_9 : decode cX6_keep 9 = .ok (.ireturn, 1) := by decide +kernel
theorem dX6_keep_10 : decode cX6_keep 10 = .ok (.aload_n 0, 1) := by decide +kernel
theorem dX6_keep_11 : decode cX6_keep 11 = .ok (.getfield 49, 3) := by decide +kernel
theorem dX6_keep_14 : decode cX6_keep 14 = .ok (.iload_n 1, 1) := by decide +kernel
theorem dX6_keep_15 : decode cX6_keep 15 = .ok (.aaload, 1) := by decide +kernel
theorem dX6_keep_16 : decode cX6_keep 16 = .ok (.getfield 256, 3) := by decide +kernel
theorem dX6_keep_19 : decode cX6_keep 19 = .ok (.aload_n 0, 1) := by decide +kernel
theorem dX6_keep_20 : decode cX6_keep 20 = .ok (.getfield 33, 3) := by decide +kernel
theorem dX6_keep_23 : decode cX6_keep 23 = .ok (.invokevirtual 219, 3) := by decide +kernel
theorem dX6_keep_26 : decode cX6_keep 26 = .ok (.aload_n 0, 1) := by decide +kernel
theorem dX6_keep_27 : decode cX6_keep 27 = .ok (.getfield 49, 3) := by decide +kernel
theorem dX6_keep_30 : decode cX6_keep 30 = .ok (.iload_n 1, 1) := by decide +kernel
theorem dX6_keep_31 : decode cX6_keep 31 = .ok (.aaload, 1) := by decide +kernel
theorem dX6_keep_32 : decode cX6_keep 32 = .ok (.aload_n 0, 1) := by decide +kernel
theorem dX6_keep_33 : decode cX6_keep 33 = .ok (.getfield 53, 3) := by decide +kernel
theorem dX6_keep_36 : decode cX6_keep 36 = .ok (.putfield 259, 3) := by decide +kernel
theorem dX6_keep_39 : decode cX6_keep 39 = .ok (.aload_n 0, 1) := by decide +kernel
theorem dX6_keep_40 : decode cX6_keep 40 = .ok (.getfield 49, 3) := by decide +kernel
theorem dX6_keep_43 : decode cX6_keep 43 = .ok (.iload_n 1, 1) := by decide +kernel
theorem dX6_keep_44 : decode cX6_keep 44 = .ok (.aaload, 1) := by decide +kernel
theorem dX6_keep_45 : decode cX6_keep 45 = .ok (.iconst 1, 1) := by decide +kernel
theorem dX6_keep_46 : decode cX6_keep 46 = .ok (.putfield 95, 3) := by decide +kernel
theorem dX6_keep_49 : decode cX6_keep 49 = .ok (.aload_n 0, 1) := by decide +kernel
theorem dX6_keep_50 : decode cX6_keep 50 = .ok (.getfield 43, 3) := by decide +kernel
theorem dX6_keep_53 : decode cX6_keep 53 = .ok (.invokevirtual 92, 3) := by decide +kernel
theorem dX6_keep_56 : decode cX6_keep 56 = .ok (.iconst 1, 1) := by decide +kernel
theorem dX6_keep_57 : decode cX6_keep 57 = .ok (.ireturn, 1) := by decide +kernel
theorem dX6_goBack_0 : decode cX6_goBack 0 = .ok (.iload_n 1, 1) := by decide +kernel
theorem dX6_goBack_1 : decode cX6_goBack 1 = .ok (.invokestatic 253, 3) := by decide +kernel
theorem dX6_goBack_4 : decode cX6_goBack 4 = .ok (.ifCond .ne 6, 3) := by decide +kernel
theorem dX6_goBack_7 : decode cX6_goBack 7 = .ok (.ldc 134, 2) := by decide +kernel
theorem dX6_goBack_9 : decode cX6_goBack 9 = .ok (.ireturn, 1) := by decide +kernel
theorem dX6_goBack_10 : decode cX6_goBack 10 = .ok (.aload_n 0, 1) := by decide +kernel
theorem dX6_goBack_11 : decode cX6_goBack 11 = .ok (.getfield 49, 3) := by decide +kernel
theorem dX6_goBack_14 : decode cX6_goBack 14 = .ok (.iload_n 1, 1) := by decide +kernel
theorem dX6_goBack_15 : decode cX6_goBack 15 = .ok (.aaload, 1) := by decide +kernel
theorem dX6_goBack_16 : decode cX6_goBack 16 = .ok (.getfield 95, 3) := by decide +kernel
theorem dX6_goBack_19 : decode cX6_goBack 19 = .ok (.ifCond .ne 6, 3) := by decide +kernel
theorem dX6_goBack_22 : decode cX6_goBack 22 = .ok (.ldc 157, 2) := by decide +kernel
theorem dX6_goBack_24 : decode cX6_goBack 24 = .ok (.ireturn, 1) := by decide +kernel
theorem dX6_goBack_25 : decode cX6_goBack 25 = .ok (.aload_n 0, 1) := by decide +kernel
theorem dX6_goBack_26 : decode cX6_goBack 26 = .ok (.getfield 33, 3) := by decide +kernel
theorem dX6_goBack_29 : decode cX6_goBack 29 = .ok (.aload_n 0, 1) := by decide +kernel
theorem dX6_goBack_30 : decode cX6_goBack 30 = .ok (.getfield 49, 3) := by decide +kernel
theorem dX6_goBack_33 : decode cX6_goBack 33 = .ok (.iload_n 1, 1) := by decide +kernel
theorem dX6_goBack_34 : decode cX6_goBack 34 = .ok (.aaload, 1) := by decide +kernel
theorem dX6_goBack_35 : decode cX6_goBack 35 = .ok (.getfield 256, 3) := by decide +kernel
theorem dX6_goBack_38 : decode cX6_goBack 38 = .ok (.invokevirtual 219, 3) := by decide +kernel
theorem dX6_goBack_41 : decode cX6_goBack 41 = .ok (.aload_n 0, 1) := by decide +kernel
theorem dX6_goBack_42 : decode cX6_goBack 42 = .ok (.aload_n 0, 1) := by decide +kernel
theorem dX6_goBack_43 : decode cX6_goBack 43 = .ok (.getfield 49, 3) := by decide +kernel
theorem dX6_goBack_46 : decode cX6_goBack 46 = .ok (.iload_n 1, 1) := by decide +kernel
theorem dX6_goBack_47 : decode cX6_goBack 47 = .ok (.aaload, 1) := by decide +kernel
theorem dX6_goBack_48 : decode cX6_goBack 48 = .ok (.getfield 259, 3) := by decide +kernel
theorem dX6_goBack_51 : decode cX6_goBack 51 = .ok (.putfield 53, 3) := by decide +kernel
theorem dX6_goBack_54 : decode cX6_goBack 54 = .ok (.aload_n 0, 1) := by decide +kernel
theorem dX6_goBack_55 : decode cX6_goBack 55 = .ok (.getfield 43, 3) := by decide +kernel
theorem dX6_goBack_58 : decode cX6_goBack 58 = .ok (.invokevirtual 92, 3) := by decide +kernel
theorem dX6_goBack_61 : decode cX6_goBack 61 = .ok (.iconst 1, 1) := by decide +kernel
theorem dX6_goBack_62 : decode cX6_goBack 62 = .ok (.ireturn, 1) := by decide +kernel
theorem dX6_isWord_0 : decode cX6_isWord 0 = .ok (.iload_n 1, 1) := by decide +kernel
theorem dX6_isWord_1 : decode cX6_isWord 1 = .ok (.ifCond .lt 18, 3) := by decide +kernel
theorem dX6_isWord_4 : decode cX6_isWord 4 = .ok (.iload_n 1, 1) := by decide +kernel
theorem dX6_isWord_5 : decode cX6_isWord 5 = .ok (.aload_n 0, 1) := by decide +kernel
theorem dX6_isWord_6 : decode cX6_isWord 6 = .ok (.getfield 23, 3) := by decide +kernel
theorem dX6_isWord_9 : decode cX6_isWord 9 = .ok (.getfield 100, 3) := by decide +kernel
theorem dX6_isWord_12 : decode cX6_isWord 12 = .ok (.if_icmp .ge 7, 3) := by decide +kernel
theorem dX6_isWord_15 : decode cX6_isWord 15 = .ok (.iconst 1, 1) := by decide +kernel
theorem dX6_isWord_16 : decode cX6_isWord 16 = .ok (.goto 4, 3) := by decide +kernel
theorem dX6_isWord_19 : decode cX6_isWord 19 = .ok (.iconst 0, 1) := by decide +kernel
theorem dX6_isWord_20 : decode cX6_isWord 20 = .ok (.ireturn, 1) := by decide +kernel
theorem dX6_isVoice_0 : decode cX6_isVoice 0 = .ok (.iload_n 1, 1) := by decide +kernel
theorem dX6_isVoice_1 : decode cX6_isVoice 1 = .ok (.ifCond .lt 18, 3) := by decide +kernel
theorem dX6_isVoice_4 : decode cX6_isVoice 4 = .ok (.iload_n 1, 1) := by decide +kernel
theorem dX6_isVoice_5 : decode cX6_isVoice 5 = .ok (.aload_n 0, 1) := by decide +kernel
theorem dX6_isVoice_6 : decode cX6_isVoice 6 = .ok (.getfield 23, 3) := by decide +kernel
theorem dX6_isVoice_9 : decode cX6_isVoice 9 = .ok (.getfield 112, 3) := by decide +kernel
theorem dX6_isVoice_12 : decode cX6_isVoice 12 = .ok (.if_icmp .ge 7, 3) := by decide +kernel
theorem dX6_isVoice_15 : decode cX6_isVoice 15 = .ok (.iconst 1, 1) := by decide +kernel
theorem dX6_isVoice_16 : decode cX6_isVoice 16 = .ok (.goto 4, 3) := by decide +kernel
theorem dX6_isVoice_19 : decode cX6_isVoice 19 = .ok (.iconst 0, 1) := by decide +kernel
theorem dX6_isVoice_20 : decode cX6_isVoice 20 = .ok (.ireturn, 1) := by decide +kernel
theorem dX6_isImage_0 : decode cX6_isImage 0 = .ok (.iload_n 0, 1) := by decide +kernel
theorem dX6_isImage_1 : decode cX6_isImage 1 = .ok (.ifCond .lt 12, 3) := by decide +kernel
theorem dX6_isImage_4 : decode cX6_isImage 4 = .ok (.iload_n 0, 1) := by decide +kernel
theorem dX6_isImage_5 : decode cX6_isImage 5 = .ok (.iconst 2, 1) := by decide +kernel
theorem dX6_isImage_6 : decode cX6_isImage 6 = .ok (.if_icmp .ge 7, 3) := by decide +kernel
theorem dX6_isImage_9 : decode cX6_isImage 9 = .ok (.iconst 1, 1) := by decide +kernel
theorem dX6_isImage_10 : decode cX6_isImage 10 = .ok (.goto 4, 3) := by decide +kernel
theorem dX6_isImage_13 : decode cX6_isImage 13 = .ok (.iconst 0, 1) := by decide +kernel
theorem dX6_isImage_14 : decode cX6_isImage 14 = .ok (.ireturn, 1) := by decide +kernel
theorem dX6_isSound_0 : decode cX6_isSound 0 = .ok (.iload_n 0, 1) := by decide +kernel
theorem dX6_isSound_1 : decode cX6_isSound 1 = .ok (.ifCond .lt 14, 3) := by decide +kernel
theorem dX6_isSound_4 : decode cX6_isSound 4 = .ok (.iload_n 0, 1) := by decide +kernel
theorem dX6_isSound_5 : decode cX6_isSound 5 = .ok (.sipush 1000, 3) := by decide +kernel
theorem dX6_isSound_8 : decode cX6_isSound 8 = .ok (.if_icmp .ge 7, 3) := by decide +kernel
theorem dX6_isSound_11 : decode cX6_isSound 11 = .ok (.iconst 1, 1) := by decide +kernel
theorem dX6_isSound_12 : decode cX6_isSound 12 = .ok (.goto 4, 3) := by decide +kernel
theorem dX6_isSound_15 : decode cX6_isSound 15 = .ok (.iconst 0, 1) := by decide +kernel
theorem dX6_isSound_16 : decode cX6_isSound 16 = .ok (.ireturn, 1) := by decide +kernel
theorem dX6_isDistance_0 : decode cX6_isDistance 0 = .ok (.iload_n 0, 1) := by decide +kernel
theorem dX6_isDistance_1 : decode cX6_isDistance 1 = .ok (.ifCond .lt 13, 3) := by decide +kernel
theorem dX6_isDistance_4 : decode cX6_isDistance 4 = .ok (.iload_n 0, 1) := by decide +kernel
theorem dX6_isDistance_5 : decode cX6_isDistance 5 = .ok (.bipush 27, 2) := by decide +kernel
theorem dX6_isDistance_7 : decode cX6_isDistance 7 = .ok (.if_icmp .gt 7, 3) := by decide +kernel
theorem dX6_isDistance_10 : decode cX6_isDistance 10 = .ok (.iconst 1, 1) := by decide +kernel
theorem dX6_isDistance_11 : decode cX6_isDistance 11 = .ok (.goto 4, 3) := by decide +kernel
theorem dX6_isDistance_14 : decode cX6_isDistance 14 = .ok (.iconst 0, 1) := by decide +kernel
theorem dX6_isDistance_15 : decode cX6_isDistance 15 = .ok (.ireturn, 1) := by decide +kernel
theorem dX6_apart_0 : decode cX6_apart 0 = .ok (.iload_n 0, 1) := by decide +kernel
theorem dX6_apart_1 : decode cX6_apart 1 = .ok (.bipush 100, 2) := by decide +kernel
theorem dX6_apart_3 : decode cX6_apart 3 = .ok (.idiv, 1) := by decide +kernel
theorem dX6_apart_4 : decode cX6_apart 4 = .ok (.iload_n 1, 1) := by decide +kernel
theorem dX6_apart_5 : decode cX6_apart 5 = .ok (.bipush 100, 2) := by decide +kernel
theorem dX6_apart_7 : decode cX6_apart 7 = .ok (.idiv, 1) := by decide +kernel
theorem dX6_apart_8 : decode cX6_apart 8 = .ok (.isub, 1) := by decide +kernel
theorem dX6_apart_9 : decode cX6_apart 9 = .ok (.invokestatic 260, 3) := by decide +kernel
theorem dX6_apart_12 : decode cX6_apart 12 = .ok (.iload_n 0, 1) := by decide +kernel
theorem dX6_apart_13 : decode cX6_apart 13 = .ok (.bipush 10, 2) := by decide +kernel
theorem dX6_apart_15 : decode cX6_apart 15 = .ok (.idiv, 1) := by decide +kernel
theorem dX6_apart_16 : decode cX6_apart 16 = .ok (.bipush 10, 2) := by decide +kernel
theorem dX6_apart_18 : decode cX6_apart 18 = .ok (.irem, 1) := by decide +kernel
theorem dX6_apart_19 : decode cX6_apart 19 = .ok (.iload_n 1, 1) := by decide +kernel
theorem dX6_apart_20 : decode cX6_apart 20 = .ok (.bipush 10, 2) := by decide +kernel
theorem dX6_apart_22 : decode cX6_apart 22 = .ok (.idiv, 1) := by decide +kernel
theorem dX6_apart_23 : decode cX6_apart 23 = .ok (.bipush 10, 2) := by decide +kernel
theorem dX6_apart_25 : decode cX6_apart 25 = .ok (.irem, 1) := by decide +kernel
theorem dX6_apart_26 : decode cX6_apart 26 = .ok (.isub, 1) := by decide +kernel
theorem dX6_apart_27 : decode cX6_apart 27 = .ok (.invokestatic 260, 3) := by decide +kernel
theorem dX6_apart_30 : decode cX6_apart 30 = .ok (.iadd, 1) := by decide +kernel
theorem dX6_apart_31 : decode cX6_apart 31 = .ok (.iload_n 0, 1) := by decide +kernel
theorem dX6_apart_32 : decode cX6_apart 32 = .ok (.bipush 10, 2) := by decide +kernel
theorem dX6_apart_34 : decode cX6_apart 34 = .ok (.irem, 1) := by decide +kernel
theorem dX6_apart_35 : decode cX6_apart 35 = .ok (.iload_n 1, 1) := by decide +kernel
theorem dX6_apart_36 : decode cX6_apart 36 = .ok (.bipush 10, 2) := by decide +kernel
theorem dX6_apart_38 : decode cX6_apart 38 = .ok (.irem, 1) := by decide +kernel
theorem dX6_apart_39 : decode cX6_apart 39 = .ok (.isub, 1) := by decide +kernel
theorem dX6_apart_40 : decode cX6_apart 40 = .ok (.invokestatic 260, 3) := by decide +kernel
theorem dX6_apart_43 : decode cX6_apart 43 = .ok (.iadd, 1) := by decide +kernel
theorem dX6_apart_44 : decode cX6_apart 44 = .ok (.ireturn, 1) := by decide +kernel
theorem dX6_shifted_0 : decode cX6_shifted 0 = .ok (.iload_n 0, 1) := by decide +kernel
theorem dX6_shifted_1 : decode cX6_shifted 1 = .ok (.bipush 100, 2) := by decide +kernel
theorem dX6_shifted_3 : decode cX6_shifted 3 = .ok (.idiv, 1) := by decide +kernel
theorem dX6_shifted_4 : decode cX6_shifted 4 = .ok (.iload_n 1, 1) := by decide +kernel
theorem dX6_shifted_5 : decode cX6_shifted 5 = .ok (.bipush 100, 2) := by decide +kernel
theorem dX6_shifted_7 : decode cX6_shifted 7 = .ok (.idiv, 1) := by decide +kernel
theorem dX6_shifted_8 : decode cX6_shifted 8 = .ok (.iadd, 1) := by decide +kernel
theorem dX6_shifted_9 : decode cX6_shifted 9 = .ok (.bipush 10, 2) := by decide +kernel
theorem dX6_shifted_11 : decode cX6_shifted 11 = .ok (.irem, 1) := by decide +kernel
theorem dX6_shifted_12 : decode cX6_shifted 12 = .ok (.istore_n 2, 1) := by decide +kernel
theorem dX6_shifted_13 : decode cX6_shifted 13 = .ok (.iload_n 0, 1) := by decide +kernel
theorem dX6_shifted_14 : decode cX6_shifted 14 = .ok (.bipush 10, 2) := by decide +kernel
theorem dX6_shifted_16 : decode cX6_shifted 16 = .ok (.idiv, 1) := by decide +kernel
theorem dX6_shifted_17 : decode cX6_shifted 17 = .ok (.iload_n 1, 1) := by decide +kernel
theorem dX6_shifted_18 : decode cX6_shifted 18 = .ok (.bipush 10, 2) := by decide +kernel
theorem dX6_shifted_20 : decode cX6_shifted 20 = .ok (.idiv, 1) := by decide +kernel
theorem dX6_shifted_21 : decode cX6_shifted 21 = .ok (.iadd, 1) := by decide +kernel
theorem dX6_shifted_22 : decode cX6_shifted 22 = .ok (.bipush 10, 2) := by decide +kernel
theorem dX6_shifted_24 : decode cX6_shifted 24 = .ok (.irem, 1) := by decide +kernel
theorem dX6_shifted_25 : decode cX6_shifted 25 = .ok (.istore_n 3, 1) := by decide +kernel
theorem dX6_shifted_26 : decode cX6_shifted 26 = .ok (.iload_n 0, 1) := by decide +kernel
theorem dX6_shifted_27 : decode cX6_shifted 27 = .ok (.iload_n 1, 1) := by decide +kernel
theorem dX6_shifted_28 : decode cX6_shifted 28 = .ok (.iadd, 1) := by decide +kernel
theorem dX6_shifted_29 : decode cX6_shifted 29 = .ok (.bipush 10, 2) := by decide +kernel
theorem dX6_shifted_31 : decode cX6_shifted 31 = .ok (.irem, 1) := by decide +kernel
theorem dX6_shifted_32 : decode cX6_shifted 32 = .ok (.istore 4, 2) := by decide +kernel
theorem dX6_shifted_34 : decode cX6_shifted 34 = .ok (.bipush 100, 2) := by decide +kernel
theorem dX6_shifted_36 : decode cX6_shifted 36 = .ok (.iload_n 2, 1) := by decide +kernel
theorem dX6_shifted_37 : decode cX6_shifted 37 = .ok (.imul, 1) := by decide +kernel
theorem dX6_shifted_38 : decode cX6_shifted 38 = .ok (.bipush 10, 2) := by decide +kernel
theorem dX6_shifted_40 : decode cX6_shifted 40 = .ok (.iload_n 3, 1) := by decide +kernel
theorem dX6_shifted_41 : decode cX6_shifted 41 = .ok (.imul, 1) := by decide +kernel
theorem dX6_shifted_42 : decode cX6_shifted 42 = .ok (.iadd, 1) := by decide +kernel
theorem dX6_shifted_43 : decode cX6_shifted 43 = .ok (.iload 4, 2) := by decide +kernel
theorem dX6_shifted_45 : decode cX6_shifted 45 = .ok (.iadd, 1) := by decide +kernel
theorem dX6_shifted_46 : decode cX6_shifted 46 = .ok (.ireturn, 1) := by decide +kernel
theorem dX6_spoken_0 : decode cX6_spoken 0 = .ok (.aload_n 0, 1) := by decide +kernel
theorem dX6_spoken_1 : decode cX6_spoken 1 = .ok (.getfield 33, 3) := by decide +kernel
theorem dX6_spoken_4 : decode cX6_spoken 4 = .ok (.getfield 135, 3) := by decide +kernel
theorem dX6_spoken_7 : decode cX6_spoken 7 = .ok (.iload_n 1, 1) := by decide +kernel
theorem dX6_spoken_8 : decode cX6_spoken 8 = .ok (.iaload, 1) := by decide +kernel
theorem dX6_spoken_9 : decode cX6_spoken 9 = .ok (.aload_n 0, 1) := by decide +kernel
theorem dX6_spoken_10 : decode cX6_spoken 10 = .ok (.getfield 23, 3) := by decide +kernel
theorem dX6_spoken_13 : decode cX6_spoken 13 = .ok (.getfield 151, 3) := by decide +kernel
theorem dX6_spoken_16 : decode cX6_spoken 16 = .ok (.iload_n 2, 1) := by decide +kernel
theorem dX6_spoken_17 : decode cX6_spoken 17 = .ok (.iaload, 1) := by decide +kernel
theorem dX6_spoken_18 : decode cX6_spoken 18 = .ok (.invokestatic 265, 3) := by decide +kernel
theorem dX6_spoken_21 : decode cX6_spoken 21 = .ok (.ireturn, 1) := by decide +kernel
theorem dX6_understood_0 : decode cX6_understood 0 = .ok (.aload_n 0, 1) := by decide +kernel
theorem dX6_understood_1 : decode cX6_understood 1 = .ok (.getfield 33, 3) := by decide +kernel
theorem dX6_understood_4 : decode cX6_understood 4 = .ok (.aload_n 0, 1) := by decide +kernel
theorem dX6_understood_5 : decode cX6_understood 5 = .ok (.iload_n 1, 1) := by decide +kernel
theorem dX6_understood_6 : decode cX6_understood 6 = .ok (.iload_n 2, 1) := by decide +kernel
theorem dX6_understood_7 : decode cX6_understood 7 = .ok (.invokevirtual 182, 3) := by decide +kernel
theorem dX6_understood_10 : decode cX6_understood 10 = .ok (.invokevirtual 193, 3) := by decide +kernel
theorem dX6_understood_13 : decode cX6_understood 13 = .ok (.ireturn, 1) := by decide +kernel
theorem dX6_wordsSpokenAs_0 : decode cX6_wordsSpokenAs 0 = .ok (.iconst 0, 1) := by decide +kernel
theorem dX6_wordsSpokenAs_1 : decode cX6_wordsSpokenAs 1 = .ok (.istore_n 3, 1) := by decide +kernel
theorem dX6_wordsSpokenAs_2 : decode cX6_wordsSpokenAs 2 = .ok (.iconst 0, 1) := by decide +kernel
theorem dX6_wordsSpokenAs_3 : decode cX6_wordsSpokenAs 3 = .ok (.istore 4, 2) := by decide +kernel
theorem dX6_wordsSpokenAs_5 : decode cX6_wordsSpokenAs 5 = .ok (.iload 4, 2) := by decide +kernel
theorem dX6_wordsSpokenAs_7 : decode cX6_wordsSpokenAs 7 = .ok (.aload_n 0, 1) := by decide +kernel
theorem dX6_wordsSpokenAs_8 : decode cX6_wordsSpokenAs 8 = .ok (.getfield 23, 3) := by decide +kernel
theorem dX6_wordsSpokenAs_11 : decode cX6_wordsSpokenAs 11 = .ok (.getfield 100, 3) := by decide +kernel
theorem dX6_wordsSpokenAs_14 : decode cX6_wordsSpokenAs 14 = .ok (.if_icmp .ge 27, 3) := by decide +kernel
theorem dX6_wordsSpokenAs_17 : decode cX6_wordsSpokenAs 17 = .ok (.aload_n 0, 1) := by decide +kernel
theorem dX6_wordsSpokenAs_18 : decode cX6_wordsSpokenAs 18 = .ok (.iload 4, 2) := by decide +kernel
theorem dX6_wordsSpokenAs_20 : decode cX6_wordsSpokenAs 20 = .ok (.iload_n 1, 1) := by decide +kernel
theorem dX6_wordsSpokenAs_21 : decode cX6_wordsSpokenAs 21 = .ok (.invokevirtual 182, 3) := by decide +kernel
theorem dX6_wordsSpokenAs_24 : decode cX6_wordsSpokenAs 24 = .ok (.iload_n 2, 1) := by decide +kernel
theorem dX6_wordsSpokenAs_25 : decode cX6_wordsSpokenAs 25 = .ok (.if_icmp .ne 10, 3) := by decide +kernel
theorem dX6_wordsSpokenAs_28 : decode cX6_wordsSpokenAs 28 = .ok (.iload_n 3, 1) := by decide +kernel
theorem dX6_wordsSpokenAs_29 : decode cX6_wordsSpokenAs 29 = .ok (.iconst 1, 1) := by decide +kernel
theorem dX6_wordsSpokenAs_30 : decode cX6_wordsSpokenAs 30 = .ok (.iload 4, 2) := by decide +kernel
theorem dX6_wordsSpokenAs_32 : decode cX6_wordsSpokenAs 32 = .ok (.ishl, 1) := by decide +kernel
theorem dX6_wordsSpokenAs_33 : decode cX6_wordsSpokenAs 33 = .ok (.ior, 1) := by decide +kernel
theorem dX6_wordsSpokenAs_34 : decode cX6_wordsSpokenAs 34 = .ok (.istore_n 3, 1) := by decide +kernel
theorem dX6_wordsSpokenAs_35 : decode cX6_wordsSpokenAs 35 = .ok (.iinc 4 1, 3) := by decide +kernel
theorem dX6_wordsSpokenAs_38 : decode cX6_wordsSpokenAs 38 = .ok (.goto (-33), 3) := by decide +kernel
theorem dX6_wordsSpokenAs_41 : decode cX6_wordsSpokenAs 41 = .ok (.iload_n 3, 1) := by decide +kernel
theorem dX6_wordsSpokenAs_42 : decode cX6_wordsSpokenAs 42 = .ok (.ireturn, 1) := by decide +kernel
theorem dX6_voicesHeardRight_0 : decode cX6_voicesHeardRight 0 = .ok (.aload_n 0, 1) := by decide +kernel
theorem dX6_voicesHeardRight_1 : decode cX6_voicesHeardRight 1 = .ok (.getfield 37, 3) := by decide +kernel
theorem dX6_voicesHeardRight_4 : decode cX6_voicesHeardRight 4 = .ok (.getfield 135, 3) := by decide +kernel
theorem dX6_voicesHeardRight_7 : decode cX6_voicesHeardRight 7 = .ok (.iload_n 1, 1) := by decide +kernel
theorem dX6_voicesHeardRight_8 : decode cX6_voicesHeardRight 8 = .ok (.iload_n 2, 1) := by decide +kernel
theorem dX6_voicesHeardRight_9 : decode cX6_voicesHeardRight 9 = .ok (.iastore, 1) := by decide +kernel
theorem dX6_voicesHeardRight_10 : decode cX6_voicesHeardRight 10 = .ok (.iconst 0, 1) := by decide +kernel
theorem dX6_voicesHeardRight_11 : decode cX6_voicesHeardRight 11 = .ok (.istore 4, 2) := by decide +kernel
theorem dX6_voicesHeardRight_13 : decode cX6_voicesHeardRight 13 = .ok (.iconst 0, 1) := by decide +kernel
theorem dX6_voicesHeardRight_14 : decode cX6_voicesHeardRight 14 = .ok (.istore 5, 2) := by decide +kernel
theorem dX6_voicesHeardRight_16 : decode cX6_voicesHeardRight 16 = .ok (.iload 5, 2) := by decide +kernel
theorem dX6_voicesHeardRight_18 : decode cX6_voicesHeardRight 18 = .ok (.aload_n 0, 1) := by decide +kernel
theorem dX6_voicesHeardRight_19 : decode cX6_voicesHeardRight 19 = .ok (.getfield 23, 3) := by decide +kernel
theorem dX6_voicesHeardRight_22 : decode cX6_voicesHeardRight 22 = .ok (.getfield 112, 3) := by decide +kernel
theorem dX6_voicesHeardRight_25 : decode cX6_voicesHeardRight 25 = .ok (.if_icmp .ge 54, 3) := by decide +kernel
theorem dX6_voicesHeardRight_28 : decode cX6_voicesHeardRight 28 = .ok (.iload 4, 2) := by decide +kernel
theorem dX6_voicesHeardRight_30 : decode cX6_voicesHeardRight 30 = .ok (.aload_n 0, 1) := by decide +kernel
theorem dX6_voicesHeardRight_31 : decode cX6_voicesHeardRight 31 = .ok (.getfield 23, 3) := by decide +kernel
theorem dX6_voicesHeardRight_34 : decode cX6_voicesHeardRight 34 = .ok (.getfield 112, 3) := by decide +kernel
theorem dX6_voicesHeardRight_37 : decode cX6_voicesHeardRight 37 = .ok (.iadd, 1) := by decide +kernel
theorem dX6_voicesHeardRight_38 : decode cX6_voicesHeardRight 38 = .ok (.iload 5, 2) := by decide +kernel
theorem dX6_voicesHeardRight_40 : decode cX6_voicesHeardRight 40 = .ok (.isub, 1) := by decide +kernel
theorem dX6_voicesHeardRight_41 : decode cX6_voicesHeardRight 41 = .ok (.iload_n 3, 1) := by decide +kernel
theorem dX6_voicesHeardRight_42 : decode cX6_voicesHeardRight 42 = .ok (.if_icmp .lt 37, 3) := by decide +kernel
theorem dX6_voicesHeardRight_45 : decode cX6_voicesHeardRight 45 = .ok (.aload_n 0, 1) := by decide +kernel
theorem dX6_voicesHeardRight_46 : decode cX6_voicesHeardRight 46 = .ok (.getfield 37, 3) := by decide +kernel
theorem dX6_voicesHeardRight_49 : decode cX6_voicesHeardRight 49 = .ok (.iload_n 2, 1) := by decide +kernel
theorem dX6_voicesHeardRight_50 : decode cX6_voicesHeardRight 50 = .ok (.aload_n 0, 1) := by decide +kernel
theorem dX6_voicesHeardRight_51 : decode cX6_voicesHeardRight 51 = .ok (.getfield 23, 3) := by decide +kernel
theorem dX6_voicesHeardRight_54 : decode cX6_voicesHeardRight 54 = .ok (.getfield 151, 3) := by decide +kernel
theorem dX6_voicesHeardRight_57 : decode cX6_voicesHeardRight 57 = .ok (.iload 5, 2) := by decide +kernel
theorem dX6_voicesHeardRight_59 : decode cX6_voicesHeardRight 59 = .ok (.iaload, 1) := by decide +kernel
theorem dX6_voicesHeardRight_60 : decode cX6_voicesHeardRight 60 = .ok (.invokestatic 265, 3) := by decide +kernel
theorem dX6_voicesHeardRight_63 : decode cX6_voicesHeardRight 63 = .ok (.invokevirtual 193, 3) := by decide +kernel
theorem dX6_voicesHeardRight_66 : decode cX6_voicesHeardRight 66 = .ok (.iload_n 1, 1) := by decide +kernel
theorem dX6_voicesHeardRight_67 : decode cX6_voicesHeardRight 67 = .ok (.if_icmp .ne 6, 3) := by decide +kernel
theorem dX6_voicesHeardRight_70 : decode cX6_voicesHeardRight 70 = .ok (.iinc 4 1, 3) := by decide +kernel
theorem dX6_voicesHeardRight_73 : decode cX6_voicesHeardRight 73 = .ok (.iinc 5 1, 3) := by decide +kernel
theorem dX6_voicesHeardRight_76 : decode cX6_voicesHeardRight 76 = .ok (.goto (-60), 3) := by decide +kernel
theorem dX6_voicesHeardRight_79 : decode cX6_voicesHeardRight 79 = .ok (.iload 4, 2) := by decide +kernel
theorem dX6_voicesHeardRight_81 : decode cX6_voicesHeardRight 81 = .ok (.ireturn, 1) := by decide +kernel
theorem dX6_cost_0 : decode cX6_cost 0 = .ok (.iload_n 3, 1) := by decide +kernel
theorem dX6_cost_1 : decode cX6_cost 1 = .ok (.iconst 1, 1) := by decide +kernel
theorem dX6_cost_2 : decode cX6_cost 2 = .ok (.if_icmp .ne 11, 3) := by decide +kernel
theorem dX6_cost_5 : decode cX6_cost 5 = .ok (.aload_n 0, 1) := by decide +kernel
theorem dX6_cost_6 : decode cX6_cost 6 = .ok (.getfield 23, 3) := by decide +kernel
theorem dX6_cost_9 : decode cX6_cost 9 = .ok (.getfield 103, 3) := by decide +kernel
theorem dX6_cost_12 : decode cX6_cost 12 = .ok (.ireturn, 1) := by decide +kernel
theorem dX6_cost_13 : decode cX6_cost 13 = .ok (.iload_n 3, 1) := by decide +kernel
theorem dX6_cost_14 : decode cX6_cost 14 = .ok (.iconst 2, 1) := by decide +kernel
theorem dX6_cost_15 : decode cX6_cost 15 = .ok (.if_icmp .ne 11, 3) := by decide +kernel
theorem dX6_cost_18 : decode cX6_cost 18 = .ok (.aload_n 0, 1) := by decide +kernel
theorem dX6_cost_19 : decode cX6_cost 19 = .ok (.getfield 23, 3) := by decide +kernel
theorem dX6_cost_22 : decode cX6_cost 22 = .ok (.getfield 106, 3) := by decide +kernel
theorem dX6_cost_25 : decode cX6_cost 25 = .ok (.ireturn, 1) := by decide +kernel
theorem dX6_cost_26 : decode cX6_cost 26 = .ok (.aload_n 1, 1) := by decide +kernel
theorem dX6_cost_27 : decode cX6_cost 27 = .ok (.iload_n 2, 1) := by decide +kernel
theorem dX6_cost_28 : decode cX6_cost 28 = .ok (.invokevirtual 193, 3) := by decide +kernel
theorem dX6_cost_31 : decode cX6_cost 31 = .ok (.istore 4, 2) := by decide +kernel
theorem dX6_cost_33 : decode cX6_cost 33 = .ok (.aload_n 0, 1) := by decide +kernel
theorem dX6_cost_34 : decode cX6_cost 34 = .ok (.iload 4, 2) := by decide +kernel
theorem dX6_cost_36 : decode cX6_cost 36 = .ok (.invokevirtual 131, 3) := by decide +kernel
theorem dX6_cost_39 : decode cX6_cost 39 = .ok (.ifCond .ne 5, 3) := by decide +kernel
theorem dX6_cost_42 : decode cX6_cost 42 = .ok (.iconst 0, 1) := by decide +kernel
theorem dX6_cost_43 : decode cX6_cost 43 = .ok (.ireturn, 1) := by decide +kernel
theorem dX6_cost_44 : decode cX6_cost 44 = .ok (.ldc_w 268, 3) := by decide +kernel
theorem dX6_cost_47 : decode cX6_cost 47 = .ok (.aload_n 1, 1) := by decide +kernel
theorem dX6_cost_48 : decode cX6_cost 48 = .ok (.iload 4, 2) := by decide +kernel
theorem dX6_cost_50 : decode cX6_cost 50 = .ok (.iload_n 2, 1) := by decide +kernel
theorem dX6_cost_51 : decode cX6_cost 51 = .ok (.invokevirtual 196, 3) := by decide +kernel
theorem dX6_cost_54 : decode cX6_cost 54 = .ok (.isub, 1) := by decide +kernel
theorem dX6_cost_55 : decode cX6_cost 55 = .ok (.aload_n 0, 1) := by decide +kernel
theorem dX6_cost_56 : decode cX6_cost 56 = .ok (.getfield 23, 3) := by decide +kernel
theorem dX6_cost_59 : decode cX6_cost 59 = .ok (.getfield 142, 3) := by decide +kernel
theorem dX6_cost_62 : decode cX6_cost 62 = .ok (.iload 4, 2) := by decide +kernel
theorem dX6_cost_64 : decode cX6_cost 64 = .ok (.iaload, 1) := by decide +kernel
theorem dX6_cost_65 : decode cX6_cost 65 = .ok (.imul, 1) := by decide +kernel
theorem dX6_cost_66 : decode cX6_cost 66 = .ok (.ldc_w 268, 3) := by decide +kernel
theorem dX6_cost_69 : decode cX6_cost 69 = .ok (.idiv, 1) := by decide +kernel
theorem dX6_cost_70 : decode cX6_cost 70 = .ok (.ireturn, 1) := by decide +kernel
theorem dX6_cheapest_0 : decode cX6_cheapest 0 = .ok (.iconst 0, 1) := by decide +kernel
theorem dX6_cheapest_1 : decode cX6_cheapest 1 = .ok (.istore_n 3, 1) := by decide +kernel
theorem dX6_cheapest_2 : decode cX6_cheapest 2 = .ok (.aload_n 0, 1) := by decide +kernel
theorem dX6_cheapest_3 : decode cX6_cheapest 3 = .ok (.aload_n 1, 1) := by decide +kernel
theorem dX6_cheapest_4 : decode cX6_cheapest 4 = .ok (.iload_n 2, 1) := by decide +kernel
theorem dX6_cheapest_5 : decode cX6_cheapest 5 = .ok (.iconst 0, 1) := by decide +kernel
theorem dX6_cheapest_6 : decode cX6_cheapest 6 = .ok (.invokevirtual 203, 3) := by decide +kernel
theorem dX6_cheapest_9 : decode cX6_cheapest 9 = .ok (.istore 4, 2) := by decide +kernel
theorem dX6_cheapest_11 : decode cX6_cheapest 11 = .ok (.iconst 1, 1) := by decide +kernel
theorem dX6_cheapest_12 : decode cX6_cheapest 12 = .ok (.istore 5, 2) := by decide +kernel
theorem dX6_cheapest_14 : decode cX6_cheapest 14 = .ok (.iload 5, 2) := by decide +kernel
theorem dX6_cheapest_16 : decode cX6_cheapest 16 = .ok (.iconst 2, 1) := by decide +kernel
theorem dX6_cheapest_17 : decode cX6_cheapest 17 = .ok (.if_icmp .gt 33, 3) := by decide +kernel
theorem dX6_cheapest_20 : decode cX6_cheapest 20 = .ok (.aload_n 0, 1) := by decide +kernel
theorem dX6_cheapest_21 : decode cX6_cheapest 21 = .ok (.aload_n 1, 1) := by decide +kernel
theorem dX6_cheapest_22 : decode cX6_cheapest 22 = .ok (.iload_n 2, 1) := by decide +kernel
theorem dX6_cheapest_23 : decode cX6_cheapest 23 = .ok (.iload 5, 2) := by decide +kernel
theorem dX6_cheapest_25 : decode cX6_cheapest 25 = .ok (.invokevirtual 203, 3) := by decide +kernel
theorem dX6_cheapest_28 : decode cX6_cheapest 28 = .ok (.istore 6, 2) := by decide +kernel
theorem dX6_cheapest_30 : decode cX6_cheapest 30 = .ok (.iload 6, 2) := by decide +kernel
theorem dX6_cheapest_32 : decode cX6_cheapest 32 = .ok (.iload 4, 2) := by decide +kernel
theorem dX6_cheapest_34 : decode cX6_cheapest 34 = .ok (.if_icmp .ge 10, 3) := by decide +kernel
theorem dX6_cheapest_37 : decode cX6_cheapest 37 = .ok (.iload 5, 2) := by decide +kernel
theorem dX6_cheapest_39 : decode cX6_cheapest 39 = .ok (.istore_n 3, 1) := by decide +kernel
theorem dX6_cheapest_40 : decode cX6_cheapest 40 = .ok (.iload 6, 2) := by decide +kernel
theorem dX6_cheapest_42 : decode cX6_cheapest 42 = .ok (.istore 4, 2) := by decide +kernel
theorem dX6_cheapest_44 : decode cX6_cheapest 44 = .ok (.iinc 5 1, 3) := by decide +kernel
theorem dX6_cheapest_47 : decode cX6_cheapest 47 = .ok (.goto (-33), 3) := by decide +kernel
theorem dX6_cheapest_50 : decode cX6_cheapest 50 = .ok (.iload_n 3, 1) := by decide +kernel
theorem dX6_cheapest_51 : decode cX6_cheapest 51 = .ok (.ireturn, 1) := by decide +kernel
theorem dX6_takeIn_0 : decode cX6_takeIn 0 = .ok (.aload_n 0, 1) := by decide +kernel
theorem dX6_takeIn_1 : decode cX6_takeIn 1 = .ok (.aload_n 0, 1) := by decide +kernel
theorem dX6_takeIn_2 : decode cX6_takeIn 2 = .ok (.getfield 33, 3) := by decide +kernel
theorem dX6_takeIn_5 : decode cX6_takeIn 5 = .ok (.iload_n 1, 1) := by decide +kernel
theorem dX6_takeIn_6 : decode cX6_takeIn 6 = .ok (.invokevirtual 199, 3) := by decide +kernel
theorem dX6_takeIn_9 : decode cX6_takeIn 9 = .ok (.istore_n 2, 1) := by decide +kernel
theorem dX6_takeIn_10 : decode cX6_takeIn 10 = .ok (.aload_n 0, 1) := by decide +kernel
theorem dX6_takeIn_11 : decode cX6_takeIn 11 = .ok (.getfield 33, 3) := by decide +kernel
theorem dX6_takeIn_14 : decode cX6_takeIn 14 = .ok (.aload_n 0, 1) := by decide +kernel
theorem dX6_takeIn_15 : decode cX6_takeIn 15 = .ok (.getfield 33, 3) := by decide +kernel
theorem dX6_takeIn_18 : decode cX6_takeIn 18 = .ok (.iload_n 1, 1) := by decide +kernel
theorem dX6_takeIn_19 : decode cX6_takeIn 19 = .ok (.invokevirtual 193, 3) := by decide +kernel
theorem dX6_takeIn_22 : decode cX6_takeIn 22 = .ok (.iload_n 2, 1) := by decide +kernel
theorem dX6_takeIn_23 : decode cX6_takeIn 23 = .ok (.invokevirtual 269, 3) := by decide +kernel
theorem dX6_takeIn_26 : decode cX6_takeIn 26 = .ok (.iload_n 2, 1) := by decide +kernel
theorem dX6_takeIn_27 : decode cX6_takeIn 27 = .ok (.ireturn, 1) := by decide +kernel
theorem dX6_draw_0 : decode cX6_draw 0 = .ok (.iload_n 1, 1) := by decide +kernel
theorem dX6_draw_1 : decode cX6_draw 1 = .ok (.ifCond .gt 5, 3) := by decide +kernel
theorem dX6_draw_4 : decode cX6_draw 4 = .ok (.iconst 0, 1) := by decide +kernel
theorem dX6_draw_5 : decode cX6_draw 5 = .ok (.ireturn, 1) := by decide +kernel
theorem dX6_draw_6 : decode cX6_draw 6 = .ok (.aload_n 0, 1) := by decide +kernel
theorem dX6_draw_7 : decode cX6_draw 7 = .ok (.aload_n 0, 1) := by decide +kernel
theorem dX6_draw_8 : decode cX6_draw 8 = .ok (.getfield 53, 3) := by decide +kernel
theorem dX6_draw_11 : decode cX6_draw 11 = .ok (.i2l, 1) := by decide +kernel
theorem dX6_draw_12 : decode cX6_draw 12 = .ok (.ldc2_w 273, 3) := by decide +kernel
theorem dX6_draw_15 : decode cX6_draw 15 = .ok (.lmul, 1) := by decide +kernel
theorem dX6_draw_16 : decode cX6_draw 16 = .ok (.ldc2_w 275, 3) := by decide +kernel
theorem dX6_draw_19 : decode cX6_draw 19 = .ok (.ladd, 1) := by decide +kernel
theorem dX6_draw_20 : decode cX6_draw 20 = .ok (.ldc2_w 277, 3) := by decide +kernel
theorem dX6_draw_23 : decode cX6_draw 23 = .ok (.lrem, 1) := by decide +kernel
theorem dX6_draw_24 : decode cX6_draw 24 = .ok (.l2i, 1) := by decide +kernel
theorem dX6_draw_25 : decode cX6_draw 25 = .ok (.putfield 53, 3) := by decide +kernel
theorem dX6_draw_28 : decode cX6_draw 28 = .ok (.aload_n 0, 1) := by decide +kernel
theorem dX6_draw_29 : decode cX6_draw 29 = .ok (.getfield 53, 3) := by decide +kernel
theorem dX6_draw_32 : decode cX6_draw 32 = .ok (.ldc_w 279, 3) := by decide +kernel
theorem dX6_draw_35 : decode cX6_draw 35 = .ok (.idiv, 1) := by decide +kernel
theorem dX6_draw_36 : decode cX6_draw 36 = .ok (.iload_n 1, 1) := by decide +kernel
theorem dX6_draw_37 : decode cX6_draw 37 = .ok (.irem, 1) := by decide +kernel
theorem dX6_draw_38 : decode cX6_draw 38 = .ok (.ireturn, 1) := by decide +kernel
theorem dX6_couldHaveSpoken_0 : decode cX6_couldHaveSpoken 0 = .ok (.iconst 0, 1) := by decide +kernel
theorem dX6_couldHaveSpoken_1 : decode cX6_couldHaveSpoken 1 = .ok (.istore_n 2, 1) := by decide +kernel
theorem dX6_couldHaveSpoken_2 : decode cX6_couldHaveSpoken 2 = .ok (.iload_n 2, 1) := by decide +kernel
theorem dX6_couldHaveSpoken_3 : decode cX6_couldHaveSpoken 3 = .ok (.aload_n 0, 1) := by decide +kernel
theorem dX6_couldHaveSpoken_4 : decode cX6_couldHaveSpoken 4 = .ok (.getfield 61, 3) := by decide +kernel
theorem dX6_couldHaveSpoken_7 : decode cX6_couldHaveSpoken 7 = .ok (.getfield 127, 3) := by decide +kernel
theorem dX6_couldHaveSpoken_10 : decode cX6_couldHaveSpoken 10 = .ok (.if_icmp .ge 47, 3) := by decide +kernel
theorem dX6_couldHaveSpoken_13 : decode cX6_couldHaveSpoken 13 = .ok (.aload_n 0, 1) := by decide +kernel
theorem dX6_couldHaveSpoken_14 : decode cX6_couldHaveSpoken 14 = .ok (.getfield 61, 3) := by decide +kernel
theorem dX6_couldHaveSpoken_17 : decode cX6_couldHaveSpoken 17 = .ok (.getfield 247, 3) := by decide +kernel
theorem dX6_couldHaveSpoken_20 : decode cX6_couldHaveSpoken 20 = .ok (.iload_n 2, 1) := by decide +kernel
theorem dX6_couldHaveSpoken_21 : decode cX6_couldHaveSpoken 21 = .ok (.iaload, 1) := by decide +kernel
theorem dX6_couldHaveSpoken_22 : decode cX6_couldHaveSpoken 22 = .ok (.istore_n 3, 1) := by decide +kernel
theorem dX6_couldHaveSpoken_23 : decode cX6_couldHaveSpoken 23 = .ok (.aload_n 0, 1) := by decide +kernel
theorem dX6_couldHaveSpoken_24 : decode cX6_couldHaveSpoken 24 = .ok (.iload_n 3, 1) := by decide +kernel
theorem dX6_couldHaveSpoken_25 : decode cX6_couldHaveSpoken 25 = .ok (.invokevirtual 131, 3) := by decide +kernel
theorem dX6_couldHaveSpoken_28 : decode cX6_couldHaveSpoken 28 = .ok (.ifCond .eq 23, 3) := by decide +kernel
theorem dX6_couldHaveSpoken_31 : decode cX6_couldHaveSpoken 31 = .ok (.aload_n 0, 1) := by decide +kernel
theorem dX6_couldHaveSpoken_32 : decode cX6_couldHaveSpoken 32 = .ok (.iload_n 3, 1) := by decide +kernel
theorem dX6_couldHaveSpoken_33 : decode cX6_couldHaveSpoken 33 = .ok (.iload_n 1, 1) := by decide +kernel
theorem dX6_couldHaveSpoken_34 : decode cX6_couldHaveSpoken 34 = .ok (.invokevirtual 207, 3) := by decide +kernel
theorem dX6_couldHaveSpoken_37 : decode cX6_couldHaveSpoken 37 = .ok (.aload_n 0, 1) := by decide +kernel
theorem dX6_couldHaveSpoken_38 : decode cX6_couldHaveSpoken 38 = .ok (.getfield 61, 3) := by decide +kernel
theorem dX6_couldHaveSpoken_41 : decode cX6_couldHaveSpoken 41 = .ok (.getfield 250, 3) := by decide +kernel
theorem dX6_couldHaveSpoken_44 : decode cX6_couldHaveSpoken 44 = .ok (.iload_n 2, 1) := by decide +kernel
theorem dX6_couldHaveSpoken_45 : decode cX6_couldHaveSpoken 45 = .ok (.iaload, 1) := by decide +kernel
theorem dX6_couldHaveSpoken_46 : decode cX6_couldHaveSpoken 46 = .ok (.if_icmp .eq 5, 3) := by decide +kernel
theorem dX6_couldHaveSpoken_49 : decode cX6_couldHaveSpoken 49 = .ok (.iconst 0, 1) := by decide +kernel
theorem dX6_couldHaveSpoken_50 : decode cX6_couldHaveSpoken 50 = .ok (.ireturn, 1) := by decide +kernel
theorem dX6_couldHaveSpoken_51 : decode cX6_couldHaveSpoken 51 = .ok (.iinc 2 1, 3) := by decide +kernel
theorem dX6_couldHaveSpoken_54 : decode cX6_couldHaveSpoken 54 = .ok (.goto (-52), 3) := by decide +kernel
theorem dX6_couldHaveSpoken_57 : decode cX6_couldHaveSpoken 57 = .ok (.iconst 1, 1) := by decide +kernel
theorem dX6_couldHaveSpoken_58 : decode cX6_couldHaveSpoken 58 = .ok (.ireturn, 1) := by decide +kernel
theorem dX6_greatestPart_0 : decode cX6_greatestPart 0 = .ok (.iconst 0, 1) := by decide +kernel
theorem dX6_greatestPart_1 : decode cX6_greatestPart 1 = .ok (.istore_n 3, 1) := by decide +kernel
theorem dX6_greatestPart_2 : decode cX6_greatestPart 2 = .ok (.iconst 0, 1) := by decide +kernel
theorem dX6_greatestPart_3 : decode cX6_greatestPart 3 = .ok (.istore 4, 2) := by decide +kernel
theorem dX6_greatestPart_5 : decode cX6_greatestPart 5 = .ok (.iload 4, 2) := by decide +kernel
theorem dX6_greatestPart_7 : decode cX6_greatestPart 7 = .ok (.aload_n 0, 1) := by decide +kernel
theorem dX6_greatestPart_8 : decode cX6_greatestPart 8 = .ok (.getfield 23, 3) := by decide +kernel
theorem dX6_greatestPart_11 : decode cX6_greatestPart 11 = .ok (.getfield 100, 3) := by decide +kernel
theorem dX6_greatestPart_14 : decode cX6_greatestPart 14 = .ok (.if_icmp .ge 65, 3) := by decide +kernel
theorem dX6_greatestPart_17 : decode cX6_greatestPart 17 = .ok (.iconst 0, 1) := by decide +kernel
theorem dX6_greatestPart_18 : decode cX6_greatestPart 18 = .ok (.istore 5, 2) := by decide +kernel
theorem dX6_greatestPart_20 : decode cX6_greatestPart 20 = .ok (.iconst 0, 1) := by decide +kernel
theorem dX6_greatestPart_21 : decode cX6_greatestPart 21 = .ok (.istore 6, 2) := by decide +kernel
theorem dX6_greatestPart_23 : decode cX6_greatestPart 23 = .ok (.iload 6, 2) := by decide +kernel
theorem dX6_greatestPart_25 : decode cX6_greatestPart 25 = .ok (.aload_n 0, 1) := by decide +kernel
theorem dX6_greatestPart_26 : decode cX6_greatestPart 26 = .ok (.getfield 23, 3) := by decide +kernel
theorem dX6_greatestPart_29 : decode cX6_greatestPart 29 = .ok (.getfield 112, 3) := by decide +kernel
theorem dX6_greatestPart_32 : decode cX6_greatestPart 32 = .ok (.if_icmp .ge 34, 3) := by decide +kernel
theorem dX6_greatestPart_35 : decode cX6_greatestPart 35 = .ok (.iload_n 2, 1) := by decide +kernel
theorem dX6_greatestPart_36 : decode cX6_greatestPart 36 = .ok (.iload 6, 2) := by decide +kernel
theorem dX6_greatestPart_38 : decode cX6_greatestPart 38 = .ok (.ishr, 1) := by decide +kernel
theorem dX6_greatestPart_39 : decode cX6_greatestPart 39 = .ok (.iconst 1, 1) := by decide +kernel
theorem dX6_greatestPart_40 : decode cX6_greatestPart 40 = .ok (.iand, 1) := by decide +kernel
theorem dX6_greatestPart_41 : decode cX6_greatestPart 41 = .ok (.iconst 1, 1) := by decide +kernel
theorem dX6_greatestPart_42 : decode cX6_greatestPart 42 = .ok (.if_icmp .ne 18, 3) := by decide +kernel
theorem dX6_greatestPart_45 : decode cX6_greatestPart 45 = .ok (.aload_n 0, 1) := by decide +kernel
theorem dX6_greatestPart_46 : decode cX6_greatestPart 46 = .ok (.iload_n 1, 1) := by decide +kernel
theorem dX6_greatestPart_47 : decode cX6_greatestPart 47 = .ok (.iload 6, 2) := by decide +kernel
theorem dX6_greatestPart_49 : decode cX6_greatestPart 49 = .ok (.invokevirtual 207, 3) := by decide +kernel
theorem dX6_greatestPart_52 : decode cX6_greatestPart 52 = .ok (.iload 4, 2) := by decide +kernel
theorem dX6_greatestPart_54 : decode cX6_greatestPart 54 = .ok (.if_icmp .ne 6, 3) := by decide +kernel
theorem dX6_greatestPart_57 : decode cX6_greatestPart 57 = .ok (.iinc 5 1, 3) := by decide +kernel
theorem dX6_greatestPart_60 : decode cX6_greatestPart 60 = .ok (.iinc 6 1, 3) := by decide +kernel
theorem dX6_greatestPart_63 : decode cX6_greatestPart 63 = .ok (.goto (-40), 3) := by decide +kernel
theorem dX6_greatestPart_66 : decode cX6_greatestPart 66 = .ok (.iload_n 3, 1) := by decide +kernel
theorem dX6_greatestPart_67 : decode cX6_greatestPart 67 = .ok (.iload 5, 2) := by decide +kernel
theorem dX6_greatestPart_69 : decode cX6_greatestPart 69 = .ok (.invokestatic 280, 3) := by decide +kernel
theorem dX6_greatestPart_72 : decode cX6_greatestPart 72 = .ok (.istore_n 3, 1) := by decide +kernel
theorem dX6_greatestPart_73 : decode cX6_greatestPart 73 = .ok (.iinc 4 1, 3) := by decide +kernel
theorem dX6_greatestPart_76 : decode cX6_greatestPart 76 = .ok (.goto (-71), 3) := by decide +kernel
theorem dX6_greatestPart_79 : decode cX6_greatestPart 79 = .ok (.iload_n 3, 1) := by decide +kernel
theorem dX6_greatestPart_80 : decode cX6_greatestPart 80 = .ok (.ireturn, 1) := by decide +kernel
theorem dJ6_bitCount_0f7a4_0 : decode cJ6_bitCount_0f7a4 0 = .ok (.iload_n 0, 1) := by decide +kernel
theorem dJ6_bitCount_0f7a4_1 : decode cJ6_bitCount_0f7a4 1 = .ok (.iload_n 0, 1) := by decide +kernel
theorem dJ6_bitCount_0f7a4_2 : decode cJ6_bitCount_0f7a4 2 = .ok (.iconst 1, 1) := by decide +kernel
theorem dJ6_bitCount_0f7a4_3 : decode cJ6_bitCount_0f7a4 3 = .ok (.iushr, 1) := by decide +kernel
theorem dJ6_bitCount_0f7a4_4 : decode cJ6_bitCount_0f7a4 4 = .ok (.ldc_w 265, 3) := by decide +kernel
theorem dJ6_bitCount_0f7a4_7 : decode cJ6_bitCount_0f7a4 7 = .ok (.iand, 1) := by decide +kernel
theorem dJ6_bitCount_0f7a4_8 : decode cJ6_bitCount_0f7a4 8 = .ok (.isub, 1) := by decide +kernel
theorem dJ6_bitCount_0f7a4_9 : decode cJ6_bitCount_0f7a4 9 = .ok (.istore_n 0, 1) := by decide +kernel
theorem dJ6_bitCount_0f7a4_10 : decode cJ6_bitCount_0f7a4 10 = .ok (.iload_n 0, 1) := by decide +kernel
theorem dJ6_bitCount_0f7a4_11 : decode cJ6_bitCount_0f7a4 11 = .ok (.ldc_w 266, 3) := by decide +kernel
theorem dJ6_bitCount_0f7a4_14 : decode cJ6_bitCount_0f7a4 14 = .ok (.iand, 1) := by decide +kernel
theorem dJ6_bitCount_0f7a4_15 : decode cJ6_bitCount_0f7a4 15 = .ok (.iload_n 0, 1) := by decide +kernel
theorem dJ6_bitCount_0f7a4_16 : decode cJ6_bitCount_0f7a4 16 = .ok (.iconst 2, 1) := by decide +kernel
theorem dJ6_bitCount_0f7a4_17 : decode cJ6_bitCount_0f7a4 17 = .ok (.iushr, 1) := by decide +kernel
theorem dJ6_bitCount_0f7a4_18 : decode cJ6_bitCount_0f7a4 18 = .ok (.ldc_w 266, 3) := by decide +kernel
theorem dJ6_bitCount_0f7a4_21 : decode cJ6_bitCount_0f7a4 21 = .ok (.iand, 1) := by decide +kernel
theorem dJ6_bitCount_0f7a4_22 : decode cJ6_bitCount_0f7a4 22 = .ok (.iadd, 1) := by decide +kernel
theorem dJ6_bitCount_0f7a4_23 : decode cJ6_bitCount_0f7a4 23 = .ok (.istore_n 0, 1) := by decide +kernel
theorem dJ6_bitCount_0f7a4_24 : decode cJ6_bitCount_0f7a4 24 = .ok (.iload_n 0, 1) := by decide +kernel
theorem dJ6_bitCount_0f7a4_25 : decode cJ6_bitCount_0f7a4 25 = .ok (.iload_n 0, 1) := by decide +kernel
theorem dJ6_bitCount_0f7a4_26 : decode cJ6_bitCount_0f7a4 26 = .ok (.iconst 4, 1) := by decide +kernel
theorem dJ6_bitCount_0f7a4_27 : decode cJ6_bitCount_0f7a4 27 = .ok (.iushr, 1) := by decide +kernel
theorem dJ6_bitCount_0f7a4_28 : decode cJ6_bitCount_0f7a4 28 = .ok (.iadd, 1) := by decide +kernel
theorem dJ6_bitCount_0f7a4_29 : decode cJ6_bitCount_0f7a4 29 = .ok (.ldc_w 267, 3) := by decide +kernel
theorem dJ6_bitCount_0f7a4_32 : decode cJ6_bitCount_0f7a4 32 = .ok (.iand, 1) := by decide +kernel
theorem dJ6_bitCount_0f7a4_33 : decode cJ6_bitCount_0f7a4 33 = .ok (.istore_n 0, 1) := by decide +kernel
theorem dJ6_bitCount_0f7a4_34 : decode cJ6_bitCount_0f7a4 34 = .ok (.iload_n 0, 1) := by decide +kernel
theorem dJ6_bitCount_0f7a4_35 : decode cJ6_bitCount_0f7a4 35 = .ok (.iload_n 0, 1) := by decide +kernel
theorem dJ6_bitCount_0f7a4_36 : decode cJ6_bitCount_0f7a4 36 = .ok (.bipush 8, 2) := by decide +kernel
theorem dJ6_bitCount_0f7a4_38 : decode cJ6_bitCount_0f7a4 38 = .ok (.iushr, 1) := by decide +kernel
theorem dJ6_bitCount_0f7a4_39 : decode cJ6_bitCount_0f7a4 39 = .ok (.iadd, 1) := by decide +kernel
theorem dJ6_bitCount_0f7a4_40 : decode cJ6_bitCount_0f7a4 40 = .ok (.istore_n 0, 1) := by decide +kernel
theorem dJ6_bitCount_0f7a4_41 : decode cJ6_bitCount_0f7a4 41 = .ok (.iload_n 0, 1) := by decide +kernel
theorem dJ6_bitCount_0f7a4_42 : decode cJ6_bitCount_0f7a4 42 = .ok (.iload_n 0, 1) := by decide +kernel
theorem dJ6_bitCount_0f7a4_43 : decode cJ6_bitCount_0f7a4 43 = .ok (.bipush 16, 2) := by decide +kernel
theorem dJ6_bitCount_0f7a4_45 : decode cJ6_bitCount_0f7a4 45 = .ok (.iushr, 1) := by decide +kernel
theorem dJ6_bitCount_0f7a4_46 : decode cJ6_bitCount_0f7a4 46 = .ok (.iadd, 1) := by decide +kernel
theorem dJ6_bitCount_0f7a4_47 : decode cJ6_bitCount_0f7a4 47 = .ok (.istore_n 0, 1) := by decide +kernel
theorem dJ6_bitCount_0f7a4_48 : decode cJ6_bitCount_0f7a4 48 = .ok (.iload_n 0, 1) := by decide +kernel
theorem dJ6_bitCount_0f7a4_49 : decode cJ6_bitCount_0f7a4 49 = .ok (.bipush 63, 2) := by decide +kernel
theorem dJ6_bitCount_0f7a4_51 : decode cJ6_bitCount_0f7a4 51 = .ok (.iand, 1) := by decide +kernel
theorem dJ6_bitCount_0f7a4_52 : decode cJ6_bitCount_0f7a4 52 = .ok (.ireturn, 1) := by decide +kernel
theorem dJ9_abs_0f7a4_0 : decode cJ9_abs_0f7a4 0 = .ok (.iload_n 0, 1) := by decide +kernel
theorem dJ9_abs_0f7a4_1 : decode cJ9_abs_0f7a4 1 = .ok (.ifCond .ge 8, 3) := by decide +kernel
theorem dJ9_abs_0f7a4_4 : decode cJ9_abs_0f7a4 4 = .ok (.iload_n 0, 1) := by decide +kernel
theorem dJ9_abs_0f7a4_5 : decode cJ9_abs_0f7a4 5 = .ok (.ineg, 1) := by decide +kernel
theorem dJ9_abs_0f7a4_6 : decode cJ9_abs_0f7a4 6 = .ok (.goto 4, 3) := by decide +kernel
theorem dJ9_abs_0f7a4_9 : decode cJ9_abs_0f7a4 9 = .ok (.iload_n 0, 1) := by decide +kernel
theorem dJ9_abs_0f7a4_10 : decode cJ9_abs_0f7a4 10 = .ok (.ireturn, 1) := by decide +kernel
theorem dJ9_max_7cf53_0 : decode cJ9_max_7cf53 0 = .ok (.iload_n 0, 1) := by decide +kernel
theorem dJ9_max_7cf53_1 : decode cJ9_max_7cf53 1 = .ok (.iload_n 1, 1) := by decide +kernel
theorem dJ9_max_7cf53_2 : decode cJ9_max_7cf53 2 = .ok (.if_icmp .lt 7, 3) := by decide +kernel
theorem dJ9_max_7cf53_5 : decode cJ9_max_7cf53 5 = .ok (.iload_n 0, 1) := by decide +kernel
theorem dJ9_max_7cf53_6 : decode cJ9_max_7cf53 6 = .ok (.goto 4, 3) := by decide +kernel
theorem dJ9_max_7cf53_9 : decode cJ9_max_7cf53 9 = .ok (.iload_n 1, 1) := by decide +kernel
theorem dJ9_max_7cf53_10 : decode cJ9_max_7cf53 10 = .ok (.ireturn, 1) := by decide +kernel
theorem dJ9_min_7cf53_0 : decode cJ9_min_7cf53 0 = .ok (.iload_n 0, 1) := by decide +kernel
theorem dJ9_min_7cf53_1 : decode cJ9_min_7cf53 1 = .ok (.iload_n 1, 1) := by decide +kernel
theorem dJ9_min_7cf53_2 : decode cJ9_min_7cf53 2 = .ok (.if_icmp .gt 7, 3) := by decide +kernel
theorem dJ9_min_7cf53_5 : decode cJ9_min_7cf53 5 = .ok (.iload_n 0, 1) := by decide +kernel
theorem dJ9_min_7cf53_6 : decode cJ9_min_7cf53 6 = .ok (.goto 4, 3) := by decide +kernel
theorem dJ9_min_7cf53_9 : decode cJ9_min_7cf53 9 = .ok (.iload_n 1, 1) := by decide +kernel
theorem dJ9_min_7cf53_10 : decode cJ9_min_7cf53 10 = .ok (.ireturn, 1) := by decide +kernel
end
section
theorem dX7_init_0 : decode cX7_init 0 = .ok (.aload_n 0, 1) := by decide +kernel
theorem dX7_init_1 : decode cX7_init 1 = .ok (.invokespecial 1, 3) := by decide +kernel
theorem dX7_init_4 : decode cX7_init 4 = .ok (.aload_n 0, 1) := by decide +kernel
theorem dX7_init_5 : decode cX7_init 5 = .ok (.sipush 240, 3) := by decide +kernel
theorem dX7_init_8 : decode cX7_init 8 = .ok (.newarray .int, 2) := by decide +kernel
theorem dX7_init_10 : decode cX7_init 10 = .ok (.putfield 7, 3) := by decide +kernel
theorem dX7_init_13 : decode cX7_init 13 = .ok (.aload_n 0, 1) := by decide +kernel
theorem dX7_init_14 : decode cX7_init 14 = .ok (.iconst (-1), 1) := by decide +kernel
theorem dX7_init_15 : decode cX7_init 15 = .ok (.putfield 13, 3) := by decide +kernel
theorem dX7_init_18 : decode cX7_init 18 = .ok (.aload_n 0, 1) := by decide +kernel
theorem dX7_init_19 : decode cX7_init 19 = .ok (.iconst 3, 1) := by decide +kernel
theorem dX7_init_20 : decode cX7_init 20 = .ok (.newarray .int, 2) := by decide +kernel
theorem dX7_init_22 : decode cX7_init 22 = .ok (.putfield 17, 3) := by decide +kernel
theorem dX7_init_25 : decode cX7_init 25 = .ok (.aload_n 0, 1) := by decide +kernel
theorem dX7_init_26 : decode cX7_init 26 = .ok (.bipush 24, 2) := by decide +kernel
theorem dX7_init_28 : decode cX7_init 28 = .ok (.newarray .int, 2) := by decide +kernel
theorem dX7_init_30 : decode cX7_init 30 = .ok (.putfield 20, 3) := by decide +kernel
theorem dX7_init_33 : decode cX7_init 33 = .ok (.aload_n 0, 1) := by decide +kernel
theorem dX7_init_34 : decode cX7_init 34 = .ok (.iconst 4, 1) := by decide +kernel
theorem dX7_init_35 : decode cX7_init 35 = .ok (.newarray .int, 2) := by decide +kernel
theorem dX7_init_37 : decode cX7_init 37 = .ok (.putfield 23, 3) := by decide +kernel
theorem dX7_init_40 : decode cX7_init 40 = .ok (.aload_n 0, 1) := by decide +kernel
theorem dX7_init_41 : decode cX7_init 41 = .ok (.iconst 3, 1) := by decide +kernel
theorem dX7_init_42 : decode cX7_init 42 = .ok (.newarray .int, 2) := by decide +kernel
theorem dX7_init_44 : decode cX7_init 44 = .ok (.putfield 26, 3) := by decide +kernel
theorem dX7_init_47 : decode cX7_init 47 = .ok (.aload_n 0, 1) := by decide +kernel
theorem dX7_init_48 : decode cX7_init 48 = .ok (.bipush 8, 2) := by decide +kernel
theorem dX7_init_50 : decode cX7_init 50 = .ok (.newarray .int, 2) := by decide +kernel
theorem dX7_init_52 : decode cX7_init 52 = .ok (.putfield 29, 3) := by decide +kernel
theorem dX7_init_55 : decode cX7_init 55 = .ok (.aload_n 0, 1) := by decide +kernel
theorem dX7_init_56 : decode cX7_init 56 = .ok (.iconst 4, 1) := by decide +kernel
theorem dX7_init_57 : decode cX7_init 57 = .ok (.newarray .int, 2) := by decide +kernel
theorem dX7_init_59 : decode cX7_init 59 = .ok (.putfield 32, 3) := by decide +kernel
theorem dX7_init_62 : decode cX7_init 62 = .ok (.aload_n 0, 1) := by decide +kernel
theorem dX7_init_63 : decode cX7_init 63 = .ok (.bipush 27, 2) := by decide +kernel
theorem dX7_init_65 : decode cX7_init 65 = .ok (.newarray .int, 2) := by decide +kernel
theorem dX7_init_67 : decode cX7_init 67 = .ok (.putfield 35, 3) := by decide +kernel
theorem dX7_init_70 : decode cX7_init 70 = .ok (.aload_n 0, 1) := by decide +kernel
theorem dX7_init_71 : decode cX7_init 71 = .ok (.sipush 540, 3) := by decide +kernel
theorem dX7_init_74 : decode cX7_init 74 = .ok (.newarray .int, 2) := by decide +kernel
theorem dX7_init_76 : decode cX7_init 76 = .ok (.putfield 38, 3) := by decide +kernel
theorem dX7_init_79 : decode cX7_init 79 = .ok (.aload_n 0, 1) := by decide +kernel
theorem dX7_init_80 : decode cX7_init 80 = .ok (.bipush 12, 2) := by decide +kernel
theorem dX7_init_82 : decode cX7_init 82 = .ok (.newarray .int, 2) := by decide +kernel
theorem dX7_init_84 : decode cX7_init 84 = .ok (.putfield 41, 3) := by decide +kernel
theorem dX7_init_87 : decode cX7_init 87 = .ok (.aload_n 0, 1) := by decide +kernel
theorem dX7_init_88 : decode cX7_init 88 = .ok (.bipush 30, 2) := by decide +kernel
theorem dX7_init_90 : decode cX7_init 90 = .ok (.newarray .int, 2) := by decide +kernel
theorem dX7_init_92 : decode cX7_init 92 = .ok (.putfield 44, 3) := by decide +kernel
theorem dX7_init_95 : decode cX7_init 95 = .ok (.aload_n 0, 1) := by decide +kernel
theorem dX7_init_96 : decode cX7_init 96 = .ok (.iconst 2, 1) := by decide +kernel
theorem dX7_init_97 : decode cX7_init 97 = .ok (.newarray .boolean, 2) := by decide +kernel
theorem dX7_init_99 : decode cX7_init 99 = .ok (.putfield 47, 3) := by decide +kernel
theorem dX7_init_102 : decode cX7_init 102 = .ok (.aload_n 0, 1) := by decide +kernel
theorem dX7_init_103 : decode cX7_init 103 = .ok (.bipush 54, 2) := by decide +kernel
theorem dX7_init_105 : decode cX7_init 105 = .ok (.newarray .int, 2) := by decide +kernel
theorem dX7_init_107 : decode cX7_init 107 = .ok (.putfield 51, 3) := by decide +kernel
theorem dX7_init_110 : decode cX7_init 110 = .ok (.aload_n 0, 1) := by decide +kernel
theorem dX7_init_111 : decode cX7_init 111 = .ok (.iconst 2, 1) := by decide +kernel
theorem dX7_init_112 : decode cX7_init 112 = .ok (.newarray .long, 2) := by decide +kernel
theorem dX7_init_114 : decode cX7_init 114 = .ok (.putfield 54, 3) := by decide +kernel
theorem dX7_init_117 : decode cX7_init 117 = .ok (.aload_n 0, 1) := by decide +kernel
theorem dX7_init_118 : decode cX7_init 118 = .ok (.getfield 35, 3) := by decide +kernel
theorem dX7_init_121 : decode cX7_init 121 = .ok (.bipush 26, 2) := by decide +kernel
theorem dX7_init_123 : decode cX7_init 123 = .ok (.iconst (-1), 1) := by decide +kernel
theorem dX7_init_124 : decode cX7_init 124 = .ok (.iastore, 1) := by decide +kernel
theorem dX7_init_125 : decode cX7_init 125 = .ok (.return_, 1) := by decide +kernel
theorem dX7_in_0 : decode cX7_in 0 = .ok (.iload_n 0, 1) := by decide +kernel
theorem dX7_in_1 : decode cX7_in 1 = .ok (.iload_n 1, 1) := by decide +kernel
theorem dX7_in_2 : decode cX7_in 2 = .ok (.if_icmp .lt 12, 3) := by decide +kernel
theorem dX7_in_5 : decode cX7_in 5 = .ok (.iload_n 0, 1) := by decide +kernel
theorem dX7_in_6 : decode cX7_in 6 = .ok (.iload_n 2, 1) := by decide +kernel
theorem dX7_in_7 : decode cX7_in 7 = .ok (.if_icmp .gt 7, 3) := by decide +kernel
theorem dX7_in_10 : decode cX7_in 10 = .ok (.iconst 1, 1) := by decide +kernel
theorem dX7_in_11 : decode cX7_in 11 = .ok (.goto 4, 3) := by decide +kernel
theorem dX7_in_14 : decode cX7_in 14 = .ok (.iconst 0, 1) := by decide +kernel
theorem dX7_in_15 : decode cX7_in 15 = .ok (.ireturn, 1) := by decide +kernel
theorem dX7_bits_0 : decode cX7_bits 0 = .ok (.iconst 0, 1) := by decide +kernel
theorem dX7_bits_1 : decode cX7_bits 1 = .ok (.istore_n 1, 1) := by decide +kernel
theorem dX7_bits_2 : decode cX7_bits 2 = .ok (.iload_n 0, 1) := by decide +kernel
theorem dX7_bits_3 : decode cX7_bits 3 = .ok (.istore_n 2, 1) := by decide +kernel
theorem dX7_bits_4 : decode cX7_bits 4 = .ok (.iload_n 2, 1) := by decide +kernel
theorem dX7_bits_5 : decode cX7_bits 5 = .ok (.ifCond .eq 15, 3) := by decide +kernel
theorem dX7_bits_8 : decode cX7_bits 8 = .ok (.iinc 1 1, 3) := by decide +kernel
theorem dX7_bits_11 : decode cX7_bits 11 = .ok (.iload_n 2, 1) := by decide +kernel
theorem dX7_bits_12 : decode cX7_bits 12 = .ok (.iload_n 2, 1) := by decide +kernel
theorem dX7_bits_13 : decode cX7_bits 13 = .ok (.iconst 1, 1) := by decide +kernel
theorem dX7_bits_14 : decode cX7_bits 14 = .ok (.isub, 1) := by decide +kernel
theorem dX7_bits_15 : decode cX7_bits 15 = .ok (.iand, 1) := by decide +kernel
theorem dX7_bits_16 : decode cX7_bits 16 = .ok (.istore_n 2, 1) := by decide +kernel
theorem dX7_bits_17 : decode cX7_bits 17 = .ok (.goto (-13), 3) := by decide +kernel
theorem dX7_bits_20 : decode cX7_bits 20 = .ok (.iload_n 1, 1) := by decide +kernel
theorem dX7_bits_21 : decode cX7_bits 21 = .ok (.ireturn, 1) := by decide +kernel
theorem dX7_feed_0 : decode cX7_feed 0 = .ok (.iload_n 1, 1) := by decide +kernel
theorem dX7_feed_1 : decode cX7_feed 1 = .ok (.iconst 0, 1) := by decide +kernel
theorem dX7_feed_2 : decode cX7_feed 2 = .ok (.sipush 255, 3) := by decide +kernel
theorem dX7_feed_5 : decode cX7_feed 5 = .ok (.invokestatic 58, 3) := by decide +kernel
theorem dX7_feed_8 : decode cX7_feed 8 = .ok (.ifCond .ne 6, 3) := by decide +kernel
theorem dX7_feed_11 : decode cX7_feed 11 = .ok (.ldc 62, 2) := by decide +kernel
theorem dX7_feed_13 : decode cX7_feed 13 = .ok (.ireturn, 1) := by decide +kernel
theorem dX7_feed_14 : decode cX7_feed 14 = .ok (.aload_n 0, 1) := by decide +kernel
theorem dX7_feed_15 : decode cX7_feed 15 = .ok (.getfield 63, 3) := by decide +kernel
theorem dX7_feed_18 : decode cX7_feed 18 = .ok (.sipush 240, 3) := by decide +kernel
theorem dX7_feed_21 : decode cX7_feed 21 = .ok (.if_icmp .ne 6, 3) := by decide +kernel
theorem dX7_feed_24 : decode cX7_feed 24 = .ok (.ldc 66, 2) := by decide +kernel
theorem dX7_feed_26 : decode cX7_feed 26 = .ok (.ireturn, 1) := by decide +kernel
theorem dX7_feed_27 : decode cX7_feed 27 = .ok (.aload_n 0, 1) := by decide +kernel
theorem dX7_feed_28 : decode cX7_feed 28 = .ok (.getfield 7, 3) := by decide +kernel
theorem dX7_feed_31 : decode cX7_feed 31 = .ok (.aload_n 0, 1) := by decide +kernel
theorem dX7_feed_32 : decode cX7_feed 32 = .ok (.getfield 63, 3) := by decide +kernel
theorem dX7_feed_35 : decode cX7_feed 35 = .ok (.iload_n 1, 1) := by decide +kernel
theorem dX7_feed_36 : decode cX7_feed 36 = .ok (.iastore, 1) := by decide +kernel
theorem dX7_feed_37 : decode cX7_feed 37 = .ok (.aload_n 0, 1) := by decide +kernel
theorem dX7_feed_38 : decode cX7_feed 38 = .ok (.dup, 1) := by decide +kernel
theorem dX7_feed_39 : decode cX7_feed 39 = .ok (.getfield 63, 3) := by decide +kernel
theorem dX7_feed_42 : decode cX7_feed 42 = .ok (.iconst 1, 1) := by decide +kernel
theorem dX7_feed_43 : decode cX7_feed 43 = .ok (.iadd, 1) := by decide +kernel
theorem dX7_feed_44 : decode cX7_feed 44 = .ok (.putfield 63, 3) := by decide +kernel
theorem dX7_feed_47 : decode cX7_feed 47 = .ok (.aload_n 0, 1) := by decide +kernel
theorem dX7_feed_48 : decode cX7_feed 48 = .ok (.getfield 63, 3) := by decide +kernel
theorem dX7_feed_51 : decode cX7_feed 51 = .ok (.ireturn, 1) := by decide +kernel
theorem dX7_fault_0 : decode cX7_fault 0 = .ok (.aload_n 0, 1) := by decide +kernel
theorem dX7_fault_1 : decode cX7_fault 1 = .ok (.getfield 13, 3) := by decide +kernel
theorem dX7_fault_4 : decode cX7_fault 4 = .ok (.ireturn, 1) := by decide +kernel
theorem dX7_letterAt_0 : decode cX7_letterAt 0 = .ok (.iload_n 1, 1) := by decide +kernel
theorem dX7_letterAt_1 : decode cX7_letterAt 1 = .ok (.aload_n 0, 1) := by decide +kernel
theorem dX7_letterAt_2 : decode cX7_letterAt 2 = .ok (.getfield 63, 3) := by decide +kernel
theorem dX7_letterAt_5 : decode cX7_letterAt 5 = .ok (.if_icmp .ge 12, 3) := by decide +kernel
theorem dX7_letterAt_8 : decode cX7_letterAt 8 = .ok (.aload_n 0, 1) := by decide +kernel
theorem dX7_letterAt_9 : decode cX7_letterAt 9 = .ok (.getfield 7, 3) := by decide +kernel
theorem dX7_letterAt_12 : decode cX7_letterAt 12 = .ok (.iload_n 1, 1) := by decide +kernel
theorem dX7_letterAt_13 : decode cX7_letterAt 13 = .ok (.iaload, 1) := by decide +kernel
theorem dX7_letterAt_14 : decode cX7_letterAt 14 = .ok (.goto 4, 3) := by decide +kernel
theorem dX7_letterAt_17 : decode cX7_letterAt 17 = .ok (.iconst (-1), 1) := by decide +kernel
theorem dX7_letterAt_18 : decode cX7_letterAt 18 = .ok (.ireturn, 1) := by decide +kernel
theorem dX7_blanks_0 : decode cX7_blanks 0 = .ok (.aload_n 0, 1) := by decide +kernel
theorem dX7_blanks_1 : decode cX7_blanks 1 = .ok (.aload_n 0, 1) := by decide +kernel
theorem dX7_blanks_2 : decode cX7_blanks 2 = .ok (.getfield 67, 3) := by decide +kernel
theorem dX7_blanks_5 : decode cX7_blanks 5 = .ok (.invokevirtual 70, 3) := by decide +kernel
theorem dX7_blanks_8 : decode cX7_blanks 8 = .ok (.bipush 32, 2) := by decide +kernel
theorem dX7_blanks_10 : decode cX7_blanks 10 = .ok (.if_icmp .ne 16, 3) := by decide +kernel
theorem dX7_blanks_13 : decode cX7_blanks 13 = .ok (.aload_n 0, 1) := by decide +kernel
theorem dX7_blanks_14 : decode cX7_blanks 14 = .ok (.dup, 1) := by decide +kernel
theorem dX7_blanks_15 : decode cX7_blanks 15 = .ok (.getfield 67, 3) := by decide +kernel
theorem dX7_blanks_18 : decode cX7_blanks 18 = .ok (.iconst 1, 1) := by decide +kernel
theorem dX7_blanks_19 : decode cX7_blanks 19 = .ok (.iadd, 1) := by decide +kernel
theorem dX7_blanks_20 : decode cX7_blanks 20 = .ok (.putfield 67, 3) := by decide +kernel
theorem dX7_blanks_23 : decode cX7_blanks 23 = .ok (.goto (-23), 3) := by decide +kernel
theorem dX7_blanks_26 : decode cX7_blanks 26 = .ok (.return_, 1) := by decide +kernel
theorem dX7_fails_0 : decode cX7_fails 0 = .ok (.aload_n 0, 1) := by decide +kernel
theorem dX7_fails_1 : decode cX7_fails 1 = .ok (.iload_n 1, 1) := by decide +kernel
theorem dX7_fails_2 : decode cX7_fails 2 = .ok (.putfield 74, 3) := by decide +kernel
theorem dX7_fails_5 : decode cX7_fails 5 = .ok (.iconst 0, 1) := by decide +kernel
theorem dX7_fails_6 : decode cX7_fails 6 = .ok (.ireturn, 1) := by decide +kernel
theorem dX7_number_0 : decode cX7_number 0 = .ok (.aload_n 0, 1) := by decide +kernel
theorem dX7_number_1 : decode cX7_number 1 = .ok (.invokevirtual 77, 3) := by decide +kernel
theorem dX7_number_4 : decode cX7_number 4 = .ok (.aload_n 0, 1) := by decide +kernel
theorem dX7_number_5 : decode cX7_number 5 = .ok (.getfield 67, 3) := by decide +kernel
theorem dX7_number_8 : decode cX7_number 8 = .ok (.istore_n 2, 1) := by decide +kernel
theorem dX7_number_9 : decode cX7_number 9 = .ok (.iconst 0, 1) := by decide +kernel
theorem dX7_number_10 : decode cX7_number 10 = .ok (.istore_n 3, 1) := by decide +kernel
theorem dX7_number_11 : decode cX7_number 11 = .ok (.aload_n 0, 1) := by decide +kernel
theorem dX7_number_12 : decode cX7_number 12 = .ok (.iload_n 2, 1) := by decide +kernel
theorem dX7_number_13 : decode cX7_number 13 = .ok (.invokevirtual 70, 3) := by decide +kernel
theorem dX7_number_16 : decode cX7_number 16 = .ok (.bipush 48, 2) := by decide +kernel
theorem dX7_number_18 : decode cX7_number 18 = .ok (.bipush 57, 2) := by decide +kernel
theorem dX7_number_20 : decode cX7_number 20 = .ok (.invokestatic 58, 3) := by decide +kernel
theorem dX7_number_23 : decode cX7_number 23 = .ok (.ifCond .eq 37, 3) := by decide +kernel
theorem dX7_number_26 : decode cX7_number 26 = .ok (.iload_n 2, 1) := by decide +kernel
theorem dX7_number_27 : decode cX7_number 27 = .ok (.aload_n 0, 1) := by decide +kernel
theorem dX7_number_28 : decode cX7_number 28 = .ok (.getfield 67, 3) := by decide +kernel
theorem dX7_number_31 : decode cX7_number 31 = .ok (.isub, 1) := by decide +kernel
theorem dX7_number_32 : decode cX7_number 32 = .ok (.iconst 3, 1) := by decide +kernel
theorem dX7_number_33 : decode cX7_number 33 = .ok (.if_icmp .ge 19, 3) := by decide +kernel
theorem dX7_number_36 : decode cX7_number 36 = .ok (.bipush 10, 2) := by decide +kernel
theorem dX7_number_38 : decode cX7_number 38 = .ok (.iload_n 3, 1) := by decide +kernel
theorem dX7_number_39 : decode cX7_number 39 = .ok (.imul, 1) := by decide +kernel
theorem dX7_number_40 : decode cX7_number 40 = .ok (.aload_n 0, 1) := by decide +kernel
theorem dX7_number_41 : decode cX7_number 41 = .ok (.iload_n 2, 1) := by decide +kernel
theorem dX7_number_42 : decode cX7_number 42 = .ok (.invokevirtual 70, 3) := by decide +kernel
theorem dX7_number_45 : decode cX7_number 45 = .ok (.iadd, 1) := by decide +kernel
theorem dX7_number_46 : decode cX7_number 46 = .ok (.bipush 48, 2) := by decide +kernel
theorem dX7_number_48 : decode cX7_number 48 = .ok (.isub, 1) := by decide +kernel
theorem dX7_number_49 : decode cX7_number 49 = .ok (.goto 4, 3) := by decide +kernel
theorem dX7_number_52 : decode cX7_number 52 = .ok (.iload_n 3, 1) := by decide +kernel
theorem dX7_number_53 : decode cX7_number 53 = .ok (.istore_n 3, 1) := by decide +kernel
theorem dX7_number_54 : decode cX7_number 54 = .ok (.iinc 2 1, 3) := by decide +kernel
theorem dX7_number_57 : decode cX7_number 57 = .ok (.goto (-46), 3) := by decide +kernel
theorem dX7_number_60 : decode cX7_number 60 = .ok (.iload_n 2, 1) := by decide +kernel
theorem dX7_number_61 : decode cX7_number 61 = .ok (.aload_n 0, 1) := by decide +kernel
theorem dX7_number_62 : decode cX7_number 62 = .ok (.getfield 67, 3) := by decide +kernel
theorem dX7_number_65 : decode cX7_number 65 = .ok (.isub, 1) := by decide +kernel
theorem dX7_number_66 : decode cX7_number 66 = .ok (.istore 4, 2) := by decide +kernel
theorem dX7_number_68 : decode cX7_number 68 = .ok (.iload 4, 2) := by decide +kernel
theorem dX7_number_70 : decode cX7_number 70 = .ok (.ifCond .eq 14, 3) := by decide +kernel
theorem dX7_number_73 : decode cX7_number 73 = .ok (.iload 4, 2) := by decide +kernel
theorem dX7_number_75 : decode cX7_number 75 = .ok (.iconst 3, 1) := by decide +kernel
theorem dX7_number_76 : decode cX7_number 76 = .ok (.if_icmp .gt 8, 3) := by decide +kernel
theorem dX7_number_79 : decode cX7_number 79 = .ok (.iload_n 3, 1) := by decide +kernel
theorem dX7_number_80 : decode cX7_number 80 = .ok (.iload_n 1, 1) := by decide +kernel
theorem dX7_number_81 : decode cX7_number 81 = .ok (.if_icmp .le 20, 3) := by decide +kernel
theorem dX7_number_84 : decode cX7_number 84 = .ok (.aload_n 0, 1) := by decide +kernel
theorem dX7_number_85 : decode cX7_number 85 = .ok (.iload 4, 2) := by decide +kernel
theorem dX7_number_87 : decode cX7_number 87 = .ok (.ifCond .ne 7, 3) := by decide +kernel
theorem dX7_number_90 : decode cX7_number 90 = .ok (.iconst 1, 1) := by decide +kernel
theorem dX7_number_91 : decode cX7_number 91 = .ok (.goto 4, 3) := by decide +kernel
theorem dX7_number_94 : decode cX7_number 94 = .ok (.iconst 2, 1) := by decide +kernel
theorem dX7_number_95 : decode cX7_number 95 = .ok (.invokevirtual 80, 3) := by decide +kernel
theorem dX7_number_98 : decode cX7_number 98 = .ok (.pop, 1) := by decide +kernel
theorem dX7_number_99 : decode cX7_number 99 = .ok (.iconst (-1), 1) := by decide +kernel
theorem dX7_number_100 : decode cX7_number 100 = .ok (.ireturn, 1) := by decide +kernel
theorem dX7_number_101 : decode cX7_number 101 = .ok (.aload_n 0, 1) := by decide +kernel
theorem dX7_number_102 : decode cX7_number 102 = .ok (.iload_n 2, 1) := by decide +kernel
theorem dX7_number_103 : decode cX7_number 103 = .ok (.putfield 67, 3) := by decide +kernel
theorem dX7_number_106 : decode cX7_number 106 = .ok (.iload_n 3, 1) := by decide +kernel
theorem dX7_number_107 : decode cX7_number 107 = .ok (.ireturn, 1) := by decide +kernel
theorem dX7_ends_0 : decode cX7_ends 0 = .ok (.aload_n 0, 1) := by decide +kernel
theorem dX7_ends_1 : decode cX7_ends 1 = .ok (.invokevirtual 77, 3) := by decide +kernel
theorem dX7_ends_4 : decode cX7_ends 4 = .ok (.aload_n 0, 1) := by decide +kernel
theorem dX7_ends_5 : decode cX7_ends 5 = .ok (.aload_n 0, 1) := by decide +kernel
theorem dX7_ends_6 : decode cX7_ends 6 = .ok (.getfield 67, 3) := by decide +kernel
theorem dX7_ends_9 : decode cX7_ends 9 = .ok (.invokevirtual 70, 3) := by decide +kernel
theorem dX7_ends_12 : decode cX7_ends 12 = .ok (.bipush 59, 2) := by decide +kernel
theorem dX7_ends_14 : decode cX7_ends 14 = .ok (.if_icmp .eq 9, 3) := by decide +kernel
theorem dX7_ends_17 : decode cX7_ends 17 = .ok (.aload_n 0, 1) := by decide +kernel
theorem dX7_ends_18 : decode cX7_ends 18 = .ok (.iconst 1, 1) := by decide +kernel
theorem dX7_ends_19 : decode cX7_ends 19 = .ok (.invokevirtual 80, 3) := by decide +kernel
theorem dX7_ends_22 : decode cX7_ends 22 = .ok (.ireturn, 1) := by decide +kernel
theorem dX7_ends_23 : decode cX7_ends 23 = .ok (.aload_n 0, 1) := by decide +kernel
theorem dX7_ends_24 : decode cX7_ends 24 = .ok (.dup, 1) := by decide +kernel
theorem dX7_ends_25 : decode cX7_ends 25 = .ok (.getfield 67, 3) := by decide +kernel
theorem dX7_ends_28 : decode cX7_ends 28 = .ok (.iconst 1, 1) := by decide +kernel
theorem dX7_ends_29 : decode cX7_ends 29 = .ok (.iadd, 1) := by decide +kernel
theorem dX7_ends_30 : decode cX7_ends 30 = .ok (.putfield 67, 3) := by decide +kernel
theorem dX7_ends_33 : decode cX7_ends 33 = .ok (.iconst 1, 1) := by decide +kernel
theorem dX7_ends_34 : decode cX7_ends 34 = .ok (.ireturn, 1) := by decide +kernel
theorem dX7_readsBox_0 : decode cX7_readsBox 0 = .ok (.iload_n 1, 1) := by decide +kernel
theorem dX7_readsBox_1 : decode cX7_readsBox 1 = .ok (.ifCond .ne 9, 3) := by decide +kernel
theorem dX7_readsBox_4 : decode cX7_readsBox 4 = .ok (.aload_n 0, 1) := by decide +kernel
theorem dX7_readsBox_5 : decode cX7_readsBox 5 = .ok (.iconst 3, 1) := by decide +kernel
theorem dX7_readsBox_6 : decode cX7_readsBox 6 = .ok (.invokevirtual 80, 3) := by decide +kernel
theorem dX7_readsBox_9 : decode cX7_readsBox 9 = .ok (.ireturn, 1) := by decide +kernel
theorem dX7_readsBox_10 : decode cX7_readsBox 10 = .ok (.aload_n 0, 1) := by decide +kernel
theorem dX7_readsBox_11 : decode cX7_readsBox 11 = .ok (.dup, 1) := by decide +kernel
theorem dX7_readsBox_12 : decode cX7_readsBox 12 = .ok (.getfield 67, 3) := by decide +kernel
theorem dX7_readsBox_15 : decode cX7_readsBox 15 = .ok (.iconst 1, 1) := by decide +kernel
theorem dX7_readsBox_16 : decode cX7_readsBox 16 = .ok (.iadd, 1) := by decide +kernel
theorem dX7_readsBox_17 : decode cX7_readsBox 17 = .ok (.putfield 67, 3) := by decide +kernel
theorem dX7_readsBox_20 : decode cX7_readsBox 20 = .ok (.iconst 0, 1) := by decide +kernel
theorem dX7_readsBox_21 : decode cX7_readsBox 21 = .ok (.istore_n 2, 1) := by decide +kernel
theorem dX7_readsBox_22 : decode cX7_readsBox 22 = .ok (.iload_n 2, 1) := by decide +kernel
theorem dX7_readsBox_23 : decode cX7_readsBox 23 = .ok (.iconst 3, 1) := by decide +kernel
theorem dX7_readsBox_24 : decode cX7_readsBox 24 = .ok (.if_icmp .ge 43, 3) := by decide +kernel
theorem dX7_readsBox_27 : decode cX7_readsBox 27 = .ok (.aload_n 0, 1) := by decide +kernel
theorem dX7_readsBox_28 : decode cX7_readsBox 28 = .ok (.getfield 17, 3) := by decide +kernel
theorem dX7_readsBox_31 : decode cX7_readsBox 31 = .ok (.iload_n 2, 1) := by decide +kernel
theorem dX7_readsBox_32 : decode cX7_readsBox 32 = .ok (.aload_n 0, 1) := by decide +kernel
theorem dX7_readsBox_33 : decode cX7_readsBox 33 = .ok (.iload_n 2, 1) := by decide +kernel
theorem dX7_readsBox_34 : decode cX7_readsBox 34 = .ok (.iconst 2, 1) := by decide +kernel
theorem dX7_readsBox_35 : decode cX7_readsBox 35 = .ok (.if_icmp .ge 8, 3) := by decide +kernel
theorem dX7_readsBox_38 : decode cX7_readsBox 38 = .ok (.bipush 99, 2) := by decide +kernel
theorem dX7_readsBox_40 : decode cX7_readsBox 40 = .ok (.goto 6, 3) := by decide +kernel
theorem dX7_readsBox_43 : decode cX7_readsBox 43 = .ok (.sipush 999, 3) := by decide +kernel
theorem dX7_readsBox_46 : decode cX7_readsBox 46 = .ok (.invokevirtual 84, 3) := by decide +kernel
theorem dX7_readsBox_49 : decode cX7_readsBox 49 = .ok (.iastore, 1) := by decide +kernel
theorem dX7_readsBox_50 : decode cX7_readsBox 50 = .ok (.aload_n 0, 1) := by decide +kernel
theorem dX7_readsBox_51 : decode cX7_readsBox 51 = .ok (.getfield 17, 3) := by decide +kernel
theorem dX7_readsBox_54 : decode cX7_readsBox 54 = .ok (.iload_n 2, 1) := by decide +kernel
theorem dX7_readsBox_55 : decode cX7_readsBox 55 = .ok (.iaload, 1) := by decide +kernel
theorem dX7_readsBox_56 : decode cX7_readsBox 56 = .ok (.ifCond .ge 5, 3) := by decide +kernel
theorem dX7_readsBox_59 : decode cX7_readsBox 59 = .ok (.iconst 0, 1) := by decide +kernel
theorem dX7_readsBox_60 : decode cX7_readsBox 60 = .ok (.ireturn, 1) := by decide +kernel
theorem dX7_readsBox_61 : decode cX7_readsBox 61 = .ok (.iinc 2 1, 3) := by decide +kernel
theorem dX7_readsBox_64 : decode cX7_readsBox 64 = .ok (.goto (-42), 3) := by decide +kernel
theorem dX7_readsBox_67 : decode cX7_readsBox 67 = .ok (.aload_n 0, 1) := by decide +kernel
theorem dX7_readsBox_68 : decode cX7_readsBox 68 = .ok (.invokevirtual 87, 3) := by decide +kernel
theorem dX7_readsBox_71 : decode cX7_readsBox 71 = .ok (.ireturn, 1) := by decide +kernel
theorem dX7_readsWord_0 : decode cX7_readsWord 0 = .ok (.aload_n 0, 1) := by decide +kernel
theorem dX7_readsWord_1 : decode cX7_readsWord 1 = .ok (.getfield 91, 3) := by decide +kernel
theorem dX7_readsWord_4 : decode cX7_readsWord 4 = .ok (.bipush 8, 2) := by decide +kernel
theorem dX7_readsWord_6 : decode cX7_readsWord 6 = .ok (.if_icmp .ne 9, 3) := by decide +kernel
theorem dX7_readsWord_9 : decode cX7_readsWord 9 = .ok (.aload_n 0, 1) := by decide +kernel
theorem dX7_readsWord_10 : decode cX7_readsWord 10 = .ok (.iconst 3, 1) := by decide +kernel
theorem dX7_readsWord_11 : decode cX7_readsWord 11 = .ok (.invokevirtual 80, 3) := by decide +kernel
theorem dX7_readsWord_14 : decode cX7_readsWord 14 = .ok (.ireturn, 1) := by decide +kernel
theorem dX7_readsWord_15 : decode cX7_readsWord 15 = .ok (.aload_n 0, 1) := by decide +kernel
theorem dX7_readsWord_16 : decode cX7_readsWord 16 = .ok (.dup, 1) := by decide +kernel
theorem dX7_readsWord_17 : decode cX7_readsWord 17 = .ok (.getfield 67, 3) := by decide +kernel
theorem dX7_readsWord_20 : decode cX7_readsWord 20 = .ok (.iconst 1, 1) := by decide +kernel
theorem dX7_readsWord_21 : decode cX7_readsWord 21 = .ok (.iadd, 1) := by decide +kernel
theorem dX7_readsWord_22 : decode cX7_readsWord 22 = .ok (.putfield 67, 3) := by decide +kernel
theorem dX7_readsWord_25 : decode cX7_readsWord 25 = .ok (.iconst 0, 1) := by decide +kernel
theorem dX7_readsWord_26 : decode cX7_readsWord 26 = .ok (.istore_n 1, 1) := by decide +kernel
theorem dX7_readsWord_27 : decode cX7_readsWord 27 = .ok (.iload_n 1, 1) := by decide +kernel
theorem dX7_readsWord_28 : decode cX7_readsWord 28 = .ok (.iconst 3, 1) := by decide +kernel
theorem dX7_readsWord_29 : decode cX7_readsWord 29 = .ok (.if_icmp .ge 46, 3) := by decide +kernel
theorem dX7_readsWord_32 : decode cX7_readsWord 32 = .ok (.aload_n 0, 1) := by decide +kernel
theorem dX7_readsWord_33 : decode cX7_readsWord 33 = .ok (.iload_n 1, 1) := by decide +kernel
theorem dX7_readsWord_34 : decode cX7_readsWord 34 = .ok (.ifCond .ne 9, 3) := by decide +kernel
theorem dX7_readsWord_37 : decode cX7_readsWord 37 = .ok (.sipush 999, 3) := by decide +kernel
theorem dX7_readsWord_40 : decode cX7_readsWord 40 = .ok (.goto 5, 3) := by decide +kernel
theorem dX7_readsWord_43 : decode cX7_readsWord 43 = .ok (.bipush 99, 2) := by decide +kernel
theorem dX7_readsWord_45 : decode cX7_readsWord 45 = .ok (.invokevirtual 84, 3) := by decide +kernel
theorem dX7_readsWord_48 : decode cX7_readsWord 48 = .ok (.istore_n 2, 1) := by decide +kernel
theorem dX7_readsWord_49 : decode cX7_readsWord 49 = .ok (.iload_n 2, 1) := by decide +kernel
theorem dX7_readsWord_50 : decode cX7_readsWord 50 = .ok (.ifCond .ge 5, 3) := by decide +kernel
theorem dX7_readsWord_53 : decode cX7_readsWord 53 = .ok (.iconst 0, 1) := by decide +kernel
theorem dX7_readsWord_54 : decode cX7_readsWord 54 = .ok (.ireturn, 1) := by decide +kernel
theorem dX7_readsWord_55 : decode cX7_readsWord 55 = .ok (.aload_n 0, 1) := by decide +kernel
theorem dX7_readsWord_56 : decode cX7_readsWord 56 = .ok (.getfield 20, 3) := by decide +kernel
theorem dX7_readsWord_59 : decode cX7_readsWord 59 = .ok (.iconst 3, 1) := by decide +kernel
theorem dX7_readsWord_60 : decode cX7_readsWord 60 = .ok (.aload_n 0, 1) := by decide +kernel
theorem dX7_readsWord_61 : decode cX7_readsWord 61 = .ok (.getfield 91, 3) := by decide +kernel
theorem dX7_readsWord_64 : decode cX7_readsWord 64 = .ok (.imul, 1) := by decide +kernel
theorem dX7_readsWord_65 : decode cX7_readsWord 65 = .ok (.iload_n 1, 1) := by decide +kernel
theorem dX7_readsWord_66 : decode cX7_readsWord 66 = .ok (.iadd, 1) := by decide +kernel
theorem dX7_readsWord_67 : decode cX7_readsWord 67 = .ok (.iload_n 2, 1) := by decide +kernel
theorem dX7_readsWord_68 : decode cX7_readsWord 68 = .ok (.iastore, 1) := by decide +kernel
theorem dX7_readsWord_69 : decode cX7_readsWord 69 = .ok (.iinc 1 1, 3) := by decide +kernel
theorem dX7_readsWord_72 : decode cX7_readsWord 72 = .ok (.goto (-45), 3) := by decide +kernel
theorem dX7_readsWord_75 : decode cX7_readsWord 75 = .ok (.aload_n 0, 1) := by decide +kernel
theorem dX7_readsWord_76 : decode cX7_readsWord 76 = .ok (.dup, 1) := by decide +kernel
theorem dX7_readsWord_77 : decode cX7_readsWord 77 = .ok (.getfield 91, 3) := by decide +kernel
theorem dX7_readsWord_80 : decode cX7_readsWord 80 = .ok (.iconst 1, 1) := by decide +kernel
theorem dX7_readsWord_81 : decode cX7_readsWord 81 = .ok (.iadd, 1) := by decide +kernel
theorem dX7_readsWord_82 : decode cX7_readsWord 82 = .ok (.putfield 91, 3) := by decide +kernel
theorem dX7_readsWord_85 : decode cX7_readsWord 85 = .ok (.aload_n 0, 1) := by decide +kernel
theorem dX7_readsWord_86 : decode cX7_readsWord 86 = .ok (.invokevirtual 87, 3) := by decide +kernel
theorem dX7_readsWord_89 : decode cX7_readsWord 89 = .ok (.ireturn, 1) := by decide +kernel
theorem dX7_readsVoice_0 : decode cX7_readsVoice 0 = .ok (.aload_n 0, 1) := by decide +kernel
theorem dX7_readsVoice_1 : decode cX7_readsVoice 1 = .ok (.getfield 94, 3) := by decide +kernel
theorem dX7_readsVoice_4 : decode cX7_readsVoice 4 = .ok (.iconst 4, 1) := by decide +kernel
theorem dX7_readsVoice_5 : decode cX7_readsVoice 5 = .ok (.if_icmp .ne 9, 3) := by decide +kernel
theorem dX7_readsVoice_8 : decode cX7_readsVoice 8 = .ok (.aload_n 0, 1) := by decide +kernel
theorem dX7_readsVoice_9 : decode cX7_readsVoice 9 = .ok (.iconst 3, 1) := by decide +kernel
theorem dX7_readsVoice_10 : decode cX7_readsVoice 10 = .ok (.invokevirtual 80, 3) := by decide +kernel
theorem dX7_readsVoice_13 : decode cX7_readsVoice 13 = .ok (.ireturn, 1) := by decide +kernel
theorem dX7_readsVoice_14 : decode cX7_readsVoice 14 = .ok (.aload_n 0, 1) := by decide +kernel
theorem dX7_readsVoice_15 : decode cX7_readsVoice 15 = .ok (.dup, 1) := by decide +kernel
theorem dX7_readsVoice_16 : decode cX7_readsVoice 16 = .ok (.getfield 67, 3) := by decide +kernel
theorem dX7_readsVoice_19 : decode cX7_readsVoice 19 = .ok (.iconst 1, 1) := by decide +kernel
theorem dX7_readsVoice_20 : decode cX7_readsVoice 20 = .ok (.iadd, 1) := by decide +kernel
theorem dX7_readsVoice_21 : decode cX7_readsVoice 21 = .ok (.putfield 67, 3) := by decide +kernel
theorem dX7_readsVoice_24 : decode cX7_readsVoice 24 = .ok (.aload_n 0, 1) := by decide +kernel
theorem dX7_readsVoice_25 : decode cX7_readsVoice 25 = .ok (.sipush 999, 3) := by decide +kernel
theorem dX7_readsVoice_28 : decode cX7_readsVoice 28 = .ok (.invokevirtual 84, 3) := by decide +kernel
theorem dX7_readsVoice_31 : decode cX7_readsVoice 31 = .ok (.istore_n 1, 1) := by decide +kernel
theorem dX7_readsVoice_32 : decode cX7_readsVoice 32 = .ok (.iload_n 1, 1) := by decide +kernel
theorem dX7_readsVoice_33 : decode cX7_readsVoice 33 = .ok (.ifCond .ge 5, 3) := by decide +kernel
theorem dX7_readsVoice_36 : decode cX7_readsVoice 36 = .ok (.iconst 0, 1) := by decide +kernel
theorem dX7_readsVoice_37 : decode cX7_readsVoice 37 = .ok (.ireturn, 1) := by decide +kernel
theorem dX7_readsVoice_38 : decode cX7_readsVoice 38 = .ok (.aload_n 0, 1) := by decide +kernel
theorem dX7_readsVoice_39 : decode cX7_readsVoice 39 = .ok (.getfield 23, 3) := by decide +kernel
theorem dX7_readsVoice_42 : decode cX7_readsVoice 42 = .ok (.aload_n 0, 1) := by decide +kernel
theorem dX7_readsVoice_43 : decode cX7_readsVoice 43 = .ok (.getfield 94, 3) := by decide +kernel
theorem dX7_readsVoice_46 : decode cX7_readsVoice 46 = .ok (.iload_n 1, 1) := by decide +kernel
theorem dX7_readsVoice_47 : decode cX7_readsVoice 47 = .ok (.iastore, 1) := by decide +kernel
theorem dX7_readsVoice_48 : decode cX7_readsVoice 48 = .ok (.aload_n 0, 1) := by decide +kernel
theorem dX7_readsVoice_49 : decode cX7_readsVoice 49 = .ok (.dup, 1) := by decide +kernel
theorem dX7_readsVoice_50 : decode cX7_readsVoice 50 = .ok (.getfield 94, 3) := by decide +kernel
theorem dX7_readsVoice_53 : decode cX7_readsVoice 53 = .ok (.iconst 1, 1) := by decide +kernel
theorem dX7_readsVoice_54 : decode cX7_readsVoice 54 = .ok (.iadd, 1) := by decide +kernel
theorem dX7_readsVoice_55 : decode cX7_readsVoice 55 = .ok (.putfield 94, 3) := by decide +kernel
theorem dX7_readsVoice_58 : decode cX7_readsVoice 58 = .ok (.aload_n 0, 1) := by decide +kernel
theorem dX7_readsVoice_59 : decode cX7_readsVoice 59 = .ok (.invokevirtual 87, 3) := by decide +kernel
theorem dX7_readsVoice_62 : decode cX7_readsVoice 62 = .ok (.ireturn, 1) := by decide +kernel
theorem dX7_readsClause_0 : decode cX7_readsClause 0 = .ok (.aload_n 0, 1) := by decide +kernel
theorem dX7_readsClause_1 : decode cX7_readsClause 1 = .ok (.aload_n 0, 1) := by decide +kernel
theorem dX7_readsClause_2 : decode cX7_readsClause 2 = .ok (.getfield 67, 3) := by decide +kernel
theorem dX7_readsClause_5 : decode cX7_readsClause 5 = .ok (.invokevirtual 70, 3) := by decide +kernel
theorem dX7_readsClause_8 : decode cX7_readsClause 8 = .ok (.istore_n 2, 1) := by decide +kernel
theorem dX7_readsClause_9 : decode cX7_readsClause 9 = .ok (.iload_n 2, 1) := by decide +kernel
theorem dX7_readsClause_10 : decode cX7_readsClause 10 = .ok (.bipush 98, 2) := by decide +kernel
theorem dX7_readsClause_12 : decode cX7_readsClause 12 = .ok (.if_icmp .ne 9, 3) := by decide +kernel
theorem dX7_readsClause_15 : decode cX7_readsClause 15 = .ok (.aload_n 0, 1) := by decide +kernel
theorem dX7_readsClause_16 : decode cX7_readsClause 16 = .ok (.iload_n 1, 1) := by decide +kernel
theorem dX7_readsClause_17 : decode cX7_readsClause 17 = .ok (.invokevirtual 97, 3) := by decide +kernel
theorem dX7_readsClause_20 : decode cX7_readsClause 20 = .ok (.ireturn, 1) := by decide +kernel
theorem dX7_readsClause_21 : decode cX7_readsClause 21 = .ok (.iload_n 1, 1) := by decide +kernel
theorem dX7_readsClause_22 : decode cX7_readsClause 22 = .ok (.ifCond .ne 14, 3) := by decide +kernel
theorem dX7_readsClause_25 : decode cX7_readsClause 25 = .ok (.iload_n 2, 1) := by decide +kernel
theorem dX7_readsClause_26 : decode cX7_readsClause 26 = .ok (.bipush 119, 2) := by decide +kernel
theorem dX7_readsClause_28 : decode cX7_readsClause 28 = .ok (.if_icmp .ne 8, 3) := by decide +kernel
theorem dX7_readsClause_31 : decode cX7_readsClause 31 = .ok (.aload_n 0, 1) := by decide +kernel
theorem dX7_readsClause_32 : decode cX7_readsClause 32 = .ok (.invokevirtual 101, 3) := by decide +kernel
theorem dX7_readsClause_35 : decode cX7_readsClause 35 = .ok (.ireturn, 1) := by decide +kernel
theorem dX7_readsClause_36 : decode cX7_readsClause 36 = .ok (.iload_n 1, 1) := by decide +kernel
theorem dX7_readsClause_37 : decode cX7_readsClause 37 = .ok (.ifCond .ne 16, 3) := by decide +kernel
theorem dX7_readsClause_40 : decode cX7_readsClause 40 = .ok (.iload_n 2, 1) := by decide +kernel
theorem dX7_readsClause_41 : decode cX7_readsClause 41 = .ok (.bipush 118, 2) := by decide +kernel
theorem dX7_readsClause_43 : decode cX7_readsClause 43 = .ok (.if_icmp .ne 10, 3) := by decide +kernel
theorem dX7_readsClause_46 : decode cX7_readsClause 46 = .ok (.aload_n 0, 1) := by decide +kernel
theorem dX7_readsClause_47 : decode cX7_readsClause 47 = .ok (.invokevirtual 104, 3) := by decide +kernel
theorem dX7_readsClause_50 : decode cX7_readsClause 50 = .ok (.goto 8, 3) := by decide +kernel
theorem dX7_readsClause_53 : decode cX7_readsClause 53 = .ok (.aload_n 0, 1) := by decide +kernel
theorem dX7_readsClause_54 : decode cX7_readsClause 54 = .ok (.iconst 1, 1) := by decide +kernel
theorem dX7_readsClause_55 : decode cX7_readsClause 55 = .ok (.invokevirtual 80, 3) := by decide +kernel
theorem dX7_readsClause_58 : decode cX7_readsClause 58 = .ok (.ireturn, 1) := by decide +kernel
theorem dX7_reads_0 : decode cX7_reads 0 = .ok (.iconst 1, 1) := by decide +kernel
theorem dX7_reads_1 : decode cX7_reads 1 = .ok (.istore_n 1, 1) := by decide +kernel
theorem dX7_reads_2 : decode cX7_reads 2 = .ok (.aload_n 0, 1) := by decide +kernel
theorem dX7_reads_3 : decode cX7_reads 3 = .ok (.iconst 0, 1) := by decide +kernel
theorem dX7_reads_4 : decode cX7_reads 4 = .ok (.putfield 67, 3) := by decide +kernel
theorem dX7_reads_7 : decode cX7_reads 7 = .ok (.aload_n 0, 1) := by decide +kernel
theorem dX7_reads_8 : decode cX7_reads 8 = .ok (.iconst 0, 1) := by decide +kernel
theorem dX7_reads_9 : decode cX7_reads 9 = .ok (.putfield 91, 3) := by decide +kernel
theorem dX7_reads_12 : decode cX7_reads 12 = .ok (.aload_n 0, 1) := by decide +kernel
theorem dX7_reads_13 : decode cX7_reads 13 = .ok (.iconst 0, 1) := by decide +kernel
theorem dX7_reads_14 : decode cX7_reads 14 = .ok (.putfield 94, 3) := by decide +kernel
theorem dX7_reads_17 : decode cX7_reads 17 = .ok (.aload_n 0, 1) := by decide +kernel
theorem dX7_reads_18 : decode cX7_reads 18 = .ok (.invokevirtual 77, 3) := by decide +kernel
theorem dX7_reads_21 : decode cX7_reads 21 = .ok (.aload_n 0, 1) := by decide +kernel
theorem dX7_reads_22 : decode cX7_reads 22 = .ok (.getfield 67, 3) := by decide +kernel
theorem dX7_reads_25 : decode cX7_reads 25 = .ok (.aload_n 0, 1) := by decide +kernel
theorem dX7_reads_26 : decode cX7_reads 26 = .ok (.getfield 63, 3) := by decide +kernel
theorem dX7_reads_29 : decode cX7_reads 29 = .ok (.if_icmp .ge 22, 3) := by decide +kernel
theorem dX7_reads_32 : decode cX7_reads 32 = .ok (.aload_n 0, 1) := by decide +kernel
theorem dX7_reads_33 : decode cX7_reads 33 = .ok (.iload_n 1, 1) := by decide +kernel
theorem dX7_reads_34 : decode cX7_reads 34 = .ok (.invokevirtual 107, 3) := by decide +kernel
theorem dX7_reads_37 : decode cX7_reads 37 = .ok (.ifCond .ne 5, 3) := by decide +kernel
theorem dX7_reads_40 : decode cX7_reads 40 = .ok (.iconst 0, 1) := by decide +kernel
theorem dX7_reads_41 : decode cX7_reads 41 = .ok (.ireturn, 1) := by decide +kernel
theorem dX7_reads_42 : decode cX7_reads 42 = .ok (.iconst 0, 1) := by decide +kernel
theorem dX7_reads_43 : decode cX7_reads 43 = .ok (.istore_n 1, 1) := by decide +kernel
theorem dX7_reads_44 : decode cX7_reads 44 = .ok (.aload_n 0, 1) := by decide +kernel
theorem dX7_reads_45 : decode cX7_reads 45 = .ok (.invokevirtual 77, 3) := by decide +kernel
theorem dX7_reads_48 : decode cX7_reads 48 = .ok (.goto (-27), 3) := by decide +kernel
theorem dX7_reads_51 : decode cX7_reads 51 = .ok (.aload_n 0, 1) := by decide +kernel
theorem dX7_reads_52 : decode cX7_reads 52 = .ok (.iload_n 1, 1) := by decide +kernel
theorem dX7_reads_53 : decode cX7_reads 53 = .ok (.ifCond .ne 7, 3) := by decide +kernel
theorem dX7_reads_56 : decode cX7_reads 56 = .ok (.iconst 1, 1) := by decide +kernel
theorem dX7_reads_57 : decode cX7_reads 57 = .ok (.goto 4, 3) := by decide +kernel
theorem dX7_reads_60 : decode cX7_reads 60 = .ok (.iconst 0, 1) := by decide +kernel
theorem dX7_reads_61 : decode cX7_reads 61 = .ok (.putfield 110, 3) := by decide +kernel
theorem dX7_reads_64 : decode cX7_reads 64 = .ok (.iconst 1, 1) := by decide +kernel
theorem dX7_reads_65 : decode cX7_reads 65 = .ok (.ireturn, 1) := by decide +kernel
theorem dX7_kitchen_0 : decode cX7_kitchen 0 = .ok (.aload_n 0, 1) := by decide +kernel
theorem dX7_kitchen_1 : decode cX7_kitchen 1 = .ok (.invokevirtual 114, 3) := by decide +kernel
theorem dX7_kitchen_4 : decode cX7_kitchen 4 = .ok (.istore_n 1, 1) := by decide +kernel
theorem dX7_kitchen_5 : decode cX7_kitchen 5 = .ok (.aload_n 0, 1) := by decide +kernel
theorem dX7_kitchen_6 : decode cX7_kitchen 6 = .ok (.iconst 0, 1) := by decide +kernel
theorem dX7_kitchen_7 : decode cX7_kitchen 7 = .ok (.putfield 63, 3) := by decide +kernel
theorem dX7_kitchen_10 : decode cX7_kitchen 10 = .ok (.iload_n 1, 1) := by decide +kernel
theorem dX7_kitchen_11 : decode cX7_kitchen 11 = .ok (.ifCond .ne 19, 3) := by decide +kernel
theorem dX7_kitchen_14 : decode cX7_kitchen 14 = .ok (.aload_n 0, 1) := by decide +kernel
theorem dX7_kitchen_15 : decode cX7_kitchen 15 = .ok (.aload_n 0, 1) := by decide +kernel
theorem dX7_kitchen_16 : decode cX7_kitchen 16 = .ok (.getfield 67, 3) := by decide +kernel
theorem dX7_kitchen_19 : decode cX7_kitchen 19 = .ok (.putfield 13, 3) := by decide +kernel
theorem dX7_kitchen_22 : decode cX7_kitchen 22 = .ok (.bipush (-10), 2) := by decide +kernel
theorem dX7_kitchen_24 : decode cX7_kitchen 24 = .ok (.aload_n 0, 1) := by decide +kernel
theorem dX7_kitchen_25 : decode cX7_kitchen 25 = .ok (.getfield 74, 3) := by decide +kernel
theorem dX7_kitchen_28 : decode cX7_kitchen 28 = .ok (.isub, 1) := by decide +kernel
theorem dX7_kitchen_29 : decode cX7_kitchen 29 = .ok (.ireturn, 1) := by decide +kernel
theorem dX7_kitchen_30 : decode cX7_kitchen 30 = .ok (.aload_n 0, 1) := by decide +kernel
theorem dX7_kitchen_31 : decode cX7_kitchen 31 = .ok (.iconst (-1), 1) := by decide +kernel
theorem dX7_kitchen_32 : decode cX7_kitchen 32 = .ok (.putfield 13, 3) := by decide +kernel
theorem dX7_kitchen_35 : decode cX7_kitchen 35 = .ok (.aload_n 0, 1) := by decide +kernel
theorem dX7_kitchen_36 : decode cX7_kitchen 36 = .ok (.aload_n 0, 1) := by decide +kernel
theorem dX7_kitchen_37 : decode cX7_kitchen 37 = .ok (.getfield 110, 3) := by decide +kernel
theorem dX7_kitchen_40 : decode cX7_kitchen 40 = .ok (.putfield 117, 3) := by decide +kernel
theorem dX7_kitchen_43 : decode cX7_kitchen 43 = .ok (.aload_n 0, 1) := by decide +kernel
theorem dX7_kitchen_44 : decode cX7_kitchen 44 = .ok (.aload_n 0, 1) := by decide +kernel
theorem dX7_kitchen_45 : decode cX7_kitchen 45 = .ok (.getfield 110, 3) := by decide +kernel
theorem dX7_kitchen_48 : decode cX7_kitchen 48 = .ok (.ifCond .eq 10, 3) := by decide +kernel
theorem dX7_kitchen_51 : decode cX7_kitchen 51 = .ok (.aload_n 0, 1) := by decide +kernel
theorem dX7_kitchen_52 : decode cX7_kitchen 52 = .ok (.getfield 91, 3) := by decide +kernel
theorem dX7_kitchen_55 : decode cX7_kitchen 55 = .ok (.goto 4, 3) := by decide +kernel
theorem dX7_kitchen_58 : decode cX7_kitchen 58 = .ok (.iconst 0, 1) := by decide +kernel
theorem dX7_kitchen_59 : decode cX7_kitchen 59 = .ok (.putfield 120, 3) := by decide +kernel
theorem dX7_kitchen_62 : decode cX7_kitchen 62 = .ok (.aload_n 0, 1) := by decide +kernel
theorem dX7_kitchen_63 : decode cX7_kitchen 63 = .ok (.aload_n 0, 1) := by decide +kernel
theorem dX7_kitchen_64 : decode cX7_kitchen 64 = .ok (.getfield 110, 3) := by decide +kernel
theorem dX7_kitchen_67 : decode cX7_kitchen 67 = .ok (.ifCond .eq 10, 3) := by decide +kernel
theorem dX7_kitchen_70 : decode cX7_kitchen 70 = .ok (.aload_n 0, 1) := by decide +kernel
theorem dX7_kitchen_71 : decode cX7_kitchen 71 = .ok (.getfield 94, 3) := by decide +kernel
theorem dX7_kitchen_74 : decode cX7_kitchen 74 = .ok (.goto 4, 3) := by decide +kernel
theorem dX7_kitchen_77 : decode cX7_kitchen 77 = .ok (.iconst 0, 1) := by decide +kernel
theorem dX7_kitchen_78 : decode cX7_kitchen 78 = .ok (.putfield 123, 3) := by decide +kernel
theorem dX7_kitchen_81 : decode cX7_kitchen 81 = .ok (.iconst 0, 1) := by decide +kernel
theorem dX7_kitchen_82 : decode cX7_kitchen 82 = .ok (.istore_n 2, 1) := by decide +kernel
theorem dX7_kitchen_83 : decode cX7_kitchen 83 = .ok (.iload_n 2, 1) := by decide +kernel
theorem dX7_kitchen_84 : decode cX7_kitchen 84 = .ok (.iconst 3, 1) := by decide +kernel
theorem dX7_kitchen_85 : decode cX7_kitchen 85 = .ok (.if_icmp .ge 32, 3) := by decide +kernel
theorem dX7_kitchen_88 : decode cX7_kitchen 88 = .ok (.aload_n 0, 1) := by decide +kernel
theorem dX7_kitchen_89 : decode cX7_kitchen 89 = .ok (.getfield 26, 3) := by decide +kernel
theorem dX7_kitchen_92 : decode cX7_kitchen 92 = .ok (.iload_n 2, 1) := by decide +kernel
theorem dX7_kitchen_93 : decode cX7_kitchen 93 = .ok (.aload_n 0, 1) := by decide +kernel
theorem dX7_kitchen_94 : decode cX7_kitchen 94 = .ok (.getfield 110, 3) := by decide +kernel
theorem dX7_kitchen_97 : decode cX7_kitchen 97 = .ok (.ifCond .eq 12, 3) := by decide +kernel
theorem dX7_kitchen_100 : decode cX7_kitchen 100 = .ok (.aload_n 0, 1) := by decide +kernel
theorem dX7_kitchen_101 : decode cX7_kitchen 101 = .ok (.getfield 17, 3) := by decide +kernel
theorem dX7_kitchen_104 : decode cX7_kitchen 104 = .ok (.iload_n 2, 1) := by decide +kernel
theorem dX7_kitchen_105 : decode cX7_kitchen 105 = .ok (.iaload, 1) := by decide +kernel
theorem dX7_kitchen_106 : decode cX7_kitchen 106 = .ok (.goto 4, 3) := by decide +kernel
theorem dX7_kitchen_109 : decode cX7_kitchen 109 = .ok (.iconst 0, 1) := by decide +kernel
theorem dX7_kitchen_110 : decode cX7_kitchen 110 = .ok (.iastore, 1) := by decide +kernel
theorem dX7_kitchen_111 : decode cX7_kitchen 111 = .ok (.iinc 2 1, 3) := by decide +kernel
theorem dX7_kitchen_114 : decode cX7_kitchen 114 = .ok (.goto (-31), 3) := by decide +kernel
theorem dX7_kitchen_117 : decode cX7_kitchen 117 = .ok (.iconst 0, 1) := by decide +kernel
theorem dX7_kitchen_118 : decode cX7_kitchen 118 = .ok (.istore_n 2, 1) := by decide +kernel
theorem dX7_kitchen_119 : decode cX7_kitchen 119 = .ok (.iload_n 2, 1) := by decide +kernel
theorem dX7_kitchen_120 : decode cX7_kitchen 120 = .ok (.bipush 27, 2) := by decide +kernel
theorem dX7_kitchen_122 : decode cX7_kitchen 122 = .ok (.if_icmp .ge 26, 3) := by decide +kernel
theorem dX7_kitchen_125 : decode cX7_kitchen 125 = .ok (.aload_n 0, 1) := by decide +kernel
theorem dX7_kitchen_126 : decode cX7_kitchen 126 = .ok (.getfield 35, 3) := by decide +kernel
theorem dX7_kitchen_129 : decode cX7_kitchen 129 = .ok (.iload_n 2, 1) := by decide +kernel
theorem dX7_kitchen_130 : decode cX7_kitchen 130 = .ok (.iload_n 2, 1) := by decide +kernel
theorem dX7_kitchen_131 : decode cX7_kitchen 131 = .ok (.bipush 26, 2) := by decide +kernel
theorem dX7_kitchen_133 : decode cX7_kitchen 133 = .ok (.if_icmp .ne 7, 3) := by decide +kernel
theorem dX7_kitchen_136 : decode cX7_kitchen 136 = .ok (.iconst (-1), 1) := by decide +kernel
theorem dX7_kitchen_137 : decode cX7_kitchen 137 = .ok (.goto 4, 3) := by decide +kernel
theorem dX7_kitchen_140 : decode cX7_kitchen 140 = .ok (.iconst 0, 1) := by decide +kernel
theorem dX7_kitchen_141 : decode cX7_kitchen 141 = .ok (.iastore, 1) := by decide +kernel
theorem dX7_kitchen_142 : decode cX7_kitchen 142 = .ok (.iinc 2 1, 3) := by decide +kernel
theorem dX7_kitchen_145 : decode cX7_kitchen 145 = .ok (.goto (-26), 3) := by decide +kernel
theorem dX7_kitchen_148 : decode cX7_kitchen 148 = .ok (.iconst 0, 1) := by decide +kernel
theorem dX7_kitchen_149 : decode cX7_kitchen 149 = .ok (.istore_n 2, 1) := by decide +kernel
theorem dX7_kitchen_150 : decode cX7_kitchen 150 = .ok (.iload_n 2, 1) := by decide +kernel
theorem dX7_kitchen_151 : decode cX7_kitchen 151 = .ok (.aload_n 0, 1) := by decide +kernel
theorem dX7_kitchen_152 : decode cX7_kitchen 152 = .ok (.getfield 120, 3) := by decide +kernel
theorem dX7_kitchen_155 : decode cX7_kitchen 155 = .ok (.if_icmp .ge 58, 3) := by decide +kernel
theorem dX7_kitchen_158 : decode cX7_kitchen 158 = .ok (.aload_n 0, 1) := by decide +kernel
theorem dX7_kitchen_159 : decode cX7_kitchen 159 = .ok (.getfield 35, 3) := by decide +kernel
theorem dX7_kitchen_162 : decode cX7_kitchen 162 = .ok (.iload_n 2, 1) := by decide +kernel
theorem dX7_kitchen_163 : decode cX7_kitchen 163 = .ok (.aload_n 0, 1) := by decide +kernel
theorem dX7_kitchen_164 : decode cX7_kitchen 164 = .ok (.getfield 20, 3) := by decide +kernel
theorem dX7_kitchen_167 : decode cX7_kitchen 167 = .ok (.iconst 3, 1) := by decide +kernel
theorem dX7_kitchen_168 : decode cX7_kitchen 168 = .ok (.iload_n 2, 1) := by decide +kernel
theorem dX7_kitchen_169 : decode cX7_kitchen 169 = .ok (.imul, 1) := by decide +kernel
theorem dX7_kitchen_170 : decode cX7_kitchen 170 = .ok (.iaload, 1) := by decide +kernel
theorem dX7_kitchen_171 : decode cX7_kitchen 171 = .ok (.iastore, 1) := by decide +kernel
theorem dX7_kitchen_172 : decode cX7_kitchen 172 = .ok (.aload_n 0, 1) := by decide +kernel
theorem dX7_kitchen_173 : decode cX7_kitchen 173 = .ok (.getfield 35, 3) := by decide +kernel
theorem dX7_kitchen_176 : decode cX7_kitchen 176 = .ok (.bipush 8, 2) := by decide +kernel
theorem dX7_kitchen_178 : decode cX7_kitchen 178 = .ok (.iload_n 2, 1) := by decide +kernel
theorem dX7_kitchen_179 : decode cX7_kitchen 179 = .ok (.iadd, 1) := by decide +kernel
theorem dX7_kitchen_180 : decode cX7_kitchen 180 = .ok (.aload_n 0, 1) := by decide +kernel
theorem dX7_kitchen_181 : decode cX7_kitchen 181 = .ok (.getfield 20, 3) := by decide +kernel
theorem dX7_kitchen_184 : decode cX7_kitchen 184 = .ok (.iconst 3, 1) := by decide +kernel
theorem dX7_kitchen_185 : decode cX7_kitchen 185 = .ok (.iload_n 2, 1) := by decide +kernel
theorem dX7_kitchen_186 : decode cX7_kitchen 186 = .ok (.imul, 1) := by decide +kernel
theorem dX7_kitchen_187 : decode cX7_kitchen 187 = .ok (.iconst 1, 1) := by decide +kernel
theorem dX7_kitchen_188 : decode cX7_kitchen 188 = .ok (.iadd, 1) := by decide +kernel
theorem dX7_kitchen_189 : decode cX7_kitchen 189 = .ok (.iaload, 1) := by decide +kernel
theorem dX7_kitchen_190 : decode cX7_kitchen 190 = .ok (.iastore, 1) := by decide +kernel
theorem dX7_kitchen_191 : decode cX7_kitchen 191 = .ok (.aload_n 0, 1) := by decide +kernel
theorem dX7_kitchen_192 : decode cX7_kitchen 192 = .ok (.getfield 29, 3) := by decide +kernel
theorem dX7_kitchen_195 : decode cX7_kitchen 195 = .ok (.iload_n 2, 1) := by decide +kernel
theorem dX7_kitchen_196 : decode cX7_kitchen 196 = .ok (.aload_n 0, 1) := by decide +kernel
theorem dX7_kitchen_197 : decode cX7_kitchen 197 = .ok (.getfield 20, 3) := by decide +kernel
theorem dX7_kitchen_200 : decode cX7_kitchen 200 = .ok (.iconst 3, 1) := by decide +kernel
theorem dX7_kitchen_201 : decode cX7_kitchen 201 = .ok (.iload_n 2, 1) := by decide +kernel
theorem dX7_kitchen_202 : decode cX7_kitchen 202 = .ok (.imul, 1) := by decide +kernel
theorem dX7_kitchen_203 : decode cX7_kitchen 203 = .ok (.iconst 2, 1) := by decide +kernel
theorem dX7_kitchen_204 : decode cX7_kitchen 204 = .ok (.iadd, 1) := by decide +kernel
theorem dX7_kitchen_205 : decode cX7_kitchen 205 = .ok (.iaload, 1) := by decide +kernel
theorem dX7_kitchen_206 : decode cX7_kitchen 206 = .ok (.iastore, 1) := by decide +kernel
theorem dX7_kitchen_207 : decode cX7_kitchen 207 = .ok (.iinc 2 1, 3) := by decide +kernel
theorem dX7_kitchen_210 : decode cX7_kitchen 210 = .ok (.goto (-60), 3) := by decide +kernel
theorem dX7_kitchen_213 : decode cX7_kitchen 213 = .ok (.iconst 0, 1) := by decide +kernel
theorem dX7_kitchen_214 : decode cX7_kitchen 214 = .ok (.istore_n 2, 1) := by decide +kernel
theorem dX7_kitchen_215 : decode cX7_kitchen 215 = .ok (.iload_n 2, 1) := by decide +kernel
theorem dX7_kitchen_216 : decode cX7_kitchen 216 = .ok (.aload_n 0, 1) := by decide +kernel
theorem dX7_kitchen_217 : decode cX7_kitchen 217 = .ok (.getfield 123, 3) := by decide +kernel
theorem dX7_kitchen_220 : decode cX7_kitchen 220 = .ok (.if_icmp .ge 21, 3) := by decide +kernel
theorem dX7_kitchen_223 : decode cX7_kitchen 223 = .ok (.aload_n 0, 1) := by decide +kernel
theorem dX7_kitchen_224 : decode cX7_kitchen 224 = .ok (.getfield 32, 3) := by decide +kernel
theorem dX7_kitchen_227 : decode cX7_kitchen 227 = .ok (.iload_n 2, 1) := by decide +kernel
theorem dX7_kitchen_228 : decode cX7_kitchen 228 = .ok (.aload_n 0, 1) := by decide +kernel
theorem dX7_kitchen_229 : decode cX7_kitchen 229 = .ok (.getfield 23, 3) := by decide +kernel
theorem dX7_kitchen_232 : decode cX7_kitchen 232 = .ok (.iload_n 2, 1) := by decide +kernel
theorem dX7_kitchen_233 : decode cX7_kitchen 233 = .ok (.iaload, 1) := by decide +kernel
theorem dX7_kitchen_234 : decode cX7_kitchen 234 = .ok (.iastore, 1) := by decide +kernel
theorem dX7_kitchen_235 : decode cX7_kitchen 235 = .ok (.iinc 2 1, 3) := by decide +kernel
theorem dX7_kitchen_238 : decode cX7_kitchen 238 = .ok (.goto (-23), 3) := by decide +kernel
theorem dX7_kitchen_241 : decode cX7_kitchen 241 = .ok (.aload_n 0, 1) := by decide +kernel
theorem dX7_kitchen_242 : decode cX7_kitchen 242 = .ok (.iconst 0, 1) := by decide +kernel
theorem dX7_kitchen_243 : decode cX7_kitchen 243 = .ok (.putfield 126, 3) := by decide +kernel
theorem dX7_kitchen_246 : decode cX7_kitchen 246 = .ok (.aload_n 0, 1) := by decide +kernel
theorem dX7_kitchen_247 : decode cX7_kitchen 247 = .ok (.iconst 0, 1) := by decide +kernel
theorem dX7_kitchen_248 : decode cX7_kitchen 248 = .ok (.putfield 129, 3) := by decide +kernel
theorem dX7_kitchen_251 : decode cX7_kitchen 251 = .ok (.aload_n 0, 1) := by decide +kernel
theorem dX7_kitchen_252 : decode cX7_kitchen 252 = .ok (.iconst 0, 1) := by decide +kernel
theorem dX7_kitchen_253 : decode cX7_kitchen 253 = .ok (.putfield 132, 3) := by decide +kernel
theorem dX7_kitchen_256 : decode cX7_kitchen 256 = .ok (.aload_n 0, 1) := by decide +kernel
theorem dX7_kitchen_257 : decode cX7_kitchen 257 = .ok (.getfield 47, 3) := by decide +kernel
theorem dX7_kitchen_260 : decode cX7_kitchen 260 = .ok (.iconst 0, 1) := by decide +kernel
theorem dX7_kitchen_261 : decode cX7_kitchen 261 = .ok (.iconst 0, 1) := by decide +kernel
theorem dX7_kitchen_262 : decode cX7_kitchen 262 = .ok (.bastore, 1) := by decide +kernel
theorem dX7_kitchen_263 : decode cX7_kitchen 263 = .ok (.aload_n 0, 1) := by decide +kernel
theorem dX7_kitchen_264 : decode cX7_kitchen 264 = .ok (.getfield 47, 3) := by decide +kernel
theorem dX7_kitchen_267 : decode cX7_kitchen 267 = .ok (.iconst 1, 1) := by decide +kernel
theorem dX7_kitchen_268 : decode cX7_kitchen 268 = .ok (.iconst 0, 1) := by decide +kernel
theorem dX7_kitchen_269 : decode cX7_kitchen 269 = .ok (.bastore, 1) := by decide +kernel
theorem dX7_kitchen_270 : decode cX7_kitchen 270 = .ok (.aload_n 0, 1) := by decide +kernel
theorem dX7_kitchen_271 : decode cX7_kitchen 271 = .ok (.getfield 120, 3) := by decide +kernel
theorem dX7_kitchen_274 : decode cX7_kitchen 274 = .ok (.ireturn, 1) := by decide +kernel
theorem dX7_isWord_0 : decode cX7_isWord 0 = .ok (.iload_n 1, 1) := by decide +kernel
theorem dX7_isWord_1 : decode cX7_isWord 1 = .ok (.iconst 0, 1) := by decide +kernel
theorem dX7_isWord_2 : decode cX7_isWord 2 = .ok (.aload_n 0, 1) := by decide +kernel
theorem dX7_isWord_3 : decode cX7_isWord 3 = .ok (.getfield 120, 3) := by decide +kernel
theorem dX7_isWord_6 : decode cX7_isWord 6 = .ok (.iconst 1, 1) := by decide +kernel
theorem dX7_isWord_7 : decode cX7_isWord 7 = .ok (.isub, 1) := by decide +kernel
theorem dX7_isWord_8 : decode cX7_isWord 8 = .ok (.invokestatic 58, 3) := by decide +kernel
theorem dX7_isWord_11 : decode cX7_isWord 11 = .ok (.ireturn, 1) := by decide +kernel
theorem dX7_isVoice_0 : decode cX7_isVoice 0 = .ok (.iload_n 1, 1) := by decide +kernel
theorem dX7_isVoice_1 : decode cX7_isVoice 1 = .ok (.iconst 0, 1) := by decide +kernel
theorem dX7_isVoice_2 : decode cX7_isVoice 2 = .ok (.aload_n 0, 1) := by decide +kernel
theorem dX7_isVoice_3 : decode cX7_isVoice 3 = .ok (.getfield 123, 3) := by decide +kernel
theorem dX7_isVoice_6 : decode cX7_isVoice 6 = .ok (.iconst 1, 1) := by decide +kernel
theorem dX7_isVoice_7 : decode cX7_isVoice 7 = .ok (.isub, 1) := by decide +kernel
theorem dX7_isVoice_8 : decode cX7_isVoice 8 = .ok (.invokestatic 58, 3) := by decide +kernel
theorem dX7_isVoice_11 : decode cX7_isVoice 11 = .ok (.ireturn, 1) := by decide +kernel
theorem dX7_isSound_0 : decode cX7_isSound 0 = .ok (.iload_n 0, 1) := by decide +kernel
theorem dX7_isSound_1 : decode cX7_isSound 1 = .ok (.iconst 0, 1) := by decide +kernel
theorem dX7_isSound_2 : decode cX7_isSound 2 = .ok (.sipush 999, 3) := by decide +kernel
theorem dX7_isSound_5 : decode cX7_isSound 5 = .ok (.invokestatic 58, 3) := by decide +kernel
theorem dX7_isSound_8 : decode cX7_isSound 8 = .ok (.ireturn, 1) := by decide +kernel
theorem dX7_allListed_0 : decode cX7_allListed 0 = .ok (.iconst 0, 1) := by decide +kernel
theorem dX7_allListed_1 : decode cX7_allListed 1 = .ok (.istore_n 1, 1) := by decide +kernel
theorem dX7_allListed_2 : decode cX7_allListed 2 = .ok (.iconst 0, 1) := by decide +kernel
theorem dX7_allListed_3 : decode cX7_allListed 3 = .ok (.istore_n 2, 1) := by decide +kernel
theorem dX7_allListed_4 : decode cX7_allListed 4 = .ok (.iload_n 2, 1) := by decide +kernel
theorem dX7_allListed_5 : decode cX7_allListed 5 = .ok (.aload_n 0, 1) := by decide +kernel
theorem dX7_allListed_6 : decode cX7_allListed 6 = .ok (.getfield 120, 3) := by decide +kernel
theorem dX7_allListed_9 : decode cX7_allListed 9 = .ok (.if_icmp .ge 21, 3) := by decide +kernel
theorem dX7_allListed_12 : decode cX7_allListed 12 = .ok (.iload_n 1, 1) := by decide +kernel
theorem dX7_allListed_13 : decode cX7_allListed 13 = .ok (.aload_n 0, 1) := by decide +kernel
theorem dX7_allListed_14 : decode cX7_allListed 14 = .ok (.getfield 35, 3) := by decide +kernel
theorem dX7_allListed_17 : decode cX7_allListed 17 = .ok (.bipush 16, 2) := by decide +kernel
theorem dX7_allListed_19 : decode cX7_allListed 19 = .ok (.iload_n 2, 1) := by decide +kernel
theorem dX7_allListed_20 : decode cX7_allListed 20 = .ok (.iadd, 1) := by decide +kernel
theorem dX7_allListed_21 : decode cX7_allListed 21 = .ok (.iaload, 1) := by decide +kernel
theorem dX7_allListed_22 : decode cX7_allListed 22 = .ok (.iadd, 1) := by decide +kernel
theorem dX7_allListed_23 : decode cX7_allListed 23 = .ok (.istore_n 1, 1) := by decide +kernel
theorem dX7_allListed_24 : decode cX7_allListed 24 = .ok (.iinc 2 1, 3) := by decide +kernel
theorem dX7_allListed_27 : decode cX7_allListed 27 = .ok (.goto (-23), 3) := by decide +kernel
theorem dX7_allListed_30 : decode cX7_allListed 30 = .ok (.iload_n 1, 1) := by decide +kernel
theorem dX7_allListed_31 : decode cX7_allListed 31 = .ok (.ireturn, 1) := by decide +kernel
theorem dX7_told_0 : decode cX7_told 0 = .ok (.iload_n 1, 1) := by decide +kernel
theorem dX7_told_1 : decode cX7_told 1 = .ok (.tableswitch 133 0 12 #[67, 67, 67, 74, 79, 84, 89, 97, 105, 113, 118, 123, 128], 67) := by decide +kernel
theorem dX7_told_68 : decode cX7_told 68 = .ok (.aload_n 0, 1) := by decide +kernel
theorem dX7_told_69 : decode cX7_told 69 = .ok (.getfield 26, 3) := by decide +kernel
theorem dX7_told_72 : decode cX7_told 72 = .ok (.iload_n 1, 1) := by decide +kernel
theorem dX7_told_73 : decode cX7_told 73 = .ok (.iaload, 1) := by decide +kernel
theorem dX7_told_74 : decode cX7_told 74 = .ok (.ireturn, 1) := by decide +kernel
theorem dX7_told_75 : decode cX7_told 75 = .ok (.aload_n 0, 1) := by decide +kernel
theorem dX7_told_76 : decode cX7_told 76 = .ok (.getfield 120, 3) := by decide +kernel
theorem dX7_told_79 : decode cX7_told 79 = .ok (.ireturn, 1) := by decide +kernel
theorem dX7_told_80 : decode cX7_told 80 = .ok (.aload_n 0, 1) := by decide +kernel
theorem dX7_told_81 : decode cX7_told 81 = .ok (.getfield 123, 3) := by decide +kernel
theorem dX7_told_84 : decode cX7_told 84 = .ok (.ireturn, 1) := by decide +kernel
theorem dX7_told_85 : decode cX7_told 85 = .ok (.aload_n 0, 1) := by decide +kernel
theorem dX7_told_86 : decode cX7_told 86 = .ok (.getfield 63, 3) := by decide +kernel
theorem dX7_told_89 : decode cX7_told 89 = .ok (.ireturn, 1) := by decide +kernel
theorem dX7_told_90 : decode cX7_told 90 = .ok (.aload_n 0, 1) := by decide +kernel
theorem dX7_told_91 : decode cX7_told 91 = .ok (.getfield 35, 3) := by decide +kernel
theorem dX7_told_94 : decode cX7_told 94 = .ok (.bipush 24, 2) := by decide +kernel
theorem dX7_told_96 : decode cX7_told 96 = .ok (.iaload, 1) := by decide +kernel
theorem dX7_told_97 : decode cX7_told 97 = .ok (.ireturn, 1) := by decide +kernel
theorem dX7_told_98 : decode cX7_told 98 = .ok (.aload_n 0, 1) := by decide +kernel
theorem dX7_told_99 : decode cX7_told 99 = .ok (.getfield 35, 3) := by decide +kernel
theorem dX7_told_102 : decode cX7_told 102 = .ok (.bipush 25, 2) := by decide +kernel
theorem dX7_told_104 : decode cX7_told 104 = .ok (.iaload, 1) := by decide +kernel
theorem dX7_told_105 : decode cX7_told 105 = .ok (.ireturn, 1) := by decide +kernel
theorem dX7_told_106 : decode cX7_told 106 = .ok (.aload_n 0, 1) := by decide +kernel
theorem dX7_told_107 : decode cX7_told 107 = .ok (.getfield 35, 3) := by decide +kernel
theorem dX7_told_110 : decode cX7_told 110 = .ok (.bipush 26, 2) := by decide +kernel
theorem dX7_told_112 : decode cX7_told 112 = .ok (.iaload, 1) := by decide +kernel
theorem dX7_told_113 : decode cX7_told 113 = .ok (.ireturn, 1) := by decide +kernel
theorem dX7_told_114 : decode cX7_told 114 = .ok (.aload_n 0, 1) := by decide +kernel
theorem dX7_told_115 : decode cX7_told 115 = .ok (.invokevirtual 135, 3) := by decide +kernel
theorem dX7_told_118 : decode cX7_told 118 = .ok (.ireturn, 1) := by decide +kernel
theorem dX7_told_119 : decode cX7_told 119 = .ok (.aload_n 0, 1) := by decide +kernel
theorem dX7_told_120 : decode cX7_told 120 = .ok (.getfield 126, 3) := by decide +kernel
theorem dX7_told_123 : decode cX7_told 123 = .ok (.ireturn, 1) := by decide +kernel
theorem dX7_told_124 : decode cX7_told 124 = .ok (.aload_n 0, 1) := by decide +kernel
theorem dX7_told_125 : decode cX7_told 125 = .ok (.getfield 129, 3) := by decide +kernel
theorem dX7_told_128 : decode cX7_told 128 = .ok (.ireturn, 1) := by decide +kernel
theorem dX7_told_129 : decode cX7_told 129 = .ok (.aload_n 0, 1) := by decide +kernel
theorem dX7_told_130 : decode cX7_told 130 = .ok (.getfield 132, 3) := by decide +kernel
theorem dX7_told_133 : decode cX7_told 133 = .ok (.ireturn, 1) := by decide +kernel
theorem dX7_told_134 : decode cX7_told 134 = .ok (.ldc 62, 2) := by decide +kernel
theorem dX7_told_136 : decode cX7_told 136 = .ok (.ireturn, 1) := by decide +kernel
theorem dX7_word_0 : decode cX7_word 0 = .ok (.aload_n 0, 1) := by decide +kernel
theorem dX7_word_1 : decode cX7_word 1 = .ok (.iload_n 1, 1) := by decide +kernel
theorem dX7_word_2 : decode cX7_word 2 = .ok (.invokevirtual 139, 3) := by decide +kernel
theorem dX7_word_5 : decode cX7_word 5 = .ok (.ifCond .ne 6, 3) := by decide +kernel
theorem dX7_word_8 : decode cX7_word 8 = .ok (.ldc 142, 2) := by decide +kernel
theorem dX7_word_10 : decode cX7_word 10 = .ok (.ireturn, 1) := by decide +kernel
theorem dX7_word_11 : decode cX7_word 11 = .ok (.iload_n 2, 1) := by decide +kernel
theorem dX7_word_12 : decode cX7_word 12 = .ok (.tableswitch 66 0 3 #[32, 39, 49, 56], 32) := by decide +kernel
theorem dX7_word_44 : decode cX7_word 44 = .ok (.aload_n 0, 1) := by decide +kernel
theorem dX7_word_45 : decode cX7_word 45 = .ok (.getfield 35, 3) := by decide +kernel
theorem dX7_word_48 : decode cX7_word 48 = .ok (.iload_n 1, 1) := by decide +kernel
theorem dX7_word_49 : decode cX7_word 49 = .ok (.iaload, 1) := by decide +kernel
theorem dX7_word_50 : decode cX7_word 50 = .ok (.ireturn, 1) := by decide +kernel
theorem dX7_word_51 : decode cX7_word 51 = .ok (.aload_n 0, 1) := by decide +kernel
theorem dX7_word_52 : decode cX7_word 52 = .ok (.getfield 35, 3) := by decide +kernel
theorem dX7_word_55 : decode cX7_word 55 = .ok (.bipush 8, 2) := by decide +kernel
theorem dX7_word_57 : decode cX7_word 57 = .ok (.iload_n 1, 1) := by decide +kernel
theorem dX7_word_58 : decode cX7_word 58 = .ok (.iadd, 1) := by decide +kernel
theorem dX7_word_59 : decode cX7_word 59 = .ok (.iaload, 1) := by decide +kernel
theorem dX7_word_60 : decode cX7_word 60 = .ok (.ireturn, 1) := by decide +kernel
theorem dX7_word_61 : decode cX7_word 61 = .ok (.aload_n 0, 1) := by decide +kernel
theorem dX7_word_62 : decode cX7_word 62 = .ok (.getfield 29, 3) := by decide +kernel
theorem dX7_word_65 : decode cX7_word 65 = .ok (.iload_n 1, 1) := by decide +kernel
theorem dX7_word_66 : decode cX7_word 66 = .ok (.iaload, 1) := by decide +kernel
theorem dX7_word_67 : decode cX7_word 67 = .ok (.ireturn, 1) := by decide +kernel
theorem dX7_word_68 : decode cX7_word 68 = .ok (.aload_n 0, 1) := by decide +kernel
theorem dX7_word_69 : decode cX7_word 69 = .ok (.getfield 35, 3) := by decide +kernel
theorem dX7_word_72 : decode cX7_word 72 = .ok (.bipush 16, 2) := by decide +kernel
theorem dX7_word_74 : decode cX7_word 74 = .ok (.iload_n 1, 1) := by decide +kernel
theorem dX7_word_75 : decode cX7_word 75 = .ok (.iadd, 1) := by decide +kernel
theorem dX7_word_76 : decode cX7_word 76 = .ok (.iaload, 1) := by decide +kernel
theorem dX7_word_77 : decode cX7_word 77 = .ok (.ireturn, 1) := by decide +kernel
theorem dX7_word_78 : decode cX7_word 78 = .ok (.ldc 62, 2) := by decide +kernel
theorem dX7_word_80 : decode cX7_word 80 = .ok (.ireturn, 1) := by decide +kernel
theorem dX7_voice_0 : decode cX7_voice 0 = .ok (.aload_n 0, 1) := by decide +kernel
theorem dX7_voice_1 : decode cX7_voice 1 = .ok (.iload_n 1, 1) := by decide +kernel
theorem dX7_voice_2 : decode cX7_voice 2 = .ok (.invokevirtual 143, 3) := by decide +kernel
theorem dX7_voice_5 : decode cX7_voice 5 = .ok (.ifCond .eq 12, 3) := by decide +kernel
theorem dX7_voice_8 : decode cX7_voice 8 = .ok (.aload_n 0, 1) := by decide +kernel
theorem dX7_voice_9 : decode cX7_voice 9 = .ok (.getfield 32, 3) := by decide +kernel
theorem dX7_voice_12 : decode cX7_voice 12 = .ok (.iload_n 1, 1) := by decide +kernel
theorem dX7_voice_13 : decode cX7_voice 13 = .ok (.iaload, 1) := by decide +kernel
theorem dX7_voice_14 : decode cX7_voice 14 = .ok (.goto 5, 3) := by decide +kernel
theorem dX7_voice_17 : decode cX7_voice 17 = .ok (.ldc 142, 2) := by decide +kernel
theorem dX7_voice_19 : decode cX7_voice 19 = .ok (.ireturn, 1) := by decide +kernel
theorem dX7_far_0 : decode cX7_far 0 = .ok (.iload_n 0, 1) := by decide +kernel
theorem dX7_far_1 : decode cX7_far 1 = .ok (.iload_n 1, 1) := by decide +kernel
theorem dX7_far_2 : decode cX7_far 2 = .ok (.isub, 1) := by decide +kernel
theorem dX7_far_3 : decode cX7_far 3 = .ok (.istore_n 2, 1) := by decide +kernel
theorem dX7_far_4 : decode cX7_far 4 = .ok (.iload_n 2, 1) := by decide +kernel
theorem dX7_far_5 : decode cX7_far 5 = .ok (.ifCond .ge 8, 3) := by decide +kernel
theorem dX7_far_8 : decode cX7_far 8 = .ok (.iload_n 2, 1) := by decide +kernel
theorem dX7_far_9 : decode cX7_far 9 = .ok (.ineg, 1) := by decide +kernel
theorem dX7_far_10 : decode cX7_far 10 = .ok (.goto 4, 3) := by decide +kernel
theorem dX7_far_13 : decode cX7_far 13 = .ok (.iload_n 2, 1) := by decide +kernel
theorem dX7_far_14 : decode cX7_far 14 = .ok (.ireturn, 1) := by decide +kernel
theorem dX7_apart_0 : decode cX7_apart 0 = .ok (.iload_n 0, 1) := by decide +kernel
theorem dX7_apart_1 : decode cX7_apart 1 = .ok (.bipush 100, 2) := by decide +kernel
theorem dX7_apart_3 : decode cX7_apart 3 = .ok (.idiv, 1) := by decide +kernel
theorem dX7_apart_4 : decode cX7_apart 4 = .ok (.iload_n 1, 1) := by decide +kernel
theorem dX7_apart_5 : decode cX7_apart 5 = .ok (.bipush 100, 2) := by decide +kernel
theorem dX7_apart_7 : decode cX7_apart 7 = .ok (.idiv, 1) := by decide +kernel
theorem dX7_apart_8 : decode cX7_apart 8 = .ok (.invokestatic 146, 3) := by decide +kernel
theorem dX7_apart_11 : decode cX7_apart 11 = .ok (.iload_n 0, 1) := by decide +kernel
theorem dX7_apart_12 : decode cX7_apart 12 = .ok (.bipush 10, 2) := by decide +kernel
theorem dX7_apart_14 : decode cX7_apart 14 = .ok (.idiv, 1) := by decide +kernel
theorem dX7_apart_15 : decode cX7_apart 15 = .ok (.bipush 10, 2) := by decide +kernel
theorem dX7_apart_17 : decode cX7_apart 17 = .ok (.irem, 1) := by decide +kernel
theorem dX7_apart_18 : decode cX7_apart 18 = .ok (.iload_n 1, 1) := by decide +kernel
theorem dX7_apart_19 : decode cX7_apart 19 = .ok (.bipush 10, 2) := by decide +kernel
theorem dX7_apart_21 : decode cX7_apart 21 = .ok (.idiv, 1) := by decide +kernel
theorem dX7_apart_22 : decode cX7_apart 22 = .ok (.bipush 10, 2) := by decide +kernel
theorem dX7_apart_24 : decode cX7_apart 24 = .ok (.irem, 1) := by decide +kernel
theorem dX7_apart_25 : decode cX7_apart 25 = .ok (.invokestatic 146, 3) := by decide +kernel
theorem dX7_apart_28 : decode cX7_apart 28 = .ok (.iadd, 1) := by decide +kernel
theorem dX7_apart_29 : decode cX7_apart 29 = .ok (.iload_n 0, 1) := by decide +kernel
theorem dX7_apart_30 : decode cX7_apart 30 = .ok (.bipush 10, 2) := by decide +kernel
theorem dX7_apart_32 : decode cX7_apart 32 = .ok (.irem, 1) := by decide +kernel
theorem dX7_apart_33 : decode cX7_apart 33 = .ok (.iload_n 1, 1) := by decide +kernel
theorem dX7_apart_34 : decode cX7_apart 34 = .ok (.bipush 10, 2) := by decide +kernel
theorem dX7_apart_36 : decode cX7_apart 36 = .ok (.irem, 1) := by decide +kernel
theorem dX7_apart_37 : decode cX7_apart 37 = .ok (.invokestatic 146, 3) := by decide +kernel
theorem dX7_apart_40 : decode cX7_apart 40 = .ok (.iadd, 1) := by decide +kernel
theorem dX7_apart_41 : decode cX7_apart 41 = .ok (.ireturn, 1) := by decide +kernel
theorem dX7_shifted_0 : decode cX7_shifted 0 = .ok (.iload_n 0, 1) := by decide +kernel
theorem dX7_shifted_1 : decode cX7_shifted 1 = .ok (.bipush 100, 2) := by decide +kernel
theorem dX7_shifted_3 : decode cX7_shifted 3 = .ok (.idiv, 1) := by decide +kernel
theorem dX7_shifted_4 : decode cX7_shifted 4 = .ok (.iload_n 1, 1) := by decide +kernel
theorem dX7_shifted_5 : decode cX7_shifted 5 = .ok (.bipush 100, 2) := by decide +kernel
theorem dX7_shifted_7 : decode cX7_shifted 7 = .ok (.idiv, 1) := by decide +kernel
theorem dX7_shifted_8 : decode cX7_shifted 8 = .ok (.iadd, 1) := by decide +kernel
theorem dX7_shifted_9 : decode cX7_shifted 9 = .ok (.bipush 10, 2) := by decide +kernel
theorem dX7_shifted_11 : decode cX7_shifted 11 = .ok (.irem, 1) := by decide +kernel
theorem dX7_shifted_12 : decode cX7_shifted 12 = .ok (.bipush 100, 2) := by decide +kernel
theorem dX7_shifted_14 : decode cX7_shifted 14 = .ok (.imul, 1) := by decide +kernel
theorem dX7_shifted_15 : decode cX7_shifted 15 = .ok (.iload_n 0, 1) := by decide +kernel
theorem dX7_shifted_16 : decode cX7_shifted 16 = .ok (.bipush 10, 2) := by decide +kernel
theorem dX7_shifted_18 : decode cX7_shifted 18 = .ok (.idiv, 1) := by decide +kernel
theorem dX7_shifted_19 : decode cX7_shifted 19 = .ok (.iload_n 1, 1) := by decide +kernel
theorem dX7_shifted_20 : decode cX7_shifted 20 = .ok (.bipush 10, 2) := by decide +kernel
theorem dX7_shifted_22 : decode cX7_shifted 22 = .ok (.idiv, 1) := by decide +kernel
theorem dX7_shifted_23 : decode cX7_shifted 23 = .ok (.iadd, 1) := by decide +kernel
theorem dX7_shifted_24 : decode cX7_shifted 24 = .ok (.bipush 10, 2) := by decide +kernel
theorem dX7_shifted_26 : decode cX7_shifted 26 = .ok (.irem, 1) := by decide +kernel
theorem dX7_shifted_27 : decode cX7_shifted 27 = .ok (.bipush 10, 2) := by decide +kernel
theorem dX7_shifted_29 : decode cX7_shifted 29 = .ok (.imul, 1) := by decide +kernel
theorem dX7_shifted_30 : decode cX7_shifted 30 = .ok (.iadd, 1) := by decide +kernel
theorem dX7_shifted_31 : decode cX7_shifted 31 = .ok (.iload_n 0, 1) := by decide +kernel
theorem dX7_shifted_32 : decode cX7_shifted 32 = .ok (.iload_n 1, 1) := by decide +kernel
theorem dX7_shifted_33 : decode cX7_shifted 33 = .ok (.iadd, 1) := by decide +kernel
theorem dX7_shifted_34 : decode cX7_shifted 34 = .ok (.bipush 10, 2) := by decide +kernel
theorem dX7_shifted_36 : decode cX7_shifted 36 = .ok (.irem, 1) := by decide +kernel
theorem dX7_shifted_37 : decode cX7_shifted 37 = .ok (.iadd, 1) := by decide +kernel
theorem dX7_shifted_38 : decode cX7_shifted 38 = .ok (.ireturn, 1) := by decide +kernel
theorem dX7_saidBy_0 : decode cX7_saidBy 0 = .ok (.aload_n 0, 1) := by decide +kernel
theorem dX7_saidBy_1 : decode cX7_saidBy 1 = .ok (.getfield 35, 3) := by decide +kernel
theorem dX7_saidBy_4 : decode cX7_saidBy 4 = .ok (.iload_n 1, 1) := by decide +kernel
theorem dX7_saidBy_5 : decode cX7_saidBy 5 = .ok (.iaload, 1) := by decide +kernel
theorem dX7_saidBy_6 : decode cX7_saidBy 6 = .ok (.aload_n 0, 1) := by decide +kernel
theorem dX7_saidBy_7 : decode cX7_saidBy 7 = .ok (.getfield 32, 3) := by decide +kernel
theorem dX7_saidBy_10 : decode cX7_saidBy 10 = .ok (.iload_n 2, 1) := by decide +kernel
theorem dX7_saidBy_11 : decode cX7_saidBy 11 = .ok (.iaload, 1) := by decide +kernel
theorem dX7_saidBy_12 : decode cX7_saidBy 12 = .ok (.invokestatic 150, 3) := by decide +kernel
theorem dX7_saidBy_15 : decode cX7_saidBy 15 = .ok (.ireturn, 1) := by decide +kernel
theorem dX7_weight_0 : decode cX7_weight 0 = .ok (.aload_n 0, 1) := by decide +kernel
theorem dX7_weight_1 : decode cX7_weight 1 = .ok (.getfield 35, 3) := by decide +kernel
theorem dX7_weight_4 : decode cX7_weight 4 = .ok (.bipush 8, 2) := by decide +kernel
theorem dX7_weight_6 : decode cX7_weight 6 = .ok (.iload_n 1, 1) := by decide +kernel
theorem dX7_weight_7 : decode cX7_weight 7 = .ok (.iadd, 1) := by decide +kernel
theorem dX7_weight_8 : decode cX7_weight 8 = .ok (.iaload, 1) := by decide +kernel
theorem dX7_weight_9 : decode cX7_weight 9 = .ok (.iconst 1, 1) := by decide +kernel
theorem dX7_weight_10 : decode cX7_weight 10 = .ok (.iadd, 1) := by decide +kernel
theorem dX7_weight_11 : decode cX7_weight 11 = .ok (.bipush 28, 2) := by decide +kernel
theorem dX7_weight_13 : decode cX7_weight 13 = .ok (.aload_n 0, 1) := by decide +kernel
theorem dX7_weight_14 : decode cX7_weight 14 = .ok (.getfield 35, 3) := by decide +kernel
theorem dX7_weight_17 : decode cX7_weight 17 = .ok (.iload_n 1, 1) := by decide +kernel
theorem dX7_weight_18 : decode cX7_weight 18 = .ok (.iaload, 1) := by decide +kernel
theorem dX7_weight_19 : decode cX7_weight 19 = .ok (.iload_n 2, 1) := by decide +kernel
theorem dX7_weight_20 : decode cX7_weight 20 = .ok (.invokestatic 153, 3) := by decide +kernel
theorem dX7_weight_23 : decode cX7_weight 23 = .ok (.isub, 1) := by decide +kernel
theorem dX7_weight_24 : decode cX7_weight 24 = .ok (.imul, 1) := by decide +kernel
theorem dX7_weight_25 : decode cX7_weight 25 = .ok (.ireturn, 1) := by decide +kernel
theorem dX7_guessOf_0 : decode cX7_guessOf 0 = .ok (.iconst (-1), 1) := by decide +kernel
theorem dX7_guessOf_1 : decode cX7_guessOf 1 = .ok (.istore_n 2, 1) := by decide +kernel
theorem dX7_guessOf_2 : decode cX7_guessOf 2 = .ok (.iconst 0, 1) := by decide +kernel
theorem dX7_guessOf_3 : decode cX7_guessOf 3 = .ok (.istore_n 3, 1) := by decide +kernel
theorem dX7_guessOf_4 : decode cX7_guessOf 4 = .ok (.iconst 0, 1) := by decide +kernel
theorem dX7_guessOf_5 : decode cX7_guessOf 5 = .ok (.istore 4, 2) := by decide +kernel
theorem dX7_guessOf_7 : decode cX7_guessOf 7 = .ok (.iload 4, 2) := by decide +kernel
theorem dX7_guessOf_9 : decode cX7_guessOf 9 = .ok (.aload_n 0, 1) := by decide +kernel
theorem dX7_guessOf_10 : decode cX7_guessOf 10 = .ok (.getfield 120, 3) := by decide +kernel
theorem dX7_guessOf_13 : decode cX7_guessOf 13 = .ok (.if_icmp .ge 44, 3) := by decide +kernel
theorem dX7_guessOf_16 : decode cX7_guessOf 16 = .ok (.aload_n 0, 1) := by decide +kernel
theorem dX7_guessOf_17 : decode cX7_guessOf 17 = .ok (.iload 4, 2) := by decide +kernel
theorem dX7_guessOf_19 : decode cX7_guessOf 19 = .ok (.iload_n 1, 1) := by decide +kernel
theorem dX7_guessOf_20 : decode cX7_guessOf 20 = .ok (.invokevirtual 156, 3) := by decide +kernel
theorem dX7_guessOf_23 : decode cX7_guessOf 23 = .ok (.istore 5, 2) := by decide +kernel
theorem dX7_guessOf_25 : decode cX7_guessOf 25 = .ok (.iload 5, 2) := by decide +kernel
theorem dX7_guessOf_27 : decode cX7_guessOf 27 = .ok (.iload_n 3, 1) := by decide +kernel
theorem dX7_guessOf_28 : decode cX7_guessOf 28 = .ok (.if_icmp .le 8, 3) := by decide +kernel
theorem dX7_guessOf_31 : decode cX7_guessOf 31 = .ok (.iload 4, 2) := by decide +kernel
theorem dX7_guessOf_33 : decode cX7_guessOf 33 = .ok (.goto 4, 3) := by decide +kernel
theorem dX7_guessOf_36 : decode cX7_guessOf 36 = .ok (.iload_n 2, 1) := by decide +kernel
theorem dX7_guessOf_37 : decode cX7_guessOf 37 = .ok (.istore_n 2, 1) := by decide +kernel
theorem dX7_guessOf_38 : decode cX7_guessOf 38 = .ok (.iload 5, 2) := by decide +kernel
theorem dX7_guessOf_40 : decode cX7_guessOf 40 = .ok (.iload_n 3, 1) := by decide +kernel
theorem dX7_guessOf_41 : decode cX7_guessOf 41 = .ok (.if_icmp .le 8, 3) := by decide +kernel
theorem dX7_guessOf_44 : decode cX7_guessOf 44 = .ok (.iload 5, 2) := by decide +kernel
theorem dX7_guessOf_46 : decode cX7_guessOf 46 = .ok (.goto 4, 3) := by decide +kernel
theorem dX7_guessOf_49 : decode cX7_guessOf 49 = .ok (.iload_n 3, 1) := by decide +kernel
theorem dX7_guessOf_50 : decode cX7_guessOf 50 = .ok (.istore_n 3, 1) := by decide +kernel
theorem dX7_guessOf_51 : decode cX7_guessOf 51 = .ok (.iinc 4 1, 3) := by decide +kernel
theorem dX7_guessOf_54 : decode cX7_guessOf 54 = .ok (.goto (-47), 3) := by decide +kernel
theorem dX7_guessOf_57 : decode cX7_guessOf 57 = .ok (.iload_n 2, 1) := by decide +kernel
theorem dX7_guessOf_58 : decode cX7_guessOf 58 = .ok (.ireturn, 1) := by decide +kernel
theorem dX7_sureOf_0 : decode cX7_sureOf 0 = .ok (.lconst 0, 1) := by decide +kernel
theorem dX7_sureOf_1 : decode cX7_sureOf 1 = .ok (.lstore_n 3, 1) := by decide +kernel
theorem dX7_sureOf_2 : decode cX7_sureOf 2 = .ok (.iconst 0, 1) := by decide +kernel
theorem dX7_sureOf_3 : decode cX7_sureOf 3 = .ok (.istore 5, 2) := by decide +kernel
theorem dX7_sureOf_5 : decode cX7_sureOf 5 = .ok (.iload 5, 2) := by decide +kernel
theorem dX7_sureOf_7 : decode cX7_sureOf 7 = .ok (.aload_n 0, 1) := by decide +kernel
theorem dX7_sureOf_8 : decode cX7_sureOf 8 = .ok (.getfield 120, 3) := by decide +kernel
theorem dX7_sureOf_11 : decode cX7_sureOf 11 = .ok (.if_icmp .ge 20, 3) := by decide +kernel
theorem dX7_sureOf_14 : decode cX7_sureOf 14 = .ok (.lload_n 3, 1) := by decide +kernel
theorem dX7_sureOf_15 : decode cX7_sureOf 15 = .ok (.aload_n 0, 1) := by decide +kernel
theorem dX7_sureOf_16 : decode cX7_sureOf 16 = .ok (.iload 5, 2) := by decide +kernel
theorem dX7_sureOf_18 : decode cX7_sureOf 18 = .ok (.iload_n 2, 1) := by decide +kernel
theorem dX7_sureOf_19 : decode cX7_sureOf 19 = .ok (.invokevirtual 156, 3) := by decide +kernel
theorem dX7_sureOf_22 : decode cX7_sureOf 22 = .ok (.i2l, 1) := by decide +kernel
theorem dX7_sureOf_23 : decode cX7_sureOf 23 = .ok (.ladd, 1) := by decide +kernel
theorem dX7_sureOf_24 : decode cX7_sureOf 24 = .ok (.lstore_n 3, 1) := by decide +kernel
theorem dX7_sureOf_25 : decode cX7_sureOf 25 = .ok (.iinc 5 1, 3) := by decide +kernel
theorem dX7_sureOf_28 : decode cX7_sureOf 28 = .ok (.goto (-23), 3) := by decide +kernel
theorem dX7_sureOf_31 : decode cX7_sureOf 31 = .ok (.aload_n 0, 1) := by decide +kernel
theorem dX7_sureOf_32 : decode cX7_sureOf 32 = .ok (.iload_n 1, 1) := by decide +kernel
theorem dX7_sureOf_33 : decode cX7_sureOf 33 = .ok (.iload_n 2, 1) := by decide +kernel
theorem dX7_sureOf_34 : decode cX7_sureOf 34 = .ok (.invokevirtual 156, 3) := by decide +kernel
theorem dX7_sureOf_37 : decode cX7_sureOf 37 = .ok (.i2l, 1) := by decide +kernel
theorem dX7_sureOf_38 : decode cX7_sureOf 38 = .ok (.ldc2_w 159, 3) := by decide +kernel
theorem dX7_sureOf_41 : decode cX7_sureOf 41 = .ok (.lmul, 1) := by decide +kernel
theorem dX7_sureOf_42 : decode cX7_sureOf 42 = .ok (.lload_n 3, 1) := by decide +kernel
theorem dX7_sureOf_43 : decode cX7_sureOf 43 = .ok (.ldiv, 1) := by decide +kernel
theorem dX7_sureOf_44 : decode cX7_sureOf 44 = .ok (.l2i, 1) := by decide +kernel
theorem dX7_sureOf_45 : decode cX7_sureOf 45 = .ok (.ireturn, 1) := by decide +kernel
theorem dX7_costOf_0 : decode cX7_costOf 0 = .ok (.iload_n 2, 1) := by decide +kernel
theorem dX7_costOf_1 : decode cX7_costOf 1 = .ok (.ifCond .le 12, 3) := by decide +kernel
theorem dX7_costOf_4 : decode cX7_costOf 4 = .ok (.aload_n 0, 1) := by decide +kernel
theorem dX7_costOf_5 : decode cX7_costOf 5 = .ok (.getfield 26, 3) := by decide +kernel
theorem dX7_costOf_8 : decode cX7_costOf 8 = .ok (.iload_n 2, 1) := by decide +kernel
theorem dX7_costOf_9 : decode cX7_costOf 9 = .ok (.iconst 1, 1) := by decide +kernel
theorem dX7_costOf_10 : decode cX7_costOf 10 = .ok (.isub, 1) := by decide +kernel
theorem dX7_costOf_11 : decode cX7_costOf 11 = .ok (.iaload, 1) := by decide +kernel
theorem dX7_costOf_12 : decode cX7_costOf 12 = .ok (.ireturn, 1) := by decide +kernel
theorem dX7_costOf_13 : decode cX7_costOf 13 = .ok (.aload_n 0, 1) := by decide +kernel
theorem dX7_costOf_14 : decode cX7_costOf 14 = .ok (.iload_n 1, 1) := by decide +kernel
theorem dX7_costOf_15 : decode cX7_costOf 15 = .ok (.invokevirtual 161, 3) := by decide +kernel
theorem dX7_costOf_18 : decode cX7_costOf 18 = .ok (.istore_n 3, 1) := by decide +kernel
theorem dX7_costOf_19 : decode cX7_costOf 19 = .ok (.ldc 164, 2) := by decide +kernel
theorem dX7_costOf_21 : decode cX7_costOf 21 = .ok (.aload_n 0, 1) := by decide +kernel
theorem dX7_costOf_22 : decode cX7_costOf 22 = .ok (.iload_n 3, 1) := by decide +kernel
theorem dX7_costOf_23 : decode cX7_costOf 23 = .ok (.iload_n 1, 1) := by decide +kernel
theorem dX7_costOf_24 : decode cX7_costOf 24 = .ok (.invokevirtual 165, 3) := by decide +kernel
theorem dX7_costOf_27 : decode cX7_costOf 27 = .ok (.isub, 1) := by decide +kernel
theorem dX7_costOf_28 : decode cX7_costOf 28 = .ok (.i2l, 1) := by decide +kernel
theorem dX7_costOf_29 : decode cX7_costOf 29 = .ok (.aload_n 0, 1) := by decide +kernel
theorem dX7_costOf_30 : decode cX7_costOf 30 = .ok (.getfield 29, 3) := by decide +kernel
theorem dX7_costOf_33 : decode cX7_costOf 33 = .ok (.iload_n 3, 1) := by decide +kernel
theorem dX7_costOf_34 : decode cX7_costOf 34 = .ok (.iaload, 1) := by decide +kernel
theorem dX7_costOf_35 : decode cX7_costOf 35 = .ok (.i2l, 1) := by decide +kernel
theorem dX7_costOf_36 : decode cX7_costOf 36 = .ok (.lmul, 1) := by decide +kernel
theorem dX7_costOf_37 : decode cX7_costOf 37 = .ok (.ldc2_w 159, 3) := by decide +kernel
theorem dX7_costOf_40 : decode cX7_costOf 40 = .ok (.ldiv, 1) := by decide +kernel
theorem dX7_costOf_41 : decode cX7_costOf 41 = .ok (.l2i, 1) := by decide +kernel
theorem dX7_costOf_42 : decode cX7_costOf 42 = .ok (.ireturn, 1) := by decide +kernel
theorem dX7_ruleOf_0 : decode cX7_ruleOf 0 = .ok (.iconst 0, 1) := by decide +kernel
theorem dX7_ruleOf_1 : decode cX7_ruleOf 1 = .ok (.istore_n 2, 1) := by decide +kernel
theorem dX7_ruleOf_2 : decode cX7_ruleOf 2 = .ok (.iconst 1, 1) := by decide +kernel
theorem dX7_ruleOf_3 : decode cX7_ruleOf 3 = .ok (.istore_n 3, 1) := by decide +kernel
theorem dX7_ruleOf_4 : decode cX7_ruleOf 4 = .ok (.iload_n 3, 1) := by decide +kernel
theorem dX7_ruleOf_5 : decode cX7_ruleOf 5 = .ok (.iconst 3, 1) := by decide +kernel
theorem dX7_ruleOf_6 : decode cX7_ruleOf 6 = .ok (.if_icmp .ge 30, 3) := by decide +kernel
theorem dX7_ruleOf_9 : decode cX7_ruleOf 9 = .ok (.aload_n 0, 1) := by decide +kernel
theorem dX7_ruleOf_10 : decode cX7_ruleOf 10 = .ok (.iload_n 1, 1) := by decide +kernel
theorem dX7_ruleOf_11 : decode cX7_ruleOf 11 = .ok (.iload_n 3, 1) := by decide +kernel
theorem dX7_ruleOf_12 : decode cX7_ruleOf 12 = .ok (.invokevirtual 168, 3) := by decide +kernel
theorem dX7_ruleOf_15 : decode cX7_ruleOf 15 = .ok (.aload_n 0, 1) := by decide +kernel
theorem dX7_ruleOf_16 : decode cX7_ruleOf 16 = .ok (.iload_n 1, 1) := by decide +kernel
theorem dX7_ruleOf_17 : decode cX7_ruleOf 17 = .ok (.iload_n 2, 1) := by decide +kernel
theorem dX7_ruleOf_18 : decode cX7_ruleOf 18 = .ok (.invokevirtual 168, 3) := by decide +kernel
theorem dX7_ruleOf_21 : decode cX7_ruleOf 21 = .ok (.if_icmp .ge 7, 3) := by decide +kernel
theorem dX7_ruleOf_24 : decode cX7_ruleOf 24 = .ok (.iload_n 3, 1) := by decide +kernel
theorem dX7_ruleOf_25 : decode cX7_ruleOf 25 = .ok (.goto 4, 3) := by decide +kernel
theorem dX7_ruleOf_28 : decode cX7_ruleOf 28 = .ok (.iload_n 2, 1) := by decide +kernel
theorem dX7_ruleOf_29 : decode cX7_ruleOf 29 = .ok (.istore_n 2, 1) := by decide +kernel
theorem dX7_ruleOf_30 : decode cX7_ruleOf 30 = .ok (.iinc 3 1, 3) := by decide +kernel
theorem dX7_ruleOf_33 : decode cX7_ruleOf 33 = .ok (.goto (-29), 3) := by decide +kernel
theorem dX7_ruleOf_36 : decode cX7_ruleOf 36 = .ok (.iload_n 2, 1) := by decide +kernel
theorem dX7_ruleOf_37 : decode cX7_ruleOf 37 = .ok (.ireturn, 1) := by decide +kernel
theorem dX7_remember_0 : decode cX7_remember 0 = .ok (.iconst 0, 1) := by decide +kernel
theorem dX7_remember_1 : decode cX7_remember 1 = .ok (.istore_n 1, 1) := by decide +kernel
theorem dX7_remember_2 : decode cX7_remember 2 = .ok (.iload_n 1, 1) := by decide +kernel
theorem dX7_remember_3 : decode cX7_remember 3 = .ok (.bipush 27, 2) := by decide +kernel
theorem dX7_remember_5 : decode cX7_remember 5 = .ok (.if_icmp .ge 29, 3) := by decide +kernel
theorem dX7_remember_8 : decode cX7_remember 8 = .ok (.aload_n 0, 1) := by decide +kernel
theorem dX7_remember_9 : decode cX7_remember 9 = .ok (.getfield 38, 3) := by decide +kernel
theorem dX7_remember_12 : decode cX7_remember 12 = .ok (.bipush 27, 2) := by decide +kernel
theorem dX7_remember_14 : decode cX7_remember 14 = .ok (.aload_n 0, 1) := by decide +kernel
theorem dX7_remember_15 : decode cX7_remember 15 = .ok (.getfield 171, 3) := by decide +kernel
theorem dX7_remember_18 : decode cX7_remember 18 = .ok (.imul, 1) := by decide +kernel
theorem dX7_remember_19 : decode cX7_remember 19 = .ok (.iload_n 1, 1) := by decide +kernel
theorem dX7_remember_20 : decode cX7_remember 20 = .ok (.iadd, 1) := by decide +kernel
theorem dX7_remember_21 : decode cX7_remember 21 = .ok (.aload_n 0, 1) := by decide +kernel
theorem dX7_remember_22 : decode cX7_remember 22 = .ok (.getfield 35, 3) := by decide +kernel
theorem dX7_remember_25 : decode cX7_remember 25 = .ok (.iload_n 1, 1) := by decide +kernel
theorem dX7_remember_26 : decode cX7_remember 26 = .ok (.iaload, 1) := by decide +kernel
theorem dX7_remember_27 : decode cX7_remember 27 = .ok (.iastore, 1) := by decide +kernel
theorem dX7_remember_28 : decode cX7_remember 28 = .ok (.iinc 1 1, 3) := by decide +kernel
theorem dX7_remember_31 : decode cX7_remember 31 = .ok (.goto (-29), 3) := by decide +kernel
theorem dX7_remember_34 : decode cX7_remember 34 = .ok (.aload_n 0, 1) := by decide +kernel
theorem dX7_remember_35 : decode cX7_remember 35 = .ok (.aload_n 0, 1) := by decide +kernel
theorem dX7_remember_36 : decode cX7_remember 36 = .ok (.getfield 171, 3) := by decide +kernel
theorem dX7_remember_39 : decode cX7_remember 39 = .ok (.iconst 1, 1) := by decide +kernel
theorem dX7_remember_40 : decode cX7_remember 40 = .ok (.iadd, 1) := by decide +kernel
theorem dX7_remember_41 : decode cX7_remember 41 = .ok (.bipush 20, 2) := by decide +kernel
theorem dX7_remember_43 : decode cX7_remember 43 = .ok (.irem, 1) := by decide +kernel
theorem dX7_remember_44 : decode cX7_remember 44 = .ok (.putfield 171, 3) := by decide +kernel
theorem dX7_remember_47 : decode cX7_remember 47 = .ok (.aload_n 0, 1) := by decide +kernel
theorem dX7_remember_48 : decode cX7_remember 48 = .ok (.dup, 1) := by decide +kernel
theorem dX7_remember_49 : decode cX7_remember 49 = .ok (.getfield 132, 3) := by decide +kernel
theorem dX7_remember_52 : decode cX7_remember 52 = .ok (.aload_n 0, 1) := by decide +kernel
theorem dX7_remember_53 : decode cX7_remember 53 = .ok (.getfield 132, 3) := by decide +kernel
theorem dX7_remember_56 : decode cX7_remember 56 = .ok (.bipush 20, 2) := by decide +kernel
theorem dX7_remember_58 : decode cX7_remember 58 = .ok (.if_icmp .ge 7, 3) := by decide +kernel
theorem dX7_remember_61 : decode cX7_remember 61 = .ok (.iconst 1, 1) := by decide +kernel
theorem dX7_remember_62 : decode cX7_remember 62 = .ok (.goto 4, 3) := by decide +kernel
theorem dX7_remember_65 : decode cX7_remember 65 = .ok (.iconst 0, 1) := by decide +kernel
theorem dX7_remember_66 : decode cX7_remember 66 = .ok (.iadd, 1) := by decide +kernel
theorem dX7_remember_67 : decode cX7_remember 67 = .ok (.putfield 132, 3) := by decide +kernel
theorem dX7_remember_70 : decode cX7_remember 70 = .ok (.return_, 1) := by decide +kernel
theorem dX7_atMost_0 : decode cX7_atMost 0 = .ok (.iload_n 0, 1) := by decide +kernel
theorem dX7_atMost_1 : decode cX7_atMost 1 = .ok (.bipush 99, 2) := by decide +kernel
theorem dX7_atMost_3 : decode cX7_atMost 3 = .ok (.if_icmp .le 8, 3) := by decide +kernel
theorem dX7_atMost_6 : decode cX7_atMost 6 = .ok (.bipush 99, 2) := by decide +kernel
theorem dX7_atMost_8 : decode cX7_atMost 8 = .ok (.goto 4, 3) := by decide +kernel
theorem dX7_atMost_11 : decode cX7_atMost 11 = .ok (.iload_n 0, 1) := by decide +kernel
theorem dX7_atMost_12 : decode cX7_atMost 12 = .ok (.ireturn, 1) := by decide +kernel
theorem dX7_less_0 : decode cX7_less 0 = .ok (.iload_n 0, 1) := by decide +kernel
theorem dX7_less_1 : decode cX7_less 1 = .ok (.ifCond .le 9, 3) := by decide +kernel
theorem dX7_less_4 : decode cX7_less 4 = .ok (.iload_n 0, 1) := by decide +kernel
theorem dX7_less_5 : decode cX7_less 5 = .ok (.iconst 1, 1) := by decide +kernel
theorem dX7_less_6 : decode cX7_less 6 = .ok (.isub, 1) := by decide +kernel
theorem dX7_less_7 : decode cX7_less 7 = .ok (.goto 4, 3) := by decide +kernel
theorem dX7_less_10 : decode cX7_less 10 = .ok (.iconst 0, 1) := by decide +kernel
theorem dX7_less_11 : decode cX7_less 11 = .ok (.ireturn, 1) := by decide +kernel
theorem dX7_hears_0 : decode cX7_hears 0 = .ok (.aload_n 0, 1) := by decide +kernel
theorem dX7_hears_1 : decode cX7_hears 1 = .ok (.iload_n 1, 1) := by decide +kernel
theorem dX7_hears_2 : decode cX7_hears 2 = .ok (.invokevirtual 174, 3) := by decide +kernel
theorem dX7_hears_5 : decode cX7_hears 5 = .ok (.istore_n 2, 1) := by decide +kernel
theorem dX7_hears_6 : decode cX7_hears 6 = .ok (.aload_n 0, 1) := by decide +kernel
theorem dX7_hears_7 : decode cX7_hears 7 = .ok (.iload_n 1, 1) := by decide +kernel
theorem dX7_hears_8 : decode cX7_hears 8 = .ok (.invokevirtual 161, 3) := by decide +kernel
theorem dX7_hears_11 : decode cX7_hears 11 = .ok (.istore_n 3, 1) := by decide +kernel
theorem dX7_hears_12 : decode cX7_hears 12 = .ok (.aload_n 0, 1) := by decide +kernel
theorem dX7_hears_13 : decode cX7_hears 13 = .ok (.getfield 35, 3) := by decide +kernel
theorem dX7_hears_16 : decode cX7_hears 16 = .ok (.bipush 24, 2) := by decide +kernel
theorem dX7_hears_18 : decode cX7_hears 18 = .ok (.dup2, 1) := by decide +kernel
theorem dX7_hears_19 : decode cX7_hears 19 = .ok (.iaload, 1) := by decide +kernel
theorem dX7_hears_20 : decode cX7_hears 20 = .ok (.iconst 1, 1) := by decide +kernel
theorem dX7_hears_21 : decode cX7_hears 21 = .ok (.iadd, 1) := by decide +kernel
theorem dX7_hears_22 : decode cX7_hears 22 = .ok (.iastore, 1) := by decide +kernel
theorem dX7_hears_23 : decode cX7_hears 23 = .ok (.aload_n 0, 1) := by decide +kernel
theorem dX7_hears_24 : decode cX7_hears 24 = .ok (.getfield 35, 3) := by decide +kernel
theorem dX7_hears_27 : decode cX7_hears 27 = .ok (.bipush 26, 2) := by decide +kernel
theorem dX7_hears_29 : decode cX7_hears 29 = .ok (.iload_n 3, 1) := by decide +kernel
theorem dX7_hears_30 : decode cX7_hears 30 = .ok (.iastore, 1) := by decide +kernel
theorem dX7_hears_31 : decode cX7_hears 31 = .ok (.aload_n 0, 1) := by decide +kernel
theorem dX7_hears_32 : decode cX7_hears 32 = .ok (.getfield 35, 3) := by decide +kernel
theorem dX7_hears_35 : decode cX7_hears 35 = .ok (.bipush 16, 2) := by decide +kernel
theorem dX7_hears_37 : decode cX7_hears 37 = .ok (.iload_n 3, 1) := by decide +kernel
theorem dX7_hears_38 : decode cX7_hears 38 = .ok (.iadd, 1) := by decide +kernel
theorem dX7_hears_39 : decode cX7_hears 39 = .ok (.iload_n 2, 1) := by decide +kernel
theorem dX7_hears_40 : decode cX7_hears 40 = .ok (.ifCond .ne 20, 3) := by decide +kernel
theorem dX7_hears_43 : decode cX7_hears 43 = .ok (.aload_n 0, 1) := by decide +kernel
theorem dX7_hears_44 : decode cX7_hears 44 = .ok (.getfield 35, 3) := by decide +kernel
theorem dX7_hears_47 : decode cX7_hears 47 = .ok (.bipush 16, 2) := by decide +kernel
theorem dX7_hears_49 : decode cX7_hears 49 = .ok (.iload_n 3, 1) := by decide +kernel
theorem dX7_hears_50 : decode cX7_hears 50 = .ok (.iadd, 1) := by decide +kernel
theorem dX7_hears_51 : decode cX7_hears 51 = .ok (.iaload, 1) := by decide +kernel
theorem dX7_hears_52 : decode cX7_hears 52 = .ok (.iconst 1, 1) := by decide +kernel
theorem dX7_hears_53 : decode cX7_hears 53 = .ok (.iadd, 1) := by decide +kernel
theorem dX7_hears_54 : decode cX7_hears 54 = .ok (.invokestatic 177, 3) := by decide +kernel
theorem dX7_hears_57 : decode cX7_hears 57 = .ok (.goto 12, 3) := by decide +kernel
theorem dX7_hears_60 : decode cX7_hears 60 = .ok (.aload_n 0, 1) := by decide +kernel
theorem dX7_hears_61 : decode cX7_hears 61 = .ok (.getfield 35, 3) := by decide +kernel
theorem dX7_hears_64 : decode cX7_hears 64 = .ok (.bipush 16, 2) := by decide +kernel
theorem dX7_hears_66 : decode cX7_hears 66 = .ok (.iload_n 3, 1) := by decide +kernel
theorem dX7_hears_67 : decode cX7_hears 67 = .ok (.iadd, 1) := by decide +kernel
theorem dX7_hears_68 : decode cX7_hears 68 = .ok (.iaload, 1) := by decide +kernel
theorem dX7_hears_69 : decode cX7_hears 69 = .ok (.iastore, 1) := by decide +kernel
theorem dX7_hears_70 : decode cX7_hears 70 = .ok (.aload_n 0, 1) := by decide +kernel
theorem dX7_hears_71 : decode cX7_hears 71 = .ok (.getfield 35, 3) := by decide +kernel
theorem dX7_hears_74 : decode cX7_hears 74 = .ok (.bipush 25, 2) := by decide +kernel
theorem dX7_hears_76 : decode cX7_hears 76 = .ok (.dup2, 1) := by decide +kernel
theorem dX7_hears_77 : decode cX7_hears 77 = .ok (.iaload, 1) := by decide +kernel
theorem dX7_hears_78 : decode cX7_hears 78 = .ok (.iload_n 2, 1) := by decide +kernel
theorem dX7_hears_79 : decode cX7_hears 79 = .ok (.iconst 1, 1) := by decide +kernel
theorem dX7_hears_80 : decode cX7_hears 80 = .ok (.if_icmp .ne 7, 3) := by decide +kernel
theorem dX7_hears_83 : decode cX7_hears 83 = .ok (.iconst 1, 1) := by decide +kernel
theorem dX7_hears_84 : decode cX7_hears 84 = .ok (.goto 4, 3) := by decide +kernel
theorem dX7_hears_87 : decode cX7_hears 87 = .ok (.iconst 0, 1) := by decide +kernel
theorem dX7_hears_88 : decode cX7_hears 88 = .ok (.iadd, 1) := by decide +kernel
theorem dX7_hears_89 : decode cX7_hears 89 = .ok (.iastore, 1) := by decide +kernel
theorem dX7_hears_90 : decode cX7_hears 90 = .ok (.iload_n 2, 1) := by decide +kernel
theorem dX7_hears_91 : decode cX7_hears 91 = .ok (.ireturn, 1) := by decide +kernel
theorem dX7_takesBack_0 : decode cX7_takesBack 0 = .ok (.aload_n 0, 1) := by decide +kernel
theorem dX7_takesBack_1 : decode cX7_takesBack 1 = .ok (.getfield 35, 3) := by decide +kernel
theorem dX7_takesBack_4 : decode cX7_takesBack 4 = .ok (.bipush 26, 2) := by decide +kernel
theorem dX7_takesBack_6 : decode cX7_takesBack 6 = .ok (.iaload, 1) := by decide +kernel
theorem dX7_takesBack_7 : decode cX7_takesBack 7 = .ok (.istore_n 2, 1) := by decide +kernel
theorem dX7_takesBack_8 : decode cX7_takesBack 8 = .ok (.aload_n 0, 1) := by decide +kernel
theorem dX7_takesBack_9 : decode cX7_takesBack 9 = .ok (.getfield 35, 3) := by decide +kernel
theorem dX7_takesBack_12 : decode cX7_takesBack 12 = .ok (.bipush 16, 2) := by decide +kernel
theorem dX7_takesBack_14 : decode cX7_takesBack 14 = .ok (.iload_n 2, 1) := by decide +kernel
theorem dX7_takesBack_15 : decode cX7_takesBack 15 = .ok (.iadd, 1) := by decide +kernel
theorem dX7_takesBack_16 : decode cX7_takesBack 16 = .ok (.aload_n 0, 1) := by decide +kernel
theorem dX7_takesBack_17 : decode cX7_takesBack 17 = .ok (.getfield 35, 3) := by decide +kernel
theorem dX7_takesBack_20 : decode cX7_takesBack 20 = .ok (.bipush 16, 2) := by decide +kernel
theorem dX7_takesBack_22 : decode cX7_takesBack 22 = .ok (.iload_n 2, 1) := by decide +kernel
theorem dX7_takesBack_23 : decode cX7_takesBack 23 = .ok (.iadd, 1) := by decide +kernel
theorem dX7_takesBack_24 : decode cX7_takesBack 24 = .ok (.iaload, 1) := by decide +kernel
theorem dX7_takesBack_25 : decode cX7_takesBack 25 = .ok (.invokestatic 180, 3) := by decide +kernel
theorem dX7_takesBack_28 : decode cX7_takesBack 28 = .ok (.iastore, 1) := by decide +kernel
theorem dX7_takesBack_29 : decode cX7_takesBack 29 = .ok (.aload_n 0, 1) := by decide +kernel
theorem dX7_takesBack_30 : decode cX7_takesBack 30 = .ok (.getfield 35, 3) := by decide +kernel
theorem dX7_takesBack_33 : decode cX7_takesBack 33 = .ok (.bipush 8, 2) := by decide +kernel
theorem dX7_takesBack_35 : decode cX7_takesBack 35 = .ok (.iload_n 2, 1) := by decide +kernel
theorem dX7_takesBack_36 : decode cX7_takesBack 36 = .ok (.iadd, 1) := by decide +kernel
theorem dX7_takesBack_37 : decode cX7_takesBack 37 = .ok (.aload_n 0, 1) := by decide +kernel
theorem dX7_takesBack_38 : decode cX7_takesBack 38 = .ok (.getfield 35, 3) := by decide +kernel
theorem dX7_takesBack_41 : decode cX7_takesBack 41 = .ok (.bipush 8, 2) := by decide +kernel
theorem dX7_takesBack_43 : decode cX7_takesBack 43 = .ok (.iload_n 2, 1) := by decide +kernel
theorem dX7_takesBack_44 : decode cX7_takesBack 44 = .ok (.iadd, 1) := by decide +kernel
theorem dX7_takesBack_45 : decode cX7_takesBack 45 = .ok (.iaload, 1) := by decide +kernel
theorem dX7_takesBack_46 : decode cX7_takesBack 46 = .ok (.invokestatic 180, 3) := by decide +kernel
theorem dX7_takesBack_49 : decode cX7_takesBack 49 = .ok (.iastore, 1) := by decide +kernel
theorem dX7_takesBack_50 : decode cX7_takesBack 50 = .ok (.aload_n 0, 1) := by decide +kernel
theorem dX7_takesBack_51 : decode cX7_takesBack 51 = .ok (.getfield 35, 3) := by decide +kernel
theorem dX7_takesBack_54 : decode cX7_takesBack 54 = .ok (.bipush 8, 2) := by decide +kernel
theorem dX7_takesBack_56 : decode cX7_takesBack 56 = .ok (.iload_n 1, 1) := by decide +kernel
theorem dX7_takesBack_57 : decode cX7_takesBack 57 = .ok (.iadd, 1) := by decide +kernel
theorem dX7_takesBack_58 : decode cX7_takesBack 58 = .ok (.aload_n 0, 1) := by decide +kernel
theorem dX7_takesBack_59 : decode cX7_takesBack 59 = .ok (.getfield 35, 3) := by decide +kernel
theorem dX7_takesBack_62 : decode cX7_takesBack 62 = .ok (.bipush 8, 2) := by decide +kernel
theorem dX7_takesBack_64 : decode cX7_takesBack 64 = .ok (.iload_n 1, 1) := by decide +kernel
theorem dX7_takesBack_65 : decode cX7_takesBack 65 = .ok (.iadd, 1) := by decide +kernel
theorem dX7_takesBack_66 : decode cX7_takesBack 66 = .ok (.iaload, 1) := by decide +kernel
theorem dX7_takesBack_67 : decode cX7_takesBack 67 = .ok (.iconst 2, 1) := by decide +kernel
theorem dX7_takesBack_68 : decode cX7_takesBack 68 = .ok (.iadd, 1) := by decide +kernel
theorem dX7_takesBack_69 : decode cX7_takesBack 69 = .ok (.invokestatic 177, 3) := by decide +kernel
theorem dX7_takesBack_72 : decode cX7_takesBack 72 = .ok (.iastore, 1) := by decide +kernel
theorem dX7_takesBack_73 : decode cX7_takesBack 73 = .ok (.aload_n 0, 1) := by decide +kernel
theorem dX7_takesBack_74 : decode cX7_takesBack 74 = .ok (.getfield 35, 3) := by decide +kernel
theorem dX7_takesBack_77 : decode cX7_takesBack 77 = .ok (.bipush 16, 2) := by decide +kernel
theorem dX7_takesBack_79 : decode cX7_takesBack 79 = .ok (.iload_n 1, 1) := by decide +kernel
theorem dX7_takesBack_80 : decode cX7_takesBack 80 = .ok (.iadd, 1) := by decide +kernel
theorem dX7_takesBack_81 : decode cX7_takesBack 81 = .ok (.aload_n 0, 1) := by decide +kernel
theorem dX7_takesBack_82 : decode cX7_takesBack 82 = .ok (.getfield 35, 3) := by decide +kernel
theorem dX7_takesBack_85 : decode cX7_takesBack 85 = .ok (.bipush 16, 2) := by decide +kernel
theorem dX7_takesBack_87 : decode cX7_takesBack 87 = .ok (.iload_n 1, 1) := by decide +kernel
theorem dX7_takesBack_88 : decode cX7_takesBack 88 = .ok (.iadd, 1) := by decide +kernel
theorem dX7_takesBack_89 : decode cX7_takesBack 89 = .ok (.iaload, 1) := by decide +kernel
theorem dX7_takesBack_90 : decode cX7_takesBack 90 = .ok (.iconst 1, 1) := by decide +kernel
theorem dX7_takesBack_91 : decode cX7_takesBack 91 = .ok (.iadd, 1) := by decide +kernel
theorem dX7_takesBack_92 : decode cX7_takesBack 92 = .ok (.invokestatic 177, 3) := by decide +kernel
theorem dX7_takesBack_95 : decode cX7_takesBack 95 = .ok (.iastore, 1) := by decide +kernel
theorem dX7_takesBack_96 : decode cX7_takesBack 96 = .ok (.aload_n 0, 1) := by decide +kernel
theorem dX7_takesBack_97 : decode cX7_takesBack 97 = .ok (.getfield 35, 3) := by decide +kernel
theorem dX7_takesBack_100 : decode cX7_takesBack 100 = .ok (.bipush 26, 2) := by decide +kernel
theorem dX7_takesBack_102 : decode cX7_takesBack 102 = .ok (.iconst (-1), 1) := by decide +kernel
theorem dX7_takesBack_103 : decode cX7_takesBack 103 = .ok (.iastore, 1) := by decide +kernel
theorem dX7_takesBack_104 : decode cX7_takesBack 104 = .ok (.return_, 1) := by decide +kernel
theorem dX7_letsBe_0 : decode cX7_letsBe 0 = .ok (.aload_n 0, 1) := by decide +kernel
theorem dX7_letsBe_1 : decode cX7_letsBe 1 = .ok (.getfield 35, 3) := by decide +kernel
theorem dX7_letsBe_4 : decode cX7_letsBe 4 = .ok (.bipush 26, 2) := by decide +kernel
theorem dX7_letsBe_6 : decode cX7_letsBe 6 = .ok (.iaload, 1) := by decide +kernel
theorem dX7_letsBe_7 : decode cX7_letsBe 7 = .ok (.istore_n 1, 1) := by decide +kernel
theorem dX7_letsBe_8 : decode cX7_letsBe 8 = .ok (.aload_n 0, 1) := by decide +kernel
theorem dX7_letsBe_9 : decode cX7_letsBe 9 = .ok (.getfield 35, 3) := by decide +kernel
theorem dX7_letsBe_12 : decode cX7_letsBe 12 = .ok (.bipush 8, 2) := by decide +kernel
theorem dX7_letsBe_14 : decode cX7_letsBe 14 = .ok (.iload_n 1, 1) := by decide +kernel
theorem dX7_letsBe_15 : decode cX7_letsBe 15 = .ok (.iadd, 1) := by decide +kernel
theorem dX7_letsBe_16 : decode cX7_letsBe 16 = .ok (.aload_n 0, 1) := by decide +kernel
theorem dX7_letsBe_17 : decode cX7_letsBe 17 = .ok (.getfield 35, 3) := by decide +kernel
theorem dX7_letsBe_20 : decode cX7_letsBe 20 = .ok (.bipush 8, 2) := by decide +kernel
theorem dX7_letsBe_22 : decode cX7_letsBe 22 = .ok (.iload_n 1, 1) := by decide +kernel
theorem dX7_letsBe_23 : decode cX7_letsBe 23 = .ok (.iadd, 1) := by decide +kernel
theorem dX7_letsBe_24 : decode cX7_letsBe 24 = .ok (.iaload, 1) := by decide +kernel
theorem dX7_letsBe_25 : decode cX7_letsBe 25 = .ok (.iconst 1, 1) := by decide +kernel
theorem dX7_letsBe_26 : decode cX7_letsBe 26 = .ok (.iadd, 1) := by decide +kernel
theorem dX7_letsBe_27 : decode cX7_letsBe 27 = .ok (.invokestatic 177, 3) := by decide +kernel
theorem dX7_letsBe_30 : decode cX7_letsBe 30 = .ok (.iastore, 1) := by decide +kernel
theorem dX7_letsBe_31 : decode cX7_letsBe 31 = .ok (.aload_n 0, 1) := by decide +kernel
theorem dX7_letsBe_32 : decode cX7_letsBe 32 = .ok (.getfield 35, 3) := by decide +kernel
theorem dX7_letsBe_35 : decode cX7_letsBe 35 = .ok (.bipush 26, 2) := by decide +kernel
theorem dX7_letsBe_37 : decode cX7_letsBe 37 = .ok (.iconst (-1), 1) := by decide +kernel
theorem dX7_letsBe_38 : decode cX7_letsBe 38 = .ok (.iastore, 1) := by decide +kernel
theorem dX7_letsBe_39 : decode cX7_letsBe 39 = .ok (.aload_n 0, 1) := by decide +kernel
theorem dX7_letsBe_40 : decode cX7_letsBe 40 = .ok (.getfield 35, 3) := by decide +kernel
theorem dX7_letsBe_43 : decode cX7_letsBe 43 = .ok (.bipush 8, 2) := by decide +kernel
theorem dX7_letsBe_45 : decode cX7_letsBe 45 = .ok (.iload_n 1, 1) := by decide +kernel
theorem dX7_letsBe_46 : decode cX7_letsBe 46 = .ok (.iadd, 1) := by decide +kernel
theorem dX7_letsBe_47 : decode cX7_letsBe 47 = .ok (.iaload, 1) := by decide +kernel
theorem dX7_letsBe_48 : decode cX7_letsBe 48 = .ok (.ireturn, 1) := by decide +kernel
theorem dX7_hear_0 : decode cX7_hear 0 = .ok (.iload_n 1, 1) := by decide +kernel
theorem dX7_hear_1 : decode cX7_hear 1 = .ok (.invokestatic 183, 3) := by decide +kernel
theorem dX7_hear_4 : decode cX7_hear 4 = .ok (.ifCond .ne 6, 3) := by decide +kernel
theorem dX7_hear_7 : decode cX7_hear 7 = .ok (.ldc 62, 2) := by decide +kernel
theorem dX7_hear_9 : decode cX7_hear 9 = .ok (.ireturn, 1) := by decide +kernel
theorem dX7_hear_10 : decode cX7_hear 10 = .ok (.aload_n 0, 1) := by decide +kernel
theorem dX7_hear_11 : decode cX7_hear 11 = .ok (.getfield 120, 3) := by decide +kernel
theorem dX7_hear_14 : decode cX7_hear 14 = .ok (.ifCond .ne 6, 3) := by decide +kernel
theorem dX7_hear_17 : decode cX7_hear 17 = .ok (.ldc 186, 2) := by decide +kernel
theorem dX7_hear_19 : decode cX7_hear 19 = .ok (.ireturn, 1) := by decide +kernel
theorem dX7_hear_20 : decode cX7_hear 20 = .ok (.aload_n 0, 1) := by decide +kernel
theorem dX7_hear_21 : decode cX7_hear 21 = .ok (.getfield 35, 3) := by decide +kernel
theorem dX7_hear_24 : decode cX7_hear 24 = .ok (.bipush 24, 2) := by decide +kernel
theorem dX7_hear_26 : decode cX7_hear 26 = .ok (.iaload, 1) := by decide +kernel
theorem dX7_hear_27 : decode cX7_hear 27 = .ok (.sipush 9000, 3) := by decide +kernel
theorem dX7_hear_30 : decode cX7_hear 30 = .ok (.if_icmp .le 6, 3) := by decide +kernel
theorem dX7_hear_33 : decode cX7_hear 33 = .ok (.ldc 66, 2) := by decide +kernel
theorem dX7_hear_35 : decode cX7_hear 35 = .ok (.ireturn, 1) := by decide +kernel
theorem dX7_hear_36 : decode cX7_hear 36 = .ok (.aload_n 0, 1) := by decide +kernel
theorem dX7_hear_37 : decode cX7_hear 37 = .ok (.invokevirtual 187, 3) := by decide +kernel
theorem dX7_hear_40 : decode cX7_hear 40 = .ok (.aload_n 0, 1) := by decide +kernel
theorem dX7_hear_41 : decode cX7_hear 41 = .ok (.iload_n 1, 1) := by decide +kernel
theorem dX7_hear_42 : decode cX7_hear 42 = .ok (.invokevirtual 190, 3) := by decide +kernel
theorem dX7_hear_45 : decode cX7_hear 45 = .ok (.ireturn, 1) := by decide +kernel
theorem dX7_takeBack_0 : decode cX7_takeBack 0 = .ok (.aload_n 0, 1) := by decide +kernel
theorem dX7_takeBack_1 : decode cX7_takeBack 1 = .ok (.iload_n 1, 1) := by decide +kernel
theorem dX7_takeBack_2 : decode cX7_takeBack 2 = .ok (.invokevirtual 139, 3) := by decide +kernel
theorem dX7_takeBack_5 : decode cX7_takeBack 5 = .ok (.ifCond .ne 6, 3) := by decide +kernel
theorem dX7_takeBack_8 : decode cX7_takeBack 8 = .ok (.ldc 142, 2) := by decide +kernel
theorem dX7_takeBack_10 : decode cX7_takeBack 10 = .ok (.ireturn, 1) := by decide +kernel
theorem dX7_takeBack_11 : decode cX7_takeBack 11 = .ok (.aload_n 0, 1) := by decide +kernel
theorem dX7_takeBack_12 : decode cX7_takeBack 12 = .ok (.getfield 35, 3) := by decide +kernel
theorem dX7_takeBack_15 : decode cX7_takeBack 15 = .ok (.bipush 26, 2) := by decide +kernel
theorem dX7_takeBack_17 : decode cX7_takeBack 17 = .ok (.iaload, 1) := by decide +kernel
theorem dX7_takeBack_18 : decode cX7_takeBack 18 = .ok (.iconst (-1), 1) := by decide +kernel
theorem dX7_takeBack_19 : decode cX7_takeBack 19 = .ok (.if_icmp .eq 14, 3) := by decide +kernel
theorem dX7_takeBack_22 : decode cX7_takeBack 22 = .ok (.aload_n 0, 1) := by decide +kernel
theorem dX7_takeBack_23 : decode cX7_takeBack 23 = .ok (.getfield 35, 3) := by decide +kernel
theorem dX7_takeBack_26 : decode cX7_takeBack 26 = .ok (.bipush 26, 2) := by decide +kernel
theorem dX7_takeBack_28 : decode cX7_takeBack 28 = .ok (.iaload, 1) := by decide +kernel
theorem dX7_takeBack_29 : decode cX7_takeBack 29 = .ok (.iload_n 1, 1) := by decide +kernel
theorem dX7_takeBack_30 : decode cX7_takeBack 30 = .ok (.if_icmp .ne 6, 3) := by decide +kernel
theorem dX7_takeBack_33 : decode cX7_takeBack 33 = .ok (.ldc 186, 2) := by decide +kernel
theorem dX7_takeBack_35 : decode cX7_takeBack 35 = .ok (.ireturn, 1) := by decide +kernel
theorem dX7_takeBack_36 : decode cX7_takeBack 36 = .ok (.aload_n 0, 1) := by decide +kernel
theorem dX7_takeBack_37 : decode cX7_takeBack 37 = .ok (.invokevirtual 187, 3) := by decide +kernel
theorem dX7_takeBack_40 : decode cX7_takeBack 40 = .ok (.aload_n 0, 1) := by decide +kernel
theorem dX7_takeBack_41 : decode cX7_takeBack 41 = .ok (.iload_n 1, 1) := by decide +kernel
theorem dX7_takeBack_42 : decode cX7_takeBack 42 = .ok (.invokevirtual 193, 3) := by decide +kernel
theorem dX7_takeBack_45 : decode cX7_takeBack 45 = .ok (.aload_n 0, 1) := by decide +kernel
theorem dX7_takeBack_46 : decode cX7_takeBack 46 = .ok (.getfield 35, 3) := by decide +kernel
theorem dX7_takeBack_49 : decode cX7_takeBack 49 = .ok (.bipush 8, 2) := by decide +kernel
theorem dX7_takeBack_51 : decode cX7_takeBack 51 = .ok (.iload_n 1, 1) := by decide +kernel
theorem dX7_takeBack_52 : decode cX7_takeBack 52 = .ok (.iadd, 1) := by decide +kernel
theorem dX7_takeBack_53 : decode cX7_takeBack 53 = .ok (.iaload, 1) := by decide +kernel
theorem dX7_takeBack_54 : decode cX7_takeBack 54 = .ok (.ireturn, 1) := by decide +kernel
theorem dX7_letBe_0 : decode cX7_letBe 0 = .ok (.aload_n 0, 1) := by decide +kernel
theorem dX7_letBe_1 : decode cX7_letBe 1 = .ok (.getfield 35, 3) := by decide +kernel
theorem dX7_letBe_4 : decode cX7_letBe 4 = .ok (.bipush 26, 2) := by decide +kernel
theorem dX7_letBe_6 : decode cX7_letBe 6 = .ok (.iaload, 1) := by decide +kernel
theorem dX7_letBe_7 : decode cX7_letBe 7 = .ok (.iconst (-1), 1) := by decide +kernel
theorem dX7_letBe_8 : decode cX7_letBe 8 = .ok (.if_icmp .ne 6, 3) := by decide +kernel
theorem dX7_letBe_11 : decode cX7_letBe 11 = .ok (.ldc 186, 2) := by decide +kernel
theorem dX7_letBe_13 : decode cX7_letBe 13 = .ok (.ireturn, 1) := by decide +kernel
theorem dX7_letBe_14 : decode cX7_letBe 14 = .ok (.aload_n 0, 1) := by decide +kernel
theorem dX7_letBe_15 : decode cX7_letBe 15 = .ok (.invokevirtual 187, 3) := by decide +kernel
theorem dX7_letBe_18 : decode cX7_letBe 18 = .ok (.aload_n 0, 1) := by decide +kernel
theorem dX7_letBe_19 : decode cX7_letBe 19 = .ok (.invokevirtual 197, 3) := by decide +kernel
theorem dX7_letBe_22 : decode cX7_letBe 22 = .ok (.ireturn, 1) := by decide +kernel
theorem dX7_call_0 : decode cX7_call 0 = .ok (.aload_n 0, 1) := by decide +kernel
theorem dX7_call_1 : decode cX7_call 1 = .ok (.iload_n 1, 1) := by decide +kernel
theorem dX7_call_2 : decode cX7_call 2 = .ok (.invokevirtual 139, 3) := by decide +kernel
theorem dX7_call_5 : decode cX7_call 5 = .ok (.ifCond .ne 6, 3) := by decide +kernel
theorem dX7_call_8 : decode cX7_call 8 = .ok (.ldc 142, 2) := by decide +kernel
theorem dX7_call_10 : decode cX7_call 10 = .ok (.ireturn, 1) := by decide +kernel
theorem dX7_call_11 : decode cX7_call 11 = .ok (.iload_n 2, 1) := by decide +kernel
theorem dX7_call_12 : decode cX7_call 12 = .ok (.invokestatic 183, 3) := by decide +kernel
theorem dX7_call_15 : decode cX7_call 15 = .ok (.ifCond .ne 6, 3) := by decide +kernel
theorem dX7_call_18 : decode cX7_call 18 = .ok (.ldc 62, 2) := by decide +kernel
theorem dX7_call_20 : decode cX7_call 20 = .ok (.ireturn, 1) := by decide +kernel
theorem dX7_call_21 : decode cX7_call 21 = .ok (.aload_n 0, 1) := by decide +kernel
theorem dX7_call_22 : decode cX7_call 22 = .ok (.invokevirtual 187, 3) := by decide +kernel
theorem dX7_call_25 : decode cX7_call 25 = .ok (.aload_n 0, 1) := by decide +kernel
theorem dX7_call_26 : decode cX7_call 26 = .ok (.getfield 35, 3) := by decide +kernel
theorem dX7_call_29 : decode cX7_call 29 = .ok (.iload_n 1, 1) := by decide +kernel
theorem dX7_call_30 : decode cX7_call 30 = .ok (.iaload, 1) := by decide +kernel
theorem dX7_call_31 : decode cX7_call 31 = .ok (.iload_n 2, 1) := by decide +kernel
theorem dX7_call_32 : decode cX7_call 32 = .ok (.invokestatic 153, 3) := by decide +kernel
theorem dX7_call_35 : decode cX7_call 35 = .ok (.istore_n 3, 1) := by decide +kernel
theorem dX7_call_36 : decode cX7_call 36 = .ok (.aload_n 0, 1) := by decide +kernel
theorem dX7_call_37 : decode cX7_call 37 = .ok (.getfield 35, 3) := by decide +kernel
theorem dX7_call_40 : decode cX7_call 40 = .ok (.iload_n 1, 1) := by decide +kernel
theorem dX7_call_41 : decode cX7_call 41 = .ok (.iload_n 2, 1) := by decide +kernel
theorem dX7_call_42 : decode cX7_call 42 = .ok (.iastore, 1) := by decide +kernel
theorem dX7_call_43 : decode cX7_call 43 = .ok (.iload_n 3, 1) := by decide +kernel
theorem dX7_call_44 : decode cX7_call 44 = .ok (.ireturn, 1) := by decide +kernel
theorem dX7_draw_0 : decode cX7_draw 0 = .ok (.aload_n 0, 1) := by decide +kernel
theorem dX7_draw_1 : decode cX7_draw 1 = .ok (.aload_n 0, 1) := by decide +kernel
theorem dX7_draw_2 : decode cX7_draw 2 = .ok (.getfield 200, 3) := by decide +kernel
theorem dX7_draw_5 : decode cX7_draw 5 = .ok (.ldc2_w 204, 3) := by decide +kernel
theorem dX7_draw_8 : decode cX7_draw 8 = .ok (.lmul, 1) := by decide +kernel
theorem dX7_draw_9 : decode cX7_draw 9 = .ok (.ldc2_w 206, 3) := by decide +kernel
theorem dX7_draw_12 : decode cX7_draw 12 = .ok (.ladd, 1) := by decide +kernel
theorem dX7_draw_13 : decode cX7_draw 13 = .ok (.ldc2_w 208, 3) := by decide +kernel
theorem dX7_draw_16 : decode cX7_draw 16 = .ok (.lrem, 1) := by decide +kernel
theorem dX7_draw_17 : decode cX7_draw 17 = .ok (.putfield 200, 3) := by decide +kernel
theorem dX7_draw_20 : decode cX7_draw 20 = .ok (.aload_n 0, 1) := by decide +kernel
theorem dX7_draw_21 : decode cX7_draw 21 = .ok (.getfield 200, 3) := by decide +kernel
theorem dX7_draw_24 : decode cX7_draw 24 = .ok (.ldc2_w 210, 3) := by decide +kernel
theorem dX7_draw_27 : decode cX7_draw 27 = .ok (.ldiv, 1) := by decide +kernel
theorem dX7_draw_28 : decode cX7_draw 28 = .ok (.iload_n 1, 1) := by decide +kernel
theorem dX7_draw_29 : decode cX7_draw 29 = .ok (.i2l, 1) := by decide +kernel
theorem dX7_draw_30 : decode cX7_draw 30 = .ok (.lrem, 1) := by decide +kernel
theorem dX7_draw_31 : decode cX7_draw 31 = .ok (.l2i, 1) := by decide +kernel
theorem dX7_draw_32 : decode cX7_draw 32 = .ok (.ireturn, 1) := by decide +kernel
theorem dX7_drift_0 : decode cX7_drift 0 = .ok (.iload_n 1, 1) := by decide +kernel
theorem dX7_drift_1 : decode cX7_drift 1 = .ok (.iconst 1, 1) := by decide +kernel
theorem dX7_drift_2 : decode cX7_drift 2 = .ok (.bipush 60, 2) := by decide +kernel
theorem dX7_drift_4 : decode cX7_drift 4 = .ok (.invokestatic 58, 3) := by decide +kernel
theorem dX7_drift_7 : decode cX7_drift 7 = .ok (.ifCond .ne 6, 3) := by decide +kernel
theorem dX7_drift_10 : decode cX7_drift 10 = .ok (.ldc 62, 2) := by decide +kernel
theorem dX7_drift_12 : decode cX7_drift 12 = .ok (.ireturn, 1) := by decide +kernel
theorem dX7_drift_13 : decode cX7_drift 13 = .ok (.aload_n 0, 1) := by decide +kernel
theorem dX7_drift_14 : decode cX7_drift 14 = .ok (.getfield 117, 3) := by decide +kernel
theorem dX7_drift_17 : decode cX7_drift 17 = .ok (.ifCond .ne 6, 3) := by decide +kernel
theorem dX7_drift_20 : decode cX7_drift 20 = .ok (.ldc 186, 2) := by decide +kernel
theorem dX7_drift_22 : decode cX7_drift 22 = .ok (.ireturn, 1) := by decide +kernel
theorem dX7_drift_23 : decode cX7_drift 23 = .ok (.aload_n 0, 1) := by decide +kernel
theorem dX7_drift_24 : decode cX7_drift 24 = .ok (.getfield 35, 3) := by decide +kernel
theorem dX7_drift_27 : decode cX7_drift 27 = .ok (.bipush 24, 2) := by decide +kernel
theorem dX7_drift_29 : decode cX7_drift 29 = .ok (.iaload, 1) := by decide +kernel
theorem dX7_drift_30 : decode cX7_drift 30 = .ok (.sipush 9000, 3) := by decide +kernel
theorem dX7_drift_33 : decode cX7_drift 33 = .ok (.if_icmp .le 6, 3) := by decide +kernel
theorem dX7_drift_36 : decode cX7_drift 36 = .ok (.ldc 66, 2) := by decide +kernel
theorem dX7_drift_38 : decode cX7_drift 38 = .ok (.ireturn, 1) := by decide +kernel
theorem dX7_drift_39 : decode cX7_drift 39 = .ok (.aload_n 0, 1) := by decide +kernel
theorem dX7_drift_40 : decode cX7_drift 40 = .ok (.invokevirtual 187, 3) := by decide +kernel
theorem dX7_drift_43 : decode cX7_drift 43 = .ok (.iconst 0, 1) := by decide +kernel
theorem dX7_drift_44 : decode cX7_drift 44 = .ok (.istore_n 2, 1) := by decide +kernel
theorem dX7_drift_45 : decode cX7_drift 45 = .ok (.iload_n 2, 1) := by decide +kernel
theorem dX7_drift_46 : decode cX7_drift 46 = .ok (.iload_n 1, 1) := by decide +kernel
theorem dX7_drift_47 : decode cX7_drift 47 = .ok (.if_icmp .ge 88, 3) := by decide +kernel
theorem dX7_drift_50 : decode cX7_drift 50 = .ok (.aload_n 0, 1) := by decide +kernel
theorem dX7_drift_51 : decode cX7_drift 51 = .ok (.getfield 120, 3) := by decide +kernel
theorem dX7_drift_54 : decode cX7_drift 54 = .ok (.ifCond .le 81, 3) := by decide +kernel
theorem dX7_drift_57 : decode cX7_drift 57 = .ok (.aload_n 0, 1) := by decide +kernel
theorem dX7_drift_58 : decode cX7_drift 58 = .ok (.getfield 123, 3) := by decide +kernel
theorem dX7_drift_61 : decode cX7_drift 61 = .ok (.ifCond .le 74, 3) := by decide +kernel
theorem dX7_drift_64 : decode cX7_drift 64 = .ok (.aload_n 0, 1) := by decide +kernel
theorem dX7_drift_65 : decode cX7_drift 65 = .ok (.aload_n 0, 1) := by decide +kernel
theorem dX7_drift_66 : decode cX7_drift 66 = .ok (.getfield 123, 3) := by decide +kernel
theorem dX7_drift_69 : decode cX7_drift 69 = .ok (.invokevirtual 212, 3) := by decide +kernel
theorem dX7_drift_72 : decode cX7_drift 72 = .ok (.istore_n 3, 1) := by decide +kernel
theorem dX7_drift_73 : decode cX7_drift 73 = .ok (.aload_n 0, 1) := by decide +kernel
theorem dX7_drift_74 : decode cX7_drift 74 = .ok (.aload_n 0, 1) := by decide +kernel
theorem dX7_drift_75 : decode cX7_drift 75 = .ok (.getfield 120, 3) := by decide +kernel
theorem dX7_drift_78 : decode cX7_drift 78 = .ok (.invokevirtual 212, 3) := by decide +kernel
theorem dX7_drift_81 : decode cX7_drift 81 = .ok (.istore 4, 2) := by decide +kernel
theorem dX7_drift_83 : decode cX7_drift 83 = .ok (.aload_n 0, 1) := by decide +kernel
theorem dX7_drift_84 : decode cX7_drift 84 = .ok (.aload_n 0, 1) := by decide +kernel
theorem dX7_drift_85 : decode cX7_drift 85 = .ok (.iload 4, 2) := by decide +kernel
theorem dX7_drift_87 : decode cX7_drift 87 = .ok (.iload_n 3, 1) := by decide +kernel
theorem dX7_drift_88 : decode cX7_drift 88 = .ok (.invokevirtual 215, 3) := by decide +kernel
theorem dX7_drift_91 : decode cX7_drift 91 = .ok (.invokevirtual 190, 3) := by decide +kernel
theorem dX7_drift_94 : decode cX7_drift 94 = .ok (.pop, 1) := by decide +kernel
theorem dX7_drift_95 : decode cX7_drift 95 = .ok (.aload_n 0, 1) := by decide +kernel
theorem dX7_drift_96 : decode cX7_drift 96 = .ok (.iconst 3, 1) := by decide +kernel
theorem dX7_drift_97 : decode cX7_drift 97 = .ok (.invokevirtual 212, 3) := by decide +kernel
theorem dX7_drift_100 : decode cX7_drift 100 = .ok (.ifCond .ne 24, 3) := by decide +kernel
theorem dX7_drift_103 : decode cX7_drift 103 = .ok (.aload_n 0, 1) := by decide +kernel
theorem dX7_drift_104 : decode cX7_drift 104 = .ok (.getfield 35, 3) := by decide +kernel
theorem dX7_drift_107 : decode cX7_drift 107 = .ok (.bipush 26, 2) := by decide +kernel
theorem dX7_drift_109 : decode cX7_drift 109 = .ok (.iaload, 1) := by decide +kernel
theorem dX7_drift_110 : decode cX7_drift 110 = .ok (.iload 4, 2) := by decide +kernel
theorem dX7_drift_112 : decode cX7_drift 112 = .ok (.if_icmp .eq 12, 3) := by decide +kernel
theorem dX7_drift_115 : decode cX7_drift 115 = .ok (.aload_n 0, 1) := by decide +kernel
theorem dX7_drift_116 : decode cX7_drift 116 = .ok (.iload 4, 2) := by decide +kernel
theorem dX7_drift_118 : decode cX7_drift 118 = .ok (.invokevirtual 193, 3) := by decide +kernel
theorem dX7_drift_121 : decode cX7_drift 121 = .ok (.goto 8, 3) := by decide +kernel
theorem dX7_drift_124 : decode cX7_drift 124 = .ok (.aload_n 0, 1) := by decide +kernel
theorem dX7_drift_125 : decode cX7_drift 125 = .ok (.invokevirtual 197, 3) := by decide +kernel
theorem dX7_drift_128 : decode cX7_drift 128 = .ok (.pop, 1) := by decide +kernel
theorem dX7_drift_129 : decode cX7_drift 129 = .ok (.iinc 2 1, 3) := by decide +kernel
theorem dX7_drift_132 : decode cX7_drift 132 = .ok (.goto (-87), 3) := by decide +kernel
theorem dX7_drift_135 : decode cX7_drift 135 = .ok (.aload_n 0, 1) := by decide +kernel
theorem dX7_drift_136 : decode cX7_drift 136 = .ok (.getfield 35, 3) := by decide +kernel
theorem dX7_drift_139 : decode cX7_drift 139 = .ok (.bipush 25, 2) := by decide +kernel
theorem dX7_drift_141 : decode cX7_drift 141 = .ok (.iaload, 1) := by decide +kernel
theorem dX7_drift_142 : decode cX7_drift 142 = .ok (.ireturn, 1) := by decide +kernel
theorem dX7_undo_0 : decode cX7_undo 0 = .ok (.aload_n 0, 1) := by decide +kernel
theorem dX7_undo_1 : decode cX7_undo 1 = .ok (.getfield 132, 3) := by decide +kernel
theorem dX7_undo_4 : decode cX7_undo 4 = .ok (.ifCond .ne 6, 3) := by decide +kernel
theorem dX7_undo_7 : decode cX7_undo 7 = .ok (.ldc 186, 2) := by decide +kernel
theorem dX7_undo_9 : decode cX7_undo 9 = .ok (.ireturn, 1) := by decide +kernel
theorem dX7_undo_10 : decode cX7_undo 10 = .ok (.aload_n 0, 1) := by decide +kernel
theorem dX7_undo_11 : decode cX7_undo 11 = .ok (.aload_n 0, 1) := by decide +kernel
theorem dX7_undo_12 : decode cX7_undo 12 = .ok (.getfield 171, 3) := by decide +kernel
theorem dX7_undo_15 : decode cX7_undo 15 = .ok (.bipush 20, 2) := by decide +kernel
theorem dX7_undo_17 : decode cX7_undo 17 = .ok (.iadd, 1) := by decide +kernel
theorem dX7_undo_18 : decode cX7_undo 18 = .ok (.iconst 1, 1) := by decide +kernel
theorem dX7_undo_19 : decode cX7_undo 19 = .ok (.isub, 1) := by decide +kernel
theorem dX7_undo_20 : decode cX7_undo 20 = .ok (.bipush 20, 2) := by decide +kernel
theorem dX7_undo_22 : decode cX7_undo 22 = .ok (.irem, 1) := by decide +kernel
theorem dX7_undo_23 : decode cX7_undo 23 = .ok (.putfield 171, 3) := by decide +kernel
theorem dX7_undo_26 : decode cX7_undo 26 = .ok (.aload_n 0, 1) := by decide +kernel
theorem dX7_undo_27 : decode cX7_undo 27 = .ok (.dup, 1) := by decide +kernel
theorem dX7_undo_28 : decode cX7_undo 28 = .ok (.getfield 132, 3) := by decide +kernel
theorem dX7_undo_31 : decode cX7_undo 31 = .ok (.iconst 1, 1) := by decide +kernel
theorem dX7_undo_32 : decode cX7_undo 32 = .ok (.isub, 1) := by decide +kernel
theorem dX7_undo_33 : decode cX7_undo 33 = .ok (.putfield 132, 3) := by decide +kernel
theorem dX7_undo_36 : decode cX7_undo 36 = .ok (.iconst 0, 1) := by decide +kernel
theorem dX7_undo_37 : decode cX7_undo 37 = .ok (.istore_n 1, 1) := by decide +kernel
theorem dX7_undo_38 : decode cX7_undo 38 = .ok (.iload_n 1, 1) := by decide +kernel
theorem dX7_undo_39 : decode cX7_undo 39 = .ok (.bipush 27, 2) := by decide +kernel
theorem dX7_undo_41 : decode cX7_undo 41 = .ok (.if_icmp .ge 29, 3) := by decide +kernel
theorem dX7_undo_44 : decode cX7_undo 44 = .ok (.aload_n 0, 1) := by decide +kernel
theorem dX7_undo_45 : decode cX7_undo 45 = .ok (.getfield 35, 3) := by decide +kernel
theorem dX7_undo_48 : decode cX7_undo 48 = .ok (.iload_n 1, 1) := by decide +kernel
theorem dX7_undo_49 : decode cX7_undo 49 = .ok (.aload_n 0, 1) := by decide +kernel
theorem dX7_undo_50 : decode cX7_undo 50 = .ok (.getfield 38, 3) := by decide +kernel
theorem dX7_undo_53 : decode cX7_undo 53 = .ok (.bipush 27, 2) := by decide +kernel
theorem dX7_undo_55 : decode cX7_undo 55 = .ok (.aload_n 0, 1) := by decide +kernel
theorem dX7_undo_56 : decode cX7_undo 56 = .ok (.getfield 171, 3) := by decide +kernel
theorem dX7_undo_59 : decode cX7_undo 59 = .ok (.imul, 1) := by decide +kernel
theorem dX7_undo_60 : decode cX7_undo 60 = .ok (.iload_n 1, 1) := by decide +kernel
theorem dX7_undo_61 : decode cX7_undo 61 = .ok (.iadd, 1) := by decide +kernel
theorem dX7_undo_62 : decode cX7_undo 62 = .ok (.iaload, 1) := by decide +kernel
theorem dX7_undo_63 : decode cX7_undo 63 = .ok (.iastore, 1) := by decide +kernel
theorem dX7_undo_64 : decode cX7_undo 64 = .ok (.iinc 1 1, 3) := by decide +kernel
theorem dX7_undo_67 : decode cX7_undo 67 = .ok (.goto (-29), 3) := by decide +kernel
theorem dX7_undo_70 : decode cX7_undo 70 = .ok (.aload_n 0, 1) := by decide +kernel
theorem dX7_undo_71 : decode cX7_undo 71 = .ok (.getfield 132, 3) := by decide +kernel
theorem dX7_undo_74 : decode cX7_undo 74 = .ok (.ireturn, 1) := by decide +kernel
theorem dX7_guess_0 : decode cX7_guess 0 = .ok (.iload_n 1, 1) := by decide +kernel
theorem dX7_guess_1 : decode cX7_guess 1 = .ok (.invokestatic 183, 3) := by decide +kernel
theorem dX7_guess_4 : decode cX7_guess 4 = .ok (.ifCond .eq 11, 3) := by decide +kernel
theorem dX7_guess_7 : decode cX7_guess 7 = .ok (.aload_n 0, 1) := by decide +kernel
theorem dX7_guess_8 : decode cX7_guess 8 = .ok (.iload_n 1, 1) := by decide +kernel
theorem dX7_guess_9 : decode cX7_guess 9 = .ok (.invokevirtual 161, 3) := by decide +kernel
theorem dX7_guess_12 : decode cX7_guess 12 = .ok (.goto 5, 3) := by decide +kernel
theorem dX7_guess_15 : decode cX7_guess 15 = .ok (.ldc 62, 2) := by decide +kernel
theorem dX7_guess_17 : decode cX7_guess 17 = .ok (.ireturn, 1) := by decide +kernel
theorem dX7_sure_0 : decode cX7_sure 0 = .ok (.aload_n 0, 1) := by decide +kernel
theorem dX7_sure_1 : decode cX7_sure 1 = .ok (.iload_n 1, 1) := by decide +kernel
theorem dX7_sure_2 : decode cX7_sure 2 = .ok (.invokevirtual 139, 3) := by decide +kernel
theorem dX7_sure_5 : decode cX7_sure 5 = .ok (.ifCond .ne 8, 3) := by decide +kernel
theorem dX7_sure_8 : decode cX7_sure 8 = .ok (.ldc 142, 2) := by decide +kernel
theorem dX7_sure_10 : decode cX7_sure 10 = .ok (.goto 21, 3) := by decide +kernel
theorem dX7_sure_13 : decode cX7_sure 13 = .ok (.iload_n 2, 1) := by decide +kernel
theorem dX7_sure_14 : decode cX7_sure 14 = .ok (.invokestatic 183, 3) := by decide +kernel
theorem dX7_sure_17 : decode cX7_sure 17 = .ok (.ifCond .eq 12, 3) := by decide +kernel
theorem dX7_sure_20 : decode cX7_sure 20 = .ok (.aload_n 0, 1) := by decide +kernel
theorem dX7_sure_21 : decode cX7_sure 21 = .ok (.iload_n 1, 1) := by decide +kernel
theorem dX7_sure_22 : decode cX7_sure 22 = .ok (.iload_n 2, 1) := by decide +kernel
theorem dX7_sure_23 : decode cX7_sure 23 = .ok (.invokevirtual 165, 3) := by decide +kernel
theorem dX7_sure_26 : decode cX7_sure 26 = .ok (.goto 5, 3) := by decide +kernel
theorem dX7_sure_29 : decode cX7_sure 29 = .ok (.ldc 62, 2) := by decide +kernel
theorem dX7_sure_31 : decode cX7_sure 31 = .ok (.ireturn, 1) := by decide +kernel
theorem dX7_rule_0 : decode cX7_rule 0 = .ok (.iload_n 1, 1) := by decide +kernel
theorem dX7_rule_1 : decode cX7_rule 1 = .ok (.invokestatic 183, 3) := by decide +kernel
theorem dX7_rule_4 : decode cX7_rule 4 = .ok (.ifCond .ne 8, 3) := by decide +kernel
theorem dX7_rule_7 : decode cX7_rule 7 = .ok (.ldc 62, 2) := by decide +kernel
theorem dX7_rule_9 : decode cX7_rule 9 = .ok (.goto 20, 3) := by decide +kernel
theorem dX7_rule_12 : decode cX7_rule 12 = .ok (.aload_n 0, 1) := by decide +kernel
theorem dX7_rule_13 : decode cX7_rule 13 = .ok (.getfield 120, 3) := by decide +kernel
theorem dX7_rule_16 : decode cX7_rule 16 = .ok (.ifCond .ne 8, 3) := by decide +kernel
theorem dX7_rule_19 : decode cX7_rule 19 = .ok (.ldc 186, 2) := by decide +kernel
theorem dX7_rule_21 : decode cX7_rule 21 = .ok (.goto 8, 3) := by decide +kernel
theorem dX7_rule_24 : decode cX7_rule 24 = .ok (.aload_n 0, 1) := by decide +kernel
theorem dX7_rule_25 : decode cX7_rule 25 = .ok (.iload_n 1, 1) := by decide +kernel
theorem dX7_rule_26 : decode cX7_rule 26 = .ok (.invokevirtual 174, 3) := by decide +kernel
theorem dX7_rule_29 : decode cX7_rule 29 = .ok (.ireturn, 1) := by decide +kernel
theorem dX7_worth_0 : decode cX7_worth 0 = .ok (.iload_n 1, 1) := by decide +kernel
theorem dX7_worth_1 : decode cX7_worth 1 = .ok (.invokestatic 183, 3) := by decide +kernel
theorem dX7_worth_4 : decode cX7_worth 4 = .ok (.ifCond .eq 12, 3) := by decide +kernel
theorem dX7_worth_7 : decode cX7_worth 7 = .ok (.iload_n 2, 1) := by decide +kernel
theorem dX7_worth_8 : decode cX7_worth 8 = .ok (.iconst 0, 1) := by decide +kernel
theorem dX7_worth_9 : decode cX7_worth 9 = .ok (.iconst 2, 1) := by decide +kernel
theorem dX7_worth_10 : decode cX7_worth 10 = .ok (.invokestatic 58, 3) := by decide +kernel
theorem dX7_worth_13 : decode cX7_worth 13 = .ok (.ifCond .ne 8, 3) := by decide +kernel
theorem dX7_worth_16 : decode cX7_worth 16 = .ok (.ldc 62, 2) := by decide +kernel
theorem dX7_worth_18 : decode cX7_worth 18 = .ok (.goto 21, 3) := by decide +kernel
theorem dX7_worth_21 : decode cX7_worth 21 = .ok (.aload_n 0, 1) := by decide +kernel
theorem dX7_worth_22 : decode cX7_worth 22 = .ok (.getfield 120, 3) := by decide +kernel
theorem dX7_worth_25 : decode cX7_worth 25 = .ok (.ifCond .ne 8, 3) := by decide +kernel
theorem dX7_worth_28 : decode cX7_worth 28 = .ok (.ldc 186, 2) := by decide +kernel
theorem dX7_worth_30 : decode cX7_worth 30 = .ok (.goto 9, 3) := by decide +kernel
theorem dX7_worth_33 : decode cX7_worth 33 = .ok (.aload_n 0, 1) := by decide +kernel
theorem dX7_worth_34 : decode cX7_worth 34 = .ok (.iload_n 1, 1) := by decide +kernel
theorem dX7_worth_35 : decode cX7_worth 35 = .ok (.iload_n 2, 1) := by decide +kernel
theorem dX7_worth_36 : decode cX7_worth 36 = .ok (.invokevirtual 168, 3) := by decide +kernel
theorem dX7_worth_39 : decode cX7_worth 39 = .ok (.ireturn, 1) := by decide +kernel
theorem dX7_said_0 : decode cX7_said 0 = .ok (.aload_n 0, 1) := by decide +kernel
theorem dX7_said_1 : decode cX7_said 1 = .ok (.iload_n 1, 1) := by decide +kernel
theorem dX7_said_2 : decode cX7_said 2 = .ok (.invokevirtual 139, 3) := by decide +kernel
theorem dX7_said_5 : decode cX7_said 5 = .ok (.ifCond .eq 20, 3) := by decide +kernel
theorem dX7_said_8 : decode cX7_said 8 = .ok (.aload_n 0, 1) := by decide +kernel
theorem dX7_said_9 : decode cX7_said 9 = .ok (.iload_n 2, 1) := by decide +kernel
theorem dX7_said_10 : decode cX7_said 10 = .ok (.invokevirtual 143, 3) := by decide +kernel
theorem dX7_said_13 : decode cX7_said 13 = .ok (.ifCond .eq 12, 3) := by decide +kernel
theorem dX7_said_16 : decode cX7_said 16 = .ok (.aload_n 0, 1) := by decide +kernel
theorem dX7_said_17 : decode cX7_said 17 = .ok (.iload_n 1, 1) := by decide +kernel
theorem dX7_said_18 : decode cX7_said 18 = .ok (.iload_n 2, 1) := by decide +kernel
theorem dX7_said_19 : decode cX7_said 19 = .ok (.invokevirtual 215, 3) := by decide +kernel
theorem dX7_said_22 : decode cX7_said 22 = .ok (.goto 5, 3) := by decide +kernel
theorem dX7_said_25 : decode cX7_said 25 = .ok (.ldc 142, 2) := by decide +kernel
theorem dX7_said_27 : decode cX7_said 27 = .ok (.ireturn, 1) := by decide +kernel
theorem dX7_misheard_0 : decode cX7_misheard 0 = .ok (.iconst 0, 1) := by decide +kernel
theorem dX7_misheard_1 : decode cX7_misheard 1 = .ok (.istore_n 2, 1) := by decide +kernel
theorem dX7_misheard_2 : decode cX7_misheard 2 = .ok (.iconst (-1), 1) := by decide +kernel
theorem dX7_misheard_3 : decode cX7_misheard 3 = .ok (.istore_n 3, 1) := by decide +kernel
theorem dX7_misheard_4 : decode cX7_misheard 4 = .ok (.iconst 0, 1) := by decide +kernel
theorem dX7_misheard_5 : decode cX7_misheard 5 = .ok (.istore 4, 2) := by decide +kernel
theorem dX7_misheard_7 : decode cX7_misheard 7 = .ok (.iload 4, 2) := by decide +kernel
theorem dX7_misheard_9 : decode cX7_misheard 9 = .ok (.aload_n 0, 1) := by decide +kernel
theorem dX7_misheard_10 : decode cX7_misheard 10 = .ok (.getfield 123, 3) := by decide +kernel
theorem dX7_misheard_13 : decode cX7_misheard 13 = .ok (.if_icmp .ge 65, 3) := by decide +kernel
theorem dX7_misheard_16 : decode cX7_misheard 16 = .ok (.iconst 0, 1) := by decide +kernel
theorem dX7_misheard_17 : decode cX7_misheard 17 = .ok (.istore 5, 2) := by decide +kernel
theorem dX7_misheard_19 : decode cX7_misheard 19 = .ok (.iload 5, 2) := by decide +kernel
theorem dX7_misheard_21 : decode cX7_misheard 21 = .ok (.aload_n 0, 1) := by decide +kernel
theorem dX7_misheard_22 : decode cX7_misheard 22 = .ok (.getfield 120, 3) := by decide +kernel
theorem dX7_misheard_25 : decode cX7_misheard 25 = .ok (.if_icmp .ge 47, 3) := by decide +kernel
theorem dX7_misheard_28 : decode cX7_misheard 28 = .ok (.aload_n 0, 1) := by decide +kernel
theorem dX7_misheard_29 : decode cX7_misheard 29 = .ok (.aload_n 0, 1) := by decide +kernel
theorem dX7_misheard_30 : decode cX7_misheard 30 = .ok (.iload 5, 2) := by decide +kernel
theorem dX7_misheard_32 : decode cX7_misheard 32 = .ok (.iload 4, 2) := by decide +kernel
theorem dX7_misheard_34 : decode cX7_misheard 34 = .ok (.invokevirtual 215, 3) := by decide +kernel
theorem dX7_misheard_37 : decode cX7_misheard 37 = .ok (.invokevirtual 161, 3) := by decide +kernel
theorem dX7_misheard_40 : decode cX7_misheard 40 = .ok (.iload 5, 2) := by decide +kernel
theorem dX7_misheard_42 : decode cX7_misheard 42 = .ok (.if_icmp .eq 24, 3) := by decide +kernel
theorem dX7_misheard_45 : decode cX7_misheard 45 = .ok (.iload_n 2, 1) := by decide +kernel
theorem dX7_misheard_46 : decode cX7_misheard 46 = .ok (.iload_n 1, 1) := by decide +kernel
theorem dX7_misheard_47 : decode cX7_misheard 47 = .ok (.if_icmp .ne 14, 3) := by decide +kernel
theorem dX7_misheard_50 : decode cX7_misheard 50 = .ok (.bipush 10, 2) := by decide +kernel
theorem dX7_misheard_52 : decode cX7_misheard 52 = .ok (.iload 4, 2) := by decide +kernel
theorem dX7_misheard_54 : decode cX7_misheard 54 = .ok (.imul, 1) := by decide +kernel
theorem dX7_misheard_55 : decode cX7_misheard 55 = .ok (.iload 5, 2) := by decide +kernel
theorem dX7_misheard_57 : decode cX7_misheard 57 = .ok (.iadd, 1) := by decide +kernel
theorem dX7_misheard_58 : decode cX7_misheard 58 = .ok (.goto 4, 3) := by decide +kernel
theorem dX7_misheard_61 : decode cX7_misheard 61 = .ok (.iload_n 3, 1) := by decide +kernel
theorem dX7_misheard_62 : decode cX7_misheard 62 = .ok (.istore_n 3, 1) := by decide +kernel
theorem dX7_misheard_63 : decode cX7_misheard 63 = .ok (.iinc 2 1, 3) := by decide +kernel
theorem dX7_misheard_66 : decode cX7_misheard 66 = .ok (.iinc 5 1, 3) := by decide +kernel
theorem dX7_misheard_69 : decode cX7_misheard 69 = .ok (.goto (-50), 3) := by decide +kernel
theorem dX7_misheard_72 : decode cX7_misheard 72 = .ok (.iinc 4 1, 3) := by decide +kernel
theorem dX7_misheard_75 : decode cX7_misheard 75 = .ok (.goto (-68), 3) := by decide +kernel
theorem dX7_misheard_78 : decode cX7_misheard 78 = .ok (.iload_n 1, 1) := by decide +kernel
theorem dX7_misheard_79 : decode cX7_misheard 79 = .ok (.iconst (-1), 1) := by decide +kernel
theorem dX7_misheard_80 : decode cX7_misheard 80 = .ok (.if_icmp .ne 7, 3) := by decide +kernel
theorem dX7_misheard_83 : decode cX7_misheard 83 = .ok (.iload_n 2, 1) := by decide +kernel
theorem dX7_misheard_84 : decode cX7_misheard 84 = .ok (.goto 4, 3) := by decide +kernel
theorem dX7_misheard_87 : decode cX7_misheard 87 = .ok (.iload_n 3, 1) := by decide +kernel
theorem dX7_misheard_88 : decode cX7_misheard 88 = .ok (.ireturn, 1) := by decide +kernel
theorem dX7_meantBy_0 : decode cX7_meantBy 0 = .ok (.iconst 0, 1) := by decide +kernel
theorem dX7_meantBy_1 : decode cX7_meantBy 1 = .ok (.istore_n 3, 1) := by decide +kernel
theorem dX7_meantBy_2 : decode cX7_meantBy 2 = .ok (.iconst 0, 1) := by decide +kernel
theorem dX7_meantBy_3 : decode cX7_meantBy 3 = .ok (.istore 4, 2) := by decide +kernel
theorem dX7_meantBy_5 : decode cX7_meantBy 5 = .ok (.iload 4, 2) := by decide +kernel
theorem dX7_meantBy_7 : decode cX7_meantBy 7 = .ok (.aload_n 0, 1) := by decide +kernel
theorem dX7_meantBy_8 : decode cX7_meantBy 8 = .ok (.getfield 120, 3) := by decide +kernel
theorem dX7_meantBy_11 : decode cX7_meantBy 11 = .ok (.if_icmp .ge 31, 3) := by decide +kernel
theorem dX7_meantBy_14 : decode cX7_meantBy 14 = .ok (.iload_n 3, 1) := by decide +kernel
theorem dX7_meantBy_15 : decode cX7_meantBy 15 = .ok (.aload_n 0, 1) := by decide +kernel
theorem dX7_meantBy_16 : decode cX7_meantBy 16 = .ok (.iload 4, 2) := by decide +kernel
theorem dX7_meantBy_18 : decode cX7_meantBy 18 = .ok (.iload_n 1, 1) := by decide +kernel
theorem dX7_meantBy_19 : decode cX7_meantBy 19 = .ok (.invokevirtual 215, 3) := by decide +kernel
theorem dX7_meantBy_22 : decode cX7_meantBy 22 = .ok (.iload_n 2, 1) := by decide +kernel
theorem dX7_meantBy_23 : decode cX7_meantBy 23 = .ok (.if_icmp .ne 10, 3) := by decide +kernel
theorem dX7_meantBy_26 : decode cX7_meantBy 26 = .ok (.iconst 1, 1) := by decide +kernel
theorem dX7_meantBy_27 : decode cX7_meantBy 27 = .ok (.iload 4, 2) := by decide +kernel
theorem dX7_meantBy_29 : decode cX7_meantBy 29 = .ok (.ishl, 1) := by decide +kernel
theorem dX7_meantBy_30 : decode cX7_meantBy 30 = .ok (.goto 4, 3) := by decide +kernel
theorem dX7_meantBy_33 : decode cX7_meantBy 33 = .ok (.iconst 0, 1) := by decide +kernel
theorem dX7_meantBy_34 : decode cX7_meantBy 34 = .ok (.ior, 1) := by decide +kernel
theorem dX7_meantBy_35 : decode cX7_meantBy 35 = .ok (.istore_n 3, 1) := by decide +kernel
theorem dX7_meantBy_36 : decode cX7_meantBy 36 = .ok (.iinc 4 1, 3) := by decide +kernel
theorem dX7_meantBy_39 : decode cX7_meantBy 39 = .ok (.goto (-34), 3) := by decide +kernel
theorem dX7_meantBy_42 : decode cX7_meantBy 42 = .ok (.iload_n 3, 1) := by decide +kernel
theorem dX7_meantBy_43 : decode cX7_meantBy 43 = .ok (.ireturn, 1) := by decide +kernel
theorem dX7_who_0 : decode cX7_who 0 = .ok (.iload_n 1, 1) := by decide +kernel
theorem dX7_who_1 : decode cX7_who 1 = .ok (.invokestatic 183, 3) := by decide +kernel
theorem dX7_who_4 : decode cX7_who 4 = .ok (.ifCond .ne 6, 3) := by decide +kernel
theorem dX7_who_7 : decode cX7_who 7 = .ok (.ldc 62, 2) := by decide +kernel
theorem dX7_who_9 : decode cX7_who 9 = .ok (.ireturn, 1) := by decide +kernel
theorem dX7_who_10 : decode cX7_who 10 = .ok (.iconst 0, 1) := by decide +kernel
theorem dX7_who_11 : decode cX7_who 11 = .ok (.istore_n 2, 1) := by decide +kernel
theorem dX7_who_12 : decode cX7_who 12 = .ok (.iconst 0, 1) := by decide +kernel
theorem dX7_who_13 : decode cX7_who 13 = .ok (.istore_n 3, 1) := by decide +kernel
theorem dX7_who_14 : decode cX7_who 14 = .ok (.iload_n 3, 1) := by decide +kernel
theorem dX7_who_15 : decode cX7_who 15 = .ok (.aload_n 0, 1) := by decide +kernel
theorem dX7_who_16 : decode cX7_who 16 = .ok (.getfield 123, 3) := by decide +kernel
theorem dX7_who_19 : decode cX7_who 19 = .ok (.if_icmp .ge 28, 3) := by decide +kernel
theorem dX7_who_22 : decode cX7_who 22 = .ok (.iload_n 2, 1) := by decide +kernel
theorem dX7_who_23 : decode cX7_who 23 = .ok (.aload_n 0, 1) := by decide +kernel
theorem dX7_who_24 : decode cX7_who 24 = .ok (.iload_n 3, 1) := by decide +kernel
theorem dX7_who_25 : decode cX7_who 25 = .ok (.iload_n 1, 1) := by decide +kernel
theorem dX7_who_26 : decode cX7_who 26 = .ok (.invokevirtual 218, 3) := by decide +kernel
theorem dX7_who_29 : decode cX7_who 29 = .ok (.ifCond .eq 9, 3) := by decide +kernel
theorem dX7_who_32 : decode cX7_who 32 = .ok (.iconst 1, 1) := by decide +kernel
theorem dX7_who_33 : decode cX7_who 33 = .ok (.iload_n 3, 1) := by decide +kernel
theorem dX7_who_34 : decode cX7_who 34 = .ok (.ishl, 1) := by decide +kernel
theorem dX7_who_35 : decode cX7_who 35 = .ok (.goto 4, 3) := by decide +kernel
theorem dX7_who_38 : decode cX7_who 38 = .ok (.iconst 0, 1) := by decide +kernel
theorem dX7_who_39 : decode cX7_who 39 = .ok (.ior, 1) := by decide +kernel
theorem dX7_who_40 : decode cX7_who 40 = .ok (.istore_n 2, 1) := by decide +kernel
theorem dX7_who_41 : decode cX7_who 41 = .ok (.iinc 3 1, 3) := by decide +kernel
theorem dX7_who_44 : decode cX7_who 44 = .ok (.goto (-30), 3) := by decide +kernel
theorem dX7_who_47 : decode cX7_who 47 = .ok (.iload_n 2, 1) := by decide +kernel
theorem dX7_who_48 : decode cX7_who 48 = .ok (.ireturn, 1) := by decide +kernel
theorem dX7_meant_0 : decode cX7_meant 0 = .ok (.aload_n 0, 1) := by decide +kernel
theorem dX7_meant_1 : decode cX7_meant 1 = .ok (.iload_n 1, 1) := by decide +kernel
theorem dX7_meant_2 : decode cX7_meant 2 = .ok (.invokevirtual 143, 3) := by decide +kernel
theorem dX7_meant_5 : decode cX7_meant 5 = .ok (.ifCond .ne 8, 3) := by decide +kernel
theorem dX7_meant_8 : decode cX7_meant 8 = .ok (.ldc 142, 2) := by decide +kernel
theorem dX7_meant_10 : decode cX7_meant 10 = .ok (.goto 21, 3) := by decide +kernel
theorem dX7_meant_13 : decode cX7_meant 13 = .ok (.iload_n 2, 1) := by decide +kernel
theorem dX7_meant_14 : decode cX7_meant 14 = .ok (.invokestatic 183, 3) := by decide +kernel
theorem dX7_meant_17 : decode cX7_meant 17 = .ok (.ifCond .eq 12, 3) := by decide +kernel
theorem dX7_meant_20 : decode cX7_meant 20 = .ok (.aload_n 0, 1) := by decide +kernel
theorem dX7_meant_21 : decode cX7_meant 21 = .ok (.iload_n 1, 1) := by decide +kernel
theorem dX7_meant_22 : decode cX7_meant 22 = .ok (.iload_n 2, 1) := by decide +kernel
theorem dX7_meant_23 : decode cX7_meant 23 = .ok (.invokevirtual 218, 3) := by decide +kernel
theorem dX7_meant_26 : decode cX7_meant 26 = .ok (.goto 5, 3) := by decide +kernel
theorem dX7_meant_29 : decode cX7_meant 29 = .ok (.ldc 62, 2) := by decide +kernel
theorem dX7_meant_31 : decode cX7_meant 31 = .ok (.ireturn, 1) := by decide +kernel
theorem dX7_alike_0 : decode cX7_alike 0 = .ok (.iload_n 1, 1) := by decide +kernel
theorem dX7_alike_1 : decode cX7_alike 1 = .ok (.iconst 0, 1) := by decide +kernel
theorem dX7_alike_2 : decode cX7_alike 2 = .ok (.bipush 27, 2) := by decide +kernel
theorem dX7_alike_4 : decode cX7_alike 4 = .ok (.invokestatic 58, 3) := by decide +kernel
theorem dX7_alike_7 : decode cX7_alike 7 = .ok (.ifCond .ne 6, 3) := by decide +kernel
theorem dX7_alike_10 : decode cX7_alike 10 = .ok (.ldc 62, 2) := by decide +kernel
theorem dX7_alike_12 : decode cX7_alike 12 = .ok (.ireturn, 1) := by decide +kernel
theorem dX7_alike_13 : decode cX7_alike 13 = .ok (.iconst 0, 1) := by decide +kernel
theorem dX7_alike_14 : decode cX7_alike 14 = .ok (.istore_n 3, 1) := by decide +kernel
theorem dX7_alike_15 : decode cX7_alike 15 = .ok (.iconst (-1), 1) := by decide +kernel
theorem dX7_alike_16 : decode cX7_alike 16 = .ok (.istore 4, 2) := by decide +kernel
theorem dX7_alike_18 : decode cX7_alike 18 = .ok (.iconst 0, 1) := by decide +kernel
theorem dX7_alike_19 : decode cX7_alike 19 = .ok (.istore 5, 2) := by decide +kernel
theorem dX7_alike_21 : decode cX7_alike 21 = .ok (.iload 5, 2) := by decide +kernel
theorem dX7_alike_23 : decode cX7_alike 23 = .ok (.aload_n 0, 1) := by decide +kernel
theorem dX7_alike_24 : decode cX7_alike 24 = .ok (.getfield 120, 3) := by decide +kernel
theorem dX7_alike_27 : decode cX7_alike 27 = .ok (.if_icmp .ge 74, 3) := by decide +kernel
theorem dX7_alike_30 : decode cX7_alike 30 = .ok (.iload 5, 2) := by decide +kernel
theorem dX7_alike_32 : decode cX7_alike 32 = .ok (.iconst 1, 1) := by decide +kernel
theorem dX7_alike_33 : decode cX7_alike 33 = .ok (.iadd, 1) := by decide +kernel
theorem dX7_alike_34 : decode cX7_alike 34 = .ok (.istore 6, 2) := by decide +kernel
theorem dX7_alike_36 : decode cX7_alike 36 = .ok (.iload 6, 2) := by decide +kernel
theorem dX7_alike_38 : decode cX7_alike 38 = .ok (.aload_n 0, 1) := by decide +kernel
theorem dX7_alike_39 : decode cX7_alike 39 = .ok (.getfield 120, 3) := by decide +kernel
theorem dX7_alike_42 : decode cX7_alike 42 = .ok (.if_icmp .ge 53, 3) := by decide +kernel
theorem dX7_alike_45 : decode cX7_alike 45 = .ok (.aload_n 0, 1) := by decide +kernel
theorem dX7_alike_46 : decode cX7_alike 46 = .ok (.getfield 35, 3) := by decide +kernel
theorem dX7_alike_49 : decode cX7_alike 49 = .ok (.iload 5, 2) := by decide +kernel
theorem dX7_alike_51 : decode cX7_alike 51 = .ok (.iaload, 1) := by decide +kernel
theorem dX7_alike_52 : decode cX7_alike 52 = .ok (.aload_n 0, 1) := by decide +kernel
theorem dX7_alike_53 : decode cX7_alike 53 = .ok (.getfield 35, 3) := by decide +kernel
theorem dX7_alike_56 : decode cX7_alike 56 = .ok (.iload 6, 2) := by decide +kernel
theorem dX7_alike_58 : decode cX7_alike 58 = .ok (.iaload, 1) := by decide +kernel
theorem dX7_alike_59 : decode cX7_alike 59 = .ok (.invokestatic 153, 3) := by decide +kernel
theorem dX7_alike_62 : decode cX7_alike 62 = .ok (.iload_n 1, 1) := by decide +kernel
theorem dX7_alike_63 : decode cX7_alike 63 = .ok (.if_icmp .gt 26, 3) := by decide +kernel
theorem dX7_alike_66 : decode cX7_alike 66 = .ok (.iload_n 3, 1) := by decide +kernel
theorem dX7_alike_67 : decode cX7_alike 67 = .ok (.iload_n 2, 1) := by decide +kernel
theorem dX7_alike_68 : decode cX7_alike 68 = .ok (.if_icmp .ne 14, 3) := by decide +kernel
theorem dX7_alike_71 : decode cX7_alike 71 = .ok (.bipush 10, 2) := by decide +kernel
theorem dX7_alike_73 : decode cX7_alike 73 = .ok (.iload 5, 2) := by decide +kernel
theorem dX7_alike_75 : decode cX7_alike 75 = .ok (.imul, 1) := by decide +kernel
theorem dX7_alike_76 : decode cX7_alike 76 = .ok (.iload 6, 2) := by decide +kernel
theorem dX7_alike_78 : decode cX7_alike 78 = .ok (.iadd, 1) := by decide +kernel
theorem dX7_alike_79 : decode cX7_alike 79 = .ok (.goto 5, 3) := by decide +kernel
theorem dX7_alike_82 : decode cX7_alike 82 = .ok (.iload 4, 2) := by decide +kernel
theorem dX7_alike_84 : decode cX7_alike 84 = .ok (.istore 4, 2) := by decide +kernel
theorem dX7_alike_86 : decode cX7_alike 86 = .ok (.iinc 3 1, 3) := by decide +kernel
theorem dX7_alike_89 : decode cX7_alike 89 = .ok (.iinc 6 1, 3) := by decide +kernel
theorem dX7_alike_92 : decode cX7_alike 92 = .ok (.goto (-56), 3) := by decide +kernel
theorem dX7_alike_95 : decode cX7_alike 95 = .ok (.iinc 5 1, 3) := by decide +kernel
theorem dX7_alike_98 : decode cX7_alike 98 = .ok (.goto (-77), 3) := by decide +kernel
theorem dX7_alike_101 : decode cX7_alike 101 = .ok (.iload_n 2, 1) := by decide +kernel
theorem dX7_alike_102 : decode cX7_alike 102 = .ok (.iconst (-1), 1) := by decide +kernel
theorem dX7_alike_103 : decode cX7_alike 103 = .ok (.if_icmp .ne 7, 3) := by decide +kernel
theorem dX7_alike_106 : decode cX7_alike 106 = .ok (.iload_n 3, 1) := by decide +kernel
theorem dX7_alike_107 : decode cX7_alike 107 = .ok (.goto 5, 3) := by decide +kernel
theorem dX7_alike_110 : decode cX7_alike 110 = .ok (.iload 4, 2) := by decide +kernel
theorem dX7_alike_112 : decode cX7_alike 112 = .ok (.ireturn, 1) := by decide +kernel
theorem dX7_wake_0 : decode cX7_wake 0 = .ok (.iload_n 1, 1) := by decide +kernel
theorem dX7_wake_1 : decode cX7_wake 1 = .ok (.iconst 0, 1) := by decide +kernel
theorem dX7_wake_2 : decode cX7_wake 2 = .ok (.iconst 1, 1) := by decide +kernel
theorem dX7_wake_3 : decode cX7_wake 3 = .ok (.invokestatic 58, 3) := by decide +kernel
theorem dX7_wake_6 : decode cX7_wake 6 = .ok (.ifCond .ne 6, 3) := by decide +kernel
theorem dX7_wake_9 : decode cX7_wake 9 = .ok (.ldc 62, 2) := by decide +kernel
theorem dX7_wake_11 : decode cX7_wake 11 = .ok (.ireturn, 1) := by decide +kernel
theorem dX7_wake_12 : decode cX7_wake 12 = .ok (.iconst 0, 1) := by decide +kernel
theorem dX7_wake_13 : decode cX7_wake 13 = .ok (.istore_n 2, 1) := by decide +kernel
theorem dX7_wake_14 : decode cX7_wake 14 = .ok (.iconst (-1), 1) := by decide +kernel
theorem dX7_wake_15 : decode cX7_wake 15 = .ok (.istore_n 3, 1) := by decide +kernel
theorem dX7_wake_16 : decode cX7_wake 16 = .ok (.iconst 0, 1) := by decide +kernel
theorem dX7_wake_17 : decode cX7_wake 17 = .ok (.istore 4, 2) := by decide +kernel
theorem dX7_wake_19 : decode cX7_wake 19 = .ok (.iload 4, 2) := by decide +kernel
theorem dX7_wake_21 : decode cX7_wake 21 = .ok (.sipush 1000, 3) := by decide +kernel
theorem dX7_wake_24 : decode cX7_wake 24 = .ok (.if_icmp .ge 87, 3) := by decide +kernel
theorem dX7_wake_27 : decode cX7_wake 27 = .ok (.bipush 27, 2) := by decide +kernel
theorem dX7_wake_29 : decode cX7_wake 29 = .ok (.istore 5, 2) := by decide +kernel
theorem dX7_wake_31 : decode cX7_wake 31 = .ok (.iconst 0, 1) := by decide +kernel
theorem dX7_wake_32 : decode cX7_wake 32 = .ok (.istore 6, 2) := by decide +kernel
theorem dX7_wake_34 : decode cX7_wake 34 = .ok (.iload 6, 2) := by decide +kernel
theorem dX7_wake_36 : decode cX7_wake 36 = .ok (.aload_n 0, 1) := by decide +kernel
theorem dX7_wake_37 : decode cX7_wake 37 = .ok (.getfield 120, 3) := by decide +kernel
theorem dX7_wake_40 : decode cX7_wake 40 = .ok (.if_icmp .ge 39, 3) := by decide +kernel
theorem dX7_wake_43 : decode cX7_wake 43 = .ok (.aload_n 0, 1) := by decide +kernel
theorem dX7_wake_44 : decode cX7_wake 44 = .ok (.getfield 35, 3) := by decide +kernel
theorem dX7_wake_47 : decode cX7_wake 47 = .ok (.iload 6, 2) := by decide +kernel
theorem dX7_wake_49 : decode cX7_wake 49 = .ok (.iaload, 1) := by decide +kernel
theorem dX7_wake_50 : decode cX7_wake 50 = .ok (.iload 4, 2) := by decide +kernel
theorem dX7_wake_52 : decode cX7_wake 52 = .ok (.invokestatic 153, 3) := by decide +kernel
theorem dX7_wake_55 : decode cX7_wake 55 = .ok (.istore 7, 2) := by decide +kernel
theorem dX7_wake_57 : decode cX7_wake 57 = .ok (.iload 7, 2) := by decide +kernel
theorem dX7_wake_59 : decode cX7_wake 59 = .ok (.iload 5, 2) := by decide +kernel
theorem dX7_wake_61 : decode cX7_wake 61 = .ok (.if_icmp .ge 8, 3) := by decide +kernel
theorem dX7_wake_64 : decode cX7_wake 64 = .ok (.iload 7, 2) := by decide +kernel
theorem dX7_wake_66 : decode cX7_wake 66 = .ok (.goto 5, 3) := by decide +kernel
theorem dX7_wake_69 : decode cX7_wake 69 = .ok (.iload 5, 2) := by decide +kernel
theorem dX7_wake_71 : decode cX7_wake 71 = .ok (.istore 5, 2) := by decide +kernel
theorem dX7_wake_73 : decode cX7_wake 73 = .ok (.iinc 6 1, 3) := by decide +kernel
theorem dX7_wake_76 : decode cX7_wake 76 = .ok (.goto (-42), 3) := by decide +kernel
theorem dX7_wake_79 : decode cX7_wake 79 = .ok (.iload 5, 2) := by decide +kernel
theorem dX7_wake_81 : decode cX7_wake 81 = .ok (.iload_n 3, 1) := by decide +kernel
theorem dX7_wake_82 : decode cX7_wake 82 = .ok (.if_icmp .le 8, 3) := by decide +kernel
theorem dX7_wake_85 : decode cX7_wake 85 = .ok (.iload 4, 2) := by decide +kernel
theorem dX7_wake_87 : decode cX7_wake 87 = .ok (.goto 4, 3) := by decide +kernel
theorem dX7_wake_90 : decode cX7_wake 90 = .ok (.iload_n 2, 1) := by decide +kernel
theorem dX7_wake_91 : decode cX7_wake 91 = .ok (.istore_n 2, 1) := by decide +kernel
theorem dX7_wake_92 : decode cX7_wake 92 = .ok (.iload 5, 2) := by decide +kernel
theorem dX7_wake_94 : decode cX7_wake 94 = .ok (.iload_n 3, 1) := by decide +kernel
theorem dX7_wake_95 : decode cX7_wake 95 = .ok (.if_icmp .le 8, 3) := by decide +kernel
theorem dX7_wake_98 : decode cX7_wake 98 = .ok (.iload 5, 2) := by decide +kernel
theorem dX7_wake_100 : decode cX7_wake 100 = .ok (.goto 4, 3) := by decide +kernel
theorem dX7_wake_103 : decode cX7_wake 103 = .ok (.iload_n 3, 1) := by decide +kernel
theorem dX7_wake_104 : decode cX7_wake 104 = .ok (.istore_n 3, 1) := by decide +kernel
theorem dX7_wake_105 : decode cX7_wake 105 = .ok (.iinc 4 1, 3) := by decide +kernel
theorem dX7_wake_108 : decode cX7_wake 108 = .ok (.goto (-89), 3) := by decide +kernel
theorem dX7_wake_111 : decode cX7_wake 111 = .ok (.iload_n 1, 1) := by decide +kernel
theorem dX7_wake_112 : decode cX7_wake 112 = .ok (.ifCond .ne 7, 3) := by decide +kernel
theorem dX7_wake_115 : decode cX7_wake 115 = .ok (.iload_n 2, 1) := by decide +kernel
theorem dX7_wake_116 : decode cX7_wake 116 = .ok (.goto 4, 3) := by decide +kernel
theorem dX7_wake_119 : decode cX7_wake 119 = .ok (.iload_n 3, 1) := by decide +kernel
theorem dX7_wake_120 : decode cX7_wake 120 = .ok (.ireturn, 1) := by decide +kernel
theorem dX7_falsely_0 : decode cX7_falsely 0 = .ok (.aload_n 0, 1) := by decide +kernel
theorem dX7_falsely_1 : decode cX7_falsely 1 = .ok (.iload_n 1, 1) := by decide +kernel
theorem dX7_falsely_2 : decode cX7_falsely 2 = .ok (.invokevirtual 143, 3) := by decide +kernel
theorem dX7_falsely_5 : decode cX7_falsely 5 = .ok (.ifCond .ne 6, 3) := by decide +kernel
theorem dX7_falsely_8 : decode cX7_falsely 8 = .ok (.ldc 142, 2) := by decide +kernel
theorem dX7_falsely_10 : decode cX7_falsely 10 = .ok (.ireturn, 1) := by decide +kernel
theorem dX7_falsely_11 : decode cX7_falsely 11 = .ok (.iload_n 2, 1) := by decide +kernel
theorem dX7_falsely_12 : decode cX7_falsely 12 = .ok (.iconst 0, 1) := by decide +kernel
theorem dX7_falsely_13 : decode cX7_falsely 13 = .ok (.bipush 27, 2) := by decide +kernel
theorem dX7_falsely_15 : decode cX7_falsely 15 = .ok (.invokestatic 58, 3) := by decide +kernel
theorem dX7_falsely_18 : decode cX7_falsely 18 = .ok (.ifCond .ne 6, 3) := by decide +kernel
theorem dX7_falsely_21 : decode cX7_falsely 21 = .ok (.ldc 62, 2) := by decide +kernel
theorem dX7_falsely_23 : decode cX7_falsely 23 = .ok (.ireturn, 1) := by decide +kernel
theorem dX7_falsely_24 : decode cX7_falsely 24 = .ok (.iconst 0, 1) := by decide +kernel
theorem dX7_falsely_25 : decode cX7_falsely 25 = .ok (.istore_n 3, 1) := by decide +kernel
theorem dX7_falsely_26 : decode cX7_falsely 26 = .ok (.iconst 0, 1) := by decide +kernel
theorem dX7_falsely_27 : decode cX7_falsely 27 = .ok (.istore 4, 2) := by decide +kernel
theorem dX7_falsely_29 : decode cX7_falsely 29 = .ok (.iload 4, 2) := by decide +kernel
theorem dX7_falsely_31 : decode cX7_falsely 31 = .ok (.aload_n 0, 1) := by decide +kernel
theorem dX7_falsely_32 : decode cX7_falsely 32 = .ok (.getfield 120, 3) := by decide +kernel
theorem dX7_falsely_35 : decode cX7_falsely 35 = .ok (.if_icmp .ge 40, 3) := by decide +kernel
theorem dX7_falsely_38 : decode cX7_falsely 38 = .ok (.iload_n 3, 1) := by decide +kernel
theorem dX7_falsely_39 : decode cX7_falsely 39 = .ok (.aload_n 0, 1) := by decide +kernel
theorem dX7_falsely_40 : decode cX7_falsely 40 = .ok (.iload 4, 2) := by decide +kernel
theorem dX7_falsely_42 : decode cX7_falsely 42 = .ok (.iload_n 1, 1) := by decide +kernel
theorem dX7_falsely_43 : decode cX7_falsely 43 = .ok (.invokevirtual 215, 3) := by decide +kernel
theorem dX7_falsely_46 : decode cX7_falsely 46 = .ok (.aload_n 0, 1) := by decide +kernel
theorem dX7_falsely_47 : decode cX7_falsely 47 = .ok (.getfield 26, 3) := by decide +kernel
theorem dX7_falsely_50 : decode cX7_falsely 50 = .ok (.iconst 2, 1) := by decide +kernel
theorem dX7_falsely_51 : decode cX7_falsely 51 = .ok (.iaload, 1) := by decide +kernel
theorem dX7_falsely_52 : decode cX7_falsely 52 = .ok (.invokestatic 153, 3) := by decide +kernel
theorem dX7_falsely_55 : decode cX7_falsely 55 = .ok (.iload_n 2, 1) := by decide +kernel
theorem dX7_falsely_56 : decode cX7_falsely 56 = .ok (.if_icmp .gt 10, 3) := by decide +kernel
theorem dX7_falsely_59 : decode cX7_falsely 59 = .ok (.iconst 1, 1) := by decide +kernel
theorem dX7_falsely_60 : decode cX7_falsely 60 = .ok (.iload 4, 2) := by decide +kernel
theorem dX7_falsely_62 : decode cX7_falsely 62 = .ok (.ishl, 1) := by decide +kernel
theorem dX7_falsely_63 : decode cX7_falsely 63 = .ok (.goto 4, 3) := by decide +kernel
theorem dX7_falsely_66 : decode cX7_falsely 66 = .ok (.iconst 0, 1) := by decide +kernel
theorem dX7_falsely_67 : decode cX7_falsely 67 = .ok (.ior, 1) := by decide +kernel
theorem dX7_falsely_68 : decode cX7_falsely 68 = .ok (.istore_n 3, 1) := by decide +kernel
theorem dX7_falsely_69 : decode cX7_falsely 69 = .ok (.iinc 4 1, 3) := by decide +kernel
theorem dX7_falsely_72 : decode cX7_falsely 72 = .ok (.goto (-43), 3) := by decide +kernel
theorem dX7_falsely_75 : decode cX7_falsely 75 = .ok (.iload_n 3, 1) := by decide +kernel
theorem dX7_falsely_76 : decode cX7_falsely 76 = .ok (.ireturn, 1) := by decide +kernel
theorem dX7_needs_0 : decode cX7_needs 0 = .ok (.aload_n 0, 1) := by decide +kernel
theorem dX7_needs_1 : decode cX7_needs 1 = .ok (.iload_n 1, 1) := by decide +kernel
theorem dX7_needs_2 : decode cX7_needs 2 = .ok (.invokevirtual 139, 3) := by decide +kernel
theorem dX7_needs_5 : decode cX7_needs 5 = .ok (.ifCond .eq 11, 3) := by decide +kernel
theorem dX7_needs_8 : decode cX7_needs 8 = .ok (.aload_n 0, 1) := by decide +kernel
theorem dX7_needs_9 : decode cX7_needs 9 = .ok (.iload_n 2, 1) := by decide +kernel
theorem dX7_needs_10 : decode cX7_needs 10 = .ok (.invokevirtual 143, 3) := by decide +kernel
theorem dX7_needs_13 : decode cX7_needs 13 = .ok (.ifCond .ne 6, 3) := by decide +kernel
theorem dX7_needs_16 : decode cX7_needs 16 = .ok (.ldc 142, 2) := by decide +kernel
theorem dX7_needs_18 : decode cX7_needs 18 = .ok (.ireturn, 1) := by decide +kernel
theorem dX7_needs_19 : decode cX7_needs 19 = .ok (.iload_n 3, 1) := by decide +kernel
theorem dX7_needs_20 : decode cX7_needs 20 = .ok (.iconst 0, 1) := by decide +kernel
theorem dX7_needs_21 : decode cX7_needs 21 = .ok (.iconst 1, 1) := by decide +kernel
theorem dX7_needs_22 : decode cX7_needs 22 = .ok (.invokestatic 58, 3) := by decide +kernel
theorem dX7_needs_25 : decode cX7_needs 25 = .ok (.ifCond .ne 6, 3) := by decide +kernel
theorem dX7_needs_28 : decode cX7_needs 28 = .ok (.ldc 62, 2) := by decide +kernel
theorem dX7_needs_30 : decode cX7_needs 30 = .ok (.ireturn, 1) := by decide +kernel
theorem dX7_needs_31 : decode cX7_needs 31 = .ok (.aload_n 0, 1) := by decide +kernel
theorem dX7_needs_32 : decode cX7_needs 32 = .ok (.getfield 35, 3) := by decide +kernel
theorem dX7_needs_35 : decode cX7_needs 35 = .ok (.bipush 8, 2) := by decide +kernel
theorem dX7_needs_37 : decode cX7_needs 37 = .ok (.iload_n 1, 1) := by decide +kernel
theorem dX7_needs_38 : decode cX7_needs 38 = .ok (.iadd, 1) := by decide +kernel
theorem dX7_needs_39 : decode cX7_needs 39 = .ok (.iaload, 1) := by decide +kernel
theorem dX7_needs_40 : decode cX7_needs 40 = .ok (.istore 4, 2) := by decide +kernel
theorem dX7_needs_42 : decode cX7_needs 42 = .ok (.aload_n 0, 1) := by decide +kernel
theorem dX7_needs_43 : decode cX7_needs 43 = .ok (.iload_n 1, 1) := by decide +kernel
theorem dX7_needs_44 : decode cX7_needs 44 = .ok (.iload_n 2, 1) := by decide +kernel
theorem dX7_needs_45 : decode cX7_needs 45 = .ok (.invokevirtual 215, 3) := by decide +kernel
theorem dX7_needs_48 : decode cX7_needs 48 = .ok (.istore 5, 2) := by decide +kernel
theorem dX7_needs_50 : decode cX7_needs 50 = .ok (.iconst (-1), 1) := by decide +kernel
theorem dX7_needs_51 : decode cX7_needs 51 = .ok (.istore 6, 2) := by decide +kernel
theorem dX7_needs_53 : decode cX7_needs 53 = .ok (.bipush 99, 2) := by decide +kernel
theorem dX7_needs_55 : decode cX7_needs 55 = .ok (.istore 7, 2) := by decide +kernel
theorem dX7_needs_57 : decode cX7_needs 57 = .ok (.iload 7, 2) := by decide +kernel
theorem dX7_needs_59 : decode cX7_needs 59 = .ok (.ifCond .lt 52, 3) := by decide +kernel
theorem dX7_needs_62 : decode cX7_needs 62 = .ok (.aload_n 0, 1) := by decide +kernel
theorem dX7_needs_63 : decode cX7_needs 63 = .ok (.getfield 35, 3) := by decide +kernel
theorem dX7_needs_66 : decode cX7_needs 66 = .ok (.bipush 8, 2) := by decide +kernel
theorem dX7_needs_68 : decode cX7_needs 68 = .ok (.iload_n 1, 1) := by decide +kernel
theorem dX7_needs_69 : decode cX7_needs 69 = .ok (.iadd, 1) := by decide +kernel
theorem dX7_needs_70 : decode cX7_needs 70 = .ok (.iload 7, 2) := by decide +kernel
theorem dX7_needs_72 : decode cX7_needs 72 = .ok (.iastore, 1) := by decide +kernel
theorem dX7_needs_73 : decode cX7_needs 73 = .ok (.aload_n 0, 1) := by decide +kernel
theorem dX7_needs_74 : decode cX7_needs 74 = .ok (.iload 5, 2) := by decide +kernel
theorem dX7_needs_76 : decode cX7_needs 76 = .ok (.invokevirtual 161, 3) := by decide +kernel
theorem dX7_needs_79 : decode cX7_needs 79 = .ok (.iload_n 1, 1) := by decide +kernel
theorem dX7_needs_80 : decode cX7_needs 80 = .ok (.if_icmp .ne 21, 3) := by decide +kernel
theorem dX7_needs_83 : decode cX7_needs 83 = .ok (.iload_n 3, 1) := by decide +kernel
theorem dX7_needs_84 : decode cX7_needs 84 = .ok (.ifCond .eq 12, 3) := by decide +kernel
theorem dX7_needs_87 : decode cX7_needs 87 = .ok (.aload_n 0, 1) := by decide +kernel
theorem dX7_needs_88 : decode cX7_needs 88 = .ok (.iload 5, 2) := by decide +kernel
theorem dX7_needs_90 : decode cX7_needs 90 = .ok (.invokevirtual 174, 3) := by decide +kernel
theorem dX7_needs_93 : decode cX7_needs 93 = .ok (.ifCond .ne 8, 3) := by decide +kernel
theorem dX7_needs_96 : decode cX7_needs 96 = .ok (.iload 7, 2) := by decide +kernel
theorem dX7_needs_98 : decode cX7_needs 98 = .ok (.goto 5, 3) := by decide +kernel
theorem dX7_needs_101 : decode cX7_needs 101 = .ok (.iload 6, 2) := by decide +kernel
theorem dX7_needs_103 : decode cX7_needs 103 = .ok (.istore 6, 2) := by decide +kernel
theorem dX7_needs_105 : decode cX7_needs 105 = .ok (.iinc 7 (-1), 3) := by decide +kernel
theorem dX7_needs_108 : decode cX7_needs 108 = .ok (.goto (-51), 3) := by decide +kernel
theorem dX7_needs_111 : decode cX7_needs 111 = .ok (.aload_n 0, 1) := by decide +kernel
theorem dX7_needs_112 : decode cX7_needs 112 = .ok (.getfield 35, 3) := by decide +kernel
theorem dX7_needs_115 : decode cX7_needs 115 = .ok (.bipush 8, 2) := by decide +kernel
theorem dX7_needs_117 : decode cX7_needs 117 = .ok (.iload_n 1, 1) := by decide +kernel
theorem dX7_needs_118 : decode cX7_needs 118 = .ok (.iadd, 1) := by decide +kernel
theorem dX7_needs_119 : decode cX7_needs 119 = .ok (.iload 4, 2) := by decide +kernel
theorem dX7_needs_121 : decode cX7_needs 121 = .ok (.iastore, 1) := by decide +kernel
theorem dX7_needs_122 : decode cX7_needs 122 = .ok (.iload 6, 2) := by decide +kernel
theorem dX7_needs_124 : decode cX7_needs 124 = .ok (.ireturn, 1) := by decide +kernel
theorem dX7_heardBy_0 : decode cX7_heardBy 0 = .ok (.iconst 0, 1) := by decide +kernel
theorem dX7_heardBy_1 : decode cX7_heardBy 1 = .ok (.istore_n 2, 1) := by decide +kernel
theorem dX7_heardBy_2 : decode cX7_heardBy 2 = .ok (.iconst 0, 1) := by decide +kernel
theorem dX7_heardBy_3 : decode cX7_heardBy 3 = .ok (.istore_n 3, 1) := by decide +kernel
theorem dX7_heardBy_4 : decode cX7_heardBy 4 = .ok (.iload_n 3, 1) := by decide +kernel
theorem dX7_heardBy_5 : decode cX7_heardBy 5 = .ok (.aload_n 0, 1) := by decide +kernel
theorem dX7_heardBy_6 : decode cX7_heardBy 6 = .ok (.getfield 123, 3) := by decide +kernel
theorem dX7_heardBy_9 : decode cX7_heardBy 9 = .ok (.if_icmp .ge 31, 3) := by decide +kernel
theorem dX7_heardBy_12 : decode cX7_heardBy 12 = .ok (.iload_n 2, 1) := by decide +kernel
theorem dX7_heardBy_13 : decode cX7_heardBy 13 = .ok (.aload_n 0, 1) := by decide +kernel
theorem dX7_heardBy_14 : decode cX7_heardBy 14 = .ok (.aload_n 0, 1) := by decide +kernel
theorem dX7_heardBy_15 : decode cX7_heardBy 15 = .ok (.iload_n 1, 1) := by decide +kernel
theorem dX7_heardBy_16 : decode cX7_heardBy 16 = .ok (.iload_n 3, 1) := by decide +kernel
theorem dX7_heardBy_17 : decode cX7_heardBy 17 = .ok (.invokevirtual 215, 3) := by decide +kernel
theorem dX7_heardBy_20 : decode cX7_heardBy 20 = .ok (.invokevirtual 161, 3) := by decide +kernel
theorem dX7_heardBy_23 : decode cX7_heardBy 23 = .ok (.iload_n 1, 1) := by decide +kernel
theorem dX7_heardBy_24 : decode cX7_heardBy 24 = .ok (.if_icmp .ne 7, 3) := by decide +kernel
theorem dX7_heardBy_27 : decode cX7_heardBy 27 = .ok (.iconst 1, 1) := by decide +kernel
theorem dX7_heardBy_28 : decode cX7_heardBy 28 = .ok (.goto 4, 3) := by decide +kernel
theorem dX7_heardBy_31 : decode cX7_heardBy 31 = .ok (.iconst 0, 1) := by decide +kernel
theorem dX7_heardBy_32 : decode cX7_heardBy 32 = .ok (.iadd, 1) := by decide +kernel
theorem dX7_heardBy_33 : decode cX7_heardBy 33 = .ok (.istore_n 2, 1) := by decide +kernel
theorem dX7_heardBy_34 : decode cX7_heardBy 34 = .ok (.iinc 3 1, 3) := by decide +kernel
theorem dX7_heardBy_37 : decode cX7_heardBy 37 = .ok (.goto (-33), 3) := by decide +kernel
theorem dX7_heardBy_40 : decode cX7_heardBy 40 = .ok (.iload_n 2, 1) := by decide +kernel
theorem dX7_heardBy_41 : decode cX7_heardBy 41 = .ok (.ireturn, 1) := by decide +kernel
theorem dX7_bestCalled_0 : decode cX7_bestCalled 0 = .ok (.aload_n 0, 1) := by decide +kernel
theorem dX7_bestCalled_1 : decode cX7_bestCalled 1 = .ok (.iload_n 1, 1) := by decide +kernel
theorem dX7_bestCalled_2 : decode cX7_bestCalled 2 = .ok (.invokevirtual 139, 3) := by decide +kernel
theorem dX7_bestCalled_5 : decode cX7_bestCalled 5 = .ok (.ifCond .ne 6, 3) := by decide +kernel
theorem dX7_bestCalled_8 : decode cX7_bestCalled 8 = .ok (.ldc 142, 2) := by decide +kernel
theorem dX7_bestCalled_10 : decode cX7_bestCalled 10 = .ok (.ireturn, 1) := by decide +kernel
theorem dX7_bestCalled_11 : decode cX7_bestCalled 11 = .ok (.iload_n 2, 1) := by decide +kernel
theorem dX7_bestCalled_12 : decode cX7_bestCalled 12 = .ok (.iconst 0, 1) := by decide +kernel
theorem dX7_bestCalled_13 : decode cX7_bestCalled 13 = .ok (.iconst 1, 1) := by decide +kernel
theorem dX7_bestCalled_14 : decode cX7_bestCalled 14 = .ok (.invokestatic 58, 3) := by decide +kernel
theorem dX7_bestCalled_17 : decode cX7_bestCalled 17 = .ok (.ifCond .ne 6, 3) := by decide +kernel
theorem dX7_bestCalled_20 : decode cX7_bestCalled 20 = .ok (.ldc 62, 2) := by decide +kernel
theorem dX7_bestCalled_22 : decode cX7_bestCalled 22 = .ok (.ireturn, 1) := by decide +kernel
theorem dX7_bestCalled_23 : decode cX7_bestCalled 23 = .ok (.aload_n 0, 1) := by decide +kernel
theorem dX7_bestCalled_24 : decode cX7_bestCalled 24 = .ok (.getfield 35, 3) := by decide +kernel
theorem dX7_bestCalled_27 : decode cX7_bestCalled 27 = .ok (.iload_n 1, 1) := by decide +kernel
theorem dX7_bestCalled_28 : decode cX7_bestCalled 28 = .ok (.iaload, 1) := by decide +kernel
theorem dX7_bestCalled_29 : decode cX7_bestCalled 29 = .ok (.istore_n 3, 1) := by decide +kernel
theorem dX7_bestCalled_30 : decode cX7_bestCalled 30 = .ok (.iconst 0, 1) := by decide +kernel
theorem dX7_bestCalled_31 : decode cX7_bestCalled 31 = .ok (.istore 4, 2) := by decide +kernel
theorem dX7_bestCalled_33 : decode cX7_bestCalled 33 = .ok (.iconst (-1), 1) := by decide +kernel
theorem dX7_bestCalled_34 : decode cX7_bestCalled 34 = .ok (.istore 5, 2) := by decide +kernel
theorem dX7_bestCalled_36 : decode cX7_bestCalled 36 = .ok (.iconst 0, 1) := by decide +kernel
theorem dX7_bestCalled_37 : decode cX7_bestCalled 37 = .ok (.istore 6, 2) := by decide +kernel
theorem dX7_bestCalled_39 : decode cX7_bestCalled 39 = .ok (.iload 6, 2) := by decide +kernel
theorem dX7_bestCalled_41 : decode cX7_bestCalled 41 = .ok (.sipush 1000, 3) := by decide +kernel
theorem dX7_bestCalled_44 : decode cX7_bestCalled 44 = .ok (.if_icmp .ge 61, 3) := by decide +kernel
theorem dX7_bestCalled_47 : decode cX7_bestCalled 47 = .ok (.aload_n 0, 1) := by decide +kernel
theorem dX7_bestCalled_48 : decode cX7_bestCalled 48 = .ok (.getfield 35, 3) := by decide +kernel
theorem dX7_bestCalled_51 : decode cX7_bestCalled 51 = .ok (.iload_n 1, 1) := by decide +kernel
theorem dX7_bestCalled_52 : decode cX7_bestCalled 52 = .ok (.iload 6, 2) := by decide +kernel
theorem dX7_bestCalled_54 : decode cX7_bestCalled 54 = .ok (.iastore, 1) := by decide +kernel
theorem dX7_bestCalled_55 : decode cX7_bestCalled 55 = .ok (.aload_n 0, 1) := by decide +kernel
theorem dX7_bestCalled_56 : decode cX7_bestCalled 56 = .ok (.iload_n 1, 1) := by decide +kernel
theorem dX7_bestCalled_57 : decode cX7_bestCalled 57 = .ok (.invokevirtual 221, 3) := by decide +kernel
theorem dX7_bestCalled_60 : decode cX7_bestCalled 60 = .ok (.istore 7, 2) := by decide +kernel
theorem dX7_bestCalled_62 : decode cX7_bestCalled 62 = .ok (.iload 7, 2) := by decide +kernel
theorem dX7_bestCalled_64 : decode cX7_bestCalled 64 = .ok (.iload 5, 2) := by decide +kernel
theorem dX7_bestCalled_66 : decode cX7_bestCalled 66 = .ok (.if_icmp .gt 25, 3) := by decide +kernel
theorem dX7_bestCalled_69 : decode cX7_bestCalled 69 = .ok (.iload 7, 2) := by decide +kernel
theorem dX7_bestCalled_71 : decode cX7_bestCalled 71 = .ok (.iload 5, 2) := by decide +kernel
theorem dX7_bestCalled_73 : decode cX7_bestCalled 73 = .ok (.if_icmp .ne 26, 3) := by decide +kernel
theorem dX7_bestCalled_76 : decode cX7_bestCalled 76 = .ok (.iload 6, 2) := by decide +kernel
theorem dX7_bestCalled_78 : decode cX7_bestCalled 78 = .ok (.iload_n 3, 1) := by decide +kernel
theorem dX7_bestCalled_79 : decode cX7_bestCalled 79 = .ok (.invokestatic 153, 3) := by decide +kernel
theorem dX7_bestCalled_82 : decode cX7_bestCalled 82 = .ok (.iload 4, 2) := by decide +kernel
theorem dX7_bestCalled_84 : decode cX7_bestCalled 84 = .ok (.iload_n 3, 1) := by decide +kernel
theorem dX7_bestCalled_85 : decode cX7_bestCalled 85 = .ok (.invokestatic 153, 3) := by decide +kernel
theorem dX7_bestCalled_88 : decode cX7_bestCalled 88 = .ok (.if_icmp .ge 11, 3) := by decide +kernel
theorem dX7_bestCalled_91 : decode cX7_bestCalled 91 = .ok (.iload 6, 2) := by decide +kernel
theorem dX7_bestCalled_93 : decode cX7_bestCalled 93 = .ok (.istore 4, 2) := by decide +kernel
theorem dX7_bestCalled_95 : decode cX7_bestCalled 95 = .ok (.iload 7, 2) := by decide +kernel
theorem dX7_bestCalled_97 : decode cX7_bestCalled 97 = .ok (.istore 5, 2) := by decide +kernel
theorem dX7_bestCalled_99 : decode cX7_bestCalled 99 = .ok (.iinc 6 1, 3) := by decide +kernel
theorem dX7_bestCalled_102 : decode cX7_bestCalled 102 = .ok (.goto (-63), 3) := by decide +kernel
theorem dX7_bestCalled_105 : decode cX7_bestCalled 105 = .ok (.aload_n 0, 1) := by decide +kernel
theorem dX7_bestCalled_106 : decode cX7_bestCalled 106 = .ok (.getfield 35, 3) := by decide +kernel
theorem dX7_bestCalled_109 : decode cX7_bestCalled 109 = .ok (.iload_n 1, 1) := by decide +kernel
theorem dX7_bestCalled_110 : decode cX7_bestCalled 110 = .ok (.iload_n 3, 1) := by decide +kernel
theorem dX7_bestCalled_111 : decode cX7_bestCalled 111 = .ok (.iastore, 1) := by decide +kernel
theorem dX7_bestCalled_112 : decode cX7_bestCalled 112 = .ok (.iload_n 2, 1) := by decide +kernel
theorem dX7_bestCalled_113 : decode cX7_bestCalled 113 = .ok (.ifCond .ne 8, 3) := by decide +kernel
theorem dX7_bestCalled_116 : decode cX7_bestCalled 116 = .ok (.iload 4, 2) := by decide +kernel
theorem dX7_bestCalled_118 : decode cX7_bestCalled 118 = .ok (.goto 5, 3) := by decide +kernel
theorem dX7_bestCalled_121 : decode cX7_bestCalled 121 = .ok (.iload 5, 2) := by decide +kernel
theorem dX7_bestCalled_123 : decode cX7_bestCalled 123 = .ok (.ireturn, 1) := by decide +kernel
theorem dX7_asks_0 : decode cX7_asks 0 = .ok (.iload_n 1, 1) := by decide +kernel
theorem dX7_asks_1 : decode cX7_asks 1 = .ok (.iconst 0, 1) := by decide +kernel
theorem dX7_asks_2 : decode cX7_asks 2 = .ok (.sipush 9999, 3) := by decide +kernel
theorem dX7_asks_5 : decode cX7_asks 5 = .ok (.invokestatic 58, 3) := by decide +kernel
theorem dX7_asks_8 : decode cX7_asks 8 = .ok (.ifCond .ne 6, 3) := by decide +kernel
theorem dX7_asks_11 : decode cX7_asks 11 = .ok (.ldc 62, 2) := by decide +kernel
theorem dX7_asks_13 : decode cX7_asks 13 = .ok (.ireturn, 1) := by decide +kernel
theorem dX7_asks_14 : decode cX7_asks 14 = .ok (.iconst 0, 1) := by decide +kernel
theorem dX7_asks_15 : decode cX7_asks 15 = .ok (.istore_n 2, 1) := by decide +kernel
theorem dX7_asks_16 : decode cX7_asks 16 = .ok (.aload_n 0, 1) := by decide +kernel
theorem dX7_asks_17 : decode cX7_asks 17 = .ok (.getfield 26, 3) := by decide +kernel
theorem dX7_asks_20 : decode cX7_asks 20 = .ok (.iconst 0, 1) := by decide +kernel
theorem dX7_asks_21 : decode cX7_asks 21 = .ok (.iaload, 1) := by decide +kernel
theorem dX7_asks_22 : decode cX7_asks 22 = .ok (.aload_n 0, 1) := by decide +kernel
theorem dX7_asks_23 : decode cX7_asks 23 = .ok (.getfield 35, 3) := by decide +kernel
theorem dX7_asks_26 : decode cX7_asks 26 = .ok (.bipush 25, 2) := by decide +kernel
theorem dX7_asks_28 : decode cX7_asks 28 = .ok (.iaload, 1) := by decide +kernel
theorem dX7_asks_29 : decode cX7_asks 29 = .ok (.iadd, 1) := by decide +kernel
theorem dX7_asks_30 : decode cX7_asks 30 = .ok (.istore_n 3, 1) := by decide +kernel
theorem dX7_asks_31 : decode cX7_asks 31 = .ok (.iload_n 2, 1) := by decide +kernel
theorem dX7_asks_32 : decode cX7_asks 32 = .ok (.bipush 99, 2) := by decide +kernel
theorem dX7_asks_34 : decode cX7_asks 34 = .ok (.if_icmp .ge 33, 3) := by decide +kernel
theorem dX7_asks_37 : decode cX7_asks 37 = .ok (.iload_n 3, 1) := by decide +kernel
theorem dX7_asks_38 : decode cX7_asks 38 = .ok (.iload_n 1, 1) := by decide +kernel
theorem dX7_asks_39 : decode cX7_asks 39 = .ok (.if_icmp .gt 28, 3) := by decide +kernel
theorem dX7_asks_42 : decode cX7_asks 42 = .ok (.iinc 2 1, 3) := by decide +kernel
theorem dX7_asks_45 : decode cX7_asks 45 = .ok (.iload_n 3, 1) := by decide +kernel
theorem dX7_asks_46 : decode cX7_asks 46 = .ok (.aload_n 0, 1) := by decide +kernel
theorem dX7_asks_47 : decode cX7_asks 47 = .ok (.getfield 26, 3) := by decide +kernel
theorem dX7_asks_50 : decode cX7_asks 50 = .ok (.iconst 0, 1) := by decide +kernel
theorem dX7_asks_51 : decode cX7_asks 51 = .ok (.iaload, 1) := by decide +kernel
theorem dX7_asks_52 : decode cX7_asks 52 = .ok (.aload_n 0, 1) := by decide +kernel
theorem dX7_asks_53 : decode cX7_asks 53 = .ok (.getfield 35, 3) := by decide +kernel
theorem dX7_asks_56 : decode cX7_asks 56 = .ok (.bipush 25, 2) := by decide +kernel
theorem dX7_asks_58 : decode cX7_asks 58 = .ok (.iaload, 1) := by decide +kernel
theorem dX7_asks_59 : decode cX7_asks 59 = .ok (.iadd, 1) := by decide +kernel
theorem dX7_asks_60 : decode cX7_asks 60 = .ok (.iload_n 2, 1) := by decide +kernel
theorem dX7_asks_61 : decode cX7_asks 61 = .ok (.iadd, 1) := by decide +kernel
theorem dX7_asks_62 : decode cX7_asks 62 = .ok (.iadd, 1) := by decide +kernel
theorem dX7_asks_63 : decode cX7_asks 63 = .ok (.istore_n 3, 1) := by decide +kernel
theorem dX7_asks_64 : decode cX7_asks 64 = .ok (.goto (-33), 3) := by decide +kernel
theorem dX7_asks_67 : decode cX7_asks 67 = .ok (.iload_n 2, 1) := by decide +kernel
theorem dX7_asks_68 : decode cX7_asks 68 = .ok (.ireturn, 1) := by decide +kernel
theorem dX7_waked_0 : decode cX7_waked 0 = .ok (.iload_n 1, 1) := by decide +kernel
theorem dX7_waked_1 : decode cX7_waked 1 = .ok (.iconst 0, 1) := by decide +kernel
theorem dX7_waked_2 : decode cX7_waked 2 = .ok (.bipush 60, 2) := by decide +kernel
theorem dX7_waked_4 : decode cX7_waked 4 = .ok (.invokestatic 58, 3) := by decide +kernel
theorem dX7_waked_7 : decode cX7_waked 7 = .ok (.ifCond .eq 13, 3) := by decide +kernel
theorem dX7_waked_10 : decode cX7_waked 10 = .ok (.iload_n 2, 1) := by decide +kernel
theorem dX7_waked_11 : decode cX7_waked 11 = .ok (.iconst 0, 1) := by decide +kernel
theorem dX7_waked_12 : decode cX7_waked 12 = .ok (.bipush 100, 2) := by decide +kernel
theorem dX7_waked_14 : decode cX7_waked 14 = .ok (.invokestatic 58, 3) := by decide +kernel
theorem dX7_waked_17 : decode cX7_waked 17 = .ok (.ifCond .ne 6, 3) := by decide +kernel
theorem dX7_waked_20 : decode cX7_waked 20 = .ok (.ldc 62, 2) := by decide +kernel
theorem dX7_waked_22 : decode cX7_waked 22 = .ok (.ireturn, 1) := by decide +kernel
theorem dX7_waked_23 : decode cX7_waked 23 = .ok (.ldc2_w 224, 3) := by decide +kernel
theorem dX7_waked_26 : decode cX7_waked 26 = .ok (.lstore_n 3, 1) := by decide +kernel
theorem dX7_waked_27 : decode cX7_waked 27 = .ok (.iconst 0, 1) := by decide +kernel
theorem dX7_waked_28 : decode cX7_waked 28 = .ok (.istore 5, 2) := by decide +kernel
theorem dX7_waked_30 : decode cX7_waked 30 = .ok (.iload 5, 2) := by decide +kernel
theorem dX7_waked_32 : decode cX7_waked 32 = .ok (.iload_n 1, 1) := by decide +kernel
theorem dX7_waked_33 : decode cX7_waked 33 = .ok (.if_icmp .ge 21, 3) := by decide +kernel
theorem dX7_waked_36 : decode cX7_waked 36 = .ok (.lload_n 3, 1) := by decide +kernel
theorem dX7_waked_37 : decode cX7_waked 37 = .ok (.bipush 100, 2) := by decide +kernel
theorem dX7_waked_39 : decode cX7_waked 39 = .ok (.iload_n 2, 1) := by decide +kernel
theorem dX7_waked_40 : decode cX7_waked 40 = .ok (.isub, 1) := by decide +kernel
theorem dX7_waked_41 : decode cX7_waked 41 = .ok (.i2l, 1) := by decide +kernel
theorem dX7_waked_42 : decode cX7_waked 42 = .ok (.lmul, 1) := by decide +kernel
theorem dX7_waked_43 : decode cX7_waked 43 = .ok (.ldc2_w 226, 3) := by decide +kernel
theorem dX7_waked_46 : decode cX7_waked 46 = .ok (.ldiv, 1) := by decide +kernel
theorem dX7_waked_47 : decode cX7_waked 47 = .ok (.lstore_n 3, 1) := by decide +kernel
theorem dX7_waked_48 : decode cX7_waked 48 = .ok (.iinc 5 1, 3) := by decide +kernel
theorem dX7_waked_51 : decode cX7_waked 51 = .ok (.goto (-21), 3) := by decide +kernel
theorem dX7_waked_54 : decode cX7_waked 54 = .ok (.lload_n 3, 1) := by decide +kernel
theorem dX7_waked_55 : decode cX7_waked 55 = .ok (.l2i, 1) := by decide +kernel
theorem dX7_waked_56 : decode cX7_waked 56 = .ok (.ireturn, 1) := by decide +kernel
theorem dX7_see_0 : decode cX7_see 0 = .ok (.aload_n 0, 1) := by decide +kernel
theorem dX7_see_1 : decode cX7_see 1 = .ok (.iload_n 1, 1) := by decide +kernel
theorem dX7_see_2 : decode cX7_see 2 = .ok (.invokevirtual 139, 3) := by decide +kernel
theorem dX7_see_5 : decode cX7_see 5 = .ok (.ifCond .eq 11, 3) := by decide +kernel
theorem dX7_see_8 : decode cX7_see 8 = .ok (.aload_n 0, 1) := by decide +kernel
theorem dX7_see_9 : decode cX7_see 9 = .ok (.iload_n 2, 1) := by decide +kernel
theorem dX7_see_10 : decode cX7_see 10 = .ok (.invokevirtual 139, 3) := by decide +kernel
theorem dX7_see_13 : decode cX7_see 13 = .ok (.ifCond .ne 6, 3) := by decide +kernel
theorem dX7_see_16 : decode cX7_see 16 = .ok (.ldc 142, 2) := by decide +kernel
theorem dX7_see_18 : decode cX7_see 18 = .ok (.ireturn, 1) := by decide +kernel
theorem dX7_see_19 : decode cX7_see 19 = .ok (.aload_n 0, 1) := by decide +kernel
theorem dX7_see_20 : decode cX7_see 20 = .ok (.getfield 126, 3) := by decide +kernel
theorem dX7_see_23 : decode cX7_see 23 = .ok (.bipush 6, 2) := by decide +kernel
theorem dX7_see_25 : decode cX7_see 25 = .ok (.if_icmp .ne 6, 3) := by decide +kernel
theorem dX7_see_28 : decode cX7_see 28 = .ok (.ldc 66, 2) := by decide +kernel
theorem dX7_see_30 : decode cX7_see 30 = .ok (.ireturn, 1) := by decide +kernel
theorem dX7_see_31 : decode cX7_see 31 = .ok (.aload_n 0, 1) := by decide +kernel
theorem dX7_see_32 : decode cX7_see 32 = .ok (.getfield 41, 3) := by decide +kernel
theorem dX7_see_35 : decode cX7_see 35 = .ok (.iconst 2, 1) := by decide +kernel
theorem dX7_see_36 : decode cX7_see 36 = .ok (.aload_n 0, 1) := by decide +kernel
theorem dX7_see_37 : decode cX7_see 37 = .ok (.getfield 126, 3) := by decide +kernel
theorem dX7_see_40 : decode cX7_see 40 = .ok (.imul, 1) := by decide +kernel
theorem dX7_see_41 : decode cX7_see 41 = .ok (.iload_n 1, 1) := by decide +kernel
theorem dX7_see_42 : decode cX7_see 42 = .ok (.iastore, 1) := by decide +kernel
theorem dX7_see_43 : decode cX7_see 43 = .ok (.aload_n 0, 1) := by decide +kernel
theorem dX7_see_44 : decode cX7_see 44 = .ok (.getfield 41, 3) := by decide +kernel
theorem dX7_see_47 : decode cX7_see 47 = .ok (.iconst 2, 1) := by decide +kernel
theorem dX7_see_48 : decode cX7_see 48 = .ok (.aload_n 0, 1) := by decide +kernel
theorem dX7_see_49 : decode cX7_see 49 = .ok (.getfield 126, 3) := by decide +kernel
theorem dX7_see_52 : decode cX7_see 52 = .ok (.imul, 1) := by decide +kernel
theorem dX7_see_53 : decode cX7_see 53 = .ok (.iconst 1, 1) := by decide +kernel
theorem dX7_see_54 : decode cX7_see 54 = .ok (.iadd, 1) := by decide +kernel
theorem dX7_see_55 : decode cX7_see 55 = .ok (.iload_n 2, 1) := by decide +kernel
theorem dX7_see_56 : decode cX7_see 56 = .ok (.iastore, 1) := by decide +kernel
theorem dX7_see_57 : decode cX7_see 57 = .ok (.aload_n 0, 1) := by decide +kernel
theorem dX7_see_58 : decode cX7_see 58 = .ok (.dup, 1) := by decide +kernel
theorem dX7_see_59 : decode cX7_see 59 = .ok (.getfield 126, 3) := by decide +kernel
theorem dX7_see_62 : decode cX7_see 62 = .ok (.iconst 1, 1) := by decide +kernel
theorem dX7_see_63 : decode cX7_see 63 = .ok (.iadd, 1) := by decide +kernel
theorem dX7_see_64 : decode cX7_see 64 = .ok (.putfield 126, 3) := by decide +kernel
theorem dX7_see_67 : decode cX7_see 67 = .ok (.aload_n 0, 1) := by decide +kernel
theorem dX7_see_68 : decode cX7_see 68 = .ok (.getfield 126, 3) := by decide +kernel
theorem dX7_see_71 : decode cX7_see 71 = .ok (.ireturn, 1) := by decide +kernel
theorem dX7_speaker_0 : decode cX7_speaker 0 = .ok (.iconst 0, 1) := by decide +kernel
theorem dX7_speaker_1 : decode cX7_speaker 1 = .ok (.istore_n 1, 1) := by decide +kernel
theorem dX7_speaker_2 : decode cX7_speaker 2 = .ok (.iconst 0, 1) := by decide +kernel
theorem dX7_speaker_3 : decode cX7_speaker 3 = .ok (.istore_n 2, 1) := by decide +kernel
theorem dX7_speaker_4 : decode cX7_speaker 4 = .ok (.iload_n 2, 1) := by decide +kernel
theorem dX7_speaker_5 : decode cX7_speaker 5 = .ok (.aload_n 0, 1) := by decide +kernel
theorem dX7_speaker_6 : decode cX7_speaker 6 = .ok (.getfield 123, 3) := by decide +kernel
theorem dX7_speaker_9 : decode cX7_speaker 9 = .ok (.if_icmp .ge 85, 3) := by decide +kernel
theorem dX7_speaker_12 : decode cX7_speaker 12 = .ok (.iconst 1, 1) := by decide +kernel
theorem dX7_speaker_13 : decode cX7_speaker 13 = .ok (.istore_n 3, 1) := by decide +kernel
theorem dX7_speaker_14 : decode cX7_speaker 14 = .ok (.iconst 0, 1) := by decide +kernel
theorem dX7_speaker_15 : decode cX7_speaker 15 = .ok (.istore 4, 2) := by decide +kernel
theorem dX7_speaker_17 : decode cX7_speaker 17 = .ok (.iload 4, 2) := by decide +kernel
theorem dX7_speaker_19 : decode cX7_speaker 19 = .ok (.aload_n 0, 1) := by decide +kernel
theorem dX7_speaker_20 : decode cX7_speaker 20 = .ok (.getfield 126, 3) := by decide +kernel
theorem dX7_speaker_23 : decode cX7_speaker 23 = .ok (.if_icmp .ge 51, 3) := by decide +kernel
theorem dX7_speaker_26 : decode cX7_speaker 26 = .ok (.iload_n 3, 1) := by decide +kernel
theorem dX7_speaker_27 : decode cX7_speaker 27 = .ok (.ifCond .eq 39, 3) := by decide +kernel
theorem dX7_speaker_30 : decode cX7_speaker 30 = .ok (.aload_n 0, 1) := by decide +kernel
theorem dX7_speaker_31 : decode cX7_speaker 31 = .ok (.aload_n 0, 1) := by decide +kernel
theorem dX7_speaker_32 : decode cX7_speaker 32 = .ok (.aload_n 0, 1) := by decide +kernel
theorem dX7_speaker_33 : decode cX7_speaker 33 = .ok (.getfield 41, 3) := by decide +kernel
theorem dX7_speaker_36 : decode cX7_speaker 36 = .ok (.iconst 2, 1) := by decide +kernel
theorem dX7_speaker_37 : decode cX7_speaker 37 = .ok (.iload 4, 2) := by decide +kernel
theorem dX7_speaker_39 : decode cX7_speaker 39 = .ok (.imul, 1) := by decide +kernel
theorem dX7_speaker_40 : decode cX7_speaker 40 = .ok (.iaload, 1) := by decide +kernel
theorem dX7_speaker_41 : decode cX7_speaker 41 = .ok (.iload_n 2, 1) := by decide +kernel
theorem dX7_speaker_42 : decode cX7_speaker 42 = .ok (.invokevirtual 215, 3) := by decide +kernel
theorem dX7_speaker_45 : decode cX7_speaker 45 = .ok (.invokevirtual 161, 3) := by decide +kernel
theorem dX7_speaker_48 : decode cX7_speaker 48 = .ok (.aload_n 0, 1) := by decide +kernel
theorem dX7_speaker_49 : decode cX7_speaker 49 = .ok (.getfield 41, 3) := by decide +kernel
theorem dX7_speaker_52 : decode cX7_speaker 52 = .ok (.iconst 2, 1) := by decide +kernel
theorem dX7_speaker_53 : decode cX7_speaker 53 = .ok (.iload 4, 2) := by decide +kernel
theorem dX7_speaker_55 : decode cX7_speaker 55 = .ok (.imul, 1) := by decide +kernel
theorem dX7_speaker_56 : decode cX7_speaker 56 = .ok (.iconst 1, 1) := by decide +kernel
theorem dX7_speaker_57 : decode cX7_speaker 57 = .ok (.iadd, 1) := by decide +kernel
theorem dX7_speaker_58 : decode cX7_speaker 58 = .ok (.iaload, 1) := by decide +kernel
theorem dX7_speaker_59 : decode cX7_speaker 59 = .ok (.if_icmp .ne 7, 3) := by decide +kernel
theorem dX7_speaker_62 : decode cX7_speaker 62 = .ok (.iconst 1, 1) := by decide +kernel
theorem dX7_speaker_63 : decode cX7_speaker 63 = .ok (.goto 4, 3) := by decide +kernel
theorem dX7_speaker_66 : decode cX7_speaker 66 = .ok (.iconst 0, 1) := by decide +kernel
theorem dX7_speaker_67 : decode cX7_speaker 67 = .ok (.istore_n 3, 1) := by decide +kernel
theorem dX7_speaker_68 : decode cX7_speaker 68 = .ok (.iinc 4 1, 3) := by decide +kernel
theorem dX7_speaker_71 : decode cX7_speaker 71 = .ok (.goto (-54), 3) := by decide +kernel
theorem dX7_speaker_74 : decode cX7_speaker 74 = .ok (.iload_n 1, 1) := by decide +kernel
theorem dX7_speaker_75 : decode cX7_speaker 75 = .ok (.iload_n 3, 1) := by decide +kernel
theorem dX7_speaker_76 : decode cX7_speaker 76 = .ok (.ifCond .eq 9, 3) := by decide +kernel
theorem dX7_speaker_79 : decode cX7_speaker 79 = .ok (.iconst 1, 1) := by decide +kernel
theorem dX7_speaker_80 : decode cX7_speaker 80 = .ok (.iload_n 2, 1) := by decide +kernel
theorem dX7_speaker_81 : decode cX7_speaker 81 = .ok (.ishl, 1) := by decide +kernel
theorem dX7_speaker_82 : decode cX7_speaker 82 = .ok (.goto 4, 3) := by decide +kernel
theorem dX7_speaker_85 : decode cX7_speaker 85 = .ok (.iconst 0, 1) := by decide +kernel
theorem dX7_speaker_86 : decode cX7_speaker 86 = .ok (.ior, 1) := by decide +kernel
theorem dX7_speaker_87 : decode cX7_speaker 87 = .ok (.istore_n 1, 1) := by decide +kernel
theorem dX7_speaker_88 : decode cX7_speaker 88 = .ok (.iinc 2 1, 3) := by decide +kernel
theorem dX7_speaker_91 : decode cX7_speaker 91 = .ok (.goto (-87), 3) := by decide +kernel
theorem dX7_speaker_94 : decode cX7_speaker 94 = .ok (.iload_n 1, 1) := by decide +kernel
theorem dX7_speaker_95 : decode cX7_speaker 95 = .ok (.ireturn, 1) := by decide +kernel
theorem dX7_greatestPart_0 : decode cX7_greatestPart 0 = .ok (.iconst 0, 1) := by decide +kernel
theorem dX7_greatestPart_1 : decode cX7_greatestPart 1 = .ok (.istore_n 3, 1) := by decide +kernel
theorem dX7_greatestPart_2 : decode cX7_greatestPart 2 = .ok (.iconst 0, 1) := by decide +kernel
theorem dX7_greatestPart_3 : decode cX7_greatestPart 3 = .ok (.istore 4, 2) := by decide +kernel
theorem dX7_greatestPart_5 : decode cX7_greatestPart 5 = .ok (.iload 4, 2) := by decide +kernel
theorem dX7_greatestPart_7 : decode cX7_greatestPart 7 = .ok (.aload_n 0, 1) := by decide +kernel
theorem dX7_greatestPart_8 : decode cX7_greatestPart 8 = .ok (.getfield 120, 3) := by decide +kernel
theorem dX7_greatestPart_11 : decode cX7_greatestPart 11 = .ok (.if_icmp .ge 79, 3) := by decide +kernel
theorem dX7_greatestPart_14 : decode cX7_greatestPart 14 = .ok (.iconst 0, 1) := by decide +kernel
theorem dX7_greatestPart_15 : decode cX7_greatestPart 15 = .ok (.istore 5, 2) := by decide +kernel
theorem dX7_greatestPart_17 : decode cX7_greatestPart 17 = .ok (.iconst 0, 1) := by decide +kernel
theorem dX7_greatestPart_18 : decode cX7_greatestPart 18 = .ok (.istore 6, 2) := by decide +kernel
theorem dX7_greatestPart_20 : decode cX7_greatestPart 20 = .ok (.iload 6, 2) := by decide +kernel
theorem dX7_greatestPart_22 : decode cX7_greatestPart 22 = .ok (.aload_n 0, 1) := by decide +kernel
theorem dX7_greatestPart_23 : decode cX7_greatestPart 23 = .ok (.getfield 123, 3) := by decide +kernel
theorem dX7_greatestPart_26 : decode cX7_greatestPart 26 = .ok (.if_icmp .ge 45, 3) := by decide +kernel
theorem dX7_greatestPart_29 : decode cX7_greatestPart 29 = .ok (.iload 5, 2) := by decide +kernel
theorem dX7_greatestPart_31 : decode cX7_greatestPart 31 = .ok (.iload_n 2, 1) := by decide +kernel
theorem dX7_greatestPart_32 : decode cX7_greatestPart 32 = .ok (.iload 6, 2) := by decide +kernel
theorem dX7_greatestPart_34 : decode cX7_greatestPart 34 = .ok (.ishr, 1) := by decide +kernel
theorem dX7_greatestPart_35 : decode cX7_greatestPart 35 = .ok (.iconst 1, 1) := by decide +kernel
theorem dX7_greatestPart_36 : decode cX7_greatestPart 36 = .ok (.iand, 1) := by decide +kernel
theorem dX7_greatestPart_37 : decode cX7_greatestPart 37 = .ok (.iconst 1, 1) := by decide +kernel
theorem dX7_greatestPart_38 : decode cX7_greatestPart 38 = .ok (.if_icmp .ne 23, 3) := by decide +kernel
theorem dX7_greatestPart_41 : decode cX7_greatestPart 41 = .ok (.aload_n 0, 1) := by decide +kernel
theorem dX7_greatestPart_42 : decode cX7_greatestPart 42 = .ok (.aload_n 0, 1) := by decide +kernel
theorem dX7_greatestPart_43 : decode cX7_greatestPart 43 = .ok (.iload_n 1, 1) := by decide +kernel
theorem dX7_greatestPart_44 : decode cX7_greatestPart 44 = .ok (.iload 6, 2) := by decide +kernel
theorem dX7_greatestPart_46 : decode cX7_greatestPart 46 = .ok (.invokevirtual 215, 3) := by decide +kernel
theorem dX7_greatestPart_49 : decode cX7_greatestPart 49 = .ok (.invokevirtual 161, 3) := by decide +kernel
theorem dX7_greatestPart_52 : decode cX7_greatestPart 52 = .ok (.iload 4, 2) := by decide +kernel
theorem dX7_greatestPart_54 : decode cX7_greatestPart 54 = .ok (.if_icmp .ne 7, 3) := by decide +kernel
theorem dX7_greatestPart_57 : decode cX7_greatestPart 57 = .ok (.iconst 1, 1) := by decide +kernel
theorem dX7_greatestPart_58 : decode cX7_greatestPart 58 = .ok (.goto 4, 3) := by decide +kernel
theorem dX7_greatestPart_61 : decode cX7_greatestPart 61 = .ok (.iconst 0, 1) := by decide +kernel
theorem dX7_greatestPart_62 : decode cX7_greatestPart 62 = .ok (.iadd, 1) := by decide +kernel
theorem dX7_greatestPart_63 : decode cX7_greatestPart 63 = .ok (.istore 5, 2) := by decide +kernel
theorem dX7_greatestPart_65 : decode cX7_greatestPart 65 = .ok (.iinc 6 1, 3) := by decide +kernel
theorem dX7_greatestPart_68 : decode cX7_greatestPart 68 = .ok (.goto (-48), 3) := by decide +kernel
theorem dX7_greatestPart_71 : decode cX7_greatestPart 71 = .ok (.iload 5, 2) := by decide +kernel
theorem dX7_greatestPart_73 : decode cX7_greatestPart 73 = .ok (.iload_n 3, 1) := by decide +kernel
theorem dX7_greatestPart_74 : decode cX7_greatestPart 74 = .ok (.if_icmp .le 8, 3) := by decide +kernel
theorem dX7_greatestPart_77 : decode cX7_greatestPart 77 = .ok (.iload 5, 2) := by decide +kernel
theorem dX7_greatestPart_79 : decode cX7_greatestPart 79 = .ok (.goto 4, 3) := by decide +kernel
theorem dX7_greatestPart_82 : decode cX7_greatestPart 82 = .ok (.iload_n 3, 1) := by decide +kernel
theorem dX7_greatestPart_83 : decode cX7_greatestPart 83 = .ok (.istore_n 3, 1) := by decide +kernel
theorem dX7_greatestPart_84 : decode cX7_greatestPart 84 = .ok (.iinc 4 1, 3) := by decide +kernel
theorem dX7_greatestPart_87 : decode cX7_greatestPart 87 = .ok (.goto (-82), 3) := by decide +kernel
theorem dX7_greatestPart_90 : decode cX7_greatestPart 90 = .ok (.iload_n 3, 1) := by decide +kernel
theorem dX7_greatestPart_91 : decode cX7_greatestPart 91 = .ok (.ireturn, 1) := by decide +kernel
theorem dX7_sayNext_0 : decode cX7_sayNext 0 = .ok (.aload_n 0, 1) := by decide +kernel
theorem dX7_sayNext_1 : decode cX7_sayNext 1 = .ok (.invokevirtual 228, 3) := by decide +kernel
theorem dX7_sayNext_4 : decode cX7_sayNext 4 = .ok (.istore_n 1, 1) := by decide +kernel
theorem dX7_sayNext_5 : decode cX7_sayNext 5 = .ok (.iconst (-1), 1) := by decide +kernel
theorem dX7_sayNext_6 : decode cX7_sayNext 6 = .ok (.istore_n 2, 1) := by decide +kernel
theorem dX7_sayNext_7 : decode cX7_sayNext 7 = .ok (.iload_n 1, 1) := by decide +kernel
theorem dX7_sayNext_8 : decode cX7_sayNext 8 = .ok (.invokestatic 231, 3) := by decide +kernel
theorem dX7_sayNext_11 : decode cX7_sayNext 11 = .ok (.istore_n 3, 1) := by decide +kernel
theorem dX7_sayNext_12 : decode cX7_sayNext 12 = .ok (.iconst 0, 1) := by decide +kernel
theorem dX7_sayNext_13 : decode cX7_sayNext 13 = .ok (.istore 4, 2) := by decide +kernel
theorem dX7_sayNext_15 : decode cX7_sayNext 15 = .ok (.iload 4, 2) := by decide +kernel
theorem dX7_sayNext_17 : decode cX7_sayNext 17 = .ok (.aload_n 0, 1) := by decide +kernel
theorem dX7_sayNext_18 : decode cX7_sayNext 18 = .ok (.getfield 120, 3) := by decide +kernel
theorem dX7_sayNext_21 : decode cX7_sayNext 21 = .ok (.if_icmp .ge 44, 3) := by decide +kernel
theorem dX7_sayNext_24 : decode cX7_sayNext 24 = .ok (.aload_n 0, 1) := by decide +kernel
theorem dX7_sayNext_25 : decode cX7_sayNext 25 = .ok (.iload 4, 2) := by decide +kernel
theorem dX7_sayNext_27 : decode cX7_sayNext 27 = .ok (.iload_n 1, 1) := by decide +kernel
theorem dX7_sayNext_28 : decode cX7_sayNext 28 = .ok (.invokevirtual 234, 3) := by decide +kernel
theorem dX7_sayNext_31 : decode cX7_sayNext 31 = .ok (.istore 5, 2) := by decide +kernel
theorem dX7_sayNext_33 : decode cX7_sayNext 33 = .ok (.iload 5, 2) := by decide +kernel
theorem dX7_sayNext_35 : decode cX7_sayNext 35 = .ok (.iload_n 3, 1) := by decide +kernel
theorem dX7_sayNext_36 : decode cX7_sayNext 36 = .ok (.if_icmp .ge 8, 3) := by decide +kernel
theorem dX7_sayNext_39 : decode cX7_sayNext 39 = .ok (.iload 4, 2) := by decide +kernel
theorem dX7_sayNext_41 : decode cX7_sayNext 41 = .ok (.goto 4, 3) := by decide +kernel
theorem dX7_sayNext_44 : decode cX7_sayNext 44 = .ok (.iload_n 2, 1) := by decide +kernel
theorem dX7_sayNext_45 : decode cX7_sayNext 45 = .ok (.istore_n 2, 1) := by decide +kernel
theorem dX7_sayNext_46 : decode cX7_sayNext 46 = .ok (.iload 5, 2) := by decide +kernel
theorem dX7_sayNext_48 : decode cX7_sayNext 48 = .ok (.iload_n 3, 1) := by decide +kernel
theorem dX7_sayNext_49 : decode cX7_sayNext 49 = .ok (.if_icmp .ge 8, 3) := by decide +kernel
theorem dX7_sayNext_52 : decode cX7_sayNext 52 = .ok (.iload 5, 2) := by decide +kernel
theorem dX7_sayNext_54 : decode cX7_sayNext 54 = .ok (.goto 4, 3) := by decide +kernel
theorem dX7_sayNext_57 : decode cX7_sayNext 57 = .ok (.iload_n 3, 1) := by decide +kernel
theorem dX7_sayNext_58 : decode cX7_sayNext 58 = .ok (.istore_n 3, 1) := by decide +kernel
theorem dX7_sayNext_59 : decode cX7_sayNext 59 = .ok (.iinc 4 1, 3) := by decide +kernel
theorem dX7_sayNext_62 : decode cX7_sayNext 62 = .ok (.goto (-47), 3) := by decide +kernel
theorem dX7_sayNext_65 : decode cX7_sayNext 65 = .ok (.iload_n 2, 1) := by decide +kernel
theorem dX7_sayNext_66 : decode cX7_sayNext 66 = .ok (.ireturn, 1) := by decide +kernel
theorem dX7_write_0 : decode cX7_write 0 = .ok (.aload_n 0, 1) := by decide +kernel
theorem dX7_write_1 : decode cX7_write 1 = .ok (.iload_n 1, 1) := by decide +kernel
theorem dX7_write_2 : decode cX7_write 2 = .ok (.invokevirtual 139, 3) := by decide +kernel
theorem dX7_write_5 : decode cX7_write 5 = .ok (.ifCond .ne 6, 3) := by decide +kernel
theorem dX7_write_8 : decode cX7_write 8 = .ok (.ldc 142, 2) := by decide +kernel
theorem dX7_write_10 : decode cX7_write 10 = .ok (.ireturn, 1) := by decide +kernel
theorem dX7_write_11 : decode cX7_write 11 = .ok (.iload_n 2, 1) := by decide +kernel
theorem dX7_write_12 : decode cX7_write 12 = .ok (.iconst 0, 1) := by decide +kernel
theorem dX7_write_13 : decode cX7_write 13 = .ok (.bipush 99, 2) := by decide +kernel
theorem dX7_write_15 : decode cX7_write 15 = .ok (.invokestatic 58, 3) := by decide +kernel
theorem dX7_write_18 : decode cX7_write 18 = .ok (.ifCond .ne 6, 3) := by decide +kernel
theorem dX7_write_21 : decode cX7_write 21 = .ok (.ldc 62, 2) := by decide +kernel
theorem dX7_write_23 : decode cX7_write 23 = .ok (.ireturn, 1) := by decide +kernel
theorem dX7_write_24 : decode cX7_write 24 = .ok (.aload_n 0, 1) := by decide +kernel
theorem dX7_write_25 : decode cX7_write 25 = .ok (.getfield 129, 3) := by decide +kernel
theorem dX7_write_28 : decode cX7_write 28 = .ok (.bipush 15, 2) := by decide +kernel
theorem dX7_write_30 : decode cX7_write 30 = .ok (.if_icmp .ne 6, 3) := by decide +kernel
theorem dX7_write_33 : decode cX7_write 33 = .ok (.ldc 66, 2) := by decide +kernel
theorem dX7_write_35 : decode cX7_write 35 = .ok (.ireturn, 1) := by decide +kernel
theorem dX7_write_36 : decode cX7_write 36 = .ok (.aload_n 0, 1) := by decide +kernel
theorem dX7_write_37 : decode cX7_write 37 = .ok (.getfield 44, 3) := by decide +kernel
theorem dX7_write_40 : decode cX7_write 40 = .ok (.iconst 2, 1) := by decide +kernel
theorem dX7_write_41 : decode cX7_write 41 = .ok (.aload_n 0, 1) := by decide +kernel
theorem dX7_write_42 : decode cX7_write 42 = .ok (.getfield 129, 3) := by decide +kernel
theorem dX7_write_45 : decode cX7_write 45 = .ok (.imul, 1) := by decide +kernel
theorem dX7_write_46 : decode cX7_write 46 = .ok (.iload_n 1, 1) := by decide +kernel
theorem dX7_write_47 : decode cX7_write 47 = .ok (.iastore, 1) := by decide +kernel
theorem dX7_write_48 : decode cX7_write 48 = .ok (.aload_n 0, 1) := by decide +kernel
theorem dX7_write_49 : decode cX7_write 49 = .ok (.getfield 44, 3) := by decide +kernel
theorem dX7_write_52 : decode cX7_write 52 = .ok (.iconst 2, 1) := by decide +kernel
theorem dX7_write_53 : decode cX7_write 53 = .ok (.aload_n 0, 1) := by decide +kernel
theorem dX7_write_54 : decode cX7_write 54 = .ok (.getfield 129, 3) := by decide +kernel
theorem dX7_write_57 : decode cX7_write 57 = .ok (.imul, 1) := by decide +kernel
theorem dX7_write_58 : decode cX7_write 58 = .ok (.iconst 1, 1) := by decide +kernel
theorem dX7_write_59 : decode cX7_write 59 = .ok (.iadd, 1) := by decide +kernel
theorem dX7_write_60 : decode cX7_write 60 = .ok (.iload_n 2, 1) := by decide +kernel
theorem dX7_write_61 : decode cX7_write 61 = .ok (.iastore, 1) := by decide +kernel
theorem dX7_write_62 : decode cX7_write 62 = .ok (.aload_n 0, 1) := by decide +kernel
theorem dX7_write_63 : decode cX7_write 63 = .ok (.dup, 1) := by decide +kernel
theorem dX7_write_64 : decode cX7_write 64 = .ok (.getfield 129, 3) := by decide +kernel
theorem dX7_write_67 : decode cX7_write 67 = .ok (.iconst 1, 1) := by decide +kernel
theorem dX7_write_68 : decode cX7_write 68 = .ok (.iadd, 1) := by decide +kernel
theorem dX7_write_69 : decode cX7_write 69 = .ok (.putfield 129, 3) := by decide +kernel
theorem dX7_write_72 : decode cX7_write 72 = .ok (.aload_n 0, 1) := by decide +kernel
theorem dX7_write_73 : decode cX7_write 73 = .ok (.getfield 129, 3) := by decide +kernel
theorem dX7_write_76 : decode cX7_write 76 = .ok (.ireturn, 1) := by decide +kernel
theorem dX7_tear_0 : decode cX7_tear 0 = .ok (.aload_n 0, 1) := by decide +kernel
theorem dX7_tear_1 : decode cX7_tear 1 = .ok (.getfield 126, 3) := by decide +kernel
theorem dX7_tear_4 : decode cX7_tear 4 = .ok (.aload_n 0, 1) := by decide +kernel
theorem dX7_tear_5 : decode cX7_tear 5 = .ok (.getfield 129, 3) := by decide +kernel
theorem dX7_tear_8 : decode cX7_tear 8 = .ok (.iadd, 1) := by decide +kernel
theorem dX7_tear_9 : decode cX7_tear 9 = .ok (.istore_n 1, 1) := by decide +kernel
theorem dX7_tear_10 : decode cX7_tear 10 = .ok (.aload_n 0, 1) := by decide +kernel
theorem dX7_tear_11 : decode cX7_tear 11 = .ok (.iconst 0, 1) := by decide +kernel
theorem dX7_tear_12 : decode cX7_tear 12 = .ok (.putfield 126, 3) := by decide +kernel
theorem dX7_tear_15 : decode cX7_tear 15 = .ok (.aload_n 0, 1) := by decide +kernel
theorem dX7_tear_16 : decode cX7_tear 16 = .ok (.iconst 0, 1) := by decide +kernel
theorem dX7_tear_17 : decode cX7_tear 17 = .ok (.putfield 129, 3) := by decide +kernel
theorem dX7_tear_20 : decode cX7_tear 20 = .ok (.iload_n 1, 1) := by decide +kernel
theorem dX7_tear_21 : decode cX7_tear 21 = .ok (.ireturn, 1) := by decide +kernel
theorem dX7_judge_0 : decode cX7_judge 0 = .ok (.iconst (-1), 1) := by decide +kernel
theorem dX7_judge_1 : decode cX7_judge 1 = .ok (.istore_n 1, 1) := by decide +kernel
theorem dX7_judge_2 : decode cX7_judge 2 = .ok (.aload_n 0, 1) := by decide +kernel
theorem dX7_judge_3 : decode cX7_judge 3 = .ok (.getfield 129, 3) := by decide +kernel
theorem dX7_judge_6 : decode cX7_judge 6 = .ok (.iconst 1, 1) := by decide +kernel
theorem dX7_judge_7 : decode cX7_judge 7 = .ok (.isub, 1) := by decide +kernel
theorem dX7_judge_8 : decode cX7_judge 8 = .ok (.istore_n 2, 1) := by decide +kernel
theorem dX7_judge_9 : decode cX7_judge 9 = .ok (.iload_n 2, 1) := by decide +kernel
theorem dX7_judge_10 : decode cX7_judge 10 = .ok (.ifCond .lt 44, 3) := by decide +kernel
theorem dX7_judge_13 : decode cX7_judge 13 = .ok (.aload_n 0, 1) := by decide +kernel
theorem dX7_judge_14 : decode cX7_judge 14 = .ok (.getfield 35, 3) := by decide +kernel
theorem dX7_judge_17 : decode cX7_judge 17 = .ok (.bipush 16, 2) := by decide +kernel
theorem dX7_judge_19 : decode cX7_judge 19 = .ok (.aload_n 0, 1) := by decide +kernel
theorem dX7_judge_20 : decode cX7_judge 20 = .ok (.getfield 44, 3) := by decide +kernel
theorem dX7_judge_23 : decode cX7_judge 23 = .ok (.iconst 2, 1) := by decide +kernel
theorem dX7_judge_24 : decode cX7_judge 24 = .ok (.iload_n 2, 1) := by decide +kernel
theorem dX7_judge_25 : decode cX7_judge 25 = .ok (.imul, 1) := by decide +kernel
theorem dX7_judge_26 : decode cX7_judge 26 = .ok (.iaload, 1) := by decide +kernel
theorem dX7_judge_27 : decode cX7_judge 27 = .ok (.iadd, 1) := by decide +kernel
theorem dX7_judge_28 : decode cX7_judge 28 = .ok (.iaload, 1) := by decide +kernel
theorem dX7_judge_29 : decode cX7_judge 29 = .ok (.aload_n 0, 1) := by decide +kernel
theorem dX7_judge_30 : decode cX7_judge 30 = .ok (.getfield 44, 3) := by decide +kernel
theorem dX7_judge_33 : decode cX7_judge 33 = .ok (.iconst 2, 1) := by decide +kernel
theorem dX7_judge_34 : decode cX7_judge 34 = .ok (.iload_n 2, 1) := by decide +kernel
theorem dX7_judge_35 : decode cX7_judge 35 = .ok (.imul, 1) := by decide +kernel
theorem dX7_judge_36 : decode cX7_judge 36 = .ok (.iconst 1, 1) := by decide +kernel
theorem dX7_judge_37 : decode cX7_judge 37 = .ok (.iadd, 1) := by decide +kernel
theorem dX7_judge_38 : decode cX7_judge 38 = .ok (.iaload, 1) := by decide +kernel
theorem dX7_judge_39 : decode cX7_judge 39 = .ok (.if_icmp .eq 7, 3) := by decide +kernel
theorem dX7_judge_42 : decode cX7_judge 42 = .ok (.iload_n 2, 1) := by decide +kernel
theorem dX7_judge_43 : decode cX7_judge 43 = .ok (.goto 4, 3) := by decide +kernel
theorem dX7_judge_46 : decode cX7_judge 46 = .ok (.iload_n 1, 1) := by decide +kernel
theorem dX7_judge_47 : decode cX7_judge 47 = .ok (.istore_n 1, 1) := by decide +kernel
theorem dX7_judge_48 : decode cX7_judge 48 = .ok (.iinc 2 (-1), 3) := by decide +kernel
theorem dX7_judge_51 : decode cX7_judge 51 = .ok (.goto (-42), 3) := by decide +kernel
theorem dX7_judge_54 : decode cX7_judge 54 = .ok (.iload_n 1, 1) := by decide +kernel
theorem dX7_judge_55 : decode cX7_judge 55 = .ok (.ireturn, 1) := by decide +kernel
theorem dX7_seed_0 : decode cX7_seed 0 = .ok (.iload_n 1, 1) := by decide +kernel
theorem dX7_seed_1 : decode cX7_seed 1 = .ok (.ifCond .ge 6, 3) := by decide +kernel
theorem dX7_seed_4 : decode cX7_seed 4 = .ok (.ldc 62, 2) := by decide +kernel
theorem dX7_seed_6 : decode cX7_seed 6 = .ok (.ireturn, 1) := by decide +kernel
theorem dX7_seed_7 : decode cX7_seed 7 = .ok (.aload_n 0, 1) := by decide +kernel
theorem dX7_seed_8 : decode cX7_seed 8 = .ok (.getfield 200, 3) := by decide +kernel
theorem dX7_seed_11 : decode cX7_seed 11 = .ok (.l2i, 1) := by decide +kernel
theorem dX7_seed_12 : decode cX7_seed 12 = .ok (.istore_n 2, 1) := by decide +kernel
theorem dX7_seed_13 : decode cX7_seed 13 = .ok (.aload_n 0, 1) := by decide +kernel
theorem dX7_seed_14 : decode cX7_seed 14 = .ok (.iload_n 1, 1) := by decide +kernel
theorem dX7_seed_15 : decode cX7_seed 15 = .ok (.i2l, 1) := by decide +kernel
theorem dX7_seed_16 : decode cX7_seed 16 = .ok (.putfield 200, 3) := by decide +kernel
theorem dX7_seed_19 : decode cX7_seed 19 = .ok (.iload_n 2, 1) := by decide +kernel
theorem dX7_seed_20 : decode cX7_seed 20 = .ok (.ireturn, 1) := by decide +kernel
theorem dX7_keep_0 : decode cX7_keep 0 = .ok (.iload_n 1, 1) := by decide +kernel
theorem dX7_keep_1 : decode cX7_keep 1 = .ok (.iconst 0, 1) := by decide +kernel
theorem dX7_keep_2 : decode cX7_keep 2 = .ok (.iconst 1, 1) := by decide +kernel
theorem dX7_keep_3 : decode cX7_keep 3 = .ok (.invokestatic 58, 3) := by decide +kernel
theorem dX7_keep_6 : decode cX7_keep 6 = .ok (.ifCond .ne 6, 3) := by decide +kernel
theorem dX7_keep_9 : decode cX7_keep 9 = .ok (.ldc 142, 2) := by decide +kernel
theorem dX7_keep_11 : decode cX7_keep 11 = .ok (.ireturn, 1) := by decide +kernel
theorem dX7_keep_12 : decode cX7_keep 12 = .ok (.aload_n 0, 1) := by decide +kernel
theorem dX7_keep_13 : decode cX7_keep 13 = .ok (.getfield 47, 3) := by decide +kernel
theorem dX7_keep_16 : decode cX7_keep 16 = .ok (.iload_n 1, 1) := by decide +kernel
theorem dX7_keep_17 : decode cX7_keep 17 = .ok (.iconst 1, 1) := by decide +kernel
theorem dX7_keep_18 : decode cX7_keep 18 = .ok (.bastore, 1) := by decide +kernel
theorem dX7_keep_19 : decode cX7_keep 19 = .ok (.aload_n 0, 1) := by decide +kernel
theorem dX7_keep_20 : decode cX7_keep 20 = .ok (.getfield 54, 3) := by decide +kernel
theorem dX7_keep_23 : decode cX7_keep 23 = .ok (.iload_n 1, 1) := by decide +kernel
theorem dX7_keep_24 : decode cX7_keep 24 = .ok (.aload_n 0, 1) := by decide +kernel
theorem dX7_keep_25 : decode cX7_keep 25 = .ok (.getfield 200, 3) := by decide +kernel
theorem dX7_keep_28 : decode cX7_keep 28 = .ok (.lastore, 1) := by decide +kernel
theorem dX7_keep_29 : decode cX7_keep 29 = .ok (.aload_n 0, 1) := by decide +kernel
theorem dX7_keep_30 : decode cX7_keep 30 = .ok (.iconst 0, 1) := by decide +kernel
theorem dX7_keep_31 : decode cX7_keep 31 = .ok (.putfield 132, 3) := by decide +kernel
theorem dX7_keep_34 : decode cX7_keep 34 = .ok (.iconst 0, 1) := by decide +kernel
theorem dX7_keep_35 : decode cX7_keep 35 = .ok (.istore_n 2, 1) := by decide +kernel
theorem dX7_keep_36 : decode cX7_keep 36 = .ok (.iload_n 2, 1) := by decide +kernel
theorem dX7_keep_37 : decode cX7_keep 37 = .ok (.bipush 27, 2) := by decide +kernel
theorem dX7_keep_39 : decode cX7_keep 39 = .ok (.if_icmp .ge 26, 3) := by decide +kernel
theorem dX7_keep_42 : decode cX7_keep 42 = .ok (.aload_n 0, 1) := by decide +kernel
theorem dX7_keep_43 : decode cX7_keep 43 = .ok (.getfield 51, 3) := by decide +kernel
theorem dX7_keep_46 : decode cX7_keep 46 = .ok (.bipush 27, 2) := by decide +kernel
theorem dX7_keep_48 : decode cX7_keep 48 = .ok (.iload_n 1, 1) := by decide +kernel
theorem dX7_keep_49 : decode cX7_keep 49 = .ok (.imul, 1) := by decide +kernel
theorem dX7_keep_50 : decode cX7_keep 50 = .ok (.iload_n 2, 1) := by decide +kernel
theorem dX7_keep_51 : decode cX7_keep 51 = .ok (.iadd, 1) := by decide +kernel
theorem dX7_keep_52 : decode cX7_keep 52 = .ok (.aload_n 0, 1) := by decide +kernel
theorem dX7_keep_53 : decode cX7_keep 53 = .ok (.getfield 35, 3) := by decide +kernel
theorem dX7_keep_56 : decode cX7_keep 56 = .ok (.iload_n 2, 1) := by decide +kernel
theorem dX7_keep_57 : decode cX7_keep 57 = .ok (.iaload, 1) := by decide +kernel
theorem dX7_keep_58 : decode cX7_keep 58 = .ok (.iastore, 1) := by decide +kernel
theorem dX7_keep_59 : decode cX7_keep 59 = .ok (.iinc 2 1, 3) := by decide +kernel
theorem dX7_keep_62 : decode cX7_keep 62 = .ok (.goto (-26), 3) := by decide +kernel
theorem dX7_keep_65 : decode cX7_keep 65 = .ok (.iconst 1, 1) := by decide +kernel
theorem dX7_keep_66 : decode cX7_keep 66 = .ok (.ireturn, 1) := by decide +kernel
theorem dX7_goBack_0 : decode cX7_goBack 0 = .ok (.iload_n 1, 1) := by decide +kernel
theorem dX7_goBack_1 : decode cX7_goBack 1 = .ok (.iconst 0, 1) := by decide +kernel
theorem dX7_goBack_2 : decode cX7_goBack 2 = .ok (.iconst 1, 1) := by decide +kernel
theorem dX7_goBack_3 : decode cX7_goBack 3 = .ok (.invokestatic 58, 3) := by decide +kernel
theorem dX7_goBack_6 : decode cX7_goBack 6 = .ok (.ifCond .ne 6, 3) := by decide +kernel
theorem dX7_goBack_9 : decode cX7_goBack 9 = .ok (.ldc 142, 2) := by decide +kernel
theorem dX7_goBack_11 : decode cX7_goBack 11 = .ok (.ireturn, 1) := by decide +kernel
theorem dX7_goBack_12 : decode cX7_goBack 12 = .ok (.aload_n 0, 1) := by decide +kernel
theorem dX7_goBack_13 : decode cX7_goBack 13 = .ok (.getfield 47, 3) := by decide +kernel
theorem dX7_goBack_16 : decode cX7_goBack 16 = .ok (.iload_n 1, 1) := by decide +kernel
theorem dX7_goBack_17 : decode cX7_goBack 17 = .ok (.baload, 1) := by decide +kernel
theorem dX7_goBack_18 : decode cX7_goBack 18 = .ok (.ifCond .ne 6, 3) := by decide +kernel
theorem dX7_goBack_21 : decode cX7_goBack 21 = .ok (.ldc 186, 2) := by decide +kernel
theorem dX7_goBack_23 : decode cX7_goBack 23 = .ok (.ireturn, 1) := by decide +kernel
theorem dX7_goBack_24 : decode cX7_goBack 24 = .ok (.aload_n 0, 1) := by decide +kernel
theorem dX7_goBack_25 : decode cX7_goBack 25 = .ok (.aload_n 0, 1) := by decide +kernel
theorem dX7_goBack_26 : decode cX7_goBack 26 = .ok (.getfield 54, 3) := by decide +kernel
theorem dX7_goBack_29 : decode cX7_goBack 29 = .ok (.iload_n 1, 1) := by decide +kernel
theorem dX7_goBack_30 : decode cX7_goBack 30 = .ok (.laload, 1) := by decide +kernel
theorem dX7_goBack_31 : decode cX7_goBack 31 = .ok (.putfield 200, 3) := by decide +kernel
theorem dX7_goBack_34 : decode cX7_goBack 34 = .ok (.aload_n 0, 1) := by decide +kernel
theorem dX7_goBack_35 : decode cX7_goBack 35 = .ok (.iconst 0, 1) := by decide +kernel
theorem dX7_goBack_36 : decode cX7_goBack 36 = .ok (.putfield 132, 3) := by decide +kernel
theorem dX7_goBack_39 : decode cX7_goBack 39 = .ok (.iconst 0, 1) := by decide +kernel
theorem dX7_goBack_40 : decode cX7_goBack 40 = .ok (.istore_n 2, 1) := by decide +kernel
theorem dX7_goBack_41 : decode cX7_goBack 41 = .ok (.iload_n 2, 1) := by decide +kernel
theorem dX7_goBack_42 : decode cX7_goBack 42 = .ok (.bipush 27, 2) := by decide +kernel
theorem dX7_goBack_44 : decode cX7_goBack 44 = .ok (.if_icmp .ge 26, 3) := by decide +kernel
theorem dX7_goBack_47 : decode cX7_goBack 47 = .ok (.aload_n 0, 1) := by decide +kernel
theorem dX7_goBack_48 : decode cX7_goBack 48 = .ok (.getfield 35, 3) := by decide +kernel
theorem dX7_goBack_51 : decode cX7_goBack 51 = .ok (.iload_n 2, 1) := by decide +kernel
theorem dX7_goBack_52 : decode cX7_goBack 52 = .ok (.aload_n 0, 1) := by decide +kernel
theorem dX7_goBack_53 : decode cX7_goBack 53 = .ok (.getfield 51, 3) := by decide +kernel
theorem dX7_goBack_56 : decode cX7_goBack 56 = .ok (.bipush 27, 2) := by decide +kernel
theorem dX7_goBack_58 : decode cX7_goBack 58 = .ok (.iload_n 1, 1) := by decide +kernel
theorem dX7_goBack_59 : decode cX7_goBack 59 = .ok (.imul, 1) := by decide +kernel
theorem dX7_goBack_60 : decode cX7_goBack 60 = .ok (.iload_n 2, 1) := by decide +kernel
theorem dX7_goBack_61 : decode cX7_goBack 61 = .ok (.iadd, 1) := by decide +kernel
theorem dX7_goBack_62 : decode cX7_goBack 62 = .ok (.iaload, 1) := by decide +kernel
theorem dX7_goBack_63 : decode cX7_goBack 63 = .ok (.iastore, 1) := by decide +kernel
theorem dX7_goBack_64 : decode cX7_goBack 64 = .ok (.iinc 2 1, 3) := by decide +kernel
theorem dX7_goBack_67 : decode cX7_goBack 67 = .ok (.goto (-26), 3) := by decide +kernel
theorem dX7_goBack_70 : decode cX7_goBack 70 = .ok (.iconst 1, 1) := by decide +kernel
theorem dX7_goBack_71 : decode cX7_goBack 71 = .ok (.ireturn, 1) := by decide +kernel
end
section
theorem dL_law_0 : decode cL_law 0 = .ok (.new 7, 3) := by decide +kernel
theorem dL_law_3 : decode cL_law 3 = .ok (.dup, 1) := by decide +kernel
theorem dL_law_4 : decode cL_law 4 = .ok (.invokespecial 9, 3) := by decide +kernel
theorem dL_law_7 : decode cL_law 7 = .ok (.astore_n 1, 1) := by decide +kernel
theorem dL_law_8 : decode cL_law 8 = .ok (.new 10, 3) := by decide +kernel
theorem dL_law_11 : decode cL_law 11 = .ok (.dup, 1) := by decide +kernel
theorem dL_law_12 : decode cL_law 12 = .ok (.invokespecial 12, 3) := by decide +kernel
theorem dL_law_15 : decode cL_law 15 = .ok (.astore_n 2, 1) := by decide +kernel
theorem dL_law_16 : decode cL_law 16 = .ok (.iconst 0, 1) := by decide +kernel
theorem dL_law_17 : decode cL_law 17 = .ok (.istore_n 3, 1) := by decide +kernel
theorem dL_law_18 : decode cL_law 18 = .ok (.iload_n 3, 1) := by decide +kernel
theorem dL_law_19 : decode cL_law 19 = .ok (.aload_n 0, 1) := by decide +kernel
theorem dL_law_20 : decode cL_law 20 = .ok (.arraylength, 1) := by decide +kernel
theorem dL_law_21 : decode cL_law 21 = .ok (.iconst 4, 1) := by decide +kernel
theorem dL_law_22 : decode cL_law 22 = .ok (.isub, 1) := by decide +kernel
theorem dL_law_23 : decode cL_law 23 = .ok (.if_icmp .gt 1063, 3) := by decide +kernel
theorem dL_law_26 : decode cL_law 26 = .ok (.aload_n 0, 1) := by decide +kernel
theorem dL_law_27 : decode cL_law 27 = .ok (.iload_n 3, 1) := by decide +kernel
theorem dL_law_28 : decode cL_law 28 = .ok (.iaload, 1) := by decide +kernel
theorem dL_law_29 : decode cL_law 29 = .ok (.bipush 63, 2) := by decide +kernel
theorem dL_law_31 : decode cL_law 31 = .ok (.iand, 1) := by decide +kernel
theorem dL_law_32 : decode cL_law 32 = .ok (.tableswitch 1048 0 35 #[160, 183, 196, 209, 232, 265, 288, 311, 334, 347, 380, 403, 416, 439, 472, 495, 528, 561, 584, 607, 640, 673, 696, 729, 772, 805, 828, 861, 894, 907, 920, 953, 966, 979, 1002, 1025], 160) := by decide +kernel
theorem dL_law_192 : decode cL_law 192 = .ok (.aload_n 1, 1) := by decide +kernel
theorem dL_law_193 : decode cL_law 193 = .ok (.aload_n 0, 1) := by decide +kernel
theorem dL_law_194 : decode cL_law 194 = .ok (.iload_n 3, 1) := by decide +kernel
theorem dL_law_195 : decode cL_law 195 = .ok (.iconst 1, 1) := by decide +kernel
theorem dL_law_196 : decode cL_law 196 = .ok (.iadd, 1) := by decide +kernel
theorem dL_law_197 : decode cL_law 197 = .ok (.iaload, 1) := by decide +kernel
theorem dL_law_198 : decode cL_law 198 = .ok (.invokevirtual 13, 3) := by decide +kernel
theorem dL_law_201 : decode cL_law 201 = .ok (.aload_n 2, 1) := by decide +kernel
theorem dL_law_202 : decode cL_law 202 = .ok (.aload_n 0, 1) := by decide +kernel
theorem dL_law_203 : decode cL_law 203 = .ok (.iload_n 3, 1) := by decide +kernel
theorem dL_law_204 : decode cL_law 204 = .ok (.iconst 1, 1) := by decide +kernel
theorem dL_law_205 : decode cL_law 205 = .ok (.iadd, 1) := by decide +kernel
theorem dL_law_206 : decode cL_law 206 = .ok (.iaload, 1) := by decide +kernel
theorem dL_law_207 : decode cL_law 207 = .ok (.invokevirtual 17, 3) := by decide +kernel
theorem dL_law_210 : decode cL_law 210 = .ok (.if_icmp .eq 870, 3) := by decide +kernel
theorem dL_law_213 : decode cL_law 213 = .ok (.iconst 0, 1) := by decide +kernel
theorem dL_law_214 : decode cL_law 214 = .ok (.ireturn, 1) := by decide +kernel
theorem dL_law_215 : decode cL_law 215 = .ok (.aload_n 1, 1) := by decide +kernel
theorem dL_law_216 : decode cL_law 216 = .ok (.invokevirtual 18, 3) := by decide +kernel
theorem dL_law_219 : decode cL_law 219 = .ok (.aload_n 2, 1) := by decide +kernel
theorem dL_law_220 : decode cL_law 220 = .ok (.invokevirtual 22, 3) := by decide +kernel
theorem dL_law_223 : decode cL_law 223 = .ok (.if_icmp .eq 857, 3) := by decide +kernel
theorem dL_law_226 : decode cL_law 226 = .ok (.iconst 0, 1) := by decide +kernel
theorem dL_law_227 : decode cL_law 227 = .ok (.ireturn, 1) := by decide +kernel
theorem dL_law_228 : decode cL_law 228 = .ok (.aload_n 1, 1) := by decide +kernel
theorem dL_law_229 : decode cL_law 229 = .ok (.invokevirtual 23, 3) := by decide +kernel
theorem dL_law_232 : decode cL_law 232 = .ok (.aload_n 2, 1) := by decide +kernel
theorem dL_law_233 : decode cL_law 233 = .ok (.invokevirtual 26, 3) := by decide +kernel
theorem dL_law_236 : decode cL_law 236 = .ok (.if_icmp .eq 844, 3) := by decide +kernel
theorem dL_law_239 : decode cL_law 239 = .ok (.iconst 0, 1) := by decide +kernel
theorem dL_law_240 : decode cL_law 240 = .ok (.ireturn, 1) := by decide +kernel
theorem dL_law_241 : decode cL_law 241 = .ok (.aload_n 1, 1) := by decide +kernel
theorem dL_law_242 : decode cL_law 242 = .ok (.aload_n 0, 1) := by decide +kernel
theorem dL_law_243 : decode cL_law 243 = .ok (.iload_n 3, 1) := by decide +kernel
theorem dL_law_244 : decode cL_law 244 = .ok (.iconst 1, 1) := by decide +kernel
theorem dL_law_245 : decode cL_law 245 = .ok (.iadd, 1) := by decide +kernel
theorem dL_law_246 : decode cL_law 246 = .ok (.iaload, 1) := by decide +kernel
theorem dL_law_247 : decode cL_law 247 = .ok (.invokevirtual 27, 3) := by decide +kernel
theorem dL_law_250 : decode cL_law 250 = .ok (.aload_n 2, 1) := by decide +kernel
theorem dL_law_251 : decode cL_law 251 = .ok (.aload_n 0, 1) := by decide +kernel
theorem dL_law_252 : decode cL_law 252 = .ok (.iload_n 3, 1) := by decide +kernel
theorem dL_law_253 : decode cL_law 253 = .ok (.iconst 1, 1) := by decide +kernel
theorem dL_law_254 : decode cL_law 254 = .ok (.iadd, 1) := by decide +kernel
theorem dL_law_255 : decode cL_law 255 = .ok (.iaload, 1) := by decide +kernel
theorem dL_law_256 : decode cL_law 256 = .ok (.invokevirtual 30, 3) := by decide +kernel
theorem dL_law_259 : decode cL_law 259 = .ok (.if_icmp .eq 821, 3) := by decide +kernel
theorem dL_law_262 : decode cL_law 262 = .ok (.iconst 0, 1) := by decide +kernel
theorem dL_law_263 : decode cL_law 263 = .ok (.ireturn, 1) := by decide +kernel
theorem dL_law_264 : decode cL_law 264 = .ok (.aload_n 1, 1) := by decide +kernel
theorem dL_law_265 : decode cL_law 265 = .ok (.aload_n 0, 1) := by decide +kernel
theorem dL_law_266 : decode cL_law 266 = .ok (.iload_n 3, 1) := by decide +kernel
theorem dL_law_267 : decode cL_law 267 = .ok (.iconst 1, 1) := by decide +kernel
theorem dL_law_268 : decode cL_law 268 = .ok (.iadd, 1) := by decide +kernel
theorem dL_law_269 : decode cL_law 269 = .ok (.iaload, 1) := by decide +kernel
theorem dL_law_270 : decode cL_law 270 = .ok (.aload_n 0, 1) := by decide +kernel
theorem dL_law_271 : decode cL_law 271 = .ok (.iload_n 3, 1) := by decide +kernel
theorem dL_law_272 : decode cL_law 272 = .ok (.iconst 2, 1) := by decide +kernel
theorem dL_law_273 : decode cL_law 273 = .ok (.iadd, 1) := by decide +kernel
theorem dL_law_274 : decode cL_law 274 = .ok (.iaload, 1) := by decide +kernel
theorem dL_law_275 : decode cL_law 275 = .ok (.invokevirtual 31, 3) := by decide +kernel
theorem dL_law_278 : decode cL_law 278 = .ok (.aload_n 2, 1) := by decide +kernel
theorem dL_law_279 : decode cL_law 279 = .ok (.aload_n 0, 1) := by decide +kernel
theorem dL_law_280 : decode cL_law 280 = .ok (.iload_n 3, 1) := by decide +kernel
theorem dL_law_281 : decode cL_law 281 = .ok (.iconst 1, 1) := by decide +kernel
theorem dL_law_282 : decode cL_law 282 = .ok (.iadd, 1) := by decide +kernel
theorem dL_law_283 : decode cL_law 283 = .ok (.iaload, 1) := by decide +kernel
theorem dL_law_284 : decode cL_law 284 = .ok (.aload_n 0, 1) := by decide +kernel
theorem dL_law_285 : decode cL_law 285 = .ok (.iload_n 3, 1) := by decide +kernel
theorem dL_law_286 : decode cL_law 286 = .ok (.iconst 2, 1) := by decide +kernel
theorem dL_law_287 : decode cL_law 287 = .ok (.iadd, 1) := by decide +kernel
theorem dL_law_288 : decode cL_law 288 = .ok (.iaload, 1) := by decide +kernel
theorem dL_law_289 : decode cL_law 289 = .ok (.invokevirtual 35, 3) := by decide +kernel
theorem dL_law_292 : decode cL_law 292 = .ok (.if_icmp .eq 788, 3) := by decide +kernel
theorem dL_law_295 : decode cL_law 295 = .ok (.iconst 0, 1) := by decide +kernel
theorem dL_law_296 : decode cL_law 296 = .ok (.ireturn, 1) := by decide +kernel
theorem dL_law_297 : decode cL_law 297 = .ok (.aload_n 1, 1) := by decide +kernel
theorem dL_law_298 : decode cL_law 298 = .ok (.aload_n 0, 1) := by decide +kernel
theorem dL_law_299 : decode cL_law 299 = .ok (.iload_n 3, 1) := by decide +kernel
theorem dL_law_300 : decode cL_law 300 = .ok (.iconst 1, 1) := by decide +kernel
theorem dL_law_301 : decode cL_law 301 = .ok (.iadd, 1) := by decide +kernel
theorem dL_law_302 : decode cL_law 302 = .ok (.iaload, 1) := by decide +kernel
theorem dL_law_303 : decode cL_law 303 = .ok (.invokevirtual 36, 3) := by decide +kernel
theorem dL_law_306 : decode cL_law 306 = .ok (.aload_n 2, 1) := by decide +kernel
theorem dL_law_307 : decode cL_law 307 = .ok (.aload_n 0, 1) := by decide +kernel
theorem dL_law_308 : decode cL_law 308 = .ok (.iload_n 3, 1) := by decide +kernel
theorem dL_law_309 : decode cL_law 309 = .ok (.iconst 1, 1) := by decide +kernel
theorem dL_law_310 : decode cL_law 310 = .ok (.iadd, 1) := by decide +kernel
theorem dL_law_311 : decode cL_law 311 = .ok (.iaload, 1) := by decide +kernel
theorem dL_law_312 : decode cL_law 312 = .ok (.invokevirtual 39, 3) := by decide +kernel
theorem dL_law_315 : decode cL_law 315 = .ok (.if_icmp .eq 765, 3) := by decide +kernel
theorem dL_law_318 : decode cL_law 318 = .ok (.iconst 0, 1) := by decide +kernel
theorem dL_law_319 : decode cL_law 319 = .ok (.ireturn, 1) := by decide +kernel
theorem dL_law_320 : decode cL_law 320 = .ok (.aload_n 1, 1) := by decide +kernel
theorem dL_law_321 : decode cL_law 321 = .ok (.aload_n 0, 1) := by decide +kernel
theorem dL_law_322 : decode cL_law 322 = .ok (.iload_n 3, 1) := by decide +kernel
theorem dL_law_323 : decode cL_law 323 = .ok (.iconst 1, 1) := by decide +kernel
theorem dL_law_324 : decode cL_law 324 = .ok (.iadd, 1) := by decide +kernel
theorem dL_law_325 : decode cL_law 325 = .ok (.iaload, 1) := by decide +kernel
theorem dL_law_326 : decode cL_law 326 = .ok (.invokevirtual 40, 3) := by decide +kernel
theorem dL_law_329 : decode cL_law 329 = .ok (.aload_n 2, 1) := by decide +kernel
theorem dL_law_330 : decode cL_law 330 = .ok (.aload_n 0, 1) := by decide +kernel
theorem dL_law_331 : decode cL_law 331 = .ok (.iload_n 3, 1) := by decide +kernel
theorem dL_law_332 : decode cL_law 332 = .ok (.iconst 1, 1) := by decide +kernel
theorem dL_law_333 : decode cL_law 333 = .ok (.iadd, 1) := by decide +kernel
theorem dL_law_334 : decode cL_law 334 = .ok (.iaload, 1) := by decide +kernel
theorem dL_law_335 : decode cL_law 335 = .ok (.invokevirtual 43, 3) := by decide +kernel
theorem dL_law_338 : decode cL_law 338 = .ok (.if_icmp .eq 742, 3) := by decide +kernel
theorem dL_law_341 : decode cL_law 341 = .ok (.iconst 0, 1) := by decide +kernel
theorem dL_law_342 : decode cL_law 342 = .ok (.ireturn, 1) := by decide +kernel
theorem dL_law_343 : decode cL_law 343 = .ok (.aload_n 1, 1) := by decide +kernel
theorem dL_law_344 : decode cL_law 344 = .ok (.aload_n 0, 1) := by decide +kernel
theorem dL_law_345 : decode cL_law 345 = .ok (.iload_n 3, 1) := by decide +kernel
theorem dL_law_346 : decode cL_law 346 = .ok (.iconst 1, 1) := by decide +kernel
theorem dL_law_347 : decode cL_law 347 = .ok (.iadd, 1) := by decide +kernel
theorem dL_law_348 : decode cL_law 348 = .ok (.iaload, 1) := by decide +kernel
theorem dL_law_349 : decode cL_law 349 = .ok (.invokevirtual 44, 3) := by decide +kernel
theorem dL_law_352 : decode cL_law 352 = .ok (.aload_n 2, 1) := by decide +kernel
theorem dL_law_353 : decode cL_law 353 = .ok (.aload_n 0, 1) := by decide +kernel
theorem dL_law_354 : decode cL_law 354 = .ok (.iload_n 3, 1) := by decide +kernel
theorem dL_law_355 : decode cL_law 355 = .ok (.iconst 1, 1) := by decide +kernel
theorem dL_law_356 : decode cL_law 356 = .ok (.iadd, 1) := by decide +kernel
theorem dL_law_357 : decode cL_law 357 = .ok (.iaload, 1) := by decide +kernel
theorem dL_law_358 : decode cL_law 358 = .ok (.invokevirtual 47, 3) := by decide +kernel
theorem dL_law_361 : decode cL_law 361 = .ok (.if_icmp .eq 719, 3) := by decide +kernel
theorem dL_law_364 : decode cL_law 364 = .ok (.iconst 0, 1) := by decide +kernel
theorem dL_law_365 : decode cL_law 365 = .ok (.ireturn, 1) := by decide +kernel
theorem dL_law_366 : decode cL_law 366 = .ok (.aload_n 1, 1) := by decide +kernel
theorem dL_law_367 : decode cL_law 367 = .ok (.invokevirtual 48, 3) := by decide +kernel
theorem dL_law_370 : decode cL_law 370 = .ok (.aload_n 2, 1) := by decide +kernel
theorem dL_law_371 : decode cL_law 371 = .ok (.invokevirtual 51, 3) := by decide +kernel
theorem dL_law_374 : decode cL_law 374 = .ok (.if_icmp .eq 706, 3) := by decide +kernel
theorem dL_law_377 : decode cL_law 377 = .ok (.iconst 0, 1) := by decide +kernel
theorem dL_law_378 : decode cL_law 378 = .ok (.ireturn, 1) := by decide +kernel
theorem dL_law_379 : decode cL_law 379 = .ok (.aload_n 1, 1) := by decide +kernel
theorem dL_law_380 : decode cL_law 380 = .ok (.aload_n 0, 1) := by decide +kernel
theorem dL_law_381 : decode cL_law 381 = .ok (.iload_n 3, 1) := by decide +kernel
theorem dL_law_382 : decode cL_law 382 = .ok (.iconst 1, 1) := by decide +kernel
theorem dL_law_383 : decode cL_law 383 = .ok (.iadd, 1) := by decide +kernel
theorem dL_law_384 : decode cL_law 384 = .ok (.iaload, 1) := by decide +kernel
theorem dL_law_385 : decode cL_law 385 = .ok (.aload_n 0, 1) := by decide +kernel
theorem dL_law_386 : decode cL_law 386 = .ok (.iload_n 3, 1) := by decide +kernel
theorem dL_law_387 : decode cL_law 387 = .ok (.iconst 2, 1) := by decide +kernel
theorem dL_law_388 : decode cL_law 388 = .ok (.iadd, 1) := by decide +kernel
theorem dL_law_389 : decode cL_law 389 = .ok (.iaload, 1) := by decide +kernel
theorem dL_law_390 : decode cL_law 390 = .ok (.invokevirtual 52, 3) := by decide +kernel
theorem dL_law_393 : decode cL_law 393 = .ok (.aload_n 2, 1) := by decide +kernel
theorem dL_law_394 : decode cL_law 394 = .ok (.aload_n 0, 1) := by decide +kernel
theorem dL_law_395 : decode cL_law 395 = .ok (.iload_n 3, 1) := by decide +kernel
theorem dL_law_396 : decode cL_law 396 = .ok (.iconst 1, 1) := by decide +kernel
theorem dL_law_397 : decode cL_law 397 = .ok (.iadd, 1) := by decide +kernel
theorem dL_law_398 : decode cL_law 398 = .ok (.iaload, 1) := by decide +kernel
theorem dL_law_399 : decode cL_law 399 = .ok (.aload_n 0, 1) := by decide +kernel
theorem dL_law_400 : decode cL_law 400 = .ok (.iload_n 3, 1) := by decide +kernel
theorem dL_law_401 : decode cL_law 401 = .ok (.iconst 2, 1) := by decide +kernel
theorem dL_law_402 : decode cL_law 402 = .ok (.iadd, 1) := by decide +kernel
theorem dL_law_403 : decode cL_law 403 = .ok (.iaload, 1) := by decide +kernel
theorem dL_law_404 : decode cL_law 404 = .ok (.invokevirtual 55, 3) := by decide +kernel
theorem dL_law_407 : decode cL_law 407 = .ok (.if_icmp .eq 673, 3) := by decide +kernel
theorem dL_law_410 : decode cL_law 410 = .ok (.iconst 0, 1) := by decide +kernel
theorem dL_law_411 : decode cL_law 411 = .ok (.ireturn, 1) := by decide +kernel
theorem dL_law_412 : decode cL_law 412 = .ok (.aload_n 1, 1) := by decide +kernel
theorem dL_law_413 : decode cL_law 413 = .ok (.aload_n 0, 1) := by decide +kernel
theorem dL_law_414 : decode cL_law 414 = .ok (.iload_n 3, 1) := by decide +kernel
theorem dL_law_415 : decode cL_law 415 = .ok (.iconst 1, 1) := by decide +kernel
theorem dL_law_416 : decode cL_law 416 = .ok (.iadd, 1) := by decide +kernel
theorem dL_law_417 : decode cL_law 417 = .ok (.iaload, 1) := by decide +kernel
theorem dL_law_418 : decode cL_law 418 = .ok (.invokevirtual 56, 3) := by decide +kernel
theorem dL_law_421 : decode cL_law 421 = .ok (.aload_n 2, 1) := by decide +kernel
theorem dL_law_422 : decode cL_law 422 = .ok (.aload_n 0, 1) := by decide +kernel
theorem dL_law_423 : decode cL_law 423 = .ok (.iload_n 3, 1) := by decide +kernel
theorem dL_law_424 : decode cL_law 424 = .ok (.iconst 1, 1) := by decide +kernel
theorem dL_law_425 : decode cL_law 425 = .ok (.iadd, 1) := by decide +kernel
theorem dL_law_426 : decode cL_law 426 = .ok (.iaload, 1) := by decide +kernel
theorem dL_law_427 : decode cL_law 427 = .ok (.invokevirtual 59, 3) := by decide +kernel
theorem dL_law_430 : decode cL_law 430 = .ok (.if_icmp .eq 650, 3) := by decide +kernel
theorem dL_law_433 : decode cL_law 433 = .ok (.iconst 0, 1) := by decide +kernel
theorem dL_law_434 : decode cL_law 434 = .ok (.ireturn, 1) := by decide +kernel
theorem dL_law_435 : decode cL_law 435 = .ok (.aload_n 1, 1) := by decide +kernel
theorem dL_law_436 : decode cL_law 436 = .ok (.invokevirtual 60, 3) := by decide +kernel
theorem dL_law_439 : decode cL_law 439 = .ok (.aload_n 2, 1) := by decide +kernel
theorem dL_law_440 : decode cL_law 440 = .ok (.invokevirtual 63, 3) := by decide +kernel
theorem dL_law_443 : decode cL_law 443 = .ok (.if_icmp .eq 637, 3) := by decide +kernel
theorem dL_law_446 : decode cL_law 446 = .ok (.iconst 0, 1) := by decide +kernel
theorem dL_law_447 : decode cL_law 447 = .ok (.ireturn, 1) := by decide +kernel
theorem dL_law_448 : decode cL_law 448 = .ok (.aload_n 1, 1) := by decide +kernel
theorem dL_law_449 : decode cL_law 449 = .ok (.aload_n 0, 1) := by decide +kernel
theorem dL_law_450 : decode cL_law 450 = .ok (.iload_n 3, 1) := by decide +kernel
theorem dL_law_451 : decode cL_law 451 = .ok (.iconst 1, 1) := by decide +kernel
theorem dL_law_452 : decode cL_law 452 = .ok (.iadd, 1) := by decide +kernel
theorem dL_law_453 : decode cL_law 453 = .ok (.iaload, 1) := by decide +kernel
theorem dL_law_454 : decode cL_law 454 = .ok (.invokevirtual 64, 3) := by decide +kernel
theorem dL_law_457 : decode cL_law 457 = .ok (.aload_n 2, 1) := by decide +kernel
theorem dL_law_458 : decode cL_law 458 = .ok (.aload_n 0, 1) := by decide +kernel
theorem dL_law_459 : decode cL_law 459 = .ok (.iload_n 3, 1) := by decide +kernel
theorem dL_law_460 : decode cL_law 460 = .ok (.iconst 1, 1) := by decide +kernel
theorem dL_law_461 : decode cL_law 461 = .ok (.iadd, 1) := by decide +kernel
theorem dL_law_462 : decode cL_law 462 = .ok (.iaload, 1) := by decide +kernel
theorem dL_law_463 : decode cL_law 463 = .ok (.invokevirtual 67, 3) := by decide +kernel
theorem dL_law_466 : decode cL_law 466 = .ok (.if_icmp .eq 614, 3) := by decide +kernel
theorem dL_law_469 : decode cL_law 469 = .ok (.iconst 0, 1) := by decide +kernel
theorem dL_law_470 : decode cL_law 470 = .ok (.ireturn, 1) := by decide +kernel
theorem dL_law_471 : decode cL_law 471 = .ok (.aload_n 1, 1) := by decide +kernel
theorem dL_law_472 : decode cL_law 472 = .ok (.aload_n 0, 1) := by decide +kernel
theorem dL_law_473 : decode cL_law 473 = .ok (.iload_n 3, 1) := by decide +kernel
theorem dL_law_474 : decode cL_law 474 = .ok (.iconst 1, 1) := by decide +kernel
theorem dL_law_475 : decode cL_law 475 = .ok (.iadd, 1) := by decide +kernel
theorem dL_law_476 : decode cL_law 476 = .ok (.iaload, 1) := by decide +kernel
theorem dL_law_477 : decode cL_law 477 = .ok (.aload_n 0, 1) := by decide +kernel
theorem dL_law_478 : decode cL_law 478 = .ok (.iload_n 3, 1) := by decide +kernel
theorem dL_law_479 : decode cL_law 479 = .ok (.iconst 2, 1) := by decide +kernel
theorem dL_law_480 : decode cL_law 480 = .ok (.iadd, 1) := by decide +kernel
theorem dL_law_481 : decode cL_law 481 = .ok (.iaload, 1) := by decide +kernel
theorem dL_law_482 : decode cL_law 482 = .ok (.invokevirtual 68, 3) := by decide +kernel
theorem dL_law_485 : decode cL_law 485 = .ok (.aload_n 2, 1) := by decide +kernel
theorem dL_law_486 : decode cL_law 486 = .ok (.aload_n 0, 1) := by decide +kernel
theorem dL_law_487 : decode cL_law 487 = .ok (.iload_n 3, 1) := by decide +kernel
theorem dL_law_488 : decode cL_law 488 = .ok (.iconst 1, 1) := by decide +kernel
theorem dL_law_489 : decode cL_law 489 = .ok (.iadd, 1) := by decide +kernel
theorem dL_law_490 : decode cL_law 490 = .ok (.iaload, 1) := by decide +kernel
theorem dL_law_491 : decode cL_law 491 = .ok (.aload_n 0, 1) := by decide +kernel
theorem dL_law_492 : decode cL_law 492 = .ok (.iload_n 3, 1) := by decide +kernel
theorem dL_law_493 : decode cL_law 493 = .ok (.iconst 2, 1) := by decide +kernel
theorem dL_law_494 : decode cL_law 494 = .ok (.iadd, 1) := by decide +kernel
theorem dL_law_495 : decode cL_law 495 = .ok (.iaload, 1) := by decide +kernel
theorem dL_law_496 : decode cL_law 496 = .ok (.invokevirtual 71, 3) := by decide +kernel
theorem dL_law_499 : decode cL_law 499 = .ok (.if_icmp .eq 581, 3) := by decide +kernel
theorem dL_law_502 : decode cL_law 502 = .ok (.iconst 0, 1) := by decide +kernel
theorem dL_law_503 : decode cL_law 503 = .ok (.ireturn, 1) := by decide +kernel
theorem dL_law_504 : decode cL_law 504 = .ok (.aload_n 1, 1) := by decide +kernel
theorem dL_law_505 : decode cL_law 505 = .ok (.aload_n 0, 1) := by decide +kernel
theorem dL_law_506 : decode cL_law 506 = .ok (.iload_n 3, 1) := by decide +kernel
theorem dL_law_507 : decode cL_law 507 = .ok (.iconst 1, 1) := by decide +kernel
theorem dL_law_508 : decode cL_law 508 = .ok (.iadd, 1) := by decide +kernel
theorem dL_law_509 : decode cL_law 509 = .ok (.iaload, 1) := by decide +kernel
theorem dL_law_510 : decode cL_law 510 = .ok (.invokevirtual 72, 3) := by decide +kernel
theorem dL_law_513 : decode cL_law 513 = .ok (.aload_n 2, 1) := by decide +kernel
theorem dL_law_514 : decode cL_law 514 = .ok (.aload_n 0, 1) := by decide +kernel
theorem dL_law_515 : decode cL_law 515 = .ok (.iload_n 3, 1) := by decide +kernel
theorem dL_law_516 : decode cL_law 516 = .ok (.iconst 1, 1) := by decide +kernel
theorem dL_law_517 : decode cL_law 517 = .ok (.iadd, 1) := by decide +kernel
theorem dL_law_518 : decode cL_law 518 = .ok (.iaload, 1) := by decide +kernel
theorem dL_law_519 : decode cL_law 519 = .ok (.invokevirtual 75, 3) := by decide +kernel
theorem dL_law_522 : decode cL_law 522 = .ok (.if_icmp .eq 558, 3) := by decide +kernel
theorem dL_law_525 : decode cL_law 525 = .ok (.iconst 0, 1) := by decide +kernel
theorem dL_law_526 : decode cL_law 526 = .ok (.ireturn, 1) := by decide +kernel
theorem dL_law_527 : decode cL_law 527 = .ok (.aload_n 1, 1) := by decide +kernel
theorem dL_law_528 : decode cL_law 528 = .ok (.aload_n 0, 1) := by decide +kernel
theorem dL_law_529 : decode cL_law 529 = .ok (.iload_n 3, 1) := by decide +kernel
theorem dL_law_530 : decode cL_law 530 = .ok (.iconst 1, 1) := by decide +kernel
theorem dL_law_531 : decode cL_law 531 = .ok (.iadd, 1) := by decide +kernel
theorem dL_law_532 : decode cL_law 532 = .ok (.iaload, 1) := by decide +kernel
theorem dL_law_533 : decode cL_law 533 = .ok (.aload_n 0, 1) := by decide +kernel
theorem dL_law_534 : decode cL_law 534 = .ok (.iload_n 3, 1) := by decide +kernel
theorem dL_law_535 : decode cL_law 535 = .ok (.iconst 2, 1) := by decide +kernel
theorem dL_law_536 : decode cL_law 536 = .ok (.iadd, 1) := by decide +kernel
theorem dL_law_537 : decode cL_law 537 = .ok (.iaload, 1) := by decide +kernel
theorem dL_law_538 : decode cL_law 538 = .ok (.invokevirtual 76, 3) := by decide +kernel
theorem dL_law_541 : decode cL_law 541 = .ok (.aload_n 2, 1) := by decide +kernel
theorem dL_law_542 : decode cL_law 542 = .ok (.aload_n 0, 1) := by decide +kernel
theorem dL_law_543 : decode cL_law 543 = .ok (.iload_n 3, 1) := by decide +kernel
theorem dL_law_544 : decode cL_law 544 = .ok (.iconst 1, 1) := by decide +kernel
theorem dL_law_545 : decode cL_law 545 = .ok (.iadd, 1) := by decide +kernel
theorem dL_law_546 : decode cL_law 546 = .ok (.iaload, 1) := by decide +kernel
theorem dL_law_547 : decode cL_law 547 = .ok (.aload_n 0, 1) := by decide +kernel
theorem dL_law_548 : decode cL_law 548 = .ok (.iload_n 3, 1) := by decide +kernel
theorem dL_law_549 : decode cL_law 549 = .ok (.iconst 2, 1) := by decide +kernel
theorem dL_law_550 : decode cL_law 550 = .ok (.iadd, 1) := by decide +kernel
theorem dL_law_551 : decode cL_law 551 = .ok (.iaload, 1) := by decide +kernel
theorem dL_law_552 : decode cL_law 552 = .ok (.invokevirtual 79, 3) := by decide +kernel
theorem dL_law_555 : decode cL_law 555 = .ok (.if_icmp .eq 525, 3) := by decide +kernel
theorem dL_law_558 : decode cL_law 558 = .ok (.iconst 0, 1) := by decide +kernel
theorem dL_law_559 : decode cL_law 559 = .ok (.ireturn, 1) := by decide +kernel
theorem dL_law_560 : decode cL_law 560 = .ok (.aload_n 1, 1) := by decide +kernel
theorem dL_law_561 : decode cL_law 561 = .ok (.aload_n 0, 1) := by decide +kernel
theorem dL_law_562 : decode cL_law 562 = .ok (.iload_n 3, 1) := by decide +kernel
theorem dL_law_563 : decode cL_law 563 = .ok (.iconst 1, 1) := by decide +kernel
theorem dL_law_564 : decode cL_law 564 = .ok (.iadd, 1) := by decide +kernel
theorem dL_law_565 : decode cL_law 565 = .ok (.iaload, 1) := by decide +kernel
theorem dL_law_566 : decode cL_law 566 = .ok (.aload_n 0, 1) := by decide +kernel
theorem dL_law_567 : decode cL_law 567 = .ok (.iload_n 3, 1) := by decide +kernel
theorem dL_law_568 : decode cL_law 568 = .ok (.iconst 2, 1) := by decide +kernel
theorem dL_law_569 : decode cL_law 569 = .ok (.iadd, 1) := by decide +kernel
theorem dL_law_570 : decode cL_law 570 = .ok (.iaload, 1) := by decide +kernel
theorem dL_law_571 : decode cL_law 571 = .ok (.invokevirtual 80, 3) := by decide +kernel
theorem dL_law_574 : decode cL_law 574 = .ok (.aload_n 2, 1) := by decide +kernel
theorem dL_law_575 : decode cL_law 575 = .ok (.aload_n 0, 1) := by decide +kernel
theorem dL_law_576 : decode cL_law 576 = .ok (.iload_n 3, 1) := by decide +kernel
theorem dL_law_577 : decode cL_law 577 = .ok (.iconst 1, 1) := by decide +kernel
theorem dL_law_578 : decode cL_law 578 = .ok (.iadd, 1) := by decide +kernel
theorem dL_law_579 : decode cL_law 579 = .ok (.iaload, 1) := by decide +kernel
theorem dL_law_580 : decode cL_law 580 = .ok (.aload_n 0, 1) := by decide +kernel
theorem dL_law_581 : decode cL_law 581 = .ok (.iload_n 3, 1) := by decide +kernel
theorem dL_law_582 : decode cL_law 582 = .ok (.iconst 2, 1) := by decide +kernel
theorem dL_law_583 : decode cL_law 583 = .ok (.iadd, 1) := by decide +kernel
theorem dL_law_584 : decode cL_law 584 = .ok (.iaload, 1) := by decide +kernel
theorem dL_law_585 : decode cL_law 585 = .ok (.invokevirtual 83, 3) := by decide +kernel
theorem dL_law_588 : decode cL_law 588 = .ok (.if_icmp .eq 492, 3) := by decide +kernel
theorem dL_law_591 : decode cL_law 591 = .ok (.iconst 0, 1) := by decide +kernel
theorem dL_law_592 : decode cL_law 592 = .ok (.ireturn, 1) := by decide +kernel
theorem dL_law_593 : decode cL_law 593 = .ok (.aload_n 1, 1) := by decide +kernel
theorem dL_law_594 : decode cL_law 594 = .ok (.aload_n 0, 1) := by decide +kernel
theorem dL_law_595 : decode cL_law 595 = .ok (.iload_n 3, 1) := by decide +kernel
theorem dL_law_596 : decode cL_law 596 = .ok (.iconst 1, 1) := by decide +kernel
theorem dL_law_597 : decode cL_law 597 = .ok (.iadd, 1) := by decide +kernel
theorem dL_law_598 : decode cL_law 598 = .ok (.iaload, 1) := by decide +kernel
theorem dL_law_599 : decode cL_law 599 = .ok (.invokevirtual 84, 3) := by decide +kernel
theorem dL_law_602 : decode cL_law 602 = .ok (.aload_n 2, 1) := by decide +kernel
theorem dL_law_603 : decode cL_law 603 = .ok (.aload_n 0, 1) := by decide +kernel
theorem dL_law_604 : decode cL_law 604 = .ok (.iload_n 3, 1) := by decide +kernel
theorem dL_law_605 : decode cL_law 605 = .ok (.iconst 1, 1) := by decide +kernel
theorem dL_law_606 : decode cL_law 606 = .ok (.iadd, 1) := by decide +kernel
theorem dL_law_607 : decode cL_law 607 = .ok (.iaload, 1) := by decide +kernel
theorem dL_law_608 : decode cL_law 608 = .ok (.invokevirtual 87, 3) := by decide +kernel
theorem dL_law_611 : decode cL_law 611 = .ok (.if_icmp .eq 469, 3) := by decide +kernel
theorem dL_law_614 : decode cL_law 614 = .ok (.iconst 0, 1) := by decide +kernel
theorem dL_law_615 : decode cL_law 615 = .ok (.ireturn, 1) := by decide +kernel
theorem dL_law_616 : decode cL_law 616 = .ok (.aload_n 1, 1) := by decide +kernel
theorem dL_law_617 : decode cL_law 617 = .ok (.aload_n 0, 1) := by decide +kernel
theorem dL_law_618 : decode cL_law 618 = .ok (.iload_n 3, 1) := by decide +kernel
theorem dL_law_619 : decode cL_law 619 = .ok (.iconst 1, 1) := by decide +kernel
theorem dL_law_620 : decode cL_law 620 = .ok (.iadd, 1) := by decide +kernel
theorem dL_law_621 : decode cL_law 621 = .ok (.iaload, 1) := by decide +kernel
theorem dL_law_622 : decode cL_law 622 = .ok (.invokevirtual 88, 3) := by decide +kernel
theorem dL_law_625 : decode cL_law 625 = .ok (.aload_n 2, 1) := by decide +kernel
theorem dL_law_626 : decode cL_law 626 = .ok (.aload_n 0, 1) := by decide +kernel
theorem dL_law_627 : decode cL_law 627 = .ok (.iload_n 3, 1) := by decide +kernel
theorem dL_law_628 : decode cL_law 628 = .ok (.iconst 1, 1) := by decide +kernel
theorem dL_law_629 : decode cL_law 629 = .ok (.iadd, 1) := by decide +kernel
theorem dL_law_630 : decode cL_law 630 = .ok (.iaload, 1) := by decide +kernel
theorem dL_law_631 : decode cL_law 631 = .ok (.invokevirtual 91, 3) := by decide +kernel
theorem dL_law_634 : decode cL_law 634 = .ok (.if_icmp .eq 446, 3) := by decide +kernel
theorem dL_law_637 : decode cL_law 637 = .ok (.iconst 0, 1) := by decide +kernel
theorem dL_law_638 : decode cL_law 638 = .ok (.ireturn, 1) := by decide +kernel
theorem dL_law_639 : decode cL_law 639 = .ok (.aload_n 1, 1) := by decide +kernel
theorem dL_law_640 : decode cL_law 640 = .ok (.aload_n 0, 1) := by decide +kernel
theorem dL_law_641 : decode cL_law 641 = .ok (.iload_n 3, 1) := by decide +kernel
theorem dL_law_642 : decode cL_law 642 = .ok (.iconst 1, 1) := by decide +kernel
theorem dL_law_643 : decode cL_law 643 = .ok (.iadd, 1) := by decide +kernel
theorem dL_law_644 : decode cL_law 644 = .ok (.iaload, 1) := by decide +kernel
theorem dL_law_645 : decode cL_law 645 = .ok (.aload_n 0, 1) := by decide +kernel
theorem dL_law_646 : decode cL_law 646 = .ok (.iload_n 3, 1) := by decide +kernel
theorem dL_law_647 : decode cL_law 647 = .ok (.iconst 2, 1) := by decide +kernel
theorem dL_law_648 : decode cL_law 648 = .ok (.iadd, 1) := by decide +kernel
theorem dL_law_649 : decode cL_law 649 = .ok (.iaload, 1) := by decide +kernel
theorem dL_law_650 : decode cL_law 650 = .ok (.invokevirtual 92, 3) := by decide +kernel
theorem dL_law_653 : decode cL_law 653 = .ok (.aload_n 2, 1) := by decide +kernel
theorem dL_law_654 : decode cL_law 654 = .ok (.aload_n 0, 1) := by decide +kernel
theorem dL_law_655 : decode cL_law 655 = .ok (.iload_n 3, 1) := by decide +kernel
theorem dL_law_656 : decode cL_law 656 = .ok (.iconst 1, 1) := by decide +kernel
theorem dL_law_657 : decode cL_law 657 = .ok (.iadd, 1) := by decide +kernel
theorem dL_law_658 : decode cL_law 658 = .ok (.iaload, 1) := by decide +kernel
theorem dL_law_659 : decode cL_law 659 = .ok (.aload_n 0, 1) := by decide +kernel
theorem dL_law_660 : decode cL_law 660 = .ok (.iload_n 3, 1) := by decide +kernel
theorem dL_law_661 : decode cL_law 661 = .ok (.iconst 2, 1) := by decide +kernel
theorem dL_law_662 : decode cL_law 662 = .ok (.iadd, 1) := by decide +kernel
theorem dL_law_663 : decode cL_law 663 = .ok (.iaload, 1) := by decide +kernel
theorem dL_law_664 : decode cL_law 664 = .ok (.invokevirtual 95, 3) := by decide +kernel
theorem dL_law_667 : decode cL_law 667 = .ok (.if_icmp .eq 413, 3) := by decide +kernel
theorem dL_law_670 : decode cL_law 670 = .ok (.iconst 0, 1) := by decide +kernel
theorem dL_law_671 : decode cL_law 671 = .ok (.ireturn, 1) := by decide +kernel
theorem dL_law_672 : decode cL_law 672 = .ok (.aload_n 1, 1) := by decide +kernel
theorem dL_law_673 : decode cL_law 673 = .ok (.aload_n 0, 1) := by decide +kernel
theorem dL_law_674 : decode cL_law 674 = .ok (.iload_n 3, 1) := by decide +kernel
theorem dL_law_675 : decode cL_law 675 = .ok (.iconst 1, 1) := by decide +kernel
theorem dL_law_676 : decode cL_law 676 = .ok (.iadd, 1) := by decide +kernel
theorem dL_law_677 : decode cL_law 677 = .ok (.iaload, 1) := by decide +kernel
theorem dL_law_678 : decode cL_law 678 = .ok (.aload_n 0, 1) := by decide +kernel
theorem dL_law_679 : decode cL_law 679 = .ok (.iload_n 3, 1) := by decide +kernel
theorem dL_law_680 : decode cL_law 680 = .ok (.iconst 2, 1) := by decide +kernel
theorem dL_law_681 : decode cL_law 681 = .ok (.iadd, 1) := by decide +kernel
theorem dL_law_682 : decode cL_law 682 = .ok (.iaload, 1) := by decide +kernel
theorem dL_law_683 : decode cL_law 683 = .ok (.invokevirtual 96, 3) := by decide +kernel
theorem dL_law_686 : decode cL_law 686 = .ok (.aload_n 2, 1) := by decide +kernel
theorem dL_law_687 : decode cL_law 687 = .ok (.aload_n 0, 1) := by decide +kernel
theorem dL_law_688 : decode cL_law 688 = .ok (.iload_n 3, 1) := by decide +kernel
theorem dL_law_689 : decode cL_law 689 = .ok (.iconst 1, 1) := by decide +kernel
theorem dL_law_690 : decode cL_law 690 = .ok (.iadd, 1) := by decide +kernel
theorem dL_law_691 : decode cL_law 691 = .ok (.iaload, 1) := by decide +kernel
theorem dL_law_692 : decode cL_law 692 = .ok (.aload_n 0, 1) := by decide +kernel
theorem dL_law_693 : decode cL_law 693 = .ok (.iload_n 3, 1) := by decide +kernel
theorem dL_law_694 : decode cL_law 694 = .ok (.iconst 2, 1) := by decide +kernel
theorem dL_law_695 : decode cL_law 695 = .ok (.iadd, 1) := by decide +kernel
theorem dL_law_696 : decode cL_law 696 = .ok (.iaload, 1) := by decide +kernel
theorem dL_law_697 : decode cL_law 697 = .ok (.invokevirtual 99, 3) := by decide +kernel
theorem dL_law_700 : decode cL_law 700 = .ok (.if_icmp .eq 380, 3) := by decide +kernel
theorem dL_law_703 : decode cL_law 703 = .ok (.iconst 0, 1) := by decide +kernel
theorem dL_law_704 : decode cL_law 704 = .ok (.ireturn, 1) := by decide +kernel
theorem dL_law_705 : decode cL_law 705 = .ok (.aload_n 1, 1) := by decide +kernel
theorem dL_law_706 : decode cL_law 706 = .ok (.aload_n 0, 1) := by decide +kernel
theorem dL_law_707 : decode cL_law 707 = .ok (.iload_n 3, 1) := by decide +kernel
theorem dL_law_708 : decode cL_law 708 = .ok (.iconst 1, 1) := by decide +kernel
theorem dL_law_709 : decode cL_law 709 = .ok (.iadd, 1) := by decide +kernel
theorem dL_law_710 : decode cL_law 710 = .ok (.iaload, 1) := by decide +kernel
theorem dL_law_711 : decode cL_law 711 = .ok (.invokevirtual 100, 3) := by decide +kernel
theorem dL_law_714 : decode cL_law 714 = .ok (.aload_n 2, 1) := by decide +kernel
theorem dL_law_715 : decode cL_law 715 = .ok (.aload_n 0, 1) := by decide +kernel
theorem dL_law_716 : decode cL_law 716 = .ok (.iload_n 3, 1) := by decide +kernel
theorem dL_law_717 : decode cL_law 717 = .ok (.iconst 1, 1) := by decide +kernel
theorem dL_law_718 : decode cL_law 718 = .ok (.iadd, 1) := by decide +kernel
theorem dL_law_719 : decode cL_law 719 = .ok (.iaload, 1) := by decide +kernel
theorem dL_law_720 : decode cL_law 720 = .ok (.invokevirtual 103, 3) := by decide +kernel
theorem dL_law_723 : decode cL_law 723 = .ok (.if_icmp .eq 357, 3) := by decide +kernel
theorem dL_law_726 : decode cL_law 726 = .ok (.iconst 0, 1) := by decide +kernel
theorem dL_law_727 : decode cL_law 727 = .ok (.ireturn, 1) := by decide +kernel
theorem dL_law_728 : decode cL_law 728 = .ok (.aload_n 1, 1) := by decide +kernel
theorem dL_law_729 : decode cL_law 729 = .ok (.aload_n 0, 1) := by decide +kernel
theorem dL_law_730 : decode cL_law 730 = .ok (.iload_n 3, 1) := by decide +kernel
theorem dL_law_731 : decode cL_law 731 = .ok (.iconst 1, 1) := by decide +kernel
theorem dL_law_732 : decode cL_law 732 = .ok (.iadd, 1) := by decide +kernel
theorem dL_law_733 : decode cL_law 733 = .ok (.iaload, 1) := by decide +kernel
theorem dL_law_734 : decode cL_law 734 = .ok (.aload_n 0, 1) := by decide +kernel
theorem dL_law_735 : decode cL_law 735 = .ok (.iload_n 3, 1) := by decide +kernel
theorem dL_law_736 : decode cL_law 736 = .ok (.iconst 2, 1) := by decide +kernel
theorem dL_law_737 : decode cL_law 737 = .ok (.iadd, 1) := by decide +kernel
theorem dL_law_738 : decode cL_law 738 = .ok (.iaload, 1) := by decide +kernel
theorem dL_law_739 : decode cL_law 739 = .ok (.invokevirtual 104, 3) := by decide +kernel
theorem dL_law_742 : decode cL_law 742 = .ok (.aload_n 2, 1) := by decide +kernel
theorem dL_law_743 : decode cL_law 743 = .ok (.aload_n 0, 1) := by decide +kernel
theorem dL_law_744 : decode cL_law 744 = .ok (.iload_n 3, 1) := by decide +kernel
theorem dL_law_745 : decode cL_law 745 = .ok (.iconst 1, 1) := by decide +kernel
theorem dL_law_746 : decode cL_law 746 = .ok (.iadd, 1) := by decide +kernel
theorem dL_law_747 : decode cL_law 747 = .ok (.iaload, 1) := by decide +kernel
theorem dL_law_748 : decode cL_law 748 = .ok (.aload_n 0, 1) := by decide +kernel
theorem dL_law_749 : decode cL_law 749 = .ok (.iload_n 3, 1) := by decide +kernel
theorem dL_law_750 : decode cL_law 750 = .ok (.iconst 2, 1) := by decide +kernel
theorem dL_law_751 : decode cL_law 751 = .ok (.iadd, 1) := by decide +kernel
theorem dL_law_752 : decode cL_law 752 = .ok (.iaload, 1) := by decide +kernel
theorem dL_law_753 : decode cL_law 753 = .ok (.invokevirtual 107, 3) := by decide +kernel
theorem dL_law_756 : decode cL_law 756 = .ok (.if_icmp .eq 324, 3) := by decide +kernel
theorem dL_law_759 : decode cL_law 759 = .ok (.iconst 0, 1) := by decide +kernel
theorem dL_law_760 : decode cL_law 760 = .ok (.ireturn, 1) := by decide +kernel
theorem dL_law_761 : decode cL_law 761 = .ok (.aload_n 1, 1) := by decide +kernel
theorem dL_law_762 : decode cL_law 762 = .ok (.aload_n 0, 1) := by decide +kernel
theorem dL_law_763 : decode cL_law 763 = .ok (.iload_n 3, 1) := by decide +kernel
theorem dL_law_764 : decode cL_law 764 = .ok (.iconst 1, 1) := by decide +kernel
theorem dL_law_765 : decode cL_law 765 = .ok (.iadd, 1) := by decide +kernel
theorem dL_law_766 : decode cL_law 766 = .ok (.iaload, 1) := by decide +kernel
theorem dL_law_767 : decode cL_law 767 = .ok (.aload_n 0, 1) := by decide +kernel
theorem dL_law_768 : decode cL_law 768 = .ok (.iload_n 3, 1) := by decide +kernel
theorem dL_law_769 : decode cL_law 769 = .ok (.iconst 2, 1) := by decide +kernel
theorem dL_law_770 : decode cL_law 770 = .ok (.iadd, 1) := by decide +kernel
theorem dL_law_771 : decode cL_law 771 = .ok (.iaload, 1) := by decide +kernel
theorem dL_law_772 : decode cL_law 772 = .ok (.aload_n 0, 1) := by decide +kernel
theorem dL_law_773 : decode cL_law 773 = .ok (.iload_n 3, 1) := by decide +kernel
theorem dL_law_774 : decode cL_law 774 = .ok (.iconst 3, 1) := by decide +kernel
theorem dL_law_775 : decode cL_law 775 = .ok (.iadd, 1) := by decide +kernel
theorem dL_law_776 : decode cL_law 776 = .ok (.iaload, 1) := by decide +kernel
theorem dL_law_777 : decode cL_law 777 = .ok (.invokevirtual 108, 3) := by decide +kernel
theorem dL_law_780 : decode cL_law 780 = .ok (.aload_n 2, 1) := by decide +kernel
theorem dL_law_781 : decode cL_law 781 = .ok (.aload_n 0, 1) := by decide +kernel
theorem dL_law_782 : decode cL_law 782 = .ok (.iload_n 3, 1) := by decide +kernel
theorem dL_law_783 : decode cL_law 783 = .ok (.iconst 1, 1) := by decide +kernel
theorem dL_law_784 : decode cL_law 784 = .ok (.iadd, 1) := by decide +kernel
theorem dL_law_785 : decode cL_law 785 = .ok (.iaload, 1) := by decide +kernel
theorem dL_law_786 : decode cL_law 786 = .ok (.aload_n 0, 1) := by decide +kernel
theorem dL_law_787 : decode cL_law 787 = .ok (.iload_n 3, 1) := by decide +kernel
theorem dL_law_788 : decode cL_law 788 = .ok (.iconst 2, 1) := by decide +kernel
theorem dL_law_789 : decode cL_law 789 = .ok (.iadd, 1) := by decide +kernel
theorem dL_law_790 : decode cL_law 790 = .ok (.iaload, 1) := by decide +kernel
theorem dL_law_791 : decode cL_law 791 = .ok (.aload_n 0, 1) := by decide +kernel
theorem dL_law_792 : decode cL_law 792 = .ok (.iload_n 3, 1) := by decide +kernel
theorem dL_law_793 : decode cL_law 793 = .ok (.iconst 3, 1) := by decide +kernel
theorem dL_law_794 : decode cL_law 794 = .ok (.iadd, 1) := by decide +kernel
theorem dL_law_795 : decode cL_law 795 = .ok (.iaload, 1) := by decide +kernel
theorem dL_law_796 : decode cL_law 796 = .ok (.invokevirtual 112, 3) := by decide +kernel
theorem dL_law_799 : decode cL_law 799 = .ok (.if_icmp .eq 281, 3) := by decide +kernel
theorem dL_law_802 : decode cL_law 802 = .ok (.iconst 0, 1) := by decide +kernel
theorem dL_law_803 : decode cL_law 803 = .ok (.ireturn, 1) := by decide +kernel
theorem dL_law_804 : decode cL_law 804 = .ok (.aload_n 1, 1) := by decide +kernel
theorem dL_law_805 : decode cL_law 805 = .ok (.aload_n 0, 1) := by decide +kernel
theorem dL_law_806 : decode cL_law 806 = .ok (.iload_n 3, 1) := by decide +kernel
theorem dL_law_807 : decode cL_law 807 = .ok (.iconst 1, 1) := by decide +kernel
theorem dL_law_808 : decode cL_law 808 = .ok (.iadd, 1) := by decide +kernel
theorem dL_law_809 : decode cL_law 809 = .ok (.iaload, 1) := by decide +kernel
theorem dL_law_810 : decode cL_law 810 = .ok (.aload_n 0, 1) := by decide +kernel
theorem dL_law_811 : decode cL_law 811 = .ok (.iload_n 3, 1) := by decide +kernel
theorem dL_law_812 : decode cL_law 812 = .ok (.iconst 2, 1) := by decide +kernel
theorem dL_law_813 : decode cL_law 813 = .ok (.iadd, 1) := by decide +kernel
theorem dL_law_814 : decode cL_law 814 = .ok (.iaload, 1) := by decide +kernel
theorem dL_law_815 : decode cL_law 815 = .ok (.invokevirtual 113, 3) := by decide +kernel
theorem dL_law_818 : decode cL_law 818 = .ok (.aload_n 2, 1) := by decide +kernel
theorem dL_law_819 : decode cL_law 819 = .ok (.aload_n 0, 1) := by decide +kernel
theorem dL_law_820 : decode cL_law 820 = .ok (.iload_n 3, 1) := by decide +kernel
theorem dL_law_821 : decode cL_law 821 = .ok (.iconst 1, 1) := by decide +kernel
theorem dL_law_822 : decode cL_law 822 = .ok (.iadd, 1) := by decide +kernel
theorem dL_law_823 : decode cL_law 823 = .ok (.iaload, 1) := by decide +kernel
theorem dL_law_824 : decode cL_law 824 = .ok (.aload_n 0, 1) := by decide +kernel
theorem dL_law_825 : decode cL_law 825 = .ok (.iload_n 3, 1) := by decide +kernel
theorem dL_law_826 : decode cL_law 826 = .ok (.iconst 2, 1) := by decide +kernel
theorem dL_law_827 : decode cL_law 827 = .ok (.iadd, 1) := by decide +kernel
theorem dL_law_828 : decode cL_law 828 = .ok (.iaload, 1) := by decide +kernel
theorem dL_law_829 : decode cL_law 829 = .ok (.invokevirtual 116, 3) := by decide +kernel
theorem dL_law_832 : decode cL_law 832 = .ok (.if_icmp .eq 248, 3) := by decide +kernel
theorem dL_law_835 : decode cL_law 835 = .ok (.iconst 0, 1) := by decide +kernel
theorem dL_law_836 : decode cL_law 836 = .ok (.ireturn, 1) := by decide +kernel
theorem dL_law_837 : decode cL_law 837 = .ok (.aload_n 1, 1) := by decide +kernel
theorem dL_law_838 : decode cL_law 838 = .ok (.aload_n 0, 1) := by decide +kernel
theorem dL_law_839 : decode cL_law 839 = .ok (.iload_n 3, 1) := by decide +kernel
theorem dL_law_840 : decode cL_law 840 = .ok (.iconst 1, 1) := by decide +kernel
theorem dL_law_841 : decode cL_law 841 = .ok (.iadd, 1) := by decide +kernel
theorem dL_law_842 : decode cL_law 842 = .ok (.iaload, 1) := by decide +kernel
theorem dL_law_843 : decode cL_law 843 = .ok (.invokevirtual 117, 3) := by decide +kernel
theorem dL_law_846 : decode cL_law 846 = .ok (.aload_n 2, 1) := by decide +kernel
theorem dL_law_847 : decode cL_law 847 = .ok (.aload_n 0, 1) := by decide +kernel
theorem dL_law_848 : decode cL_law 848 = .ok (.iload_n 3, 1) := by decide +kernel
theorem dL_law_849 : decode cL_law 849 = .ok (.iconst 1, 1) := by decide +kernel
theorem dL_law_850 : decode cL_law 850 = .ok (.iadd, 1) := by decide +kernel
theorem dL_law_851 : decode cL_law 851 = .ok (.iaload, 1) := by decide +kernel
theorem dL_law_852 : decode cL_law 852 = .ok (.invokevirtual 120, 3) := by decide +kernel
theorem dL_law_855 : decode cL_law 855 = .ok (.if_icmp .eq 225, 3) := by decide +kernel
theorem dL_law_858 : decode cL_law 858 = .ok (.iconst 0, 1) := by decide +kernel
theorem dL_law_859 : decode cL_law 859 = .ok (.ireturn, 1) := by decide +kernel
theorem dL_law_860 : decode cL_law 860 = .ok (.aload_n 1, 1) := by decide +kernel
theorem dL_law_861 : decode cL_law 861 = .ok (.aload_n 0, 1) := by decide +kernel
theorem dL_law_862 : decode cL_law 862 = .ok (.iload_n 3, 1) := by decide +kernel
theorem dL_law_863 : decode cL_law 863 = .ok (.iconst 1, 1) := by decide +kernel
theorem dL_law_864 : decode cL_law 864 = .ok (.iadd, 1) := by decide +kernel
theorem dL_law_865 : decode cL_law 865 = .ok (.iaload, 1) := by decide +kernel
theorem dL_law_866 : decode cL_law 866 = .ok (.aload_n 0, 1) := by decide +kernel
theorem dL_law_867 : decode cL_law 867 = .ok (.iload_n 3, 1) := by decide +kernel
theorem dL_law_868 : decode cL_law 868 = .ok (.iconst 2, 1) := by decide +kernel
theorem dL_law_869 : decode cL_law 869 = .ok (.iadd, 1) := by decide +kernel
theorem dL_law_870 : decode cL_law 870 = .ok (.iaload, 1) := by decide +kernel
theorem dL_law_871 : decode cL_law 871 = .ok (.invokevirtual 121, 3) := by decide +kernel
theorem dL_law_874 : decode cL_law 874 = .ok (.aload_n 2, 1) := by decide +kernel
theorem dL_law_875 : decode cL_law 875 = .ok (.aload_n 0, 1) := by decide +kernel
theorem dL_law_876 : decode cL_law 876 = .ok (.iload_n 3, 1) := by decide +kernel
theorem dL_law_877 : decode cL_law 877 = .ok (.iconst 1, 1) := by decide +kernel
theorem dL_law_878 : decode cL_law 878 = .ok (.iadd, 1) := by decide +kernel
theorem dL_law_879 : decode cL_law 879 = .ok (.iaload, 1) := by decide +kernel
theorem dL_law_880 : decode cL_law 880 = .ok (.aload_n 0, 1) := by decide +kernel
theorem dL_law_881 : decode cL_law 881 = .ok (.iload_n 3, 1) := by decide +kernel
theorem dL_law_882 : decode cL_law 882 = .ok (.iconst 2, 1) := by decide +kernel
theorem dL_law_883 : decode cL_law 883 = .ok (.iadd, 1) := by decide +kernel
theorem dL_law_884 : decode cL_law 884 = .ok (.iaload, 1) := by decide +kernel
theorem dL_law_885 : decode cL_law 885 = .ok (.invokevirtual 124, 3) := by decide +kernel
theorem dL_law_888 : decode cL_law 888 = .ok (.if_icmp .eq 192, 3) := by decide +kernel
theorem dL_law_891 : decode cL_law 891 = .ok (.iconst 0, 1) := by decide +kernel
theorem dL_law_892 : decode cL_law 892 = .ok (.ireturn, 1) := by decide +kernel
theorem dL_law_893 : decode cL_law 893 = .ok (.aload_n 1, 1) := by decide +kernel
theorem dL_law_894 : decode cL_law 894 = .ok (.aload_n 0, 1) := by decide +kernel
theorem dL_law_895 : decode cL_law 895 = .ok (.iload_n 3, 1) := by decide +kernel
theorem dL_law_896 : decode cL_law 896 = .ok (.iconst 1, 1) := by decide +kernel
theorem dL_law_897 : decode cL_law 897 = .ok (.iadd, 1) := by decide +kernel
theorem dL_law_898 : decode cL_law 898 = .ok (.iaload, 1) := by decide +kernel
theorem dL_law_899 : decode cL_law 899 = .ok (.aload_n 0, 1) := by decide +kernel
theorem dL_law_900 : decode cL_law 900 = .ok (.iload_n 3, 1) := by decide +kernel
theorem dL_law_901 : decode cL_law 901 = .ok (.iconst 2, 1) := by decide +kernel
theorem dL_law_902 : decode cL_law 902 = .ok (.iadd, 1) := by decide +kernel
theorem dL_law_903 : decode cL_law 903 = .ok (.iaload, 1) := by decide +kernel
theorem dL_law_904 : decode cL_law 904 = .ok (.invokevirtual 125, 3) := by decide +kernel
theorem dL_law_907 : decode cL_law 907 = .ok (.aload_n 2, 1) := by decide +kernel
theorem dL_law_908 : decode cL_law 908 = .ok (.aload_n 0, 1) := by decide +kernel
theorem dL_law_909 : decode cL_law 909 = .ok (.iload_n 3, 1) := by decide +kernel
theorem dL_law_910 : decode cL_law 910 = .ok (.iconst 1, 1) := by decide +kernel
theorem dL_law_911 : decode cL_law 911 = .ok (.iadd, 1) := by decide +kernel
theorem dL_law_912 : decode cL_law 912 = .ok (.iaload, 1) := by decide +kernel
theorem dL_law_913 : decode cL_law 913 = .ok (.aload_n 0, 1) := by decide +kernel
theorem dL_law_914 : decode cL_law 914 = .ok (.iload_n 3, 1) := by decide +kernel
theorem dL_law_915 : decode cL_law 915 = .ok (.iconst 2, 1) := by decide +kernel
theorem dL_law_916 : decode cL_law 916 = .ok (.iadd, 1) := by decide +kernel
theorem dL_law_917 : decode cL_law 917 = .ok (.iaload, 1) := by decide +kernel
theorem dL_law_918 : decode cL_law 918 = .ok (.invokevirtual 128, 3) := by decide +kernel
theorem dL_law_921 : decode cL_law 921 = .ok (.if_icmp .eq 159, 3) := by decide +kernel
theorem dL_law_924 : decode cL_law 924 = .ok (.iconst 0, 1) := by decide +kernel
theorem dL_law_925 : decode cL_law 925 = .ok (.ireturn, 1) := by decide +kernel
theorem dL_law_926 : decode cL_law 926 = .ok (.aload_n 1, 1) := by decide +kernel
theorem dL_law_927 : decode cL_law 927 = .ok (.invokevirtual 129, 3) := by decide +kernel
theorem dL_law_930 : decode cL_law 930 = .ok (.aload_n 2, 1) := by decide +kernel
theorem dL_law_931 : decode cL_law 931 = .ok (.invokevirtual 132, 3) := by decide +kernel
theorem dL_law_934 : decode cL_law 934 = .ok (.if_icmp .eq 146, 3) := by decide +kernel
theorem dL_law_937 : decode cL_law 937 = .ok (.iconst 0, 1) := by decide +kernel
theorem dL_law_938 : decode cL_law 938 = .ok (.ireturn, 1) := by decide +kernel
theorem dL_law_939 : decode cL_law 939 = .ok (.aload_n 1, 1) := by decide +kernel
theorem dL_law_940 : decode cL_law 940 = .ok (.invokevirtual 133, 3) := by decide +kernel
theorem dL_law_943 : decode cL_law 943 = .ok (.aload_n 2, 1) := by decide +kernel
theorem dL_law_944 : decode cL_law 944 = .ok (.invokevirtual 136, 3) := by decide +kernel
theorem dL_law_947 : decode cL_law 947 = .ok (.if_icmp .eq 133, 3) := by decide +kernel
theorem dL_law_950 : decode cL_law 950 = .ok (.iconst 0, 1) := by decide +kernel
theorem dL_law_951 : decode cL_law 951 = .ok (.ireturn, 1) := by decide +kernel
theorem dL_law_952 : decode cL_law 952 = .ok (.aload_n 1, 1) := by decide +kernel
theorem dL_law_953 : decode cL_law 953 = .ok (.aload_n 0, 1) := by decide +kernel
theorem dL_law_954 : decode cL_law 954 = .ok (.iload_n 3, 1) := by decide +kernel
theorem dL_law_955 : decode cL_law 955 = .ok (.iconst 1, 1) := by decide +kernel
theorem dL_law_956 : decode cL_law 956 = .ok (.iadd, 1) := by decide +kernel
theorem dL_law_957 : decode cL_law 957 = .ok (.iaload, 1) := by decide +kernel
theorem dL_law_958 : decode cL_law 958 = .ok (.aload_n 0, 1) := by decide +kernel
theorem dL_law_959 : decode cL_law 959 = .ok (.iload_n 3, 1) := by decide +kernel
theorem dL_law_960 : decode cL_law 960 = .ok (.iconst 2, 1) := by decide +kernel
theorem dL_law_961 : decode cL_law 961 = .ok (.iadd, 1) := by decide +kernel
theorem dL_law_962 : decode cL_law 962 = .ok (.iaload, 1) := by decide +kernel
theorem dL_law_963 : decode cL_law 963 = .ok (.invokevirtual 137, 3) := by decide +kernel
theorem dL_law_966 : decode cL_law 966 = .ok (.aload_n 2, 1) := by decide +kernel
theorem dL_law_967 : decode cL_law 967 = .ok (.aload_n 0, 1) := by decide +kernel
theorem dL_law_968 : decode cL_law 968 = .ok (.iload_n 3, 1) := by decide +kernel
theorem dL_law_969 : decode cL_law 969 = .ok (.iconst 1, 1) := by decide +kernel
theorem dL_law_970 : decode cL_law 970 = .ok (.iadd, 1) := by decide +kernel
theorem dL_law_971 : decode cL_law 971 = .ok (.iaload, 1) := by decide +kernel
theorem dL_law_972 : decode cL_law 972 = .ok (.aload_n 0, 1) := by decide +kernel
theorem dL_law_973 : decode cL_law 973 = .ok (.iload_n 3, 1) := by decide +kernel
theorem dL_law_974 : decode cL_law 974 = .ok (.iconst 2, 1) := by decide +kernel
theorem dL_law_975 : decode cL_law 975 = .ok (.iadd, 1) := by decide +kernel
theorem dL_law_976 : decode cL_law 976 = .ok (.iaload, 1) := by decide +kernel
theorem dL_law_977 : decode cL_law 977 = .ok (.invokevirtual 140, 3) := by decide +kernel
theorem dL_law_980 : decode cL_law 980 = .ok (.if_icmp .eq 100, 3) := by decide +kernel
theorem dL_law_983 : decode cL_law 983 = .ok (.iconst 0, 1) := by decide +kernel
theorem dL_law_984 : decode cL_law 984 = .ok (.ireturn, 1) := by decide +kernel
theorem dL_law_985 : decode cL_law 985 = .ok (.aload_n 1, 1) := by decide +kernel
theorem dL_law_986 : decode cL_law 986 = .ok (.invokevirtual 141, 3) := by decide +kernel
theorem dL_law_989 : decode cL_law 989 = .ok (.aload_n 2, 1) := by decide +kernel
theorem dL_law_990 : decode cL_law 990 = .ok (.invokevirtual 144, 3) := by decide +kernel
theorem dL_law_993 : decode cL_law 993 = .ok (.if_icmp .eq 87, 3) := by decide +kernel
theorem dL_law_996 : decode cL_law 996 = .ok (.iconst 0, 1) := by decide +kernel
theorem dL_law_997 : decode cL_law 997 = .ok (.ireturn, 1) := by decide +kernel
theorem dL_law_998 : decode cL_law 998 = .ok (.aload_n 1, 1) := by decide +kernel
theorem dL_law_999 : decode cL_law 999 = .ok (.invokevirtual 145, 3) := by decide +kernel
theorem dL_law_1002 : decode cL_law 1002 = .ok (.aload_n 2, 1) := by decide +kernel
theorem dL_law_1003 : decode cL_law 1003 = .ok (.invokevirtual 148, 3) := by decide +kernel
theorem dL_law_1006 : decode cL_law 1006 = .ok (.if_icmp .eq 74, 3) := by decide +kernel
theorem dL_law_1009 : decode cL_law 1009 = .ok (.iconst 0, 1) := by decide +kernel
theorem dL_law_1010 : decode cL_law 1010 = .ok (.ireturn, 1) := by decide +kernel
theorem dL_law_1011 : decode cL_law 1011 = .ok (.aload_n 1, 1) := by decide +kernel
theorem dL_law_1012 : decode cL_law 1012 = .ok (.aload_n 0, 1) := by decide +kernel
theorem dL_law_1013 : decode cL_law 1013 = .ok (.iload_n 3, 1) := by decide +kernel
theorem dL_law_1014 : decode cL_law 1014 = .ok (.iconst 1, 1) := by decide +kernel
theorem dL_law_1015 : decode cL_law 1015 = .ok (.iadd, 1) := by decide +kernel
theorem dL_law_1016 : decode cL_law 1016 = .ok (.iaload, 1) := by decide +kernel
theorem dL_law_1017 : decode cL_law 1017 = .ok (.invokevirtual 149, 3) := by decide +kernel
theorem dL_law_1020 : decode cL_law 1020 = .ok (.aload_n 2, 1) := by decide +kernel
theorem dL_law_1021 : decode cL_law 1021 = .ok (.aload_n 0, 1) := by decide +kernel
theorem dL_law_1022 : decode cL_law 1022 = .ok (.iload_n 3, 1) := by decide +kernel
theorem dL_law_1023 : decode cL_law 1023 = .ok (.iconst 1, 1) := by decide +kernel
theorem dL_law_1024 : decode cL_law 1024 = .ok (.iadd, 1) := by decide +kernel
theorem dL_law_1025 : decode cL_law 1025 = .ok (.iaload, 1) := by decide +kernel
theorem dL_law_1026 : decode cL_law 1026 = .ok (.invokevirtual 152, 3) := by decide +kernel
theorem dL_law_1029 : decode cL_law 1029 = .ok (.if_icmp .eq 51, 3) := by decide +kernel
theorem dL_law_1032 : decode cL_law 1032 = .ok (.iconst 0, 1) := by decide +kernel
theorem dL_law_1033 : decode cL_law 1033 = .ok (.ireturn, 1) := by decide +kernel
theorem dL_law_1034 : decode cL_law 1034 = .ok (.aload_n 1, 1) := by decide +kernel
theorem dL_law_1035 : decode cL_law 1035 = .ok (.aload_n 0, 1) := by decide +kernel
theorem dL_law_1036 : decode cL_law 1036 = .ok (.iload_n 3, 1) := by decide +kernel
theorem dL_law_1037 : decode cL_law 1037 = .ok (.iconst 1, 1) := by decide +kernel
theorem dL_law_1038 : decode cL_law 1038 = .ok (.iadd, 1) := by decide +kernel
theorem dL_law_1039 : decode cL_law 1039 = .ok (.iaload, 1) := by decide +kernel
theorem dL_law_1040 : decode cL_law 1040 = .ok (.invokevirtual 153, 3) := by decide +kernel
theorem dL_law_1043 : decode cL_law 1043 = .ok (.aload_n 2, 1) := by decide +kernel
theorem dL_law_1044 : decode cL_law 1044 = .ok (.aload_n 0, 1) := by decide +kernel
theorem dL_law_1045 : decode cL_law 1045 = .ok (.iload_n 3, 1) := by decide +kernel
theorem dL_law_1046 : decode cL_law 1046 = .ok (.iconst 1, 1) := by decide +kernel
theorem dL_law_1047 : decode cL_law 1047 = .ok (.iadd, 1) := by decide +kernel
theorem dL_law_1048 : decode cL_law 1048 = .ok (.iaload, 1) := by decide +kernel
theorem dL_law_1049 : decode cL_law 1049 = .ok (.invokevirtual 156, 3) := by decide +kernel
theorem dL_law_1052 : decode cL_law 1052 = .ok (.if_icmp .eq 28, 3) := by decide +kernel
theorem dL_law_1055 : decode cL_law 1055 = .ok (.iconst 0, 1) := by decide +kernel
theorem dL_law_1056 : decode cL_law 1056 = .ok (.ireturn, 1) := by decide +kernel
theorem dL_law_1057 : decode cL_law 1057 = .ok (.aload_n 1, 1) := by decide +kernel
theorem dL_law_1058 : decode cL_law 1058 = .ok (.aload_n 0, 1) := by decide +kernel
theorem dL_law_1059 : decode cL_law 1059 = .ok (.iload_n 3, 1) := by decide +kernel
theorem dL_law_1060 : decode cL_law 1060 = .ok (.iconst 1, 1) := by decide +kernel
theorem dL_law_1061 : decode cL_law 1061 = .ok (.iadd, 1) := by decide +kernel
theorem dL_law_1062 : decode cL_law 1062 = .ok (.iaload, 1) := by decide +kernel
theorem dL_law_1063 : decode cL_law 1063 = .ok (.invokevirtual 157, 3) := by decide +kernel
theorem dL_law_1066 : decode cL_law 1066 = .ok (.aload_n 2, 1) := by decide +kernel
theorem dL_law_1067 : decode cL_law 1067 = .ok (.aload_n 0, 1) := by decide +kernel
theorem dL_law_1068 : decode cL_law 1068 = .ok (.iload_n 3, 1) := by decide +kernel
theorem dL_law_1069 : decode cL_law 1069 = .ok (.iconst 1, 1) := by decide +kernel
theorem dL_law_1070 : decode cL_law 1070 = .ok (.iadd, 1) := by decide +kernel
theorem dL_law_1071 : decode cL_law 1071 = .ok (.iaload, 1) := by decide +kernel
theorem dL_law_1072 : decode cL_law 1072 = .ok (.invokevirtual 160, 3) := by decide +kernel
theorem dL_law_1075 : decode cL_law 1075 = .ok (.if_icmp .eq 5, 3) := by decide +kernel
theorem dL_law_1078 : decode cL_law 1078 = .ok (.iconst 0, 1) := by decide +kernel
theorem dL_law_1079 : decode cL_law 1079 = .ok (.ireturn, 1) := by decide +kernel
theorem dL_law_1080 : decode cL_law 1080 = .ok (.iinc 3 4, 3) := by decide +kernel
theorem dL_law_1083 : decode cL_law 1083 = .ok (.goto (-1065), 3) := by decide +kernel
theorem dL_law_1086 : decode cL_law 1086 = .ok (.iconst 1, 1) := by decide +kernel
theorem dL_law_1087 : decode cL_law 1087 = .ok (.ireturn, 1) := by decide +kernel
end
section
/-! ===== BEGIN call rows by kind of contract ===== -/
theorem ri {x y : Int32} (h : x = y) : some (Value.int x) = some (.int y) := by rw [h]
section AX2
variable {G : GT} {B : Nat} {l : Launch} {R : Room} {own : String} {cc : ByteArray} {nL : Nat} {ini : Bool} {fin : Option Value → Heap → Nat → Nat → Prop}
variable {pc : Nat} {lv lv' : List (Nat × Value)} {st : List Value} {H : Heap} {ce sl : Nat}
theorem a_callVp {y : MethodName} {cy : ByteArray} {nLy d mc ms idx b ci : Nat} {ret : Option FieldType} {As rest : List Value} {fs : List Value} {x : Int32} (hcl : CL own idx y cy nLy ret As.length) (hin : Cond.instanceMethod y ∈ wsT) (hse : Cond.selects y.cls y y ∈ wsT) (hci : ∃ q : vw_C, vwCl[ci]? = some q ∧ q.1 = y.cls) (hd : decode cc pc = .ok (.invokevirtual idx, 3)) (hR : d + 1 ≤ R.frames ∧ 8 + (nLy + 11) + 27 * d ≤ R.locals) (hst : st = As.reverse ++ .ref b :: rest) (hrest : (rest.map fun v => v.category).sum ≤ 8) (hcs : ce + mc ≤ R.cells ∧ sl + ms ≤ R.slots) (ho : Ob G H b ci fs) (hM : AM G B l y cy nLy ret d mc ms (.ref b :: As) H (fun v H' => v = some (.int x) ∧ H' = H)) (k : AW G B l R own cc nL ini fin (pc + 3) lv (.int x :: rest) H (ce + mc) (sl + ms)) : AW G B l R own cc nL ini fin pc lv st H ce sl := a_callV hcl hin hse hci hd hR hst hrest hcs ho hM (fun v H' hp => by rw [hp.1, hp.2]; exact k)
theorem a_callVi {y : MethodName} {cy : ByteArray} {nLy d mc ms idx b ci : Nat} {ret : Option FieldType} {As rest : List Value} {fs : List Value} {x : Int32} {Φ : Heap → Prop} (hcl : CL own idx y cy nLy ret As.length) (hin : Cond.instanceMethod y ∈ wsT) (hse : Cond.selects y.cls y y ∈ wsT) (hci : ∃ q : vw_C, vwCl[ci]? = some q ∧ q.1 = y.cls) (hd : decode cc pc = .ok (.invokevirtual idx, 3)) (hR : d + 1 ≤ R.frames ∧ 8 + (nLy + 11) + 27 * d ≤ R.locals) (hst : st = As.reverse ++ .ref b :: rest) (hrest : (rest.map fun v => v.category).sum ≤ 8) (hcs : ce + mc ≤ R.cells ∧ sl + ms ≤ R.slots) (ho : Ob G H b ci fs) (hM : AM G B l y cy nLy ret d mc ms (.ref b :: As) H (fun v H' => v = some (.int x) ∧ Φ H')) (k : ∀ H', Φ H' → AW G B l R own cc nL ini fin (pc + 3) lv (.int x :: rest) H' (ce + mc) (sl + ms)) : AW G B l R own cc nL ini fin pc lv st H ce sl := a_callV hcl hin hse hci hd hR hst hrest hcs ho hM (fun v H' hp => by rw [hp.1]; exact k H' hp.2)
theorem a_callVv {y : MethodName} {cy : ByteArray} {nLy d mc ms idx b ci : Nat} {ret : Option FieldType} {As rest : List Value} {fs : List Value} {Φ : Heap → Prop} (hcl : CL own idx y cy nLy ret As.length) (hin : Cond.instanceMethod y ∈ wsT) (hse : Cond.selects y.cls y y ∈ wsT) (hci : ∃ q : vw_C, vwCl[ci]? = some q ∧ q.1 = y.cls) (hd : decode cc pc = .ok (.invokevirtual idx, 3)) (hR : d + 1 ≤ R.frames ∧ 8 + (nLy + 11) + 27 * d ≤ R.locals) (hst : st = As.reverse ++ .ref b :: rest) (hrest : (rest.map fun v => v.category).sum ≤ 8) (hcs : ce + mc ≤ R.cells ∧ sl + ms ≤ R.slots) (ho : Ob G H b ci fs) (hM : AM G B l y cy nLy ret d mc ms (.ref b :: As) H (fun v H' => v = none ∧ Φ H')) (k : ∀ H', Φ H' → AW G B l R own cc nL ini fin (pc + 3) lv rest H' (ce + mc) (sl + ms)) : AW G B l R own cc nL ini fin pc lv st H ce sl := a_callV hcl hin hse hci hd hR hst hrest hcs ho hM (fun v H' hp => by rw [hp.1]; exact k H' hp.2)
theorem a_callSp {y : MethodName} {cy : ByteArray} {nLy d mc ms idx : Nat} {ret : Option FieldType} {As rest : List Value} {x : Int32} (hcl : CL own idx y cy nLy ret As.length) (hsm : Cond.static y ∈ wsT) (hd : decode cc pc = .ok (.invokestatic idx, 3)) (hR : d + 1 ≤ R.frames ∧ 8 + (nLy + 11) + 27 * d ≤ R.locals) (hst : st = As.reverse ++ rest) (hrest : (rest.map fun v => v.category).sum ≤ 8) (hcs : ce + mc ≤ R.cells ∧ sl + ms ≤ R.slots) (hM : AM G B l y cy nLy ret d mc ms As H (fun v H' => v = some (.int x) ∧ H' = H)) (k : AW G B l R own cc nL ini fin (pc + 3) lv (.int x :: rest) H (ce + mc) (sl + ms)) : AW G B l R own cc nL ini fin pc lv st H ce sl := a_callS hcl hsm hd hR hst hrest hcs hM (fun v H' hp => by rw [hp.1, hp.2]; exact k)
theorem a_callSi {y : MethodName} {cy : ByteArray} {nLy d mc ms idx : Nat} {ret : Option FieldType} {As rest : List Value} {x : Int32} {Φ : Heap → Prop} (hcl : CL own idx y cy nLy ret As.length) (hsm : Cond.static y ∈ wsT) (hd : decode cc pc = .ok (.invokestatic idx, 3)) (hR : d + 1 ≤ R.frames ∧ 8 + (nLy + 11) + 27 * d ≤ R.locals) (hst : st = As.reverse ++ rest) (hrest : (rest.map fun v => v.category).sum ≤ 8) (hcs : ce + mc ≤ R.cells ∧ sl + ms ≤ R.slots) (hM : AM G B l y cy nLy ret d mc ms As H (fun v H' => v = some (.int x) ∧ Φ H')) (k : ∀ H', Φ H' → AW G B l R own cc nL ini fin (pc + 3) lv (.int x :: rest) H' (ce + mc) (sl + ms)) : AW G B l R own cc nL ini fin pc lv st H ce sl := a_callS hcl hsm hd hR hst hrest hcs hM (fun v H' hp => by rw [hp.1]; exact k H' hp.2)
theorem a_callSv {y : MethodName} {cy : ByteArray} {nLy d mc ms idx : Nat} {ret : Option FieldType} {As rest : List Value} {Φ : Heap → Prop} (hcl : CL own idx y cy nLy ret As.length) (hsm : Cond.static y ∈ wsT) (hd : decode cc pc = .ok (.invokestatic idx, 3)) (hR : d + 1 ≤ R.frames ∧ 8 + (nLy + 11) + 27 * d ≤ R.locals) (hst : st = As.reverse ++ rest) (hrest : (rest.map fun v => v.category).sum ≤ 8) (hcs : ce + mc ≤ R.cells ∧ sl + ms ≤ R.slots) (hM : AM G B l y cy nLy ret d mc ms As H (fun v H' => v = none ∧ Φ H')) (k : ∀ H', Φ H' → AW G B l R own cc nL ini fin (pc + 3) lv rest H' (ce + mc) (sl + ms)) : AW G B l R own cc nL ini fin pc lv st H ce sl := a_callS hcl hsm hd hR hst hrest hcs hM (fun v H' hp => by rw [hp.1]; exact k H' hp.2)
theorem a_callIv {y : MethodName} {cy : ByteArray} {nLy d mc ms idx b : Nat} {As rest : List Value} {Φ : Heap → Prop} (hcl : CL own idx y cy nLy none As.length) (hin : Cond.instanceMethod y ∈ wsT) (hy : y.name = "<init>") (hd : decode cc pc = .ok (.invokespecial idx, 3)) (hR : d + 1 ≤ R.frames ∧ 8 + (nLy + 11) + 27 * d ≤ R.locals) (hst : st = As.reverse ++ .ref b :: rest) (hrest : (rest.map fun v => v.category).sum ≤ 8) (hcs : ce + mc ≤ R.cells ∧ sl + ms ≤ R.slots) (hM : AM G B l y cy nLy none d mc ms (.ref b :: As) H (fun v H' => v = none ∧ Φ H')) (k : ∀ H', Φ H' → AW G B l R own cc nL ini fin (pc + 3) lv rest H' (ce + mc) (sl + ms)) : AW G B l R own cc nL ini fin pc lv st H ce sl := a_callI hcl hin hy hd hR hst hrest hcs hM (fun v H' hp => by rw [hp.1]; exact k H' hp.2)
theorem a_iremN {a b : Nat} (hd : decode cc pc = .ok (.irem, 1)) (ha : a < 2 ^ 31) (h0 : 0 < b) (hb : b < 2 ^ 31) (k : AW G B l R own cc nL ini fin (pc + 1) lv (.int (nI (a % b)) :: st) H ce sl) : AW G B l R own cc nL ini fin pc lv (.int (nI b) :: .int (nI a) :: st) H ce sl := fun p e s m args below meth c Q locs ls C hr hS hl => lv_irem C.1 C.2.1 hd (nI_ne0 h0 hb) (by rw [pk_rem ha h0 hb]; exact k p e s m args below meth c Q locs ls C hr hS hl)
theorem a_idivN {a b : Nat} (hd : decode cc pc = .ok (.idiv, 1)) (ha : a < 2 ^ 31) (h0 : 0 < b) (hb : b < 2 ^ 31) (k : AW G B l R own cc nL ini fin (pc + 1) lv (.int (nI (a / b)) :: st) H ce sl) : AW G B l R own cc nL ini fin pc lv (.int (nI b) :: .int (nI a) :: st) H ce sl := fun p e s m args below meth c Q locs ls C hr hS hl => lv_idiv C.1 C.2.1 hd (nI_ne0 h0 hb) (by rw [pk_div ha h0 hb]; exact k p e s m args below meth c Q locs ls C hr hS hl)
theorem a_ifeqN {a : Nat} {off : Int} (tgt : Nat) (hd : decode cc pc = .ok (.ifCond .eq off, 3)) (ht : (pc : Int) + off = (tgt : Int)) (ha : a < 2 ^ 31) (kt : a = 0 → AW G B l R own cc nL ini fin tgt lv st H ce sl) (kf : a ≠ 0 → AW G B l R own cc nL ini fin (pc + 3) lv st H ce sl) : AW G B l R own cc nL ini fin pc lv (.int (nI a) :: st) H ce sl := by
  have n0 : nI a = 0 ↔ a = 0 := by rw [← nI_0]; exact nI_eq ha (by decide)
  intro p e s m args below meth c Q locs ls C hr hS hl
  exact lv_if_eq C.1 C.2.1 hd ht (fun hc => kt (n0.mp hc) p e s m args below meth c Q locs ls C hr hS hl) (fun hc => kf (fun h => hc (n0.mpr h)) p e s m args below meth c Q locs ls C hr hS hl)
theorem a_ifneN {a : Nat} {off : Int} (tgt : Nat) (hd : decode cc pc = .ok (.ifCond .ne off, 3)) (ht : (pc : Int) + off = (tgt : Int)) (ha : a < 2 ^ 31) (kt : a ≠ 0 → AW G B l R own cc nL ini fin tgt lv st H ce sl) (kf : a = 0 → AW G B l R own cc nL ini fin (pc + 3) lv st H ce sl) : AW G B l R own cc nL ini fin pc lv (.int (nI a) :: st) H ce sl := by
  have n0 : nI a = 0 ↔ a = 0 := by rw [← nI_0]; exact nI_eq ha (by decide)
  intro p e s m args below meth c Q locs ls C hr hS hl
  exact lv_if_ne C.1 C.2.1 hd ht (fun hc => kt (fun h => hc (n0.mpr h)) p e s m args below meth c Q locs ls C hr hS hl) (fun hc => kf (n0.mp hc) p e s m args below meth c Q locs ls C hr hS hl)
theorem a_ifgtN {a : Nat} {off : Int} (tgt : Nat) (hd : decode cc pc = .ok (.ifCond .gt off, 3)) (ht : (pc : Int) + off = (tgt : Int)) (ha : a < 2 ^ 31) (kt : 0 < a → AW G B l R own cc nL ini fin tgt lv st H ce sl) (kf : a = 0 → AW G B l R own cc nL ini fin (pc + 3) lv st H ce sl) : AW G B l R own cc nL ini fin pc lv (.int (nI a) :: st) H ce sl := by
  have n0 : nI a = 0 ↔ a = 0 := by rw [← nI_0]; exact nI_eq ha (by decide)
  intro p e s m args below meth c Q locs ls C hr hS hl
  exact lv_if_gt C.1 C.2.1 hd ht (fun hc => kt (Nat.pos_of_ne_zero fun h => Int32.lt_irrefl (by have h2 := n0.mpr h; rw [h2] at hc; exact hc)) p e s m args below meth c Q locs ls C hr hS hl) (fun hc => kf (Nat.eq_zero_of_not_pos fun h => hc (nI_lt (a := 0) h ha)) p e s m args below meth c Q locs ls C hr hS hl)
theorem a_ifleN {a : Nat} {off : Int} (tgt : Nat) (hd : decode cc pc = .ok (.ifCond .le off, 3)) (ht : (pc : Int) + off = (tgt : Int)) (ha : a < 2 ^ 31) (kt : a = 0 → AW G B l R own cc nL ini fin tgt lv st H ce sl) (kf : 0 < a → AW G B l R own cc nL ini fin (pc + 3) lv st H ce sl) : AW G B l R own cc nL ini fin pc lv (.int (nI a) :: st) H ce sl := by
  have n0 : nI a = 0 ↔ a = 0 := by rw [← nI_0]; exact nI_eq ha (by decide)
  intro p e s m args below meth c Q locs ls C hr hS hl
  exact lv_if_le C.1 C.2.1 hd ht (fun hc => kt (Nat.eq_zero_of_not_pos fun h => nI_nle h ha hc) p e s m args below meth c Q locs ls C hr hS hl) (fun hc => kf (Nat.pos_of_ne_zero fun h => hc (by rw [n0.mpr h]; exact Int32.le_refl _)) p e s m args below meth c Q locs ls C hr hS hl)
theorem a_ifltN {a : Nat} {off : Int} (tgt : Nat) (hd : decode cc pc = .ok (.ifCond .lt off, 3)) (ht : (pc : Int) + off = (tgt : Int)) (ha : a < 2 ^ 31) (kt : False → AW G B l R own cc nL ini fin tgt lv st H ce sl) (kf : True → AW G B l R own cc nL ini fin (pc + 3) lv st H ce sl) : AW G B l R own cc nL ini fin pc lv (.int (nI a) :: st) H ce sl := fun p e s m args below meth c Q locs ls C hr hS hl => lv_if_lt C.1 C.2.1 hd ht (fun hc => (nI_pos ha hc).elim) (fun _ => kf trivial p e s m args below meth c Q locs ls C hr hS hl)
theorem a_ifgeN {a : Nat} {off : Int} (tgt : Nat) (hd : decode cc pc = .ok (.ifCond .ge off, 3)) (ht : (pc : Int) + off = (tgt : Int)) (ha : a < 2 ^ 31) (kt : True → AW G B l R own cc nL ini fin tgt lv st H ce sl) (kf : False → AW G B l R own cc nL ini fin (pc + 3) lv st H ce sl) : AW G B l R own cc nL ini fin pc lv (.int (nI a) :: st) H ce sl := fun p e s m args below meth c Q locs ls C hr hS hl => lv_if_ge C.1 C.2.1 hd ht (fun _ => kt trivial p e s m args below meth c Q locs ls C hr hS hl) (fun hc => (hc (nI_pos' ha)).elim)
theorem mnN {a b : Nat} (ha : a < 2 ^ 31) (hb : b < 2 ^ 31) : (if nI b < nI a then nI b else nI a) = nI (min a b) := by
  by_cases h : b < a
  · rw [if_pos ((nI_ltI hb ha).mpr h), Nat.min_eq_right (Nat.le_of_lt h)]
  · rw [if_neg (fun q => h ((nI_ltI hb ha).mp q)), Nat.min_eq_left (Nat.not_lt.mp h)]
theorem mxN {a b : Nat} (ha : a < 2 ^ 31) (hb : b < 2 ^ 31) : (if nI a < nI b then nI b else nI a) = nI (max a b) := by
  by_cases h : a < b
  · rw [if_pos ((nI_ltI ha hb).mpr h), Nat.max_eq_right (Nat.le_of_lt h)]
  · rw [if_neg (fun q => h ((nI_ltI ha hb).mp q)), Nat.max_eq_left (Nat.not_lt.mp h)]
end AX2
/-! ===== END ===== -/
end
section
/-! ===== BEGIN what the box is, in numbers; both programs are tied to these ===== -/
def abI (x : Int32) : Int32 := if 0 ≤ x then x else 0 - x
/-- how far two SOUNDS are apart -/
def apF (a b : Int32) : Int32 := abI (a / 100 - b / 100) + abI (a / 10 % 10 - b / 10 % 10) + abI (a % 10 - b % 10)
/-- a SOUND shifted -/
def shF (s b : Int32) : Int32 := (s / 100 + b / 100) % 10 * 100 + (s / 10 + b / 10) % 10 * 10 + (s + b) % 10
/-- what is so (section 2): a row of 27 numbers: 8 SOUNDS, 8 USUAL, 8 of THE LIST, HEARD, CROSS, the GUESS -/
abbrev DD : Type := Nat → Int32
def wtF (dd : DD) (w : Nat) (s : Int32) : Int32 := (dd (8 + w) + 1) * (28 - apF (dd w) s)
/-- the best WORD and its WEIGHT among the first k -/
def gsF (dd : DD) (s : Int32) : Nat → Int32 × Int32
  | 0 => (-1, 0)
  | k + 1 => if (gsF dd s k).2 < wtF dd k s then (nI k, wtF dd k s) else gsF dd s k
def guF (n : Nat) (dd : DD) (s : Int32) : Int32 := (gsF dd s n).1
/-- WEIGHTS of the first k together -/
def smF (dd : DD) (s : Int32) : Nat → Int32
  | 0 => 0
  | k + 1 => smF dd s k + wtF dd k s
def ceF (n : Nat) (dd : DD) (w : Nat) (s : Int32) : Int32 := if smF dd s n ≤ 0 then 0 else ((wtF dd w s).toInt64 * 1000000 / (smF dd s n).toInt64).toInt32
/-- all on THE LIST, of the first k -/
def liF (dd : DD) : Nat → Int32
  | 0 => 0
  | k + 1 => liF dd k + dd (16 + k)
/-- the least distance to the first k WORDS, 27 at most -/
def neF (dd : DD) (s : Int32) : Nat → Int32
  | 0 => 27
  | k + 1 => if apF (dd k) s < neF dd s k then apF (dd k) s else neF dd s k
/-- a BeansBox.Deeds at d with its rows behind it -/
def Dd (G : GT) (H : Heap) (d n : Nat) (dd : DD) : Prop := ∃ fS fU fO : Nat → Int32, Ob G H d 0 [.int (nI n), .ref (d + 1), .ref (d + 2), .ref (d + 3), .int (dd 25), .int (dd 24), .int (dd 26)] ∧ Ai G H (d + 1) 8 fS ∧ Ai G H (d + 2) 8 fU ∧ Ai G H (d + 3) 8 fO ∧ (∀ i, i < n → fS i = dd i) ∧ (∀ i, i < n → fU i = dd (8 + i)) ∧ (∀ i, i < n → fO i = dd (16 + i)) ∧ n ≤ 8
theorem Dd.kept {G : GT} {H H1 : Heap} {d n : Nat} {dd : DD} (h : Dd G H d n dd) (hq : ∀ q, d ≤ q → q < d + 4 → H1[q]? = H[q]?) : Dd G H1 d n dd := by
  obtain ⟨fS, fU, fO, h1, h2, h3, h4, h5⟩ := h
  exact ⟨fS, fU, fO, h1.kept (hq _ (by omega) (by omega)), h2.kept (hq _ (by omega) (by omega)), h3.kept (hq _ (by omega) (by omega)), h4.kept (hq _ (by omega) (by omega)), h5⟩
theorem Dd.mk' {G : GT} {H : Heap} {d n : Nat} {dd : DD} {fS fU fO : Nat → Int32} {x24 x25 x26 : Int32} (hd : Ob G H d 0 [.int (nI n), .ref (d + 1), .ref (d + 2), .ref (d + 3), .int x25, .int x24, .int x26]) (hs : Ai G H (d + 1) 8 fS) (hu : Ai G H (d + 2) 8 fU) (ho : Ai G H (d + 3) 8 fO) (hn : n ≤ 8) (e25 : x25 = dd 25) (e24 : x24 = dd 24) (e26 : x26 = dd 26) (eS : ∀ i, i < n → fS i = dd i) (eU : ∀ i, i < n → fU i = dd (8 + i)) (eO : ∀ i, i < n → fO i = dd (16 + i)) : Dd G H d n dd := by
  subst e25; subst e24; subst e26
  exact ⟨fS, fU, fO, hd, hs, hu, ho, eS, eU, eO, hn⟩
theorem Dd.congr {G : GT} {H : Heap} {d n : Nat} {dd dd' : DD} (h : Dd G H d n dd) (h1 : ∀ i, i < n → dd i = dd' i ∧ dd (8 + i) = dd' (8 + i) ∧ dd (16 + i) = dd' (16 + i)) (h2 : dd 24 = dd' 24) (h3 : dd 25 = dd' 25) (h4 : dd 26 = dd' 26) : Dd G H d n dd' := by
  obtain ⟨fS, fU, fO, g1, g2, g3, g4, g5, g6, g7, g8⟩ := h
  rw [h2, h3, h4] at g1
  exact ⟨fS, fU, fO, g1, g2, g3, g4, fun i hi => (g5 i hi).trans (h1 i hi).1, fun i hi => (g6 i hi).trans (h1 i hi).2.1, fun i hi => (g7 i hi).trans (h1 i hi).2.2, g8⟩
/-! ===== END ===== -/
/-! ===== BEGIN what changes ===== -/
def wIx (n : Nat) (w : Int32) : Bool := decide (0 ≤ w) && decide (w < nI n)
theorem wIx_f1 {n : Nat} {w : Int32} (h : w < 0) : wIx n w = false := by
  unfold wIx
  rw [decide_eq_false (Int32.not_le.mpr h)]; rfl
theorem wIx_f2 {n : Nat} {w : Int32} (h : nI n ≤ w) : wIx n w = false := by
  unfold wIx
  rw [decide_eq_false (Int32.not_lt.mpr h), Bool.and_false]
theorem wIx_t {n : Nat} {w : Int32} (h : ¬ w < 0) (h2 : ¬ nI n ≤ w) : wIx n w = true := by
  unfold wIx
  rw [decide_eq_true (Int32.not_lt.mp h), decide_eq_true (Int32.not_le.mp h2)]; rfl
theorem wIx_nI {n k : Nat} (hk : k < n) (hn : n < 2 ^ 31) : wIx n (nI k) = true := wIx_t (nI_pos (by omega)) (nI_ge hk hn)
theorem wIx_of {n : Nat} {w : Int32} (hn : n < 2 ^ 31) (h : wIx n w = true) : ∃ k, k < n ∧ w = nI k := by
  rcases pk_ix w hn with h1 | h1 | h1
  · rw [wIx_f1 h1] at h; cases h
  · rw [wIx_f2 h1] at h; cases h
  · exact h1
def mnF (x : Int32) : Int32 := if 99 < x then 99 else x
def lsF (x : Int32) : Int32 := if x - 1 < 0 then 0 else x - 1
/-- a WORD once more on THE LIST -/
def puF (dd : DD) (w : Nat) : DD := upd dd (16 + w) (mnF (dd (16 + w) + 1))
/-- HEARD: the GUESS g, what it does -/
def hrF (dd : DD) (g : Nat) (what : Int32) : DD := fun i => if i = 26 then nI g else if i = 24 then dd 24 + 1 else if i = 25 then (if what = 1 then dd 25 + 1 else dd 25) else if i = 16 + g then (if what = 0 then mnF (dd (16 + g) + 1) else dd (16 + g)) else dd i
/-- LET BE: the GUESS g -/
def cfF (dd : DD) (g : Nat) : DD := fun i => if i = 26 then -1 else if i = 8 + g then mnF (dd (8 + g) + 1) else dd i
/-- TAKEN BACK: the GUESS g had been w -/
def crF (dd : DD) (g w : Nat) : DD := fun i => if i = 26 then -1 else if i = 16 + g then lsF (dd (16 + g)) else if i = 8 + g then lsF (dd (8 + g)) else if i = 8 + w then mnF (dd (8 + w) + 2) else if i = 16 + w then mnF (dd (16 + w) + 1) else dd i
/-- a kitchen begins -/
def bgF (kS kU : DD) : DD := fun i => if i < 8 then kS i else if i < 16 then kU (i - 8) else if i = 26 then -1 else 0
theorem i64_ne0 {b : Int32} (h : 0 < b) : ¬ b.toInt64 = 0 := fun h0 => by
  have h1 := Int32.toInt64_lt.mpr h
  rw [h0] at h1
  exact absurd h1 (by decide)
theorem upd_to {g e : Nat → Int32} {k : Nat} {x : Int32} (h : ∀ i, i < k → g i = e i) (hx : x = e k) : ∀ i, i < k + 1 → upd g k x i = e i := by
  intro i hi
  unfold upd
  split
  · next q => rw [q]; exact hx
  · exact h i (by omega)
/-- a BeansBox.Kitchen at k with its rows behind it -/
def Kt (G : GT) (H : Heap) (k : Nat) (kb : Bool) (ka ks kw : Int32) (n nv : Nat) (kS kU kK kV : DD) : Prop := ∃ fS fU fK fV : DD, Ob G H k 2 [.int (bI kb), .int ka, .int ks, .int kw, .int (nI n), .int (nI nv), .ref (k + 1), .ref (k + 2), .ref (k + 3), .ref (k + 4)] ∧ Ai G H (k + 1) 8 fS ∧ Ai G H (k + 2) 8 fU ∧ Ai G H (k + 3) 8 fK ∧ Ai G H (k + 4) 4 fV ∧ (∀ i, i < n → fS i = kS i) ∧ (∀ i, i < n → fU i = kU i) ∧ (∀ i, i < n → fK i = kK i) ∧ (∀ i, i < nv → fV i = kV i) ∧ n ≤ 8 ∧ nv ≤ 4
theorem Kt.kept {G : GT} {H H1 : Heap} {k : Nat} {kb : Bool} {ka ks kw : Int32} {n nv : Nat} {kS kU kK kV : DD} (h : Kt G H k kb ka ks kw n nv kS kU kK kV) (hq : ∀ q, k ≤ q → q < k + 5 → H1[q]? = H[q]?) : Kt G H1 k kb ka ks kw n nv kS kU kK kV := by
  obtain ⟨fS, fU, fK, fV, h1, h2, h3, h4, h5, h6⟩ := h
  exact ⟨fS, fU, fK, fV, h1.kept (hq _ (by omega) (by omega)), h2.kept (hq _ (by omega) (by omega)), h3.kept (hq _ (by omega) (by omega)), h4.kept (hq _ (by omega) (by omega)), h5.kept (hq _ (by omega) (by omega)), h6⟩
/-! ===== END ===== -/
end
section
set_option maxHeartbeats 4000000 in
set_option maxRecDepth 100000 in
theorem c_X6_apart {G : GT} {B : Nat} {l : Launch} {H : Heap} {a b : Int32} : AM G B l yX6_apart cX6_apart 2 (some .int) 1 0 0 [.int a, .int b] H (fun v H' => v = some (.int (apF a b)) ∧ (H' = H)) := by
  refine AM.ofI (lv := [(0, .int a), (1, .int b)]) (by decide +kernel) (Nat.le_of_ble_eq_true rfl) rfl ?_ (fun _ h => by cases h.1)
  refine a_iload_n 0 dX6_apart_0 rfl rfl ?_
  refine a_bipush 100 dX6_apart_1 (by decide) ?_
  refine a_idiv dX6_apart_3 (by decide) ?_
  refine a_iload_n 1 dX6_apart_4 rfl rfl ?_
  refine a_bipush 100 dX6_apart_5 (by decide) ?_
  refine a_idiv dX6_apart_7 (by decide) ?_
  refine a_isub dX6_apart_8 ?_
  refine a_abs ml_X6_260 dX6_apart_9 (Nat.le_of_ble_eq_true rfl) (Nat.le_of_ble_eq_true rfl) ⟨Nat.le_of_ble_eq_true rfl, Nat.le_of_ble_eq_true rfl⟩ ?_
  refine a_toeq (abI ((a / 100) - (b / 100))) rfl ?_
  refine a_iload_n 0 dX6_apart_12 rfl rfl ?_
  refine a_bipush 10 dX6_apart_13 (by decide) ?_
  refine a_idiv dX6_apart_15 (by decide) ?_
  refine a_bipush 10 dX6_apart_16 (by decide) ?_
  refine a_irem dX6_apart_18 (by decide) ?_
  refine a_iload_n 1 dX6_apart_19 rfl rfl ?_
  refine a_bipush 10 dX6_apart_20 (by decide) ?_
  refine a_idiv dX6_apart_22 (by decide) ?_
  refine a_bipush 10 dX6_apart_23 (by decide) ?_
  refine a_irem dX6_apart_25 (by decide) ?_
  refine a_isub dX6_apart_26 ?_
  refine a_abs ml_X6_260 dX6_apart_27 (Nat.le_of_ble_eq_true rfl) (Nat.le_of_ble_eq_true rfl) ⟨Nat.le_of_ble_eq_true rfl, Nat.le_of_ble_eq_true rfl⟩ ?_
  refine a_toeq (abI (((a / 10) % 10) - ((b / 10) % 10))) rfl ?_
  refine a_iadd dX6_apart_30 ?_
  refine a_iload_n 0 dX6_apart_31 rfl rfl ?_
  refine a_bipush 10 dX6_apart_32 (by decide) ?_
  refine a_irem dX6_apart_34 (by decide) ?_
  refine a_iload_n 1 dX6_apart_35 rfl rfl ?_
  refine a_bipush 10 dX6_apart_36 (by decide) ?_
  refine a_irem dX6_apart_38 (by decide) ?_
  refine a_isub dX6_apart_39 ?_
  refine a_abs ml_X6_260 dX6_apart_40 (Nat.le_of_ble_eq_true rfl) (Nat.le_of_ble_eq_true rfl) ⟨Nat.le_of_ble_eq_true rfl, Nat.le_of_ble_eq_true rfl⟩ ?_
  refine a_toeq (abI ((a % 10) - (b % 10))) rfl ?_
  refine a_iadd dX6_apart_43 ?_
  refine a_ret dX6_apart_44 ⟨⟨ri ?_, ?_⟩, rfl, rfl⟩
  · rfl
  · rfl
set_option maxHeartbeats 4000000 in
set_option maxRecDepth 100000 in
theorem c_X0_weight {G : GT} {B : Nat} {l : Launch} {H : Heap} {d n : Nat} {dd : DD} {w : Nat} {snd : Int32} (hD : Dd G H d n dd) (hw : w < n) : AM G B l yX0_weight cX0_weight 3 (some .int) 2 0 0 [.ref d, .int (nI w), .int snd] H (fun v H' => v = some (.int (wtF dd w snd)) ∧ (H' = H)) := by
  obtain ⟨fS, fU, fO, hd, hs, hu, ho, eS, eU, eO, hn⟩ := hD
  refine AM.ofI (lv := [(0, .ref d), (1, .int (nI w)), (2, .int snd)]) (by decide +kernel) (Nat.le_of_ble_eq_true rfl) rfl ?_ (fun _ h => by cases h.1)
  refine a_aload_n 0 dX0_weight_0 rfl rfl ?_
  refine a_get f_X0_19 dX0_weight_1 hd rfl ?_
  refine a_iload_n 1 dX0_weight_4 rfl rfl ?_
  refine a_ialdN (j := w) dX0_weight_5 hu (by omega) (by decide) ?_
  refine a_toeq (dd (8 + w)) (eU _ (by omega)) ?_
  refine a_iconst 1 dX0_weight_6 (by decide) ?_
  refine a_iadd dX0_weight_7 ?_
  refine a_bipush 28 dX0_weight_8 (by decide) ?_
  refine a_aload_n 0 dX0_weight_10 rfl rfl ?_
  refine a_get f_X0_15 dX0_weight_11 hd rfl ?_
  refine a_iload_n 1 dX0_weight_14 rfl rfl ?_
  refine a_ialdN (j := w) dX0_weight_15 hs (by omega) (by decide) ?_
  refine a_toeq (dd w) (eS _ (by omega)) ?_
  refine a_iload_n 2 dX0_weight_16 rfl rfl ?_
  refine a_callSp (As := [.int (dd w), .int snd]) (rest := [.int 28, .int ((dd (8 + w)) + 1)]) (d := 1) (mc := 0) (ms := 0) (x := apF (dd w) snd) l_X0_39 st_X6_apart dX0_weight_17 ⟨Nat.le_of_ble_eq_true rfl, Nat.le_of_ble_eq_true rfl⟩ rfl (Nat.le_of_ble_eq_true rfl) ⟨Nat.le_of_ble_eq_true rfl, Nat.le_of_ble_eq_true rfl⟩ (c_X6_apart) ?_
  refine a_isub dX0_weight_20 ?_
  refine a_imul dX0_weight_21 ?_
  refine a_ret dX0_weight_22 ⟨⟨ri ?_, ?_⟩, rfl, rfl⟩
  · rfl
  · rfl
set_option maxHeartbeats 4000000 in
set_option maxRecDepth 100000 in
theorem c_X0_strongest {G : GT} {B : Nat} {l : Launch} {H : Heap} {d n : Nat} {dd : DD} {snd : Int32} (hD : Dd G H d n dd) : AM G B l yX0_strongest cX0_strongest 6 (some .int) 3 0 0 [.ref d, .int snd] H (fun v H' => v = some (.int (guF n dd snd)) ∧ (H' = H)) := by
  have hD0 := hD
  obtain ⟨fS, fU, fO, hd, hs, hu, ho, eS, eU, eO, hn⟩ := hD
  refine AM.ofI (lv := [(0, .ref d), (1, .int snd)]) (by decide +kernel) (Nat.le_of_ble_eq_true rfl) rfl ?_ (fun _ h => by cases h.1)
  refine a_iconst (-1) dX0_strongest_0 (by decide) ?_
  refine a_istore_n (lv' := [(2, .int (-1)), (0, .ref d), (1, .int snd)]) dX0_strongest_1 rfl (by decide) rfl ?_
  refine a_iconst 0 dX0_strongest_2 (by decide) ?_
  refine a_istore_n (lv' := [(3, .int 0), (2, .int (-1)), (0, .ref d), (1, .int snd)]) dX0_strongest_3 rfl (by decide) rfl ?_
  refine a_iconst 0 dX0_strongest_4 (by decide) ?_
  refine a_istore (lv' := [(4, .int 0), (3, .int 0), (2, .int (-1)), (0, .ref d), (1, .int snd)]) dX0_strongest_5 (by decide) rfl ?_
  have L7 : ∀ (fu : Nat) (k : Nat) (b m : Int32), k ≤ n → gsF dd snd k = (b, m) → n - k < fu → AW G B l { frames := 3, cells := 0, slots := 0, locals := 27 * 3 } yX0_strongest.cls cX0_strongest 6 false (fun v H' ce' sl' => (v = some (.int (guF n dd snd)) ∧ (H' = H)) ∧ ce' = 0 ∧ sl' = 0) 7 [(0, .ref d), (1, .int snd), (2, .int b), (3, .int m), (4, .int (nI k))] [] H 0 0 := by
    intro fu
    induction fu with
    | zero => intro k b m hk hg hm7; exact absurd hm7 (Nat.not_lt_zero _)
    | succ fu ih7 =>
      intro k b m hk hg hm7
      refine a_iload 4 dX0_strongest_7 rfl ?_
      refine a_aload_n 0 dX0_strongest_9 rfl rfl ?_
      refine a_get f_X0_9 dX0_strongest_10 hd rfl ?_
      refine a_icmpgeN (a := k) (b := n) 43 dX0_strongest_13 (by decide) (by omega) (by omega) (fun c13 => ?_) (fun c13 => ?_)
      · skip
        refine a_iload_n 2 dX0_strongest_43 rfl rfl ?_
        refine a_ret dX0_strongest_44 ⟨⟨ri ?_, ?_⟩, rfl, rfl⟩
        · unfold guF
          rw [show n = k by omega, hg]
        · rfl
      · skip
        refine a_aload_n 0 dX0_strongest_16 rfl rfl ?_
        refine a_iload 4 dX0_strongest_17 rfl ?_
        refine a_iload_n 1 dX0_strongest_19 rfl rfl ?_
        refine a_callVp (As := [.int (nI k), .int snd]) (rest := []) (d := 2) (mc := 0) (ms := 0) (x := wtF dd k snd) (ci := 0) l_X0_43 im_X0_weight se_X0_weight ⟨_, rfl, rfl⟩ dX0_strongest_20 ⟨Nat.le_of_ble_eq_true rfl, Nat.le_of_ble_eq_true rfl⟩ rfl (Nat.le_of_ble_eq_true rfl) ⟨Nat.le_of_ble_eq_true rfl, Nat.le_of_ble_eq_true rfl⟩ hd (c_X0_weight hD0 (by omega)) ?_
        refine a_istore (lv' := [(5, .int (wtF dd k snd)), (0, .ref d), (1, .int snd), (2, .int b), (3, .int m), (4, .int (nI k))]) dX0_strongest_23 (by decide) rfl ?_
        refine a_iload 0 dX0_strongest_25 rfl ?_
        refine a_iload_n 4 dX0_strongest_27 rfl rfl ?_
        refine a_icmple 37 dX0_strongest_28 (by decide) (fun c28 => ?_) (fun c28 => ?_)
        · skip
          have c28 := Int32.not_lt.mpr c28
          refine a_iincN (q := 5) (lv' := [(4, .int (nI (k + 1))), (5, .int (wtF dd k snd)), (0, .ref d), (1, .int snd), (2, .int b), (3, .int m)]) dX0_strongest_37 rfl (by decide) rfl ?_
          refine a_goto 7 dX0_strongest_40 (by decide) ?_
          refine a_sub [2, 3, 4, 5, 0] rfl ?_
          exact ih7 _ _ _ (by omega) (by simp only [gsF, hg]; first | rw [if_pos c28] | rw [if_neg c28]) (by omega)
        · skip
          have c28 := Int32.not_le.mp c28
          refine a_iload 5 dX0_strongest_31 rfl ?_
          refine a_istore_n (lv' := [(2, .int (nI k)), (5, .int (wtF dd k snd)), (0, .ref d), (1, .int snd), (3, .int m), (4, .int (nI k))]) dX0_strongest_33 rfl (by decide) rfl ?_
          refine a_iload 1 dX0_strongest_34 rfl ?_
          refine a_istore_n (lv' := [(3, .int (wtF dd k snd)), (2, .int (nI k)), (5, .int (wtF dd k snd)), (0, .ref d), (1, .int snd), (4, .int (nI k))]) dX0_strongest_36 rfl (by decide) rfl ?_
          refine a_iincN (q := 5) (lv' := [(4, .int (nI (k + 1))), (3, .int (wtF dd k snd)), (2, .int (nI k)), (5, .int (wtF dd k snd)), (0, .ref d), (1, .int snd)]) dX0_strongest_37 rfl (by decide) rfl ?_
          refine a_goto 7 dX0_strongest_40 (by decide) ?_
          refine a_sub [4, 5, 2, 1, 0] rfl ?_
          exact ih7 _ _ _ (by omega) (by simp only [gsF, hg]; first | rw [if_pos c28] | rw [if_neg c28]) (by omega)
  refine a_sub [3, 4, 2, 1, 0] rfl ?_
  exact L7 _ 0 (-1) 0 (Nat.zero_le _) rfl (Nat.lt_succ_self _)
set_option maxHeartbeats 4000000 in
set_option maxRecDepth 100000 in
theorem c_X0_allOnList {G : GT} {B : Nat} {l : Launch} {H : Heap} {d n : Nat} {dd : DD} (hD : Dd G H d n dd) : AM G B l yX0_allOnList cX0_allOnList 3 (some .int) 1 0 0 [.ref d] H (fun v H' => v = some (.int (liF dd n)) ∧ (H' = H)) := by
  obtain ⟨fS, fU, fO, hd, hs, hu, ho, eS, eU, eO, hn⟩ := hD
  refine AM.ofI (lv := [(0, .ref d)]) (by decide +kernel) (Nat.le_of_ble_eq_true rfl) rfl ?_ (fun _ h => by cases h.1)
  refine a_iconst 0 dX0_allOnList_0 (by decide) ?_
  refine a_istore_n (lv' := [(1, .int 0), (0, .ref d)]) dX0_allOnList_1 rfl (by decide) rfl ?_
  refine a_iconst 0 dX0_allOnList_2 (by decide) ?_
  refine a_istore_n (lv' := [(2, .int 0), (1, .int 0), (0, .ref d)]) dX0_allOnList_3 rfl (by decide) rfl ?_
  have L4 : ∀ (fu : Nat) (k : Nat) (b : Int32), k ≤ n → b = liF dd k → n - k < fu → AW G B l { frames := 1, cells := 0, slots := 0, locals := 27 * 1 } yX0_allOnList.cls cX0_allOnList 3 false (fun v H' ce' sl' => (v = some (.int (liF dd n)) ∧ (H' = H)) ∧ ce' = 0 ∧ sl' = 0) 4 [(0, .ref d), (1, .int b), (2, .int (nI k))] [] H 0 0 := by
    intro fu
    induction fu with
    | zero => intro k b hk hg hm4; exact absurd hm4 (Nat.not_lt_zero _)
    | succ fu ih4 =>
      intro k b hk hg hm4
      refine a_iload_n 2 dX0_allOnList_4 rfl rfl ?_
      refine a_aload_n 0 dX0_allOnList_5 rfl rfl ?_
      refine a_get f_X0_9 dX0_allOnList_6 hd rfl ?_
      refine a_icmpgeN (a := k) (b := n) 27 dX0_allOnList_9 (by decide) (by omega) (by omega) (fun c9 => ?_) (fun c9 => ?_)
      · skip
        refine a_iload_n 1 dX0_allOnList_27 rfl rfl ?_
        refine a_ret dX0_allOnList_28 ⟨⟨ri ?_, ?_⟩, rfl, rfl⟩
        · rw [hg, show n = k by omega]
        · rfl
      · skip
        refine a_iload_n 1 dX0_allOnList_12 rfl rfl ?_
        refine a_aload_n 0 dX0_allOnList_13 rfl rfl ?_
        refine a_get f_X0_22 dX0_allOnList_14 hd rfl ?_
        refine a_iload_n 2 dX0_allOnList_17 rfl rfl ?_
        refine a_ialdN (j := k) dX0_allOnList_18 ho (by omega) (by decide) ?_
        refine a_toeq (dd (16 + k)) (eO _ (by omega)) ?_
        refine a_iadd dX0_allOnList_19 ?_
        refine a_istore_n (lv' := [(1, .int (b + (dd (16 + k)))), (0, .ref d), (2, .int (nI k))]) dX0_allOnList_20 rfl (by decide) rfl ?_
        refine a_iincN (q := 2) (lv' := [(2, .int (nI (k + 1))), (1, .int (b + (dd (16 + k)))), (0, .ref d)]) dX0_allOnList_21 rfl (by decide) rfl ?_
        refine a_goto 4 dX0_allOnList_24 (by decide) ?_
        refine a_sub [2, 1, 0] rfl ?_
        exact ih4 _ _ (by omega) (by rw [hg]; rfl) (by omega)
  refine a_sub [2, 1, 0] rfl ?_
  exact L4 _ 0 0 (Nat.zero_le _) rfl (Nat.lt_succ_self _)
set_option maxHeartbeats 4000000 in
set_option maxRecDepth 100000 in
theorem c_X0_certainty {G : GT} {B : Nat} {l : Launch} {H : Heap} {d n : Nat} {dd : DD} {w : Nat} {snd : Int32} (hD : Dd G H d n dd) (hw : w < n) : AM G B l yX0_certainty cX0_certainty 5 (some .int) 3 0 0 [.ref d, .int (nI w), .int snd] H (fun v H' => v = some (.int (ceF n dd w snd)) ∧ (H' = H)) := by
  have hD0 := hD
  obtain ⟨fS, fU, fO, hd, hs, hu, ho, eS, eU, eO, hn⟩ := hD
  refine AM.ofI (lv := [(0, .ref d), (1, .int (nI w)), (2, .int snd)]) (by decide +kernel) (Nat.le_of_ble_eq_true rfl) rfl ?_ (fun _ h => by cases h.1)
  refine a_iconst 0 dX0_certainty_0 (by decide) ?_
  refine a_istore_n (lv' := [(3, .int 0), (0, .ref d), (1, .int (nI w)), (2, .int snd)]) dX0_certainty_1 rfl (by decide) rfl ?_
  refine a_iconst 0 dX0_certainty_2 (by decide) ?_
  refine a_istore (lv' := [(4, .int 0), (3, .int 0), (0, .ref d), (1, .int (nI w)), (2, .int snd)]) dX0_certainty_3 (by decide) rfl ?_
  have L5 : ∀ (fu : Nat) (k : Nat) (b : Int32), k ≤ n → b = smF dd snd k → n - k < fu → AW G B l { frames := 3, cells := 0, slots := 0, locals := 27 * 3 } yX0_certainty.cls cX0_certainty 5 false (fun v H' ce' sl' => (v = some (.int (ceF n dd w snd)) ∧ (H' = H)) ∧ ce' = 0 ∧ sl' = 0) 5 [(0, .ref d), (1, .int (nI w)), (2, .int snd), (3, .int b), (4, .int (nI k))] [] H 0 0 := by
    intro fu
    induction fu with
    | zero => intro k b hk hg hm5; exact absurd hm5 (Nat.not_lt_zero _)
    | succ fu ih5 =>
      intro k b hk hg hm5
      refine a_iload 4 dX0_certainty_5 rfl ?_
      refine a_aload_n 0 dX0_certainty_7 rfl rfl ?_
      refine a_get f_X0_9 dX0_certainty_8 hd rfl ?_
      refine a_icmpgeN (a := k) (b := n) 30 dX0_certainty_11 (by decide) (by omega) (by omega) (fun c11 => ?_) (fun c11 => ?_)
      · skip
        refine a_iload_n 3 dX0_certainty_30 rfl rfl ?_
        have hkn : k = n := by omega
        subst hkn
        refine a_ifgt 38 dX0_certainty_31 (by decide) (fun c31 => ?_) (fun c31 => ?_)
        · skip
          refine a_aload_n 0 dX0_certainty_38 rfl rfl ?_
          refine a_iload_n 1 dX0_certainty_39 rfl rfl ?_
          refine a_iload_n 2 dX0_certainty_40 rfl rfl ?_
          refine a_callVp (As := [.int (nI w), .int snd]) (rest := []) (d := 2) (mc := 0) (ms := 0) (x := wtF dd w snd) (ci := 0) l_X0_43 im_X0_weight se_X0_weight ⟨_, rfl, rfl⟩ dX0_certainty_41 ⟨Nat.le_of_ble_eq_true rfl, Nat.le_of_ble_eq_true rfl⟩ rfl (Nat.le_of_ble_eq_true rfl) ⟨Nat.le_of_ble_eq_true rfl, Nat.le_of_ble_eq_true rfl⟩ hd (c_X0_weight hD0 hw) ?_
          refine a_i2l dX0_certainty_44 ?_
          refine a_ldc2 1000000 k_X0_46 dX0_certainty_45 ?_
          refine a_lmul dX0_certainty_48 ?_
          refine a_iload_n 3 dX0_certainty_49 rfl rfl ?_
          refine a_i2l dX0_certainty_50 ?_
          refine a_ldiv dX0_certainty_51 (i64_ne0 c31) ?_
          refine a_l2i dX0_certainty_52 ?_
          refine a_ret dX0_certainty_53 ⟨⟨ri ?_, ?_⟩, rfl, rfl⟩
          · unfold ceF
            rw [← hg]
            rw [if_neg (Int32.not_le.mpr c31)]
          · rfl
        · skip
          refine a_iconst 0 dX0_certainty_34 (by decide) ?_
          refine a_goto 53 dX0_certainty_35 (by decide) ?_
          refine a_ret dX0_certainty_53 ⟨⟨ri ?_, ?_⟩, rfl, rfl⟩
          · unfold ceF
            rw [← hg]
            rw [if_pos (Int32.not_lt.mp c31)]
          · rfl
      · skip
        refine a_iload_n 3 dX0_certainty_14 rfl rfl ?_
        refine a_aload_n 0 dX0_certainty_15 rfl rfl ?_
        refine a_iload 4 dX0_certainty_16 rfl ?_
        refine a_iload_n 2 dX0_certainty_18 rfl rfl ?_
        refine a_callVp (As := [.int (nI k), .int snd]) (rest := [.int b]) (d := 2) (mc := 0) (ms := 0) (x := wtF dd k snd) (ci := 0) l_X0_43 im_X0_weight se_X0_weight ⟨_, rfl, rfl⟩ dX0_certainty_19 ⟨Nat.le_of_ble_eq_true rfl, Nat.le_of_ble_eq_true rfl⟩ rfl (Nat.le_of_ble_eq_true rfl) ⟨Nat.le_of_ble_eq_true rfl, Nat.le_of_ble_eq_true rfl⟩ hd (c_X0_weight hD0 (by omega)) ?_
        refine a_iadd dX0_certainty_22 ?_
        refine a_istore_n (lv' := [(3, .int (b + (wtF dd k snd))), (0, .ref d), (1, .int (nI w)), (2, .int snd), (4, .int (nI k))]) dX0_certainty_23 rfl (by decide) rfl ?_
        refine a_iincN (q := 4) (lv' := [(4, .int (nI (k + 1))), (3, .int (b + (wtF dd k snd))), (0, .ref d), (1, .int (nI w)), (2, .int snd)]) dX0_certainty_24 rfl (by decide) rfl ?_
        refine a_goto 5 dX0_certainty_27 (by decide) ?_
        refine a_sub [2, 3, 4, 1, 0] rfl ?_
        exact ih5 _ _ (by omega) (by rw [hg]; rfl) (by omega)
  refine a_sub [2, 3, 4, 1, 0] rfl ?_
  exact L5 _ 0 0 (Nat.zero_le _) rfl (Nat.lt_succ_self _)
set_option maxHeartbeats 4000000 in
set_option maxRecDepth 100000 in
theorem c_X0_nearest {G : GT} {B : Nat} {l : Launch} {H : Heap} {d n : Nat} {dd : DD} {snd : Int32} (hD : Dd G H d n dd) : AM G B l yX0_nearest cX0_nearest 4 (some .int) 2 0 0 [.ref d, .int snd] H (fun v H' => v = some (.int (neF dd snd n)) ∧ (H' = H)) := by
  obtain ⟨fS, fU, fO, hd, hs, hu, ho, eS, eU, eO, hn⟩ := hD
  refine AM.ofI (lv := [(0, .ref d), (1, .int snd)]) (by decide +kernel) (Nat.le_of_ble_eq_true rfl) rfl ?_ (fun _ h => by cases h.1)
  refine a_bipush 27 dX0_nearest_0 (by decide) ?_
  refine a_istore_n (lv' := [(2, .int 27), (0, .ref d), (1, .int snd)]) dX0_nearest_2 rfl (by decide) rfl ?_
  refine a_iconst 0 dX0_nearest_3 (by decide) ?_
  refine a_istore_n (lv' := [(3, .int 0), (2, .int 27), (0, .ref d), (1, .int snd)]) dX0_nearest_4 rfl (by decide) rfl ?_
  have L5 : ∀ (fu : Nat) (k : Nat) (b : Int32), k ≤ n → b = neF dd snd k → n - k < fu → AW G B l { frames := 2, cells := 0, slots := 0, locals := 27 * 2 } yX0_nearest.cls cX0_nearest 4 false (fun v H' ce' sl' => (v = some (.int (neF dd snd n)) ∧ (H' = H)) ∧ ce' = 0 ∧ sl' = 0) 5 [(0, .ref d), (1, .int snd), (2, .int b), (3, .int (nI k))] [] H 0 0 := by
    intro fu
    induction fu with
    | zero => intro k b hk hg hm5; exact absurd hm5 (Nat.not_lt_zero _)
    | succ fu ih5 =>
      intro k b hk hg hm5
      refine a_iload_n 3 dX0_nearest_5 rfl rfl ?_
      refine a_aload_n 0 dX0_nearest_6 rfl rfl ?_
      refine a_get f_X0_9 dX0_nearest_7 hd rfl ?_
      refine a_icmpgeN (a := k) (b := n) 34 dX0_nearest_10 (by decide) (by omega) (by omega) (fun c10 => ?_) (fun c10 => ?_)
      · skip
        refine a_iload_n 2 dX0_nearest_34 rfl rfl ?_
        refine a_ret dX0_nearest_35 ⟨⟨ri ?_, ?_⟩, rfl, rfl⟩
        · rw [hg, show n = k by omega]
        · rfl
      · skip
        refine a_iload_n 2 dX0_nearest_13 rfl rfl ?_
        refine a_aload_n 0 dX0_nearest_14 rfl rfl ?_
        refine a_get f_X0_15 dX0_nearest_15 hd rfl ?_
        refine a_iload_n 3 dX0_nearest_18 rfl rfl ?_
        refine a_ialdN (j := k) dX0_nearest_19 hs (by omega) (by decide) ?_
        refine a_toeq (dd k) (eS _ (by omega)) ?_
        refine a_iload_n 1 dX0_nearest_20 rfl rfl ?_
        refine a_callSp (As := [.int (dd k), .int snd]) (rest := [.int b]) (d := 1) (mc := 0) (ms := 0) (x := apF (dd k) snd) l_X0_39 st_X6_apart dX0_nearest_21 ⟨Nat.le_of_ble_eq_true rfl, Nat.le_of_ble_eq_true rfl⟩ rfl (Nat.le_of_ble_eq_true rfl) ⟨Nat.le_of_ble_eq_true rfl, Nat.le_of_ble_eq_true rfl⟩ (c_X6_apart) ?_
        refine a_min ml_X0_48 dX0_nearest_24 (Nat.le_of_ble_eq_true rfl) (Nat.le_of_ble_eq_true rfl) ⟨Nat.le_of_ble_eq_true rfl, Nat.le_of_ble_eq_true rfl⟩ ?_
        refine a_istore_n (lv' := [(2, .int (if (apF (dd k) snd) < b then (apF (dd k) snd) else b)), (0, .ref d), (1, .int snd), (3, .int (nI k))]) dX0_nearest_27 rfl (by decide) rfl ?_
        refine a_iincN (q := 3) (lv' := [(3, .int (nI (k + 1))), (2, .int (if (apF (dd k) snd) < b then (apF (dd k) snd) else b)), (0, .ref d), (1, .int snd)]) dX0_nearest_28 rfl (by decide) rfl ?_
        refine a_goto 5 dX0_nearest_31 (by decide) ?_
        refine a_sub [2, 3, 1, 0] rfl ?_
        exact ih5 _ _ (by omega) (by rw [hg]; rfl) (by omega)
  refine a_sub [2, 3, 1, 0] rfl ?_
  exact L5 _ 0 27 (Nat.zero_le _) rfl (Nat.lt_succ_self _)
set_option maxHeartbeats 4000000 in
set_option maxRecDepth 100000 in
theorem c_X0_isThere {G : GT} {B : Nat} {l : Launch} {H : Heap} {d n : Nat} {dd : DD} {w : Int32} (hD : Dd G H d n dd) : AM G B l yX0_isThere cX0_isThere 2 (some .boolean) 0 0 0 [.ref d, .int w] H (fun v H' => v = some (.int (bI (wIx n w))) ∧ (H' = H)) := by
  obtain ⟨fS, fU, fO, hd, hs, hu, ho, eS, eU, eO, hn⟩ := hD
  refine AM.ofZ (lv := [(0, .ref d), (1, .int w)]) (by decide +kernel) (Nat.le_of_ble_eq_true rfl) rfl ?_ (fun _ _ h => ⟨_, h.1⟩)
  refine a_iload_n 1 dX0_isThere_0 rfl rfl ?_
  refine a_iflt 16 dX0_isThere_1 (by decide) (fun c1 => ?_) (fun c1 => ?_)
  · skip
    refine a_iconst 0 dX0_isThere_16 (by decide) ?_
    refine a_ret dX0_isThere_17 ⟨⟨ri ?_, ?_⟩, rfl, rfl⟩
    · first | (rw [wIx_f1 c1]; rfl) | (rw [wIx_f2 c9]; rfl)
    · rfl
  · skip
    refine a_iload_n 1 dX0_isThere_4 rfl rfl ?_
    refine a_aload_n 0 dX0_isThere_5 rfl rfl ?_
    refine a_get f_X0_9 dX0_isThere_6 hd rfl ?_
    refine a_icmpge 16 dX0_isThere_9 (by decide) (fun c9 => ?_) (fun c9 => ?_)
    · skip
      refine a_iconst 0 dX0_isThere_16 (by decide) ?_
      refine a_ret dX0_isThere_17 ⟨⟨ri ?_, ?_⟩, rfl, rfl⟩
      · first | (rw [wIx_f1 c1]; rfl) | (rw [wIx_f2 c9]; rfl)
      · rfl
    · skip
      refine a_iconst 1 dX0_isThere_12 (by decide) ?_
      refine a_goto 17 dX0_isThere_13 (by decide) ?_
      refine a_ret dX0_isThere_17 ⟨⟨ri ?_, ?_⟩, rfl, rfl⟩
      · rw [wIx_t c1 c9]; rfl
      · rfl
set_option maxHeartbeats 4000000 in
set_option maxRecDepth 100000 in
theorem c_X0_putOnList {G : GT} {B : Nat} {l : Launch} {H : Heap} {d n : Nat} {dd : DD} {w : Nat} (hD : Dd G H d n dd) (hw : w < n) (hB : B ≤ d) : AM G B l yX0_putOnList cX0_putOnList 2 none 1 0 0 [.ref d, .int (nI w)] H (fun v H' => v = none ∧ (Dd G H' d n (puF dd w) ∧ ∀ q : Nat, ¬ (d ≤ q ∧ q < d + 4) → H'[q]? = H[q]?)) := by
  have hD0 := hD
  obtain ⟨fS, fU, fO, hd, hs, hu, ho, eS, eU, eO, hn⟩ := hD
  have hF : ∀ q : Nat, ¬ (d ≤ q ∧ q < d + 4) → H[q]? = H[q]? := fun _ _ => rfl
  refine AM.ofV (lv := [(0, .ref d), (1, .int (nI w))]) (by decide +kernel) (ini := false) (fun h => by cases h) (Nat.le_of_ble_eq_true rfl) rfl ?_ (fun _ _ h => h.1)
  refine a_aload_n 0 dX0_putOnList_0 rfl rfl ?_
  refine a_iload_n 1 dX0_putOnList_1 rfl rfl ?_
  refine a_callVp (As := [.int (nI w)]) (rest := []) (d := 0) (mc := 0) (ms := 0) (x := bI (wIx n (nI w))) (ci := 0) l_X0_63 im_X0_isThere se_X0_isThere ⟨_, rfl, rfl⟩ dX0_putOnList_2 ⟨Nat.le_of_ble_eq_true rfl, Nat.le_of_ble_eq_true rfl⟩ rfl (Nat.le_of_ble_eq_true rfl) ⟨Nat.le_of_ble_eq_true rfl, Nat.le_of_ble_eq_true rfl⟩ hd (c_X0_isThere hD0) ?_
  refine a_ifeqB 27 dX0_putOnList_5 (by decide) (fun c5 => ?_) (fun c5 => ?_)
  · skip
    exact absurd c5 (by rw [wIx_nI (by omega) (by omega)]; decide)
  · skip
    refine a_aload_n 0 dX0_putOnList_8 rfl rfl ?_
    refine a_get f_X0_22 dX0_putOnList_9 hd rfl ?_
    refine a_iload_n 1 dX0_putOnList_12 rfl rfl ?_
    refine a_aload_n 0 dX0_putOnList_13 rfl rfl ?_
    refine a_get f_X0_22 dX0_putOnList_14 hd rfl ?_
    refine a_iload_n 1 dX0_putOnList_17 rfl rfl ?_
    refine a_ialdN (j := w) dX0_putOnList_18 ho (by omega) (by decide) ?_
    refine a_toeq (dd (16 + w)) (eO _ (by omega)) ?_
    refine a_iconst 1 dX0_putOnList_19 (by decide) ?_
    refine a_iadd dX0_putOnList_20 ?_
    refine a_bipush 99 dX0_putOnList_21 (by decide) ?_
    refine a_min ml_X0_48 dX0_putOnList_23 (Nat.le_of_ble_eq_true rfl) (Nat.le_of_ble_eq_true rfl) ⟨Nat.le_of_ble_eq_true rfl, Nat.le_of_ble_eq_true rfl⟩ ?_
    refine a_toeq (mnF (dd (16 + w) + 1)) rfl ?_
    refine a_iastN (j := w) dX0_putOnList_26 ho (by omega) (by decide) (by omega) (fun H2 ho hz2 hq2 => ?_)
    have ho : Ai G H2 (d + 3) 8 (upd fO w (mnF (dd (16 + w) + 1))) := ho
    have hd := hd.kept (hq2 _ (by omega))
    have hs := hs.kept (hq2 _ (by omega))
    have hu := hu.kept (hq2 _ (by omega))
    have hF : ∀ q : Nat, ¬ (d ≤ q ∧ q < d + 4) → H2[q]? = H[q]? := fun q hq => (hq2 q (by omega)).trans (hF q hq)
    refine a_retv dX0_putOnList_27 ⟨⟨rfl, ?_⟩, rfl, rfl⟩
    · refine ⟨Dd.mk' hd hs hu ho hn ?_ ?_ ?_ ?_ ?_ ?_, hF⟩
      all_goals try intro i hi
      all_goals try dsimp only
      all_goals try simp only [upd, puF]
      all_goals repeat' split
      all_goals first | omega | rfl | contradiction | exact eS _ (by assumption) | exact eU _ (by assumption) | exact eO _ (by assumption) | (simp_all; done)
set_option maxHeartbeats 4000000 in
set_option maxRecDepth 100000 in
theorem c_X0_react {G : GT} {B : Nat} {l : Launch} {H : Heap} {d n : Nat} {dd : DD} {g : Nat} {what : Int32} (hD : Dd G H d n dd) (hg : g < n) (hB : B ≤ d) : AM G B l yX0_react cX0_react 3 none 2 0 0 [.ref d, .int (nI g), .int what] H (fun v H' => v = none ∧ (Dd G H' d n (hrF dd g what) ∧ ∀ q : Nat, ¬ (d ≤ q ∧ q < d + 4) → H'[q]? = H[q]?)) := by
  have hD0 := hD
  obtain ⟨fS, fU, fO, hd, hs, hu, ho, eS, eU, eO, hn⟩ := hD
  have hF : ∀ q : Nat, ¬ (d ≤ q ∧ q < d + 4) → H[q]? = H[q]? := fun _ _ => rfl
  refine AM.ofV (lv := [(0, .ref d), (1, .int (nI g)), (2, .int what)]) (by decide +kernel) (ini := false) (fun h => by cases h) (Nat.le_of_ble_eq_true rfl) rfl ?_ (fun _ _ h => h.1)
  refine a_iload_n 2 dX0_react_0 rfl rfl ?_
  refine a_ifne 12 dX0_react_1 (by decide) (fun c1 => ?_) (fun c1 => ?_)
  · skip
    refine a_iload_n 2 dX0_react_12 rfl rfl ?_
    refine a_iconst 1 dX0_react_13 (by decide) ?_
    refine a_icmpne 27 dX0_react_14 (by decide) (fun c14 => ?_) (fun c14 => ?_)
    · skip
      refine a_aload_n 0 dX0_react_27 rfl rfl ?_
      refine a_dup dX0_react_28 rfl ?_
      refine a_get f_X0_28 dX0_react_29 hd rfl ?_
      refine a_iconst 1 dX0_react_32 (by decide) ?_
      refine a_iadd dX0_react_33 ?_
      refine a_put f_X0_28 p_X0_28 dX0_react_34 hd (Nat.le_of_ble_eq_true rfl) rfl rfl (by omega) (fun H1 hd hz1 hq1 => ?_)
      have hd : Ob G H1 d 0 [.int (nI n), .ref (d + 1), .ref (d + 2), .ref (d + 3), .int (dd 25), .int ((dd 24) + 1), .int (dd 26)] := hd
      have hs := hs.kept (hq1 _ (by omega))
      have hu := hu.kept (hq1 _ (by omega))
      have ho := ho.kept (hq1 _ (by omega))
      have hF : ∀ q : Nat, ¬ (d ≤ q ∧ q < d + 4) → H1[q]? = H[q]? := fun q hq => (hq1 q (by omega)).trans (hF q hq)
      refine a_aload_n 0 dX0_react_37 rfl rfl ?_
      refine a_iload_n 1 dX0_react_38 rfl rfl ?_
      refine a_put f_X0_31 p_X0_31 dX0_react_39 hd (Nat.le_of_ble_eq_true rfl) rfl rfl (by omega) (fun H2 hd hz2 hq2 => ?_)
      have hd : Ob G H2 d 0 [.int (nI n), .ref (d + 1), .ref (d + 2), .ref (d + 3), .int (dd 25), .int ((dd 24) + 1), .int (nI g)] := hd
      have hs := hs.kept (hq2 _ (by omega))
      have hu := hu.kept (hq2 _ (by omega))
      have ho := ho.kept (hq2 _ (by omega))
      have hF : ∀ q : Nat, ¬ (d ≤ q ∧ q < d + 4) → H2[q]? = H[q]? := fun q hq => (hq2 q (by omega)).trans (hF q hq)
      refine a_retv dX0_react_42 ⟨⟨rfl, ?_⟩, rfl, rfl⟩
      · refine ⟨Dd.mk' hd hs hu ho hn ?_ ?_ ?_ ?_ ?_ ?_, hF⟩
        all_goals try intro i hi
        all_goals try dsimp only
        all_goals try simp only [upd, puF, hrF]
        all_goals repeat' split
        all_goals first | omega | rfl | contradiction | exact eS _ (by assumption) | exact eU _ (by assumption) | exact eO _ (by assumption) | (rw [eS _ (by assumption)]; simp only [upd, puF]; repeat' split; all_goals first | omega | rfl) | (rw [eU _ (by assumption)]; simp only [upd, puF]; repeat' split; all_goals first | omega | rfl) | (rw [eO _ (by assumption)]; simp only [upd, puF]; repeat' split; all_goals first | omega | rfl | simp_all) | (simp_all; done)
    · skip
      refine a_aload_n 0 dX0_react_17 rfl rfl ?_
      refine a_dup dX0_react_18 rfl ?_
      refine a_get f_X0_25 dX0_react_19 hd rfl ?_
      refine a_iconst 1 dX0_react_22 (by decide) ?_
      refine a_iadd dX0_react_23 ?_
      refine a_put f_X0_25 p_X0_25 dX0_react_24 hd (Nat.le_of_ble_eq_true rfl) rfl rfl (by omega) (fun H3 hd hz3 hq3 => ?_)
      have hd : Ob G H3 d 0 [.int (nI n), .ref (d + 1), .ref (d + 2), .ref (d + 3), .int ((dd 25) + 1), .int (dd 24), .int (dd 26)] := hd
      have hs := hs.kept (hq3 _ (by omega))
      have hu := hu.kept (hq3 _ (by omega))
      have ho := ho.kept (hq3 _ (by omega))
      have hF : ∀ q : Nat, ¬ (d ≤ q ∧ q < d + 4) → H3[q]? = H[q]? := fun q hq => (hq3 q (by omega)).trans (hF q hq)
      refine a_aload_n 0 dX0_react_27 rfl rfl ?_
      refine a_dup dX0_react_28 rfl ?_
      refine a_get f_X0_28 dX0_react_29 hd rfl ?_
      refine a_iconst 1 dX0_react_32 (by decide) ?_
      refine a_iadd dX0_react_33 ?_
      refine a_put f_X0_28 p_X0_28 dX0_react_34 hd (Nat.le_of_ble_eq_true rfl) rfl rfl (by omega) (fun H4 hd hz4 hq4 => ?_)
      have hd : Ob G H4 d 0 [.int (nI n), .ref (d + 1), .ref (d + 2), .ref (d + 3), .int ((dd 25) + 1), .int ((dd 24) + 1), .int (dd 26)] := hd
      have hs := hs.kept (hq4 _ (by omega))
      have hu := hu.kept (hq4 _ (by omega))
      have ho := ho.kept (hq4 _ (by omega))
      have hF : ∀ q : Nat, ¬ (d ≤ q ∧ q < d + 4) → H4[q]? = H[q]? := fun q hq => (hq4 q (by omega)).trans (hF q hq)
      refine a_aload_n 0 dX0_react_37 rfl rfl ?_
      refine a_iload_n 1 dX0_react_38 rfl rfl ?_
      refine a_put f_X0_31 p_X0_31 dX0_react_39 hd (Nat.le_of_ble_eq_true rfl) rfl rfl (by omega) (fun H5 hd hz5 hq5 => ?_)
      have hd : Ob G H5 d 0 [.int (nI n), .ref (d + 1), .ref (d + 2), .ref (d + 3), .int ((dd 25) + 1), .int ((dd 24) + 1), .int (nI g)] := hd
      have hs := hs.kept (hq5 _ (by omega))
      have hu := hu.kept (hq5 _ (by omega))
      have ho := ho.kept (hq5 _ (by omega))
      have hF : ∀ q : Nat, ¬ (d ≤ q ∧ q < d + 4) → H5[q]? = H[q]? := fun q hq => (hq5 q (by omega)).trans (hF q hq)
      refine a_retv dX0_react_42 ⟨⟨rfl, ?_⟩, rfl, rfl⟩
      · refine ⟨Dd.mk' hd hs hu ho hn ?_ ?_ ?_ ?_ ?_ ?_, hF⟩
        all_goals try intro i hi
        all_goals try dsimp only
        all_goals try simp only [upd, puF, hrF]
        all_goals repeat' split
        all_goals first | omega | rfl | contradiction | exact eS _ (by assumption) | exact eU _ (by assumption) | exact eO _ (by assumption) | (rw [eS _ (by assumption)]; simp only [upd, puF]; repeat' split; all_goals first | omega | rfl) | (rw [eU _ (by assumption)]; simp only [upd, puF]; repeat' split; all_goals first | omega | rfl) | (rw [eO _ (by assumption)]; simp only [upd, puF]; repeat' split; all_goals first | omega | rfl | simp_all) | (simp_all; done)
  · skip
    refine a_aload_n 0 dX0_react_4 rfl rfl ?_
    refine a_iload_n 1 dX0_react_5 rfl rfl ?_
    refine a_callVv (As := [.int (nI g)]) (rest := []) (d := 1) (mc := 0) (ms := 0) (ci := 0) l_X0_53 im_X0_putOnList se_X0_putOnList ⟨_, rfl, rfl⟩ dX0_react_6 ⟨Nat.le_of_ble_eq_true rfl, Nat.le_of_ble_eq_true rfl⟩ rfl (Nat.le_of_ble_eq_true rfl) ⟨Nat.le_of_ble_eq_true rfl, Nat.le_of_ble_eq_true rfl⟩ hd (c_X0_putOnList hD0 hg hB) (fun H6 hp6 => ?_)
    obtain ⟨⟨fS, fU, fO, hd, hs, hu, ho, eS, eU, eO, -⟩, hfr⟩ := hp6
    have hF : ∀ q : Nat, ¬ (d ≤ q ∧ q < d + 4) → H6[q]? = H[q]? := fun q hq => (hfr q (by omega)).trans (hF q hq)
    refine a_goto 27 dX0_react_9 (by decide) ?_
    refine a_aload_n 0 dX0_react_27 rfl rfl ?_
    refine a_dup dX0_react_28 rfl ?_
    refine a_get f_X0_28 dX0_react_29 hd rfl ?_
    refine a_iconst 1 dX0_react_32 (by decide) ?_
    refine a_iadd dX0_react_33 ?_
    refine a_put f_X0_28 p_X0_28 dX0_react_34 hd (Nat.le_of_ble_eq_true rfl) rfl rfl (by omega) (fun H7 hd hz7 hq7 => ?_)
    have hd : Ob G H7 d 0 [.int (nI n), .ref (d + 1), .ref (d + 2), .ref (d + 3), .int (puF dd g 25), .int ((puF dd g 24) + 1), .int (puF dd g 26)] := hd
    have hs := hs.kept (hq7 _ (by omega))
    have hu := hu.kept (hq7 _ (by omega))
    have ho := ho.kept (hq7 _ (by omega))
    have hF : ∀ q : Nat, ¬ (d ≤ q ∧ q < d + 4) → H7[q]? = H[q]? := fun q hq => (hq7 q (by omega)).trans (hF q hq)
    refine a_aload_n 0 dX0_react_37 rfl rfl ?_
    refine a_iload_n 1 dX0_react_38 rfl rfl ?_
    refine a_put f_X0_31 p_X0_31 dX0_react_39 hd (Nat.le_of_ble_eq_true rfl) rfl rfl (by omega) (fun H8 hd hz8 hq8 => ?_)
    have hd : Ob G H8 d 0 [.int (nI n), .ref (d + 1), .ref (d + 2), .ref (d + 3), .int (puF dd g 25), .int ((puF dd g 24) + 1), .int (nI g)] := hd
    have hs := hs.kept (hq8 _ (by omega))
    have hu := hu.kept (hq8 _ (by omega))
    have ho := ho.kept (hq8 _ (by omega))
    have hF : ∀ q : Nat, ¬ (d ≤ q ∧ q < d + 4) → H8[q]? = H[q]? := fun q hq => (hq8 q (by omega)).trans (hF q hq)
    refine a_retv dX0_react_42 ⟨⟨rfl, ?_⟩, rfl, rfl⟩
    · refine ⟨Dd.mk' hd hs hu ho hn ?_ ?_ ?_ ?_ ?_ ?_, hF⟩
      all_goals try intro i hi
      all_goals try dsimp only
      all_goals try simp only [upd, puF, hrF]
      all_goals repeat' split
      all_goals first | omega | rfl | contradiction | exact eS _ (by assumption) | exact eU _ (by assumption) | exact eO _ (by assumption) | (rw [eS _ (by assumption)]; simp only [upd, puF]; repeat' split; all_goals first | omega | rfl) | (rw [eU _ (by assumption)]; simp only [upd, puF]; repeat' split; all_goals first | omega | rfl) | (rw [eO _ (by assumption)]; simp only [upd, puF]; repeat' split; all_goals first | omega | rfl | simp_all) | (simp_all; done)
set_option maxHeartbeats 4000000 in
set_option maxRecDepth 100000 in
theorem c_X0_confirm {G : GT} {B : Nat} {l : Launch} {H : Heap} {d n : Nat} {dd : DD} {g : Nat} (hD : Dd G H d n dd) (hk : dd 26 = nI g) (hg : g < n) (hB : B ≤ d) : AM G B l yX0_confirm cX0_confirm 1 none 1 0 0 [.ref d] H (fun v H' => v = none ∧ (Dd G H' d n (cfF dd g) ∧ ∀ q : Nat, ¬ (d ≤ q ∧ q < d + 4) → H'[q]? = H[q]?)) := by
  have hD0 := hD
  obtain ⟨fS, fU, fO, hd, hs, hu, ho, eS, eU, eO, hn⟩ := hD
  rw [hk] at hd
  have hF : ∀ q : Nat, ¬ (d ≤ q ∧ q < d + 4) → H[q]? = H[q]? := fun _ _ => rfl
  refine AM.ofV (lv := [(0, .ref d)]) (by decide +kernel) (ini := false) (fun h => by cases h) (Nat.le_of_ble_eq_true rfl) rfl ?_ (fun _ _ h => h.1)
  refine a_aload_n 0 dX0_confirm_0 rfl rfl ?_
  refine a_aload_n 0 dX0_confirm_1 rfl rfl ?_
  refine a_get f_X0_31 dX0_confirm_2 hd rfl ?_
  refine a_callVp (As := [.int (nI g)]) (rest := []) (d := 0) (mc := 0) (ms := 0) (x := bI (wIx n (nI g))) (ci := 0) l_X0_63 im_X0_isThere se_X0_isThere ⟨_, rfl, rfl⟩ dX0_confirm_5 ⟨Nat.le_of_ble_eq_true rfl, Nat.le_of_ble_eq_true rfl⟩ rfl (Nat.le_of_ble_eq_true rfl) ⟨Nat.le_of_ble_eq_true rfl, Nat.le_of_ble_eq_true rfl⟩ hd (c_X0_isThere hD0) ?_
  refine a_ifeqB 36 dX0_confirm_8 (by decide) (fun c8 => ?_) (fun c8 => ?_)
  · skip
    exact absurd c8 (by rw [wIx_nI (by omega) (by omega)]; decide)
  · skip
    refine a_aload_n 0 dX0_confirm_11 rfl rfl ?_
    refine a_get f_X0_19 dX0_confirm_12 hd rfl ?_
    refine a_aload_n 0 dX0_confirm_15 rfl rfl ?_
    refine a_get f_X0_31 dX0_confirm_16 hd rfl ?_
    refine a_aload_n 0 dX0_confirm_19 rfl rfl ?_
    refine a_get f_X0_19 dX0_confirm_20 hd rfl ?_
    refine a_aload_n 0 dX0_confirm_23 rfl rfl ?_
    refine a_get f_X0_31 dX0_confirm_24 hd rfl ?_
    refine a_ialdN (j := g) dX0_confirm_27 hu (by omega) (by decide) ?_
    refine a_toeq (dd (8 + g)) (eU _ (by omega)) ?_
    refine a_iconst 1 dX0_confirm_28 (by decide) ?_
    refine a_iadd dX0_confirm_29 ?_
    refine a_bipush 99 dX0_confirm_30 (by decide) ?_
    refine a_min ml_X0_48 dX0_confirm_32 (Nat.le_of_ble_eq_true rfl) (Nat.le_of_ble_eq_true rfl) ⟨Nat.le_of_ble_eq_true rfl, Nat.le_of_ble_eq_true rfl⟩ ?_
    refine a_toeq (mnF (dd (8 + g) + 1)) rfl ?_
    refine a_iastN (j := g) dX0_confirm_35 hu (by omega) (by decide) (by omega) (fun H2 hu hz2 hq2 => ?_)
    have hu : Ai G H2 (d + 2) 8 (upd fU g (mnF (dd (8 + g) + 1))) := hu
    have hd := hd.kept (hq2 _ (by omega))
    have hs := hs.kept (hq2 _ (by omega))
    have ho := ho.kept (hq2 _ (by omega))
    have hF : ∀ q : Nat, ¬ (d ≤ q ∧ q < d + 4) → H2[q]? = H[q]? := fun q hq => (hq2 q (by omega)).trans (hF q hq)
    refine a_aload_n 0 dX0_confirm_36 rfl rfl ?_
    refine a_iconst (-1) dX0_confirm_37 (by decide) ?_
    refine a_put f_X0_31 p_X0_31 dX0_confirm_38 hd (Nat.le_of_ble_eq_true rfl) rfl rfl (by omega) (fun H3 hd hz3 hq3 => ?_)
    have hd : Ob G H3 d 0 [.int (nI n), .ref (d + 1), .ref (d + 2), .ref (d + 3), .int (dd 25), .int (dd 24), .int (-1)] := hd
    have hs := hs.kept (hq3 _ (by omega))
    have hu := hu.kept (hq3 _ (by omega))
    have ho := ho.kept (hq3 _ (by omega))
    have hF : ∀ q : Nat, ¬ (d ≤ q ∧ q < d + 4) → H3[q]? = H[q]? := fun q hq => (hq3 q (by omega)).trans (hF q hq)
    refine a_retv dX0_confirm_41 ⟨⟨rfl, ?_⟩, rfl, rfl⟩
    · refine ⟨Dd.mk' hd hs hu ho hn ?_ ?_ ?_ ?_ ?_ ?_, hF⟩
      all_goals try intro i hi
      all_goals try dsimp only
      all_goals try simp only [upd, cfF]
      all_goals repeat' split
      all_goals first | omega | rfl | contradiction | exact eS _ (by assumption) | exact eU _ (by assumption) | exact eO _ (by assumption) | (simp_all; done)
set_option maxHeartbeats 4000000 in
set_option maxRecDepth 100000 in
theorem c_X0_correctTo {G : GT} {B : Nat} {l : Launch} {H : Heap} {d n : Nat} {dd : DD} {w : Nat} {g : Nat} (hD : Dd G H d n dd) (hk : dd 26 = nI g) (hg : g < n) (hw : w < n) (hgw : g ≠ w) (hB : B ≤ d) : AM G B l yX0_correctTo cX0_correctTo 2 none 2 0 0 [.ref d, .int (nI w)] H (fun v H' => v = none ∧ (Dd G H' d n (crF dd g w) ∧ ∀ q : Nat, ¬ (d ≤ q ∧ q < d + 4) → H'[q]? = H[q]?)) := by
  have hD0 := hD
  obtain ⟨fS, fU, fO, hd, hs, hu, ho, eS, eU, eO, hn⟩ := hD
  rw [hk] at hd
  have hF : ∀ q : Nat, ¬ (d ≤ q ∧ q < d + 4) → H[q]? = H[q]? := fun _ _ => rfl
  refine AM.ofV (lv := [(0, .ref d), (1, .int (nI w))]) (by decide +kernel) (ini := false) (fun h => by cases h) (Nat.le_of_ble_eq_true rfl) rfl ?_ (fun _ _ h => h.1)
  refine a_aload_n 0 dX0_correctTo_0 rfl rfl ?_
  refine a_aload_n 0 dX0_correctTo_1 rfl rfl ?_
  refine a_get f_X0_31 dX0_correctTo_2 hd rfl ?_
  refine a_callVp (As := [.int (nI g)]) (rest := []) (d := 0) (mc := 0) (ms := 0) (x := bI (wIx n (nI g))) (ci := 0) l_X0_63 im_X0_isThere se_X0_isThere ⟨_, rfl, rfl⟩ dX0_correctTo_5 ⟨Nat.le_of_ble_eq_true rfl, Nat.le_of_ble_eq_true rfl⟩ rfl (Nat.le_of_ble_eq_true rfl) ⟨Nat.le_of_ble_eq_true rfl, Nat.le_of_ble_eq_true rfl⟩ hd (c_X0_isThere hD0) ?_
  refine a_ifeqB 59 dX0_correctTo_8 (by decide) (fun c8 => ?_) (fun c8 => ?_)
  · skip
    exact absurd c8 (by rw [wIx_nI (by omega) (by omega)]; decide)
  · skip
    refine a_aload_n 0 dX0_correctTo_11 rfl rfl ?_
    refine a_get f_X0_22 dX0_correctTo_12 hd rfl ?_
    refine a_aload_n 0 dX0_correctTo_15 rfl rfl ?_
    refine a_get f_X0_31 dX0_correctTo_16 hd rfl ?_
    refine a_aload_n 0 dX0_correctTo_19 rfl rfl ?_
    refine a_get f_X0_22 dX0_correctTo_20 hd rfl ?_
    refine a_aload_n 0 dX0_correctTo_23 rfl rfl ?_
    refine a_get f_X0_31 dX0_correctTo_24 hd rfl ?_
    refine a_ialdN (j := g) dX0_correctTo_27 ho (by omega) (by decide) ?_
    refine a_toeq (dd (16 + g)) (eO _ (by omega)) ?_
    refine a_iconst 1 dX0_correctTo_28 (by decide) ?_
    refine a_isub dX0_correctTo_29 ?_
    refine a_iconst 0 dX0_correctTo_30 (by decide) ?_
    refine a_max ml_X0_67 dX0_correctTo_31 (Nat.le_of_ble_eq_true rfl) (Nat.le_of_ble_eq_true rfl) ⟨Nat.le_of_ble_eq_true rfl, Nat.le_of_ble_eq_true rfl⟩ ?_
    refine a_toeq (lsF (dd (16 + g))) rfl ?_
    refine a_iastN (j := g) dX0_correctTo_34 ho (by omega) (by decide) (by omega) (fun H2 ho hz2 hq2 => ?_)
    have ho : Ai G H2 (d + 3) 8 (upd fO g (lsF (dd (16 + g)))) := ho
    have hd := hd.kept (hq2 _ (by omega))
    have hs := hs.kept (hq2 _ (by omega))
    have hu := hu.kept (hq2 _ (by omega))
    have hF : ∀ q : Nat, ¬ (d ≤ q ∧ q < d + 4) → H2[q]? = H[q]? := fun q hq => (hq2 q (by omega)).trans (hF q hq)
    refine a_aload_n 0 dX0_correctTo_35 rfl rfl ?_
    refine a_get f_X0_19 dX0_correctTo_36 hd rfl ?_
    refine a_aload_n 0 dX0_correctTo_39 rfl rfl ?_
    refine a_get f_X0_31 dX0_correctTo_40 hd rfl ?_
    refine a_aload_n 0 dX0_correctTo_43 rfl rfl ?_
    refine a_get f_X0_19 dX0_correctTo_44 hd rfl ?_
    refine a_aload_n 0 dX0_correctTo_47 rfl rfl ?_
    refine a_get f_X0_31 dX0_correctTo_48 hd rfl ?_
    refine a_ialdN (j := g) dX0_correctTo_51 hu (by omega) (by decide) ?_
    refine a_toeq (dd (8 + g)) (eU _ (by omega)) ?_
    refine a_iconst 1 dX0_correctTo_52 (by decide) ?_
    refine a_isub dX0_correctTo_53 ?_
    refine a_iconst 0 dX0_correctTo_54 (by decide) ?_
    refine a_max ml_X0_67 dX0_correctTo_55 (Nat.le_of_ble_eq_true rfl) (Nat.le_of_ble_eq_true rfl) ⟨Nat.le_of_ble_eq_true rfl, Nat.le_of_ble_eq_true rfl⟩ ?_
    refine a_toeq (lsF (dd (8 + g))) rfl ?_
    refine a_iastN (j := g) dX0_correctTo_58 hu (by omega) (by decide) (by omega) (fun H3 hu hz3 hq3 => ?_)
    have hu : Ai G H3 (d + 2) 8 (upd fU g (lsF (dd (8 + g)))) := hu
    have hd := hd.kept (hq3 _ (by omega))
    have hs := hs.kept (hq3 _ (by omega))
    have ho := ho.kept (hq3 _ (by omega))
    have hF : ∀ q : Nat, ¬ (d ≤ q ∧ q < d + 4) → H3[q]? = H[q]? := fun q hq => (hq3 q (by omega)).trans (hF q hq)
    have hD1 : Dd G H3 d n (fun i => if i = 16 + g then lsF (dd (16 + g)) else if i = 8 + g then lsF (dd (8 + g)) else dd i) := by
      refine Dd.mk' hd hs hu ho hn ?_ ?_ (hk.symm.trans ?_) ?_ ?_ ?_
      all_goals try intro i hi
      all_goals try dsimp only
      all_goals try simp only [upd]
      all_goals repeat' split
      all_goals first | omega | rfl | contradiction | exact eS _ (by assumption) | exact eU _ (by assumption) | exact eO _ (by assumption) | (simp_all; done)
    refine a_aload_n 0 dX0_correctTo_59 rfl rfl ?_
    refine a_iload_n 1 dX0_correctTo_60 rfl rfl ?_
    refine a_callVp (As := [.int (nI w)]) (rest := []) (d := 0) (mc := 0) (ms := 0) (x := bI (wIx n (nI w))) (ci := 0) l_X0_63 im_X0_isThere se_X0_isThere ⟨_, rfl, rfl⟩ dX0_correctTo_61 ⟨Nat.le_of_ble_eq_true rfl, Nat.le_of_ble_eq_true rfl⟩ rfl (Nat.le_of_ble_eq_true rfl) ⟨Nat.le_of_ble_eq_true rfl, Nat.le_of_ble_eq_true rfl⟩ hd (c_X0_isThere hD1) ?_
    refine a_ifeqB 91 dX0_correctTo_64 (by decide) (fun c64 => ?_) (fun c64 => ?_)
    · skip
      exact absurd c64 (by rw [wIx_nI (by omega) (by omega)]; decide)
    · skip
      refine a_aload_n 0 dX0_correctTo_67 rfl rfl ?_
      refine a_get f_X0_19 dX0_correctTo_68 hd rfl ?_
      refine a_iload_n 1 dX0_correctTo_71 rfl rfl ?_
      refine a_aload_n 0 dX0_correctTo_72 rfl rfl ?_
      refine a_get f_X0_19 dX0_correctTo_73 hd rfl ?_
      refine a_iload_n 1 dX0_correctTo_76 rfl rfl ?_
      refine a_ialdN (j := w) dX0_correctTo_77 hu (by omega) (by decide) ?_
      refine a_toeq (dd (8 + w)) (by simp only [upd]; rw [if_neg (by omega)]; exact eU _ (by omega)) ?_
      refine a_iconst 2 dX0_correctTo_78 (by decide) ?_
      refine a_iadd dX0_correctTo_79 ?_
      refine a_bipush 99 dX0_correctTo_80 (by decide) ?_
      refine a_min ml_X0_48 dX0_correctTo_82 (Nat.le_of_ble_eq_true rfl) (Nat.le_of_ble_eq_true rfl) ⟨Nat.le_of_ble_eq_true rfl, Nat.le_of_ble_eq_true rfl⟩ ?_
      refine a_toeq (mnF (dd (8 + w) + 2)) rfl ?_
      refine a_iastN (j := w) dX0_correctTo_85 hu (by omega) (by decide) (by omega) (fun H5 hu hz5 hq5 => ?_)
      have hu : Ai G H5 (d + 2) 8 (upd (upd fU g (lsF (dd (8 + g)))) w (mnF (dd (8 + w) + 2))) := hu
      have hd := hd.kept (hq5 _ (by omega))
      have hs := hs.kept (hq5 _ (by omega))
      have ho := ho.kept (hq5 _ (by omega))
      have hF : ∀ q : Nat, ¬ (d ≤ q ∧ q < d + 4) → H5[q]? = H[q]? := fun q hq => (hq5 q (by omega)).trans (hF q hq)
      have hD2 : Dd G H5 d n (fun i => if i = 8 + w then mnF (dd (8 + w) + 2) else if i = 16 + g then lsF (dd (16 + g)) else if i = 8 + g then lsF (dd (8 + g)) else dd i) := by
        refine Dd.mk' hd hs hu ho hn ?_ ?_ (hk.symm.trans ?_) ?_ ?_ ?_
        all_goals try intro i hi
        all_goals try dsimp only
        all_goals try simp only [upd]
        all_goals repeat' split
        all_goals first | omega | rfl | contradiction | exact eS _ (by assumption) | exact eU _ (by assumption) | exact eO _ (by assumption) | (simp_all; done)
      refine a_aload_n 0 dX0_correctTo_86 rfl rfl ?_
      refine a_iload_n 1 dX0_correctTo_87 rfl rfl ?_
      refine a_callVv (As := [.int (nI w)]) (rest := []) (d := 1) (mc := 0) (ms := 0) (ci := 0) l_X0_53 im_X0_putOnList se_X0_putOnList ⟨_, rfl, rfl⟩ dX0_correctTo_88 ⟨Nat.le_of_ble_eq_true rfl, Nat.le_of_ble_eq_true rfl⟩ rfl (Nat.le_of_ble_eq_true rfl) ⟨Nat.le_of_ble_eq_true rfl, Nat.le_of_ble_eq_true rfl⟩ hd (c_X0_putOnList hD2 hw hB) (fun H6 hp6 => ?_)
      obtain ⟨⟨fS2, fU2, fO2, hd, hs, hu, ho, eS2, eU2, eO2, -⟩, hfr⟩ := hp6
      have hF : ∀ q : Nat, ¬ (d ≤ q ∧ q < d + 4) → H6[q]? = H[q]? := fun q hq => (hfr q (by omega)).trans (hF q hq)
      refine a_aload_n 0 dX0_correctTo_91 rfl rfl ?_
      refine a_iconst (-1) dX0_correctTo_92 (by decide) ?_
      refine a_put f_X0_31 p_X0_31 dX0_correctTo_93 hd (Nat.le_of_ble_eq_true rfl) rfl rfl (by omega) (fun H7 hd hz7 hq7 => ?_)
      have hd : Ob G H7 d 0 [.int (nI n), .ref (d + 1), .ref (d + 2), .ref (d + 3), .int (puF (fun i => if i = 8 + w then mnF (dd (8 + w) + 2) else if i = 16 + g then lsF (dd (16 + g)) else if i = 8 + g then lsF (dd (8 + g)) else dd i) w 25), .int (puF (fun i => if i = 8 + w then mnF (dd (8 + w) + 2) else if i = 16 + g then lsF (dd (16 + g)) else if i = 8 + g then lsF (dd (8 + g)) else dd i) w 24), .int (-1)] := hd
      have hs := hs.kept (hq7 _ (by omega))
      have hu := hu.kept (hq7 _ (by omega))
      have ho := ho.kept (hq7 _ (by omega))
      have hF : ∀ q : Nat, ¬ (d ≤ q ∧ q < d + 4) → H7[q]? = H[q]? := fun q hq => (hq7 q (by omega)).trans (hF q hq)
      refine a_retv dX0_correctTo_96 ⟨⟨rfl, ?_⟩, rfl, rfl⟩
      · refine ⟨Dd.mk' hd hs hu ho hn ?_ ?_ ?_ (fun i hi => (eS2 i hi).trans ?_) (fun i hi => (eU2 i hi).trans ?_) (fun i hi => (eO2 i hi).trans ?_), hF⟩
        all_goals simp only [upd, puF, crF]
        all_goals repeat' split
        all_goals first | omega | rfl | (simp_all; done)
set_option maxHeartbeats 4000000 in
set_option maxRecDepth 100000 in
theorem c_X0_learn {G : GT} {B : Nat} {l : Launch} {H : Heap} {d n : Nat} {dd : DD} {w : Nat} {b : Bool} {g : Nat} (hD : Dd G H d n dd) (hk : dd 26 = nI g) (hg : g < n) (hw : w < n) (hB : B ≤ d) : AM G B l yX0_learn cX0_learn 3 none 3 0 0 [.ref d, .int (nI w), .int (bI b)] H (fun v H' => v = none ∧ (Dd G H' d n (if b = true ∧ g ≠ w then crF dd g w else cfF dd g) ∧ ∀ q : Nat, ¬ (d ≤ q ∧ q < d + 4) → H'[q]? = H[q]?)) := by
  have hD0 := hD
  obtain ⟨fS, fU, fO, hd, hs, hu, ho, eS, eU, eO, hn⟩ := hD
  rw [hk] at hd
  have hF : ∀ q : Nat, ¬ (d ≤ q ∧ q < d + 4) → H[q]? = H[q]? := fun _ _ => rfl
  refine AM.ofV (lv := [(0, .ref d), (1, .int (nI w)), (2, .int (bI b))]) (by decide +kernel) (ini := false) (fun h => by cases h) (Nat.le_of_ble_eq_true rfl) rfl ?_ (fun _ _ h => h.1)
  refine a_iload_n 2 dX0_learn_0 rfl rfl ?_
  refine a_ifeqB 20 dX0_learn_1 (by decide) (fun c1 => ?_) (fun c1 => ?_)
  · skip
    refine a_aload_n 0 dX0_learn_20 rfl rfl ?_
    refine a_callVv (As := []) (rest := []) (d := 1) (mc := 0) (ms := 0) (ci := 0) l_X0_60 im_X0_confirm se_X0_confirm ⟨_, rfl, rfl⟩ dX0_learn_21 ⟨Nat.le_of_ble_eq_true rfl, Nat.le_of_ble_eq_true rfl⟩ rfl (Nat.le_of_ble_eq_true rfl) ⟨Nat.le_of_ble_eq_true rfl, Nat.le_of_ble_eq_true rfl⟩ hd (c_X0_confirm hD0 hk hg hB) (fun H1 hp1 => ?_)
    obtain ⟨hD3, hfr⟩ := hp1
    have hq3 : ¬ (b = true ∧ g ≠ w) := by first | exact fun h => h.2 c9 | (rw [c1]; exact fun h => by cases h.1)
    have hF : ∀ q : Nat, ¬ (d ≤ q ∧ q < d + 4) → H1[q]? = H[q]? := fun q hq => (hfr q (by omega)).trans (hF q hq)
    refine a_retv dX0_learn_24 ⟨⟨rfl, ?_⟩, rfl, rfl⟩
    · refine ⟨?_, hF⟩
      first | (rw [if_pos hq3]; exact hD3) | (rw [if_neg hq3]; exact hD3)
  · skip
    refine a_aload_n 0 dX0_learn_4 rfl rfl ?_
    refine a_get f_X0_31 dX0_learn_5 hd rfl ?_
    refine a_iload_n 1 dX0_learn_8 rfl rfl ?_
    refine a_icmpeqN (a := g) (b := w) 20 dX0_learn_9 (by decide) (by omega) (by omega) (fun c9 => ?_) (fun c9 => ?_)
    · skip
      refine a_aload_n 0 dX0_learn_20 rfl rfl ?_
      refine a_callVv (As := []) (rest := []) (d := 1) (mc := 0) (ms := 0) (ci := 0) l_X0_60 im_X0_confirm se_X0_confirm ⟨_, rfl, rfl⟩ dX0_learn_21 ⟨Nat.le_of_ble_eq_true rfl, Nat.le_of_ble_eq_true rfl⟩ rfl (Nat.le_of_ble_eq_true rfl) ⟨Nat.le_of_ble_eq_true rfl, Nat.le_of_ble_eq_true rfl⟩ hd (c_X0_confirm hD0 hk hg hB) (fun H2 hp2 => ?_)
      obtain ⟨hD3, hfr⟩ := hp2
      have hq3 : ¬ (b = true ∧ g ≠ w) := by first | exact fun h => h.2 c9 | (rw [c1]; exact fun h => by cases h.1)
      have hF : ∀ q : Nat, ¬ (d ≤ q ∧ q < d + 4) → H2[q]? = H[q]? := fun q hq => (hfr q (by omega)).trans (hF q hq)
      refine a_retv dX0_learn_24 ⟨⟨rfl, ?_⟩, rfl, rfl⟩
      · refine ⟨?_, hF⟩
        first | (rw [if_pos hq3]; exact hD3) | (rw [if_neg hq3]; exact hD3)
    · skip
      refine a_aload_n 0 dX0_learn_12 rfl rfl ?_
      refine a_iload_n 1 dX0_learn_13 rfl rfl ?_
      refine a_callVv (As := [.int (nI w)]) (rest := []) (d := 2) (mc := 0) (ms := 0) (ci := 0) l_X0_57 im_X0_correctTo se_X0_correctTo ⟨_, rfl, rfl⟩ dX0_learn_14 ⟨Nat.le_of_ble_eq_true rfl, Nat.le_of_ble_eq_true rfl⟩ rfl (Nat.le_of_ble_eq_true rfl) ⟨Nat.le_of_ble_eq_true rfl, Nat.le_of_ble_eq_true rfl⟩ hd (c_X0_correctTo hD0 hk hg hw c9 hB) (fun H3 hp3 => ?_)
      obtain ⟨hD3, hfr⟩ := hp3
      have hq3 : b = true ∧ g ≠ w := ⟨c1, c9⟩
      have hF : ∀ q : Nat, ¬ (d ≤ q ∧ q < d + 4) → H3[q]? = H[q]? := fun q hq => (hfr q (by omega)).trans (hF q hq)
      refine a_goto 24 dX0_learn_17 (by decide) ?_
      refine a_retv dX0_learn_24 ⟨⟨rfl, ?_⟩, rfl, rfl⟩
      · refine ⟨?_, hF⟩
        first | (rw [if_pos hq3]; exact hD3) | (rw [if_neg hq3]; exact hD3)
set_option maxHeartbeats 4000000 in
set_option maxRecDepth 100000 in
theorem c_X0_copy {G : GT} {B : Nat} {l : Launch} {H : Heap} {d n : Nat} {dd : DD} {f n2 : Nat} {dd2 : DD} (hD2 : Dd G H f n2 dd2) (hap : d + 4 ≤ f ∨ f + 4 ≤ d) (hD : Dd G H d n dd) (hB : B ≤ d) : AM G B l yX0_copy cX0_copy 3 none 1 0 0 [.ref d, .ref f] H (fun v H' => v = none ∧ (Dd G H' d n2 dd2 ∧ ∀ q : Nat, ¬ (d ≤ q ∧ q < d + 4) → H'[q]? = H[q]?)) := by
  obtain ⟨fS, fU, fO, hd, hs, hu, ho, eS, eU, eO, hn⟩ := hD
  obtain ⟨fS2, fU2, fO2, hd2, hs2, hu2, ho2, eS2, eU2, eO2, hn2⟩ := hD2
  have hF : ∀ q : Nat, ¬ (d ≤ q ∧ q < d + 4) → H[q]? = H[q]? := fun _ _ => rfl
  refine AM.ofV (lv := [(0, .ref d), (1, .ref f)]) (by decide +kernel) (ini := false) (fun h => by cases h) (Nat.le_of_ble_eq_true rfl) rfl ?_ (fun _ _ h => h.1)
  refine a_aload_n 0 dX0_copy_0 rfl rfl ?_
  refine a_aload_n 1 dX0_copy_1 rfl rfl ?_
  refine a_get f_X0_9 dX0_copy_2 hd2 rfl ?_
  refine a_put f_X0_9 p_X0_9 dX0_copy_5 hd (Nat.le_of_ble_eq_true rfl) rfl rfl (by omega) (fun H1 hd hz1 hq1 => ?_)
  have hd : Ob G H1 d 0 [.int (nI n2), .ref (d + 1), .ref (d + 2), .ref (d + 3), .int (dd 25), .int (dd 24), .int (dd 26)] := hd
  have hs := hs.kept (hq1 _ (by omega))
  have hu := hu.kept (hq1 _ (by omega))
  have ho := ho.kept (hq1 _ (by omega))
  have hd2 := hd2.kept (hq1 _ (by omega))
  have hs2 := hs2.kept (hq1 _ (by omega))
  have hu2 := hu2.kept (hq1 _ (by omega))
  have ho2 := ho2.kept (hq1 _ (by omega))
  have hF : ∀ q : Nat, ¬ (d ≤ q ∧ q < d + 4) → H1[q]? = H[q]? := fun q hq => (hq1 q (by omega)).trans (hF q hq)
  refine a_iconst 0 dX0_copy_8 (by decide) ?_
  refine a_istore_n (lv' := [(2, .int 0), (0, .ref d), (1, .ref f)]) dX0_copy_9 rfl (by decide) rfl ?_
  have L10 : ∀ (fu : Nat) (k : Nat) (Hk : Heap) (gS gU gO : DD), k ≤ n2 → Ob G Hk d 0 [.int (nI n2), .ref (d + 1), .ref (d + 2), .ref (d + 3), .int (dd 25), .int (dd 24), .int (dd 26)] → Ai G Hk (d + 1) 8 gS → Ai G Hk (d + 2) 8 gU → Ai G Hk (d + 3) 8 gO → Ob G Hk f 0 [.int (nI n2), .ref (f + 1), .ref (f + 2), .ref (f + 3), .int (dd2 25), .int (dd2 24), .int (dd2 26)] → Ai G Hk (f + 1) 8 fS2 → Ai G Hk (f + 2) 8 fU2 → Ai G Hk (f + 3) 8 fO2 → (∀ i, i < k → gS i = dd2 i) → (∀ i, i < k → gU i = dd2 (8 + i)) → (∀ i, i < k → gO i = dd2 (16 + i)) → (∀ q : Nat, ¬ (d ≤ q ∧ q < d + 4) → Hk[q]? = H[q]?) → n2 - k < fu → AW G B l { frames := 1, cells := 0, slots := 0, locals := 27 * 1 } yX0_copy.cls cX0_copy 3 false (fun v H' ce' sl' => (v = none ∧ (Dd G H' d n2 dd2 ∧ ∀ q : Nat, ¬ (d ≤ q ∧ q < d + 4) → H'[q]? = H[q]?)) ∧ ce' = 0 ∧ sl' = 0) 10 [(0, .ref d), (1, .ref f), (2, .int (nI k))] [] Hk 0 0 := by
    intro fu
    induction fu with
    | zero => intro k Hk gS gU gO hk hd hs hu ho hd2 hs2 hu2 ho2 gS1 gU1 gO1 hF hm10; exact absurd hm10 (Nat.not_lt_zero _)
    | succ fu ih10 =>
      intro k Hk gS gU gO hk hd hs hu ho hd2 hs2 hu2 ho2 gS1 gU1 gO1 hF hm10
      refine a_iload_n 2 dX0_copy_10 rfl rfl ?_
      refine a_aload_n 0 dX0_copy_11 rfl rfl ?_
      refine a_get f_X0_9 dX0_copy_12 hd rfl ?_
      refine a_icmpgeN (a := k) (b := n2) 60 dX0_copy_15 (by decide) (by omega) (by omega) (fun c15 => ?_) (fun c15 => ?_)
      · skip
        refine a_aload_n 0 dX0_copy_60 rfl rfl ?_
        refine a_aload_n 1 dX0_copy_61 rfl rfl ?_
        refine a_get f_X0_25 dX0_copy_62 hd2 rfl ?_
        refine a_put f_X0_25 p_X0_25 dX0_copy_65 hd (Nat.le_of_ble_eq_true rfl) rfl rfl (by omega) (fun H2 hd hz2 hq2 => ?_)
        have hd : Ob G H2 d 0 [.int (nI n2), .ref (d + 1), .ref (d + 2), .ref (d + 3), .int (dd2 25), .int (dd 24), .int (dd 26)] := hd
        have hs := hs.kept (hq2 _ (by omega))
        have hu := hu.kept (hq2 _ (by omega))
        have ho := ho.kept (hq2 _ (by omega))
        have hd2 := hd2.kept (hq2 _ (by omega))
        have hs2 := hs2.kept (hq2 _ (by omega))
        have hu2 := hu2.kept (hq2 _ (by omega))
        have ho2 := ho2.kept (hq2 _ (by omega))
        have hF : ∀ q : Nat, ¬ (d ≤ q ∧ q < d + 4) → H2[q]? = H[q]? := fun q hq => (hq2 q (by omega)).trans (hF q hq)
        refine a_aload_n 0 dX0_copy_68 rfl rfl ?_
        refine a_aload_n 1 dX0_copy_69 rfl rfl ?_
        refine a_get f_X0_28 dX0_copy_70 hd2 rfl ?_
        refine a_put f_X0_28 p_X0_28 dX0_copy_73 hd (Nat.le_of_ble_eq_true rfl) rfl rfl (by omega) (fun H3 hd hz3 hq3 => ?_)
        have hd : Ob G H3 d 0 [.int (nI n2), .ref (d + 1), .ref (d + 2), .ref (d + 3), .int (dd2 25), .int (dd2 24), .int (dd 26)] := hd
        have hs := hs.kept (hq3 _ (by omega))
        have hu := hu.kept (hq3 _ (by omega))
        have ho := ho.kept (hq3 _ (by omega))
        have hd2 := hd2.kept (hq3 _ (by omega))
        have hs2 := hs2.kept (hq3 _ (by omega))
        have hu2 := hu2.kept (hq3 _ (by omega))
        have ho2 := ho2.kept (hq3 _ (by omega))
        have hF : ∀ q : Nat, ¬ (d ≤ q ∧ q < d + 4) → H3[q]? = H[q]? := fun q hq => (hq3 q (by omega)).trans (hF q hq)
        refine a_aload_n 0 dX0_copy_76 rfl rfl ?_
        refine a_aload_n 1 dX0_copy_77 rfl rfl ?_
        refine a_get f_X0_31 dX0_copy_78 hd2 rfl ?_
        refine a_put f_X0_31 p_X0_31 dX0_copy_81 hd (Nat.le_of_ble_eq_true rfl) rfl rfl (by omega) (fun H4 hd hz4 hq4 => ?_)
        have hd : Ob G H4 d 0 [.int (nI n2), .ref (d + 1), .ref (d + 2), .ref (d + 3), .int (dd2 25), .int (dd2 24), .int (dd2 26)] := hd
        have hs := hs.kept (hq4 _ (by omega))
        have hu := hu.kept (hq4 _ (by omega))
        have ho := ho.kept (hq4 _ (by omega))
        have hd2 := hd2.kept (hq4 _ (by omega))
        have hs2 := hs2.kept (hq4 _ (by omega))
        have hu2 := hu2.kept (hq4 _ (by omega))
        have ho2 := ho2.kept (hq4 _ (by omega))
        have hF : ∀ q : Nat, ¬ (d ≤ q ∧ q < d + 4) → H4[q]? = H[q]? := fun q hq => (hq4 q (by omega)).trans (hF q hq)
        refine a_retv dX0_copy_84 ⟨⟨rfl, ?_⟩, rfl, rfl⟩
        · refine ⟨Dd.mk' hd hs hu ho hn2 rfl rfl rfl (fun i hi => gS1 i (by omega)) (fun i hi => gU1 i (by omega)) (fun i hi => gO1 i (by omega)), hF⟩
      · skip
        refine a_aload_n 0 dX0_copy_18 rfl rfl ?_
        refine a_get f_X0_15 dX0_copy_19 hd rfl ?_
        refine a_iload_n 2 dX0_copy_22 rfl rfl ?_
        refine a_aload_n 1 dX0_copy_23 rfl rfl ?_
        refine a_get f_X0_15 dX0_copy_24 hd2 rfl ?_
        refine a_iload_n 2 dX0_copy_27 rfl rfl ?_
        refine a_ialdN (j := k) dX0_copy_28 hs2 (by omega) (by decide) ?_
        refine a_toeq (dd2 k) (eS2 _ (by omega)) ?_
        refine a_iastN (j := k) dX0_copy_29 hs (by omega) (by decide) (by omega) (fun H5 hs hz5 hq5 => ?_)
        have hs : Ai G H5 (d + 1) 8 (upd gS k (dd2 k)) := hs
        have hd := hd.kept (hq5 _ (by omega))
        have hu := hu.kept (hq5 _ (by omega))
        have ho := ho.kept (hq5 _ (by omega))
        have hd2 := hd2.kept (hq5 _ (by omega))
        have hs2 := hs2.kept (hq5 _ (by omega))
        have hu2 := hu2.kept (hq5 _ (by omega))
        have ho2 := ho2.kept (hq5 _ (by omega))
        have hF : ∀ q : Nat, ¬ (d ≤ q ∧ q < d + 4) → H5[q]? = H[q]? := fun q hq => (hq5 q (by omega)).trans (hF q hq)
        refine a_aload_n 0 dX0_copy_30 rfl rfl ?_
        refine a_get f_X0_19 dX0_copy_31 hd rfl ?_
        refine a_iload_n 2 dX0_copy_34 rfl rfl ?_
        refine a_aload_n 1 dX0_copy_35 rfl rfl ?_
        refine a_get f_X0_19 dX0_copy_36 hd2 rfl ?_
        refine a_iload_n 2 dX0_copy_39 rfl rfl ?_
        refine a_ialdN (j := k) dX0_copy_40 hu2 (by omega) (by decide) ?_
        refine a_toeq (dd2 (8 + k)) (eU2 _ (by omega)) ?_
        refine a_iastN (j := k) dX0_copy_41 hu (by omega) (by decide) (by omega) (fun H6 hu hz6 hq6 => ?_)
        have hu : Ai G H6 (d + 2) 8 (upd gU k (dd2 (8 + k))) := hu
        have hd := hd.kept (hq6 _ (by omega))
        have hs := hs.kept (hq6 _ (by omega))
        have ho := ho.kept (hq6 _ (by omega))
        have hd2 := hd2.kept (hq6 _ (by omega))
        have hs2 := hs2.kept (hq6 _ (by omega))
        have hu2 := hu2.kept (hq6 _ (by omega))
        have ho2 := ho2.kept (hq6 _ (by omega))
        have hF : ∀ q : Nat, ¬ (d ≤ q ∧ q < d + 4) → H6[q]? = H[q]? := fun q hq => (hq6 q (by omega)).trans (hF q hq)
        refine a_aload_n 0 dX0_copy_42 rfl rfl ?_
        refine a_get f_X0_22 dX0_copy_43 hd rfl ?_
        refine a_iload_n 2 dX0_copy_46 rfl rfl ?_
        refine a_aload_n 1 dX0_copy_47 rfl rfl ?_
        refine a_get f_X0_22 dX0_copy_48 hd2 rfl ?_
        refine a_iload_n 2 dX0_copy_51 rfl rfl ?_
        refine a_ialdN (j := k) dX0_copy_52 ho2 (by omega) (by decide) ?_
        refine a_toeq (dd2 (16 + k)) (eO2 _ (by omega)) ?_
        refine a_iastN (j := k) dX0_copy_53 ho (by omega) (by decide) (by omega) (fun H7 ho hz7 hq7 => ?_)
        have ho : Ai G H7 (d + 3) 8 (upd gO k (dd2 (16 + k))) := ho
        have hd := hd.kept (hq7 _ (by omega))
        have hs := hs.kept (hq7 _ (by omega))
        have hu := hu.kept (hq7 _ (by omega))
        have hd2 := hd2.kept (hq7 _ (by omega))
        have hs2 := hs2.kept (hq7 _ (by omega))
        have hu2 := hu2.kept (hq7 _ (by omega))
        have ho2 := ho2.kept (hq7 _ (by omega))
        have hF : ∀ q : Nat, ¬ (d ≤ q ∧ q < d + 4) → H7[q]? = H[q]? := fun q hq => (hq7 q (by omega)).trans (hF q hq)
        refine a_iincN (q := 2) (lv' := [(2, .int (nI (k + 1))), (0, .ref d), (1, .ref f)]) dX0_copy_54 rfl (by decide) rfl ?_
        refine a_goto 10 dX0_copy_57 (by decide) ?_
        refine a_sub [1, 2, 0] rfl ?_
        exact ih10 _ _ _ _ _ (by omega) hd hs hu ho hd2 hs2 hu2 ho2 (upd_to gS1 rfl) (upd_to (e := fun i => dd2 (8 + i)) gU1 rfl) (upd_to (e := fun i => dd2 (16 + i)) gO1 rfl) hF (by omega)
  refine a_sub [1, 2, 0] rfl ?_
  exact L10 _ 0 _ _ _ _ (Nat.zero_le _) hd hs hu ho hd2 hs2 hu2 ho2 (fun i hi => absurd hi (Nat.not_lt_zero _)) (fun i hi => absurd hi (Nat.not_lt_zero _)) (fun i hi => absurd hi (Nat.not_lt_zero _)) hF (Nat.lt_succ_self _)
set_option maxHeartbeats 4000000 in
set_option maxRecDepth 100000 in
theorem c_X0_begin {G : GT} {B : Nat} {l : Launch} {H : Heap} {d n : Nat} {dd : DD} {k0 : Nat} {kb : Bool} {ka ks kw : Int32} {n2 nv : Nat} {kS kU kK kV : DD} (hK : Kt G H k0 kb ka ks kw n2 nv kS kU kK kV) (hap : d + 4 ≤ k0 ∨ k0 + 5 ≤ d) (hD : Dd G H d n dd) (hB : B ≤ d) : AM G B l yX0_begin cX0_begin 3 none 1 0 0 [.ref d, .ref k0] H (fun v H' => v = none ∧ (Dd G H' d n2 (bgF kS kU) ∧ ∀ q : Nat, ¬ (d ≤ q ∧ q < d + 4) → H'[q]? = H[q]?)) := by
  obtain ⟨fS, fU, fO, hd, hs, hu, ho, eS, eU, eO, hn⟩ := hD
  obtain ⟨fS3, fU3, fK3, fV3, hk3, ha3, hb3, hc3, he3, eS3, eU3, eK3, eV3, hn3, hnv3⟩ := hK
  have hF : ∀ q : Nat, ¬ (d ≤ q ∧ q < d + 4) → H[q]? = H[q]? := fun _ _ => rfl
  refine AM.ofV (lv := [(0, .ref d), (1, .ref k0)]) (by decide +kernel) (ini := false) (fun h => by cases h) (Nat.le_of_ble_eq_true rfl) rfl ?_ (fun _ _ h => h.1)
  refine a_aload_n 0 dX0_begin_0 rfl rfl ?_
  refine a_aload_n 1 dX0_begin_1 rfl rfl ?_
  refine a_get f_X0_34 dX0_begin_2 hk3 rfl ?_
  refine a_put f_X0_9 p_X0_9 dX0_begin_5 hd (Nat.le_of_ble_eq_true rfl) rfl rfl (by omega) (fun H1 hd hz1 hq1 => ?_)
  have hd : Ob G H1 d 0 [.int (nI n2), .ref (d + 1), .ref (d + 2), .ref (d + 3), .int (dd 25), .int (dd 24), .int (dd 26)] := hd
  have hs := hs.kept (hq1 _ (by omega))
  have hu := hu.kept (hq1 _ (by omega))
  have ho := ho.kept (hq1 _ (by omega))
  have hk3 := hk3.kept (hq1 _ (by omega))
  have ha3 := ha3.kept (hq1 _ (by omega))
  have hb3 := hb3.kept (hq1 _ (by omega))
  have hc3 := hc3.kept (hq1 _ (by omega))
  have he3 := he3.kept (hq1 _ (by omega))
  have hF : ∀ q : Nat, ¬ (d ≤ q ∧ q < d + 4) → H1[q]? = H[q]? := fun q hq => (hq1 q (by omega)).trans (hF q hq)
  refine a_iconst 0 dX0_begin_8 (by decide) ?_
  refine a_istore_n (lv' := [(2, .int 0), (0, .ref d), (1, .ref k0)]) dX0_begin_9 rfl (by decide) rfl ?_
  have L10 : ∀ (fu : Nat) (k : Nat) (Hk : Heap) (gS gU gO : DD), k ≤ n2 → Ob G Hk d 0 [.int (nI n2), .ref (d + 1), .ref (d + 2), .ref (d + 3), .int (dd 25), .int (dd 24), .int (dd 26)] → Ai G Hk (d + 1) 8 gS → Ai G Hk (d + 2) 8 gU → Ai G Hk (d + 3) 8 gO → Ob G Hk k0 2 [.int (bI kb), .int ka, .int ks, .int kw, .int (nI n2), .int (nI nv), .ref (k0 + 1), .ref (k0 + 2), .ref (k0 + 3), .ref (k0 + 4)] → Ai G Hk (k0 + 1) 8 fS3 → Ai G Hk (k0 + 2) 8 fU3 → Ai G Hk (k0 + 3) 8 fK3 → Ai G Hk (k0 + 4) 4 fV3 → (∀ i, i < k → gS i = kS i) → (∀ i, i < k → gU i = kU i) → (∀ i, i < k → gO i = 0) → (∀ q : Nat, ¬ (d ≤ q ∧ q < d + 4) → Hk[q]? = H[q]?) → n2 - k < fu → AW G B l { frames := 1, cells := 0, slots := 0, locals := 27 * 1 } yX0_begin.cls cX0_begin 3 false (fun v H' ce' sl' => (v = none ∧ (Dd G H' d n2 (bgF kS kU) ∧ ∀ q : Nat, ¬ (d ≤ q ∧ q < d + 4) → H'[q]? = H[q]?)) ∧ ce' = 0 ∧ sl' = 0) 10 [(0, .ref d), (1, .ref k0), (2, .int (nI k))] [] Hk 0 0 := by
    intro fu
    induction fu with
    | zero => intro k Hk gS gU gO hk hd hs hu ho hk3 ha3 hb3 hc3 he3 gS1 gU1 gO1 hF hm10; exact absurd hm10 (Nat.not_lt_zero _)
    | succ fu ih10 =>
      intro k Hk gS gU gO hk hd hs hu ho hk3 ha3 hb3 hc3 he3 gS1 gU1 gO1 hF hm10
      refine a_iload_n 2 dX0_begin_10 rfl rfl ?_
      refine a_aload_n 0 dX0_begin_11 rfl rfl ?_
      refine a_get f_X0_9 dX0_begin_12 hd rfl ?_
      refine a_icmpgeN (a := k) (b := n2) 55 dX0_begin_15 (by decide) (by omega) (by omega) (fun c15 => ?_) (fun c15 => ?_)
      · skip
        refine a_aload_n 0 dX0_begin_55 rfl rfl ?_
        refine a_iconst 0 dX0_begin_56 (by decide) ?_
        refine a_put f_X0_25 p_X0_25 dX0_begin_57 hd (Nat.le_of_ble_eq_true rfl) rfl rfl (by omega) (fun H2 hd hz2 hq2 => ?_)
        have hd : Ob G H2 d 0 [.int (nI n2), .ref (d + 1), .ref (d + 2), .ref (d + 3), .int 0, .int (dd 24), .int (dd 26)] := hd
        have hs := hs.kept (hq2 _ (by omega))
        have hu := hu.kept (hq2 _ (by omega))
        have ho := ho.kept (hq2 _ (by omega))
        have hk3 := hk3.kept (hq2 _ (by omega))
        have ha3 := ha3.kept (hq2 _ (by omega))
        have hb3 := hb3.kept (hq2 _ (by omega))
        have hc3 := hc3.kept (hq2 _ (by omega))
        have he3 := he3.kept (hq2 _ (by omega))
        have hF : ∀ q : Nat, ¬ (d ≤ q ∧ q < d + 4) → H2[q]? = H[q]? := fun q hq => (hq2 q (by omega)).trans (hF q hq)
        refine a_aload_n 0 dX0_begin_60 rfl rfl ?_
        refine a_iconst 0 dX0_begin_61 (by decide) ?_
        refine a_put f_X0_28 p_X0_28 dX0_begin_62 hd (Nat.le_of_ble_eq_true rfl) rfl rfl (by omega) (fun H3 hd hz3 hq3 => ?_)
        have hd : Ob G H3 d 0 [.int (nI n2), .ref (d + 1), .ref (d + 2), .ref (d + 3), .int 0, .int 0, .int (dd 26)] := hd
        have hs := hs.kept (hq3 _ (by omega))
        have hu := hu.kept (hq3 _ (by omega))
        have ho := ho.kept (hq3 _ (by omega))
        have hk3 := hk3.kept (hq3 _ (by omega))
        have ha3 := ha3.kept (hq3 _ (by omega))
        have hb3 := hb3.kept (hq3 _ (by omega))
        have hc3 := hc3.kept (hq3 _ (by omega))
        have he3 := he3.kept (hq3 _ (by omega))
        have hF : ∀ q : Nat, ¬ (d ≤ q ∧ q < d + 4) → H3[q]? = H[q]? := fun q hq => (hq3 q (by omega)).trans (hF q hq)
        refine a_aload_n 0 dX0_begin_65 rfl rfl ?_
        refine a_iconst (-1) dX0_begin_66 (by decide) ?_
        refine a_put f_X0_31 p_X0_31 dX0_begin_67 hd (Nat.le_of_ble_eq_true rfl) rfl rfl (by omega) (fun H4 hd hz4 hq4 => ?_)
        have hd : Ob G H4 d 0 [.int (nI n2), .ref (d + 1), .ref (d + 2), .ref (d + 3), .int 0, .int 0, .int (-1)] := hd
        have hs := hs.kept (hq4 _ (by omega))
        have hu := hu.kept (hq4 _ (by omega))
        have ho := ho.kept (hq4 _ (by omega))
        have hk3 := hk3.kept (hq4 _ (by omega))
        have ha3 := ha3.kept (hq4 _ (by omega))
        have hb3 := hb3.kept (hq4 _ (by omega))
        have hc3 := hc3.kept (hq4 _ (by omega))
        have he3 := he3.kept (hq4 _ (by omega))
        have hF : ∀ q : Nat, ¬ (d ≤ q ∧ q < d + 4) → H4[q]? = H[q]? := fun q hq => (hq4 q (by omega)).trans (hF q hq)
        refine a_retv dX0_begin_70 ⟨⟨rfl, ?_⟩, rfl, rfl⟩
        · refine ⟨Dd.mk' hd hs hu ho hn3 rfl rfl rfl (fun i hi => (gS1 i (by omega)).trans ?_) (fun i hi => (gU1 i (by omega)).trans ?_) (fun i hi => (gO1 i (by omega)).trans ?_), hF⟩
          all_goals simp only [bgF]
          all_goals repeat' split
          all_goals first | omega | rfl | (congr 1; omega)
      · skip
        refine a_aload_n 0 dX0_begin_18 rfl rfl ?_
        refine a_get f_X0_15 dX0_begin_19 hd rfl ?_
        refine a_iload_n 2 dX0_begin_22 rfl rfl ?_
        refine a_aload_n 1 dX0_begin_23 rfl rfl ?_
        refine a_get f_X0_37 dX0_begin_24 hk3 rfl ?_
        refine a_iload_n 2 dX0_begin_27 rfl rfl ?_
        refine a_ialdN (j := k) dX0_begin_28 ha3 (by omega) (by decide) ?_
        refine a_toeq (kS k) (eS3 _ (by omega)) ?_
        refine a_iastN (j := k) dX0_begin_29 hs (by omega) (by decide) (by omega) (fun H5 hs hz5 hq5 => ?_)
        have hs : Ai G H5 (d + 1) 8 (upd gS k (kS k)) := hs
        have hd := hd.kept (hq5 _ (by omega))
        have hu := hu.kept (hq5 _ (by omega))
        have ho := ho.kept (hq5 _ (by omega))
        have hk3 := hk3.kept (hq5 _ (by omega))
        have ha3 := ha3.kept (hq5 _ (by omega))
        have hb3 := hb3.kept (hq5 _ (by omega))
        have hc3 := hc3.kept (hq5 _ (by omega))
        have he3 := he3.kept (hq5 _ (by omega))
        have hF : ∀ q : Nat, ¬ (d ≤ q ∧ q < d + 4) → H5[q]? = H[q]? := fun q hq => (hq5 q (by omega)).trans (hF q hq)
        refine a_aload_n 0 dX0_begin_30 rfl rfl ?_
        refine a_get f_X0_19 dX0_begin_31 hd rfl ?_
        refine a_iload_n 2 dX0_begin_34 rfl rfl ?_
        refine a_aload_n 1 dX0_begin_35 rfl rfl ?_
        refine a_get f_X0_38 dX0_begin_36 hk3 rfl ?_
        refine a_iload_n 2 dX0_begin_39 rfl rfl ?_
        refine a_ialdN (j := k) dX0_begin_40 hb3 (by omega) (by decide) ?_
        refine a_toeq (kU k) (eU3 _ (by omega)) ?_
        refine a_iastN (j := k) dX0_begin_41 hu (by omega) (by decide) (by omega) (fun H6 hu hz6 hq6 => ?_)
        have hu : Ai G H6 (d + 2) 8 (upd gU k (kU k)) := hu
        have hd := hd.kept (hq6 _ (by omega))
        have hs := hs.kept (hq6 _ (by omega))
        have ho := ho.kept (hq6 _ (by omega))
        have hk3 := hk3.kept (hq6 _ (by omega))
        have ha3 := ha3.kept (hq6 _ (by omega))
        have hb3 := hb3.kept (hq6 _ (by omega))
        have hc3 := hc3.kept (hq6 _ (by omega))
        have he3 := he3.kept (hq6 _ (by omega))
        have hF : ∀ q : Nat, ¬ (d ≤ q ∧ q < d + 4) → H6[q]? = H[q]? := fun q hq => (hq6 q (by omega)).trans (hF q hq)
        refine a_aload_n 0 dX0_begin_42 rfl rfl ?_
        refine a_get f_X0_22 dX0_begin_43 hd rfl ?_
        refine a_iload_n 2 dX0_begin_46 rfl rfl ?_
        refine a_iconst 0 dX0_begin_47 (by decide) ?_
        refine a_iastN (j := k) dX0_begin_48 ho (by omega) (by decide) (by omega) (fun H7 ho hz7 hq7 => ?_)
        have ho : Ai G H7 (d + 3) 8 (upd gO k 0) := ho
        have hd := hd.kept (hq7 _ (by omega))
        have hs := hs.kept (hq7 _ (by omega))
        have hu := hu.kept (hq7 _ (by omega))
        have hk3 := hk3.kept (hq7 _ (by omega))
        have ha3 := ha3.kept (hq7 _ (by omega))
        have hb3 := hb3.kept (hq7 _ (by omega))
        have hc3 := hc3.kept (hq7 _ (by omega))
        have he3 := he3.kept (hq7 _ (by omega))
        have hF : ∀ q : Nat, ¬ (d ≤ q ∧ q < d + 4) → H7[q]? = H[q]? := fun q hq => (hq7 q (by omega)).trans (hF q hq)
        refine a_iincN (q := 2) (lv' := [(2, .int (nI (k + 1))), (0, .ref d), (1, .ref k0)]) dX0_begin_49 rfl (by decide) rfl ?_
        refine a_goto 10 dX0_begin_52 (by decide) ?_
        refine a_sub [1, 2, 0] rfl ?_
        exact ih10 _ _ _ _ _ (by omega) hd hs hu ho hk3 ha3 hb3 hc3 he3 (upd_to gS1 rfl) (upd_to gU1 rfl) (upd_to (e := fun _ => 0) gO1 rfl) hF (by omega)
  refine a_sub [1, 2, 0] rfl ?_
  exact L10 _ 0 _ _ _ _ (Nat.zero_le _) hd hs hu ho hk3 ha3 hb3 hc3 he3 (fun i hi => absurd hi (Nat.not_lt_zero _)) (fun i hi => absurd hi (Nat.not_lt_zero _)) (fun i hi => absurd hi (Nat.not_lt_zero _)) hF (Nat.lt_succ_self _)
set_option maxHeartbeats 4000000 in
set_option maxRecDepth 100000 in
theorem c_X0_init {G : GT} {B : Nat} {l : Launch} {H : Heap} {d : Nat} (ho0 : Ob G H d 0 [.int 0, .null, .null, .null, .int 0, .int 0, .int 0]) (hsz : H.size = d + 1) (hB : B ≤ d) : AM G B l yX0_init cX0_init 1 none 1 3 24 [.ref d] H (fun v H' => v = none ∧ (Dd G H' d 0 (fun i => if i = 26 then -1 else 0) ∧ H'.size = d + 4 ∧ ∀ q : Nat, q < d → H'[q]? = H[q]?)) := by
  have hZ : H.size = d + 1 := hsz
  have hF : ∀ q : Nat, q < d → H[q]? = H[q]? := fun _ _ => rfl
  refine AM.ofV (lv := [(0, .ref d)]) (by decide +kernel) (ini := true) (fun _ => rfl) (Nat.le_of_ble_eq_true rfl) rfl ?_ (fun _ _ h => h.1)
  refine a_aload_n 0 dX0_init_0 rfl rfl ?_
  refine a_objI oi_X0_3 dX0_init_1 (Nat.le_of_ble_eq_true rfl) (Nat.le_of_ble_eq_true rfl) ?_
  refine a_aload_n 0 dX0_init_4 rfl rfl ?_
  refine a_iconst 0 dX0_init_5 (by decide) ?_
  refine a_put f_X0_9 p_X0_9 dX0_init_6 ho0 (Nat.le_of_ble_eq_true rfl) rfl rfl (by omega) (fun H1 ho0 hz1 hq1 => ?_)
  have ho0 : Ob G H1 d 0 [.int 0, .null, .null, .null, .int 0, .int 0, .int 0] := ho0
  have hF : ∀ q : Nat, q < d → H1[q]? = H[q]? := fun q hq => (hq1 q (by omega)).trans (hF q hq)
  have hZ : H1.size = _ := hz1.trans hZ
  refine a_aload_n 0 dX0_init_9 rfl rfl ?_
  refine a_bipush 8 dX0_init_10 (by decide) ?_
  refine a_newI (n := 8) ac_I dX0_init_12 (by decide) (Nat.le_of_ble_eq_true rfl) (Nat.le_of_ble_eq_true rfl) (fun H2 hs hz2 hq2 => ?_)
  have hA2 : H1.size = d + 1 := by omega
  rw [hA2] at hs hz2 hq2
  rw [hA2]
  have ho0 := ho0.kept (hq2 _ (by omega))
  have hZ : H2.size = d + 1 + 1 := hz2
  have hF : ∀ q : Nat, q < d → H2[q]? = H[q]? := fun q hq => (hq2 q (by omega)).trans (hF q hq)
  refine a_put f_X0_15 p_X0_15 dX0_init_14 ho0 (Nat.le_of_ble_eq_true rfl) rfl rfl (by omega) (fun H3 ho0 hz3 hq3 => ?_)
  have ho0 : Ob G H3 d 0 [.int 0, .ref (d + 1), .null, .null, .int 0, .int 0, .int 0] := ho0
  have hs := hs.kept (hq3 _ (by omega))
  have hF : ∀ q : Nat, q < d → H3[q]? = H[q]? := fun q hq => (hq3 q (by omega)).trans (hF q hq)
  have hZ : H3.size = _ := hz3.trans hZ
  refine a_aload_n 0 dX0_init_17 rfl rfl ?_
  refine a_bipush 8 dX0_init_18 (by decide) ?_
  refine a_newI (n := 8) ac_I dX0_init_20 (by decide) (Nat.le_of_ble_eq_true rfl) (Nat.le_of_ble_eq_true rfl) (fun H4 hu hz4 hq4 => ?_)
  have hA4 : H3.size = d + 2 := by omega
  rw [hA4] at hu hz4 hq4
  rw [hA4]
  have ho0 := ho0.kept (hq4 _ (by omega))
  have hs := hs.kept (hq4 _ (by omega))
  have hZ : H4.size = d + 2 + 1 := hz4
  have hF : ∀ q : Nat, q < d → H4[q]? = H[q]? := fun q hq => (hq4 q (by omega)).trans (hF q hq)
  refine a_put f_X0_19 p_X0_19 dX0_init_22 ho0 (Nat.le_of_ble_eq_true rfl) rfl rfl (by omega) (fun H5 ho0 hz5 hq5 => ?_)
  have ho0 : Ob G H5 d 0 [.int 0, .ref (d + 1), .ref (d + 2), .null, .int 0, .int 0, .int 0] := ho0
  have hs := hs.kept (hq5 _ (by omega))
  have hu := hu.kept (hq5 _ (by omega))
  have hF : ∀ q : Nat, q < d → H5[q]? = H[q]? := fun q hq => (hq5 q (by omega)).trans (hF q hq)
  have hZ : H5.size = _ := hz5.trans hZ
  refine a_aload_n 0 dX0_init_25 rfl rfl ?_
  refine a_bipush 8 dX0_init_26 (by decide) ?_
  refine a_newI (n := 8) ac_I dX0_init_28 (by decide) (Nat.le_of_ble_eq_true rfl) (Nat.le_of_ble_eq_true rfl) (fun H6 ho hz6 hq6 => ?_)
  have hA6 : H5.size = d + 3 := by omega
  rw [hA6] at ho hz6 hq6
  rw [hA6]
  have ho0 := ho0.kept (hq6 _ (by omega))
  have hs := hs.kept (hq6 _ (by omega))
  have hu := hu.kept (hq6 _ (by omega))
  have hZ : H6.size = d + 3 + 1 := hz6
  have hF : ∀ q : Nat, q < d → H6[q]? = H[q]? := fun q hq => (hq6 q (by omega)).trans (hF q hq)
  refine a_put f_X0_22 p_X0_22 dX0_init_30 ho0 (Nat.le_of_ble_eq_true rfl) rfl rfl (by omega) (fun H7 ho0 hz7 hq7 => ?_)
  have ho0 : Ob G H7 d 0 [.int 0, .ref (d + 1), .ref (d + 2), .ref (d + 3), .int 0, .int 0, .int 0] := ho0
  have hs := hs.kept (hq7 _ (by omega))
  have hu := hu.kept (hq7 _ (by omega))
  have ho := ho.kept (hq7 _ (by omega))
  have hF : ∀ q : Nat, q < d → H7[q]? = H[q]? := fun q hq => (hq7 q (by omega)).trans (hF q hq)
  have hZ : H7.size = _ := hz7.trans hZ
  refine a_aload_n 0 dX0_init_33 rfl rfl ?_
  refine a_iconst 0 dX0_init_34 (by decide) ?_
  refine a_put f_X0_25 p_X0_25 dX0_init_35 ho0 (Nat.le_of_ble_eq_true rfl) rfl rfl (by omega) (fun H8 ho0 hz8 hq8 => ?_)
  have ho0 : Ob G H8 d 0 [.int 0, .ref (d + 1), .ref (d + 2), .ref (d + 3), .int 0, .int 0, .int 0] := ho0
  have hs := hs.kept (hq8 _ (by omega))
  have hu := hu.kept (hq8 _ (by omega))
  have ho := ho.kept (hq8 _ (by omega))
  have hF : ∀ q : Nat, q < d → H8[q]? = H[q]? := fun q hq => (hq8 q (by omega)).trans (hF q hq)
  have hZ : H8.size = _ := hz8.trans hZ
  refine a_aload_n 0 dX0_init_38 rfl rfl ?_
  refine a_iconst 0 dX0_init_39 (by decide) ?_
  refine a_put f_X0_28 p_X0_28 dX0_init_40 ho0 (Nat.le_of_ble_eq_true rfl) rfl rfl (by omega) (fun H9 ho0 hz9 hq9 => ?_)
  have ho0 : Ob G H9 d 0 [.int 0, .ref (d + 1), .ref (d + 2), .ref (d + 3), .int 0, .int 0, .int 0] := ho0
  have hs := hs.kept (hq9 _ (by omega))
  have hu := hu.kept (hq9 _ (by omega))
  have ho := ho.kept (hq9 _ (by omega))
  have hF : ∀ q : Nat, q < d → H9[q]? = H[q]? := fun q hq => (hq9 q (by omega)).trans (hF q hq)
  have hZ : H9.size = _ := hz9.trans hZ
  refine a_aload_n 0 dX0_init_43 rfl rfl ?_
  refine a_iconst (-1) dX0_init_44 (by decide) ?_
  refine a_put f_X0_31 p_X0_31 dX0_init_45 ho0 (Nat.le_of_ble_eq_true rfl) rfl rfl (by omega) (fun H10 ho0 hz10 hq10 => ?_)
  have ho0 : Ob G H10 d 0 [.int 0, .ref (d + 1), .ref (d + 2), .ref (d + 3), .int 0, .int 0, .int (-1)] := ho0
  have hs := hs.kept (hq10 _ (by omega))
  have hu := hu.kept (hq10 _ (by omega))
  have ho := ho.kept (hq10 _ (by omega))
  have hF : ∀ q : Nat, q < d → H10[q]? = H[q]? := fun q hq => (hq10 q (by omega)).trans (hF q hq)
  have hZ : H10.size = _ := hz10.trans hZ
  refine a_retv dX0_init_48 ⟨⟨rfl, ?_⟩, rfl, rfl⟩
  · refine ⟨Dd.mk' ho0 hs hu ho (by decide) rfl rfl rfl (fun i hi => absurd hi (Nat.not_lt_zero _)) (fun i hi => absurd hi (Nat.not_lt_zero _)) (fun i hi => absurd hi (Nat.not_lt_zero _)), by omega, hF⟩
end
section
/-! ===== BEGIN pairs, the past, images, the reader's state ===== -/
def Pr (G : GT) (H : Heap) (p cap ct : Nat) (P Q : DD) : Prop := ∃ fA fB : DD, Ob G H p 3 [.ref (p + 1), .ref (p + 2), .int (nI ct)] ∧ Ai G H (p + 1) cap fA ∧ Ai G H (p + 2) cap fB ∧ (∀ i, i < ct → fA i = P i) ∧ (∀ i, i < ct → fB i = Q i) ∧ ct ≤ cap ∧ cap ≤ 16
theorem Pr.kept {G : GT} {H H1 : Heap} {p cap ct : Nat} {P Q : DD} (h : Pr G H p cap ct P Q) (hq : ∀ q, p ≤ q → q < p + 3 → H1[q]? = H[q]?) : Pr G H1 p cap ct P Q := by
  obtain ⟨fA, fB, h1, h2, h3, h4⟩ := h
  exact ⟨fA, fB, h1.kept (hq _ (by omega) (by omega)), h2.kept (hq _ (by omega) (by omega)), h3.kept (hq _ (by omega) (by omega)), h4⟩
/-- the entry i of the ring is one that can be undone -/
def vld (nx ct i : Nat) : Prop := (nx + 19 - i) % 20 < ct
def Ps (G : GT) (H : Heap) (p nx ct n : Nat) (pu : Nat → DD) : Prop := Ob G H p 4 [.ref (p + 1), .int (nI nx), .int (nI ct)] ∧ (∃ fR : Nat → Option Nat, Aq G H (p + 1) 3 20 fR ∧ ∀ i, i < 20 → fR i = some (p + 2 + 4 * i)) ∧ (∀ i, i < 20 → ∃ (n' : Nat) (dd' : DD), Dd G H (p + 2 + 4 * i) n' dd' ∧ (vld nx ct i → n' = n ∧ dd' = pu i)) ∧ nx < 20 ∧ ct ≤ 20
theorem Ps.kept {G : GT} {H H1 : Heap} {p nx ct n : Nat} {pu : Nat → DD} (h : Ps G H p nx ct n pu) (hq : ∀ q, p ≤ q → q < p + 82 → H1[q]? = H[q]?) : Ps G H1 p nx ct n pu := by
  obtain ⟨h1, ⟨fR, h2, h3⟩, h4, h5⟩ := h
  refine ⟨h1.kept (hq _ (by omega) (by omega)), ⟨fR, h2.kept (hq _ (by omega) (by omega)), h3⟩, fun i hi => ?_, h5⟩
  obtain ⟨n', dd', g1, g2⟩ := h4 i hi
  exact ⟨n', dd', g1.kept (fun q a b => hq q (by omega) (by omega)), g2⟩
/-- an image, 5 cells -/
def Im (G : GT) (H : Heap) (q : Nat) (kp : Bool) (dr : Int32) (n : Nat) (dd : DD) : Prop := Ob G H q 1 [.int (bI kp), .ref (q + 1), .int dr] ∧ Dd G H (q + 1) n dd
theorem Im.kept {G : GT} {H H1 : Heap} {p : Nat} {kp : Bool} {dr : Int32} {n : Nat} {dd : DD} (h : Im G H p kp dr n dd) (hq : ∀ q, p ≤ q → q < p + 5 → H1[q]? = H[q]?) : Im G H1 p kp dr n dd :=
  ⟨h.1.kept (hq _ (by omega) (by omega)), h.2.kept (fun q a b => hq q (by omega) (by omega))⟩
/-- the reader: its text is tx, L letters -/
def Rd (G : GT) (H : Heap) (r : Nat) (tx : Nat → Nat) (L pl kd : Nat) : Prop := ∃ f : DD, Ob G H r 5 [.ref (r + 1), .int (nI L), .int (nI pl), .int (nI kd)] ∧ Ai G H (r + 1) 240 f ∧ (∀ i, i < L → f i = nI (tx i)) ∧ (∀ i, i < L → tx i < 256) ∧ L ≤ 240 ∧ pl ≤ 240 ∧ kd ≤ 3
theorem Rd.kept {G : GT} {H H1 : Heap} {r : Nat} {tx : Nat → Nat} {L pl kd : Nat} (h : Rd G H r tx L pl kd) (hq : ∀ q, r ≤ q → q < r + 2 → H1[q]? = H[q]?) : Rd G H1 r tx L pl kd := by
  obtain ⟨f, h1, h2, h3⟩ := h
  exact ⟨f, h1.kept (hq _ (by omega) (by omega)), h2.kept (hq _ (by omega) (by omega)), h3⟩
/-! ===== END ===== -/

set_option maxHeartbeats 4000000 in
set_option maxRecDepth 100000 in
theorem c_X2_init {G : GT} {B : Nat} {l : Launch} {H : Heap} {k0 : Nat} (hk3 : Ob G H k0 2 [.int 0, .int 0, .int 0, .int 0, .int 0, .int 0, .null, .null, .null, .null]) (hsz : H.size = k0 + 1) (hB : B ≤ k0) : AM G B l yX2_init cX2_init 1 none 1 4 28 [.ref k0] H (fun v H' => v = none ∧ ((∀ kS kU kK kV : DD, Kt G H' k0 false 0 0 0 0 0 kS kU kK kV) ∧ H'.size = k0 + 5 ∧ ∀ q : Nat, q < k0 → H'[q]? = H[q]?)) := by
  have hZ : H.size = k0 + 1 := hsz
  have hF : ∀ q : Nat, q < k0 → H[q]? = H[q]? := fun _ _ => rfl
  refine AM.ofV (lv := [(0, .ref k0)]) (by decide +kernel) (ini := true) (fun _ => rfl) (Nat.le_of_ble_eq_true rfl) rfl ?_ (fun _ _ h => h.1)
  refine a_aload_n 0 dX2_init_0 rfl rfl ?_
  refine a_objI oi_X2_3 dX2_init_1 (Nat.le_of_ble_eq_true rfl) (Nat.le_of_ble_eq_true rfl) ?_
  refine a_aload_n 0 dX2_init_4 rfl rfl ?_
  refine a_iconst 0 dX2_init_5 (by decide) ?_
  refine a_put f_X2_9 p_X2_9 dX2_init_6 hk3 (Nat.le_of_ble_eq_true rfl) rfl rfl (by omega) (fun H1 hk3 hz1 hq1 => ?_)
  have hk3 : Ob G H1 k0 2 [.int 0, .int 0, .int 0, .int 0, .int 0, .int 0, .null, .null, .null, .null] := hk3
  have hF : ∀ q : Nat, q < k0 → H1[q]? = H[q]? := fun q hq => (hq1 q (by omega)).trans (hF q hq)
  refine a_aload_n 0 dX2_init_9 rfl rfl ?_
  refine a_iconst 0 dX2_init_10 (by decide) ?_
  refine a_put f_X2_15 p_X2_15 dX2_init_11 hk3 (Nat.le_of_ble_eq_true rfl) rfl rfl (by omega) (fun H2 hk3 hz2 hq2 => ?_)
  have hk3 : Ob G H2 k0 2 [.int 0, .int 0, .int 0, .int 0, .int 0, .int 0, .null, .null, .null, .null] := hk3
  have hF : ∀ q : Nat, q < k0 → H2[q]? = H[q]? := fun q hq => (hq2 q (by omega)).trans (hF q hq)
  refine a_aload_n 0 dX2_init_14 rfl rfl ?_
  refine a_iconst 0 dX2_init_15 (by decide) ?_
  refine a_put f_X2_19 p_X2_19 dX2_init_16 hk3 (Nat.le_of_ble_eq_true rfl) rfl rfl (by omega) (fun H3 hk3 hz3 hq3 => ?_)
  have hk3 : Ob G H3 k0 2 [.int 0, .int 0, .int 0, .int 0, .int 0, .int 0, .null, .null, .null, .null] := hk3
  have hF : ∀ q : Nat, q < k0 → H3[q]? = H[q]? := fun q hq => (hq3 q (by omega)).trans (hF q hq)
  refine a_aload_n 0 dX2_init_19 rfl rfl ?_
  refine a_iconst 0 dX2_init_20 (by decide) ?_
  refine a_put f_X2_22 p_X2_22 dX2_init_21 hk3 (Nat.le_of_ble_eq_true rfl) rfl rfl (by omega) (fun H4 hk3 hz4 hq4 => ?_)
  have hk3 : Ob G H4 k0 2 [.int 0, .int 0, .int 0, .int 0, .int 0, .int 0, .null, .null, .null, .null] := hk3
  have hF : ∀ q : Nat, q < k0 → H4[q]? = H[q]? := fun q hq => (hq4 q (by omega)).trans (hF q hq)
  refine a_aload_n 0 dX2_init_24 rfl rfl ?_
  refine a_iconst 0 dX2_init_25 (by decide) ?_
  refine a_put f_X2_25 p_X2_25 dX2_init_26 hk3 (Nat.le_of_ble_eq_true rfl) rfl rfl (by omega) (fun H5 hk3 hz5 hq5 => ?_)
  have hk3 : Ob G H5 k0 2 [.int 0, .int 0, .int 0, .int 0, .int 0, .int 0, .null, .null, .null, .null] := hk3
  have hF : ∀ q : Nat, q < k0 → H5[q]? = H[q]? := fun q hq => (hq5 q (by omega)).trans (hF q hq)
  refine a_aload_n 0 dX2_init_29 rfl rfl ?_
  refine a_iconst 0 dX2_init_30 (by decide) ?_
  refine a_put f_X2_28 p_X2_28 dX2_init_31 hk3 (Nat.le_of_ble_eq_true rfl) rfl rfl (by omega) (fun H6 hk3 hz6 hq6 => ?_)
  have hk3 : Ob G H6 k0 2 [.int 0, .int 0, .int 0, .int 0, .int 0, .int 0, .null, .null, .null, .null] := hk3
  have hF : ∀ q : Nat, q < k0 → H6[q]? = H[q]? := fun q hq => (hq6 q (by omega)).trans (hF q hq)
  refine a_aload_n 0 dX2_init_34 rfl rfl ?_
  refine a_bipush 8 dX2_init_35 (by decide) ?_
  refine a_newI (n := 8) ac_I dX2_init_37 (by decide) (Nat.le_of_ble_eq_true rfl) (Nat.le_of_ble_eq_true rfl) (fun H7 ha3 hz7 hq7 => ?_)
  have hA7 : H6.size = k0 + 1 := by omega
  rw [hA7] at ha3 hz7 hq7
  rw [hA7]
  have hk3 := hk3.kept (hq7 _ (by omega))
  have hZ : H7.size = k0 + 1 + 1 := hz7
  have hF : ∀ q : Nat, q < k0 → H7[q]? = H[q]? := fun q hq => (hq7 q (by omega)).trans (hF q hq)
  refine a_put f_X2_31 p_X2_31 dX2_init_39 hk3 (Nat.le_of_ble_eq_true rfl) rfl rfl (by omega) (fun H8 hk3 hz8 hq8 => ?_)
  have hk3 : Ob G H8 k0 2 [.int 0, .int 0, .int 0, .int 0, .int 0, .int 0, .ref (k0 + 1), .null, .null, .null] := hk3
  have ha3 := ha3.kept (hq8 _ (by omega))
  have hF : ∀ q : Nat, q < k0 → H8[q]? = H[q]? := fun q hq => (hq8 q (by omega)).trans (hF q hq)
  refine a_aload_n 0 dX2_init_42 rfl rfl ?_
  refine a_bipush 8 dX2_init_43 (by decide) ?_
  refine a_newI (n := 8) ac_I dX2_init_45 (by decide) (Nat.le_of_ble_eq_true rfl) (Nat.le_of_ble_eq_true rfl) (fun H9 hb3 hz9 hq9 => ?_)
  have hA9 : H8.size = k0 + 2 := by omega
  rw [hA9] at hb3 hz9 hq9
  rw [hA9]
  have hk3 := hk3.kept (hq9 _ (by omega))
  have ha3 := ha3.kept (hq9 _ (by omega))
  have hZ : H9.size = k0 + 2 + 1 := hz9
  have hF : ∀ q : Nat, q < k0 → H9[q]? = H[q]? := fun q hq => (hq9 q (by omega)).trans (hF q hq)
  refine a_put f_X2_35 p_X2_35 dX2_init_47 hk3 (Nat.le_of_ble_eq_true rfl) rfl rfl (by omega) (fun H10 hk3 hz10 hq10 => ?_)
  have hk3 : Ob G H10 k0 2 [.int 0, .int 0, .int 0, .int 0, .int 0, .int 0, .ref (k0 + 1), .ref (k0 + 2), .null, .null] := hk3
  have ha3 := ha3.kept (hq10 _ (by omega))
  have hb3 := hb3.kept (hq10 _ (by omega))
  have hF : ∀ q : Nat, q < k0 → H10[q]? = H[q]? := fun q hq => (hq10 q (by omega)).trans (hF q hq)
  refine a_aload_n 0 dX2_init_50 rfl rfl ?_
  refine a_bipush 8 dX2_init_51 (by decide) ?_
  refine a_newI (n := 8) ac_I dX2_init_53 (by decide) (Nat.le_of_ble_eq_true rfl) (Nat.le_of_ble_eq_true rfl) (fun H11 hc3 hz11 hq11 => ?_)
  have hA11 : H10.size = k0 + 3 := by omega
  rw [hA11] at hc3 hz11 hq11
  rw [hA11]
  have hk3 := hk3.kept (hq11 _ (by omega))
  have ha3 := ha3.kept (hq11 _ (by omega))
  have hb3 := hb3.kept (hq11 _ (by omega))
  have hZ : H11.size = k0 + 3 + 1 := hz11
  have hF : ∀ q : Nat, q < k0 → H11[q]? = H[q]? := fun q hq => (hq11 q (by omega)).trans (hF q hq)
  refine a_put f_X2_38 p_X2_38 dX2_init_55 hk3 (Nat.le_of_ble_eq_true rfl) rfl rfl (by omega) (fun H12 hk3 hz12 hq12 => ?_)
  have hk3 : Ob G H12 k0 2 [.int 0, .int 0, .int 0, .int 0, .int 0, .int 0, .ref (k0 + 1), .ref (k0 + 2), .ref (k0 + 3), .null] := hk3
  have ha3 := ha3.kept (hq12 _ (by omega))
  have hb3 := hb3.kept (hq12 _ (by omega))
  have hc3 := hc3.kept (hq12 _ (by omega))
  have hF : ∀ q : Nat, q < k0 → H12[q]? = H[q]? := fun q hq => (hq12 q (by omega)).trans (hF q hq)
  refine a_aload_n 0 dX2_init_58 rfl rfl ?_
  refine a_iconst 4 dX2_init_59 (by decide) ?_
  refine a_newI (n := 4) ac_I dX2_init_60 (by decide) (Nat.le_of_ble_eq_true rfl) (Nat.le_of_ble_eq_true rfl) (fun H13 he3 hz13 hq13 => ?_)
  have hA13 : H12.size = k0 + 4 := by omega
  rw [hA13] at he3 hz13 hq13
  rw [hA13]
  have hk3 := hk3.kept (hq13 _ (by omega))
  have ha3 := ha3.kept (hq13 _ (by omega))
  have hb3 := hb3.kept (hq13 _ (by omega))
  have hc3 := hc3.kept (hq13 _ (by omega))
  have hZ : H13.size = k0 + 4 + 1 := hz13
  have hF : ∀ q : Nat, q < k0 → H13[q]? = H[q]? := fun q hq => (hq13 q (by omega)).trans (hF q hq)
  refine a_put f_X2_41 p_X2_41 dX2_init_62 hk3 (Nat.le_of_ble_eq_true rfl) rfl rfl (by omega) (fun H14 hk3 hz14 hq14 => ?_)
  have hk3 : Ob G H14 k0 2 [.int 0, .int 0, .int 0, .int 0, .int 0, .int 0, .ref (k0 + 1), .ref (k0 + 2), .ref (k0 + 3), .ref (k0 + 4)] := hk3
  have ha3 := ha3.kept (hq14 _ (by omega))
  have hb3 := hb3.kept (hq14 _ (by omega))
  have hc3 := hc3.kept (hq14 _ (by omega))
  have he3 := he3.kept (hq14 _ (by omega))
  have hF : ∀ q : Nat, q < k0 → H14[q]? = H[q]? := fun q hq => (hq14 q (by omega)).trans (hF q hq)
  refine a_retv dX2_init_65 ⟨⟨rfl, ?_⟩, rfl, rfl⟩
  · exact ⟨fun kS kU kK kV => ⟨_, _, _, _, hk3, ha3, hb3, hc3, he3, fun i hi => absurd hi (Nat.not_lt_zero _), fun i hi => absurd hi (Nat.not_lt_zero _), fun i hi => absurd hi (Nat.not_lt_zero _), fun i hi => absurd hi (Nat.not_lt_zero _), by decide, by decide⟩, by omega, hF⟩
set_option maxHeartbeats 4000000 in
set_option maxRecDepth 100000 in
theorem c_X2_empty {G : GT} {B : Nat} {l : Launch} {H : Heap} {k0 : Nat} {kb : Bool} {ka ks kw : Int32} {n nv : Nat} {kS kU kK kV : DD} (hK : Kt G H k0 kb ka ks kw n nv kS kU kK kV) (hB : B ≤ k0) : AM G B l yX2_empty cX2_empty 1 none 0 0 0 [.ref k0] H (fun v H' => v = none ∧ (Kt G H' k0 false 0 0 0 0 0 kS kU kK kV ∧ ∀ q : Nat, ¬ (k0 ≤ q ∧ q < k0 + 5) → H'[q]? = H[q]?)) := by
  obtain ⟨fS3, fU3, fK3, fV3, hk3, ha3, hb3, hc3, he3, eS3, eU3, eK3, eV3, hn3, hnv3⟩ := hK
  have hF : ∀ q : Nat, ¬ (k0 ≤ q ∧ q < k0 + 5) → H[q]? = H[q]? := fun _ _ => rfl
  refine AM.ofV (lv := [(0, .ref k0)]) (by decide +kernel) (ini := false) (fun h => by cases h) (Nat.le_of_ble_eq_true rfl) rfl ?_ (fun _ _ h => h.1)
  refine a_aload_n 0 dX2_empty_0 rfl rfl ?_
  refine a_iconst 0 dX2_empty_1 (by decide) ?_
  refine a_put f_X2_9 p_X2_9 dX2_empty_2 hk3 (Nat.le_of_ble_eq_true rfl) rfl rfl (by omega) (fun H1 hk3 hz1 hq1 => ?_)
  have hk3 : Ob G H1 k0 2 [.int 0, .int ka, .int ks, .int kw, .int (nI n), .int (nI nv), .ref (k0 + 1), .ref (k0 + 2), .ref (k0 + 3), .ref (k0 + 4)] := hk3
  have ha3 := ha3.kept (hq1 _ (by omega))
  have hb3 := hb3.kept (hq1 _ (by omega))
  have hc3 := hc3.kept (hq1 _ (by omega))
  have he3 := he3.kept (hq1 _ (by omega))
  have hF : ∀ q : Nat, ¬ (k0 ≤ q ∧ q < k0 + 5) → H1[q]? = H[q]? := fun q hq => (hq1 q (by omega)).trans (hF q hq)
  refine a_aload_n 0 dX2_empty_5 rfl rfl ?_
  refine a_iconst 0 dX2_empty_6 (by decide) ?_
  refine a_put f_X2_15 p_X2_15 dX2_empty_7 hk3 (Nat.le_of_ble_eq_true rfl) rfl rfl (by omega) (fun H2 hk3 hz2 hq2 => ?_)
  have hk3 : Ob G H2 k0 2 [.int 0, .int 0, .int ks, .int kw, .int (nI n), .int (nI nv), .ref (k0 + 1), .ref (k0 + 2), .ref (k0 + 3), .ref (k0 + 4)] := hk3
  have ha3 := ha3.kept (hq2 _ (by omega))
  have hb3 := hb3.kept (hq2 _ (by omega))
  have hc3 := hc3.kept (hq2 _ (by omega))
  have he3 := he3.kept (hq2 _ (by omega))
  have hF : ∀ q : Nat, ¬ (k0 ≤ q ∧ q < k0 + 5) → H2[q]? = H[q]? := fun q hq => (hq2 q (by omega)).trans (hF q hq)
  refine a_aload_n 0 dX2_empty_10 rfl rfl ?_
  refine a_iconst 0 dX2_empty_11 (by decide) ?_
  refine a_put f_X2_19 p_X2_19 dX2_empty_12 hk3 (Nat.le_of_ble_eq_true rfl) rfl rfl (by omega) (fun H3 hk3 hz3 hq3 => ?_)
  have hk3 : Ob G H3 k0 2 [.int 0, .int 0, .int 0, .int kw, .int (nI n), .int (nI nv), .ref (k0 + 1), .ref (k0 + 2), .ref (k0 + 3), .ref (k0 + 4)] := hk3
  have ha3 := ha3.kept (hq3 _ (by omega))
  have hb3 := hb3.kept (hq3 _ (by omega))
  have hc3 := hc3.kept (hq3 _ (by omega))
  have he3 := he3.kept (hq3 _ (by omega))
  have hF : ∀ q : Nat, ¬ (k0 ≤ q ∧ q < k0 + 5) → H3[q]? = H[q]? := fun q hq => (hq3 q (by omega)).trans (hF q hq)
  refine a_aload_n 0 dX2_empty_15 rfl rfl ?_
  refine a_iconst 0 dX2_empty_16 (by decide) ?_
  refine a_put f_X2_22 p_X2_22 dX2_empty_17 hk3 (Nat.le_of_ble_eq_true rfl) rfl rfl (by omega) (fun H4 hk3 hz4 hq4 => ?_)
  have hk3 : Ob G H4 k0 2 [.int 0, .int 0, .int 0, .int 0, .int (nI n), .int (nI nv), .ref (k0 + 1), .ref (k0 + 2), .ref (k0 + 3), .ref (k0 + 4)] := hk3
  have ha3 := ha3.kept (hq4 _ (by omega))
  have hb3 := hb3.kept (hq4 _ (by omega))
  have hc3 := hc3.kept (hq4 _ (by omega))
  have he3 := he3.kept (hq4 _ (by omega))
  have hF : ∀ q : Nat, ¬ (k0 ≤ q ∧ q < k0 + 5) → H4[q]? = H[q]? := fun q hq => (hq4 q (by omega)).trans (hF q hq)
  refine a_aload_n 0 dX2_empty_20 rfl rfl ?_
  refine a_iconst 0 dX2_empty_21 (by decide) ?_
  refine a_put f_X2_25 p_X2_25 dX2_empty_22 hk3 (Nat.le_of_ble_eq_true rfl) rfl rfl (by omega) (fun H5 hk3 hz5 hq5 => ?_)
  have hk3 : Ob G H5 k0 2 [.int 0, .int 0, .int 0, .int 0, .int 0, .int (nI nv), .ref (k0 + 1), .ref (k0 + 2), .ref (k0 + 3), .ref (k0 + 4)] := hk3
  have ha3 := ha3.kept (hq5 _ (by omega))
  have hb3 := hb3.kept (hq5 _ (by omega))
  have hc3 := hc3.kept (hq5 _ (by omega))
  have he3 := he3.kept (hq5 _ (by omega))
  have hF : ∀ q : Nat, ¬ (k0 ≤ q ∧ q < k0 + 5) → H5[q]? = H[q]? := fun q hq => (hq5 q (by omega)).trans (hF q hq)
  refine a_aload_n 0 dX2_empty_25 rfl rfl ?_
  refine a_iconst 0 dX2_empty_26 (by decide) ?_
  refine a_put f_X2_28 p_X2_28 dX2_empty_27 hk3 (Nat.le_of_ble_eq_true rfl) rfl rfl (by omega) (fun H6 hk3 hz6 hq6 => ?_)
  have hk3 : Ob G H6 k0 2 [.int 0, .int 0, .int 0, .int 0, .int 0, .int 0, .ref (k0 + 1), .ref (k0 + 2), .ref (k0 + 3), .ref (k0 + 4)] := hk3
  have ha3 := ha3.kept (hq6 _ (by omega))
  have hb3 := hb3.kept (hq6 _ (by omega))
  have hc3 := hc3.kept (hq6 _ (by omega))
  have he3 := he3.kept (hq6 _ (by omega))
  have hF : ∀ q : Nat, ¬ (k0 ≤ q ∧ q < k0 + 5) → H6[q]? = H[q]? := fun q hq => (hq6 q (by omega)).trans (hF q hq)
  refine a_retv dX2_empty_30 ⟨⟨rfl, ?_⟩, rfl, rfl⟩
  · exact ⟨⟨_, _, _, _, hk3, ha3, hb3, hc3, he3, fun i hi => absurd hi (Nat.not_lt_zero _), fun i hi => absurd hi (Nat.not_lt_zero _), fun i hi => absurd hi (Nat.not_lt_zero _), fun i hi => absurd hi (Nat.not_lt_zero _), by decide, by decide⟩, hF⟩
set_option maxHeartbeats 4000000 in
set_option maxRecDepth 100000 in
theorem c_X2_setBox {G : GT} {B : Nat} {l : Launch} {H : Heap} {k0 : Nat} {kb : Bool} {ka ks kw : Int32} {n nv : Nat} {kS kU kK kV : DD} {a s w : Int32} (hK : Kt G H k0 kb ka ks kw n nv kS kU kK kV) (hB : B ≤ k0) : AM G B l yX2_setBox cX2_setBox 4 none 0 0 0 [.ref k0, .int a, .int s, .int w] H (fun v H' => v = none ∧ (Kt G H' k0 true a s w n nv kS kU kK kV ∧ ∀ q : Nat, ¬ (k0 ≤ q ∧ q < k0 + 5) → H'[q]? = H[q]?)) := by
  obtain ⟨fS3, fU3, fK3, fV3, hk3, ha3, hb3, hc3, he3, eS3, eU3, eK3, eV3, hn3, hnv3⟩ := hK
  have hF : ∀ q : Nat, ¬ (k0 ≤ q ∧ q < k0 + 5) → H[q]? = H[q]? := fun _ _ => rfl
  refine AM.ofV (lv := [(0, .ref k0), (1, .int a), (2, .int s), (3, .int w)]) (by decide +kernel) (ini := false) (fun h => by cases h) (Nat.le_of_ble_eq_true rfl) rfl ?_ (fun _ _ h => h.1)
  refine a_aload_n 0 dX2_setBox_0 rfl rfl ?_
  refine a_iconst 1 dX2_setBox_1 (by decide) ?_
  refine a_put f_X2_9 p_X2_9 dX2_setBox_2 hk3 (Nat.le_of_ble_eq_true rfl) rfl rfl (by omega) (fun H1 hk3 hz1 hq1 => ?_)
  have hk3 : Ob G H1 k0 2 [.int 1, .int ka, .int ks, .int kw, .int (nI n), .int (nI nv), .ref (k0 + 1), .ref (k0 + 2), .ref (k0 + 3), .ref (k0 + 4)] := hk3
  have ha3 := ha3.kept (hq1 _ (by omega))
  have hb3 := hb3.kept (hq1 _ (by omega))
  have hc3 := hc3.kept (hq1 _ (by omega))
  have he3 := he3.kept (hq1 _ (by omega))
  have hF : ∀ q : Nat, ¬ (k0 ≤ q ∧ q < k0 + 5) → H1[q]? = H[q]? := fun q hq => (hq1 q (by omega)).trans (hF q hq)
  refine a_aload_n 0 dX2_setBox_5 rfl rfl ?_
  refine a_iload_n 1 dX2_setBox_6 rfl rfl ?_
  refine a_put f_X2_15 p_X2_15 dX2_setBox_7 hk3 (Nat.le_of_ble_eq_true rfl) rfl rfl (by omega) (fun H2 hk3 hz2 hq2 => ?_)
  have hk3 : Ob G H2 k0 2 [.int 1, .int a, .int ks, .int kw, .int (nI n), .int (nI nv), .ref (k0 + 1), .ref (k0 + 2), .ref (k0 + 3), .ref (k0 + 4)] := hk3
  have ha3 := ha3.kept (hq2 _ (by omega))
  have hb3 := hb3.kept (hq2 _ (by omega))
  have hc3 := hc3.kept (hq2 _ (by omega))
  have he3 := he3.kept (hq2 _ (by omega))
  have hF : ∀ q : Nat, ¬ (k0 ≤ q ∧ q < k0 + 5) → H2[q]? = H[q]? := fun q hq => (hq2 q (by omega)).trans (hF q hq)
  refine a_aload_n 0 dX2_setBox_10 rfl rfl ?_
  refine a_iload_n 2 dX2_setBox_11 rfl rfl ?_
  refine a_put f_X2_19 p_X2_19 dX2_setBox_12 hk3 (Nat.le_of_ble_eq_true rfl) rfl rfl (by omega) (fun H3 hk3 hz3 hq3 => ?_)
  have hk3 : Ob G H3 k0 2 [.int 1, .int a, .int s, .int kw, .int (nI n), .int (nI nv), .ref (k0 + 1), .ref (k0 + 2), .ref (k0 + 3), .ref (k0 + 4)] := hk3
  have ha3 := ha3.kept (hq3 _ (by omega))
  have hb3 := hb3.kept (hq3 _ (by omega))
  have hc3 := hc3.kept (hq3 _ (by omega))
  have he3 := he3.kept (hq3 _ (by omega))
  have hF : ∀ q : Nat, ¬ (k0 ≤ q ∧ q < k0 + 5) → H3[q]? = H[q]? := fun q hq => (hq3 q (by omega)).trans (hF q hq)
  refine a_aload_n 0 dX2_setBox_15 rfl rfl ?_
  refine a_iload_n 3 dX2_setBox_16 rfl rfl ?_
  refine a_put f_X2_22 p_X2_22 dX2_setBox_17 hk3 (Nat.le_of_ble_eq_true rfl) rfl rfl (by omega) (fun H4 hk3 hz4 hq4 => ?_)
  have hk3 : Ob G H4 k0 2 [.int 1, .int a, .int s, .int w, .int (nI n), .int (nI nv), .ref (k0 + 1), .ref (k0 + 2), .ref (k0 + 3), .ref (k0 + 4)] := hk3
  have ha3 := ha3.kept (hq4 _ (by omega))
  have hb3 := hb3.kept (hq4 _ (by omega))
  have hc3 := hc3.kept (hq4 _ (by omega))
  have he3 := he3.kept (hq4 _ (by omega))
  have hF : ∀ q : Nat, ¬ (k0 ≤ q ∧ q < k0 + 5) → H4[q]? = H[q]? := fun q hq => (hq4 q (by omega)).trans (hF q hq)
  refine a_retv dX2_setBox_20 ⟨⟨rfl, ?_⟩, rfl, rfl⟩
  · exact ⟨⟨_, _, _, _, hk3, ha3, hb3, hc3, he3, eS3, eU3, eK3, eV3, hn3, hnv3⟩, hF⟩
set_option maxHeartbeats 4000000 in
set_option maxRecDepth 100000 in
theorem c_X2_addWord {G : GT} {B : Nat} {l : Launch} {H : Heap} {k0 : Nat} {kb : Bool} {ka ks kw : Int32} {n nv : Nat} {kS kU kK kV : DD} {a s w : Int32} (hK : Kt G H k0 kb ka ks kw n nv kS kU kK kV) (hn8 : n < 8) (hB : B ≤ k0) : AM G B l yX2_addWord cX2_addWord 4 none 0 0 0 [.ref k0, .int a, .int s, .int w] H (fun v H' => v = none ∧ (Kt G H' k0 kb ka ks kw (n + 1) nv (upd kS n a) (upd kU n s) (upd kK n w) kV ∧ ∀ q : Nat, ¬ (k0 ≤ q ∧ q < k0 + 5) → H'[q]? = H[q]?)) := by
  obtain ⟨fS3, fU3, fK3, fV3, hk3, ha3, hb3, hc3, he3, eS3, eU3, eK3, eV3, hn3, hnv3⟩ := hK
  have hF : ∀ q : Nat, ¬ (k0 ≤ q ∧ q < k0 + 5) → H[q]? = H[q]? := fun _ _ => rfl
  refine AM.ofV (lv := [(0, .ref k0), (1, .int a), (2, .int s), (3, .int w)]) (by decide +kernel) (ini := false) (fun h => by cases h) (Nat.le_of_ble_eq_true rfl) rfl ?_ (fun _ _ h => h.1)
  refine a_aload_n 0 dX2_addWord_0 rfl rfl ?_
  refine a_get f_X2_25 dX2_addWord_1 hk3 rfl ?_
  refine a_bipush 8 dX2_addWord_4 (by decide) ?_
  refine a_icmpgeN (a := n) (b := 8) 49 dX2_addWord_6 (by decide) (by omega) (by omega) (fun c6 => ?_) (fun c6 => ?_)
  · skip
    omega
  · skip
    refine a_aload_n 0 dX2_addWord_9 rfl rfl ?_
    refine a_get f_X2_31 dX2_addWord_10 hk3 rfl ?_
    refine a_aload_n 0 dX2_addWord_13 rfl rfl ?_
    refine a_get f_X2_25 dX2_addWord_14 hk3 rfl ?_
    refine a_iload_n 1 dX2_addWord_17 rfl rfl ?_
    refine a_iastN (j := n) dX2_addWord_18 ha3 (by omega) (by decide) (by omega) (fun H1 ha3 hz1 hq1 => ?_)
    have ha3 : Ai G H1 (k0 + 1) 8 (upd fS3 n a) := ha3
    have hk3 := hk3.kept (hq1 _ (by omega))
    have hb3 := hb3.kept (hq1 _ (by omega))
    have hc3 := hc3.kept (hq1 _ (by omega))
    have he3 := he3.kept (hq1 _ (by omega))
    have hF : ∀ q : Nat, ¬ (k0 ≤ q ∧ q < k0 + 5) → H1[q]? = H[q]? := fun q hq => (hq1 q (by omega)).trans (hF q hq)
    refine a_aload_n 0 dX2_addWord_19 rfl rfl ?_
    refine a_get f_X2_35 dX2_addWord_20 hk3 rfl ?_
    refine a_aload_n 0 dX2_addWord_23 rfl rfl ?_
    refine a_get f_X2_25 dX2_addWord_24 hk3 rfl ?_
    refine a_iload_n 2 dX2_addWord_27 rfl rfl ?_
    refine a_iastN (j := n) dX2_addWord_28 hb3 (by omega) (by decide) (by omega) (fun H2 hb3 hz2 hq2 => ?_)
    have hb3 : Ai G H2 (k0 + 2) 8 (upd fU3 n s) := hb3
    have hk3 := hk3.kept (hq2 _ (by omega))
    have ha3 := ha3.kept (hq2 _ (by omega))
    have hc3 := hc3.kept (hq2 _ (by omega))
    have he3 := he3.kept (hq2 _ (by omega))
    have hF : ∀ q : Nat, ¬ (k0 ≤ q ∧ q < k0 + 5) → H2[q]? = H[q]? := fun q hq => (hq2 q (by omega)).trans (hF q hq)
    refine a_aload_n 0 dX2_addWord_29 rfl rfl ?_
    refine a_get f_X2_38 dX2_addWord_30 hk3 rfl ?_
    refine a_aload_n 0 dX2_addWord_33 rfl rfl ?_
    refine a_get f_X2_25 dX2_addWord_34 hk3 rfl ?_
    refine a_iload_n 3 dX2_addWord_37 rfl rfl ?_
    refine a_iastN (j := n) dX2_addWord_38 hc3 (by omega) (by decide) (by omega) (fun H3 hc3 hz3 hq3 => ?_)
    have hc3 : Ai G H3 (k0 + 3) 8 (upd fK3 n w) := hc3
    have hk3 := hk3.kept (hq3 _ (by omega))
    have ha3 := ha3.kept (hq3 _ (by omega))
    have hb3 := hb3.kept (hq3 _ (by omega))
    have he3 := he3.kept (hq3 _ (by omega))
    have hF : ∀ q : Nat, ¬ (k0 ≤ q ∧ q < k0 + 5) → H3[q]? = H[q]? := fun q hq => (hq3 q (by omega)).trans (hF q hq)
    refine a_aload_n 0 dX2_addWord_39 rfl rfl ?_
    refine a_dup dX2_addWord_40 rfl ?_
    refine a_get f_X2_25 dX2_addWord_41 hk3 rfl ?_
    refine a_iconst 1 dX2_addWord_44 (by decide) ?_
    refine a_iaddN (a := n) (b := 1) dX2_addWord_45 ?_
    refine a_put f_X2_25 p_X2_25 dX2_addWord_46 hk3 (Nat.le_of_ble_eq_true rfl) rfl rfl (by omega) (fun H4 hk3 hz4 hq4 => ?_)
    have hk3 : Ob G H4 k0 2 [.int (bI kb), .int ka, .int ks, .int kw, .int (nI (n + 1)), .int (nI nv), .ref (k0 + 1), .ref (k0 + 2), .ref (k0 + 3), .ref (k0 + 4)] := hk3
    have ha3 := ha3.kept (hq4 _ (by omega))
    have hb3 := hb3.kept (hq4 _ (by omega))
    have hc3 := hc3.kept (hq4 _ (by omega))
    have he3 := he3.kept (hq4 _ (by omega))
    have hF : ∀ q : Nat, ¬ (k0 ≤ q ∧ q < k0 + 5) → H4[q]? = H[q]? := fun q hq => (hq4 q (by omega)).trans (hF q hq)
    refine a_retv dX2_addWord_49 ⟨⟨rfl, ?_⟩, rfl, rfl⟩
    · refine ⟨⟨_, _, _, _, hk3, ha3, hb3, hc3, he3, upd_to (fun i hi => ?_) ?_, upd_to (fun i hi => ?_) ?_, upd_to (fun i hi => ?_) ?_, eV3, by omega, hnv3⟩, hF⟩
      all_goals simp only [upd]
      all_goals repeat' split
      all_goals first | omega | rfl | exact eS3 _ hi | exact eU3 _ hi | exact eK3 _ hi | contradiction
set_option maxHeartbeats 4000000 in
set_option maxRecDepth 100000 in
theorem c_X2_addVoice {G : GT} {B : Nat} {l : Launch} {H : Heap} {k0 : Nat} {kb : Bool} {ka ks kw : Int32} {n nv : Nat} {kS kU kK kV : DD} {a : Int32} (hK : Kt G H k0 kb ka ks kw n nv kS kU kK kV) (hn4 : nv < 4) (hB : B ≤ k0) : AM G B l yX2_addVoice cX2_addVoice 2 none 0 0 0 [.ref k0, .int a] H (fun v H' => v = none ∧ (Kt G H' k0 kb ka ks kw n (nv + 1) kS kU kK (upd kV nv a) ∧ ∀ q : Nat, ¬ (k0 ≤ q ∧ q < k0 + 5) → H'[q]? = H[q]?)) := by
  obtain ⟨fS3, fU3, fK3, fV3, hk3, ha3, hb3, hc3, he3, eS3, eU3, eK3, eV3, hn3, hnv3⟩ := hK
  have hF : ∀ q : Nat, ¬ (k0 ≤ q ∧ q < k0 + 5) → H[q]? = H[q]? := fun _ _ => rfl
  refine AM.ofV (lv := [(0, .ref k0), (1, .int a)]) (by decide +kernel) (ini := false) (fun h => by cases h) (Nat.le_of_ble_eq_true rfl) rfl ?_ (fun _ _ h => h.1)
  refine a_aload_n 0 dX2_addVoice_0 rfl rfl ?_
  refine a_get f_X2_28 dX2_addVoice_1 hk3 rfl ?_
  refine a_iconst 4 dX2_addVoice_4 (by decide) ?_
  refine a_icmpgeN (a := nv) (b := 4) 28 dX2_addVoice_5 (by decide) (by omega) (by omega) (fun c5 => ?_) (fun c5 => ?_)
  · skip
    omega
  · skip
    refine a_aload_n 0 dX2_addVoice_8 rfl rfl ?_
    refine a_get f_X2_41 dX2_addVoice_9 hk3 rfl ?_
    refine a_aload_n 0 dX2_addVoice_12 rfl rfl ?_
    refine a_get f_X2_28 dX2_addVoice_13 hk3 rfl ?_
    refine a_iload_n 1 dX2_addVoice_16 rfl rfl ?_
    refine a_iastN (j := nv) dX2_addVoice_17 he3 (by omega) (by decide) (by omega) (fun H1 he3 hz1 hq1 => ?_)
    have he3 : Ai G H1 (k0 + 4) 4 (upd fV3 nv a) := he3
    have hk3 := hk3.kept (hq1 _ (by omega))
    have ha3 := ha3.kept (hq1 _ (by omega))
    have hb3 := hb3.kept (hq1 _ (by omega))
    have hc3 := hc3.kept (hq1 _ (by omega))
    have hF : ∀ q : Nat, ¬ (k0 ≤ q ∧ q < k0 + 5) → H1[q]? = H[q]? := fun q hq => (hq1 q (by omega)).trans (hF q hq)
    refine a_aload_n 0 dX2_addVoice_18 rfl rfl ?_
    refine a_dup dX2_addVoice_19 rfl ?_
    refine a_get f_X2_28 dX2_addVoice_20 hk3 rfl ?_
    refine a_iconst 1 dX2_addVoice_23 (by decide) ?_
    refine a_iaddN (a := nv) (b := 1) dX2_addVoice_24 ?_
    refine a_put f_X2_28 p_X2_28 dX2_addVoice_25 hk3 (Nat.le_of_ble_eq_true rfl) rfl rfl (by omega) (fun H2 hk3 hz2 hq2 => ?_)
    have hk3 : Ob G H2 k0 2 [.int (bI kb), .int ka, .int ks, .int kw, .int (nI n), .int (nI (nv + 1)), .ref (k0 + 1), .ref (k0 + 2), .ref (k0 + 3), .ref (k0 + 4)] := hk3
    have ha3 := ha3.kept (hq2 _ (by omega))
    have hb3 := hb3.kept (hq2 _ (by omega))
    have hc3 := hc3.kept (hq2 _ (by omega))
    have he3 := he3.kept (hq2 _ (by omega))
    have hF : ∀ q : Nat, ¬ (k0 ≤ q ∧ q < k0 + 5) → H2[q]? = H[q]? := fun q hq => (hq2 q (by omega)).trans (hF q hq)
    refine a_retv dX2_addVoice_28 ⟨⟨rfl, ?_⟩, rfl, rfl⟩
    · refine ⟨⟨_, _, _, _, hk3, ha3, hb3, hc3, he3, eS3, eU3, eK3, upd_to (fun i hi => ?_) ?_, hn3, by omega⟩, hF⟩
      all_goals simp only [upd]
      all_goals repeat' split
      all_goals first | omega | rfl | exact eV3 _ hi | contradiction
set_option maxHeartbeats 4000000 in
set_option maxRecDepth 100000 in
theorem c_X3_clear {G : GT} {B : Nat} {l : Launch} {H : Heap} {p cap ct : Nat} {P Q : DD} (hPr : Pr G H p cap ct P Q) (hB : B ≤ p) : AM G B l yX3_clear cX3_clear 1 none 0 0 0 [.ref p] H (fun v H' => v = none ∧ ((∀ P' Q' : DD, Pr G H' p cap 0 P' Q') ∧ ∀ q : Nat, ¬ (p ≤ q ∧ q < p + 3) → H'[q]? = H[q]?)) := by
  obtain ⟨fA, fB, hp, hpa, hpb, eA, eB, hct, hcap⟩ := hPr
  have hF : ∀ q : Nat, ¬ (p ≤ q ∧ q < p + 3) → H[q]? = H[q]? := fun _ _ => rfl
  refine AM.ofV (lv := [(0, .ref p)]) (by decide +kernel) (ini := false) (fun h => by cases h) (Nat.le_of_ble_eq_true rfl) rfl ?_ (fun _ _ h => h.1)
  refine a_aload_n 0 dX3_clear_0 rfl rfl ?_
  refine a_iconst 0 dX3_clear_1 (by decide) ?_
  refine a_put f_X3_7 p_X3_7 dX3_clear_2 hp (Nat.le_of_ble_eq_true rfl) rfl rfl (by omega) (fun H1 hp hz1 hq1 => ?_)
  have hp : Ob G H1 p 3 [.ref (p + 1), .ref (p + 2), .int 0] := hp
  have hpa := hpa.kept (hq1 _ (by omega))
  have hpb := hpb.kept (hq1 _ (by omega))
  have hF : ∀ q : Nat, ¬ (p ≤ q ∧ q < p + 3) → H1[q]? = H[q]? := fun q hq => (hq1 q (by omega)).trans (hF q hq)
  refine a_retv dX3_clear_5 ⟨⟨rfl, ?_⟩, rfl, rfl⟩
  · exact ⟨fun _ _ => ⟨_, _, hp, hpa, hpb, fun i hi => absurd hi (Nat.not_lt_zero _), fun i hi => absurd hi (Nat.not_lt_zero _), by omega, hcap⟩, hF⟩
set_option maxHeartbeats 4000000 in
set_option maxRecDepth 100000 in
theorem c_X3_init6 {G : GT} {B : Nat} {l : Launch} {H : Heap} {p : Nat} (hp : Ob G H p 3 [.null, .null, .int 0]) (hsz : H.size = p + 1) (hB : B ≤ p) : AM G B l yX3_init cX3_init 3 none 1 2 12 [.ref p, .int (nI 6)] H (fun v H' => v = none ∧ ((∀ P' Q' : DD, Pr G H' p 6 0 P' Q') ∧ H'.size = p + 3 ∧ ∀ q : Nat, q < p → H'[q]? = H[q]?)) := by
  have hZ : H.size = p + 1 := hsz
  have hF : ∀ q : Nat, q < p → H[q]? = H[q]? := fun _ _ => rfl
  refine AM.ofV (lv := [(0, .ref p), (1, .int (nI 6))]) (by decide +kernel) (ini := true) (fun _ => rfl) (Nat.le_of_ble_eq_true rfl) rfl ?_ (fun _ _ h => h.1)
  refine a_aload_n 0 dX3_init_0 rfl rfl ?_
  refine a_objI oi_X3_1 dX3_init_1 (Nat.le_of_ble_eq_true rfl) (Nat.le_of_ble_eq_true rfl) ?_
  refine a_aload_n 0 dX3_init_4 rfl rfl ?_
  refine a_iconst 0 dX3_init_5 (by decide) ?_
  refine a_put f_X3_7 p_X3_7 dX3_init_6 hp (Nat.le_of_ble_eq_true rfl) rfl rfl (by omega) (fun H1 hp hz1 hq1 => ?_)
  have hp : Ob G H1 p 3 [.null, .null, .int 0] := hp
  have hF : ∀ q : Nat, q < p → H1[q]? = H[q]? := fun q hq => (hq1 q (by omega)).trans (hF q hq)
  refine a_iload_n 1 dX3_init_9 rfl rfl ?_
  refine a_iconst 0 dX3_init_10 (by decide) ?_
  refine a_max ml_X3_13 dX3_init_11 (Nat.le_of_ble_eq_true rfl) (Nat.le_of_ble_eq_true rfl) ⟨Nat.le_of_ble_eq_true rfl, Nat.le_of_ble_eq_true rfl⟩ ?_
  refine a_toeq (nI 6) (by decide) ?_
  refine a_istore_n (lv' := [(2, .int (nI 6)), (0, .ref p), (1, .int (nI 6))]) dX3_init_14 rfl (by decide) rfl ?_
  refine a_aload_n 1 dX3_init_15 rfl rfl ?_
  refine a_iload_n 0 dX3_init_16 rfl rfl ?_
  refine a_newI (n := 6) ac_I dX3_init_17 (by decide) (Nat.le_of_ble_eq_true rfl) (Nat.le_of_ble_eq_true rfl) (fun H2 hpa hz2 hq2 => ?_)
  have hA2 : H1.size = p + 1 := by omega
  rw [hA2] at hpa hz2 hq2
  rw [hA2]
  have hp := hp.kept (hq2 _ (by omega))
  have hZ : H2.size = p + 1 + 1 := hz2
  have hF : ∀ q : Nat, q < p → H2[q]? = H[q]? := fun q hq => (hq2 q (by omega)).trans (hF q hq)
  refine a_put f_X3_19 p_X3_19 dX3_init_19 hp (Nat.le_of_ble_eq_true rfl) rfl rfl (by omega) (fun H3 hp hz3 hq3 => ?_)
  have hp : Ob G H3 p 3 [.ref (p + 1), .null, .int 0] := hp
  have hpa := hpa.kept (hq3 _ (by omega))
  have hF : ∀ q : Nat, q < p → H3[q]? = H[q]? := fun q hq => (hq3 q (by omega)).trans (hF q hq)
  refine a_aload_n 1 dX3_init_22 rfl rfl ?_
  refine a_iload_n 0 dX3_init_23 rfl rfl ?_
  refine a_newI (n := 6) ac_I dX3_init_24 (by decide) (Nat.le_of_ble_eq_true rfl) (Nat.le_of_ble_eq_true rfl) (fun H4 hpb hz4 hq4 => ?_)
  have hA4 : H3.size = p + 2 := by omega
  rw [hA4] at hpb hz4 hq4
  rw [hA4]
  have hp := hp.kept (hq4 _ (by omega))
  have hpa := hpa.kept (hq4 _ (by omega))
  have hZ : H4.size = p + 2 + 1 := hz4
  have hF : ∀ q : Nat, q < p → H4[q]? = H[q]? := fun q hq => (hq4 q (by omega)).trans (hF q hq)
  refine a_put f_X3_23 p_X3_23 dX3_init_26 hp (Nat.le_of_ble_eq_true rfl) rfl rfl (by omega) (fun H5 hp hz5 hq5 => ?_)
  have hp : Ob G H5 p 3 [.ref (p + 1), .ref (p + 2), .int 0] := hp
  have hpa := hpa.kept (hq5 _ (by omega))
  have hpb := hpb.kept (hq5 _ (by omega))
  have hF : ∀ q : Nat, q < p → H5[q]? = H[q]? := fun q hq => (hq5 q (by omega)).trans (hF q hq)
  refine a_retv dX3_init_29 ⟨⟨rfl, ?_⟩, rfl, rfl⟩
  · exact ⟨fun _ _ => ⟨_, _, hp, hpa, hpb, fun i hi => absurd hi (Nat.not_lt_zero _), fun i hi => absurd hi (Nat.not_lt_zero _), by decide, by decide⟩, by omega, hF⟩
set_option maxHeartbeats 4000000 in
set_option maxRecDepth 100000 in
theorem c_X3_init15 {G : GT} {B : Nat} {l : Launch} {H : Heap} {p : Nat} (hp : Ob G H p 3 [.null, .null, .int 0]) (hsz : H.size = p + 1) (hB : B ≤ p) : AM G B l yX3_init cX3_init 3 none 1 2 30 [.ref p, .int (nI 15)] H (fun v H' => v = none ∧ ((∀ P' Q' : DD, Pr G H' p 15 0 P' Q') ∧ H'.size = p + 3 ∧ ∀ q : Nat, q < p → H'[q]? = H[q]?)) := by
  have hZ : H.size = p + 1 := hsz
  have hF : ∀ q : Nat, q < p → H[q]? = H[q]? := fun _ _ => rfl
  refine AM.ofV (lv := [(0, .ref p), (1, .int (nI 15))]) (by decide +kernel) (ini := true) (fun _ => rfl) (Nat.le_of_ble_eq_true rfl) rfl ?_ (fun _ _ h => h.1)
  refine a_aload_n 0 dX3_init_0 rfl rfl ?_
  refine a_objI oi_X3_1 dX3_init_1 (Nat.le_of_ble_eq_true rfl) (Nat.le_of_ble_eq_true rfl) ?_
  refine a_aload_n 0 dX3_init_4 rfl rfl ?_
  refine a_iconst 0 dX3_init_5 (by decide) ?_
  refine a_put f_X3_7 p_X3_7 dX3_init_6 hp (Nat.le_of_ble_eq_true rfl) rfl rfl (by omega) (fun H1 hp hz1 hq1 => ?_)
  have hp : Ob G H1 p 3 [.null, .null, .int 0] := hp
  have hF : ∀ q : Nat, q < p → H1[q]? = H[q]? := fun q hq => (hq1 q (by omega)).trans (hF q hq)
  refine a_iload_n 1 dX3_init_9 rfl rfl ?_
  refine a_iconst 0 dX3_init_10 (by decide) ?_
  refine a_max ml_X3_13 dX3_init_11 (Nat.le_of_ble_eq_true rfl) (Nat.le_of_ble_eq_true rfl) ⟨Nat.le_of_ble_eq_true rfl, Nat.le_of_ble_eq_true rfl⟩ ?_
  refine a_toeq (nI 15) (by decide) ?_
  refine a_istore_n (lv' := [(2, .int (nI 15)), (0, .ref p), (1, .int (nI 15))]) dX3_init_14 rfl (by decide) rfl ?_
  refine a_aload_n 1 dX3_init_15 rfl rfl ?_
  refine a_iload_n 0 dX3_init_16 rfl rfl ?_
  refine a_newI (n := 15) ac_I dX3_init_17 (by decide) (Nat.le_of_ble_eq_true rfl) (Nat.le_of_ble_eq_true rfl) (fun H2 hpa hz2 hq2 => ?_)
  have hA2 : H1.size = p + 1 := by omega
  rw [hA2] at hpa hz2 hq2
  rw [hA2]
  have hp := hp.kept (hq2 _ (by omega))
  have hZ : H2.size = p + 1 + 1 := hz2
  have hF : ∀ q : Nat, q < p → H2[q]? = H[q]? := fun q hq => (hq2 q (by omega)).trans (hF q hq)
  refine a_put f_X3_19 p_X3_19 dX3_init_19 hp (Nat.le_of_ble_eq_true rfl) rfl rfl (by omega) (fun H3 hp hz3 hq3 => ?_)
  have hp : Ob G H3 p 3 [.ref (p + 1), .null, .int 0] := hp
  have hpa := hpa.kept (hq3 _ (by omega))
  have hF : ∀ q : Nat, q < p → H3[q]? = H[q]? := fun q hq => (hq3 q (by omega)).trans (hF q hq)
  refine a_aload_n 1 dX3_init_22 rfl rfl ?_
  refine a_iload_n 0 dX3_init_23 rfl rfl ?_
  refine a_newI (n := 15) ac_I dX3_init_24 (by decide) (Nat.le_of_ble_eq_true rfl) (Nat.le_of_ble_eq_true rfl) (fun H4 hpb hz4 hq4 => ?_)
  have hA4 : H3.size = p + 2 := by omega
  rw [hA4] at hpb hz4 hq4
  rw [hA4]
  have hp := hp.kept (hq4 _ (by omega))
  have hpa := hpa.kept (hq4 _ (by omega))
  have hZ : H4.size = p + 2 + 1 := hz4
  have hF : ∀ q : Nat, q < p → H4[q]? = H[q]? := fun q hq => (hq4 q (by omega)).trans (hF q hq)
  refine a_put f_X3_23 p_X3_23 dX3_init_26 hp (Nat.le_of_ble_eq_true rfl) rfl rfl (by omega) (fun H5 hp hz5 hq5 => ?_)
  have hp : Ob G H5 p 3 [.ref (p + 1), .ref (p + 2), .int 0] := hp
  have hpa := hpa.kept (hq5 _ (by omega))
  have hpb := hpb.kept (hq5 _ (by omega))
  have hF : ∀ q : Nat, q < p → H5[q]? = H[q]? := fun q hq => (hq5 q (by omega)).trans (hF q hq)
  refine a_retv dX3_init_29 ⟨⟨rfl, ?_⟩, rfl, rfl⟩
  · exact ⟨fun _ _ => ⟨_, _, hp, hpa, hpb, fun i hi => absurd hi (Nat.not_lt_zero _), fun i hi => absurd hi (Nat.not_lt_zero _), by decide, by decide⟩, by omega, hF⟩
set_option maxHeartbeats 4000000 in
set_option maxRecDepth 100000 in
theorem c_X3_append {G : GT} {B : Nat} {l : Launch} {H : Heap} {p cap ct : Nat} {P Q : DD} {a b : Int32} (hPr : Pr G H p cap ct P Q) (hB : B ≤ p) : AM G B l yX3_append cX3_append 3 (some .boolean) 0 0 0 [.ref p, .int a, .int b] H (fun v H' => v = some (.int (bI (decide (ct < cap)))) ∧ (Pr G H' p cap (if ct < cap then ct + 1 else ct) (if ct < cap then upd P ct a else P) (if ct < cap then upd Q ct b else Q) ∧ ∀ q : Nat, ¬ (p ≤ q ∧ q < p + 3) → H'[q]? = H[q]?)) := by
  have hPr0 := hPr
  obtain ⟨fA, fB, hp, hpa, hpb, eA, eB, hct, hcap⟩ := hPr
  have hF : ∀ q : Nat, ¬ (p ≤ q ∧ q < p + 3) → H[q]? = H[q]? := fun _ _ => rfl
  refine AM.ofZ (lv := [(0, .ref p), (1, .int a), (2, .int b)]) (by decide +kernel) (Nat.le_of_ble_eq_true rfl) rfl ?_ (fun _ _ h => ⟨_, h.1⟩)
  refine a_aload_n 0 dX3_append_0 rfl rfl ?_
  refine a_get f_X3_7 dX3_append_1 hp rfl ?_
  refine a_aload_n 0 dX3_append_4 rfl rfl ?_
  refine a_get f_X3_19 dX3_append_5 hp rfl ?_
  refine a_alen dX3_append_8 hpa ?_
  refine a_icmpltN (a := ct) (b := cap) 14 dX3_append_9 (by decide) (by omega) (by omega) (fun c9 => ?_) (fun c9 => ?_)
  · skip
    refine a_aload_n 0 dX3_append_14 rfl rfl ?_
    refine a_get f_X3_19 dX3_append_15 hp rfl ?_
    refine a_aload_n 0 dX3_append_18 rfl rfl ?_
    refine a_get f_X3_7 dX3_append_19 hp rfl ?_
    refine a_iload_n 1 dX3_append_22 rfl rfl ?_
    refine a_iastN (j := ct) dX3_append_23 hpa (by omega) (by omega) (by omega) (fun H1 hpa hz1 hq1 => ?_)
    have hpa : Ai G H1 (p + 1) cap (upd fA ct a) := hpa
    have hp := hp.kept (hq1 _ (by omega))
    have hpb := hpb.kept (hq1 _ (by omega))
    have hF : ∀ q : Nat, ¬ (p ≤ q ∧ q < p + 3) → H1[q]? = H[q]? := fun q hq => (hq1 q (by omega)).trans (hF q hq)
    refine a_aload_n 0 dX3_append_24 rfl rfl ?_
    refine a_get f_X3_23 dX3_append_25 hp rfl ?_
    refine a_aload_n 0 dX3_append_28 rfl rfl ?_
    refine a_get f_X3_7 dX3_append_29 hp rfl ?_
    refine a_iload_n 2 dX3_append_32 rfl rfl ?_
    refine a_iastN (j := ct) dX3_append_33 hpb (by omega) (by omega) (by omega) (fun H2 hpb hz2 hq2 => ?_)
    have hpb : Ai G H2 (p + 2) cap (upd fB ct b) := hpb
    have hp := hp.kept (hq2 _ (by omega))
    have hpa := hpa.kept (hq2 _ (by omega))
    have hF : ∀ q : Nat, ¬ (p ≤ q ∧ q < p + 3) → H2[q]? = H[q]? := fun q hq => (hq2 q (by omega)).trans (hF q hq)
    refine a_aload_n 0 dX3_append_34 rfl rfl ?_
    refine a_dup dX3_append_35 rfl ?_
    refine a_get f_X3_7 dX3_append_36 hp rfl ?_
    refine a_iconst 1 dX3_append_39 (by decide) ?_
    refine a_iaddN (a := ct) (b := 1) dX3_append_40 ?_
    refine a_put f_X3_7 p_X3_7 dX3_append_41 hp (Nat.le_of_ble_eq_true rfl) rfl rfl (by omega) (fun H3 hp hz3 hq3 => ?_)
    have hp : Ob G H3 p 3 [.ref (p + 1), .ref (p + 2), .int (nI (ct + 1))] := hp
    have hpa := hpa.kept (hq3 _ (by omega))
    have hpb := hpb.kept (hq3 _ (by omega))
    have hF : ∀ q : Nat, ¬ (p ≤ q ∧ q < p + 3) → H3[q]? = H[q]? := fun q hq => (hq3 q (by omega)).trans (hF q hq)
    refine a_iconst 1 dX3_append_44 (by decide) ?_
    refine a_ret dX3_append_45 ⟨⟨ri ?_, ?_⟩, rfl, rfl⟩
    · rw [decide_eq_true c9]; rfl
    · refine ⟨?_, hF⟩
      rw [if_pos c9, if_pos c9, if_pos c9]
      refine ⟨_, _, hp, hpa, hpb, upd_to (fun i hi => ?_) ?_, upd_to (fun i hi => ?_) ?_, by omega, hcap⟩
      all_goals simp only [upd]
      all_goals repeat' split
      all_goals first | omega | rfl | exact eA _ hi | exact eB _ hi | contradiction
  · skip
    refine a_iconst 0 dX3_append_12 (by decide) ?_
    refine a_ret dX3_append_13 ⟨⟨ri ?_, ?_⟩, rfl, rfl⟩
    · rw [decide_eq_false (by omega)]; rfl
    · refine ⟨?_, hF⟩
      rw [if_neg (by omega), if_neg (by omega), if_neg (by omega)]
      exact hPr0
set_option maxHeartbeats 4000000 in
set_option maxRecDepth 100000 in
theorem c_X4_clear {G : GT} {B : Nat} {l : Launch} {H : Heap} {p nx ct n : Nat} {pu : Nat → DD} (hPs : Ps G H p nx ct n pu) (hB : B ≤ p) : AM G B l yX4_clear cX4_clear 1 none 0 0 0 [.ref p] H (fun v H' => v = none ∧ ((∀ (n' : Nat) (pu' : Nat → DD), Ps G H' p nx 0 n' pu') ∧ ∀ q : Nat, ¬ (p ≤ q ∧ q < p + 82) → H'[q]? = H[q]?)) := by
  obtain ⟨hp, ⟨fR, hr, eR⟩, hE, hnx, hct⟩ := hPs
  have hF : ∀ q : Nat, ¬ (p ≤ q ∧ q < p + 82) ∨ q ≠ p → H[q]? = H[q]? := fun _ _ => rfl
  refine AM.ofV (lv := [(0, .ref p)]) (by decide +kernel) (ini := false) (fun h => by cases h) (Nat.le_of_ble_eq_true rfl) rfl ?_ (fun _ _ h => h.1)
  refine a_aload_n 0 dX4_clear_0 rfl rfl ?_
  refine a_iconst 0 dX4_clear_1 (by decide) ?_
  refine a_put f_X4_21 p_X4_21 dX4_clear_2 hp (Nat.le_of_ble_eq_true rfl) rfl rfl (by omega) (fun H1 hp hz1 hq1 => ?_)
  have hp : Ob G H1 p 4 [.ref (p + 1), .int (nI nx), .int 0] := hp
  have hr := hr.kept (hq1 _ (by omega))
  have hF : ∀ q : Nat, ¬ (p ≤ q ∧ q < p + 82) ∨ q ≠ p → H1[q]? = H[q]? := fun q hq => (hq1 q (by omega)).trans (hF q hq)
  refine a_retv dX4_clear_5 ⟨⟨rfl, ?_⟩, rfl, rfl⟩
  · refine ⟨fun n' pu' => ⟨hp, ⟨fR, hr, eR⟩, fun i hi => ?_, hnx, by decide⟩, fun q hq => hF q (Or.inl hq)⟩
    obtain ⟨m, dd, g1, g2⟩ := hE i hi
    exact ⟨m, dd, g1.kept (fun q a b => hF q (Or.inr (by omega))), fun h => absurd h (Nat.not_lt_zero _)⟩
set_option maxHeartbeats 4000000 in
set_option maxRecDepth 100000 in
theorem c_X4_push {G : GT} {B : Nat} {l : Launch} {H : Heap} {p nx ct : Nat} {pu : Nat → DD} {d n : Nat} {dd2 : DD} (hD2 : Dd G H d n dd2) (hap : d + 4 ≤ p ∨ p + 82 ≤ d) (hPs : Ps G H p nx ct n pu) (hB : B ≤ p) : AM G B l yX4_push cX4_push 2 none 2 0 0 [.ref p, .ref d] H (fun v H' => v = none ∧ (Ps G H' p ((nx + 1) % 20) (min (ct + 1) 20) n (fun i => if i = nx then dd2 else pu i) ∧ ∀ q : Nat, ¬ (p ≤ q ∧ q < p + 82) → H'[q]? = H[q]?)) := by
  obtain ⟨hp, ⟨fR, hr, eR⟩, hE, hnx, hct⟩ := hPs
  obtain ⟨m, ddm, hdm, -⟩ := hE nx hnx
  have hdR := hdm.choose_spec.choose_spec.choose_spec.1
  have hF : ∀ q : Nat, q ≠ p ∧ ¬ (p + 2 + 4 * nx ≤ q ∧ q < p + 2 + 4 * nx + 4) → H[q]? = H[q]? := fun _ _ => rfl
  refine AM.ofV (lv := [(0, .ref p), (1, .ref d)]) (by decide +kernel) (ini := false) (fun h => by cases h) (Nat.le_of_ble_eq_true rfl) rfl ?_ (fun _ _ h => h.1)
  refine a_aload_n 0 dX4_push_0 rfl rfl ?_
  refine a_get f_X4_11 dX4_push_1 hp rfl ?_
  refine a_aload_n 0 dX4_push_4 rfl rfl ?_
  refine a_get f_X4_17 dX4_push_5 hp rfl ?_
  refine a_aald (t := 3) (C0 := RX0) (x := p + 2 + 4 * nx) (fun _ => rfl) dX4_push_8 hr (by omega) (by decide) (eR _ (by omega)) ?_
  refine a_aload_n 1 dX4_push_9 rfl rfl ?_
  refine a_callVv (As := [.ref d]) (rest := []) (d := 1) (mc := 0) (ms := 0) (ci := 0) l_X4_25 im_X0_copy se_X0_copy ⟨_, rfl, rfl⟩ dX4_push_10 ⟨Nat.le_of_ble_eq_true rfl, Nat.le_of_ble_eq_true rfl⟩ rfl (Nat.le_of_ble_eq_true rfl) ⟨Nat.le_of_ble_eq_true rfl, Nat.le_of_ble_eq_true rfl⟩ hdR (c_X0_copy hD2 (by omega) hdm (by omega)) (fun H1 hp1 => ?_)
  obtain ⟨hdN, hfr⟩ := hp1
  have hp := hp.kept (hfr _ (by omega))
  have hr := hr.kept (hfr _ (by omega))
  have hF : ∀ q : Nat, q ≠ p ∧ ¬ (p + 2 + 4 * nx ≤ q ∧ q < p + 2 + 4 * nx + 4) → H1[q]? = H[q]? := fun q hq => (hfr q (by omega)).trans (hF q hq)
  have hfr2 := hfr
  have hN0 := hdN
  refine a_aload_n 0 dX4_push_13 rfl rfl ?_
  refine a_aload_n 0 dX4_push_14 rfl rfl ?_
  refine a_get f_X4_17 dX4_push_15 hp rfl ?_
  refine a_iconst 1 dX4_push_18 (by decide) ?_
  refine a_iaddN (a := nx) (b := 1) dX4_push_19 ?_
  refine a_bipush 20 dX4_push_20 (by decide) ?_
  refine a_iremN (a := nx + 1) (b := 20) dX4_push_22 (by omega) (by omega) (by omega) ?_
  refine a_put f_X4_17 p_X4_17 dX4_push_23 hp (Nat.le_of_ble_eq_true rfl) rfl rfl (by omega) (fun H2 hp hz2 hq2 => ?_)
  have hp : Ob G H2 p 4 [.ref (p + 1), .int (nI ((nx + 1) % 20)), .int (nI ct)] := hp
  have hr := hr.kept (hq2 _ (by omega))
  have hF : ∀ q : Nat, q ≠ p ∧ ¬ (p + 2 + 4 * nx ≤ q ∧ q < p + 2 + 4 * nx + 4) → H2[q]? = H[q]? := fun q hq => (hq2 q (by omega)).trans (hF q hq)
  refine a_aload_n 0 dX4_push_26 rfl rfl ?_
  refine a_aload_n 0 dX4_push_27 rfl rfl ?_
  refine a_get f_X4_21 dX4_push_28 hp rfl ?_
  refine a_iconst 1 dX4_push_31 (by decide) ?_
  refine a_iaddN (a := ct) (b := 1) dX4_push_32 ?_
  refine a_bipush 20 dX4_push_33 (by decide) ?_
  refine a_min ml_X4_29 dX4_push_35 (Nat.le_of_ble_eq_true rfl) (Nat.le_of_ble_eq_true rfl) ⟨Nat.le_of_ble_eq_true rfl, Nat.le_of_ble_eq_true rfl⟩ ?_
  refine a_toeq (nI (min (ct + 1) 20)) (mnN (b := 20) (by omega) (by omega)) ?_
  refine a_put f_X4_21 p_X4_21 dX4_push_38 hp (Nat.le_of_ble_eq_true rfl) rfl rfl (by omega) (fun H3 hp hz3 hq3 => ?_)
  have hp : Ob G H3 p 4 [.ref (p + 1), .int (nI ((nx + 1) % 20)), .int (nI (min (ct + 1) 20))] := hp
  have hr := hr.kept (hq3 _ (by omega))
  have hF : ∀ q : Nat, q ≠ p ∧ ¬ (p + 2 + 4 * nx ≤ q ∧ q < p + 2 + 4 * nx + 4) → H3[q]? = H[q]? := fun q hq => (hq3 q (by omega)).trans (hF q hq)
  refine a_retv dX4_push_41 ⟨⟨rfl, ?_⟩, rfl, rfl⟩
  · refine ⟨⟨hp, ⟨fR, hr, eR⟩, fun i hi => ?_, by omega, by omega⟩, fun q hq => hF q (by omega)⟩
    by_cases e : i = nx
    · subst e
      exact ⟨n, dd2, hdN.kept (fun q a b => by first | rfl | (rw [hq3 q (by omega), hq2 q (by omega)])), fun _ => ⟨rfl, (if_pos rfl).symm⟩⟩
    · obtain ⟨m2, dd3, g1, g2⟩ := hE i hi
      refine ⟨m2, dd3, g1.kept (fun q a b => hF q (by omega)), fun hv => ?_⟩
      show m2 = n ∧ dd3 = (if i = nx then dd2 else pu i)
      rw [if_neg e]
      exact g2 (by unfold vld at *; omega)
set_option maxHeartbeats 4000000 in
set_option maxRecDepth 100000 in
theorem c_X4_pop {G : GT} {B : Nat} {l : Launch} {H : Heap} {p nx ct n : Nat} {pu : Nat → DD} {d n2 : Nat} {dd2 : DD} (hD2 : Dd G H d n2 dd2) (hap : d + 4 ≤ p ∨ p + 82 ≤ d) (hPs : Ps G H p nx ct n pu) (hBd : B ≤ d) (hB : B ≤ p) : AM G B l yX4_pop cX4_pop 2 (some .boolean) 2 0 0 [.ref p, .ref d] H (fun v H' => v = some (.int (bI (decide (0 < ct)))) ∧ (((0 < ct → Ps G H' p ((nx + 19) % 20) (ct - 1) n pu ∧ Dd G H' d n (pu ((nx + 19) % 20))) ∧ (ct = 0 → H' = H)) ∧ ∀ q : Nat, (¬ (p ≤ q ∧ q < p + 82) ∧ ¬ (d ≤ q ∧ q < d + 4)) → H'[q]? = H[q]?)) := by
  obtain ⟨hp, ⟨fR, hr, eR⟩, hE, hnx, hct⟩ := hPs
  have hF : ∀ q : Nat, q ≠ p ∧ ¬ (d ≤ q ∧ q < d + 4) → H[q]? = H[q]? := fun _ _ => rfl
  refine AM.ofZ (lv := [(0, .ref p), (1, .ref d)]) (by decide +kernel) (Nat.le_of_ble_eq_true rfl) rfl ?_ (fun _ _ h => ⟨_, h.1⟩)
  refine a_aload_n 0 dX4_pop_0 rfl rfl ?_
  refine a_get f_X4_21 dX4_pop_1 hp rfl ?_
  refine a_ifneN (a := ct) 9 dX4_pop_4 (by decide) (by omega) (fun c4 => ?_) (fun c4 => ?_)
  · skip
    refine a_aload_n 0 dX4_pop_9 rfl rfl ?_
    refine a_aload_n 0 dX4_pop_10 rfl rfl ?_
    refine a_get f_X4_17 dX4_pop_11 hp rfl ?_
    refine a_bipush 20 dX4_pop_14 (by decide) ?_
    refine a_iaddN (a := nx) (b := 20) dX4_pop_16 ?_
    refine a_iconst 1 dX4_pop_17 (by decide) ?_
    refine a_isubN (a := nx + 20) (b := 1) dX4_pop_18 (by omega) ?_
    refine a_bipush 20 dX4_pop_19 (by decide) ?_
    refine a_iremN (a := (nx + 20) - 1) (b := 20) dX4_pop_21 (by omega) (by omega) (by omega) ?_
    refine a_put f_X4_17 p_X4_17 dX4_pop_22 hp (Nat.le_of_ble_eq_true rfl) rfl rfl (by omega) (fun H1 hp hz1 hq1 => ?_)
    have hp : Ob G H1 p 4 [.ref (p + 1), .int (nI (((nx + 20) - 1) % 20)), .int (nI ct)] := hp
    have hr := hr.kept (hq1 _ (by omega))
    have hF : ∀ q : Nat, q ≠ p ∧ ¬ (d ≤ q ∧ q < d + 4) → H1[q]? = H[q]? := fun q hq => (hq1 q (by omega)).trans (hF q hq)
    refine a_aload_n 0 dX4_pop_25 rfl rfl ?_
    refine a_dup dX4_pop_26 rfl ?_
    refine a_get f_X4_21 dX4_pop_27 hp rfl ?_
    refine a_iconst 1 dX4_pop_30 (by decide) ?_
    refine a_isubN (a := ct) (b := 1) dX4_pop_31 (by omega) ?_
    refine a_put f_X4_21 p_X4_21 dX4_pop_32 hp (Nat.le_of_ble_eq_true rfl) rfl rfl (by omega) (fun H2 hp hz2 hq2 => ?_)
    have hp : Ob G H2 p 4 [.ref (p + 1), .int (nI (((nx + 20) - 1) % 20)), .int (nI (ct - 1))] := hp
    have hr := hr.kept (hq2 _ (by omega))
    have hF : ∀ q : Nat, q ≠ p ∧ ¬ (d ≤ q ∧ q < d + 4) → H2[q]? = H[q]? := fun q hq => (hq2 q (by omega)).trans (hF q hq)
    obtain ⟨m, ddm, hdm, hv⟩ := hE ((nx + 20 - 1) % 20) (by omega)
    obtain ⟨rfl, rfl⟩ := hv (by unfold vld; omega)
    have hdm1 := hdm.kept (H1 := H2) (fun q a b => hF q (by omega))
    have hdR := hdm1.choose_spec.choose_spec.choose_spec.1
    have hD3 := hD2.kept (H1 := H2) (fun q a b => by first | rfl | (rw [hq2 q (by omega), hq1 q (by omega)]))
    have hdR3 := hD3.choose_spec.choose_spec.choose_spec.1
    refine a_aload_n 1 dX4_pop_35 rfl rfl ?_
    refine a_aload_n 0 dX4_pop_36 rfl rfl ?_
    refine a_get f_X4_11 dX4_pop_37 hp rfl ?_
    refine a_aload_n 0 dX4_pop_40 rfl rfl ?_
    refine a_get f_X4_17 dX4_pop_41 hp rfl ?_
    refine a_aald (t := 3) (C0 := RX0) (x := p + 2 + 4 * ((nx + 20 - 1) % 20)) (fun _ => rfl) dX4_pop_44 hr (by omega) (by decide) (eR _ (by omega)) ?_
    refine a_callVv (As := [.ref (p + 2 + 4 * ((nx + 20 - 1) % 20))]) (rest := []) (d := 1) (mc := 0) (ms := 0) (ci := 0) l_X4_25 im_X0_copy se_X0_copy ⟨_, rfl, rfl⟩ dX4_pop_45 ⟨Nat.le_of_ble_eq_true rfl, Nat.le_of_ble_eq_true rfl⟩ rfl (Nat.le_of_ble_eq_true rfl) ⟨Nat.le_of_ble_eq_true rfl, Nat.le_of_ble_eq_true rfl⟩ hdR3 (c_X0_copy hdm1 (by omega) hD3 (by omega)) (fun H3 hp3 => ?_)
    obtain ⟨hdN, hfr⟩ := hp3
    have hp := hp.kept (hfr _ (by omega))
    have hr := hr.kept (hfr _ (by omega))
    have hF : ∀ q : Nat, q ≠ p ∧ ¬ (d ≤ q ∧ q < d + 4) → H3[q]? = H[q]? := fun q hq => (hfr q (by omega)).trans (hF q hq)
    refine a_iconst 1 dX4_pop_48 (by decide) ?_
    refine a_ret dX4_pop_49 ⟨⟨ri ?_, ?_⟩, rfl, rfl⟩
    · rw [decide_eq_true (by omega)]; rfl
    · refine ⟨⟨fun _ => ⟨⟨?_, ⟨fR, hr, eR⟩, fun i hi => ?_, by omega, by omega⟩, ?_⟩, fun h => by omega⟩, fun q hq => hF q (by omega)⟩
      · rw [show (nx + 19) % 20 = (nx + 20 - 1) % 20 by omega]; exact hp
      · obtain ⟨m2, dd3, g1, g2⟩ := hE i hi
        refine ⟨m2, dd3, g1.kept (fun q a b => hF q (by omega)), fun hv2 => g2 (by unfold vld at *; omega)⟩
      · rw [show (nx + 19) % 20 = (nx + 20 - 1) % 20 by omega]; exact hdN
  · skip
    refine a_iconst 0 dX4_pop_7 (by decide) ?_
    refine a_ret dX4_pop_8 ⟨⟨ri ?_, ?_⟩, rfl, rfl⟩
    · rw [decide_eq_false (by omega)]; rfl
    · exact ⟨⟨fun h => by omega, fun _ => rfl⟩, fun q hq => rfl⟩
set_option maxHeartbeats 4000000 in
set_option maxRecDepth 100000 in
theorem c_X1_init {G : GT} {B : Nat} {l : Launch} {H : Heap} {p : Nat} (hi : Ob G H p 1 [.int 0, .null, .int 0]) (hsz : H.size = p + 1) (hB : B ≤ p) : AM G B l yX1_init cX1_init 1 none 2 4 31 [.ref p] H (fun v H' => v = none ∧ (Im G H' p false 0 0 (fun i => if i = 26 then -1 else 0) ∧ H'.size = p + 5 ∧ ∀ q : Nat, q < p → H'[q]? = H[q]?)) := by
  have hZ : H.size = p + 1 := hsz
  have hF : ∀ q : Nat, q < p → H[q]? = H[q]? := fun _ _ => rfl
  refine AM.ofV (lv := [(0, .ref p)]) (by decide +kernel) (ini := true) (fun _ => rfl) (Nat.le_of_ble_eq_true rfl) rfl ?_ (fun _ _ h => h.1)
  refine a_aload_n 0 dX1_init_0 rfl rfl ?_
  refine a_objI oi_X1_1 dX1_init_1 (Nat.le_of_ble_eq_true rfl) (Nat.le_of_ble_eq_true rfl) ?_
  refine a_aload_n 0 dX1_init_4 rfl rfl ?_
  refine a_iconst 0 dX1_init_5 (by decide) ?_
  refine a_put f_X1_7 p_X1_7 dX1_init_6 hi (Nat.le_of_ble_eq_true rfl) rfl rfl (by omega) (fun H1 hi hz1 hq1 => ?_)
  have hi : Ob G H1 p 1 [.int 0, .null, .int 0] := hi
  have hF : ∀ q : Nat, q < p → H1[q]? = H[q]? := fun q hq => (hq1 q (by omega)).trans (hF q hq)
  refine a_aload_n 0 dX1_init_9 rfl rfl ?_
  refine a_new (ci := 0) (N := 7) (fs := [.int 0, .null, .null, .null, .int 0, .int 0, .int 0]) nw_X1_13 (fun q hq => by cases hq; rfl) dX1_init_10 (fun j hj => by rcases (show j = 0 ∨ j = 1 ∨ j = 2 ∨ j = 3 ∨ j = 4 ∨ j = 5 ∨ j = 6 by omega) with rfl | rfl | rfl | rfl | rfl | rfl | rfl <;> rfl) (Nat.le_of_ble_eq_true rfl) (Nat.le_of_ble_eq_true rfl) (fun H2 hd hz2 hq2 => ?_)
  have hA2 : H1.size = p + 1 := by omega
  rw [hA2] at hd hz2 hq2
  rw [hA2]
  have hi := hi.kept (hq2 _ (by omega))
  have hZ : H2.size = p + 1 + 1 := hz2
  have hF : ∀ q : Nat, q < p → H2[q]? = H[q]? := fun q hq => (hq2 q (by omega)).trans (hF q hq)
  refine a_dup dX1_init_13 rfl ?_
  refine a_callIv (As := []) (rest := [.ref (p + 1), .ref p]) (d := 1) (mc := 3) (ms := 24) l_X1_15 im_X0_init rfl dX1_init_14 ⟨Nat.le_of_ble_eq_true rfl, Nat.le_of_ble_eq_true rfl⟩ rfl (Nat.le_of_ble_eq_true rfl) ⟨Nat.le_of_ble_eq_true rfl, Nat.le_of_ble_eq_true rfl⟩ (c_X0_init hd (by omega) (by omega)) (fun H3 hp3 => ?_)
  obtain ⟨hDn, hZ, hfr⟩ := hp3
  have hDn0 := hDn
  have hi := hi.kept (hfr _ (by omega))
  have hF : ∀ q : Nat, q < p → H3[q]? = H[q]? := fun q hq => (hfr q (by omega)).trans (hF q hq)
  refine a_put f_X1_16 p_X1_16 dX1_init_17 hi (Nat.le_of_ble_eq_true rfl) rfl rfl (by omega) (fun H4 hi hz4 hq4 => ?_)
  have hi : Ob G H4 p 1 [.int 0, .ref (p + 1), .int 0] := hi
  have hF : ∀ q : Nat, q < p → H4[q]? = H[q]? := fun q hq => (hq4 q (by omega)).trans (hF q hq)
  refine a_aload_n 0 dX1_init_20 rfl rfl ?_
  refine a_iconst 0 dX1_init_21 (by decide) ?_
  refine a_put f_X1_20 p_X1_20 dX1_init_22 hi (Nat.le_of_ble_eq_true rfl) rfl rfl (by omega) (fun H5 hi hz5 hq5 => ?_)
  have hi : Ob G H5 p 1 [.int 0, .ref (p + 1), .int 0] := hi
  have hF : ∀ q : Nat, q < p → H5[q]? = H[q]? := fun q hq => (hq5 q (by omega)).trans (hF q hq)
  refine a_retv dX1_init_25 ⟨⟨rfl, ?_⟩, rfl, rfl⟩
  · exact ⟨⟨hi, hDn0.kept (fun q a b => by rw [hq5 q (by omega), hq4 q (by omega)])⟩, by omega, hF⟩
set_option maxHeartbeats 4000000 in
set_option maxRecDepth 100000 in
theorem c_X4_init {G : GT} {B : Nat} {l : Launch} {H : Heap} {p : Nat} (hp : Ob G H p 4 [.null, .int 0, .int 0]) (hsz : H.size = p + 1) (hB : B ≤ p) : AM G B l yX4_init cX4_init 2 none 2 81 640 [.ref p] H (fun v H' => v = none ∧ ((∀ (n' : Nat) (pu' : Nat → DD), Ps G H' p 0 0 n' pu') ∧ H'.size = p + 82 ∧ ∀ q : Nat, q < p → H'[q]? = H[q]?)) := by
  have hZ : H.size = p + 1 := hsz
  have hF : ∀ q : Nat, q < p → H[q]? = H[q]? := fun _ _ => rfl
  refine AM.ofV (lv := [(0, .ref p)]) (by decide +kernel) (ini := true) (fun _ => rfl) (Nat.le_of_ble_eq_true rfl) rfl ?_ (fun _ _ h => h.1)
  refine a_aload_n 0 dX4_init_0 rfl rfl ?_
  refine a_objI oi_X4_3 dX4_init_1 (Nat.le_of_ble_eq_true rfl) (Nat.le_of_ble_eq_true rfl) ?_
  refine a_aload_n 0 dX4_init_4 rfl rfl ?_
  refine a_bipush 20 dX4_init_5 (by decide) ?_
  refine a_newq (n := 20) (t := 3) (C0 := RX0) (fun _ => rfl) (Or.inl rfl) cl_X4_9 dX4_init_7 (by decide) (Nat.le_of_ble_eq_true rfl) (Nat.le_of_ble_eq_true rfl) (fun H1 hr hz1 hq1 => ?_)
  have hA1 : H.size = p + 1 := by omega
  rw [hA1] at hr hz1 hq1
  rw [hA1]
  have hp := hp.kept (hq1 _ (by omega))
  have hZ : H1.size = p + 1 + 1 := hz1
  have hF : ∀ q : Nat, q < p → H1[q]? = H[q]? := fun q hq => (hq1 q (by omega)).trans (hF q hq)
  refine a_put f_X4_11 p_X4_11 dX4_init_10 hp (Nat.le_of_ble_eq_true rfl) rfl rfl (by omega) (fun H2 hp hz2 hq2 => ?_)
  have hp : Ob G H2 p 4 [.ref (p + 1), .int 0, .int 0] := hp
  have hr := hr.kept (hq2 _ (by omega))
  have hF : ∀ q : Nat, q < p → H2[q]? = H[q]? := fun q hq => (hq2 q (by omega)).trans (hF q hq)
  refine a_aload_n 0 dX4_init_13 rfl rfl ?_
  refine a_iconst 0 dX4_init_14 (by decide) ?_
  refine a_put f_X4_17 p_X4_17 dX4_init_15 hp (Nat.le_of_ble_eq_true rfl) rfl rfl (by omega) (fun H3 hp hz3 hq3 => ?_)
  have hp : Ob G H3 p 4 [.ref (p + 1), .int 0, .int 0] := hp
  have hr := hr.kept (hq3 _ (by omega))
  have hF : ∀ q : Nat, q < p → H3[q]? = H[q]? := fun q hq => (hq3 q (by omega)).trans (hF q hq)
  refine a_aload_n 0 dX4_init_18 rfl rfl ?_
  refine a_iconst 0 dX4_init_19 (by decide) ?_
  refine a_put f_X4_21 p_X4_21 dX4_init_20 hp (Nat.le_of_ble_eq_true rfl) rfl rfl (by omega) (fun H4 hp hz4 hq4 => ?_)
  have hp : Ob G H4 p 4 [.ref (p + 1), .int 0, .int 0] := hp
  have hr := hr.kept (hq4 _ (by omega))
  have hF : ∀ q : Nat, q < p → H4[q]? = H[q]? := fun q hq => (hq4 q (by omega)).trans (hF q hq)
  refine a_iconst 0 dX4_init_23 (by decide) ?_
  refine a_istore_n (lv' := [(1, .int 0), (0, .ref p)]) dX4_init_24 rfl (by decide) rfl ?_
  have L25 : ∀ (fu : Nat) (k : Nat) (Hk : Heap) (fR : Nat → Option Nat), k ≤ 20 → Ob G Hk p 4 [.ref (p + 1), .int 0, .int 0] → Aq G Hk (p + 1) 3 20 fR → (∀ i, i < k → fR i = some (p + 2 + 4 * i)) → (∀ i, i < k → ∃ (n' : Nat) (dd' : DD), Dd G Hk (p + 2 + 4 * i) n' dd') → Hk.size = p + 2 + 4 * k → (∀ q : Nat, q < p → Hk[q]? = H[q]?) → 20 - k < fu → AW G B l { frames := 2, cells := 81, slots := 640, locals := 27 * 2 } yX4_init.cls cX4_init 2 true (fun v H' ce' sl' => (v = none ∧ ((∀ (n' : Nat) (pu' : Nat → DD), Ps G H' p 0 0 n' pu') ∧ H'.size = p + 82 ∧ ∀ q : Nat, q < p → H'[q]? = H[q]?)) ∧ ce' = 81 ∧ sl' = 640) 25 [(0, .ref p), (1, .int (nI k))] [] Hk (1 + 4 * k) (20 + 31 * k) := by
    intro fu
    induction fu with
    | zero => intro k Hk fR hk hp hr hR hE hZ hF hm25; exact absurd hm25 (Nat.not_lt_zero _)
    | succ fu ih25 =>
      intro k Hk fR hk hp hr hR hE hZ hF hm25
      have hG : ∀ q : Nat, q < p + 2 + 4 * k ∧ q ≠ p + 1 → Hk[q]? = Hk[q]? := fun _ _ => rfl
      refine a_iload_n 1 dX4_init_25 rfl rfl ?_
      refine a_bipush 20 dX4_init_26 (by decide) ?_
      refine a_icmpgeN (a := k) (b := 20) 50 dX4_init_28 (by decide) (by omega) (by omega) (fun c28 => ?_) (fun c28 => ?_)
      · skip
        have hk20 : k = 20 := by omega
        subst hk20
        refine a_retv dX4_init_50 ⟨⟨rfl, ?_⟩, rfl, rfl⟩
        · refine ⟨fun n' pu' => ⟨hp, ⟨fR, hr, fun i hi => hR i (by omega)⟩, fun i hi => ?_, by decide, by decide⟩, by omega, hF⟩
          obtain ⟨n2, dd2, h⟩ := hE i (by omega)
          exact ⟨n2, dd2, h, fun h => absurd h (Nat.not_lt_zero _)⟩
      · skip
        refine a_aload_n 0 dX4_init_31 rfl rfl ?_
        refine a_get f_X4_11 dX4_init_32 hp rfl ?_
        refine a_iload_n 1 dX4_init_35 rfl rfl ?_
        refine a_new (ci := 0) (N := 7) (fs := [.int 0, .null, .null, .null, .int 0, .int 0, .int 0]) nw_X4_9 (fun q hq => by cases hq; rfl) dX4_init_36 (fun j hj => by rcases (show j = 0 ∨ j = 1 ∨ j = 2 ∨ j = 3 ∨ j = 4 ∨ j = 5 ∨ j = 6 by omega) with rfl | rfl | rfl | rfl | rfl | rfl | rfl <;> rfl) (by show 1 + 4 * k + 1 ≤ 81; omega) (by show 20 + 31 * k + 7 ≤ 640; omega) (fun H5 hd hz5 hq5 => ?_)
        have hA5 : Hk.size = p + 2 + 4 * k := by omega
        rw [hA5] at hd hz5 hq5
        rw [hA5]
        have hp := hp.kept (hq5 _ (by omega))
        have hr := hr.kept (hq5 _ (by omega))
        have hZ : H5.size = p + 2 + 4 * k + 1 := hz5
        have hF : ∀ q : Nat, q < p → H5[q]? = H[q]? := fun q hq => (hq5 q (by omega)).trans (hF q hq)
        have hG : ∀ q : Nat, q < p + 2 + 4 * k ∧ q ≠ p + 1 → H5[q]? = Hk[q]? := fun q hq => (hq5 q (by omega)).trans (hG q hq)
        refine a_dup dX4_init_39 rfl ?_
        refine a_callIv (As := []) (rest := [.ref (p + 2 + 4 * k), .int (nI k), .ref (p + 1)]) (d := 1) (mc := 3) (ms := 24) l_X4_24 im_X0_init rfl dX4_init_40 ⟨Nat.le_of_ble_eq_true rfl, Nat.le_of_ble_eq_true rfl⟩ rfl (Nat.le_of_ble_eq_true rfl) ⟨(by show 1 + 4 * k + 1 + 3 ≤ 81; omega), (by show 20 + 31 * k + 7 + 24 ≤ 640; omega)⟩ (c_X0_init hd (by omega) (by omega)) (fun H6 hp6 => ?_)
        obtain ⟨hDn, hZ, hfr⟩ := hp6
        have hDn0 := hDn
        have hd := hDn.choose_spec.choose_spec.choose_spec.1
        have hp := hp.kept (hfr _ (by omega))
        have hr := hr.kept (hfr _ (by omega))
        have hF : ∀ q : Nat, q < p → H6[q]? = H[q]? := fun q hq => (hfr q (by omega)).trans (hF q hq)
        have hG : ∀ q : Nat, q < p + 2 + 4 * k ∧ q ≠ p + 1 → H6[q]? = Hk[q]? := fun q hq => (hfr q (by omega)).trans (hG q hq)
        refine a_aast (j := k) (t := 3) (C0 := RX0) (fun _ => rfl) ⟨_, rfl, rfl⟩ (ci := 0) dX4_init_43 hr hd (by omega) (by decide) (by omega) (fun H7 hr hz7 hq7 => ?_)
        have hp := hp.kept (hq7 _ (by omega))
        have hd := hd.kept (hq7 _ (by omega))
        have hF : ∀ q : Nat, q < p → H7[q]? = H[q]? := fun q hq => (hq7 q (by omega)).trans (hF q hq)
        have hG : ∀ q : Nat, q < p + 2 + 4 * k ∧ q ≠ p + 1 → H7[q]? = Hk[q]? := fun q hq => (hq7 q (by omega)).trans (hG q hq)
        have hDn1 : Dd G H7 _ _ _ := hDn0.kept (fun q a b => by rw [hq7 q (by omega)])
        have hZ : (H7).size = _ := hz7.trans hZ
        refine a_iincN (q := 1) (lv' := [(1, .int (nI (k + 1))), (0, .ref p)]) dX4_init_44 rfl (by decide) rfl ?_
        refine a_goto 25 dX4_init_47 (by decide) ?_
        refine a_sub [1, 0] rfl ?_
        refine a_widen (ce2 := 1 + 4 * (k + 1)) (sl2 := 20 + 31 * (k + 1)) (by omega) (by omega) ?_
        exact ih25 _ _ _ (by omega) hp hr (fun i hi => by unfold va_up; split; { next e => rw [e] }; { next e => exact hR i (by omega) }) (fun i hi => by by_cases e : i = k; { subst e; exact ⟨_, _, hDn1⟩ }; { obtain ⟨n', dd', h⟩ := hE i (by omega); exact ⟨n', dd', h.kept (fun q a b => hG q (by omega))⟩ }) (by omega) hF (by omega)
  refine a_sub [1, 0] rfl ?_
  refine a_widen (ce2 := 1 + 4 * 0) (sl2 := 20 + 31 * 0) (by omega) (by omega) ?_
  exact L25 _ 0 _ _ (Nat.zero_le _) hp hr (fun i hi => absurd hi (Nat.not_lt_zero _)) (fun i hi => absurd hi (Nat.not_lt_zero _)) (by omega) hF (Nat.lt_succ_self _)
set_option maxHeartbeats 4000000 in
set_option maxRecDepth 100000 in
theorem c_X5_init {G : GT} {B : Nat} {l : Launch} {H : Heap} {r : Nat} (hr : Ob G H r 5 [.null, .int 0, .int 0, .int 0]) (hsz : H.size = r + 1) (hB : B ≤ r) : AM G B l yX5_init cX5_init 1 none 1 1 240 [.ref r] H (fun v H' => v = none ∧ ((∀ tx : Nat → Nat, Rd G H' r tx 0 0 0) ∧ H'.size = r + 2 ∧ ∀ q : Nat, q < r → H'[q]? = H[q]?)) := by
  have hZ : H.size = r + 1 := hsz
  have hF : ∀ q : Nat, q < r → H[q]? = H[q]? := fun _ _ => rfl
  refine AM.ofV (lv := [(0, .ref r)]) (by decide +kernel) (ini := true) (fun _ => rfl) (Nat.le_of_ble_eq_true rfl) rfl ?_ (fun _ _ h => h.1)
  refine a_aload_n 0 dX5_init_0 rfl rfl ?_
  refine a_objI oi_X5_3 dX5_init_1 (Nat.le_of_ble_eq_true rfl) (Nat.le_of_ble_eq_true rfl) ?_
  refine a_aload_n 0 dX5_init_4 rfl rfl ?_
  refine a_sipush 240 dX5_init_5 (by decide) ?_
  refine a_newI (n := 240) ac_I dX5_init_8 (by decide) (Nat.le_of_ble_eq_true rfl) (Nat.le_of_ble_eq_true rfl) (fun H1 ht hz1 hq1 => ?_)
  have hA1 : H.size = r + 1 := by omega
  rw [hA1] at ht hz1 hq1
  rw [hA1]
  have hr := hr.kept (hq1 _ (by omega))
  have hZ : H1.size = r + 1 + 1 := hz1
  have hF : ∀ q : Nat, q < r → H1[q]? = H[q]? := fun q hq => (hq1 q (by omega)).trans (hF q hq)
  refine a_put f_X5_9 p_X5_9 dX5_init_10 hr (Nat.le_of_ble_eq_true rfl) rfl rfl (by omega) (fun H2 hr hz2 hq2 => ?_)
  have hr : Ob G H2 r 5 [.ref (r + 1), .int 0, .int 0, .int 0] := hr
  have ht := ht.kept (hq2 _ (by omega))
  have hF : ∀ q : Nat, q < r → H2[q]? = H[q]? := fun q hq => (hq2 q (by omega)).trans (hF q hq)
  refine a_aload_n 0 dX5_init_13 rfl rfl ?_
  refine a_iconst 0 dX5_init_14 (by decide) ?_
  refine a_put f_X5_15 p_X5_15 dX5_init_15 hr (Nat.le_of_ble_eq_true rfl) rfl rfl (by omega) (fun H3 hr hz3 hq3 => ?_)
  have hr : Ob G H3 r 5 [.ref (r + 1), .int 0, .int 0, .int 0] := hr
  have ht := ht.kept (hq3 _ (by omega))
  have hF : ∀ q : Nat, q < r → H3[q]? = H[q]? := fun q hq => (hq3 q (by omega)).trans (hF q hq)
  refine a_aload_n 0 dX5_init_18 rfl rfl ?_
  refine a_iconst 0 dX5_init_19 (by decide) ?_
  refine a_put f_X5_19 p_X5_19 dX5_init_20 hr (Nat.le_of_ble_eq_true rfl) rfl rfl (by omega) (fun H4 hr hz4 hq4 => ?_)
  have hr : Ob G H4 r 5 [.ref (r + 1), .int 0, .int 0, .int 0] := hr
  have ht := ht.kept (hq4 _ (by omega))
  have hF : ∀ q : Nat, q < r → H4[q]? = H[q]? := fun q hq => (hq4 q (by omega)).trans (hF q hq)
  refine a_aload_n 0 dX5_init_23 rfl rfl ?_
  refine a_iconst 0 dX5_init_24 (by decide) ?_
  refine a_put f_X5_22 p_X5_22 dX5_init_25 hr (Nat.le_of_ble_eq_true rfl) rfl rfl (by omega) (fun H5 hr hz5 hq5 => ?_)
  have hr : Ob G H5 r 5 [.ref (r + 1), .int 0, .int 0, .int 0] := hr
  have ht := ht.kept (hq5 _ (by omega))
  have hF : ∀ q : Nat, q < r → H5[q]? = H[q]? := fun q hq => (hq5 q (by omega)).trans (hF q hq)
  refine a_retv dX5_init_28 ⟨⟨rfl, ?_⟩, rfl, rfl⟩
  · exact ⟨fun tx => ⟨_, hr, ht, fun i hi => absurd hi (Nat.not_lt_zero _), fun i hi => absurd hi (Nat.not_lt_zero _), by decide, by decide, by decide⟩, by omega, hF⟩
set_option maxHeartbeats 4000000 in
set_option maxRecDepth 100000 in
theorem c_X5_append {G : GT} {B : Nat} {l : Launch} {H : Heap} {r : Nat} {tx : Nat → Nat} {L pl kd : Nat} {c : Nat} (hR : Rd G H r tx L pl kd) (hc : c < 256) (hB : B ≤ r) : AM G B l yX5_append cX5_append 2 (some .boolean) 0 0 0 [.ref r, .int (nI c)] H (fun v H' => v = some (.int (bI (decide (L < 240)))) ∧ (Rd G H' r (if L < 240 then (fun i => if i = L then c else tx i) else tx) (if L < 240 then L + 1 else L) pl kd ∧ ∀ q : Nat, ¬ (r ≤ q ∧ q < r + 2) → H'[q]? = H[q]?)) := by
  have hR0 := hR
  obtain ⟨ft, hr, ht, et, e8, hL, hpl, hkd⟩ := hR
  have hF : ∀ q : Nat, ¬ (r ≤ q ∧ q < r + 2) → H[q]? = H[q]? := fun _ _ => rfl
  refine AM.ofZ (lv := [(0, .ref r), (1, .int (nI c))]) (by decide +kernel) (Nat.le_of_ble_eq_true rfl) rfl ?_ (fun _ _ h => ⟨_, h.1⟩)
  refine a_aload_n 0 dX5_append_0 rfl rfl ?_
  refine a_get f_X5_15 dX5_append_1 hr rfl ?_
  refine a_sipush 240 dX5_append_4 (by decide) ?_
  refine a_icmpltN (a := L) (b := 240) 12 dX5_append_7 (by decide) (by omega) (by omega) (fun c7 => ?_) (fun c7 => ?_)
  · skip
    refine a_aload_n 0 dX5_append_12 rfl rfl ?_
    refine a_get f_X5_9 dX5_append_13 hr rfl ?_
    refine a_aload_n 0 dX5_append_16 rfl rfl ?_
    refine a_get f_X5_15 dX5_append_17 hr rfl ?_
    refine a_iload_n 1 dX5_append_20 rfl rfl ?_
    refine a_iastN (j := L) dX5_append_21 ht (by omega) (by decide) (by omega) (fun H1 ht hz1 hq1 => ?_)
    have ht : Ai G H1 (r + 1) 240 (upd ft L (nI c)) := ht
    have hr := hr.kept (hq1 _ (by omega))
    have hF : ∀ q : Nat, ¬ (r ≤ q ∧ q < r + 2) → H1[q]? = H[q]? := fun q hq => (hq1 q (by omega)).trans (hF q hq)
    refine a_aload_n 0 dX5_append_22 rfl rfl ?_
    refine a_dup dX5_append_23 rfl ?_
    refine a_get f_X5_15 dX5_append_24 hr rfl ?_
    refine a_iconst 1 dX5_append_27 (by decide) ?_
    refine a_iaddN (a := L) (b := 1) dX5_append_28 ?_
    refine a_put f_X5_15 p_X5_15 dX5_append_29 hr (Nat.le_of_ble_eq_true rfl) rfl rfl (by omega) (fun H2 hr hz2 hq2 => ?_)
    have hr : Ob G H2 r 5 [.ref (r + 1), .int (nI (L + 1)), .int (nI pl), .int (nI kd)] := hr
    have ht := ht.kept (hq2 _ (by omega))
    have hF : ∀ q : Nat, ¬ (r ≤ q ∧ q < r + 2) → H2[q]? = H[q]? := fun q hq => (hq2 q (by omega)).trans (hF q hq)
    refine a_iconst 1 dX5_append_32 (by decide) ?_
    refine a_ret dX5_append_33 ⟨⟨ri ?_, ?_⟩, rfl, rfl⟩
    · rw [decide_eq_true c7]; rfl
    · refine ⟨?_, hF⟩
      rw [if_pos c7, if_pos c7]
      refine ⟨_, hr, ht, upd_to (e := fun i => nI (if i = L then c else tx i)) (fun i hi => ?_) (by rw [if_pos rfl]), fun i hi => ?_, by omega, hpl, hkd⟩
      · rw [if_neg (by omega)]; exact et i hi
      · show (if i = L then c else tx i) < 256
        split
        · exact hc
        · exact e8 i (by omega)
  · skip
    refine a_iconst 0 dX5_append_10 (by decide) ?_
    refine a_ret dX5_append_11 ⟨⟨ri ?_, ?_⟩, rfl, rfl⟩
    · rw [decide_eq_false (by omega)]; rfl
    · refine ⟨?_, hF⟩
      rw [if_neg (by omega), if_neg (by omega)]
      exact hR0
set_option maxHeartbeats 4000000 in
set_option maxRecDepth 100000 in
theorem c_X5_forget {G : GT} {B : Nat} {l : Launch} {H : Heap} {r : Nat} {tx : Nat → Nat} {L pl kd : Nat} (hR : Rd G H r tx L pl kd) (hB : B ≤ r) : AM G B l yX5_forget cX5_forget 1 none 0 0 0 [.ref r] H (fun v H' => v = none ∧ (Rd G H' r tx 0 pl kd ∧ ∀ q : Nat, ¬ (r ≤ q ∧ q < r + 2) → H'[q]? = H[q]?)) := by
  obtain ⟨ft, hr, ht, et, e8, hL, hpl, hkd⟩ := hR
  have hF : ∀ q : Nat, ¬ (r ≤ q ∧ q < r + 2) → H[q]? = H[q]? := fun _ _ => rfl
  refine AM.ofV (lv := [(0, .ref r)]) (by decide +kernel) (ini := false) (fun h => by cases h) (Nat.le_of_ble_eq_true rfl) rfl ?_ (fun _ _ h => h.1)
  refine a_aload_n 0 dX5_forget_0 rfl rfl ?_
  refine a_iconst 0 dX5_forget_1 (by decide) ?_
  refine a_put f_X5_15 p_X5_15 dX5_forget_2 hr (Nat.le_of_ble_eq_true rfl) rfl rfl (by omega) (fun H1 hr hz1 hq1 => ?_)
  have hr : Ob G H1 r 5 [.ref (r + 1), .int 0, .int (nI pl), .int (nI kd)] := hr
  have ht := ht.kept (hq1 _ (by omega))
  have hF : ∀ q : Nat, ¬ (r ≤ q ∧ q < r + 2) → H1[q]? = H[q]? := fun q hq => (hq1 q (by omega)).trans (hF q hq)
  refine a_retv dX5_forget_5 ⟨⟨rfl, ?_⟩, rfl, rfl⟩
  · exact ⟨⟨_, hr, ht, fun i hi => absurd hi (Nat.not_lt_zero _), fun i hi => absurd hi (Nat.not_lt_zero _), by omega, hpl, hkd⟩, hF⟩
set_option maxHeartbeats 4000000 in
set_option maxRecDepth 100000 in
theorem c_X5_letterHere {G : GT} {B : Nat} {l : Launch} {H : Heap} {r : Nat} {tx : Nat → Nat} {L pl kd : Nat} (hR : Rd G H r tx L pl kd) : AM G B l yX5_letterHere cX5_letterHere 1 (some .int) 0 0 0 [.ref r] H (fun v H' => v = some (.int (if pl < L then nI (tx pl) else -1)) ∧ (H' = H)) := by
  obtain ⟨ft, hr, ht, et, e8, hL, hpl, hkd⟩ := hR
  refine AM.ofI (lv := [(0, .ref r)]) (by decide +kernel) (Nat.le_of_ble_eq_true rfl) rfl ?_ (fun _ h => by cases h.1)
  refine a_aload_n 0 dX5_letterHere_0 rfl rfl ?_
  refine a_get f_X5_19 dX5_letterHere_1 hr rfl ?_
  refine a_aload_n 0 dX5_letterHere_4 rfl rfl ?_
  refine a_get f_X5_15 dX5_letterHere_5 hr rfl ?_
  refine a_icmpgeN (a := pl) (b := L) 23 dX5_letterHere_8 (by decide) (by omega) (by omega) (fun c8 => ?_) (fun c8 => ?_)
  · skip
    refine a_iconst (-1) dX5_letterHere_23 (by decide) ?_
    refine a_ret dX5_letterHere_24 ⟨⟨ri ?_, ?_⟩, rfl, rfl⟩
    · rw [if_neg (by omega)]
    · rfl
  · skip
    refine a_aload_n 0 dX5_letterHere_11 rfl rfl ?_
    refine a_get f_X5_9 dX5_letterHere_12 hr rfl ?_
    refine a_aload_n 0 dX5_letterHere_15 rfl rfl ?_
    refine a_get f_X5_19 dX5_letterHere_16 hr rfl ?_
    refine a_ialdN (j := pl) dX5_letterHere_19 ht (by omega) (by decide) ?_
    refine a_toeq (nI (tx pl)) (et _ (by omega)) ?_
    refine a_goto 24 dX5_letterHere_20 (by decide) ?_
    refine a_ret dX5_letterHere_24 ⟨⟨ri ?_, ?_⟩, rfl, rfl⟩
    · rw [if_pos c8]
    · rfl
set_option maxHeartbeats 4000000 in
set_option maxRecDepth 100000 in
theorem c_X5_isFigure {G : GT} {B : Nat} {l : Launch} {H : Heap} {c : Nat} (hc : c < 256) : AM G B l yX5_isFigure cX5_isFigure 1 (some .boolean) 0 0 0 [.int (nI c)] H (fun v H' => v = some (.int (bI (decide (48 ≤ c ∧ c ≤ 57)))) ∧ (H' = H)) := by
  refine AM.ofZ (lv := [(0, .int (nI c))]) (by decide +kernel) (Nat.le_of_ble_eq_true rfl) rfl ?_ (fun _ _ h => ⟨_, h.1⟩)
  refine a_iload_n 0 dX5_isFigure_0 rfl rfl ?_
  refine a_bipush 48 dX5_isFigure_1 (by decide) ?_
  refine a_icmpltN (a := c) (b := 48) 16 dX5_isFigure_3 (by decide) (by omega) (by omega) (fun c3 => ?_) (fun c3 => ?_)
  · skip
    refine a_iconst 0 dX5_isFigure_16 (by decide) ?_
    refine a_ret dX5_isFigure_17 ⟨⟨ri ?_, ?_⟩, rfl, rfl⟩
    · rw [decide_eq_false (by omega)]; rfl
    · rfl
  · skip
    refine a_iload_n 0 dX5_isFigure_6 rfl rfl ?_
    refine a_bipush 57 dX5_isFigure_7 (by decide) ?_
    refine a_icmpgtN (a := c) (b := 57) 16 dX5_isFigure_9 (by decide) (by omega) (by omega) (fun c9 => ?_) (fun c9 => ?_)
    · skip
      refine a_iconst 0 dX5_isFigure_16 (by decide) ?_
      refine a_ret dX5_isFigure_17 ⟨⟨ri ?_, ?_⟩, rfl, rfl⟩
      · rw [decide_eq_false (by omega)]; rfl
      · rfl
    · skip
      refine a_iconst 1 dX5_isFigure_12 (by decide) ?_
      refine a_goto 17 dX5_isFigure_13 (by decide) ?_
      refine a_ret dX5_isFigure_17 ⟨⟨ri ?_, ?_⟩, rfl, rfl⟩
      · rw [decide_eq_true (by omega)]; rfl
      · rfl
set_option maxHeartbeats 4000000 in
set_option maxRecDepth 100000 in
theorem c_X5_stop {G : GT} {B : Nat} {l : Launch} {H : Heap} {r : Nat} {tx : Nat → Nat} {L pl kd : Nat} {a b : Nat} (hR : Rd G H r tx L pl kd) (ha : a ≤ 3) (hb : b ≤ 240) (hB : B ≤ r) : AM G B l yX5_stop cX5_stop 3 none 0 0 0 [.ref r, .int (nI a), .int (nI b)] H (fun v H' => v = none ∧ (Rd G H' r tx L b a ∧ ∀ q : Nat, ¬ (r ≤ q ∧ q < r + 2) → H'[q]? = H[q]?)) := by
  obtain ⟨ft, hr, ht, et, e8, hL, hpl, hkd⟩ := hR
  have hF : ∀ q : Nat, ¬ (r ≤ q ∧ q < r + 2) → H[q]? = H[q]? := fun _ _ => rfl
  refine AM.ofV (lv := [(0, .ref r), (1, .int (nI a)), (2, .int (nI b))]) (by decide +kernel) (ini := false) (fun h => by cases h) (Nat.le_of_ble_eq_true rfl) rfl ?_ (fun _ _ h => h.1)
  refine a_aload_n 0 dX5_stop_0 rfl rfl ?_
  refine a_iload_n 1 dX5_stop_1 rfl rfl ?_
  refine a_put f_X5_22 p_X5_22 dX5_stop_2 hr (Nat.le_of_ble_eq_true rfl) rfl rfl (by omega) (fun H1 hr hz1 hq1 => ?_)
  have hr : Ob G H1 r 5 [.ref (r + 1), .int (nI L), .int (nI pl), .int (nI a)] := hr
  have ht := ht.kept (hq1 _ (by omega))
  have hF : ∀ q : Nat, ¬ (r ≤ q ∧ q < r + 2) → H1[q]? = H[q]? := fun q hq => (hq1 q (by omega)).trans (hF q hq)
  refine a_aload_n 0 dX5_stop_5 rfl rfl ?_
  refine a_iload_n 2 dX5_stop_6 rfl rfl ?_
  refine a_put f_X5_19 p_X5_19 dX5_stop_7 hr (Nat.le_of_ble_eq_true rfl) rfl rfl (by omega) (fun H2 hr hz2 hq2 => ?_)
  have hr : Ob G H2 r 5 [.ref (r + 1), .int (nI L), .int (nI b), .int (nI a)] := hr
  have ht := ht.kept (hq2 _ (by omega))
  have hF : ∀ q : Nat, ¬ (r ≤ q ∧ q < r + 2) → H2[q]? = H[q]? := fun q hq => (hq2 q (by omega)).trans (hF q hq)
  refine a_retv dX5_stop_10 ⟨⟨rfl, ?_⟩, rfl, rfl⟩
  · exact ⟨⟨_, hr, ht, et, e8, hL, hb, ha⟩, hF⟩
end
section
/-! ===== BEGIN what is tried ===== -/
/-- SAID, and the GUESS of it -/
def spF (dd kV : DD) (w v : Nat) : Int32 := shF (dd w) (kV v)
def unF (n : Nat) (dd kV : DD) (w v : Nat) : Int32 := guF n dd (spF dd kV w v)
def biF (k : Nat) : Int32 := (1 : Int32) <<< (nI k &&& 31)
/-- WORDS whose SAID by v is that SOUND, of the first k -/
def wsF (dd kV : DD) (v : Nat) (s : Int32) : Nat → Int32
  | 0 => 0
  | k + 1 => if spF dd kV k v = s then wsF dd kV v s k ||| biF k else wsF dd kV v s k
/-- what doing, asking, silence costs, as BeansBox has it -/
def coF (n : Nat) (dd kK : DD) (ka ks s what : Int32) : Int32 := if what = 1 then ka else if what = 2 then ks else if wIx n (guF n dd s) = true then (1000000 - ceF n dd (guF n dd s).toNatClampNeg s) * kK (guF n dd s).toNatClampNeg / 1000000 else 0
def chF (n : Nat) (dd kK : DD) (ka ks s : Int32) : Nat → Int32 × Int32
  | 0 => (0, coF n dd kK ka ks s 0)
  | j + 1 => if coF n dd kK ka ks s (nI (j + 1)) < (chF n dd kK ka ks s j).2 then (nI (j + 1), coF n dd kK ka ks s (nI (j + 1))) else chF n dd kK ka ks s j
def ruF (n : Nat) (dd kK : DD) (ka ks s : Int32) : Int32 := (chF n dd kK ka ks s 2).1
def sdF (sd : Nat) : Nat := (sd * 1103515245 + 12345) % 2147483648
def drF (sd k : Nat) : Nat := sdF sd / 65536 % k
/-- whether a VOICE is one by which all that is SEEN is so, of the first k -/
def csF (n : Nat) (dd kV : DD) (sw sg : Nat → Nat) (v : Nat) : Nat → Bool
  | 0 => true
  | k + 1 => csF n dd kV sw sg v k && decide (unF n dd kV (sw k) v = nI (sg k))
theorem csF_false {n : Nat} {dd kV : DD} {sw sg : Nat → Nat} {v k m : Nat} (hkm : k ≤ m) (h : csF n dd kV sw sg v k = false) : csF n dd kV sw sg v m = false := by
  induction m with
  | zero => rw [show k = 0 by omega] at h; exact h
  | succ m ih =>
    by_cases e : k = m + 1
    · rw [← e]; exact h
    · unfold csF; rw [ih (by omega)]; rfl
def spkF (n : Nat) (dd kV : DD) (sw sg : Nat → Nat) (sn : Nat) : Nat → Int32
  | 0 => 0
  | v + 1 => if csF n dd kV sw sg v sn = true then spkF n dd kV sw sg sn v ||| biF v else spkF n dd kV sw sg sn v
def gpI (n : Nat) (dd kV : DD) (w : Nat) (set : Int32) (g : Nat) : Nat → Nat
  | 0 => 0
  | v + 1 => if (set >>> (nI v &&& 31)) &&& 1 = 1 ∧ unF n dd kV w v = nI g then gpI n dd kV w set g v + 1 else gpI n dd kV w set g v
theorem gpI_le {n : Nat} {dd kV : DD} {w : Nat} {set : Int32} {g v : Nat} : gpI n dd kV w set g v ≤ v := by
  induction v with
  | zero => exact Nat.le_refl 0
  | succ v ih => unfold gpI; split <;> omega
def gpO (n nv : Nat) (dd kV : DD) (w : Nat) (set : Int32) : Nat → Nat
  | 0 => 0
  | g + 1 => max (gpO n nv dd kV w set g) (gpI n dd kV w set g nv)
theorem gpO_le {n nv : Nat} {dd kV : DD} {w : Nat} {set : Int32} {g : Nat} : gpO n nv dd kV w set g ≤ nv := by
  induction g with
  | zero => exact Nat.zero_le _
  | succ g ih => unfold gpO; have := gpI_le (n := n) (dd := dd) (kV := kV) (w := w) (set := set) (g := g) (v := nv); omega
/-- as BeansBox counts VOICES that hear a WORD right, with its end before time -/
def vhF (n nv : Nat) (td kV : DD) (w : Nat) (s : Int32) (nd : Nat) : Nat → Nat → Nat → Nat
  | 0, _, c => c
  | f + 1, v, c => if v < nv then (if c + nv - v < nd then c else vhF n nv td kV w s nd f (v + 1) (if guF n td (shF s (kV v)) = nI w then c + 1 else c)) else c
/-- the core of a BeansBox at b: its fields, the kitchen that stands, what is so -/
def bxL (b kr sp : Nat) (fp dr : Int32) : List Value := [.ref (b + 1), .int fp, .ref kr, .ref sp, .ref (b + 13), .ref (b + 17), .ref (b + 21), .ref (b + 103), .int dr, .ref (b + 104), .ref (b + 107)]
def Bc (G : GT) (H : Heap) (b kr sp : Nat) (fp dr : Int32) (kb : Bool) (ka ks kw : Int32) (n nv : Nat) (kS kU kK kV dd : DD) : Prop := Ob G H b 6 (bxL b kr sp fp dr) ∧ Kt G H kr kb ka ks kw n nv kS kU kK kV ∧ Dd G H (b + 13) n dd ∧ (kr = b + 3 ∧ sp = b + 8 ∨ kr = b + 8 ∧ sp = b + 3)
theorem shF_comm (s b : Int32) : 100 * ((s / 100 + b / 100) % 10) + 10 * ((s / 10 + b / 10) % 10) + (s + b) % 10 = shF s b := by
  unfold shF
  rw [Int32.mul_comm 100, Int32.mul_comm 10]
theorem sd_eq {sd : Nat} (h : sd < 2 ^ 31) : (lN sd * 1103515245 + 12345 - (lN sd * 1103515245 + 12345) / 2147483648 * 2147483648).toInt32 = nI (sdF sd) := by
  have e1 : (1103515245 : Int64) = lN 1103515245 := rfl
  have e2 : (12345 : Int64) = lN 12345 := rfl
  have e3 : (2147483648 : Int64) = lN 2147483648 := rfl
  rw [e1, e2, e3, lN_mul, lN_add, pk_lRem (by omega) (by decide) (by decide), lN_i]
  rfl
/-! ===== END ===== -/
theorem le28 {i : Int32} (h : 27 < i) : nI 28 ≤ i := by
  have h1 := Int32.lt_iff_toInt_lt.mp h
  have e1 : (27 : Int32).toInt = 27 := rfl
  have e2 : (nI 28).toInt = 28 := rfl
  rw [Int32.le_iff_toInt_le, e2]
  omega

set_option maxHeartbeats 4000000 in
set_option maxRecDepth 100000 in
theorem c_X6_isWord {G : GT} {B : Nat} {l : Launch} {H : Heap} {b kr sp : Nat} {fp dr : Int32} {kb : Bool} {ka ks kw : Int32} {n nv : Nat} {kS kU kK kV dd : DD} {w : Int32} (hC : Bc G H b kr sp fp dr kb ka ks kw n nv kS kU kK kV dd) : AM G B l yX6_isWord cX6_isWord 2 (some .boolean) 0 0 0 [.ref b, .int w] H (fun rv H' => rv = some (.int (bI (wIx n w))) ∧ (H' = H)) := by
  have hC0 := hC
  obtain ⟨hb, hK, hD, hkr⟩ := hC
  have hK0 := hK
  have hN := hD
  unfold bxL at hb
  obtain ⟨fS3, fU3, fK3, fV3, hk3, ha3, hb3, hc3, he3, eS3, eU3, eK3, eV3, hn3, hnv3⟩ := hK
  obtain ⟨fS, fU, fO, hd, hs, hu, ho, eS, eU, eO, hn⟩ := hD
  refine AM.ofZ (lv := [(0, .ref b), (1, .int w)]) (by decide +kernel) (Nat.le_of_ble_eq_true rfl) rfl ?_ (fun _ _ h => ⟨_, h.1⟩)
  refine a_iload_n 1 dX6_isWord_0 rfl rfl ?_
  refine a_iflt 19 dX6_isWord_1 (by decide) (fun c1 => ?_) (fun c1 => ?_)
  · skip
    refine a_iconst 0 dX6_isWord_19 (by decide) ?_
    refine a_ret dX6_isWord_20 ⟨⟨ri ?_, ?_⟩, rfl, rfl⟩
    · first | (rw [wIx_f1 c1]; rfl) | (rw [wIx_f2 c12]; rfl)
    · rfl
  · skip
    refine a_iload_n 1 dX6_isWord_4 rfl rfl ?_
    refine a_aload_n 0 dX6_isWord_5 rfl rfl ?_
    refine a_get f_X6_23 dX6_isWord_6 hb rfl ?_
    refine a_get f_X6_100 dX6_isWord_9 hk3 rfl ?_
    refine a_icmpge 19 dX6_isWord_12 (by decide) (fun c12 => ?_) (fun c12 => ?_)
    · skip
      refine a_iconst 0 dX6_isWord_19 (by decide) ?_
      refine a_ret dX6_isWord_20 ⟨⟨ri ?_, ?_⟩, rfl, rfl⟩
      · first | (rw [wIx_f1 c1]; rfl) | (rw [wIx_f2 c12]; rfl)
      · rfl
    · skip
      refine a_iconst 1 dX6_isWord_15 (by decide) ?_
      refine a_goto 20 dX6_isWord_16 (by decide) ?_
      refine a_ret dX6_isWord_20 ⟨⟨ri ?_, ?_⟩, rfl, rfl⟩
      · rw [wIx_t c1 c12]; rfl
      · rfl
set_option maxHeartbeats 4000000 in
set_option maxRecDepth 100000 in
theorem c_X6_isVoice {G : GT} {B : Nat} {l : Launch} {H : Heap} {b kr sp : Nat} {fp dr : Int32} {kb : Bool} {ka ks kw : Int32} {n nv : Nat} {kS kU kK kV dd : DD} {v : Int32} (hC : Bc G H b kr sp fp dr kb ka ks kw n nv kS kU kK kV dd) : AM G B l yX6_isVoice cX6_isVoice 2 (some .boolean) 0 0 0 [.ref b, .int v] H (fun rv H' => rv = some (.int (bI (wIx nv v))) ∧ (H' = H)) := by
  have hC0 := hC
  obtain ⟨hb, hK, hD, hkr⟩ := hC
  have hK0 := hK
  have hN := hD
  unfold bxL at hb
  obtain ⟨fS3, fU3, fK3, fV3, hk3, ha3, hb3, hc3, he3, eS3, eU3, eK3, eV3, hn3, hnv3⟩ := hK
  obtain ⟨fS, fU, fO, hd, hs, hu, ho, eS, eU, eO, hn⟩ := hD
  refine AM.ofZ (lv := [(0, .ref b), (1, .int v)]) (by decide +kernel) (Nat.le_of_ble_eq_true rfl) rfl ?_ (fun _ _ h => ⟨_, h.1⟩)
  refine a_iload_n 1 dX6_isVoice_0 rfl rfl ?_
  refine a_iflt 19 dX6_isVoice_1 (by decide) (fun c1 => ?_) (fun c1 => ?_)
  · skip
    refine a_iconst 0 dX6_isVoice_19 (by decide) ?_
    refine a_ret dX6_isVoice_20 ⟨⟨ri ?_, ?_⟩, rfl, rfl⟩
    · first | (rw [wIx_f1 c1]; rfl) | (rw [wIx_f2 c12]; rfl)
    · rfl
  · skip
    refine a_iload_n 1 dX6_isVoice_4 rfl rfl ?_
    refine a_aload_n 0 dX6_isVoice_5 rfl rfl ?_
    refine a_get f_X6_23 dX6_isVoice_6 hb rfl ?_
    refine a_get f_X6_112 dX6_isVoice_9 hk3 rfl ?_
    refine a_icmpge 19 dX6_isVoice_12 (by decide) (fun c12 => ?_) (fun c12 => ?_)
    · skip
      refine a_iconst 0 dX6_isVoice_19 (by decide) ?_
      refine a_ret dX6_isVoice_20 ⟨⟨ri ?_, ?_⟩, rfl, rfl⟩
      · first | (rw [wIx_f1 c1]; rfl) | (rw [wIx_f2 c12]; rfl)
      · rfl
    · skip
      refine a_iconst 1 dX6_isVoice_15 (by decide) ?_
      refine a_goto 20 dX6_isVoice_16 (by decide) ?_
      refine a_ret dX6_isVoice_20 ⟨⟨ri ?_, ?_⟩, rfl, rfl⟩
      · rw [wIx_t c1 c12]; rfl
      · rfl
set_option maxHeartbeats 4000000 in
set_option maxRecDepth 100000 in
theorem c_X6_isImage {G : GT} {B : Nat} {l : Launch} {H : Heap} {i : Int32} : AM G B l yX6_isImage cX6_isImage 1 (some .boolean) 0 0 0 [.int i] H (fun rv H' => rv = some (.int (bI (wIx 2 i))) ∧ (H' = H)) := by
  refine AM.ofZ (lv := [(0, .int i)]) (by decide +kernel) (Nat.le_of_ble_eq_true rfl) rfl ?_ (fun _ _ h => ⟨_, h.1⟩)
  refine a_iload_n 0 dX6_isImage_0 rfl rfl ?_
  refine a_iflt 13 dX6_isImage_1 (by decide) (fun c1 => ?_) (fun c1 => ?_)
  · skip
    refine a_iconst 0 dX6_isImage_13 (by decide) ?_
    refine a_ret dX6_isImage_14 ⟨⟨ri ?_, ?_⟩, rfl, rfl⟩
    · first | (rw [wIx_f1 c1]; rfl) | (rw [wIx_f2 c6]; rfl)
    · rfl
  · skip
    refine a_iload_n 0 dX6_isImage_4 rfl rfl ?_
    refine a_iconst 2 dX6_isImage_5 (by decide) ?_
    refine a_icmpge 13 dX6_isImage_6 (by decide) (fun c6 => ?_) (fun c6 => ?_)
    · skip
      refine a_iconst 0 dX6_isImage_13 (by decide) ?_
      refine a_ret dX6_isImage_14 ⟨⟨ri ?_, ?_⟩, rfl, rfl⟩
      · first | (rw [wIx_f1 c1]; rfl) | (rw [wIx_f2 c6]; rfl)
      · rfl
    · skip
      refine a_iconst 1 dX6_isImage_9 (by decide) ?_
      refine a_goto 14 dX6_isImage_10 (by decide) ?_
      refine a_ret dX6_isImage_14 ⟨⟨ri ?_, ?_⟩, rfl, rfl⟩
      · rw [wIx_t c1 c6]; rfl
      · rfl
set_option maxHeartbeats 4000000 in
set_option maxRecDepth 100000 in
theorem c_X6_isSound {G : GT} {B : Nat} {l : Launch} {H : Heap} {s : Int32} : AM G B l yX6_isSound cX6_isSound 1 (some .boolean) 0 0 0 [.int s] H (fun rv H' => rv = some (.int (bI (wIx 1000 s))) ∧ (H' = H)) := by
  refine AM.ofZ (lv := [(0, .int s)]) (by decide +kernel) (Nat.le_of_ble_eq_true rfl) rfl ?_ (fun _ _ h => ⟨_, h.1⟩)
  refine a_iload_n 0 dX6_isSound_0 rfl rfl ?_
  refine a_iflt 15 dX6_isSound_1 (by decide) (fun c1 => ?_) (fun c1 => ?_)
  · skip
    refine a_iconst 0 dX6_isSound_15 (by decide) ?_
    refine a_ret dX6_isSound_16 ⟨⟨ri ?_, ?_⟩, rfl, rfl⟩
    · first | (rw [wIx_f1 c1]; rfl) | (rw [wIx_f2 c8]; rfl)
    · rfl
  · skip
    refine a_iload_n 0 dX6_isSound_4 rfl rfl ?_
    refine a_sipush 1000 dX6_isSound_5 (by decide) ?_
    refine a_icmpge 15 dX6_isSound_8 (by decide) (fun c8 => ?_) (fun c8 => ?_)
    · skip
      refine a_iconst 0 dX6_isSound_15 (by decide) ?_
      refine a_ret dX6_isSound_16 ⟨⟨ri ?_, ?_⟩, rfl, rfl⟩
      · first | (rw [wIx_f1 c1]; rfl) | (rw [wIx_f2 c8]; rfl)
      · rfl
    · skip
      refine a_iconst 1 dX6_isSound_11 (by decide) ?_
      refine a_goto 16 dX6_isSound_12 (by decide) ?_
      refine a_ret dX6_isSound_16 ⟨⟨ri ?_, ?_⟩, rfl, rfl⟩
      · rw [wIx_t c1 c8]; rfl
      · rfl
set_option maxHeartbeats 4000000 in
set_option maxRecDepth 100000 in
theorem c_X6_isDistance {G : GT} {B : Nat} {l : Launch} {H : Heap} {i : Int32} : AM G B l yX6_isDistance cX6_isDistance 1 (some .boolean) 0 0 0 [.int i] H (fun rv H' => rv = some (.int (bI (wIx 28 i))) ∧ (H' = H)) := by
  refine AM.ofZ (lv := [(0, .int i)]) (by decide +kernel) (Nat.le_of_ble_eq_true rfl) rfl ?_ (fun _ _ h => ⟨_, h.1⟩)
  refine a_iload_n 0 dX6_isDistance_0 rfl rfl ?_
  refine a_iflt 14 dX6_isDistance_1 (by decide) (fun c1 => ?_) (fun c1 => ?_)
  · skip
    refine a_iconst 0 dX6_isDistance_14 (by decide) ?_
    refine a_ret dX6_isDistance_15 ⟨⟨ri ?_, ?_⟩, rfl, rfl⟩
    · first | (rw [wIx_f1 c1]; rfl) | (rw [wIx_f2 (le28 c7)]; rfl)
    · rfl
  · skip
    refine a_iload_n 0 dX6_isDistance_4 rfl rfl ?_
    refine a_bipush 27 dX6_isDistance_5 (by decide) ?_
    refine a_icmpgt 14 dX6_isDistance_7 (by decide) (fun c7 => ?_) (fun c7 => ?_)
    · skip
      refine a_iconst 0 dX6_isDistance_14 (by decide) ?_
      refine a_ret dX6_isDistance_15 ⟨⟨ri ?_, ?_⟩, rfl, rfl⟩
      · first | (rw [wIx_f1 c1]; rfl) | (rw [wIx_f2 (le28 c7)]; rfl)
      · rfl
    · skip
      refine a_iconst 1 dX6_isDistance_10 (by decide) ?_
      refine a_goto 15 dX6_isDistance_11 (by decide) ?_
      refine a_ret dX6_isDistance_15 ⟨⟨ri ?_, ?_⟩, rfl, rfl⟩
      · rw [wIx_t c1 (fun h => c7 (Int32.lt_of_lt_of_le (by decide) h))]; rfl
      · rfl
set_option maxHeartbeats 4000000 in
set_option maxRecDepth 100000 in
theorem c_X6_shifted {G : GT} {B : Nat} {l : Launch} {H : Heap} {a b : Int32} : AM G B l yX6_shifted cX6_shifted 5 (some .int) 0 0 0 [.int a, .int b] H (fun rv H' => rv = some (.int (shF a b)) ∧ (H' = H)) := by
  refine AM.ofI (lv := [(0, .int a), (1, .int b)]) (by decide +kernel) (Nat.le_of_ble_eq_true rfl) rfl ?_ (fun _ h => by cases h.1)
  refine a_iload_n 0 dX6_shifted_0 rfl rfl ?_
  refine a_bipush 100 dX6_shifted_1 (by decide) ?_
  refine a_idiv dX6_shifted_3 (by decide +kernel) ?_
  refine a_iload_n 1 dX6_shifted_4 rfl rfl ?_
  refine a_bipush 100 dX6_shifted_5 (by decide) ?_
  refine a_idiv dX6_shifted_7 (by decide +kernel) ?_
  refine a_iadd dX6_shifted_8 ?_
  refine a_bipush 10 dX6_shifted_9 (by decide) ?_
  refine a_irem dX6_shifted_11 (by decide +kernel) ?_
  refine a_istore_n (lv' := [(2, .int (((a / 100) + (b / 100)) % 10)), (0, .int a), (1, .int b)]) dX6_shifted_12 rfl (by decide) rfl ?_
  refine a_iload_n 1 dX6_shifted_13 rfl rfl ?_
  refine a_bipush 10 dX6_shifted_14 (by decide) ?_
  refine a_idiv dX6_shifted_16 (by decide +kernel) ?_
  refine a_iload_n 2 dX6_shifted_17 rfl rfl ?_
  refine a_bipush 10 dX6_shifted_18 (by decide) ?_
  refine a_idiv dX6_shifted_20 (by decide +kernel) ?_
  refine a_iadd dX6_shifted_21 ?_
  refine a_bipush 10 dX6_shifted_22 (by decide) ?_
  refine a_irem dX6_shifted_24 (by decide +kernel) ?_
  refine a_istore_n (lv' := [(3, .int (((a / 10) + (b / 10)) % 10)), (2, .int (((a / 100) + (b / 100)) % 10)), (0, .int a), (1, .int b)]) dX6_shifted_25 rfl (by decide) rfl ?_
  refine a_iload_n 2 dX6_shifted_26 rfl rfl ?_
  refine a_iload_n 3 dX6_shifted_27 rfl rfl ?_
  refine a_iadd dX6_shifted_28 ?_
  refine a_bipush 10 dX6_shifted_29 (by decide) ?_
  refine a_irem dX6_shifted_31 (by decide +kernel) ?_
  refine a_istore (lv' := [(4, .int ((a + b) % 10)), (3, .int (((a / 10) + (b / 10)) % 10)), (2, .int (((a / 100) + (b / 100)) % 10)), (0, .int a), (1, .int b)]) dX6_shifted_32 (by decide) rfl ?_
  refine a_bipush 100 dX6_shifted_34 (by decide) ?_
  refine a_iload_n 2 dX6_shifted_36 rfl rfl ?_
  refine a_imul dX6_shifted_37 ?_
  refine a_bipush 10 dX6_shifted_38 (by decide) ?_
  refine a_iload_n 1 dX6_shifted_40 rfl rfl ?_
  refine a_imul dX6_shifted_41 ?_
  refine a_iadd dX6_shifted_42 ?_
  refine a_iload 0 dX6_shifted_43 rfl ?_
  refine a_iadd dX6_shifted_45 ?_
  refine a_ret dX6_shifted_46 ⟨⟨ri ?_, ?_⟩, rfl, rfl⟩
  · exact shF_comm a b
  · rfl
set_option maxHeartbeats 4000000 in
set_option maxRecDepth 100000 in
theorem c_X6_spoken {G : GT} {B : Nat} {l : Launch} {H : Heap} {b kr sp : Nat} {fp dr : Int32} {kb : Bool} {ka ks kw : Int32} {n nv : Nat} {kS kU kK kV dd : DD} {w v : Nat} (hw : w < n) (hv : v < nv) (hC : Bc G H b kr sp fp dr kb ka ks kw n nv kS kU kK kV dd) : AM G B l yX6_spoken cX6_spoken 3 (some .int) 1 0 0 [.ref b, .int (nI w), .int (nI v)] H (fun rv H' => rv = some (.int (spF dd kV w v)) ∧ (H' = H)) := by
  have hC0 := hC
  obtain ⟨hb, hK, hD, hkr⟩ := hC
  have hK0 := hK
  have hN := hD
  unfold bxL at hb
  obtain ⟨fS3, fU3, fK3, fV3, hk3, ha3, hb3, hc3, he3, eS3, eU3, eK3, eV3, hn3, hnv3⟩ := hK
  obtain ⟨fS, fU, fO, hd, hs, hu, ho, eS, eU, eO, hn⟩ := hD
  refine AM.ofI (lv := [(0, .ref b), (1, .int (nI w)), (2, .int (nI v))]) (by decide +kernel) (Nat.le_of_ble_eq_true rfl) rfl ?_ (fun _ h => by cases h.1)
  refine a_aload_n 0 dX6_spoken_0 rfl rfl ?_
  refine a_get f_X6_33 dX6_spoken_1 hb rfl ?_
  refine a_get f_X6_135 dX6_spoken_4 hd rfl ?_
  refine a_iload_n 1 dX6_spoken_7 rfl rfl ?_
  refine a_ialdN (j := w) dX6_spoken_8 hs (by omega) (by decide) ?_
  refine a_toeq (dd w) (eS _ (by omega)) ?_
  refine a_aload_n 0 dX6_spoken_9 rfl rfl ?_
  refine a_get f_X6_23 dX6_spoken_10 hb rfl ?_
  refine a_get f_X6_151 dX6_spoken_13 hk3 rfl ?_
  refine a_iload_n 2 dX6_spoken_16 rfl rfl ?_
  refine a_ialdN (j := v) dX6_spoken_17 he3 (by omega) (by decide) ?_
  refine a_toeq (kV v) (eV3 _ (by omega)) ?_
  refine a_callSp (As := [.int (dd w), .int (kV v)]) (rest := []) (d := 0) (mc := 0) (ms := 0) (x := spF dd kV w v) l_X6_265 st_X6_shifted dX6_spoken_18 ⟨Nat.le_of_ble_eq_true rfl, Nat.le_of_ble_eq_true rfl⟩ rfl (Nat.le_of_ble_eq_true rfl) ⟨Nat.le_of_ble_eq_true rfl, Nat.le_of_ble_eq_true rfl⟩ (c_X6_shifted) ?_
  refine a_ret dX6_spoken_21 ⟨⟨ri ?_, ?_⟩, rfl, rfl⟩
  · rfl
  · rfl
set_option maxHeartbeats 4000000 in
set_option maxRecDepth 100000 in
theorem c_X6_understood {G : GT} {B : Nat} {l : Launch} {H : Heap} {b kr sp : Nat} {fp dr : Int32} {kb : Bool} {ka ks kw : Int32} {n nv : Nat} {kS kU kK kV dd : DD} {w v : Nat} (hw : w < n) (hv : v < nv) (hC : Bc G H b kr sp fp dr kb ka ks kw n nv kS kU kK kV dd) : AM G B l yX6_understood cX6_understood 3 (some .int) 4 0 0 [.ref b, .int (nI w), .int (nI v)] H (fun rv H' => rv = some (.int (unF n dd kV w v)) ∧ (H' = H)) := by
  have hC0 := hC
  obtain ⟨hb, hK, hD, hkr⟩ := hC
  have hK0 := hK
  have hN := hD
  unfold bxL at hb
  obtain ⟨fS3, fU3, fK3, fV3, hk3, ha3, hb3, hc3, he3, eS3, eU3, eK3, eV3, hn3, hnv3⟩ := hK
  obtain ⟨fS, fU, fO, hd, hs, hu, ho, eS, eU, eO, hn⟩ := hD
  refine AM.ofI (lv := [(0, .ref b), (1, .int (nI w)), (2, .int (nI v))]) (by decide +kernel) (Nat.le_of_ble_eq_true rfl) rfl ?_ (fun _ h => by cases h.1)
  refine a_aload_n 0 dX6_understood_0 rfl rfl ?_
  refine a_get f_X6_33 dX6_understood_1 hb rfl ?_
  refine a_aload_n 0 dX6_understood_4 rfl rfl ?_
  refine a_iload_n 1 dX6_understood_5 rfl rfl ?_
  refine a_iload_n 2 dX6_understood_6 rfl rfl ?_
  refine a_callVp (As := [.int (nI w), .int (nI v)]) (rest := [.ref (b + 13)]) (d := 1) (mc := 0) (ms := 0) (x := spF dd kV w v) (ci := 6) l_X6_182 im_X6_spoken se_X6_spoken ⟨_, rfl, rfl⟩ dX6_understood_7 ⟨Nat.le_of_ble_eq_true rfl, Nat.le_of_ble_eq_true rfl⟩ rfl (Nat.le_of_ble_eq_true rfl) ⟨Nat.le_of_ble_eq_true rfl, Nat.le_of_ble_eq_true rfl⟩ hb (c_X6_spoken hw hv hC0) ?_
  refine a_callVp (As := [.int (spF dd kV w v)]) (rest := []) (d := 3) (mc := 0) (ms := 0) (x := unF n dd kV w v) (ci := 0) l_X6_193 im_X0_strongest se_X0_strongest ⟨_, rfl, rfl⟩ dX6_understood_10 ⟨Nat.le_of_ble_eq_true rfl, Nat.le_of_ble_eq_true rfl⟩ rfl (Nat.le_of_ble_eq_true rfl) ⟨Nat.le_of_ble_eq_true rfl, Nat.le_of_ble_eq_true rfl⟩ hd (c_X0_strongest hN) ?_
  refine a_ret dX6_understood_13 ⟨⟨ri ?_, ?_⟩, rfl, rfl⟩
  · rfl
  · rfl
set_option maxHeartbeats 4000000 in
set_option maxRecDepth 100000 in
theorem c_X6_wordsSpokenAs {G : GT} {B : Nat} {l : Launch} {H : Heap} {b kr sp : Nat} {fp dr : Int32} {kb : Bool} {ka ks kw : Int32} {n nv : Nat} {kS kU kK kV dd : DD} {v : Nat} {s : Int32} (hv : v < nv) (hC : Bc G H b kr sp fp dr kb ka ks kw n nv kS kU kK kV dd) : AM G B l yX6_wordsSpokenAs cX6_wordsSpokenAs 5 (some .int) 2 0 0 [.ref b, .int (nI v), .int s] H (fun rv H' => rv = some (.int (wsF dd kV v s n)) ∧ (H' = H)) := by
  have hC0 := hC
  obtain ⟨hb, hK, hD, hkr⟩ := hC
  have hK0 := hK
  have hN := hD
  unfold bxL at hb
  obtain ⟨fS3, fU3, fK3, fV3, hk3, ha3, hb3, hc3, he3, eS3, eU3, eK3, eV3, hn3, hnv3⟩ := hK
  obtain ⟨fS, fU, fO, hd, hs, hu, ho, eS, eU, eO, hn⟩ := hD
  refine AM.ofI (lv := [(0, .ref b), (1, .int (nI v)), (2, .int s)]) (by decide +kernel) (Nat.le_of_ble_eq_true rfl) rfl ?_ (fun _ h => by cases h.1)
  refine a_iconst 0 dX6_wordsSpokenAs_0 (by decide) ?_
  refine a_istore_n (lv' := [(3, .int 0), (0, .ref b), (1, .int (nI v)), (2, .int s)]) dX6_wordsSpokenAs_1 rfl (by decide) rfl ?_
  refine a_iconst 0 dX6_wordsSpokenAs_2 (by decide) ?_
  refine a_istore (lv' := [(4, .int 0), (3, .int 0), (0, .ref b), (1, .int (nI v)), (2, .int s)]) dX6_wordsSpokenAs_3 (by decide) rfl ?_
  have L5 : ∀ (fu : Nat) (k : Nat) (r : Int32), k ≤ n → r = wsF dd kV v s k → n - k < fu → AW G B l { frames := 2, cells := 0, slots := 0, locals := 27 * 2 } yX6_wordsSpokenAs.cls cX6_wordsSpokenAs 5 false (fun rv H' ce' sl' => (rv = some (.int (wsF dd kV v s n)) ∧ (H' = H)) ∧ ce' = 0 ∧ sl' = 0) 5 [(0, .ref b), (1, .int (nI v)), (2, .int s), (3, .int r), (4, .int (nI k))] [] H 0 0 := by
    intro fu
    induction fu with
    | zero => intro k r hk hg hm5; exact absurd hm5 (Nat.not_lt_zero _)
    | succ fu ih5 =>
      intro k r hk hg hm5
      refine a_iload 4 dX6_wordsSpokenAs_5 rfl ?_
      refine a_aload_n 0 dX6_wordsSpokenAs_7 rfl rfl ?_
      refine a_get f_X6_23 dX6_wordsSpokenAs_8 hb rfl ?_
      refine a_get f_X6_100 dX6_wordsSpokenAs_11 hk3 rfl ?_
      refine a_icmpgeN (a := k) (b := n) 41 dX6_wordsSpokenAs_14 (by decide) (by omega) (by omega) (fun c14 => ?_) (fun c14 => ?_)
      · skip
        refine a_iload_n 3 dX6_wordsSpokenAs_41 rfl rfl ?_
        refine a_ret dX6_wordsSpokenAs_42 ⟨⟨ri ?_, ?_⟩, rfl, rfl⟩
        · rw [hg, show n = k by omega]
        · rfl
      · skip
        refine a_aload_n 0 dX6_wordsSpokenAs_17 rfl rfl ?_
        refine a_iload 4 dX6_wordsSpokenAs_18 rfl ?_
        refine a_iload_n 1 dX6_wordsSpokenAs_20 rfl rfl ?_
        refine a_callVp (As := [.int (nI k), .int (nI v)]) (rest := []) (d := 1) (mc := 0) (ms := 0) (x := spF dd kV k v) (ci := 6) l_X6_182 im_X6_spoken se_X6_spoken ⟨_, rfl, rfl⟩ dX6_wordsSpokenAs_21 ⟨Nat.le_of_ble_eq_true rfl, Nat.le_of_ble_eq_true rfl⟩ rfl (Nat.le_of_ble_eq_true rfl) ⟨Nat.le_of_ble_eq_true rfl, Nat.le_of_ble_eq_true rfl⟩ hb (c_X6_spoken (by omega) hv hC0) ?_
        refine a_iload_n 2 dX6_wordsSpokenAs_24 rfl rfl ?_
        refine a_icmpne 35 dX6_wordsSpokenAs_25 (by decide) (fun c25 => ?_) (fun c25 => ?_)
        · skip
          refine a_iincN (q := 4) (lv' := [(4, .int (nI (k + 1))), (0, .ref b), (1, .int (nI v)), (2, .int s), (3, .int r)]) dX6_wordsSpokenAs_35 rfl (by decide) rfl ?_
          refine a_goto 5 dX6_wordsSpokenAs_38 (by decide) ?_
          refine a_sub [1, 2, 3, 4, 0] rfl ?_
          exact ih5 _ _ (by omega) (by rw [hg]; simp only [wsF]; first | (rw [if_pos c25]; rfl) | rw [if_neg c25]) (by omega)
        · skip
          refine a_iload_n 3 dX6_wordsSpokenAs_28 rfl rfl ?_
          refine a_iconst 1 dX6_wordsSpokenAs_29 (by decide) ?_
          refine a_iload 4 dX6_wordsSpokenAs_30 rfl ?_
          refine a_ishl dX6_wordsSpokenAs_32 ?_
          refine a_ior dX6_wordsSpokenAs_33 ?_
          refine a_istore_n (lv' := [(3, .int (r ||| (1 <<< ((nI k) &&& 31)))), (0, .ref b), (1, .int (nI v)), (2, .int s), (4, .int (nI k))]) dX6_wordsSpokenAs_34 rfl (by decide) rfl ?_
          refine a_iincN (q := 4) (lv' := [(4, .int (nI (k + 1))), (3, .int (r ||| (1 <<< ((nI k) &&& 31)))), (0, .ref b), (1, .int (nI v)), (2, .int s)]) dX6_wordsSpokenAs_35 rfl (by decide) rfl ?_
          refine a_goto 5 dX6_wordsSpokenAs_38 (by decide) ?_
          refine a_sub [2, 3, 4, 1, 0] rfl ?_
          exact ih5 _ _ (by omega) (by rw [hg]; simp only [wsF]; first | (rw [if_pos c25]; rfl) | rw [if_neg c25]) (by omega)
  refine a_sub [2, 3, 4, 1, 0] rfl ?_
  exact L5 _ 0 0 (Nat.zero_le _) rfl (Nat.lt_succ_self _)
set_option maxHeartbeats 4000000 in
set_option maxRecDepth 100000 in
theorem c_X6_cost {G : GT} {B : Nat} {l : Launch} {H : Heap} {b kr sp : Nat} {fp dr : Int32} {kb : Bool} {ka ks kw : Int32} {n nv : Nat} {kS kU kK kV dd : DD} {d : Nat} {td : DD} (hT : Dd G H d n td) {s what : Int32} (hC : Bc G H b kr sp fp dr kb ka ks kw n nv kS kU kK kV dd) : AM G B l yX6_cost cX6_cost 5 (some .int) 4 0 0 [.ref b, .ref d, .int s, .int what] H (fun rv H' => rv = some (.int (coF n td kK ka ks s what)) ∧ (H' = H)) := by
  have hT0 := hT
  obtain ⟨fS4, fU4, fO4, hd4, -⟩ := hT
  have hC0 := hC
  obtain ⟨hb, hK, hD, hkr⟩ := hC
  have hK0 := hK
  have hN := hD
  unfold bxL at hb
  obtain ⟨fS3, fU3, fK3, fV3, hk3, ha3, hb3, hc3, he3, eS3, eU3, eK3, eV3, hn3, hnv3⟩ := hK
  obtain ⟨fS, fU, fO, hd, hs, hu, ho, eS, eU, eO, hn⟩ := hD
  refine AM.ofI (lv := [(0, .ref b), (1, .ref d), (2, .int s), (3, .int what)]) (by decide +kernel) (Nat.le_of_ble_eq_true rfl) rfl ?_ (fun _ h => by cases h.1)
  refine a_iload_n 3 dX6_cost_0 rfl rfl ?_
  refine a_iconst 1 dX6_cost_1 (by decide) ?_
  refine a_icmpne 13 dX6_cost_2 (by decide) (fun c2 => ?_) (fun c2 => ?_)
  · skip
    refine a_iload_n 3 dX6_cost_13 rfl rfl ?_
    refine a_iconst 2 dX6_cost_14 (by decide) ?_
    refine a_icmpne 26 dX6_cost_15 (by decide) (fun c15 => ?_) (fun c15 => ?_)
    · skip
      refine a_aload_n 1 dX6_cost_26 rfl rfl ?_
      refine a_iload_n 2 dX6_cost_27 rfl rfl ?_
      refine a_callVp (As := [.int s]) (rest := []) (d := 3) (mc := 0) (ms := 0) (x := guF n td s) (ci := 0) l_X6_193 im_X0_strongest se_X0_strongest ⟨_, rfl, rfl⟩ dX6_cost_28 ⟨Nat.le_of_ble_eq_true rfl, Nat.le_of_ble_eq_true rfl⟩ rfl (Nat.le_of_ble_eq_true rfl) ⟨Nat.le_of_ble_eq_true rfl, Nat.le_of_ble_eq_true rfl⟩ hd4 (c_X0_strongest hT0) ?_
      refine a_istore (lv' := [(4, .int (guF n td s)), (0, .ref b), (1, .ref d), (2, .int s), (3, .int what)]) dX6_cost_31 (by decide) rfl ?_
      refine a_aload_n 1 dX6_cost_33 rfl rfl ?_
      refine a_iload 0 dX6_cost_34 rfl ?_
      refine a_callVp (As := [.int (guF n td s)]) (rest := []) (d := 0) (mc := 0) (ms := 0) (x := bI (wIx n (guF n td s))) (ci := 6) l_X6_131 im_X6_isWord se_X6_isWord ⟨_, rfl, rfl⟩ dX6_cost_36 ⟨Nat.le_of_ble_eq_true rfl, Nat.le_of_ble_eq_true rfl⟩ rfl (Nat.le_of_ble_eq_true rfl) ⟨Nat.le_of_ble_eq_true rfl, Nat.le_of_ble_eq_true rfl⟩ hb (c_X6_isWord hC0) ?_
      refine a_ifneB 44 dX6_cost_39 (by decide) (fun c39 => ?_) (fun c39 => ?_)
      · skip
        obtain ⟨j, hj, ej⟩ := wIx_of (by omega) c39
        have ecl : (guF n td s).toNatClampNeg = j := by rw [ej]; exact nI_clamp (by omega)
        rw [ej]
        refine a_ldcw 1000000 k_X6_268 dX6_cost_44 ?_
        refine a_aload_n 2 dX6_cost_47 rfl rfl ?_
        refine a_iload 0 dX6_cost_48 rfl ?_
        refine a_iload_n 3 dX6_cost_50 rfl rfl ?_
        refine a_callVp (As := [.int (nI j), .int s]) (rest := [.int 1000000]) (d := 3) (mc := 0) (ms := 0) (x := ceF n td j s) (ci := 0) l_X6_196 im_X0_certainty se_X0_certainty ⟨_, rfl, rfl⟩ dX6_cost_51 ⟨Nat.le_of_ble_eq_true rfl, Nat.le_of_ble_eq_true rfl⟩ rfl (Nat.le_of_ble_eq_true rfl) ⟨Nat.le_of_ble_eq_true rfl, Nat.le_of_ble_eq_true rfl⟩ hd4 (c_X0_certainty hT0 hj) ?_
        refine a_isub dX6_cost_54 ?_
        refine a_aload_n 1 dX6_cost_55 rfl rfl ?_
        refine a_get f_X6_23 dX6_cost_56 hb rfl ?_
        refine a_get f_X6_142 dX6_cost_59 hk3 rfl ?_
        refine a_iload 0 dX6_cost_62 rfl ?_
        refine a_ialdN (j := j) dX6_cost_64 hc3 (by omega) (by decide) ?_
        refine a_toeq (kK j) (eK3 _ (by omega)) ?_
        refine a_imul dX6_cost_65 ?_
        refine a_ldcw 1000000 k_X6_268 dX6_cost_66 ?_
        refine a_idiv dX6_cost_69 (by decide +kernel) ?_
        refine a_ret dX6_cost_70 ⟨⟨ri ?_, ?_⟩, rfl, rfl⟩
        · unfold coF
          rw [if_neg c2, if_neg c15, if_pos c39, ecl]
        · rfl
      · skip
        refine a_iconst 0 dX6_cost_42 (by decide) ?_
        refine a_ret dX6_cost_43 ⟨⟨ri ?_, ?_⟩, rfl, rfl⟩
        · unfold coF
          rw [if_neg c2, if_neg c15, if_neg (by rw [c39]; decide)]
        · rfl
    · skip
      refine a_aload_n 0 dX6_cost_18 rfl rfl ?_
      refine a_get f_X6_23 dX6_cost_19 hb rfl ?_
      refine a_get f_X6_106 dX6_cost_22 hk3 rfl ?_
      refine a_ret dX6_cost_25 ⟨⟨ri ?_, ?_⟩, rfl, rfl⟩
      · unfold coF
        rw [if_neg c2, if_pos c15]
      · rfl
  · skip
    refine a_aload_n 0 dX6_cost_5 rfl rfl ?_
    refine a_get f_X6_23 dX6_cost_6 hb rfl ?_
    refine a_get f_X6_103 dX6_cost_9 hk3 rfl ?_
    refine a_ret dX6_cost_12 ⟨⟨ri ?_, ?_⟩, rfl, rfl⟩
    · unfold coF
      rw [if_pos c2]
    · rfl
set_option maxHeartbeats 4000000 in
set_option maxRecDepth 100000 in
theorem c_X6_cheapest {G : GT} {B : Nat} {l : Launch} {H : Heap} {b kr sp : Nat} {fp dr : Int32} {kb : Bool} {ka ks kw : Int32} {n nv : Nat} {kS kU kK kV dd : DD} {d : Nat} {td : DD} (hT : Dd G H d n td) {s : Int32} (hC : Bc G H b kr sp fp dr kb ka ks kw n nv kS kU kK kV dd) : AM G B l yX6_cheapest cX6_cheapest 7 (some .int) 5 0 0 [.ref b, .ref d, .int s] H (fun rv H' => rv = some (.int (ruF n td kK ka ks s)) ∧ (H' = H)) := by
  have hT0 := hT
  obtain ⟨fS4, fU4, fO4, hd4, -⟩ := hT
  have hC0 := hC
  obtain ⟨hb, hK, hD, hkr⟩ := hC
  have hK0 := hK
  have hN := hD
  unfold bxL at hb
  obtain ⟨fS3, fU3, fK3, fV3, hk3, ha3, hb3, hc3, he3, eS3, eU3, eK3, eV3, hn3, hnv3⟩ := hK
  obtain ⟨fS, fU, fO, hd, hs, hu, ho, eS, eU, eO, hn⟩ := hD
  refine AM.ofI (lv := [(0, .ref b), (1, .ref d), (2, .int s)]) (by decide +kernel) (Nat.le_of_ble_eq_true rfl) rfl ?_ (fun _ h => by cases h.1)
  refine a_iconst 0 dX6_cheapest_0 (by decide) ?_
  refine a_istore_n (lv' := [(3, .int 0), (0, .ref b), (1, .ref d), (2, .int s)]) dX6_cheapest_1 rfl (by decide) rfl ?_
  refine a_aload_n 1 dX6_cheapest_2 rfl rfl ?_
  refine a_aload_n 2 dX6_cheapest_3 rfl rfl ?_
  refine a_iload_n 3 dX6_cheapest_4 rfl rfl ?_
  refine a_iconst 0 dX6_cheapest_5 (by decide) ?_
  refine a_callVp (As := [.ref d, .int s, .int 0]) (rest := []) (d := 4) (mc := 0) (ms := 0) (x := coF n td kK ka ks s 0) (ci := 6) l_X6_203 im_X6_cost se_X6_cost ⟨_, rfl, rfl⟩ dX6_cheapest_6 ⟨Nat.le_of_ble_eq_true rfl, Nat.le_of_ble_eq_true rfl⟩ rfl (Nat.le_of_ble_eq_true rfl) ⟨Nat.le_of_ble_eq_true rfl, Nat.le_of_ble_eq_true rfl⟩ hb (c_X6_cost hT0 hC0) ?_
  refine a_istore (lv' := [(4, .int (coF n td kK ka ks s 0)), (3, .int 0), (0, .ref b), (1, .ref d), (2, .int s)]) dX6_cheapest_9 (by decide) rfl ?_
  refine a_iconst 1 dX6_cheapest_11 (by decide) ?_
  refine a_istore (lv' := [(5, .int 1), (4, .int (coF n td kK ka ks s 0)), (3, .int 0), (0, .ref b), (1, .ref d), (2, .int s)]) dX6_cheapest_12 (by decide) rfl ?_
  have L14 : ∀ (fu : Nat) (k : Nat) (r m : Int32), k ≤ 2 → chF n td kK ka ks s k = (r, m) → 2 - k < fu → AW G B l { frames := 5, cells := 0, slots := 0, locals := 27 * 5 } yX6_cheapest.cls cX6_cheapest 7 false (fun rv H' ce' sl' => (rv = some (.int (ruF n td kK ka ks s)) ∧ (H' = H)) ∧ ce' = 0 ∧ sl' = 0) 14 [(0, .ref b), (1, .ref d), (2, .int s), (3, .int r), (4, .int m), (5, .int (nI (k + 1)))] [] H 0 0 := by
    intro fu
    induction fu with
    | zero => intro k r m hk hg hm14; exact absurd hm14 (Nat.not_lt_zero _)
    | succ fu ih14 =>
      intro k r m hk hg hm14
      refine a_iload 5 dX6_cheapest_14 rfl ?_
      refine a_iconst 2 dX6_cheapest_16 (by decide) ?_
      refine a_icmpgtN (a := k + 1) (b := 2) 50 dX6_cheapest_17 (by decide) (by omega) (by omega) (fun c17 => ?_) (fun c17 => ?_)
      · skip
        refine a_iload_n 3 dX6_cheapest_50 rfl rfl ?_
        refine a_ret dX6_cheapest_51 ⟨⟨ri ?_, ?_⟩, rfl, rfl⟩
        · unfold ruF
          rw [show 2 = k by omega, hg]
        · rfl
      · skip
        refine a_aload_n 0 dX6_cheapest_20 rfl rfl ?_
        refine a_aload_n 1 dX6_cheapest_21 rfl rfl ?_
        refine a_iload_n 2 dX6_cheapest_22 rfl rfl ?_
        refine a_iload 5 dX6_cheapest_23 rfl ?_
        refine a_callVp (As := [.ref d, .int s, .int (nI (k + 1))]) (rest := []) (d := 4) (mc := 0) (ms := 0) (x := coF n td kK ka ks s (nI (k + 1))) (ci := 6) l_X6_203 im_X6_cost se_X6_cost ⟨_, rfl, rfl⟩ dX6_cheapest_25 ⟨Nat.le_of_ble_eq_true rfl, Nat.le_of_ble_eq_true rfl⟩ rfl (Nat.le_of_ble_eq_true rfl) ⟨Nat.le_of_ble_eq_true rfl, Nat.le_of_ble_eq_true rfl⟩ hb (c_X6_cost hT0 hC0) ?_
        refine a_istore (lv' := [(6, .int (coF n td kK ka ks s (nI (k + 1)))), (0, .ref b), (1, .ref d), (2, .int s), (3, .int r), (4, .int m), (5, .int (nI (k + 1)))]) dX6_cheapest_28 (by decide) rfl ?_
        refine a_iload 0 dX6_cheapest_30 rfl ?_
        refine a_iload 5 dX6_cheapest_32 rfl ?_
        refine a_icmpge 44 dX6_cheapest_34 (by decide) (fun c34 => ?_) (fun c34 => ?_)
        · skip
          have c34 := Int32.not_lt.mpr c34
          refine a_iincN (q := 6) (lv' := [(5, .int (nI (k + 1 + 1))), (6, .int (coF n td kK ka ks s (nI (k + 1)))), (0, .ref b), (1, .ref d), (2, .int s), (3, .int r), (4, .int m)]) dX6_cheapest_44 rfl (by decide) rfl ?_
          refine a_goto 14 dX6_cheapest_47 (by decide) ?_
          refine a_sub [2, 3, 4, 5, 6, 0] rfl ?_
          exact ih14 _ _ _ (by omega) (by simp only [chF]; rw [hg]; first | rw [if_pos c34] | rw [if_neg c34]) (by omega)
        · skip
          have c34 := Int32.not_le.mp c34
          refine a_iload 6 dX6_cheapest_37 rfl ?_
          refine a_istore_n (lv' := [(3, .int (nI (k + 1))), (6, .int (coF n td kK ka ks s (nI (k + 1)))), (0, .ref b), (1, .ref d), (2, .int s), (4, .int m), (5, .int (nI (k + 1)))]) dX6_cheapest_39 rfl (by decide) rfl ?_
          refine a_iload 1 dX6_cheapest_40 rfl ?_
          refine a_istore (lv' := [(4, .int (coF n td kK ka ks s (nI (k + 1)))), (3, .int (nI (k + 1))), (6, .int (coF n td kK ka ks s (nI (k + 1)))), (0, .ref b), (1, .ref d), (2, .int s), (5, .int (nI (k + 1)))]) dX6_cheapest_42 (by decide) rfl ?_
          refine a_iincN (q := 6) (lv' := [(5, .int (nI (k + 1 + 1))), (4, .int (coF n td kK ka ks s (nI (k + 1)))), (3, .int (nI (k + 1))), (6, .int (coF n td kK ka ks s (nI (k + 1)))), (0, .ref b), (1, .ref d), (2, .int s)]) dX6_cheapest_44 rfl (by decide) rfl ?_
          refine a_goto 14 dX6_cheapest_47 (by decide) ?_
          refine a_sub [4, 5, 6, 2, 1, 0] rfl ?_
          exact ih14 _ _ _ (by omega) (by simp only [chF]; rw [hg]; first | rw [if_pos c34] | rw [if_neg c34]) (by omega)
  refine a_sub [3, 4, 5, 2, 1, 0] rfl ?_
  exact L14 _ 0 _ _ (Nat.zero_le _) rfl (Nat.lt_succ_self _)
set_option maxHeartbeats 4000000 in
set_option maxRecDepth 100000 in
theorem c_X6_takeIn {G : GT} {B : Nat} {l : Launch} {H : Heap} {b kr sp : Nat} {fp dr : Int32} {kb : Bool} {ka ks kw : Int32} {n nv : Nat} {kS kU kK kV dd : DD} {s : Int32} {g : Nat} (hC : Bc G H b kr sp fp dr kb ka ks kw n nv kS kU kK kV dd) (hg : guF n dd s = nI g) (hgn : g < n) (hB : B ≤ b) : AM G B l yX6_takeIn cX6_takeIn 3 (some .int) 6 0 0 [.ref b, .int s] H (fun rv H' => rv = some (.int (ruF n dd kK ka ks s)) ∧ (Dd G H' (b + 13) n (hrF dd g (ruF n dd kK ka ks s)) ∧ ∀ q : Nat, ¬ (b + 13 ≤ q ∧ q < b + 17) → H'[q]? = H[q]?)) := by
  have hC0 := hC
  obtain ⟨hb, hK, hD, hkr⟩ := hC
  have hK0 := hK
  have hN := hD
  unfold bxL at hb
  obtain ⟨fS3, fU3, fK3, fV3, hk3, ha3, hb3, hc3, he3, eS3, eU3, eK3, eV3, hn3, hnv3⟩ := hK
  obtain ⟨fS, fU, fO, hd, hs, hu, ho, eS, eU, eO, hn⟩ := hD
  have hF : ∀ q : Nat, ¬ (b + 13 ≤ q ∧ q < b + 17) → H[q]? = H[q]? := fun _ _ => rfl
  refine AM.ofI (lv := [(0, .ref b), (1, .int s)]) (by decide +kernel) (Nat.le_of_ble_eq_true rfl) rfl ?_ (fun _ h => by cases h.1)
  refine a_aload_n 0 dX6_takeIn_0 rfl rfl ?_
  refine a_aload_n 0 dX6_takeIn_1 rfl rfl ?_
  refine a_get f_X6_33 dX6_takeIn_2 hb rfl ?_
  refine a_iload_n 1 dX6_takeIn_5 rfl rfl ?_
  refine a_callVp (As := [.ref (b + 13), .int s]) (rest := []) (d := 5) (mc := 0) (ms := 0) (x := ruF n dd kK ka ks s) (ci := 6) l_X6_199 im_X6_cheapest se_X6_cheapest ⟨_, rfl, rfl⟩ dX6_takeIn_6 ⟨Nat.le_of_ble_eq_true rfl, Nat.le_of_ble_eq_true rfl⟩ rfl (Nat.le_of_ble_eq_true rfl) ⟨Nat.le_of_ble_eq_true rfl, Nat.le_of_ble_eq_true rfl⟩ hb (c_X6_cheapest hN hC0) ?_
  refine a_istore_n (lv' := [(2, .int (ruF n dd kK ka ks s)), (0, .ref b), (1, .int s)]) dX6_takeIn_9 rfl (by decide) rfl ?_
  refine a_aload_n 1 dX6_takeIn_10 rfl rfl ?_
  refine a_get f_X6_33 dX6_takeIn_11 hb rfl ?_
  refine a_aload_n 1 dX6_takeIn_14 rfl rfl ?_
  refine a_get f_X6_33 dX6_takeIn_15 hb rfl ?_
  refine a_iload_n 2 dX6_takeIn_18 rfl rfl ?_
  refine a_callVp (As := [.int s]) (rest := [.ref (b + 13)]) (d := 3) (mc := 0) (ms := 0) (x := guF n dd s) (ci := 0) l_X6_193 im_X0_strongest se_X0_strongest ⟨_, rfl, rfl⟩ dX6_takeIn_19 ⟨Nat.le_of_ble_eq_true rfl, Nat.le_of_ble_eq_true rfl⟩ rfl (Nat.le_of_ble_eq_true rfl) ⟨Nat.le_of_ble_eq_true rfl, Nat.le_of_ble_eq_true rfl⟩ hd (c_X0_strongest hN) ?_
  rw [hg]
  refine a_iload_n 0 dX6_takeIn_22 rfl rfl ?_
  refine a_callVv (As := [.int (nI g), .int (ruF n dd kK ka ks s)]) (rest := []) (d := 2) (mc := 0) (ms := 0) (ci := 0) l_X6_269 im_X0_react se_X0_react ⟨_, rfl, rfl⟩ dX6_takeIn_23 ⟨Nat.le_of_ble_eq_true rfl, Nat.le_of_ble_eq_true rfl⟩ rfl (Nat.le_of_ble_eq_true rfl) ⟨Nat.le_of_ble_eq_true rfl, Nat.le_of_ble_eq_true rfl⟩ hd (c_X0_react hN hgn (by omega)) (fun H3 hp3 => ?_)
  obtain ⟨hD3, hfr⟩ := hp3
  have hF : ∀ q : Nat, ¬ (b + 13 ≤ q ∧ q < b + 17) → H3[q]? = H[q]? := fun q hq => (hfr q (by omega)).trans (hF q hq)
  refine a_iload_n 0 dX6_takeIn_26 rfl rfl ?_
  refine a_ret dX6_takeIn_27 ⟨⟨ri ?_, ?_⟩, rfl, rfl⟩
  · rfl
  · exact ⟨hD3, hF⟩
set_option maxHeartbeats 4000000 in
set_option maxRecDepth 100000 in
theorem c_X6_draw {G : GT} {B : Nat} {l : Launch} {H : Heap} {b kr sp : Nat} {fp : Int32} {sd k : Nat} (hb : Ob G H b 6 (bxL b kr sp fp (nI sd))) (hs : sd < 2 ^ 31) (hk : 0 < k) (hk2 : k < 100) (hB : B ≤ b) : AM G B l yX6_draw cX6_draw 2 (some .int) 0 0 0 [.ref b, .int (nI k)] H (fun rv H' => rv = some (.int (nI (drF sd k))) ∧ (Ob G H' b 6 (bxL b kr sp fp (nI (sdF sd))) ∧ ∀ q : Nat, q ≠ b → H'[q]? = H[q]?)) := by
  unfold bxL at hb
  have hsl : sdF sd < 2147483648 := Nat.mod_lt _ (by decide)
  have hF : ∀ q : Nat, q ≠ b → H[q]? = H[q]? := fun _ _ => rfl
  refine AM.ofI (lv := [(0, .ref b), (1, .int (nI k))]) (by decide +kernel) (Nat.le_of_ble_eq_true rfl) rfl ?_ (fun _ h => by cases h.1)
  refine a_iload_n 1 dX6_draw_0 rfl rfl ?_
  refine a_ifgtN (a := k) 6 dX6_draw_1 (by decide) (by omega) (fun c1 => ?_) (fun c1 => ?_)
  · skip
    refine a_aload_n 0 dX6_draw_6 rfl rfl ?_
    refine a_aload_n 0 dX6_draw_7 rfl rfl ?_
    refine a_get f_X6_53 dX6_draw_8 hb rfl ?_
    refine a_i2l dX6_draw_11 ?_
    rw [nI_l hs]
    refine a_ldc2 1103515245 k_X6_273 dX6_draw_12 ?_
    refine a_lmul dX6_draw_15 ?_
    refine a_ldc2 12345 k_X6_275 dX6_draw_16 ?_
    refine a_ladd dX6_draw_19 ?_
    refine a_ldc2 2147483648 k_X6_277 dX6_draw_20 ?_
    refine a_lrem dX6_draw_23 (by decide +kernel) ?_
    refine a_l2i dX6_draw_24 ?_
    rw [sd_eq hs]
    refine a_put f_X6_53 p_X6_53 dX6_draw_25 hb (Nat.le_of_ble_eq_true rfl) rfl rfl (by omega) (fun H1 hb hz1 hq1 => ?_)
    have hb : Ob G H1 b 6 [.ref (b + 1), .int fp, .ref kr, .ref sp, .ref (b + 13), .ref (b + 17), .ref (b + 21), .ref (b + 103), .int (nI (sdF sd)), .ref (b + 104), .ref (b + 107)] := hb
    have hF : ∀ q : Nat, q ≠ b → H1[q]? = H[q]? := fun q hq => (hq1 q (by omega)).trans (hF q hq)
    refine a_aload_n 0 dX6_draw_28 rfl rfl ?_
    refine a_get f_X6_53 dX6_draw_29 hb rfl ?_
    refine a_ldcw 65536 k_X6_279 dX6_draw_32 ?_
    refine a_idivN (a := sdF sd) (b := 65536) dX6_draw_35 (by omega) (by omega) (by omega) ?_
    refine a_iload_n 1 dX6_draw_36 rfl rfl ?_
    refine a_iremN (a := (sdF sd) / 65536) (b := k) dX6_draw_37 (by omega) (by omega) (by omega) ?_
    refine a_ret dX6_draw_38 ⟨⟨ri ?_, ?_⟩, rfl, rfl⟩
    · rfl
    · exact ⟨hb, hF⟩
  · skip
    omega
set_option maxHeartbeats 4000000 in
set_option maxRecDepth 100000 in
theorem c_X6_couldHaveSpoken {G : GT} {B : Nat} {l : Launch} {H : Heap} {b kr sp : Nat} {fp dr : Int32} {kb : Bool} {ka ks kw : Int32} {n nv : Nat} {kS kU kK kV dd : DD} {sn : Nat} {sw sg : Nat → Nat} (hS : Pr G H (b + 104) 6 sn (fun i => nI (sw i)) (fun i => nI (sg i))) (hsw : ∀ i, i < sn → sw i < n) {v : Nat} (hv : v < nv) (hC : Bc G H b kr sp fp dr kb ka ks kw n nv kS kU kK kV dd) : AM G B l yX6_couldHaveSpoken cX6_couldHaveSpoken 4 (some .boolean) 5 0 0 [.ref b, .int (nI v)] H (fun rv H' => rv = some (.int (bI (csF n dd kV sw sg v sn))) ∧ (H' = H)) := by
  have hC0 := hC
  obtain ⟨hb, hK, hD, hkr⟩ := hC
  have hK0 := hK
  have hN := hD
  unfold bxL at hb
  obtain ⟨fS3, fU3, fK3, fV3, hk3, ha3, hb3, hc3, he3, eS3, eU3, eK3, eV3, hn3, hnv3⟩ := hK
  obtain ⟨fS, fU, fO, hd, hs, hu, ho, eS, eU, eO, hn⟩ := hD
  have hS0 := hS
  obtain ⟨fA, fB, hp, hpa, hpb, eA, eB, hct, hcap⟩ := hS
  refine AM.ofZ (lv := [(0, .ref b), (1, .int (nI v))]) (by decide +kernel) (Nat.le_of_ble_eq_true rfl) rfl ?_ (fun _ _ h => ⟨_, h.1⟩)
  refine a_iconst 0 dX6_couldHaveSpoken_0 (by decide) ?_
  refine a_istore_n (lv' := [(2, .int 0), (0, .ref b), (1, .int (nI v))]) dX6_couldHaveSpoken_1 rfl (by decide) rfl ?_
  have L2 : ∀ (fu : Nat) (k : Nat), k ≤ sn → csF n dd kV sw sg v k = true → sn - k < fu → AW G B l { frames := 5, cells := 0, slots := 0, locals := 27 * 5 } yX6_couldHaveSpoken.cls cX6_couldHaveSpoken 4 false (fun rv H' ce' sl' => (rv = some (.int (bI (csF n dd kV sw sg v sn))) ∧ (H' = H)) ∧ ce' = 0 ∧ sl' = 0) 2 [(0, .ref b), (1, .int (nI v)), (2, .int (nI k))] [] H 0 0 := by
    intro fu
    induction fu with
    | zero => intro k hk hg hm2; exact absurd hm2 (Nat.not_lt_zero _)
    | succ fu ih2 =>
      intro k hk hg hm2
      refine a_iload_n 2 dX6_couldHaveSpoken_2 rfl rfl ?_
      refine a_aload_n 0 dX6_couldHaveSpoken_3 rfl rfl ?_
      refine a_get f_X6_61 dX6_couldHaveSpoken_4 hb rfl ?_
      refine a_get f_X6_127 dX6_couldHaveSpoken_7 hp rfl ?_
      refine a_icmpgeN (a := k) (b := sn) 57 dX6_couldHaveSpoken_10 (by decide) (by omega) (by omega) (fun c10 => ?_) (fun c10 => ?_)
      · skip
        refine a_iconst 1 dX6_couldHaveSpoken_57 (by decide) ?_
        refine a_ret dX6_couldHaveSpoken_58 ⟨⟨ri ?_, ?_⟩, rfl, rfl⟩
        · rw [show sn = k by omega, hg]; rfl
        · rfl
      · skip
        refine a_aload_n 0 dX6_couldHaveSpoken_13 rfl rfl ?_
        refine a_get f_X6_61 dX6_couldHaveSpoken_14 hb rfl ?_
        refine a_get f_X6_247 dX6_couldHaveSpoken_17 hp rfl ?_
        refine a_iload_n 2 dX6_couldHaveSpoken_20 rfl rfl ?_
        refine a_ialdN (j := k) dX6_couldHaveSpoken_21 hpa (by omega) (by decide) ?_
        refine a_toeq (nI (sw k)) (eA _ (by omega)) ?_
        refine a_istore_n (lv' := [(3, .int (nI (sw k))), (0, .ref b), (1, .int (nI v)), (2, .int (nI k))]) dX6_couldHaveSpoken_22 rfl (by decide) rfl ?_
        refine a_aload_n 1 dX6_couldHaveSpoken_23 rfl rfl ?_
        refine a_iload_n 0 dX6_couldHaveSpoken_24 rfl rfl ?_
        refine a_callVp (As := [.int (nI (sw k))]) (rest := []) (d := 0) (mc := 0) (ms := 0) (x := bI (wIx n (nI (sw k)))) (ci := 6) l_X6_131 im_X6_isWord se_X6_isWord ⟨_, rfl, rfl⟩ dX6_couldHaveSpoken_25 ⟨Nat.le_of_ble_eq_true rfl, Nat.le_of_ble_eq_true rfl⟩ rfl (Nat.le_of_ble_eq_true rfl) ⟨Nat.le_of_ble_eq_true rfl, Nat.le_of_ble_eq_true rfl⟩ hb (c_X6_isWord hC0) ?_
        refine a_ifeqB 51 dX6_couldHaveSpoken_28 (by decide) (fun c28 => ?_) (fun c28 => ?_)
        · skip
          exact absurd c28 (by rw [wIx_nI (hsw k (by omega)) (by omega)]; decide)
        · skip
          refine a_aload_n 1 dX6_couldHaveSpoken_31 rfl rfl ?_
          refine a_iload_n 0 dX6_couldHaveSpoken_32 rfl rfl ?_
          refine a_iload_n 2 dX6_couldHaveSpoken_33 rfl rfl ?_
          refine a_callVp (As := [.int (nI (sw k)), .int (nI v)]) (rest := []) (d := 4) (mc := 0) (ms := 0) (x := unF n dd kV (sw k) v) (ci := 6) l_X6_207 im_X6_understood se_X6_understood ⟨_, rfl, rfl⟩ dX6_couldHaveSpoken_34 ⟨Nat.le_of_ble_eq_true rfl, Nat.le_of_ble_eq_true rfl⟩ rfl (Nat.le_of_ble_eq_true rfl) ⟨Nat.le_of_ble_eq_true rfl, Nat.le_of_ble_eq_true rfl⟩ hb (c_X6_understood (hsw k (by omega)) hv hC0) ?_
          refine a_aload_n 1 dX6_couldHaveSpoken_37 rfl rfl ?_
          refine a_get f_X6_61 dX6_couldHaveSpoken_38 hb rfl ?_
          refine a_get f_X6_250 dX6_couldHaveSpoken_41 hp rfl ?_
          refine a_iload_n 3 dX6_couldHaveSpoken_44 rfl rfl ?_
          refine a_ialdN (j := k) dX6_couldHaveSpoken_45 hpb (by omega) (by decide) ?_
          refine a_toeq (nI (sg k)) (eB _ (by omega)) ?_
          refine a_icmpeq 51 dX6_couldHaveSpoken_46 (by decide) (fun c46 => ?_) (fun c46 => ?_)
          · skip
            refine a_iincN (q := 3) (lv' := [(2, .int (nI (k + 1))), (3, .int (nI (sw k))), (0, .ref b), (1, .int (nI v))]) dX6_couldHaveSpoken_51 rfl (by decide) rfl ?_
            refine a_goto 2 dX6_couldHaveSpoken_54 (by decide) ?_
            refine a_sub [2, 3, 0] rfl ?_
            exact ih2 _ (by omega) (by simp only [csF]; rw [hg, c46, decide_eq_true rfl]; rfl) (by omega)
          · skip
            refine a_iconst 0 dX6_couldHaveSpoken_49 (by decide) ?_
            refine a_ret dX6_couldHaveSpoken_50 ⟨⟨ri ?_, ?_⟩, rfl, rfl⟩
            · rw [csF_false (k := k + 1) (by omega) (by simp only [csF]; rw [decide_eq_false c46, Bool.and_false])]; rfl
            · rfl
  refine a_sub [1, 2, 0] rfl ?_
  exact L2 _ 0 (Nat.zero_le _) rfl (Nat.lt_succ_self _)
set_option maxHeartbeats 4000000 in
set_option maxRecDepth 100000 in
theorem c_X6_greatestPart {G : GT} {B : Nat} {l : Launch} {H : Heap} {b kr sp : Nat} {fp dr : Int32} {kb : Bool} {ka ks kw : Int32} {n nv : Nat} {kS kU kK kV dd : DD} {w : Nat} {set : Int32} (hw : w < n) (hC : Bc G H b kr sp fp dr kb ka ks kw n nv kS kU kK kV dd) : AM G B l yX6_greatestPart cX6_greatestPart 7 (some .int) 5 0 0 [.ref b, .int (nI w), .int set] H (fun rv H' => rv = some (.int (nI (gpO n nv dd kV w set n))) ∧ (H' = H)) := by
  have hC0 := hC
  obtain ⟨hb, hK, hD, hkr⟩ := hC
  have hK0 := hK
  have hN := hD
  unfold bxL at hb
  obtain ⟨fS3, fU3, fK3, fV3, hk3, ha3, hb3, hc3, he3, eS3, eU3, eK3, eV3, hn3, hnv3⟩ := hK
  obtain ⟨fS, fU, fO, hd, hs, hu, ho, eS, eU, eO, hn⟩ := hD
  refine AM.ofI (lv := [(0, .ref b), (1, .int (nI w)), (2, .int set)]) (by decide +kernel) (Nat.le_of_ble_eq_true rfl) rfl ?_ (fun _ h => by cases h.1)
  refine a_iconst 0 dX6_greatestPart_0 (by decide) ?_
  refine a_istore_n (lv' := [(3, .int 0), (0, .ref b), (1, .int (nI w)), (2, .int set)]) dX6_greatestPart_1 rfl (by decide) rfl ?_
  refine a_iconst 0 dX6_greatestPart_2 (by decide) ?_
  refine a_istore (lv' := [(4, .int 0), (3, .int 0), (0, .ref b), (1, .int (nI w)), (2, .int set)]) dX6_greatestPart_3 (by decide) rfl ?_
  have L5 : ∀ (fu : Nat) (g r : Nat), g ≤ n → r = gpO n nv dd kV w set g → n - g < fu → AW G B l { frames := 5, cells := 0, slots := 0, locals := 27 * 5 } yX6_greatestPart.cls cX6_greatestPart 7 false (fun rv H' ce' sl' => (rv = some (.int (nI (gpO n nv dd kV w set n))) ∧ (H' = H)) ∧ ce' = 0 ∧ sl' = 0) 5 [(0, .ref b), (1, .int (nI w)), (2, .int set), (3, .int (nI r)), (4, .int (nI g))] [] H 0 0 := by
    intro fu
    induction fu with
    | zero => intro g r hk hg hm5; exact absurd hm5 (Nat.not_lt_zero _)
    | succ fu ih5 =>
      intro g r hk hg hm5
      have hle := gpO_le (n := n) (nv := nv) (dd := dd) (kV := kV) (w := w) (set := set) (g := g)
      refine a_iload 4 dX6_greatestPart_5 rfl ?_
      refine a_aload_n 0 dX6_greatestPart_7 rfl rfl ?_
      refine a_get f_X6_23 dX6_greatestPart_8 hb rfl ?_
      refine a_get f_X6_100 dX6_greatestPart_11 hk3 rfl ?_
      refine a_icmpgeN (a := g) (b := n) 79 dX6_greatestPart_14 (by decide) (by omega) (by omega) (fun c14 => ?_) (fun c14 => ?_)
      · skip
        refine a_iload_n 3 dX6_greatestPart_79 rfl rfl ?_
        refine a_ret dX6_greatestPart_80 ⟨⟨ri ?_, ?_⟩, rfl, rfl⟩
        · rw [hg, show n = g by omega]
        · rfl
      · skip
        refine a_iconst 0 dX6_greatestPart_17 (by decide) ?_
        refine a_istore (lv' := [(5, .int 0), (0, .ref b), (1, .int (nI w)), (2, .int set), (3, .int (nI r)), (4, .int (nI g))]) dX6_greatestPart_18 (by decide) rfl ?_
        refine a_iconst 0 dX6_greatestPart_20 (by decide) ?_
        refine a_istore (lv' := [(6, .int 0), (5, .int 0), (0, .ref b), (1, .int (nI w)), (2, .int set), (3, .int (nI r)), (4, .int (nI g))]) dX6_greatestPart_21 (by decide) rfl ?_
        have L23 : ∀ (fu : Nat) (v c : Nat), v ≤ nv → c = gpI n dd kV w set g v → nv - v < fu → AW G B l { frames := 5, cells := 0, slots := 0, locals := 27 * 5 } yX6_greatestPart.cls cX6_greatestPart 7 false (fun rv H' ce' sl' => (rv = some (.int (nI (gpO n nv dd kV w set n))) ∧ (H' = H)) ∧ ce' = 0 ∧ sl' = 0) 23 [(0, .ref b), (1, .int (nI w)), (2, .int set), (3, .int (nI r)), (4, .int (nI g)), (5, .int (nI c)), (6, .int (nI v))] [] H 0 0 := by
          intro fu
          induction fu with
          | zero => intro v c hk2 hh hm23; exact absurd hm23 (Nat.not_lt_zero _)
          | succ fu ih23 =>
            intro v c hk2 hh hm23
            have hlc := gpI_le (n := n) (dd := dd) (kV := kV) (w := w) (set := set) (g := g) (v := v)
            refine a_iload 6 dX6_greatestPart_23 rfl ?_
            refine a_aload_n 0 dX6_greatestPart_25 rfl rfl ?_
            refine a_get f_X6_23 dX6_greatestPart_26 hb rfl ?_
            refine a_get f_X6_112 dX6_greatestPart_29 hk3 rfl ?_
            refine a_icmpgeN (a := v) (b := nv) 66 dX6_greatestPart_32 (by decide) (by omega) (by omega) (fun c32 => ?_) (fun c32 => ?_)
            · skip
              refine a_iload_n 3 dX6_greatestPart_66 rfl rfl ?_
              refine a_iload 5 dX6_greatestPart_67 rfl ?_
              refine a_max ml_X6_280 dX6_greatestPart_69 (Nat.le_of_ble_eq_true rfl) (Nat.le_of_ble_eq_true rfl) ⟨Nat.le_of_ble_eq_true rfl, Nat.le_of_ble_eq_true rfl⟩ ?_
              refine a_toeq (nI (max r c)) (mxN (by omega) (by omega)) ?_
              refine a_istore_n (lv' := [(3, .int (nI (max r c))), (0, .ref b), (1, .int (nI w)), (2, .int set), (4, .int (nI g)), (5, .int (nI c)), (6, .int (nI v))]) dX6_greatestPart_72 rfl (by decide) rfl ?_
              refine a_iincN (q := 4) (lv' := [(4, .int (nI (g + 1))), (3, .int (nI (max r c))), (0, .ref b), (1, .int (nI w)), (2, .int set), (5, .int (nI c)), (6, .int (nI v))]) dX6_greatestPart_73 rfl (by decide) rfl ?_
              refine a_goto 5 dX6_greatestPart_76 (by decide) ?_
              refine a_sub [2, 3, 4, 1, 0] rfl ?_
              exact ih5 _ _ (by omega) (by simp only [gpO]; rw [hg, hh, show nv = v by omega]) (by omega)
            · skip
              refine a_iload_n 2 dX6_greatestPart_35 rfl rfl ?_
              refine a_iload 6 dX6_greatestPart_36 rfl ?_
              refine a_ishr dX6_greatestPart_38 ?_
              refine a_iconst 1 dX6_greatestPart_39 (by decide) ?_
              refine a_iand dX6_greatestPart_40 ?_
              refine a_iconst 1 dX6_greatestPart_41 (by decide) ?_
              refine a_icmpne 60 dX6_greatestPart_42 (by decide) (fun c42 => ?_) (fun c42 => ?_)
              · skip
                refine a_iincN (q := 6) (lv' := [(6, .int (nI (v + 1))), (0, .ref b), (1, .int (nI w)), (2, .int set), (3, .int (nI r)), (4, .int (nI g)), (5, .int (nI c))]) dX6_greatestPart_60 rfl (by decide) rfl ?_
                refine a_goto 23 dX6_greatestPart_63 (by decide) ?_
                refine a_sub [1, 2, 3, 4, 5, 6, 0] rfl ?_
                exact ih23 _ _ (by omega) (by simp only [gpI]; rw [if_neg (fun h => c42 h.1), hh]) (by omega)
              · skip
                refine a_aload_n 0 dX6_greatestPart_45 rfl rfl ?_
                refine a_iload_n 1 dX6_greatestPart_46 rfl rfl ?_
                refine a_iload 6 dX6_greatestPart_47 rfl ?_
                refine a_callVp (As := [.int (nI w), .int (nI v)]) (rest := []) (d := 4) (mc := 0) (ms := 0) (x := unF n dd kV w v) (ci := 6) l_X6_207 im_X6_understood se_X6_understood ⟨_, rfl, rfl⟩ dX6_greatestPart_49 ⟨Nat.le_of_ble_eq_true rfl, Nat.le_of_ble_eq_true rfl⟩ rfl (Nat.le_of_ble_eq_true rfl) ⟨Nat.le_of_ble_eq_true rfl, Nat.le_of_ble_eq_true rfl⟩ hb (c_X6_understood hw (by omega) hC0) ?_
                refine a_iload 4 dX6_greatestPart_52 rfl ?_
                refine a_icmpne 60 dX6_greatestPart_54 (by decide) (fun c54 => ?_) (fun c54 => ?_)
                · skip
                  refine a_iincN (q := 6) (lv' := [(6, .int (nI (v + 1))), (0, .ref b), (1, .int (nI w)), (2, .int set), (3, .int (nI r)), (4, .int (nI g)), (5, .int (nI c))]) dX6_greatestPart_60 rfl (by decide) rfl ?_
                  refine a_goto 23 dX6_greatestPart_63 (by decide) ?_
                  refine a_sub [1, 2, 3, 4, 5, 6, 0] rfl ?_
                  exact ih23 _ _ (by omega) (by simp only [gpI]; rw [if_neg (fun h => c54 h.2), hh]) (by omega)
                · skip
                  refine a_iincN (q := 5) (lv' := [(5, .int (nI (c + 1))), (0, .ref b), (1, .int (nI w)), (2, .int set), (3, .int (nI r)), (4, .int (nI g)), (6, .int (nI v))]) dX6_greatestPart_57 rfl (by decide) rfl ?_
                  refine a_iincN (q := 6) (lv' := [(6, .int (nI (v + 1))), (5, .int (nI (c + 1))), (0, .ref b), (1, .int (nI w)), (2, .int set), (3, .int (nI r)), (4, .int (nI g))]) dX6_greatestPart_60 rfl (by decide) rfl ?_
                  refine a_goto 23 dX6_greatestPart_63 (by decide) ?_
                  refine a_sub [2, 3, 4, 5, 6, 1, 0] rfl ?_
                  exact ih23 _ _ (by omega) (by simp only [gpI]; rw [if_pos ⟨c42, c54⟩, hh]) (by omega)
        refine a_sub [2, 3, 4, 5, 6, 1, 0] rfl ?_
        exact L23 _ 0 0 (Nat.zero_le _) rfl (Nat.lt_succ_self _)
  refine a_sub [2, 3, 4, 1, 0] rfl ?_
  exact L5 _ 0 0 (Nat.zero_le _) rfl (Nat.lt_succ_self _)
set_option maxHeartbeats 4000000 in
set_option maxRecDepth 100000 in
theorem c_X6_voicesHeardRight {G : GT} {B : Nat} {l : Launch} {H : Heap} {b kr sp : Nat} {fp dr : Int32} {kb : Bool} {ka ks kw : Int32} {n nv : Nat} {kS kU kK kV dd : DD} {tn : Nat} {td : DD} (hT : Dd G H (b + 17) n td) {w nd : Nat} {s : Int32} (hw : w < n) (hnd : nd ≤ 5) (hC : Bc G H b kr sp fp dr kb ka ks kw n nv kS kU kK kV dd) (hB : B ≤ b) : AM G B l yX6_voicesHeardRight cX6_voicesHeardRight 6 (some .int) 4 0 0 [.ref b, .int (nI w), .int s, .int (nI nd)] H (fun rv H' => rv = some (.int (nI (vhF n nv (upd td w s) kV w s nd nv 0 0))) ∧ (Dd G H' (b + 17) n (upd td w s) ∧ ∀ q : Nat, ¬ (b + 17 ≤ q ∧ q < b + 21) → H'[q]? = H[q]?)) := by
  obtain ⟨fS4, fU4, fO4, hd4, hs4, hu4, ho4, eS4, eU4, eO4, -⟩ := hT
  have hC0 := hC
  obtain ⟨hb, hK, hD, hkr⟩ := hC
  have hK0 := hK
  have hN := hD
  unfold bxL at hb
  obtain ⟨fS3, fU3, fK3, fV3, hk3, ha3, hb3, hc3, he3, eS3, eU3, eK3, eV3, hn3, hnv3⟩ := hK
  obtain ⟨fS, fU, fO, hd, hs, hu, ho, eS, eU, eO, hn⟩ := hD
  have hF : ∀ q : Nat, ¬ (b + 17 ≤ q ∧ q < b + 21) → H[q]? = H[q]? := fun _ _ => rfl
  refine AM.ofI (lv := [(0, .ref b), (1, .int (nI w)), (2, .int s), (3, .int (nI nd))]) (by decide +kernel) (Nat.le_of_ble_eq_true rfl) rfl ?_ (fun _ h => by cases h.1)
  refine a_aload_n 0 dX6_voicesHeardRight_0 rfl rfl ?_
  refine a_get f_X6_37 dX6_voicesHeardRight_1 hb rfl ?_
  refine a_get f_X6_135 dX6_voicesHeardRight_4 hd4 rfl ?_
  refine a_iload_n 1 dX6_voicesHeardRight_7 rfl rfl ?_
  refine a_iload_n 2 dX6_voicesHeardRight_8 rfl rfl ?_
  refine a_iastN (j := w) dX6_voicesHeardRight_9 hs4 (by omega) (by decide) (by omega) (fun H1 hs4 hz1 hq1 => ?_)
  have hs4 : Ai G H1 (b + 17 + 1) 8 (upd fS4 w s) := hs4
  have hb := hb.kept (hq1 _ (by omega))
  have hk3 := hk3.kept (hq1 _ (by omega))
  have ha3 := ha3.kept (hq1 _ (by omega))
  have hb3 := hb3.kept (hq1 _ (by omega))
  have hc3 := hc3.kept (hq1 _ (by omega))
  have he3 := he3.kept (hq1 _ (by omega))
  have hd := hd.kept (hq1 _ (by omega))
  have hs := hs.kept (hq1 _ (by omega))
  have hu := hu.kept (hq1 _ (by omega))
  have ho := ho.kept (hq1 _ (by omega))
  have hd4 := hd4.kept (hq1 _ (by omega))
  have hu4 := hu4.kept (hq1 _ (by omega))
  have ho4 := ho4.kept (hq1 _ (by omega))
  have hF : ∀ q : Nat, ¬ (b + 17 ≤ q ∧ q < b + 21) → H1[q]? = H[q]? := fun q hq => (hq1 q (by omega)).trans (hF q hq)
  have hD4 : Dd G H1 (b + 17) n (upd td w s) := by
    refine Dd.mk' hd4 hs4 hu4 ho4 hn ?_ ?_ ?_ ?_ ?_ ?_
    all_goals try intro i hi
    all_goals try dsimp only
    all_goals simp only [upd]
    all_goals repeat' split
    all_goals first | omega | rfl | contradiction | exact eS4 _ (by assumption) | exact eU4 _ (by assumption) | exact eO4 _ (by assumption)
  refine a_iconst 0 dX6_voicesHeardRight_10 (by decide) ?_
  refine a_istore (lv' := [(4, .int 0), (0, .ref b), (1, .int (nI w)), (2, .int s), (3, .int (nI nd))]) dX6_voicesHeardRight_11 (by decide) rfl ?_
  refine a_iconst 0 dX6_voicesHeardRight_13 (by decide) ?_
  refine a_istore (lv' := [(5, .int 0), (4, .int 0), (0, .ref b), (1, .int (nI w)), (2, .int s), (3, .int (nI nd))]) dX6_voicesHeardRight_14 (by decide) rfl ?_
  have L16 : ∀ (fu : Nat) (v c : Nat), v ≤ nv → c ≤ v → vhF n nv (upd td w s) kV w s nd nv 0 0 = vhF n nv (upd td w s) kV w s nd (nv - v) v c → nv - v < fu → AW G B l { frames := 4, cells := 0, slots := 0, locals := 27 * 4 } yX6_voicesHeardRight.cls cX6_voicesHeardRight 6 false (fun rv H' ce' sl' => (rv = some (.int (nI (vhF n nv (upd td w s) kV w s nd nv 0 0))) ∧ (Dd G H' (b + 17) n (upd td w s) ∧ ∀ q : Nat, ¬ (b + 17 ≤ q ∧ q < b + 21) → H'[q]? = H[q]?)) ∧ ce' = 0 ∧ sl' = 0) 16 [(0, .ref b), (1, .int (nI w)), (2, .int s), (3, .int (nI nd)), (4, .int (nI c)), (5, .int (nI v))] [] H1 0 0 := by
    intro fu
    induction fu with
    | zero => intro v c hk hc hg hm16; exact absurd hm16 (Nat.not_lt_zero _)
    | succ fu ih16 =>
      intro v c hk hc hg hm16
      refine a_iload 5 dX6_voicesHeardRight_16 rfl ?_
      refine a_aload_n 0 dX6_voicesHeardRight_18 rfl rfl ?_
      refine a_get f_X6_23 dX6_voicesHeardRight_19 hb rfl ?_
      refine a_get f_X6_112 dX6_voicesHeardRight_22 hk3 rfl ?_
      refine a_icmpgeN (a := v) (b := nv) 79 dX6_voicesHeardRight_25 (by decide) (by omega) (by omega) (fun c25 => ?_) (fun c25 => ?_)
      · skip
        refine a_iload 4 dX6_voicesHeardRight_79 rfl ?_
        refine a_ret dX6_voicesHeardRight_81 ⟨⟨ri ?_, ?_⟩, rfl, rfl⟩
        · congr 1
          rw [hg]
          by_cases e : v < nv
          · rw [show nv - v = (nv - (v + 1)) + 1 by omega]; unfold vhF; rw [if_pos e, if_pos (by omega)]
          · rw [show nv - v = 0 by omega]; rfl
        · exact ⟨hD4, hF⟩
      · skip
        refine a_iload 4 dX6_voicesHeardRight_28 rfl ?_
        refine a_aload_n 0 dX6_voicesHeardRight_30 rfl rfl ?_
        refine a_get f_X6_23 dX6_voicesHeardRight_31 hb rfl ?_
        refine a_get f_X6_112 dX6_voicesHeardRight_34 hk3 rfl ?_
        refine a_iaddN (a := c) (b := nv) dX6_voicesHeardRight_37 ?_
        refine a_iload 5 dX6_voicesHeardRight_38 rfl ?_
        refine a_isubN (a := c + nv) (b := v) dX6_voicesHeardRight_40 (by omega) ?_
        refine a_iload_n 3 dX6_voicesHeardRight_41 rfl rfl ?_
        refine a_icmpltN (a := (c + nv) - v) (b := nd) 79 dX6_voicesHeardRight_42 (by decide) (by omega) (by omega) (fun c42 => ?_) (fun c42 => ?_)
        · skip
          refine a_iload 4 dX6_voicesHeardRight_79 rfl ?_
          refine a_ret dX6_voicesHeardRight_81 ⟨⟨ri ?_, ?_⟩, rfl, rfl⟩
          · congr 1
            rw [hg]
            by_cases e : v < nv
            · rw [show nv - v = (nv - (v + 1)) + 1 by omega]; unfold vhF; rw [if_pos e, if_pos (by omega)]
            · rw [show nv - v = 0 by omega]; rfl
          · exact ⟨hD4, hF⟩
        · skip
          refine a_aload_n 0 dX6_voicesHeardRight_45 rfl rfl ?_
          refine a_get f_X6_37 dX6_voicesHeardRight_46 hb rfl ?_
          refine a_iload_n 2 dX6_voicesHeardRight_49 rfl rfl ?_
          refine a_aload_n 0 dX6_voicesHeardRight_50 rfl rfl ?_
          refine a_get f_X6_23 dX6_voicesHeardRight_51 hb rfl ?_
          refine a_get f_X6_151 dX6_voicesHeardRight_54 hk3 rfl ?_
          refine a_iload 5 dX6_voicesHeardRight_57 rfl ?_
          refine a_ialdN (j := v) dX6_voicesHeardRight_59 he3 (by omega) (by decide) ?_
          refine a_toeq (kV v) (eV3 _ (by omega)) ?_
          refine a_callSp (As := [.int s, .int (kV v)]) (rest := [.ref (b + 17)]) (d := 0) (mc := 0) (ms := 0) (x := shF s (kV v)) l_X6_265 st_X6_shifted dX6_voicesHeardRight_60 ⟨Nat.le_of_ble_eq_true rfl, Nat.le_of_ble_eq_true rfl⟩ rfl (Nat.le_of_ble_eq_true rfl) ⟨Nat.le_of_ble_eq_true rfl, Nat.le_of_ble_eq_true rfl⟩ (c_X6_shifted) ?_
          refine a_callVp (As := [.int (shF s (kV v))]) (rest := []) (d := 3) (mc := 0) (ms := 0) (x := guF n (upd td w s) (shF s (kV v))) (ci := 0) l_X6_193 im_X0_strongest se_X0_strongest ⟨_, rfl, rfl⟩ dX6_voicesHeardRight_63 ⟨Nat.le_of_ble_eq_true rfl, Nat.le_of_ble_eq_true rfl⟩ rfl (Nat.le_of_ble_eq_true rfl) ⟨Nat.le_of_ble_eq_true rfl, Nat.le_of_ble_eq_true rfl⟩ hd4 (c_X0_strongest hD4) ?_
          refine a_iload_n 1 dX6_voicesHeardRight_66 rfl rfl ?_
          refine a_icmpne 73 dX6_voicesHeardRight_67 (by decide) (fun c67 => ?_) (fun c67 => ?_)
          · skip
            refine a_iincN (q := 5) (lv' := [(5, .int (nI (v + 1))), (0, .ref b), (1, .int (nI w)), (2, .int s), (3, .int (nI nd)), (4, .int (nI c))]) dX6_voicesHeardRight_73 rfl (by decide) rfl ?_
            refine a_goto 16 dX6_voicesHeardRight_76 (by decide) ?_
            refine a_sub [1, 2, 3, 4, 5, 0] rfl ?_
            exact ih16 _ _ (by omega) (by omega) (by rw [hg, show nv - v = (nv - (v + 1)) + 1 by omega]; conv => { lhs; unfold vhF }; rw [if_pos (by omega), if_neg (by omega)]; first | rw [if_pos c67] | rw [if_neg c67]) (by omega)
          · skip
            refine a_iincN (q := 4) (lv' := [(4, .int (nI (c + 1))), (0, .ref b), (1, .int (nI w)), (2, .int s), (3, .int (nI nd)), (5, .int (nI v))]) dX6_voicesHeardRight_70 rfl (by decide) rfl ?_
            refine a_iincN (q := 5) (lv' := [(5, .int (nI (v + 1))), (4, .int (nI (c + 1))), (0, .ref b), (1, .int (nI w)), (2, .int s), (3, .int (nI nd))]) dX6_voicesHeardRight_73 rfl (by decide) rfl ?_
            refine a_goto 16 dX6_voicesHeardRight_76 (by decide) ?_
            refine a_sub [2, 3, 4, 5, 1, 0] rfl ?_
            exact ih16 _ _ (by omega) (by omega) (by rw [hg, show nv - v = (nv - (v + 1)) + 1 by omega]; conv => { lhs; unfold vhF }; rw [if_pos (by omega), if_neg (by omega)]; first | rw [if_pos c67] | rw [if_neg c67]) (by omega)
  refine a_sub [2, 3, 4, 5, 1, 0] rfl ?_
  exact L16 _ 0 0 (Nat.zero_le _) (Nat.le_refl _) rfl (Nat.lt_succ_self _)
end
