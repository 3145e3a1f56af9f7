section
-- ===== PART A: goes FIRST, ahead of the names: the tables' words, and 'selects' of the private methods out of them =====
/-- a private method of a class that the tables say can be made, by its rows of tables_1 -/
def lw_okq (q : MethodName × Nat) : Prop := (q.1.cls ≠ "java/lang/invoke/MethodHandle" ∧ q.1.cls ≠ "java/lang/invoke/VarHandle") ∧ Cond.instantiable q.1.cls q.2 ∈ tables_1 ∧ Cond.privateMethod q.1 ∈ tables_1 ∧ Cond.instanceMethod q.1 ∈ tables_1
theorem lw_p0 : lw_okq (⟨"BeansBox$Reader", "append", "(I)Z"⟩, 4) := ⟨⟨by decide +kernel, by decide +kernel⟩, List.mem_of_getElem? (i := 20) (by decide +kernel), List.mem_of_getElem? (i := 230) (by decide +kernel), List.mem_of_getElem? (i := 231) (by decide +kernel)⟩
theorem lw_p1 : lw_okq (⟨"BeansBox$Reader", "readInto", "(LBeansBox$Kitchen;)I"⟩, 4) := ⟨⟨by decide +kernel, by decide +kernel⟩, List.mem_of_getElem? (i := 20) (by decide +kernel), List.mem_of_getElem? (i := 239) (by decide +kernel), List.mem_of_getElem? (i := 240) (by decide +kernel)⟩
theorem lw_p2 : lw_okq (⟨"BeansBox$Kitchen", "empty", "()V"⟩, 10) := ⟨⟨by decide +kernel, by decide +kernel⟩, List.mem_of_getElem? (i := 42) (by decide +kernel), List.mem_of_getElem? (i := 243) (by decide +kernel), List.mem_of_getElem? (i := 244) (by decide +kernel)⟩
theorem lw_p3 : lw_okq (⟨"BeansBox$Reader", "skipBlanks", "()V"⟩, 4) := ⟨⟨by decide +kernel, by decide +kernel⟩, List.mem_of_getElem? (i := 20) (by decide +kernel), List.mem_of_getElem? (i := 247) (by decide +kernel), List.mem_of_getElem? (i := 248) (by decide +kernel)⟩
theorem lw_p4 : lw_okq (⟨"BeansBox$Reader", "readClause", "(LBeansBox$Kitchen;)V"⟩, 4) := ⟨⟨by decide +kernel, by decide +kernel⟩, List.mem_of_getElem? (i := 20) (by decide +kernel), List.mem_of_getElem? (i := 251) (by decide +kernel), List.mem_of_getElem? (i := 252) (by decide +kernel)⟩
theorem lw_p5 : lw_okq (⟨"BeansBox$Reader", "letterHere", "()I"⟩, 4) := ⟨⟨by decide +kernel, by decide +kernel⟩, List.mem_of_getElem? (i := 20) (by decide +kernel), List.mem_of_getElem? (i := 255) (by decide +kernel), List.mem_of_getElem? (i := 256) (by decide +kernel)⟩
theorem lw_p6 : lw_okq (⟨"BeansBox$Reader", "stop", "(II)V"⟩, 4) := ⟨⟨by decide +kernel, by decide +kernel⟩, List.mem_of_getElem? (i := 20) (by decide +kernel), List.mem_of_getElem? (i := 259) (by decide +kernel), List.mem_of_getElem? (i := 260) (by decide +kernel)⟩
theorem lw_p7 : lw_okq (⟨"BeansBox$Reader", "readBox", "(LBeansBox$Kitchen;)V"⟩, 4) := ⟨⟨by decide +kernel, by decide +kernel⟩, List.mem_of_getElem? (i := 20) (by decide +kernel), List.mem_of_getElem? (i := 263) (by decide +kernel), List.mem_of_getElem? (i := 264) (by decide +kernel)⟩
theorem lw_p8 : lw_okq (⟨"BeansBox$Reader", "readNumber", "(I)I"⟩, 4) := ⟨⟨by decide +kernel, by decide +kernel⟩, List.mem_of_getElem? (i := 20) (by decide +kernel), List.mem_of_getElem? (i := 267) (by decide +kernel), List.mem_of_getElem? (i := 268) (by decide +kernel)⟩
theorem lw_p9 : lw_okq (⟨"BeansBox$Reader", "readEnd", "()V"⟩, 4) := ⟨⟨by decide +kernel, by decide +kernel⟩, List.mem_of_getElem? (i := 20) (by decide +kernel), List.mem_of_getElem? (i := 278) (by decide +kernel), List.mem_of_getElem? (i := 279) (by decide +kernel)⟩
theorem lw_p10 : lw_okq (⟨"BeansBox$Kitchen", "setBox", "(III)V"⟩, 10) := ⟨⟨by decide +kernel, by decide +kernel⟩, List.mem_of_getElem? (i := 42) (by decide +kernel), List.mem_of_getElem? (i := 282) (by decide +kernel), List.mem_of_getElem? (i := 283) (by decide +kernel)⟩
theorem lw_p11 : lw_okq (⟨"BeansBox$Reader", "readWord", "(LBeansBox$Kitchen;)V"⟩, 4) := ⟨⟨by decide +kernel, by decide +kernel⟩, List.mem_of_getElem? (i := 20) (by decide +kernel), List.mem_of_getElem? (i := 286) (by decide +kernel), List.mem_of_getElem? (i := 287) (by decide +kernel)⟩
theorem lw_p12 : lw_okq (⟨"BeansBox$Kitchen", "addWord", "(III)V"⟩, 10) := ⟨⟨by decide +kernel, by decide +kernel⟩, List.mem_of_getElem? (i := 42) (by decide +kernel), List.mem_of_getElem? (i := 290) (by decide +kernel), List.mem_of_getElem? (i := 291) (by decide +kernel)⟩
theorem lw_p13 : lw_okq (⟨"BeansBox$Reader", "readVoice", "(LBeansBox$Kitchen;)V"⟩, 4) := ⟨⟨by decide +kernel, by decide +kernel⟩, List.mem_of_getElem? (i := 20) (by decide +kernel), List.mem_of_getElem? (i := 294) (by decide +kernel), List.mem_of_getElem? (i := 295) (by decide +kernel)⟩
theorem lw_p14 : lw_okq (⟨"BeansBox$Kitchen", "addVoice", "(I)V"⟩, 10) := ⟨⟨by decide +kernel, by decide +kernel⟩, List.mem_of_getElem? (i := 42) (by decide +kernel), List.mem_of_getElem? (i := 298) (by decide +kernel), List.mem_of_getElem? (i := 299) (by decide +kernel)⟩
theorem lw_p15 : lw_okq (⟨"BeansBox$Reader", "forget", "()V"⟩, 4) := ⟨⟨by decide +kernel, by decide +kernel⟩, List.mem_of_getElem? (i := 20) (by decide +kernel), List.mem_of_getElem? (i := 302) (by decide +kernel), List.mem_of_getElem? (i := 303) (by decide +kernel)⟩
def lw_privs_1 : List (MethodName × Nat) := [(⟨"BeansBox$Reader", "append", "(I)Z"⟩, 4), (⟨"BeansBox$Reader", "readInto", "(LBeansBox$Kitchen;)I"⟩, 4), (⟨"BeansBox$Kitchen", "empty", "()V"⟩, 10), (⟨"BeansBox$Reader", "skipBlanks", "()V"⟩, 4), (⟨"BeansBox$Reader", "readClause", "(LBeansBox$Kitchen;)V"⟩, 4), (⟨"BeansBox$Reader", "letterHere", "()I"⟩, 4), (⟨"BeansBox$Reader", "stop", "(II)V"⟩, 4), (⟨"BeansBox$Reader", "readBox", "(LBeansBox$Kitchen;)V"⟩, 4), (⟨"BeansBox$Reader", "readNumber", "(I)I"⟩, 4), (⟨"BeansBox$Reader", "readEnd", "()V"⟩, 4), (⟨"BeansBox$Kitchen", "setBox", "(III)V"⟩, 10), (⟨"BeansBox$Reader", "readWord", "(LBeansBox$Kitchen;)V"⟩, 4), (⟨"BeansBox$Kitchen", "addWord", "(III)V"⟩, 10), (⟨"BeansBox$Reader", "readVoice", "(LBeansBox$Kitchen;)V"⟩, 4), (⟨"BeansBox$Kitchen", "addVoice", "(I)V"⟩, 10), (⟨"BeansBox$Reader", "forget", "()V"⟩, 4)]
theorem lw_r1 : ∀ q ∈ lw_privs_1, lw_okq q := List.forall_mem_cons.mpr ⟨lw_p0, List.forall_mem_cons.mpr ⟨lw_p1, List.forall_mem_cons.mpr ⟨lw_p2, List.forall_mem_cons.mpr ⟨lw_p3, List.forall_mem_cons.mpr ⟨lw_p4, List.forall_mem_cons.mpr ⟨lw_p5, List.forall_mem_cons.mpr ⟨lw_p6, List.forall_mem_cons.mpr ⟨lw_p7, List.forall_mem_cons.mpr ⟨lw_p8, List.forall_mem_cons.mpr ⟨lw_p9, List.forall_mem_cons.mpr ⟨lw_p10, List.forall_mem_cons.mpr ⟨lw_p11, List.forall_mem_cons.mpr ⟨lw_p12, List.forall_mem_cons.mpr ⟨lw_p13, List.forall_mem_cons.mpr ⟨lw_p14, List.forall_mem_cons.mpr ⟨lw_p15, fun _ h => absurd h List.not_mem_nil⟩⟩⟩⟩⟩⟩⟩⟩⟩⟩⟩⟩⟩⟩⟩⟩
theorem lw_p16 : lw_okq (⟨"BeansBox$Deeds", "begin", "(LBeansBox$Kitchen;)V"⟩, 7) := ⟨⟨by decide +kernel, by decide +kernel⟩, List.mem_of_getElem? (i := 93) (by decide +kernel), List.mem_of_getElem? (i := 306) (by decide +kernel), List.mem_of_getElem? (i := 307) (by decide +kernel)⟩
theorem lw_p17 : lw_okq (⟨"BeansBox$Past", "clear", "()V"⟩, 3) := ⟨⟨by decide +kernel, by decide +kernel⟩, List.mem_of_getElem? (i := 127) (by decide +kernel), List.mem_of_getElem? (i := 310) (by decide +kernel), List.mem_of_getElem? (i := 311) (by decide +kernel)⟩
theorem lw_p18 : lw_okq (⟨"BeansBox$Pairs", "clear", "()V"⟩, 3) := ⟨⟨by decide +kernel, by decide +kernel⟩, List.mem_of_getElem? (i := 149) (by decide +kernel), List.mem_of_getElem? (i := 314) (by decide +kernel), List.mem_of_getElem? (i := 315) (by decide +kernel)⟩
theorem lw_p19 : lw_okq (⟨"BeansBox$Deeds", "allOnList", "()I"⟩, 7) := ⟨⟨by decide +kernel, by decide +kernel⟩, List.mem_of_getElem? (i := 93) (by decide +kernel), List.mem_of_getElem? (i := 326) (by decide +kernel), List.mem_of_getElem? (i := 327) (by decide +kernel)⟩
theorem lw_p20 : lw_okq (⟨"BeansBox", "isWord", "(I)Z"⟩, 11) := ⟨⟨by decide +kernel, by decide +kernel⟩, List.mem_of_getElem? (i := 12) (by decide +kernel), List.mem_of_getElem? (i := 334) (by decide +kernel), List.mem_of_getElem? (i := 335) (by decide +kernel)⟩
theorem lw_p21 : lw_okq (⟨"BeansBox", "isVoice", "(I)Z"⟩, 11) := ⟨⟨by decide +kernel, by decide +kernel⟩, List.mem_of_getElem? (i := 12) (by decide +kernel), List.mem_of_getElem? (i := 343) (by decide +kernel), List.mem_of_getElem? (i := 344) (by decide +kernel)⟩
theorem lw_p22 : lw_okq (⟨"BeansBox$Past", "push", "(LBeansBox$Deeds;)V"⟩, 3) := ⟨⟨by decide +kernel, by decide +kernel⟩, List.mem_of_getElem? (i := 127) (by decide +kernel), List.mem_of_getElem? (i := 355) (by decide +kernel), List.mem_of_getElem? (i := 356) (by decide +kernel)⟩
theorem lw_p23 : lw_okq (⟨"BeansBox$Deeds", "copy", "(LBeansBox$Deeds;)V"⟩, 7) := ⟨⟨by decide +kernel, by decide +kernel⟩, List.mem_of_getElem? (i := 93) (by decide +kernel), List.mem_of_getElem? (i := 359) (by decide +kernel), List.mem_of_getElem? (i := 360) (by decide +kernel)⟩
theorem lw_p24 : lw_okq (⟨"BeansBox", "takeIn", "(I)I"⟩, 11) := ⟨⟨by decide +kernel, by decide +kernel⟩, List.mem_of_getElem? (i := 12) (by decide +kernel), List.mem_of_getElem? (i := 364) (by decide +kernel), List.mem_of_getElem? (i := 365) (by decide +kernel)⟩
theorem lw_p25 : lw_okq (⟨"BeansBox", "cheapest", "(LBeansBox$Deeds;I)I"⟩, 11) := ⟨⟨by decide +kernel, by decide +kernel⟩, List.mem_of_getElem? (i := 12) (by decide +kernel), List.mem_of_getElem? (i := 368) (by decide +kernel), List.mem_of_getElem? (i := 369) (by decide +kernel)⟩
theorem lw_p26 : lw_okq (⟨"BeansBox", "cost", "(LBeansBox$Deeds;II)I"⟩, 11) := ⟨⟨by decide +kernel, by decide +kernel⟩, List.mem_of_getElem? (i := 12) (by decide +kernel), List.mem_of_getElem? (i := 372) (by decide +kernel), List.mem_of_getElem? (i := 373) (by decide +kernel)⟩
theorem lw_p27 : lw_okq (⟨"BeansBox$Deeds", "strongest", "(I)I"⟩, 7) := ⟨⟨by decide +kernel, by decide +kernel⟩, List.mem_of_getElem? (i := 93) (by decide +kernel), List.mem_of_getElem? (i := 376) (by decide +kernel), List.mem_of_getElem? (i := 377) (by decide +kernel)⟩
theorem lw_p28 : lw_okq (⟨"BeansBox$Deeds", "weight", "(II)I"⟩, 7) := ⟨⟨by decide +kernel, by decide +kernel⟩, List.mem_of_getElem? (i := 93) (by decide +kernel), List.mem_of_getElem? (i := 380) (by decide +kernel), List.mem_of_getElem? (i := 381) (by decide +kernel)⟩
theorem lw_p29 : lw_okq (⟨"BeansBox$Deeds", "certainty", "(II)I"⟩, 7) := ⟨⟨by decide +kernel, by decide +kernel⟩, List.mem_of_getElem? (i := 93) (by decide +kernel), List.mem_of_getElem? (i := 391) (by decide +kernel), List.mem_of_getElem? (i := 392) (by decide +kernel)⟩
theorem lw_p30 : lw_okq (⟨"BeansBox$Deeds", "react", "(II)V"⟩, 7) := ⟨⟨by decide +kernel, by decide +kernel⟩, List.mem_of_getElem? (i := 93) (by decide +kernel), List.mem_of_getElem? (i := 396) (by decide +kernel), List.mem_of_getElem? (i := 397) (by decide +kernel)⟩
theorem lw_p31 : lw_okq (⟨"BeansBox$Deeds", "putOnList", "(I)V"⟩, 7) := ⟨⟨by decide +kernel, by decide +kernel⟩, List.mem_of_getElem? (i := 93) (by decide +kernel), List.mem_of_getElem? (i := 400) (by decide +kernel), List.mem_of_getElem? (i := 401) (by decide +kernel)⟩
def lw_privs_2 : List (MethodName × Nat) := [(⟨"BeansBox$Deeds", "begin", "(LBeansBox$Kitchen;)V"⟩, 7), (⟨"BeansBox$Past", "clear", "()V"⟩, 3), (⟨"BeansBox$Pairs", "clear", "()V"⟩, 3), (⟨"BeansBox$Deeds", "allOnList", "()I"⟩, 7), (⟨"BeansBox", "isWord", "(I)Z"⟩, 11), (⟨"BeansBox", "isVoice", "(I)Z"⟩, 11), (⟨"BeansBox$Past", "push", "(LBeansBox$Deeds;)V"⟩, 3), (⟨"BeansBox$Deeds", "copy", "(LBeansBox$Deeds;)V"⟩, 7), (⟨"BeansBox", "takeIn", "(I)I"⟩, 11), (⟨"BeansBox", "cheapest", "(LBeansBox$Deeds;I)I"⟩, 11), (⟨"BeansBox", "cost", "(LBeansBox$Deeds;II)I"⟩, 11), (⟨"BeansBox$Deeds", "strongest", "(I)I"⟩, 7), (⟨"BeansBox$Deeds", "weight", "(II)I"⟩, 7), (⟨"BeansBox$Deeds", "certainty", "(II)I"⟩, 7), (⟨"BeansBox$Deeds", "react", "(II)V"⟩, 7), (⟨"BeansBox$Deeds", "putOnList", "(I)V"⟩, 7)]
theorem lw_r2 : ∀ q ∈ lw_privs_2, lw_okq q := List.forall_mem_cons.mpr ⟨lw_p16, List.forall_mem_cons.mpr ⟨lw_p17, List.forall_mem_cons.mpr ⟨lw_p18, List.forall_mem_cons.mpr ⟨lw_p19, List.forall_mem_cons.mpr ⟨lw_p20, List.forall_mem_cons.mpr ⟨lw_p21, List.forall_mem_cons.mpr ⟨lw_p22, List.forall_mem_cons.mpr ⟨lw_p23, List.forall_mem_cons.mpr ⟨lw_p24, List.forall_mem_cons.mpr ⟨lw_p25, List.forall_mem_cons.mpr ⟨lw_p26, List.forall_mem_cons.mpr ⟨lw_p27, List.forall_mem_cons.mpr ⟨lw_p28, List.forall_mem_cons.mpr ⟨lw_p29, List.forall_mem_cons.mpr ⟨lw_p30, List.forall_mem_cons.mpr ⟨lw_p31, fun _ h => absurd h List.not_mem_nil⟩⟩⟩⟩⟩⟩⟩⟩⟩⟩⟩⟩⟩⟩⟩⟩
theorem lw_p32 : lw_okq (⟨"BeansBox$Deeds", "isThere", "(I)Z"⟩, 7) := ⟨⟨by decide +kernel, by decide +kernel⟩, List.mem_of_getElem? (i := 93) (by decide +kernel), List.mem_of_getElem? (i := 404) (by decide +kernel), List.mem_of_getElem? (i := 405) (by decide +kernel)⟩
theorem lw_p33 : lw_okq (⟨"BeansBox$Deeds", "correctTo", "(I)V"⟩, 7) := ⟨⟨by decide +kernel, by decide +kernel⟩, List.mem_of_getElem? (i := 93) (by decide +kernel), List.mem_of_getElem? (i := 413) (by decide +kernel), List.mem_of_getElem? (i := 414) (by decide +kernel)⟩
theorem lw_p34 : lw_okq (⟨"BeansBox$Deeds", "confirm", "()V"⟩, 7) := ⟨⟨by decide +kernel, by decide +kernel⟩, List.mem_of_getElem? (i := 93) (by decide +kernel), List.mem_of_getElem? (i := 422) (by decide +kernel), List.mem_of_getElem? (i := 423) (by decide +kernel)⟩
theorem lw_p35 : lw_okq (⟨"BeansBox", "draw", "(I)I"⟩, 11) := ⟨⟨by decide +kernel, by decide +kernel⟩, List.mem_of_getElem? (i := 12) (by decide +kernel), List.mem_of_getElem? (i := 435) (by decide +kernel), List.mem_of_getElem? (i := 436) (by decide +kernel)⟩
theorem lw_p36 : lw_okq (⟨"BeansBox", "spoken", "(II)I"⟩, 11) := ⟨⟨by decide +kernel, by decide +kernel⟩, List.mem_of_getElem? (i := 12) (by decide +kernel), List.mem_of_getElem? (i := 443) (by decide +kernel), List.mem_of_getElem? (i := 444) (by decide +kernel)⟩
theorem lw_p37 : lw_okq (⟨"BeansBox$Deeds", "learn", "(IZ)V"⟩, 7) := ⟨⟨by decide +kernel, by decide +kernel⟩, List.mem_of_getElem? (i := 93) (by decide +kernel), List.mem_of_getElem? (i := 450) (by decide +kernel), List.mem_of_getElem? (i := 451) (by decide +kernel)⟩
theorem lw_p38 : lw_okq (⟨"BeansBox$Past", "pop", "(LBeansBox$Deeds;)Z"⟩, 3) := ⟨⟨by decide +kernel, by decide +kernel⟩, List.mem_of_getElem? (i := 127) (by decide +kernel), List.mem_of_getElem? (i := 460) (by decide +kernel), List.mem_of_getElem? (i := 461) (by decide +kernel)⟩
theorem lw_p39 : lw_okq (⟨"BeansBox", "understood", "(II)I"⟩, 11) := ⟨⟨by decide +kernel, by decide +kernel⟩, List.mem_of_getElem? (i := 12) (by decide +kernel), List.mem_of_getElem? (i := 488) (by decide +kernel), List.mem_of_getElem? (i := 489) (by decide +kernel)⟩
theorem lw_p40 : lw_okq (⟨"BeansBox", "wordsSpokenAs", "(II)I"⟩, 11) := ⟨⟨by decide +kernel, by decide +kernel⟩, List.mem_of_getElem? (i := 12) (by decide +kernel), List.mem_of_getElem? (i := 496) (by decide +kernel), List.mem_of_getElem? (i := 497) (by decide +kernel)⟩
theorem lw_p41 : lw_okq (⟨"BeansBox$Deeds", "nearest", "(I)I"⟩, 7) := ⟨⟨by decide +kernel, by decide +kernel⟩, List.mem_of_getElem? (i := 93) (by decide +kernel), List.mem_of_getElem? (i := 515) (by decide +kernel), List.mem_of_getElem? (i := 516) (by decide +kernel)⟩
theorem lw_p42 : lw_okq (⟨"BeansBox", "voicesHeardRight", "(III)I"⟩, 11) := ⟨⟨by decide +kernel, by decide +kernel⟩, List.mem_of_getElem? (i := 12) (by decide +kernel), List.mem_of_getElem? (i := 532) (by decide +kernel), List.mem_of_getElem? (i := 533) (by decide +kernel)⟩
theorem lw_p43 : lw_okq (⟨"BeansBox$Pairs", "append", "(II)Z"⟩, 3) := ⟨⟨by decide +kernel, by decide +kernel⟩, List.mem_of_getElem? (i := 149) (by decide +kernel), List.mem_of_getElem? (i := 550) (by decide +kernel), List.mem_of_getElem? (i := 551) (by decide +kernel)⟩
theorem lw_p44 : lw_okq (⟨"BeansBox", "couldHaveSpoken", "(I)Z"⟩, 11) := ⟨⟨by decide +kernel, by decide +kernel⟩, List.mem_of_getElem? (i := 12) (by decide +kernel), List.mem_of_getElem? (i := 558) (by decide +kernel), List.mem_of_getElem? (i := 559) (by decide +kernel)⟩
theorem lw_p45 : lw_okq (⟨"BeansBox", "greatestPart", "(II)I"⟩, 11) := ⟨⟨by decide +kernel, by decide +kernel⟩, List.mem_of_getElem? (i := 12) (by decide +kernel), List.mem_of_getElem? (i := 573) (by decide +kernel), List.mem_of_getElem? (i := 574) (by decide +kernel)⟩
theorem lw_p46 : lw_okq (⟨"BeansBoxModel", "reads", "()Z"⟩, 29) := ⟨⟨by decide +kernel, by decide +kernel⟩, List.mem_of_getElem? (i := 605) (by decide +kernel), List.mem_of_getElem? (i := 718) (by decide +kernel), List.mem_of_getElem? (i := 719) (by decide +kernel)⟩
theorem lw_p47 : lw_okq (⟨"BeansBoxModel", "blanks", "()V"⟩, 29) := ⟨⟨by decide +kernel, by decide +kernel⟩, List.mem_of_getElem? (i := 605) (by decide +kernel), List.mem_of_getElem? (i := 722) (by decide +kernel), List.mem_of_getElem? (i := 723) (by decide +kernel)⟩
def lw_privs_3 : List (MethodName × Nat) := [(⟨"BeansBox$Deeds", "isThere", "(I)Z"⟩, 7), (⟨"BeansBox$Deeds", "correctTo", "(I)V"⟩, 7), (⟨"BeansBox$Deeds", "confirm", "()V"⟩, 7), (⟨"BeansBox", "draw", "(I)I"⟩, 11), (⟨"BeansBox", "spoken", "(II)I"⟩, 11), (⟨"BeansBox$Deeds", "learn", "(IZ)V"⟩, 7), (⟨"BeansBox$Past", "pop", "(LBeansBox$Deeds;)Z"⟩, 3), (⟨"BeansBox", "understood", "(II)I"⟩, 11), (⟨"BeansBox", "wordsSpokenAs", "(II)I"⟩, 11), (⟨"BeansBox$Deeds", "nearest", "(I)I"⟩, 7), (⟨"BeansBox", "voicesHeardRight", "(III)I"⟩, 11), (⟨"BeansBox$Pairs", "append", "(II)Z"⟩, 3), (⟨"BeansBox", "couldHaveSpoken", "(I)Z"⟩, 11), (⟨"BeansBox", "greatestPart", "(II)I"⟩, 11), (⟨"BeansBoxModel", "reads", "()Z"⟩, 29), (⟨"BeansBoxModel", "blanks", "()V"⟩, 29)]
theorem lw_r3 : ∀ q ∈ lw_privs_3, lw_okq q := List.forall_mem_cons.mpr ⟨lw_p32, List.forall_mem_cons.mpr ⟨lw_p33, List.forall_mem_cons.mpr ⟨lw_p34, List.forall_mem_cons.mpr ⟨lw_p35, List.forall_mem_cons.mpr ⟨lw_p36, List.forall_mem_cons.mpr ⟨lw_p37, List.forall_mem_cons.mpr ⟨lw_p38, List.forall_mem_cons.mpr ⟨lw_p39, List.forall_mem_cons.mpr ⟨lw_p40, List.forall_mem_cons.mpr ⟨lw_p41, List.forall_mem_cons.mpr ⟨lw_p42, List.forall_mem_cons.mpr ⟨lw_p43, List.forall_mem_cons.mpr ⟨lw_p44, List.forall_mem_cons.mpr ⟨lw_p45, List.forall_mem_cons.mpr ⟨lw_p46, List.forall_mem_cons.mpr ⟨lw_p47, fun _ h => absurd h List.not_mem_nil⟩⟩⟩⟩⟩⟩⟩⟩⟩⟩⟩⟩⟩⟩⟩⟩
theorem lw_p48 : lw_okq (⟨"BeansBoxModel", "letterAt", "(I)I"⟩, 29) := ⟨⟨by decide +kernel, by decide +kernel⟩, List.mem_of_getElem? (i := 605) (by decide +kernel), List.mem_of_getElem? (i := 726) (by decide +kernel), List.mem_of_getElem? (i := 727) (by decide +kernel)⟩
theorem lw_p49 : lw_okq (⟨"BeansBoxModel", "readsClause", "(Z)Z"⟩, 29) := ⟨⟨by decide +kernel, by decide +kernel⟩, List.mem_of_getElem? (i := 605) (by decide +kernel), List.mem_of_getElem? (i := 730) (by decide +kernel), List.mem_of_getElem? (i := 731) (by decide +kernel)⟩
theorem lw_p50 : lw_okq (⟨"BeansBoxModel", "readsBox", "(Z)Z"⟩, 29) := ⟨⟨by decide +kernel, by decide +kernel⟩, List.mem_of_getElem? (i := 605) (by decide +kernel), List.mem_of_getElem? (i := 734) (by decide +kernel), List.mem_of_getElem? (i := 735) (by decide +kernel)⟩
theorem lw_p51 : lw_okq (⟨"BeansBoxModel", "fails", "(I)Z"⟩, 29) := ⟨⟨by decide +kernel, by decide +kernel⟩, List.mem_of_getElem? (i := 605) (by decide +kernel), List.mem_of_getElem? (i := 738) (by decide +kernel), List.mem_of_getElem? (i := 739) (by decide +kernel)⟩
theorem lw_p52 : lw_okq (⟨"BeansBoxModel", "number", "(I)I"⟩, 29) := ⟨⟨by decide +kernel, by decide +kernel⟩, List.mem_of_getElem? (i := 605) (by decide +kernel), List.mem_of_getElem? (i := 742) (by decide +kernel), List.mem_of_getElem? (i := 743) (by decide +kernel)⟩
theorem lw_p53 : lw_okq (⟨"BeansBoxModel", "ends", "()Z"⟩, 29) := ⟨⟨by decide +kernel, by decide +kernel⟩, List.mem_of_getElem? (i := 605) (by decide +kernel), List.mem_of_getElem? (i := 746) (by decide +kernel), List.mem_of_getElem? (i := 747) (by decide +kernel)⟩
theorem lw_p54 : lw_okq (⟨"BeansBoxModel", "readsWord", "()Z"⟩, 29) := ⟨⟨by decide +kernel, by decide +kernel⟩, List.mem_of_getElem? (i := 605) (by decide +kernel), List.mem_of_getElem? (i := 750) (by decide +kernel), List.mem_of_getElem? (i := 751) (by decide +kernel)⟩
theorem lw_p55 : lw_okq (⟨"BeansBoxModel", "readsVoice", "()Z"⟩, 29) := ⟨⟨by decide +kernel, by decide +kernel⟩, List.mem_of_getElem? (i := 605) (by decide +kernel), List.mem_of_getElem? (i := 754) (by decide +kernel), List.mem_of_getElem? (i := 755) (by decide +kernel)⟩
theorem lw_p56 : lw_okq (⟨"BeansBoxModel", "allListed", "()I"⟩, 29) := ⟨⟨by decide +kernel, by decide +kernel⟩, List.mem_of_getElem? (i := 605) (by decide +kernel), List.mem_of_getElem? (i := 762) (by decide +kernel), List.mem_of_getElem? (i := 763) (by decide +kernel)⟩
theorem lw_p57 : lw_okq (⟨"BeansBoxModel", "isWord", "(I)Z"⟩, 29) := ⟨⟨by decide +kernel, by decide +kernel⟩, List.mem_of_getElem? (i := 605) (by decide +kernel), List.mem_of_getElem? (i := 770) (by decide +kernel), List.mem_of_getElem? (i := 771) (by decide +kernel)⟩
theorem lw_p58 : lw_okq (⟨"BeansBoxModel", "isVoice", "(I)Z"⟩, 29) := ⟨⟨by decide +kernel, by decide +kernel⟩, List.mem_of_getElem? (i := 605) (by decide +kernel), List.mem_of_getElem? (i := 779) (by decide +kernel), List.mem_of_getElem? (i := 780) (by decide +kernel)⟩
theorem lw_p59 : lw_okq (⟨"BeansBoxModel", "remember", "()V"⟩, 29) := ⟨⟨by decide +kernel, by decide +kernel⟩, List.mem_of_getElem? (i := 605) (by decide +kernel), List.mem_of_getElem? (i := 791) (by decide +kernel), List.mem_of_getElem? (i := 792) (by decide +kernel)⟩
theorem lw_p60 : lw_okq (⟨"BeansBoxModel", "hears", "(I)I"⟩, 29) := ⟨⟨by decide +kernel, by decide +kernel⟩, List.mem_of_getElem? (i := 605) (by decide +kernel), List.mem_of_getElem? (i := 795) (by decide +kernel), List.mem_of_getElem? (i := 796) (by decide +kernel)⟩
theorem lw_p61 : lw_okq (⟨"BeansBoxModel", "ruleOf", "(I)I"⟩, 29) := ⟨⟨by decide +kernel, by decide +kernel⟩, List.mem_of_getElem? (i := 605) (by decide +kernel), List.mem_of_getElem? (i := 799) (by decide +kernel), List.mem_of_getElem? (i := 800) (by decide +kernel)⟩
theorem lw_p62 : lw_okq (⟨"BeansBoxModel", "costOf", "(II)I"⟩, 29) := ⟨⟨by decide +kernel, by decide +kernel⟩, List.mem_of_getElem? (i := 605) (by decide +kernel), List.mem_of_getElem? (i := 803) (by decide +kernel), List.mem_of_getElem? (i := 804) (by decide +kernel)⟩
theorem lw_p63 : lw_okq (⟨"BeansBoxModel", "guessOf", "(I)I"⟩, 29) := ⟨⟨by decide +kernel, by decide +kernel⟩, List.mem_of_getElem? (i := 605) (by decide +kernel), List.mem_of_getElem? (i := 807) (by decide +kernel), List.mem_of_getElem? (i := 808) (by decide +kernel)⟩
def lw_privs_4 : List (MethodName × Nat) := [(⟨"BeansBoxModel", "letterAt", "(I)I"⟩, 29), (⟨"BeansBoxModel", "readsClause", "(Z)Z"⟩, 29), (⟨"BeansBoxModel", "readsBox", "(Z)Z"⟩, 29), (⟨"BeansBoxModel", "fails", "(I)Z"⟩, 29), (⟨"BeansBoxModel", "number", "(I)I"⟩, 29), (⟨"BeansBoxModel", "ends", "()Z"⟩, 29), (⟨"BeansBoxModel", "readsWord", "()Z"⟩, 29), (⟨"BeansBoxModel", "readsVoice", "()Z"⟩, 29), (⟨"BeansBoxModel", "allListed", "()I"⟩, 29), (⟨"BeansBoxModel", "isWord", "(I)Z"⟩, 29), (⟨"BeansBoxModel", "isVoice", "(I)Z"⟩, 29), (⟨"BeansBoxModel", "remember", "()V"⟩, 29), (⟨"BeansBoxModel", "hears", "(I)I"⟩, 29), (⟨"BeansBoxModel", "ruleOf", "(I)I"⟩, 29), (⟨"BeansBoxModel", "costOf", "(II)I"⟩, 29), (⟨"BeansBoxModel", "guessOf", "(I)I"⟩, 29)]
theorem lw_r4 : ∀ q ∈ lw_privs_4, lw_okq q := List.forall_mem_cons.mpr ⟨lw_p48, List.forall_mem_cons.mpr ⟨lw_p49, List.forall_mem_cons.mpr ⟨lw_p50, List.forall_mem_cons.mpr ⟨lw_p51, List.forall_mem_cons.mpr ⟨lw_p52, List.forall_mem_cons.mpr ⟨lw_p53, List.forall_mem_cons.mpr ⟨lw_p54, List.forall_mem_cons.mpr ⟨lw_p55, List.forall_mem_cons.mpr ⟨lw_p56, List.forall_mem_cons.mpr ⟨lw_p57, List.forall_mem_cons.mpr ⟨lw_p58, List.forall_mem_cons.mpr ⟨lw_p59, List.forall_mem_cons.mpr ⟨lw_p60, List.forall_mem_cons.mpr ⟨lw_p61, List.forall_mem_cons.mpr ⟨lw_p62, List.forall_mem_cons.mpr ⟨lw_p63, fun _ h => absurd h List.not_mem_nil⟩⟩⟩⟩⟩⟩⟩⟩⟩⟩⟩⟩⟩⟩⟩⟩
theorem lw_p64 : lw_okq (⟨"BeansBoxModel", "weight", "(II)I"⟩, 29) := ⟨⟨by decide +kernel, by decide +kernel⟩, List.mem_of_getElem? (i := 605) (by decide +kernel), List.mem_of_getElem? (i := 811) (by decide +kernel), List.mem_of_getElem? (i := 812) (by decide +kernel)⟩
theorem lw_p65 : lw_okq (⟨"BeansBoxModel", "sureOf", "(II)I"⟩, 29) := ⟨⟨by decide +kernel, by decide +kernel⟩, List.mem_of_getElem? (i := 605) (by decide +kernel), List.mem_of_getElem? (i := 822) (by decide +kernel), List.mem_of_getElem? (i := 823) (by decide +kernel)⟩
theorem lw_p66 : lw_okq (⟨"BeansBoxModel", "takesBack", "(I)V"⟩, 29) := ⟨⟨by decide +kernel, by decide +kernel⟩, List.mem_of_getElem? (i := 605) (by decide +kernel), List.mem_of_getElem? (i := 834) (by decide +kernel), List.mem_of_getElem? (i := 835) (by decide +kernel)⟩
theorem lw_p67 : lw_okq (⟨"BeansBoxModel", "letsBe", "()I"⟩, 29) := ⟨⟨by decide +kernel, by decide +kernel⟩, List.mem_of_getElem? (i := 605) (by decide +kernel), List.mem_of_getElem? (i := 845) (by decide +kernel), List.mem_of_getElem? (i := 846) (by decide +kernel)⟩
theorem lw_p68 : lw_okq (⟨"BeansBoxModel", "draw", "(I)I"⟩, 29) := ⟨⟨by decide +kernel, by decide +kernel⟩, List.mem_of_getElem? (i := 605) (by decide +kernel), List.mem_of_getElem? (i := 857) (by decide +kernel), List.mem_of_getElem? (i := 858) (by decide +kernel)⟩
theorem lw_p69 : lw_okq (⟨"BeansBoxModel", "saidBy", "(II)I"⟩, 29) := ⟨⟨by decide +kernel, by decide +kernel⟩, List.mem_of_getElem? (i := 605) (by decide +kernel), List.mem_of_getElem? (i := 865) (by decide +kernel), List.mem_of_getElem? (i := 866) (by decide +kernel)⟩
theorem lw_p70 : lw_okq (⟨"BeansBoxModel", "meantBy", "(II)I"⟩, 29) := ⟨⟨by decide +kernel, by decide +kernel⟩, List.mem_of_getElem? (i := 605) (by decide +kernel), List.mem_of_getElem? (i := 904) (by decide +kernel), List.mem_of_getElem? (i := 905) (by decide +kernel)⟩
theorem lw_p71 : lw_okq (⟨"BeansBoxModel", "heardBy", "(I)I"⟩, 29) := ⟨⟨by decide +kernel, by decide +kernel⟩, List.mem_of_getElem? (i := 605) (by decide +kernel), List.mem_of_getElem? (i := 932) (by decide +kernel), List.mem_of_getElem? (i := 933) (by decide +kernel)⟩
theorem lw_p72 : lw_okq (⟨"BeansBoxModel", "greatestPart", "(II)I"⟩, 29) := ⟨⟨by decide +kernel, by decide +kernel⟩, List.mem_of_getElem? (i := 605) (by decide +kernel), List.mem_of_getElem? (i := 962) (by decide +kernel), List.mem_of_getElem? (i := 963) (by decide +kernel)⟩
def lw_privs_5 : List (MethodName × Nat) := [(⟨"BeansBoxModel", "weight", "(II)I"⟩, 29), (⟨"BeansBoxModel", "sureOf", "(II)I"⟩, 29), (⟨"BeansBoxModel", "takesBack", "(I)V"⟩, 29), (⟨"BeansBoxModel", "letsBe", "()I"⟩, 29), (⟨"BeansBoxModel", "draw", "(I)I"⟩, 29), (⟨"BeansBoxModel", "saidBy", "(II)I"⟩, 29), (⟨"BeansBoxModel", "meantBy", "(II)I"⟩, 29), (⟨"BeansBoxModel", "heardBy", "(I)I"⟩, 29), (⟨"BeansBoxModel", "greatestPart", "(II)I"⟩, 29)]
theorem lw_r5 : ∀ q ∈ lw_privs_5, lw_okq q := List.forall_mem_cons.mpr ⟨lw_p64, List.forall_mem_cons.mpr ⟨lw_p65, List.forall_mem_cons.mpr ⟨lw_p66, List.forall_mem_cons.mpr ⟨lw_p67, List.forall_mem_cons.mpr ⟨lw_p68, List.forall_mem_cons.mpr ⟨lw_p69, List.forall_mem_cons.mpr ⟨lw_p70, List.forall_mem_cons.mpr ⟨lw_p71, List.forall_mem_cons.mpr ⟨lw_p72, fun _ h => absurd h List.not_mem_nil⟩⟩⟩⟩⟩⟩⟩⟩⟩
def lw_privs : List (MethodName × Nat) := lw_privs_1 ++ (lw_privs_2 ++ (lw_privs_3 ++ (lw_privs_4 ++ (lw_privs_5))))
def lw_tbl : List Cond := k2_sels lw_privs ++ tables_1
theorem lw_privs_ok : ∀ q ∈ lw_privs, lw_okq q := by
  show ∀ q ∈ lw_privs_1 ++ (lw_privs_2 ++ (lw_privs_3 ++ (lw_privs_4 ++ (lw_privs_5)))), lw_okq q
  exact List.forall_mem_append.mpr ⟨lw_r1, List.forall_mem_append.mpr ⟨lw_r2, List.forall_mem_append.mpr ⟨lw_r3, List.forall_mem_append.mpr ⟨lw_r4, lw_r5⟩⟩⟩⟩
-- ===== end of PART A; then your names; then what follows =====
end
section
/-! ===== BEGIN words of one list among another's, by their places ===== -/
theorem goodIn_r {big : List Cond} (ws : List Cond) (ps : List Nat) (hp : ws = ps.filterMap (fun i => big[i]?)) (h : ws.all goodWord = true) : GoodIn big ws := by
  intro w hw
  have h1 := List.all_eq_true.mp h w hw
  rw [hp] at hw
  obtain ⟨i, -, hi⟩ := List.mem_filterMap.mp hw
  have hm : w ∈ big := by first | exact List.mem_of_getElem? hi | exact List.getElem?_mem hi
  exact ⟨hm, good_of_word h1⟩
theorem goodIn_app {big a b : List Cond} (ha : GoodIn big a) (hb : GoodIn big b) : GoodIn big (a ++ b) := fun w h => (List.mem_append.mp h).elim (ha w) (hb w)
theorem goodIn_ca {big a b : List Cond} {c : Cond} (ha : GoodIn big (c :: a)) (hb : GoodIn big b) : GoodIn big (c :: (a ++ b)) := fun w h => (List.mem_cons.mp h).elim (fun e => ha w (List.mem_cons.mpr (Or.inl e))) (fun h => (List.mem_append.mp h).elim (fun h => ha w (List.mem_cons.mpr (Or.inr h))) (hb w))
theorem goodIn_sub {big ws : List Cond} (hm : ∀ w ∈ ws, w ∈ big) (h : ws.all goodWord = true) : GoodIn big ws := fun w hw => ⟨hm w hw, good_of_word (List.all_eq_true.mp h w hw)⟩
/-! ===== END ===== -/

/-! ===== BEGIN printed: names, fields, word lists, decode rows ===== -/
def RX0 : String := "BeansBox$Deeds"
def TX0 : u_T := fun k => match k with
  | 0 => ("BeansBox$Deeds", "words", "I", false)
  | 1 => ("BeansBox$Deeds", "sounds", "[I", true)
  | 2 => ("BeansBox$Deeds", "usual", "[I", true)
  | 3 => ("BeansBox$Deeds", "onList", "[I", true)
  | 4 => ("BeansBox$Deeds", "cross", "I", false)
  | 5 => ("BeansBox$Deeds", "heard", "I", false)
  | _ => ("BeansBox$Deeds", "kept", "I", false)
def tyX0 : Nat → FieldType := fun k => match k with
  | 0 => .int
  | 1 => .array .int
  | 2 => .array .int
  | 3 => .array .int
  | 4 => .int
  | 5 => .int
  | _ => .int
abbrev wsX00 : List Cond := u_ws RX0 TX0 7
theorem nmX0 : ∀ a, a < 7 → ∀ b, b < 7 → a ≠ b → (TX0 a).2.1 ≠ (TX0 b).2.1 := by decide +kernel
theorem tyX0_ok : ∀ k, k < 7 → parseFieldDescriptor (TX0 k).2.2.1 = some (tyX0 k) := by decide +kernel
abbrev cX0_init : ByteArray := prog_2_method_1_code
def yX0_init : MethodName := ⟨RX0, "<init>", "()V"⟩
abbrev cX0_begin : ByteArray := prog_2_method_2_code
def yX0_begin : MethodName := ⟨RX0, "begin", "(LBeansBox$Kitchen;)V"⟩
abbrev cX0_copy : ByteArray := prog_2_method_3_code
def yX0_copy : MethodName := ⟨RX0, "copy", "(LBeansBox$Deeds;)V"⟩
abbrev cX0_allOnList : ByteArray := prog_2_method_4_code
def yX0_allOnList : MethodName := ⟨RX0, "allOnList", "()I"⟩
abbrev cX0_weight : ByteArray := prog_2_method_5_code
def yX0_weight : MethodName := ⟨RX0, "weight", "(II)I"⟩
abbrev cX0_strongest : ByteArray := prog_2_method_6_code
def yX0_strongest : MethodName := ⟨RX0, "strongest", "(I)I"⟩
abbrev cX0_certainty : ByteArray := prog_2_method_7_code
def yX0_certainty : MethodName := ⟨RX0, "certainty", "(II)I"⟩
abbrev cX0_nearest : ByteArray := prog_2_method_8_code
def yX0_nearest : MethodName := ⟨RX0, "nearest", "(I)I"⟩
abbrev cX0_react : ByteArray := prog_2_method_9_code
def yX0_react : MethodName := ⟨RX0, "react", "(II)V"⟩
abbrev cX0_learn : ByteArray := prog_2_method_10_code
def yX0_learn : MethodName := ⟨RX0, "learn", "(IZ)V"⟩
abbrev cX0_confirm : ByteArray := prog_2_method_11_code
def yX0_confirm : MethodName := ⟨RX0, "confirm", "()V"⟩
abbrev cX0_correctTo : ByteArray := prog_2_method_12_code
def yX0_correctTo : MethodName := ⟨RX0, "correctTo", "(I)V"⟩
abbrev cX0_putOnList : ByteArray := prog_2_method_13_code
def yX0_putOnList : MethodName := ⟨RX0, "putOnList", "(I)V"⟩
abbrev cX0_isThere : ByteArray := prog_2_method_14_code
def yX0_isThere : MethodName := ⟨RX0, "isThere", "(I)Z"⟩
def RX1 : String := "BeansBox$Image"
def TX1 : u_T := fun k => match k with
  | 0 => ("BeansBox$Image", "kept", "Z", false)
  | 1 => ("BeansBox$Image", "deeds", "LBeansBox$Deeds;", true)
  | _ => ("BeansBox$Image", "drawn", "I", false)
def tyX1 : Nat → FieldType := fun k => match k with
  | 0 => .boolean
  | 1 => .object "BeansBox$Deeds"
  | _ => .int
abbrev wsX10 : List Cond := u_ws RX1 TX1 3
theorem nmX1 : ∀ a, a < 3 → ∀ b, b < 3 → a ≠ b → (TX1 a).2.1 ≠ (TX1 b).2.1 := by decide +kernel
theorem tyX1_ok : ∀ k, k < 3 → parseFieldDescriptor (TX1 k).2.2.1 = some (tyX1 k) := by decide +kernel
abbrev cX1_init : ByteArray := prog_3_method_1_code
def yX1_init : MethodName := ⟨RX1, "<init>", "()V"⟩
def RX2 : String := "BeansBox$Kitchen"
def TX2 : u_T := fun k => match k with
  | 0 => ("BeansBox$Kitchen", "stands", "Z", false)
  | 1 => ("BeansBox$Kitchen", "askCost", "I", false)
  | 2 => ("BeansBox$Kitchen", "silenceCost", "I", false)
  | 3 => ("BeansBox$Kitchen", "wakeSound", "I", false)
  | 4 => ("BeansBox$Kitchen", "words", "I", false)
  | 5 => ("BeansBox$Kitchen", "voices", "I", false)
  | 6 => ("BeansBox$Kitchen", "sounds", "[I", true)
  | 7 => ("BeansBox$Kitchen", "usual", "[I", true)
  | 8 => ("BeansBox$Kitchen", "wrongCosts", "[I", true)
  | _ => ("BeansBox$Kitchen", "shifts", "[I", true)
def tyX2 : Nat → FieldType := fun k => match k with
  | 0 => .boolean
  | 1 => .int
  | 2 => .int
  | 3 => .int
  | 4 => .int
  | 5 => .int
  | 6 => .array .int
  | 7 => .array .int
  | 8 => .array .int
  | _ => .array .int
abbrev wsX20 : List Cond := u_ws RX2 TX2 10
theorem nmX2 : ∀ a, a < 10 → ∀ b, b < 10 → a ≠ b → (TX2 a).2.1 ≠ (TX2 b).2.1 := by decide +kernel
theorem tyX2_ok : ∀ k, k < 10 → parseFieldDescriptor (TX2 k).2.2.1 = some (tyX2 k) := by decide +kernel
abbrev cX2_init : ByteArray := prog_4_method_1_code
def yX2_init : MethodName := ⟨RX2, "<init>", "()V"⟩
abbrev cX2_empty : ByteArray := prog_4_method_2_code
def yX2_empty : MethodName := ⟨RX2, "empty", "()V"⟩
abbrev cX2_setBox : ByteArray := prog_4_method_3_code
def yX2_setBox : MethodName := ⟨RX2, "setBox", "(III)V"⟩
abbrev cX2_addWord : ByteArray := prog_4_method_4_code
def yX2_addWord : MethodName := ⟨RX2, "addWord", "(III)V"⟩
abbrev cX2_addVoice : ByteArray := prog_4_method_5_code
def yX2_addVoice : MethodName := ⟨RX2, "addVoice", "(I)V"⟩
def RX3 : String := "BeansBox$Pairs"
def TX3 : u_T := fun k => match k with
  | 0 => ("BeansBox$Pairs", "first", "[I", true)
  | 1 => ("BeansBox$Pairs", "second", "[I", true)
  | _ => ("BeansBox$Pairs", "count", "I", false)
def tyX3 : Nat → FieldType := fun k => match k with
  | 0 => .array .int
  | 1 => .array .int
  | _ => .int
abbrev wsX30 : List Cond := u_ws RX3 TX3 3
theorem nmX3 : ∀ a, a < 3 → ∀ b, b < 3 → a ≠ b → (TX3 a).2.1 ≠ (TX3 b).2.1 := by decide +kernel
theorem tyX3_ok : ∀ k, k < 3 → parseFieldDescriptor (TX3 k).2.2.1 = some (tyX3 k) := by decide +kernel
abbrev cX3_init : ByteArray := prog_5_method_1_code
def yX3_init : MethodName := ⟨RX3, "<init>", "(I)V"⟩
abbrev cX3_append : ByteArray := prog_5_method_2_code
def yX3_append : MethodName := ⟨RX3, "append", "(II)Z"⟩
abbrev cX3_clear : ByteArray := prog_5_method_3_code
def yX3_clear : MethodName := ⟨RX3, "clear", "()V"⟩
def RX4 : String := "BeansBox$Past"
def TX4 : u_T := fun k => match k with
  | 0 => ("BeansBox$Past", "ring", "[LBeansBox$Deeds;", true)
  | 1 => ("BeansBox$Past", "next", "I", false)
  | _ => ("BeansBox$Past", "count", "I", false)
def tyX4 : Nat → FieldType := fun k => match k with
  | 0 => .array (.object "BeansBox$Deeds")
  | 1 => .int
  | _ => .int
abbrev wsX40 : List Cond := u_ws RX4 TX4 3
theorem nmX4 : ∀ a, a < 3 → ∀ b, b < 3 → a ≠ b → (TX4 a).2.1 ≠ (TX4 b).2.1 := by decide +kernel
theorem tyX4_ok : ∀ k, k < 3 → parseFieldDescriptor (TX4 k).2.2.1 = some (tyX4 k) := by decide +kernel
abbrev cX4_init : ByteArray := prog_6_method_1_code
def yX4_init : MethodName := ⟨RX4, "<init>", "()V"⟩
abbrev cX4_clear : ByteArray := prog_6_method_2_code
def yX4_clear : MethodName := ⟨RX4, "clear", "()V"⟩
abbrev cX4_push : ByteArray := prog_6_method_3_code
def yX4_push : MethodName := ⟨RX4, "push", "(LBeansBox$Deeds;)V"⟩
abbrev cX4_pop : ByteArray := prog_6_method_4_code
def yX4_pop : MethodName := ⟨RX4, "pop", "(LBeansBox$Deeds;)Z"⟩
def RX5 : String := "BeansBox$Reader"
def TX5 : u_T := fun k => match k with
  | 0 => ("BeansBox$Reader", "text", "[I", true)
  | 1 => ("BeansBox$Reader", "length", "I", false)
  | 2 => ("BeansBox$Reader", "place", "I", false)
  | _ => ("BeansBox$Reader", "kind", "I", false)
def tyX5 : Nat → FieldType := fun k => match k with
  | 0 => .array .int
  | 1 => .int
  | 2 => .int
  | _ => .int
abbrev wsX50 : List Cond := u_ws RX5 TX5 4
theorem nmX5 : ∀ a, a < 4 → ∀ b, b < 4 → a ≠ b → (TX5 a).2.1 ≠ (TX5 b).2.1 := by decide +kernel
theorem tyX5_ok : ∀ k, k < 4 → parseFieldDescriptor (TX5 k).2.2.1 = some (tyX5 k) := by decide +kernel
abbrev cX5_init : ByteArray := prog_7_method_1_code
def yX5_init : MethodName := ⟨RX5, "<init>", "()V"⟩
abbrev cX5_append : ByteArray := prog_7_method_2_code
def yX5_append : MethodName := ⟨RX5, "append", "(I)Z"⟩
abbrev cX5_forget : ByteArray := prog_7_method_3_code
def yX5_forget : MethodName := ⟨RX5, "forget", "()V"⟩
abbrev cX5_readInto : ByteArray := prog_7_method_4_code
def yX5_readInto : MethodName := ⟨RX5, "readInto", "(LBeansBox$Kitchen;)I"⟩
abbrev cX5_readClause : ByteArray := prog_7_method_5_code
def yX5_readClause : MethodName := ⟨RX5, "readClause", "(LBeansBox$Kitchen;)V"⟩
abbrev cX5_readBox : ByteArray := prog_7_method_6_code
def yX5_readBox : MethodName := ⟨RX5, "readBox", "(LBeansBox$Kitchen;)V"⟩
abbrev cX5_readWord : ByteArray := prog_7_method_7_code
def yX5_readWord : MethodName := ⟨RX5, "readWord", "(LBeansBox$Kitchen;)V"⟩
abbrev cX5_readVoice : ByteArray := prog_7_method_8_code
def yX5_readVoice : MethodName := ⟨RX5, "readVoice", "(LBeansBox$Kitchen;)V"⟩
abbrev cX5_readNumber : ByteArray := prog_7_method_9_code
def yX5_readNumber : MethodName := ⟨RX5, "readNumber", "(I)I"⟩
abbrev cX5_readEnd : ByteArray := prog_7_method_10_code
def yX5_readEnd : MethodName := ⟨RX5, "readEnd", "()V"⟩
abbrev cX5_skipBlanks : ByteArray := prog_7_method_11_code
def yX5_skipBlanks : MethodName := ⟨RX5, "skipBlanks", "()V"⟩
abbrev cX5_letterHere : ByteArray := prog_7_method_12_code
def yX5_letterHere : MethodName := ⟨RX5, "letterHere", "()I"⟩
abbrev cX5_isFigure : ByteArray := prog_7_method_13_code
def yX5_isFigure : MethodName := ⟨RX5, "isFigure", "(I)Z"⟩
abbrev cX5_stop : ByteArray := prog_7_method_14_code
def yX5_stop : MethodName := ⟨RX5, "stop", "(II)V"⟩
def RX6 : String := "BeansBox"
def TX6 : u_T := fun k => match k with
  | 0 => ("BeansBox", "reader", "LBeansBox$Reader;", true)
  | 1 => ("BeansBox", "faultPlace", "I", false)
  | 2 => ("BeansBox", "kitchen", "LBeansBox$Kitchen;", false)
  | 3 => ("BeansBox", "spare", "LBeansBox$Kitchen;", false)
  | 4 => ("BeansBox", "now", "LBeansBox$Deeds;", true)
  | 5 => ("BeansBox", "trial", "LBeansBox$Deeds;", true)
  | 6 => ("BeansBox", "past", "LBeansBox$Past;", true)
  | 7 => ("BeansBox", "images", "[LBeansBox$Image;", true)
  | 8 => ("BeansBox", "drawn", "I", false)
  | 9 => ("BeansBox", "seen", "LBeansBox$Pairs;", true)
  | _ => ("BeansBox", "book", "LBeansBox$Pairs;", true)
def tyX6 : Nat → FieldType := fun k => match k with
  | 0 => .object "BeansBox$Reader"
  | 1 => .int
  | 2 => .object "BeansBox$Kitchen"
  | 3 => .object "BeansBox$Kitchen"
  | 4 => .object "BeansBox$Deeds"
  | 5 => .object "BeansBox$Deeds"
  | 6 => .object "BeansBox$Past"
  | 7 => .array (.object "BeansBox$Image")
  | 8 => .int
  | 9 => .object "BeansBox$Pairs"
  | _ => .object "BeansBox$Pairs"
abbrev wsX60 : List Cond := u_ws RX6 TX6 11
theorem nmX6 : ∀ a, a < 11 → ∀ b, b < 11 → a ≠ b → (TX6 a).2.1 ≠ (TX6 b).2.1 := by decide +kernel
theorem tyX6_ok : ∀ k, k < 11 → parseFieldDescriptor (TX6 k).2.2.1 = some (tyX6 k) := by decide +kernel
abbrev cX6_init : ByteArray := prog_1_method_1_code
def yX6_init : MethodName := ⟨RX6, "<init>", "()V"⟩
abbrev cX6_feed : ByteArray := prog_1_method_2_code
def yX6_feed : MethodName := ⟨RX6, "feed", "(I)I"⟩
abbrev cX6_kitchen : ByteArray := prog_1_method_3_code
def yX6_kitchen : MethodName := ⟨RX6, "kitchen", "()I"⟩
abbrev cX6_fault : ByteArray := prog_1_method_4_code
def yX6_fault : MethodName := ⟨RX6, "fault", "()I"⟩
abbrev cX6_told : ByteArray := prog_1_method_5_code
def yX6_told : MethodName := ⟨RX6, "told", "(I)I"⟩
abbrev cX6_word : ByteArray := prog_1_method_6_code
def yX6_word : MethodName := ⟨RX6, "word", "(II)I"⟩
abbrev cX6_voice : ByteArray := prog_1_method_7_code
def yX6_voice : MethodName := ⟨RX6, "voice", "(I)I"⟩
abbrev cX6_hear : ByteArray := prog_1_method_8_code
def yX6_hear : MethodName := ⟨RX6, "hear", "(I)I"⟩
abbrev cX6_takeBack : ByteArray := prog_1_method_9_code
def yX6_takeBack : MethodName := ⟨RX6, "takeBack", "(I)I"⟩
abbrev cX6_letBe : ByteArray := prog_1_method_10_code
def yX6_letBe : MethodName := ⟨RX6, "letBe", "()I"⟩
abbrev cX6_call : ByteArray := prog_1_method_11_code
def yX6_call : MethodName := ⟨RX6, "call", "(II)I"⟩
abbrev cX6_drift : ByteArray := prog_1_method_12_code
def yX6_drift : MethodName := ⟨RX6, "drift", "(I)I"⟩
abbrev cX6_undo : ByteArray := prog_1_method_13_code
def yX6_undo : MethodName := ⟨RX6, "undo", "()I"⟩
abbrev cX6_guess : ByteArray := prog_1_method_14_code
def yX6_guess : MethodName := ⟨RX6, "guess", "(I)I"⟩
abbrev cX6_sure : ByteArray := prog_1_method_15_code
def yX6_sure : MethodName := ⟨RX6, "sure", "(II)I"⟩
abbrev cX6_rule : ByteArray := prog_1_method_16_code
def yX6_rule : MethodName := ⟨RX6, "rule", "(I)I"⟩
abbrev cX6_worth : ByteArray := prog_1_method_17_code
def yX6_worth : MethodName := ⟨RX6, "worth", "(II)I"⟩
abbrev cX6_said : ByteArray := prog_1_method_18_code
def yX6_said : MethodName := ⟨RX6, "said", "(II)I"⟩
abbrev cX6_misheard : ByteArray := prog_1_method_19_code
def yX6_misheard : MethodName := ⟨RX6, "misheard", "(I)I"⟩
abbrev cX6_who : ByteArray := prog_1_method_20_code
def yX6_who : MethodName := ⟨RX6, "who", "(I)I"⟩
abbrev cX6_meant : ByteArray := prog_1_method_21_code
def yX6_meant : MethodName := ⟨RX6, "meant", "(II)I"⟩
abbrev cX6_alike : ByteArray := prog_1_method_22_code
def yX6_alike : MethodName := ⟨RX6, "alike", "(II)I"⟩
abbrev cX6_wake : ByteArray := prog_1_method_23_code
def yX6_wake : MethodName := ⟨RX6, "wake", "(I)I"⟩
abbrev cX6_falsely : ByteArray := prog_1_method_24_code
def yX6_falsely : MethodName := ⟨RX6, "falsely", "(II)I"⟩
abbrev cX6_needs : ByteArray := prog_1_method_25_code
def yX6_needs : MethodName := ⟨RX6, "needs", "(III)I"⟩
abbrev cX6_bestCalled : ByteArray := prog_1_method_26_code
def yX6_bestCalled : MethodName := ⟨RX6, "bestCalled", "(II)I"⟩
abbrev cX6_asks : ByteArray := prog_1_method_27_code
def yX6_asks : MethodName := ⟨RX6, "asks", "(I)I"⟩
abbrev cX6_waked : ByteArray := prog_1_method_28_code
def yX6_waked : MethodName := ⟨RX6, "waked", "(II)I"⟩
abbrev cX6_see : ByteArray := prog_1_method_29_code
def yX6_see : MethodName := ⟨RX6, "see", "(II)I"⟩
abbrev cX6_speaker : ByteArray := prog_1_method_30_code
def yX6_speaker : MethodName := ⟨RX6, "speaker", "()I"⟩
abbrev cX6_sayNext : ByteArray := prog_1_method_31_code
def yX6_sayNext : MethodName := ⟨RX6, "sayNext", "()I"⟩
abbrev cX6_write : ByteArray := prog_1_method_32_code
def yX6_write : MethodName := ⟨RX6, "write", "(II)I"⟩
abbrev cX6_tear : ByteArray := prog_1_method_33_code
def yX6_tear : MethodName := ⟨RX6, "tear", "()I"⟩
abbrev cX6_judge : ByteArray := prog_1_method_34_code
def yX6_judge : MethodName := ⟨RX6, "judge", "()I"⟩
abbrev cX6_seed : ByteArray := prog_1_method_35_code
def yX6_seed : MethodName := ⟨RX6, "seed", "(I)I"⟩
abbrev cX6_keep : ByteArray := prog_1_method_36_code
def yX6_keep : MethodName := ⟨RX6, "keep", "(I)I"⟩
abbrev cX6_goBack : ByteArray := prog_1_method_37_code
def yX6_goBack : MethodName := ⟨RX6, "goBack", "(I)I"⟩
abbrev cX6_isWord : ByteArray := prog_1_method_38_code
def yX6_isWord : MethodName := ⟨RX6, "isWord", "(I)Z"⟩
abbrev cX6_isVoice : ByteArray := prog_1_method_39_code
def yX6_isVoice : MethodName := ⟨RX6, "isVoice", "(I)Z"⟩
abbrev cX6_isImage : ByteArray := prog_1_method_40_code
def yX6_isImage : MethodName := ⟨RX6, "isImage", "(I)Z"⟩
abbrev cX6_isSound : ByteArray := prog_1_method_41_code
def yX6_isSound : MethodName := ⟨RX6, "isSound", "(I)Z"⟩
abbrev cX6_isDistance : ByteArray := prog_1_method_42_code
def yX6_isDistance : MethodName := ⟨RX6, "isDistance", "(I)Z"⟩
abbrev cX6_apart : ByteArray := prog_1_method_43_code
def yX6_apart : MethodName := ⟨RX6, "apart", "(II)I"⟩
abbrev cX6_shifted : ByteArray := prog_1_method_44_code
def yX6_shifted : MethodName := ⟨RX6, "shifted", "(II)I"⟩
abbrev cX6_spoken : ByteArray := prog_1_method_45_code
def yX6_spoken : MethodName := ⟨RX6, "spoken", "(II)I"⟩
abbrev cX6_understood : ByteArray := prog_1_method_46_code
def yX6_understood : MethodName := ⟨RX6, "understood", "(II)I"⟩
abbrev cX6_wordsSpokenAs : ByteArray := prog_1_method_47_code
def yX6_wordsSpokenAs : MethodName := ⟨RX6, "wordsSpokenAs", "(II)I"⟩
abbrev cX6_voicesHeardRight : ByteArray := prog_1_method_48_code
def yX6_voicesHeardRight : MethodName := ⟨RX6, "voicesHeardRight", "(III)I"⟩
abbrev cX6_cost : ByteArray := prog_1_method_49_code
def yX6_cost : MethodName := ⟨RX6, "cost", "(LBeansBox$Deeds;II)I"⟩
abbrev cX6_cheapest : ByteArray := prog_1_method_50_code
def yX6_cheapest : MethodName := ⟨RX6, "cheapest", "(LBeansBox$Deeds;I)I"⟩
abbrev cX6_takeIn : ByteArray := prog_1_method_51_code
def yX6_takeIn : MethodName := ⟨RX6, "takeIn", "(I)I"⟩
abbrev cX6_draw : ByteArray := prog_1_method_52_code
def yX6_draw : MethodName := ⟨RX6, "draw", "(I)I"⟩
abbrev cX6_couldHaveSpoken : ByteArray := prog_1_method_53_code
def yX6_couldHaveSpoken : MethodName := ⟨RX6, "couldHaveSpoken", "(I)Z"⟩
abbrev cX6_greatestPart : ByteArray := prog_1_method_54_code
def yX6_greatestPart : MethodName := ⟨RX6, "greatestPart", "(II)I"⟩
def RX7 : String := "BeansBoxModel"
def TX7 : u_T := fun k => match k with
  | 0 => ("BeansBoxModel", "letterMany", "I", false)
  | 1 => ("BeansBoxModel", "text", "[I", true)
  | 2 => ("BeansBoxModel", "faultAt", "I", false)
  | 3 => ("BeansBoxModel", "readAt", "I", false)
  | 4 => ("BeansBoxModel", "readFault", "I", false)
  | 5 => ("BeansBoxModel", "readWords", "I", false)
  | 6 => ("BeansBoxModel", "readVoices", "I", false)
  | 7 => ("BeansBoxModel", "readBox", "[I", true)
  | 8 => ("BeansBoxModel", "readWord", "[I", true)
  | 9 => ("BeansBoxModel", "readVoice", "[I", true)
  | 10 => ("BeansBoxModel", "isRead", "Z", false)
  | 11 => ("BeansBoxModel", "isKitchen", "Z", false)
  | 12 => ("BeansBoxModel", "n", "I", false)
  | 13 => ("BeansBoxModel", "voiceMany", "I", false)
  | 14 => ("BeansBoxModel", "box", "[I", true)
  | 15 => ("BeansBoxModel", "costs", "[I", true)
  | 16 => ("BeansBoxModel", "voices", "[I", true)
  | 17 => ("BeansBoxModel", "now", "[I", true)
  | 18 => ("BeansBoxModel", "undoMany", "I", false)
  | 19 => ("BeansBoxModel", "undoAt", "I", false)
  | 20 => ("BeansBoxModel", "undos", "[I", true)
  | 21 => ("BeansBoxModel", "seed", "J", false)
  | 22 => ("BeansBoxModel", "seenMany", "I", false)
  | 23 => ("BeansBoxModel", "seen", "[I", true)
  | 24 => ("BeansBoxModel", "bookMany", "I", false)
  | 25 => ("BeansBoxModel", "book", "[I", true)
  | 26 => ("BeansBoxModel", "isKept", "[Z", true)
  | 27 => ("BeansBoxModel", "kept", "[I", true)
  | _ => ("BeansBoxModel", "keptSeeds", "[J", true)
def tyX7 : Nat → FieldType := fun k => match k with
  | 0 => .int
  | 1 => .array .int
  | 2 => .int
  | 3 => .int
  | 4 => .int
  | 5 => .int
  | 6 => .int
  | 7 => .array .int
  | 8 => .array .int
  | 9 => .array .int
  | 10 => .boolean
  | 11 => .boolean
  | 12 => .int
  | 13 => .int
  | 14 => .array .int
  | 15 => .array .int
  | 16 => .array .int
  | 17 => .array .int
  | 18 => .int
  | 19 => .int
  | 20 => .array .int
  | 21 => .long
  | 22 => .int
  | 23 => .array .int
  | 24 => .int
  | 25 => .array .int
  | 26 => .array .boolean
  | 27 => .array .int
  | _ => .array .long
abbrev wsX70 : List Cond := u_ws RX7 TX7 29
theorem nmX7 : ∀ a, a < 29 → ∀ b, b < 29 → a ≠ b → (TX7 a).2.1 ≠ (TX7 b).2.1 := by decide +kernel
theorem tyX7_ok : ∀ k, k < 29 → parseFieldDescriptor (TX7 k).2.2.1 = some (tyX7 k) := by decide +kernel
abbrev cX7_init : ByteArray := prog_9_method_1_code
def yX7_init : MethodName := ⟨RX7, "<init>", "()V"⟩
abbrev cX7_in : ByteArray := prog_9_method_2_code
def yX7_in : MethodName := ⟨RX7, "in", "(III)Z"⟩
abbrev cX7_bits : ByteArray := prog_9_method_3_code
def yX7_bits : MethodName := ⟨RX7, "bits", "(I)I"⟩
abbrev cX7_feed : ByteArray := prog_9_method_4_code
def yX7_feed : MethodName := ⟨RX7, "feed", "(I)I"⟩
abbrev cX7_fault : ByteArray := prog_9_method_5_code
def yX7_fault : MethodName := ⟨RX7, "fault", "()I"⟩
abbrev cX7_letterAt : ByteArray := prog_9_method_6_code
def yX7_letterAt : MethodName := ⟨RX7, "letterAt", "(I)I"⟩
abbrev cX7_blanks : ByteArray := prog_9_method_7_code
def yX7_blanks : MethodName := ⟨RX7, "blanks", "()V"⟩
abbrev cX7_fails : ByteArray := prog_9_method_8_code
def yX7_fails : MethodName := ⟨RX7, "fails", "(I)Z"⟩
abbrev cX7_number : ByteArray := prog_9_method_9_code
def yX7_number : MethodName := ⟨RX7, "number", "(I)I"⟩
abbrev cX7_ends : ByteArray := prog_9_method_10_code
def yX7_ends : MethodName := ⟨RX7, "ends", "()Z"⟩
abbrev cX7_readsBox : ByteArray := prog_9_method_11_code
def yX7_readsBox : MethodName := ⟨RX7, "readsBox", "(Z)Z"⟩
abbrev cX7_readsWord : ByteArray := prog_9_method_12_code
def yX7_readsWord : MethodName := ⟨RX7, "readsWord", "()Z"⟩
abbrev cX7_readsVoice : ByteArray := prog_9_method_13_code
def yX7_readsVoice : MethodName := ⟨RX7, "readsVoice", "()Z"⟩
abbrev cX7_readsClause : ByteArray := prog_9_method_14_code
def yX7_readsClause : MethodName := ⟨RX7, "readsClause", "(Z)Z"⟩
abbrev cX7_reads : ByteArray := prog_9_method_15_code
def yX7_reads : MethodName := ⟨RX7, "reads", "()Z"⟩
abbrev cX7_kitchen : ByteArray := prog_9_method_16_code
def yX7_kitchen : MethodName := ⟨RX7, "kitchen", "()I"⟩
abbrev cX7_isWord : ByteArray := prog_9_method_17_code
def yX7_isWord : MethodName := ⟨RX7, "isWord", "(I)Z"⟩
abbrev cX7_isVoice : ByteArray := prog_9_method_18_code
def yX7_isVoice : MethodName := ⟨RX7, "isVoice", "(I)Z"⟩
abbrev cX7_isSound : ByteArray := prog_9_method_19_code
def yX7_isSound : MethodName := ⟨RX7, "isSound", "(I)Z"⟩
abbrev cX7_allListed : ByteArray := prog_9_method_20_code
def yX7_allListed : MethodName := ⟨RX7, "allListed", "()I"⟩
abbrev cX7_told : ByteArray := prog_9_method_21_code
def yX7_told : MethodName := ⟨RX7, "told", "(I)I"⟩
abbrev cX7_word : ByteArray := prog_9_method_22_code
def yX7_word : MethodName := ⟨RX7, "word", "(II)I"⟩
abbrev cX7_voice : ByteArray := prog_9_method_23_code
def yX7_voice : MethodName := ⟨RX7, "voice", "(I)I"⟩
abbrev cX7_far : ByteArray := prog_9_method_24_code
def yX7_far : MethodName := ⟨RX7, "far", "(II)I"⟩
abbrev cX7_apart : ByteArray := prog_9_method_25_code
def yX7_apart : MethodName := ⟨RX7, "apart", "(II)I"⟩
abbrev cX7_shifted : ByteArray := prog_9_method_26_code
def yX7_shifted : MethodName := ⟨RX7, "shifted", "(II)I"⟩
abbrev cX7_saidBy : ByteArray := prog_9_method_27_code
def yX7_saidBy : MethodName := ⟨RX7, "saidBy", "(II)I"⟩
abbrev cX7_weight : ByteArray := prog_9_method_28_code
def yX7_weight : MethodName := ⟨RX7, "weight", "(II)I"⟩
abbrev cX7_guessOf : ByteArray := prog_9_method_29_code
def yX7_guessOf : MethodName := ⟨RX7, "guessOf", "(I)I"⟩
abbrev cX7_sureOf : ByteArray := prog_9_method_30_code
def yX7_sureOf : MethodName := ⟨RX7, "sureOf", "(II)I"⟩
abbrev cX7_costOf : ByteArray := prog_9_method_31_code
def yX7_costOf : MethodName := ⟨RX7, "costOf", "(II)I"⟩
abbrev cX7_ruleOf : ByteArray := prog_9_method_32_code
def yX7_ruleOf : MethodName := ⟨RX7, "ruleOf", "(I)I"⟩
abbrev cX7_remember : ByteArray := prog_9_method_33_code
def yX7_remember : MethodName := ⟨RX7, "remember", "()V"⟩
abbrev cX7_atMost : ByteArray := prog_9_method_34_code
def yX7_atMost : MethodName := ⟨RX7, "atMost", "(I)I"⟩
abbrev cX7_less : ByteArray := prog_9_method_35_code
def yX7_less : MethodName := ⟨RX7, "less", "(I)I"⟩
abbrev cX7_hears : ByteArray := prog_9_method_36_code
def yX7_hears : MethodName := ⟨RX7, "hears", "(I)I"⟩
abbrev cX7_takesBack : ByteArray := prog_9_method_37_code
def yX7_takesBack : MethodName := ⟨RX7, "takesBack", "(I)V"⟩
abbrev cX7_letsBe : ByteArray := prog_9_method_38_code
def yX7_letsBe : MethodName := ⟨RX7, "letsBe", "()I"⟩
abbrev cX7_hear : ByteArray := prog_9_method_39_code
def yX7_hear : MethodName := ⟨RX7, "hear", "(I)I"⟩
abbrev cX7_takeBack : ByteArray := prog_9_method_40_code
def yX7_takeBack : MethodName := ⟨RX7, "takeBack", "(I)I"⟩
abbrev cX7_letBe : ByteArray := prog_9_method_41_code
def yX7_letBe : MethodName := ⟨RX7, "letBe", "()I"⟩
abbrev cX7_call : ByteArray := prog_9_method_42_code
def yX7_call : MethodName := ⟨RX7, "call", "(II)I"⟩
abbrev cX7_draw : ByteArray := prog_9_method_43_code
def yX7_draw : MethodName := ⟨RX7, "draw", "(I)I"⟩
abbrev cX7_drift : ByteArray := prog_9_method_44_code
def yX7_drift : MethodName := ⟨RX7, "drift", "(I)I"⟩
abbrev cX7_undo : ByteArray := prog_9_method_45_code
def yX7_undo : MethodName := ⟨RX7, "undo", "()I"⟩
abbrev cX7_guess : ByteArray := prog_9_method_46_code
def yX7_guess : MethodName := ⟨RX7, "guess", "(I)I"⟩
abbrev cX7_sure : ByteArray := prog_9_method_47_code
def yX7_sure : MethodName := ⟨RX7, "sure", "(II)I"⟩
abbrev cX7_rule : ByteArray := prog_9_method_48_code
def yX7_rule : MethodName := ⟨RX7, "rule", "(I)I"⟩
abbrev cX7_worth : ByteArray := prog_9_method_49_code
def yX7_worth : MethodName := ⟨RX7, "worth", "(II)I"⟩
abbrev cX7_said : ByteArray := prog_9_method_50_code
def yX7_said : MethodName := ⟨RX7, "said", "(II)I"⟩
abbrev cX7_misheard : ByteArray := prog_9_method_51_code
def yX7_misheard : MethodName := ⟨RX7, "misheard", "(I)I"⟩
abbrev cX7_meantBy : ByteArray := prog_9_method_52_code
def yX7_meantBy : MethodName := ⟨RX7, "meantBy", "(II)I"⟩
abbrev cX7_who : ByteArray := prog_9_method_53_code
def yX7_who : MethodName := ⟨RX7, "who", "(I)I"⟩
abbrev cX7_meant : ByteArray := prog_9_method_54_code
def yX7_meant : MethodName := ⟨RX7, "meant", "(II)I"⟩
abbrev cX7_alike : ByteArray := prog_9_method_55_code
def yX7_alike : MethodName := ⟨RX7, "alike", "(II)I"⟩
abbrev cX7_wake : ByteArray := prog_9_method_56_code
def yX7_wake : MethodName := ⟨RX7, "wake", "(I)I"⟩
abbrev cX7_falsely : ByteArray := prog_9_method_57_code
def yX7_falsely : MethodName := ⟨RX7, "falsely", "(II)I"⟩
abbrev cX7_needs : ByteArray := prog_9_method_58_code
def yX7_needs : MethodName := ⟨RX7, "needs", "(III)I"⟩
abbrev cX7_heardBy : ByteArray := prog_9_method_59_code
def yX7_heardBy : MethodName := ⟨RX7, "heardBy", "(I)I"⟩
abbrev cX7_bestCalled : ByteArray := prog_9_method_60_code
def yX7_bestCalled : MethodName := ⟨RX7, "bestCalled", "(II)I"⟩
abbrev cX7_asks : ByteArray := prog_9_method_61_code
def yX7_asks : MethodName := ⟨RX7, "asks", "(I)I"⟩
abbrev cX7_waked : ByteArray := prog_9_method_62_code
def yX7_waked : MethodName := ⟨RX7, "waked", "(II)I"⟩
abbrev cX7_see : ByteArray := prog_9_method_63_code
def yX7_see : MethodName := ⟨RX7, "see", "(II)I"⟩
abbrev cX7_speaker : ByteArray := prog_9_method_64_code
def yX7_speaker : MethodName := ⟨RX7, "speaker", "()I"⟩
abbrev cX7_greatestPart : ByteArray := prog_9_method_65_code
def yX7_greatestPart : MethodName := ⟨RX7, "greatestPart", "(II)I"⟩
abbrev cX7_sayNext : ByteArray := prog_9_method_66_code
def yX7_sayNext : MethodName := ⟨RX7, "sayNext", "()I"⟩
abbrev cX7_write : ByteArray := prog_9_method_67_code
def yX7_write : MethodName := ⟨RX7, "write", "(II)I"⟩
abbrev cX7_tear : ByteArray := prog_9_method_68_code
def yX7_tear : MethodName := ⟨RX7, "tear", "()I"⟩
abbrev cX7_judge : ByteArray := prog_9_method_69_code
def yX7_judge : MethodName := ⟨RX7, "judge", "()I"⟩
abbrev cX7_seed : ByteArray := prog_9_method_70_code
def yX7_seed : MethodName := ⟨RX7, "seed", "(I)I"⟩
abbrev cX7_keep : ByteArray := prog_9_method_71_code
def yX7_keep : MethodName := ⟨RX7, "keep", "(I)I"⟩
abbrev cX7_goBack : ByteArray := prog_9_method_72_code
def yX7_goBack : MethodName := ⟨RX7, "goBack", "(I)I"⟩
def RJ6 : String := "java/lang/Integer"
def TJ6 : u_T := fun k => match k with
  | _ => ("", "", "", false)
def tyJ6 : Nat → FieldType := fun k => match k with
  | _ => .int
abbrev wsJ60 : List Cond := u_ws RJ6 TJ6 0
theorem nmJ6 : ∀ a, a < 0 → ∀ b, b < 0 → a ≠ b → (TJ6 a).2.1 ≠ (TJ6 b).2.1 := by decide +kernel
theorem tyJ6_ok : ∀ k, k < 0 → parseFieldDescriptor (TJ6 k).2.2.1 = some (tyJ6 k) := by decide +kernel
abbrev cJ6_bitCount_0f7a4 : ByteArray := prog_10_method_49_code
def yJ6_bitCount_0f7a4 : MethodName := ⟨RJ6, "bitCount", "(I)I"⟩
def RJ9 : String := "java/lang/Math"
def TJ9 : u_T := fun k => match k with
  | _ => ("", "", "", false)
def tyJ9 : Nat → FieldType := fun k => match k with
  | _ => .int
abbrev wsJ90 : List Cond := u_ws RJ9 TJ9 0
theorem nmJ9 : ∀ a, a < 0 → ∀ b, b < 0 → a ≠ b → (TJ9 a).2.1 ≠ (TJ9 b).2.1 := by decide +kernel
theorem tyJ9_ok : ∀ k, k < 0 → parseFieldDescriptor (TJ9 k).2.2.1 = some (tyJ9 k) := by decide +kernel
abbrev cJ9_abs_0f7a4 : ByteArray := prog_11_method_59_code
def yJ9_abs_0f7a4 : MethodName := ⟨RJ9, "abs", "(I)I"⟩
abbrev cJ9_max_7cf53 : ByteArray := prog_11_method_65_code
def yJ9_max_7cf53 : MethodName := ⟨RJ9, "max", "(II)I"⟩
abbrev cJ9_min_7cf53 : ByteArray := prog_11_method_69_code
def yJ9_min_7cf53 : MethodName := ⟨RJ9, "min", "(II)I"⟩
def RL : String := "BeansBoxLaw"
abbrev cL_law : ByteArray := code
def yL_law : MethodName := ⟨RL, "law", "([I)Z"⟩
abbrev vwCl : List vw_C := [(RX0, TX0, 7), (RX1, TX1, 3), (RX2, TX2, 10), (RX3, TX3, 3), (RX4, TX4, 3), (RX5, TX5, 4), (RX6, TX6, 11), (RX7, TX7, 29)]
/-! ===== END ===== -/
end
section
/-! ===== BEGIN my layer: one judgement (AW) for a point of a method, one (AM) for a method ===== -/
abbrev GT : Type := va_G × (Nat → ClassId)
def aTys (G : GT) : List (ClassId × FieldType) := [(G.2 0, .int), (G.2 1, .long), (G.2 2, .boolean), (G.2 3, .object RX0), (G.2 4, .object RX1)]
/-- the tables' words that hold behind any step; those of nest mates go beside them -/
def wsT : List Cond := lw_tbl.filter goodWord
def nestWord : Cond → Bool
  | .fieldLinkNest .. => true
  | .methodLinkNest .. => true
  | _ => false
def nsW : List Cond := lw_tbl.filter nestWord
theorem wsT_good : ∀ w ∈ wsT, goodWord w = true := fun _ h => (List.mem_filter.mp h).2
theorem wsT_in : ∀ w ∈ wsT, w ∈ lw_tbl := fun _ h => (List.mem_filter.mp h).1
theorem nsW_in : ∀ w ∈ nsW, w ∈ lw_tbl := fun _ h => (List.mem_filter.mp h).1
def KX (G : GT) (U : State) : Prop := va_K G.1 vwCl (aTys G) U ∧ va_AO RX0 U ∧ va_AO RX1 U ∧ ∀ w ∈ nsW, va_Nw w U
theorem KX.warm {G : GT} {s U : State} (hW : s.WarmedH U.vm) (h : KX G s) : KX G U := by
  refine ⟨va_K.moved hW.alike h.1, va_AO.moved hW.alike h.2.1, va_AO.moved hW.alike h.2.2.1, fun w hw => ?_⟩
  have h1 := h.2.2.2 w hw
  have h2 := (List.mem_filter.mp hw).2
  cases w <;> first | (simp [nestWord] at h2; done) | exact va_Nw.warmF hW h1 | exact va_Nw.warmM hW h1
theorem KX.same {G : GT} {s U : State} (hvm : s.vm = U.vm) (h : KX G s) : KX G U := by
  refine ⟨va_K.moved (by rw [hvm]; exact Vm.Alike.refl _) h.1, va_AO.moved (by rw [hvm]; exact Vm.Alike.refl _) h.2.1, va_AO.moved (by rw [hvm]; exact Vm.Alike.refl _) h.2.2.1, fun w hw => ?_⟩
  have h1 := h.2.2.2 w hw
  have h2 := (List.mem_filter.mp hw).2
  cases w <;> first | (simp [nestWord] at h2; done) | exact va_Nw.same rfl hvm h1
/-- an object of class ci at a, with its fields -/
def Ob (G : GT) (H : Heap) (a ci : Nat) (fs : List Value) : Prop := va_at G.1 vwCl (a, .inr (ci, fs)) H
/-- an array of ints, longs, booleans, references -/
def Ai (G : GT) (H : Heap) (a n : Nat) (f : Nat → Int32) : Prop := H[a]? = some (arrV (G.2 0) n (fun j => .int (f j)))
def Al (G : GT) (H : Heap) (a n : Nat) (f : Nat → Int64) : Prop := H[a]? = some (arrV (G.2 1) n (fun j => .long (f j)))
def Az (G : GT) (H : Heap) (a n : Nat) (f : Nat → Int32) : Prop := H[a]? = some (arrV (G.2 2) n (fun j => .int (f j)))
def Aq (G : GT) (H : Heap) (a t n : Nat) (f : Nat → Option Nat) : Prop := H[a]? = some (arrV (G.2 t) n (fun j => va_rf (f j)))
theorem Ob.kept {G : GT} {H H1 : Heap} {a ci : Nat} {fs : List Value} (h : Ob G H a ci fs) (hq : H1[a]? = H[a]?) : Ob G H1 a ci fs := va_at.kept (q := (a, .inr (ci, fs))) h hq
theorem Ai.kept {G : GT} {H H1 : Heap} {a n : Nat} {f : Nat → Int32} (h : Ai G H a n f) (hq : H1[a]? = H[a]?) : Ai G H1 a n f := hq.trans h
theorem Al.kept {G : GT} {H H1 : Heap} {a n : Nat} {f : Nat → Int64} (h : Al G H a n f) (hq : H1[a]? = H[a]?) : Al G H1 a n f := hq.trans h
theorem Az.kept {G : GT} {H H1 : Heap} {a n : Nat} {f : Nat → Int32} (h : Az G H a n f) (hq : H1[a]? = H[a]?) : Az G H1 a n f := hq.trans h
theorem Aq.kept {G : GT} {H H1 : Heap} {a t n : Nat} {f : Nat → Option Nat} (h : Aq G H a t n f) (hq : H1[a]? = H[a]?) : Aq G H1 a t n f := hq.trans h
theorem Ob.lt {G : GT} {H : Heap} {a ci : Nat} {fs : List Value} (h : Ob G H a ci fs) : a < H.size := va_at.lt (q := (a, .inr (ci, fs))) h
theorem Ai.lt {G : GT} {H : Heap} {a n : Nat} {f : Nat → Int32} (h : Ai G H a n f) : a < H.size := (Array.getElem?_eq_some_iff.mp h).1
theorem Al.lt {G : GT} {H : Heap} {a n : Nat} {f : Nat → Int64} (h : Al G H a n f) : a < H.size := (Array.getElem?_eq_some_iff.mp h).1
theorem Az.lt {G : GT} {H : Heap} {a n : Nat} {f : Nat → Int32} (h : Az G H a n f) : a < H.size := (Array.getElem?_eq_some_iff.mp h).1
theorem Aq.lt {G : GT} {H : Heap} {a t n : Nat} {f : Nat → Option Nat} (h : Aq G H a t n f) : a < H.size := (Array.getElem?_eq_some_iff.mp h).1
theorem arrV_ext {cA : ClassId} {n : Nat} {f g : Nat → Value} (h : ∀ j, j < n → f j = g j) : arrV cA n f = arrV cA n g := by
  unfold arrV
  congr 1
  apply congrArg
  funext j
  exact h j.val j.isLt
theorem Ai.to {G : GT} {H : Heap} {a n : Nat} {f g : Nat → Int32} (h : Ai G H a n f) (hg : ∀ j, j < n → f j = g j) : Ai G H a n g := h.trans (congrArg some (arrV_ext fun j hj => by rw [hg j hj]))
theorem Al.to {G : GT} {H : Heap} {a n : Nat} {f g : Nat → Int64} (h : Al G H a n f) (hg : ∀ j, j < n → f j = g j) : Al G H a n g := h.trans (congrArg some (arrV_ext fun j hj => by rw [hg j hj]))
theorem Az.to {G : GT} {H : Heap} {a n : Nat} {f g : Nat → Int32} (h : Az G H a n f) (hg : ∀ j, j < n → f j = g j) : Az G H a n g := h.trans (congrArg some (arrV_ext fun j hj => by rw [hg j hj]))
theorem Aq.to {G : GT} {H : Heap} {a t n : Nat} {f g : Nat → Option Nat} (h : Aq G H a t n f) (hg : ∀ j, j < n → f j = g j) : Aq G H a t n g := h.trans (congrArg some (arrV_ext fun j hj => by rw [hg j hj]))
/-- what stands fixed in a method: the machine, its code, the tables' words, the classes -/
def MC (G : GT) (B : Nat) (own : String) (cc : ByteArray) (nL : Nat) (ini : Bool) (p : Program) (s : State) (m : MethodId) (args : Array Value) (meth : Method) (c : Code) : Prop :=
  p.tables.exec = Jvm.exec ∧ c.code = cc ∧ c.maxLocals = nL ∧ s.vm.findClass own = some m.cls ∧ (∀ w ∈ wsT, w.before args s = true) ∧ KX G s ∧ (ini = true → meth.name = "<init>") ∧ B ≤ s.heap.size
def retAt (cc : ByteArray) (pc : Nat) (v : Option Value) : Prop := (v = none ∧ decode cc pc = .ok (.return_, 1)) ∨ (∃ x : Int32, v = some (.int x) ∧ decode cc pc = .ok (.ireturn, 1))
/-- from this point the method comes to an end of which 'fin answer heap cells slots' holds; below B nothing changes -/
def AW (G : GT) (B : Nat) (l : Launch) (R : Room) (own : String) (cc : ByteArray) (nL : Nat) (ini : Bool) (fin : Option Value → Heap → Nat → Nat → Prop) (pc : Nat) (lv : List (Nat × Value)) (st : List Value) (H : Heap) (ce sl : Nat) : Prop :=
  ∀ (p : Program) (e : Env) (s : State) (m : MethodId) (args : Array Value) (below : List Frame) (meth : Method) (c : Code) (Q : State → Prop) (locs : List Loc) (ls : Array Slot),
    MC G B own cc nL ini p s m args meth c →
    (∀ (v : Option Value) (H' : Heap) (locs' : List Loc) (pc' : Nat) (ls' : Array Slot) (ce' sl' : Nat), fin v H' ce' sl' → retAt cc pc' v → va_S (fun q => B ≤ q) s.heap H' locs' → W p l e R s m args below meth c H' locs' ce' sl' Q (F0 m pc' ls' v.toList)) →
    va_S (fun q => B ≤ q) s.heap H locs → lv_has ls nL lv →
    W p l e R s m args below meth c H locs ce sl Q (F0 m pc ls st)
/-- a method's contract at this heap: its answer and the heap behind it -/
def AM (G : GT) (B : Nat) (l : Launch) (y : MethodName) (cc : ByteArray) (nL : Nat) (ret : Option FieldType) (d mc ms : Nat) (av : List Value) (H : Heap) (post : Option Value → Heap → Prop) : Prop :=
  B ≤ H.size → Met l y (.code y cc nL ret :: wsT) { frames := d, cells := mc, slots := ms, locals := 27 * d } (va_Pc av (fun U => U.heap = H ∧ KX G U)) (fun _ st oc t => (∃ v, oc = .returned v ∧ post v t.heap) ∧ va_F (fun q => B ≤ q) st t) mc ms (fun q => B ≤ q)
def bI (b : Bool) : Int32 := if b = true then 1 else 0
theorem bI_narrow (b : Bool) : narrow .boolean (.int (bI b)) = .int (bI b) := by cases b <;> decide
theorem bI_zero {b : Bool} : bI b = 0 ↔ b = false := by cases b <;> decide
section AX
variable {G : GT} {B : Nat} {l : Launch} {R : Room} {own : String} {cc : ByteArray} {nL : Nat} {ini : Bool} {fin : Option Value → Heap → Nat → Nat → Prop}
variable {pc : Nat} {lv lv' : List (Nat × Value)} {st : List Value} {H : Heap} {ce sl : Nat}
theorem AM.head {y : MethodName} {ret : Option FieldType} {d mc ms : Nat} {av : List Value} {post : Option Value → Heap → Prop} (hy : plainName y.cls = true) (hini : ini = true → y.name = "<init>") (hlen : (lg_sl av).length ≤ nL) (hlv : lv_args 0 av = lv)
    (hend : ∀ (p : Program) (e : Env) (s : State) (m : MethodId) (below : List Frame) (meth : Method) (c : Code) (v : Option Value) (H' : Heap) (locs' : List Loc) (pc' : Nat) (ls' : Array Slot) (ce' sl' : Nat), p.tables.exec = Jvm.exec → c.code = cc → meth.sig.returnType = ret → meth.locks = false → fin v H' ce' sl' → retAt cc pc' v → va_S (fun q => B ≤ q) s.heap H' locs' →
      W p l e { frames := d, cells := mc, slots := ms, locals := 27 * d } s m av.toArray below meth c H' locs' ce' sl' (MQ below (fun _ st oc t => (∃ v, oc = .returned v ∧ post v t.heap) ∧ va_F (fun q => B ≤ q) st t) av.toArray s mc ms (fun q => B ≤ q)) (F0 m pc' ls' v.toList))
    (k : AW G B l { frames := d, cells := mc, slots := ms, locals := 27 * d } y.cls cc nL ini fin 0 lv [] H 0 0) : AM G B l y cc nL ret d mc ms av H post := by
  intro hB
  refine Met.ofW (cc := cc) (maxL := nL) (ret := ret) hy rfl ?_
  intro p e s m args below meth c s₁ Bd hml hv
  obtain ⟨rfl, hH, hK⟩ := hv
  subst hH
  subst hlv
  rw [lg_entry_eq]
  refine k p e s m _ below meth c _ [] _ ⟨Bd.exec, Bd.bytes, hml, findClass_of_methodNamed Bd.named, fun w hw => ?_, hK, fun hi => ?_, hB⟩ (fun v H' locs' pc' ls' ce' sl' h1 h2 h3 => hend p e s m below meth c v H' locs' pc' ls' ce' sl' Bd.exec Bd.bytes Bd.returns Bd.notSynchronized h1 h2 h3) va_S.rf (lv_entry av hlen)
  · exact atoms_spec (ws := .code y cc nL ret :: wsT) Bd.pre w (List.mem_cons_of_mem _ hw)
  · rw [(name_of_methodNamed Bd.named Bd.method).1]; exact hini hi
theorem AM.ofI {y : MethodName} {d mc ms : Nat} {av : List Value} {post : Option Value → Heap → Prop} (hy : plainName y.cls = true) (hlen : (lg_sl av).length ≤ nL) (hlv : lv_args 0 av = lv)
    (k : AW G B l { frames := d, cells := mc, slots := ms, locals := 27 * d } y.cls cc nL false (fun v H' ce' sl' => post v H' ∧ ce' = mc ∧ sl' = ms) 0 lv [] H 0 0) (hv : ∀ H', ¬ post none H') : AM G B l y cc nL (some .int) d mc ms av H post := by
  refine AM.head hy (fun h => by cases h) hlen hlv ?_ k
  rintro p e s m below meth c v H' locs' pc' ls' ce' sl' hx hb hr hlocks ⟨hp, rfl, rfl⟩ (⟨rfl, -⟩ | ⟨x, rfl, hd⟩) hS
  · exact absurd hp (hv H')
  · exact W.iret hx hb hr (fun t ht hW => ⟨⟨_, rfl, by rw [ht]; exact hp⟩, va_S.F hS ht⟩) hS.2.2 hd
theorem AM.ofZ {y : MethodName} {d mc ms : Nat} {av : List Value} {post : Option Value → Heap → Prop} (hy : plainName y.cls = true) (hlen : (lg_sl av).length ≤ nL) (hlv : lv_args 0 av = lv)
    (k : AW G B l { frames := d, cells := mc, slots := ms, locals := 27 * d } y.cls cc nL false (fun v H' ce' sl' => post v H' ∧ ce' = mc ∧ sl' = ms) 0 lv [] H 0 0) (hv : ∀ v H', post v H' → ∃ b, v = some (.int (bI b))) : AM G B l y cc nL (some .boolean) d mc ms av H post := by
  refine AM.head hy (fun h => by cases h) hlen hlv ?_ k
  rintro p e s m below meth c v H' locs' pc' ls' ce' sl' hx hb hr hlocks ⟨hp, rfl, rfl⟩ (⟨rfl, -⟩ | ⟨x, rfl, hd⟩) hS
  · obtain ⟨b, h⟩ := hv _ _ hp
    cases h
  · obtain ⟨b, h⟩ := hv _ _ hp
    obtain rfl : x = bI b := by cases h; rfl
    exact W.zret hx hb hr (bI_narrow b) (fun t ht hW => ⟨⟨_, rfl, by rw [ht]; exact hp⟩, va_S.F hS ht⟩) hS.2.2 hd
theorem AM.ofV {y : MethodName} {d mc ms : Nat} {av : List Value} {post : Option Value → Heap → Prop} (hy : plainName y.cls = true) (hini : ini = true → y.name = "<init>") (hlen : (lg_sl av).length ≤ nL) (hlv : lv_args 0 av = lv)
    (k : AW G B l { frames := d, cells := mc, slots := ms, locals := 27 * d } y.cls cc nL ini (fun v H' ce' sl' => post v H' ∧ ce' = mc ∧ sl' = ms) 0 lv [] H 0 0) (hv : ∀ v H', post v H' → v = none) : AM G B l y cc nL none d mc ms av H post := by
  refine AM.head hy hini hlen hlv ?_ k
  rintro p e s m below meth c v H' locs' pc' ls' ce' sl' hx hb hr hlocks ⟨hp, rfl, rfl⟩ (⟨rfl, hd⟩ | ⟨x, rfl, -⟩) hS
  · exact W.vret hx hb hr (fun t ht hW => ⟨⟨_, rfl, by rw [ht]; exact hp⟩, va_S.F hS ht⟩) hS.2.2 hd
  · exact absurd (hv _ _ hp) (fun h => by cases h)

theorem a_ret {x : Int32} (hd : decode cc pc = .ok (.ireturn, 1)) (k : fin (some (.int x)) H ce sl) : AW G B l R own cc nL ini fin pc lv [.int x] H ce sl := fun p e s m args below meth c Q locs ls C hr hS hl => hr (some (.int x)) H locs pc ls ce sl k (Or.inr ⟨x, rfl, hd⟩) hS
theorem a_retv  (hd : decode cc pc = .ok (.return_, 1)) (k : fin none H ce sl) : AW G B l R own cc nL ini fin pc lv [] H ce sl := fun p e s m args below meth c Q locs ls C hr hS hl => hr none H locs pc ls ce sl k (Or.inl ⟨rfl, hd⟩) hS
theorem a_widen {ce2 sl2 : Nat} (h1 : ce ≤ ce2) (h2 : sl ≤ sl2) (k : AW G B l R own cc nL ini fin pc lv st H ce2 sl2) : AW G B l R own cc nL ini fin pc lv st H ce sl := fun p e s m args below meth c Q locs ls C hr hS hl => W.widen h1 h2 (k p e s m args below meth c Q locs ls C hr hS hl)
theorem a_sub  (is : List Nat) (hs : lv_pick lv is = lv') (k : AW G B l R own cc nL ini fin pc lv' st H ce sl) : AW G B l R own cc nL ini fin pc lv st H ce sl := fun p e s m args below meth c Q locs ls C hr hS hl => k p e s m args below meth c Q locs ls C hr hS (lv_sub hl is hs)
theorem a_iconst {n : Int} (v : Int32) (hd : decode cc pc = .ok (.iconst n, 1)) (hv : Int32.ofInt n = v := by decide) (k : AW G B l R own cc nL ini fin (pc + 1) lv (.int v :: st) H ce sl) : AW G B l R own cc nL ini fin pc lv st H ce sl := fun p e s m args below meth c Q locs ls C hr hS hl => lv_iconst C.1 C.2.1 hd hv (k p e s m args below meth c Q locs ls C hr hS hl)
theorem a_bipush {n : Int} (v : Int32) (hd : decode cc pc = .ok (.bipush n, 2)) (hv : (Int8.ofInt n).toInt32 = v := by decide) (k : AW G B l R own cc nL ini fin (pc + 2) lv (.int v :: st) H ce sl) : AW G B l R own cc nL ini fin pc lv st H ce sl := fun p e s m args below meth c Q locs ls C hr hS hl => lv_bipush C.1 C.2.1 hd hv (k p e s m args below meth c Q locs ls C hr hS hl)
theorem a_sipush {n : Int} (v : Int32) (hd : decode cc pc = .ok (.sipush n, 3)) (hv : (Int16.ofInt n).toInt32 = v := by decide) (k : AW G B l R own cc nL ini fin (pc + 3) lv (.int v :: st) H ce sl) : AW G B l R own cc nL ini fin pc lv st H ce sl := fun p e s m args below meth c Q locs ls C hr hS hl => lv_sipush C.1 C.2.1 hd hv (k p e s m args below meth c Q locs ls C hr hS hl)
theorem a_ldc {i : Nat} (v : Int32) (hw : Cond.constant own i v ∈ wsT) (hd : decode cc pc = .ok (.ldc i, 2)) (k : AW G B l R own cc nL ini fin (pc + 2) lv (.int v :: st) H ce sl) : AW G B l R own cc nL ini fin pc lv st H ce sl := fun p e s m args below meth c Q locs ls C hr hS hl => lv_ldc C.1 C.2.1 C.2.2.2.1 (C.2.2.2.2.1 _ hw) hd (k p e s m args below meth c Q locs ls C hr hS hl)
theorem a_ldcw {i : Nat} (v : Int32) (hw : Cond.constant own i v ∈ wsT) (hd : decode cc pc = .ok (.ldc_w i, 3)) (k : AW G B l R own cc nL ini fin (pc + 3) lv (.int v :: st) H ce sl) : AW G B l R own cc nL ini fin pc lv st H ce sl := fun p e s m args below meth c Q locs ls C hr hS hl => lv_ldcw C.1 C.2.1 C.2.2.2.1 (C.2.2.2.2.1 _ hw) hd (k p e s m args below meth c Q locs ls C hr hS hl)
theorem a_ldc2 {i : Nat} (v : Int64) (hw : Cond.constantLong own i v ∈ wsT) (hd : decode cc pc = .ok (.ldc2_w i, 3)) (k : AW G B l R own cc nL ini fin (pc + 3) lv (.long v :: st) H ce sl) : AW G B l R own cc nL ini fin pc lv st H ce sl := fun p e s m args below meth c Q locs ls C hr hS hl => lv_ldc2 C.1 C.2.1 C.2.2.2.1 (C.2.2.2.2.1 _ hw) hd (k p e s m args below meth c Q locs ls C hr hS hl)
theorem a_lconst {n : Fin 2} (v : Int64) (hd : decode cc pc = .ok (.lconst n, 1)) (hv : Int64.ofNat (n : Nat) = v := by decide) (k : AW G B l R own cc nL ini fin (pc + 1) lv (.long v :: st) H ce sl) : AW G B l R own cc nL ini fin pc lv st H ce sl := fun p e s m args below meth c Q locs ls C hr hS hl => lv_lconst C.1 C.2.1 hd hv (k p e s m args below meth c Q locs ls C hr hS hl)
theorem a_iload_n {j : Fin 4} {i : Nat} {x : Int32} (q : Nat) (hd : decode cc pc = .ok (.iload_n j, 1)) (hi : (j : Nat) = i) (hk : lv[q]? = some (i, .int x)) (k : AW G B l R own cc nL ini fin (pc + 1) lv (.int x :: st) H ce sl) : AW G B l R own cc nL ini fin pc lv st H ce sl := fun p e s m args below meth c Q locs ls C hr hS hl => lv_iload_n C.1 C.2.1 hd hi (lv_at hl q hk) (k p e s m args below meth c Q locs ls C hr hS hl)
theorem a_iload {i : Nat} {x : Int32} (q : Nat) (hd : decode cc pc = .ok (.iload i, 2)) (hk : lv[q]? = some (i, .int x)) (k : AW G B l R own cc nL ini fin (pc + 2) lv (.int x :: st) H ce sl) : AW G B l R own cc nL ini fin pc lv st H ce sl := fun p e s m args below meth c Q locs ls C hr hS hl => lv_iload C.1 C.2.1 hd (lv_at hl q hk) (k p e s m args below meth c Q locs ls C hr hS hl)
theorem a_lload_n {j : Fin 4} {i : Nat} {x : Int64} (q : Nat) (hd : decode cc pc = .ok (.lload_n j, 1)) (hi : (j : Nat) = i) (hk : lv[q]? = some (i, .long x)) (k : AW G B l R own cc nL ini fin (pc + 1) lv (.long x :: st) H ce sl) : AW G B l R own cc nL ini fin pc lv st H ce sl := fun p e s m args below meth c Q locs ls C hr hS hl => lv_lload_n C.1 C.2.1 hd hi (lv_at hl q hk) (k p e s m args below meth c Q locs ls C hr hS hl)
theorem a_lload {i : Nat} {x : Int64} (q : Nat) (hd : decode cc pc = .ok (.lload i, 2)) (hk : lv[q]? = some (i, .long x)) (k : AW G B l R own cc nL ini fin (pc + 2) lv (.long x :: st) H ce sl) : AW G B l R own cc nL ini fin pc lv st H ce sl := fun p e s m args below meth c Q locs ls C hr hS hl => lv_lload C.1 C.2.1 hd (lv_at hl q hk) (k p e s m args below meth c Q locs ls C hr hS hl)
theorem a_aload_n {j : Fin 4} {i : Nat} {x : Nat} (q : Nat) (hd : decode cc pc = .ok (.aload_n j, 1)) (hi : (j : Nat) = i) (hk : lv[q]? = some (i, .ref x)) (k : AW G B l R own cc nL ini fin (pc + 1) lv (.ref x :: st) H ce sl) : AW G B l R own cc nL ini fin pc lv st H ce sl := fun p e s m args below meth c Q locs ls C hr hS hl => lv_aload_n C.1 C.2.1 hd hi (lv_at hl q hk) (k p e s m args below meth c Q locs ls C hr hS hl)
theorem a_aload {i : Nat} {x : Nat} (q : Nat) (hd : decode cc pc = .ok (.aload i, 2)) (hk : lv[q]? = some (i, .ref x)) (k : AW G B l R own cc nL ini fin (pc + 2) lv (.ref x :: st) H ce sl) : AW G B l R own cc nL ini fin pc lv st H ce sl := fun p e s m args below meth c Q locs ls C hr hS hl => lv_aload C.1 C.2.1 hd (lv_at hl q hk) (k p e s m args below meth c Q locs ls C hr hS hl)
theorem a_istore_n {j : Fin 4} {i : Nat} {x : Int32} (hd : decode cc pc = .ok (.istore_n j, 1)) (hi : (j : Nat) = i) (hn : i < nL) (hs : (i, Value.int x) :: lv.filter (fun q => !(q.1 == i) && !(q.1 + 1 == i && q.2.category == 2)) = lv') (k : AW G B l R own cc nL ini fin (pc + 1) lv' st H ce sl) : AW G B l R own cc nL ini fin pc lv (.int x :: st) H ce sl := fun p e s m args below meth c Q locs ls C hr hS hl => lv_istore_n C.1 C.2.1 hd hi hl hn hs (fun ls' hl' => k p e s m args below meth c Q locs ls' C hr hS hl')
theorem a_istore {i : Nat} {x : Int32} (hd : decode cc pc = .ok (.istore i, 2)) (hn : i < nL) (hs : (i, Value.int x) :: lv.filter (fun q => !(q.1 == i) && !(q.1 + 1 == i && q.2.category == 2)) = lv') (k : AW G B l R own cc nL ini fin (pc + 2) lv' st H ce sl) : AW G B l R own cc nL ini fin pc lv (.int x :: st) H ce sl := fun p e s m args below meth c Q locs ls C hr hS hl => lv_istore C.1 C.2.1 hd hl hn hs (fun ls' hl' => k p e s m args below meth c Q locs ls' C hr hS hl')
theorem a_astore_n {j : Fin 4} {i : Nat} {x : Nat} (hd : decode cc pc = .ok (.astore_n j, 1)) (hi : (j : Nat) = i) (hn : i < nL) (hs : (i, Value.ref x) :: lv.filter (fun q => !(q.1 == i) && !(q.1 + 1 == i && q.2.category == 2)) = lv') (k : AW G B l R own cc nL ini fin (pc + 1) lv' st H ce sl) : AW G B l R own cc nL ini fin pc lv (.ref x :: st) H ce sl := fun p e s m args below meth c Q locs ls C hr hS hl => lv_astore_n C.1 C.2.1 hd hi hl hn hs (fun ls' hl' => k p e s m args below meth c Q locs ls' C hr hS hl')
theorem a_astore {i : Nat} {x : Nat} (hd : decode cc pc = .ok (.astore i, 2)) (hn : i < nL) (hs : (i, Value.ref x) :: lv.filter (fun q => !(q.1 == i) && !(q.1 + 1 == i && q.2.category == 2)) = lv') (k : AW G B l R own cc nL ini fin (pc + 2) lv' st H ce sl) : AW G B l R own cc nL ini fin pc lv (.ref x :: st) H ce sl := fun p e s m args below meth c Q locs ls C hr hS hl => lv_astore C.1 C.2.1 hd hl hn hs (fun ls' hl' => k p e s m args below meth c Q locs ls' C hr hS hl')
theorem a_lstore_n {j : Fin 4} {i : Nat} {x : Int64} (hd : decode cc pc = .ok (.lstore_n j, 1)) (hi : (j : Nat) = i) (hn : i + 1 < nL) (hs : (i, Value.long x) :: lv.filter (fun q => !(q.1 == i) && (!(q.1 == i + 1) && !(q.1 + 1 == i && q.2.category == 2))) = lv') (k : AW G B l R own cc nL ini fin (pc + 1) lv' st H ce sl) : AW G B l R own cc nL ini fin pc lv (.long x :: st) H ce sl := fun p e s m args below meth c Q locs ls C hr hS hl => lv_lstore_n C.1 C.2.1 hd hi hl hn hs (fun ls' hl' => k p e s m args below meth c Q locs ls' C hr hS hl')
theorem a_lstore {i : Nat} {x : Int64} (hd : decode cc pc = .ok (.lstore i, 2)) (hn : i + 1 < nL) (hs : (i, Value.long x) :: lv.filter (fun q => !(q.1 == i) && (!(q.1 == i + 1) && !(q.1 + 1 == i && q.2.category == 2))) = lv') (k : AW G B l R own cc nL ini fin (pc + 2) lv' st H ce sl) : AW G B l R own cc nL ini fin pc lv (.long x :: st) H ce sl := fun p e s m args below meth c Q locs ls C hr hS hl => lv_lstore C.1 C.2.1 hd hl hn hs (fun ls' hl' => k p e s m args below meth c Q locs ls' C hr hS hl')
theorem a_iinc {i q : Nat} {n : Int} {x y : Int32} (hd : decode cc pc = .ok (.iinc i n, 3)) (hk : lv[q]? = some (i, .int x)) (hv : Int32.ofInt n = y) (hn : i < nL) (hs : (i, Value.int (x + y)) :: lv.filter (fun q => !(q.1 == i) && !(q.1 + 1 == i && q.2.category == 2)) = lv') (k : AW G B l R own cc nL ini fin (pc + 3) lv' st H ce sl) : AW G B l R own cc nL ini fin pc lv st H ce sl := fun p e s m args below meth c Q locs ls C hr hS hl => lv_iinc C.1 C.2.1 hd hl hk (by rw [hv]) hn hs (fun ls' hl' => k p e s m args below meth c Q locs ls' C hr hS hl')
theorem a_iincN {i q a : Nat} (hd : decode cc pc = .ok (.iinc i 1, 3)) (hk : lv[q]? = some (i, .int (nI a))) (hn : i < nL) (hs : (i, Value.int (nI (a + 1))) :: lv.filter (fun q => !(q.1 == i) && !(q.1 + 1 == i && q.2.category == 2)) = lv') (k : AW G B l R own cc nL ini fin (pc + 3) lv' st H ce sl) : AW G B l R own cc nL ini fin pc lv st H ce sl := fun p e s m args below meth c Q locs ls C hr hS hl => lv_iinc C.1 C.2.1 hd hl hk (nI_1 a) hn hs (fun ls' hl' => k p e s m args below meth c Q locs ls' C hr hS hl')
theorem a_iadd {x y : Int32} (hd : decode cc pc = .ok (.iadd, 1)) (k : AW G B l R own cc nL ini fin (pc + 1) lv (.int (x + y) :: st) H ce sl) : AW G B l R own cc nL ini fin pc lv (.int y :: .int x :: st) H ce sl := fun p e s m args below meth c Q locs ls C hr hS hl => lv_iadd C.1 C.2.1 hd (k p e s m args below meth c Q locs ls C hr hS hl)
theorem a_isub {x y : Int32} (hd : decode cc pc = .ok (.isub, 1)) (k : AW G B l R own cc nL ini fin (pc + 1) lv (.int (x - y) :: st) H ce sl) : AW G B l R own cc nL ini fin pc lv (.int y :: .int x :: st) H ce sl := fun p e s m args below meth c Q locs ls C hr hS hl => lv_isub C.1 C.2.1 hd (k p e s m args below meth c Q locs ls C hr hS hl)
theorem a_imul {x y : Int32} (hd : decode cc pc = .ok (.imul, 1)) (k : AW G B l R own cc nL ini fin (pc + 1) lv (.int (x * y) :: st) H ce sl) : AW G B l R own cc nL ini fin pc lv (.int y :: .int x :: st) H ce sl := fun p e s m args below meth c Q locs ls C hr hS hl => lv_imul C.1 C.2.1 hd (k p e s m args below meth c Q locs ls C hr hS hl)
theorem a_iand {x y : Int32} (hd : decode cc pc = .ok (.iand, 1)) (k : AW G B l R own cc nL ini fin (pc + 1) lv (.int (x &&& y) :: st) H ce sl) : AW G B l R own cc nL ini fin pc lv (.int y :: .int x :: st) H ce sl := fun p e s m args below meth c Q locs ls C hr hS hl => lv_iand C.1 C.2.1 hd (k p e s m args below meth c Q locs ls C hr hS hl)
theorem a_ior {x y : Int32} (hd : decode cc pc = .ok (.ior, 1)) (k : AW G B l R own cc nL ini fin (pc + 1) lv (.int (x ||| y) :: st) H ce sl) : AW G B l R own cc nL ini fin pc lv (.int y :: .int x :: st) H ce sl := fun p e s m args below meth c Q locs ls C hr hS hl => lv_ior C.1 C.2.1 hd (k p e s m args below meth c Q locs ls C hr hS hl)
theorem a_idiv {x y : Int32} (hd : decode cc pc = .ok (.idiv, 1)) (hy : ¬ y = 0) (k : AW G B l R own cc nL ini fin (pc + 1) lv (.int (x / y) :: st) H ce sl) : AW G B l R own cc nL ini fin pc lv (.int y :: .int x :: st) H ce sl := fun p e s m args below meth c Q locs ls C hr hS hl => lv_idiv C.1 C.2.1 hd hy (k p e s m args below meth c Q locs ls C hr hS hl)
theorem a_ladd {x y : Int64} (hd : decode cc pc = .ok (.ladd, 1)) (k : AW G B l R own cc nL ini fin (pc + 1) lv (.long (x + y) :: st) H ce sl) : AW G B l R own cc nL ini fin pc lv (.long y :: .long x :: st) H ce sl := fun p e s m args below meth c Q locs ls C hr hS hl => lv_ladd C.1 C.2.1 hd (k p e s m args below meth c Q locs ls C hr hS hl)
theorem a_lmul {x y : Int64} (hd : decode cc pc = .ok (.lmul, 1)) (k : AW G B l R own cc nL ini fin (pc + 1) lv (.long (x * y) :: st) H ce sl) : AW G B l R own cc nL ini fin pc lv (.long y :: .long x :: st) H ce sl := fun p e s m args below meth c Q locs ls C hr hS hl => lv_lmul C.1 C.2.1 hd (k p e s m args below meth c Q locs ls C hr hS hl)
theorem a_ldiv {x y : Int64} (hd : decode cc pc = .ok (.ldiv, 1)) (hy : ¬ y = 0) (k : AW G B l R own cc nL ini fin (pc + 1) lv (.long (x / y) :: st) H ce sl) : AW G B l R own cc nL ini fin pc lv (.long y :: .long x :: st) H ce sl := fun p e s m args below meth c Q locs ls C hr hS hl => lv_ldiv C.1 C.2.1 hd hy (k p e s m args below meth c Q locs ls C hr hS hl)
theorem a_ishl {x y : Int32} (hd : decode cc pc = .ok (.ishl, 1)) (k : AW G B l R own cc nL ini fin (pc + 1) lv (.int (x <<< (y &&& 31)) :: st) H ce sl) : AW G B l R own cc nL ini fin pc lv (.int y :: .int x :: st) H ce sl := fun p e s m args below meth c Q locs ls C hr hS hl => lv_ishl C.1 C.2.1 hd (k p e s m args below meth c Q locs ls C hr hS hl)
theorem a_ishr {x y : Int32} (hd : decode cc pc = .ok (.ishr, 1)) (k : AW G B l R own cc nL ini fin (pc + 1) lv (.int (x >>> (y &&& 31)) :: st) H ce sl) : AW G B l R own cc nL ini fin pc lv (.int y :: .int x :: st) H ce sl := fun p e s m args below meth c Q locs ls C hr hS hl => lv_ishr C.1 C.2.1 hd (k p e s m args below meth c Q locs ls C hr hS hl)
theorem a_irem {x y : Int32} (hd : decode cc pc = .ok (.irem, 1)) (hy : ¬ y = 0) (k : AW G B l R own cc nL ini fin (pc + 1) lv (.int (x % y) :: st) H ce sl) : AW G B l R own cc nL ini fin pc lv (.int y :: .int x :: st) H ce sl := fun p e s m args below meth c Q locs ls C hr hS hl => lv_irem C.1 C.2.1 hd hy (by rw [irem_eq_mod]; exact k p e s m args below meth c Q locs ls C hr hS hl)
theorem a_lrem {x y : Int64} (hd : decode cc pc = .ok (.lrem, 1)) (hy : ¬ y = 0) (k : AW G B l R own cc nL ini fin (pc + 1) lv (.long (x - x / y * y) :: st) H ce sl) : AW G B l R own cc nL ini fin pc lv (.long y :: .long x :: st) H ce sl := fun p e s m args below meth c Q locs ls C hr hS hl => lv_lrem C.1 C.2.1 hd hy (k p e s m args below meth c Q locs ls C hr hS hl)
theorem a_ineg {x : Int32} (hd : decode cc pc = .ok (.ineg, 1)) (k : AW G B l R own cc nL ini fin (pc + 1) lv (.int (-x) :: st) H ce sl) : AW G B l R own cc nL ini fin pc lv (.int x :: st) H ce sl := fun p e s m args below meth c Q locs ls C hr hS hl => lv_ineg C.1 C.2.1 hd (k p e s m args below meth c Q locs ls C hr hS hl)
theorem a_i2l {x : Int32} (hd : decode cc pc = .ok (.i2l, 1)) (k : AW G B l R own cc nL ini fin (pc + 1) lv (.long x.toInt64 :: st) H ce sl) : AW G B l R own cc nL ini fin pc lv (.int x :: st) H ce sl := fun p e s m args below meth c Q locs ls C hr hS hl => lv_i2l C.1 C.2.1 hd rfl (k p e s m args below meth c Q locs ls C hr hS hl)
theorem a_l2i {x : Int64} (hd : decode cc pc = .ok (.l2i, 1)) (k : AW G B l R own cc nL ini fin (pc + 1) lv (.int x.toInt32 :: st) H ce sl) : AW G B l R own cc nL ini fin pc lv (.long x :: st) H ce sl := fun p e s m args below meth c Q locs ls C hr hS hl => lv_l2i C.1 C.2.1 hd rfl (k p e s m args below meth c Q locs ls C hr hS hl)
theorem a_iaddN {a b : Nat} (hd : decode cc pc = .ok (.iadd, 1)) (k : AW G B l R own cc nL ini fin (pc + 1) lv (.int (nI (a + b)) :: st) H ce sl) : AW G B l R own cc nL ini fin pc lv (.int (nI b) :: .int (nI a) :: st) H ce sl := fun p e s m args below meth c Q locs ls C hr hS hl => lv_iadd C.1 C.2.1 hd (by rw [nI_add]; exact k p e s m args below meth c Q locs ls C hr hS hl)
theorem a_imulN {a b : Nat} (hd : decode cc pc = .ok (.imul, 1)) (k : AW G B l R own cc nL ini fin (pc + 1) lv (.int (nI (a * b)) :: st) H ce sl) : AW G B l R own cc nL ini fin pc lv (.int (nI b) :: .int (nI a) :: st) H ce sl := fun p e s m args below meth c Q locs ls C hr hS hl => lv_imul C.1 C.2.1 hd (by rw [pk_mul]; exact k p e s m args below meth c Q locs ls C hr hS hl)
theorem a_isubN {a b : Nat} (hd : decode cc pc = .ok (.isub, 1)) (hab : b ≤ a) (k : AW G B l R own cc nL ini fin (pc + 1) lv (.int (nI (a - b)) :: st) H ce sl) : AW G B l R own cc nL ini fin pc lv (.int (nI b) :: .int (nI a) :: st) H ce sl := fun p e s m args below meth c Q locs ls C hr hS hl => lv_isub C.1 C.2.1 hd (by rw [pk_sub hab]; exact k p e s m args below meth c Q locs ls C hr hS hl)
theorem a_topi {x : Int32}  (k : ∀ y : Int32, y = x → AW G B l R own cc nL ini fin pc lv (.int y :: st) H ce sl) : AW G B l R own cc nL ini fin pc lv (.int x :: st) H ce sl := fun p e s m args below meth c Q locs ls C hr hS hl => k x rfl p e s m args below meth c Q locs ls C hr hS hl
theorem a_toeq {x : Int32} (y : Int32) (h : x = y) (k : AW G B l R own cc nL ini fin pc lv (.int y :: st) H ce sl) : AW G B l R own cc nL ini fin pc lv (.int x :: st) H ce sl := fun p e s m args below meth c Q locs ls C hr hS hl => (by rw [h]; exact k p e s m args below meth c Q locs ls C hr hS hl)
theorem a_toeql {x : Int64} (y : Int64) (h : x = y) (k : AW G B l R own cc nL ini fin pc lv (.long y :: st) H ce sl) : AW G B l R own cc nL ini fin pc lv (.long x :: st) H ce sl := fun p e s m args below meth c Q locs ls C hr hS hl => (by rw [h]; exact k p e s m args below meth c Q locs ls C hr hS hl)
theorem a_dup {v : Value} (hd : decode cc pc = .ok (.dup, 1)) (hv : v.category = 1) (k : AW G B l R own cc nL ini fin (pc + 1) lv (v :: v :: st) H ce sl) : AW G B l R own cc nL ini fin pc lv (v :: st) H ce sl := fun p e s m args below meth c Q locs ls C hr hS hl => lv_dup C.1 C.2.1 hd hv (k p e s m args below meth c Q locs ls C hr hS hl)
theorem a_pop {v : Value} (hd : decode cc pc = .ok (.pop, 1)) (hv : v.category = 1) (k : AW G B l R own cc nL ini fin (pc + 1) lv st H ce sl) : AW G B l R own cc nL ini fin pc lv (v :: st) H ce sl := fun p e s m args below meth c Q locs ls C hr hS hl => lv_pop C.1 C.2.1 hd hv (k p e s m args below meth c Q locs ls C hr hS hl)
theorem a_dup2 {v w : Value} (hd : decode cc pc = .ok (.dup2, 1)) (hv : v.category = 1) (hw : w.category = 1) (k : AW G B l R own cc nL ini fin (pc + 1) lv (v :: w :: v :: w :: st) H ce sl) : AW G B l R own cc nL ini fin pc lv (v :: w :: st) H ce sl := fun p e s m args below meth c Q locs ls C hr hS hl => lv_dup2_11 C.1 C.2.1 hd hv hw (k p e s m args below meth c Q locs ls C hr hS hl)
theorem a_goto {off : Int} (tgt : Nat) (hd : decode cc pc = .ok (.goto off, 3)) (ht : (pc : Int) + off = (tgt : Int)) (k : AW G B l R own cc nL ini fin tgt lv st H ce sl) : AW G B l R own cc nL ini fin pc lv st H ce sl := fun p e s m args below meth c Q locs ls C hr hS hl => lv_goto C.1 C.2.1 hd ht (k p e s m args below meth c Q locs ls C hr hS hl)
theorem a_ifeq {x : Int32} {off : Int} (tgt : Nat) (hd : decode cc pc = .ok (.ifCond .eq off, 3)) (ht : (pc : Int) + off = (tgt : Int)) (kt : x = 0 → AW G B l R own cc nL ini fin tgt lv st H ce sl) (kf : ¬ x = 0 → AW G B l R own cc nL ini fin (pc + 3) lv st H ce sl) : AW G B l R own cc nL ini fin pc lv (.int x :: st) H ce sl := fun p e s m args below meth c Q locs ls C hr hS hl => lv_if_eq C.1 C.2.1 hd ht (fun hc => kt hc p e s m args below meth c Q locs ls C hr hS hl) (fun hc => kf hc p e s m args below meth c Q locs ls C hr hS hl)
theorem a_ifne {x : Int32} {off : Int} (tgt : Nat) (hd : decode cc pc = .ok (.ifCond .ne off, 3)) (ht : (pc : Int) + off = (tgt : Int)) (kt : ¬ x = 0 → AW G B l R own cc nL ini fin tgt lv st H ce sl) (kf : x = 0 → AW G B l R own cc nL ini fin (pc + 3) lv st H ce sl) : AW G B l R own cc nL ini fin pc lv (.int x :: st) H ce sl := fun p e s m args below meth c Q locs ls C hr hS hl => lv_if_ne C.1 C.2.1 hd ht (fun hc => kt hc p e s m args below meth c Q locs ls C hr hS hl) (fun hc => kf hc p e s m args below meth c Q locs ls C hr hS hl)
theorem a_iflt {x : Int32} {off : Int} (tgt : Nat) (hd : decode cc pc = .ok (.ifCond .lt off, 3)) (ht : (pc : Int) + off = (tgt : Int)) (kt : x < 0 → AW G B l R own cc nL ini fin tgt lv st H ce sl) (kf : ¬ x < 0 → AW G B l R own cc nL ini fin (pc + 3) lv st H ce sl) : AW G B l R own cc nL ini fin pc lv (.int x :: st) H ce sl := fun p e s m args below meth c Q locs ls C hr hS hl => lv_if_lt C.1 C.2.1 hd ht (fun hc => kt hc p e s m args below meth c Q locs ls C hr hS hl) (fun hc => kf hc p e s m args below meth c Q locs ls C hr hS hl)
theorem a_ifge {x : Int32} {off : Int} (tgt : Nat) (hd : decode cc pc = .ok (.ifCond .ge off, 3)) (ht : (pc : Int) + off = (tgt : Int)) (kt : 0 ≤ x → AW G B l R own cc nL ini fin tgt lv st H ce sl) (kf : ¬ 0 ≤ x → AW G B l R own cc nL ini fin (pc + 3) lv st H ce sl) : AW G B l R own cc nL ini fin pc lv (.int x :: st) H ce sl := fun p e s m args below meth c Q locs ls C hr hS hl => lv_if_ge C.1 C.2.1 hd ht (fun hc => kt hc p e s m args below meth c Q locs ls C hr hS hl) (fun hc => kf hc p e s m args below meth c Q locs ls C hr hS hl)
theorem a_ifgt {x : Int32} {off : Int} (tgt : Nat) (hd : decode cc pc = .ok (.ifCond .gt off, 3)) (ht : (pc : Int) + off = (tgt : Int)) (kt : 0 < x → AW G B l R own cc nL ini fin tgt lv st H ce sl) (kf : ¬ 0 < x → AW G B l R own cc nL ini fin (pc + 3) lv st H ce sl) : AW G B l R own cc nL ini fin pc lv (.int x :: st) H ce sl := fun p e s m args below meth c Q locs ls C hr hS hl => lv_if_gt C.1 C.2.1 hd ht (fun hc => kt hc p e s m args below meth c Q locs ls C hr hS hl) (fun hc => kf hc p e s m args below meth c Q locs ls C hr hS hl)
theorem a_ifle {x : Int32} {off : Int} (tgt : Nat) (hd : decode cc pc = .ok (.ifCond .le off, 3)) (ht : (pc : Int) + off = (tgt : Int)) (kt : x ≤ 0 → AW G B l R own cc nL ini fin tgt lv st H ce sl) (kf : ¬ x ≤ 0 → AW G B l R own cc nL ini fin (pc + 3) lv st H ce sl) : AW G B l R own cc nL ini fin pc lv (.int x :: st) H ce sl := fun p e s m args below meth c Q locs ls C hr hS hl => lv_if_le C.1 C.2.1 hd ht (fun hc => kt hc p e s m args below meth c Q locs ls C hr hS hl) (fun hc => kf hc p e s m args below meth c Q locs ls C hr hS hl)
theorem a_icmpeq {x y : Int32} {off : Int} (tgt : Nat) (hd : decode cc pc = .ok (.if_icmp .eq off, 3)) (ht : (pc : Int) + off = (tgt : Int)) (kt : x = y → AW G B l R own cc nL ini fin tgt lv st H ce sl) (kf : ¬ x = y → AW G B l R own cc nL ini fin (pc + 3) lv st H ce sl) : AW G B l R own cc nL ini fin pc lv (.int y :: .int x :: st) H ce sl := fun p e s m args below meth c Q locs ls C hr hS hl => lv_icmp_eq C.1 C.2.1 hd ht (fun hc => kt hc p e s m args below meth c Q locs ls C hr hS hl) (fun hc => kf hc p e s m args below meth c Q locs ls C hr hS hl)
theorem a_icmpne {x y : Int32} {off : Int} (tgt : Nat) (hd : decode cc pc = .ok (.if_icmp .ne off, 3)) (ht : (pc : Int) + off = (tgt : Int)) (kt : ¬ x = y → AW G B l R own cc nL ini fin tgt lv st H ce sl) (kf : x = y → AW G B l R own cc nL ini fin (pc + 3) lv st H ce sl) : AW G B l R own cc nL ini fin pc lv (.int y :: .int x :: st) H ce sl := fun p e s m args below meth c Q locs ls C hr hS hl => lv_icmp_ne C.1 C.2.1 hd ht (fun hc => kt hc p e s m args below meth c Q locs ls C hr hS hl) (fun hc => kf hc p e s m args below meth c Q locs ls C hr hS hl)
theorem a_icmplt {x y : Int32} {off : Int} (tgt : Nat) (hd : decode cc pc = .ok (.if_icmp .lt off, 3)) (ht : (pc : Int) + off = (tgt : Int)) (kt : x < y → AW G B l R own cc nL ini fin tgt lv st H ce sl) (kf : ¬ x < y → AW G B l R own cc nL ini fin (pc + 3) lv st H ce sl) : AW G B l R own cc nL ini fin pc lv (.int y :: .int x :: st) H ce sl := fun p e s m args below meth c Q locs ls C hr hS hl => lv_icmp_lt C.1 C.2.1 hd ht (fun hc => kt hc p e s m args below meth c Q locs ls C hr hS hl) (fun hc => kf hc p e s m args below meth c Q locs ls C hr hS hl)
theorem a_icmpge {x y : Int32} {off : Int} (tgt : Nat) (hd : decode cc pc = .ok (.if_icmp .ge off, 3)) (ht : (pc : Int) + off = (tgt : Int)) (kt : y ≤ x → AW G B l R own cc nL ini fin tgt lv st H ce sl) (kf : ¬ y ≤ x → AW G B l R own cc nL ini fin (pc + 3) lv st H ce sl) : AW G B l R own cc nL ini fin pc lv (.int y :: .int x :: st) H ce sl := fun p e s m args below meth c Q locs ls C hr hS hl => lv_icmp_ge C.1 C.2.1 hd ht (fun hc => kt hc p e s m args below meth c Q locs ls C hr hS hl) (fun hc => kf hc p e s m args below meth c Q locs ls C hr hS hl)
theorem a_icmpgt {x y : Int32} {off : Int} (tgt : Nat) (hd : decode cc pc = .ok (.if_icmp .gt off, 3)) (ht : (pc : Int) + off = (tgt : Int)) (kt : y < x → AW G B l R own cc nL ini fin tgt lv st H ce sl) (kf : ¬ y < x → AW G B l R own cc nL ini fin (pc + 3) lv st H ce sl) : AW G B l R own cc nL ini fin pc lv (.int y :: .int x :: st) H ce sl := fun p e s m args below meth c Q locs ls C hr hS hl => lv_icmp_gt C.1 C.2.1 hd ht (fun hc => kt hc p e s m args below meth c Q locs ls C hr hS hl) (fun hc => kf hc p e s m args below meth c Q locs ls C hr hS hl)
theorem a_icmple {x y : Int32} {off : Int} (tgt : Nat) (hd : decode cc pc = .ok (.if_icmp .le off, 3)) (ht : (pc : Int) + off = (tgt : Int)) (kt : x ≤ y → AW G B l R own cc nL ini fin tgt lv st H ce sl) (kf : ¬ x ≤ y → AW G B l R own cc nL ini fin (pc + 3) lv st H ce sl) : AW G B l R own cc nL ini fin pc lv (.int y :: .int x :: st) H ce sl := fun p e s m args below meth c Q locs ls C hr hS hl => lv_icmp_le C.1 C.2.1 hd ht (fun hc => kt hc p e s m args below meth c Q locs ls C hr hS hl) (fun hc => kf hc p e s m args below meth c Q locs ls C hr hS hl)
theorem a_icmpeqN {a b : Nat} {off : Int} (tgt : Nat) (hd : decode cc pc = .ok (.if_icmp .eq off, 3)) (ht : (pc : Int) + off = (tgt : Int)) (ha : a < 2 ^ 31) (hb : b < 2 ^ 31) (kt : a = b → AW G B l R own cc nL ini fin tgt lv st H ce sl) (kf : a ≠ b → AW G B l R own cc nL ini fin (pc + 3) lv st H ce sl) : AW G B l R own cc nL ini fin pc lv (.int (nI b) :: .int (nI a) :: st) H ce sl := fun p e s m args below meth c Q locs ls C hr hS hl => lv_icmp_eq C.1 C.2.1 hd ht (fun hc => kt ((nI_eq ha hb).mp hc) p e s m args below meth c Q locs ls C hr hS hl) (fun hc => kf (fun h => hc ((nI_eq ha hb).mpr h)) p e s m args below meth c Q locs ls C hr hS hl)
theorem a_icmpneN {a b : Nat} {off : Int} (tgt : Nat) (hd : decode cc pc = .ok (.if_icmp .ne off, 3)) (ht : (pc : Int) + off = (tgt : Int)) (ha : a < 2 ^ 31) (hb : b < 2 ^ 31) (kt : a ≠ b → AW G B l R own cc nL ini fin tgt lv st H ce sl) (kf : a = b → AW G B l R own cc nL ini fin (pc + 3) lv st H ce sl) : AW G B l R own cc nL ini fin pc lv (.int (nI b) :: .int (nI a) :: st) H ce sl := fun p e s m args below meth c Q locs ls C hr hS hl => lv_icmp_ne C.1 C.2.1 hd ht (fun hc => kt (fun h => hc ((nI_eq ha hb).mpr h)) p e s m args below meth c Q locs ls C hr hS hl) (fun hc => kf ((nI_eq ha hb).mp hc) p e s m args below meth c Q locs ls C hr hS hl)
theorem a_icmpltN {a b : Nat} {off : Int} (tgt : Nat) (hd : decode cc pc = .ok (.if_icmp .lt off, 3)) (ht : (pc : Int) + off = (tgt : Int)) (ha : a < 2 ^ 31) (hb : b < 2 ^ 31) (kt : a < b → AW G B l R own cc nL ini fin tgt lv st H ce sl) (kf : b ≤ a → AW G B l R own cc nL ini fin (pc + 3) lv st H ce sl) : AW G B l R own cc nL ini fin pc lv (.int (nI b) :: .int (nI a) :: st) H ce sl := fun p e s m args below meth c Q locs ls C hr hS hl => lv_icmp_lt C.1 C.2.1 hd ht (fun hc => kt ((nI_ltI ha hb).mp hc) p e s m args below meth c Q locs ls C hr hS hl) (fun hc => kf (Nat.not_lt.mp fun h => hc ((nI_ltI ha hb).mpr h)) p e s m args below meth c Q locs ls C hr hS hl)
theorem a_icmpgeN {a b : Nat} {off : Int} (tgt : Nat) (hd : decode cc pc = .ok (.if_icmp .ge off, 3)) (ht : (pc : Int) + off = (tgt : Int)) (ha : a < 2 ^ 31) (hb : b < 2 ^ 31) (kt : b ≤ a → AW G B l R own cc nL ini fin tgt lv st H ce sl) (kf : a < b → AW G B l R own cc nL ini fin (pc + 3) lv st H ce sl) : AW G B l R own cc nL ini fin pc lv (.int (nI b) :: .int (nI a) :: st) H ce sl := fun p e s m args below meth c Q locs ls C hr hS hl => lv_icmp_ge C.1 C.2.1 hd ht (fun hc => kt ((nI_leI hb ha).mp hc) p e s m args below meth c Q locs ls C hr hS hl) (fun hc => kf (Nat.not_le.mp fun h => hc ((nI_leI hb ha).mpr h)) p e s m args below meth c Q locs ls C hr hS hl)
theorem a_icmpgtN {a b : Nat} {off : Int} (tgt : Nat) (hd : decode cc pc = .ok (.if_icmp .gt off, 3)) (ht : (pc : Int) + off = (tgt : Int)) (ha : a < 2 ^ 31) (hb : b < 2 ^ 31) (kt : b < a → AW G B l R own cc nL ini fin tgt lv st H ce sl) (kf : a ≤ b → AW G B l R own cc nL ini fin (pc + 3) lv st H ce sl) : AW G B l R own cc nL ini fin pc lv (.int (nI b) :: .int (nI a) :: st) H ce sl := fun p e s m args below meth c Q locs ls C hr hS hl => lv_icmp_gt C.1 C.2.1 hd ht (fun hc => kt ((nI_ltI hb ha).mp hc) p e s m args below meth c Q locs ls C hr hS hl) (fun hc => kf (Nat.not_lt.mp fun h => hc ((nI_ltI hb ha).mpr h)) p e s m args below meth c Q locs ls C hr hS hl)
theorem a_icmpleN {a b : Nat} {off : Int} (tgt : Nat) (hd : decode cc pc = .ok (.if_icmp .le off, 3)) (ht : (pc : Int) + off = (tgt : Int)) (ha : a < 2 ^ 31) (hb : b < 2 ^ 31) (kt : a ≤ b → AW G B l R own cc nL ini fin tgt lv st H ce sl) (kf : b < a → AW G B l R own cc nL ini fin (pc + 3) lv st H ce sl) : AW G B l R own cc nL ini fin pc lv (.int (nI b) :: .int (nI a) :: st) H ce sl := fun p e s m args below meth c Q locs ls C hr hS hl => lv_icmp_le C.1 C.2.1 hd ht (fun hc => kt ((nI_leI ha hb).mp hc) p e s m args below meth c Q locs ls C hr hS hl) (fun hc => kf (Nat.not_le.mp fun h => hc ((nI_leI ha hb).mpr h)) p e s m args below meth c Q locs ls C hr hS hl)
theorem a_ifeqB {b : Bool} {off : Int} (tgt : Nat) (hd : decode cc pc = .ok (.ifCond .eq off, 3)) (ht : (pc : Int) + off = (tgt : Int)) (kt : b = false → AW G B l R own cc nL ini fin tgt lv st H ce sl) (kf : b = true → AW G B l R own cc nL ini fin (pc + 3) lv st H ce sl) : AW G B l R own cc nL ini fin pc lv (.int (bI b) :: st) H ce sl := fun p e s m args below meth c Q locs ls C hr hS hl => lv_if_eq C.1 C.2.1 hd ht (fun hc => kt (bI_zero.mp hc) p e s m args below meth c Q locs ls C hr hS hl) (fun hc => kf (Bool.not_eq_false _ |>.mp fun h => hc (bI_zero.mpr h)) p e s m args below meth c Q locs ls C hr hS hl)
theorem a_ifneB {b : Bool} {off : Int} (tgt : Nat) (hd : decode cc pc = .ok (.ifCond .ne off, 3)) (ht : (pc : Int) + off = (tgt : Int)) (kt : b = true → AW G B l R own cc nL ini fin tgt lv st H ce sl) (kf : b = false → AW G B l R own cc nL ini fin (pc + 3) lv st H ce sl) : AW G B l R own cc nL ini fin pc lv (.int (bI b) :: st) H ce sl := fun p e s m args below meth c Q locs ls C hr hS hl => lv_if_ne C.1 C.2.1 hd ht (fun hc => kt (Bool.not_eq_false _ |>.mp fun h => hc (bI_zero.mpr h)) p e s m args below meth c Q locs ls C hr hS hl) (fun hc => kf (bI_zero.mp hc) p e s m args below meth c Q locs ls C hr hS hl)
theorem a_tabOut {dflt lo hi : Int} {offs : Array Int} {len : Nat} {x : Int32} (tgt : Nat) (hd : decode cc pc = .ok (.tableswitch dflt lo hi offs, len)) (h : x.toInt < lo ∨ hi < x.toInt) (ht : (pc : Int) + dflt = (tgt : Int)) (k : AW G B l R own cc nL ini fin tgt lv st H ce sl) : AW G B l R own cc nL ini fin pc lv (.int x :: st) H ce sl := fun p e s m args below meth c Q locs ls C hr hS hl => lv_tableOut C.1 C.2.1 hd h ht (k p e s m args below meth c Q locs ls C hr hS hl)
theorem a_tabIn {dflt lo hi off : Int} {offs : Array Int} {len : Nat} {x : Int32} (tgt : Nat) (hd : decode cc pc = .ok (.tableswitch dflt lo hi offs, len)) (h1 : ¬ x.toInt < lo) (h2 : ¬ hi < x.toInt) (ho : offs[(x.toInt - lo).toNat]? = some off) (ht : (pc : Int) + off = (tgt : Int)) (k : AW G B l R own cc nL ini fin tgt lv st H ce sl) : AW G B l R own cc nL ini fin pc lv (.int x :: st) H ce sl := fun p e s m args below meth c Q locs ls C hr hS hl => lv_tableIn C.1 C.2.1 hd h1 h2 ho ht (k p e s m args below meth c Q locs ls C hr hS hl)
/-- a field's place: class, slot; and the pool entry of the method's class that names it -/
def FL (own : String) (idx ci f : Nat) : Prop := ∃ (C : String) (T : u_T) (N : Nat), vwCl[ci]? = some (C, T, N) ∧ f < N ∧ (∀ w ∈ u_ws C T N, w ∈ wsT) ∧ (Cond.fieldLink own idx (T f).1 (T f).2.1 (T f).2.2.1 ∈ wsT ∨ ∃ host : String, Cond.fieldLinkNest own idx (T f).1 (T f).2.1 (T f).2.2.1 host ∈ nsW)
/-- and what may be put there -/
def FP (own : String) (idx ci f : Nat) (ty : FieldType) (ini : Bool) : Prop := ∃ (C : String) (T : u_T) (N : Nat) (ty0 : Nat → FieldType), vwCl[ci]? = some (C, T, N) ∧ (∀ k, k < N → parseFieldDescriptor (T k).2.2.1 = some (ty0 k)) ∧ (∀ a, a < N → ∀ b, b < N → a ≠ b → (T a).2.1 ≠ (T b).2.1) ∧ parseFieldDescriptor (T f).2.2.1 = some ty ∧ ((T f).2.2.2 = false ∨ ((T f).2.2.2 = true ∧ ini = true ∧ (T f).1 = own ∧ Cond.fieldLink own idx (T f).1 (T f).2.1 (T f).2.2.1 ∈ wsT))
theorem a_get {idx a ci f : Nat} {fs : List Value} {v : Value} (hf : FL own idx ci f) (hd : decode cc pc = .ok (.getfield idx, 3)) (ho : Ob G H a ci fs) (hv : fs[f]? = some v) (k : AW G B l R own cc nL ini fin (pc + 3) lv (v :: st) H ce sl) : AW G B l R own cc nL ini fin pc lv (.ref a :: st) H ce sl := by
  intro p e s m args below meth c Q locs ls C hr hS hl
  obtain ⟨C0, T, N, h1, h2, h3, h4⟩ := hf
  have hP1 : va_P G.1 vwCl [(a, .inr (ci, fs))] H := fun j q hq => by
    cases j with
    | zero => cases hq; exact ho
    | succ j => simp at hq
  rcases h4 with h4 | ⟨host, h4⟩
  · exact va_get (ws := [(a, .inr (ci, fs))]) C.1 C.2.1 C.2.2.2.2.1 h3 C.2.2.2.1 C.2.2.2.2.2.1.1 hP1 0 rfl h1 f h2 (C.2.2.2.2.1 _ h4) (fun _ h => h) hv hd (k p e s m args below meth c Q locs ls C hr hS hl)
  · exact va_getN (ws := [(a, .inr (ci, fs))]) C.1 C.2.1 C.2.2.2.2.1 h3 C.2.2.2.1 C.2.2.2.2.2.1.1 hP1 0 rfl h1 f h2 (va_Nw.use rfl (C.2.2.2.2.2.1.2.2.2 _ h4)) (fun _ h => h) hv hd (k p e s m args below meth c Q locs ls C hr hS hl)
theorem a_put {idx a ci f : Nat} {fs : List Value} {v : Value} {ty : FieldType} (hf : FL own idx ci f) (hp : FP own idx ci f ty ini) (hd : decode cc pc = .ok (.putfield idx, 3)) (ho : Ob G H a ci fs) (hfs : f < fs.length) (hn : narrow ty v = v) (hfit : fits ty v = true) (hB : B ≤ a)
    (k : ∀ H1 : Heap, Ob G H1 a ci (fs.set f v) → H1.size = H.size → (∀ q, q ≠ a → H1[q]? = H[q]?) → AW G B l R own cc nL ini fin (pc + 3) lv st H1 ce sl) : AW G B l R own cc nL ini fin pc lv (v :: .ref a :: st) H ce sl := by
  intro p e s m args below meth c Q locs ls C hr hS hl
  obtain ⟨C0, T, N, hc, hk, hin, hlink⟩ := hf
  obtain ⟨C1, T1, N1, ty0, hc1, hty, hnm, hdd, hfin⟩ := hp
  cases hc.symm.trans hc1
  have hts := C.2.2.2.2.1
  have hK := C.2.2.2.2.2.1.1
  have hap := va_apart (own := own) hts hin ty0 hty hnm hK hc
  obtain ⟨r, h1, cell, q1, q2, q3, q4⟩ := ho
  have hr' : r = (C0, T, N) := Option.some.inj (h1.symm.trans hc)
  subst hr'
  obtain ⟨hSl, hfc, kC, hkC, hkind⟩ := hK.1 ci _ hc
  obtain ⟨cf, kf, fi, fd, hi, hsl⟩ := hSl f hk
  have hst := (u_facts hfc hkC (u_lays hts hin hk) hi).1
  have hlay := hts _ (hin _ (u_in_lay hk))
  unfold u_lay at hlay
  rcases hfin with hfin | ⟨hfin, hini, hdecl, hlink⟩
  · rw [if_neg (by rw [hfin]; decide)] at hlay
    have h6 := u_store hfc hkC hkind hlay hi hdd hn hfit
    rcases hlink with hlink | ⟨host, hlink⟩
    · refine W.putK C.1 C.2.1 (f := fd) ⟨C.2.2.2.1, hts _ hlink, ⟨_, _, _, hi⟩, hst⟩ (by rw [q2]; exact h6) q1 q3 (by rw [hsl]; exact k2_hasslot (q4 f hk)) rfl rfl hd fun H' e1 e2 e3 => ?_
      rw [hsl] at e1 ⊢
      exact k H' ⟨_, hc, t_OB.to (V := updV (vp_V fs) f v) ⟨_, e1, q2, q3, t_set q4 hap hk v⟩ (fun j _ => vp_updV_set hfs v j)⟩ e2 e3 p e s m args below meth c Q _ ls C hr (hS.put e2 e3 hB) hl
    · refine va_WputK C.1 C.2.1 (f := fd) C.2.2.2.1 (va_Nw.use rfl (C.2.2.2.2.2.1.2.2.2 _ hlink)) hi hst (by rw [q2]; exact h6) q1 q3 (by rw [hsl]; exact k2_hasslot (q4 f hk)) rfl rfl hd fun H' e1 e2 e3 => ?_
      rw [hsl] at e1 ⊢
      exact k H' ⟨_, hc, t_OB.to (V := updV (vp_V fs) f v) ⟨_, e1, q2, q3, t_set q4 hap hk v⟩ (fun j _ => vp_updV_set hfs v j)⟩ e2 e3 p e s m args below meth c Q _ ls C hr (hS.put e2 e3 hB) hl
  · rw [if_pos hfin] at hlay
    have hcf : m.cls = cf := by
      obtain ⟨_, _, c', _, _, _, -, -, hf', -, -, -, hown2, -⟩ := Cond.laysFinal_spec hlay
      have e1 : c' = cf := by have := hi.symm.trans hf'; simp at this; exact this.1.symm
      rw [hdecl] at hown2
      rw [← e1]; exact Option.some.inj (C.2.2.2.1.symm.trans hown2)
    have h6 := u_fits hfc hkC hkind (Or.inr hlay) hi hdd hn hfit
    refine W.putFinK C.1 C.2.1 C.2.2.2.1 (hts _ hlink) hi hst hcf (C.2.2.2.2.2.2.1 hini) (by rw [q2]; exact h6) q1 q3 (by rw [hsl]; exact k2_hasslot (q4 f hk)) rfl rfl hd fun H' e1 e2 e3 => ?_
    rw [hsl] at e1 ⊢
    exact k H' ⟨_, hc, t_OB.to (V := updV (vp_V fs) f v) ⟨_, e1, q2, q3, t_set q4 hap hk v⟩ (fun j _ => vp_updV_set hfs v j)⟩ e2 e3 p e s m args below meth c Q _ ls C hr (hS.put e2 e3 hB) hl

theorem a_iald {a n : Nat} {f : Nat → Int32} {i : Int32} (hd : decode cc pc = .ok (.iaload, 1)) (ho : Ai G H a n f) (hi : vp_in i n) (k : AW G B l R own cc nL ini fin (pc + 1) lv (.int (f i.toNatClampNeg) :: st) H ce sl) : AW G B l R own cc nL ini fin pc lv (.int i :: .ref a :: st) H ce sl := by
  intro p e s m args below meth c Q locs ls C hr hS hl
  have hlt : i.toNatClampNeg < n := Nat.not_le.mp fun q => hi (Or.inr q)
  exact W.iald (v := .int (f i.toNatClampNeg)) C.1 C.2.1 ho ((C.2.2.2.2.2.1.1.2 0 _ rfl).1 n (fun j => .int (f j))) (fun q => by cases q) (by show ¬ (i < 0 ∨ (arrV _ _ _).slots.size ≤ _); rw [arrV_size]; exact hi) (by show (arrV _ _ _).slots[_]? = _; rw [arrV_read _ _ hlt]) rfl rfl hd (k p e s m args below meth c Q locs ls C hr hS hl)
theorem a_lald {a n : Nat} {f : Nat → Int64} {i : Int32} (hd : decode cc pc = .ok (.laload, 1)) (ho : Al G H a n f) (hi : vp_in i n) (k : AW G B l R own cc nL ini fin (pc + 1) lv (.long (f i.toNatClampNeg) :: st) H ce sl) : AW G B l R own cc nL ini fin pc lv (.int i :: .ref a :: st) H ce sl := by
  intro p e s m args below meth c Q locs ls C hr hS hl
  have hlt : i.toNatClampNeg < n := Nat.not_le.mp fun q => hi (Or.inr q)
  exact W.lald (v := .long (f i.toNatClampNeg)) C.1 C.2.1 ho ((C.2.2.2.2.2.1.1.2 1 _ rfl).1 n (fun j => .long (f j))) (fun q => by cases q) (by show ¬ (i < 0 ∨ (arrV _ _ _).slots.size ≤ _); rw [arrV_size]; exact hi) (by show (arrV _ _ _).slots[_]? = _; rw [arrV_read _ _ hlt]) rfl rfl hd (k p e s m args below meth c Q locs ls C hr hS hl)
theorem a_zald {a n : Nat} {f : Nat → Int32} {i : Int32} (hd : decode cc pc = .ok (.baload, 1)) (ho : Az G H a n f) (hi : vp_in i n) (k : AW G B l R own cc nL ini fin (pc + 1) lv (.int (f i.toNatClampNeg) :: st) H ce sl) : AW G B l R own cc nL ini fin pc lv (.int i :: .ref a :: st) H ce sl := by
  intro p e s m args below meth c Q locs ls C hr hS hl
  have hlt : i.toNatClampNeg < n := Nat.not_le.mp fun q => hi (Or.inr q)
  exact W.zald (v := .int (f i.toNatClampNeg)) C.1 C.2.1 ho ((C.2.2.2.2.2.1.1.2 2 _ rfl).1 n (fun j => .int (f j))) (fun q => by cases q) (by show ¬ (i < 0 ∨ (arrV _ _ _).slots.size ≤ _); rw [arrV_size]; exact hi) (by show (arrV _ _ _).slots[_]? = _; rw [arrV_read _ _ hlt]) rfl rfl hd (k p e s m args below meth c Q locs ls C hr hS hl)
theorem a_ialdN {a n j : Nat} {f : Nat → Int32} (hd : decode cc pc = .ok (.iaload, 1)) (ho : Ai G H a n f) (hj : j < n) (hn : n < 2 ^ 31) (k : AW G B l R own cc nL ini fin (pc + 1) lv (.int (f j) :: st) H ce sl) : AW G B l R own cc nL ini fin pc lv (.int (nI j) :: .ref a :: st) H ce sl :=
  a_iald hd ho (vp_in_nI hj hn) (by rw [nI_clamp (Nat.lt_trans hj hn)]; exact k)
theorem a_aald {a n t j x : Nat} {C0 : String} {f : Nat → Option Nat} (ht : ∀ G : GT, (aTys G)[t]? = some (G.2 t, .object C0)) (hd : decode cc pc = .ok (.aaload, 1)) (ho : Aq G H a t n f) (hj : j < n) (hn : n < 2 ^ 31) (hx : f j = some x) (k : AW G B l R own cc nL ini fin (pc + 1) lv (.ref x :: st) H ce sl) : AW G B l R own cc nL ini fin pc lv (.int (nI j) :: .ref a :: st) H ce sl := by
  intro p e s m args below meth c Q locs ls C hr hS hl
  have hi := vp_in_nI hj hn
  have hlt : (nI j).toNatClampNeg < n := Nat.not_le.mp fun q => hi (Or.inr q)
  have hv : va_rf (f (nI j).toNatClampNeg) = .ref x := by rw [nI_clamp (Nat.lt_trans hj hn), hx]; rfl
  exact W.aald (v := .ref x) (ty := .object C0) C.1 C.2.1 ho ((C.2.2.2.2.2.1.1.2 t _ (ht G)).1 n (fun j => va_rf (f j))) rfl (fun q => by cases q) (by show ¬ (nI j < 0 ∨ (arrV _ _ _).slots.size ≤ _); rw [arrV_size]; exact hi) (by show (arrV _ _ _).slots[_]? = _; rw [arrV_read _ _ hlt, hv]) rfl rfl hd (k p e s m args below meth c Q locs ls C hr hS hl)
theorem a_iast {a n : Nat} {f : Nat → Int32} {i : Int32} {x : Int32} (hd : decode cc pc = .ok (.iastore, 1)) (ho : Ai G H a n f) (hi : vp_in i n) (hB : B ≤ a)
    (k : ∀ H1 : Heap, Ai G H1 a n (upd f i.toNatClampNeg x) → H1.size = H.size → (∀ q, q ≠ a → H1[q]? = H[q]?) → AW G B l R own cc nL ini fin (pc + 1) lv st H1 ce sl) : AW G B l R own cc nL ini fin pc lv (.int x :: .int i :: .ref a :: st) H ce sl := by
  intro p e s m args below meth c Q locs ls C hr hS hl
  refine W.iast C.1 C.2.1 ho ((C.2.2.2.2.2.1.1.2 0 _ rfl).1 n (fun j => .int (f j))) (fun q => by cases q) (by show ¬ (i < 0 ∨ (arrV _ _ _).slots.size ≤ _); rw [arrV_size]; exact hi) rfl rfl hd fun H1 e z oq => ?_
  refine k H1 ?_ z oq p _ s m args below meth c Q _ ls C hr (hS.put z oq hB) hl
  refine e.trans ?_
  rw [arrV_store]
  congr 2
  funext q
  by_cases hq : q = i.toNatClampNeg
  · subst hq
    simp [updV, upd]
  · simp [updV, upd, hq]
theorem a_last {a n : Nat} {f : Nat → Int64} {i : Int32} {x : Int64} (hd : decode cc pc = .ok (.lastore, 1)) (ho : Al G H a n f) (hi : vp_in i n) (hB : B ≤ a)
    (k : ∀ H1 : Heap, Al G H1 a n (vp_updL f i.toNatClampNeg x) → H1.size = H.size → (∀ q, q ≠ a → H1[q]? = H[q]?) → AW G B l R own cc nL ini fin (pc + 1) lv st H1 ce sl) : AW G B l R own cc nL ini fin pc lv (.long x :: .int i :: .ref a :: st) H ce sl := by
  intro p e s m args below meth c Q locs ls C hr hS hl
  refine W.last C.1 C.2.1 ho ((C.2.2.2.2.2.1.1.2 1 _ rfl).1 n (fun j => .long (f j))) (fun q => by cases q) (by show ¬ (i < 0 ∨ (arrV _ _ _).slots.size ≤ _); rw [arrV_size]; exact hi) rfl rfl hd fun H1 e z oq => ?_
  refine k H1 ?_ z oq p _ s m args below meth c Q _ ls C hr (hS.put z oq hB) hl
  refine e.trans ?_
  rw [arrV_store]
  congr 2
  funext q
  by_cases hq : q = i.toNatClampNeg
  · subst hq
    simp [updV, vp_updL]
  · simp [updV, vp_updL, hq]
theorem a_iastN {a n j : Nat} {f : Nat → Int32} {x : Int32} (hd : decode cc pc = .ok (.iastore, 1)) (ho : Ai G H a n f) (hj : j < n) (hn : n < 2 ^ 31) (hB : B ≤ a)
    (k : ∀ H1 : Heap, Ai G H1 a n (upd f j x) → H1.size = H.size → (∀ q, q ≠ a → H1[q]? = H[q]?) → AW G B l R own cc nL ini fin (pc + 1) lv st H1 ce sl) : AW G B l R own cc nL ini fin pc lv (.int x :: .int (nI j) :: .ref a :: st) H ce sl :=
  a_iast hd ho (vp_in_nI hj hn) hB (fun H1 h => k H1 (by rw [nI_clamp (Nat.lt_trans hj hn)] at h; exact h))
theorem a_zast {a n : Nat} {f : Nat → Int32} {i : Int32} {b : Bool} (hd : decode cc pc = .ok (.bastore, 1)) (ho : Az G H a n f) (hi : vp_in i n) (hB : B ≤ a)
    (k : ∀ H1 : Heap, Az G H1 a n (upd f i.toNatClampNeg (bI b)) → H1.size = H.size → (∀ q, q ≠ a → H1[q]? = H[q]?) → AW G B l R own cc nL ini fin (pc + 1) lv st H1 ce sl) : AW G B l R own cc nL ini fin pc lv (.int (bI b) :: .int i :: .ref a :: st) H ce sl := by
  intro p e s m args below meth c Q locs ls C hr hS hl
  refine W.zast C.1 C.2.1 ho ((C.2.2.2.2.2.1.1.2 2 _ rfl).1 n (fun j => .int (f j))) (fun q => by cases q) (by show ¬ (i < 0 ∨ (arrV _ _ _).slots.size ≤ _); rw [arrV_size]; exact hi) rfl rfl hd fun H1 e z oq => ?_
  refine k H1 ?_ z oq p _ s m args below meth c Q _ ls C hr (hS.put z oq hB) hl
  refine e.trans ?_
  rw [bI_narrow, arrV_store]
  congr 2
  funext q
  by_cases hq : q = i.toNatClampNeg
  · subst hq
    simp [updV, upd]
  · simp [updV, upd, hq]
theorem a_aast {a n t v ci j : Nat} {C0 : String} {fs : List Value} {f : Nat → Option Nat} (ht : ∀ G : GT, (aTys G)[t]? = some (G.2 t, .object C0)) (hC : ∃ q : vw_C, vwCl[ci]? = some q ∧ q.1 = C0) (hd : decode cc pc = .ok (.aastore, 1)) (ho : Aq G H a t n f) (hov : Ob G H v ci fs) (hj : j < n) (hn : n < 2 ^ 31) (hB : B ≤ a)
    (k : ∀ H1 : Heap, Aq G H1 a t n (va_up f j (some v)) → H1.size = H.size → (∀ q, q ≠ a → H1[q]? = H[q]?) → AW G B l R own cc nL ini fin (pc + 1) lv st H1 ce sl) : AW G B l R own cc nL ini fin pc lv (.ref v :: .int (nI j) :: .ref a :: st) H ce sl := by
  intro p e s m args below meth c Q locs ls C hr hS hl
  obtain ⟨⟨C1, T, N⟩, hc, rfl⟩ := hC
  have hi := vp_in_nI hj hn
  have hlt : (nI j).toNatClampNeg < n := Nat.not_le.mp fun q => hi (Or.inr q)
  have h0 : ¬ nI j < 0 := fun q => hi (Or.inl q)
  obtain ⟨r', hr', cellV, g1, g2, g3, -⟩ := hov
  have hK := C.2.2.2.2.2.1.1
  have hcls := (hK.1 ci _ hc).2
  obtain ⟨kA, comp, k1, k2, k3, -⟩ := (hK.2 t _ (ht G)).2
  have hcomp : comp = G.1.1 ci := Option.some.inj (k3.symm.trans hcls.1)
  subst hcomp
  obtain ⟨kC, hkC, -⟩ := hcls.2
  refine W.aast C.1 C.2.1 ho (fun q h => by cases h) (fun h => by cases h) k1 k2 rfl hkC ⟨h0, by show _ < (arrV _ _ _).slots.size; rw [arrV_size]; exact hlt⟩ g1 (fun q h => by rw [g3] at h; cases h) (by rw [g2]; exact hkC) (by rw [g2]; exact va_assign hcls) rfl rfl hd fun H1 e z oq => ?_
  refine k H1 ?_ z oq p _ s m args below meth c Q _ ls C hr (hS.put z oq hB) hl
  refine e.trans ?_
  rw [arrV_store, nI_clamp (Nat.lt_trans hj hn)]
  congr 2
  funext q
  by_cases hq : q = j
  · subst hq
    simp [updV, va_up, va_rf]
  · simp [updV, va_up, hq]
theorem a_alen {a n : Nat} {f : Nat → Int32} (hd : decode cc pc = .ok (.arraylength, 1)) (ho : Ai G H a n f) (k : AW G B l R own cc nL ini fin (pc + 1) lv (.int (nI n) :: st) H ce sl) : AW G B l R own cc nL ini fin pc lv (.ref a :: st) H ce sl := by
  intro p e s m args below meth c Q locs ls C hr hS hl
  exact W.alen (n := nI n) C.1 C.2.1 ho ((C.2.2.2.2.2.1.1.2 0 _ rfl).1 n (fun j => .int (f j))) (by rw [arrV_size] <;> rfl) rfl rfl hd (k p e s m args below meth c Q locs ls C hr hS hl)
def NW (own : String) (idx ci : Nat) (ty : Nat → FieldType) : Prop := ∃ (C : String) (T : u_T) (N : Nat), vwCl[ci]? = some (C, T, N) ∧ (∀ w ∈ u_ws C T N, w ∈ wsT) ∧ (∀ k, k < N → parseFieldDescriptor (T k).2.2.1 = some (ty k)) ∧ Cond.classLink own idx C ∈ wsT ∧ Cond.instantiable C N ∈ wsT ∧ Cond.initialized C ∈ wsT
theorem a_new {idx ci N : Nat} {ty : Nat → FieldType} {fs : List Value} (hw : NW own idx ci ty) (hN : ∀ q : vw_C, vwCl[ci]? = some q → q.2.2 = N) (hd : decode cc pc = .ok (.new idx, 3)) (hfs : ∀ j, j < N → defaultValue (ty j) = vp_V fs j) (hce : ce + 1 ≤ R.cells) (hsl : sl + N ≤ R.slots)
    (k : ∀ H1 : Heap, Ob G H1 H.size ci fs → H1.size = H.size + 1 → (∀ q, q < H.size → H1[q]? = H[q]?) → AW G B l R own cc nL ini fin (pc + 3) lv (.ref H.size :: st) H1 (ce + 1) (sl + N)) : AW G B l R own cc nL ini fin pc lv st H ce sl := by
  intro p e s m args below meth c Q locs ls C hr hS hl
  obtain ⟨C0, T, N0, hc, hin, hty, w1, w2, w3⟩ := hw
  obtain rfl : N0 = N := hN _ hc
  have hts := C.2.2.2.2.1
  have hKn := C.2.2.2.2.2.1.1.1 ci _ hc
  refine W.newcK C.1 C.2.1 C.2.2.2.1 (hts _ w1) (hts _ w2) (hts _ w3) rfl hd hce hsl hKn.2.1 rfl fun H1 kC hkC e1 z1 o1 => ?_
  refine k H1 ⟨_, hc, (u_born ty hts hin hKn hkC e1 hty).to hfs⟩ z1 o1 p e s m args below meth c Q _ ls C hr ⟨Nat.le_trans hS.1 (by omega), fun x h1 h2 => (o1 x (Nat.lt_of_lt_of_le h1 hS.1)).trans (hS.2.1 x h1 h2), hS.2.2⟩ hl
theorem a_newI {n : Nat} (hw : Cond.arrayClass .int ∈ wsT) (hd : decode cc pc = .ok (.newarray .int, 2)) (hn : n < 2 ^ 20) (hce : ce + 1 ≤ R.cells) (hsl : sl + n ≤ R.slots)
    (k : ∀ H1 : Heap, Ai G H1 H.size n (fun _ => 0) → H1.size = H.size + 1 → (∀ q, q < H.size → H1[q]? = H[q]?) → AW G B l R own cc nL ini fin (pc + 2) lv (.ref H.size :: st) H1 (ce + 1) (sl + n)) : AW G B l R own cc nL ini fin pc lv (.int (nI n) :: st) H ce sl := by
  intro p e s m args below meth c Q locs ls C hr hS hl
  refine va_newaK (atype := .int) (N := n) C.1 C.2.1 (C.2.2.2.2.1 _ hw) rfl hd rfl (nI_pos (by omega)) (nI_clamp (by omega)) (by show n * _ ≤ _; simp [newarray.typeOf, componentBytes]; omega) hce hsl rfl fun H1 cA e1 z1 o1 hAr hNm => ?_
  have hcA : cA = G.2 0 := Option.some.inj (hNm.symm.trans (C.2.2.2.2.2.1.1.2 0 _ rfl).2)
  subst hcA
  exact k H1 e1 z1 o1 p e s m args below meth c Q _ ls C hr ⟨Nat.le_trans hS.1 (by omega), fun x h1 h2 => (o1 x (Nat.lt_of_lt_of_le h1 hS.1)).trans (hS.2.1 x h1 h2), hS.2.2⟩ hl
theorem a_newL {n : Nat} (hw : Cond.arrayClass .long ∈ wsT) (hd : decode cc pc = .ok (.newarray .long, 2)) (hn : n < 2 ^ 20) (hce : ce + 1 ≤ R.cells) (hsl : sl + n ≤ R.slots)
    (k : ∀ H1 : Heap, Al G H1 H.size n (fun _ => 0) → H1.size = H.size + 1 → (∀ q, q < H.size → H1[q]? = H[q]?) → AW G B l R own cc nL ini fin (pc + 2) lv (.ref H.size :: st) H1 (ce + 1) (sl + n)) : AW G B l R own cc nL ini fin pc lv (.int (nI n) :: st) H ce sl := by
  intro p e s m args below meth c Q locs ls C hr hS hl
  refine va_newaK (atype := .long) (N := n) C.1 C.2.1 (C.2.2.2.2.1 _ hw) rfl hd rfl (nI_pos (by omega)) (nI_clamp (by omega)) (by show n * _ ≤ _; simp [newarray.typeOf, componentBytes]; omega) hce hsl rfl fun H1 cA e1 z1 o1 hAr hNm => ?_
  have hcA : cA = G.2 1 := Option.some.inj (hNm.symm.trans (C.2.2.2.2.2.1.1.2 1 _ rfl).2)
  subst hcA
  exact k H1 e1 z1 o1 p e s m args below meth c Q _ ls C hr ⟨Nat.le_trans hS.1 (by omega), fun x h1 h2 => (o1 x (Nat.lt_of_lt_of_le h1 hS.1)).trans (hS.2.1 x h1 h2), hS.2.2⟩ hl
theorem a_newZ {n : Nat} (hw : Cond.arrayClass .boolean ∈ wsT) (hd : decode cc pc = .ok (.newarray .boolean, 2)) (hn : n < 2 ^ 20) (hce : ce + 1 ≤ R.cells) (hsl : sl + n ≤ R.slots)
    (k : ∀ H1 : Heap, Az G H1 H.size n (fun _ => 0) → H1.size = H.size + 1 → (∀ q, q < H.size → H1[q]? = H[q]?) → AW G B l R own cc nL ini fin (pc + 2) lv (.ref H.size :: st) H1 (ce + 1) (sl + n)) : AW G B l R own cc nL ini fin pc lv (.int (nI n) :: st) H ce sl := by
  intro p e s m args below meth c Q locs ls C hr hS hl
  refine va_newaK (atype := .boolean) (N := n) C.1 C.2.1 (C.2.2.2.2.1 _ hw) rfl hd rfl (nI_pos (by omega)) (nI_clamp (by omega)) (by show n * _ ≤ _; simp [newarray.typeOf, componentBytes]; omega) hce hsl rfl fun H1 cA e1 z1 o1 hAr hNm => ?_
  have hcA : cA = G.2 2 := Option.some.inj (hNm.symm.trans (C.2.2.2.2.2.1.1.2 2 _ rfl).2)
  subst hcA
  exact k H1 e1 z1 o1 p e s m args below meth c Q _ ls C hr ⟨Nat.le_trans hS.1 (by omega), fun x h1 h2 => (o1 x (Nat.lt_of_lt_of_le h1 hS.1)).trans (hS.2.1 x h1 h2), hS.2.2⟩ hl
theorem a_newq {idx t n : Nat} {C0 : String} (ht : ∀ G : GT, (aTys G)[t]? = some (G.2 t, .object C0)) (hC : C0 = RX0 ∨ C0 = RX1) (hw : Cond.classLink own idx C0 ∈ wsT) (hd : decode cc pc = .ok (.anewarray idx, 3)) (hn : n < 2 ^ 20) (hce : ce + 1 ≤ R.cells) (hsl : sl + n ≤ R.slots)
    (k : ∀ H1 : Heap, Aq G H1 H.size t n (fun _ => none) → H1.size = H.size + 1 → (∀ q, q < H.size → H1[q]? = H[q]?) → AW G B l R own cc nL ini fin (pc + 3) lv (.ref H.size :: st) H1 (ce + 1) (sl + n)) : AW G B l R own cc nL ini fin pc lv (.int (nI n) :: st) H ce sl := by
  intro p e s m args below meth c Q locs ls C hr hS hl
  have hAO : va_AO C0 s := by rcases hC with rfl | rfl; exact C.2.2.2.2.2.1.2.1; exact C.2.2.2.2.2.1.2.2.1
  have hcl : (nI n).toNatClampNeg = n := nI_clamp (by omega)
  refine W.anew C.1 C.2.1 C.2.2.2.1 (C.2.2.2.2.1 _ hw) (va_AO.use hAO) rfl hd rfl (nI_pos (by omega)) (by rw [hcl]; omega) hce (by rw [hcl]; exact hsl) fun cA kA comp f1 f2 f3 f4 => ?_
  rw [hcl]
  obtain ⟨kA', comp', g1, g2, g3, g4⟩ := (C.2.2.2.2.2.1.1.2 t _ (ht G)).2
  have hcA : cA = G.2 t := Option.some.inj (f1.symm.trans g4)
  subst hcA
  generalize hH1 : H.push ({ cls := G.2 t, slots := Array.replicate n .null, vm := .none } : Cell) = H1
  have z1 : H1.size = H.size + 1 := by rw [← hH1, Array.size_push]
  have e1 : H1[H.size]? = some (arrV (G.2 t) n (fun _ => .null)) := by rw [← hH1, Array.getElem?_push_size, ← arrV_new]
  have o1 : ∀ q : Nat, q < H.size → H1[q]? = H[q]? := fun q hq => by rw [← hH1, Array.getElem?_push, if_neg (Nat.ne_of_lt hq)]
  exact k H1 e1 z1 o1 p e s m args below meth c Q _ ls C hr ⟨Nat.le_trans hS.1 (by omega), fun x h1 h2 => (o1 x (Nat.lt_of_lt_of_le h1 hS.1)).trans (hS.2.1 x h1 h2), hS.2.2⟩ hl
/-- what a call site's words give: the callee linked, its code, its number of arguments -/
def CL (own : String) (idx : Nat) (y : MethodName) (cy : ByteArray) (nLy : Nat) (ret : Option FieldType) (n : Nat) : Prop := (Cond.methodLink own idx y ∈ wsT ∨ ∃ host : String, Cond.methodLinkNest own idx y host ∈ nsW) ∧ Cond.code y cy nLy ret ∈ wsT ∧ Cond.initialized y.cls ∈ wsT ∧ (y.cls ≠ "java/lang/invoke/MethodHandle" ∧ y.cls ≠ "java/lang/invoke/VarHandle" ∧ (parseMethodDescriptor y.desc).map (fun d => d.parameters.length) = some n)
theorem callB_mk {own : String} {idx : Nat} {y : MethodName} {cy : ByteArray} {nLy n d mc ms : Nat} {ret : Option FieldType} {args : Array Value} {s : State} (hts : ∀ w ∈ wsT, w.before args s = true) (hns : ∀ w ∈ nsW, va_Nw w s) (h : CL own idx y cy nLy ret n) (hR : d + 1 ≤ R.frames ∧ 8 + (nLy + 11) + 27 * d ≤ R.locals) :
    CallB R s args own idx y cy nLy ret (.code y cy nLy ret :: wsT) { frames := d, cells := mc, slots := ms, locals := 27 * d } mc ms n ∨ ∃ host : String, va_CN R s args own idx y host cy nLy ret (.code y cy nLy ret :: wsT) { frames := d, cells := mc, slots := ms, locals := 27 * d } mc ms n := by
  obtain ⟨h1, h2, h3, h4, h5, h6⟩ := h
  have hg : ∀ w ∈ wsT, (w.onTables && w.keeps) = true ∨ ∃ ty, w = .arrayClass ty := fun w hw => good_of_word (wsT_good w hw)
  have hpay := pay_in (ws := .code y cy nLy ret :: wsT) hts (fun w hw => by
    rcases List.mem_cons.mp hw with rfl | hw
    · exact ⟨h2, hg _ h2⟩
    · exact ⟨hw, hg _ hw⟩)
  have hsig : ∀ sig, parseMethodDescriptor y.desc = some sig → n = sig.parameters.length := fun sig hs => by
    rw [hs] at h6
    exact (Option.some.inj h6).symm
  rcases h1 with h1 | ⟨host, h1⟩
  · exact Or.inl ⟨rfl, rfl, hR.1, hR.2, hpay, List.mem_cons_self, hts _ h2, hts _ h3, ⟨h4, h5⟩, hsig, hts _ h1⟩
  · exact Or.inr ⟨host, ⟨rfl, rfl, hR.1, hR.2, hpay, List.mem_cons_self⟩, hts _ h2, hts _ h3, ⟨h4, h5⟩, hsig, va_Nw.use rfl (hns _ h1)⟩
theorem blind_mk {G : GT} {H : Heap} {av : List Value} : FrameBlind (va_Pc av (fun U => U.heap = H ∧ KX G U)) := fun a U g mk q => by
  obtain ⟨q0, q1, q2⟩ := q
  exact ⟨q0, q1, KX.same (s := U) (U := U.calling g mk a) rfl q2⟩
theorem run_go {p : Program} {e : Env} {s : State} {m : MethodId} {args : Array Value} {below : List Frame} {meth : Method} {c : Code} {locs : List Loc} {Q : State → Prop} {ls : Array Slot} {mc ms : Nat} {st0 rest : List Value} {post : Option Value → Heap → Prop} (hB : B ≤ s.heap.size)
    (hr : va_Run p l e R s m args below meth c H locs ce sl mc ms (F0 m pc ls st0) rest (fun st oc t => (∃ v, oc = .returned v ∧ post v t.heap) ∧ va_F (fun q => B ≤ q) st t) (fun q => B ≤ q)) (hS : va_S (fun q => B ≤ q) s.heap H locs)
    (kk : ∀ (v : Option Value) (H' : Heap) (locs' : List Loc), post v H' → va_S (fun q => B ≤ q) s.heap H' locs' → W p l e R s m args below meth c H' locs' (ce + mc) (sl + ms) Q (F0 m (pc + 3) ls (v.toList ++ rest))) : W p l e R s m args below meth c H locs ce sl Q (F0 m pc ls st0) := by
  intro T hT X
  obtain ⟨v, st₀, t, T', L, h0, X', hL, e1, e2, ⟨⟨v', hv, hp⟩, hz, hk⟩, st⟩ := hr T hT X
  cases hv
  rw [h0] at hz hk
  obtain ⟨t2, a1, b1⟩ := kk v T'.heap (locs ++ L) (by rw [e1]; exact hp)
    ⟨Nat.le_trans hS.1 (by rw [e1]; exact hz), fun q h1 h2 => by rw [e1, hk q (Nat.lt_of_lt_of_le h1 hS.1) h2]; exact hS.2.1 q h1 h2, fun q hq => by
      rcases List.mem_append.mp hq with h | h
      · exact hS.2.2 q h
      · exact hL q h⟩ T' rfl X'
  exact ⟨t2, st t2 a1, b1⟩
theorem a_callV {y : MethodName} {cy : ByteArray} {nLy d mc ms idx b ci : Nat} {ret : Option FieldType} {As rest : List Value} {fs : List Value} {post : Option Value → Heap → Prop} (hcl : CL own idx y cy nLy ret As.length) (hin : Cond.instanceMethod y ∈ wsT) (hse : Cond.selects y.cls y y ∈ wsT) (hci : ∃ q : vw_C, vwCl[ci]? = some q ∧ q.1 = y.cls) (hd : decode cc pc = .ok (.invokevirtual idx, 3))
    (hR : d + 1 ≤ R.frames ∧ 8 + (nLy + 11) + 27 * d ≤ R.locals) (hst : st = As.reverse ++ .ref b :: rest) (hrest : (rest.map fun v => v.category).sum ≤ 8) (hcs : ce + mc ≤ R.cells ∧ sl + ms ≤ R.slots) (ho : Ob G H b ci fs)
    (hM : AM G B l y cy nLy ret d mc ms (.ref b :: As) H post)
    (k : ∀ (v : Option Value) (H' : Heap), post v H' → AW G B l R own cc nL ini fin (pc + 3) lv (v.toList ++ rest) H' (ce + mc) (sl + ms)) : AW G B l R own cc nL ini fin pc lv st H ce sl := by
  intro p e s m args below meth c Q locs ls C hr hS hl
  obtain ⟨⟨C0, T, N⟩, hc, hcy⟩ := hci
  subst hst
  have hrec : ∃ cell : Cell, H[b]? = some cell ∧ cell.vm.isStatics = false ∧ s.vm.findClass y.cls = some cell.cls := by
    obtain ⟨q', h1, cell, g1, g2, g3, -⟩ := ho
    exact ⟨cell, g1, by rw [g3]; rfl, by rw [g2, ← hcy]; exact (C.2.2.2.2.2.1.1.1 ci _ hc).2.1⟩
  rcases callB_mk (mc := mc) (ms := ms) C.2.2.2.2.1 C.2.2.2.2.2.1.2.2.2 hcl hR with hcb | ⟨host, hcb⟩
  · exact run_go C.2.2.2.2.2.2.2 (va_runV (As := As) (rest := rest) ⟨C.1, C.2.1, C.2.2.1, C.2.2.2.1, C.2.2.2.2.1⟩ (hM (Nat.le_trans C.2.2.2.2.2.2.2 hS.1)) ⟨hcb, C.2.2.2.2.1 _ hin, C.2.2.2.2.1 _ hse⟩ ⟨blind_mk, hrec, fun U hU hW => ⟨rfl, hU, KX.warm hW C.2.2.2.2.2.1⟩⟩ rfl rfl hl.1 rfl (lv_room hrest) hd hcs) hS (fun v H' locs' hp hS' => k v H' hp p e s m args below meth c Q locs' ls C hr hS' hl)
  · exact run_go C.2.2.2.2.2.2.2 (va_runVN (As := As) (rest := rest) ⟨C.1, C.2.1, C.2.2.1, C.2.2.2.1, C.2.2.2.2.1⟩ (hM (Nat.le_trans C.2.2.2.2.2.2.2 hS.1)) ⟨hcb, C.2.2.2.2.1 _ hin, C.2.2.2.2.1 _ hse⟩ ⟨blind_mk, hrec, fun U hU hW => ⟨rfl, hU, KX.warm hW C.2.2.2.2.2.1⟩⟩ rfl rfl hl.1 rfl (lv_room hrest) hd hcs) hS (fun v H' locs' hp hS' => k v H' hp p e s m args below meth c Q locs' ls C hr hS' hl)
theorem a_callS {y : MethodName} {cy : ByteArray} {nLy d mc ms idx : Nat} {ret : Option FieldType} {As rest : List Value} {post : Option Value → Heap → Prop} (hcl : CL own idx y cy nLy ret As.length) (hsm : Cond.static y ∈ wsT) (hd : decode cc pc = .ok (.invokestatic idx, 3))
    (hR : d + 1 ≤ R.frames ∧ 8 + (nLy + 11) + 27 * d ≤ R.locals) (hst : st = As.reverse ++ rest) (hrest : (rest.map fun v => v.category).sum ≤ 8) (hcs : ce + mc ≤ R.cells ∧ sl + ms ≤ R.slots)
    (hM : AM G B l y cy nLy ret d mc ms As H post)
    (k : ∀ (v : Option Value) (H' : Heap), post v H' → AW G B l R own cc nL ini fin (pc + 3) lv (v.toList ++ rest) H' (ce + mc) (sl + ms)) : AW G B l R own cc nL ini fin pc lv st H ce sl := by
  intro p e s m args below meth c Q locs ls C hr hS hl
  subst hst
  rcases callB_mk (mc := mc) (ms := ms) C.2.2.2.2.1 C.2.2.2.2.2.1.2.2.2 hcl hR with hcb | ⟨host, hcb⟩
  · exact run_go C.2.2.2.2.2.2.2 (va_runS (As := As) (rest := rest) ⟨C.1, C.2.1, C.2.2.1, C.2.2.2.1, C.2.2.2.2.1⟩ (hM (Nat.le_trans C.2.2.2.2.2.2.2 hS.1)) ⟨hcb, C.2.2.2.2.1 _ hsm⟩ ⟨blind_mk, fun U hU hW => ⟨rfl, hU, KX.warm hW C.2.2.2.2.2.1⟩⟩ rfl rfl hl.1 rfl (lv_room hrest) hd hcs) hS (fun v H' locs' hp hS' => k v H' hp p e s m args below meth c Q locs' ls C hr hS' hl)
  · exact run_go C.2.2.2.2.2.2.2 (va_runSN (As := As) (rest := rest) ⟨C.1, C.2.1, C.2.2.1, C.2.2.2.1, C.2.2.2.2.1⟩ (hM (Nat.le_trans C.2.2.2.2.2.2.2 hS.1)) ⟨hcb, C.2.2.2.2.1 _ hsm, trivial⟩ ⟨blind_mk, fun U hU hW => ⟨rfl, hU, KX.warm hW C.2.2.2.2.2.1⟩⟩ rfl rfl hl.1 rfl (lv_room hrest) hd hcs) hS (fun v H' locs' hp hS' => k v H' hp p e s m args below meth c Q locs' ls C hr hS' hl)
theorem a_callI {y : MethodName} {cy : ByteArray} {nLy d mc ms idx b : Nat} {As rest : List Value} {post : Option Value → Heap → Prop} (hcl : CL own idx y cy nLy none As.length) (hin : Cond.instanceMethod y ∈ wsT) (hy : y.name = "<init>") (hd : decode cc pc = .ok (.invokespecial idx, 3))
    (hR : d + 1 ≤ R.frames ∧ 8 + (nLy + 11) + 27 * d ≤ R.locals) (hst : st = As.reverse ++ .ref b :: rest) (hrest : (rest.map fun v => v.category).sum ≤ 8) (hcs : ce + mc ≤ R.cells ∧ sl + ms ≤ R.slots)
    (hM : AM G B l y cy nLy none d mc ms (.ref b :: As) H post)
    (k : ∀ (v : Option Value) (H' : Heap), post v H' → AW G B l R own cc nL ini fin (pc + 3) lv (v.toList ++ rest) H' (ce + mc) (sl + ms)) : AW G B l R own cc nL ini fin pc lv st H ce sl := by
  intro p e s m args below meth c Q locs ls C hr hS hl
  subst hst
  rcases callB_mk (mc := mc) (ms := ms) C.2.2.2.2.1 C.2.2.2.2.2.1.2.2.2 hcl hR with hcb | ⟨host, hcb⟩
  · exact run_go C.2.2.2.2.2.2.2 (va_runI (As := As) (rest := rest) ⟨C.1, C.2.1, C.2.2.1, C.2.2.2.1, C.2.2.2.2.1⟩ (hM (Nat.le_trans C.2.2.2.2.2.2.2 hS.1)) ⟨hcb, hy, C.2.2.2.2.1 _ hin⟩ ⟨blind_mk, fun U hU hW => ⟨rfl, hU, KX.warm hW C.2.2.2.2.2.1⟩⟩ rfl rfl hl.1 rfl (lv_room hrest) hd hcs) hS (fun v H' locs' hp hS' => k v H' hp p e s m args below meth c Q locs' ls C hr hS' hl)
  · exact run_go C.2.2.2.2.2.2.2 (va_runIN (As := As) (rest := rest) ⟨C.1, C.2.1, C.2.2.1, C.2.2.2.1, C.2.2.2.2.1⟩ (hM (Nat.le_trans C.2.2.2.2.2.2.2 hS.1)) ⟨hcb, hy, C.2.2.2.2.1 _ hin⟩ ⟨blind_mk, fun U hU hW => ⟨rfl, hU, KX.warm hW C.2.2.2.2.2.1⟩⟩ rfl rfl hl.1 rfl (lv_room hrest) hd hcs) hS (fun v H' locs' hp hS' => k v H' hp p e s m args below meth c Q locs' ls C hr hS' hl)
theorem a_objI {idx a : Nat} (hw : Cond.methodLink own idx objectInit ∈ wsT ∧ Cond.instanceMethod objectInit ∈ wsT ∧ Cond.code objectInit ⟨#[0xb1]⟩ 1 none ∈ wsT) (hd : decode cc pc = .ok (.invokespecial idx, 3)) (hf : 1 ≤ R.frames) (hlo : (st.map fun v => v.category).sum + 12 ≤ R.locals) (k : AW G B l R own cc nL ini fin (pc + 3) lv st H ce sl) : AW G B l R own cc nL ini fin pc lv (.ref a :: st) H ce sl := by
  intro p e s m args below meth c Q locs ls C hr hS hl
  refine W.objInit C.1 C.2.1 C.2.2.2.1 (C.2.2.2.2.1 _ hw.1) (C.2.2.2.2.1 _ hw.2.1) (C.2.2.2.2.1 _ hw.2.2) rfl (by rw [C.2.2.1]; exact hl.1) rfl hd hf (by show 2 * 0 + _ + 12 ≤ _; omega) ?_
  exact k p e s m args below meth c Q locs ls C hr hS hl
def ML (own : String) (idx : Nat) (y : MethodName) (cy : ByteArray) (n : Nat) : Prop := Cond.methodLink own idx y ∈ wsT ∧ Cond.static y ∈ wsT ∧ Cond.initialized "java/lang/Math" ∈ wsT ∧ Cond.code y cy n (some .int) ∈ wsT
theorem a_max {idx : Nat} {x y : Int32} (hw : ML own idx Lib.Math.max.name Lib.Math.max.code 2) (hd : decode cc pc = .ok (.invokestatic idx, 3)) (hf : 1 ≤ R.frames) (hlo : (st.map fun v => v.category).sum + 13 ≤ R.locals) (hcs : ce ≤ R.cells ∧ sl ≤ R.slots) (k : AW G B l R own cc nL ini fin (pc + 3) lv (.int (if x < y then y else x) :: st) H ce sl) : AW G B l R own cc nL ini fin pc lv (.int y :: .int x :: st) H ce sl := fun p e s m args below meth c Q locs ls C hr hS hl =>
  va_mmax C.1 C.2.1 (by rw [C.2.2.1]; exact hl.1.symm) C.2.2.2.1 (C.2.2.2.2.1 _ hw.1) (C.2.2.2.2.1 _ hw.2.1) (C.2.2.2.2.1 _ hw.2.2.1) (C.2.2.2.2.1 _ hw.2.2.2) hf hlo hcs.1 hcs.2 hd (k p e s m args below meth c Q locs ls C hr hS hl)
theorem a_min {idx : Nat} {x y : Int32} (hw : ML own idx Lib.Math.min.name Lib.Math.min.code 2) (hd : decode cc pc = .ok (.invokestatic idx, 3)) (hf : 1 ≤ R.frames) (hlo : (st.map fun v => v.category).sum + 13 ≤ R.locals) (hcs : ce ≤ R.cells ∧ sl ≤ R.slots) (k : AW G B l R own cc nL ini fin (pc + 3) lv (.int (if y < x then y else x) :: st) H ce sl) : AW G B l R own cc nL ini fin pc lv (.int y :: .int x :: st) H ce sl := fun p e s m args below meth c Q locs ls C hr hS hl =>
  va_mmin C.1 C.2.1 (by rw [C.2.2.1]; exact hl.1.symm) C.2.2.2.1 (C.2.2.2.2.1 _ hw.1) (C.2.2.2.2.1 _ hw.2.1) (C.2.2.2.2.1 _ hw.2.2.1) (C.2.2.2.2.1 _ hw.2.2.2) hf hlo hcs.1 hcs.2 hd (k p e s m args below meth c Q locs ls C hr hS hl)
theorem a_abs {idx : Nat} {x : Int32} (hw : ML own idx Lib.Math.abs.name Lib.Math.abs.code 1) (hd : decode cc pc = .ok (.invokestatic idx, 3)) (hf : 1 ≤ R.frames) (hlo : (st.map fun v => v.category).sum + 13 ≤ R.locals) (hcs : ce ≤ R.cells ∧ sl ≤ R.slots) (k : AW G B l R own cc nL ini fin (pc + 3) lv (.int (if 0 ≤ x then x else 0 - x) :: st) H ce sl) : AW G B l R own cc nL ini fin pc lv (.int x :: st) H ce sl := fun p e s m args below meth c Q locs ls C hr hS hl =>
  va_mabs C.1 C.2.1 (by rw [C.2.2.1]; exact hl.1.symm) C.2.2.2.1 (C.2.2.2.2.1 _ hw.1) (C.2.2.2.2.1 _ hw.2.1) (C.2.2.2.2.1 _ hw.2.2.1) (C.2.2.2.2.1 _ hw.2.2.2) hf hlo hcs.1 hcs.2 hd (k p e s m args below meth c Q locs ls C hr hS hl)
end AX
/-! ===== END my layer ===== -/
end
