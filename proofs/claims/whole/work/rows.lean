section
-- ===== PART A: goes FIRST, ahead of the names: the tables' words, and 'selects' of the private methods out of them =====
/-- a private method of a class that the tables say can be made, by its rows of tables_1 -/
def lw_okq (q : MethodName × Nat) : Prop := (q.1.cls ≠ "java/lang/invoke/MethodHandle" ∧ q.1.cls ≠ "java/lang/invoke/VarHandle") ∧ Cond.instantiable q.1.cls q.2 ∈ tables_1 ∧ Cond.privateMethod q.1 ∈ tables_1 ∧ Cond.instanceMethod q.1 ∈ tables_1
theorem lw_p0 : lw_okq (⟨"WildBells", "finding", "(I)I"⟩, 8) := ⟨⟨by decide +kernel, by decide +kernel⟩, List.mem_of_getElem? (i := 15) (by decide +kernel), List.mem_of_getElem? (i := 174) (by decide +kernel), List.mem_of_getElem? (i := 175) (by decide +kernel)⟩
theorem lw_p1 : lw_okq (⟨"WildBells$Woods", "hasNet", "(I)Z"⟩, 14) := ⟨⟨by decide +kernel, by decide +kernel⟩, List.mem_of_getElem? (i := 23) (by decide +kernel), List.mem_of_getElem? (i := 179) (by decide +kernel), List.mem_of_getElem? (i := 180) (by decide +kernel)⟩
theorem lw_p2 : lw_okq (⟨"WildBells$Woods", "setNet", "(IZ)V"⟩, 14) := ⟨⟨by decide +kernel, by decide +kernel⟩, List.mem_of_getElem? (i := 23) (by decide +kernel), List.mem_of_getElem? (i := 186) (by decide +kernel), List.mem_of_getElem? (i := 187) (by decide +kernel)⟩
theorem lw_p3 : lw_okq (⟨"WildBells$Woods", "heardAt", "(I)I"⟩, 14) := ⟨⟨by decide +kernel, by decide +kernel⟩, List.mem_of_getElem? (i := 23) (by decide +kernel), List.mem_of_getElem? (i := 199) (by decide +kernel), List.mem_of_getElem? (i := 200) (by decide +kernel)⟩
theorem lw_p4 : lw_okq (⟨"WildBells$Woods", "isFree", "(I)Z"⟩, 14) := ⟨⟨by decide +kernel, by decide +kernel⟩, List.mem_of_getElem? (i := 23) (by decide +kernel), List.mem_of_getElem? (i := 203) (by decide +kernel), List.mem_of_getElem? (i := 204) (by decide +kernel)⟩
theorem lw_p5 : lw_okq (⟨"WildBells$Woods", "bellsAt", "(I)I"⟩, 14) := ⟨⟨by decide +kernel, by decide +kernel⟩, List.mem_of_getElem? (i := 23) (by decide +kernel), List.mem_of_getElem? (i := 217) (by decide +kernel), List.mem_of_getElem? (i := 218) (by decide +kernel)⟩
theorem lw_p6 : lw_okq (⟨"WildBells$Woods", "addBell", "(II)I"⟩, 14) := ⟨⟨by decide +kernel, by decide +kernel⟩, List.mem_of_getElem? (i := 23) (by decide +kernel), List.mem_of_getElem? (i := 239) (by decide +kernel), List.mem_of_getElem? (i := 240) (by decide +kernel)⟩
theorem lw_p7 : lw_okq (⟨"WildBells", "isBell", "(I)Z"⟩, 8) := ⟨⟨by decide +kernel, by decide +kernel⟩, List.mem_of_getElem? (i := 15) (by decide +kernel), List.mem_of_getElem? (i := 247) (by decide +kernel), List.mem_of_getElem? (i := 248) (by decide +kernel)⟩
theorem lw_p8 : lw_okq (⟨"WildBells$Woods", "nextCell", "(I)I"⟩, 14) := ⟨⟨by decide +kernel, by decide +kernel⟩, List.mem_of_getElem? (i := 23) (by decide +kernel), List.mem_of_getElem? (i := 251) (by decide +kernel), List.mem_of_getElem? (i := 252) (by decide +kernel)⟩
theorem lw_p9 : lw_okq (⟨"WildBells$Woods", "worthFor", "(II)I"⟩, 14) := ⟨⟨by decide +kernel, by decide +kernel⟩, List.mem_of_getElem? (i := 23) (by decide +kernel), List.mem_of_getElem? (i := 255) (by decide +kernel), List.mem_of_getElem? (i := 256) (by decide +kernel)⟩
theorem lw_p10 : lw_okq (⟨"WildBells$Woods", "fromHunters", "(I)I"⟩, 14) := ⟨⟨by decide +kernel, by decide +kernel⟩, List.mem_of_getElem? (i := 23) (by decide +kernel), List.mem_of_getElem? (i := 259) (by decide +kernel), List.mem_of_getElem? (i := 260) (by decide +kernel)⟩
theorem lw_p11 : lw_okq (⟨"WildBells$Woods", "nearestOther", "(IIII)I"⟩, 14) := ⟨⟨by decide +kernel, by decide +kernel⟩, List.mem_of_getElem? (i := 23) (by decide +kernel), List.mem_of_getElem? (i := 266) (by decide +kernel), List.mem_of_getElem? (i := 267) (by decide +kernel)⟩
theorem lw_p12 : lw_okq (⟨"WildBells$Woods", "trait", "(II)I"⟩, 14) := ⟨⟨by decide +kernel, by decide +kernel⟩, List.mem_of_getElem? (i := 23) (by decide +kernel), List.mem_of_getElem? (i := 282) (by decide +kernel), List.mem_of_getElem? (i := 283) (by decide +kernel)⟩
theorem lw_p13 : lw_okq (⟨"WildBells$Woods", "setTrait", "(III)V"⟩, 14) := ⟨⟨by decide +kernel, by decide +kernel⟩, List.mem_of_getElem? (i := 23) (by decide +kernel), List.mem_of_getElem? (i := 299) (by decide +kernel), List.mem_of_getElem? (i := 300) (by decide +kernel)⟩
theorem lw_p14 : lw_okq (⟨"WildBells$Woods", "hourGoes", "()Z"⟩, 14) := ⟨⟨by decide +kernel, by decide +kernel⟩, List.mem_of_getElem? (i := 23) (by decide +kernel), List.mem_of_getElem? (i := 312) (by decide +kernel), List.mem_of_getElem? (i := 313) (by decide +kernel)⟩
theorem lw_p15 : lw_okq (⟨"WildBells$Woods", "weightOf", "(I)I"⟩, 14) := ⟨⟨by decide +kernel, by decide +kernel⟩, List.mem_of_getElem? (i := 23) (by decide +kernel), List.mem_of_getElem? (i := 335) (by decide +kernel), List.mem_of_getElem? (i := 336) (by decide +kernel)⟩
def lw_privs_1 : List (MethodName × Nat) := [(⟨"WildBells", "finding", "(I)I"⟩, 8), (⟨"WildBells$Woods", "hasNet", "(I)Z"⟩, 14), (⟨"WildBells$Woods", "setNet", "(IZ)V"⟩, 14), (⟨"WildBells$Woods", "heardAt", "(I)I"⟩, 14), (⟨"WildBells$Woods", "isFree", "(I)Z"⟩, 14), (⟨"WildBells$Woods", "bellsAt", "(I)I"⟩, 14), (⟨"WildBells$Woods", "addBell", "(II)I"⟩, 14), (⟨"WildBells", "isBell", "(I)Z"⟩, 8), (⟨"WildBells$Woods", "nextCell", "(I)I"⟩, 14), (⟨"WildBells$Woods", "worthFor", "(II)I"⟩, 14), (⟨"WildBells$Woods", "fromHunters", "(I)I"⟩, 14), (⟨"WildBells$Woods", "nearestOther", "(IIII)I"⟩, 14), (⟨"WildBells$Woods", "trait", "(II)I"⟩, 14), (⟨"WildBells$Woods", "setTrait", "(III)V"⟩, 14), (⟨"WildBells$Woods", "hourGoes", "()Z"⟩, 14), (⟨"WildBells$Woods", "weightOf", "(I)I"⟩, 14)]
theorem lw_r1 : ∀ q ∈ lw_privs_1, lw_okq q := List.forall_mem_cons.mpr ⟨lw_p0, List.forall_mem_cons.mpr ⟨lw_p1, List.forall_mem_cons.mpr ⟨lw_p2, List.forall_mem_cons.mpr ⟨lw_p3, List.forall_mem_cons.mpr ⟨lw_p4, List.forall_mem_cons.mpr ⟨lw_p5, List.forall_mem_cons.mpr ⟨lw_p6, List.forall_mem_cons.mpr ⟨lw_p7, List.forall_mem_cons.mpr ⟨lw_p8, List.forall_mem_cons.mpr ⟨lw_p9, List.forall_mem_cons.mpr ⟨lw_p10, List.forall_mem_cons.mpr ⟨lw_p11, List.forall_mem_cons.mpr ⟨lw_p12, List.forall_mem_cons.mpr ⟨lw_p13, List.forall_mem_cons.mpr ⟨lw_p14, List.forall_mem_cons.mpr ⟨lw_p15, fun _ h => absurd h List.not_mem_nil⟩⟩⟩⟩⟩⟩⟩⟩⟩⟩⟩⟩⟩⟩⟩⟩
theorem lw_p16 : lw_okq (⟨"WildBells$Woods", "becomes", "(LWildBells$Woods;)V"⟩, 14) := ⟨⟨by decide +kernel, by decide +kernel⟩, List.mem_of_getElem? (i := 23) (by decide +kernel), List.mem_of_getElem? (i := 349) (by decide +kernel), List.mem_of_getElem? (i := 350) (by decide +kernel)⟩
theorem lw_p17 : lw_okq (⟨"WildBells$Woods", "runHours", "(I)V"⟩, 14) := ⟨⟨by decide +kernel, by decide +kernel⟩, List.mem_of_getElem? (i := 23) (by decide +kernel), List.mem_of_getElem? (i := 356) (by decide +kernel), List.mem_of_getElem? (i := 357) (by decide +kernel)⟩
theorem lw_p18 : lw_okq (⟨"WildBells$Woods", "tillCaught", "(II)I"⟩, 14) := ⟨⟨by decide +kernel, by decide +kernel⟩, List.mem_of_getElem? (i := 23) (by decide +kernel), List.mem_of_getElem? (i := 365) (by decide +kernel), List.mem_of_getElem? (i := 366) (by decide +kernel)⟩
theorem lw_p19 : lw_okq (⟨"WildBells", "soundFault", "(II)I"⟩, 8) := ⟨⟨by decide +kernel, by decide +kernel⟩, List.mem_of_getElem? (i := 15) (by decide +kernel), List.mem_of_getElem? (i := 398) (by decide +kernel), List.mem_of_getElem? (i := 399) (by decide +kernel)⟩
theorem lw_p20 : lw_okq (⟨"WildBells$Sheet", "isMissing", "()Z"⟩, 3) := ⟨⟨by decide +kernel, by decide +kernel⟩, List.mem_of_getElem? (i := 123) (by decide +kernel), List.mem_of_getElem? (i := 405) (by decide +kernel), List.mem_of_getElem? (i := 406) (by decide +kernel)⟩
theorem lw_p21 : lw_okq (⟨"WildBells$Sheet", "earsAreCells", "()Z"⟩, 3) := ⟨⟨by decide +kernel, by decide +kernel⟩, List.mem_of_getElem? (i := 123) (by decide +kernel), List.mem_of_getElem? (i := 409) (by decide +kernel), List.mem_of_getElem? (i := 410) (by decide +kernel)⟩
theorem lw_p22 : lw_okq (⟨"WildBells$Sheet", "tellsLoud", "(II)Z"⟩, 3) := ⟨⟨by decide +kernel, by decide +kernel⟩, List.mem_of_getElem? (i := 123) (by decide +kernel), List.mem_of_getElem? (i := 417) (by decide +kernel), List.mem_of_getElem? (i := 418) (by decide +kernel)⟩
theorem lw_p23 : lw_okq (⟨"WildBells", "leftAtWorst", "(JII)I"⟩, 8) := ⟨⟨by decide +kernel, by decide +kernel⟩, List.mem_of_getElem? (i := 15) (by decide +kernel), List.mem_of_getElem? (i := 431) (by decide +kernel), List.mem_of_getElem? (i := 432) (by decide +kernel)⟩
theorem lw_p24 : lw_okq (⟨"WildBells$Woods", "greatestRing", "()I"⟩, 14) := ⟨⟨by decide +kernel, by decide +kernel⟩, List.mem_of_getElem? (i := 23) (by decide +kernel), List.mem_of_getElem? (i := 459) (by decide +kernel), List.mem_of_getElem? (i := 460) (by decide +kernel)⟩
theorem lw_p25 : lw_okq (⟨"WildBells$Woods", "isRing", "(I)Z"⟩, 14) := ⟨⟨by decide +kernel, by decide +kernel⟩, List.mem_of_getElem? (i := 23) (by decide +kernel), List.mem_of_getElem? (i := 464) (by decide +kernel), List.mem_of_getElem? (i := 465) (by decide +kernel)⟩
theorem lw_p26 : lw_okq (⟨"WildBells$Woods", "notesThere", "()I"⟩, 14) := ⟨⟨by decide +kernel, by decide +kernel⟩, List.mem_of_getElem? (i := 23) (by decide +kernel), List.mem_of_getElem? (i := 484) (by decide +kernel), List.mem_of_getElem? (i := 485) (by decide +kernel)⟩
theorem lw_p27 : lw_okq (⟨"WildBells$Woods", "strike", "()V"⟩, 14) := ⟨⟨by decide +kernel, by decide +kernel⟩, List.mem_of_getElem? (i := 23) (by decide +kernel), List.mem_of_getElem? (i := 497) (by decide +kernel), List.mem_of_getElem? (i := 498) (by decide +kernel)⟩
theorem lw_p28 : lw_okq (⟨"WildBells$Woods", "draw", "()I"⟩, 14) := ⟨⟨by decide +kernel, by decide +kernel⟩, List.mem_of_getElem? (i := 23) (by decide +kernel), List.mem_of_getElem? (i := 501) (by decide +kernel), List.mem_of_getElem? (i := 502) (by decide +kernel)⟩
theorem lw_p29 : lw_okq (⟨"WildBells$Tape", "append", "(I)V"⟩, 7) := ⟨⟨by decide +kernel, by decide +kernel⟩, List.mem_of_getElem? (i := 93) (by decide +kernel), List.mem_of_getElem? (i := 514) (by decide +kernel), List.mem_of_getElem? (i := 515) (by decide +kernel)⟩
theorem lw_p30 : lw_okq (⟨"WildBells$Tape", "readInto", "(LWildBells$Woods;)I"⟩, 7) := ⟨⟨by decide +kernel, by decide +kernel⟩, List.mem_of_getElem? (i := 93) (by decide +kernel), List.mem_of_getElem? (i := 526) (by decide +kernel), List.mem_of_getElem? (i := 527) (by decide +kernel)⟩
theorem lw_p31 : lw_okq (⟨"WildBells$Tape", "advance", "()V"⟩, 7) := ⟨⟨by decide +kernel, by decide +kernel⟩, List.mem_of_getElem? (i := 93) (by decide +kernel), List.mem_of_getElem? (i := 530) (by decide +kernel), List.mem_of_getElem? (i := 531) (by decide +kernel)⟩
def lw_privs_2 : List (MethodName × Nat) := [(⟨"WildBells$Woods", "becomes", "(LWildBells$Woods;)V"⟩, 14), (⟨"WildBells$Woods", "runHours", "(I)V"⟩, 14), (⟨"WildBells$Woods", "tillCaught", "(II)I"⟩, 14), (⟨"WildBells", "soundFault", "(II)I"⟩, 8), (⟨"WildBells$Sheet", "isMissing", "()Z"⟩, 3), (⟨"WildBells$Sheet", "earsAreCells", "()Z"⟩, 3), (⟨"WildBells$Sheet", "tellsLoud", "(II)Z"⟩, 3), (⟨"WildBells", "leftAtWorst", "(JII)I"⟩, 8), (⟨"WildBells$Woods", "greatestRing", "()I"⟩, 14), (⟨"WildBells$Woods", "isRing", "(I)Z"⟩, 14), (⟨"WildBells$Woods", "notesThere", "()I"⟩, 14), (⟨"WildBells$Woods", "strike", "()V"⟩, 14), (⟨"WildBells$Woods", "draw", "()I"⟩, 14), (⟨"WildBells$Tape", "append", "(I)V"⟩, 7), (⟨"WildBells$Tape", "readInto", "(LWildBells$Woods;)I"⟩, 7), (⟨"WildBells$Tape", "advance", "()V"⟩, 7)]
theorem lw_r2 : ∀ q ∈ lw_privs_2, lw_okq q := List.forall_mem_cons.mpr ⟨lw_p16, List.forall_mem_cons.mpr ⟨lw_p17, List.forall_mem_cons.mpr ⟨lw_p18, List.forall_mem_cons.mpr ⟨lw_p19, List.forall_mem_cons.mpr ⟨lw_p20, List.forall_mem_cons.mpr ⟨lw_p21, List.forall_mem_cons.mpr ⟨lw_p22, List.forall_mem_cons.mpr ⟨lw_p23, List.forall_mem_cons.mpr ⟨lw_p24, List.forall_mem_cons.mpr ⟨lw_p25, List.forall_mem_cons.mpr ⟨lw_p26, List.forall_mem_cons.mpr ⟨lw_p27, List.forall_mem_cons.mpr ⟨lw_p28, List.forall_mem_cons.mpr ⟨lw_p29, List.forall_mem_cons.mpr ⟨lw_p30, List.forall_mem_cons.mpr ⟨lw_p31, fun _ h => absurd h List.not_mem_nil⟩⟩⟩⟩⟩⟩⟩⟩⟩⟩⟩⟩⟩⟩⟩⟩
theorem lw_p32 : lw_okq (⟨"WildBells$Tape", "readItem", "(LWildBells$Woods;)V"⟩, 7) := ⟨⟨by decide +kernel, by decide +kernel⟩, List.mem_of_getElem? (i := 93) (by decide +kernel), List.mem_of_getElem? (i := 534) (by decide +kernel), List.mem_of_getElem? (i := 535) (by decide +kernel)⟩
theorem lw_p33 : lw_okq (⟨"WildBells$Tape", "kindOfWord", "()I"⟩, 7) := ⟨⟨by decide +kernel, by decide +kernel⟩, List.mem_of_getElem? (i := 93) (by decide +kernel), List.mem_of_getElem? (i := 538) (by decide +kernel), List.mem_of_getElem? (i := 539) (by decide +kernel)⟩
theorem lw_p34 : lw_okq (⟨"WildBells$Tape", "isWord", "(Ljava/lang/String;)Z"⟩, 7) := ⟨⟨by decide +kernel, by decide +kernel⟩, List.mem_of_getElem? (i := 93) (by decide +kernel), List.mem_of_getElem? (i := 552) (by decide +kernel), List.mem_of_getElem? (i := 553) (by decide +kernel)⟩
theorem lw_p35 : lw_okq (⟨"WildBells$Tape", "readBell", "(LWildBells$Woods;I)V"⟩, 7) := ⟨⟨by decide +kernel, by decide +kernel⟩, List.mem_of_getElem? (i := 93) (by decide +kernel), List.mem_of_getElem? (i := 604) (by decide +kernel), List.mem_of_getElem? (i := 605) (by decide +kernel)⟩
theorem lw_p36 : lw_okq (⟨"WildBells$Tape", "takePerhaps", "(Ljava/lang/String;III)I"⟩, 7) := ⟨⟨by decide +kernel, by decide +kernel⟩, List.mem_of_getElem? (i := 93) (by decide +kernel), List.mem_of_getElem? (i := 609) (by decide +kernel), List.mem_of_getElem? (i := 610) (by decide +kernel)⟩
theorem lw_p37 : lw_okq (⟨"WildBells$Tape", "takeNumber", "(II)I"⟩, 7) := ⟨⟨by decide +kernel, by decide +kernel⟩, List.mem_of_getElem? (i := 93) (by decide +kernel), List.mem_of_getElem? (i := 613) (by decide +kernel), List.mem_of_getElem? (i := 614) (by decide +kernel)⟩
theorem lw_p38 : lw_okq (⟨"WildBells$Tape", "readNet", "(LWildBells$Woods;)V"⟩, 7) := ⟨⟨by decide +kernel, by decide +kernel⟩, List.mem_of_getElem? (i := 93) (by decide +kernel), List.mem_of_getElem? (i := 621) (by decide +kernel), List.mem_of_getElem? (i := 622) (by decide +kernel)⟩
theorem lw_p39 : lw_okq (⟨"WildBells$Tape", "readThick", "(LWildBells$Woods;)V"⟩, 7) := ⟨⟨by decide +kernel, by decide +kernel⟩, List.mem_of_getElem? (i := 93) (by decide +kernel), List.mem_of_getElem? (i := 627) (by decide +kernel), List.mem_of_getElem? (i := 628) (by decide +kernel)⟩
theorem lw_p40 : lw_okq (⟨"WildBells$Tape", "readHunter", "(LWildBells$Woods;)V"⟩, 7) := ⟨⟨by decide +kernel, by decide +kernel⟩, List.mem_of_getElem? (i := 93) (by decide +kernel), List.mem_of_getElem? (i := 632) (by decide +kernel), List.mem_of_getElem? (i := 633) (by decide +kernel)⟩
theorem lw_p41 : lw_okq (⟨"WildBells$Tape", "readFear", "(LWildBells$Woods;)V"⟩, 7) := ⟨⟨by decide +kernel, by decide +kernel⟩, List.mem_of_getElem? (i := 93) (by decide +kernel), List.mem_of_getElem? (i := 637) (by decide +kernel), List.mem_of_getElem? (i := 638) (by decide +kernel)⟩
theorem lw_p42 : lw_okq (⟨"WildBells$Sheet", "begin", "(II)V"⟩, 3) := ⟨⟨by decide +kernel, by decide +kernel⟩, List.mem_of_getElem? (i := 123) (by decide +kernel), List.mem_of_getElem? (i := 658) (by decide +kernel), List.mem_of_getElem? (i := 659) (by decide +kernel)⟩
theorem lw_p43 : lw_okq (⟨"WildBells$Sheet", "put", "(II)V"⟩, 3) := ⟨⟨by decide +kernel, by decide +kernel⟩, List.mem_of_getElem? (i := 123) (by decide +kernel), List.mem_of_getElem? (i := 666) (by decide +kernel), List.mem_of_getElem? (i := 667) (by decide +kernel)⟩
theorem lw_p44 : lw_okq (⟨"WildBells$Sheet", "hasFrom", "(II)Z"⟩, 3) := ⟨⟨by decide +kernel, by decide +kernel⟩, List.mem_of_getElem? (i := 123) (by decide +kernel), List.mem_of_getElem? (i := 674) (by decide +kernel), List.mem_of_getElem? (i := 675) (by decide +kernel)⟩
theorem lw_p45 : lw_okq (⟨"WildBells$Woods", "followsInRing", "(II)Z"⟩, 14) := ⟨⟨by decide +kernel, by decide +kernel⟩, List.mem_of_getElem? (i := 23) (by decide +kernel), List.mem_of_getElem? (i := 687) (by decide +kernel), List.mem_of_getElem? (i := 688) (by decide +kernel)⟩
theorem lw_p46 : lw_okq (⟨"WildBells$Woods", "spotsHolding", "()I"⟩, 14) := ⟨⟨by decide +kernel, by decide +kernel⟩, List.mem_of_getElem? (i := 23) (by decide +kernel), List.mem_of_getElem? (i := 707) (by decide +kernel), List.mem_of_getElem? (i := 708) (by decide +kernel)⟩
theorem lw_p47 : lw_okq (⟨"WildBellsModel", "finding", "(I)I"⟩, 24) := ⟨⟨by decide +kernel, by decide +kernel⟩, List.mem_of_getElem? (i := 715) (by decide +kernel), List.mem_of_getElem? (i := 814) (by decide +kernel), List.mem_of_getElem? (i := 815) (by decide +kernel)⟩
def lw_privs_3 : List (MethodName × Nat) := [(⟨"WildBells$Tape", "readItem", "(LWildBells$Woods;)V"⟩, 7), (⟨"WildBells$Tape", "kindOfWord", "()I"⟩, 7), (⟨"WildBells$Tape", "isWord", "(Ljava/lang/String;)Z"⟩, 7), (⟨"WildBells$Tape", "readBell", "(LWildBells$Woods;I)V"⟩, 7), (⟨"WildBells$Tape", "takePerhaps", "(Ljava/lang/String;III)I"⟩, 7), (⟨"WildBells$Tape", "takeNumber", "(II)I"⟩, 7), (⟨"WildBells$Tape", "readNet", "(LWildBells$Woods;)V"⟩, 7), (⟨"WildBells$Tape", "readThick", "(LWildBells$Woods;)V"⟩, 7), (⟨"WildBells$Tape", "readHunter", "(LWildBells$Woods;)V"⟩, 7), (⟨"WildBells$Tape", "readFear", "(LWildBells$Woods;)V"⟩, 7), (⟨"WildBells$Sheet", "begin", "(II)V"⟩, 3), (⟨"WildBells$Sheet", "put", "(II)V"⟩, 3), (⟨"WildBells$Sheet", "hasFrom", "(II)Z"⟩, 3), (⟨"WildBells$Woods", "followsInRing", "(II)Z"⟩, 14), (⟨"WildBells$Woods", "spotsHolding", "()I"⟩, 14), (⟨"WildBellsModel", "finding", "(I)I"⟩, 24)]
theorem lw_r3 : ∀ q ∈ lw_privs_3, lw_okq q := List.forall_mem_cons.mpr ⟨lw_p32, List.forall_mem_cons.mpr ⟨lw_p33, List.forall_mem_cons.mpr ⟨lw_p34, List.forall_mem_cons.mpr ⟨lw_p35, List.forall_mem_cons.mpr ⟨lw_p36, List.forall_mem_cons.mpr ⟨lw_p37, List.forall_mem_cons.mpr ⟨lw_p38, List.forall_mem_cons.mpr ⟨lw_p39, List.forall_mem_cons.mpr ⟨lw_p40, List.forall_mem_cons.mpr ⟨lw_p41, List.forall_mem_cons.mpr ⟨lw_p42, List.forall_mem_cons.mpr ⟨lw_p43, List.forall_mem_cons.mpr ⟨lw_p44, List.forall_mem_cons.mpr ⟨lw_p45, List.forall_mem_cons.mpr ⟨lw_p46, List.forall_mem_cons.mpr ⟨lw_p47, fun _ h => absurd h List.not_mem_nil⟩⟩⟩⟩⟩⟩⟩⟩⟩⟩⟩⟩⟩⟩⟩⟩
theorem lw_p48 : lw_okq (⟨"WildBellsModel", "become", "(II)I"⟩, 24) := ⟨⟨by decide +kernel, by decide +kernel⟩, List.mem_of_getElem? (i := 715) (by decide +kernel), List.mem_of_getElem? (i := 818) (by decide +kernel), List.mem_of_getElem? (i := 819) (by decide +kernel)⟩
theorem lw_p49 : lw_okq (⟨"WildBellsModel", "comes", "(IIII)I"⟩, 24) := ⟨⟨by decide +kernel, by decide +kernel⟩, List.mem_of_getElem? (i := 715) (by decide +kernel), List.mem_of_getElem? (i := 845) (by decide +kernel), List.mem_of_getElem? (i := 846) (by decide +kernel)⟩
theorem lw_p50 : lw_okq (⟨"WildBellsModel", "isBell", "(I)Z"⟩, 24) := ⟨⟨by decide +kernel, by decide +kernel⟩, List.mem_of_getElem? (i := 715) (by decide +kernel), List.mem_of_getElem? (i := 856) (by decide +kernel), List.mem_of_getElem? (i := 857) (by decide +kernel)⟩
theorem lw_p51 : lw_okq (⟨"WildBellsModel", "bellIs", "(II)I"⟩, 24) := ⟨⟨by decide +kernel, by decide +kernel⟩, List.mem_of_getElem? (i := 715) (by decide +kernel), List.mem_of_getElem? (i := 860) (by decide +kernel), List.mem_of_getElem? (i := 861) (by decide +kernel)⟩
theorem lw_p52 : lw_okq (⟨"WildBellsModel", "nextOf", "(I)I"⟩, 24) := ⟨⟨by decide +kernel, by decide +kernel⟩, List.mem_of_getElem? (i := 715) (by decide +kernel), List.mem_of_getElem? (i := 864) (by decide +kernel), List.mem_of_getElem? (i := 865) (by decide +kernel)⟩
theorem lw_p53 : lw_okq (⟨"WildBellsModel", "worthOf", "(II)I"⟩, 24) := ⟨⟨by decide +kernel, by decide +kernel⟩, List.mem_of_getElem? (i := 715) (by decide +kernel), List.mem_of_getElem? (i := 868) (by decide +kernel), List.mem_of_getElem? (i := 869) (by decide +kernel)⟩
theorem lw_p54 : lw_okq (⟨"WildBellsModel", "nearestOther", "(III)I"⟩, 24) := ⟨⟨by decide +kernel, by decide +kernel⟩, List.mem_of_getElem? (i := 715) (by decide +kernel), List.mem_of_getElem? (i := 885) (by decide +kernel), List.mem_of_getElem? (i := 886) (by decide +kernel)⟩
theorem lw_p55 : lw_okq (⟨"WildBellsModel", "isCaught", "(I)Z"⟩, 24) := ⟨⟨by decide +kernel, by decide +kernel⟩, List.mem_of_getElem? (i := 715) (by decide +kernel), List.mem_of_getElem? (i := 889) (by decide +kernel), List.mem_of_getElem? (i := 890) (by decide +kernel)⟩
theorem lw_p56 : lw_okq (⟨"WildBellsModel", "beside", "(II)I"⟩, 24) := ⟨⟨by decide +kernel, by decide +kernel⟩, List.mem_of_getElem? (i := 715) (by decide +kernel), List.mem_of_getElem? (i := 894) (by decide +kernel), List.mem_of_getElem? (i := 895) (by decide +kernel)⟩
theorem lw_p57 : lw_okq (⟨"WildBellsModel", "heardAt", "(I)I"⟩, 24) := ⟨⟨by decide +kernel, by decide +kernel⟩, List.mem_of_getElem? (i := 715) (by decide +kernel), List.mem_of_getElem? (i := 913) (by decide +kernel), List.mem_of_getElem? (i := 914) (by decide +kernel)⟩
theorem lw_p58 : lw_okq (⟨"WildBellsModel", "loudAt", "(II)I"⟩, 24) := ⟨⟨by decide +kernel, by decide +kernel⟩, List.mem_of_getElem? (i := 715) (by decide +kernel), List.mem_of_getElem? (i := 917) (by decide +kernel), List.mem_of_getElem? (i := 918) (by decide +kernel)⟩
theorem lw_p59 : lw_okq (⟨"WildBellsModel", "loudOf", "(III)I"⟩, 24) := ⟨⟨by decide +kernel, by decide +kernel⟩, List.mem_of_getElem? (i := 715) (by decide +kernel), List.mem_of_getElem? (i := 921) (by decide +kernel), List.mem_of_getElem? (i := 922) (by decide +kernel)⟩
theorem lw_p60 : lw_okq (⟨"WildBellsModel", "manyAt", "(I)I"⟩, 24) := ⟨⟨by decide +kernel, by decide +kernel⟩, List.mem_of_getElem? (i := 715) (by decide +kernel), List.mem_of_getElem? (i := 925) (by decide +kernel), List.mem_of_getElem? (i := 926) (by decide +kernel)⟩
theorem lw_p61 : lw_okq (⟨"WildBellsModel", "hours", "(I)V"⟩, 24) := ⟨⟨by decide +kernel, by decide +kernel⟩, List.mem_of_getElem? (i := 715) (by decide +kernel), List.mem_of_getElem? (i := 935) (by decide +kernel), List.mem_of_getElem? (i := 936) (by decide +kernel)⟩
theorem lw_p62 : lw_okq (⟨"WildBellsModel", "hour", "()V"⟩, 24) := ⟨⟨by decide +kernel, by decide +kernel⟩, List.mem_of_getElem? (i := 715) (by decide +kernel), List.mem_of_getElem? (i := 939) (by decide +kernel), List.mem_of_getElem? (i := 940) (by decide +kernel)⟩
theorem lw_p63 : lw_okq (⟨"WildBellsModel", "hasNet", "(I)Z"⟩, 24) := ⟨⟨by decide +kernel, by decide +kernel⟩, List.mem_of_getElem? (i := 715) (by decide +kernel), List.mem_of_getElem? (i := 943) (by decide +kernel), List.mem_of_getElem? (i := 944) (by decide +kernel)⟩
def lw_privs_4 : List (MethodName × Nat) := [(⟨"WildBellsModel", "become", "(II)I"⟩, 24), (⟨"WildBellsModel", "comes", "(IIII)I"⟩, 24), (⟨"WildBellsModel", "isBell", "(I)Z"⟩, 24), (⟨"WildBellsModel", "bellIs", "(II)I"⟩, 24), (⟨"WildBellsModel", "nextOf", "(I)I"⟩, 24), (⟨"WildBellsModel", "worthOf", "(II)I"⟩, 24), (⟨"WildBellsModel", "nearestOther", "(III)I"⟩, 24), (⟨"WildBellsModel", "isCaught", "(I)Z"⟩, 24), (⟨"WildBellsModel", "beside", "(II)I"⟩, 24), (⟨"WildBellsModel", "heardAt", "(I)I"⟩, 24), (⟨"WildBellsModel", "loudAt", "(II)I"⟩, 24), (⟨"WildBellsModel", "loudOf", "(III)I"⟩, 24), (⟨"WildBellsModel", "manyAt", "(I)I"⟩, 24), (⟨"WildBellsModel", "hours", "(I)V"⟩, 24), (⟨"WildBellsModel", "hour", "()V"⟩, 24), (⟨"WildBellsModel", "hasNet", "(I)Z"⟩, 24)]
theorem lw_r4 : ∀ q ∈ lw_privs_4, lw_okq q := List.forall_mem_cons.mpr ⟨lw_p48, List.forall_mem_cons.mpr ⟨lw_p49, List.forall_mem_cons.mpr ⟨lw_p50, List.forall_mem_cons.mpr ⟨lw_p51, List.forall_mem_cons.mpr ⟨lw_p52, List.forall_mem_cons.mpr ⟨lw_p53, List.forall_mem_cons.mpr ⟨lw_p54, List.forall_mem_cons.mpr ⟨lw_p55, List.forall_mem_cons.mpr ⟨lw_p56, List.forall_mem_cons.mpr ⟨lw_p57, List.forall_mem_cons.mpr ⟨lw_p58, List.forall_mem_cons.mpr ⟨lw_p59, List.forall_mem_cons.mpr ⟨lw_p60, List.forall_mem_cons.mpr ⟨lw_p61, List.forall_mem_cons.mpr ⟨lw_p62, List.forall_mem_cons.mpr ⟨lw_p63, fun _ h => absurd h List.not_mem_nil⟩⟩⟩⟩⟩⟩⟩⟩⟩⟩⟩⟩⟩⟩⟩⟩
theorem lw_p64 : lw_okq (⟨"WildBellsModel", "caughtNow", "()I"⟩, 24) := ⟨⟨by decide +kernel, by decide +kernel⟩, List.mem_of_getElem? (i := 715) (by decide +kernel), List.mem_of_getElem? (i := 947) (by decide +kernel), List.mem_of_getElem? (i := 948) (by decide +kernel)⟩
theorem lw_p65 : lw_okq (⟨"WildBellsModel", "nets", "()I"⟩, 24) := ⟨⟨by decide +kernel, by decide +kernel⟩, List.mem_of_getElem? (i := 715) (by decide +kernel), List.mem_of_getElem? (i := 958) (by decide +kernel), List.mem_of_getElem? (i := 959) (by decide +kernel)⟩
theorem lw_p66 : lw_okq (⟨"WildBellsModel", "caughtWeight", "()I"⟩, 24) := ⟨⟨by decide +kernel, by decide +kernel⟩, List.mem_of_getElem? (i := 715) (by decide +kernel), List.mem_of_getElem? (i := 962) (by decide +kernel), List.mem_of_getElem? (i := 963) (by decide +kernel)⟩
theorem lw_p67 : lw_okq (⟨"WildBellsModel", "fieldBehind", "(III)I"⟩, 24) := ⟨⟨by decide +kernel, by decide +kernel⟩, List.mem_of_getElem? (i := 715) (by decide +kernel), List.mem_of_getElem? (i := 974) (by decide +kernel), List.mem_of_getElem? (i := 975) (by decide +kernel)⟩
theorem lw_p68 : lw_okq (⟨"WildBellsModel", "putBack", "(I)I"⟩, 24) := ⟨⟨by decide +kernel, by decide +kernel⟩, List.mem_of_getElem? (i := 715) (by decide +kernel), List.mem_of_getElem? (i := 981) (by decide +kernel), List.mem_of_getElem? (i := 982) (by decide +kernel)⟩
theorem lw_p69 : lw_okq (⟨"WildBellsModel", "caughtIn", "(II)I"⟩, 24) := ⟨⟨by decide +kernel, by decide +kernel⟩, List.mem_of_getElem? (i := 715) (by decide +kernel), List.mem_of_getElem? (i := 989) (by decide +kernel), List.mem_of_getElem? (i := 990) (by decide +kernel)⟩
theorem lw_p70 : lw_okq (⟨"WildBellsModel", "told", "(I)I"⟩, 24) := ⟨⟨by decide +kernel, by decide +kernel⟩, List.mem_of_getElem? (i := 715) (by decide +kernel), List.mem_of_getElem? (i := 994) (by decide +kernel), List.mem_of_getElem? (i := 995) (by decide +kernel)⟩
theorem lw_p71 : lw_okq (⟨"WildBellsModel", "setBehind", "(I)I"⟩, 24) := ⟨⟨by decide +kernel, by decide +kernel⟩, List.mem_of_getElem? (i := 715) (by decide +kernel), List.mem_of_getElem? (i := 1007) (by decide +kernel), List.mem_of_getElem? (i := 1008) (by decide +kernel)⟩
theorem lw_p72 : lw_okq (⟨"WildBellsModel", "orNone", "(I)I"⟩, 24) := ⟨⟨by decide +kernel, by decide +kernel⟩, List.mem_of_getElem? (i := 715) (by decide +kernel), List.mem_of_getElem? (i := 1015) (by decide +kernel), List.mem_of_getElem? (i := 1016) (by decide +kernel)⟩
theorem lw_p73 : lw_okq (⟨"WildBellsModel", "lacksOf", "(II)I"⟩, 24) := ⟨⟨by decide +kernel, by decide +kernel⟩, List.mem_of_getElem? (i := 715) (by decide +kernel), List.mem_of_getElem? (i := 1035) (by decide +kernel), List.mem_of_getElem? (i := 1036) (by decide +kernel)⟩
theorem lw_p74 : lw_okq (⟨"WildBellsModel", "lacks", "(I)I"⟩, 24) := ⟨⟨by decide +kernel, by decide +kernel⟩, List.mem_of_getElem? (i := 715) (by decide +kernel), List.mem_of_getElem? (i := 1039) (by decide +kernel), List.mem_of_getElem? (i := 1040) (by decide +kernel)⟩
theorem lw_p75 : lw_okq (⟨"WildBellsModel", "areEars", "(I)Z"⟩, 24) := ⟨⟨by decide +kernel, by decide +kernel⟩, List.mem_of_getElem? (i := 715) (by decide +kernel), List.mem_of_getElem? (i := 1047) (by decide +kernel), List.mem_of_getElem? (i := 1048) (by decide +kernel)⟩
theorem lw_p76 : lw_okq (⟨"WildBellsModel", "ears", "(I)I"⟩, 24) := ⟨⟨by decide +kernel, by decide +kernel⟩, List.mem_of_getElem? (i := 715) (by decide +kernel), List.mem_of_getElem? (i := 1051) (by decide +kernel), List.mem_of_getElem? (i := 1052) (by decide +kernel)⟩
theorem lw_p77 : lw_okq (⟨"WildBellsModel", "earOf", "(II)I"⟩, 24) := ⟨⟨by decide +kernel, by decide +kernel⟩, List.mem_of_getElem? (i := 715) (by decide +kernel), List.mem_of_getElem? (i := 1055) (by decide +kernel), List.mem_of_getElem? (i := 1056) (by decide +kernel)⟩
theorem lw_p78 : lw_okq (⟨"WildBellsModel", "isSo", "(III)Z"⟩, 24) := ⟨⟨by decide +kernel, by decide +kernel⟩, List.mem_of_getElem? (i := 715) (by decide +kernel), List.mem_of_getElem? (i := 1059) (by decide +kernel), List.mem_of_getElem? (i := 1060) (by decide +kernel)⟩
theorem lw_p79 : lw_okq (⟨"WildBellsModel", "worst", "(III)I"⟩, 24) := ⟨⟨by decide +kernel, by decide +kernel⟩, List.mem_of_getElem? (i := 715) (by decide +kernel), List.mem_of_getElem? (i := 1071) (by decide +kernel), List.mem_of_getElem? (i := 1072) (by decide +kernel)⟩
def lw_privs_5 : List (MethodName × Nat) := [(⟨"WildBellsModel", "caughtNow", "()I"⟩, 24), (⟨"WildBellsModel", "nets", "()I"⟩, 24), (⟨"WildBellsModel", "caughtWeight", "()I"⟩, 24), (⟨"WildBellsModel", "fieldBehind", "(III)I"⟩, 24), (⟨"WildBellsModel", "putBack", "(I)I"⟩, 24), (⟨"WildBellsModel", "caughtIn", "(II)I"⟩, 24), (⟨"WildBellsModel", "told", "(I)I"⟩, 24), (⟨"WildBellsModel", "setBehind", "(I)I"⟩, 24), (⟨"WildBellsModel", "orNone", "(I)I"⟩, 24), (⟨"WildBellsModel", "lacksOf", "(II)I"⟩, 24), (⟨"WildBellsModel", "lacks", "(I)I"⟩, 24), (⟨"WildBellsModel", "areEars", "(I)Z"⟩, 24), (⟨"WildBellsModel", "ears", "(I)I"⟩, 24), (⟨"WildBellsModel", "earOf", "(II)I"⟩, 24), (⟨"WildBellsModel", "isSo", "(III)Z"⟩, 24), (⟨"WildBellsModel", "worst", "(III)I"⟩, 24)]
theorem lw_r5 : ∀ q ∈ lw_privs_5, lw_okq q := List.forall_mem_cons.mpr ⟨lw_p64, List.forall_mem_cons.mpr ⟨lw_p65, List.forall_mem_cons.mpr ⟨lw_p66, List.forall_mem_cons.mpr ⟨lw_p67, List.forall_mem_cons.mpr ⟨lw_p68, List.forall_mem_cons.mpr ⟨lw_p69, List.forall_mem_cons.mpr ⟨lw_p70, List.forall_mem_cons.mpr ⟨lw_p71, List.forall_mem_cons.mpr ⟨lw_p72, List.forall_mem_cons.mpr ⟨lw_p73, List.forall_mem_cons.mpr ⟨lw_p74, List.forall_mem_cons.mpr ⟨lw_p75, List.forall_mem_cons.mpr ⟨lw_p76, List.forall_mem_cons.mpr ⟨lw_p77, List.forall_mem_cons.mpr ⟨lw_p78, List.forall_mem_cons.mpr ⟨lw_p79, fun _ h => absurd h List.not_mem_nil⟩⟩⟩⟩⟩⟩⟩⟩⟩⟩⟩⟩⟩⟩⟩⟩
theorem lw_p80 : lw_okq (⟨"WildBellsModel", "greatest", "()I"⟩, 24) := ⟨⟨by decide +kernel, by decide +kernel⟩, List.mem_of_getElem? (i := 715) (by decide +kernel), List.mem_of_getElem? (i := 1094) (by decide +kernel), List.mem_of_getElem? (i := 1095) (by decide +kernel)⟩
theorem lw_p81 : lw_okq (⟨"WildBellsModel", "areRing", "(I)Z"⟩, 24) := ⟨⟨by decide +kernel, by decide +kernel⟩, List.mem_of_getElem? (i := 715) (by decide +kernel), List.mem_of_getElem? (i := 1098) (by decide +kernel), List.mem_of_getElem? (i := 1099) (by decide +kernel)⟩
theorem lw_p82 : lw_okq (⟨"WildBellsModel", "drawn", "(I)I"⟩, 24) := ⟨⟨by decide +kernel, by decide +kernel⟩, List.mem_of_getElem? (i := 715) (by decide +kernel), List.mem_of_getElem? (i := 1131) (by decide +kernel), List.mem_of_getElem? (i := 1132) (by decide +kernel)⟩
theorem lw_p83 : lw_okq (⟨"WildBellsModel", "next", "()V"⟩, 24) := ⟨⟨by decide +kernel, by decide +kernel⟩, List.mem_of_getElem? (i := 715) (by decide +kernel), List.mem_of_getElem? (i := 1152) (by decide +kernel), List.mem_of_getElem? (i := 1153) (by decide +kernel)⟩
theorem lw_p84 : lw_okq (⟨"WildBellsModel", "byteAt", "(I)I"⟩, 24) := ⟨⟨by decide +kernel, by decide +kernel⟩, List.mem_of_getElem? (i := 715) (by decide +kernel), List.mem_of_getElem? (i := 1156) (by decide +kernel), List.mem_of_getElem? (i := 1157) (by decide +kernel)⟩
theorem lw_p85 : lw_okq (⟨"WildBellsModel", "readItem", "()V"⟩, 24) := ⟨⟨by decide +kernel, by decide +kernel⟩, List.mem_of_getElem? (i := 715) (by decide +kernel), List.mem_of_getElem? (i := 1160) (by decide +kernel), List.mem_of_getElem? (i := 1161) (by decide +kernel)⟩
theorem lw_p86 : lw_okq (⟨"WildBellsModel", "kindTold", "()I"⟩, 24) := ⟨⟨by decide +kernel, by decide +kernel⟩, List.mem_of_getElem? (i := 715) (by decide +kernel), List.mem_of_getElem? (i := 1164) (by decide +kernel), List.mem_of_getElem? (i := 1165) (by decide +kernel)⟩
theorem lw_p87 : lw_okq (⟨"WildBellsModel", "isWord", "(Ljava/lang/String;)Z"⟩, 24) := ⟨⟨by decide +kernel, by decide +kernel⟩, List.mem_of_getElem? (i := 715) (by decide +kernel), List.mem_of_getElem? (i := 1168) (by decide +kernel), List.mem_of_getElem? (i := 1169) (by decide +kernel)⟩
theorem lw_p88 : lw_okq (⟨"WildBellsModel", "must", "(Z)V"⟩, 24) := ⟨⟨by decide +kernel, by decide +kernel⟩, List.mem_of_getElem? (i := 715) (by decide +kernel), List.mem_of_getElem? (i := 1174) (by decide +kernel), List.mem_of_getElem? (i := 1175) (by decide +kernel)⟩
theorem lw_p89 : lw_okq (⟨"WildBellsModel", "isNext", "(Ljava/lang/String;)Z"⟩, 24) := ⟨⟨by decide +kernel, by decide +kernel⟩, List.mem_of_getElem? (i := 715) (by decide +kernel), List.mem_of_getElem? (i := 1179) (by decide +kernel), List.mem_of_getElem? (i := 1180) (by decide +kernel)⟩
theorem lw_p90 : lw_okq (⟨"WildBellsModel", "number", "(II)I"⟩, 24) := ⟨⟨by decide +kernel, by decide +kernel⟩, List.mem_of_getElem? (i := 715) (by decide +kernel), List.mem_of_getElem? (i := 1183) (by decide +kernel), List.mem_of_getElem? (i := 1184) (by decide +kernel)⟩
theorem lw_p91 : lw_okq (⟨"WildBellsModel", "item", "(IIII)V"⟩, 24) := ⟨⟨by decide +kernel, by decide +kernel⟩, List.mem_of_getElem? (i := 715) (by decide +kernel), List.mem_of_getElem? (i := 1189) (by decide +kernel), List.mem_of_getElem? (i := 1190) (by decide +kernel)⟩
theorem lw_p92 : lw_okq (⟨"WildBellsModel", "isToldSo", "(I)I"⟩, 24) := ⟨⟨by decide +kernel, by decide +kernel⟩, List.mem_of_getElem? (i := 715) (by decide +kernel), List.mem_of_getElem? (i := 1197) (by decide +kernel), List.mem_of_getElem? (i := 1198) (by decide +kernel)⟩
def lw_privs_6 : List (MethodName × Nat) := [(⟨"WildBellsModel", "greatest", "()I"⟩, 24), (⟨"WildBellsModel", "areRing", "(I)Z"⟩, 24), (⟨"WildBellsModel", "drawn", "(I)I"⟩, 24), (⟨"WildBellsModel", "next", "()V"⟩, 24), (⟨"WildBellsModel", "byteAt", "(I)I"⟩, 24), (⟨"WildBellsModel", "readItem", "()V"⟩, 24), (⟨"WildBellsModel", "kindTold", "()I"⟩, 24), (⟨"WildBellsModel", "isWord", "(Ljava/lang/String;)Z"⟩, 24), (⟨"WildBellsModel", "must", "(Z)V"⟩, 24), (⟨"WildBellsModel", "isNext", "(Ljava/lang/String;)Z"⟩, 24), (⟨"WildBellsModel", "number", "(II)I"⟩, 24), (⟨"WildBellsModel", "item", "(IIII)V"⟩, 24), (⟨"WildBellsModel", "isToldSo", "(I)I"⟩, 24)]
theorem lw_r6 : ∀ q ∈ lw_privs_6, lw_okq q := List.forall_mem_cons.mpr ⟨lw_p80, List.forall_mem_cons.mpr ⟨lw_p81, List.forall_mem_cons.mpr ⟨lw_p82, List.forall_mem_cons.mpr ⟨lw_p83, List.forall_mem_cons.mpr ⟨lw_p84, List.forall_mem_cons.mpr ⟨lw_p85, List.forall_mem_cons.mpr ⟨lw_p86, List.forall_mem_cons.mpr ⟨lw_p87, List.forall_mem_cons.mpr ⟨lw_p88, List.forall_mem_cons.mpr ⟨lw_p89, List.forall_mem_cons.mpr ⟨lw_p90, List.forall_mem_cons.mpr ⟨lw_p91, List.forall_mem_cons.mpr ⟨lw_p92, fun _ h => absurd h List.not_mem_nil⟩⟩⟩⟩⟩⟩⟩⟩⟩⟩⟩⟩⟩
def lw_privs : List (MethodName × Nat) := lw_privs_1 ++ (lw_privs_2 ++ (lw_privs_3 ++ (lw_privs_4 ++ (lw_privs_5 ++ (lw_privs_6)))))
def lw_tbl : List Cond := k2_sels lw_privs ++ tables_1
theorem lw_privs_ok : ∀ q ∈ lw_privs, lw_okq q := by
  show ∀ q ∈ lw_privs_1 ++ (lw_privs_2 ++ (lw_privs_3 ++ (lw_privs_4 ++ (lw_privs_5 ++ (lw_privs_6))))), lw_okq q
  exact List.forall_mem_append.mpr ⟨lw_r1, List.forall_mem_append.mpr ⟨lw_r2, List.forall_mem_append.mpr ⟨lw_r3, List.forall_mem_append.mpr ⟨lw_r4, List.forall_mem_append.mpr ⟨lw_r5, lw_r6⟩⟩⟩⟩⟩
end
section
def RX0 : String := "WildBells$Sheet"
def TX0 : u_T := fun k => match k with
  | 0 => ("WildBells$Sheet", "bits", "I", false)
  | 1 => ("WildBells$Sheet", "size", "I", false)
  | _ => ("WildBells$Sheet", "numbers", "[I", true)
def tyX0 : Nat → FieldType := fun k => match k with
  | 0 => .int
  | 1 => .int
  | _ => .array .int
abbrev wsX00 : List Cond := u_ws RX0 TX0 3
theorem nmX0 : ∀ a, a < 3 → ∀ b, b < 3 → a ≠ b → (TX0 a).2.1 ≠ (TX0 b).2.1 := by decide +kernel
theorem tyX0_ok : ∀ k, k < 3 → parseFieldDescriptor (TX0 k).2.2.1 = some (tyX0 k) := by decide +kernel
abbrev cX0_init : ByteArray := prog_2_method_1_code
def yX0_init : MethodName := ⟨RX0, "<init>", "()V"⟩
abbrev cX0_isMissing : ByteArray := prog_2_method_2_code
def yX0_isMissing : MethodName := ⟨RX0, "isMissing", "()Z"⟩
abbrev cX0_begin : ByteArray := prog_2_method_3_code
def yX0_begin : MethodName := ⟨RX0, "begin", "(II)V"⟩
abbrev cX0_put : ByteArray := prog_2_method_4_code
def yX0_put : MethodName := ⟨RX0, "put", "(II)V"⟩
abbrev cX0_hasFrom : ByteArray := prog_2_method_5_code
def yX0_hasFrom : MethodName := ⟨RX0, "hasFrom", "(II)Z"⟩
abbrev cX0_earsAreCells : ByteArray := prog_2_method_6_code
def yX0_earsAreCells : MethodName := ⟨RX0, "earsAreCells", "()Z"⟩
abbrev cX0_tellsLoud : ByteArray := prog_2_method_7_code
def yX0_tellsLoud : MethodName := ⟨RX0, "tellsLoud", "(II)Z"⟩
def RX1 : String := "WildBells$Tape"
def TX1 : u_T := fun k => match k with
  | 0 => ("WildBells$Tape", "bytes", "[I", true)
  | 1 => ("WildBells$Tape", "size", "I", false)
  | 2 => ("WildBells$Tape", "token", "I", false)
  | 3 => ("WildBells$Tape", "start", "I", false)
  | 4 => ("WildBells$Tape", "behind", "I", false)
  | 5 => ("WildBells$Tape", "value", "I", false)
  | _ => ("WildBells$Tape", "fault", "I", false)
def tyX1 : Nat → FieldType := fun k => match k with
  | 0 => .array .int
  | 1 => .int
  | 2 => .int
  | 3 => .int
  | 4 => .int
  | 5 => .int
  | _ => .int
abbrev wsX10 : List Cond := u_ws RX1 TX1 7
theorem nmX1 : ∀ a, a < 7 → ∀ b, b < 7 → a ≠ b → (TX1 a).2.1 ≠ (TX1 b).2.1 := by decide +kernel
theorem tyX1_ok : ∀ k, k < 7 → parseFieldDescriptor (TX1 k).2.2.1 = some (tyX1 k) := by decide +kernel
abbrev cX1_init : ByteArray := prog_3_method_1_code
def yX1_init : MethodName := ⟨RX1, "<init>", "()V"⟩
abbrev cX1_append : ByteArray := prog_3_method_2_code
def yX1_append : MethodName := ⟨RX1, "append", "(I)V"⟩
abbrev cX1_readInto : ByteArray := prog_3_method_3_code
def yX1_readInto : MethodName := ⟨RX1, "readInto", "(LWildBells$Woods;)I"⟩
abbrev cX1_advance : ByteArray := prog_3_method_4_code
def yX1_advance : MethodName := ⟨RX1, "advance", "()V"⟩
abbrev cX1_isWord : ByteArray := prog_3_method_5_code
def yX1_isWord : MethodName := ⟨RX1, "isWord", "(Ljava/lang/String;)Z"⟩
abbrev cX1_readItem : ByteArray := prog_3_method_6_code
def yX1_readItem : MethodName := ⟨RX1, "readItem", "(LWildBells$Woods;)V"⟩
abbrev cX1_kindOfWord : ByteArray := prog_3_method_7_code
def yX1_kindOfWord : MethodName := ⟨RX1, "kindOfWord", "()I"⟩
abbrev cX1_wordOfKind : ByteArray := prog_3_method_8_code
def yX1_wordOfKind : MethodName := ⟨RX1, "wordOfKind", "(I)Ljava/lang/String;"⟩
abbrev cX1_readBell : ByteArray := prog_3_method_9_code
def yX1_readBell : MethodName := ⟨RX1, "readBell", "(LWildBells$Woods;I)V"⟩
abbrev cX1_readNet : ByteArray := prog_3_method_10_code
def yX1_readNet : MethodName := ⟨RX1, "readNet", "(LWildBells$Woods;)V"⟩
abbrev cX1_readThick : ByteArray := prog_3_method_11_code
def yX1_readThick : MethodName := ⟨RX1, "readThick", "(LWildBells$Woods;)V"⟩
abbrev cX1_readHunter : ByteArray := prog_3_method_12_code
def yX1_readHunter : MethodName := ⟨RX1, "readHunter", "(LWildBells$Woods;)V"⟩
abbrev cX1_readFear : ByteArray := prog_3_method_13_code
def yX1_readFear : MethodName := ⟨RX1, "readFear", "(LWildBells$Woods;)V"⟩
abbrev cX1_takeNumber : ByteArray := prog_3_method_14_code
def yX1_takeNumber : MethodName := ⟨RX1, "takeNumber", "(II)I"⟩
abbrev cX1_takePerhaps : ByteArray := prog_3_method_15_code
def yX1_takePerhaps : MethodName := ⟨RX1, "takePerhaps", "(Ljava/lang/String;III)I"⟩
def RX2 : String := "WildBells$Woods"
def TX2 : u_T := fun k => match k with
  | 0 => ("WildBells$Woods", "hour", "I", false)
  | 1 => ("WildBells$Woods", "nets", "J", false)
  | 2 => ("WildBells$Woods", "thickness", "[I", true)
  | 3 => ("WildBells$Woods", "hunterAt", "[I", true)
  | 4 => ("WildBells$Woods", "mostFear", "I", false)
  | 5 => ("WildBells$Woods", "bells", "I", false)
  | 6 => ("WildBells$Woods", "kind", "[I", true)
  | 7 => ("WildBells$Woods", "at", "[I", true)
  | 8 => ("WildBells$Woods", "note", "[I", true)
  | 9 => ("WildBells$Woods", "weight", "[I", true)
  | 10 => ("WildBells$Woods", "caughtBells", "I", false)
  | 11 => ("WildBells$Woods", "z", "I", false)
  | 12 => ("WildBells$Woods", "spots", "[I", true)
  | _ => ("WildBells$Woods", "trod", "J", false)
def tyX2 : Nat → FieldType := fun k => match k with
  | 0 => .int
  | 1 => .long
  | 2 => .array .int
  | 3 => .array .int
  | 4 => .int
  | 5 => .int
  | 6 => .array .int
  | 7 => .array .int
  | 8 => .array .int
  | 9 => .array .int
  | 10 => .int
  | 11 => .int
  | 12 => .array .int
  | _ => .long
abbrev wsX20 : List Cond := u_ws RX2 TX2 14
theorem nmX2 : ∀ a, a < 14 → ∀ b, b < 14 → a ≠ b → (TX2 a).2.1 ≠ (TX2 b).2.1 := by decide +kernel
theorem tyX2_ok : ∀ k, k < 14 → parseFieldDescriptor (TX2 k).2.2.1 = some (tyX2 k) := by decide +kernel
abbrev cX2_init : ByteArray := prog_4_method_1_code
def yX2_init : MethodName := ⟨RX2, "<init>", "()V"⟩
abbrev cX2_becomes : ByteArray := prog_4_method_2_code
def yX2_becomes : MethodName := ⟨RX2, "becomes", "(LWildBells$Woods;)V"⟩
abbrev cX2_hasNet : ByteArray := prog_4_method_3_code
def yX2_hasNet : MethodName := ⟨RX2, "hasNet", "(I)Z"⟩
abbrev cX2_setNet : ByteArray := prog_4_method_4_code
def yX2_setNet : MethodName := ⟨RX2, "setNet", "(IZ)V"⟩
abbrev cX2_addBell : ByteArray := prog_4_method_5_code
def yX2_addBell : MethodName := ⟨RX2, "addBell", "(II)I"⟩
abbrev cX2_isFree : ByteArray := prog_4_method_6_code
def yX2_isFree : MethodName := ⟨RX2, "isFree", "(I)Z"⟩
abbrev cX2_trait : ByteArray := prog_4_method_7_code
def yX2_trait : MethodName := ⟨RX2, "trait", "(II)I"⟩
abbrev cX2_setTrait : ByteArray := prog_4_method_8_code
def yX2_setTrait : MethodName := ⟨RX2, "setTrait", "(III)V"⟩
abbrev cX2_heardAt : ByteArray := prog_4_method_9_code
def yX2_heardAt : MethodName := ⟨RX2, "heardAt", "(I)I"⟩
abbrev cX2_bellsAt : ByteArray := prog_4_method_10_code
def yX2_bellsAt : MethodName := ⟨RX2, "bellsAt", "(I)I"⟩
abbrev cX2_weightOf : ByteArray := prog_4_method_11_code
def yX2_weightOf : MethodName := ⟨RX2, "weightOf", "(I)I"⟩
abbrev cX2_spotsHolding : ByteArray := prog_4_method_12_code
def yX2_spotsHolding : MethodName := ⟨RX2, "spotsHolding", "()I"⟩
abbrev cX2_worthFor : ByteArray := prog_4_method_13_code
def yX2_worthFor : MethodName := ⟨RX2, "worthFor", "(II)I"⟩
abbrev cX2_fromHunters : ByteArray := prog_4_method_14_code
def yX2_fromHunters : MethodName := ⟨RX2, "fromHunters", "(I)I"⟩
abbrev cX2_nearestOther : ByteArray := prog_4_method_15_code
def yX2_nearestOther : MethodName := ⟨RX2, "nearestOther", "(IIII)I"⟩
abbrev cX2_nextCell : ByteArray := prog_4_method_16_code
def yX2_nextCell : MethodName := ⟨RX2, "nextCell", "(I)I"⟩
abbrev cX2_cellBeside : ByteArray := prog_4_method_17_code
def yX2_cellBeside : MethodName := ⟨RX2, "cellBeside", "(II)I"⟩
abbrev cX2_hourGoes : ByteArray := prog_4_method_18_code
def yX2_hourGoes : MethodName := ⟨RX2, "hourGoes", "()Z"⟩
abbrev cX2_runHours : ByteArray := prog_4_method_19_code
def yX2_runHours : MethodName := ⟨RX2, "runHours", "(I)V"⟩
abbrev cX2_tillCaught : ByteArray := prog_4_method_20_code
def yX2_tillCaught : MethodName := ⟨RX2, "tillCaught", "(II)I"⟩
abbrev cX2_draw : ByteArray := prog_4_method_21_code
def yX2_draw : MethodName := ⟨RX2, "draw", "()I"⟩
abbrev cX2_strike : ByteArray := prog_4_method_22_code
def yX2_strike : MethodName := ⟨RX2, "strike", "()V"⟩
abbrev cX2_notesThere : ByteArray := prog_4_method_23_code
def yX2_notesThere : MethodName := ⟨RX2, "notesThere", "()I"⟩
abbrev cX2_isRing : ByteArray := prog_4_method_24_code
def yX2_isRing : MethodName := ⟨RX2, "isRing", "(I)Z"⟩
abbrev cX2_greatestRing : ByteArray := prog_4_method_25_code
def yX2_greatestRing : MethodName := ⟨RX2, "greatestRing", "()I"⟩
abbrev cX2_followsInRing : ByteArray := prog_4_method_26_code
def yX2_followsInRing : MethodName := ⟨RX2, "followsInRing", "(II)Z"⟩
def RX3 : String := "WildBells"
def TX3 : u_T := fun k => match k with
  | 0 => ("WildBells", "woods", "LWildBells$Woods;", true)
  | 1 => ("WildBells", "trial", "LWildBells$Woods;", true)
  | 2 => ("WildBells", "kept", "LWildBells$Woods;", true)
  | 3 => ("WildBells", "anyKept", "Z", false)
  | 4 => ("WildBells", "tape", "LWildBells$Tape;", true)
  | 5 => ("WildBells", "sheets", "[LWildBells$Sheet;", true)
  | 6 => ("WildBells", "told", "[I", true)
  | _ => ("WildBells", "groups", "[I", true)
def tyX3 : Nat → FieldType := fun k => match k with
  | 0 => .object "WildBells$Woods"
  | 1 => .object "WildBells$Woods"
  | 2 => .object "WildBells$Woods"
  | 3 => .boolean
  | 4 => .object "WildBells$Tape"
  | 5 => .array (.object "WildBells$Sheet")
  | 6 => .array .int
  | _ => .array .int
abbrev wsX30 : List Cond := u_ws RX3 TX3 8
theorem nmX3 : ∀ a, a < 8 → ∀ b, b < 8 → a ≠ b → (TX3 a).2.1 ≠ (TX3 b).2.1 := by decide +kernel
theorem tyX3_ok : ∀ k, k < 8 → parseFieldDescriptor (TX3 k).2.2.1 = some (tyX3 k) := by decide +kernel
abbrev cX3_init : ByteArray := prog_1_method_1_code
def yX3_init : MethodName := ⟨RX3, "<init>", "()V"⟩
abbrev cX3_net : ByteArray := prog_1_method_2_code
def yX3_net : MethodName := ⟨RX3, "net", "(II)I"⟩
abbrev cX3_thick : ByteArray := prog_1_method_3_code
def yX3_thick : MethodName := ⟨RX3, "thick", "(II)I"⟩
abbrev cX3_cell : ByteArray := prog_1_method_4_code
def yX3_cell : MethodName := ⟨RX3, "cell", "(II)I"⟩
abbrev cX3_hunter : ByteArray := prog_1_method_5_code
def yX3_hunter : MethodName := ⟨RX3, "hunter", "(II)I"⟩
abbrev cX3_fear : ByteArray := prog_1_method_6_code
def yX3_fear : MethodName := ⟨RX3, "fear", "(I)I"⟩
abbrev cX3_bell : ByteArray := prog_1_method_7_code
def yX3_bell : MethodName := ⟨RX3, "bell", "(II)I"⟩
abbrev cX3_of : ByteArray := prog_1_method_8_code
def yX3_of : MethodName := ⟨RX3, "of", "(II)I"⟩
abbrev cX3_change : ByteArray := prog_1_method_9_code
def yX3_change : MethodName := ⟨RX3, "change", "(III)I"⟩
abbrev cX3_worth : ByteArray := prog_1_method_10_code
def yX3_worth : MethodName := ⟨RX3, "worth", "(II)I"⟩
abbrev cX3_go : ByteArray := prog_1_method_11_code
def yX3_go : MethodName := ⟨RX3, "go", "(I)I"⟩
abbrev cX3_now : ByteArray := prog_1_method_12_code
def yX3_now : MethodName := ⟨RX3, "now", "(I)I"⟩
abbrev cX3_loud : ByteArray := prog_1_method_13_code
def yX3_loud : MethodName := ⟨RX3, "loud", "(II)I"⟩
abbrev cX3_ahead : ByteArray := prog_1_method_14_code
def yX3_ahead : MethodName := ⟨RX3, "ahead", "(II)I"⟩
abbrev cX3_when : ByteArray := prog_1_method_15_code
def yX3_when : MethodName := ⟨RX3, "when", "(I)I"⟩
abbrev cX3_still : ByteArray := prog_1_method_16_code
def yX3_still : MethodName := ⟨RX3, "still", "()I"⟩
abbrev cX3_caught : ByteArray := prog_1_method_17_code
def yX3_caught : MethodName := ⟨RX3, "caught", "(I)I"⟩
abbrev cX3_netFor : ByteArray := prog_1_method_18_code
def yX3_netFor : MethodName := ⟨RX3, "netFor", "(I)I"⟩
abbrev cX3_best : ByteArray := prog_1_method_19_code
def yX3_best : MethodName := ⟨RX3, "best", "(I)I"⟩
abbrev cX3_drive : ByteArray := prog_1_method_20_code
def yX3_drive : MethodName := ⟨RX3, "drive", "(II)I"⟩
abbrev cX3_kindFor : ByteArray := prog_1_method_21_code
def yX3_kindFor : MethodName := ⟨RX3, "kindFor", "(I)I"⟩
abbrev cX3_stands : ByteArray := prog_1_method_22_code
def yX3_stands : MethodName := ⟨RX3, "stands", "(II)I"⟩
abbrev cX3_where : ByteArray := prog_1_method_23_code
def yX3_where : MethodName := ⟨RX3, "where", "(II)I"⟩
abbrev cX3_ear : ByteArray := prog_1_method_24_code
def yX3_ear : MethodName := ⟨RX3, "ear", "(II)I"⟩
abbrev cX3_whose : ByteArray := prog_1_method_25_code
def yX3_whose : MethodName := ⟨RX3, "whose", "(I)I"⟩
abbrev cX3_stock : ByteArray := prog_1_method_26_code
def yX3_stock : MethodName := ⟨RX3, "stock", "(III)I"⟩
abbrev cX3_lasts : ByteArray := prog_1_method_27_code
def yX3_lasts : MethodName := ⟨RX3, "lasts", "(II)I"⟩
abbrev cX3_ring : ByteArray := prog_1_method_28_code
def yX3_ring : MethodName := ⟨RX3, "ring", "()I"⟩
abbrev cX3_rings : ByteArray := prog_1_method_29_code
def yX3_rings : MethodName := ⟨RX3, "rings", "()I"⟩
abbrev cX3_peals : ByteArray := prog_1_method_30_code
def yX3_peals : MethodName := ⟨RX3, "peals", "()I"⟩
abbrev cX3_wanted : ByteArray := prog_1_method_31_code
def yX3_wanted : MethodName := ⟨RX3, "wanted", "()I"⟩
abbrev cX3_changes : ByteArray := prog_1_method_32_code
def yX3_changes : MethodName := ⟨RX3, "changes", "(I)J"⟩
abbrev cX3_thunder : ByteArray := prog_1_method_33_code
def yX3_thunder : MethodName := ⟨RX3, "thunder", "(I)I"⟩
abbrev cX3_seed : ByteArray := prog_1_method_34_code
def yX3_seed : MethodName := ⟨RX3, "seed", "(I)I"⟩
abbrev cX3_feed : ByteArray := prog_1_method_35_code
def yX3_feed : MethodName := ⟨RX3, "feed", "(II)I"⟩
abbrev cX3_wipe : ByteArray := prog_1_method_36_code
def yX3_wipe : MethodName := ⟨RX3, "wipe", "()I"⟩
abbrev cX3_text : ByteArray := prog_1_method_37_code
def yX3_text : MethodName := ⟨RX3, "text", "()I"⟩
abbrev cX3_hold : ByteArray := prog_1_method_38_code
def yX3_hold : MethodName := ⟨RX3, "hold", "(II)I"⟩
abbrev cX3_as : ByteArray := prog_1_method_39_code
def yX3_as : MethodName := ⟨RX3, "as", "(II)I"⟩
abbrev cX3_sheet : ByteArray := prog_1_method_40_code
def yX3_sheet : MethodName := ⟨RX3, "sheet", "(III)I"⟩
abbrev cX3_write : ByteArray := prog_1_method_41_code
def yX3_write : MethodName := ⟨RX3, "write", "(III)I"⟩
abbrev cX3_copy : ByteArray := prog_1_method_42_code
def yX3_copy : MethodName := ⟨RX3, "copy", "(IIIII)I"⟩
abbrev cX3_load : ByteArray := prog_1_method_43_code
def yX3_load : MethodName := ⟨RX3, "load", "(I)I"⟩
abbrev cX3_judge : ByteArray := prog_1_method_44_code
def yX3_judge : MethodName := ⟨RX3, "judge", "(I)I"⟩
abbrev cX3_image : ByteArray := prog_1_method_45_code
def yX3_image : MethodName := ⟨RX3, "image", "()I"⟩
abbrev cX3_undo : ByteArray := prog_1_method_46_code
def yX3_undo : MethodName := ⟨RX3, "undo", "()I"⟩
abbrev cX3_tear : ByteArray := prog_1_method_47_code
def yX3_tear : MethodName := ⟨RX3, "tear", "()I"⟩
abbrev cX3_count : ByteArray := prog_1_method_48_code
def yX3_count : MethodName := ⟨RX3, "count", "(I)I"⟩
abbrev cX3_status : ByteArray := prog_1_method_49_code
def yX3_status : MethodName := ⟨RX3, "status", "(I)I"⟩
abbrev cX3_finding : ByteArray := prog_1_method_50_code
def yX3_finding : MethodName := ⟨RX3, "finding", "(I)I"⟩
abbrev cX3_isBell : ByteArray := prog_1_method_51_code
def yX3_isBell : MethodName := ⟨RX3, "isBell", "(I)Z"⟩
abbrev cX3_isCell : ByteArray := prog_1_method_52_code
def yX3_isCell : MethodName := ⟨RX3, "isCell", "(I)Z"⟩
abbrev cX3_isHunter : ByteArray := prog_1_method_53_code
def yX3_isHunter : MethodName := ⟨RX3, "isHunter", "(I)Z"⟩
abbrev cX3_isKind : ByteArray := prog_1_method_54_code
def yX3_isKind : MethodName := ⟨RX3, "isKind", "(I)Z"⟩
abbrev cX3_isNote : ByteArray := prog_1_method_55_code
def yX3_isNote : MethodName := ⟨RX3, "isNote", "(I)Z"⟩
abbrev cX3_isWeight : ByteArray := prog_1_method_56_code
def yX3_isWeight : MethodName := ⟨RX3, "isWeight", "(I)Z"⟩
abbrev cX3_isStock : ByteArray := prog_1_method_57_code
def yX3_isStock : MethodName := ⟨RX3, "isStock", "(I)Z"⟩
abbrev cX3_isSpot : ByteArray := prog_1_method_58_code
def yX3_isSpot : MethodName := ⟨RX3, "isSpot", "(I)Z"⟩
abbrev cX3_isSheet : ByteArray := prog_1_method_59_code
def yX3_isSheet : MethodName := ⟨RX3, "isSheet", "(I)Z"⟩
abbrev cX3_isTrait : ByteArray := prog_1_method_60_code
def yX3_isTrait : MethodName := ⟨RX3, "isTrait", "(I)Z"⟩
abbrev cX3_suits : ByteArray := prog_1_method_61_code
def yX3_suits : MethodName := ⟨RX3, "suits", "(II)Z"⟩
abbrev cX3_soundFault : ByteArray := prog_1_method_62_code
def yX3_soundFault : MethodName := ⟨RX3, "soundFault", "(II)I"⟩
abbrev cX3_standingCells : ByteArray := prog_1_method_63_code
def yX3_standingCells : MethodName := ⟨RX3, "standingCells", "(LWildBells$Sheet;I)J"⟩
abbrev cX3_leftAtWorst : ByteArray := prog_1_method_64_code
def yX3_leftAtWorst : MethodName := ⟨RX3, "leftAtWorst", "(JII)I"⟩
abbrev cX3_stockBehind : ByteArray := prog_1_method_65_code
def yX3_stockBehind : MethodName := ⟨RX3, "stockBehind", "(III)I"⟩
abbrev cX3_holds : ByteArray := prog_1_method_66_code
def yX3_holds : MethodName := ⟨RX3, "holds", "(JI)Z"⟩
abbrev cX3_apart : ByteArray := prog_1_method_67_code
def yX3_apart : MethodName := ⟨RX3, "apart", "(II)I"⟩
abbrev cX3_loudness : ByteArray := prog_1_method_68_code
def yX3_loudness : MethodName := ⟨RX3, "loudness", "(II)I"⟩
abbrev cX3_isUnder : ByteArray := prog_1_method_69_code
def yX3_isUnder : MethodName := ⟨RX3, "isUnder", "(II)Z"⟩
abbrev cX3_longestRun : ByteArray := prog_1_method_70_code
def yX3_longestRun : MethodName := ⟨RX3, "longestRun", "(I)I"⟩
def RX4 : String := "WildBellsModel"
def TX4 : u_T := fun k => match k with
  | 0 => ("WildBellsModel", "now", "[I", true)
  | 1 => ("WildBellsModel", "kept", "[I", true)
  | 2 => ("WildBellsModel", "aside", "[I", true)
  | 3 => ("WildBellsModel", "isKept", "Z", false)
  | 4 => ("WildBellsModel", "found", "[I", true)
  | 5 => ("WildBellsModel", "down", "[I", true)
  | 6 => ("WildBellsModel", "right", "[I", true)
  | 7 => ("WildBellsModel", "isMoved", "Z", false)
  | 8 => ("WildBellsModel", "parts", "[I", true)
  | 9 => ("WildBellsModel", "tape", "[I", true)
  | 10 => ("WildBellsModel", "taped", "I", false)
  | 11 => ("WildBellsModel", "begins", "I", false)
  | 12 => ("WildBellsModel", "ends", "I", false)
  | 13 => ("WildBellsModel", "sort", "I", false)
  | 14 => ("WildBellsModel", "value", "I", false)
  | 15 => ("WildBellsModel", "isWrong", "Z", false)
  | 16 => ("WildBellsModel", "kindNames", "[Ljava/lang/String;", true)
  | 17 => ("WildBellsModel", "items", "[I", true)
  | 18 => ("WildBellsModel", "itemMany", "I", false)
  | 19 => ("WildBellsModel", "bellThen", "I", false)
  | 20 => ("WildBellsModel", "widths", "[I", true)
  | 21 => ("WildBellsModel", "sizes", "[I", true)
  | 22 => ("WildBellsModel", "numbers", "[I", true)
  | _ => ("WildBellsModel", "moved", "[I", true)
def tyX4 : Nat → FieldType := fun k => match k with
  | 0 => .array .int
  | 1 => .array .int
  | 2 => .array .int
  | 3 => .boolean
  | 4 => .array .int
  | 5 => .array .int
  | 6 => .array .int
  | 7 => .boolean
  | 8 => .array .int
  | 9 => .array .int
  | 10 => .int
  | 11 => .int
  | 12 => .int
  | 13 => .int
  | 14 => .int
  | 15 => .boolean
  | 16 => .array (.object "java/lang/String")
  | 17 => .array .int
  | 18 => .int
  | 19 => .int
  | 20 => .array .int
  | 21 => .array .int
  | 22 => .array .int
  | _ => .array .int
abbrev wsX40 : List Cond := u_ws RX4 TX4 24
theorem nmX4 : ∀ a, a < 24 → ∀ b, b < 24 → a ≠ b → (TX4 a).2.1 ≠ (TX4 b).2.1 := by decide +kernel
theorem tyX4_ok : ∀ k, k < 24 → parseFieldDescriptor (TX4 k).2.2.1 = some (tyX4 k) := by decide +kernel
abbrev cX4_init : ByteArray := prog_6_method_1_code
def yX4_init : MethodName := ⟨RX4, "<init>", "()V"⟩
abbrev cX4_finding : ByteArray := prog_6_method_2_code
def yX4_finding : MethodName := ⟨RX4, "finding", "(I)I"⟩
abbrev cX4_within : ByteArray := prog_6_method_3_code
def yX4_within : MethodName := ⟨RX4, "within", "(III)Z"⟩
abbrev cX4_become : ByteArray := prog_6_method_4_code
def yX4_become : MethodName := ⟨RX4, "become", "(II)I"⟩
abbrev cX4_copyRow : ByteArray := prog_6_method_5_code
def yX4_copyRow : MethodName := ⟨RX4, "copyRow", "([I[I)V"⟩
abbrev cX4_putBack : ByteArray := prog_6_method_6_code
def yX4_putBack : MethodName := ⟨RX4, "putBack", "(I)I"⟩
abbrev cX4_has : ByteArray := prog_6_method_7_code
def yX4_has : MethodName := ⟨RX4, "has", "(II)Z"⟩
abbrev cX4_bits : ByteArray := prog_6_method_8_code
def yX4_bits : MethodName := ⟨RX4, "bits", "(I)I"⟩
abbrev cX4_isCell : ByteArray := prog_6_method_9_code
def yX4_isCell : MethodName := ⟨RX4, "isCell", "(I)Z"⟩
abbrev cX4_apart : ByteArray := prog_6_method_10_code
def yX4_apart : MethodName := ⟨RX4, "apart", "(II)I"⟩
abbrev cX4_beside : ByteArray := prog_6_method_11_code
def yX4_beside : MethodName := ⟨RX4, "beside", "(II)I"⟩
abbrev cX4_hasNet : ByteArray := prog_6_method_12_code
def yX4_hasNet : MethodName := ⟨RX4, "hasNet", "(I)Z"⟩
abbrev cX4_net : ByteArray := prog_6_method_13_code
def yX4_net : MethodName := ⟨RX4, "net", "(II)I"⟩
abbrev cX4_thick : ByteArray := prog_6_method_14_code
def yX4_thick : MethodName := ⟨RX4, "thick", "(II)I"⟩
abbrev cX4_isHunter : ByteArray := prog_6_method_15_code
def yX4_isHunter : MethodName := ⟨RX4, "isHunter", "(I)Z"⟩
abbrev cX4_hunter : ByteArray := prog_6_method_16_code
def yX4_hunter : MethodName := ⟨RX4, "hunter", "(II)I"⟩
abbrev cX4_fear : ByteArray := prog_6_method_17_code
def yX4_fear : MethodName := ⟨RX4, "fear", "(I)I"⟩
abbrev cX4_isBell : ByteArray := prog_6_method_18_code
def yX4_isBell : MethodName := ⟨RX4, "isBell", "(I)Z"⟩
abbrev cX4_isKind : ByteArray := prog_6_method_19_code
def yX4_isKind : MethodName := ⟨RX4, "isKind", "(I)Z"⟩
abbrev cX4_at : ByteArray := prog_6_method_20_code
def yX4_at : MethodName := ⟨RX4, "at", "(II)I"⟩
abbrev cX4_bellIs : ByteArray := prog_6_method_21_code
def yX4_bellIs : MethodName := ⟨RX4, "bellIs", "(II)I"⟩
abbrev cX4_isCaught : ByteArray := prog_6_method_22_code
def yX4_isCaught : MethodName := ⟨RX4, "isCaught", "(I)Z"⟩
abbrev cX4_comes : ByteArray := prog_6_method_23_code
def yX4_comes : MethodName := ⟨RX4, "comes", "(IIII)I"⟩
abbrev cX4_bell : ByteArray := prog_6_method_24_code
def yX4_bell : MethodName := ⟨RX4, "bell", "(II)I"⟩
abbrev cX4_above : ByteArray := prog_6_method_25_code
def yX4_above : MethodName := ⟨RX4, "above", "(I)I"⟩
abbrev cX4_isUnder : ByteArray := prog_6_method_26_code
def yX4_isUnder : MethodName := ⟨RX4, "isUnder", "(II)Z"⟩
abbrev cX4_nearestOther : ByteArray := prog_6_method_27_code
def yX4_nearestOther : MethodName := ⟨RX4, "nearestOther", "(III)I"⟩
abbrev cX4_worthOf : ByteArray := prog_6_method_28_code
def yX4_worthOf : MethodName := ⟨RX4, "worthOf", "(II)I"⟩
abbrev cX4_nextOf : ByteArray := prog_6_method_29_code
def yX4_nextOf : MethodName := ⟨RX4, "nextOf", "(I)I"⟩
abbrev cX4_of : ByteArray := prog_6_method_30_code
def yX4_of : MethodName := ⟨RX4, "of", "(II)I"⟩
abbrev cX4_mayBe : ByteArray := prog_6_method_31_code
def yX4_mayBe : MethodName := ⟨RX4, "mayBe", "(II)Z"⟩
abbrev cX4_change : ByteArray := prog_6_method_32_code
def yX4_change : MethodName := ⟨RX4, "change", "(III)I"⟩
abbrev cX4_worth : ByteArray := prog_6_method_33_code
def yX4_worth : MethodName := ⟨RX4, "worth", "(II)I"⟩
abbrev cX4_loudOf : ByteArray := prog_6_method_34_code
def yX4_loudOf : MethodName := ⟨RX4, "loudOf", "(III)I"⟩
abbrev cX4_loudAt : ByteArray := prog_6_method_35_code
def yX4_loudAt : MethodName := ⟨RX4, "loudAt", "(II)I"⟩
abbrev cX4_heardAt : ByteArray := prog_6_method_36_code
def yX4_heardAt : MethodName := ⟨RX4, "heardAt", "(I)I"⟩
abbrev cX4_manyAt : ByteArray := prog_6_method_37_code
def yX4_manyAt : MethodName := ⟨RX4, "manyAt", "(I)I"⟩
abbrev cX4_cell : ByteArray := prog_6_method_38_code
def yX4_cell : MethodName := ⟨RX4, "cell", "(II)I"⟩
abbrev cX4_caughtNow : ByteArray := prog_6_method_39_code
def yX4_caughtNow : MethodName := ⟨RX4, "caughtNow", "()I"⟩
abbrev cX4_hour : ByteArray := prog_6_method_40_code
def yX4_hour : MethodName := ⟨RX4, "hour", "()V"⟩
abbrev cX4_hours : ByteArray := prog_6_method_41_code
def yX4_hours : MethodName := ⟨RX4, "hours", "(I)V"⟩
abbrev cX4_go : ByteArray := prog_6_method_42_code
def yX4_go : MethodName := ⟨RX4, "go", "(I)I"⟩
abbrev cX4_nets : ByteArray := prog_6_method_43_code
def yX4_nets : MethodName := ⟨RX4, "nets", "()I"⟩
abbrev cX4_caughtWeight : ByteArray := prog_6_method_44_code
def yX4_caughtWeight : MethodName := ⟨RX4, "caughtWeight", "()I"⟩
abbrev cX4_now : ByteArray := prog_6_method_45_code
def yX4_now : MethodName := ⟨RX4, "now", "(I)I"⟩
abbrev cX4_loud : ByteArray := prog_6_method_46_code
def yX4_loud : MethodName := ⟨RX4, "loud", "(II)I"⟩
abbrev cX4_fieldBehind : ByteArray := prog_6_method_47_code
def yX4_fieldBehind : MethodName := ⟨RX4, "fieldBehind", "(III)I"⟩
abbrev cX4_ahead : ByteArray := prog_6_method_48_code
def yX4_ahead : MethodName := ⟨RX4, "ahead", "(II)I"⟩
abbrev cX4_caughtIn : ByteArray := prog_6_method_49_code
def yX4_caughtIn : MethodName := ⟨RX4, "caughtIn", "(II)I"⟩
abbrev cX4_told : ByteArray := prog_6_method_50_code
def yX4_told : MethodName := ⟨RX4, "told", "(I)I"⟩
abbrev cX4_when : ByteArray := prog_6_method_51_code
def yX4_when : MethodName := ⟨RX4, "when", "(I)I"⟩
abbrev cX4_still : ByteArray := prog_6_method_52_code
def yX4_still : MethodName := ⟨RX4, "still", "()I"⟩
abbrev cX4_setBehind : ByteArray := prog_6_method_53_code
def yX4_setBehind : MethodName := ⟨RX4, "setBehind", "(I)I"⟩
abbrev cX4_caught : ByteArray := prog_6_method_54_code
def yX4_caught : MethodName := ⟨RX4, "caught", "(I)I"⟩
abbrev cX4_orNone : ByteArray := prog_6_method_55_code
def yX4_orNone : MethodName := ⟨RX4, "orNone", "(I)I"⟩
abbrev cX4_netFor : ByteArray := prog_6_method_56_code
def yX4_netFor : MethodName := ⟨RX4, "netFor", "(I)I"⟩
abbrev cX4_best : ByteArray := prog_6_method_57_code
def yX4_best : MethodName := ⟨RX4, "best", "(I)I"⟩
abbrev cX4_drive : ByteArray := prog_6_method_58_code
def yX4_drive : MethodName := ⟨RX4, "drive", "(II)I"⟩
abbrev cX4_kindFor : ByteArray := prog_6_method_59_code
def yX4_kindFor : MethodName := ⟨RX4, "kindFor", "(I)I"⟩
abbrev cX4_lacks : ByteArray := prog_6_method_60_code
def yX4_lacks : MethodName := ⟨RX4, "lacks", "(I)I"⟩
abbrev cX4_earOf : ByteArray := prog_6_method_61_code
def yX4_earOf : MethodName := ⟨RX4, "earOf", "(II)I"⟩
abbrev cX4_ears : ByteArray := prog_6_method_62_code
def yX4_ears : MethodName := ⟨RX4, "ears", "(I)I"⟩
abbrev cX4_areEars : ByteArray := prog_6_method_63_code
def yX4_areEars : MethodName := ⟨RX4, "areEars", "(I)Z"⟩
abbrev cX4_isSo : ByteArray := prog_6_method_64_code
def yX4_isSo : MethodName := ⟨RX4, "isSo", "(III)Z"⟩
abbrev cX4_lacksOf : ByteArray := prog_6_method_65_code
def yX4_lacksOf : MethodName := ⟨RX4, "lacksOf", "(II)I"⟩
abbrev cX4_stands : ByteArray := prog_6_method_66_code
def yX4_stands : MethodName := ⟨RX4, "stands", "(II)I"⟩
abbrev cX4_where : ByteArray := prog_6_method_67_code
def yX4_where : MethodName := ⟨RX4, "where", "(II)I"⟩
abbrev cX4_worst : ByteArray := prog_6_method_68_code
def yX4_worst : MethodName := ⟨RX4, "worst", "(III)I"⟩
abbrev cX4_ear : ByteArray := prog_6_method_69_code
def yX4_ear : MethodName := ⟨RX4, "ear", "(II)I"⟩
abbrev cX4_whose : ByteArray := prog_6_method_70_code
def yX4_whose : MethodName := ⟨RX4, "whose", "(I)I"⟩
abbrev cX4_stockBehind : ByteArray := prog_6_method_71_code
def yX4_stockBehind : MethodName := ⟨RX4, "stockBehind", "(III)I"⟩
abbrev cX4_stock : ByteArray := prog_6_method_72_code
def yX4_stock : MethodName := ⟨RX4, "stock", "(III)I"⟩
abbrev cX4_lasts : ByteArray := prog_6_method_73_code
def yX4_lasts : MethodName := ⟨RX4, "lasts", "(II)I"⟩
abbrev cX4_areRing : ByteArray := prog_6_method_74_code
def yX4_areRing : MethodName := ⟨RX4, "areRing", "(I)Z"⟩
abbrev cX4_stepBySteps : ByteArray := prog_6_method_75_code
def yX4_stepBySteps : MethodName := ⟨RX4, "stepBySteps", "(I)Z"⟩
abbrev cX4_greatest : ByteArray := prog_6_method_76_code
def yX4_greatest : MethodName := ⟨RX4, "greatest", "()I"⟩
abbrev cX4_ring : ByteArray := prog_6_method_77_code
def yX4_ring : MethodName := ⟨RX4, "ring", "()I"⟩
abbrev cX4_rings : ByteArray := prog_6_method_78_code
def yX4_rings : MethodName := ⟨RX4, "rings", "()I"⟩
abbrev cX4_peals : ByteArray := prog_6_method_79_code
def yX4_peals : MethodName := ⟨RX4, "peals", "()I"⟩
abbrev cX4_longest : ByteArray := prog_6_method_80_code
def yX4_longest : MethodName := ⟨RX4, "longest", "(I)I"⟩
abbrev cX4_wanted : ByteArray := prog_6_method_81_code
def yX4_wanted : MethodName := ⟨RX4, "wanted", "()I"⟩
abbrev cX4_changes : ByteArray := prog_6_method_82_code
def yX4_changes : MethodName := ⟨RX4, "changes", "(I)J"⟩
abbrev cX4_drawn : ByteArray := prog_6_method_83_code
def yX4_drawn : MethodName := ⟨RX4, "drawn", "(I)I"⟩
abbrev cX4_thunder : ByteArray := prog_6_method_84_code
def yX4_thunder : MethodName := ⟨RX4, "thunder", "(I)I"⟩
abbrev cX4_seed : ByteArray := prog_6_method_85_code
def yX4_seed : MethodName := ⟨RX4, "seed", "(I)I"⟩
abbrev cX4_feed : ByteArray := prog_6_method_86_code
def yX4_feed : MethodName := ⟨RX4, "feed", "(II)I"⟩
abbrev cX4_wipe : ByteArray := prog_6_method_87_code
def yX4_wipe : MethodName := ⟨RX4, "wipe", "()I"⟩
abbrev cX4_byteAt : ByteArray := prog_6_method_88_code
def yX4_byteAt : MethodName := ⟨RX4, "byteAt", "(I)I"⟩
abbrev cX4_next : ByteArray := prog_6_method_89_code
def yX4_next : MethodName := ⟨RX4, "next", "()V"⟩
abbrev cX4_isWord : ByteArray := prog_6_method_90_code
def yX4_isWord : MethodName := ⟨RX4, "isWord", "(Ljava/lang/String;)Z"⟩
abbrev cX4_must : ByteArray := prog_6_method_91_code
def yX4_must : MethodName := ⟨RX4, "must", "(Z)V"⟩
abbrev cX4_number : ByteArray := prog_6_method_92_code
def yX4_number : MethodName := ⟨RX4, "number", "(II)I"⟩
abbrev cX4_item : ByteArray := prog_6_method_93_code
def yX4_item : MethodName := ⟨RX4, "item", "(IIII)V"⟩
abbrev cX4_kindTold : ByteArray := prog_6_method_94_code
def yX4_kindTold : MethodName := ⟨RX4, "kindTold", "()I"⟩
abbrev cX4_isNext : ByteArray := prog_6_method_95_code
def yX4_isNext : MethodName := ⟨RX4, "isNext", "(Ljava/lang/String;)Z"⟩
abbrev cX4_readItem : ByteArray := prog_6_method_96_code
def yX4_readItem : MethodName := ⟨RX4, "readItem", "()V"⟩
abbrev cX4_isToldSo : ByteArray := prog_6_method_97_code
def yX4_isToldSo : MethodName := ⟨RX4, "isToldSo", "(I)I"⟩
abbrev cX4_text : ByteArray := prog_6_method_98_code
def yX4_text : MethodName := ⟨RX4, "text", "()I"⟩
abbrev cX4_isSpot : ByteArray := prog_6_method_99_code
def yX4_isSpot : MethodName := ⟨RX4, "isSpot", "(I)Z"⟩
abbrev cX4_hold : ByteArray := prog_6_method_100_code
def yX4_hold : MethodName := ⟨RX4, "hold", "(II)I"⟩
abbrev cX4_as : ByteArray := prog_6_method_101_code
def yX4_as : MethodName := ⟨RX4, "as", "(II)I"⟩
abbrev cX4_isSheet : ByteArray := prog_6_method_102_code
def yX4_isSheet : MethodName := ⟨RX4, "isSheet", "(I)Z"⟩
abbrev cX4_cutTo : ByteArray := prog_6_method_103_code
def yX4_cutTo : MethodName := ⟨RX4, "cutTo", "(II)I"⟩
abbrev cX4_sheet : ByteArray := prog_6_method_104_code
def yX4_sheet : MethodName := ⟨RX4, "sheet", "(III)I"⟩
abbrev cX4_write : ByteArray := prog_6_method_105_code
def yX4_write : MethodName := ⟨RX4, "write", "(III)I"⟩
abbrev cX4_copy : ByteArray := prog_6_method_106_code
def yX4_copy : MethodName := ⟨RX4, "copy", "(IIIII)I"⟩
abbrev cX4_load : ByteArray := prog_6_method_107_code
def yX4_load : MethodName := ⟨RX4, "load", "(I)I"⟩
abbrev cX4_judge : ByteArray := prog_6_method_108_code
def yX4_judge : MethodName := ⟨RX4, "judge", "(I)I"⟩
abbrev cX4_image : ByteArray := prog_6_method_109_code
def yX4_image : MethodName := ⟨RX4, "image", "()I"⟩
abbrev cX4_undo : ByteArray := prog_6_method_110_code
def yX4_undo : MethodName := ⟨RX4, "undo", "()I"⟩
abbrev cX4_tear : ByteArray := prog_6_method_111_code
def yX4_tear : MethodName := ⟨RX4, "tear", "()I"⟩
abbrev cX4_count : ByteArray := prog_6_method_112_code
def yX4_count : MethodName := ⟨RX4, "count", "(I)I"⟩
abbrev cX4_status : ByteArray := prog_6_method_113_code
def yX4_status : MethodName := ⟨RX4, "status", "(I)I"⟩
def RJ6 : String := "java/lang/Integer"
abbrev cJ6_bitCount_0f7a4 : ByteArray := prog_7_method_49_code
def yJ6_bitCount_0f7a4 : MethodName := ⟨RJ6, "bitCount", "(I)I"⟩
def RJ13 : String := "java/lang/Long"
abbrev cJ13_bitCount_95d88 : ByteArray := prog_8_method_50_code
def yJ13_bitCount_95d88 : MethodName := ⟨RJ13, "bitCount", "(J)I"⟩
def RJ9 : String := "java/lang/Math"
abbrev cJ9_abs_0f7a4 : ByteArray := prog_9_method_59_code
def yJ9_abs_0f7a4 : MethodName := ⟨RJ9, "abs", "(I)I"⟩
abbrev cJ9_max_7cf53 : ByteArray := prog_9_method_65_code
def yJ9_max_7cf53 : MethodName := ⟨RJ9, "max", "(II)I"⟩
abbrev cJ9_min_7cf53 : ByteArray := prog_9_method_69_code
def yJ9_min_7cf53 : MethodName := ⟨RJ9, "min", "(II)I"⟩
def RJ0 : String := "java/lang/String"
abbrev cJ0_length_8abf5 : ByteArray := prog_10_method_54_code
def yJ0_length_8abf5 : MethodName := ⟨RJ0, "length", "()I"⟩
abbrev cJ0_charAt_5068e : ByteArray := prog_10_method_56_code
def yJ0_charAt_5068e : MethodName := ⟨RJ0, "charAt", "(I)C"⟩
abbrev cJ0_coder_7d493 : ByteArray := prog_10_method_152_code
def yJ0_coder_7d493 : MethodName := ⟨RJ0, "coder", "()B"⟩
abbrev cJ0_isLatin1_aae02 : ByteArray := prog_10_method_154_code
def yJ0_isLatin1_aae02 : MethodName := ⟨RJ0, "isLatin1", "()Z"⟩
abbrev cJ0_checkIndex_df160 : ByteArray := prog_10_method_155_code
def yJ0_checkIndex_df160 : MethodName := ⟨RJ0, "checkIndex", "(II)V"⟩
def RJ1 : String := "java/lang/StringLatin1"
abbrev cJ1_charAt_3b067 : ByteArray := prog_11_method_2_code
def yJ1_charAt_3b067 : MethodName := ⟨RJ1, "charAt", "([BI)C"⟩
def RJ2 : String := "java/lang/StringUTF16"
abbrev cJ2_getChar_3b067 : ByteArray := prog_12_method_5_code
def yJ2_getChar_3b067 : MethodName := ⟨RJ2, "getChar", "([BI)C"⟩
abbrev cJ2_length_9d52b : ByteArray := prog_12_method_6_code
def yJ2_length_9d52b : MethodName := ⟨RJ2, "length", "([B)I"⟩
abbrev cJ2_charAt_3b067 : ByteArray := prog_12_method_83_code
def yJ2_charAt_3b067 : MethodName := ⟨RJ2, "charAt", "([BI)C"⟩
abbrev cJ2_checkIndex_2214a : ByteArray := prog_12_method_91_code
def yJ2_checkIndex_2214a : MethodName := ⟨RJ2, "checkIndex", "(I[B)V"⟩
def RJ10 : String := "java/lang/System"
def RJ3 : String := "jdk/internal/util/Preconditions"
abbrev cJ3_checkIndex_8e157 : ByteArray := prog_14_method_11_code
def yJ3_checkIndex_8e157 : MethodName := ⟨RJ3, "checkIndex", "(IILjava/util/function/BiFunction;)I"⟩
def RL : String := "WildBellsLaw"
abbrev vwCl : List vw_C := [(RX0, TX0, 3), (RX1, TX1, 7), (RX2, TX2, 14), (RX3, TX3, 8), (RX4, TX4, 24)]
end
section
/-! ===== abstract worlds: cells by places; a reference is a place; 'ad' gives each place its address ===== -/
abbrev zM : Type := MethodName × ByteArray × Nat × Option FieldType × Nat
abbrev zC : Type := (Nat × vp_A) ⊕ (Nat × List Value)
abbrev zH : Type := List zC
def z_T : List Cond := lw_tbl.filter goodWord
def z_isN (w : Cond) : Bool := match w with
  | .fieldLinkNest _ _ _ _ _ _ => true
  | .methodLinkNest _ _ _ _ => true
  | _ => false
def z_N : List Cond := lw_tbl.filter z_isN
def z_wd (M : zM) : List Cond := .code M.1 M.2.1 M.2.2.1 M.2.2.2.1 :: z_T
def z_rm (d : Nat) : Room := { frames := d, cells := 0, slots := 0, locals := 31 * d }
def z_g (ad : Nat → Nat) (v : Value) : Value := match v with
  | .ref k => .ref (ad k)
  | v => v
def z_ga (ad : Nat → Nat) (x : vp_A) : vp_A := match x with
  | (n, .inr (.inr (.inr (.inr f)))) => (n, .inr (.inr (.inr (.inr (fun i => (f i).map ad)))))
  | x => x
def z_c (tA : Nat → ClassId) (ad : Nat → Nat) (c : zC) : va_E := match c with
  | .inl (t, x) => .inl (tA t, z_ga ad x)
  | .inr (i, fs) => .inr (i, fs.map (z_g ad))
def z_ws (tA : Nat → ClassId) (ad : Nat → Nat) : Nat → zH → va_W
  | _, [] => []
  | k, c :: r => (ad k, z_c tA ad c) :: z_ws tA ad (k + 1) r
def z_at : zH → Nat → Option zC
  | [], _ => none
  | c :: _, 0 => some c
  | _ :: r, k + 1 => z_at r k
def z_set : zH → Nat → zC → zH
  | [], _, _ => []
  | _ :: r, 0, x => x :: r
  | c :: r, k + 1, x => c :: z_set r k x
theorem z_ws_at (tA : Nat → ClassId) (ad : Nat → Nat) : ∀ (h : zH) (k i : Nat) (c : zC), z_at h i = some c → (z_ws tA ad k h)[i]? = some (ad (k + i), z_c tA ad c) := by
  intro h
  induction h with
  | nil => intro k i c e; cases e
  | cons a r ih =>
    intro k i c e
    cases i with
    | zero => cases e; rfl
    | succ i =>
      have := ih (k + 1) i c e
      show (z_ws tA ad (k + 1) r)[i]? = _
      rw [this, show k + 1 + i = k + (i + 1) by omega]
theorem z_ws_set (tA : Nat → ClassId) (ad : Nat → Nat) : ∀ (h : zH) (k i : Nat) (x : zC), (z_ws tA ad k h).set i (ad (k + i), z_c tA ad x) = z_ws tA ad k (z_set h i x) := by
  intro h
  induction h with
  | nil => intro k i x; rfl
  | cons a r ih =>
    intro k i x
    cases i with
    | zero => rfl
    | succ i =>
      have := ih (k + 1) i x
      show (ad k, z_c tA ad a) :: (z_ws tA ad (k + 1) r).set i (ad (k + (i + 1)), z_c tA ad x) = _
      rw [show k + (i + 1) = k + 1 + i by omega, this]
      rfl
theorem z_set_len : ∀ (h : zH) (i : Nat) (x : zC), (z_set h i x).length = h.length := by
  intro h
  induction h with
  | nil => intro i x; rfl
  | cons a r ih =>
    intro i x
    cases i with
    | zero => rfl
    | succ i => show (z_set r i x).length + 1 = r.length + 1; rw [ih]
theorem z_ws_mem (tA : Nat → ClassId) (ad : Nat → Nat) : ∀ (h : zH) (k i : Nat) (q : Nat × va_E), (z_ws tA ad k h)[i]? = some q → i < h.length ∧ q.1 = ad (k + i) := by
  intro h
  induction h with
  | nil => intro k i q e; simp [z_ws] at e
  | cons a r ih =>
    intro k i q e
    cases i with
    | zero =>
      have e2 : some (ad k, z_c tA ad a) = some q := e
      cases e2
      exact ⟨Nat.succ_pos _, rfl⟩
    | succ i =>
      obtain ⟨h1, h2⟩ := ih (k + 1) i q e
      exact ⟨Nat.succ_lt_succ h1, by rw [h2, show k + 1 + i = k + (i + 1) by omega]⟩
/-- the places' addresses are apart -/
def z_ap (ad : Nat → Nat) (n : Nat) : Prop := ∀ i j, i < n → j < n → ad i = ad j → i = j
/-- what a method may change -/
def z_A (ad : Nat → Nat) (n sz : Nat) : Nat → Prop := fun q => (∃ k, k < n ∧ ad k = q) ∨ sz ≤ q
theorem z_D {ad : Nat → Nat} {n : Nat} (h : z_ap ad n) (tA : Nat → ClassId) (sz : Nat) (r : zH) (hr : r.length = n) : va_D (z_A ad n sz) (z_ws tA ad 0 r) := by
  refine ⟨fun i j p q hp hq e => ?_, fun k q hq => ?_⟩
  · obtain ⟨h1, h2⟩ := z_ws_mem tA ad r 0 i p hp
    obtain ⟨h3, h4⟩ := z_ws_mem tA ad r 0 j q hq
    rw [Nat.zero_add] at h2 h4
    exact h i j (by omega) (by omega) (by rw [← h2, ← h4, e])
  · obtain ⟨h1, h2⟩ := z_ws_mem tA ad r 0 k q hq
    rw [Nat.zero_add] at h2
    exact Or.inl ⟨k, by omega, h2.symm⟩
theorem z_cat (ad : Nat → Nat) (v : Value) : (z_g ad v).category = v.category := by cases v <;> rfl
theorem z_cats (ad : Nat → Nat) (S : List Value) : ((S.map (z_g ad)).map fun v => v.category).sum = (S.map fun v => v.category).sum := by
  induction S with
  | nil => rfl
  | cons v S ih => simp only [List.map_cons, List.sum_cons, ih, z_cat]
/-! locals: a list by their numbers; none: not known -/
def z_L (ad : Nat → Nat) : Nat → List (Option Value) → List (Nat × Value)
  | _, [] => []
  | i, some v :: L => (i, z_g ad v) :: z_L ad (i + 1) L
  | i, none :: L => z_L ad (i + 1) L
def z_nt : List (Option Value) → Nat → Option (Option Value)
  | [], _ => none
  | a :: _, 0 => some a
  | _ :: L, k + 1 => z_nt L k
def z_st : List (Option Value) → Nat → Option Value → List (Option Value)
  | [], _, _ => []
  | _ :: L, 0, x => x :: L
  | a :: L, k + 1, x => a :: z_st L k x
/-- the local ahead of place k is no long -/
def z_no2 : List (Option Value) → Nat → Bool
  | [], _ => true
  | _, 0 => true
  | some v :: _, 1 => v.category == 1
  | none :: _, 1 => true
  | _ :: L, k + 2 => z_no2 L (k + 1)
theorem z_L_in (ad : Nat → Nat) : ∀ (L : List (Option Value)) (k i : Nat) (v : Value), z_nt L i = some (some v) → (k + i, z_g ad v) ∈ z_L ad k L := by
  intro L
  induction L with
  | nil => intro k i v e; cases e
  | cons a L ih =>
    intro k i v e
    cases i with
    | zero =>
      have e2 : some a = some (some v) := e
      cases e2
      exact List.mem_cons_self
    | succ i =>
      have := ih (k + 1) i v e
      rw [show k + 1 + i = k + (i + 1) by omega] at this
      cases a with
      | none => exact this
      | some x => exact List.mem_cons_of_mem _ this
theorem z_L_out (ad : Nat → Nat) : ∀ (L : List (Option Value)) (k : Nat) (q : Nat × Value), q ∈ z_L ad k L → ∃ i v, z_nt L i = some (some v) ∧ q = (k + i, z_g ad v) := by
  intro L
  induction L with
  | nil => intro k q h; cases h
  | cons a L ih =>
    intro k q h
    have go : q ∈ z_L ad (k + 1) L → ∃ i v, z_nt (a :: L) i = some (some v) ∧ q = (k + i, z_g ad v) := by
      intro h
      obtain ⟨i, v, h1, h2⟩ := ih (k + 1) q h
      exact ⟨i + 1, v, h1, by rw [h2, show k + 1 + i = k + (i + 1) by omega]⟩
    cases a with
    | none => exact go h
    | some x =>
      rcases List.mem_cons.mp h with h | h
      · exact ⟨0, x, rfl, h⟩
      · exact go h
theorem z_nt_st : ∀ (L : List (Option Value)) (i j : Nat) (x : Option Value) (v : Value), z_nt (z_st L i x) j = some (some v) → (j = i ∧ x = some v) ∨ (j ≠ i ∧ z_nt L j = some (some v)) := by
  intro L
  induction L with
  | nil => intro i j x v e; cases e
  | cons a L ih =>
    intro i j x v e
    cases i with
    | zero =>
      cases j with
      | zero => have e2 : some x = some (some v) := e; cases e2; exact Or.inl ⟨rfl, rfl⟩
      | succ j => exact Or.inr ⟨by omega, e⟩
    | succ i =>
      cases j with
      | zero => exact Or.inr ⟨by omega, e⟩
      | succ j =>
        rcases ih i j x v e with ⟨h1, h2⟩ | ⟨h1, h2⟩
        · exact Or.inl ⟨by omega, h2⟩
        · exact Or.inr ⟨by omega, h2⟩
theorem z_no2_spec : ∀ (L : List (Option Value)) (j : Nat) (v : Value), z_no2 L (j + 1) = true → z_nt L j = some (some v) → v.category = 1 := by
  intro L
  induction L with
  | nil => intro j v _ e; cases e
  | cons a L ih =>
    intro j v h e
    cases j with
    | zero =>
      have e2 : some a = some (some v) := e
      cases e2
      exact eq_of_beq h
    | succ j => exact ih j v (by cases a <;> exact h) e
/-- storing a value of one slot -/
theorem z_store {ls' : Array Slot} {nL i : Nat} {v : Value} {ad : Nat → Nat} {L : List (Option Value)} (hc : v.category = 1) (hn : z_no2 L i = true)
    (h : lv_has ls' nL ((i, z_g ad v) :: (z_L ad 0 L).filter (fun q => !(q.1 == i) && !(q.1 + 1 == i && q.2.category == 2)))) : lv_has ls' nL (z_L ad 0 (z_st L i (some v))) := by
  refine ⟨h.1, h.2.1, fun q hq => ?_⟩
  obtain ⟨j, u, h1, h2⟩ := z_L_out ad _ 0 q hq
  rw [Nat.zero_add] at h2
  subst h2
  rcases z_nt_st L i j (some v) u h1 with ⟨e1, e2⟩ | ⟨e1, e2⟩
  · cases e2; subst e1
    exact h.2.2 _ List.mem_cons_self
  · refine h.2.2 _ (List.mem_cons_of_mem _ (List.mem_filter.mpr ⟨by have := z_L_in ad L 0 j u e2; rwa [Nat.zero_add] at this, ?_⟩))
    have hb : (j == i) = false := by simp [e1]
    by_cases hj : j + 1 = i
    · subst hj
      have := z_no2_spec L j u hn e2
      simp [z_cat, this]
    · have hb2 : (j + 1 == i) = false := by simp [hj]
      simp [hb, hb2]
/-- storing a value of two slots -/
theorem z_store2 {ls' : Array Slot} {nL i : Nat} {v : Value} {ad : Nat → Nat} {L : List (Option Value)} (hn : z_no2 L i = true)
    (h : lv_has ls' nL ((i, z_g ad v) :: (z_L ad 0 L).filter (fun q => !(q.1 == i) && (!(q.1 == i + 1) && !(q.1 + 1 == i && q.2.category == 2))))) : lv_has ls' nL (z_L ad 0 (z_st (z_st L i (some v)) (i + 1) none)) := by
  refine ⟨h.1, h.2.1, fun q hq => ?_⟩
  obtain ⟨j, u, h1, h2⟩ := z_L_out ad _ 0 q hq
  rw [Nat.zero_add] at h2
  subst h2
  rcases z_nt_st _ (i + 1) j none u h1 with ⟨e1, e3⟩ | ⟨e0, e3⟩
  · cases e3
  · rcases z_nt_st L i j (some v) u e3 with ⟨e1, e2⟩ | ⟨e1, e2⟩
    · cases e2; subst e1
      exact h.2.2 _ List.mem_cons_self
    · refine h.2.2 _ (List.mem_cons_of_mem _ (List.mem_filter.mpr ⟨by have := z_L_in ad L 0 j u e2; rwa [Nat.zero_add] at this, ?_⟩))
      have hb : (j == i) = false := by simp [e1]
      have hb1 : (j == i + 1) = false := by simp [e0]
      by_cases hj : j + 1 = i
      · subst hj
        have := z_no2_spec L j u hn e2
        simp [z_cat, this] <;> omega
      · have hb2 : (j + 1 == i) = false := by simp [hj]
        simp [hb, hb1, hb2]
/-! what nobody writes: the String constants, the table KIND_ABOVE -/
def z_sx : List (String × Nat × String × Nat) := [("WildBells$Tape", 86, "herd", 1), ("WildBells$Tape", 88, "lone", 2), ("WildBells$Tape", 90, "tenor", 3), ("WildBells$Tape", 92, "eldest", 4), ("WildBells$Tape", 94, "tame", 5), ("WildBells$Tape", 96, "young", 6), ("WildBells$Tape", 98, "bell", 0), ("WildBells$Tape", 105, "at", 11), ("WildBells$Tape", 111, "note", 12), ("WildBells$Tape", 113, "weight", 13), ("WildBells$Tape", 58, "net", 7), ("WildBells$Tape", 67, "thick", 8), ("WildBells$Tape", 72, "hunter", 9), ("WildBells$Tape", 77, "fear", 10), ("WildBellsModel", 36, "bell", 0), ("WildBellsModel", 38, "herd", 1), ("WildBellsModel", 40, "lone", 2), ("WildBellsModel", 42, "tenor", 3), ("WildBellsModel", 44, "eldest", 4), ("WildBellsModel", 46, "tame", 5), ("WildBellsModel", 48, "young", 6), ("WildBellsModel", 307, "at", 11), ("WildBellsModel", 314, "note", 12), ("WildBellsModel", 316, "weight", 13), ("WildBellsModel", 322, "net", 7), ("WildBellsModel", 324, "thick", 8), ("WildBellsModel", 326, "hunter", 9), ("WildBellsModel", 328, "fear", 10)]
def z_len : List Nat := [4, 4, 4, 5, 6, 4, 5, 3, 5, 6, 4, 2, 4, 6]
def z_byt : List (List Int32) := [[98, 101, 108, 108], [104, 101, 114, 100], [108, 111, 110, 101], [116, 101, 110, 111, 114], [101, 108, 100, 101, 115, 116], [116, 97, 109, 101], [121, 111, 117, 110, 103], [110, 101, 116], [116, 104, 105, 99, 107], [104, 117, 110, 116, 101, 114], [102, 101, 97, 114], [97, 116], [110, 111, 116, 101], [119, 101, 105, 103, 104, 116]]
def z_ka : List Int32 := [-1, 0, 0, 2, 3, 0, 1]
/-- adK, adV: addresses of the texts and of their bytes; tK: of KIND_ABOVE -/
abbrev zE : Type := (Nat → Nat) × (Nat → Nat) × Nat
def z_EX (E : zE) (A : Nat → Prop) (U : State) (H : Heap) : Prop :=
  vk_S 14 z_len z_byt E.1 E.2.1 A U H ∧ (∀ r ∈ z_sx, vk_R r.1 r.2.1 r.2.2.1 (E.1 r.2.2.2) U) ∧ va_Z "WildBells" "KIND_ABOVE" "[I" (.ref E.2.2) A U H ∧ va_T .int E.2.2 7 (fun j => .int (z_ka.getD j 0)) A U H ∧ va_Z "java/lang/String" "COMPACT_STRINGS" "Z" (.int 1) A U H ∧ va_Zq "jdk/internal/util/Preconditions" "SIOOBE_FORMATTER" "Ljava/util/function/BiFunction;" A U H
theorem z_EX.calling {E : zE} {A : Nat → Prop} {U : State} {g : JFrame} {mk : MethodId} {a : Array Value} (h : z_EX E A U U.heap) : z_EX E A (U.calling g mk a) (U.calling g mk a).heap := by
  obtain ⟨h1, h2, h3, h4, h5, h6⟩ := h
  have hv : U.vm.Alike (U.calling g mk a).vm := Vm.Alike.refl U.vm
  exact ⟨h1.moved hv, fun r hr => (h2 r hr).same rfl, h3.moved hv, h4.moved hv, h5.moved hv, h6.moved hv⟩
theorem z_EX.pass {E : zE} {A B : Nat → Prop} {s U : State} {H : Heap} (h : z_EX E A s s.heap) (hU : U.heap = H) (hW : s.WarmedH U.vm) (hq : ∀ a : Nat, a < s.heap.size → ¬ A a → H[a]? = s.heap[a]?) (hAB : ∀ q, B q → A q) : z_EX E B U U.heap := by
  obtain ⟨h1, h2, h3, h4, h5, h6⟩ := h
  subst hU
  exact ⟨((h1.moved hW.alike).kept hq).narrow hAB, fun r hr => (h2 r hr).warm hW, ((h3.moved hW.alike).kept hq).narrow hAB, ((h4.moved hW.alike).kept hq).narrow hAB, ((h5.moved hW.alike).kept hq).narrow hAB, ((h6.moved hW.alike).kept hq).narrow hAB⟩
/-! links to private members of nest mates -/
def z_nst (U : State) : Prop := ∀ w ∈ z_N, va_Nw w U
theorem z_nst.calling {U : State} {g : JFrame} {mk : MethodId} {a : Array Value} (h : z_nst U) : z_nst (U.calling g mk a) := by
  intro w hw
  have hk : w.onTables = true := by
    have := (List.mem_filter.mp hw).2
    cases w <;> first | rfl | (simp [z_isN] at this)
  exact va_Nw.same (u := U) hk rfl (h w hw)
theorem z_nst.pass {s U : State} (h : z_nst s) (hW : s.WarmedH U.vm) : z_nst U := by
  intro w hw
  have h1 := h w hw
  have := (List.mem_filter.mp hw).2
  cases w <;> first | exact va_Nw.warmF hW h1 | exact va_Nw.warmM hW h1 | (simp [z_isN] at this)
/-- the classes of the arrays -/
def z_tys (tA : Nat → ClassId) : List (ClassId × FieldType) := [(tA 0, .int), (tA 1, .object "WildBells$Sheet"), (tA 2, .object "java/lang/String")]
/-- the world at a method's start -/
def z_Wd (E : zE) (D : va_G) (tA : Nat → ClassId) (ad : Nat → Nat) (h : zH) (sz : Nat) (U : State) : Prop :=
  U.heap.size = sz ∧ va_P D vwCl (z_ws tA ad 0 h) U.heap ∧ va_K D vwCl (z_tys tA) U ∧ z_nst U ∧ z_EX E (z_A ad h.length sz) U U.heap
def z_Q (D : va_G) (tA : Nat → ClassId) (ad : Nat → Nat) (rv : Option Value) (h : zH) (A : Nat → Prop) : Array Value → State → Outcome → State → Prop := fun _ st oc t => (oc = .returned (rv.map (z_g ad)) ∧ va_P D vwCl (z_ws tA ad 0 h) t.heap) ∧ va_F A st t
/-- the places of the texts (1000 ..), of their bytes (3000 ..), of KIND_ABOVE (2000) -/
def z_sa (E : zE) (ad : Nat → Nat) : Prop := (∀ i, i < 14 → ad (1000 + i) = E.1 i ∧ ad (3000 + i) = E.2.1 i) ∧ ad 2000 = E.2.2
/-- A METHOD: with these arguments, over the world h, it answers rv and leaves the world h2 -/
def Mx (M : zM) (as : List Value) (h : zH) (rv : Option Value) (h2 : zH) : Prop :=
  h2.length = h.length ∧ ∀ (l : Launch) (E : zE) (D : va_G) (tA : Nat → ClassId) (ad : Nat → Nat) (sz : Nat), z_ap ad h.length → z_sa E ad →
    Met l M.1 (z_wd M) (z_rm M.2.2.2.2) (va_Pc (as.map (z_g ad)) (z_Wd E D tA ad h sz)) (z_Q D tA ad rv h2 (z_A ad h.length sz)) 0 0 (z_A ad h.length sz)
/-- what a frame has around it -/
def z_Cx (M : zM) (n : Nat) (E : zE) (D : va_G) (tA : Nat → ClassId) (ad : Nat → Nat) (p : Program) (s : State) (m : MethodId) (args : Array Value) (meth : Method) (c : Code) : Prop :=
  p.tables.exec = Jvm.exec ∧ c.code = M.2.1 ∧ meth.sig.returnType = M.2.2.2.1 ∧ c.maxLocals = M.2.2.1 ∧ s.vm.findClass M.1.cls = some m.cls ∧ (∀ w ∈ z_wd M, w.before args s = true) ∧ meth.locks = false ∧ va_K D vwCl (z_tys tA) s ∧ z_nst s ∧ z_EX E (z_A ad n s.heap.size) s s.heap ∧ z_ap ad n ∧ z_sa E ad
/-- A FRAME: at pc with locals L, stack S, over the world h, the method comes to its end with 'out' -/
def Fx (M : zM) (out : Option Value × zH) (pc : Nat) (L : List (Option Value)) (S : List Value) (h : zH) : Prop :=
  h.length = out.2.length ∧ ∀ (E : zE) (D : va_G) (tA : Nat → ClassId) (ad : Nat → Nat) (p : Program) (l : Launch) (e : Env) (s : State) (m : MethodId) (args : Array Value) (below : List Frame) (meth : Method) (c : Code), z_Cx M h.length E D tA ad p s m args meth c →
    ∀ (H : Heap) (locs : List Loc) (ls : Array Slot), lv_has ls M.2.2.1 (z_L ad 0 L) → va_P D vwCl (z_ws tA ad 0 h) H → va_S (z_A ad h.length s.heap.size) s.heap H locs →
      W p l e (z_rm M.2.2.2.2) s m args below meth c H locs 0 0 (MQ below (z_Q D tA ad out.1 out.2 (z_A ad h.length s.heap.size)) args s 0 0 (z_A ad h.length s.heap.size)) (F0 m pc ls (S.map (z_g ad)))
section FX
variable {M : zM} {out : Option Value × zH} {pc : Nat} {L : List (Option Value)} {S : List Value} {h : zH}

theorem fx_iadd {x y : Int32} (hd : decode M.2.1 pc = .ok (.iadd, 1)) (k : Fx M out (pc + 1) L (.int (x + y) :: S) h) : Fx M out pc L (.int y :: .int x :: S) h := ⟨k.1, fun E D tA ad p l e s m args below meth c C H locs ls hl hP hS => lv_iadd C.1 C.2.1 hd (k.2 E D tA ad p l e s m args below meth c C H locs ls hl hP hS)⟩
theorem fx_isub {x y : Int32} (hd : decode M.2.1 pc = .ok (.isub, 1)) (k : Fx M out (pc + 1) L (.int (x - y) :: S) h) : Fx M out pc L (.int y :: .int x :: S) h := ⟨k.1, fun E D tA ad p l e s m args below meth c C H locs ls hl hP hS => lv_isub C.1 C.2.1 hd (k.2 E D tA ad p l e s m args below meth c C H locs ls hl hP hS)⟩
theorem fx_imul {x y : Int32} (hd : decode M.2.1 pc = .ok (.imul, 1)) (k : Fx M out (pc + 1) L (.int (x * y) :: S) h) : Fx M out pc L (.int y :: .int x :: S) h := ⟨k.1, fun E D tA ad p l e s m args below meth c C H locs ls hl hP hS => lv_imul C.1 C.2.1 hd (k.2 E D tA ad p l e s m args below meth c C H locs ls hl hP hS)⟩
theorem fx_iand {x y : Int32} (hd : decode M.2.1 pc = .ok (.iand, 1)) (k : Fx M out (pc + 1) L (.int (x &&& y) :: S) h) : Fx M out pc L (.int y :: .int x :: S) h := ⟨k.1, fun E D tA ad p l e s m args below meth c C H locs ls hl hP hS => lv_iand C.1 C.2.1 hd (k.2 E D tA ad p l e s m args below meth c C H locs ls hl hP hS)⟩
theorem fx_ior {x y : Int32} (hd : decode M.2.1 pc = .ok (.ior, 1)) (k : Fx M out (pc + 1) L (.int (x ||| y) :: S) h) : Fx M out pc L (.int y :: .int x :: S) h := ⟨k.1, fun E D tA ad p l e s m args below meth c C H locs ls hl hP hS => lv_ior C.1 C.2.1 hd (k.2 E D tA ad p l e s m args below meth c C H locs ls hl hP hS)⟩
theorem fx_ixor {x y : Int32} (hd : decode M.2.1 pc = .ok (.ixor, 1)) (k : Fx M out (pc + 1) L (.int (x ^^^ y) :: S) h) : Fx M out pc L (.int y :: .int x :: S) h := ⟨k.1, fun E D tA ad p l e s m args below meth c C H locs ls hl hP hS => lv_ixor C.1 C.2.1 hd (k.2 E D tA ad p l e s m args below meth c C H locs ls hl hP hS)⟩
theorem fx_ishl {x y : Int32} (hd : decode M.2.1 pc = .ok (.ishl, 1)) (k : Fx M out (pc + 1) L (.int (x <<< (y &&& 31)) :: S) h) : Fx M out pc L (.int y :: .int x :: S) h := ⟨k.1, fun E D tA ad p l e s m args below meth c C H locs ls hl hP hS => lv_ishl C.1 C.2.1 hd (k.2 E D tA ad p l e s m args below meth c C H locs ls hl hP hS)⟩
theorem fx_ishr {x y : Int32} (hd : decode M.2.1 pc = .ok (.ishr, 1)) (k : Fx M out (pc + 1) L (.int (x >>> (y &&& 31)) :: S) h) : Fx M out pc L (.int y :: .int x :: S) h := ⟨k.1, fun E D tA ad p l e s m args below meth c C H locs ls hl hP hS => lv_ishr C.1 C.2.1 hd (k.2 E D tA ad p l e s m args below meth c C H locs ls hl hP hS)⟩
theorem fx_iushr {x y : Int32} (hd : decode M.2.1 pc = .ok (.iushr, 1)) (k : Fx M out (pc + 1) L (.int ((x.toUInt32 >>> (y.toUInt32 &&& Int32.toUInt32 31)).toInt32) :: S) h) : Fx M out pc L (.int y :: .int x :: S) h := ⟨k.1, fun E D tA ad p l e s m args below meth c C H locs ls hl hP hS => lv_iushr C.1 C.2.1 hd rfl (k.2 E D tA ad p l e s m args below meth c C H locs ls hl hP hS)⟩
theorem fx_idiv {x y : Int32} (hd : decode M.2.1 pc = .ok (.idiv, 1)) (hne : ¬ y = 0) (k : Fx M out (pc + 1) L (.int (x / y) :: S) h) : Fx M out pc L (.int y :: .int x :: S) h := ⟨k.1, fun E D tA ad p l e s m args below meth c C H locs ls hl hP hS => lv_idiv C.1 C.2.1 hd hne (k.2 E D tA ad p l e s m args below meth c C H locs ls hl hP hS)⟩
theorem fx_irem {x y : Int32} (hd : decode M.2.1 pc = .ok (.irem, 1)) (hne : ¬ y = 0) (k : Fx M out (pc + 1) L (.int (x - x / y * y) :: S) h) : Fx M out pc L (.int y :: .int x :: S) h := ⟨k.1, fun E D tA ad p l e s m args below meth c C H locs ls hl hP hS => lv_irem C.1 C.2.1 hd hne (k.2 E D tA ad p l e s m args below meth c C H locs ls hl hP hS)⟩
theorem fx_ineg {x : Int32} (hd : decode M.2.1 pc = .ok (.ineg, 1)) (k : Fx M out (pc + 1) L (.int (-x) :: S) h) : Fx M out pc L (.int x :: S) h := ⟨k.1, fun E D tA ad p l e s m args below meth c C H locs ls hl hP hS => lv_ineg C.1 C.2.1 hd (k.2 E D tA ad p l e s m args below meth c C H locs ls hl hP hS)⟩
theorem fx_ladd {x y : Int64} (hd : decode M.2.1 pc = .ok (.ladd, 1)) (k : Fx M out (pc + 1) L (.long (x + y) :: S) h) : Fx M out pc L (.long y :: .long x :: S) h := ⟨k.1, fun E D tA ad p l e s m args below meth c C H locs ls hl hP hS => lv_ladd C.1 C.2.1 hd (k.2 E D tA ad p l e s m args below meth c C H locs ls hl hP hS)⟩
theorem fx_lsub {x y : Int64} (hd : decode M.2.1 pc = .ok (.lsub, 1)) (k : Fx M out (pc + 1) L (.long (x - y) :: S) h) : Fx M out pc L (.long y :: .long x :: S) h := ⟨k.1, fun E D tA ad p l e s m args below meth c C H locs ls hl hP hS => lv_lsub C.1 C.2.1 hd (k.2 E D tA ad p l e s m args below meth c C H locs ls hl hP hS)⟩
theorem fx_lmul {x y : Int64} (hd : decode M.2.1 pc = .ok (.lmul, 1)) (k : Fx M out (pc + 1) L (.long (x * y) :: S) h) : Fx M out pc L (.long y :: .long x :: S) h := ⟨k.1, fun E D tA ad p l e s m args below meth c C H locs ls hl hP hS => lv_lmul C.1 C.2.1 hd (k.2 E D tA ad p l e s m args below meth c C H locs ls hl hP hS)⟩
theorem fx_land {x y : Int64} (hd : decode M.2.1 pc = .ok (.land, 1)) (k : Fx M out (pc + 1) L (.long (x &&& y) :: S) h) : Fx M out pc L (.long y :: .long x :: S) h := ⟨k.1, fun E D tA ad p l e s m args below meth c C H locs ls hl hP hS => lv_land C.1 C.2.1 hd (k.2 E D tA ad p l e s m args below meth c C H locs ls hl hP hS)⟩
theorem fx_lor {x y : Int64} (hd : decode M.2.1 pc = .ok (.lor, 1)) (k : Fx M out (pc + 1) L (.long (x ||| y) :: S) h) : Fx M out pc L (.long y :: .long x :: S) h := ⟨k.1, fun E D tA ad p l e s m args below meth c C H locs ls hl hP hS => lv_lor C.1 C.2.1 hd (k.2 E D tA ad p l e s m args below meth c C H locs ls hl hP hS)⟩
theorem fx_lxor {x y : Int64} (hd : decode M.2.1 pc = .ok (.lxor, 1)) (k : Fx M out (pc + 1) L (.long (x ^^^ y) :: S) h) : Fx M out pc L (.long y :: .long x :: S) h := ⟨k.1, fun E D tA ad p l e s m args below meth c C H locs ls hl hP hS => lv_lxor C.1 C.2.1 hd (k.2 E D tA ad p l e s m args below meth c C H locs ls hl hP hS)⟩
theorem fx_lshl {x : Int64} {y : Int32} (hd : decode M.2.1 pc = .ok (.lshl, 1)) (k : Fx M out (pc + 1) L (.long (x <<< (y.toInt64 &&& 63)) :: S) h) : Fx M out pc L (.int y :: .long x :: S) h := ⟨k.1, fun E D tA ad p l e s m args below meth c C H locs ls hl hP hS => lv_lshl C.1 C.2.1 hd rfl (k.2 E D tA ad p l e s m args below meth c C H locs ls hl hP hS)⟩
theorem fx_lushr {x : Int64} {y : Int32} (hd : decode M.2.1 pc = .ok (.lushr, 1)) (k : Fx M out (pc + 1) L (.long ((x.toUInt64 >>> (y.toInt64.toUInt64 &&& Int64.toUInt64 63)).toInt64) :: S) h) : Fx M out pc L (.int y :: .long x :: S) h := ⟨k.1, fun E D tA ad p l e s m args below meth c C H locs ls hl hP hS => lv_lushr C.1 C.2.1 hd rfl (k.2 E D tA ad p l e s m args below meth c C H locs ls hl hP hS)⟩
theorem fx_lcmp {x y : Int64} (hd : decode M.2.1 pc = .ok (.lcmp, 1)) (k : Fx M out (pc + 1) L (.int (lg_cmp x y) :: S) h) : Fx M out pc L (.long y :: .long x :: S) h := ⟨k.1, fun E D tA ad p l e s m args below meth c C H locs ls hl hP hS => W.lcmp C.1 C.2.1 hd (k.2 E D tA ad p l e s m args below meth c C H locs ls hl hP hS)⟩
theorem fx_i2l {x : Int32} (hd : decode M.2.1 pc = .ok (.i2l, 1)) (k : Fx M out (pc + 1) L (.long x.toInt64 :: S) h) : Fx M out pc L (.int x :: S) h := ⟨k.1, fun E D tA ad p l e s m args below meth c C H locs ls hl hP hS => lv_i2l C.1 C.2.1 hd rfl (k.2 E D tA ad p l e s m args below meth c C H locs ls hl hP hS)⟩
theorem fx_l2i {x : Int64} (hd : decode M.2.1 pc = .ok (.l2i, 1)) (k : Fx M out (pc + 1) L (.int x.toInt32 :: S) h) : Fx M out pc L (.long x :: S) h := ⟨k.1, fun E D tA ad p l e s m args below meth c C H locs ls hl hP hS => lv_l2i C.1 C.2.1 hd rfl (k.2 E D tA ad p l e s m args below meth c C H locs ls hl hP hS)⟩
theorem fx_i2b {x : Int32} (hd : decode M.2.1 pc = .ok (.i2b, 1)) (k : Fx M out (pc + 1) L (.int x.toInt8.toInt32 :: S) h) : Fx M out pc L (.int x :: S) h := ⟨k.1, fun E D tA ad p l e s m args below meth c C H locs ls hl hP hS => lv_i2b C.1 C.2.1 hd rfl (k.2 E D tA ad p l e s m args below meth c C H locs ls hl hP hS)⟩
theorem fx_i2s {x : Int32} (hd : decode M.2.1 pc = .ok (.i2s, 1)) (k : Fx M out (pc + 1) L (.int x.toInt16.toInt32 :: S) h) : Fx M out pc L (.int x :: S) h := ⟨k.1, fun E D tA ad p l e s m args below meth c C H locs ls hl hP hS => lv_i2s C.1 C.2.1 hd rfl (k.2 E D tA ad p l e s m args below meth c C H locs ls hl hP hS)⟩
theorem fx_i2c {x : Int32} (hd : decode M.2.1 pc = .ok (.i2c, 1)) (k : Fx M out (pc + 1) L (.int (x.toUInt32 % 65536).toInt32 :: S) h) : Fx M out pc L (.int x :: S) h := ⟨k.1, fun E D tA ad p l e s m args below meth c C H locs ls hl hP hS => lv_i2c C.1 C.2.1 hd rfl (k.2 E D tA ad p l e s m args below meth c C H locs ls hl hP hS)⟩
theorem fx_iconst {n : Int} {v : Int32} (hd : decode M.2.1 pc = .ok (.iconst n, 1)) (hv : Int32.ofInt n = v) (k : Fx M out (pc + 1) L (.int v :: S) h) : Fx M out pc L (S) h := ⟨k.1, fun E D tA ad p l e s m args below meth c C H locs ls hl hP hS => lv_iconst C.1 C.2.1 hd hv (k.2 E D tA ad p l e s m args below meth c C H locs ls hl hP hS)⟩
theorem fx_bipush {n : Int} {v : Int32} (hd : decode M.2.1 pc = .ok (.bipush n, 2)) (hv : (Int8.ofInt n).toInt32 = v) (k : Fx M out (pc + 2) L (.int v :: S) h) : Fx M out pc L (S) h := ⟨k.1, fun E D tA ad p l e s m args below meth c C H locs ls hl hP hS => lv_bipush C.1 C.2.1 hd hv (k.2 E D tA ad p l e s m args below meth c C H locs ls hl hP hS)⟩
theorem fx_sipush {n : Int} {v : Int32} (hd : decode M.2.1 pc = .ok (.sipush n, 3)) (hv : (Int16.ofInt n).toInt32 = v) (k : Fx M out (pc + 3) L (.int v :: S) h) : Fx M out pc L (S) h := ⟨k.1, fun E D tA ad p l e s m args below meth c C H locs ls hl hP hS => lv_sipush C.1 C.2.1 hd hv (k.2 E D tA ad p l e s m args below meth c C H locs ls hl hP hS)⟩
theorem fx_lconst {n : Fin 2} {v : Int64} (hd : decode M.2.1 pc = .ok (.lconst n, 1)) (hv : Int64.ofNat (n : Nat) = v) (k : Fx M out (pc + 1) L (.long v :: S) h) : Fx M out pc L (S) h := ⟨k.1, fun E D tA ad p l e s m args below meth c C H locs ls hl hP hS => lv_lconst C.1 C.2.1 hd hv (k.2 E D tA ad p l e s m args below meth c C H locs ls hl hP hS)⟩
theorem fx_dup {a : Value} (hd : decode M.2.1 pc = .ok (.dup, 1)) (ha : a.category = 1) (k : Fx M out (pc + 1) L (a :: a :: S) h) : Fx M out pc L (a :: S) h := ⟨k.1, fun E D tA ad p l e s m args below meth c C H locs ls hl hP hS => lv_dup C.1 C.2.1 hd ((z_cat ad a).trans ha) (k.2 E D tA ad p l e s m args below meth c C H locs ls hl hP hS)⟩
theorem fx_pop {a : Value} (hd : decode M.2.1 pc = .ok (.pop, 1)) (ha : a.category = 1) (k : Fx M out (pc + 1) L (S) h) : Fx M out pc L (a :: S) h := ⟨k.1, fun E D tA ad p l e s m args below meth c C H locs ls hl hP hS => lv_pop C.1 C.2.1 hd ((z_cat ad a).trans ha) (k.2 E D tA ad p l e s m args below meth c C H locs ls hl hP hS)⟩
theorem fx_dup2 {a b : Value} (hd : decode M.2.1 pc = .ok (.dup2, 1)) (ha : a.category = 1) (hb : b.category = 1) (k : Fx M out (pc + 1) L (a :: b :: a :: b :: S) h) : Fx M out pc L (a :: b :: S) h := ⟨k.1, fun E D tA ad p l e s m args below meth c C H locs ls hl hP hS => lv_dup2_11 C.1 C.2.1 hd ((z_cat ad a).trans ha) ((z_cat ad b).trans hb) (k.2 E D tA ad p l e s m args below meth c C H locs ls hl hP hS)⟩
theorem fx_iload_n {j : Fin 4} {i : Nat} {x : Int32} (hd : decode M.2.1 pc = .ok (.iload_n j, 1)) (hi : (j : Nat) = i) (hL : z_nt L i = some (some (.int x))) (k : Fx M out (pc + 1) L (.int x :: S) h) : Fx M out pc L (S) h := ⟨k.1, fun E D tA ad p l e s m args below meth c C H locs ls hl hP hS => lv_iload_n C.1 C.2.1 hd hi (hl.2.2 (i, .int x) (by have := z_L_in ad L 0 i _ hL; rwa [Nat.zero_add] at this)) (k.2 E D tA ad p l e s m args below meth c C H locs ls hl hP hS)⟩
theorem fx_iload {i : Nat} {x : Int32} (hd : decode M.2.1 pc = .ok (.iload i, 2)) (hL : z_nt L i = some (some (.int x))) (k : Fx M out (pc + 2) L (.int x :: S) h) : Fx M out pc L (S) h := ⟨k.1, fun E D tA ad p l e s m args below meth c C H locs ls hl hP hS => lv_iload C.1 C.2.1 hd (hl.2.2 (i, .int x) (by have := z_L_in ad L 0 i _ hL; rwa [Nat.zero_add] at this)) (k.2 E D tA ad p l e s m args below meth c C H locs ls hl hP hS)⟩
theorem fx_lload_n {j : Fin 4} {i : Nat} {x : Int64} (hd : decode M.2.1 pc = .ok (.lload_n j, 1)) (hi : (j : Nat) = i) (hL : z_nt L i = some (some (.long x))) (k : Fx M out (pc + 1) L (.long x :: S) h) : Fx M out pc L (S) h := ⟨k.1, fun E D tA ad p l e s m args below meth c C H locs ls hl hP hS => lv_lload_n C.1 C.2.1 hd hi (hl.2.2 (i, .long x) (by have := z_L_in ad L 0 i _ hL; rwa [Nat.zero_add] at this)) (k.2 E D tA ad p l e s m args below meth c C H locs ls hl hP hS)⟩
theorem fx_lload {i : Nat} {x : Int64} (hd : decode M.2.1 pc = .ok (.lload i, 2)) (hL : z_nt L i = some (some (.long x))) (k : Fx M out (pc + 2) L (.long x :: S) h) : Fx M out pc L (S) h := ⟨k.1, fun E D tA ad p l e s m args below meth c C H locs ls hl hP hS => lv_lload C.1 C.2.1 hd (hl.2.2 (i, .long x) (by have := z_L_in ad L 0 i _ hL; rwa [Nat.zero_add] at this)) (k.2 E D tA ad p l e s m args below meth c C H locs ls hl hP hS)⟩
theorem fx_aload_n {j : Fin 4} {i : Nat} {x : Nat} (hd : decode M.2.1 pc = .ok (.aload_n j, 1)) (hi : (j : Nat) = i) (hL : z_nt L i = some (some (.ref x))) (k : Fx M out (pc + 1) L (.ref x :: S) h) : Fx M out pc L (S) h := ⟨k.1, fun E D tA ad p l e s m args below meth c C H locs ls hl hP hS => lv_aload_n C.1 C.2.1 hd hi (hl.2.2 (i, .ref (ad x)) (by have := z_L_in ad L 0 i _ hL; rwa [Nat.zero_add] at this)) (k.2 E D tA ad p l e s m args below meth c C H locs ls hl hP hS)⟩
theorem fx_aload {i : Nat} {x : Nat} (hd : decode M.2.1 pc = .ok (.aload i, 2)) (hL : z_nt L i = some (some (.ref x))) (k : Fx M out (pc + 2) L (.ref x :: S) h) : Fx M out pc L (S) h := ⟨k.1, fun E D tA ad p l e s m args below meth c C H locs ls hl hP hS => lv_aload C.1 C.2.1 hd (hl.2.2 (i, .ref (ad x)) (by have := z_L_in ad L 0 i _ hL; rwa [Nat.zero_add] at this)) (k.2 E D tA ad p l e s m args below meth c C H locs ls hl hP hS)⟩
theorem fx_istore_n {j : Fin 4} {i : Nat} {x : Int32} {L' : List (Option Value)} (hd : decode M.2.1 pc = .ok (.istore_n j, 1)) (hi : (j : Nat) = i) (hL : z_st L i (some (.int x)) = L') (hn : z_no2 L i = true) (hm : i < M.2.2.1) (k : Fx M out (pc + 1) L' S h) : Fx M out pc L (.int x :: S) h := ⟨k.1, fun E D tA ad p l e s m args below meth c C H locs ls hl hP hS => lv_istore_n C.1 C.2.1 hd hi hl hm rfl (fun ls hl2 => k.2 E D tA ad p l e s m args below meth c C H locs ls (by rw [← hL]; exact z_store (v := .int x) rfl hn hl2) hP hS)⟩
theorem fx_istore {i : Nat} {x : Int32} {L' : List (Option Value)} (hd : decode M.2.1 pc = .ok (.istore i, 2)) (hL : z_st L i (some (.int x)) = L') (hn : z_no2 L i = true) (hm : i < M.2.2.1) (k : Fx M out (pc + 2) L' S h) : Fx M out pc L (.int x :: S) h := ⟨k.1, fun E D tA ad p l e s m args below meth c C H locs ls hl hP hS => lv_istore C.1 C.2.1 hd hl hm rfl (fun ls hl2 => k.2 E D tA ad p l e s m args below meth c C H locs ls (by rw [← hL]; exact z_store (v := .int x) rfl hn hl2) hP hS)⟩
theorem fx_astore_n {j : Fin 4} {i : Nat} {x : Nat} {L' : List (Option Value)} (hd : decode M.2.1 pc = .ok (.astore_n j, 1)) (hi : (j : Nat) = i) (hL : z_st L i (some (.ref x)) = L') (hn : z_no2 L i = true) (hm : i < M.2.2.1) (k : Fx M out (pc + 1) L' S h) : Fx M out pc L (.ref x :: S) h := ⟨k.1, fun E D tA ad p l e s m args below meth c C H locs ls hl hP hS => lv_astore_n C.1 C.2.1 hd hi hl hm rfl (fun ls hl2 => k.2 E D tA ad p l e s m args below meth c C H locs ls (by rw [← hL]; exact z_store (v := .ref x) rfl hn hl2) hP hS)⟩
theorem fx_astore {i : Nat} {x : Nat} {L' : List (Option Value)} (hd : decode M.2.1 pc = .ok (.astore i, 2)) (hL : z_st L i (some (.ref x)) = L') (hn : z_no2 L i = true) (hm : i < M.2.2.1) (k : Fx M out (pc + 2) L' S h) : Fx M out pc L (.ref x :: S) h := ⟨k.1, fun E D tA ad p l e s m args below meth c C H locs ls hl hP hS => lv_astore C.1 C.2.1 hd hl hm rfl (fun ls hl2 => k.2 E D tA ad p l e s m args below meth c C H locs ls (by rw [← hL]; exact z_store (v := .ref x) rfl hn hl2) hP hS)⟩
theorem fx_lstore_n {j : Fin 4} {i : Nat} {x : Int64} {L' : List (Option Value)} (hd : decode M.2.1 pc = .ok (.lstore_n j, 1)) (hi : (j : Nat) = i) (hL : z_st (z_st L i (some (.long x))) (i + 1) none = L') (hn : z_no2 L i = true) (hm : i + 1 < M.2.2.1) (k : Fx M out (pc + 1) L' S h) : Fx M out pc L (.long x :: S) h := ⟨k.1, fun E D tA ad p l e s m args below meth c C H locs ls hl hP hS => lv_lstore_n C.1 C.2.1 hd hi hl hm rfl (fun ls hl2 => k.2 E D tA ad p l e s m args below meth c C H locs ls (by rw [← hL]; exact z_store2 (v := .long x) hn hl2) hP hS)⟩
theorem fx_lstore {i : Nat} {x : Int64} {L' : List (Option Value)} (hd : decode M.2.1 pc = .ok (.lstore i, 2)) (hL : z_st (z_st L i (some (.long x))) (i + 1) none = L') (hn : z_no2 L i = true) (hm : i + 1 < M.2.2.1) (k : Fx M out (pc + 2) L' S h) : Fx M out pc L (.long x :: S) h := ⟨k.1, fun E D tA ad p l e s m args below meth c C H locs ls hl hP hS => lv_lstore C.1 C.2.1 hd hl hm rfl (fun ls hl2 => k.2 E D tA ad p l e s m args below meth c C H locs ls (by rw [← hL]; exact z_store2 (v := .long x) hn hl2) hP hS)⟩
theorem z_L_get (ad : Nat → Nat) {L : List (Option Value)} {i : Nat} {v : Value} (hL : z_nt L i = some (some v)) : ∃ q : Nat, (z_L ad 0 L)[q]? = some (i, z_g ad v) := by
  have := z_L_in ad L 0 i v hL
  rw [Nat.zero_add] at this
  exact List.getElem?_of_mem this
theorem fx_iinc {i : Nat} {n : Int} {x v : Int32} {L' : List (Option Value)} (hd : decode M.2.1 pc = .ok (.iinc i n, 3)) (hL : z_nt L i = some (some (.int x))) (hv : x + Int32.ofInt n = v) (hL2 : z_st L i (some (.int v)) = L') (hn : z_no2 L i = true) (hm : i < M.2.2.1) (k : Fx M out (pc + 3) L' S h) : Fx M out pc L S h := ⟨k.1, fun E D tA ad p l e s m args below meth c C H locs ls hl hP hS => by
  obtain ⟨q, hq⟩ := z_L_get ad hL
  exact lv_iinc C.1 C.2.1 hd hl hq hv hm rfl (fun ls hl2 => k.2 E D tA ad p l e s m args below meth c C H locs ls (by rw [← hL2]; exact z_store (v := .int v) rfl hn hl2) hP hS)⟩
theorem fx_if_eq {x : Int32} {off : Int} {tgt : Nat} (hd : decode M.2.1 pc = .ok (.ifCond .eq off, 3)) (ht : (pc : Int) + off = (tgt : Int)) (hn : h.length = out.2.length) (kt : x = 0 → Fx M out tgt L S h) (kf : ¬ (x = 0) → Fx M out (pc + 3) L S h) : Fx M out pc L (.int x :: S) h := ⟨hn, fun E D tA ad p l e s m args below meth c C H locs ls hl hP hS => lv_if_eq C.1 C.2.1 hd ht (fun q => (kt q).2 E D tA ad p l e s m args below meth c C H locs ls hl hP hS) (fun q => (kf q).2 E D tA ad p l e s m args below meth c C H locs ls hl hP hS)⟩
theorem fx_icmp_eq {x y : Int32} {off : Int} {tgt : Nat} (hd : decode M.2.1 pc = .ok (.if_icmp .eq off, 3)) (ht : (pc : Int) + off = (tgt : Int)) (hn : h.length = out.2.length) (kt : x = y → Fx M out tgt L S h) (kf : ¬ (x = y) → Fx M out (pc + 3) L S h) : Fx M out pc L (.int y :: .int x :: S) h := ⟨hn, fun E D tA ad p l e s m args below meth c C H locs ls hl hP hS => lv_icmp_eq C.1 C.2.1 hd ht (fun q => (kt q).2 E D tA ad p l e s m args below meth c C H locs ls hl hP hS) (fun q => (kf q).2 E D tA ad p l e s m args below meth c C H locs ls hl hP hS)⟩
theorem fx_if_ne {x : Int32} {off : Int} {tgt : Nat} (hd : decode M.2.1 pc = .ok (.ifCond .ne off, 3)) (ht : (pc : Int) + off = (tgt : Int)) (hn : h.length = out.2.length) (kt : ¬ x = 0 → Fx M out tgt L S h) (kf : x = 0 → Fx M out (pc + 3) L S h) : Fx M out pc L (.int x :: S) h := ⟨hn, fun E D tA ad p l e s m args below meth c C H locs ls hl hP hS => lv_if_ne C.1 C.2.1 hd ht (fun q => (kt q).2 E D tA ad p l e s m args below meth c C H locs ls hl hP hS) (fun q => (kf q).2 E D tA ad p l e s m args below meth c C H locs ls hl hP hS)⟩
theorem fx_icmp_ne {x y : Int32} {off : Int} {tgt : Nat} (hd : decode M.2.1 pc = .ok (.if_icmp .ne off, 3)) (ht : (pc : Int) + off = (tgt : Int)) (hn : h.length = out.2.length) (kt : ¬ x = y → Fx M out tgt L S h) (kf : x = y → Fx M out (pc + 3) L S h) : Fx M out pc L (.int y :: .int x :: S) h := ⟨hn, fun E D tA ad p l e s m args below meth c C H locs ls hl hP hS => lv_icmp_ne C.1 C.2.1 hd ht (fun q => (kt q).2 E D tA ad p l e s m args below meth c C H locs ls hl hP hS) (fun q => (kf q).2 E D tA ad p l e s m args below meth c C H locs ls hl hP hS)⟩
theorem fx_if_lt {x : Int32} {off : Int} {tgt : Nat} (hd : decode M.2.1 pc = .ok (.ifCond .lt off, 3)) (ht : (pc : Int) + off = (tgt : Int)) (hn : h.length = out.2.length) (kt : x < 0 → Fx M out tgt L S h) (kf : ¬ (x < 0) → Fx M out (pc + 3) L S h) : Fx M out pc L (.int x :: S) h := ⟨hn, fun E D tA ad p l e s m args below meth c C H locs ls hl hP hS => lv_if_lt C.1 C.2.1 hd ht (fun q => (kt q).2 E D tA ad p l e s m args below meth c C H locs ls hl hP hS) (fun q => (kf q).2 E D tA ad p l e s m args below meth c C H locs ls hl hP hS)⟩
theorem fx_icmp_lt {x y : Int32} {off : Int} {tgt : Nat} (hd : decode M.2.1 pc = .ok (.if_icmp .lt off, 3)) (ht : (pc : Int) + off = (tgt : Int)) (hn : h.length = out.2.length) (kt : x < y → Fx M out tgt L S h) (kf : ¬ (x < y) → Fx M out (pc + 3) L S h) : Fx M out pc L (.int y :: .int x :: S) h := ⟨hn, fun E D tA ad p l e s m args below meth c C H locs ls hl hP hS => lv_icmp_lt C.1 C.2.1 hd ht (fun q => (kt q).2 E D tA ad p l e s m args below meth c C H locs ls hl hP hS) (fun q => (kf q).2 E D tA ad p l e s m args below meth c C H locs ls hl hP hS)⟩
theorem fx_if_ge {x : Int32} {off : Int} {tgt : Nat} (hd : decode M.2.1 pc = .ok (.ifCond .ge off, 3)) (ht : (pc : Int) + off = (tgt : Int)) (hn : h.length = out.2.length) (kt : 0 ≤ x → Fx M out tgt L S h) (kf : ¬ (0 ≤ x) → Fx M out (pc + 3) L S h) : Fx M out pc L (.int x :: S) h := ⟨hn, fun E D tA ad p l e s m args below meth c C H locs ls hl hP hS => lv_if_ge C.1 C.2.1 hd ht (fun q => (kt q).2 E D tA ad p l e s m args below meth c C H locs ls hl hP hS) (fun q => (kf q).2 E D tA ad p l e s m args below meth c C H locs ls hl hP hS)⟩
theorem fx_icmp_ge {x y : Int32} {off : Int} {tgt : Nat} (hd : decode M.2.1 pc = .ok (.if_icmp .ge off, 3)) (ht : (pc : Int) + off = (tgt : Int)) (hn : h.length = out.2.length) (kt : y ≤ x → Fx M out tgt L S h) (kf : ¬ (y ≤ x) → Fx M out (pc + 3) L S h) : Fx M out pc L (.int y :: .int x :: S) h := ⟨hn, fun E D tA ad p l e s m args below meth c C H locs ls hl hP hS => lv_icmp_ge C.1 C.2.1 hd ht (fun q => (kt q).2 E D tA ad p l e s m args below meth c C H locs ls hl hP hS) (fun q => (kf q).2 E D tA ad p l e s m args below meth c C H locs ls hl hP hS)⟩
theorem fx_if_gt {x : Int32} {off : Int} {tgt : Nat} (hd : decode M.2.1 pc = .ok (.ifCond .gt off, 3)) (ht : (pc : Int) + off = (tgt : Int)) (hn : h.length = out.2.length) (kt : 0 < x → Fx M out tgt L S h) (kf : ¬ (0 < x) → Fx M out (pc + 3) L S h) : Fx M out pc L (.int x :: S) h := ⟨hn, fun E D tA ad p l e s m args below meth c C H locs ls hl hP hS => lv_if_gt C.1 C.2.1 hd ht (fun q => (kt q).2 E D tA ad p l e s m args below meth c C H locs ls hl hP hS) (fun q => (kf q).2 E D tA ad p l e s m args below meth c C H locs ls hl hP hS)⟩
theorem fx_icmp_gt {x y : Int32} {off : Int} {tgt : Nat} (hd : decode M.2.1 pc = .ok (.if_icmp .gt off, 3)) (ht : (pc : Int) + off = (tgt : Int)) (hn : h.length = out.2.length) (kt : y < x → Fx M out tgt L S h) (kf : ¬ (y < x) → Fx M out (pc + 3) L S h) : Fx M out pc L (.int y :: .int x :: S) h := ⟨hn, fun E D tA ad p l e s m args below meth c C H locs ls hl hP hS => lv_icmp_gt C.1 C.2.1 hd ht (fun q => (kt q).2 E D tA ad p l e s m args below meth c C H locs ls hl hP hS) (fun q => (kf q).2 E D tA ad p l e s m args below meth c C H locs ls hl hP hS)⟩
theorem fx_if_le {x : Int32} {off : Int} {tgt : Nat} (hd : decode M.2.1 pc = .ok (.ifCond .le off, 3)) (ht : (pc : Int) + off = (tgt : Int)) (hn : h.length = out.2.length) (kt : x ≤ 0 → Fx M out tgt L S h) (kf : ¬ (x ≤ 0) → Fx M out (pc + 3) L S h) : Fx M out pc L (.int x :: S) h := ⟨hn, fun E D tA ad p l e s m args below meth c C H locs ls hl hP hS => lv_if_le C.1 C.2.1 hd ht (fun q => (kt q).2 E D tA ad p l e s m args below meth c C H locs ls hl hP hS) (fun q => (kf q).2 E D tA ad p l e s m args below meth c C H locs ls hl hP hS)⟩
theorem fx_icmp_le {x y : Int32} {off : Int} {tgt : Nat} (hd : decode M.2.1 pc = .ok (.if_icmp .le off, 3)) (ht : (pc : Int) + off = (tgt : Int)) (hn : h.length = out.2.length) (kt : x ≤ y → Fx M out tgt L S h) (kf : ¬ (x ≤ y) → Fx M out (pc + 3) L S h) : Fx M out pc L (.int y :: .int x :: S) h := ⟨hn, fun E D tA ad p l e s m args below meth c C H locs ls hl hP hS => lv_icmp_le C.1 C.2.1 hd ht (fun q => (kt q).2 E D tA ad p l e s m args below meth c C H locs ls hl hP hS) (fun q => (kf q).2 E D tA ad p l e s m args below meth c C H locs ls hl hP hS)⟩
theorem fx_goto {off : Int} {tgt : Nat} (hd : decode M.2.1 pc = .ok (.goto off, 3)) (ht : (pc : Int) + off = (tgt : Int)) (k : Fx M out tgt L S h) : Fx M out pc L S h := ⟨k.1, fun E D tA ad p l e s m args below meth c C H locs ls hl hP hS => lv_goto C.1 C.2.1 hd ht (k.2 E D tA ad p l e s m args below meth c C H locs ls hl hP hS)⟩
theorem fx_tableIn {dflt lo hi : Int} {offs : Array Int} {len : Nat} {x : Int32} {off : Int} {tgt : Nat} (hd : decode M.2.1 pc = .ok (.tableswitch dflt lo hi offs, len)) (h1 : ¬ x.toInt < lo) (h2 : ¬ hi < x.toInt) (ho : offs[(x.toInt - lo).toNat]? = some off) (ht : (pc : Int) + off = (tgt : Int)) (k : Fx M out tgt L S h) : Fx M out pc L (.int x :: S) h := ⟨k.1, fun E D tA ad p l e s m args below meth c C H locs ls hl hP hS => lv_tableIn C.1 C.2.1 hd h1 h2 ho ht (k.2 E D tA ad p l e s m args below meth c C H locs ls hl hP hS)⟩
theorem fx_tableOut {dflt lo hi : Int} {offs : Array Int} {len : Nat} {x : Int32} {tgt : Nat} (hd : decode M.2.1 pc = .ok (.tableswitch dflt lo hi offs, len)) (hq : x.toInt < lo ∨ hi < x.toInt) (ht : (pc : Int) + dflt = (tgt : Int)) (k : Fx M out tgt L S h) : Fx M out pc L (.int x :: S) h := ⟨k.1, fun E D tA ad p l e s m args below meth c C H locs ls hl hP hS => lv_tableOut C.1 C.2.1 hd hq ht (k.2 E D tA ad p l e s m args below meth c C H locs ls hl hP hS)⟩
theorem fx_lookup {dflt : Int} {ps : Array (Int × Int)} {len : Nat} {x : Int32} {off : Int} {tgt : Nat} (hd : decode M.2.1 pc = .ok (.lookupswitch dflt ps, len)) (hp : (ps.toList.zip (ps.toList.drop 1)).all (fun (a, next) => a.1 < next.1) = true) (ho : Op.lookupswitch.offset ps.toList dflt x.toInt = off) (ht : (pc : Int) + off = (tgt : Int)) (k : Fx M out tgt L S h) : Fx M out pc L (.int x :: S) h := ⟨k.1, fun E D tA ad p l e s m args below meth c C H locs ls hl hP hS => lv_lookup C.1 C.2.1 hd hp ho ht (k.2 E D tA ad p l e s m args below meth c C H locs ls hl hP hS)⟩
end FX
/-! ===== links, and rows over the heap ===== -/
theorem z_in {w : Cond} (h : w ∈ lw_tbl) (g : goodWord w = true) : w ∈ z_T := List.mem_filter.mpr ⟨h, g⟩
theorem z_inN {w : Cond} (h : w ∈ lw_tbl) (g : z_isN w = true) : w ∈ z_N := List.mem_filter.mpr ⟨h, g⟩
theorem z_Tw {M : zM} {w : Cond} (h : w ∈ z_T) : w ∈ z_wd M := List.mem_cons_of_mem _ h
/-- a class of ours: its fields in order, their types -/
def z_Kl (ci : Nat) (C : String) (T : u_T) (N : Nat) (ty : Nat → FieldType) : Prop :=
  vwCl[ci]? = some (C, T, N) ∧ (∀ w ∈ u_ws C T N, w ∈ z_T) ∧ (∀ k, k < N → parseFieldDescriptor (T k).2.2.1 = some (ty k)) ∧ (∀ a, a < N → ∀ b, b < N → a ≠ b → (T a).2.1 ≠ (T b).2.1)
/-- entry idx of a class's pool is field j of class ci, of this type -/
def z_Lk (own : String) (idx ci j : Nat) (ft : FieldType) (fin : Bool) : Prop := ∃ C T N ty, z_Kl ci C T N ty ∧ j < N ∧ ty j = ft ∧ (T j).2.2.2 = fin ∧
  (Cond.fieldLink own idx (T j).1 (T j).2.1 (T j).2.2.1 ∈ z_T ∨ ∃ host, Cond.fieldLinkNest own idx (T j).1 (T j).2.1 (T j).2.2.1 host ∈ z_N)
theorem z_ws0 {tA : Nat → ClassId} {ad : Nat → Nat} {h : zH} {q : Nat} {c : zC} (h0 : z_at h q = some c) : (z_ws tA ad 0 h)[q]? = some (ad q, z_c tA ad c) := by
  have := z_ws_at tA ad h 0 q c h0
  rwa [Nat.zero_add] at this
theorem z_ws0s {tA : Nat → ClassId} {ad : Nat → Nat} {h h' : zH} {q : Nat} {c : zC} (hs : z_set h q c = h') : (z_ws tA ad 0 h).set q (ad q, z_c tA ad c) = z_ws tA ad 0 h' := by
  have := z_ws_set tA ad h 0 q c
  rw [Nat.zero_add] at this
  rw [this, hs]
section FH
variable {M : zM} {out : Option Value × zH} {pc : Nat} {L : List (Option Value)} {S : List Value} {h : zH}
theorem fx_get {idx ci j q : Nat} {fs : List Value} {v : Value} {ft : FieldType} {fin : Bool} (hd : decode M.2.1 pc = .ok (.getfield idx, 3)) (hk : z_Lk M.1.cls idx ci j ft fin) (h0 : z_at h q = some (.inr (ci, fs))) (hv : fs[j]? = some v)
    (k : Fx M out (pc + 3) L (v :: S) h) : Fx M out pc L (.ref q :: S) h := by
  refine ⟨k.1, fun E D tA ad p l e s m args below meth c C H locs ls hl hP hS => ?_⟩
  obtain ⟨c1, c2, c3, c4, c5, c6, c7, c8, c9, c10, c11, c12⟩ := id C
  obtain ⟨CC, T, N, ty, ⟨e1, e2, e3, e4⟩, hj, -, -, hlk⟩ := hk
  have he := z_ws0 (tA := tA) (ad := ad) h0
  have hv' : (fs.map (z_g ad))[j]? = some (z_g ad v) := by rw [List.getElem?_map, hv]; rfl
  rcases hlk with hlk | ⟨host, hlk⟩
  · exact va_get (T := T) (ref := (T j).1) c1 c2 c6 (fun w hw => z_Tw (e2 w hw)) c5 c8 hP q he e1 j hj (c6 _ (z_Tw hlk)) (fun _ h9 => h9) hv' hd (k.2 E D tA ad p l e s m args below meth c C H locs ls hl hP hS)
  · exact va_getN (T := T) (ref := (T j).1) (host := host) c1 c2 c6 (fun w hw => z_Tw (e2 w hw)) c5 c8 hP q he e1 j hj (va_Nw.use rfl (c9 _ hlk)) (fun _ h9 => h9) hv' hd (k.2 E D tA ad p l e s m args below meth c C H locs ls hl hP hS)
theorem fx_put {idx ci j q : Nat} {fs : List Value} {v : Value} {ft : FieldType} {h' : zH} (hd : decode M.2.1 pc = .ok (.putfield idx, 3)) (hk : z_Lk M.1.cls idx ci j ft false) (h0 : z_at h q = some (.inr (ci, fs))) (hjl : j < fs.length) (hg : ∀ ad, z_g ad v = v) (hnw : narrow ft v = v) (hft : fits ft v = true)
    (hs : z_set h q (.inr (ci, fs.set j v)) = h') (k : Fx M out (pc + 3) L S h') : Fx M out pc L (v :: .ref q :: S) h := by
  have hlen : h'.length = h.length := by rw [← hs, z_set_len]
  refine ⟨by rw [← hlen]; exact k.1, fun E D tA ad p l e s m args below meth c C H locs ls hl hP hS => ?_⟩
  obtain ⟨c1, c2, c3, c4, c5, c6, c7, c8, c9, c10, c11, c12⟩ := id C
  obtain ⟨CC, T, N, ty, ⟨e1, e2, e3, e4⟩, hj, hty, hfin, hlk⟩ := hk
  have he := z_ws0 (tA := tA) (ad := ad) h0
  have hD := z_D c11 tA s.heap.size h rfl
  have hmap : (fs.map (z_g ad)).set j v = (fs.set j v).map (z_g ad) := by rw [List.map_set, hg ad]
  have hws : (z_ws tA ad 0 h).set q (ad q, .inr (ci, (fs.map (z_g ad)).set j v)) = z_ws tA ad 0 h' := by rw [hmap]; exact z_ws0s hs
  have kk : ∀ (H1 : Heap) (locs1 : List Loc), va_P D vwCl ((z_ws tA ad 0 h).set q (ad q, .inr (ci, (fs.map (z_g ad)).set j v))) H1 → va_D (z_A ad h.length s.heap.size) ((z_ws tA ad 0 h).set q (ad q, .inr (ci, (fs.map (z_g ad)).set j v))) → va_S (z_A ad h.length s.heap.size) s.heap H1 locs1 → W p l e (z_rm M.2.2.2.2) s m args below meth c H1 locs1 0 0 (MQ below (z_Q D tA ad out.1 out.2 (z_A ad h.length s.heap.size)) args s 0 0 (z_A ad h.length s.heap.size)) (F0 m (pc + 3) ls (S.map (z_g ad))) := by
    intro H1 locs1 hP1 hD1 hS1
    rw [hws] at hP1
    have := k.2 E D tA ad p l e s m args below meth c (by rw [hlen]; exact C) H1 locs1 ls hl hP1 (by rw [hlen]; exact hS1)
    rw [hlen] at this
    exact this
  show W p l e (z_rm M.2.2.2.2) s m args below meth c H locs 0 0 _ (F0 m pc ls (z_g ad v :: .ref (ad q) :: S.map (z_g ad)))
  rw [hg ad]
  rcases hlk with hlk | ⟨host, hlk⟩
  · exact va_put (T := T) (ref := (T j).1) (ty := ft) c1 c2 c6 (fun w hw => z_Tw (e2 w hw)) ty e3 e4 c5 c8 hP hD hS q he e1 j hj (c6 _ (z_Tw hlk)) (fun _ h9 => h9) hfin (by rw [e3 j hj, hty]) hnw hft (by rw [List.length_map]; exact hjl) hd kk
  · exact va_putN (T := T) (ref := (T j).1) (host := host) (ty := ft) c1 c2 c6 (fun w hw => z_Tw (e2 w hw)) ty e3 e4 c5 c8 hP hD hS q he e1 j hj (va_Nw.use rfl (c9 _ hlk)) (fun _ h9 => h9) hfin (by rw [e3 j hj, hty]) hnw hft (by rw [List.length_map]; exact hjl) hd kk
theorem fx_iald {q n : Nat} {f : Nat → Int32} {i : Int32} (hd : decode M.2.1 pc = .ok (.iaload, 1)) (h0 : z_at h q = some (.inl (0, n, .inl f))) (hi : vp_in i n) (k : Fx M out (pc + 1) L (.int (f i.toNatClampNeg) :: S) h) : Fx M out pc L (.int i :: .ref q :: S) h := by
  refine ⟨k.1, fun E D tA ad p l e s m args below meth c C H locs ls hl hP hS => ?_⟩
  obtain ⟨c1, c2, c3, c4, c5, c6, c7, c8, c9, c10, c11, c12⟩ := id C
  exact va_iald c1 c2 c8 hP q 0 (z_ws0 h0) rfl hi hd (k.2 E D tA ad p l e s m args below meth c C H locs ls hl hP hS)
theorem fx_iast {q n : Nat} {f : Nat → Int32} {i x : Int32} {h' : zH} (hd : decode M.2.1 pc = .ok (.iastore, 1)) (h0 : z_at h q = some (.inl (0, n, .inl f))) (hi : vp_in i n) (hs : z_set h q (.inl (0, n, .inl (upd f i.toNatClampNeg x))) = h') (k : Fx M out (pc + 1) L S h') : Fx M out pc L (.int x :: .int i :: .ref q :: S) h := by
  have hlen : h'.length = h.length := by rw [← hs, z_set_len]
  refine ⟨by rw [← hlen]; exact k.1, fun E D tA ad p l e s m args below meth c C H locs ls hl hP hS => ?_⟩
  obtain ⟨c1, c2, c3, c4, c5, c6, c7, c8, c9, c10, c11, c12⟩ := id C
  have hD := z_D c11 tA s.heap.size h rfl
  have hws : (z_ws tA ad 0 h).set q (ad q, .inl (tA 0, n, .inl (upd f i.toNatClampNeg x))) = z_ws tA ad 0 h' := z_ws0s hs
  refine va_iast c1 c2 c8 hP hD hS q 0 (z_ws0 h0) rfl hi hd (fun H1 locs1 hP1 hD1 hS1 => ?_)
  rw [hws] at hP1
  have := k.2 E D tA ad p l e s m args below meth c (by rw [hlen]; exact C) H1 locs1 ls hl hP1 (by rw [hlen]; exact hS1)
  rw [hlen] at this
  exact this
theorem fx_alen {q t : Nat} {x : vp_A} {v : Int32} (hd : decode M.2.1 pc = .ok (.arraylength, 1)) (h0 : z_at h q = some (.inl (t, x))) (ht : t < 3) (hv : Int32.ofNat x.1 = v) (k : Fx M out (pc + 1) L (.int v :: S) h) : Fx M out pc L (.ref q :: S) h := by
  refine ⟨k.1, fun E D tA ad p l e s m args below meth c C H locs ls hl hP hS => ?_⟩
  obtain ⟨c1, c2, c3, c4, c5, c6, c7, c8, c9, c10, c11, c12⟩ := id C
  have hn : (z_ga ad x).1 = x.1 := by
    obtain ⟨n, a | a | a | a | a⟩ := x <;> rfl
  obtain ⟨ty, hty⟩ : ∃ ty, (z_tys tA)[t]? = some (tA t, ty) := by
    match t, ht with
    | 0, _ => exact ⟨_, rfl⟩
    | 1, _ => exact ⟨_, rfl⟩
    | 2, _ => exact ⟨_, rfl⟩
  exact va_alen c1 c2 c8 hP q t (z_ws0 h0) hty (by rw [hn]; exact hv) hd (k.2 E D tA ad p l e s m args below meth c C H locs ls hl hP hS)
theorem fx_aald {q t n b : Nat} {f : Nat → Option Nat} {i : Int32} (hd : decode M.2.1 pc = .ok (.aaload, 1)) (h0 : z_at h q = some (.inl (t, n, .inr (.inr (.inr (.inr f)))))) (ht : t = 1 ∨ t = 2) (hi : vp_in i n) (hb : f i.toNatClampNeg = some b) (k : Fx M out (pc + 1) L (.ref b :: S) h) : Fx M out pc L (.int i :: .ref q :: S) h := by
  refine ⟨k.1, fun E D tA ad p l e s m args below meth c C H locs ls hl hP hS => ?_⟩
  obtain ⟨c1, c2, c3, c4, c5, c6, c7, c8, c9, c10, c11, c12⟩ := id C
  obtain ⟨CC, hty⟩ : ∃ CC, (z_tys tA)[t]? = some (tA t, .object CC) := by
    rcases ht with rfl | rfl
    · exact ⟨_, rfl⟩
    · exact ⟨_, rfl⟩
  have := va_aldq (i := i) (p := p) (l := l) (e := e) (R := z_rm M.2.2.2.2) (s := s) (m := m) (args := args) (below := below) (meth := meth) (c := c) (H := H) (locs := locs) (cells := 0) (slots := 0) (pc := pc) (ls := ls) (rest := S.map (z_g ad)) (Q := MQ below (z_Q D tA ad out.1 out.2 (z_A ad h.length s.heap.size)) args s 0 0 (z_A ad h.length s.heap.size)) c1 c2 c8 hP q t (z_ws0 h0) hty hi hd
  refine this ?_
  show W p l e _ s m args below meth c H locs 0 0 _ (F0 m (pc + 1) ls (va_rf ((f i.toNatClampNeg).map ad) :: S.map (z_g ad)))
  rw [hb]
  exact k.2 E D tA ad p l e s m args below meth c C H locs ls hl hP hS
theorem fx_ldc {idx : Nat} {v : Int32} (hd : decode M.2.1 pc = .ok (.ldc idx, 2)) (hk : Cond.constant M.1.cls idx v ∈ z_T) (k : Fx M out (pc + 2) L (.int v :: S) h) : Fx M out pc L S h :=
  ⟨k.1, fun E D tA ad p l e s m args below meth c C H locs ls hl hP hS => lv_ldc C.1 C.2.1 C.2.2.2.2.1 (C.2.2.2.2.2.1 _ (z_Tw hk)) hd (k.2 E D tA ad p l e s m args below meth c C H locs ls hl hP hS)⟩
theorem fx_ldcw {idx : Nat} {v : Int32} (hd : decode M.2.1 pc = .ok (.ldc_w idx, 3)) (hk : Cond.constant M.1.cls idx v ∈ z_T) (k : Fx M out (pc + 3) L (.int v :: S) h) : Fx M out pc L S h :=
  ⟨k.1, fun E D tA ad p l e s m args below meth c C H locs ls hl hP hS => lv_ldcw C.1 C.2.1 C.2.2.2.2.1 (C.2.2.2.2.2.1 _ (z_Tw hk)) hd (k.2 E D tA ad p l e s m args below meth c C H locs ls hl hP hS)⟩
theorem fx_ldc2 {idx : Nat} {v : Int64} (hd : decode M.2.1 pc = .ok (.ldc2_w idx, 3)) (hk : Cond.constantLong M.1.cls idx v ∈ z_T) (k : Fx M out (pc + 3) L (.long v :: S) h) : Fx M out pc L S h :=
  ⟨k.1, fun E D tA ad p l e s m args below meth c C H locs ls hl hP hS => lv_ldc2 C.1 C.2.1 C.2.2.2.2.1 (C.2.2.2.2.2.1 _ (z_Tw hk)) hd (k.2 E D tA ad p l e s m args below meth c C H locs ls hl hP hS)⟩
theorem fx_copy {idx q0 q1 n0 n1 : Nat} {f g : Nat → Int32} {sp dp n : Int32} {h' : zH} (hd : decode M.2.1 pc = .ok (.invokestatic idx, 3)) (hk : Cond.methodLink M.1.cls idx arraycopyName ∈ z_T) (hk2 : Cond.native arraycopyName ∈ z_T ∧ Cond.static arraycopyName ∈ z_T ∧ Cond.initialized "java/lang/System" ∈ z_T) (hdep : 1 ≤ M.2.2.2.2)
    (h0 : z_at h q0 = some (.inl (0, n0, .inl f))) (h1 : z_at h q1 = some (.inl (0, n1, .inl g))) (g1 : ¬ sp < 0) (g2 : ¬ dp < 0) (g3 : ¬ n < 0) (g4 : sp.toNatClampNeg + n.toNatClampNeg ≤ n0) (g5 : dp.toNatClampNeg + n.toNatClampNeg ≤ n1) (hr : (S.map fun v => v.category).sum ≤ 8)
    (hs : z_set h q1 (.inl (0, n1, .inl (va_cpy f g sp.toNatClampNeg dp.toNatClampNeg n.toNatClampNeg))) = h') (k : Fx M out (pc + 3) L S h') : Fx M out pc L (.int n :: .int dp :: .ref q1 :: .int sp :: .ref q0 :: S) h := by
  have hlen : h'.length = h.length := by rw [← hs, z_set_len]
  refine ⟨by rw [← hlen]; exact k.1, fun E D tA ad p l e s m args below meth c C H locs ls hl hP hS => ?_⟩
  obtain ⟨c1, c2, c3, c4, c5, c6, c7, c8, c9, c10, c11, c12⟩ := id C
  have hD := z_D c11 tA s.heap.size h rfl
  have hws : (z_ws tA ad 0 h).set q1 (ad q1, .inl (tA 0, n1, .inl (va_cpy f g sp.toNatClampNeg dp.toNatClampNeg n.toNatClampNeg))) = z_ws tA ad 0 h' := z_ws0s hs
  have hroom : (((S.map (z_g ad)).map fun v => v.category).sum + (nativeFrameWords "java/lang/System" "arraycopy" 5 + 11)) ≤ (z_rm M.2.2.2.2).locals := by
    rw [z_cats]
    have e : nativeFrameWords "java/lang/System" "arraycopy" 5 ≤ 12 := by decide +kernel
    show _ ≤ 31 * M.2.2.2.2
    omega
  refine va_copyi c1 c2 (by rw [c4]; exact hl.1.symm) c5 (c6 _ (z_Tw hk)) (c6 _ (z_Tw hk2.1)) (c6 _ (z_Tw hk2.2.1)) (c6 _ (z_Tw hk2.2.2)) c8 hP hD hS q0 q1 0 0 (z_ws0 h0) (z_ws0 h1) (ty := .int) rfl rfl rfl g1 g2 g3 g4 g5 (fun _ _ => rfl) hdep hroom hd (fun H1 locs1 hP1 hD1 hS1 => ?_)
  rw [hws] at hP1
  have := k.2 E D tA ad p l e s m args below meth c (by rw [hlen]; exact C) H1 locs1 ls hl hP1 (by rw [hlen]; exact hS1)
  rw [hlen] at this
  exact this
/-! ===== calls ===== -/
/-- what a call of a method needs of the tables -/
def z_ok (Y : zM) : Prop := Cond.code Y.1 Y.2.1 Y.2.2.1 Y.2.2.2.1 ∈ z_T ∧ Cond.initialized Y.1.cls ∈ z_T ∧ (Y.1.cls ≠ "java/lang/invoke/MethodHandle" ∧ Y.1.cls ≠ "java/lang/invoke/VarHandle") ∧ Y.2.2.1 ≤ 12 ∧ plainName Y.1.cls = true
def z_np (Y : zM) (n : Nat) : Prop := ∀ sig, parseMethodDescriptor Y.1.desc = some sig → n = sig.parameters.length
def z_Lm (own : String) (idx : Nat) (Y : zM) : Prop := Cond.methodLink own idx Y.1 ∈ z_T ∨ ∃ host, Cond.methodLinkNest own idx Y.1 host ∈ z_N
def z_okV (Y : zM) (ci n : Nat) : Prop := z_ok Y ∧ z_np Y n ∧ Cond.instanceMethod Y.1 ∈ z_T ∧ Cond.selects Y.1.cls Y.1 Y.1 ∈ z_T ∧ ∃ T N, vwCl[ci]? = some (Y.1.cls, T, N)
def z_okS (Y : zM) (n : Nat) : Prop := z_ok Y ∧ z_np Y n ∧ Cond.static Y.1 ∈ z_T
theorem z_pay {M : zM} {args : Array Value} {s : State} (c6 : ∀ w ∈ z_wd M, w.before args s = true) {Y : zM} (hY : Cond.code Y.1 Y.2.1 Y.2.2.1 Y.2.2.2.1 ∈ z_T) : ∀ w ∈ z_wd Y, ∀ (a' : Array Value) (U : State), s.WarmedH U.vm → w.before a' U = true := by
  intro w hw a' U hW
  have hw2 : w ∈ z_T := by
    rcases List.mem_cons.mp hw with e | e
    · rw [e]; exact hY
    · exact e
  exact word_at hW (good_of_word (List.mem_filter.mp hw2).2) (c6 w (z_Tw hw2))
theorem z_Pcx {M : zM} {E : zE} {D : va_G} {tA : Nat → ClassId} {ad : Nat → Nat} {p : Program} {s : State} {m : MethodId} {args : Array Value} {meth : Method} {c : Code} (C : z_Cx M h.length E D tA ad p s m args meth c) {H : Heap} {locs : List Loc} (hP : va_P D vwCl (z_ws tA ad 0 h) H) (hS : va_S (z_A ad h.length s.heap.size) s.heap H locs) (as : List Value) :
    FrameBlind (va_Pc as (z_Wd E D tA ad h H.size)) ∧ ∀ U : State, U.heap = H → s.WarmedH U.vm → va_Pc as (z_Wd E D tA ad h H.size) as.toArray U := by
  obtain ⟨c1, c2, c3, c4, c5, c6, c7, c8, c9, c10, c11, c12⟩ := C
  refine ⟨fun a U g mk q => ?_, fun U hU hW => ⟨rfl, by rw [hU], by rw [hU]; exact hP, va_K.moved hW.alike c8, c9.pass hW, ?_⟩⟩
  · obtain ⟨q0, q1, q2, q3, q4, q5⟩ := q
    exact ⟨q0, q1, q2, va_K.moved (u := U) (U := U.calling g mk a) (Vm.Alike.refl U.vm) q3, q4.calling, q5.calling⟩
  · refine z_EX.pass c10 hU hW (fun a h1 h2 => hS.2.1 a h1 h2) (fun q hq => ?_)
    rcases hq with hq | hq
    · exact Or.inl hq
    · exact Or.inr (Nat.le_trans hS.1 hq)
/-- behind a call -/
theorem z_run {p : Program} {l : Launch} {e : Env} {R : Room} {s : State} {m : MethodId} {args : Array Value} {below : List Frame} {meth : Method} {c : Code} {H : Heap} {locs : List Loc} {Q : State → Prop} {ls : Array Slot} {st0 rest : List Value} {D : va_G} {tA : Nat → ClassId} {ad : Nat → Nat} {n : Nat} {rv : Option Value} {h1 : zH} {a : Array Value}
    (hr : va_Run p l e R s m args below meth c H locs 0 0 0 0 (F0 m pc ls st0) rest (z_Q D tA ad rv h1 (z_A ad n H.size) a) (z_A ad n H.size)) (hS : va_S (z_A ad n s.heap.size) s.heap H locs)
    (kk : ∀ (H1 : Heap) (locs1 : List Loc), va_P D vwCl (z_ws tA ad 0 h1) H1 → va_S (z_A ad n s.heap.size) s.heap H1 locs1 → W p l e R s m args below meth c H1 locs1 0 0 Q (F0 m (pc + 3) ls ((rv.map (z_g ad)).toList ++ rest))) : W p l e R s m args below meth c H locs 0 0 Q (F0 m pc ls st0) := by
  have hA : ∀ q, z_A ad n H.size q → z_A ad n s.heap.size q := fun q hq => by
    rcases hq with hq | hq
    · exact Or.inl hq
    · exact Or.inr (Nat.le_trans hS.1 hq)
  intro T hT X
  obtain ⟨v, st₀, t, T', LL, h0, X', hL, e1, e2, ⟨⟨hv, hb⟩, hz, hk⟩, st⟩ := hr T hT X
  cases hv
  rw [h0] at hz hk
  obtain ⟨t2, a1, b1⟩ := kk T'.heap (locs ++ LL) (by rw [e1]; exact hb)
    ⟨Nat.le_trans hS.1 (by rw [e1]; exact hz), fun q h1 h2 => by rw [e1, hk q (Nat.lt_of_lt_of_le h1 hS.1) (fun z => h2 (hA q z))]; exact hS.2.1 q h1 h2, fun q hq => by
      rcases List.mem_append.mp hq with h | h
      · exact hS.2.2 q h
      · exact hA _ (hL q h)⟩ T' rfl X'
  exact ⟨t2, st t2 a1, b1⟩
theorem fx_callS {Y : zM} {idx : Nat} {as : List Value} {rv : Option Value} {h1 : zH} {S0 S1 : List Value} (hd : decode M.2.1 pc = .ok (.invokestatic idx, 3)) (hY : z_okS Y as.length) (hk : z_Lm M.1.cls idx Y) (hdep : Y.2.2.2.2 + 1 ≤ M.2.2.2.2) (hr : (S.map fun v => v.category).sum ≤ 8) (hM : Mx Y as h rv h1)
    (e0 : S0 = as.reverse ++ S) (e1 : S1 = rv.toList ++ S) (k : Fx M out (pc + 3) L S1 h1) : Fx M out pc L S0 h := by
  subst e0; subst e1
  obtain ⟨hlen, hM⟩ := hM
  refine ⟨by rw [← hlen]; exact k.1, fun E D tA ad p l e s m args below meth c C H locs ls hl hP hS => ?_⟩
  obtain ⟨c1, c2, c3, c4, c5, c6, c7, c8, c9, c10, c11, c12⟩ := id C
  obtain ⟨⟨y1, y2, y3, y4, y5⟩, y6, y7⟩ := hY
  have hrm : (z_rm Y.2.2.2.2).frames + 1 ≤ (z_rm M.2.2.2.2).frames := hdep
  have hlo : 8 + (Y.2.2.1 + 11) + (z_rm Y.2.2.2.2).locals ≤ (z_rm M.2.2.2.2).locals := by
    show 8 + (Y.2.2.1 + 11) + 31 * Y.2.2.2.2 ≤ 31 * M.2.2.2.2
    omega
  have hst : (as.reverse ++ S).map (z_g ad) = (as.map (z_g ad)).reverse ++ S.map (z_g ad) := by rw [List.map_append, List.map_reverse]
  have hcats : 2 * (F0 m pc ls ((as.reverse ++ S).map (z_g ad))).monitorRoom + ((S.map (z_g ad)).map fun v => v.category).sum ≤ 8 := lv_room (by rw [z_cats]; exact hr)
  have hlenA : (as.map (z_g ad)).length = as.length := List.length_map _
  have kk : ∀ (H1 : Heap) (locs1 : List Loc), va_P D vwCl (z_ws tA ad 0 h1) H1 → va_S (z_A ad h.length s.heap.size) s.heap H1 locs1 → W p l e (z_rm M.2.2.2.2) s m args below meth c H1 locs1 0 0 (MQ below (z_Q D tA ad out.1 out.2 (z_A ad h.length s.heap.size)) args s 0 0 (z_A ad h.length s.heap.size)) (F0 m (pc + 3) ls ((rv.map (z_g ad)).toList ++ S.map (z_g ad))) := by
    intro H1 locs1 hP1 hS1
    have := k.2 E D tA ad p l e s m args below meth c (by rw [hlen]; exact C) H1 locs1 ls hl hP1 (by rw [hlen]; exact hS1)
    rw [hlen] at this
    have e2 : (rv.toList ++ S).map (z_g ad) = (rv.map (z_g ad)).toList ++ S.map (z_g ad) := by cases rv <;> rfl
    rw [e2] at this
    exact this
  rcases hk with hk | ⟨host, hk⟩
  · refine z_run (va_runS (n := as.length) (As := as.map (z_g ad)) (rest := S.map (z_g ad)) ⟨c1, c2, c4, c5, c6⟩ (hM l E D tA ad H.size c11 c12) ⟨⟨rfl, rfl, hrm, hlo, z_pay c6 y1, List.mem_cons_self, c6 _ (z_Tw y1), c6 _ (z_Tw y2), y3, y6, c6 _ (z_Tw hk)⟩, c6 _ (z_Tw y7)⟩ (z_Pcx C hP hS _) rfl hlenA hl.1 hst hcats hd ⟨Nat.zero_le _, Nat.zero_le _⟩) hS kk
  · refine z_run (va_runSN (n := as.length) (host := host) (As := as.map (z_g ad)) (rest := S.map (z_g ad)) ⟨c1, c2, c4, c5, c6⟩ (hM l E D tA ad H.size c11 c12) ⟨⟨⟨rfl, rfl, hrm, hlo, z_pay c6 y1, List.mem_cons_self⟩, c6 _ (z_Tw y1), c6 _ (z_Tw y2), y3, y6, va_Nw.use rfl (c9 _ hk)⟩, c6 _ (z_Tw y7), trivial⟩ (z_Pcx C hP hS _) rfl hlenA hl.1 hst hcats hd ⟨Nat.zero_le _, Nat.zero_le _⟩) hS kk
theorem fx_callV {Y : zM} {idx q ci : Nat} {as fs : List Value} {rv : Option Value} {h1 : zH} {S0 S1 : List Value} (hd : decode M.2.1 pc = .ok (.invokevirtual idx, 3)) (hY : z_okV Y ci as.length) (hk : z_Lm M.1.cls idx Y) (hdep : Y.2.2.2.2 + 1 ≤ M.2.2.2.2) (h0 : z_at h q = some (.inr (ci, fs))) (hr : (S.map fun v => v.category).sum ≤ 8) (hM : Mx Y (.ref q :: as) h rv h1)
    (e0 : S0 = as.reverse ++ .ref q :: S) (e1 : S1 = rv.toList ++ S) (k : Fx M out (pc + 3) L S1 h1) : Fx M out pc L S0 h := by
  subst e0; subst e1
  obtain ⟨hlen, hM⟩ := hM
  refine ⟨by rw [← hlen]; exact k.1, fun E D tA ad p l e s m args below meth c C H locs ls hl hP hS => ?_⟩
  obtain ⟨c1, c2, c3, c4, c5, c6, c7, c8, c9, c10, c11, c12⟩ := id C
  obtain ⟨⟨y1, y2, y3, y4, y5⟩, y6, y7, y8, TT, NN, y9⟩ := hY
  have hrm : (z_rm Y.2.2.2.2).frames + 1 ≤ (z_rm M.2.2.2.2).frames := hdep
  have hlo : 8 + (Y.2.2.1 + 11) + (z_rm Y.2.2.2.2).locals ≤ (z_rm M.2.2.2.2).locals := by
    show 8 + (Y.2.2.1 + 11) + 31 * Y.2.2.2.2 ≤ 31 * M.2.2.2.2
    omega
  have hst : (as.reverse ++ .ref q :: S).map (z_g ad) = (as.map (z_g ad)).reverse ++ .ref (ad q) :: S.map (z_g ad) := by rw [List.map_append, List.map_reverse]; rfl
  have hcats : 2 * (F0 m pc ls ((as.reverse ++ .ref q :: S).map (z_g ad))).monitorRoom + ((S.map (z_g ad)).map fun v => v.category).sum ≤ 8 := lv_room (by rw [z_cats]; exact hr)
  have hlenA : (as.map (z_g ad)).length = as.length := List.length_map _
  have hrec := va_recv c8 hP y9 (z_ws0 h0)
  have kk : ∀ (H1 : Heap) (locs1 : List Loc), va_P D vwCl (z_ws tA ad 0 h1) H1 → va_S (z_A ad h.length s.heap.size) s.heap H1 locs1 → W p l e (z_rm M.2.2.2.2) s m args below meth c H1 locs1 0 0 (MQ below (z_Q D tA ad out.1 out.2 (z_A ad h.length s.heap.size)) args s 0 0 (z_A ad h.length s.heap.size)) (F0 m (pc + 3) ls ((rv.map (z_g ad)).toList ++ S.map (z_g ad))) := by
    intro H1 locs1 hP1 hS1
    have := k.2 E D tA ad p l e s m args below meth c (by rw [hlen]; exact C) H1 locs1 ls hl hP1 (by rw [hlen]; exact hS1)
    rw [hlen] at this
    have e2 : (rv.toList ++ S).map (z_g ad) = (rv.map (z_g ad)).toList ++ S.map (z_g ad) := by cases rv <;> rfl
    rw [e2] at this
    exact this
  have hPc := z_Pcx C hP hS ((Value.ref q :: as).map (z_g ad))
  rcases hk with hk | ⟨host, hk⟩
  · refine z_run (va_runV (n := as.length) (C := Y.1.cls) (b := ad q) (As := as.map (z_g ad)) (rest := S.map (z_g ad)) ⟨c1, c2, c4, c5, c6⟩ (hM l E D tA ad H.size c11 c12) ⟨⟨rfl, rfl, hrm, hlo, z_pay c6 y1, List.mem_cons_self, c6 _ (z_Tw y1), c6 _ (z_Tw y2), y3, y6, c6 _ (z_Tw hk)⟩, c6 _ (z_Tw y7), c6 _ (z_Tw y8)⟩ ⟨hPc.1, hrec, hPc.2⟩ rfl hlenA hl.1 hst hcats hd ⟨Nat.zero_le _, Nat.zero_le _⟩) hS kk
  · refine z_run (va_runVN (n := as.length) (host := host) (C := Y.1.cls) (b := ad q) (As := as.map (z_g ad)) (rest := S.map (z_g ad)) ⟨c1, c2, c4, c5, c6⟩ (hM l E D tA ad H.size c11 c12) ⟨⟨⟨rfl, rfl, hrm, hlo, z_pay c6 y1, List.mem_cons_self⟩, c6 _ (z_Tw y1), c6 _ (z_Tw y2), y3, y6, va_Nw.use rfl (c9 _ hk)⟩, c6 _ (z_Tw y7), c6 _ (z_Tw y8)⟩ ⟨hPc.1, hrec, hPc.2⟩ rfl hlenA hl.1 hst hcats hd ⟨Nat.zero_le _, Nat.zero_le _⟩) hS kk
/-! ===== what nobody writes ===== -/
theorem fx_ldcS {idx i : Nat} {tx : String} (hd : decode M.2.1 pc = .ok (.ldc idx, 2)) (hk : (M.1.cls, idx, tx, i) ∈ z_sx) (hi : i < 14) (k : Fx M out (pc + 2) L (.ref (1000 + i) :: S) h) : Fx M out pc L S h := by
  refine ⟨k.1, fun E D tA ad p l e s m args below meth c C H locs ls hl hP hS => ?_⟩
  obtain ⟨c1, c2, c3, c4, c5, c6, c7, c8, c9, c10, c11, c12⟩ := id C
  have hR := c10.2.1 _ hk
  have := k.2 E D tA ad p l e s m args below meth c C H locs ls hl hP hS
  rw [show (Value.ref (1000 + i) :: S).map (z_g ad) = Value.ref (ad (1000 + i)) :: S.map (z_g ad) from rfl, (c12.1 i hi).1] at this
  exact va_ldcS c1 c2 c5 hR hd this
theorem fx_ldcSw {idx i : Nat} {tx : String} (hd : decode M.2.1 pc = .ok (.ldc_w idx, 3)) (hk : (M.1.cls, idx, tx, i) ∈ z_sx) (hi : i < 14) (k : Fx M out (pc + 3) L (.ref (1000 + i) :: S) h) : Fx M out pc L S h := by
  refine ⟨k.1, fun E D tA ad p l e s m args below meth c C H locs ls hl hP hS => ?_⟩
  obtain ⟨c1, c2, c3, c4, c5, c6, c7, c8, c9, c10, c11, c12⟩ := id C
  have hR := c10.2.1 _ hk
  have := k.2 E D tA ad p l e s m args below meth c C H locs ls hl hP hS
  rw [show (Value.ref (1000 + i) :: S).map (z_g ad) = Value.ref (ad (1000 + i)) :: S.map (z_g ad) from rfl, (c12.1 i hi).1] at this
  intro T hT X
  obtain ⟨t, a1, b1⟩ := this T hT X
  exact ⟨t, X.ldcStringW c1 c5 (text := tx) (a := E.1 i) hR.1 hR.2 (g := F0 m pc ls (S.map (z_g ad))) rfl (by rw [c2]; exact hd) t a1, b1⟩
/-- KIND_ABOVE -/
theorem fx_getsK {idx : Nat} (hd : decode M.2.1 pc = .ok (.getstatic idx, 3)) (hk : Cond.fieldLink M.1.cls idx "WildBells" "KIND_ABOVE" "[I" ∈ z_T) (k : Fx M out (pc + 3) L (.ref 2000 :: S) h) : Fx M out pc L S h := by
  refine ⟨k.1, fun E D tA ad p l e s m args below meth c C H locs ls hl hP hS => ?_⟩
  obtain ⟨c1, c2, c3, c4, c5, c6, c7, c8, c9, c10, c11, c12⟩ := id C
  have := k.2 E D tA ad p l e s m args below meth c C H locs ls hl hP hS
  rw [show (Value.ref 2000 :: S).map (z_g ad) = Value.ref (ad 2000) :: S.map (z_g ad) from rfl, c12.2] at this
  exact va_gets c1 c2 c10.2.2.1 hS c5 (c6 _ (z_Tw hk)) (fun _ h9 => h9) hd this
theorem fx_taldK {i v : Int32} (hd : decode M.2.1 pc = .ok (.iaload, 1)) (hi : vp_in i 7) (hv : z_ka.getD i.toNatClampNeg 0 = v) (k : Fx M out (pc + 1) L (.int v :: S) h) : Fx M out pc L (.int i :: .ref 2000 :: S) h := by
  refine ⟨k.1, fun E D tA ad p l e s m args below meth c C H locs ls hl hP hS => ?_⟩
  obtain ⟨c1, c2, c3, c4, c5, c6, c7, c8, c9, c10, c11, c12⟩ := id C
  have := va_ti (i := i) (v := .int v) c1 c2 c10.2.2.2.1 hS hi (by rw [hv]) hd (k.2 E D tA ad p l e s m args below meth c C H locs ls hl hP hS)
  rw [← c12.2] at this
  exact this
/-- fields of a text -/
theorem fx_getsv {idx i : Nat} (hd : decode M.2.1 pc = .ok (.getfield idx, 3)) (hk : Cond.fieldLink M.1.cls idx "java/lang/String" "value" "[B" ∈ z_T) (hi : i < 14) (k : Fx M out (pc + 3) L (.ref (3000 + i) :: S) h) : Fx M out pc L (.ref (1000 + i) :: S) h := by
  refine ⟨k.1, fun E D tA ad p l e s m args below meth c C H locs ls hl hP hS => ?_⟩
  obtain ⟨c1, c2, c3, c4, c5, c6, c7, c8, c9, c10, c11, c12⟩ := id C
  have := k.2 E D tA ad p l e s m args below meth c C H locs ls hl hP hS
  rw [show (Value.ref (3000 + i) :: S).map (z_g ad) = Value.ref (ad (3000 + i)) :: S.map (z_g ad) from rfl, (c12.1 i hi).2] at this
  rw [show (Value.ref (1000 + i) :: S).map (z_g ad) = Value.ref (ad (1000 + i)) :: S.map (z_g ad) from rfl, (c12.1 i hi).1]
  exact vk_getf c1 c2 (c10.1.1 i hi).2.2.1 hS c5 (c6 _ (z_Tw hk)) (fun _ h9 => h9) hd this
theorem fx_getsc {idx i : Nat} (hd : decode M.2.1 pc = .ok (.getfield idx, 3)) (hk : Cond.fieldLink M.1.cls idx "java/lang/String" "coder" "B" ∈ z_T) (hi : i < 14) (k : Fx M out (pc + 3) L (.int 0 :: S) h) : Fx M out pc L (.ref (1000 + i) :: S) h := by
  refine ⟨k.1, fun E D tA ad p l e s m args below meth c C H locs ls hl hP hS => ?_⟩
  obtain ⟨c1, c2, c3, c4, c5, c6, c7, c8, c9, c10, c11, c12⟩ := id C
  rw [show (Value.ref (1000 + i) :: S).map (z_g ad) = Value.ref (ad (1000 + i)) :: S.map (z_g ad) from rfl, (c12.1 i hi).1]
  exact vk_getf c1 c2 (c10.1.1 i hi).2.1 hS c5 (c6 _ (z_Tw hk)) (fun _ h9 => h9) hd (k.2 E D tA ad p l e s m args below meth c C H locs ls hl hP hS)
/-- COMPACT_STRINGS -/
theorem fx_getsC {idx : Nat} (hd : decode M.2.1 pc = .ok (.getstatic idx, 3)) (hk : Cond.fieldLink M.1.cls idx "java/lang/String" "COMPACT_STRINGS" "Z" ∈ z_T) (k : Fx M out (pc + 3) L (.int 1 :: S) h) : Fx M out pc L S h := by
  refine ⟨k.1, fun E D tA ad p l e s m args below meth c C H locs ls hl hP hS => ?_⟩
  obtain ⟨c1, c2, c3, c4, c5, c6, c7, c8, c9, c10, c11, c12⟩ := id C
  exact va_gets c1 c2 c10.2.2.2.2.1 hS c5 (c6 _ (z_Tw hk)) (fun _ h9 => h9) hd (k.2 E D tA ad p l e s m args below meth c C H locs ls hl hP hS)
/-- bytes of a text -/
theorem fx_slen {i : Nat} {v : Int32} (hd : decode M.2.1 pc = .ok (.arraylength, 1)) (hi : i < 14) (hv : Int32.ofNat (z_len.getD i 0) = v) (k : Fx M out (pc + 1) L (.int v :: S) h) : Fx M out pc L (.ref (3000 + i) :: S) h := by
  refine ⟨k.1, fun E D tA ad p l e s m args below meth c C H locs ls hl hP hS => ?_⟩
  obtain ⟨c1, c2, c3, c4, c5, c6, c7, c8, c9, c10, c11, c12⟩ := id C
  rw [show (Value.ref (3000 + i) :: S).map (z_g ad) = Value.ref (ad (3000 + i)) :: S.map (z_g ad) from rfl, (c12.1 i hi).2]
  exact va_tlen c1 c2 (c10.1.1 i hi).2.2.2 hS hv hd (k.2 E D tA ad p l e s m args below meth c C H locs ls hl hP hS)
theorem fx_sald {i : Nat} {j v : Int32} (hd : decode M.2.1 pc = .ok (.baload, 1)) (hi : i < 14) (hj : vp_in j (z_len.getD i 0)) (hv : (z_byt.getD i []).getD j.toNatClampNeg 0 = v) (k : Fx M out (pc + 1) L (.int v :: S) h) : Fx M out pc L (.int j :: .ref (3000 + i) :: S) h := by
  refine ⟨k.1, fun E D tA ad p l e s m args below meth c C H locs ls hl hP hS => ?_⟩
  obtain ⟨c1, c2, c3, c4, c5, c6, c7, c8, c9, c10, c11, c12⟩ := id C
  have := va_tb (i := j) (v := .int v) c1 c2 (c10.1.1 i hi).2.2.2 hS hj (by rw [hv]) hd (k.2 E D tA ad p l e s m args below meth c C H locs ls hl hP hS)
  rw [← (c12.1 i hi).2] at this
  exact this
/-- a call on a text -/
theorem fx_callT {Y : zM} {idx i : Nat} {as : List Value} {rv : Option Value} {h1 : zH} {S0 S1 : List Value} (hd : decode M.2.1 pc = .ok (.invokevirtual idx, 3)) (hY : z_ok Y) (hYn : z_np Y as.length) (hYi : Cond.instanceMethod Y.1 ∈ z_T) (hYs : Cond.selects Y.1.cls Y.1 Y.1 ∈ z_T) (hYc : Y.1.cls = "java/lang/String") (hk : Cond.methodLink M.1.cls idx Y.1 ∈ z_T) (hdep : Y.2.2.2.2 + 1 ≤ M.2.2.2.2) (hi : i < 14) (hr : (S.map fun v => v.category).sum ≤ 8) (hM : Mx Y (.ref (1000 + i) :: as) h rv h1)
    (e0 : S0 = as.reverse ++ .ref (1000 + i) :: S) (e1 : S1 = rv.toList ++ S) (k : Fx M out (pc + 3) L S1 h1) : Fx M out pc L S0 h := by
  subst e0; subst e1
  obtain ⟨hlen, hM⟩ := hM
  refine ⟨by rw [← hlen]; exact k.1, fun E D tA ad p l e s m args below meth c C H locs ls hl hP hS => ?_⟩
  obtain ⟨c1, c2, c3, c4, c5, c6, c7, c8, c9, c10, c11, c12⟩ := id C
  obtain ⟨y1, y2, y3, y4, y5⟩ := hY
  have hrm : (z_rm Y.2.2.2.2).frames + 1 ≤ (z_rm M.2.2.2.2).frames := hdep
  have hlo : 8 + (Y.2.2.1 + 11) + (z_rm Y.2.2.2.2).locals ≤ (z_rm M.2.2.2.2).locals := by
    show 8 + (Y.2.2.1 + 11) + 31 * Y.2.2.2.2 ≤ 31 * M.2.2.2.2
    omega
  have hst : (as.reverse ++ .ref (1000 + i) :: S).map (z_g ad) = (as.map (z_g ad)).reverse ++ .ref (ad (1000 + i)) :: S.map (z_g ad) := by rw [List.map_append, List.map_reverse]; rfl
  have hcats : 2 * (F0 m pc ls ((as.reverse ++ .ref (1000 + i) :: S).map (z_g ad))).monitorRoom + ((S.map (z_g ad)).map fun v => v.category).sum ≤ 8 := lv_room (by rw [z_cats]; exact hr)
  have hlenA : (as.map (z_g ad)).length = as.length := List.length_map _
  have hrec := vk_recv c10.1 hi hS
  rw [← (c12.1 i hi).1, ← hYc] at hrec
  have kk : ∀ (H1 : Heap) (locs1 : List Loc), va_P D vwCl (z_ws tA ad 0 h1) H1 → va_S (z_A ad h.length s.heap.size) s.heap H1 locs1 → W p l e (z_rm M.2.2.2.2) s m args below meth c H1 locs1 0 0 (MQ below (z_Q D tA ad out.1 out.2 (z_A ad h.length s.heap.size)) args s 0 0 (z_A ad h.length s.heap.size)) (F0 m (pc + 3) ls ((rv.map (z_g ad)).toList ++ S.map (z_g ad))) := by
    intro H1 locs1 hP1 hS1
    have := k.2 E D tA ad p l e s m args below meth c (by rw [hlen]; exact C) H1 locs1 ls hl hP1 (by rw [hlen]; exact hS1)
    rw [hlen] at this
    have e2 : (rv.toList ++ S).map (z_g ad) = (rv.map (z_g ad)).toList ++ S.map (z_g ad) := by cases rv <;> rfl
    rw [e2] at this
    exact this
  have hPc := z_Pcx C hP hS ((Value.ref (1000 + i) :: as).map (z_g ad))
  refine z_run (va_runV (n := as.length) (C := Y.1.cls) (b := ad (1000 + i)) (As := as.map (z_g ad)) (rest := S.map (z_g ad)) ⟨c1, c2, c4, c5, c6⟩ (hM l E D tA ad H.size c11 c12) ⟨⟨rfl, rfl, hrm, hlo, z_pay c6 y1, List.mem_cons_self, c6 _ (z_Tw y1), c6 _ (z_Tw y2), y3, hYn, c6 _ (z_Tw hk)⟩, c6 _ (z_Tw hYi), c6 _ (z_Tw hYs)⟩ ⟨hPc.1, hrec, hPc.2⟩ rfl hlenA hl.1 hst hcats hd ⟨Nat.zero_le _, Nat.zero_le _⟩) hS kk
/-! ===== ends, and a method out of its frame ===== -/
theorem fx_iret {v : Int32} {rt : FieldType} (hd : decode M.2.1 pc = .ok (.ireturn, 1)) (hrt : M.2.2.2.1 = some rt) (hn : narrow rt (.int v) = .int v) : Fx M (some (.int v), h) pc L [.int v] h := by
  refine ⟨rfl, fun E D tA ad p l e s m args below meth c C H locs ls hl hP hS => ?_⟩
  obtain ⟨c1, c2, c3, c4, c5, c6, c7, c8, c9, c10, c11, c12⟩ := id C
  exact W.zret (v := v) (ty := rt) c1 c2 (by rw [c3, hrt]) hn (fun t ht hW => ⟨⟨rfl, by rw [ht]; exact hP⟩, hS.F ht⟩) hS.2.2 hd c7
theorem fx_lret {v : Int64} (hd : decode M.2.1 pc = .ok (.lreturn, 1)) (hrt : M.2.2.2.1 = some .long) : Fx M (some (.long v), h) pc L [.long v] h := by
  refine ⟨rfl, fun E D tA ad p l e s m args below meth c C H locs ls hl hP hS => ?_⟩
  obtain ⟨c1, c2, c3, c4, c5, c6, c7, c8, c9, c10, c11, c12⟩ := id C
  exact W.lret (v := v) c1 c2 (by rw [c3, hrt]) (fun t ht hW => ⟨⟨rfl, by rw [ht]; exact hP⟩, hS.F ht⟩) hS.2.2 hd c7
theorem fx_aret {q : Nat} {rt : FieldType} (hd : decode M.2.1 pc = .ok (.areturn, 1)) (hrt : M.2.2.2.1 = some rt) (hr : (∃ n, rt = .object n) ∨ ∃ t, rt = .array t) : Fx M (some (.ref q), h) pc L [.ref q] h := by
  refine ⟨rfl, fun E D tA ad p l e s m args below meth c C H locs ls hl hP hS => ?_⟩
  obtain ⟨c1, c2, c3, c4, c5, c6, c7, c8, c9, c10, c11, c12⟩ := id C
  exact W.aret (v := .ref (ad q)) c1 c2 (by rw [c3, hrt]) hr (Or.inr ⟨_, rfl⟩) (fun t ht hW => ⟨⟨rfl, by rw [ht]; exact hP⟩, hS.F ht⟩) hS.2.2 hd c7
theorem fx_vret (hd : decode M.2.1 pc = .ok (.return_, 1)) (hrt : M.2.2.2.1 = none) : Fx M (none, h) pc L [] h := by
  refine ⟨rfl, fun E D tA ad p l e s m args below meth c C H locs ls hl hP hS => ?_⟩
  obtain ⟨c1, c2, c3, c4, c5, c6, c7, c8, c9, c10, c11, c12⟩ := id C
  exact W.vret c1 c2 (by rw [c3, hrt]) (fun t ht hW => ⟨⟨rfl, by rw [ht]; exact hP⟩, hS.F ht⟩) hS.2.2 hd c7
/-- the same frame, said otherwise -/
theorem fx_eq {L' : List (Option Value)} {S' : List Value} {h' : zH} (k : Fx M out pc L' S' h') (e1 : L = L') (e2 : S = S') (e3 : h = h') : Fx M out pc L S h := by subst e1; subst e2; subst e3; exact k
/-- a method, out of the walk of its frame from its entry -/
theorem mx_of {as : List Value} {rv : Option Value} {h2 : zH} (hp : plainName M.1.cls = true) (hL : ∀ ad, z_L ad 0 L = lv_args 0 (as.map (z_g ad))) (hn : ∀ ad, (lg_sl (as.map (z_g ad))).length ≤ M.2.2.1) (k : Fx M (rv, h2) 0 L [] h) : Mx M as h rv h2 := by
  refine ⟨k.1.symm, fun l E D tA ad sz hap hsa => ?_⟩
  refine Met.ofW (cc := M.2.1) (maxL := M.2.2.1) (ret := M.2.2.2.1) hp rfl ?_
  intro p e s m args below meth c s₁ B hml hv
  obtain ⟨rfl, rfl, hP, hK, hN, hE⟩ := hv
  have hts := atoms_spec (ws := z_wd M) B.pre
  have hown : s.vm.findClass M.1.cls = some m.cls := findClass_of_methodNamed B.named
  have hl := lv_entry (as.map (z_g ad)) (hn ad)
  rw [lg_entry_eq]
  exact k.2 E D tA ad p l e s m _ below meth c ⟨B.exec, B.bytes, B.returns, hml, hown, hts, B.notSynchronized, hK, hN, hE, hap, hsa⟩ s.heap [] _ (by rw [hL ad]; exact hl) hP va_S.rf
end FH
end
section
/-! ===== methods, and what the tables say of them and of the links (printed by gen/meths.py) ===== -/
theorem z_tp {w : Cond} (n : Nat) (h : (k2_sels lw_privs)[n]? = some w) : w ∈ lw_tbl := List.mem_append_left _ (List.mem_of_getElem? h)
theorem z_u {w : Cond} (h : w ∈ tables_1) : w ∈ lw_tbl := List.mem_append_right _ h
theorem z_t1 {w : Cond} (n : Nat) (h : tables_1_1[n]? = some w) : w ∈ lw_tbl := z_u (List.mem_append_left _ (List.mem_of_getElem? h))
theorem z_t2 {w : Cond} (n : Nat) (h : tables_1_2[n]? = some w) : w ∈ lw_tbl := z_u (List.mem_append_right _ (List.mem_append_left _ (List.mem_of_getElem? h)))
theorem z_t3 {w : Cond} (n : Nat) (h : tables_1_3[n]? = some w) : w ∈ lw_tbl := z_u (List.mem_append_right _ (List.mem_append_right _ (List.mem_append_left _ (List.mem_of_getElem? h))))
theorem z_t4 {w : Cond} (n : Nat) (h : tables_1_4[n]? = some w) : w ∈ lw_tbl := z_u (List.mem_append_right _ (List.mem_append_right _ (List.mem_append_right _ (List.mem_append_left _ (List.mem_of_getElem? h)))))
theorem z_t5 {w : Cond} (n : Nat) (h : tables_1_5[n]? = some w) : w ∈ lw_tbl := z_u (List.mem_append_right _ (List.mem_append_right _ (List.mem_append_right _ (List.mem_append_right _ (List.mem_append_left _ (List.mem_of_getElem? h))))))
theorem z_t6 {w : Cond} (n : Nat) (h : tables_1_6[n]? = some w) : w ∈ lw_tbl := z_u (List.mem_append_right _ (List.mem_append_right _ (List.mem_append_right _ (List.mem_append_right _ (List.mem_append_right _ (List.mem_of_getElem? h))))))
theorem z_k0 : z_Kl 0 RX0 TX0 3 tyX0 := ⟨rfl, fun w hw => z_in ((show ∀ w ∈ u_ws RX0 TX0 3, w ∈ lw_tbl by decide +kernel) w hw) ((show ∀ w ∈ u_ws RX0 TX0 3, goodWord w = true by decide +kernel) w hw), tyX0_ok, nmX0⟩
theorem z_k1 : z_Kl 1 RX1 TX1 7 tyX1 := ⟨rfl, fun w hw => z_in ((show ∀ w ∈ u_ws RX1 TX1 7, w ∈ lw_tbl by decide +kernel) w hw) ((show ∀ w ∈ u_ws RX1 TX1 7, goodWord w = true by decide +kernel) w hw), tyX1_ok, nmX1⟩
theorem z_k2 : z_Kl 2 RX2 TX2 14 tyX2 := ⟨rfl, fun w hw => z_in ((show ∀ w ∈ u_ws RX2 TX2 14, w ∈ lw_tbl by decide +kernel) w hw) ((show ∀ w ∈ u_ws RX2 TX2 14, goodWord w = true by decide +kernel) w hw), tyX2_ok, nmX2⟩
theorem z_k3 : z_Kl 3 RX3 TX3 8 tyX3 := ⟨rfl, fun w hw => z_in ((show ∀ w ∈ u_ws RX3 TX3 8, w ∈ lw_tbl by decide +kernel) w hw) ((show ∀ w ∈ u_ws RX3 TX3 8, goodWord w = true by decide +kernel) w hw), tyX3_ok, nmX3⟩
theorem z_k4 : z_Kl 4 RX4 TX4 24 tyX4 := ⟨rfl, fun w hw => z_in ((show ∀ w ∈ u_ws RX4 TX4 24, w ∈ lw_tbl by decide +kernel) w hw) ((show ∀ w ∈ u_ws RX4 TX4 24, goodWord w = true by decide +kernel) w hw), tyX4_ok, nmX4⟩
theorem z_iX3 : Cond.initialized RX3 ∈ z_T := z_in (z_t1 1 (by decide +kernel)) rfl
theorem z_iX2 : Cond.initialized RX2 ∈ z_T := z_in (z_t1 2 (by decide +kernel)) rfl
theorem z_iX1 : Cond.initialized RX1 ∈ z_T := z_in (z_t1 3 (by decide +kernel)) rfl
theorem z_iX0 : Cond.initialized RX0 ∈ z_T := z_in (z_t1 4 (by decide +kernel)) rfl
theorem z_iX4 : Cond.initialized RX4 ∈ z_T := z_in (z_t1 5 (by decide +kernel)) rfl
theorem z_iJ9 : Cond.initialized RJ9 ∈ z_T := z_in (z_t1 6 (by decide +kernel)) rfl
theorem z_iJ6 : Cond.initialized RJ6 ∈ z_T := z_in (z_t1 7 (by decide +kernel)) rfl
theorem z_iJ13 : Cond.initialized RJ13 ∈ z_T := z_in (z_t1 8 (by decide +kernel)) rfl
theorem z_iJ10 : Cond.initialized RJ10 ∈ z_T := z_in (z_t1 9 (by decide +kernel)) rfl
theorem z_iJ0 : Cond.initialized RJ0 ∈ z_T := z_in (z_t1 10 (by decide +kernel)) rfl
theorem z_iJ1 : Cond.initialized RJ1 ∈ z_T := z_in (z_t1 11 (by decide +kernel)) rfl
theorem z_iJ3 : Cond.initialized RJ3 ∈ z_T := z_in (z_t1 12 (by decide +kernel)) rfl
theorem z_iJ2 : Cond.initialized RJ2 ∈ z_T := z_in (z_t1 13 (by decide +kernel)) rfl
abbrev mX0_isMissing : zM := (yX0_isMissing, cX0_isMissing, 1, Option.some Jvm.ClassFile.FieldType.boolean, 0)
theorem oX0_isMissing : z_ok mX0_isMissing := ⟨z_in (z_t2 167 (by decide +kernel)) rfl, z_iX0, by decide, by decide, by decide⟩
theorem pX0_isMissing : z_np mX0_isMissing 0 := fun sig hs => by
  have e : (parseMethodDescriptor yX0_isMissing.desc).map (fun d => d.parameters.length) = some 0 := by decide +kernel
  rw [hs] at e
  exact (Option.some.inj e).symm
theorem vX0_isMissing : z_okV mX0_isMissing 0 0 := ⟨oX0_isMissing, pX0_isMissing, z_in (z_t2 166 (by decide +kernel)) rfl, z_in (z_tp 20 (by decide +kernel)) rfl, _, _, rfl⟩
abbrev mX0_begin : zM := (yX0_begin, cX0_begin, 4, Option.none, 0)
theorem oX0_begin : z_ok mX0_begin := ⟨z_in (z_t3 180 (by decide +kernel)) rfl, z_iX0, by decide, by decide, by decide⟩
theorem pX0_begin : z_np mX0_begin 2 := fun sig hs => by
  have e : (parseMethodDescriptor yX0_begin.desc).map (fun d => d.parameters.length) = some 2 := by decide +kernel
  rw [hs] at e
  exact (Option.some.inj e).symm
theorem vX0_begin : z_okV mX0_begin 0 2 := ⟨oX0_begin, pX0_begin, z_in (z_t3 179 (by decide +kernel)) rfl, z_in (z_tp 42 (by decide +kernel)) rfl, _, _, rfl⟩
abbrev mX0_put : zM := (yX0_put, cX0_put, 3, Option.none, 0)
theorem oX0_put : z_ok mX0_put := ⟨z_in (z_t3 188 (by decide +kernel)) rfl, z_iX0, by decide, by decide, by decide⟩
theorem pX0_put : z_np mX0_put 2 := fun sig hs => by
  have e : (parseMethodDescriptor yX0_put.desc).map (fun d => d.parameters.length) = some 2 := by decide +kernel
  rw [hs] at e
  exact (Option.some.inj e).symm
theorem vX0_put : z_okV mX0_put 0 2 := ⟨oX0_put, pX0_put, z_in (z_t3 187 (by decide +kernel)) rfl, z_in (z_tp 43 (by decide +kernel)) rfl, _, _, rfl⟩
abbrev mX0_hasFrom : zM := (yX0_hasFrom, cX0_hasFrom, 3, Option.some Jvm.ClassFile.FieldType.boolean, 0)
theorem oX0_hasFrom : z_ok mX0_hasFrom := ⟨z_in (z_t3 196 (by decide +kernel)) rfl, z_iX0, by decide, by decide, by decide⟩
theorem pX0_hasFrom : z_np mX0_hasFrom 2 := fun sig hs => by
  have e : (parseMethodDescriptor yX0_hasFrom.desc).map (fun d => d.parameters.length) = some 2 := by decide +kernel
  rw [hs] at e
  exact (Option.some.inj e).symm
theorem vX0_hasFrom : z_okV mX0_hasFrom 0 2 := ⟨oX0_hasFrom, pX0_hasFrom, z_in (z_t3 195 (by decide +kernel)) rfl, z_in (z_tp 44 (by decide +kernel)) rfl, _, _, rfl⟩
abbrev mX0_earsAreCells : zM := (yX0_earsAreCells, cX0_earsAreCells, 2, Option.some Jvm.ClassFile.FieldType.boolean, 1)
theorem oX0_earsAreCells : z_ok mX0_earsAreCells := ⟨z_in (z_t2 171 (by decide +kernel)) rfl, z_iX0, by decide, by decide, by decide⟩
theorem pX0_earsAreCells : z_np mX0_earsAreCells 0 := fun sig hs => by
  have e : (parseMethodDescriptor yX0_earsAreCells.desc).map (fun d => d.parameters.length) = some 0 := by decide +kernel
  rw [hs] at e
  exact (Option.some.inj e).symm
theorem vX0_earsAreCells : z_okV mX0_earsAreCells 0 0 := ⟨oX0_earsAreCells, pX0_earsAreCells, z_in (z_t2 170 (by decide +kernel)) rfl, z_in (z_tp 21 (by decide +kernel)) rfl, _, _, rfl⟩
abbrev mX0_tellsLoud : zM := (yX0_tellsLoud, cX0_tellsLoud, 4, Option.some Jvm.ClassFile.FieldType.boolean, 2)
theorem oX0_tellsLoud : z_ok mX0_tellsLoud := ⟨z_in (z_t2 179 (by decide +kernel)) rfl, z_iX0, by decide, by decide, by decide⟩
theorem pX0_tellsLoud : z_np mX0_tellsLoud 2 := fun sig hs => by
  have e : (parseMethodDescriptor yX0_tellsLoud.desc).map (fun d => d.parameters.length) = some 2 := by decide +kernel
  rw [hs] at e
  exact (Option.some.inj e).symm
theorem vX0_tellsLoud : z_okV mX0_tellsLoud 0 2 := ⟨oX0_tellsLoud, pX0_tellsLoud, z_in (z_t2 178 (by decide +kernel)) rfl, z_in (z_tp 22 (by decide +kernel)) rfl, _, _, rfl⟩
abbrev mX1_append : zM := (yX1_append, cX1_append, 2, Option.none, 0)
theorem oX1_append : z_ok mX1_append := ⟨z_in (z_t3 36 (by decide +kernel)) rfl, z_iX1, by decide, by decide, by decide⟩
theorem pX1_append : z_np mX1_append 1 := fun sig hs => by
  have e : (parseMethodDescriptor yX1_append.desc).map (fun d => d.parameters.length) = some 1 := by decide +kernel
  rw [hs] at e
  exact (Option.some.inj e).symm
theorem vX1_append : z_okV mX1_append 1 1 := ⟨oX1_append, pX1_append, z_in (z_t3 35 (by decide +kernel)) rfl, z_in (z_tp 29 (by decide +kernel)) rfl, _, _, rfl⟩
abbrev mX1_readInto : zM := (yX1_readInto, cX1_readInto, 5, Option.some Jvm.ClassFile.FieldType.int, 10)
theorem oX1_readInto : z_ok mX1_readInto := ⟨z_in (z_t3 48 (by decide +kernel)) rfl, z_iX1, by decide, by decide, by decide⟩
theorem pX1_readInto : z_np mX1_readInto 1 := fun sig hs => by
  have e : (parseMethodDescriptor yX1_readInto.desc).map (fun d => d.parameters.length) = some 1 := by decide +kernel
  rw [hs] at e
  exact (Option.some.inj e).symm
theorem vX1_readInto : z_okV mX1_readInto 1 1 := ⟨oX1_readInto, pX1_readInto, z_in (z_t3 47 (by decide +kernel)) rfl, z_in (z_tp 30 (by decide +kernel)) rfl, _, _, rfl⟩
abbrev mX1_advance : zM := (yX1_advance, cX1_advance, 2, Option.none, 0)
theorem oX1_advance : z_ok mX1_advance := ⟨z_in (z_t3 52 (by decide +kernel)) rfl, z_iX1, by decide, by decide, by decide⟩
theorem pX1_advance : z_np mX1_advance 0 := fun sig hs => by
  have e : (parseMethodDescriptor yX1_advance.desc).map (fun d => d.parameters.length) = some 0 := by decide +kernel
  rw [hs] at e
  exact (Option.some.inj e).symm
theorem vX1_advance : z_okV mX1_advance 1 0 := ⟨oX1_advance, pX1_advance, z_in (z_t3 51 (by decide +kernel)) rfl, z_in (z_tp 31 (by decide +kernel)) rfl, _, _, rfl⟩
abbrev mX1_isWord : zM := (yX1_isWord, cX1_isWord, 3, Option.some Jvm.ClassFile.FieldType.boolean, 6)
theorem oX1_isWord : z_ok mX1_isWord := ⟨z_in (z_t3 74 (by decide +kernel)) rfl, z_iX1, by decide, by decide, by decide⟩
theorem pX1_isWord : z_np mX1_isWord 1 := fun sig hs => by
  have e : (parseMethodDescriptor yX1_isWord.desc).map (fun d => d.parameters.length) = some 1 := by decide +kernel
  rw [hs] at e
  exact (Option.some.inj e).symm
theorem vX1_isWord : z_okV mX1_isWord 1 1 := ⟨oX1_isWord, pX1_isWord, z_in (z_t3 73 (by decide +kernel)) rfl, z_in (z_tp 34 (by decide +kernel)) rfl, _, _, rfl⟩
abbrev mX1_readItem : zM := (yX1_readItem, cX1_readItem, 3, Option.none, 9)
theorem oX1_readItem : z_ok mX1_readItem := ⟨z_in (z_t3 56 (by decide +kernel)) rfl, z_iX1, by decide, by decide, by decide⟩
theorem pX1_readItem : z_np mX1_readItem 1 := fun sig hs => by
  have e : (parseMethodDescriptor yX1_readItem.desc).map (fun d => d.parameters.length) = some 1 := by decide +kernel
  rw [hs] at e
  exact (Option.some.inj e).symm
theorem vX1_readItem : z_okV mX1_readItem 1 1 := ⟨oX1_readItem, pX1_readItem, z_in (z_t3 55 (by decide +kernel)) rfl, z_in (z_tp 32 (by decide +kernel)) rfl, _, _, rfl⟩
abbrev mX1_kindOfWord : zM := (yX1_kindOfWord, cX1_kindOfWord, 2, Option.some Jvm.ClassFile.FieldType.int, 7)
theorem oX1_kindOfWord : z_ok mX1_kindOfWord := ⟨z_in (z_t3 60 (by decide +kernel)) rfl, z_iX1, by decide, by decide, by decide⟩
theorem pX1_kindOfWord : z_np mX1_kindOfWord 0 := fun sig hs => by
  have e : (parseMethodDescriptor yX1_kindOfWord.desc).map (fun d => d.parameters.length) = some 0 := by decide +kernel
  rw [hs] at e
  exact (Option.some.inj e).symm
theorem vX1_kindOfWord : z_okV mX1_kindOfWord 1 0 := ⟨oX1_kindOfWord, pX1_kindOfWord, z_in (z_t3 59 (by decide +kernel)) rfl, z_in (z_tp 33 (by decide +kernel)) rfl, _, _, rfl⟩
abbrev mX1_wordOfKind : zM := (yX1_wordOfKind, cX1_wordOfKind, 1, Option.some (Jvm.ClassFile.FieldType.object "java/lang/String"), 0)
theorem oX1_wordOfKind : z_ok mX1_wordOfKind := ⟨z_in (z_t3 63 (by decide +kernel)) rfl, z_iX1, by decide, by decide, by decide⟩
theorem pX1_wordOfKind : z_np mX1_wordOfKind 1 := fun sig hs => by
  have e : (parseMethodDescriptor yX1_wordOfKind.desc).map (fun d => d.parameters.length) = some 1 := by decide +kernel
  rw [hs] at e
  exact (Option.some.inj e).symm
theorem sX1_wordOfKind : z_okS mX1_wordOfKind 1 := ⟨oX1_wordOfKind, pX1_wordOfKind, z_in (z_t3 62 (by decide +kernel)) rfl⟩
abbrev mX1_readBell : zM := (yX1_readBell, cX1_readBell, 7, Option.none, 8)
theorem oX1_readBell : z_ok mX1_readBell := ⟨z_in (z_t3 126 (by decide +kernel)) rfl, z_iX1, by decide, by decide, by decide⟩
theorem pX1_readBell : z_np mX1_readBell 2 := fun sig hs => by
  have e : (parseMethodDescriptor yX1_readBell.desc).map (fun d => d.parameters.length) = some 2 := by decide +kernel
  rw [hs] at e
  exact (Option.some.inj e).symm
theorem vX1_readBell : z_okV mX1_readBell 1 2 := ⟨oX1_readBell, pX1_readBell, z_in (z_t3 125 (by decide +kernel)) rfl, z_in (z_tp 35 (by decide +kernel)) rfl, _, _, rfl⟩
abbrev mX1_readNet : zM := (yX1_readNet, cX1_readNet, 3, Option.none, 2)
theorem oX1_readNet : z_ok mX1_readNet := ⟨z_in (z_t3 143 (by decide +kernel)) rfl, z_iX1, by decide, by decide, by decide⟩
theorem pX1_readNet : z_np mX1_readNet 1 := fun sig hs => by
  have e : (parseMethodDescriptor yX1_readNet.desc).map (fun d => d.parameters.length) = some 1 := by decide +kernel
  rw [hs] at e
  exact (Option.some.inj e).symm
theorem vX1_readNet : z_okV mX1_readNet 1 1 := ⟨oX1_readNet, pX1_readNet, z_in (z_t3 142 (by decide +kernel)) rfl, z_in (z_tp 38 (by decide +kernel)) rfl, _, _, rfl⟩
abbrev mX1_readThick : zM := (yX1_readThick, cX1_readThick, 4, Option.none, 2)
theorem oX1_readThick : z_ok mX1_readThick := ⟨z_in (z_t3 149 (by decide +kernel)) rfl, z_iX1, by decide, by decide, by decide⟩
theorem pX1_readThick : z_np mX1_readThick 1 := fun sig hs => by
  have e : (parseMethodDescriptor yX1_readThick.desc).map (fun d => d.parameters.length) = some 1 := by decide +kernel
  rw [hs] at e
  exact (Option.some.inj e).symm
theorem vX1_readThick : z_okV mX1_readThick 1 1 := ⟨oX1_readThick, pX1_readThick, z_in (z_t3 148 (by decide +kernel)) rfl, z_in (z_tp 39 (by decide +kernel)) rfl, _, _, rfl⟩
abbrev mX1_readHunter : zM := (yX1_readHunter, cX1_readHunter, 4, Option.none, 8)
theorem oX1_readHunter : z_ok mX1_readHunter := ⟨z_in (z_t3 154 (by decide +kernel)) rfl, z_iX1, by decide, by decide, by decide⟩
theorem pX1_readHunter : z_np mX1_readHunter 1 := fun sig hs => by
  have e : (parseMethodDescriptor yX1_readHunter.desc).map (fun d => d.parameters.length) = some 1 := by decide +kernel
  rw [hs] at e
  exact (Option.some.inj e).symm
theorem vX1_readHunter : z_okV mX1_readHunter 1 1 := ⟨oX1_readHunter, pX1_readHunter, z_in (z_t3 153 (by decide +kernel)) rfl, z_in (z_tp 40 (by decide +kernel)) rfl, _, _, rfl⟩
abbrev mX1_readFear : zM := (yX1_readFear, cX1_readFear, 3, Option.none, 2)
theorem oX1_readFear : z_ok mX1_readFear := ⟨z_in (z_t3 159 (by decide +kernel)) rfl, z_iX1, by decide, by decide, by decide⟩
theorem pX1_readFear : z_np mX1_readFear 1 := fun sig hs => by
  have e : (parseMethodDescriptor yX1_readFear.desc).map (fun d => d.parameters.length) = some 1 := by decide +kernel
  rw [hs] at e
  exact (Option.some.inj e).symm
theorem vX1_readFear : z_okV mX1_readFear 1 1 := ⟨oX1_readFear, pX1_readFear, z_in (z_t3 158 (by decide +kernel)) rfl, z_in (z_tp 41 (by decide +kernel)) rfl, _, _, rfl⟩
abbrev mX1_takeNumber : zM := (yX1_takeNumber, cX1_takeNumber, 4, Option.some Jvm.ClassFile.FieldType.int, 1)
theorem oX1_takeNumber : z_ok mX1_takeNumber := ⟨z_in (z_t3 135 (by decide +kernel)) rfl, z_iX1, by decide, by decide, by decide⟩
theorem pX1_takeNumber : z_np mX1_takeNumber 2 := fun sig hs => by
  have e : (parseMethodDescriptor yX1_takeNumber.desc).map (fun d => d.parameters.length) = some 2 := by decide +kernel
  rw [hs] at e
  exact (Option.some.inj e).symm
theorem vX1_takeNumber : z_okV mX1_takeNumber 1 2 := ⟨oX1_takeNumber, pX1_takeNumber, z_in (z_t3 134 (by decide +kernel)) rfl, z_in (z_tp 37 (by decide +kernel)) rfl, _, _, rfl⟩
abbrev mX1_takePerhaps : zM := (yX1_takePerhaps, cX1_takePerhaps, 5, Option.some Jvm.ClassFile.FieldType.int, 7)
theorem oX1_takePerhaps : z_ok mX1_takePerhaps := ⟨z_in (z_t3 131 (by decide +kernel)) rfl, z_iX1, by decide, by decide, by decide⟩
theorem pX1_takePerhaps : z_np mX1_takePerhaps 4 := fun sig hs => by
  have e : (parseMethodDescriptor yX1_takePerhaps.desc).map (fun d => d.parameters.length) = some 4 := by decide +kernel
  rw [hs] at e
  exact (Option.some.inj e).symm
theorem vX1_takePerhaps : z_okV mX1_takePerhaps 1 4 := ⟨oX1_takePerhaps, pX1_takePerhaps, z_in (z_t3 130 (by decide +kernel)) rfl, z_in (z_tp 36 (by decide +kernel)) rfl, _, _, rfl⟩
abbrev mX2_becomes : zM := (yX2_becomes, cX2_becomes, 2, Option.none, 1)
theorem oX2_becomes : z_ok mX2_becomes := ⟨z_in (z_t2 111 (by decide +kernel)) rfl, z_iX2, by decide, by decide, by decide⟩
theorem pX2_becomes : z_np mX2_becomes 1 := fun sig hs => by
  have e : (parseMethodDescriptor yX2_becomes.desc).map (fun d => d.parameters.length) = some 1 := by decide +kernel
  rw [hs] at e
  exact (Option.some.inj e).symm
theorem vX2_becomes : z_okV mX2_becomes 2 1 := ⟨oX2_becomes, pX2_becomes, z_in (z_t2 110 (by decide +kernel)) rfl, z_in (z_tp 16 (by decide +kernel)) rfl, _, _, rfl⟩
abbrev mX2_hasNet : zM := (yX2_hasNet, cX2_hasNet, 2, Option.some Jvm.ClassFile.FieldType.boolean, 1)
theorem oX2_hasNet : z_ok mX2_hasNet := ⟨z_in (z_t1 181 (by decide +kernel)) rfl, z_iX2, by decide, by decide, by decide⟩
theorem pX2_hasNet : z_np mX2_hasNet 1 := fun sig hs => by
  have e : (parseMethodDescriptor yX2_hasNet.desc).map (fun d => d.parameters.length) = some 1 := by decide +kernel
  rw [hs] at e
  exact (Option.some.inj e).symm
theorem vX2_hasNet : z_okV mX2_hasNet 2 1 := ⟨oX2_hasNet, pX2_hasNet, z_in (z_t1 180 (by decide +kernel)) rfl, z_in (z_tp 1 (by decide +kernel)) rfl, _, _, rfl⟩
abbrev mX2_setNet : zM := (yX2_setNet, cX2_setNet, 3, Option.none, 0)
theorem oX2_setNet : z_ok mX2_setNet := ⟨z_in (z_t1 188 (by decide +kernel)) rfl, z_iX2, by decide, by decide, by decide⟩
theorem pX2_setNet : z_np mX2_setNet 2 := fun sig hs => by
  have e : (parseMethodDescriptor yX2_setNet.desc).map (fun d => d.parameters.length) = some 2 := by decide +kernel
  rw [hs] at e
  exact (Option.some.inj e).symm
theorem vX2_setNet : z_okV mX2_setNet 2 2 := ⟨oX2_setNet, pX2_setNet, z_in (z_t1 187 (by decide +kernel)) rfl, z_in (z_tp 2 (by decide +kernel)) rfl, _, _, rfl⟩
abbrev mX2_addBell : zM := (yX2_addBell, cX2_addBell, 4, Option.some Jvm.ClassFile.FieldType.int, 0)
theorem oX2_addBell : z_ok mX2_addBell := ⟨z_in (z_t2 1 (by decide +kernel)) rfl, z_iX2, by decide, by decide, by decide⟩
theorem pX2_addBell : z_np mX2_addBell 2 := fun sig hs => by
  have e : (parseMethodDescriptor yX2_addBell.desc).map (fun d => d.parameters.length) = some 2 := by decide +kernel
  rw [hs] at e
  exact (Option.some.inj e).symm
theorem vX2_addBell : z_okV mX2_addBell 2 2 := ⟨oX2_addBell, pX2_addBell, z_in (z_t2 0 (by decide +kernel)) rfl, z_in (z_tp 6 (by decide +kernel)) rfl, _, _, rfl⟩
abbrev mX2_isFree : zM := (yX2_isFree, cX2_isFree, 2, Option.some Jvm.ClassFile.FieldType.boolean, 0)
theorem oX2_isFree : z_ok mX2_isFree := ⟨z_in (z_t1 205 (by decide +kernel)) rfl, z_iX2, by decide, by decide, by decide⟩
theorem pX2_isFree : z_np mX2_isFree 1 := fun sig hs => by
  have e : (parseMethodDescriptor yX2_isFree.desc).map (fun d => d.parameters.length) = some 1 := by decide +kernel
  rw [hs] at e
  exact (Option.some.inj e).symm
theorem vX2_isFree : z_okV mX2_isFree 2 1 := ⟨oX2_isFree, pX2_isFree, z_in (z_t1 204 (by decide +kernel)) rfl, z_in (z_tp 4 (by decide +kernel)) rfl, _, _, rfl⟩
abbrev mX2_trait : zM := (yX2_trait, cX2_trait, 3, Option.some Jvm.ClassFile.FieldType.int, 1)
theorem oX2_trait : z_ok mX2_trait := ⟨z_in (z_t2 44 (by decide +kernel)) rfl, z_iX2, by decide, by decide, by decide⟩
theorem pX2_trait : z_np mX2_trait 2 := fun sig hs => by
  have e : (parseMethodDescriptor yX2_trait.desc).map (fun d => d.parameters.length) = some 2 := by decide +kernel
  rw [hs] at e
  exact (Option.some.inj e).symm
theorem vX2_trait : z_okV mX2_trait 2 2 := ⟨oX2_trait, pX2_trait, z_in (z_t2 43 (by decide +kernel)) rfl, z_in (z_tp 12 (by decide +kernel)) rfl, _, _, rfl⟩
abbrev mX2_setTrait : zM := (yX2_setTrait, cX2_setTrait, 4, Option.none, 0)
theorem oX2_setTrait : z_ok mX2_setTrait := ⟨z_in (z_t2 61 (by decide +kernel)) rfl, z_iX2, by decide, by decide, by decide⟩
theorem pX2_setTrait : z_np mX2_setTrait 3 := fun sig hs => by
  have e : (parseMethodDescriptor yX2_setTrait.desc).map (fun d => d.parameters.length) = some 3 := by decide +kernel
  rw [hs] at e
  exact (Option.some.inj e).symm
theorem vX2_setTrait : z_okV mX2_setTrait 2 3 := ⟨oX2_setTrait, pX2_setTrait, z_in (z_t2 60 (by decide +kernel)) rfl, z_in (z_tp 13 (by decide +kernel)) rfl, _, _, rfl⟩
abbrev mX2_heardAt : zM := (yX2_heardAt, cX2_heardAt, 4, Option.some Jvm.ClassFile.FieldType.int, 2)
theorem oX2_heardAt : z_ok mX2_heardAt := ⟨z_in (z_t1 201 (by decide +kernel)) rfl, z_iX2, by decide, by decide, by decide⟩
theorem pX2_heardAt : z_np mX2_heardAt 1 := fun sig hs => by
  have e : (parseMethodDescriptor yX2_heardAt.desc).map (fun d => d.parameters.length) = some 1 := by decide +kernel
  rw [hs] at e
  exact (Option.some.inj e).symm
theorem vX2_heardAt : z_okV mX2_heardAt 2 1 := ⟨oX2_heardAt, pX2_heardAt, z_in (z_t1 200 (by decide +kernel)) rfl, z_in (z_tp 3 (by decide +kernel)) rfl, _, _, rfl⟩
abbrev mX2_bellsAt : zM := (yX2_bellsAt, cX2_bellsAt, 4, Option.some Jvm.ClassFile.FieldType.int, 0)
theorem oX2_bellsAt : z_ok mX2_bellsAt := ⟨z_in (z_t1 219 (by decide +kernel)) rfl, z_iX2, by decide, by decide, by decide⟩
theorem pX2_bellsAt : z_np mX2_bellsAt 1 := fun sig hs => by
  have e : (parseMethodDescriptor yX2_bellsAt.desc).map (fun d => d.parameters.length) = some 1 := by decide +kernel
  rw [hs] at e
  exact (Option.some.inj e).symm
theorem vX2_bellsAt : z_okV mX2_bellsAt 2 1 := ⟨oX2_bellsAt, pX2_bellsAt, z_in (z_t1 218 (by decide +kernel)) rfl, z_in (z_tp 5 (by decide +kernel)) rfl, _, _, rfl⟩
abbrev mX2_weightOf : zM := (yX2_weightOf, cX2_weightOf, 4, Option.some Jvm.ClassFile.FieldType.int, 1)
theorem oX2_weightOf : z_ok mX2_weightOf := ⟨z_in (z_t2 97 (by decide +kernel)) rfl, z_iX2, by decide, by decide, by decide⟩
theorem pX2_weightOf : z_np mX2_weightOf 1 := fun sig hs => by
  have e : (parseMethodDescriptor yX2_weightOf.desc).map (fun d => d.parameters.length) = some 1 := by decide +kernel
  rw [hs] at e
  exact (Option.some.inj e).symm
theorem vX2_weightOf : z_okV mX2_weightOf 2 1 := ⟨oX2_weightOf, pX2_weightOf, z_in (z_t2 96 (by decide +kernel)) rfl, z_in (z_tp 15 (by decide +kernel)) rfl, _, _, rfl⟩
abbrev mX2_spotsHolding : zM := (yX2_spotsHolding, cX2_spotsHolding, 3, Option.some Jvm.ClassFile.FieldType.int, 0)
theorem oX2_spotsHolding : z_ok mX2_spotsHolding := ⟨z_in (z_t3 229 (by decide +kernel)) rfl, z_iX2, by decide, by decide, by decide⟩
theorem pX2_spotsHolding : z_np mX2_spotsHolding 0 := fun sig hs => by
  have e : (parseMethodDescriptor yX2_spotsHolding.desc).map (fun d => d.parameters.length) = some 0 := by decide +kernel
  rw [hs] at e
  exact (Option.some.inj e).symm
theorem vX2_spotsHolding : z_okV mX2_spotsHolding 2 0 := ⟨oX2_spotsHolding, pX2_spotsHolding, z_in (z_t3 228 (by decide +kernel)) rfl, z_in (z_tp 46 (by decide +kernel)) rfl, _, _, rfl⟩
abbrev mX2_worthFor : zM := (yX2_worthFor, cX2_worthFor, 4, Option.some Jvm.ClassFile.FieldType.int, 2)
theorem oX2_worthFor : z_ok mX2_worthFor := ⟨z_in (z_t2 17 (by decide +kernel)) rfl, z_iX2, by decide, by decide, by decide⟩
theorem pX2_worthFor : z_np mX2_worthFor 2 := fun sig hs => by
  have e : (parseMethodDescriptor yX2_worthFor.desc).map (fun d => d.parameters.length) = some 2 := by decide +kernel
  rw [hs] at e
  exact (Option.some.inj e).symm
theorem vX2_worthFor : z_okV mX2_worthFor 2 2 := ⟨oX2_worthFor, pX2_worthFor, z_in (z_t2 16 (by decide +kernel)) rfl, z_in (z_tp 9 (by decide +kernel)) rfl, _, _, rfl⟩
abbrev mX2_fromHunters : zM := (yX2_fromHunters, cX2_fromHunters, 4, Option.some Jvm.ClassFile.FieldType.int, 1)
theorem oX2_fromHunters : z_ok mX2_fromHunters := ⟨z_in (z_t2 21 (by decide +kernel)) rfl, z_iX2, by decide, by decide, by decide⟩
theorem pX2_fromHunters : z_np mX2_fromHunters 1 := fun sig hs => by
  have e : (parseMethodDescriptor yX2_fromHunters.desc).map (fun d => d.parameters.length) = some 1 := by decide +kernel
  rw [hs] at e
  exact (Option.some.inj e).symm
theorem vX2_fromHunters : z_okV mX2_fromHunters 2 1 := ⟨oX2_fromHunters, pX2_fromHunters, z_in (z_t2 20 (by decide +kernel)) rfl, z_in (z_tp 10 (by decide +kernel)) rfl, _, _, rfl⟩
abbrev mX2_nearestOther : zM := (yX2_nearestOther, cX2_nearestOther, 8, Option.some Jvm.ClassFile.FieldType.int, 1)
theorem oX2_nearestOther : z_ok mX2_nearestOther := ⟨z_in (z_t2 28 (by decide +kernel)) rfl, z_iX2, by decide, by decide, by decide⟩
theorem pX2_nearestOther : z_np mX2_nearestOther 4 := fun sig hs => by
  have e : (parseMethodDescriptor yX2_nearestOther.desc).map (fun d => d.parameters.length) = some 4 := by decide +kernel
  rw [hs] at e
  exact (Option.some.inj e).symm
theorem vX2_nearestOther : z_okV mX2_nearestOther 2 4 := ⟨oX2_nearestOther, pX2_nearestOther, z_in (z_t2 27 (by decide +kernel)) rfl, z_in (z_tp 11 (by decide +kernel)) rfl, _, _, rfl⟩
abbrev mX2_nextCell : zM := (yX2_nextCell, cX2_nextCell, 8, Option.some Jvm.ClassFile.FieldType.int, 3)
theorem oX2_nextCell : z_ok mX2_nextCell := ⟨z_in (z_t2 13 (by decide +kernel)) rfl, z_iX2, by decide, by decide, by decide⟩
theorem pX2_nextCell : z_np mX2_nextCell 1 := fun sig hs => by
  have e : (parseMethodDescriptor yX2_nextCell.desc).map (fun d => d.parameters.length) = some 1 := by decide +kernel
  rw [hs] at e
  exact (Option.some.inj e).symm
theorem vX2_nextCell : z_okV mX2_nextCell 2 1 := ⟨oX2_nextCell, pX2_nextCell, z_in (z_t2 12 (by decide +kernel)) rfl, z_in (z_tp 8 (by decide +kernel)) rfl, _, _, rfl⟩
abbrev mX2_cellBeside : zM := (yX2_cellBeside, cX2_cellBeside, 2, Option.some Jvm.ClassFile.FieldType.int, 0)
theorem oX2_cellBeside : z_ok mX2_cellBeside := ⟨z_in (z_t2 36 (by decide +kernel)) rfl, z_iX2, by decide, by decide, by decide⟩
theorem pX2_cellBeside : z_np mX2_cellBeside 2 := fun sig hs => by
  have e : (parseMethodDescriptor yX2_cellBeside.desc).map (fun d => d.parameters.length) = some 2 := by decide +kernel
  rw [hs] at e
  exact (Option.some.inj e).symm
theorem sX2_cellBeside : z_okS mX2_cellBeside 2 := ⟨oX2_cellBeside, pX2_cellBeside, z_in (z_t2 35 (by decide +kernel)) rfl⟩
abbrev mX2_hourGoes : zM := (yX2_hourGoes, cX2_hourGoes, 4, Option.some Jvm.ClassFile.FieldType.boolean, 4)
theorem oX2_hourGoes : z_ok mX2_hourGoes := ⟨z_in (z_t2 74 (by decide +kernel)) rfl, z_iX2, by decide, by decide, by decide⟩
theorem pX2_hourGoes : z_np mX2_hourGoes 0 := fun sig hs => by
  have e : (parseMethodDescriptor yX2_hourGoes.desc).map (fun d => d.parameters.length) = some 0 := by decide +kernel
  rw [hs] at e
  exact (Option.some.inj e).symm
theorem vX2_hourGoes : z_okV mX2_hourGoes 2 0 := ⟨oX2_hourGoes, pX2_hourGoes, z_in (z_t2 73 (by decide +kernel)) rfl, z_in (z_tp 14 (by decide +kernel)) rfl, _, _, rfl⟩
abbrev mX2_runHours : zM := (yX2_runHours, cX2_runHours, 4, Option.none, 5)
theorem oX2_runHours : z_ok mX2_runHours := ⟨z_in (z_t2 118 (by decide +kernel)) rfl, z_iX2, by decide, by decide, by decide⟩
theorem pX2_runHours : z_np mX2_runHours 1 := fun sig hs => by
  have e : (parseMethodDescriptor yX2_runHours.desc).map (fun d => d.parameters.length) = some 1 := by decide +kernel
  rw [hs] at e
  exact (Option.some.inj e).symm
theorem vX2_runHours : z_okV mX2_runHours 2 1 := ⟨oX2_runHours, pX2_runHours, z_in (z_t2 117 (by decide +kernel)) rfl, z_in (z_tp 17 (by decide +kernel)) rfl, _, _, rfl⟩
abbrev mX2_tillCaught : zM := (yX2_tillCaught, cX2_tillCaught, 5, Option.some Jvm.ClassFile.FieldType.int, 5)
theorem oX2_tillCaught : z_ok mX2_tillCaught := ⟨z_in (z_t2 127 (by decide +kernel)) rfl, z_iX2, by decide, by decide, by decide⟩
theorem pX2_tillCaught : z_np mX2_tillCaught 2 := fun sig hs => by
  have e : (parseMethodDescriptor yX2_tillCaught.desc).map (fun d => d.parameters.length) = some 2 := by decide +kernel
  rw [hs] at e
  exact (Option.some.inj e).symm
theorem vX2_tillCaught : z_okV mX2_tillCaught 2 2 := ⟨oX2_tillCaught, pX2_tillCaught, z_in (z_t2 126 (by decide +kernel)) rfl, z_in (z_tp 18 (by decide +kernel)) rfl, _, _, rfl⟩
abbrev mX2_draw : zM := (yX2_draw, cX2_draw, 1, Option.some Jvm.ClassFile.FieldType.int, 0)
theorem oX2_draw : z_ok mX2_draw := ⟨z_in (z_t3 23 (by decide +kernel)) rfl, z_iX2, by decide, by decide, by decide⟩
theorem pX2_draw : z_np mX2_draw 0 := fun sig hs => by
  have e : (parseMethodDescriptor yX2_draw.desc).map (fun d => d.parameters.length) = some 0 := by decide +kernel
  rw [hs] at e
  exact (Option.some.inj e).symm
theorem vX2_draw : z_okV mX2_draw 2 0 := ⟨oX2_draw, pX2_draw, z_in (z_t3 22 (by decide +kernel)) rfl, z_in (z_tp 28 (by decide +kernel)) rfl, _, _, rfl⟩
abbrev mX2_strike : zM := (yX2_strike, cX2_strike, 3, Option.none, 1)
theorem oX2_strike : z_ok mX2_strike := ⟨z_in (z_t3 19 (by decide +kernel)) rfl, z_iX2, by decide, by decide, by decide⟩
theorem pX2_strike : z_np mX2_strike 0 := fun sig hs => by
  have e : (parseMethodDescriptor yX2_strike.desc).map (fun d => d.parameters.length) = some 0 := by decide +kernel
  rw [hs] at e
  exact (Option.some.inj e).symm
theorem vX2_strike : z_okV mX2_strike 2 0 := ⟨oX2_strike, pX2_strike, z_in (z_t3 18 (by decide +kernel)) rfl, z_in (z_tp 27 (by decide +kernel)) rfl, _, _, rfl⟩
abbrev mX2_notesThere : zM := (yX2_notesThere, cX2_notesThere, 3, Option.some Jvm.ClassFile.FieldType.int, 0)
theorem oX2_notesThere : z_ok mX2_notesThere := ⟨z_in (z_t3 6 (by decide +kernel)) rfl, z_iX2, by decide, by decide, by decide⟩
theorem pX2_notesThere : z_np mX2_notesThere 0 := fun sig hs => by
  have e : (parseMethodDescriptor yX2_notesThere.desc).map (fun d => d.parameters.length) = some 0 := by decide +kernel
  rw [hs] at e
  exact (Option.some.inj e).symm
theorem vX2_notesThere : z_okV mX2_notesThere 2 0 := ⟨oX2_notesThere, pX2_notesThere, z_in (z_t3 5 (by decide +kernel)) rfl, z_in (z_tp 26 (by decide +kernel)) rfl, _, _, rfl⟩
abbrev mX2_isRing : zM := (yX2_isRing, cX2_isRing, 4, Option.some Jvm.ClassFile.FieldType.boolean, 2)
theorem oX2_isRing : z_ok mX2_isRing := ⟨z_in (z_t2 226 (by decide +kernel)) rfl, z_iX2, by decide, by decide, by decide⟩
theorem pX2_isRing : z_np mX2_isRing 1 := fun sig hs => by
  have e : (parseMethodDescriptor yX2_isRing.desc).map (fun d => d.parameters.length) = some 1 := by decide +kernel
  rw [hs] at e
  exact (Option.some.inj e).symm
theorem vX2_isRing : z_okV mX2_isRing 2 1 := ⟨oX2_isRing, pX2_isRing, z_in (z_t2 225 (by decide +kernel)) rfl, z_in (z_tp 25 (by decide +kernel)) rfl, _, _, rfl⟩
abbrev mX2_greatestRing : zM := (yX2_greatestRing, cX2_greatestRing, 3, Option.some Jvm.ClassFile.FieldType.int, 3)
theorem oX2_greatestRing : z_ok mX2_greatestRing := ⟨z_in (z_t2 221 (by decide +kernel)) rfl, z_iX2, by decide, by decide, by decide⟩
theorem pX2_greatestRing : z_np mX2_greatestRing 0 := fun sig hs => by
  have e : (parseMethodDescriptor yX2_greatestRing.desc).map (fun d => d.parameters.length) = some 0 := by decide +kernel
  rw [hs] at e
  exact (Option.some.inj e).symm
theorem vX2_greatestRing : z_okV mX2_greatestRing 2 0 := ⟨oX2_greatestRing, pX2_greatestRing, z_in (z_t2 220 (by decide +kernel)) rfl, z_in (z_tp 24 (by decide +kernel)) rfl, _, _, rfl⟩
abbrev mX2_followsInRing : zM := (yX2_followsInRing, cX2_followsInRing, 4, Option.some Jvm.ClassFile.FieldType.boolean, 0)
theorem oX2_followsInRing : z_ok mX2_followsInRing := ⟨z_in (z_t3 209 (by decide +kernel)) rfl, z_iX2, by decide, by decide, by decide⟩
theorem pX2_followsInRing : z_np mX2_followsInRing 2 := fun sig hs => by
  have e : (parseMethodDescriptor yX2_followsInRing.desc).map (fun d => d.parameters.length) = some 2 := by decide +kernel
  rw [hs] at e
  exact (Option.some.inj e).symm
theorem vX2_followsInRing : z_okV mX2_followsInRing 2 2 := ⟨oX2_followsInRing, pX2_followsInRing, z_in (z_t3 208 (by decide +kernel)) rfl, z_in (z_tp 45 (by decide +kernel)) rfl, _, _, rfl⟩
abbrev mX3_net : zM := (yX3_net, cX3_net, 4, Option.some Jvm.ClassFile.FieldType.int, 2)
theorem oX3_net : z_ok mX3_net := ⟨z_in (z_t1 169 (by decide +kernel)) rfl, z_iX3, by decide, by decide, by decide⟩
theorem pX3_net : z_np mX3_net 2 := fun sig hs => by
  have e : (parseMethodDescriptor yX3_net.desc).map (fun d => d.parameters.length) = some 2 := by decide +kernel
  rw [hs] at e
  exact (Option.some.inj e).symm
theorem vX3_net : z_okV mX3_net 3 2 := ⟨oX3_net, pX3_net, z_in (z_t1 167 (by decide +kernel)) rfl, z_in (z_t1 168 (by decide +kernel)) rfl, _, _, rfl⟩
abbrev mX3_thick : zM := (yX3_thick, cX3_thick, 4, Option.some Jvm.ClassFile.FieldType.int, 1)
theorem oX3_thick : z_ok mX3_thick := ⟨z_in (z_t1 193 (by decide +kernel)) rfl, z_iX3, by decide, by decide, by decide⟩
theorem pX3_thick : z_np mX3_thick 2 := fun sig hs => by
  have e : (parseMethodDescriptor yX3_thick.desc).map (fun d => d.parameters.length) = some 2 := by decide +kernel
  rw [hs] at e
  exact (Option.some.inj e).symm
theorem vX3_thick : z_okV mX3_thick 3 2 := ⟨oX3_thick, pX3_thick, z_in (z_t1 191 (by decide +kernel)) rfl, z_in (z_t1 192 (by decide +kernel)) rfl, _, _, rfl⟩
abbrev mX3_cell : zM := (yX3_cell, cX3_cell, 3, Option.some Jvm.ClassFile.FieldType.int, 3)
theorem oX3_cell : z_ok mX3_cell := ⟨z_in (z_t1 197 (by decide +kernel)) rfl, z_iX3, by decide, by decide, by decide⟩
theorem pX3_cell : z_np mX3_cell 2 := fun sig hs => by
  have e : (parseMethodDescriptor yX3_cell.desc).map (fun d => d.parameters.length) = some 2 := by decide +kernel
  rw [hs] at e
  exact (Option.some.inj e).symm
theorem vX3_cell : z_okV mX3_cell 3 2 := ⟨oX3_cell, pX3_cell, z_in (z_t1 195 (by decide +kernel)) rfl, z_in (z_t1 196 (by decide +kernel)) rfl, _, _, rfl⟩
abbrev mX3_hunter : zM := (yX3_hunter, cX3_hunter, 4, Option.some Jvm.ClassFile.FieldType.int, 1)
theorem oX3_hunter : z_ok mX3_hunter := ⟨z_in (z_t1 223 (by decide +kernel)) rfl, z_iX3, by decide, by decide, by decide⟩
theorem pX3_hunter : z_np mX3_hunter 2 := fun sig hs => by
  have e : (parseMethodDescriptor yX3_hunter.desc).map (fun d => d.parameters.length) = some 2 := by decide +kernel
  rw [hs] at e
  exact (Option.some.inj e).symm
theorem vX3_hunter : z_okV mX3_hunter 3 2 := ⟨oX3_hunter, pX3_hunter, z_in (z_t1 221 (by decide +kernel)) rfl, z_in (z_t1 222 (by decide +kernel)) rfl, _, _, rfl⟩
abbrev mX3_fear : zM := (yX3_fear, cX3_fear, 3, Option.some Jvm.ClassFile.FieldType.int, 1)
theorem oX3_fear : z_ok mX3_fear := ⟨z_in (z_t1 230 (by decide +kernel)) rfl, z_iX3, by decide, by decide, by decide⟩
theorem pX3_fear : z_np mX3_fear 1 := fun sig hs => by
  have e : (parseMethodDescriptor yX3_fear.desc).map (fun d => d.parameters.length) = some 1 := by decide +kernel
  rw [hs] at e
  exact (Option.some.inj e).symm
theorem vX3_fear : z_okV mX3_fear 3 1 := ⟨oX3_fear, pX3_fear, z_in (z_t1 228 (by decide +kernel)) rfl, z_in (z_t1 229 (by decide +kernel)) rfl, _, _, rfl⟩
abbrev mX3_bell : zM := (yX3_bell, cX3_bell, 3, Option.some Jvm.ClassFile.FieldType.int, 1)
theorem oX3_bell : z_ok mX3_bell := ⟨z_in (z_t1 234 (by decide +kernel)) rfl, z_iX3, by decide, by decide, by decide⟩
theorem pX3_bell : z_np mX3_bell 2 := fun sig hs => by
  have e : (parseMethodDescriptor yX3_bell.desc).map (fun d => d.parameters.length) = some 2 := by decide +kernel
  rw [hs] at e
  exact (Option.some.inj e).symm
theorem vX3_bell : z_okV mX3_bell 3 2 := ⟨oX3_bell, pX3_bell, z_in (z_t1 232 (by decide +kernel)) rfl, z_in (z_t1 233 (by decide +kernel)) rfl, _, _, rfl⟩
abbrev mX3_of : zM := (yX3_of, cX3_of, 3, Option.some Jvm.ClassFile.FieldType.int, 4)
theorem oX3_of : z_ok mX3_of := ⟨z_in (z_t2 5 (by decide +kernel)) rfl, z_iX3, by decide, by decide, by decide⟩
theorem pX3_of : z_np mX3_of 2 := fun sig hs => by
  have e : (parseMethodDescriptor yX3_of.desc).map (fun d => d.parameters.length) = some 2 := by decide +kernel
  rw [hs] at e
  exact (Option.some.inj e).symm
theorem vX3_of : z_okV mX3_of 3 2 := ⟨oX3_of, pX3_of, z_in (z_t2 3 (by decide +kernel)) rfl, z_in (z_t2 4 (by decide +kernel)) rfl, _, _, rfl⟩
abbrev mX3_change : zM := (yX3_change, cX3_change, 5, Option.some Jvm.ClassFile.FieldType.int, 2)
theorem oX3_change : z_ok mX3_change := ⟨z_in (z_t2 48 (by decide +kernel)) rfl, z_iX3, by decide, by decide, by decide⟩
theorem pX3_change : z_np mX3_change 3 := fun sig hs => by
  have e : (parseMethodDescriptor yX3_change.desc).map (fun d => d.parameters.length) = some 3 := by decide +kernel
  rw [hs] at e
  exact (Option.some.inj e).symm
theorem vX3_change : z_okV mX3_change 3 3 := ⟨oX3_change, pX3_change, z_in (z_t2 46 (by decide +kernel)) rfl, z_in (z_t2 47 (by decide +kernel)) rfl, _, _, rfl⟩
abbrev mX3_worth : zM := (yX3_worth, cX3_worth, 3, Option.some Jvm.ClassFile.FieldType.int, 3)
theorem oX3_worth : z_ok mX3_worth := ⟨z_in (z_t2 65 (by decide +kernel)) rfl, z_iX3, by decide, by decide, by decide⟩
theorem pX3_worth : z_np mX3_worth 2 := fun sig hs => by
  have e : (parseMethodDescriptor yX3_worth.desc).map (fun d => d.parameters.length) = some 2 := by decide +kernel
  rw [hs] at e
  exact (Option.some.inj e).symm
theorem vX3_worth : z_okV mX3_worth 3 2 := ⟨oX3_worth, pX3_worth, z_in (z_t2 63 (by decide +kernel)) rfl, z_in (z_t2 64 (by decide +kernel)) rfl, _, _, rfl⟩
abbrev mX3_go : zM := (yX3_go, cX3_go, 3, Option.some Jvm.ClassFile.FieldType.int, 5)
theorem oX3_go : z_ok mX3_go := ⟨z_in (z_t2 69 (by decide +kernel)) rfl, z_iX3, by decide, by decide, by decide⟩
theorem pX3_go : z_np mX3_go 1 := fun sig hs => by
  have e : (parseMethodDescriptor yX3_go.desc).map (fun d => d.parameters.length) = some 1 := by decide +kernel
  rw [hs] at e
  exact (Option.some.inj e).symm
theorem vX3_go : z_okV mX3_go 3 1 := ⟨oX3_go, pX3_go, z_in (z_t2 67 (by decide +kernel)) rfl, z_in (z_t2 68 (by decide +kernel)) rfl, _, _, rfl⟩
abbrev mX3_now : zM := (yX3_now, cX3_now, 2, Option.some Jvm.ClassFile.FieldType.int, 2)
theorem oX3_now : z_ok mX3_now := ⟨z_in (z_t2 87 (by decide +kernel)) rfl, z_iX3, by decide, by decide, by decide⟩
theorem pX3_now : z_np mX3_now 1 := fun sig hs => by
  have e : (parseMethodDescriptor yX3_now.desc).map (fun d => d.parameters.length) = some 1 := by decide +kernel
  rw [hs] at e
  exact (Option.some.inj e).symm
theorem vX3_now : z_okV mX3_now 3 1 := ⟨oX3_now, pX3_now, z_in (z_t2 85 (by decide +kernel)) rfl, z_in (z_t2 86 (by decide +kernel)) rfl, _, _, rfl⟩
abbrev mX3_loud : zM := (yX3_loud, cX3_loud, 3, Option.some Jvm.ClassFile.FieldType.int, 2)
theorem oX3_loud : z_ok mX3_loud := ⟨z_in (z_t2 101 (by decide +kernel)) rfl, z_iX3, by decide, by decide, by decide⟩
theorem pX3_loud : z_np mX3_loud 2 := fun sig hs => by
  have e : (parseMethodDescriptor yX3_loud.desc).map (fun d => d.parameters.length) = some 2 := by decide +kernel
  rw [hs] at e
  exact (Option.some.inj e).symm
theorem vX3_loud : z_okV mX3_loud 3 2 := ⟨oX3_loud, pX3_loud, z_in (z_t2 99 (by decide +kernel)) rfl, z_in (z_t2 100 (by decide +kernel)) rfl, _, _, rfl⟩
abbrev mX3_ahead : zM := (yX3_ahead, cX3_ahead, 3, Option.some Jvm.ClassFile.FieldType.int, 6)
theorem oX3_ahead : z_ok mX3_ahead := ⟨z_in (z_t2 107 (by decide +kernel)) rfl, z_iX3, by decide, by decide, by decide⟩
theorem pX3_ahead : z_np mX3_ahead 2 := fun sig hs => by
  have e : (parseMethodDescriptor yX3_ahead.desc).map (fun d => d.parameters.length) = some 2 := by decide +kernel
  rw [hs] at e
  exact (Option.some.inj e).symm
theorem vX3_ahead : z_okV mX3_ahead 3 2 := ⟨oX3_ahead, pX3_ahead, z_in (z_t2 105 (by decide +kernel)) rfl, z_in (z_t2 106 (by decide +kernel)) rfl, _, _, rfl⟩
abbrev mX3_when : zM := (yX3_when, cX3_when, 3, Option.some Jvm.ClassFile.FieldType.int, 6)
theorem oX3_when : z_ok mX3_when := ⟨z_in (z_t2 123 (by decide +kernel)) rfl, z_iX3, by decide, by decide, by decide⟩
theorem pX3_when : z_np mX3_when 1 := fun sig hs => by
  have e : (parseMethodDescriptor yX3_when.desc).map (fun d => d.parameters.length) = some 1 := by decide +kernel
  rw [hs] at e
  exact (Option.some.inj e).symm
theorem vX3_when : z_okV mX3_when 3 1 := ⟨oX3_when, pX3_when, z_in (z_t2 121 (by decide +kernel)) rfl, z_in (z_t2 122 (by decide +kernel)) rfl, _, _, rfl⟩
abbrev mX3_still : zM := (yX3_still, cX3_still, 2, Option.some Jvm.ClassFile.FieldType.int, 5)
theorem oX3_still : z_ok mX3_still := ⟨z_in (z_t2 131 (by decide +kernel)) rfl, z_iX3, by decide, by decide, by decide⟩
theorem pX3_still : z_np mX3_still 0 := fun sig hs => by
  have e : (parseMethodDescriptor yX3_still.desc).map (fun d => d.parameters.length) = some 0 := by decide +kernel
  rw [hs] at e
  exact (Option.some.inj e).symm
theorem vX3_still : z_okV mX3_still 3 0 := ⟨oX3_still, pX3_still, z_in (z_t2 129 (by decide +kernel)) rfl, z_in (z_t2 130 (by decide +kernel)) rfl, _, _, rfl⟩
abbrev mX3_caught : zM := (yX3_caught, cX3_caught, 2, Option.some Jvm.ClassFile.FieldType.int, 6)
theorem oX3_caught : z_ok mX3_caught := ⟨z_in (z_t2 135 (by decide +kernel)) rfl, z_iX3, by decide, by decide, by decide⟩
theorem pX3_caught : z_np mX3_caught 1 := fun sig hs => by
  have e : (parseMethodDescriptor yX3_caught.desc).map (fun d => d.parameters.length) = some 1 := by decide +kernel
  rw [hs] at e
  exact (Option.some.inj e).symm
theorem vX3_caught : z_okV mX3_caught 3 1 := ⟨oX3_caught, pX3_caught, z_in (z_t2 133 (by decide +kernel)) rfl, z_in (z_t2 134 (by decide +kernel)) rfl, _, _, rfl⟩
abbrev mX3_netFor : zM := (yX3_netFor, cX3_netFor, 9, Option.some Jvm.ClassFile.FieldType.int, 6)
theorem oX3_netFor : z_ok mX3_netFor := ⟨z_in (z_t2 139 (by decide +kernel)) rfl, z_iX3, by decide, by decide, by decide⟩
theorem pX3_netFor : z_np mX3_netFor 1 := fun sig hs => by
  have e : (parseMethodDescriptor yX3_netFor.desc).map (fun d => d.parameters.length) = some 1 := by decide +kernel
  rw [hs] at e
  exact (Option.some.inj e).symm
theorem vX3_netFor : z_okV mX3_netFor 3 1 := ⟨oX3_netFor, pX3_netFor, z_in (z_t2 137 (by decide +kernel)) rfl, z_in (z_t2 138 (by decide +kernel)) rfl, _, _, rfl⟩
abbrev mX3_best : zM := (yX3_best, cX3_best, 9, Option.some Jvm.ClassFile.FieldType.int, 6)
theorem oX3_best : z_ok mX3_best := ⟨z_in (z_t2 144 (by decide +kernel)) rfl, z_iX3, by decide, by decide, by decide⟩
theorem pX3_best : z_np mX3_best 1 := fun sig hs => by
  have e : (parseMethodDescriptor yX3_best.desc).map (fun d => d.parameters.length) = some 1 := by decide +kernel
  rw [hs] at e
  exact (Option.some.inj e).symm
theorem vX3_best : z_okV mX3_best 3 1 := ⟨oX3_best, pX3_best, z_in (z_t2 142 (by decide +kernel)) rfl, z_in (z_t2 143 (by decide +kernel)) rfl, _, _, rfl⟩
abbrev mX3_drive : zM := (yX3_drive, cX3_drive, 7, Option.some Jvm.ClassFile.FieldType.int, 6)
theorem oX3_drive : z_ok mX3_drive := ⟨z_in (z_t2 148 (by decide +kernel)) rfl, z_iX3, by decide, by decide, by decide⟩
theorem pX3_drive : z_np mX3_drive 2 := fun sig hs => by
  have e : (parseMethodDescriptor yX3_drive.desc).map (fun d => d.parameters.length) = some 2 := by decide +kernel
  rw [hs] at e
  exact (Option.some.inj e).symm
theorem vX3_drive : z_okV mX3_drive 3 2 := ⟨oX3_drive, pX3_drive, z_in (z_t2 146 (by decide +kernel)) rfl, z_in (z_t2 147 (by decide +kernel)) rfl, _, _, rfl⟩
abbrev mX3_kindFor : zM := (yX3_kindFor, cX3_kindFor, 7, Option.some Jvm.ClassFile.FieldType.int, 6)
theorem oX3_kindFor : z_ok mX3_kindFor := ⟨z_in (z_t2 152 (by decide +kernel)) rfl, z_iX3, by decide, by decide, by decide⟩
theorem pX3_kindFor : z_np mX3_kindFor 1 := fun sig hs => by
  have e : (parseMethodDescriptor yX3_kindFor.desc).map (fun d => d.parameters.length) = some 1 := by decide +kernel
  rw [hs] at e
  exact (Option.some.inj e).symm
theorem vX3_kindFor : z_okV mX3_kindFor 3 1 := ⟨oX3_kindFor, pX3_kindFor, z_in (z_t2 150 (by decide +kernel)) rfl, z_in (z_t2 151 (by decide +kernel)) rfl, _, _, rfl⟩
abbrev mX3_stands : zM := (yX3_stands, cX3_stands, 4, Option.some Jvm.ClassFile.FieldType.int, 4)
theorem oX3_stands : z_ok mX3_stands := ⟨z_in (z_t2 156 (by decide +kernel)) rfl, z_iX3, by decide, by decide, by decide⟩
theorem pX3_stands : z_np mX3_stands 2 := fun sig hs => by
  have e : (parseMethodDescriptor yX3_stands.desc).map (fun d => d.parameters.length) = some 2 := by decide +kernel
  rw [hs] at e
  exact (Option.some.inj e).symm
theorem vX3_stands : z_okV mX3_stands 3 2 := ⟨oX3_stands, pX3_stands, z_in (z_t2 154 (by decide +kernel)) rfl, z_in (z_t2 155 (by decide +kernel)) rfl, _, _, rfl⟩
abbrev mX3_where : zM := (yX3_where, cX3_where, 7, Option.some Jvm.ClassFile.FieldType.int, 4)
theorem oX3_where : z_ok mX3_where := ⟨z_in (z_t2 185 (by decide +kernel)) rfl, z_iX3, by decide, by decide, by decide⟩
theorem pX3_where : z_np mX3_where 2 := fun sig hs => by
  have e : (parseMethodDescriptor yX3_where.desc).map (fun d => d.parameters.length) = some 2 := by decide +kernel
  rw [hs] at e
  exact (Option.some.inj e).symm
theorem vX3_where : z_okV mX3_where 3 2 := ⟨oX3_where, pX3_where, z_in (z_t2 183 (by decide +kernel)) rfl, z_in (z_t2 184 (by decide +kernel)) rfl, _, _, rfl⟩
abbrev mX3_ear : zM := (yX3_ear, cX3_ear, 10, Option.some Jvm.ClassFile.FieldType.int, 4)
theorem oX3_ear : z_ok mX3_ear := ⟨z_in (z_t2 189 (by decide +kernel)) rfl, z_iX3, by decide, by decide, by decide⟩
theorem pX3_ear : z_np mX3_ear 2 := fun sig hs => by
  have e : (parseMethodDescriptor yX3_ear.desc).map (fun d => d.parameters.length) = some 2 := by decide +kernel
  rw [hs] at e
  exact (Option.some.inj e).symm
theorem vX3_ear : z_okV mX3_ear 3 2 := ⟨oX3_ear, pX3_ear, z_in (z_t2 187 (by decide +kernel)) rfl, z_in (z_t2 188 (by decide +kernel)) rfl, _, _, rfl⟩
abbrev mX3_whose : zM := (yX3_whose, cX3_whose, 5, Option.some Jvm.ClassFile.FieldType.int, 3)
theorem oX3_whose : z_ok mX3_whose := ⟨z_in (z_t2 197 (by decide +kernel)) rfl, z_iX3, by decide, by decide, by decide⟩
theorem pX3_whose : z_np mX3_whose 1 := fun sig hs => by
  have e : (parseMethodDescriptor yX3_whose.desc).map (fun d => d.parameters.length) = some 1 := by decide +kernel
  rw [hs] at e
  exact (Option.some.inj e).symm
theorem vX3_whose : z_okV mX3_whose 3 1 := ⟨oX3_whose, pX3_whose, z_in (z_t2 195 (by decide +kernel)) rfl, z_in (z_t2 196 (by decide +kernel)) rfl, _, _, rfl⟩
abbrev mX3_stock : zM := (yX3_stock, cX3_stock, 4, Option.some Jvm.ClassFile.FieldType.int, 2)
theorem oX3_stock : z_ok mX3_stock := ⟨z_in (z_t2 202 (by decide +kernel)) rfl, z_iX3, by decide, by decide, by decide⟩
theorem pX3_stock : z_np mX3_stock 3 := fun sig hs => by
  have e : (parseMethodDescriptor yX3_stock.desc).map (fun d => d.parameters.length) = some 3 := by decide +kernel
  rw [hs] at e
  exact (Option.some.inj e).symm
theorem vX3_stock : z_okV mX3_stock 3 3 := ⟨oX3_stock, pX3_stock, z_in (z_t2 200 (by decide +kernel)) rfl, z_in (z_t2 201 (by decide +kernel)) rfl, _, _, rfl⟩
abbrev mX3_lasts : zM := (yX3_lasts, cX3_lasts, 7, Option.some Jvm.ClassFile.FieldType.int, 2)
theorem oX3_lasts : z_ok mX3_lasts := ⟨z_in (z_t2 213 (by decide +kernel)) rfl, z_iX3, by decide, by decide, by decide⟩
theorem pX3_lasts : z_np mX3_lasts 2 := fun sig hs => by
  have e : (parseMethodDescriptor yX3_lasts.desc).map (fun d => d.parameters.length) = some 2 := by decide +kernel
  rw [hs] at e
  exact (Option.some.inj e).symm
theorem vX3_lasts : z_okV mX3_lasts 3 2 := ⟨oX3_lasts, pX3_lasts, z_in (z_t2 211 (by decide +kernel)) rfl, z_in (z_t2 212 (by decide +kernel)) rfl, _, _, rfl⟩
abbrev mX3_ring : zM := (yX3_ring, cX3_ring, 1, Option.some Jvm.ClassFile.FieldType.int, 4)
theorem oX3_ring : z_ok mX3_ring := ⟨z_in (z_t2 217 (by decide +kernel)) rfl, z_iX3, by decide, by decide, by decide⟩
theorem pX3_ring : z_np mX3_ring 0 := fun sig hs => by
  have e : (parseMethodDescriptor yX3_ring.desc).map (fun d => d.parameters.length) = some 0 := by decide +kernel
  rw [hs] at e
  exact (Option.some.inj e).symm
theorem vX3_ring : z_okV mX3_ring 3 0 := ⟨oX3_ring, pX3_ring, z_in (z_t2 215 (by decide +kernel)) rfl, z_in (z_t2 216 (by decide +kernel)) rfl, _, _, rfl⟩
abbrev mX3_rings : zM := (yX3_rings, cX3_rings, 1, Option.some Jvm.ClassFile.FieldType.int, 4)
theorem oX3_rings : z_ok mX3_rings := ⟨z_in (z_t2 233 (by decide +kernel)) rfl, z_iX3, by decide, by decide, by decide⟩
theorem pX3_rings : z_np mX3_rings 0 := fun sig hs => by
  have e : (parseMethodDescriptor yX3_rings.desc).map (fun d => d.parameters.length) = some 0 := by decide +kernel
  rw [hs] at e
  exact (Option.some.inj e).symm
theorem vX3_rings : z_okV mX3_rings 3 0 := ⟨oX3_rings, pX3_rings, z_in (z_t2 231 (by decide +kernel)) rfl, z_in (z_t2 232 (by decide +kernel)) rfl, _, _, rfl⟩
abbrev mX3_peals : zM := (yX3_peals, cX3_peals, 3, Option.some Jvm.ClassFile.FieldType.int, 3)
theorem oX3_peals : z_ok mX3_peals := ⟨z_in (z_t2 237 (by decide +kernel)) rfl, z_iX3, by decide, by decide, by decide⟩
theorem pX3_peals : z_np mX3_peals 0 := fun sig hs => by
  have e : (parseMethodDescriptor yX3_peals.desc).map (fun d => d.parameters.length) = some 0 := by decide +kernel
  rw [hs] at e
  exact (Option.some.inj e).symm
theorem vX3_peals : z_okV mX3_peals 3 0 := ⟨oX3_peals, pX3_peals, z_in (z_t2 235 (by decide +kernel)) rfl, z_in (z_t2 236 (by decide +kernel)) rfl, _, _, rfl⟩
abbrev mX3_wanted : zM := (yX3_wanted, cX3_wanted, 6, Option.some Jvm.ClassFile.FieldType.int, 2)
theorem oX3_wanted : z_ok mX3_wanted := ⟨z_in (z_t3 2 (by decide +kernel)) rfl, z_iX3, by decide, by decide, by decide⟩
theorem pX3_wanted : z_np mX3_wanted 0 := fun sig hs => by
  have e : (parseMethodDescriptor yX3_wanted.desc).map (fun d => d.parameters.length) = some 0 := by decide +kernel
  rw [hs] at e
  exact (Option.some.inj e).symm
theorem vX3_wanted : z_okV mX3_wanted 3 0 := ⟨oX3_wanted, pX3_wanted, z_in (z_t3 0 (by decide +kernel)) rfl, z_in (z_t3 1 (by decide +kernel)) rfl, _, _, rfl⟩
abbrev mX3_changes : zM := (yX3_changes, cX3_changes, 5, Option.some Jvm.ClassFile.FieldType.long, 1)
theorem oX3_changes : z_ok mX3_changes := ⟨z_in (z_t3 11 (by decide +kernel)) rfl, z_iX3, by decide, by decide, by decide⟩
theorem pX3_changes : z_np mX3_changes 1 := fun sig hs => by
  have e : (parseMethodDescriptor yX3_changes.desc).map (fun d => d.parameters.length) = some 1 := by decide +kernel
  rw [hs] at e
  exact (Option.some.inj e).symm
theorem vX3_changes : z_okV mX3_changes 3 1 := ⟨oX3_changes, pX3_changes, z_in (z_t3 9 (by decide +kernel)) rfl, z_in (z_t3 10 (by decide +kernel)) rfl, _, _, rfl⟩
abbrev mX3_thunder : zM := (yX3_thunder, cX3_thunder, 3, Option.some Jvm.ClassFile.FieldType.int, 5)
theorem oX3_thunder : z_ok mX3_thunder := ⟨z_in (z_t3 15 (by decide +kernel)) rfl, z_iX3, by decide, by decide, by decide⟩
theorem pX3_thunder : z_np mX3_thunder 1 := fun sig hs => by
  have e : (parseMethodDescriptor yX3_thunder.desc).map (fun d => d.parameters.length) = some 1 := by decide +kernel
  rw [hs] at e
  exact (Option.some.inj e).symm
theorem vX3_thunder : z_okV mX3_thunder 3 1 := ⟨oX3_thunder, pX3_thunder, z_in (z_t3 13 (by decide +kernel)) rfl, z_in (z_t3 14 (by decide +kernel)) rfl, _, _, rfl⟩
abbrev mX3_seed : zM := (yX3_seed, cX3_seed, 3, Option.some Jvm.ClassFile.FieldType.int, 0)
theorem oX3_seed : z_ok mX3_seed := ⟨z_in (z_t3 28 (by decide +kernel)) rfl, z_iX3, by decide, by decide, by decide⟩
theorem pX3_seed : z_np mX3_seed 1 := fun sig hs => by
  have e : (parseMethodDescriptor yX3_seed.desc).map (fun d => d.parameters.length) = some 1 := by decide +kernel
  rw [hs] at e
  exact (Option.some.inj e).symm
theorem vX3_seed : z_okV mX3_seed 3 1 := ⟨oX3_seed, pX3_seed, z_in (z_t3 26 (by decide +kernel)) rfl, z_in (z_t3 27 (by decide +kernel)) rfl, _, _, rfl⟩
abbrev mX3_feed : zM := (yX3_feed, cX3_feed, 4, Option.some Jvm.ClassFile.FieldType.int, 1)
theorem oX3_feed : z_ok mX3_feed := ⟨z_in (z_t3 32 (by decide +kernel)) rfl, z_iX3, by decide, by decide, by decide⟩
theorem pX3_feed : z_np mX3_feed 2 := fun sig hs => by
  have e : (parseMethodDescriptor yX3_feed.desc).map (fun d => d.parameters.length) = some 2 := by decide +kernel
  rw [hs] at e
  exact (Option.some.inj e).symm
theorem vX3_feed : z_okV mX3_feed 3 2 := ⟨oX3_feed, pX3_feed, z_in (z_t3 30 (by decide +kernel)) rfl, z_in (z_t3 31 (by decide +kernel)) rfl, _, _, rfl⟩
abbrev mX3_wipe : zM := (yX3_wipe, cX3_wipe, 2, Option.some Jvm.ClassFile.FieldType.int, 0)
theorem oX3_wipe : z_ok mX3_wipe := ⟨z_in (z_t3 40 (by decide +kernel)) rfl, z_iX3, by decide, by decide, by decide⟩
theorem pX3_wipe : z_np mX3_wipe 0 := fun sig hs => by
  have e : (parseMethodDescriptor yX3_wipe.desc).map (fun d => d.parameters.length) = some 0 := by decide +kernel
  rw [hs] at e
  exact (Option.some.inj e).symm
theorem vX3_wipe : z_okV mX3_wipe 3 0 := ⟨oX3_wipe, pX3_wipe, z_in (z_t3 38 (by decide +kernel)) rfl, z_in (z_t3 39 (by decide +kernel)) rfl, _, _, rfl⟩
abbrev mX3_text : zM := (yX3_text, cX3_text, 2, Option.some Jvm.ClassFile.FieldType.int, 11)
theorem oX3_text : z_ok mX3_text := ⟨z_in (z_t3 44 (by decide +kernel)) rfl, z_iX3, by decide, by decide, by decide⟩
theorem pX3_text : z_np mX3_text 0 := fun sig hs => by
  have e : (parseMethodDescriptor yX3_text.desc).map (fun d => d.parameters.length) = some 0 := by decide +kernel
  rw [hs] at e
  exact (Option.some.inj e).symm
theorem vX3_text : z_okV mX3_text 3 0 := ⟨oX3_text, pX3_text, z_in (z_t3 42 (by decide +kernel)) rfl, z_in (z_t3 43 (by decide +kernel)) rfl, _, _, rfl⟩
abbrev mX3_hold : zM := (yX3_hold, cX3_hold, 3, Option.some Jvm.ClassFile.FieldType.int, 1)
theorem oX3_hold : z_ok mX3_hold := ⟨z_in (z_t3 164 (by decide +kernel)) rfl, z_iX3, by decide, by decide, by decide⟩
theorem pX3_hold : z_np mX3_hold 2 := fun sig hs => by
  have e : (parseMethodDescriptor yX3_hold.desc).map (fun d => d.parameters.length) = some 2 := by decide +kernel
  rw [hs] at e
  exact (Option.some.inj e).symm
theorem vX3_hold : z_okV mX3_hold 3 2 := ⟨oX3_hold, pX3_hold, z_in (z_t3 162 (by decide +kernel)) rfl, z_in (z_t3 163 (by decide +kernel)) rfl, _, _, rfl⟩
abbrev mX3_as : zM := (yX3_as, cX3_as, 4, Option.some Jvm.ClassFile.FieldType.int, 1)
theorem oX3_as : z_ok mX3_as := ⟨z_in (z_t3 171 (by decide +kernel)) rfl, z_iX3, by decide, by decide, by decide⟩
theorem pX3_as : z_np mX3_as 2 := fun sig hs => by
  have e : (parseMethodDescriptor yX3_as.desc).map (fun d => d.parameters.length) = some 2 := by decide +kernel
  rw [hs] at e
  exact (Option.some.inj e).symm
theorem vX3_as : z_okV mX3_as 3 2 := ⟨oX3_as, pX3_as, z_in (z_t3 169 (by decide +kernel)) rfl, z_in (z_t3 170 (by decide +kernel)) rfl, _, _, rfl⟩
abbrev mX3_sheet : zM := (yX3_sheet, cX3_sheet, 4, Option.some Jvm.ClassFile.FieldType.int, 1)
theorem oX3_sheet : z_ok mX3_sheet := ⟨z_in (z_t3 176 (by decide +kernel)) rfl, z_iX3, by decide, by decide, by decide⟩
theorem pX3_sheet : z_np mX3_sheet 3 := fun sig hs => by
  have e : (parseMethodDescriptor yX3_sheet.desc).map (fun d => d.parameters.length) = some 3 := by decide +kernel
  rw [hs] at e
  exact (Option.some.inj e).symm
theorem vX3_sheet : z_okV mX3_sheet 3 3 := ⟨oX3_sheet, pX3_sheet, z_in (z_t3 174 (by decide +kernel)) rfl, z_in (z_t3 175 (by decide +kernel)) rfl, _, _, rfl⟩
abbrev mX3_write : zM := (yX3_write, cX3_write, 4, Option.some Jvm.ClassFile.FieldType.int, 1)
theorem oX3_write : z_ok mX3_write := ⟨z_in (z_t3 184 (by decide +kernel)) rfl, z_iX3, by decide, by decide, by decide⟩
theorem pX3_write : z_np mX3_write 3 := fun sig hs => by
  have e : (parseMethodDescriptor yX3_write.desc).map (fun d => d.parameters.length) = some 3 := by decide +kernel
  rw [hs] at e
  exact (Option.some.inj e).symm
theorem vX3_write : z_okV mX3_write 3 3 := ⟨oX3_write, pX3_write, z_in (z_t3 182 (by decide +kernel)) rfl, z_in (z_t3 183 (by decide +kernel)) rfl, _, _, rfl⟩
abbrev mX3_copy : zM := (yX3_copy, cX3_copy, 8, Option.some Jvm.ClassFile.FieldType.int, 1)
theorem oX3_copy : z_ok mX3_copy := ⟨z_in (z_t3 192 (by decide +kernel)) rfl, z_iX3, by decide, by decide, by decide⟩
theorem pX3_copy : z_np mX3_copy 5 := fun sig hs => by
  have e : (parseMethodDescriptor yX3_copy.desc).map (fun d => d.parameters.length) = some 5 := by decide +kernel
  rw [hs] at e
  exact (Option.some.inj e).symm
theorem vX3_copy : z_okV mX3_copy 3 5 := ⟨oX3_copy, pX3_copy, z_in (z_t3 190 (by decide +kernel)) rfl, z_in (z_t3 191 (by decide +kernel)) rfl, _, _, rfl⟩
abbrev mX3_load : zM := (yX3_load, cX3_load, 4, Option.some Jvm.ClassFile.FieldType.int, 1)
theorem oX3_load : z_ok mX3_load := ⟨z_in (z_t3 201 (by decide +kernel)) rfl, z_iX3, by decide, by decide, by decide⟩
theorem pX3_load : z_np mX3_load 1 := fun sig hs => by
  have e : (parseMethodDescriptor yX3_load.desc).map (fun d => d.parameters.length) = some 1 := by decide +kernel
  rw [hs] at e
  exact (Option.some.inj e).symm
theorem vX3_load : z_okV mX3_load 3 1 := ⟨oX3_load, pX3_load, z_in (z_t3 199 (by decide +kernel)) rfl, z_in (z_t3 200 (by decide +kernel)) rfl, _, _, rfl⟩
abbrev mX3_judge : zM := (yX3_judge, cX3_judge, 5, Option.some Jvm.ClassFile.FieldType.int, 1)
theorem oX3_judge : z_ok mX3_judge := ⟨z_in (z_t3 205 (by decide +kernel)) rfl, z_iX3, by decide, by decide, by decide⟩
theorem pX3_judge : z_np mX3_judge 1 := fun sig hs => by
  have e : (parseMethodDescriptor yX3_judge.desc).map (fun d => d.parameters.length) = some 1 := by decide +kernel
  rw [hs] at e
  exact (Option.some.inj e).symm
theorem vX3_judge : z_okV mX3_judge 3 1 := ⟨oX3_judge, pX3_judge, z_in (z_t3 203 (by decide +kernel)) rfl, z_in (z_t3 204 (by decide +kernel)) rfl, _, _, rfl⟩
abbrev mX3_image : zM := (yX3_image, cX3_image, 1, Option.some Jvm.ClassFile.FieldType.int, 2)
theorem oX3_image : z_ok mX3_image := ⟨z_in (z_t3 213 (by decide +kernel)) rfl, z_iX3, by decide, by decide, by decide⟩
theorem pX3_image : z_np mX3_image 0 := fun sig hs => by
  have e : (parseMethodDescriptor yX3_image.desc).map (fun d => d.parameters.length) = some 0 := by decide +kernel
  rw [hs] at e
  exact (Option.some.inj e).symm
theorem vX3_image : z_okV mX3_image 3 0 := ⟨oX3_image, pX3_image, z_in (z_t3 211 (by decide +kernel)) rfl, z_in (z_t3 212 (by decide +kernel)) rfl, _, _, rfl⟩
abbrev mX3_undo : zM := (yX3_undo, cX3_undo, 1, Option.some Jvm.ClassFile.FieldType.int, 2)
theorem oX3_undo : z_ok mX3_undo := ⟨z_in (z_t3 217 (by decide +kernel)) rfl, z_iX3, by decide, by decide, by decide⟩
theorem pX3_undo : z_np mX3_undo 0 := fun sig hs => by
  have e : (parseMethodDescriptor yX3_undo.desc).map (fun d => d.parameters.length) = some 0 := by decide +kernel
  rw [hs] at e
  exact (Option.some.inj e).symm
theorem vX3_undo : z_okV mX3_undo 3 0 := ⟨oX3_undo, pX3_undo, z_in (z_t3 215 (by decide +kernel)) rfl, z_in (z_t3 216 (by decide +kernel)) rfl, _, _, rfl⟩
abbrev mX3_tear : zM := (yX3_tear, cX3_tear, 2, Option.some Jvm.ClassFile.FieldType.int, 0)
theorem oX3_tear : z_ok mX3_tear := ⟨z_in (z_t3 221 (by decide +kernel)) rfl, z_iX3, by decide, by decide, by decide⟩
theorem pX3_tear : z_np mX3_tear 0 := fun sig hs => by
  have e : (parseMethodDescriptor yX3_tear.desc).map (fun d => d.parameters.length) = some 0 := by decide +kernel
  rw [hs] at e
  exact (Option.some.inj e).symm
theorem vX3_tear : z_okV mX3_tear 3 0 := ⟨oX3_tear, pX3_tear, z_in (z_t3 219 (by decide +kernel)) rfl, z_in (z_t3 220 (by decide +kernel)) rfl, _, _, rfl⟩
abbrev mX3_count : zM := (yX3_count, cX3_count, 2, Option.some Jvm.ClassFile.FieldType.int, 2)
theorem oX3_count : z_ok mX3_count := ⟨z_in (z_t3 225 (by decide +kernel)) rfl, z_iX3, by decide, by decide, by decide⟩
theorem pX3_count : z_np mX3_count 1 := fun sig hs => by
  have e : (parseMethodDescriptor yX3_count.desc).map (fun d => d.parameters.length) = some 1 := by decide +kernel
  rw [hs] at e
  exact (Option.some.inj e).symm
theorem vX3_count : z_okV mX3_count 3 1 := ⟨oX3_count, pX3_count, z_in (z_t3 223 (by decide +kernel)) rfl, z_in (z_t3 224 (by decide +kernel)) rfl, _, _, rfl⟩
abbrev mX3_status : zM := (yX3_status, cX3_status, 4, Option.some Jvm.ClassFile.FieldType.int, 1)
theorem oX3_status : z_ok mX3_status := ⟨z_in (z_t3 233 (by decide +kernel)) rfl, z_iX3, by decide, by decide, by decide⟩
theorem pX3_status : z_np mX3_status 1 := fun sig hs => by
  have e : (parseMethodDescriptor yX3_status.desc).map (fun d => d.parameters.length) = some 1 := by decide +kernel
  rw [hs] at e
  exact (Option.some.inj e).symm
theorem vX3_status : z_okV mX3_status 3 1 := ⟨oX3_status, pX3_status, z_in (z_t3 231 (by decide +kernel)) rfl, z_in (z_t3 232 (by decide +kernel)) rfl, _, _, rfl⟩
abbrev mX3_finding : zM := (yX3_finding, cX3_finding, 2, Option.some Jvm.ClassFile.FieldType.int, 0)
theorem oX3_finding : z_ok mX3_finding := ⟨z_in (z_t1 176 (by decide +kernel)) rfl, z_iX3, by decide, by decide, by decide⟩
theorem pX3_finding : z_np mX3_finding 1 := fun sig hs => by
  have e : (parseMethodDescriptor yX3_finding.desc).map (fun d => d.parameters.length) = some 1 := by decide +kernel
  rw [hs] at e
  exact (Option.some.inj e).symm
theorem vX3_finding : z_okV mX3_finding 3 1 := ⟨oX3_finding, pX3_finding, z_in (z_t1 175 (by decide +kernel)) rfl, z_in (z_tp 0 (by decide +kernel)) rfl, _, _, rfl⟩
abbrev mX3_isBell : zM := (yX3_isBell, cX3_isBell, 2, Option.some Jvm.ClassFile.FieldType.boolean, 0)
theorem oX3_isBell : z_ok mX3_isBell := ⟨z_in (z_t2 9 (by decide +kernel)) rfl, z_iX3, by decide, by decide, by decide⟩
theorem pX3_isBell : z_np mX3_isBell 1 := fun sig hs => by
  have e : (parseMethodDescriptor yX3_isBell.desc).map (fun d => d.parameters.length) = some 1 := by decide +kernel
  rw [hs] at e
  exact (Option.some.inj e).symm
theorem vX3_isBell : z_okV mX3_isBell 3 1 := ⟨oX3_isBell, pX3_isBell, z_in (z_t2 8 (by decide +kernel)) rfl, z_in (z_tp 7 (by decide +kernel)) rfl, _, _, rfl⟩
abbrev mX3_isCell : zM := (yX3_isCell, cX3_isCell, 1, Option.some Jvm.ClassFile.FieldType.boolean, 0)
theorem oX3_isCell : z_ok mX3_isCell := ⟨z_in (z_t1 172 (by decide +kernel)) rfl, z_iX3, by decide, by decide, by decide⟩
theorem pX3_isCell : z_np mX3_isCell 1 := fun sig hs => by
  have e : (parseMethodDescriptor yX3_isCell.desc).map (fun d => d.parameters.length) = some 1 := by decide +kernel
  rw [hs] at e
  exact (Option.some.inj e).symm
theorem sX3_isCell : z_okS mX3_isCell 1 := ⟨oX3_isCell, pX3_isCell, z_in (z_t1 171 (by decide +kernel)) rfl⟩
abbrev mX3_isHunter : zM := (yX3_isHunter, cX3_isHunter, 1, Option.some Jvm.ClassFile.FieldType.boolean, 0)
theorem oX3_isHunter : z_ok mX3_isHunter := ⟨z_in (z_t1 226 (by decide +kernel)) rfl, z_iX3, by decide, by decide, by decide⟩
theorem pX3_isHunter : z_np mX3_isHunter 1 := fun sig hs => by
  have e : (parseMethodDescriptor yX3_isHunter.desc).map (fun d => d.parameters.length) = some 1 := by decide +kernel
  rw [hs] at e
  exact (Option.some.inj e).symm
theorem sX3_isHunter : z_okS mX3_isHunter 1 := ⟨oX3_isHunter, pX3_isHunter, z_in (z_t1 225 (by decide +kernel)) rfl⟩
abbrev mX3_isKind : zM := (yX3_isKind, cX3_isKind, 1, Option.some Jvm.ClassFile.FieldType.boolean, 0)
theorem oX3_isKind : z_ok mX3_isKind := ⟨z_in (z_t1 237 (by decide +kernel)) rfl, z_iX3, by decide, by decide, by decide⟩
theorem pX3_isKind : z_np mX3_isKind 1 := fun sig hs => by
  have e : (parseMethodDescriptor yX3_isKind.desc).map (fun d => d.parameters.length) = some 1 := by decide +kernel
  rw [hs] at e
  exact (Option.some.inj e).symm
theorem sX3_isKind : z_okS mX3_isKind 1 := ⟨oX3_isKind, pX3_isKind, z_in (z_t1 236 (by decide +kernel)) rfl⟩
abbrev mX3_isNote : zM := (yX3_isNote, cX3_isNote, 1, Option.some Jvm.ClassFile.FieldType.boolean, 0)
theorem oX3_isNote : z_ok mX3_isNote := ⟨z_in (z_t2 54 (by decide +kernel)) rfl, z_iX3, by decide, by decide, by decide⟩
theorem pX3_isNote : z_np mX3_isNote 1 := fun sig hs => by
  have e : (parseMethodDescriptor yX3_isNote.desc).map (fun d => d.parameters.length) = some 1 := by decide +kernel
  rw [hs] at e
  exact (Option.some.inj e).symm
theorem sX3_isNote : z_okS mX3_isNote 1 := ⟨oX3_isNote, pX3_isNote, z_in (z_t2 53 (by decide +kernel)) rfl⟩
abbrev mX3_isWeight : zM := (yX3_isWeight, cX3_isWeight, 1, Option.some Jvm.ClassFile.FieldType.boolean, 0)
theorem oX3_isWeight : z_ok mX3_isWeight := ⟨z_in (z_t2 57 (by decide +kernel)) rfl, z_iX3, by decide, by decide, by decide⟩
theorem pX3_isWeight : z_np mX3_isWeight 1 := fun sig hs => by
  have e : (parseMethodDescriptor yX3_isWeight.desc).map (fun d => d.parameters.length) = some 1 := by decide +kernel
  rw [hs] at e
  exact (Option.some.inj e).symm
theorem sX3_isWeight : z_okS mX3_isWeight 1 := ⟨oX3_isWeight, pX3_isWeight, z_in (z_t2 56 (by decide +kernel)) rfl⟩
abbrev mX3_isStock : zM := (yX3_isStock, cX3_isStock, 1, Option.some Jvm.ClassFile.FieldType.boolean, 0)
theorem oX3_isStock : z_ok mX3_isStock := ⟨z_in (z_t2 205 (by decide +kernel)) rfl, z_iX3, by decide, by decide, by decide⟩
theorem pX3_isStock : z_np mX3_isStock 1 := fun sig hs => by
  have e : (parseMethodDescriptor yX3_isStock.desc).map (fun d => d.parameters.length) = some 1 := by decide +kernel
  rw [hs] at e
  exact (Option.some.inj e).symm
theorem sX3_isStock : z_okS mX3_isStock 1 := ⟨oX3_isStock, pX3_isStock, z_in (z_t2 204 (by decide +kernel)) rfl⟩
abbrev mX3_isSpot : zM := (yX3_isSpot, cX3_isSpot, 1, Option.some Jvm.ClassFile.FieldType.boolean, 0)
theorem oX3_isSpot : z_ok mX3_isSpot := ⟨z_in (z_t3 167 (by decide +kernel)) rfl, z_iX3, by decide, by decide, by decide⟩
theorem pX3_isSpot : z_np mX3_isSpot 1 := fun sig hs => by
  have e : (parseMethodDescriptor yX3_isSpot.desc).map (fun d => d.parameters.length) = some 1 := by decide +kernel
  rw [hs] at e
  exact (Option.some.inj e).symm
theorem sX3_isSpot : z_okS mX3_isSpot 1 := ⟨oX3_isSpot, pX3_isSpot, z_in (z_t3 166 (by decide +kernel)) rfl⟩
abbrev mX3_isSheet : zM := (yX3_isSheet, cX3_isSheet, 1, Option.some Jvm.ClassFile.FieldType.boolean, 0)
theorem oX3_isSheet : z_ok mX3_isSheet := ⟨z_in (z_t2 163 (by decide +kernel)) rfl, z_iX3, by decide, by decide, by decide⟩
theorem pX3_isSheet : z_np mX3_isSheet 1 := fun sig hs => by
  have e : (parseMethodDescriptor yX3_isSheet.desc).map (fun d => d.parameters.length) = some 1 := by decide +kernel
  rw [hs] at e
  exact (Option.some.inj e).symm
theorem sX3_isSheet : z_okS mX3_isSheet 1 := ⟨oX3_isSheet, pX3_isSheet, z_in (z_t2 162 (by decide +kernel)) rfl⟩
abbrev mX3_isTrait : zM := (yX3_isTrait, cX3_isTrait, 1, Option.some Jvm.ClassFile.FieldType.boolean, 0)
theorem oX3_isTrait : z_ok mX3_isTrait := ⟨z_in (z_t2 40 (by decide +kernel)) rfl, z_iX3, by decide, by decide, by decide⟩
theorem pX3_isTrait : z_np mX3_isTrait 1 := fun sig hs => by
  have e : (parseMethodDescriptor yX3_isTrait.desc).map (fun d => d.parameters.length) = some 1 := by decide +kernel
  rw [hs] at e
  exact (Option.some.inj e).symm
theorem sX3_isTrait : z_okS mX3_isTrait 1 := ⟨oX3_isTrait, pX3_isTrait, z_in (z_t2 39 (by decide +kernel)) rfl⟩
abbrev mX3_suits : zM := (yX3_suits, cX3_suits, 2, Option.some Jvm.ClassFile.FieldType.boolean, 1)
theorem oX3_suits : z_ok mX3_suits := ⟨z_in (z_t2 51 (by decide +kernel)) rfl, z_iX3, by decide, by decide, by decide⟩
theorem pX3_suits : z_np mX3_suits 2 := fun sig hs => by
  have e : (parseMethodDescriptor yX3_suits.desc).map (fun d => d.parameters.length) = some 2 := by decide +kernel
  rw [hs] at e
  exact (Option.some.inj e).symm
theorem sX3_suits : z_okS mX3_suits 2 := ⟨oX3_suits, pX3_suits, z_in (z_t2 50 (by decide +kernel)) rfl⟩
abbrev mX3_soundFault : zM := (yX3_soundFault, cX3_soundFault, 3, Option.some Jvm.ClassFile.FieldType.int, 2)
theorem oX3_soundFault : z_ok mX3_soundFault := ⟨z_in (z_t2 160 (by decide +kernel)) rfl, z_iX3, by decide, by decide, by decide⟩
theorem pX3_soundFault : z_np mX3_soundFault 2 := fun sig hs => by
  have e : (parseMethodDescriptor yX3_soundFault.desc).map (fun d => d.parameters.length) = some 2 := by decide +kernel
  rw [hs] at e
  exact (Option.some.inj e).symm
theorem vX3_soundFault : z_okV mX3_soundFault 3 2 := ⟨oX3_soundFault, pX3_soundFault, z_in (z_t2 159 (by decide +kernel)) rfl, z_in (z_tp 19 (by decide +kernel)) rfl, _, _, rfl⟩
abbrev mX3_standingCells : zM := (yX3_standingCells, cX3_standingCells, 5, Option.some Jvm.ClassFile.FieldType.long, 3)
theorem oX3_standingCells : z_ok mX3_standingCells := ⟨z_in (z_t2 175 (by decide +kernel)) rfl, z_iX3, by decide, by decide, by decide⟩
theorem pX3_standingCells : z_np mX3_standingCells 2 := fun sig hs => by
  have e : (parseMethodDescriptor yX3_standingCells.desc).map (fun d => d.parameters.length) = some 2 := by decide +kernel
  rw [hs] at e
  exact (Option.some.inj e).symm
theorem sX3_standingCells : z_okS mX3_standingCells 2 := ⟨oX3_standingCells, pX3_standingCells, z_in (z_t2 174 (by decide +kernel)) rfl⟩
abbrev mX3_leftAtWorst : zM := (yX3_leftAtWorst, cX3_leftAtWorst, 10, Option.some Jvm.ClassFile.FieldType.int, 2)
theorem oX3_leftAtWorst : z_ok mX3_leftAtWorst := ⟨z_in (z_t2 193 (by decide +kernel)) rfl, z_iX3, by decide, by decide, by decide⟩
theorem pX3_leftAtWorst : z_np mX3_leftAtWorst 3 := fun sig hs => by
  have e : (parseMethodDescriptor yX3_leftAtWorst.desc).map (fun d => d.parameters.length) = some 3 := by decide +kernel
  rw [hs] at e
  exact (Option.some.inj e).symm
theorem vX3_leftAtWorst : z_okV mX3_leftAtWorst 3 3 := ⟨oX3_leftAtWorst, pX3_leftAtWorst, z_in (z_t2 192 (by decide +kernel)) rfl, z_in (z_tp 23 (by decide +kernel)) rfl, _, _, rfl⟩
abbrev mX3_stockBehind : zM := (yX3_stockBehind, cX3_stockBehind, 5, Option.some Jvm.ClassFile.FieldType.int, 1)
theorem oX3_stockBehind : z_ok mX3_stockBehind := ⟨z_in (z_t2 208 (by decide +kernel)) rfl, z_iX3, by decide, by decide, by decide⟩
theorem pX3_stockBehind : z_np mX3_stockBehind 3 := fun sig hs => by
  have e : (parseMethodDescriptor yX3_stockBehind.desc).map (fun d => d.parameters.length) = some 3 := by decide +kernel
  rw [hs] at e
  exact (Option.some.inj e).symm
theorem sX3_stockBehind : z_okS mX3_stockBehind 3 := ⟨oX3_stockBehind, pX3_stockBehind, z_in (z_t2 207 (by decide +kernel)) rfl⟩
abbrev mX3_holds : zM := (yX3_holds, cX3_holds, 3, Option.some Jvm.ClassFile.FieldType.boolean, 0)
theorem oX3_holds : z_ok mX3_holds := ⟨z_in (z_t1 184 (by decide +kernel)) rfl, z_iX3, by decide, by decide, by decide⟩
theorem pX3_holds : z_np mX3_holds 2 := fun sig hs => by
  have e : (parseMethodDescriptor yX3_holds.desc).map (fun d => d.parameters.length) = some 2 := by decide +kernel
  rw [hs] at e
  exact (Option.some.inj e).symm
theorem sX3_holds : z_okS mX3_holds 2 := ⟨oX3_holds, pX3_holds, z_in (z_t1 183 (by decide +kernel)) rfl⟩
abbrev mX3_apart : zM := (yX3_apart, cX3_apart, 4, Option.some Jvm.ClassFile.FieldType.int, 0)
theorem oX3_apart : z_ok mX3_apart := ⟨z_in (z_t1 208 (by decide +kernel)) rfl, z_iX3, by decide, by decide, by decide⟩
theorem pX3_apart : z_np mX3_apart 2 := fun sig hs => by
  have e : (parseMethodDescriptor yX3_apart.desc).map (fun d => d.parameters.length) = some 2 := by decide +kernel
  rw [hs] at e
  exact (Option.some.inj e).symm
theorem sX3_apart : z_okS mX3_apart 2 := ⟨oX3_apart, pX3_apart, z_in (z_t1 207 (by decide +kernel)) rfl⟩
abbrev mX3_loudness : zM := (yX3_loudness, cX3_loudness, 2, Option.some Jvm.ClassFile.FieldType.int, 1)
theorem oX3_loudness : z_ok mX3_loudness := ⟨z_in (z_t1 211 (by decide +kernel)) rfl, z_iX3, by decide, by decide, by decide⟩
theorem pX3_loudness : z_np mX3_loudness 2 := fun sig hs => by
  have e : (parseMethodDescriptor yX3_loudness.desc).map (fun d => d.parameters.length) = some 2 := by decide +kernel
  rw [hs] at e
  exact (Option.some.inj e).symm
theorem sX3_loudness : z_okS mX3_loudness 2 := ⟨oX3_loudness, pX3_loudness, z_in (z_t1 210 (by decide +kernel)) rfl⟩
abbrev mX3_isUnder : zM := (yX3_isUnder, cX3_isUnder, 4, Option.some Jvm.ClassFile.FieldType.boolean, 0)
theorem oX3_isUnder : z_ok mX3_isUnder := ⟨z_in (z_t2 31 (by decide +kernel)) rfl, z_iX3, by decide, by decide, by decide⟩
theorem pX3_isUnder : z_np mX3_isUnder 2 := fun sig hs => by
  have e : (parseMethodDescriptor yX3_isUnder.desc).map (fun d => d.parameters.length) = some 2 := by decide +kernel
  rw [hs] at e
  exact (Option.some.inj e).symm
theorem sX3_isUnder : z_okS mX3_isUnder 2 := ⟨oX3_isUnder, pX3_isUnder, z_in (z_t2 30 (by decide +kernel)) rfl⟩
abbrev mX3_longestRun : zM := (yX3_longestRun, cX3_longestRun, 5, Option.some Jvm.ClassFile.FieldType.int, 1)
theorem oX3_longestRun : z_ok mX3_longestRun := ⟨z_in (z_t2 229 (by decide +kernel)) rfl, z_iX3, by decide, by decide, by decide⟩
theorem pX3_longestRun : z_np mX3_longestRun 1 := fun sig hs => by
  have e : (parseMethodDescriptor yX3_longestRun.desc).map (fun d => d.parameters.length) = some 1 := by decide +kernel
  rw [hs] at e
  exact (Option.some.inj e).symm
theorem sX3_longestRun : z_okS mX3_longestRun 1 := ⟨oX3_longestRun, pX3_longestRun, z_in (z_t2 228 (by decide +kernel)) rfl⟩
abbrev mX4_finding : zM := (yX4_finding, cX4_finding, 2, Option.some Jvm.ClassFile.FieldType.int, 0)
theorem oX4_finding : z_ok mX4_finding := ⟨z_in (z_t4 96 (by decide +kernel)) rfl, z_iX4, by decide, by decide, by decide⟩
theorem pX4_finding : z_np mX4_finding 1 := fun sig hs => by
  have e : (parseMethodDescriptor yX4_finding.desc).map (fun d => d.parameters.length) = some 1 := by decide +kernel
  rw [hs] at e
  exact (Option.some.inj e).symm
theorem vX4_finding : z_okV mX4_finding 4 1 := ⟨oX4_finding, pX4_finding, z_in (z_t4 95 (by decide +kernel)) rfl, z_in (z_tp 47 (by decide +kernel)) rfl, _, _, rfl⟩
abbrev mX4_within : zM := (yX4_within, cX4_within, 3, Option.some Jvm.ClassFile.FieldType.boolean, 0)
theorem oX4_within : z_ok mX4_within := ⟨z_in (z_t4 91 (by decide +kernel)) rfl, z_iX4, by decide, by decide, by decide⟩
theorem pX4_within : z_np mX4_within 3 := fun sig hs => by
  have e : (parseMethodDescriptor yX4_within.desc).map (fun d => d.parameters.length) = some 3 := by decide +kernel
  rw [hs] at e
  exact (Option.some.inj e).symm
theorem sX4_within : z_okS mX4_within 3 := ⟨oX4_within, pX4_within, z_in (z_t4 90 (by decide +kernel)) rfl⟩
abbrev mX4_become : zM := (yX4_become, cX4_become, 4, Option.some Jvm.ClassFile.FieldType.int, 0)
theorem oX4_become : z_ok mX4_become := ⟨z_in (z_t4 100 (by decide +kernel)) rfl, z_iX4, by decide, by decide, by decide⟩
theorem pX4_become : z_np mX4_become 2 := fun sig hs => by
  have e : (parseMethodDescriptor yX4_become.desc).map (fun d => d.parameters.length) = some 2 := by decide +kernel
  rw [hs] at e
  exact (Option.some.inj e).symm
theorem vX4_become : z_okV mX4_become 4 2 := ⟨oX4_become, pX4_become, z_in (z_t4 99 (by decide +kernel)) rfl, z_in (z_tp 48 (by decide +kernel)) rfl, _, _, rfl⟩
abbrev mX4_copyRow : zM := (yX4_copyRow, cX4_copyRow, 3, Option.none, 0)
theorem oX4_copyRow : z_ok mX4_copyRow := ⟨z_in (z_t5 19 (by decide +kernel)) rfl, z_iX4, by decide, by decide, by decide⟩
theorem pX4_copyRow : z_np mX4_copyRow 2 := fun sig hs => by
  have e : (parseMethodDescriptor yX4_copyRow.desc).map (fun d => d.parameters.length) = some 2 := by decide +kernel
  rw [hs] at e
  exact (Option.some.inj e).symm
theorem sX4_copyRow : z_okS mX4_copyRow 2 := ⟨oX4_copyRow, pX4_copyRow, z_in (z_t5 18 (by decide +kernel)) rfl⟩
abbrev mX4_putBack : zM := (yX4_putBack, cX4_putBack, 2, Option.some Jvm.ClassFile.FieldType.int, 1)
theorem oX4_putBack : z_ok mX4_putBack := ⟨z_in (z_t5 23 (by decide +kernel)) rfl, z_iX4, by decide, by decide, by decide⟩
theorem pX4_putBack : z_np mX4_putBack 1 := fun sig hs => by
  have e : (parseMethodDescriptor yX4_putBack.desc).map (fun d => d.parameters.length) = some 1 := by decide +kernel
  rw [hs] at e
  exact (Option.some.inj e).symm
theorem vX4_putBack : z_okV mX4_putBack 4 1 := ⟨oX4_putBack, pX4_putBack, z_in (z_t5 22 (by decide +kernel)) rfl, z_in (z_tp 68 (by decide +kernel)) rfl, _, _, rfl⟩
abbrev mX4_has : zM := (yX4_has, cX4_has, 2, Option.some Jvm.ClassFile.FieldType.boolean, 0)
theorem oX4_has : z_ok mX4_has := ⟨z_in (z_t5 143 (by decide +kernel)) rfl, z_iX4, by decide, by decide, by decide⟩
theorem pX4_has : z_np mX4_has 2 := fun sig hs => by
  have e : (parseMethodDescriptor yX4_has.desc).map (fun d => d.parameters.length) = some 2 := by decide +kernel
  rw [hs] at e
  exact (Option.some.inj e).symm
theorem sX4_has : z_okS mX4_has 2 := ⟨oX4_has, pX4_has, z_in (z_t5 142 (by decide +kernel)) rfl⟩
abbrev mX4_bits : zM := (yX4_bits, cX4_bits, 3, Option.some Jvm.ClassFile.FieldType.int, 0)
theorem oX4_bits : z_ok mX4_bits := ⟨z_in (z_t4 232 (by decide +kernel)) rfl, z_iX4, by decide, by decide, by decide⟩
theorem pX4_bits : z_np mX4_bits 1 := fun sig hs => by
  have e : (parseMethodDescriptor yX4_bits.desc).map (fun d => d.parameters.length) = some 1 := by decide +kernel
  rw [hs] at e
  exact (Option.some.inj e).symm
theorem sX4_bits : z_okS mX4_bits 1 := ⟨oX4_bits, pX4_bits, z_in (z_t4 231 (by decide +kernel)) rfl⟩
abbrev mX4_isCell : zM := (yX4_isCell, cX4_isCell, 1, Option.some Jvm.ClassFile.FieldType.boolean, 1)
theorem oX4_isCell : z_ok mX4_isCell := ⟨z_in (z_t4 88 (by decide +kernel)) rfl, z_iX4, by decide, by decide, by decide⟩
theorem pX4_isCell : z_np mX4_isCell 1 := fun sig hs => by
  have e : (parseMethodDescriptor yX4_isCell.desc).map (fun d => d.parameters.length) = some 1 := by decide +kernel
  rw [hs] at e
  exact (Option.some.inj e).symm
theorem sX4_isCell : z_okS mX4_isCell 1 := ⟨oX4_isCell, pX4_isCell, z_in (z_t4 87 (by decide +kernel)) rfl⟩
abbrev mX4_apart : zM := (yX4_apart, cX4_apart, 2, Option.some Jvm.ClassFile.FieldType.int, 1)
theorem oX4_apart : z_ok mX4_apart := ⟨z_in (z_t4 153 (by decide +kernel)) rfl, z_iX4, by decide, by decide, by decide⟩
theorem pX4_apart : z_np mX4_apart 2 := fun sig hs => by
  have e : (parseMethodDescriptor yX4_apart.desc).map (fun d => d.parameters.length) = some 2 := by decide +kernel
  rw [hs] at e
  exact (Option.some.inj e).symm
theorem sX4_apart : z_okS mX4_apart 2 := ⟨oX4_apart, pX4_apart, z_in (z_t4 152 (by decide +kernel)) rfl⟩
abbrev mX4_beside : zM := (yX4_beside, cX4_beside, 5, Option.some Jvm.ClassFile.FieldType.int, 1)
theorem oX4_beside : z_ok mX4_beside := ⟨z_in (z_t4 176 (by decide +kernel)) rfl, z_iX4, by decide, by decide, by decide⟩
theorem pX4_beside : z_np mX4_beside 2 := fun sig hs => by
  have e : (parseMethodDescriptor yX4_beside.desc).map (fun d => d.parameters.length) = some 2 := by decide +kernel
  rw [hs] at e
  exact (Option.some.inj e).symm
theorem vX4_beside : z_okV mX4_beside 4 2 := ⟨oX4_beside, pX4_beside, z_in (z_t4 175 (by decide +kernel)) rfl, z_in (z_tp 56 (by decide +kernel)) rfl, _, _, rfl⟩
abbrev mX4_hasNet : zM := (yX4_hasNet, cX4_hasNet, 2, Option.some Jvm.ClassFile.FieldType.boolean, 0)
theorem oX4_hasNet : z_ok mX4_hasNet := ⟨z_in (z_t4 225 (by decide +kernel)) rfl, z_iX4, by decide, by decide, by decide⟩
theorem pX4_hasNet : z_np mX4_hasNet 1 := fun sig hs => by
  have e : (parseMethodDescriptor yX4_hasNet.desc).map (fun d => d.parameters.length) = some 1 := by decide +kernel
  rw [hs] at e
  exact (Option.some.inj e).symm
theorem vX4_hasNet : z_okV mX4_hasNet 4 1 := ⟨oX4_hasNet, pX4_hasNet, z_in (z_t4 224 (by decide +kernel)) rfl, z_in (z_tp 63 (by decide +kernel)) rfl, _, _, rfl⟩
abbrev mX4_net : zM := (yX4_net, cX4_net, 3, Option.some Jvm.ClassFile.FieldType.int, 2)
theorem oX4_net : z_ok mX4_net := ⟨z_in (z_t4 85 (by decide +kernel)) rfl, z_iX4, by decide, by decide, by decide⟩
theorem pX4_net : z_np mX4_net 2 := fun sig hs => by
  have e : (parseMethodDescriptor yX4_net.desc).map (fun d => d.parameters.length) = some 2 := by decide +kernel
  rw [hs] at e
  exact (Option.some.inj e).symm
theorem vX4_net : z_okV mX4_net 4 2 := ⟨oX4_net, pX4_net, z_in (z_t4 83 (by decide +kernel)) rfl, z_in (z_t4 84 (by decide +kernel)) rfl, _, _, rfl⟩
abbrev mX4_thick : zM := (yX4_thick, cX4_thick, 3, Option.some Jvm.ClassFile.FieldType.int, 2)
theorem oX4_thick : z_ok mX4_thick := ⟨z_in (z_t4 104 (by decide +kernel)) rfl, z_iX4, by decide, by decide, by decide⟩
theorem pX4_thick : z_np mX4_thick 2 := fun sig hs => by
  have e : (parseMethodDescriptor yX4_thick.desc).map (fun d => d.parameters.length) = some 2 := by decide +kernel
  rw [hs] at e
  exact (Option.some.inj e).symm
theorem vX4_thick : z_okV mX4_thick 4 2 := ⟨oX4_thick, pX4_thick, z_in (z_t4 102 (by decide +kernel)) rfl, z_in (z_t4 103 (by decide +kernel)) rfl, _, _, rfl⟩
abbrev mX4_isHunter : zM := (yX4_isHunter, cX4_isHunter, 1, Option.some Jvm.ClassFile.FieldType.boolean, 1)
theorem oX4_isHunter : z_ok mX4_isHunter := ⟨z_in (z_t4 111 (by decide +kernel)) rfl, z_iX4, by decide, by decide, by decide⟩
theorem pX4_isHunter : z_np mX4_isHunter 1 := fun sig hs => by
  have e : (parseMethodDescriptor yX4_isHunter.desc).map (fun d => d.parameters.length) = some 1 := by decide +kernel
  rw [hs] at e
  exact (Option.some.inj e).symm
theorem sX4_isHunter : z_okS mX4_isHunter 1 := ⟨oX4_isHunter, pX4_isHunter, z_in (z_t4 110 (by decide +kernel)) rfl⟩
abbrev mX4_hunter : zM := (yX4_hunter, cX4_hunter, 3, Option.some Jvm.ClassFile.FieldType.int, 2)
theorem oX4_hunter : z_ok mX4_hunter := ⟨z_in (z_t4 108 (by decide +kernel)) rfl, z_iX4, by decide, by decide, by decide⟩
theorem pX4_hunter : z_np mX4_hunter 2 := fun sig hs => by
  have e : (parseMethodDescriptor yX4_hunter.desc).map (fun d => d.parameters.length) = some 2 := by decide +kernel
  rw [hs] at e
  exact (Option.some.inj e).symm
theorem vX4_hunter : z_okV mX4_hunter 4 2 := ⟨oX4_hunter, pX4_hunter, z_in (z_t4 106 (by decide +kernel)) rfl, z_in (z_t4 107 (by decide +kernel)) rfl, _, _, rfl⟩
abbrev mX4_fear : zM := (yX4_fear, cX4_fear, 2, Option.some Jvm.ClassFile.FieldType.int, 1)
theorem oX4_fear : z_ok mX4_fear := ⟨z_in (z_t4 115 (by decide +kernel)) rfl, z_iX4, by decide, by decide, by decide⟩
theorem pX4_fear : z_np mX4_fear 1 := fun sig hs => by
  have e : (parseMethodDescriptor yX4_fear.desc).map (fun d => d.parameters.length) = some 1 := by decide +kernel
  rw [hs] at e
  exact (Option.some.inj e).symm
theorem vX4_fear : z_okV mX4_fear 4 1 := ⟨oX4_fear, pX4_fear, z_in (z_t4 113 (by decide +kernel)) rfl, z_in (z_t4 114 (by decide +kernel)) rfl, _, _, rfl⟩
abbrev mX4_isBell : zM := (yX4_isBell, cX4_isBell, 2, Option.some Jvm.ClassFile.FieldType.boolean, 1)
theorem oX4_isBell : z_ok mX4_isBell := ⟨z_in (z_t4 138 (by decide +kernel)) rfl, z_iX4, by decide, by decide, by decide⟩
theorem pX4_isBell : z_np mX4_isBell 1 := fun sig hs => by
  have e : (parseMethodDescriptor yX4_isBell.desc).map (fun d => d.parameters.length) = some 1 := by decide +kernel
  rw [hs] at e
  exact (Option.some.inj e).symm
theorem vX4_isBell : z_okV mX4_isBell 4 1 := ⟨oX4_isBell, pX4_isBell, z_in (z_t4 137 (by decide +kernel)) rfl, z_in (z_tp 50 (by decide +kernel)) rfl, _, _, rfl⟩
abbrev mX4_isKind : zM := (yX4_isKind, cX4_isKind, 1, Option.some Jvm.ClassFile.FieldType.boolean, 1)
theorem oX4_isKind : z_ok mX4_isKind := ⟨z_in (z_t4 122 (by decide +kernel)) rfl, z_iX4, by decide, by decide, by decide⟩
theorem pX4_isKind : z_np mX4_isKind 1 := fun sig hs => by
  have e : (parseMethodDescriptor yX4_isKind.desc).map (fun d => d.parameters.length) = some 1 := by decide +kernel
  rw [hs] at e
  exact (Option.some.inj e).symm
theorem sX4_isKind : z_okS mX4_isKind 1 := ⟨oX4_isKind, pX4_isKind, z_in (z_t4 121 (by decide +kernel)) rfl⟩
abbrev mX4_at : zM := (yX4_at, cX4_at, 2, Option.some Jvm.ClassFile.FieldType.int, 0)
theorem oX4_at : z_ok mX4_at := ⟨z_in (z_t4 130 (by decide +kernel)) rfl, z_iX4, by decide, by decide, by decide⟩
theorem pX4_at : z_np mX4_at 2 := fun sig hs => by
  have e : (parseMethodDescriptor yX4_at.desc).map (fun d => d.parameters.length) = some 2 := by decide +kernel
  rw [hs] at e
  exact (Option.some.inj e).symm
theorem sX4_at : z_okS mX4_at 2 := ⟨oX4_at, pX4_at, z_in (z_t4 129 (by decide +kernel)) rfl⟩
abbrev mX4_bellIs : zM := (yX4_bellIs, cX4_bellIs, 3, Option.some Jvm.ClassFile.FieldType.int, 1)
theorem oX4_bellIs : z_ok mX4_bellIs := ⟨z_in (z_t4 142 (by decide +kernel)) rfl, z_iX4, by decide, by decide, by decide⟩
theorem pX4_bellIs : z_np mX4_bellIs 2 := fun sig hs => by
  have e : (parseMethodDescriptor yX4_bellIs.desc).map (fun d => d.parameters.length) = some 2 := by decide +kernel
  rw [hs] at e
  exact (Option.some.inj e).symm
theorem vX4_bellIs : z_okV mX4_bellIs 4 2 := ⟨oX4_bellIs, pX4_bellIs, z_in (z_t4 141 (by decide +kernel)) rfl, z_in (z_tp 51 (by decide +kernel)) rfl, _, _, rfl⟩
abbrev mX4_isCaught : zM := (yX4_isCaught, cX4_isCaught, 2, Option.some Jvm.ClassFile.FieldType.boolean, 2)
theorem oX4_isCaught : z_ok mX4_isCaught := ⟨z_in (z_t4 171 (by decide +kernel)) rfl, z_iX4, by decide, by decide, by decide⟩
theorem pX4_isCaught : z_np mX4_isCaught 1 := fun sig hs => by
  have e : (parseMethodDescriptor yX4_isCaught.desc).map (fun d => d.parameters.length) = some 1 := by decide +kernel
  rw [hs] at e
  exact (Option.some.inj e).symm
theorem vX4_isCaught : z_okV mX4_isCaught 4 1 := ⟨oX4_isCaught, pX4_isCaught, z_in (z_t4 170 (by decide +kernel)) rfl, z_in (z_tp 55 (by decide +kernel)) rfl, _, _, rfl⟩
abbrev mX4_comes : zM := (yX4_comes, cX4_comes, 6, Option.some Jvm.ClassFile.FieldType.int, 1)
theorem oX4_comes : z_ok mX4_comes := ⟨z_in (z_t4 127 (by decide +kernel)) rfl, z_iX4, by decide, by decide, by decide⟩
theorem pX4_comes : z_np mX4_comes 4 := fun sig hs => by
  have e : (parseMethodDescriptor yX4_comes.desc).map (fun d => d.parameters.length) = some 4 := by decide +kernel
  rw [hs] at e
  exact (Option.some.inj e).symm
theorem vX4_comes : z_okV mX4_comes 4 4 := ⟨oX4_comes, pX4_comes, z_in (z_t4 126 (by decide +kernel)) rfl, z_in (z_tp 49 (by decide +kernel)) rfl, _, _, rfl⟩
abbrev mX4_bell : zM := (yX4_bell, cX4_bell, 3, Option.some Jvm.ClassFile.FieldType.int, 2)
theorem oX4_bell : z_ok mX4_bell := ⟨z_in (z_t4 119 (by decide +kernel)) rfl, z_iX4, by decide, by decide, by decide⟩
theorem pX4_bell : z_np mX4_bell 2 := fun sig hs => by
  have e : (parseMethodDescriptor yX4_bell.desc).map (fun d => d.parameters.length) = some 2 := by decide +kernel
  rw [hs] at e
  exact (Option.some.inj e).symm
theorem vX4_bell : z_okV mX4_bell 4 2 := ⟨oX4_bell, pX4_bell, z_in (z_t4 117 (by decide +kernel)) rfl, z_in (z_t4 118 (by decide +kernel)) rfl, _, _, rfl⟩
abbrev mX4_above : zM := (yX4_above, cX4_above, 1, Option.some Jvm.ClassFile.FieldType.int, 0)
theorem oX4_above : z_ok mX4_above := ⟨z_in (z_t4 163 (by decide +kernel)) rfl, z_iX4, by decide, by decide, by decide⟩
theorem pX4_above : z_np mX4_above 1 := fun sig hs => by
  have e : (parseMethodDescriptor yX4_above.desc).map (fun d => d.parameters.length) = some 1 := by decide +kernel
  rw [hs] at e
  exact (Option.some.inj e).symm
theorem sX4_above : z_okS mX4_above 1 := ⟨oX4_above, pX4_above, z_in (z_t4 162 (by decide +kernel)) rfl⟩
abbrev mX4_isUnder : zM := (yX4_isUnder, cX4_isUnder, 3, Option.some Jvm.ClassFile.FieldType.boolean, 1)
theorem oX4_isUnder : z_ok mX4_isUnder := ⟨z_in (z_t4 160 (by decide +kernel)) rfl, z_iX4, by decide, by decide, by decide⟩
theorem pX4_isUnder : z_np mX4_isUnder 2 := fun sig hs => by
  have e : (parseMethodDescriptor yX4_isUnder.desc).map (fun d => d.parameters.length) = some 2 := by decide +kernel
  rw [hs] at e
  exact (Option.some.inj e).symm
theorem sX4_isUnder : z_okS mX4_isUnder 2 := ⟨oX4_isUnder, pX4_isUnder, z_in (z_t4 159 (by decide +kernel)) rfl⟩
abbrev mX4_nearestOther : zM := (yX4_nearestOther, cX4_nearestOther, 8, Option.some Jvm.ClassFile.FieldType.int, 3)
theorem oX4_nearestOther : z_ok mX4_nearestOther := ⟨z_in (z_t4 167 (by decide +kernel)) rfl, z_iX4, by decide, by decide, by decide⟩
theorem pX4_nearestOther : z_np mX4_nearestOther 3 := fun sig hs => by
  have e : (parseMethodDescriptor yX4_nearestOther.desc).map (fun d => d.parameters.length) = some 3 := by decide +kernel
  rw [hs] at e
  exact (Option.some.inj e).symm
theorem vX4_nearestOther : z_okV mX4_nearestOther 4 3 := ⟨oX4_nearestOther, pX4_nearestOther, z_in (z_t4 166 (by decide +kernel)) rfl, z_in (z_tp 54 (by decide +kernel)) rfl, _, _, rfl⟩
abbrev mX4_worthOf : zM := (yX4_worthOf, cX4_worthOf, 9, Option.some Jvm.ClassFile.FieldType.int, 4)
theorem oX4_worthOf : z_ok mX4_worthOf := ⟨z_in (z_t4 150 (by decide +kernel)) rfl, z_iX4, by decide, by decide, by decide⟩
theorem pX4_worthOf : z_np mX4_worthOf 2 := fun sig hs => by
  have e : (parseMethodDescriptor yX4_worthOf.desc).map (fun d => d.parameters.length) = some 2 := by decide +kernel
  rw [hs] at e
  exact (Option.some.inj e).symm
theorem vX4_worthOf : z_okV mX4_worthOf 4 2 := ⟨oX4_worthOf, pX4_worthOf, z_in (z_t4 149 (by decide +kernel)) rfl, z_in (z_tp 53 (by decide +kernel)) rfl, _, _, rfl⟩
abbrev mX4_nextOf : zM := (yX4_nextOf, cX4_nextOf, 7, Option.some Jvm.ClassFile.FieldType.int, 5)
theorem oX4_nextOf : z_ok mX4_nextOf := ⟨z_in (z_t4 146 (by decide +kernel)) rfl, z_iX4, by decide, by decide, by decide⟩
theorem pX4_nextOf : z_np mX4_nextOf 1 := fun sig hs => by
  have e : (parseMethodDescriptor yX4_nextOf.desc).map (fun d => d.parameters.length) = some 1 := by decide +kernel
  rw [hs] at e
  exact (Option.some.inj e).symm
theorem vX4_nextOf : z_okV mX4_nextOf 4 1 := ⟨oX4_nextOf, pX4_nextOf, z_in (z_t4 145 (by decide +kernel)) rfl, z_in (z_tp 52 (by decide +kernel)) rfl, _, _, rfl⟩
abbrev mX4_of : zM := (yX4_of, cX4_of, 3, Option.some Jvm.ClassFile.FieldType.int, 6)
theorem oX4_of : z_ok mX4_of := ⟨z_in (z_t4 134 (by decide +kernel)) rfl, z_iX4, by decide, by decide, by decide⟩
theorem pX4_of : z_np mX4_of 2 := fun sig hs => by
  have e : (parseMethodDescriptor yX4_of.desc).map (fun d => d.parameters.length) = some 2 := by decide +kernel
  rw [hs] at e
  exact (Option.some.inj e).symm
theorem vX4_of : z_okV mX4_of 4 2 := ⟨oX4_of, pX4_of, z_in (z_t4 132 (by decide +kernel)) rfl, z_in (z_t4 133 (by decide +kernel)) rfl, _, _, rfl⟩
abbrev mX4_mayBe : zM := (yX4_mayBe, cX4_mayBe, 2, Option.some Jvm.ClassFile.FieldType.boolean, 2)
theorem oX4_mayBe : z_ok mX4_mayBe := ⟨z_in (z_t4 183 (by decide +kernel)) rfl, z_iX4, by decide, by decide, by decide⟩
theorem pX4_mayBe : z_np mX4_mayBe 2 := fun sig hs => by
  have e : (parseMethodDescriptor yX4_mayBe.desc).map (fun d => d.parameters.length) = some 2 := by decide +kernel
  rw [hs] at e
  exact (Option.some.inj e).symm
theorem sX4_mayBe : z_okS mX4_mayBe 2 := ⟨oX4_mayBe, pX4_mayBe, z_in (z_t4 182 (by decide +kernel)) rfl⟩
abbrev mX4_change : zM := (yX4_change, cX4_change, 4, Option.some Jvm.ClassFile.FieldType.int, 3)
theorem oX4_change : z_ok mX4_change := ⟨z_in (z_t4 180 (by decide +kernel)) rfl, z_iX4, by decide, by decide, by decide⟩
theorem pX4_change : z_np mX4_change 3 := fun sig hs => by
  have e : (parseMethodDescriptor yX4_change.desc).map (fun d => d.parameters.length) = some 3 := by decide +kernel
  rw [hs] at e
  exact (Option.some.inj e).symm
theorem vX4_change : z_okV mX4_change 4 3 := ⟨oX4_change, pX4_change, z_in (z_t4 178 (by decide +kernel)) rfl, z_in (z_t4 179 (by decide +kernel)) rfl, _, _, rfl⟩
abbrev mX4_worth : zM := (yX4_worth, cX4_worth, 3, Option.some Jvm.ClassFile.FieldType.int, 5)
theorem oX4_worth : z_ok mX4_worth := ⟨z_in (z_t4 187 (by decide +kernel)) rfl, z_iX4, by decide, by decide, by decide⟩
theorem pX4_worth : z_np mX4_worth 2 := fun sig hs => by
  have e : (parseMethodDescriptor yX4_worth.desc).map (fun d => d.parameters.length) = some 2 := by decide +kernel
  rw [hs] at e
  exact (Option.some.inj e).symm
theorem vX4_worth : z_okV mX4_worth 4 2 := ⟨oX4_worth, pX4_worth, z_in (z_t4 185 (by decide +kernel)) rfl, z_in (z_t4 186 (by decide +kernel)) rfl, _, _, rfl⟩
abbrev mX4_loudOf : zM := (yX4_loudOf, cX4_loudOf, 4, Option.some Jvm.ClassFile.FieldType.int, 2)
theorem oX4_loudOf : z_ok mX4_loudOf := ⟨z_in (z_t4 203 (by decide +kernel)) rfl, z_iX4, by decide, by decide, by decide⟩
theorem pX4_loudOf : z_np mX4_loudOf 3 := fun sig hs => by
  have e : (parseMethodDescriptor yX4_loudOf.desc).map (fun d => d.parameters.length) = some 3 := by decide +kernel
  rw [hs] at e
  exact (Option.some.inj e).symm
theorem vX4_loudOf : z_okV mX4_loudOf 4 3 := ⟨oX4_loudOf, pX4_loudOf, z_in (z_t4 202 (by decide +kernel)) rfl, z_in (z_tp 59 (by decide +kernel)) rfl, _, _, rfl⟩
abbrev mX4_loudAt : zM := (yX4_loudAt, cX4_loudAt, 3, Option.some Jvm.ClassFile.FieldType.int, 3)
theorem oX4_loudAt : z_ok mX4_loudAt := ⟨z_in (z_t4 199 (by decide +kernel)) rfl, z_iX4, by decide, by decide, by decide⟩
theorem pX4_loudAt : z_np mX4_loudAt 2 := fun sig hs => by
  have e : (parseMethodDescriptor yX4_loudAt.desc).map (fun d => d.parameters.length) = some 2 := by decide +kernel
  rw [hs] at e
  exact (Option.some.inj e).symm
theorem vX4_loudAt : z_okV mX4_loudAt 4 2 := ⟨oX4_loudAt, pX4_loudAt, z_in (z_t4 198 (by decide +kernel)) rfl, z_in (z_tp 58 (by decide +kernel)) rfl, _, _, rfl⟩
abbrev mX4_heardAt : zM := (yX4_heardAt, cX4_heardAt, 4, Option.some Jvm.ClassFile.FieldType.int, 4)
theorem oX4_heardAt : z_ok mX4_heardAt := ⟨z_in (z_t4 195 (by decide +kernel)) rfl, z_iX4, by decide, by decide, by decide⟩
theorem pX4_heardAt : z_np mX4_heardAt 1 := fun sig hs => by
  have e : (parseMethodDescriptor yX4_heardAt.desc).map (fun d => d.parameters.length) = some 1 := by decide +kernel
  rw [hs] at e
  exact (Option.some.inj e).symm
theorem vX4_heardAt : z_okV mX4_heardAt 4 1 := ⟨oX4_heardAt, pX4_heardAt, z_in (z_t4 194 (by decide +kernel)) rfl, z_in (z_tp 57 (by decide +kernel)) rfl, _, _, rfl⟩
abbrev mX4_manyAt : zM := (yX4_manyAt, cX4_manyAt, 4, Option.some Jvm.ClassFile.FieldType.int, 2)
theorem oX4_manyAt : z_ok mX4_manyAt := ⟨z_in (z_t4 207 (by decide +kernel)) rfl, z_iX4, by decide, by decide, by decide⟩
theorem pX4_manyAt : z_np mX4_manyAt 1 := fun sig hs => by
  have e : (parseMethodDescriptor yX4_manyAt.desc).map (fun d => d.parameters.length) = some 1 := by decide +kernel
  rw [hs] at e
  exact (Option.some.inj e).symm
theorem vX4_manyAt : z_okV mX4_manyAt 4 1 := ⟨oX4_manyAt, pX4_manyAt, z_in (z_t4 206 (by decide +kernel)) rfl, z_in (z_tp 60 (by decide +kernel)) rfl, _, _, rfl⟩
abbrev mX4_cell : zM := (yX4_cell, cX4_cell, 3, Option.some Jvm.ClassFile.FieldType.int, 5)
theorem oX4_cell : z_ok mX4_cell := ⟨z_in (z_t4 191 (by decide +kernel)) rfl, z_iX4, by decide, by decide, by decide⟩
theorem pX4_cell : z_np mX4_cell 2 := fun sig hs => by
  have e : (parseMethodDescriptor yX4_cell.desc).map (fun d => d.parameters.length) = some 2 := by decide +kernel
  rw [hs] at e
  exact (Option.some.inj e).symm
theorem vX4_cell : z_okV mX4_cell 4 2 := ⟨oX4_cell, pX4_cell, z_in (z_t4 189 (by decide +kernel)) rfl, z_in (z_t4 190 (by decide +kernel)) rfl, _, _, rfl⟩
abbrev mX4_caughtNow : zM := (yX4_caughtNow, cX4_caughtNow, 3, Option.some Jvm.ClassFile.FieldType.int, 3)
theorem oX4_caughtNow : z_ok mX4_caughtNow := ⟨z_in (z_t4 229 (by decide +kernel)) rfl, z_iX4, by decide, by decide, by decide⟩
theorem pX4_caughtNow : z_np mX4_caughtNow 0 := fun sig hs => by
  have e : (parseMethodDescriptor yX4_caughtNow.desc).map (fun d => d.parameters.length) = some 0 := by decide +kernel
  rw [hs] at e
  exact (Option.some.inj e).symm
theorem vX4_caughtNow : z_okV mX4_caughtNow 4 0 := ⟨oX4_caughtNow, pX4_caughtNow, z_in (z_t4 228 (by decide +kernel)) rfl, z_in (z_tp 64 (by decide +kernel)) rfl, _, _, rfl⟩
abbrev mX4_hour : zM := (yX4_hour, cX4_hour, 3, Option.none, 6)
theorem oX4_hour : z_ok mX4_hour := ⟨z_in (z_t4 221 (by decide +kernel)) rfl, z_iX4, by decide, by decide, by decide⟩
theorem pX4_hour : z_np mX4_hour 0 := fun sig hs => by
  have e : (parseMethodDescriptor yX4_hour.desc).map (fun d => d.parameters.length) = some 0 := by decide +kernel
  rw [hs] at e
  exact (Option.some.inj e).symm
theorem vX4_hour : z_okV mX4_hour 4 0 := ⟨oX4_hour, pX4_hour, z_in (z_t4 220 (by decide +kernel)) rfl, z_in (z_tp 62 (by decide +kernel)) rfl, _, _, rfl⟩
abbrev mX4_hours : zM := (yX4_hours, cX4_hours, 3, Option.none, 7)
theorem oX4_hours : z_ok mX4_hours := ⟨z_in (z_t4 217 (by decide +kernel)) rfl, z_iX4, by decide, by decide, by decide⟩
theorem pX4_hours : z_np mX4_hours 1 := fun sig hs => by
  have e : (parseMethodDescriptor yX4_hours.desc).map (fun d => d.parameters.length) = some 1 := by decide +kernel
  rw [hs] at e
  exact (Option.some.inj e).symm
theorem vX4_hours : z_okV mX4_hours 4 1 := ⟨oX4_hours, pX4_hours, z_in (z_t4 216 (by decide +kernel)) rfl, z_in (z_tp 61 (by decide +kernel)) rfl, _, _, rfl⟩
abbrev mX4_go : zM := (yX4_go, cX4_go, 2, Option.some Jvm.ClassFile.FieldType.int, 8)
theorem oX4_go : z_ok mX4_go := ⟨z_in (z_t4 211 (by decide +kernel)) rfl, z_iX4, by decide, by decide, by decide⟩
theorem pX4_go : z_np mX4_go 1 := fun sig hs => by
  have e : (parseMethodDescriptor yX4_go.desc).map (fun d => d.parameters.length) = some 1 := by decide +kernel
  rw [hs] at e
  exact (Option.some.inj e).symm
theorem vX4_go : z_okV mX4_go 4 1 := ⟨oX4_go, pX4_go, z_in (z_t4 209 (by decide +kernel)) rfl, z_in (z_t4 210 (by decide +kernel)) rfl, _, _, rfl⟩
abbrev mX4_nets : zM := (yX4_nets, cX4_nets, 3, Option.some Jvm.ClassFile.FieldType.int, 0)
theorem oX4_nets : z_ok mX4_nets := ⟨z_in (z_t5 0 (by decide +kernel)) rfl, z_iX4, by decide, by decide, by decide⟩
theorem pX4_nets : z_np mX4_nets 0 := fun sig hs => by
  have e : (parseMethodDescriptor yX4_nets.desc).map (fun d => d.parameters.length) = some 0 := by decide +kernel
  rw [hs] at e
  exact (Option.some.inj e).symm
theorem vX4_nets : z_okV mX4_nets 4 0 := ⟨oX4_nets, pX4_nets, z_in (z_t4 239 (by decide +kernel)) rfl, z_in (z_tp 65 (by decide +kernel)) rfl, _, _, rfl⟩
abbrev mX4_caughtWeight : zM := (yX4_caughtWeight, cX4_caughtWeight, 3, Option.some Jvm.ClassFile.FieldType.int, 3)
theorem oX4_caughtWeight : z_ok mX4_caughtWeight := ⟨z_in (z_t5 4 (by decide +kernel)) rfl, z_iX4, by decide, by decide, by decide⟩
theorem pX4_caughtWeight : z_np mX4_caughtWeight 0 := fun sig hs => by
  have e : (parseMethodDescriptor yX4_caughtWeight.desc).map (fun d => d.parameters.length) = some 0 := by decide +kernel
  rw [hs] at e
  exact (Option.some.inj e).symm
theorem vX4_caughtWeight : z_okV mX4_caughtWeight 4 0 := ⟨oX4_caughtWeight, pX4_caughtWeight, z_in (z_t5 3 (by decide +kernel)) rfl, z_in (z_tp 66 (by decide +kernel)) rfl, _, _, rfl⟩
abbrev mX4_now : zM := (yX4_now, cX4_now, 2, Option.some Jvm.ClassFile.FieldType.int, 4)
theorem oX4_now : z_ok mX4_now := ⟨z_in (z_t4 236 (by decide +kernel)) rfl, z_iX4, by decide, by decide, by decide⟩
theorem pX4_now : z_np mX4_now 1 := fun sig hs => by
  have e : (parseMethodDescriptor yX4_now.desc).map (fun d => d.parameters.length) = some 1 := by decide +kernel
  rw [hs] at e
  exact (Option.some.inj e).symm
theorem vX4_now : z_okV mX4_now 4 1 := ⟨oX4_now, pX4_now, z_in (z_t4 234 (by decide +kernel)) rfl, z_in (z_t4 235 (by decide +kernel)) rfl, _, _, rfl⟩
abbrev mX4_loud : zM := (yX4_loud, cX4_loud, 3, Option.some Jvm.ClassFile.FieldType.int, 4)
theorem oX4_loud : z_ok mX4_loud := ⟨z_in (z_t5 8 (by decide +kernel)) rfl, z_iX4, by decide, by decide, by decide⟩
theorem pX4_loud : z_np mX4_loud 2 := fun sig hs => by
  have e : (parseMethodDescriptor yX4_loud.desc).map (fun d => d.parameters.length) = some 2 := by decide +kernel
  rw [hs] at e
  exact (Option.some.inj e).symm
theorem vX4_loud : z_okV mX4_loud 4 2 := ⟨oX4_loud, pX4_loud, z_in (z_t5 6 (by decide +kernel)) rfl, z_in (z_t5 7 (by decide +kernel)) rfl, _, _, rfl⟩
abbrev mX4_fieldBehind : zM := (yX4_fieldBehind, cX4_fieldBehind, 4, Option.some Jvm.ClassFile.FieldType.int, 8)
theorem oX4_fieldBehind : z_ok mX4_fieldBehind := ⟨z_in (z_t5 16 (by decide +kernel)) rfl, z_iX4, by decide, by decide, by decide⟩
theorem pX4_fieldBehind : z_np mX4_fieldBehind 3 := fun sig hs => by
  have e : (parseMethodDescriptor yX4_fieldBehind.desc).map (fun d => d.parameters.length) = some 3 := by decide +kernel
  rw [hs] at e
  exact (Option.some.inj e).symm
theorem vX4_fieldBehind : z_okV mX4_fieldBehind 4 3 := ⟨oX4_fieldBehind, pX4_fieldBehind, z_in (z_t5 15 (by decide +kernel)) rfl, z_in (z_tp 67 (by decide +kernel)) rfl, _, _, rfl⟩
abbrev mX4_ahead : zM := (yX4_ahead, cX4_ahead, 3, Option.some Jvm.ClassFile.FieldType.int, 9)
theorem oX4_ahead : z_ok mX4_ahead := ⟨z_in (z_t5 12 (by decide +kernel)) rfl, z_iX4, by decide, by decide, by decide⟩
theorem pX4_ahead : z_np mX4_ahead 2 := fun sig hs => by
  have e : (parseMethodDescriptor yX4_ahead.desc).map (fun d => d.parameters.length) = some 2 := by decide +kernel
  rw [hs] at e
  exact (Option.some.inj e).symm
theorem vX4_ahead : z_okV mX4_ahead 4 2 := ⟨oX4_ahead, pX4_ahead, z_in (z_t5 10 (by decide +kernel)) rfl, z_in (z_t5 11 (by decide +kernel)) rfl, _, _, rfl⟩
abbrev mX4_caughtIn : zM := (yX4_caughtIn, cX4_caughtIn, 4, Option.some Jvm.ClassFile.FieldType.int, 7)
theorem oX4_caughtIn : z_ok mX4_caughtIn := ⟨z_in (z_t5 31 (by decide +kernel)) rfl, z_iX4, by decide, by decide, by decide⟩
theorem pX4_caughtIn : z_np mX4_caughtIn 2 := fun sig hs => by
  have e : (parseMethodDescriptor yX4_caughtIn.desc).map (fun d => d.parameters.length) = some 2 := by decide +kernel
  rw [hs] at e
  exact (Option.some.inj e).symm
theorem vX4_caughtIn : z_okV mX4_caughtIn 4 2 := ⟨oX4_caughtIn, pX4_caughtIn, z_in (z_t5 30 (by decide +kernel)) rfl, z_in (z_tp 69 (by decide +kernel)) rfl, _, _, rfl⟩
abbrev mX4_told : zM := (yX4_told, cX4_told, 2, Option.some Jvm.ClassFile.FieldType.int, 1)
theorem oX4_told : z_ok mX4_told := ⟨z_in (z_t5 36 (by decide +kernel)) rfl, z_iX4, by decide, by decide, by decide⟩
theorem pX4_told : z_np mX4_told 1 := fun sig hs => by
  have e : (parseMethodDescriptor yX4_told.desc).map (fun d => d.parameters.length) = some 1 := by decide +kernel
  rw [hs] at e
  exact (Option.some.inj e).symm
theorem vX4_told : z_okV mX4_told 4 1 := ⟨oX4_told, pX4_told, z_in (z_t5 35 (by decide +kernel)) rfl, z_in (z_tp 70 (by decide +kernel)) rfl, _, _, rfl⟩
abbrev mX4_when : zM := (yX4_when, cX4_when, 2, Option.some Jvm.ClassFile.FieldType.int, 8)
theorem oX4_when : z_ok mX4_when := ⟨z_in (z_t5 27 (by decide +kernel)) rfl, z_iX4, by decide, by decide, by decide⟩
theorem pX4_when : z_np mX4_when 1 := fun sig hs => by
  have e : (parseMethodDescriptor yX4_when.desc).map (fun d => d.parameters.length) = some 1 := by decide +kernel
  rw [hs] at e
  exact (Option.some.inj e).symm
theorem vX4_when : z_okV mX4_when 4 1 := ⟨oX4_when, pX4_when, z_in (z_t5 25 (by decide +kernel)) rfl, z_in (z_t5 26 (by decide +kernel)) rfl, _, _, rfl⟩
abbrev mX4_still : zM := (yX4_still, cX4_still, 2, Option.some Jvm.ClassFile.FieldType.int, 7)
theorem oX4_still : z_ok mX4_still := ⟨z_in (z_t5 41 (by decide +kernel)) rfl, z_iX4, by decide, by decide, by decide⟩
theorem pX4_still : z_np mX4_still 0 := fun sig hs => by
  have e : (parseMethodDescriptor yX4_still.desc).map (fun d => d.parameters.length) = some 0 := by decide +kernel
  rw [hs] at e
  exact (Option.some.inj e).symm
theorem vX4_still : z_okV mX4_still 4 0 := ⟨oX4_still, pX4_still, z_in (z_t5 39 (by decide +kernel)) rfl, z_in (z_t5 40 (by decide +kernel)) rfl, _, _, rfl⟩
abbrev mX4_setBehind : zM := (yX4_setBehind, cX4_setBehind, 2, Option.some Jvm.ClassFile.FieldType.int, 8)
theorem oX4_setBehind : z_ok mX4_setBehind := ⟨z_in (z_t5 49 (by decide +kernel)) rfl, z_iX4, by decide, by decide, by decide⟩
theorem pX4_setBehind : z_np mX4_setBehind 1 := fun sig hs => by
  have e : (parseMethodDescriptor yX4_setBehind.desc).map (fun d => d.parameters.length) = some 1 := by decide +kernel
  rw [hs] at e
  exact (Option.some.inj e).symm
theorem vX4_setBehind : z_okV mX4_setBehind 4 1 := ⟨oX4_setBehind, pX4_setBehind, z_in (z_t5 48 (by decide +kernel)) rfl, z_in (z_tp 71 (by decide +kernel)) rfl, _, _, rfl⟩
abbrev mX4_caught : zM := (yX4_caught, cX4_caught, 2, Option.some Jvm.ClassFile.FieldType.int, 9)
theorem oX4_caught : z_ok mX4_caught := ⟨z_in (z_t5 45 (by decide +kernel)) rfl, z_iX4, by decide, by decide, by decide⟩
theorem pX4_caught : z_np mX4_caught 1 := fun sig hs => by
  have e : (parseMethodDescriptor yX4_caught.desc).map (fun d => d.parameters.length) = some 1 := by decide +kernel
  rw [hs] at e
  exact (Option.some.inj e).symm
theorem vX4_caught : z_okV mX4_caught 4 1 := ⟨oX4_caught, pX4_caught, z_in (z_t5 43 (by decide +kernel)) rfl, z_in (z_t5 44 (by decide +kernel)) rfl, _, _, rfl⟩
abbrev mX4_orNone : zM := (yX4_orNone, cX4_orNone, 2, Option.some Jvm.ClassFile.FieldType.int, 1)
theorem oX4_orNone : z_ok mX4_orNone := ⟨z_in (z_t5 57 (by decide +kernel)) rfl, z_iX4, by decide, by decide, by decide⟩
theorem pX4_orNone : z_np mX4_orNone 1 := fun sig hs => by
  have e : (parseMethodDescriptor yX4_orNone.desc).map (fun d => d.parameters.length) = some 1 := by decide +kernel
  rw [hs] at e
  exact (Option.some.inj e).symm
theorem vX4_orNone : z_okV mX4_orNone 4 1 := ⟨oX4_orNone, pX4_orNone, z_in (z_t5 56 (by decide +kernel)) rfl, z_in (z_tp 72 (by decide +kernel)) rfl, _, _, rfl⟩
abbrev mX4_netFor : zM := (yX4_netFor, cX4_netFor, 6, Option.some Jvm.ClassFile.FieldType.int, 8)
theorem oX4_netFor : z_ok mX4_netFor := ⟨z_in (z_t5 53 (by decide +kernel)) rfl, z_iX4, by decide, by decide, by decide⟩
theorem pX4_netFor : z_np mX4_netFor 1 := fun sig hs => by
  have e : (parseMethodDescriptor yX4_netFor.desc).map (fun d => d.parameters.length) = some 1 := by decide +kernel
  rw [hs] at e
  exact (Option.some.inj e).symm
theorem vX4_netFor : z_okV mX4_netFor 4 1 := ⟨oX4_netFor, pX4_netFor, z_in (z_t5 51 (by decide +kernel)) rfl, z_in (z_t5 52 (by decide +kernel)) rfl, _, _, rfl⟩
abbrev mX4_best : zM := (yX4_best, cX4_best, 6, Option.some Jvm.ClassFile.FieldType.int, 9)
theorem oX4_best : z_ok mX4_best := ⟨z_in (z_t5 61 (by decide +kernel)) rfl, z_iX4, by decide, by decide, by decide⟩
theorem pX4_best : z_np mX4_best 1 := fun sig hs => by
  have e : (parseMethodDescriptor yX4_best.desc).map (fun d => d.parameters.length) = some 1 := by decide +kernel
  rw [hs] at e
  exact (Option.some.inj e).symm
theorem vX4_best : z_okV mX4_best 4 1 := ⟨oX4_best, pX4_best, z_in (z_t5 59 (by decide +kernel)) rfl, z_in (z_t5 60 (by decide +kernel)) rfl, _, _, rfl⟩
abbrev mX4_drive : zM := (yX4_drive, cX4_drive, 8, Option.some Jvm.ClassFile.FieldType.int, 8)
theorem oX4_drive : z_ok mX4_drive := ⟨z_in (z_t5 65 (by decide +kernel)) rfl, z_iX4, by decide, by decide, by decide⟩
theorem pX4_drive : z_np mX4_drive 2 := fun sig hs => by
  have e : (parseMethodDescriptor yX4_drive.desc).map (fun d => d.parameters.length) = some 2 := by decide +kernel
  rw [hs] at e
  exact (Option.some.inj e).symm
theorem vX4_drive : z_okV mX4_drive 4 2 := ⟨oX4_drive, pX4_drive, z_in (z_t5 63 (by decide +kernel)) rfl, z_in (z_t5 64 (by decide +kernel)) rfl, _, _, rfl⟩
abbrev mX4_kindFor : zM := (yX4_kindFor, cX4_kindFor, 7, Option.some Jvm.ClassFile.FieldType.int, 8)
theorem oX4_kindFor : z_ok mX4_kindFor := ⟨z_in (z_t5 69 (by decide +kernel)) rfl, z_iX4, by decide, by decide, by decide⟩
theorem pX4_kindFor : z_np mX4_kindFor 1 := fun sig hs => by
  have e : (parseMethodDescriptor yX4_kindFor.desc).map (fun d => d.parameters.length) = some 1 := by decide +kernel
  rw [hs] at e
  exact (Option.some.inj e).symm
theorem vX4_kindFor : z_okV mX4_kindFor 4 1 := ⟨oX4_kindFor, pX4_kindFor, z_in (z_t5 67 (by decide +kernel)) rfl, z_in (z_t5 68 (by decide +kernel)) rfl, _, _, rfl⟩
abbrev mX4_lacks : zM := (yX4_lacks, cX4_lacks, 2, Option.some Jvm.ClassFile.FieldType.int, 2)
theorem oX4_lacks : z_ok mX4_lacks := ⟨z_in (z_t5 81 (by decide +kernel)) rfl, z_iX4, by decide, by decide, by decide⟩
theorem pX4_lacks : z_np mX4_lacks 1 := fun sig hs => by
  have e : (parseMethodDescriptor yX4_lacks.desc).map (fun d => d.parameters.length) = some 1 := by decide +kernel
  rw [hs] at e
  exact (Option.some.inj e).symm
theorem vX4_lacks : z_okV mX4_lacks 4 1 := ⟨oX4_lacks, pX4_lacks, z_in (z_t5 80 (by decide +kernel)) rfl, z_in (z_tp 74 (by decide +kernel)) rfl, _, _, rfl⟩
abbrev mX4_earOf : zM := (yX4_earOf, cX4_earOf, 3, Option.some Jvm.ClassFile.FieldType.int, 0)
theorem oX4_earOf : z_ok mX4_earOf := ⟨z_in (z_t5 97 (by decide +kernel)) rfl, z_iX4, by decide, by decide, by decide⟩
theorem pX4_earOf : z_np mX4_earOf 2 := fun sig hs => by
  have e : (parseMethodDescriptor yX4_earOf.desc).map (fun d => d.parameters.length) = some 2 := by decide +kernel
  rw [hs] at e
  exact (Option.some.inj e).symm
theorem vX4_earOf : z_okV mX4_earOf 4 2 := ⟨oX4_earOf, pX4_earOf, z_in (z_t5 96 (by decide +kernel)) rfl, z_in (z_tp 77 (by decide +kernel)) rfl, _, _, rfl⟩
abbrev mX4_ears : zM := (yX4_ears, cX4_ears, 2, Option.some Jvm.ClassFile.FieldType.int, 0)
theorem oX4_ears : z_ok mX4_ears := ⟨z_in (z_t5 93 (by decide +kernel)) rfl, z_iX4, by decide, by decide, by decide⟩
theorem pX4_ears : z_np mX4_ears 1 := fun sig hs => by
  have e : (parseMethodDescriptor yX4_ears.desc).map (fun d => d.parameters.length) = some 1 := by decide +kernel
  rw [hs] at e
  exact (Option.some.inj e).symm
theorem vX4_ears : z_okV mX4_ears 4 1 := ⟨oX4_ears, pX4_ears, z_in (z_t5 92 (by decide +kernel)) rfl, z_in (z_tp 76 (by decide +kernel)) rfl, _, _, rfl⟩
abbrev mX4_areEars : zM := (yX4_areEars, cX4_areEars, 4, Option.some Jvm.ClassFile.FieldType.boolean, 2)
theorem oX4_areEars : z_ok mX4_areEars := ⟨z_in (z_t5 89 (by decide +kernel)) rfl, z_iX4, by decide, by decide, by decide⟩
theorem pX4_areEars : z_np mX4_areEars 1 := fun sig hs => by
  have e : (parseMethodDescriptor yX4_areEars.desc).map (fun d => d.parameters.length) = some 1 := by decide +kernel
  rw [hs] at e
  exact (Option.some.inj e).symm
theorem vX4_areEars : z_okV mX4_areEars 4 1 := ⟨oX4_areEars, pX4_areEars, z_in (z_t5 88 (by decide +kernel)) rfl, z_in (z_tp 75 (by decide +kernel)) rfl, _, _, rfl⟩
abbrev mX4_isSo : zM := (yX4_isSo, cX4_isSo, 6, Option.some Jvm.ClassFile.FieldType.boolean, 3)
theorem oX4_isSo : z_ok mX4_isSo := ⟨z_in (z_t5 101 (by decide +kernel)) rfl, z_iX4, by decide, by decide, by decide⟩
theorem pX4_isSo : z_np mX4_isSo 3 := fun sig hs => by
  have e : (parseMethodDescriptor yX4_isSo.desc).map (fun d => d.parameters.length) = some 3 := by decide +kernel
  rw [hs] at e
  exact (Option.some.inj e).symm
theorem vX4_isSo : z_okV mX4_isSo 4 3 := ⟨oX4_isSo, pX4_isSo, z_in (z_t5 100 (by decide +kernel)) rfl, z_in (z_tp 78 (by decide +kernel)) rfl, _, _, rfl⟩
abbrev mX4_lacksOf : zM := (yX4_lacksOf, cX4_lacksOf, 4, Option.some Jvm.ClassFile.FieldType.int, 3)
theorem oX4_lacksOf : z_ok mX4_lacksOf := ⟨z_in (z_t5 77 (by decide +kernel)) rfl, z_iX4, by decide, by decide, by decide⟩
theorem pX4_lacksOf : z_np mX4_lacksOf 2 := fun sig hs => by
  have e : (parseMethodDescriptor yX4_lacksOf.desc).map (fun d => d.parameters.length) = some 2 := by decide +kernel
  rw [hs] at e
  exact (Option.some.inj e).symm
theorem vX4_lacksOf : z_okV mX4_lacksOf 4 2 := ⟨oX4_lacksOf, pX4_lacksOf, z_in (z_t5 76 (by decide +kernel)) rfl, z_in (z_tp 73 (by decide +kernel)) rfl, _, _, rfl⟩
abbrev mX4_stands : zM := (yX4_stands, cX4_stands, 5, Option.some Jvm.ClassFile.FieldType.int, 4)
theorem oX4_stands : z_ok mX4_stands := ⟨z_in (z_t5 73 (by decide +kernel)) rfl, z_iX4, by decide, by decide, by decide⟩
theorem pX4_stands : z_np mX4_stands 2 := fun sig hs => by
  have e : (parseMethodDescriptor yX4_stands.desc).map (fun d => d.parameters.length) = some 2 := by decide +kernel
  rw [hs] at e
  exact (Option.some.inj e).symm
theorem vX4_stands : z_okV mX4_stands 4 2 := ⟨oX4_stands, pX4_stands, z_in (z_t5 71 (by decide +kernel)) rfl, z_in (z_t5 72 (by decide +kernel)) rfl, _, _, rfl⟩
abbrev mX4_where : zM := (yX4_where, cX4_where, 4, Option.some Jvm.ClassFile.FieldType.int, 4)
theorem oX4_where : z_ok mX4_where := ⟨z_in (z_t5 105 (by decide +kernel)) rfl, z_iX4, by decide, by decide, by decide⟩
theorem pX4_where : z_np mX4_where 2 := fun sig hs => by
  have e : (parseMethodDescriptor yX4_where.desc).map (fun d => d.parameters.length) = some 2 := by decide +kernel
  rw [hs] at e
  exact (Option.some.inj e).symm
theorem vX4_where : z_okV mX4_where 4 2 := ⟨oX4_where, pX4_where, z_in (z_t5 103 (by decide +kernel)) rfl, z_in (z_t5 104 (by decide +kernel)) rfl, _, _, rfl⟩
abbrev mX4_worst : zM := (yX4_worst, cX4_worst, 7, Option.some Jvm.ClassFile.FieldType.int, 4)
theorem oX4_worst : z_ok mX4_worst := ⟨z_in (z_t5 113 (by decide +kernel)) rfl, z_iX4, by decide, by decide, by decide⟩
theorem pX4_worst : z_np mX4_worst 3 := fun sig hs => by
  have e : (parseMethodDescriptor yX4_worst.desc).map (fun d => d.parameters.length) = some 3 := by decide +kernel
  rw [hs] at e
  exact (Option.some.inj e).symm
theorem vX4_worst : z_okV mX4_worst 4 3 := ⟨oX4_worst, pX4_worst, z_in (z_t5 112 (by decide +kernel)) rfl, z_in (z_tp 79 (by decide +kernel)) rfl, _, _, rfl⟩
abbrev mX4_ear : zM := (yX4_ear, cX4_ear, 7, Option.some Jvm.ClassFile.FieldType.int, 5)
theorem oX4_ear : z_ok mX4_ear := ⟨z_in (z_t5 109 (by decide +kernel)) rfl, z_iX4, by decide, by decide, by decide⟩
theorem pX4_ear : z_np mX4_ear 2 := fun sig hs => by
  have e : (parseMethodDescriptor yX4_ear.desc).map (fun d => d.parameters.length) = some 2 := by decide +kernel
  rw [hs] at e
  exact (Option.some.inj e).symm
theorem vX4_ear : z_okV mX4_ear 4 2 := ⟨oX4_ear, pX4_ear, z_in (z_t5 107 (by decide +kernel)) rfl, z_in (z_t5 108 (by decide +kernel)) rfl, _, _, rfl⟩
abbrev mX4_whose : zM := (yX4_whose, cX4_whose, 4, Option.some Jvm.ClassFile.FieldType.int, 4)
theorem oX4_whose : z_ok mX4_whose := ⟨z_in (z_t5 117 (by decide +kernel)) rfl, z_iX4, by decide, by decide, by decide⟩
theorem pX4_whose : z_np mX4_whose 1 := fun sig hs => by
  have e : (parseMethodDescriptor yX4_whose.desc).map (fun d => d.parameters.length) = some 1 := by decide +kernel
  rw [hs] at e
  exact (Option.some.inj e).symm
theorem vX4_whose : z_okV mX4_whose 4 1 := ⟨oX4_whose, pX4_whose, z_in (z_t5 115 (by decide +kernel)) rfl, z_in (z_t5 116 (by decide +kernel)) rfl, _, _, rfl⟩
abbrev mX4_stockBehind : zM := (yX4_stockBehind, cX4_stockBehind, 5, Option.some Jvm.ClassFile.FieldType.int, 1)
theorem oX4_stockBehind : z_ok mX4_stockBehind := ⟨z_in (z_t5 124 (by decide +kernel)) rfl, z_iX4, by decide, by decide, by decide⟩
theorem pX4_stockBehind : z_np mX4_stockBehind 3 := fun sig hs => by
  have e : (parseMethodDescriptor yX4_stockBehind.desc).map (fun d => d.parameters.length) = some 3 := by decide +kernel
  rw [hs] at e
  exact (Option.some.inj e).symm
theorem sX4_stockBehind : z_okS mX4_stockBehind 3 := ⟨oX4_stockBehind, pX4_stockBehind, z_in (z_t5 123 (by decide +kernel)) rfl⟩
abbrev mX4_stock : zM := (yX4_stock, cX4_stock, 4, Option.some Jvm.ClassFile.FieldType.int, 2)
theorem oX4_stock : z_ok mX4_stock := ⟨z_in (z_t5 121 (by decide +kernel)) rfl, z_iX4, by decide, by decide, by decide⟩
theorem pX4_stock : z_np mX4_stock 3 := fun sig hs => by
  have e : (parseMethodDescriptor yX4_stock.desc).map (fun d => d.parameters.length) = some 3 := by decide +kernel
  rw [hs] at e
  exact (Option.some.inj e).symm
theorem vX4_stock : z_okV mX4_stock 4 3 := ⟨oX4_stock, pX4_stock, z_in (z_t5 119 (by decide +kernel)) rfl, z_in (z_t5 120 (by decide +kernel)) rfl, _, _, rfl⟩
abbrev mX4_lasts : zM := (yX4_lasts, cX4_lasts, 4, Option.some Jvm.ClassFile.FieldType.int, 2)
theorem oX4_lasts : z_ok mX4_lasts := ⟨z_in (z_t5 128 (by decide +kernel)) rfl, z_iX4, by decide, by decide, by decide⟩
theorem pX4_lasts : z_np mX4_lasts 2 := fun sig hs => by
  have e : (parseMethodDescriptor yX4_lasts.desc).map (fun d => d.parameters.length) = some 2 := by decide +kernel
  rw [hs] at e
  exact (Option.some.inj e).symm
theorem vX4_lasts : z_okV mX4_lasts 4 2 := ⟨oX4_lasts, pX4_lasts, z_in (z_t5 126 (by decide +kernel)) rfl, z_in (z_t5 127 (by decide +kernel)) rfl, _, _, rfl⟩
abbrev mX4_areRing : zM := (yX4_areRing, cX4_areRing, 6, Option.some Jvm.ClassFile.FieldType.boolean, 2)
theorem oX4_areRing : z_ok mX4_areRing := ⟨z_in (z_t5 140 (by decide +kernel)) rfl, z_iX4, by decide, by decide, by decide⟩
theorem pX4_areRing : z_np mX4_areRing 1 := fun sig hs => by
  have e : (parseMethodDescriptor yX4_areRing.desc).map (fun d => d.parameters.length) = some 1 := by decide +kernel
  rw [hs] at e
  exact (Option.some.inj e).symm
theorem vX4_areRing : z_okV mX4_areRing 4 1 := ⟨oX4_areRing, pX4_areRing, z_in (z_t5 139 (by decide +kernel)) rfl, z_in (z_tp 81 (by decide +kernel)) rfl, _, _, rfl⟩
abbrev mX4_stepBySteps : zM := (yX4_stepBySteps, cX4_stepBySteps, 4, Option.some Jvm.ClassFile.FieldType.boolean, 1)
theorem oX4_stepBySteps : z_ok mX4_stepBySteps := ⟨z_in (z_t5 146 (by decide +kernel)) rfl, z_iX4, by decide, by decide, by decide⟩
theorem pX4_stepBySteps : z_np mX4_stepBySteps 1 := fun sig hs => by
  have e : (parseMethodDescriptor yX4_stepBySteps.desc).map (fun d => d.parameters.length) = some 1 := by decide +kernel
  rw [hs] at e
  exact (Option.some.inj e).symm
theorem sX4_stepBySteps : z_okS mX4_stepBySteps 1 := ⟨oX4_stepBySteps, pX4_stepBySteps, z_in (z_t5 145 (by decide +kernel)) rfl⟩
abbrev mX4_greatest : zM := (yX4_greatest, cX4_greatest, 3, Option.some Jvm.ClassFile.FieldType.int, 3)
theorem oX4_greatest : z_ok mX4_greatest := ⟨z_in (z_t5 136 (by decide +kernel)) rfl, z_iX4, by decide, by decide, by decide⟩
theorem pX4_greatest : z_np mX4_greatest 0 := fun sig hs => by
  have e : (parseMethodDescriptor yX4_greatest.desc).map (fun d => d.parameters.length) = some 0 := by decide +kernel
  rw [hs] at e
  exact (Option.some.inj e).symm
theorem vX4_greatest : z_okV mX4_greatest 4 0 := ⟨oX4_greatest, pX4_greatest, z_in (z_t5 135 (by decide +kernel)) rfl, z_in (z_tp 80 (by decide +kernel)) rfl, _, _, rfl⟩
abbrev mX4_ring : zM := (yX4_ring, cX4_ring, 1, Option.some Jvm.ClassFile.FieldType.int, 4)
theorem oX4_ring : z_ok mX4_ring := ⟨z_in (z_t5 132 (by decide +kernel)) rfl, z_iX4, by decide, by decide, by decide⟩
theorem pX4_ring : z_np mX4_ring 0 := fun sig hs => by
  have e : (parseMethodDescriptor yX4_ring.desc).map (fun d => d.parameters.length) = some 0 := by decide +kernel
  rw [hs] at e
  exact (Option.some.inj e).symm
theorem vX4_ring : z_okV mX4_ring 4 0 := ⟨oX4_ring, pX4_ring, z_in (z_t5 130 (by decide +kernel)) rfl, z_in (z_t5 131 (by decide +kernel)) rfl, _, _, rfl⟩
abbrev mX4_rings : zM := (yX4_rings, cX4_rings, 1, Option.some Jvm.ClassFile.FieldType.int, 4)
theorem oX4_rings : z_ok mX4_rings := ⟨z_in (z_t5 150 (by decide +kernel)) rfl, z_iX4, by decide, by decide, by decide⟩
theorem pX4_rings : z_np mX4_rings 0 := fun sig hs => by
  have e : (parseMethodDescriptor yX4_rings.desc).map (fun d => d.parameters.length) = some 0 := by decide +kernel
  rw [hs] at e
  exact (Option.some.inj e).symm
theorem vX4_rings : z_okV mX4_rings 4 0 := ⟨oX4_rings, pX4_rings, z_in (z_t5 148 (by decide +kernel)) rfl, z_in (z_t5 149 (by decide +kernel)) rfl, _, _, rfl⟩
abbrev mX4_peals : zM := (yX4_peals, cX4_peals, 3, Option.some Jvm.ClassFile.FieldType.int, 3)
theorem oX4_peals : z_ok mX4_peals := ⟨z_in (z_t5 154 (by decide +kernel)) rfl, z_iX4, by decide, by decide, by decide⟩
theorem pX4_peals : z_np mX4_peals 0 := fun sig hs => by
  have e : (parseMethodDescriptor yX4_peals.desc).map (fun d => d.parameters.length) = some 0 := by decide +kernel
  rw [hs] at e
  exact (Option.some.inj e).symm
theorem vX4_peals : z_okV mX4_peals 4 0 := ⟨oX4_peals, pX4_peals, z_in (z_t5 152 (by decide +kernel)) rfl, z_in (z_t5 153 (by decide +kernel)) rfl, _, _, rfl⟩
abbrev mX4_longest : zM := (yX4_longest, cX4_longest, 5, Option.some Jvm.ClassFile.FieldType.int, 1)
theorem oX4_longest : z_ok mX4_longest := ⟨z_in (z_t5 161 (by decide +kernel)) rfl, z_iX4, by decide, by decide, by decide⟩
theorem pX4_longest : z_np mX4_longest 1 := fun sig hs => by
  have e : (parseMethodDescriptor yX4_longest.desc).map (fun d => d.parameters.length) = some 1 := by decide +kernel
  rw [hs] at e
  exact (Option.some.inj e).symm
theorem sX4_longest : z_okS mX4_longest 1 := ⟨oX4_longest, pX4_longest, z_in (z_t5 160 (by decide +kernel)) rfl⟩
abbrev mX4_wanted : zM := (yX4_wanted, cX4_wanted, 4, Option.some Jvm.ClassFile.FieldType.int, 2)
theorem oX4_wanted : z_ok mX4_wanted := ⟨z_in (z_t5 158 (by decide +kernel)) rfl, z_iX4, by decide, by decide, by decide⟩
theorem pX4_wanted : z_np mX4_wanted 0 := fun sig hs => by
  have e : (parseMethodDescriptor yX4_wanted.desc).map (fun d => d.parameters.length) = some 0 := by decide +kernel
  rw [hs] at e
  exact (Option.some.inj e).symm
theorem vX4_wanted : z_okV mX4_wanted 4 0 := ⟨oX4_wanted, pX4_wanted, z_in (z_t5 156 (by decide +kernel)) rfl, z_in (z_t5 157 (by decide +kernel)) rfl, _, _, rfl⟩
abbrev mX4_changes : zM := (yX4_changes, cX4_changes, 5, Option.some Jvm.ClassFile.FieldType.long, 1)
theorem oX4_changes : z_ok mX4_changes := ⟨z_in (z_t5 165 (by decide +kernel)) rfl, z_iX4, by decide, by decide, by decide⟩
theorem pX4_changes : z_np mX4_changes 1 := fun sig hs => by
  have e : (parseMethodDescriptor yX4_changes.desc).map (fun d => d.parameters.length) = some 1 := by decide +kernel
  rw [hs] at e
  exact (Option.some.inj e).symm
theorem vX4_changes : z_okV mX4_changes 4 1 := ⟨oX4_changes, pX4_changes, z_in (z_t5 163 (by decide +kernel)) rfl, z_in (z_t5 164 (by decide +kernel)) rfl, _, _, rfl⟩
abbrev mX4_drawn : zM := (yX4_drawn, cX4_drawn, 2, Option.some Jvm.ClassFile.FieldType.int, 0)
theorem oX4_drawn : z_ok mX4_drawn := ⟨z_in (z_t5 173 (by decide +kernel)) rfl, z_iX4, by decide, by decide, by decide⟩
theorem pX4_drawn : z_np mX4_drawn 1 := fun sig hs => by
  have e : (parseMethodDescriptor yX4_drawn.desc).map (fun d => d.parameters.length) = some 1 := by decide +kernel
  rw [hs] at e
  exact (Option.some.inj e).symm
theorem vX4_drawn : z_okV mX4_drawn 4 1 := ⟨oX4_drawn, pX4_drawn, z_in (z_t5 172 (by decide +kernel)) rfl, z_in (z_tp 82 (by decide +kernel)) rfl, _, _, rfl⟩
abbrev mX4_thunder : zM := (yX4_thunder, cX4_thunder, 5, Option.some Jvm.ClassFile.FieldType.int, 7)
theorem oX4_thunder : z_ok mX4_thunder := ⟨z_in (z_t5 169 (by decide +kernel)) rfl, z_iX4, by decide, by decide, by decide⟩
theorem pX4_thunder : z_np mX4_thunder 1 := fun sig hs => by
  have e : (parseMethodDescriptor yX4_thunder.desc).map (fun d => d.parameters.length) = some 1 := by decide +kernel
  rw [hs] at e
  exact (Option.some.inj e).symm
theorem vX4_thunder : z_okV mX4_thunder 4 1 := ⟨oX4_thunder, pX4_thunder, z_in (z_t5 167 (by decide +kernel)) rfl, z_in (z_t5 168 (by decide +kernel)) rfl, _, _, rfl⟩
abbrev mX4_seed : zM := (yX4_seed, cX4_seed, 2, Option.some Jvm.ClassFile.FieldType.int, 1)
theorem oX4_seed : z_ok mX4_seed := ⟨z_in (z_t5 178 (by decide +kernel)) rfl, z_iX4, by decide, by decide, by decide⟩
theorem pX4_seed : z_np mX4_seed 1 := fun sig hs => by
  have e : (parseMethodDescriptor yX4_seed.desc).map (fun d => d.parameters.length) = some 1 := by decide +kernel
  rw [hs] at e
  exact (Option.some.inj e).symm
theorem vX4_seed : z_okV mX4_seed 4 1 := ⟨oX4_seed, pX4_seed, z_in (z_t5 176 (by decide +kernel)) rfl, z_in (z_t5 177 (by decide +kernel)) rfl, _, _, rfl⟩
abbrev mX4_feed : zM := (yX4_feed, cX4_feed, 4, Option.some Jvm.ClassFile.FieldType.int, 1)
theorem oX4_feed : z_ok mX4_feed := ⟨z_in (z_t5 182 (by decide +kernel)) rfl, z_iX4, by decide, by decide, by decide⟩
theorem pX4_feed : z_np mX4_feed 2 := fun sig hs => by
  have e : (parseMethodDescriptor yX4_feed.desc).map (fun d => d.parameters.length) = some 2 := by decide +kernel
  rw [hs] at e
  exact (Option.some.inj e).symm
theorem vX4_feed : z_okV mX4_feed 4 2 := ⟨oX4_feed, pX4_feed, z_in (z_t5 180 (by decide +kernel)) rfl, z_in (z_t5 181 (by decide +kernel)) rfl, _, _, rfl⟩
abbrev mX4_wipe : zM := (yX4_wipe, cX4_wipe, 2, Option.some Jvm.ClassFile.FieldType.int, 0)
theorem oX4_wipe : z_ok mX4_wipe := ⟨z_in (z_t5 186 (by decide +kernel)) rfl, z_iX4, by decide, by decide, by decide⟩
theorem pX4_wipe : z_np mX4_wipe 0 := fun sig hs => by
  have e : (parseMethodDescriptor yX4_wipe.desc).map (fun d => d.parameters.length) = some 0 := by decide +kernel
  rw [hs] at e
  exact (Option.some.inj e).symm
theorem vX4_wipe : z_okV mX4_wipe 4 0 := ⟨oX4_wipe, pX4_wipe, z_in (z_t5 184 (by decide +kernel)) rfl, z_in (z_t5 185 (by decide +kernel)) rfl, _, _, rfl⟩
abbrev mX4_byteAt : zM := (yX4_byteAt, cX4_byteAt, 2, Option.some Jvm.ClassFile.FieldType.int, 0)
theorem oX4_byteAt : z_ok mX4_byteAt := ⟨z_in (z_t5 198 (by decide +kernel)) rfl, z_iX4, by decide, by decide, by decide⟩
theorem pX4_byteAt : z_np mX4_byteAt 1 := fun sig hs => by
  have e : (parseMethodDescriptor yX4_byteAt.desc).map (fun d => d.parameters.length) = some 1 := by decide +kernel
  rw [hs] at e
  exact (Option.some.inj e).symm
theorem vX4_byteAt : z_okV mX4_byteAt 4 1 := ⟨oX4_byteAt, pX4_byteAt, z_in (z_t5 197 (by decide +kernel)) rfl, z_in (z_tp 84 (by decide +kernel)) rfl, _, _, rfl⟩
abbrev mX4_next : zM := (yX4_next, cX4_next, 2, Option.none, 1)
theorem oX4_next : z_ok mX4_next := ⟨z_in (z_t5 194 (by decide +kernel)) rfl, z_iX4, by decide, by decide, by decide⟩
theorem pX4_next : z_np mX4_next 0 := fun sig hs => by
  have e : (parseMethodDescriptor yX4_next.desc).map (fun d => d.parameters.length) = some 0 := by decide +kernel
  rw [hs] at e
  exact (Option.some.inj e).symm
theorem vX4_next : z_okV mX4_next 4 0 := ⟨oX4_next, pX4_next, z_in (z_t5 193 (by decide +kernel)) rfl, z_in (z_tp 83 (by decide +kernel)) rfl, _, _, rfl⟩
abbrev mX4_isWord : zM := (yX4_isWord, cX4_isWord, 4, Option.some Jvm.ClassFile.FieldType.boolean, 6)
theorem oX4_isWord : z_ok mX4_isWord := ⟨z_in (z_t5 210 (by decide +kernel)) rfl, z_iX4, by decide, by decide, by decide⟩
theorem pX4_isWord : z_np mX4_isWord 1 := fun sig hs => by
  have e : (parseMethodDescriptor yX4_isWord.desc).map (fun d => d.parameters.length) = some 1 := by decide +kernel
  rw [hs] at e
  exact (Option.some.inj e).symm
theorem vX4_isWord : z_okV mX4_isWord 4 1 := ⟨oX4_isWord, pX4_isWord, z_in (z_t5 209 (by decide +kernel)) rfl, z_in (z_tp 87 (by decide +kernel)) rfl, _, _, rfl⟩
abbrev mX4_must : zM := (yX4_must, cX4_must, 2, Option.none, 2)
theorem oX4_must : z_ok mX4_must := ⟨z_in (z_t5 216 (by decide +kernel)) rfl, z_iX4, by decide, by decide, by decide⟩
theorem pX4_must : z_np mX4_must 1 := fun sig hs => by
  have e : (parseMethodDescriptor yX4_must.desc).map (fun d => d.parameters.length) = some 1 := by decide +kernel
  rw [hs] at e
  exact (Option.some.inj e).symm
theorem vX4_must : z_okV mX4_must 4 1 := ⟨oX4_must, pX4_must, z_in (z_t5 215 (by decide +kernel)) rfl, z_in (z_tp 88 (by decide +kernel)) rfl, _, _, rfl⟩
abbrev mX4_number : zM := (yX4_number, cX4_number, 4, Option.some Jvm.ClassFile.FieldType.int, 3)
theorem oX4_number : z_ok mX4_number := ⟨z_in (z_t5 225 (by decide +kernel)) rfl, z_iX4, by decide, by decide, by decide⟩
theorem pX4_number : z_np mX4_number 2 := fun sig hs => by
  have e : (parseMethodDescriptor yX4_number.desc).map (fun d => d.parameters.length) = some 2 := by decide +kernel
  rw [hs] at e
  exact (Option.some.inj e).symm
theorem vX4_number : z_okV mX4_number 4 2 := ⟨oX4_number, pX4_number, z_in (z_t5 224 (by decide +kernel)) rfl, z_in (z_tp 90 (by decide +kernel)) rfl, _, _, rfl⟩
abbrev mX4_item : zM := (yX4_item, cX4_item, 6, Option.none, 0)
theorem oX4_item : z_ok mX4_item := ⟨z_in (z_t5 231 (by decide +kernel)) rfl, z_iX4, by decide, by decide, by decide⟩
theorem pX4_item : z_np mX4_item 4 := fun sig hs => by
  have e : (parseMethodDescriptor yX4_item.desc).map (fun d => d.parameters.length) = some 4 := by decide +kernel
  rw [hs] at e
  exact (Option.some.inj e).symm
theorem vX4_item : z_okV mX4_item 4 4 := ⟨oX4_item, pX4_item, z_in (z_t5 230 (by decide +kernel)) rfl, z_in (z_tp 91 (by decide +kernel)) rfl, _, _, rfl⟩
abbrev mX4_kindTold : zM := (yX4_kindTold, cX4_kindTold, 3, Option.some Jvm.ClassFile.FieldType.int, 7)
theorem oX4_kindTold : z_ok mX4_kindTold := ⟨z_in (z_t5 206 (by decide +kernel)) rfl, z_iX4, by decide, by decide, by decide⟩
theorem pX4_kindTold : z_np mX4_kindTold 0 := fun sig hs => by
  have e : (parseMethodDescriptor yX4_kindTold.desc).map (fun d => d.parameters.length) = some 0 := by decide +kernel
  rw [hs] at e
  exact (Option.some.inj e).symm
theorem vX4_kindTold : z_okV mX4_kindTold 4 0 := ⟨oX4_kindTold, pX4_kindTold, z_in (z_t5 205 (by decide +kernel)) rfl, z_in (z_tp 86 (by decide +kernel)) rfl, _, _, rfl⟩
abbrev mX4_isNext : zM := (yX4_isNext, cX4_isNext, 3, Option.some Jvm.ClassFile.FieldType.boolean, 7)
theorem oX4_isNext : z_ok mX4_isNext := ⟨z_in (z_t5 221 (by decide +kernel)) rfl, z_iX4, by decide, by decide, by decide⟩
theorem pX4_isNext : z_np mX4_isNext 1 := fun sig hs => by
  have e : (parseMethodDescriptor yX4_isNext.desc).map (fun d => d.parameters.length) = some 1 := by decide +kernel
  rw [hs] at e
  exact (Option.some.inj e).symm
theorem vX4_isNext : z_okV mX4_isNext 4 1 := ⟨oX4_isNext, pX4_isNext, z_in (z_t5 220 (by decide +kernel)) rfl, z_in (z_tp 89 (by decide +kernel)) rfl, _, _, rfl⟩
abbrev mX4_readItem : zM := (yX4_readItem, cX4_readItem, 4, Option.none, 8)
theorem oX4_readItem : z_ok mX4_readItem := ⟨z_in (z_t5 202 (by decide +kernel)) rfl, z_iX4, by decide, by decide, by decide⟩
theorem pX4_readItem : z_np mX4_readItem 0 := fun sig hs => by
  have e : (parseMethodDescriptor yX4_readItem.desc).map (fun d => d.parameters.length) = some 0 := by decide +kernel
  rw [hs] at e
  exact (Option.some.inj e).symm
theorem vX4_readItem : z_okV mX4_readItem 4 0 := ⟨oX4_readItem, pX4_readItem, z_in (z_t5 201 (by decide +kernel)) rfl, z_in (z_tp 85 (by decide +kernel)) rfl, _, _, rfl⟩
abbrev mX4_isToldSo : zM := (yX4_isToldSo, cX4_isToldSo, 4, Option.some Jvm.ClassFile.FieldType.int, 2)
theorem oX4_isToldSo : z_ok mX4_isToldSo := ⟨z_in (z_t5 239 (by decide +kernel)) rfl, z_iX4, by decide, by decide, by decide⟩
theorem pX4_isToldSo : z_np mX4_isToldSo 1 := fun sig hs => by
  have e : (parseMethodDescriptor yX4_isToldSo.desc).map (fun d => d.parameters.length) = some 1 := by decide +kernel
  rw [hs] at e
  exact (Option.some.inj e).symm
theorem vX4_isToldSo : z_okV mX4_isToldSo 4 1 := ⟨oX4_isToldSo, pX4_isToldSo, z_in (z_t5 238 (by decide +kernel)) rfl, z_in (z_tp 92 (by decide +kernel)) rfl, _, _, rfl⟩
abbrev mX4_text : zM := (yX4_text, cX4_text, 3, Option.some Jvm.ClassFile.FieldType.int, 9)
theorem oX4_text : z_ok mX4_text := ⟨z_in (z_t5 190 (by decide +kernel)) rfl, z_iX4, by decide, by decide, by decide⟩
theorem pX4_text : z_np mX4_text 0 := fun sig hs => by
  have e : (parseMethodDescriptor yX4_text.desc).map (fun d => d.parameters.length) = some 0 := by decide +kernel
  rw [hs] at e
  exact (Option.some.inj e).symm
theorem vX4_text : z_okV mX4_text 4 0 := ⟨oX4_text, pX4_text, z_in (z_t5 188 (by decide +kernel)) rfl, z_in (z_t5 189 (by decide +kernel)) rfl, _, _, rfl⟩
abbrev mX4_isSpot : zM := (yX4_isSpot, cX4_isSpot, 1, Option.some Jvm.ClassFile.FieldType.boolean, 1)
theorem oX4_isSpot : z_ok mX4_isSpot := ⟨z_in (z_t6 6 (by decide +kernel)) rfl, z_iX4, by decide, by decide, by decide⟩
theorem pX4_isSpot : z_np mX4_isSpot 1 := fun sig hs => by
  have e : (parseMethodDescriptor yX4_isSpot.desc).map (fun d => d.parameters.length) = some 1 := by decide +kernel
  rw [hs] at e
  exact (Option.some.inj e).symm
theorem sX4_isSpot : z_okS mX4_isSpot 1 := ⟨oX4_isSpot, pX4_isSpot, z_in (z_t6 5 (by decide +kernel)) rfl⟩
abbrev mX4_hold : zM := (yX4_hold, cX4_hold, 3, Option.some Jvm.ClassFile.FieldType.int, 2)
theorem oX4_hold : z_ok mX4_hold := ⟨z_in (z_t6 3 (by decide +kernel)) rfl, z_iX4, by decide, by decide, by decide⟩
theorem pX4_hold : z_np mX4_hold 2 := fun sig hs => by
  have e : (parseMethodDescriptor yX4_hold.desc).map (fun d => d.parameters.length) = some 2 := by decide +kernel
  rw [hs] at e
  exact (Option.some.inj e).symm
theorem vX4_hold : z_okV mX4_hold 4 2 := ⟨oX4_hold, pX4_hold, z_in (z_t6 1 (by decide +kernel)) rfl, z_in (z_t6 2 (by decide +kernel)) rfl, _, _, rfl⟩
abbrev mX4_as : zM := (yX4_as, cX4_as, 4, Option.some Jvm.ClassFile.FieldType.int, 2)
theorem oX4_as : z_ok mX4_as := ⟨z_in (z_t6 10 (by decide +kernel)) rfl, z_iX4, by decide, by decide, by decide⟩
theorem pX4_as : z_np mX4_as 2 := fun sig hs => by
  have e : (parseMethodDescriptor yX4_as.desc).map (fun d => d.parameters.length) = some 2 := by decide +kernel
  rw [hs] at e
  exact (Option.some.inj e).symm
theorem vX4_as : z_okV mX4_as 4 2 := ⟨oX4_as, pX4_as, z_in (z_t6 8 (by decide +kernel)) rfl, z_in (z_t6 9 (by decide +kernel)) rfl, _, _, rfl⟩
abbrev mX4_isSheet : zM := (yX4_isSheet, cX4_isSheet, 1, Option.some Jvm.ClassFile.FieldType.boolean, 1)
theorem oX4_isSheet : z_ok mX4_isSheet := ⟨z_in (z_t5 84 (by decide +kernel)) rfl, z_iX4, by decide, by decide, by decide⟩
theorem pX4_isSheet : z_np mX4_isSheet 1 := fun sig hs => by
  have e : (parseMethodDescriptor yX4_isSheet.desc).map (fun d => d.parameters.length) = some 1 := by decide +kernel
  rw [hs] at e
  exact (Option.some.inj e).symm
theorem sX4_isSheet : z_okS mX4_isSheet 1 := ⟨oX4_isSheet, pX4_isSheet, z_in (z_t5 83 (by decide +kernel)) rfl⟩
abbrev mX4_cutTo : zM := (yX4_cutTo, cX4_cutTo, 2, Option.some Jvm.ClassFile.FieldType.int, 0)
theorem oX4_cutTo : z_ok mX4_cutTo := ⟨z_in (z_t6 23 (by decide +kernel)) rfl, z_iX4, by decide, by decide, by decide⟩
theorem pX4_cutTo : z_np mX4_cutTo 2 := fun sig hs => by
  have e : (parseMethodDescriptor yX4_cutTo.desc).map (fun d => d.parameters.length) = some 2 := by decide +kernel
  rw [hs] at e
  exact (Option.some.inj e).symm
theorem sX4_cutTo : z_okS mX4_cutTo 2 := ⟨oX4_cutTo, pX4_cutTo, z_in (z_t6 22 (by decide +kernel)) rfl⟩
abbrev mX4_sheet : zM := (yX4_sheet, cX4_sheet, 5, Option.some Jvm.ClassFile.FieldType.int, 2)
theorem oX4_sheet : z_ok mX4_sheet := ⟨z_in (z_t6 15 (by decide +kernel)) rfl, z_iX4, by decide, by decide, by decide⟩
theorem pX4_sheet : z_np mX4_sheet 3 := fun sig hs => by
  have e : (parseMethodDescriptor yX4_sheet.desc).map (fun d => d.parameters.length) = some 3 := by decide +kernel
  rw [hs] at e
  exact (Option.some.inj e).symm
theorem vX4_sheet : z_okV mX4_sheet 4 3 := ⟨oX4_sheet, pX4_sheet, z_in (z_t6 13 (by decide +kernel)) rfl, z_in (z_t6 14 (by decide +kernel)) rfl, _, _, rfl⟩
abbrev mX4_write : zM := (yX4_write, cX4_write, 4, Option.some Jvm.ClassFile.FieldType.int, 2)
theorem oX4_write : z_ok mX4_write := ⟨z_in (z_t6 20 (by decide +kernel)) rfl, z_iX4, by decide, by decide, by decide⟩
theorem pX4_write : z_np mX4_write 3 := fun sig hs => by
  have e : (parseMethodDescriptor yX4_write.desc).map (fun d => d.parameters.length) = some 3 := by decide +kernel
  rw [hs] at e
  exact (Option.some.inj e).symm
theorem vX4_write : z_okV mX4_write 4 3 := ⟨oX4_write, pX4_write, z_in (z_t6 18 (by decide +kernel)) rfl, z_in (z_t6 19 (by decide +kernel)) rfl, _, _, rfl⟩
abbrev mX4_copy : zM := (yX4_copy, cX4_copy, 7, Option.some Jvm.ClassFile.FieldType.int, 2)
theorem oX4_copy : z_ok mX4_copy := ⟨z_in (z_t6 27 (by decide +kernel)) rfl, z_iX4, by decide, by decide, by decide⟩
theorem pX4_copy : z_np mX4_copy 5 := fun sig hs => by
  have e : (parseMethodDescriptor yX4_copy.desc).map (fun d => d.parameters.length) = some 5 := by decide +kernel
  rw [hs] at e
  exact (Option.some.inj e).symm
theorem vX4_copy : z_okV mX4_copy 4 5 := ⟨oX4_copy, pX4_copy, z_in (z_t6 25 (by decide +kernel)) rfl, z_in (z_t6 26 (by decide +kernel)) rfl, _, _, rfl⟩
abbrev mX4_load : zM := (yX4_load, cX4_load, 3, Option.some Jvm.ClassFile.FieldType.int, 3)
theorem oX4_load : z_ok mX4_load := ⟨z_in (z_t6 31 (by decide +kernel)) rfl, z_iX4, by decide, by decide, by decide⟩
theorem pX4_load : z_np mX4_load 1 := fun sig hs => by
  have e : (parseMethodDescriptor yX4_load.desc).map (fun d => d.parameters.length) = some 1 := by decide +kernel
  rw [hs] at e
  exact (Option.some.inj e).symm
theorem vX4_load : z_okV mX4_load 4 1 := ⟨oX4_load, pX4_load, z_in (z_t6 29 (by decide +kernel)) rfl, z_in (z_t6 30 (by decide +kernel)) rfl, _, _, rfl⟩
abbrev mX4_judge : zM := (yX4_judge, cX4_judge, 6, Option.some Jvm.ClassFile.FieldType.int, 3)
theorem oX4_judge : z_ok mX4_judge := ⟨z_in (z_t6 35 (by decide +kernel)) rfl, z_iX4, by decide, by decide, by decide⟩
theorem pX4_judge : z_np mX4_judge 1 := fun sig hs => by
  have e : (parseMethodDescriptor yX4_judge.desc).map (fun d => d.parameters.length) = some 1 := by decide +kernel
  rw [hs] at e
  exact (Option.some.inj e).symm
theorem vX4_judge : z_okV mX4_judge 4 1 := ⟨oX4_judge, pX4_judge, z_in (z_t6 33 (by decide +kernel)) rfl, z_in (z_t6 34 (by decide +kernel)) rfl, _, _, rfl⟩
abbrev mX4_image : zM := (yX4_image, cX4_image, 1, Option.some Jvm.ClassFile.FieldType.int, 1)
theorem oX4_image : z_ok mX4_image := ⟨z_in (z_t6 39 (by decide +kernel)) rfl, z_iX4, by decide, by decide, by decide⟩
theorem pX4_image : z_np mX4_image 0 := fun sig hs => by
  have e : (parseMethodDescriptor yX4_image.desc).map (fun d => d.parameters.length) = some 0 := by decide +kernel
  rw [hs] at e
  exact (Option.some.inj e).symm
theorem vX4_image : z_okV mX4_image 4 0 := ⟨oX4_image, pX4_image, z_in (z_t6 37 (by decide +kernel)) rfl, z_in (z_t6 38 (by decide +kernel)) rfl, _, _, rfl⟩
abbrev mX4_undo : zM := (yX4_undo, cX4_undo, 1, Option.some Jvm.ClassFile.FieldType.int, 1)
theorem oX4_undo : z_ok mX4_undo := ⟨z_in (z_t6 43 (by decide +kernel)) rfl, z_iX4, by decide, by decide, by decide⟩
theorem pX4_undo : z_np mX4_undo 0 := fun sig hs => by
  have e : (parseMethodDescriptor yX4_undo.desc).map (fun d => d.parameters.length) = some 0 := by decide +kernel
  rw [hs] at e
  exact (Option.some.inj e).symm
theorem vX4_undo : z_okV mX4_undo 4 0 := ⟨oX4_undo, pX4_undo, z_in (z_t6 41 (by decide +kernel)) rfl, z_in (z_t6 42 (by decide +kernel)) rfl, _, _, rfl⟩
abbrev mX4_tear : zM := (yX4_tear, cX4_tear, 2, Option.some Jvm.ClassFile.FieldType.int, 0)
theorem oX4_tear : z_ok mX4_tear := ⟨z_in (z_t6 47 (by decide +kernel)) rfl, z_iX4, by decide, by decide, by decide⟩
theorem pX4_tear : z_np mX4_tear 0 := fun sig hs => by
  have e : (parseMethodDescriptor yX4_tear.desc).map (fun d => d.parameters.length) = some 0 := by decide +kernel
  rw [hs] at e
  exact (Option.some.inj e).symm
theorem vX4_tear : z_okV mX4_tear 4 0 := ⟨oX4_tear, pX4_tear, z_in (z_t6 45 (by decide +kernel)) rfl, z_in (z_t6 46 (by decide +kernel)) rfl, _, _, rfl⟩
abbrev mX4_count : zM := (yX4_count, cX4_count, 4, Option.some Jvm.ClassFile.FieldType.int, 4)
theorem oX4_count : z_ok mX4_count := ⟨z_in (z_t6 51 (by decide +kernel)) rfl, z_iX4, by decide, by decide, by decide⟩
theorem pX4_count : z_np mX4_count 1 := fun sig hs => by
  have e : (parseMethodDescriptor yX4_count.desc).map (fun d => d.parameters.length) = some 1 := by decide +kernel
  rw [hs] at e
  exact (Option.some.inj e).symm
theorem vX4_count : z_okV mX4_count 4 1 := ⟨oX4_count, pX4_count, z_in (z_t6 49 (by decide +kernel)) rfl, z_in (z_t6 50 (by decide +kernel)) rfl, _, _, rfl⟩
abbrev mX4_status : zM := (yX4_status, cX4_status, 2, Option.some Jvm.ClassFile.FieldType.int, 1)
theorem oX4_status : z_ok mX4_status := ⟨z_in (z_t6 55 (by decide +kernel)) rfl, z_iX4, by decide, by decide, by decide⟩
theorem pX4_status : z_np mX4_status 1 := fun sig hs => by
  have e : (parseMethodDescriptor yX4_status.desc).map (fun d => d.parameters.length) = some 1 := by decide +kernel
  rw [hs] at e
  exact (Option.some.inj e).symm
theorem vX4_status : z_okV mX4_status 4 1 := ⟨oX4_status, pX4_status, z_in (z_t6 53 (by decide +kernel)) rfl, z_in (z_t6 54 (by decide +kernel)) rfl, _, _, rfl⟩
abbrev mJ6_bitCount_0f7a4 : zM := (yJ6_bitCount_0f7a4, cJ6_bitCount_0f7a4, 1, Option.some Jvm.ClassFile.FieldType.int, 0)
theorem oJ6_bitCount_0f7a4 : z_ok mJ6_bitCount_0f7a4 := ⟨z_in (z_t2 80 (by decide +kernel)) rfl, z_iJ6, by decide, by decide, by decide⟩
theorem pJ6_bitCount_0f7a4 : z_np mJ6_bitCount_0f7a4 1 := fun sig hs => by
  have e : (parseMethodDescriptor yJ6_bitCount_0f7a4.desc).map (fun d => d.parameters.length) = some 1 := by decide +kernel
  rw [hs] at e
  exact (Option.some.inj e).symm
theorem sJ6_bitCount_0f7a4 : z_okS mJ6_bitCount_0f7a4 1 := ⟨oJ6_bitCount_0f7a4, pJ6_bitCount_0f7a4, z_in (z_t2 79 (by decide +kernel)) rfl⟩
abbrev mJ13_bitCount_95d88 : zM := (yJ13_bitCount_95d88, cJ13_bitCount_95d88, 2, Option.some Jvm.ClassFile.FieldType.int, 0)
theorem oJ13_bitCount_95d88 : z_ok mJ13_bitCount_95d88 := ⟨z_in (z_t2 90 (by decide +kernel)) rfl, z_iJ13, by decide, by decide, by decide⟩
theorem pJ13_bitCount_95d88 : z_np mJ13_bitCount_95d88 1 := fun sig hs => by
  have e : (parseMethodDescriptor yJ13_bitCount_95d88.desc).map (fun d => d.parameters.length) = some 1 := by decide +kernel
  rw [hs] at e
  exact (Option.some.inj e).symm
theorem sJ13_bitCount_95d88 : z_okS mJ13_bitCount_95d88 1 := ⟨oJ13_bitCount_95d88, pJ13_bitCount_95d88, z_in (z_t2 89 (by decide +kernel)) rfl⟩
abbrev mJ9_abs_0f7a4 : zM := (yJ9_abs_0f7a4, cJ9_abs_0f7a4, 1, Option.some Jvm.ClassFile.FieldType.int, 0)
abbrev mJ9_max_7cf53 : zM := (yJ9_max_7cf53, cJ9_max_7cf53, 2, Option.some Jvm.ClassFile.FieldType.int, 0)
abbrev mJ9_min_7cf53 : zM := (yJ9_min_7cf53, cJ9_min_7cf53, 2, Option.some Jvm.ClassFile.FieldType.int, 0)
abbrev mJ0_length_8abf5 : zM := (yJ0_length_8abf5, cJ0_length_8abf5, 1, Option.some Jvm.ClassFile.FieldType.int, 1)
theorem oJ0_length_8abf5 : z_ok mJ0_length_8abf5 := ⟨z_in (z_t3 78 (by decide +kernel)) rfl, z_iJ0, by decide, by decide, by decide⟩
theorem pJ0_length_8abf5 : z_np mJ0_length_8abf5 0 := fun sig hs => by
  have e : (parseMethodDescriptor yJ0_length_8abf5.desc).map (fun d => d.parameters.length) = some 0 := by decide +kernel
  rw [hs] at e
  exact (Option.some.inj e).symm
theorem viJ0_length_8abf5 : Cond.instanceMethod yJ0_length_8abf5 ∈ z_T := z_in (z_t3 76 (by decide +kernel)) rfl
theorem vsJ0_length_8abf5 : Cond.selects RJ0 yJ0_length_8abf5 yJ0_length_8abf5 ∈ z_T := z_in (z_t3 77 (by decide +kernel)) rfl
abbrev mJ0_charAt_5068e : zM := (yJ0_charAt_5068e, cJ0_charAt_5068e, 2, Option.some Jvm.ClassFile.FieldType.char, 5)
theorem oJ0_charAt_5068e : z_ok mJ0_charAt_5068e := ⟨z_in (z_t3 88 (by decide +kernel)) rfl, z_iJ0, by decide, by decide, by decide⟩
theorem pJ0_charAt_5068e : z_np mJ0_charAt_5068e 1 := fun sig hs => by
  have e : (parseMethodDescriptor yJ0_charAt_5068e.desc).map (fun d => d.parameters.length) = some 1 := by decide +kernel
  rw [hs] at e
  exact (Option.some.inj e).symm
theorem viJ0_charAt_5068e : Cond.instanceMethod yJ0_charAt_5068e ∈ z_T := z_in (z_t3 86 (by decide +kernel)) rfl
theorem vsJ0_charAt_5068e : Cond.selects RJ0 yJ0_charAt_5068e yJ0_charAt_5068e ∈ z_T := z_in (z_t3 87 (by decide +kernel)) rfl
abbrev mJ0_coder_7d493 : zM := (yJ0_coder_7d493, cJ0_coder_7d493, 1, Option.some Jvm.ClassFile.FieldType.byte, 0)
theorem oJ0_coder_7d493 : z_ok mJ0_coder_7d493 := ⟨z_in (z_t3 82 (by decide +kernel)) rfl, z_iJ0, by decide, by decide, by decide⟩
theorem pJ0_coder_7d493 : z_np mJ0_coder_7d493 0 := fun sig hs => by
  have e : (parseMethodDescriptor yJ0_coder_7d493.desc).map (fun d => d.parameters.length) = some 0 := by decide +kernel
  rw [hs] at e
  exact (Option.some.inj e).symm
theorem viJ0_coder_7d493 : Cond.instanceMethod yJ0_coder_7d493 ∈ z_T := z_in (z_t3 80 (by decide +kernel)) rfl
theorem vsJ0_coder_7d493 : Cond.selects RJ0 yJ0_coder_7d493 yJ0_coder_7d493 ∈ z_T := z_in (z_t3 81 (by decide +kernel)) rfl
abbrev mJ0_isLatin1_aae02 : zM := (yJ0_isLatin1_aae02, cJ0_isLatin1_aae02, 1, Option.some Jvm.ClassFile.FieldType.boolean, 0)
theorem oJ0_isLatin1_aae02 : z_ok mJ0_isLatin1_aae02 := ⟨z_in (z_t3 92 (by decide +kernel)) rfl, z_iJ0, by decide, by decide, by decide⟩
theorem pJ0_isLatin1_aae02 : z_np mJ0_isLatin1_aae02 0 := fun sig hs => by
  have e : (parseMethodDescriptor yJ0_isLatin1_aae02.desc).map (fun d => d.parameters.length) = some 0 := by decide +kernel
  rw [hs] at e
  exact (Option.some.inj e).symm
theorem viJ0_isLatin1_aae02 : Cond.instanceMethod yJ0_isLatin1_aae02 ∈ z_T := z_in (z_t3 90 (by decide +kernel)) rfl
theorem vsJ0_isLatin1_aae02 : Cond.selects RJ0 yJ0_isLatin1_aae02 yJ0_isLatin1_aae02 ∈ z_T := z_in (z_t3 91 (by decide +kernel)) rfl
abbrev mJ0_checkIndex_df160 : zM := (yJ0_checkIndex_df160, cJ0_checkIndex_df160, 2, Option.none, 2)
theorem oJ0_checkIndex_df160 : z_ok mJ0_checkIndex_df160 := ⟨z_in (z_t3 98 (by decide +kernel)) rfl, z_iJ0, by decide, by decide, by decide⟩
theorem pJ0_checkIndex_df160 : z_np mJ0_checkIndex_df160 2 := fun sig hs => by
  have e : (parseMethodDescriptor yJ0_checkIndex_df160.desc).map (fun d => d.parameters.length) = some 2 := by decide +kernel
  rw [hs] at e
  exact (Option.some.inj e).symm
theorem sJ0_checkIndex_df160 : z_okS mJ0_checkIndex_df160 2 := ⟨oJ0_checkIndex_df160, pJ0_checkIndex_df160, z_in (z_t3 97 (by decide +kernel)) rfl⟩
abbrev mJ1_charAt_3b067 : zM := (yJ1_charAt_3b067, cJ1_charAt_3b067, 2, Option.some Jvm.ClassFile.FieldType.char, 3)
theorem oJ1_charAt_3b067 : z_ok mJ1_charAt_3b067 := ⟨z_in (z_t3 95 (by decide +kernel)) rfl, z_iJ1, by decide, by decide, by decide⟩
theorem pJ1_charAt_3b067 : z_np mJ1_charAt_3b067 2 := fun sig hs => by
  have e : (parseMethodDescriptor yJ1_charAt_3b067.desc).map (fun d => d.parameters.length) = some 2 := by decide +kernel
  rw [hs] at e
  exact (Option.some.inj e).symm
theorem sJ1_charAt_3b067 : z_okS mJ1_charAt_3b067 2 := ⟨oJ1_charAt_3b067, pJ1_charAt_3b067, z_in (z_t3 94 (by decide +kernel)) rfl⟩
abbrev mJ3_checkIndex_8e157 : zM := (yJ3_checkIndex_8e157, cJ3_checkIndex_8e157, 3, Option.some Jvm.ClassFile.FieldType.int, 1)
theorem oJ3_checkIndex_8e157 : z_ok mJ3_checkIndex_8e157 := ⟨z_in (z_t3 103 (by decide +kernel)) rfl, z_iJ3, by decide, by decide, by decide⟩
theorem pJ3_checkIndex_8e157 : z_np mJ3_checkIndex_8e157 3 := fun sig hs => by
  have e : (parseMethodDescriptor yJ3_checkIndex_8e157.desc).map (fun d => d.parameters.length) = some 3 := by decide +kernel
  rw [hs] at e
  exact (Option.some.inj e).symm
theorem sJ3_checkIndex_8e157 : z_okS mJ3_checkIndex_8e157 3 := ⟨oJ3_checkIndex_8e157, pJ3_checkIndex_8e157, z_in (z_t3 102 (by decide +kernel)) rfl⟩
theorem kX3_10 : z_Lk RX3 10 3 0 (.object "WildBells$Woods") true := ⟨RX3, TX3, 8, tyX3, z_k3, by decide, rfl, rfl, Or.inl (z_in (z_t1 141 (by decide +kernel)) rfl)⟩
theorem kX3_16 : z_Lk RX3 16 3 1 (.object "WildBells$Woods") true := ⟨RX3, TX3, 8, tyX3, z_k3, by decide, rfl, rfl, Or.inl (z_in (z_t1 142 (by decide +kernel)) rfl)⟩
theorem kX3_19 : z_Lk RX3 19 3 2 (.object "WildBells$Woods") true := ⟨RX3, TX3, 8, tyX3, z_k3, by decide, rfl, rfl, Or.inl (z_in (z_t1 143 (by decide +kernel)) rfl)⟩
theorem kX3_22 : z_Lk RX3 22 3 3 .boolean false := ⟨RX3, TX3, 8, tyX3, z_k3, by decide, rfl, rfl, Or.inl (z_in (z_t1 144 (by decide +kernel)) rfl)⟩
theorem kX3_29 : z_Lk RX3 29 3 4 (.object "WildBells$Tape") true := ⟨RX3, TX3, 8, tyX3, z_k3, by decide, rfl, rfl, Or.inl (z_in (z_t1 145 (by decide +kernel)) rfl)⟩
theorem kX3_35 : z_Lk RX3 35 3 5 (.array (.object "WildBells$Sheet")) true := ⟨RX3, TX3, 8, tyX3, z_k3, by decide, rfl, rfl, Or.inl (z_in (z_t1 146 (by decide +kernel)) rfl)⟩
theorem kX3_40 : z_Lk RX3 40 3 6 (.array .int) true := ⟨RX3, TX3, 8, tyX3, z_k3, by decide, rfl, rfl, Or.inl (z_in (z_t1 147 (by decide +kernel)) rfl)⟩
theorem kX3_44 : z_Lk RX3 44 3 7 (.array .int) true := ⟨RX3, TX3, 8, tyX3, z_k3, by decide, rfl, rfl, Or.inl (z_in (z_t1 148 (by decide +kernel)) rfl)⟩
theorem kX0_9 : z_Lk RX0 9 0 2 (.array .int) true := ⟨RX0, TX0, 3, tyX0, z_k0, by decide, rfl, rfl, Or.inl (z_in (z_t1 132 (by decide +kernel)) rfl)⟩
theorem kX0_15 : z_Lk RX0 15 0 0 .int false := ⟨RX0, TX0, 3, tyX0, z_k0, by decide, rfl, rfl, Or.inl (z_in (z_t1 128 (by decide +kernel)) rfl)⟩
theorem kX0_19 : z_Lk RX0 19 0 1 .int false := ⟨RX0, TX0, 3, tyX0, z_k0, by decide, rfl, rfl, Or.inl (z_in (z_t1 130 (by decide +kernel)) rfl)⟩
theorem kX1_9 : z_Lk RX1 9 1 0 (.array .int) true := ⟨RX1, TX1, 7, tyX1, z_k1, by decide, rfl, rfl, Or.inl (z_in (z_t1 98 (by decide +kernel)) rfl)⟩
theorem kX1_15 : z_Lk RX1 15 1 1 .int false := ⟨RX1, TX1, 7, tyX1, z_k1, by decide, rfl, rfl, Or.inl (z_in (z_t1 99 (by decide +kernel)) rfl)⟩
theorem kX1_19 : z_Lk RX1 19 1 6 .int false := ⟨RX1, TX1, 7, tyX1, z_k1, by decide, rfl, rfl, Or.inl (z_in (z_t1 105 (by decide +kernel)) rfl)⟩
theorem kX1_22 : z_Lk RX1 22 1 4 .int false := ⟨RX1, TX1, 7, tyX1, z_k1, by decide, rfl, rfl, Or.inl (z_in (z_t1 103 (by decide +kernel)) rfl)⟩
theorem kX1_32 : z_Lk RX1 32 1 2 .int false := ⟨RX1, TX1, 7, tyX1, z_k1, by decide, rfl, rfl, Or.inl (z_in (z_t1 101 (by decide +kernel)) rfl)⟩
theorem kX1_35 : z_Lk RX1 35 1 3 .int false := ⟨RX1, TX1, 7, tyX1, z_k1, by decide, rfl, rfl, Or.inl (z_in (z_t1 102 (by decide +kernel)) rfl)⟩
theorem kX1_38 : z_Lk RX1 38 1 5 .int false := ⟨RX1, TX1, 7, tyX1, z_k1, by decide, rfl, rfl, Or.inl (z_in (z_t1 104 (by decide +kernel)) rfl)⟩
theorem kX2_9 : z_Lk RX2 9 2 2 (.array .int) true := ⟨RX2, TX2, 14, tyX2, z_k2, by decide, rfl, rfl, Or.inl (z_in (z_t1 32 (by decide +kernel)) rfl)⟩
theorem kX2_15 : z_Lk RX2 15 2 3 (.array .int) true := ⟨RX2, TX2, 14, tyX2, z_k2, by decide, rfl, rfl, Or.inl (z_in (z_t1 35 (by decide +kernel)) rfl)⟩
theorem kX2_18 : z_Lk RX2 18 2 6 (.array .int) true := ⟨RX2, TX2, 14, tyX2, z_k2, by decide, rfl, rfl, Or.inl (z_in (z_t1 44 (by decide +kernel)) rfl)⟩
theorem kX2_21 : z_Lk RX2 21 2 7 (.array .int) true := ⟨RX2, TX2, 14, tyX2, z_k2, by decide, rfl, rfl, Or.inl (z_in (z_t1 46 (by decide +kernel)) rfl)⟩
theorem kX2_24 : z_Lk RX2 24 2 8 (.array .int) true := ⟨RX2, TX2, 14, tyX2, z_k2, by decide, rfl, rfl, Or.inl (z_in (z_t1 48 (by decide +kernel)) rfl)⟩
theorem kX2_27 : z_Lk RX2 27 2 9 (.array .int) true := ⟨RX2, TX2, 14, tyX2, z_k2, by decide, rfl, rfl, Or.inl (z_in (z_t1 51 (by decide +kernel)) rfl)⟩
theorem kX2_30 : z_Lk RX2 30 2 12 (.array .int) true := ⟨RX2, TX2, 14, tyX2, z_k2, by decide, rfl, rfl, Or.inl (z_in (z_t1 58 (by decide +kernel)) rfl)⟩
theorem kX2_33 : z_Lk RX2 33 2 4 .int false := ⟨RX2, TX2, 14, tyX2, z_k2, by decide, rfl, rfl, Or.inl (z_in (z_t1 38 (by decide +kernel)) rfl)⟩
theorem kX2_37 : z_Lk RX2 37 2 11 .int false := ⟨RX2, TX2, 14, tyX2, z_k2, by decide, rfl, rfl, Or.inl (z_in (z_t1 56 (by decide +kernel)) rfl)⟩
theorem kX2_40 : z_Lk RX2 40 2 0 .int false := ⟨RX2, TX2, 14, tyX2, z_k2, by decide, rfl, rfl, Or.inl (z_in (z_t1 28 (by decide +kernel)) rfl)⟩
theorem kX2_43 : z_Lk RX2 43 2 1 .long false := ⟨RX2, TX2, 14, tyX2, z_k2, by decide, rfl, rfl, Or.inl (z_in (z_t1 30 (by decide +kernel)) rfl)⟩
theorem kX2_47 : z_Lk RX2 47 2 5 .int false := ⟨RX2, TX2, 14, tyX2, z_k2, by decide, rfl, rfl, Or.inl (z_in (z_t1 41 (by decide +kernel)) rfl)⟩
theorem kX2_50 : z_Lk RX2 50 2 10 .int false := ⟨RX2, TX2, 14, tyX2, z_k2, by decide, rfl, rfl, Or.inl (z_in (z_t1 54 (by decide +kernel)) rfl)⟩
theorem kX2_53 : z_Lk RX2 53 2 13 .long false := ⟨RX2, TX2, 14, tyX2, z_k2, by decide, rfl, rfl, Or.inl (z_in (z_t1 60 (by decide +kernel)) rfl)⟩
theorem kX4_9 : z_Lk RX4 9 4 0 (.array .int) true := ⟨RX4, TX4, 24, tyX4, z_k4, by decide, rfl, rfl, Or.inl (z_in (z_t4 9 (by decide +kernel)) rfl)⟩
theorem kX4_13 : z_Lk RX4 13 4 1 (.array .int) true := ⟨RX4, TX4, 24, tyX4, z_k4, by decide, rfl, rfl, Or.inl (z_in (z_t4 10 (by decide +kernel)) rfl)⟩
theorem kX4_16 : z_Lk RX4 16 4 2 (.array .int) true := ⟨RX4, TX4, 24, tyX4, z_k4, by decide, rfl, rfl, Or.inl (z_in (z_t4 11 (by decide +kernel)) rfl)⟩
theorem kX4_19 : z_Lk RX4 19 4 4 (.array .int) true := ⟨RX4, TX4, 24, tyX4, z_k4, by decide, rfl, rfl, Or.inl (z_in (z_t4 13 (by decide +kernel)) rfl)⟩
theorem kX4_22 : z_Lk RX4 22 4 5 (.array .int) true := ⟨RX4, TX4, 24, tyX4, z_k4, by decide, rfl, rfl, Or.inl (z_in (z_t4 14 (by decide +kernel)) rfl)⟩
theorem kX4_25 : z_Lk RX4 25 4 6 (.array .int) true := ⟨RX4, TX4, 24, tyX4, z_k4, by decide, rfl, rfl, Or.inl (z_in (z_t4 15 (by decide +kernel)) rfl)⟩
theorem kX4_28 : z_Lk RX4 28 4 8 (.array .int) true := ⟨RX4, TX4, 24, tyX4, z_k4, by decide, rfl, rfl, Or.inl (z_in (z_t4 17 (by decide +kernel)) rfl)⟩
theorem kX4_31 : z_Lk RX4 31 4 9 (.array .int) true := ⟨RX4, TX4, 24, tyX4, z_k4, by decide, rfl, rfl, Or.inl (z_in (z_t4 18 (by decide +kernel)) rfl)⟩
theorem kX4_50 : z_Lk RX4 50 4 16 (.array (.object "java/lang/String")) true := ⟨RX4, TX4, 24, tyX4, z_k4, by decide, rfl, rfl, Or.inl (z_in (z_t4 25 (by decide +kernel)) rfl)⟩
theorem kX4_54 : z_Lk RX4 54 4 17 (.array .int) true := ⟨RX4, TX4, 24, tyX4, z_k4, by decide, rfl, rfl, Or.inl (z_in (z_t4 26 (by decide +kernel)) rfl)⟩
theorem kX4_57 : z_Lk RX4 57 4 20 (.array .int) true := ⟨RX4, TX4, 24, tyX4, z_k4, by decide, rfl, rfl, Or.inl (z_in (z_t4 29 (by decide +kernel)) rfl)⟩
theorem kX4_60 : z_Lk RX4 60 4 21 (.array .int) true := ⟨RX4, TX4, 24, tyX4, z_k4, by decide, rfl, rfl, Or.inl (z_in (z_t4 30 (by decide +kernel)) rfl)⟩
theorem kX4_63 : z_Lk RX4 63 4 22 (.array .int) true := ⟨RX4, TX4, 24, tyX4, z_k4, by decide, rfl, rfl, Or.inl (z_in (z_t4 31 (by decide +kernel)) rfl)⟩
theorem kX4_66 : z_Lk RX4 66 4 23 (.array .int) true := ⟨RX4, TX4, 24, tyX4, z_k4, by decide, rfl, rfl, Or.inl (z_in (z_t4 32 (by decide +kernel)) rfl)⟩
theorem kX4_162 : z_Lk RX4 162 4 7 .boolean false := ⟨RX4, TX4, 24, tyX4, z_k4, by decide, rfl, rfl, Or.inl (z_in (z_t4 16 (by decide +kernel)) rfl)⟩
theorem kX4_258 : z_Lk RX4 258 4 10 .int false := ⟨RX4, TX4, 24, tyX4, z_k4, by decide, rfl, rfl, Or.inl (z_in (z_t4 19 (by decide +kernel)) rfl)⟩
theorem kX4_262 : z_Lk RX4 262 4 12 .int false := ⟨RX4, TX4, 24, tyX4, z_k4, by decide, rfl, rfl, Or.inl (z_in (z_t4 21 (by decide +kernel)) rfl)⟩
theorem kX4_265 : z_Lk RX4 265 4 11 .int false := ⟨RX4, TX4, 24, tyX4, z_k4, by decide, rfl, rfl, Or.inl (z_in (z_t4 20 (by decide +kernel)) rfl)⟩
theorem kX4_271 : z_Lk RX4 271 4 14 .int false := ⟨RX4, TX4, 24, tyX4, z_k4, by decide, rfl, rfl, Or.inl (z_in (z_t4 23 (by decide +kernel)) rfl)⟩
theorem kX4_274 : z_Lk RX4 274 4 13 .int false := ⟨RX4, TX4, 24, tyX4, z_k4, by decide, rfl, rfl, Or.inl (z_in (z_t4 22 (by decide +kernel)) rfl)⟩
theorem kX4_284 : z_Lk RX4 284 4 15 .boolean false := ⟨RX4, TX4, 24, tyX4, z_k4, by decide, rfl, rfl, Or.inl (z_in (z_t4 24 (by decide +kernel)) rfl)⟩
theorem kX4_294 : z_Lk RX4 294 4 18 .int false := ⟨RX4, TX4, 24, tyX4, z_k4, by decide, rfl, rfl, Or.inl (z_in (z_t4 27 (by decide +kernel)) rfl)⟩
theorem kX4_304 : z_Lk RX4 304 4 19 .int false := ⟨RX4, TX4, 24, tyX4, z_k4, by decide, rfl, rfl, Or.inl (z_in (z_t4 28 (by decide +kernel)) rfl)⟩
theorem kX4_344 : z_Lk RX4 344 4 3 .boolean false := ⟨RX4, TX4, 24, tyX4, z_k4, by decide, rfl, rfl, Or.inl (z_in (z_t4 12 (by decide +kernel)) rfl)⟩
theorem kX3_62 : z_Lk RX3 62 2 2 (.array .int) true := ⟨RX2, TX2, 14, tyX2, z_k2, by decide, rfl, rfl, Or.inr ⟨"WildBells", z_inN (z_t1 33 (by decide +kernel)) rfl⟩⟩
theorem kX3_74 : z_Lk RX3 74 2 3 (.array .int) true := ⟨RX2, TX2, 14, tyX2, z_k2, by decide, rfl, rfl, Or.inr ⟨"WildBells", z_inN (z_t1 36 (by decide +kernel)) rfl⟩⟩
theorem kX3_77 : z_Lk RX3 77 2 4 .int false := ⟨RX2, TX2, 14, tyX2, z_k2, by decide, rfl, rfl, Or.inr ⟨"WildBells", z_inN (z_t1 39 (by decide +kernel)) rfl⟩⟩
theorem kX3_84 : z_Lk RX3 84 2 5 .int false := ⟨RX2, TX2, 14, tyX2, z_k2, by decide, rfl, rfl, Or.inr ⟨"WildBells", z_inN (z_t1 42 (by decide +kernel)) rfl⟩⟩
theorem kX3_97 : z_Lk RX3 97 2 7 (.array .int) true := ⟨RX2, TX2, 14, tyX2, z_k2, by decide, rfl, rfl, Or.inr ⟨"WildBells", z_inN (z_t1 47 (by decide +kernel)) rfl⟩⟩
theorem kX3_117 : z_Lk RX3 117 2 0 .int false := ⟨RX2, TX2, 14, tyX2, z_k2, by decide, rfl, rfl, Or.inr ⟨"WildBells", z_inN (z_t1 29 (by decide +kernel)) rfl⟩⟩
theorem kX3_125 : z_Lk RX3 125 2 10 .int false := ⟨RX2, TX2, 14, tyX2, z_k2, by decide, rfl, rfl, Or.inr ⟨"WildBells", z_inN (z_t1 55 (by decide +kernel)) rfl⟩⟩
theorem kX3_133 : z_Lk RX3 133 2 1 .long false := ⟨RX2, TX2, 14, tyX2, z_k2, by decide, rfl, rfl, Or.inr ⟨"WildBells", z_inN (z_t1 31 (by decide +kernel)) rfl⟩⟩
theorem kX3_145 : z_Lk RX3 145 2 9 (.array .int) true := ⟨RX2, TX2, 14, tyX2, z_k2, by decide, rfl, rfl, Or.inr ⟨"WildBells", z_inN (z_t1 53 (by decide +kernel)) rfl⟩⟩
theorem kX3_165 : z_Lk RX3 165 2 13 .long false := ⟨RX2, TX2, 14, tyX2, z_k2, by decide, rfl, rfl, Or.inr ⟨"WildBells", z_inN (z_t1 61 (by decide +kernel)) rfl⟩⟩
theorem kX3_172 : z_Lk RX3 172 2 6 (.array .int) true := ⟨RX2, TX2, 14, tyX2, z_k2, by decide, rfl, rfl, Or.inr ⟨"WildBells", z_inN (z_t1 45 (by decide +kernel)) rfl⟩⟩
theorem kX3_215 : z_Lk RX3 215 2 11 .int false := ⟨RX2, TX2, 14, tyX2, z_k2, by decide, rfl, rfl, Or.inr ⟨"WildBells", z_inN (z_t1 57 (by decide +kernel)) rfl⟩⟩
theorem kX3_218 : z_Lk RX3 218 1 1 .int false := ⟨RX1, TX1, 7, tyX1, z_k1, by decide, rfl, rfl, Or.inr ⟨"WildBells", z_inN (z_t1 100 (by decide +kernel)) rfl⟩⟩
theorem kX3_231 : z_Lk RX3 231 2 12 (.array .int) true := ⟨RX2, TX2, 14, tyX2, z_k2, by decide, rfl, rfl, Or.inr ⟨"WildBells", z_inN (z_t1 59 (by decide +kernel)) rfl⟩⟩
theorem kX3_244 : z_Lk RX3 244 0 1 .int false := ⟨RX0, TX0, 3, tyX0, z_k0, by decide, rfl, rfl, Or.inr ⟨"WildBells", z_inN (z_t1 131 (by decide +kernel)) rfl⟩⟩
theorem kX3_251 : z_Lk RX3 251 0 0 .int false := ⟨RX0, TX0, 3, tyX0, z_k0, by decide, rfl, rfl, Or.inr ⟨"WildBells", z_inN (z_t1 129 (by decide +kernel)) rfl⟩⟩
theorem kX3_257 : z_Lk RX3 257 0 2 (.array .int) true := ⟨RX0, TX0, 3, tyX0, z_k0, by decide, rfl, rfl, Or.inr ⟨"WildBells", z_inN (z_t1 133 (by decide +kernel)) rfl⟩⟩
theorem kX3_269 : z_Lk RX3 269 2 8 (.array .int) true := ⟨RX2, TX2, 14, tyX2, z_k2, by decide, rfl, rfl, Or.inr ⟨"WildBells", z_inN (z_t1 50 (by decide +kernel)) rfl⟩⟩
theorem kX1_100 : z_Lk RX1 100 2 5 .int false := ⟨RX2, TX2, 14, tyX2, z_k2, by decide, rfl, rfl, Or.inr ⟨"WildBells", z_inN (z_t1 43 (by decide +kernel)) rfl⟩⟩
theorem kX1_119 : z_Lk RX1 119 2 8 (.array .int) true := ⟨RX2, TX2, 14, tyX2, z_k2, by decide, rfl, rfl, Or.inr ⟨"WildBells", z_inN (z_t1 49 (by decide +kernel)) rfl⟩⟩
theorem kX1_121 : z_Lk RX1 121 2 9 (.array .int) true := ⟨RX2, TX2, 14, tyX2, z_k2, by decide, rfl, rfl, Or.inr ⟨"WildBells", z_inN (z_t1 52 (by decide +kernel)) rfl⟩⟩
theorem kX1_130 : z_Lk RX1 130 2 2 (.array .int) true := ⟨RX2, TX2, 14, tyX2, z_k2, by decide, rfl, rfl, Or.inr ⟨"WildBells", z_inN (z_t1 34 (by decide +kernel)) rfl⟩⟩
theorem kX1_133 : z_Lk RX1 133 2 3 (.array .int) true := ⟨RX2, TX2, 14, tyX2, z_k2, by decide, rfl, rfl, Or.inr ⟨"WildBells", z_inN (z_t1 37 (by decide +kernel)) rfl⟩⟩
theorem kX1_136 : z_Lk RX1 136 2 4 .int false := ⟨RX2, TX2, 14, tyX2, z_k2, by decide, rfl, rfl, Or.inr ⟨"WildBells", z_inN (z_t1 40 (by decide +kernel)) rfl⟩⟩
theorem lX3_47 : z_Lm RX3 47 mX3_isCell := Or.inl (z_in (z_t1 170 (by decide +kernel)) rfl)
theorem lX3_51 : z_Lm RX3 51 mX3_finding := Or.inl (z_in (z_t1 173 (by decide +kernel)) rfl)
theorem lX3_71 : z_Lm RX3 71 mX3_isHunter := Or.inl (z_in (z_t1 224 (by decide +kernel)) rfl)
theorem lX3_81 : z_Lm RX3 81 mX3_isKind := Or.inl (z_in (z_t1 235 (by decide +kernel)) rfl)
theorem lX3_91 : z_Lm RX3 91 mX3_isBell := Or.inl (z_in (z_t2 6 (by decide +kernel)) rfl)
theorem lX3_103 : z_Lm RX3 103 mX3_isTrait := Or.inl (z_in (z_t2 38 (by decide +kernel)) rfl)
theorem lX3_109 : z_Lm RX3 109 mX3_suits := Or.inl (z_in (z_t2 49 (by decide +kernel)) rfl)
theorem lX3_128 : z_Lm RX3 128 mJ6_bitCount_0f7a4 := Or.inl (z_in (z_t2 78 (by decide +kernel)) rfl)
theorem lX3_137 : z_Lm RX3 137 mJ13_bitCount_95d88 := Or.inl (z_in (z_t2 88 (by decide +kernel)) rfl)
theorem lX3_148 : z_Lm RX3 148 mX3_apart := Or.inl (z_in (z_t2 102 (by decide +kernel)) rfl)
theorem lX3_151 : z_Lm RX3 151 mX3_loudness := Or.inl (z_in (z_t2 103 (by decide +kernel)) rfl)
theorem lX3_168 : z_Lm RX3 168 mX3_holds := Or.inl (z_in (z_t2 140 (by decide +kernel)) rfl)
theorem lX3_175 : z_Lm RX3 175 mX3_soundFault := Or.inl (z_in (z_t2 157 (by decide +kernel)) rfl)
theorem lX3_178 : z_Lm RX3 178 mX3_standingCells := Or.inl (z_in (z_t2 173 (by decide +kernel)) rfl)
theorem lX3_182 : z_Lm RX3 182 mX3_leftAtWorst := Or.inl (z_in (z_t2 190 (by decide +kernel)) rfl)
theorem lX3_192 : z_Lm RX3 192 mX3_isStock := Or.inl (z_in (z_t2 203 (by decide +kernel)) rfl)
theorem lX3_195 : z_Lm RX3 195 mX3_stockBehind := Or.inl (z_in (z_t2 206 (by decide +kernel)) rfl)
theorem lX3_209 : z_Lm RX3 209 mX3_longestRun := Or.inl (z_in (z_t3 7 (by decide +kernel)) rfl)
theorem lX3_228 : z_Lm RX3 228 mX3_isSpot := Or.inl (z_in (z_t3 165 (by decide +kernel)) rfl)
theorem lX3_234 : z_Lm RX3 234 mX3_isUnder := Or.inl (z_in (z_t3 172 (by decide +kernel)) rfl)
theorem lX3_237 : z_Lm RX3 237 mX3_isSheet := Or.inl (z_in (z_t2 161 (by decide +kernel)) rfl)
theorem lX3_260 : Cond.methodLink RX3 260 arraycopyName ∈ z_T := z_in (z_t3 197 (by decide +kernel)) rfl
theorem lX3_266 : z_Lm RX3 266 mX3_isNote := Or.inl (z_in (z_t2 52 (by decide +kernel)) rfl)
theorem lX3_279 : z_Lm RX3 279 mX3_isWeight := Or.inl (z_in (z_t2 55 (by decide +kernel)) rfl)
theorem lX3_285 : Cond.methodLink RX3 285 yJ9_max_7cf53 ∈ z_T := z_in (z_t1 212 (by decide +kernel)) rfl
theorem lX3_290 : Cond.methodLink RX3 290 yJ9_min_7cf53 ∈ z_T := z_in (z_t2 209 (by decide +kernel)) rfl
theorem lX1_25 : z_Lm RX1 25 mX1_advance := Or.inl (z_in (z_t3 49 (by decide +kernel)) rfl)
theorem lX1_28 : z_Lm RX1 28 mX1_readItem := Or.inl (z_in (z_t3 53 (by decide +kernel)) rfl)
theorem lX1_41 : z_Lm RX1 41 mJ0_length_8abf5 := Or.inl (z_in (z_t3 75 (by decide +kernel)) rfl)
theorem lX1_47 : z_Lm RX1 47 mJ0_charAt_5068e := Or.inl (z_in (z_t3 85 (by decide +kernel)) rfl)
theorem lX1_51 : z_Lm RX1 51 mX1_kindOfWord := Or.inl (z_in (z_t3 57 (by decide +kernel)) rfl)
theorem lX1_54 : z_Lm RX1 54 mX1_readBell := Or.inl (z_in (z_t3 123 (by decide +kernel)) rfl)
theorem lX1_60 : z_Lm RX1 60 mX1_isWord := Or.inl (z_in (z_t3 71 (by decide +kernel)) rfl)
theorem lX1_64 : z_Lm RX1 64 mX1_readNet := Or.inl (z_in (z_t3 140 (by decide +kernel)) rfl)
theorem lX1_69 : z_Lm RX1 69 mX1_readThick := Or.inl (z_in (z_t3 146 (by decide +kernel)) rfl)
theorem lX1_74 : z_Lm RX1 74 mX1_readHunter := Or.inl (z_in (z_t3 151 (by decide +kernel)) rfl)
theorem lX1_79 : z_Lm RX1 79 mX1_readFear := Or.inl (z_in (z_t3 156 (by decide +kernel)) rfl)
theorem lX1_82 : z_Lm RX1 82 mX1_wordOfKind := Or.inl (z_in (z_t3 61 (by decide +kernel)) rfl)
theorem lX1_107 : z_Lm RX1 107 mX1_takePerhaps := Or.inl (z_in (z_t3 128 (by decide +kernel)) rfl)
theorem lX1_123 : z_Lm RX1 123 mX1_takeNumber := Or.inl (z_in (z_t3 132 (by decide +kernel)) rfl)
theorem lX2_56 : Cond.methodLink RX2 56 arraycopyName ∈ z_T := z_in (z_t2 112 (by decide +kernel)) rfl
theorem lX2_68 : z_Lm RX2 68 mX2_isFree := Or.inl (z_in (z_t1 202 (by decide +kernel)) rfl)
theorem lX2_79 : Cond.methodLink RX2 79 yJ9_max_7cf53 ∈ z_T := z_in (z_t1 215 (by decide +kernel)) rfl
theorem lX2_84 : z_Lm RX2 84 mX2_fromHunters := Or.inl (z_in (z_t2 18 (by decide +kernel)) rfl)
theorem lX2_88 : z_Lm RX2 88 mX2_nearestOther := Or.inl (z_in (z_t2 25 (by decide +kernel)) rfl)
theorem lX2_92 : Cond.methodLink RX2 92 yJ9_min_7cf53 ∈ z_T := z_in (z_t2 22 (by decide +kernel)) rfl
theorem lX2_99 : z_Lm RX2 99 mX2_worthFor := Or.inl (z_in (z_t2 14 (by decide +kernel)) rfl)
theorem lX2_102 : z_Lm RX2 102 mX2_cellBeside := Or.inl (z_in (z_t2 34 (by decide +kernel)) rfl)
theorem lX2_105 : z_Lm RX2 105 mX2_nextCell := Or.inl (z_in (z_t2 75 (by decide +kernel)) rfl)
theorem lX2_108 : z_Lm RX2 108 mX2_hasNet := Or.inl (z_in (z_t2 76 (by decide +kernel)) rfl)
theorem lX2_112 : z_Lm RX2 112 mX2_hourGoes := Or.inl (z_in (z_t2 119 (by decide +kernel)) rfl)
theorem lX2_117 : z_Lm RX2 117 mX2_draw := Or.inl (z_in (z_t3 20 (by decide +kernel)) rfl)
theorem lX2_124 : z_Lm RX2 124 mJ6_bitCount_0f7a4 := Or.inl (z_in (z_t2 222 (by decide +kernel)) rfl)
theorem lX2_129 : z_Lm RX2 129 mX2_isRing := Or.inl (z_in (z_t2 223 (by decide +kernel)) rfl)
theorem lX4_70 : z_Lm RX4 70 mX4_copyRow := Or.inl (z_in (z_t5 17 (by decide +kernel)) rfl)
theorem lX4_74 : z_Lm RX4 74 mX4_within := Or.inl (z_in (z_t4 89 (by decide +kernel)) rfl)
theorem lX4_78 : Cond.methodLink RX4 78 yJ9_abs_0f7a4 ∈ z_T := z_in (z_t4 154 (by decide +kernel)) rfl
theorem lX4_84 : z_Lm RX4 84 mX4_isCell := Or.inl (z_in (z_t4 86 (by decide +kernel)) rfl)
theorem lX4_88 : z_Lm RX4 88 mX4_finding := Or.inl (z_in (z_t4 93 (by decide +kernel)) rfl)
theorem lX4_91 : z_Lm RX4 91 mX4_become := Or.inl (z_in (z_t4 97 (by decide +kernel)) rfl)
theorem lX4_95 : z_Lm RX4 95 mX4_isHunter := Or.inl (z_in (z_t4 109 (by decide +kernel)) rfl)
theorem lX4_98 : z_Lm RX4 98 mX4_at := Or.inl (z_in (z_t4 128 (by decide +kernel)) rfl)
theorem lX4_101 : z_Lm RX4 101 mX4_bellIs := Or.inl (z_in (z_t4 139 (by decide +kernel)) rfl)
theorem lX4_104 : z_Lm RX4 104 mX4_isKind := Or.inl (z_in (z_t4 120 (by decide +kernel)) rfl)
theorem lX4_108 : z_Lm RX4 108 mX4_comes := Or.inl (z_in (z_t4 124 (by decide +kernel)) rfl)
theorem lX4_112 : z_Lm RX4 112 mX4_above := Or.inl (z_in (z_t4 161 (by decide +kernel)) rfl)
theorem lX4_115 : z_Lm RX4 115 mX4_isCaught := Or.inl (z_in (z_t4 168 (by decide +kernel)) rfl)
theorem lX4_118 : z_Lm RX4 118 mX4_isUnder := Or.inl (z_in (z_t4 158 (by decide +kernel)) rfl)
theorem lX4_122 : z_Lm RX4 122 mX4_apart := Or.inl (z_in (z_t4 151 (by decide +kernel)) rfl)
theorem lX4_125 : Cond.methodLink RX4 125 yJ9_min_7cf53 ∈ z_T := z_in (z_t4 157 (by decide +kernel)) rfl
theorem lX4_128 : z_Lm RX4 128 mX4_nearestOther := Or.inl (z_in (z_t4 164 (by decide +kernel)) rfl)
theorem lX4_132 : Cond.methodLink RX4 132 yJ9_max_7cf53 ∈ z_T := z_in (z_t4 172 (by decide +kernel)) rfl
theorem lX4_135 : z_Lm RX4 135 mX4_worthOf := Or.inl (z_in (z_t4 147 (by decide +kernel)) rfl)
theorem lX4_138 : z_Lm RX4 138 mX4_beside := Or.inl (z_in (z_t4 173 (by decide +kernel)) rfl)
theorem lX4_141 : z_Lm RX4 141 mX4_isBell := Or.inl (z_in (z_t4 135 (by decide +kernel)) rfl)
theorem lX4_144 : z_Lm RX4 144 mX4_nextOf := Or.inl (z_in (z_t4 143 (by decide +kernel)) rfl)
theorem lX4_147 : z_Lm RX4 147 mX4_mayBe := Or.inl (z_in (z_t4 181 (by decide +kernel)) rfl)
theorem lX4_150 : z_Lm RX4 150 mX4_loudOf := Or.inl (z_in (z_t4 200 (by decide +kernel)) rfl)
theorem lX4_153 : z_Lm RX4 153 mX4_loudAt := Or.inl (z_in (z_t4 196 (by decide +kernel)) rfl)
theorem lX4_156 : z_Lm RX4 156 mX4_heardAt := Or.inl (z_in (z_t4 192 (by decide +kernel)) rfl)
theorem lX4_159 : z_Lm RX4 159 mX4_manyAt := Or.inl (z_in (z_t4 204 (by decide +kernel)) rfl)
theorem lX4_166 : z_Lm RX4 166 mX4_hasNet := Or.inl (z_in (z_t4 222 (by decide +kernel)) rfl)
theorem lX4_169 : z_Lm RX4 169 mX4_hour := Or.inl (z_in (z_t4 218 (by decide +kernel)) rfl)
theorem lX4_174 : z_Lm RX4 174 mX4_hours := Or.inl (z_in (z_t4 214 (by decide +kernel)) rfl)
theorem lX4_178 : z_Lm RX4 178 mX4_caughtNow := Or.inl (z_in (z_t4 226 (by decide +kernel)) rfl)
theorem lX4_182 : z_Lm RX4 182 mX4_bits := Or.inl (z_in (z_t4 230 (by decide +kernel)) rfl)
theorem lX4_185 : z_Lm RX4 185 mX4_nets := Or.inl (z_in (z_t4 237 (by decide +kernel)) rfl)
theorem lX4_188 : z_Lm RX4 188 mX4_caughtWeight := Or.inl (z_in (z_t5 1 (by decide +kernel)) rfl)
theorem lX4_191 : z_Lm RX4 191 mX4_putBack := Or.inl (z_in (z_t5 20 (by decide +kernel)) rfl)
theorem lX4_194 : z_Lm RX4 194 mX4_fieldBehind := Or.inl (z_in (z_t5 13 (by decide +kernel)) rfl)
theorem lX4_199 : z_Lm RX4 199 mX4_caughtIn := Or.inl (z_in (z_t5 28 (by decide +kernel)) rfl)
theorem lX4_202 : z_Lm RX4 202 mX4_told := Or.inl (z_in (z_t5 33 (by decide +kernel)) rfl)
theorem lX4_205 : z_Lm RX4 205 mX4_setBehind := Or.inl (z_in (z_t5 46 (by decide +kernel)) rfl)
theorem lX4_208 : z_Lm RX4 208 mX4_orNone := Or.inl (z_in (z_t5 54 (by decide +kernel)) rfl)
theorem lX4_211 : z_Lm RX4 211 mX4_isSheet := Or.inl (z_in (z_t5 82 (by decide +kernel)) rfl)
theorem lX4_215 : z_Lm RX4 215 mX4_ears := Or.inl (z_in (z_t5 90 (by decide +kernel)) rfl)
theorem lX4_218 : z_Lm RX4 218 mX4_earOf := Or.inl (z_in (z_t5 94 (by decide +kernel)) rfl)
theorem lX4_221 : z_Lm RX4 221 mX4_lacks := Or.inl (z_in (z_t5 78 (by decide +kernel)) rfl)
theorem lX4_224 : z_Lm RX4 224 mX4_areEars := Or.inl (z_in (z_t5 86 (by decide +kernel)) rfl)
theorem lX4_227 : z_Lm RX4 227 mX4_lacksOf := Or.inl (z_in (z_t5 74 (by decide +kernel)) rfl)
theorem lX4_230 : z_Lm RX4 230 mX4_isSo := Or.inl (z_in (z_t5 98 (by decide +kernel)) rfl)
theorem lX4_233 : z_Lm RX4 233 mX4_worst := Or.inl (z_in (z_t5 110 (by decide +kernel)) rfl)
theorem lX4_236 : z_Lm RX4 236 mX4_stockBehind := Or.inl (z_in (z_t5 122 (by decide +kernel)) rfl)
theorem lX4_239 : z_Lm RX4 239 mX4_has := Or.inl (z_in (z_t5 141 (by decide +kernel)) rfl)
theorem lX4_242 : z_Lm RX4 242 mX4_stepBySteps := Or.inl (z_in (z_t5 144 (by decide +kernel)) rfl)
theorem lX4_245 : z_Lm RX4 245 mX4_areRing := Or.inl (z_in (z_t5 137 (by decide +kernel)) rfl)
theorem lX4_248 : z_Lm RX4 248 mX4_greatest := Or.inl (z_in (z_t5 133 (by decide +kernel)) rfl)
theorem lX4_251 : z_Lm RX4 251 mX4_longest := Or.inl (z_in (z_t5 159 (by decide +kernel)) rfl)
theorem lX4_255 : z_Lm RX4 255 mX4_drawn := Or.inl (z_in (z_t5 170 (by decide +kernel)) rfl)
theorem lX4_268 : z_Lm RX4 268 mX4_byteAt := Or.inl (z_in (z_t5 195 (by decide +kernel)) rfl)
theorem lX4_277 : z_Lm RX4 277 mJ0_length_8abf5 := Or.inl (z_in (z_t5 211 (by decide +kernel)) rfl)
theorem lX4_280 : z_Lm RX4 280 mJ0_charAt_5068e := Or.inl (z_in (z_t5 212 (by decide +kernel)) rfl)
theorem lX4_287 : z_Lm RX4 287 mX4_next := Or.inl (z_in (z_t5 191 (by decide +kernel)) rfl)
theorem lX4_290 : z_Lm RX4 290 mX4_must := Or.inl (z_in (z_t5 213 (by decide +kernel)) rfl)
theorem lX4_297 : z_Lm RX4 297 mX4_isWord := Or.inl (z_in (z_t5 207 (by decide +kernel)) rfl)
theorem lX4_301 : z_Lm RX4 301 mX4_kindTold := Or.inl (z_in (z_t5 203 (by decide +kernel)) rfl)
theorem lX4_308 : z_Lm RX4 308 mX4_isNext := Or.inl (z_in (z_t5 218 (by decide +kernel)) rfl)
theorem lX4_311 : z_Lm RX4 311 mX4_number := Or.inl (z_in (z_t5 222 (by decide +kernel)) rfl)
theorem lX4_318 : z_Lm RX4 318 mX4_item := Or.inl (z_in (z_t5 228 (by decide +kernel)) rfl)
theorem lX4_330 : z_Lm RX4 330 mX4_readItem := Or.inl (z_in (z_t5 199 (by decide +kernel)) rfl)
theorem lX4_333 : z_Lm RX4 333 mX4_isToldSo := Or.inl (z_in (z_t5 236 (by decide +kernel)) rfl)
theorem lX4_336 : z_Lm RX4 336 mX4_isSpot := Or.inl (z_in (z_t6 4 (by decide +kernel)) rfl)
theorem lX4_341 : z_Lm RX4 341 mX4_cutTo := Or.inl (z_in (z_t6 21 (by decide +kernel)) rfl)
theorem lJ0_335 : z_Lm RJ0 335 mJ0_coder_7d493 := Or.inl (z_in (z_t3 79 (by decide +kernel)) rfl)
theorem lJ0_492 : z_Lm RJ0 492 mJ0_isLatin1_aae02 := Or.inl (z_in (z_t3 89 (by decide +kernel)) rfl)
theorem lJ0_495 : z_Lm RJ0 495 mJ1_charAt_3b067 := Or.inl (z_in (z_t3 93 (by decide +kernel)) rfl)
theorem lJ0_1059 : z_Lm RJ0 1059 mJ3_checkIndex_8e157 := Or.inl (z_in (z_t3 101 (by decide +kernel)) rfl)
theorem lJ1_9 : z_Lm RJ1 9 mJ0_checkIndex_df160 := Or.inl (z_in (z_t3 96 (by decide +kernel)) rfl)
theorem lJ2_414 : z_Lm RJ2 414 mJ0_checkIndex_df160 := Or.inl (z_in (z_t3 113 (by decide +kernel)) rfl)
theorem lX3_55 : z_Lm RX3 55 mX2_hasNet := Or.inr ⟨"WildBells", z_inN (z_t1 178 (by decide +kernel)) rfl⟩
theorem lX3_58 : z_Lm RX3 58 mX2_setNet := Or.inr ⟨"WildBells", z_inN (z_t1 185 (by decide +kernel)) rfl⟩
theorem lX3_65 : z_Lm RX3 65 mX2_heardAt := Or.inr ⟨"WildBells", z_inN (z_t1 198 (by decide +kernel)) rfl⟩
theorem lX3_68 : z_Lm RX3 68 mX2_bellsAt := Or.inr ⟨"WildBells", z_inN (z_t1 216 (by decide +kernel)) rfl⟩
theorem lX3_87 : z_Lm RX3 87 mX2_addBell := Or.inr ⟨"WildBells", z_inN (z_t1 238 (by decide +kernel)) rfl⟩
theorem lX3_94 : z_Lm RX3 94 mX2_nextCell := Or.inr ⟨"WildBells", z_inN (z_t2 10 (by decide +kernel)) rfl⟩
theorem lX3_100 : z_Lm RX3 100 mX2_worthFor := Or.inr ⟨"WildBells", z_inN (z_t2 37 (by decide +kernel)) rfl⟩
theorem lX3_106 : z_Lm RX3 106 mX2_trait := Or.inr ⟨"WildBells", z_inN (z_t2 41 (by decide +kernel)) rfl⟩
theorem lX3_113 : z_Lm RX3 113 mX2_setTrait := Or.inr ⟨"WildBells", z_inN (z_t2 58 (by decide +kernel)) rfl⟩
theorem lX3_121 : z_Lm RX3 121 mX2_hourGoes := Or.inr ⟨"WildBells", z_inN (z_t2 71 (by decide +kernel)) rfl⟩
theorem lX3_142 : z_Lm RX3 142 mX2_weightOf := Or.inr ⟨"WildBells", z_inN (z_t2 94 (by decide +kernel)) rfl⟩
theorem lX3_154 : z_Lm RX3 154 mX2_becomes := Or.inr ⟨"WildBells", z_inN (z_t2 108 (by decide +kernel)) rfl⟩
theorem lX3_158 : z_Lm RX3 158 mX2_runHours := Or.inr ⟨"WildBells", z_inN (z_t2 115 (by decide +kernel)) rfl⟩
theorem lX3_162 : z_Lm RX3 162 mX2_tillCaught := Or.inr ⟨"WildBells", z_inN (z_t2 124 (by decide +kernel)) rfl⟩
theorem lX3_186 : z_Lm RX3 186 mX2_isFree := Or.inr ⟨"WildBells", z_inN (z_t2 198 (by decide +kernel)) rfl⟩
theorem lX3_189 : z_Lm RX3 189 mX0_tellsLoud := Or.inr ⟨"WildBells", z_inN (z_t2 176 (by decide +kernel)) rfl⟩
theorem lX3_199 : z_Lm RX3 199 mX2_greatestRing := Or.inr ⟨"WildBells", z_inN (z_t2 218 (by decide +kernel)) rfl⟩
theorem lX3_203 : z_Lm RX3 203 mX2_isRing := Or.inr ⟨"WildBells", z_inN (z_t2 238 (by decide +kernel)) rfl⟩
theorem lX3_206 : z_Lm RX3 206 mX2_notesThere := Or.inr ⟨"WildBells", z_inN (z_t3 3 (by decide +kernel)) rfl⟩
theorem lX3_212 : z_Lm RX3 212 mX2_strike := Or.inr ⟨"WildBells", z_inN (z_t3 16 (by decide +kernel)) rfl⟩
theorem lX3_221 : z_Lm RX3 221 mX1_append := Or.inr ⟨"WildBells", z_inN (z_t3 33 (by decide +kernel)) rfl⟩
theorem lX3_224 : z_Lm RX3 224 mX1_readInto := Or.inr ⟨"WildBells", z_inN (z_t3 45 (by decide +kernel)) rfl⟩
theorem lX3_240 : z_Lm RX3 240 mX0_begin := Or.inr ⟨"WildBells", z_inN (z_t3 177 (by decide +kernel)) rfl⟩
theorem lX3_245 : z_Lm RX3 245 mX0_isMissing := Or.inr ⟨"WildBells", z_inN (z_t2 164 (by decide +kernel)) rfl⟩
theorem lX3_248 : z_Lm RX3 248 mX0_put := Or.inr ⟨"WildBells", z_inN (z_t3 185 (by decide +kernel)) rfl⟩
theorem lX3_254 : z_Lm RX3 254 mX0_hasFrom := Or.inr ⟨"WildBells", z_inN (z_t3 193 (by decide +kernel)) rfl⟩
theorem lX3_272 : z_Lm RX3 272 mX2_followsInRing := Or.inr ⟨"WildBells", z_inN (z_t3 206 (by decide +kernel)) rfl⟩
theorem lX3_275 : z_Lm RX3 275 mX2_spotsHolding := Or.inr ⟨"WildBells", z_inN (z_t3 226 (by decide +kernel)) rfl⟩
theorem lX3_282 : z_Lm RX3 282 mX0_earsAreCells := Or.inr ⟨"WildBells", z_inN (z_t2 168 (by decide +kernel)) rfl⟩
theorem lX0_22 : z_Lm RX0 22 mX3_isCell := Or.inr ⟨"WildBells", z_inN (z_t2 172 (by decide +kernel)) rfl⟩
theorem lX0_26 : z_Lm RX0 26 mX3_apart := Or.inr ⟨"WildBells", z_inN (z_t2 180 (by decide +kernel)) rfl⟩
theorem lX0_30 : z_Lm RX0 30 mX3_loudness := Or.inr ⟨"WildBells", z_inN (z_t2 181 (by decide +kernel)) rfl⟩
theorem lX1_115 : z_Lm RX1 115 mX2_addBell := Or.inr ⟨"WildBells", z_inN (z_t3 138 (by decide +kernel)) rfl⟩
theorem lX1_126 : z_Lm RX1 126 mX2_setNet := Or.inr ⟨"WildBells", z_inN (z_t3 144 (by decide +kernel)) rfl⟩
theorem lX2_62 : z_Lm RX2 62 mX3_holds := Or.inr ⟨"WildBells", z_inN (z_t1 182 (by decide +kernel)) rfl⟩
theorem lX2_72 : z_Lm RX2 72 mX3_apart := Or.inr ⟨"WildBells", z_inN (z_t1 206 (by decide +kernel)) rfl⟩
theorem lX2_76 : z_Lm RX2 76 mX3_loudness := Or.inr ⟨"WildBells", z_inN (z_t1 209 (by decide +kernel)) rfl⟩
theorem lX2_95 : z_Lm RX2 95 mX3_isUnder := Or.inr ⟨"WildBells", z_inN (z_t2 29 (by decide +kernel)) rfl⟩
theorem lX2_121 : z_Lm RX2 121 mX3_longestRun := Or.inr ⟨"WildBells", z_inN (z_t2 227 (by decide +kernel)) rfl⟩
theorem qX3_120 : Cond.constant RX3 120 (99999) ∈ z_T := z_in (z_t2 70 (by decide +kernel)) rfl
theorem qX3_278 : Cond.constant RX3 278 (-1000001) ∈ z_T := z_in (z_t1 177 (by decide +kernel)) rfl
theorem qX2_66 : Cond.constantLong RX2 66 (-1) ∈ z_T := z_in (z_t1 189 (by decide +kernel)) rfl
theorem qX2_111 : Cond.constant RX2 111 (99999) ∈ z_T := z_in (z_t2 77 (by decide +kernel)) rfl
theorem qX2_116 : Cond.constant RX2 116 (1103515245) ∈ z_T := z_in (z_t3 24 (by decide +kernel)) rfl
theorem qX4_69 : Cond.constant RX4 69 (-1000001) ∈ z_T := z_in (z_t4 92 (by decide +kernel)) rfl
theorem qX4_107 : Cond.constant RX4 107 (-1000002) ∈ z_T := z_in (z_t4 123 (by decide +kernel)) rfl
theorem qX4_172 : Cond.constant RX4 172 (99999) ∈ z_T := z_in (z_t4 212 (by decide +kernel)) rfl
theorem qX4_173 : Cond.constant RX4 173 (-1000005) ∈ z_T := z_in (z_t4 213 (by decide +kernel)) rfl
theorem qX4_197 : Cond.constant RX4 197 (1000000) ∈ z_T := z_in (z_t5 32 (by decide +kernel)) rfl
theorem qX4_198 : Cond.constant RX4 198 (-1000004) ∈ z_T := z_in (z_t5 37 (by decide +kernel)) rfl
theorem qX4_214 : Cond.constant RX4 214 (-1000006) ∈ z_T := z_in (z_t5 85 (by decide +kernel)) rfl
theorem qX4_254 : Cond.constant RX4 254 (1103515245) ∈ z_T := z_in (z_t5 174 (by decide +kernel)) rfl
theorem qX4_339 : Cond.constant RX4 339 (-1000003) ∈ z_T := z_in (z_t6 11 (by decide +kernel)) rfl
theorem qX4_340 : Cond.constant RX4 340 (-1000007) ∈ z_T := z_in (z_t6 16 (by decide +kernel)) rfl
theorem qJ6_265 : Cond.constant RJ6 265 (1431655765) ∈ z_T := z_in (z_t2 81 (by decide +kernel)) rfl
theorem qJ6_266 : Cond.constant RJ6 266 (858993459) ∈ z_T := z_in (z_t2 82 (by decide +kernel)) rfl
theorem qJ6_267 : Cond.constant RJ6 267 (252645135) ∈ z_T := z_in (z_t2 83 (by decide +kernel)) rfl
theorem qJ13_314 : Cond.constantLong RJ13 314 (6148914691236517205) ∈ z_T := z_in (z_t2 91 (by decide +kernel)) rfl
theorem qJ13_316 : Cond.constantLong RJ13 316 (3689348814741910323) ∈ z_T := z_in (z_t2 92 (by decide +kernel)) rfl
theorem qJ13_318 : Cond.constantLong RJ13 318 (1085102592571150095) ∈ z_T := z_in (z_t2 93 (by decide +kernel)) rfl
theorem z_ac : Cond.native arraycopyName ∈ z_T ∧ Cond.static arraycopyName ∈ z_T ∧ Cond.initialized "java/lang/System" ∈ z_T := ⟨z_in (z_t2 114 (by decide +kernel)) rfl, z_in (z_t2 113 (by decide +kernel)) rfl, z_iJ10⟩
end
section
theorem dX0_init_0 : decode cX0_init 0 = .ok (.aload_n 0, 1) := by decide +kernel
theorem dX0_init_1 : decode cX0_init 1 = .ok (.invokespecial 3, 3) := by decide +kernel
theorem dX0_init_4 : decode cX0_init 4 = .ok (.aload_n 0, 1) := by decide +kernel
theorem dX0_init_5 : decode cX0_init 5 = .ok (.bipush 40, 2) := by decide +kernel
theorem dX0_init_7 : decode cX0_init 7 = .ok (.newarray .int, 2) := by decide +kernel
theorem dX0_init_9 : decode cX0_init 9 = .ok (.putfield 9, 3) := by decide +kernel
theorem dX0_init_12 : decode cX0_init 12 = .ok (.return_, 1) := by decide +kernel
theorem dX0_isMissing_0 : decode cX0_isMissing 0 = .ok (.aload_n 0, 1) := by decide +kernel
theorem dX0_isMissing_1 : decode cX0_isMissing 1 = .ok (.getfield 15, 3) := by decide +kernel
theorem dX0_isMissing_4 : decode cX0_isMissing 4 = .ok (.ifCond .ne 7, 3) := by decide +kernel
theorem dX0_isMissing_7 : decode cX0_isMissing 7 = .ok (.iconst 1, 1) := by decide +kernel
theorem dX0_isMissing_8 : decode cX0_isMissing 8 = .ok (.goto 4, 3) := by decide +kernel
theorem dX0_isMissing_11 : decode cX0_isMissing 11 = .ok (.iconst 0, 1) := by decide +kernel
theorem dX0_isMissing_12 : decode cX0_isMissing 12 = .ok (.ireturn, 1) := by decide +kernel
theorem dX0_begin_0 : decode cX0_begin 0 = .ok (.aload_n 0, 1) := by decide +kernel
theorem dX0_begin_1 : decode cX0_begin 1 = .ok (.iload_n 1, 1) := by decide +kernel
theorem dX0_begin_2 : decode cX0_begin 2 = .ok (.putfield 15, 3) := by decide +kernel
theorem dX0_begin_5 : decode cX0_begin 5 = .ok (.aload_n 0, 1) := by decide +kernel
theorem dX0_begin_6 : decode cX0_begin 6 = .ok (.iload_n 1, 1) := by decide +kernel
theorem dX0_begin_7 : decode cX0_begin 7 = .ok (.ifCond .ne 7, 3) := by decide +kernel
theorem dX0_begin_10 : decode cX0_begin 10 = .ok (.iconst 0, 1) := by decide +kernel
theorem dX0_begin_11 : decode cX0_begin 11 = .ok (.goto 4, 3) := by decide +kernel
theorem dX0_begin_14 : decode cX0_begin 14 = .ok (.iload_n 2, 1) := by decide +kernel
theorem dX0_begin_15 : decode cX0_begin 15 = .ok (.putfield 19, 3) := by decide +kernel
theorem dX0_begin_18 : decode cX0_begin 18 = .ok (.iconst 0, 1) := by decide +kernel
theorem dX0_begin_19 : decode cX0_begin 19 = .ok (.istore_n 3, 1) := by decide +kernel
theorem dX0_begin_20 : decode cX0_begin 20 = .ok (.iload_n 3, 1) := by decide +kernel
theorem dX0_begin_21 : decode cX0_begin 21 = .ok (.bipush 40, 2) := by decide +kernel
theorem dX0_begin_23 : decode cX0_begin 23 = .ok (.if_icmp .ge 16, 3) := by decide +kernel
theorem dX0_begin_26 : decode cX0_begin 26 = .ok (.aload_n 0, 1) := by decide +kernel
theorem dX0_begin_27 : decode cX0_begin 27 = .ok (.getfield 9, 3) := by decide +kernel
theorem dX0_begin_30 : decode cX0_begin 30 = .ok (.iload_n 3, 1) := by decide +kernel
theorem dX0_begin_31 : decode cX0_begin 31 = .ok (.iconst 0, 1) := by decide +kernel
theorem dX0_begin_32 : decode cX0_begin 32 = .ok (.iastore, 1) := by decide +kernel
theorem dX0_begin_33 : decode cX0_begin 33 = .ok (.iinc 3 1, 3) := by decide +kernel
theorem dX0_begin_36 : decode cX0_begin 36 = .ok (.goto (-16), 3) := by decide +kernel
theorem dX0_begin_39 : decode cX0_begin 39 = .ok (.return_, 1) := by decide +kernel
theorem dX0_put_0 : decode cX0_put 0 = .ok (.aload_n 0, 1) := by decide +kernel
theorem dX0_put_1 : decode cX0_put 1 = .ok (.getfield 15, 3) := by decide +kernel
theorem dX0_put_4 : decode cX0_put 4 = .ok (.bipush 8, 2) := by decide +kernel
theorem dX0_put_6 : decode cX0_put 6 = .ok (.if_icmp .ne 14, 3) := by decide +kernel
theorem dX0_put_9 : decode cX0_put 9 = .ok (.aload_n 0, 1) := by decide +kernel
theorem dX0_put_10 : decode cX0_put 10 = .ok (.getfield 9, 3) := by decide +kernel
theorem dX0_put_13 : decode cX0_put 13 = .ok (.iload_n 1, 1) := by decide +kernel
theorem dX0_put_14 : decode cX0_put 14 = .ok (.iload_n 2, 1) := by decide +kernel
theorem dX0_put_15 : decode cX0_put 15 = .ok (.i2b, 1) := by decide +kernel
theorem dX0_put_16 : decode cX0_put 16 = .ok (.iastore, 1) := by decide +kernel
theorem dX0_put_17 : decode cX0_put 17 = .ok (.goto 30, 3) := by decide +kernel
theorem dX0_put_20 : decode cX0_put 20 = .ok (.aload_n 0, 1) := by decide +kernel
theorem dX0_put_21 : decode cX0_put 21 = .ok (.getfield 15, 3) := by decide +kernel
theorem dX0_put_24 : decode cX0_put 24 = .ok (.bipush 16, 2) := by decide +kernel
theorem dX0_put_26 : decode cX0_put 26 = .ok (.if_icmp .ne 14, 3) := by decide +kernel
theorem dX0_put_29 : decode cX0_put 29 = .ok (.aload_n 0, 1) := by decide +kernel
theorem dX0_put_30 : decode cX0_put 30 = .ok (.getfield 9, 3) := by decide +kernel
theorem dX0_put_33 : decode cX0_put 33 = .ok (.iload_n 1, 1) := by decide +kernel
theorem dX0_put_34 : decode cX0_put 34 = .ok (.iload_n 2, 1) := by decide +kernel
theorem dX0_put_35 : decode cX0_put 35 = .ok (.i2s, 1) := by decide +kernel
theorem dX0_put_36 : decode cX0_put 36 = .ok (.iastore, 1) := by decide +kernel
theorem dX0_put_37 : decode cX0_put 37 = .ok (.goto 10, 3) := by decide +kernel
theorem dX0_put_40 : decode cX0_put 40 = .ok (.aload_n 0, 1) := by decide +kernel
theorem dX0_put_41 : decode cX0_put 41 = .ok (.getfield 9, 3) := by decide +kernel
theorem dX0_put_44 : decode cX0_put 44 = .ok (.iload_n 1, 1) := by decide +kernel
theorem dX0_put_45 : decode cX0_put 45 = .ok (.iload_n 2, 1) := by decide +kernel
theorem dX0_put_46 : decode cX0_put 46 = .ok (.iastore, 1) := by decide +kernel
theorem dX0_put_47 : decode cX0_put 47 = .ok (.return_, 1) := by decide +kernel
theorem dX0_hasFrom_0 : decode cX0_hasFrom 0 = .ok (.iload_n 1, 1) := by decide +kernel
theorem dX0_hasFrom_1 : decode cX0_hasFrom 1 = .ok (.ifCond .lt 29, 3) := by decide +kernel
theorem dX0_hasFrom_4 : decode cX0_hasFrom 4 = .ok (.iload_n 2, 1) := by decide +kernel
theorem dX0_hasFrom_5 : decode cX0_hasFrom 5 = .ok (.ifCond .lt 25, 3) := by decide +kernel
theorem dX0_hasFrom_8 : decode cX0_hasFrom 8 = .ok (.iload_n 1, 1) := by decide +kernel
theorem dX0_hasFrom_9 : decode cX0_hasFrom 9 = .ok (.aload_n 0, 1) := by decide +kernel
theorem dX0_hasFrom_10 : decode cX0_hasFrom 10 = .ok (.getfield 19, 3) := by decide +kernel
theorem dX0_hasFrom_13 : decode cX0_hasFrom 13 = .ok (.if_icmp .gt 17, 3) := by decide +kernel
theorem dX0_hasFrom_16 : decode cX0_hasFrom 16 = .ok (.iload_n 2, 1) := by decide +kernel
theorem dX0_hasFrom_17 : decode cX0_hasFrom 17 = .ok (.aload_n 0, 1) := by decide +kernel
theorem dX0_hasFrom_18 : decode cX0_hasFrom 18 = .ok (.getfield 19, 3) := by decide +kernel
theorem dX0_hasFrom_21 : decode cX0_hasFrom 21 = .ok (.iload_n 1, 1) := by decide +kernel
theorem dX0_hasFrom_22 : decode cX0_hasFrom 22 = .ok (.isub, 1) := by decide +kernel
theorem dX0_hasFrom_23 : decode cX0_hasFrom 23 = .ok (.if_icmp .gt 7, 3) := by decide +kernel
theorem dX0_hasFrom_26 : decode cX0_hasFrom 26 = .ok (.iconst 1, 1) := by decide +kernel
theorem dX0_hasFrom_27 : decode cX0_hasFrom 27 = .ok (.goto 4, 3) := by decide +kernel
theorem dX0_hasFrom_30 : decode cX0_hasFrom 30 = .ok (.iconst 0, 1) := by decide +kernel
theorem dX0_hasFrom_31 : decode cX0_hasFrom 31 = .ok (.ireturn, 1) := by decide +kernel
theorem dX0_earsAreCells_0 : decode cX0_earsAreCells 0 = .ok (.iconst 0, 1) := by decide +kernel
theorem dX0_earsAreCells_1 : decode cX0_earsAreCells 1 = .ok (.istore_n 1, 1) := by decide +kernel
theorem dX0_earsAreCells_2 : decode cX0_earsAreCells 2 = .ok (.iload_n 1, 1) := by decide +kernel
theorem dX0_earsAreCells_3 : decode cX0_earsAreCells 3 = .ok (.iconst 1, 1) := by decide +kernel
theorem dX0_earsAreCells_4 : decode cX0_earsAreCells 4 = .ok (.iadd, 1) := by decide +kernel
theorem dX0_earsAreCells_5 : decode cX0_earsAreCells 5 = .ok (.aload_n 0, 1) := by decide +kernel
theorem dX0_earsAreCells_6 : decode cX0_earsAreCells 6 = .ok (.getfield 19, 3) := by decide +kernel
theorem dX0_earsAreCells_9 : decode cX0_earsAreCells 9 = .ok (.if_icmp .ge 23, 3) := by decide +kernel
theorem dX0_earsAreCells_12 : decode cX0_earsAreCells 12 = .ok (.aload_n 0, 1) := by decide +kernel
theorem dX0_earsAreCells_13 : decode cX0_earsAreCells 13 = .ok (.getfield 9, 3) := by decide +kernel
theorem dX0_earsAreCells_16 : decode cX0_earsAreCells 16 = .ok (.iload_n 1, 1) := by decide +kernel
theorem dX0_earsAreCells_17 : decode cX0_earsAreCells 17 = .ok (.iaload, 1) := by decide +kernel
theorem dX0_earsAreCells_18 : decode cX0_earsAreCells 18 = .ok (.invokestatic 22, 3) := by decide +kernel
theorem dX0_earsAreCells_21 : decode cX0_earsAreCells 21 = .ok (.ifCond .ne 5, 3) := by decide +kernel
theorem dX0_earsAreCells_24 : decode cX0_earsAreCells 24 = .ok (.iconst 0, 1) := by decide +kernel
theorem dX0_earsAreCells_25 : decode cX0_earsAreCells 25 = .ok (.ireturn, 1) := by decide +kernel
theorem dX0_earsAreCells_26 : decode cX0_earsAreCells 26 = .ok (.iinc 1 2, 3) := by decide +kernel
theorem dX0_earsAreCells_29 : decode cX0_earsAreCells 29 = .ok (.goto (-27), 3) := by decide +kernel
theorem dX0_earsAreCells_32 : decode cX0_earsAreCells 32 = .ok (.iconst 1, 1) := by decide +kernel
theorem dX0_earsAreCells_33 : decode cX0_earsAreCells 33 = .ok (.ireturn, 1) := by decide +kernel
theorem dX0_tellsLoud_0 : decode cX0_tellsLoud 0 = .ok (.iconst 0, 1) := by decide +kernel
theorem dX0_tellsLoud_1 : decode cX0_tellsLoud 1 = .ok (.istore_n 3, 1) := by decide +kernel
theorem dX0_tellsLoud_2 : decode cX0_tellsLoud 2 = .ok (.iload_n 3, 1) := by decide +kernel
theorem dX0_tellsLoud_3 : decode cX0_tellsLoud 3 = .ok (.iconst 1, 1) := by decide +kernel
theorem dX0_tellsLoud_4 : decode cX0_tellsLoud 4 = .ok (.iadd, 1) := by decide +kernel
theorem dX0_tellsLoud_5 : decode cX0_tellsLoud 5 = .ok (.aload_n 0, 1) := by decide +kernel
theorem dX0_tellsLoud_6 : decode cX0_tellsLoud 6 = .ok (.getfield 19, 3) := by decide +kernel
theorem dX0_tellsLoud_9 : decode cX0_tellsLoud 9 = .ok (.if_icmp .ge 36, 3) := by decide +kernel
theorem dX0_tellsLoud_12 : decode cX0_tellsLoud 12 = .ok (.iload_n 1, 1) := by decide +kernel
theorem dX0_tellsLoud_13 : decode cX0_tellsLoud 13 = .ok (.iload_n 2, 1) := by decide +kernel
theorem dX0_tellsLoud_14 : decode cX0_tellsLoud 14 = .ok (.aload_n 0, 1) := by decide +kernel
theorem dX0_tellsLoud_15 : decode cX0_tellsLoud 15 = .ok (.getfield 9, 3) := by decide +kernel
theorem dX0_tellsLoud_18 : decode cX0_tellsLoud 18 = .ok (.iload_n 3, 1) := by decide +kernel
theorem dX0_tellsLoud_19 : decode cX0_tellsLoud 19 = .ok (.iaload, 1) := by decide +kernel
theorem dX0_tellsLoud_20 : decode cX0_tellsLoud 20 = .ok (.invokestatic 26, 3) := by decide +kernel
theorem dX0_tellsLoud_23 : decode cX0_tellsLoud 23 = .ok (.invokestatic 30, 3) := by decide +kernel
theorem dX0_tellsLoud_26 : decode cX0_tellsLoud 26 = .ok (.aload_n 0, 1) := by decide +kernel
theorem dX0_tellsLoud_27 : decode cX0_tellsLoud 27 = .ok (.getfield 9, 3) := by decide +kernel
theorem dX0_tellsLoud_30 : decode cX0_tellsLoud 30 = .ok (.iload_n 3, 1) := by decide +kernel
theorem dX0_tellsLoud_31 : decode cX0_tellsLoud 31 = .ok (.iconst 1, 1) := by decide +kernel
theorem dX0_tellsLoud_32 : decode cX0_tellsLoud 32 = .ok (.iadd, 1) := by decide +kernel
theorem dX0_tellsLoud_33 : decode cX0_tellsLoud 33 = .ok (.iaload, 1) := by decide +kernel
theorem dX0_tellsLoud_34 : decode cX0_tellsLoud 34 = .ok (.if_icmp .eq 5, 3) := by decide +kernel
theorem dX0_tellsLoud_37 : decode cX0_tellsLoud 37 = .ok (.iconst 0, 1) := by decide +kernel
theorem dX0_tellsLoud_38 : decode cX0_tellsLoud 38 = .ok (.ireturn, 1) := by decide +kernel
theorem dX0_tellsLoud_39 : decode cX0_tellsLoud 39 = .ok (.iinc 3 2, 3) := by decide +kernel
theorem dX0_tellsLoud_42 : decode cX0_tellsLoud 42 = .ok (.goto (-40), 3) := by decide +kernel
theorem dX0_tellsLoud_45 : decode cX0_tellsLoud 45 = .ok (.iconst 1, 1) := by decide +kernel
theorem dX0_tellsLoud_46 : decode cX0_tellsLoud 46 = .ok (.ireturn, 1) := by decide +kernel
theorem dX1_init_0 : decode cX1_init 0 = .ok (.aload_n 0, 1) := by decide +kernel
theorem dX1_init_1 : decode cX1_init 1 = .ok (.invokespecial 3, 3) := by decide +kernel
theorem dX1_init_4 : decode cX1_init 4 = .ok (.aload_n 0, 1) := by decide +kernel
theorem dX1_init_5 : decode cX1_init 5 = .ok (.bipush 120, 2) := by decide +kernel
theorem dX1_init_7 : decode cX1_init 7 = .ok (.newarray .int, 2) := by decide +kernel
theorem dX1_init_9 : decode cX1_init 9 = .ok (.putfield 9, 3) := by decide +kernel
theorem dX1_init_12 : decode cX1_init 12 = .ok (.return_, 1) := by decide +kernel
theorem dX1_append_0 : decode cX1_append 0 = .ok (.aload_n 0, 1) := by decide +kernel
theorem dX1_append_1 : decode cX1_append 1 = .ok (.getfield 15, 3) := by decide +kernel
theorem dX1_append_4 : decode cX1_append 4 = .ok (.bipush 120, 2) := by decide +kernel
theorem dX1_append_6 : decode cX1_append 6 = .ok (.if_icmp .ge 27, 3) := by decide +kernel
theorem dX1_append_9 : decode cX1_append 9 = .ok (.aload_n 0, 1) := by decide +kernel
theorem dX1_append_10 : decode cX1_append 10 = .ok (.getfield 9, 3) := by decide +kernel
theorem dX1_append_13 : decode cX1_append 13 = .ok (.aload_n 0, 1) := by decide +kernel
theorem dX1_append_14 : decode cX1_append 14 = .ok (.getfield 15, 3) := by decide +kernel
theorem dX1_append_17 : decode cX1_append 17 = .ok (.iload_n 1, 1) := by decide +kernel
theorem dX1_append_18 : decode cX1_append 18 = .ok (.sipush 255, 3) := by decide +kernel
theorem dX1_append_21 : decode cX1_append 21 = .ok (.iand, 1) := by decide +kernel
theorem dX1_append_22 : decode cX1_append 22 = .ok (.iastore, 1) := by decide +kernel
theorem dX1_append_23 : decode cX1_append 23 = .ok (.aload_n 0, 1) := by decide +kernel
theorem dX1_append_24 : decode cX1_append 24 = .ok (.dup, 1) := by decide +kernel
theorem dX1_append_25 : decode cX1_append 25 = .ok (.getfield 15, 3) := by decide +kernel
theorem dX1_append_28 : decode cX1_append 28 = .ok (.iconst 1, 1) := by decide +kernel
theorem dX1_append_29 : decode cX1_append 29 = .ok (.iadd, 1) := by decide +kernel
theorem dX1_append_30 : decode cX1_append 30 = .ok (.putfield 15, 3) := by decide +kernel
theorem dX1_append_33 : decode cX1_append 33 = .ok (.return_, 1) := by decide +kernel
theorem dX1_readInto_0 : decode cX1_readInto 0 = .ok (.aload_n 0, 1) := by decide +kernel
theorem dX1_readInto_1 : decode cX1_readInto 1 = .ok (.iconst (-1), 1) := by decide +kernel
theorem dX1_readInto_2 : decode cX1_readInto 2 = .ok (.putfield 19, 3) := by decide +kernel
theorem dX1_readInto_5 : decode cX1_readInto 5 = .ok (.aload_n 0, 1) := by decide +kernel
theorem dX1_readInto_6 : decode cX1_readInto 6 = .ok (.iconst 0, 1) := by decide +kernel
theorem dX1_readInto_7 : decode cX1_readInto 7 = .ok (.putfield 22, 3) := by decide +kernel
theorem dX1_readInto_10 : decode cX1_readInto 10 = .ok (.aload_n 0, 1) := by decide +kernel
theorem dX1_readInto_11 : decode cX1_readInto 11 = .ok (.invokevirtual 25, 3) := by decide +kernel
theorem dX1_readInto_14 : decode cX1_readInto 14 = .ok (.iconst 0, 1) := by decide +kernel
theorem dX1_readInto_15 : decode cX1_readInto 15 = .ok (.istore_n 2, 1) := by decide +kernel
theorem dX1_readInto_16 : decode cX1_readInto 16 = .ok (.iconst 1, 1) := by decide +kernel
theorem dX1_readInto_17 : decode cX1_readInto 17 = .ok (.istore_n 3, 1) := by decide +kernel
theorem dX1_readInto_18 : decode cX1_readInto 18 = .ok (.iconst 0, 1) := by decide +kernel
theorem dX1_readInto_19 : decode cX1_readInto 19 = .ok (.istore 4, 2) := by decide +kernel
theorem dX1_readInto_21 : decode cX1_readInto 21 = .ok (.iload 4, 2) := by decide +kernel
theorem dX1_readInto_23 : decode cX1_readInto 23 = .ok (.bipush 120, 2) := by decide +kernel
theorem dX1_readInto_25 : decode cX1_readInto 25 = .ok (.if_icmp .gt 50, 3) := by decide +kernel
theorem dX1_readInto_28 : decode cX1_readInto 28 = .ok (.iload_n 3, 1) := by decide +kernel
theorem dX1_readInto_29 : decode cX1_readInto 29 = .ok (.ifCond .eq 46, 3) := by decide +kernel
theorem dX1_readInto_32 : decode cX1_readInto 32 = .ok (.aload_n 0, 1) := by decide +kernel
theorem dX1_readInto_33 : decode cX1_readInto 33 = .ok (.aload_n 1, 1) := by decide +kernel
theorem dX1_readInto_34 : decode cX1_readInto 34 = .ok (.invokevirtual 28, 3) := by decide +kernel
theorem dX1_readInto_37 : decode cX1_readInto 37 = .ok (.iinc 2 1, 3) := by decide +kernel
theorem dX1_readInto_40 : decode cX1_readInto 40 = .ok (.aload_n 0, 1) := by decide +kernel
theorem dX1_readInto_41 : decode cX1_readInto 41 = .ok (.getfield 19, 3) := by decide +kernel
theorem dX1_readInto_44 : decode cX1_readInto 44 = .ok (.ifCond .ge 15, 3) := by decide +kernel
theorem dX1_readInto_47 : decode cX1_readInto 47 = .ok (.aload_n 0, 1) := by decide +kernel
theorem dX1_readInto_48 : decode cX1_readInto 48 = .ok (.getfield 32, 3) := by decide +kernel
theorem dX1_readInto_51 : decode cX1_readInto 51 = .ok (.iconst 3, 1) := by decide +kernel
theorem dX1_readInto_52 : decode cX1_readInto 52 = .ok (.if_icmp .ne 7, 3) := by decide +kernel
theorem dX1_readInto_55 : decode cX1_readInto 55 = .ok (.iconst 1, 1) := by decide +kernel
theorem dX1_readInto_56 : decode cX1_readInto 56 = .ok (.goto 4, 3) := by decide +kernel
theorem dX1_readInto_59 : decode cX1_readInto 59 = .ok (.iconst 0, 1) := by decide +kernel
theorem dX1_readInto_60 : decode cX1_readInto 60 = .ok (.istore_n 3, 1) := by decide +kernel
theorem dX1_readInto_61 : decode cX1_readInto 61 = .ok (.iload_n 3, 1) := by decide +kernel
theorem dX1_readInto_62 : decode cX1_readInto 62 = .ok (.ifCond .eq 7, 3) := by decide +kernel
theorem dX1_readInto_65 : decode cX1_readInto 65 = .ok (.aload_n 0, 1) := by decide +kernel
theorem dX1_readInto_66 : decode cX1_readInto 66 = .ok (.invokevirtual 25, 3) := by decide +kernel
theorem dX1_readInto_69 : decode cX1_readInto 69 = .ok (.iinc 4 1, 3) := by decide +kernel
theorem dX1_readInto_72 : decode cX1_readInto 72 = .ok (.goto (-51), 3) := by decide +kernel
theorem dX1_readInto_75 : decode cX1_readInto 75 = .ok (.aload_n 0, 1) := by decide +kernel
theorem dX1_readInto_76 : decode cX1_readInto 76 = .ok (.getfield 19, 3) := by decide +kernel
theorem dX1_readInto_79 : decode cX1_readInto 79 = .ok (.ifCond .ge 18, 3) := by decide +kernel
theorem dX1_readInto_82 : decode cX1_readInto 82 = .ok (.aload_n 0, 1) := by decide +kernel
theorem dX1_readInto_83 : decode cX1_readInto 83 = .ok (.getfield 32, 3) := by decide +kernel
theorem dX1_readInto_86 : decode cX1_readInto 86 = .ok (.ifCond .eq 11, 3) := by decide +kernel
theorem dX1_readInto_89 : decode cX1_readInto 89 = .ok (.aload_n 0, 1) := by decide +kernel
theorem dX1_readInto_90 : decode cX1_readInto 90 = .ok (.aload_n 0, 1) := by decide +kernel
theorem dX1_readInto_91 : decode cX1_readInto 91 = .ok (.getfield 35, 3) := by decide +kernel
theorem dX1_readInto_94 : decode cX1_readInto 94 = .ok (.putfield 19, 3) := by decide +kernel
theorem dX1_readInto_97 : decode cX1_readInto 97 = .ok (.aload_n 0, 1) := by decide +kernel
theorem dX1_readInto_98 : decode cX1_readInto 98 = .ok (.getfield 19, 3) := by decide +kernel
theorem dX1_readInto_101 : decode cX1_readInto 101 = .ok (.ifCond .ge 7, 3) := by decide +kernel
theorem dX1_readInto_104 : decode cX1_readInto 104 = .ok (.iload_n 2, 1) := by decide +kernel
theorem dX1_readInto_105 : decode cX1_readInto 105 = .ok (.goto 9, 3) := by decide +kernel
theorem dX1_readInto_108 : decode cX1_readInto 108 = .ok (.iconst (-1), 1) := by decide +kernel
theorem dX1_readInto_109 : decode cX1_readInto 109 = .ok (.aload_n 0, 1) := by decide +kernel
theorem dX1_readInto_110 : decode cX1_readInto 110 = .ok (.getfield 19, 3) := by decide +kernel
theorem dX1_readInto_113 : decode cX1_readInto 113 = .ok (.isub, 1) := by decide +kernel
theorem dX1_readInto_114 : decode cX1_readInto 114 = .ok (.ireturn, 1) := by decide +kernel
theorem dX1_advance_0 : decode cX1_advance 0 = .ok (.aload_n 0, 1) := by decide +kernel
theorem dX1_advance_1 : decode cX1_advance 1 = .ok (.aload_n 0, 1) := by decide +kernel
theorem dX1_advance_2 : decode cX1_advance 2 = .ok (.getfield 22, 3) := by decide +kernel
theorem dX1_advance_5 : decode cX1_advance 5 = .ok (.putfield 35, 3) := by decide +kernel
theorem dX1_advance_8 : decode cX1_advance 8 = .ok (.aload_n 0, 1) := by decide +kernel
theorem dX1_advance_9 : decode cX1_advance 9 = .ok (.getfield 35, 3) := by decide +kernel
theorem dX1_advance_12 : decode cX1_advance 12 = .ok (.aload_n 0, 1) := by decide +kernel
theorem dX1_advance_13 : decode cX1_advance 13 = .ok (.getfield 15, 3) := by decide +kernel
theorem dX1_advance_16 : decode cX1_advance 16 = .ok (.if_icmp .ge 30, 3) := by decide +kernel
theorem dX1_advance_19 : decode cX1_advance 19 = .ok (.aload_n 0, 1) := by decide +kernel
theorem dX1_advance_20 : decode cX1_advance 20 = .ok (.getfield 9, 3) := by decide +kernel
theorem dX1_advance_23 : decode cX1_advance 23 = .ok (.aload_n 0, 1) := by decide +kernel
theorem dX1_advance_24 : decode cX1_advance 24 = .ok (.getfield 35, 3) := by decide +kernel
theorem dX1_advance_27 : decode cX1_advance 27 = .ok (.iaload, 1) := by decide +kernel
theorem dX1_advance_28 : decode cX1_advance 28 = .ok (.bipush 32, 2) := by decide +kernel
theorem dX1_advance_30 : decode cX1_advance 30 = .ok (.if_icmp .ne 16, 3) := by decide +kernel
theorem dX1_advance_33 : decode cX1_advance 33 = .ok (.aload_n 0, 1) := by decide +kernel
theorem dX1_advance_34 : decode cX1_advance 34 = .ok (.dup, 1) := by decide +kernel
theorem dX1_advance_35 : decode cX1_advance 35 = .ok (.getfield 35, 3) := by decide +kernel
theorem dX1_advance_38 : decode cX1_advance 38 = .ok (.iconst 1, 1) := by decide +kernel
theorem dX1_advance_39 : decode cX1_advance 39 = .ok (.iadd, 1) := by decide +kernel
theorem dX1_advance_40 : decode cX1_advance 40 = .ok (.putfield 35, 3) := by decide +kernel
theorem dX1_advance_43 : decode cX1_advance 43 = .ok (.goto (-35), 3) := by decide +kernel
theorem dX1_advance_46 : decode cX1_advance 46 = .ok (.aload_n 0, 1) := by decide +kernel
theorem dX1_advance_47 : decode cX1_advance 47 = .ok (.aload_n 0, 1) := by decide +kernel
theorem dX1_advance_48 : decode cX1_advance 48 = .ok (.getfield 35, 3) := by decide +kernel
theorem dX1_advance_51 : decode cX1_advance 51 = .ok (.putfield 22, 3) := by decide +kernel
theorem dX1_advance_54 : decode cX1_advance 54 = .ok (.aload_n 0, 1) := by decide +kernel
theorem dX1_advance_55 : decode cX1_advance 55 = .ok (.getfield 35, 3) := by decide +kernel
theorem dX1_advance_58 : decode cX1_advance 58 = .ok (.aload_n 0, 1) := by decide +kernel
theorem dX1_advance_59 : decode cX1_advance 59 = .ok (.getfield 15, 3) := by decide +kernel
theorem dX1_advance_62 : decode cX1_advance 62 = .ok (.if_icmp .ge 15, 3) := by decide +kernel
theorem dX1_advance_65 : decode cX1_advance 65 = .ok (.aload_n 0, 1) := by decide +kernel
theorem dX1_advance_66 : decode cX1_advance 66 = .ok (.getfield 9, 3) := by decide +kernel
theorem dX1_advance_69 : decode cX1_advance 69 = .ok (.aload_n 0, 1) := by decide +kernel
theorem dX1_advance_70 : decode cX1_advance 70 = .ok (.getfield 35, 3) := by decide +kernel
theorem dX1_advance_73 : decode cX1_advance 73 = .ok (.iaload, 1) := by decide +kernel
theorem dX1_advance_74 : decode cX1_advance 74 = .ok (.goto 4, 3) := by decide +kernel
theorem dX1_advance_77 : decode cX1_advance 77 = .ok (.iconst (-1), 1) := by decide +kernel
theorem dX1_advance_78 : decode cX1_advance 78 = .ok (.istore_n 1, 1) := by decide +kernel
theorem dX1_advance_79 : decode cX1_advance 79 = .ok (.iload_n 1, 1) := by decide +kernel
theorem dX1_advance_80 : decode cX1_advance 80 = .ok (.ifCond .ge 11, 3) := by decide +kernel
theorem dX1_advance_83 : decode cX1_advance 83 = .ok (.aload_n 0, 1) := by decide +kernel
theorem dX1_advance_84 : decode cX1_advance 84 = .ok (.iconst 0, 1) := by decide +kernel
theorem dX1_advance_85 : decode cX1_advance 85 = .ok (.putfield 32, 3) := by decide +kernel
theorem dX1_advance_88 : decode cX1_advance 88 = .ok (.goto 211, 3) := by decide +kernel
theorem dX1_advance_91 : decode cX1_advance 91 = .ok (.iload_n 1, 1) := by decide +kernel
theorem dX1_advance_92 : decode cX1_advance 92 = .ok (.bipush 97, 2) := by decide +kernel
theorem dX1_advance_94 : decode cX1_advance 94 = .ok (.if_icmp .lt 66, 3) := by decide +kernel
theorem dX1_advance_97 : decode cX1_advance 97 = .ok (.iload_n 1, 1) := by decide +kernel
theorem dX1_advance_98 : decode cX1_advance 98 = .ok (.bipush 122, 2) := by decide +kernel
theorem dX1_advance_100 : decode cX1_advance 100 = .ok (.if_icmp .gt 60, 3) := by decide +kernel
theorem dX1_advance_103 : decode cX1_advance 103 = .ok (.aload_n 0, 1) := by decide +kernel
theorem dX1_advance_104 : decode cX1_advance 104 = .ok (.iconst 1, 1) := by decide +kernel
theorem dX1_advance_105 : decode cX1_advance 105 = .ok (.putfield 32, 3) := by decide +kernel
theorem dX1_advance_108 : decode cX1_advance 108 = .ok (.aload_n 0, 1) := by decide +kernel
theorem dX1_advance_109 : decode cX1_advance 109 = .ok (.getfield 22, 3) := by decide +kernel
theorem dX1_advance_112 : decode cX1_advance 112 = .ok (.aload_n 0, 1) := by decide +kernel
theorem dX1_advance_113 : decode cX1_advance 113 = .ok (.getfield 15, 3) := by decide +kernel
theorem dX1_advance_116 : decode cX1_advance 116 = .ok (.if_icmp .ge 183, 3) := by decide +kernel
theorem dX1_advance_119 : decode cX1_advance 119 = .ok (.aload_n 0, 1) := by decide +kernel
theorem dX1_advance_120 : decode cX1_advance 120 = .ok (.getfield 9, 3) := by decide +kernel
theorem dX1_advance_123 : decode cX1_advance 123 = .ok (.aload_n 0, 1) := by decide +kernel
theorem dX1_advance_124 : decode cX1_advance 124 = .ok (.getfield 22, 3) := by decide +kernel
theorem dX1_advance_127 : decode cX1_advance 127 = .ok (.iaload, 1) := by decide +kernel
theorem dX1_advance_128 : decode cX1_advance 128 = .ok (.bipush 97, 2) := by decide +kernel
theorem dX1_advance_130 : decode cX1_advance 130 = .ok (.if_icmp .lt 169, 3) := by decide +kernel
theorem dX1_advance_133 : decode cX1_advance 133 = .ok (.aload_n 0, 1) := by decide +kernel
theorem dX1_advance_134 : decode cX1_advance 134 = .ok (.getfield 9, 3) := by decide +kernel
theorem dX1_advance_137 : decode cX1_advance 137 = .ok (.aload_n 0, 1) := by decide +kernel
theorem dX1_advance_138 : decode cX1_advance 138 = .ok (.getfield 22, 3) := by decide +kernel
theorem dX1_advance_141 : decode cX1_advance 141 = .ok (.iaload, 1) := by decide +kernel
theorem dX1_advance_142 : decode cX1_advance 142 = .ok (.bipush 122, 2) := by decide +kernel
theorem dX1_advance_144 : decode cX1_advance 144 = .ok (.if_icmp .gt 155, 3) := by decide +kernel
theorem dX1_advance_147 : decode cX1_advance 147 = .ok (.aload_n 0, 1) := by decide +kernel
theorem dX1_advance_148 : decode cX1_advance 148 = .ok (.dup, 1) := by decide +kernel
theorem dX1_advance_149 : decode cX1_advance 149 = .ok (.getfield 22, 3) := by decide +kernel
theorem dX1_advance_152 : decode cX1_advance 152 = .ok (.iconst 1, 1) := by decide +kernel
theorem dX1_advance_153 : decode cX1_advance 153 = .ok (.iadd, 1) := by decide +kernel
theorem dX1_advance_154 : decode cX1_advance 154 = .ok (.putfield 22, 3) := by decide +kernel
theorem dX1_advance_157 : decode cX1_advance 157 = .ok (.goto (-49), 3) := by decide +kernel
theorem dX1_advance_160 : decode cX1_advance 160 = .ok (.iload_n 1, 1) := by decide +kernel
theorem dX1_advance_161 : decode cX1_advance 161 = .ok (.bipush 48, 2) := by decide +kernel
theorem dX1_advance_163 : decode cX1_advance 163 = .ok (.if_icmp .lt 111, 3) := by decide +kernel
theorem dX1_advance_166 : decode cX1_advance 166 = .ok (.iload_n 1, 1) := by decide +kernel
theorem dX1_advance_167 : decode cX1_advance 167 = .ok (.bipush 57, 2) := by decide +kernel
theorem dX1_advance_169 : decode cX1_advance 169 = .ok (.if_icmp .gt 105, 3) := by decide +kernel
theorem dX1_advance_172 : decode cX1_advance 172 = .ok (.aload_n 0, 1) := by decide +kernel
theorem dX1_advance_173 : decode cX1_advance 173 = .ok (.iconst 2, 1) := by decide +kernel
theorem dX1_advance_174 : decode cX1_advance 174 = .ok (.putfield 32, 3) := by decide +kernel
theorem dX1_advance_177 : decode cX1_advance 177 = .ok (.aload_n 0, 1) := by decide +kernel
theorem dX1_advance_178 : decode cX1_advance 178 = .ok (.iconst 0, 1) := by decide +kernel
theorem dX1_advance_179 : decode cX1_advance 179 = .ok (.putfield 38, 3) := by decide +kernel
theorem dX1_advance_182 : decode cX1_advance 182 = .ok (.aload_n 0, 1) := by decide +kernel
theorem dX1_advance_183 : decode cX1_advance 183 = .ok (.getfield 22, 3) := by decide +kernel
theorem dX1_advance_186 : decode cX1_advance 186 = .ok (.aload_n 0, 1) := by decide +kernel
theorem dX1_advance_187 : decode cX1_advance 187 = .ok (.getfield 15, 3) := by decide +kernel
theorem dX1_advance_190 : decode cX1_advance 190 = .ok (.if_icmp .ge 109, 3) := by decide +kernel
theorem dX1_advance_193 : decode cX1_advance 193 = .ok (.aload_n 0, 1) := by decide +kernel
theorem dX1_advance_194 : decode cX1_advance 194 = .ok (.getfield 9, 3) := by decide +kernel
theorem dX1_advance_197 : decode cX1_advance 197 = .ok (.aload_n 0, 1) := by decide +kernel
theorem dX1_advance_198 : decode cX1_advance 198 = .ok (.getfield 22, 3) := by decide +kernel
theorem dX1_advance_201 : decode cX1_advance 201 = .ok (.iaload, 1) := by decide +kernel
theorem dX1_advance_202 : decode cX1_advance 202 = .ok (.bipush 48, 2) := by decide +kernel
theorem dX1_advance_204 : decode cX1_advance 204 = .ok (.if_icmp .lt 95, 3) := by decide +kernel
theorem dX1_advance_207 : decode cX1_advance 207 = .ok (.aload_n 0, 1) := by decide +kernel
theorem dX1_advance_208 : decode cX1_advance 208 = .ok (.getfield 9, 3) := by decide +kernel
theorem dX1_advance_211 : decode cX1_advance 211 = .ok (.aload_n 0, 1) := by decide +kernel
theorem dX1_advance_212 : decode cX1_advance 212 = .ok (.getfield 22, 3) := by decide +kernel
theorem dX1_advance_215 : decode cX1_advance 215 = .ok (.iaload, 1) := by decide +kernel
theorem dX1_advance_216 : decode cX1_advance 216 = .ok (.bipush 57, 2) := by decide +kernel
theorem dX1_advance_218 : decode cX1_advance 218 = .ok (.if_icmp .gt 81, 3) := by decide +kernel
theorem dX1_advance_221 : decode cX1_advance 221 = .ok (.aload_n 0, 1) := by decide +kernel
theorem dX1_advance_222 : decode cX1_advance 222 = .ok (.aload_n 0, 1) := by decide +kernel
theorem dX1_advance_223 : decode cX1_advance 223 = .ok (.getfield 38, 3) := by decide +kernel
theorem dX1_advance_226 : decode cX1_advance 226 = .ok (.sipush 1000, 3) := by decide +kernel
theorem dX1_advance_229 : decode cX1_advance 229 = .ok (.if_icmp .ge 26, 3) := by decide +kernel
theorem dX1_advance_232 : decode cX1_advance 232 = .ok (.aload_n 0, 1) := by decide +kernel
theorem dX1_advance_233 : decode cX1_advance 233 = .ok (.getfield 38, 3) := by decide +kernel
theorem dX1_advance_236 : decode cX1_advance 236 = .ok (.bipush 10, 2) := by decide +kernel
theorem dX1_advance_238 : decode cX1_advance 238 = .ok (.imul, 1) := by decide +kernel
theorem dX1_advance_239 : decode cX1_advance 239 = .ok (.aload_n 0, 1) := by decide +kernel
theorem dX1_advance_240 : decode cX1_advance 240 = .ok (.getfield 9, 3) := by decide +kernel
theorem dX1_advance_243 : decode cX1_advance 243 = .ok (.aload_n 0, 1) := by decide +kernel
theorem dX1_advance_244 : decode cX1_advance 244 = .ok (.getfield 22, 3) := by decide +kernel
theorem dX1_advance_247 : decode cX1_advance 247 = .ok (.iaload, 1) := by decide +kernel
theorem dX1_advance_248 : decode cX1_advance 248 = .ok (.iadd, 1) := by decide +kernel
theorem dX1_advance_249 : decode cX1_advance 249 = .ok (.bipush 48, 2) := by decide +kernel
theorem dX1_advance_251 : decode cX1_advance 251 = .ok (.isub, 1) := by decide +kernel
theorem dX1_advance_252 : decode cX1_advance 252 = .ok (.goto 6, 3) := by decide +kernel
theorem dX1_advance_255 : decode cX1_advance 255 = .ok (.sipush 1000, 3) := by decide +kernel
theorem dX1_advance_258 : decode cX1_advance 258 = .ok (.putfield 38, 3) := by decide +kernel
theorem dX1_advance_261 : decode cX1_advance 261 = .ok (.aload_n 0, 1) := by decide +kernel
theorem dX1_advance_262 : decode cX1_advance 262 = .ok (.dup, 1) := by decide +kernel
theorem dX1_advance_263 : decode cX1_advance 263 = .ok (.getfield 22, 3) := by decide +kernel
theorem dX1_advance_266 : decode cX1_advance 266 = .ok (.iconst 1, 1) := by decide +kernel
theorem dX1_advance_267 : decode cX1_advance 267 = .ok (.iadd, 1) := by decide +kernel
theorem dX1_advance_268 : decode cX1_advance 268 = .ok (.putfield 22, 3) := by decide +kernel
theorem dX1_advance_271 : decode cX1_advance 271 = .ok (.goto (-89), 3) := by decide +kernel
theorem dX1_advance_274 : decode cX1_advance 274 = .ok (.aload_n 0, 1) := by decide +kernel
theorem dX1_advance_275 : decode cX1_advance 275 = .ok (.iload_n 1, 1) := by decide +kernel
theorem dX1_advance_276 : decode cX1_advance 276 = .ok (.bipush 59, 2) := by decide +kernel
theorem dX1_advance_278 : decode cX1_advance 278 = .ok (.if_icmp .ne 7, 3) := by decide +kernel
theorem dX1_advance_281 : decode cX1_advance 281 = .ok (.iconst 3, 1) := by decide +kernel
theorem dX1_advance_282 : decode cX1_advance 282 = .ok (.goto 4, 3) := by decide +kernel
theorem dX1_advance_285 : decode cX1_advance 285 = .ok (.iconst 4, 1) := by decide +kernel
theorem dX1_advance_286 : decode cX1_advance 286 = .ok (.putfield 32, 3) := by decide +kernel
theorem dX1_advance_289 : decode cX1_advance 289 = .ok (.aload_n 0, 1) := by decide +kernel
theorem dX1_advance_290 : decode cX1_advance 290 = .ok (.dup, 1) := by decide +kernel
theorem dX1_advance_291 : decode cX1_advance 291 = .ok (.getfield 22, 3) := by decide +kernel
theorem dX1_advance_294 : decode cX1_advance 294 = .ok (.iconst 1, 1) := by decide +kernel
theorem dX1_advance_295 : decode cX1_advance 295 = .ok (.iadd, 1) := by decide +kernel
theorem dX1_advance_296 : decode cX1_advance 296 = .ok (.putfield 22, 3) := by decide +kernel
theorem dX1_advance_299 : decode cX1_advance 299 = .ok (.return_, 1) := by decide +kernel
theorem dX1_isWord_0 : decode cX1_isWord 0 = .ok (.aload_n 0, 1) := by decide +kernel
theorem dX1_isWord_1 : decode cX1_isWord 1 = .ok (.getfield 32, 3) := by decide +kernel
theorem dX1_isWord_4 : decode cX1_isWord 4 = .ok (.iconst 1, 1) := by decide +kernel
theorem dX1_isWord_5 : decode cX1_isWord 5 = .ok (.if_icmp .ne 19, 3) := by decide +kernel
theorem dX1_isWord_8 : decode cX1_isWord 8 = .ok (.aload_n 0, 1) := by decide +kernel
theorem dX1_isWord_9 : decode cX1_isWord 9 = .ok (.getfield 22, 3) := by decide +kernel
theorem dX1_isWord_12 : decode cX1_isWord 12 = .ok (.aload_n 0, 1) := by decide +kernel
theorem dX1_isWord_13 : decode cX1_isWord 13 = .ok (.getfield 35, 3) := by decide +kernel
theorem dX1_isWord_16 : decode cX1_isWord 16 = .ok (.isub, 1) := by decide +kernel
theorem dX1_isWord_17 : decode cX1_isWord 17 = .ok (.aload_n 1, 1) := by decide +kernel
theorem dX1_isWord_18 : decode cX1_isWord 18 = .ok (.invokevirtual 41, 3) := by decide +kernel
theorem dX1_isWord_21 : decode cX1_isWord 21 = .ok (.if_icmp .eq 5, 3) := by decide +kernel
theorem dX1_isWord_24 : decode cX1_isWord 24 = .ok (.iconst 0, 1) := by decide +kernel
theorem dX1_isWord_25 : decode cX1_isWord 25 = .ok (.ireturn, 1) := by decide +kernel
theorem dX1_isWord_26 : decode cX1_isWord 26 = .ok (.iconst 0, 1) := by decide +kernel
theorem dX1_isWord_27 : decode cX1_isWord 27 = .ok (.istore_n 2, 1) := by decide +kernel
theorem dX1_isWord_28 : decode cX1_isWord 28 = .ok (.iload_n 2, 1) := by decide +kernel
theorem dX1_isWord_29 : decode cX1_isWord 29 = .ok (.aload_n 1, 1) := by decide +kernel
theorem dX1_isWord_30 : decode cX1_isWord 30 = .ok (.invokevirtual 41, 3) := by decide +kernel
theorem dX1_isWord_33 : decode cX1_isWord 33 = .ok (.if_icmp .ge 30, 3) := by decide +kernel
theorem dX1_isWord_36 : decode cX1_isWord 36 = .ok (.aload_n 0, 1) := by decide +kernel
theorem dX1_isWord_37 : decode cX1_isWord 37 = .ok (.getfield 9, 3) := by decide +kernel
theorem dX1_isWord_40 : decode cX1_isWord 40 = .ok (.aload_n 0, 1) := by decide +kernel
theorem dX1_isWord_41 : decode cX1_isWord 41 = .ok (.getfield 35, 3) := by decide +kernel
theorem dX1_isWord_44 : decode cX1_isWord 44 = .ok (.iload_n 2, 1) := by decide +kernel
theorem dX1_isWord_45 : decode cX1_isWord 45 = .ok (.iadd, 1) := by decide +kernel
theorem dX1_isWord_46 : decode cX1_isWord 46 = .ok (.iaload, 1) := by decide +kernel
theorem dX1_isWord_47 : decode cX1_isWord 47 = .ok (.aload_n 1, 1) := by decide +kernel
theorem dX1_isWord_48 : decode cX1_isWord 48 = .ok (.iload_n 2, 1) := by decide +kernel
theorem dX1_isWord_49 : decode cX1_isWord 49 = .ok (.invokevirtual 47, 3) := by decide +kernel
theorem dX1_isWord_52 : decode cX1_isWord 52 = .ok (.if_icmp .eq 5, 3) := by decide +kernel
theorem dX1_isWord_55 : decode cX1_isWord 55 = .ok (.iconst 0, 1) := by decide +kernel
theorem dX1_isWord_56 : decode cX1_isWord 56 = .ok (.ireturn, 1) := by decide +kernel
theorem dX1_isWord_57 : decode cX1_isWord 57 = .ok (.iinc 2 1, 3) := by decide +kernel
theorem dX1_isWord_60 : decode cX1_isWord 60 = .ok (.goto (-32), 3) := by decide +kernel
theorem dX1_isWord_63 : decode cX1_isWord 63 = .ok (.iconst 1, 1) := by decide +kernel
theorem dX1_isWord_64 : decode cX1_isWord 64 = .ok (.ireturn, 1) := by decide +kernel
theorem dX1_readItem_0 : decode cX1_readItem 0 = .ok (.aload_n 0, 1) := by decide +kernel
theorem dX1_readItem_1 : decode cX1_readItem 1 = .ok (.invokevirtual 51, 3) := by decide +kernel
theorem dX1_readItem_4 : decode cX1_readItem 4 = .ok (.istore_n 2, 1) := by decide +kernel
theorem dX1_readItem_5 : decode cX1_readItem 5 = .ok (.iload_n 2, 1) := by decide +kernel
theorem dX1_readItem_6 : decode cX1_readItem 6 = .ok (.ifCond .lt 12, 3) := by decide +kernel
theorem dX1_readItem_9 : decode cX1_readItem 9 = .ok (.aload_n 0, 1) := by decide +kernel
theorem dX1_readItem_10 : decode cX1_readItem 10 = .ok (.aload_n 1, 1) := by decide +kernel
theorem dX1_readItem_11 : decode cX1_readItem 11 = .ok (.iload_n 2, 1) := by decide +kernel
theorem dX1_readItem_12 : decode cX1_readItem 12 = .ok (.invokevirtual 54, 3) := by decide +kernel
theorem dX1_readItem_15 : decode cX1_readItem 15 = .ok (.goto 79, 3) := by decide +kernel
theorem dX1_readItem_18 : decode cX1_readItem 18 = .ok (.aload_n 0, 1) := by decide +kernel
theorem dX1_readItem_19 : decode cX1_readItem 19 = .ok (.ldc 58, 2) := by decide +kernel
theorem dX1_readItem_21 : decode cX1_readItem 21 = .ok (.invokevirtual 60, 3) := by decide +kernel
theorem dX1_readItem_24 : decode cX1_readItem 24 = .ok (.ifCond .eq 11, 3) := by decide +kernel
theorem dX1_readItem_27 : decode cX1_readItem 27 = .ok (.aload_n 0, 1) := by decide +kernel
theorem dX1_readItem_28 : decode cX1_readItem 28 = .ok (.aload_n 1, 1) := by decide +kernel
theorem dX1_readItem_29 : decode cX1_readItem 29 = .ok (.invokevirtual 64, 3) := by decide +kernel
theorem dX1_readItem_32 : decode cX1_readItem 32 = .ok (.goto 62, 3) := by decide +kernel
theorem dX1_readItem_35 : decode cX1_readItem 35 = .ok (.aload_n 0, 1) := by decide +kernel
theorem dX1_readItem_36 : decode cX1_readItem 36 = .ok (.ldc 67, 2) := by decide +kernel
theorem dX1_readItem_38 : decode cX1_readItem 38 = .ok (.invokevirtual 60, 3) := by decide +kernel
theorem dX1_readItem_41 : decode cX1_readItem 41 = .ok (.ifCond .eq 11, 3) := by decide +kernel
theorem dX1_readItem_44 : decode cX1_readItem 44 = .ok (.aload_n 0, 1) := by decide +kernel
theorem dX1_readItem_45 : decode cX1_readItem 45 = .ok (.aload_n 1, 1) := by decide +kernel
theorem dX1_readItem_46 : decode cX1_readItem 46 = .ok (.invokevirtual 69, 3) := by decide +kernel
theorem dX1_readItem_49 : decode cX1_readItem 49 = .ok (.goto 45, 3) := by decide +kernel
theorem dX1_readItem_52 : decode cX1_readItem 52 = .ok (.aload_n 0, 1) := by decide +kernel
theorem dX1_readItem_53 : decode cX1_readItem 53 = .ok (.ldc 72, 2) := by decide +kernel
theorem dX1_readItem_55 : decode cX1_readItem 55 = .ok (.invokevirtual 60, 3) := by decide +kernel
theorem dX1_readItem_58 : decode cX1_readItem 58 = .ok (.ifCond .eq 11, 3) := by decide +kernel
theorem dX1_readItem_61 : decode cX1_readItem 61 = .ok (.aload_n 0, 1) := by decide +kernel
theorem dX1_readItem_62 : decode cX1_readItem 62 = .ok (.aload_n 1, 1) := by decide +kernel
theorem dX1_readItem_63 : decode cX1_readItem 63 = .ok (.invokevirtual 74, 3) := by decide +kernel
theorem dX1_readItem_66 : decode cX1_readItem 66 = .ok (.goto 28, 3) := by decide +kernel
theorem dX1_readItem_69 : decode cX1_readItem 69 = .ok (.aload_n 0, 1) := by decide +kernel
theorem dX1_readItem_70 : decode cX1_readItem 70 = .ok (.ldc 77, 2) := by decide +kernel
theorem dX1_readItem_72 : decode cX1_readItem 72 = .ok (.invokevirtual 60, 3) := by decide +kernel
theorem dX1_readItem_75 : decode cX1_readItem 75 = .ok (.ifCond .eq 11, 3) := by decide +kernel
theorem dX1_readItem_78 : decode cX1_readItem 78 = .ok (.aload_n 0, 1) := by decide +kernel
theorem dX1_readItem_79 : decode cX1_readItem 79 = .ok (.aload_n 1, 1) := by decide +kernel
theorem dX1_readItem_80 : decode cX1_readItem 80 = .ok (.invokevirtual 79, 3) := by decide +kernel
theorem dX1_readItem_83 : decode cX1_readItem 83 = .ok (.goto 11, 3) := by decide +kernel
theorem dX1_readItem_86 : decode cX1_readItem 86 = .ok (.aload_n 0, 1) := by decide +kernel
theorem dX1_readItem_87 : decode cX1_readItem 87 = .ok (.aload_n 0, 1) := by decide +kernel
theorem dX1_readItem_88 : decode cX1_readItem 88 = .ok (.getfield 35, 3) := by decide +kernel
theorem dX1_readItem_91 : decode cX1_readItem 91 = .ok (.putfield 19, 3) := by decide +kernel
theorem dX1_readItem_94 : decode cX1_readItem 94 = .ok (.return_, 1) := by decide +kernel
theorem dX1_kindOfWord_0 : decode cX1_kindOfWord 0 = .ok (.iconst 0, 1) := by decide +kernel
theorem dX1_kindOfWord_1 : decode cX1_kindOfWord 1 = .ok (.istore_n 1, 1) := by decide +kernel
theorem dX1_kindOfWord_2 : decode cX1_kindOfWord 2 = .ok (.iload_n 1, 1) := by decide +kernel
theorem dX1_kindOfWord_3 : decode cX1_kindOfWord 3 = .ok (.bipush 7, 2) := by decide +kernel
theorem dX1_kindOfWord_5 : decode cX1_kindOfWord 5 = .ok (.if_icmp .ge 22, 3) := by decide +kernel
theorem dX1_kindOfWord_8 : decode cX1_kindOfWord 8 = .ok (.aload_n 0, 1) := by decide +kernel
theorem dX1_kindOfWord_9 : decode cX1_kindOfWord 9 = .ok (.iload_n 1, 1) := by decide +kernel
theorem dX1_kindOfWord_10 : decode cX1_kindOfWord 10 = .ok (.invokestatic 82, 3) := by decide +kernel
theorem dX1_kindOfWord_13 : decode cX1_kindOfWord 13 = .ok (.invokevirtual 60, 3) := by decide +kernel
theorem dX1_kindOfWord_16 : decode cX1_kindOfWord 16 = .ok (.ifCond .eq 5, 3) := by decide +kernel
theorem dX1_kindOfWord_19 : decode cX1_kindOfWord 19 = .ok (.iload_n 1, 1) := by decide +kernel
theorem dX1_kindOfWord_20 : decode cX1_kindOfWord 20 = .ok (.ireturn, 1) := by decide +kernel
theorem dX1_kindOfWord_21 : decode cX1_kindOfWord 21 = .ok (.iinc 1 1, 3) := by decide +kernel
theorem dX1_kindOfWord_24 : decode cX1_kindOfWord 24 = .ok (.goto (-22), 3) := by decide +kernel
theorem dX1_kindOfWord_27 : decode cX1_kindOfWord 27 = .ok (.iconst (-1), 1) := by decide +kernel
theorem dX1_kindOfWord_28 : decode cX1_kindOfWord 28 = .ok (.ireturn, 1) := by decide +kernel
theorem dX1_wordOfKind_0 : decode cX1_wordOfKind 0 = .ok (.iload_n 0, 1) := by decide +kernel
theorem dX1_wordOfKind_1 : decode cX1_wordOfKind 1 = .ok (.tableswitch 57 1 6 #[39, 42, 45, 48, 51, 54], 39) := by decide +kernel
theorem dX1_wordOfKind_40 : decode cX1_wordOfKind 40 = .ok (.ldc 86, 2) := by decide +kernel
theorem dX1_wordOfKind_42 : decode cX1_wordOfKind 42 = .ok (.areturn, 1) := by decide +kernel
theorem dX1_wordOfKind_43 : decode cX1_wordOfKind 43 = .ok (.ldc 88, 2) := by decide +kernel
theorem dX1_wordOfKind_45 : decode cX1_wordOfKind 45 = .ok (.areturn, 1) := by decide +kernel
theorem dX1_wordOfKind_46 : decode cX1_wordOfKind 46 = .ok (.ldc 90, 2) := by decide +kernel
theorem dX1_wordOfKind_48 : decode cX1_wordOfKind 48 = .ok (.areturn, 1) := by decide +kernel
theorem dX1_wordOfKind_49 : decode cX1_wordOfKind 49 = .ok (.ldc 92, 2) := by decide +kernel
theorem dX1_wordOfKind_51 : decode cX1_wordOfKind 51 = .ok (.areturn, 1) := by decide +kernel
theorem dX1_wordOfKind_52 : decode cX1_wordOfKind 52 = .ok (.ldc 94, 2) := by decide +kernel
theorem dX1_wordOfKind_54 : decode cX1_wordOfKind 54 = .ok (.areturn, 1) := by decide +kernel
theorem dX1_wordOfKind_55 : decode cX1_wordOfKind 55 = .ok (.ldc 96, 2) := by decide +kernel
theorem dX1_wordOfKind_57 : decode cX1_wordOfKind 57 = .ok (.areturn, 1) := by decide +kernel
theorem dX1_wordOfKind_58 : decode cX1_wordOfKind 58 = .ok (.ldc 98, 2) := by decide +kernel
theorem dX1_wordOfKind_60 : decode cX1_wordOfKind 60 = .ok (.areturn, 1) := by decide +kernel
theorem dX1_readBell_0 : decode cX1_readBell 0 = .ok (.aload_n 1, 1) := by decide +kernel
theorem dX1_readBell_1 : decode cX1_readBell 1 = .ok (.getfield 100, 3) := by decide +kernel
theorem dX1_readBell_4 : decode cX1_readBell 4 = .ok (.bipush 8, 2) := by decide +kernel
theorem dX1_readBell_6 : decode cX1_readBell 6 = .ok (.if_icmp .lt 12, 3) := by decide +kernel
theorem dX1_readBell_9 : decode cX1_readBell 9 = .ok (.aload_n 0, 1) := by decide +kernel
theorem dX1_readBell_10 : decode cX1_readBell 10 = .ok (.aload_n 0, 1) := by decide +kernel
theorem dX1_readBell_11 : decode cX1_readBell 11 = .ok (.getfield 35, 3) := by decide +kernel
theorem dX1_readBell_14 : decode cX1_readBell 14 = .ok (.putfield 19, 3) := by decide +kernel
theorem dX1_readBell_17 : decode cX1_readBell 17 = .ok (.return_, 1) := by decide +kernel
theorem dX1_readBell_18 : decode cX1_readBell 18 = .ok (.aload_n 0, 1) := by decide +kernel
theorem dX1_readBell_19 : decode cX1_readBell 19 = .ok (.invokevirtual 25, 3) := by decide +kernel
theorem dX1_readBell_22 : decode cX1_readBell 22 = .ok (.aload_n 0, 1) := by decide +kernel
theorem dX1_readBell_23 : decode cX1_readBell 23 = .ok (.ldc 105, 2) := by decide +kernel
theorem dX1_readBell_25 : decode cX1_readBell 25 = .ok (.iconst 0, 1) := by decide +kernel
theorem dX1_readBell_26 : decode cX1_readBell 26 = .ok (.bipush 63, 2) := by decide +kernel
theorem dX1_readBell_28 : decode cX1_readBell 28 = .ok (.iconst 0, 1) := by decide +kernel
theorem dX1_readBell_29 : decode cX1_readBell 29 = .ok (.invokevirtual 107, 3) := by decide +kernel
theorem dX1_readBell_32 : decode cX1_readBell 32 = .ok (.istore_n 3, 1) := by decide +kernel
theorem dX1_readBell_33 : decode cX1_readBell 33 = .ok (.aload_n 0, 1) := by decide +kernel
theorem dX1_readBell_34 : decode cX1_readBell 34 = .ok (.ldc 111, 2) := by decide +kernel
theorem dX1_readBell_36 : decode cX1_readBell 36 = .ok (.iconst 0, 1) := by decide +kernel
theorem dX1_readBell_37 : decode cX1_readBell 37 = .ok (.bipush 11, 2) := by decide +kernel
theorem dX1_readBell_39 : decode cX1_readBell 39 = .ok (.iconst 0, 1) := by decide +kernel
theorem dX1_readBell_40 : decode cX1_readBell 40 = .ok (.invokevirtual 107, 3) := by decide +kernel
theorem dX1_readBell_43 : decode cX1_readBell 43 = .ok (.istore 4, 2) := by decide +kernel
theorem dX1_readBell_45 : decode cX1_readBell 45 = .ok (.aload_n 0, 1) := by decide +kernel
theorem dX1_readBell_46 : decode cX1_readBell 46 = .ok (.ldc 113, 2) := by decide +kernel
theorem dX1_readBell_48 : decode cX1_readBell 48 = .ok (.iconst 1, 1) := by decide +kernel
theorem dX1_readBell_49 : decode cX1_readBell 49 = .ok (.bipush 99, 2) := by decide +kernel
theorem dX1_readBell_51 : decode cX1_readBell 51 = .ok (.bipush 10, 2) := by decide +kernel
theorem dX1_readBell_53 : decode cX1_readBell 53 = .ok (.invokevirtual 107, 3) := by decide +kernel
theorem dX1_readBell_56 : decode cX1_readBell 56 = .ok (.istore 5, 2) := by decide +kernel
theorem dX1_readBell_58 : decode cX1_readBell 58 = .ok (.aload_n 0, 1) := by decide +kernel
theorem dX1_readBell_59 : decode cX1_readBell 59 = .ok (.getfield 19, 3) := by decide +kernel
theorem dX1_readBell_62 : decode cX1_readBell 62 = .ok (.ifCond .ge 29, 3) := by decide +kernel
theorem dX1_readBell_65 : decode cX1_readBell 65 = .ok (.aload_n 1, 1) := by decide +kernel
theorem dX1_readBell_66 : decode cX1_readBell 66 = .ok (.iload_n 2, 1) := by decide +kernel
theorem dX1_readBell_67 : decode cX1_readBell 67 = .ok (.iload_n 3, 1) := by decide +kernel
theorem dX1_readBell_68 : decode cX1_readBell 68 = .ok (.invokevirtual 115, 3) := by decide +kernel
theorem dX1_readBell_71 : decode cX1_readBell 71 = .ok (.istore 6, 2) := by decide +kernel
theorem dX1_readBell_73 : decode cX1_readBell 73 = .ok (.aload_n 1, 1) := by decide +kernel
theorem dX1_readBell_74 : decode cX1_readBell 74 = .ok (.getfield 119, 3) := by decide +kernel
theorem dX1_readBell_77 : decode cX1_readBell 77 = .ok (.iload 6, 2) := by decide +kernel
theorem dX1_readBell_79 : decode cX1_readBell 79 = .ok (.iload 4, 2) := by decide +kernel
theorem dX1_readBell_81 : decode cX1_readBell 81 = .ok (.iastore, 1) := by decide +kernel
theorem dX1_readBell_82 : decode cX1_readBell 82 = .ok (.aload_n 1, 1) := by decide +kernel
theorem dX1_readBell_83 : decode cX1_readBell 83 = .ok (.getfield 121, 3) := by decide +kernel
theorem dX1_readBell_86 : decode cX1_readBell 86 = .ok (.iload 6, 2) := by decide +kernel
theorem dX1_readBell_88 : decode cX1_readBell 88 = .ok (.iload 5, 2) := by decide +kernel
theorem dX1_readBell_90 : decode cX1_readBell 90 = .ok (.iastore, 1) := by decide +kernel
theorem dX1_readBell_91 : decode cX1_readBell 91 = .ok (.return_, 1) := by decide +kernel
theorem dX1_readNet_0 : decode cX1_readNet 0 = .ok (.aload_n 0, 1) := by decide +kernel
theorem dX1_readNet_1 : decode cX1_readNet 1 = .ok (.invokevirtual 25, 3) := by decide +kernel
theorem dX1_readNet_4 : decode cX1_readNet 4 = .ok (.aload_n 0, 1) := by decide +kernel
theorem dX1_readNet_5 : decode cX1_readNet 5 = .ok (.iconst 0, 1) := by decide +kernel
theorem dX1_readNet_6 : decode cX1_readNet 6 = .ok (.bipush 63, 2) := by decide +kernel
theorem dX1_readNet_8 : decode cX1_readNet 8 = .ok (.invokevirtual 123, 3) := by decide +kernel
theorem dX1_readNet_11 : decode cX1_readNet 11 = .ok (.istore_n 2, 1) := by decide +kernel
theorem dX1_readNet_12 : decode cX1_readNet 12 = .ok (.aload_n 0, 1) := by decide +kernel
theorem dX1_readNet_13 : decode cX1_readNet 13 = .ok (.getfield 19, 3) := by decide +kernel
theorem dX1_readNet_16 : decode cX1_readNet 16 = .ok (.ifCond .ge 9, 3) := by decide +kernel
theorem dX1_readNet_19 : decode cX1_readNet 19 = .ok (.aload_n 1, 1) := by decide +kernel
theorem dX1_readNet_20 : decode cX1_readNet 20 = .ok (.iload_n 2, 1) := by decide +kernel
theorem dX1_readNet_21 : decode cX1_readNet 21 = .ok (.iconst 1, 1) := by decide +kernel
theorem dX1_readNet_22 : decode cX1_readNet 22 = .ok (.invokevirtual 126, 3) := by decide +kernel
theorem dX1_readNet_25 : decode cX1_readNet 25 = .ok (.return_, 1) := by decide +kernel
theorem dX1_readThick_0 : decode cX1_readThick 0 = .ok (.aload_n 0, 1) := by decide +kernel
theorem dX1_readThick_1 : decode cX1_readThick 1 = .ok (.invokevirtual 25, 3) := by decide +kernel
theorem dX1_readThick_4 : decode cX1_readThick 4 = .ok (.aload_n 0, 1) := by decide +kernel
theorem dX1_readThick_5 : decode cX1_readThick 5 = .ok (.iconst 0, 1) := by decide +kernel
theorem dX1_readThick_6 : decode cX1_readThick 6 = .ok (.bipush 63, 2) := by decide +kernel
theorem dX1_readThick_8 : decode cX1_readThick 8 = .ok (.invokevirtual 123, 3) := by decide +kernel
theorem dX1_readThick_11 : decode cX1_readThick 11 = .ok (.istore_n 2, 1) := by decide +kernel
theorem dX1_readThick_12 : decode cX1_readThick 12 = .ok (.aload_n 0, 1) := by decide +kernel
theorem dX1_readThick_13 : decode cX1_readThick 13 = .ok (.iconst 0, 1) := by decide +kernel
theorem dX1_readThick_14 : decode cX1_readThick 14 = .ok (.bipush 9, 2) := by decide +kernel
theorem dX1_readThick_16 : decode cX1_readThick 16 = .ok (.invokevirtual 123, 3) := by decide +kernel
theorem dX1_readThick_19 : decode cX1_readThick 19 = .ok (.istore_n 3, 1) := by decide +kernel
theorem dX1_readThick_20 : decode cX1_readThick 20 = .ok (.aload_n 0, 1) := by decide +kernel
theorem dX1_readThick_21 : decode cX1_readThick 21 = .ok (.getfield 19, 3) := by decide +kernel
theorem dX1_readThick_24 : decode cX1_readThick 24 = .ok (.ifCond .ge 10, 3) := by decide +kernel
theorem dX1_readThick_27 : decode cX1_readThick 27 = .ok (.aload_n 1, 1) := by decide +kernel
theorem dX1_readThick_28 : decode cX1_readThick 28 = .ok (.getfield 130, 3) := by decide +kernel
theorem dX1_readThick_31 : decode cX1_readThick 31 = .ok (.iload_n 2, 1) := by decide +kernel
theorem dX1_readThick_32 : decode cX1_readThick 32 = .ok (.iload_n 3, 1) := by decide +kernel
theorem dX1_readThick_33 : decode cX1_readThick 33 = .ok (.iastore, 1) := by decide +kernel
theorem dX1_readThick_34 : decode cX1_readThick 34 = .ok (.return_, 1) := by decide +kernel
theorem dX1_readHunter_0 : decode cX1_readHunter 0 = .ok (.aload_n 0, 1) := by decide +kernel
theorem dX1_readHunter_1 : decode cX1_readHunter 1 = .ok (.invokevirtual 25, 3) := by decide +kernel
theorem dX1_readHunter_4 : decode cX1_readHunter 4 = .ok (.aload_n 0, 1) := by decide +kernel
theorem dX1_readHunter_5 : decode cX1_readHunter 5 = .ok (.iconst 0, 1) := by decide +kernel
theorem dX1_readHunter_6 : decode cX1_readHunter 6 = .ok (.iconst 3, 1) := by decide +kernel
theorem dX1_readHunter_7 : decode cX1_readHunter 7 = .ok (.invokevirtual 123, 3) := by decide +kernel
theorem dX1_readHunter_10 : decode cX1_readHunter 10 = .ok (.istore_n 2, 1) := by decide +kernel
theorem dX1_readHunter_11 : decode cX1_readHunter 11 = .ok (.aload_n 0, 1) := by decide +kernel
theorem dX1_readHunter_12 : decode cX1_readHunter 12 = .ok (.ldc 105, 2) := by decide +kernel
theorem dX1_readHunter_14 : decode cX1_readHunter 14 = .ok (.iconst 0, 1) := by decide +kernel
theorem dX1_readHunter_15 : decode cX1_readHunter 15 = .ok (.bipush 63, 2) := by decide +kernel
theorem dX1_readHunter_17 : decode cX1_readHunter 17 = .ok (.iconst (-1), 1) := by decide +kernel
theorem dX1_readHunter_18 : decode cX1_readHunter 18 = .ok (.invokevirtual 107, 3) := by decide +kernel
theorem dX1_readHunter_21 : decode cX1_readHunter 21 = .ok (.istore_n 3, 1) := by decide +kernel
theorem dX1_readHunter_22 : decode cX1_readHunter 22 = .ok (.aload_n 0, 1) := by decide +kernel
theorem dX1_readHunter_23 : decode cX1_readHunter 23 = .ok (.getfield 19, 3) := by decide +kernel
theorem dX1_readHunter_26 : decode cX1_readHunter 26 = .ok (.ifCond .ge 10, 3) := by decide +kernel
theorem dX1_readHunter_29 : decode cX1_readHunter 29 = .ok (.aload_n 1, 1) := by decide +kernel
theorem dX1_readHunter_30 : decode cX1_readHunter 30 = .ok (.getfield 133, 3) := by decide +kernel
theorem dX1_readHunter_33 : decode cX1_readHunter 33 = .ok (.iload_n 2, 1) := by decide +kernel
theorem dX1_readHunter_34 : decode cX1_readHunter 34 = .ok (.iload_n 3, 1) := by decide +kernel
theorem dX1_readHunter_35 : decode cX1_readHunter 35 = .ok (.iastore, 1) := by decide +kernel
theorem dX1_readHunter_36 : decode cX1_readHunter 36 = .ok (.return_, 1) := by decide +kernel
theorem dX1_readFear_0 : decode cX1_readFear 0 = .ok (.aload_n 0, 1) := by decide +kernel
theorem dX1_readFear_1 : decode cX1_readFear 1 = .ok (.invokevirtual 25, 3) := by decide +kernel
theorem dX1_readFear_4 : decode cX1_readFear 4 = .ok (.aload_n 0, 1) := by decide +kernel
theorem dX1_readFear_5 : decode cX1_readFear 5 = .ok (.iconst 0, 1) := by decide +kernel
theorem dX1_readFear_6 : decode cX1_readFear 6 = .ok (.bipush 9, 2) := by decide +kernel
theorem dX1_readFear_8 : decode cX1_readFear 8 = .ok (.invokevirtual 123, 3) := by decide +kernel
theorem dX1_readFear_11 : decode cX1_readFear 11 = .ok (.istore_n 2, 1) := by decide +kernel
theorem dX1_readFear_12 : decode cX1_readFear 12 = .ok (.aload_n 0, 1) := by decide +kernel
theorem dX1_readFear_13 : decode cX1_readFear 13 = .ok (.getfield 19, 3) := by decide +kernel
theorem dX1_readFear_16 : decode cX1_readFear 16 = .ok (.ifCond .ge 8, 3) := by decide +kernel
theorem dX1_readFear_19 : decode cX1_readFear 19 = .ok (.aload_n 1, 1) := by decide +kernel
theorem dX1_readFear_20 : decode cX1_readFear 20 = .ok (.iload_n 2, 1) := by decide +kernel
theorem dX1_readFear_21 : decode cX1_readFear 21 = .ok (.putfield 136, 3) := by decide +kernel
theorem dX1_readFear_24 : decode cX1_readFear 24 = .ok (.return_, 1) := by decide +kernel
theorem dX1_takeNumber_0 : decode cX1_takeNumber 0 = .ok (.aload_n 0, 1) := by decide +kernel
theorem dX1_takeNumber_1 : decode cX1_takeNumber 1 = .ok (.getfield 19, 3) := by decide +kernel
theorem dX1_takeNumber_4 : decode cX1_takeNumber 4 = .ok (.ifCond .lt 5, 3) := by decide +kernel
theorem dX1_takeNumber_7 : decode cX1_takeNumber 7 = .ok (.iconst (-1), 1) := by decide +kernel
theorem dX1_takeNumber_8 : decode cX1_takeNumber 8 = .ok (.ireturn, 1) := by decide +kernel
theorem dX1_takeNumber_9 : decode cX1_takeNumber 9 = .ok (.aload_n 0, 1) := by decide +kernel
theorem dX1_takeNumber_10 : decode cX1_takeNumber 10 = .ok (.getfield 32, 3) := by decide +kernel
theorem dX1_takeNumber_13 : decode cX1_takeNumber 13 = .ok (.iconst 2, 1) := by decide +kernel
theorem dX1_takeNumber_14 : decode cX1_takeNumber 14 = .ok (.if_icmp .ne 19, 3) := by decide +kernel
theorem dX1_takeNumber_17 : decode cX1_takeNumber 17 = .ok (.aload_n 0, 1) := by decide +kernel
theorem dX1_takeNumber_18 : decode cX1_takeNumber 18 = .ok (.getfield 38, 3) := by decide +kernel
theorem dX1_takeNumber_21 : decode cX1_takeNumber 21 = .ok (.iload_n 1, 1) := by decide +kernel
theorem dX1_takeNumber_22 : decode cX1_takeNumber 22 = .ok (.if_icmp .lt 11, 3) := by decide +kernel
theorem dX1_takeNumber_25 : decode cX1_takeNumber 25 = .ok (.aload_n 0, 1) := by decide +kernel
theorem dX1_takeNumber_26 : decode cX1_takeNumber 26 = .ok (.getfield 38, 3) := by decide +kernel
theorem dX1_takeNumber_29 : decode cX1_takeNumber 29 = .ok (.iload_n 2, 1) := by decide +kernel
theorem dX1_takeNumber_30 : decode cX1_takeNumber 30 = .ok (.if_icmp .le 13, 3) := by decide +kernel
theorem dX1_takeNumber_33 : decode cX1_takeNumber 33 = .ok (.aload_n 0, 1) := by decide +kernel
theorem dX1_takeNumber_34 : decode cX1_takeNumber 34 = .ok (.aload_n 0, 1) := by decide +kernel
theorem dX1_takeNumber_35 : decode cX1_takeNumber 35 = .ok (.getfield 35, 3) := by decide +kernel
theorem dX1_takeNumber_38 : decode cX1_takeNumber 38 = .ok (.putfield 19, 3) := by decide +kernel
theorem dX1_takeNumber_41 : decode cX1_takeNumber 41 = .ok (.iconst (-1), 1) := by decide +kernel
theorem dX1_takeNumber_42 : decode cX1_takeNumber 42 = .ok (.ireturn, 1) := by decide +kernel
theorem dX1_takeNumber_43 : decode cX1_takeNumber 43 = .ok (.aload_n 0, 1) := by decide +kernel
theorem dX1_takeNumber_44 : decode cX1_takeNumber 44 = .ok (.getfield 38, 3) := by decide +kernel
theorem dX1_takeNumber_47 : decode cX1_takeNumber 47 = .ok (.istore_n 3, 1) := by decide +kernel
theorem dX1_takeNumber_48 : decode cX1_takeNumber 48 = .ok (.aload_n 0, 1) := by decide +kernel
theorem dX1_takeNumber_49 : decode cX1_takeNumber 49 = .ok (.invokevirtual 25, 3) := by decide +kernel
theorem dX1_takeNumber_52 : decode cX1_takeNumber 52 = .ok (.iload_n 3, 1) := by decide +kernel
theorem dX1_takeNumber_53 : decode cX1_takeNumber 53 = .ok (.ireturn, 1) := by decide +kernel
theorem dX1_takePerhaps_0 : decode cX1_takePerhaps 0 = .ok (.aload_n 0, 1) := by decide +kernel
theorem dX1_takePerhaps_1 : decode cX1_takePerhaps 1 = .ok (.getfield 19, 3) := by decide +kernel
theorem dX1_takePerhaps_4 : decode cX1_takePerhaps 4 = .ok (.ifCond .ge 11, 3) := by decide +kernel
theorem dX1_takePerhaps_7 : decode cX1_takePerhaps 7 = .ok (.aload_n 0, 1) := by decide +kernel
theorem dX1_takePerhaps_8 : decode cX1_takePerhaps 8 = .ok (.aload_n 1, 1) := by decide +kernel
theorem dX1_takePerhaps_9 : decode cX1_takePerhaps 9 = .ok (.invokevirtual 60, 3) := by decide +kernel
theorem dX1_takePerhaps_12 : decode cX1_takePerhaps 12 = .ok (.ifCond .ne 6, 3) := by decide +kernel
theorem dX1_takePerhaps_15 : decode cX1_takePerhaps 15 = .ok (.iload 4, 2) := by decide +kernel
theorem dX1_takePerhaps_17 : decode cX1_takePerhaps 17 = .ok (.ireturn, 1) := by decide +kernel
theorem dX1_takePerhaps_18 : decode cX1_takePerhaps 18 = .ok (.aload_n 0, 1) := by decide +kernel
theorem dX1_takePerhaps_19 : decode cX1_takePerhaps 19 = .ok (.invokevirtual 25, 3) := by decide +kernel
theorem dX1_takePerhaps_22 : decode cX1_takePerhaps 22 = .ok (.aload_n 0, 1) := by decide +kernel
theorem dX1_takePerhaps_23 : decode cX1_takePerhaps 23 = .ok (.iload_n 2, 1) := by decide +kernel
theorem dX1_takePerhaps_24 : decode cX1_takePerhaps 24 = .ok (.iload_n 3, 1) := by decide +kernel
theorem dX1_takePerhaps_25 : decode cX1_takePerhaps 25 = .ok (.invokevirtual 123, 3) := by decide +kernel
theorem dX1_takePerhaps_28 : decode cX1_takePerhaps 28 = .ok (.ireturn, 1) := by decide +kernel
theorem dX2_init_0 : decode cX2_init 0 = .ok (.aload_n 0, 1) := by decide +kernel
theorem dX2_init_1 : decode cX2_init 1 = .ok (.invokespecial 3, 3) := by decide +kernel
theorem dX2_init_4 : decode cX2_init 4 = .ok (.aload_n 0, 1) := by decide +kernel
theorem dX2_init_5 : decode cX2_init 5 = .ok (.bipush 64, 2) := by decide +kernel
theorem dX2_init_7 : decode cX2_init 7 = .ok (.newarray .int, 2) := by decide +kernel
theorem dX2_init_9 : decode cX2_init 9 = .ok (.putfield 9, 3) := by decide +kernel
theorem dX2_init_12 : decode cX2_init 12 = .ok (.aload_n 0, 1) := by decide +kernel
theorem dX2_init_13 : decode cX2_init 13 = .ok (.iconst 4, 1) := by decide +kernel
theorem dX2_init_14 : decode cX2_init 14 = .ok (.newarray .int, 2) := by decide +kernel
theorem dX2_init_16 : decode cX2_init 16 = .ok (.putfield 15, 3) := by decide +kernel
theorem dX2_init_19 : decode cX2_init 19 = .ok (.aload_n 0, 1) := by decide +kernel
theorem dX2_init_20 : decode cX2_init 20 = .ok (.bipush 8, 2) := by decide +kernel
theorem dX2_init_22 : decode cX2_init 22 = .ok (.newarray .int, 2) := by decide +kernel
theorem dX2_init_24 : decode cX2_init 24 = .ok (.putfield 18, 3) := by decide +kernel
theorem dX2_init_27 : decode cX2_init 27 = .ok (.aload_n 0, 1) := by decide +kernel
theorem dX2_init_28 : decode cX2_init 28 = .ok (.bipush 8, 2) := by decide +kernel
theorem dX2_init_30 : decode cX2_init 30 = .ok (.newarray .int, 2) := by decide +kernel
theorem dX2_init_32 : decode cX2_init 32 = .ok (.putfield 21, 3) := by decide +kernel
theorem dX2_init_35 : decode cX2_init 35 = .ok (.aload_n 0, 1) := by decide +kernel
theorem dX2_init_36 : decode cX2_init 36 = .ok (.bipush 8, 2) := by decide +kernel
theorem dX2_init_38 : decode cX2_init 38 = .ok (.newarray .int, 2) := by decide +kernel
theorem dX2_init_40 : decode cX2_init 40 = .ok (.putfield 24, 3) := by decide +kernel
theorem dX2_init_43 : decode cX2_init 43 = .ok (.aload_n 0, 1) := by decide +kernel
theorem dX2_init_44 : decode cX2_init 44 = .ok (.bipush 8, 2) := by decide +kernel
theorem dX2_init_46 : decode cX2_init 46 = .ok (.newarray .int, 2) := by decide +kernel
theorem dX2_init_48 : decode cX2_init 48 = .ok (.putfield 27, 3) := by decide +kernel
theorem dX2_init_51 : decode cX2_init 51 = .ok (.aload_n 0, 1) := by decide +kernel
theorem dX2_init_52 : decode cX2_init 52 = .ok (.bipush 10, 2) := by decide +kernel
theorem dX2_init_54 : decode cX2_init 54 = .ok (.newarray .int, 2) := by decide +kernel
theorem dX2_init_56 : decode cX2_init 56 = .ok (.putfield 30, 3) := by decide +kernel
theorem dX2_init_59 : decode cX2_init 59 = .ok (.aload_n 0, 1) := by decide +kernel
theorem dX2_init_60 : decode cX2_init 60 = .ok (.iconst 3, 1) := by decide +kernel
theorem dX2_init_61 : decode cX2_init 61 = .ok (.putfield 33, 3) := by decide +kernel
theorem dX2_init_64 : decode cX2_init 64 = .ok (.aload_n 0, 1) := by decide +kernel
theorem dX2_init_65 : decode cX2_init 65 = .ok (.iconst 1, 1) := by decide +kernel
theorem dX2_init_66 : decode cX2_init 66 = .ok (.putfield 37, 3) := by decide +kernel
theorem dX2_init_69 : decode cX2_init 69 = .ok (.iconst 0, 1) := by decide +kernel
theorem dX2_init_70 : decode cX2_init 70 = .ok (.istore_n 1, 1) := by decide +kernel
theorem dX2_init_71 : decode cX2_init 71 = .ok (.iload_n 1, 1) := by decide +kernel
theorem dX2_init_72 : decode cX2_init 72 = .ok (.iconst 4, 1) := by decide +kernel
theorem dX2_init_73 : decode cX2_init 73 = .ok (.if_icmp .ge 16, 3) := by decide +kernel
theorem dX2_init_76 : decode cX2_init 76 = .ok (.aload_n 0, 1) := by decide +kernel
theorem dX2_init_77 : decode cX2_init 77 = .ok (.getfield 15, 3) := by decide +kernel
theorem dX2_init_80 : decode cX2_init 80 = .ok (.iload_n 1, 1) := by decide +kernel
theorem dX2_init_81 : decode cX2_init 81 = .ok (.iconst (-1), 1) := by decide +kernel
theorem dX2_init_82 : decode cX2_init 82 = .ok (.iastore, 1) := by decide +kernel
theorem dX2_init_83 : decode cX2_init 83 = .ok (.iinc 1 1, 3) := by decide +kernel
theorem dX2_init_86 : decode cX2_init 86 = .ok (.goto (-15), 3) := by decide +kernel
theorem dX2_init_89 : decode cX2_init 89 = .ok (.iconst 0, 1) := by decide +kernel
theorem dX2_init_90 : decode cX2_init 90 = .ok (.istore_n 1, 1) := by decide +kernel
theorem dX2_init_91 : decode cX2_init 91 = .ok (.iload_n 1, 1) := by decide +kernel
theorem dX2_init_92 : decode cX2_init 92 = .ok (.bipush 10, 2) := by decide +kernel
theorem dX2_init_94 : decode cX2_init 94 = .ok (.if_icmp .ge 16, 3) := by decide +kernel
theorem dX2_init_97 : decode cX2_init 97 = .ok (.aload_n 0, 1) := by decide +kernel
theorem dX2_init_98 : decode cX2_init 98 = .ok (.getfield 30, 3) := by decide +kernel
theorem dX2_init_101 : decode cX2_init 101 = .ok (.iload_n 1, 1) := by decide +kernel
theorem dX2_init_102 : decode cX2_init 102 = .ok (.iconst (-1), 1) := by decide +kernel
theorem dX2_init_103 : decode cX2_init 103 = .ok (.iastore, 1) := by decide +kernel
theorem dX2_init_104 : decode cX2_init 104 = .ok (.iinc 1 1, 3) := by decide +kernel
theorem dX2_init_107 : decode cX2_init 107 = .ok (.goto (-16), 3) := by decide +kernel
theorem dX2_init_110 : decode cX2_init 110 = .ok (.return_, 1) := by decide +kernel
theorem dX2_becomes_0 : decode cX2_becomes 0 = .ok (.aload_n 0, 1) := by decide +kernel
theorem dX2_becomes_1 : decode cX2_becomes 1 = .ok (.aload_n 1, 1) := by decide +kernel
theorem dX2_becomes_2 : decode cX2_becomes 2 = .ok (.getfield 40, 3) := by decide +kernel
theorem dX2_becomes_5 : decode cX2_becomes 5 = .ok (.putfield 40, 3) := by decide +kernel
theorem dX2_becomes_8 : decode cX2_becomes 8 = .ok (.aload_n 0, 1) := by decide +kernel
theorem dX2_becomes_9 : decode cX2_becomes 9 = .ok (.aload_n 1, 1) := by decide +kernel
theorem dX2_becomes_10 : decode cX2_becomes 10 = .ok (.getfield 43, 3) := by decide +kernel
theorem dX2_becomes_13 : decode cX2_becomes 13 = .ok (.putfield 43, 3) := by decide +kernel
theorem dX2_becomes_16 : decode cX2_becomes 16 = .ok (.aload_n 0, 1) := by decide +kernel
theorem dX2_becomes_17 : decode cX2_becomes 17 = .ok (.aload_n 1, 1) := by decide +kernel
theorem dX2_becomes_18 : decode cX2_becomes 18 = .ok (.getfield 33, 3) := by decide +kernel
theorem dX2_becomes_21 : decode cX2_becomes 21 = .ok (.putfield 33, 3) := by decide +kernel
theorem dX2_becomes_24 : decode cX2_becomes 24 = .ok (.aload_n 0, 1) := by decide +kernel
theorem dX2_becomes_25 : decode cX2_becomes 25 = .ok (.aload_n 1, 1) := by decide +kernel
theorem dX2_becomes_26 : decode cX2_becomes 26 = .ok (.getfield 47, 3) := by decide +kernel
theorem dX2_becomes_29 : decode cX2_becomes 29 = .ok (.putfield 47, 3) := by decide +kernel
theorem dX2_becomes_32 : decode cX2_becomes 32 = .ok (.aload_n 0, 1) := by decide +kernel
theorem dX2_becomes_33 : decode cX2_becomes 33 = .ok (.aload_n 1, 1) := by decide +kernel
theorem dX2_becomes_34 : decode cX2_becomes 34 = .ok (.getfield 50, 3) := by decide +kernel
theorem dX2_becomes_37 : decode cX2_becomes 37 = .ok (.putfield 50, 3) := by decide +kernel
theorem dX2_becomes_40 : decode cX2_becomes 40 = .ok (.aload_n 0, 1) := by decide +kernel
theorem dX2_becomes_41 : decode cX2_becomes 41 = .ok (.aload_n 1, 1) := by decide +kernel
theorem dX2_becomes_42 : decode cX2_becomes 42 = .ok (.getfield 37, 3) := by decide +kernel
theorem dX2_becomes_45 : decode cX2_becomes 45 = .ok (.putfield 37, 3) := by decide +kernel
theorem dX2_becomes_48 : decode cX2_becomes 48 = .ok (.aload_n 0, 1) := by decide +kernel
theorem dX2_becomes_49 : decode cX2_becomes 49 = .ok (.lconst 0, 1) := by decide +kernel
theorem dX2_becomes_50 : decode cX2_becomes 50 = .ok (.putfield 53, 3) := by decide +kernel
theorem dX2_becomes_53 : decode cX2_becomes 53 = .ok (.aload_n 1, 1) := by decide +kernel
theorem dX2_becomes_54 : decode cX2_becomes 54 = .ok (.getfield 9, 3) := by decide +kernel
theorem dX2_becomes_57 : decode cX2_becomes 57 = .ok (.iconst 0, 1) := by decide +kernel
theorem dX2_becomes_58 : decode cX2_becomes 58 = .ok (.aload_n 0, 1) := by decide +kernel
theorem dX2_becomes_59 : decode cX2_becomes 59 = .ok (.getfield 9, 3) := by decide +kernel
theorem dX2_becomes_62 : decode cX2_becomes 62 = .ok (.iconst 0, 1) := by decide +kernel
theorem dX2_becomes_63 : decode cX2_becomes 63 = .ok (.bipush 64, 2) := by decide +kernel
theorem dX2_becomes_65 : decode cX2_becomes 65 = .ok (.invokestatic 56, 3) := by decide +kernel
theorem dX2_becomes_68 : decode cX2_becomes 68 = .ok (.aload_n 1, 1) := by decide +kernel
theorem dX2_becomes_69 : decode cX2_becomes 69 = .ok (.getfield 15, 3) := by decide +kernel
theorem dX2_becomes_72 : decode cX2_becomes 72 = .ok (.iconst 0, 1) := by decide +kernel
theorem dX2_becomes_73 : decode cX2_becomes 73 = .ok (.aload_n 0, 1) := by decide +kernel
theorem dX2_becomes_74 : decode cX2_becomes 74 = .ok (.getfield 15, 3) := by decide +kernel
theorem dX2_becomes_77 : decode cX2_becomes 77 = .ok (.iconst 0, 1) := by decide +kernel
theorem dX2_becomes_78 : decode cX2_becomes 78 = .ok (.iconst 4, 1) := by decide +kernel
theorem dX2_becomes_79 : decode cX2_becomes 79 = .ok (.invokestatic 56, 3) := by decide +kernel
theorem dX2_becomes_82 : decode cX2_becomes 82 = .ok (.aload_n 1, 1) := by decide +kernel
theorem dX2_becomes_83 : decode cX2_becomes 83 = .ok (.getfield 18, 3) := by decide +kernel
theorem dX2_becomes_86 : decode cX2_becomes 86 = .ok (.iconst 0, 1) := by decide +kernel
theorem dX2_becomes_87 : decode cX2_becomes 87 = .ok (.aload_n 0, 1) := by decide +kernel
theorem dX2_becomes_88 : decode cX2_becomes 88 = .ok (.getfield 18, 3) := by decide +kernel
theorem dX2_becomes_91 : decode cX2_becomes 91 = .ok (.iconst 0, 1) := by decide +kernel
theorem dX2_becomes_92 : decode cX2_becomes 92 = .ok (.bipush 8, 2) := by decide +kernel
theorem dX2_becomes_94 : decode cX2_becomes 94 = .ok (.invokestatic 56, 3) := by decide +kernel
theorem dX2_becomes_97 : decode cX2_becomes 97 = .ok (.aload_n 1, 1) := by decide +kernel
theorem dX2_becomes_98 : decode cX2_becomes 98 = .ok (.getfield 21, 3) := by decide +kernel
theorem dX2_becomes_101 : decode cX2_becomes 101 = .ok (.iconst 0, 1) := by decide +kernel
theorem dX2_becomes_102 : decode cX2_becomes 102 = .ok (.aload_n 0, 1) := by decide +kernel
theorem dX2_becomes_103 : decode cX2_becomes 103 = .ok (.getfield 21, 3) := by decide +kernel
theorem dX2_becomes_106 : decode cX2_becomes 106 = .ok (.iconst 0, 1) := by decide +kernel
theorem dX2_becomes_107 : decode cX2_becomes 107 = .ok (.bipush 8, 2) := by decide +kernel
theorem dX2_becomes_109 : decode cX2_becomes 109 = .ok (.invokestatic 56, 3) := by decide +kernel
theorem dX2_becomes_112 : decode cX2_becomes 112 = .ok (.aload_n 1, 1) := by decide +kernel
theorem dX2_becomes_113 : decode cX2_becomes 113 = .ok (.getfield 24, 3) := by decide +kernel
theorem dX2_becomes_116 : decode cX2_becomes 116 = .ok (.iconst 0, 1) := by decide +kernel
theorem dX2_becomes_117 : decode cX2_becomes 117 = .ok (.aload_n 0, 1) := by decide +kernel
theorem dX2_becomes_118 : decode cX2_becomes 118 = .ok (.getfield 24, 3) := by decide +kernel
theorem dX2_becomes_121 : decode cX2_becomes 121 = .ok (.iconst 0, 1) := by decide +kernel
theorem dX2_becomes_122 : decode cX2_becomes 122 = .ok (.bipush 8, 2) := by decide +kernel
theorem dX2_becomes_124 : decode cX2_becomes 124 = .ok (.invokestatic 56, 3) := by decide +kernel
theorem dX2_becomes_127 : decode cX2_becomes 127 = .ok (.aload_n 1, 1) := by decide +kernel
theorem dX2_becomes_128 : decode cX2_becomes 128 = .ok (.getfield 27, 3) := by decide +kernel
theorem dX2_becomes_131 : decode cX2_becomes 131 = .ok (.iconst 0, 1) := by decide +kernel
theorem dX2_becomes_132 : decode cX2_becomes 132 = .ok (.aload_n 0, 1) := by decide +kernel
theorem dX2_becomes_133 : decode cX2_becomes 133 = .ok (.getfield 27, 3) := by decide +kernel
theorem dX2_becomes_136 : decode cX2_becomes 136 = .ok (.iconst 0, 1) := by decide +kernel
theorem dX2_becomes_137 : decode cX2_becomes 137 = .ok (.bipush 8, 2) := by decide +kernel
theorem dX2_becomes_139 : decode cX2_becomes 139 = .ok (.invokestatic 56, 3) := by decide +kernel
theorem dX2_becomes_142 : decode cX2_becomes 142 = .ok (.aload_n 1, 1) := by decide +kernel
theorem dX2_becomes_143 : decode cX2_becomes 143 = .ok (.getfield 30, 3) := by decide +kernel
theorem dX2_becomes_146 : decode cX2_becomes 146 = .ok (.iconst 0, 1) := by decide +kernel
theorem dX2_becomes_147 : decode cX2_becomes 147 = .ok (.aload_n 0, 1) := by decide +kernel
theorem dX2_becomes_148 : decode cX2_becomes 148 = .ok (.getfield 30, 3) := by decide +kernel
theorem dX2_becomes_151 : decode cX2_becomes 151 = .ok (.iconst 0, 1) := by decide +kernel
theorem dX2_becomes_152 : decode cX2_becomes 152 = .ok (.bipush 10, 2) := by decide +kernel
theorem dX2_becomes_154 : decode cX2_becomes 154 = .ok (.invokestatic 56, 3) := by decide +kernel
theorem dX2_becomes_157 : decode cX2_becomes 157 = .ok (.return_, 1) := by decide +kernel
theorem dX2_hasNet_0 : decode cX2_hasNet 0 = .ok (.aload_n 0, 1) := by decide +kernel
theorem dX2_hasNet_1 : decode cX2_hasNet 1 = .ok (.getfield 43, 3) := by decide +kernel
theorem dX2_hasNet_4 : decode cX2_hasNet 4 = .ok (.iload_n 1, 1) := by decide +kernel
theorem dX2_hasNet_5 : decode cX2_hasNet 5 = .ok (.invokestatic 62, 3) := by decide +kernel
theorem dX2_hasNet_8 : decode cX2_hasNet 8 = .ok (.ireturn, 1) := by decide +kernel
theorem dX2_setNet_0 : decode cX2_setNet 0 = .ok (.aload_n 0, 1) := by decide +kernel
theorem dX2_setNet_1 : decode cX2_setNet 1 = .ok (.iload_n 2, 1) := by decide +kernel
theorem dX2_setNet_2 : decode cX2_setNet 2 = .ok (.ifCond .eq 14, 3) := by decide +kernel
theorem dX2_setNet_5 : decode cX2_setNet 5 = .ok (.aload_n 0, 1) := by decide +kernel
theorem dX2_setNet_6 : decode cX2_setNet 6 = .ok (.getfield 43, 3) := by decide +kernel
theorem dX2_setNet_9 : decode cX2_setNet 9 = .ok (.lconst 1, 1) := by decide +kernel
theorem dX2_setNet_10 : decode cX2_setNet 10 = .ok (.iload_n 1, 1) := by decide +kernel
theorem dX2_setNet_11 : decode cX2_setNet 11 = .ok (.lshl, 1) := by decide +kernel
theorem dX2_setNet_12 : decode cX2_setNet 12 = .ok (.lor, 1) := by decide +kernel
theorem dX2_setNet_13 : decode cX2_setNet 13 = .ok (.goto 15, 3) := by decide +kernel
theorem dX2_setNet_16 : decode cX2_setNet 16 = .ok (.aload_n 0, 1) := by decide +kernel
theorem dX2_setNet_17 : decode cX2_setNet 17 = .ok (.getfield 43, 3) := by decide +kernel
theorem dX2_setNet_20 : decode cX2_setNet 20 = .ok (.lconst 1, 1) := by decide +kernel
theorem dX2_setNet_21 : decode cX2_setNet 21 = .ok (.iload_n 1, 1) := by decide +kernel
theorem dX2_setNet_22 : decode cX2_setNet 22 = .ok (.lshl, 1) := by decide +kernel
theorem dX2_setNet_23 : decode cX2_setNet 23 = .ok (.ldc2_w 66, 3) := by decide +kernel
theorem dX2_setNet_26 : decode cX2_setNet 26 = .ok (.lxor, 1) := by decide +kernel
theorem dX2_setNet_27 : decode cX2_setNet 27 = .ok (.land, 1) := by decide +kernel
theorem dX2_setNet_28 : decode cX2_setNet 28 = .ok (.putfield 43, 3) := by decide +kernel
theorem dX2_setNet_31 : decode cX2_setNet 31 = .ok (.return_, 1) := by decide +kernel
theorem dX2_addBell_0 : decode cX2_addBell 0 = .ok (.aload_n 0, 1) := by decide +kernel
theorem dX2_addBell_1 : decode cX2_addBell 1 = .ok (.getfield 47, 3) := by decide +kernel
theorem dX2_addBell_4 : decode cX2_addBell 4 = .ok (.istore_n 3, 1) := by decide +kernel
theorem dX2_addBell_5 : decode cX2_addBell 5 = .ok (.iload_n 3, 1) := by decide +kernel
theorem dX2_addBell_6 : decode cX2_addBell 6 = .ok (.bipush 8, 2) := by decide +kernel
theorem dX2_addBell_8 : decode cX2_addBell 8 = .ok (.if_icmp .ge 56, 3) := by decide +kernel
theorem dX2_addBell_11 : decode cX2_addBell 11 = .ok (.aload_n 0, 1) := by decide +kernel
theorem dX2_addBell_12 : decode cX2_addBell 12 = .ok (.getfield 18, 3) := by decide +kernel
theorem dX2_addBell_15 : decode cX2_addBell 15 = .ok (.iload_n 3, 1) := by decide +kernel
theorem dX2_addBell_16 : decode cX2_addBell 16 = .ok (.iload_n 1, 1) := by decide +kernel
theorem dX2_addBell_17 : decode cX2_addBell 17 = .ok (.iastore, 1) := by decide +kernel
theorem dX2_addBell_18 : decode cX2_addBell 18 = .ok (.aload_n 0, 1) := by decide +kernel
theorem dX2_addBell_19 : decode cX2_addBell 19 = .ok (.getfield 21, 3) := by decide +kernel
theorem dX2_addBell_22 : decode cX2_addBell 22 = .ok (.iload_n 3, 1) := by decide +kernel
theorem dX2_addBell_23 : decode cX2_addBell 23 = .ok (.iload_n 2, 1) := by decide +kernel
theorem dX2_addBell_24 : decode cX2_addBell 24 = .ok (.iastore, 1) := by decide +kernel
theorem dX2_addBell_25 : decode cX2_addBell 25 = .ok (.aload_n 0, 1) := by decide +kernel
theorem dX2_addBell_26 : decode cX2_addBell 26 = .ok (.getfield 24, 3) := by decide +kernel
theorem dX2_addBell_29 : decode cX2_addBell 29 = .ok (.iload_n 3, 1) := by decide +kernel
theorem dX2_addBell_30 : decode cX2_addBell 30 = .ok (.iconst 0, 1) := by decide +kernel
theorem dX2_addBell_31 : decode cX2_addBell 31 = .ok (.iastore, 1) := by decide +kernel
theorem dX2_addBell_32 : decode cX2_addBell 32 = .ok (.aload_n 0, 1) := by decide +kernel
theorem dX2_addBell_33 : decode cX2_addBell 33 = .ok (.getfield 27, 3) := by decide +kernel
theorem dX2_addBell_36 : decode cX2_addBell 36 = .ok (.iload_n 3, 1) := by decide +kernel
theorem dX2_addBell_37 : decode cX2_addBell 37 = .ok (.bipush 10, 2) := by decide +kernel
theorem dX2_addBell_39 : decode cX2_addBell 39 = .ok (.iastore, 1) := by decide +kernel
theorem dX2_addBell_40 : decode cX2_addBell 40 = .ok (.aload_n 0, 1) := by decide +kernel
theorem dX2_addBell_41 : decode cX2_addBell 41 = .ok (.dup, 1) := by decide +kernel
theorem dX2_addBell_42 : decode cX2_addBell 42 = .ok (.getfield 50, 3) := by decide +kernel
theorem dX2_addBell_45 : decode cX2_addBell 45 = .ok (.iconst 1, 1) := by decide +kernel
theorem dX2_addBell_46 : decode cX2_addBell 46 = .ok (.iload_n 3, 1) := by decide +kernel
theorem dX2_addBell_47 : decode cX2_addBell 47 = .ok (.ishl, 1) := by decide +kernel
theorem dX2_addBell_48 : decode cX2_addBell 48 = .ok (.iconst (-1), 1) := by decide +kernel
theorem dX2_addBell_49 : decode cX2_addBell 49 = .ok (.ixor, 1) := by decide +kernel
theorem dX2_addBell_50 : decode cX2_addBell 50 = .ok (.iand, 1) := by decide +kernel
theorem dX2_addBell_51 : decode cX2_addBell 51 = .ok (.putfield 50, 3) := by decide +kernel
theorem dX2_addBell_54 : decode cX2_addBell 54 = .ok (.aload_n 0, 1) := by decide +kernel
theorem dX2_addBell_55 : decode cX2_addBell 55 = .ok (.dup, 1) := by decide +kernel
theorem dX2_addBell_56 : decode cX2_addBell 56 = .ok (.getfield 47, 3) := by decide +kernel
theorem dX2_addBell_59 : decode cX2_addBell 59 = .ok (.iconst 1, 1) := by decide +kernel
theorem dX2_addBell_60 : decode cX2_addBell 60 = .ok (.iadd, 1) := by decide +kernel
theorem dX2_addBell_61 : decode cX2_addBell 61 = .ok (.putfield 47, 3) := by decide +kernel
theorem dX2_addBell_64 : decode cX2_addBell 64 = .ok (.iload_n 3, 1) := by decide +kernel
theorem dX2_addBell_65 : decode cX2_addBell 65 = .ok (.ireturn, 1) := by decide +kernel
theorem dX2_isFree_0 : decode cX2_isFree 0 = .ok (.aload_n 0, 1) := by decide +kernel
theorem dX2_isFree_1 : decode cX2_isFree 1 = .ok (.getfield 50, 3) := by decide +kernel
theorem dX2_isFree_4 : decode cX2_isFree 4 = .ok (.iload_n 1, 1) := by decide +kernel
theorem dX2_isFree_5 : decode cX2_isFree 5 = .ok (.iushr, 1) := by decide +kernel
theorem dX2_isFree_6 : decode cX2_isFree 6 = .ok (.iconst 1, 1) := by decide +kernel
theorem dX2_isFree_7 : decode cX2_isFree 7 = .ok (.iand, 1) := by decide +kernel
theorem dX2_isFree_8 : decode cX2_isFree 8 = .ok (.ifCond .ne 7, 3) := by decide +kernel
theorem dX2_isFree_11 : decode cX2_isFree 11 = .ok (.iconst 1, 1) := by decide +kernel
theorem dX2_isFree_12 : decode cX2_isFree 12 = .ok (.goto 4, 3) := by decide +kernel
theorem dX2_isFree_15 : decode cX2_isFree 15 = .ok (.iconst 0, 1) := by decide +kernel
theorem dX2_isFree_16 : decode cX2_isFree 16 = .ok (.ireturn, 1) := by decide +kernel
theorem dX2_trait_0 : decode cX2_trait 0 = .ok (.iload_n 2, 1) := by decide +kernel
theorem dX2_trait_1 : decode cX2_trait 1 = .ok (.tableswitch 59 0 3 #[31, 38, 45, 52], 31) := by decide +kernel
theorem dX2_trait_32 : decode cX2_trait 32 = .ok (.aload_n 0, 1) := by decide +kernel
theorem dX2_trait_33 : decode cX2_trait 33 = .ok (.getfield 18, 3) := by decide +kernel
theorem dX2_trait_36 : decode cX2_trait 36 = .ok (.iload_n 1, 1) := by decide +kernel
theorem dX2_trait_37 : decode cX2_trait 37 = .ok (.iaload, 1) := by decide +kernel
theorem dX2_trait_38 : decode cX2_trait 38 = .ok (.ireturn, 1) := by decide +kernel
theorem dX2_trait_39 : decode cX2_trait 39 = .ok (.aload_n 0, 1) := by decide +kernel
theorem dX2_trait_40 : decode cX2_trait 40 = .ok (.getfield 21, 3) := by decide +kernel
theorem dX2_trait_43 : decode cX2_trait 43 = .ok (.iload_n 1, 1) := by decide +kernel
theorem dX2_trait_44 : decode cX2_trait 44 = .ok (.iaload, 1) := by decide +kernel
theorem dX2_trait_45 : decode cX2_trait 45 = .ok (.ireturn, 1) := by decide +kernel
theorem dX2_trait_46 : decode cX2_trait 46 = .ok (.aload_n 0, 1) := by decide +kernel
theorem dX2_trait_47 : decode cX2_trait 47 = .ok (.getfield 24, 3) := by decide +kernel
theorem dX2_trait_50 : decode cX2_trait 50 = .ok (.iload_n 1, 1) := by decide +kernel
theorem dX2_trait_51 : decode cX2_trait 51 = .ok (.iaload, 1) := by decide +kernel
theorem dX2_trait_52 : decode cX2_trait 52 = .ok (.ireturn, 1) := by decide +kernel
theorem dX2_trait_53 : decode cX2_trait 53 = .ok (.aload_n 0, 1) := by decide +kernel
theorem dX2_trait_54 : decode cX2_trait 54 = .ok (.getfield 27, 3) := by decide +kernel
theorem dX2_trait_57 : decode cX2_trait 57 = .ok (.iload_n 1, 1) := by decide +kernel
theorem dX2_trait_58 : decode cX2_trait 58 = .ok (.iaload, 1) := by decide +kernel
theorem dX2_trait_59 : decode cX2_trait 59 = .ok (.ireturn, 1) := by decide +kernel
theorem dX2_trait_60 : decode cX2_trait 60 = .ok (.aload_n 0, 1) := by decide +kernel
theorem dX2_trait_61 : decode cX2_trait 61 = .ok (.iload_n 1, 1) := by decide +kernel
theorem dX2_trait_62 : decode cX2_trait 62 = .ok (.invokevirtual 68, 3) := by decide +kernel
theorem dX2_trait_65 : decode cX2_trait 65 = .ok (.ifCond .eq 7, 3) := by decide +kernel
theorem dX2_trait_68 : decode cX2_trait 68 = .ok (.iconst 0, 1) := by decide +kernel
theorem dX2_trait_69 : decode cX2_trait 69 = .ok (.goto 4, 3) := by decide +kernel
theorem dX2_trait_72 : decode cX2_trait 72 = .ok (.iconst 1, 1) := by decide +kernel
theorem dX2_trait_73 : decode cX2_trait 73 = .ok (.ireturn, 1) := by decide +kernel
theorem dX2_setTrait_0 : decode cX2_setTrait 0 = .ok (.iload_n 2, 1) := by decide +kernel
theorem dX2_setTrait_1 : decode cX2_setTrait 1 = .ok (.tableswitch 71 0 3 #[31, 41, 51, 61], 31) := by decide +kernel
theorem dX2_setTrait_32 : decode cX2_setTrait 32 = .ok (.aload_n 0, 1) := by decide +kernel
theorem dX2_setTrait_33 : decode cX2_setTrait 33 = .ok (.getfield 18, 3) := by decide +kernel
theorem dX2_setTrait_36 : decode cX2_setTrait 36 = .ok (.iload_n 1, 1) := by decide +kernel
theorem dX2_setTrait_37 : decode cX2_setTrait 37 = .ok (.iload_n 3, 1) := by decide +kernel
theorem dX2_setTrait_38 : decode cX2_setTrait 38 = .ok (.iastore, 1) := by decide +kernel
theorem dX2_setTrait_39 : decode cX2_setTrait 39 = .ok (.goto 51, 3) := by decide +kernel
theorem dX2_setTrait_42 : decode cX2_setTrait 42 = .ok (.aload_n 0, 1) := by decide +kernel
theorem dX2_setTrait_43 : decode cX2_setTrait 43 = .ok (.getfield 21, 3) := by decide +kernel
theorem dX2_setTrait_46 : decode cX2_setTrait 46 = .ok (.iload_n 1, 1) := by decide +kernel
theorem dX2_setTrait_47 : decode cX2_setTrait 47 = .ok (.iload_n 3, 1) := by decide +kernel
theorem dX2_setTrait_48 : decode cX2_setTrait 48 = .ok (.iastore, 1) := by decide +kernel
theorem dX2_setTrait_49 : decode cX2_setTrait 49 = .ok (.goto 41, 3) := by decide +kernel
theorem dX2_setTrait_52 : decode cX2_setTrait 52 = .ok (.aload_n 0, 1) := by decide +kernel
theorem dX2_setTrait_53 : decode cX2_setTrait 53 = .ok (.getfield 24, 3) := by decide +kernel
theorem dX2_setTrait_56 : decode cX2_setTrait 56 = .ok (.iload_n 1, 1) := by decide +kernel
theorem dX2_setTrait_57 : decode cX2_setTrait 57 = .ok (.iload_n 3, 1) := by decide +kernel
theorem dX2_setTrait_58 : decode cX2_setTrait 58 = .ok (.iastore, 1) := by decide +kernel
theorem dX2_setTrait_59 : decode cX2_setTrait 59 = .ok (.goto 31, 3) := by decide +kernel
theorem dX2_setTrait_62 : decode cX2_setTrait 62 = .ok (.aload_n 0, 1) := by decide +kernel
theorem dX2_setTrait_63 : decode cX2_setTrait 63 = .ok (.getfield 27, 3) := by decide +kernel
theorem dX2_setTrait_66 : decode cX2_setTrait 66 = .ok (.iload_n 1, 1) := by decide +kernel
theorem dX2_setTrait_67 : decode cX2_setTrait 67 = .ok (.iload_n 3, 1) := by decide +kernel
theorem dX2_setTrait_68 : decode cX2_setTrait 68 = .ok (.iastore, 1) := by decide +kernel
theorem dX2_setTrait_69 : decode cX2_setTrait 69 = .ok (.goto 21, 3) := by decide +kernel
theorem dX2_setTrait_72 : decode cX2_setTrait 72 = .ok (.aload_n 0, 1) := by decide +kernel
theorem dX2_setTrait_73 : decode cX2_setTrait 73 = .ok (.aload_n 0, 1) := by decide +kernel
theorem dX2_setTrait_74 : decode cX2_setTrait 74 = .ok (.getfield 50, 3) := by decide +kernel
theorem dX2_setTrait_77 : decode cX2_setTrait 77 = .ok (.iconst 1, 1) := by decide +kernel
theorem dX2_setTrait_78 : decode cX2_setTrait 78 = .ok (.iload_n 1, 1) := by decide +kernel
theorem dX2_setTrait_79 : decode cX2_setTrait 79 = .ok (.ishl, 1) := by decide +kernel
theorem dX2_setTrait_80 : decode cX2_setTrait 80 = .ok (.iconst (-1), 1) := by decide +kernel
theorem dX2_setTrait_81 : decode cX2_setTrait 81 = .ok (.ixor, 1) := by decide +kernel
theorem dX2_setTrait_82 : decode cX2_setTrait 82 = .ok (.iand, 1) := by decide +kernel
theorem dX2_setTrait_83 : decode cX2_setTrait 83 = .ok (.iload_n 3, 1) := by decide +kernel
theorem dX2_setTrait_84 : decode cX2_setTrait 84 = .ok (.iload_n 1, 1) := by decide +kernel
theorem dX2_setTrait_85 : decode cX2_setTrait 85 = .ok (.ishl, 1) := by decide +kernel
theorem dX2_setTrait_86 : decode cX2_setTrait 86 = .ok (.ior, 1) := by decide +kernel
theorem dX2_setTrait_87 : decode cX2_setTrait 87 = .ok (.putfield 50, 3) := by decide +kernel
theorem dX2_setTrait_90 : decode cX2_setTrait 90 = .ok (.return_, 1) := by decide +kernel
theorem dX2_heardAt_0 : decode cX2_heardAt 0 = .ok (.iconst 0, 1) := by decide +kernel
theorem dX2_heardAt_1 : decode cX2_heardAt 1 = .ok (.istore_n 2, 1) := by decide +kernel
theorem dX2_heardAt_2 : decode cX2_heardAt 2 = .ok (.iconst 0, 1) := by decide +kernel
theorem dX2_heardAt_3 : decode cX2_heardAt 3 = .ok (.istore_n 3, 1) := by decide +kernel
theorem dX2_heardAt_4 : decode cX2_heardAt 4 = .ok (.iload_n 3, 1) := by decide +kernel
theorem dX2_heardAt_5 : decode cX2_heardAt 5 = .ok (.aload_n 0, 1) := by decide +kernel
theorem dX2_heardAt_6 : decode cX2_heardAt 6 = .ok (.getfield 47, 3) := by decide +kernel
theorem dX2_heardAt_9 : decode cX2_heardAt 9 = .ok (.if_icmp .ge 41, 3) := by decide +kernel
theorem dX2_heardAt_12 : decode cX2_heardAt 12 = .ok (.aload_n 0, 1) := by decide +kernel
theorem dX2_heardAt_13 : decode cX2_heardAt 13 = .ok (.iload_n 3, 1) := by decide +kernel
theorem dX2_heardAt_14 : decode cX2_heardAt 14 = .ok (.invokevirtual 68, 3) := by decide +kernel
theorem dX2_heardAt_17 : decode cX2_heardAt 17 = .ok (.ifCond .eq 27, 3) := by decide +kernel
theorem dX2_heardAt_20 : decode cX2_heardAt 20 = .ok (.iload_n 2, 1) := by decide +kernel
theorem dX2_heardAt_21 : decode cX2_heardAt 21 = .ok (.aload_n 0, 1) := by decide +kernel
theorem dX2_heardAt_22 : decode cX2_heardAt 22 = .ok (.getfield 27, 3) := by decide +kernel
theorem dX2_heardAt_25 : decode cX2_heardAt 25 = .ok (.iload_n 3, 1) := by decide +kernel
theorem dX2_heardAt_26 : decode cX2_heardAt 26 = .ok (.iaload, 1) := by decide +kernel
theorem dX2_heardAt_27 : decode cX2_heardAt 27 = .ok (.aload_n 0, 1) := by decide +kernel
theorem dX2_heardAt_28 : decode cX2_heardAt 28 = .ok (.getfield 21, 3) := by decide +kernel
theorem dX2_heardAt_31 : decode cX2_heardAt 31 = .ok (.iload_n 3, 1) := by decide +kernel
theorem dX2_heardAt_32 : decode cX2_heardAt 32 = .ok (.iaload, 1) := by decide +kernel
theorem dX2_heardAt_33 : decode cX2_heardAt 33 = .ok (.iload_n 1, 1) := by decide +kernel
theorem dX2_heardAt_34 : decode cX2_heardAt 34 = .ok (.invokestatic 72, 3) := by decide +kernel
theorem dX2_heardAt_37 : decode cX2_heardAt 37 = .ok (.invokestatic 76, 3) := by decide +kernel
theorem dX2_heardAt_40 : decode cX2_heardAt 40 = .ok (.invokestatic 79, 3) := by decide +kernel
theorem dX2_heardAt_43 : decode cX2_heardAt 43 = .ok (.istore_n 2, 1) := by decide +kernel
theorem dX2_heardAt_44 : decode cX2_heardAt 44 = .ok (.iinc 3 1, 3) := by decide +kernel
theorem dX2_heardAt_47 : decode cX2_heardAt 47 = .ok (.goto (-43), 3) := by decide +kernel
theorem dX2_heardAt_50 : decode cX2_heardAt 50 = .ok (.iload_n 2, 1) := by decide +kernel
theorem dX2_heardAt_51 : decode cX2_heardAt 51 = .ok (.ireturn, 1) := by decide +kernel
theorem dX2_bellsAt_0 : decode cX2_bellsAt 0 = .ok (.iconst 0, 1) := by decide +kernel
theorem dX2_bellsAt_1 : decode cX2_bellsAt 1 = .ok (.istore_n 2, 1) := by decide +kernel
theorem dX2_bellsAt_2 : decode cX2_bellsAt 2 = .ok (.iconst 0, 1) := by decide +kernel
theorem dX2_bellsAt_3 : decode cX2_bellsAt 3 = .ok (.istore_n 3, 1) := by decide +kernel
theorem dX2_bellsAt_4 : decode cX2_bellsAt 4 = .ok (.iload_n 3, 1) := by decide +kernel
theorem dX2_bellsAt_5 : decode cX2_bellsAt 5 = .ok (.aload_n 0, 1) := by decide +kernel
theorem dX2_bellsAt_6 : decode cX2_bellsAt 6 = .ok (.getfield 47, 3) := by decide +kernel
theorem dX2_bellsAt_9 : decode cX2_bellsAt 9 = .ok (.if_icmp .ge 22, 3) := by decide +kernel
theorem dX2_bellsAt_12 : decode cX2_bellsAt 12 = .ok (.aload_n 0, 1) := by decide +kernel
theorem dX2_bellsAt_13 : decode cX2_bellsAt 13 = .ok (.getfield 21, 3) := by decide +kernel
theorem dX2_bellsAt_16 : decode cX2_bellsAt 16 = .ok (.iload_n 3, 1) := by decide +kernel
theorem dX2_bellsAt_17 : decode cX2_bellsAt 17 = .ok (.iaload, 1) := by decide +kernel
theorem dX2_bellsAt_18 : decode cX2_bellsAt 18 = .ok (.iload_n 1, 1) := by decide +kernel
theorem dX2_bellsAt_19 : decode cX2_bellsAt 19 = .ok (.if_icmp .ne 6, 3) := by decide +kernel
theorem dX2_bellsAt_22 : decode cX2_bellsAt 22 = .ok (.iinc 2 1, 3) := by decide +kernel
theorem dX2_bellsAt_25 : decode cX2_bellsAt 25 = .ok (.iinc 3 1, 3) := by decide +kernel
theorem dX2_bellsAt_28 : decode cX2_bellsAt 28 = .ok (.goto (-24), 3) := by decide +kernel
theorem dX2_bellsAt_31 : decode cX2_bellsAt 31 = .ok (.iload_n 2, 1) := by decide +kernel
theorem dX2_bellsAt_32 : decode cX2_bellsAt 32 = .ok (.ireturn, 1) := by decide +kernel
theorem dX2_weightOf_0 : decode cX2_weightOf 0 = .ok (.iconst 0, 1) := by decide +kernel
theorem dX2_weightOf_1 : decode cX2_weightOf 1 = .ok (.istore_n 2, 1) := by decide +kernel
theorem dX2_weightOf_2 : decode cX2_weightOf 2 = .ok (.iconst 0, 1) := by decide +kernel
theorem dX2_weightOf_3 : decode cX2_weightOf 3 = .ok (.istore_n 3, 1) := by decide +kernel
theorem dX2_weightOf_4 : decode cX2_weightOf 4 = .ok (.iload_n 3, 1) := by decide +kernel
theorem dX2_weightOf_5 : decode cX2_weightOf 5 = .ok (.aload_n 0, 1) := by decide +kernel
theorem dX2_weightOf_6 : decode cX2_weightOf 6 = .ok (.getfield 47, 3) := by decide +kernel
theorem dX2_weightOf_9 : decode cX2_weightOf 9 = .ok (.if_icmp .ge 27, 3) := by decide +kernel
theorem dX2_weightOf_12 : decode cX2_weightOf 12 = .ok (.iload_n 1, 1) := by decide +kernel
theorem dX2_weightOf_13 : decode cX2_weightOf 13 = .ok (.i2l, 1) := by decide +kernel
theorem dX2_weightOf_14 : decode cX2_weightOf 14 = .ok (.iload_n 3, 1) := by decide +kernel
theorem dX2_weightOf_15 : decode cX2_weightOf 15 = .ok (.invokestatic 62, 3) := by decide +kernel
theorem dX2_weightOf_18 : decode cX2_weightOf 18 = .ok (.ifCond .eq 12, 3) := by decide +kernel
theorem dX2_weightOf_21 : decode cX2_weightOf 21 = .ok (.iload_n 2, 1) := by decide +kernel
theorem dX2_weightOf_22 : decode cX2_weightOf 22 = .ok (.aload_n 0, 1) := by decide +kernel
theorem dX2_weightOf_23 : decode cX2_weightOf 23 = .ok (.getfield 27, 3) := by decide +kernel
theorem dX2_weightOf_26 : decode cX2_weightOf 26 = .ok (.iload_n 3, 1) := by decide +kernel
theorem dX2_weightOf_27 : decode cX2_weightOf 27 = .ok (.iaload, 1) := by decide +kernel
theorem dX2_weightOf_28 : decode cX2_weightOf 28 = .ok (.iadd, 1) := by decide +kernel
theorem dX2_weightOf_29 : decode cX2_weightOf 29 = .ok (.istore_n 2, 1) := by decide +kernel
theorem dX2_weightOf_30 : decode cX2_weightOf 30 = .ok (.iinc 3 1, 3) := by decide +kernel
theorem dX2_weightOf_33 : decode cX2_weightOf 33 = .ok (.goto (-29), 3) := by decide +kernel
theorem dX2_weightOf_36 : decode cX2_weightOf 36 = .ok (.iload_n 2, 1) := by decide +kernel
theorem dX2_weightOf_37 : decode cX2_weightOf 37 = .ok (.ireturn, 1) := by decide +kernel
theorem dX2_spotsHolding_0 : decode cX2_spotsHolding 0 = .ok (.iconst 0, 1) := by decide +kernel
theorem dX2_spotsHolding_1 : decode cX2_spotsHolding 1 = .ok (.istore_n 1, 1) := by decide +kernel
theorem dX2_spotsHolding_2 : decode cX2_spotsHolding 2 = .ok (.iconst 0, 1) := by decide +kernel
theorem dX2_spotsHolding_3 : decode cX2_spotsHolding 3 = .ok (.istore_n 2, 1) := by decide +kernel
theorem dX2_spotsHolding_4 : decode cX2_spotsHolding 4 = .ok (.iload_n 2, 1) := by decide +kernel
theorem dX2_spotsHolding_5 : decode cX2_spotsHolding 5 = .ok (.bipush 10, 2) := by decide +kernel
theorem dX2_spotsHolding_7 : decode cX2_spotsHolding 7 = .ok (.if_icmp .ge 21, 3) := by decide +kernel
theorem dX2_spotsHolding_10 : decode cX2_spotsHolding 10 = .ok (.aload_n 0, 1) := by decide +kernel
theorem dX2_spotsHolding_11 : decode cX2_spotsHolding 11 = .ok (.getfield 30, 3) := by decide +kernel
theorem dX2_spotsHolding_14 : decode cX2_spotsHolding 14 = .ok (.iload_n 2, 1) := by decide +kernel
theorem dX2_spotsHolding_15 : decode cX2_spotsHolding 15 = .ok (.iaload, 1) := by decide +kernel
theorem dX2_spotsHolding_16 : decode cX2_spotsHolding 16 = .ok (.ifCond .lt 6, 3) := by decide +kernel
theorem dX2_spotsHolding_19 : decode cX2_spotsHolding 19 = .ok (.iinc 1 1, 3) := by decide +kernel
theorem dX2_spotsHolding_22 : decode cX2_spotsHolding 22 = .ok (.iinc 2 1, 3) := by decide +kernel
theorem dX2_spotsHolding_25 : decode cX2_spotsHolding 25 = .ok (.goto (-21), 3) := by decide +kernel
theorem dX2_spotsHolding_28 : decode cX2_spotsHolding 28 = .ok (.iload_n 1, 1) := by decide +kernel
theorem dX2_spotsHolding_29 : decode cX2_spotsHolding 29 = .ok (.ireturn, 1) := by decide +kernel
theorem dX2_worthFor_0 : decode cX2_worthFor 0 = .ok (.bipush 10, 2) := by decide +kernel
theorem dX2_worthFor_2 : decode cX2_worthFor 2 = .ok (.aload_n 0, 1) := by decide +kernel
theorem dX2_worthFor_3 : decode cX2_worthFor 3 = .ok (.iload_n 2, 1) := by decide +kernel
theorem dX2_worthFor_4 : decode cX2_worthFor 4 = .ok (.invokevirtual 84, 3) := by decide +kernel
theorem dX2_worthFor_7 : decode cX2_worthFor 7 = .ok (.imul, 1) := by decide +kernel
theorem dX2_worthFor_8 : decode cX2_worthFor 8 = .ok (.bipush 9, 2) := by decide +kernel
theorem dX2_worthFor_10 : decode cX2_worthFor 10 = .ok (.iadd, 1) := by decide +kernel
theorem dX2_worthFor_11 : decode cX2_worthFor 11 = .ok (.aload_n 0, 1) := by decide +kernel
theorem dX2_worthFor_12 : decode cX2_worthFor 12 = .ok (.getfield 9, 3) := by decide +kernel
theorem dX2_worthFor_15 : decode cX2_worthFor 15 = .ok (.iload_n 2, 1) := by decide +kernel
theorem dX2_worthFor_16 : decode cX2_worthFor 16 = .ok (.iaload, 1) := by decide +kernel
theorem dX2_worthFor_17 : decode cX2_worthFor 17 = .ok (.isub, 1) := by decide +kernel
theorem dX2_worthFor_18 : decode cX2_worthFor 18 = .ok (.istore_n 3, 1) := by decide +kernel
theorem dX2_worthFor_19 : decode cX2_worthFor 19 = .ok (.aload_n 0, 1) := by decide +kernel
theorem dX2_worthFor_20 : decode cX2_worthFor 20 = .ok (.getfield 18, 3) := by decide +kernel
theorem dX2_worthFor_23 : decode cX2_worthFor 23 = .ok (.iload_n 1, 1) := by decide +kernel
theorem dX2_worthFor_24 : decode cX2_worthFor 24 = .ok (.iaload, 1) := by decide +kernel
theorem dX2_worthFor_25 : decode cX2_worthFor 25 = .ok (.tableswitch 139 1 6 #[39, 78, 89, 108, 129, 54], 39) := by decide +kernel
theorem dX2_worthFor_64 : decode cX2_worthFor 64 = .ok (.iload_n 3, 1) := by decide +kernel
theorem dX2_worthFor_65 : decode cX2_worthFor 65 = .ok (.bipush 20, 2) := by decide +kernel
theorem dX2_worthFor_67 : decode cX2_worthFor 67 = .ok (.iadd, 1) := by decide +kernel
theorem dX2_worthFor_68 : decode cX2_worthFor 68 = .ok (.aload_n 0, 1) := by decide +kernel
theorem dX2_worthFor_69 : decode cX2_worthFor 69 = .ok (.iload_n 1, 1) := by decide +kernel
theorem dX2_worthFor_70 : decode cX2_worthFor 70 = .ok (.iload_n 2, 1) := by decide +kernel
theorem dX2_worthFor_71 : decode cX2_worthFor 71 = .ok (.iconst 1, 1) := by decide +kernel
theorem dX2_worthFor_72 : decode cX2_worthFor 72 = .ok (.bipush 20, 2) := by decide +kernel
theorem dX2_worthFor_74 : decode cX2_worthFor 74 = .ok (.invokevirtual 88, 3) := by decide +kernel
theorem dX2_worthFor_77 : decode cX2_worthFor 77 = .ok (.isub, 1) := by decide +kernel
theorem dX2_worthFor_78 : decode cX2_worthFor 78 = .ok (.ireturn, 1) := by decide +kernel
theorem dX2_worthFor_79 : decode cX2_worthFor 79 = .ok (.iload_n 3, 1) := by decide +kernel
theorem dX2_worthFor_80 : decode cX2_worthFor 80 = .ok (.bipush 20, 2) := by decide +kernel
theorem dX2_worthFor_82 : decode cX2_worthFor 82 = .ok (.iadd, 1) := by decide +kernel
theorem dX2_worthFor_83 : decode cX2_worthFor 83 = .ok (.aload_n 0, 1) := by decide +kernel
theorem dX2_worthFor_84 : decode cX2_worthFor 84 = .ok (.iload_n 1, 1) := by decide +kernel
theorem dX2_worthFor_85 : decode cX2_worthFor 85 = .ok (.iload_n 2, 1) := by decide +kernel
theorem dX2_worthFor_86 : decode cX2_worthFor 86 = .ok (.iconst 1, 1) := by decide +kernel
theorem dX2_worthFor_87 : decode cX2_worthFor 87 = .ok (.bipush 20, 2) := by decide +kernel
theorem dX2_worthFor_89 : decode cX2_worthFor 89 = .ok (.invokevirtual 88, 3) := by decide +kernel
theorem dX2_worthFor_92 : decode cX2_worthFor 92 = .ok (.isub, 1) := by decide +kernel
theorem dX2_worthFor_93 : decode cX2_worthFor 93 = .ok (.iconst 2, 1) := by decide +kernel
theorem dX2_worthFor_94 : decode cX2_worthFor 94 = .ok (.aload_n 0, 1) := by decide +kernel
theorem dX2_worthFor_95 : decode cX2_worthFor 95 = .ok (.getfield 9, 3) := by decide +kernel
theorem dX2_worthFor_98 : decode cX2_worthFor 98 = .ok (.iload_n 2, 1) := by decide +kernel
theorem dX2_worthFor_99 : decode cX2_worthFor 99 = .ok (.iaload, 1) := by decide +kernel
theorem dX2_worthFor_100 : decode cX2_worthFor 100 = .ok (.imul, 1) := by decide +kernel
theorem dX2_worthFor_101 : decode cX2_worthFor 101 = .ok (.iadd, 1) := by decide +kernel
theorem dX2_worthFor_102 : decode cX2_worthFor 102 = .ok (.ireturn, 1) := by decide +kernel
theorem dX2_worthFor_103 : decode cX2_worthFor 103 = .ok (.iload_n 3, 1) := by decide +kernel
theorem dX2_worthFor_104 : decode cX2_worthFor 104 = .ok (.aload_n 0, 1) := by decide +kernel
theorem dX2_worthFor_105 : decode cX2_worthFor 105 = .ok (.iload_n 1, 1) := by decide +kernel
theorem dX2_worthFor_106 : decode cX2_worthFor 106 = .ok (.iload_n 2, 1) := by decide +kernel
theorem dX2_worthFor_107 : decode cX2_worthFor 107 = .ok (.iconst 0, 1) := by decide +kernel
theorem dX2_worthFor_108 : decode cX2_worthFor 108 = .ok (.iconst 0, 1) := by decide +kernel
theorem dX2_worthFor_109 : decode cX2_worthFor 109 = .ok (.invokevirtual 88, 3) := by decide +kernel
theorem dX2_worthFor_112 : decode cX2_worthFor 112 = .ok (.iadd, 1) := by decide +kernel
theorem dX2_worthFor_113 : decode cX2_worthFor 113 = .ok (.ireturn, 1) := by decide +kernel
theorem dX2_worthFor_114 : decode cX2_worthFor 114 = .ok (.iload_n 3, 1) := by decide +kernel
theorem dX2_worthFor_115 : decode cX2_worthFor 115 = .ok (.aload_n 0, 1) := by decide +kernel
theorem dX2_worthFor_116 : decode cX2_worthFor 116 = .ok (.iload_n 1, 1) := by decide +kernel
theorem dX2_worthFor_117 : decode cX2_worthFor 117 = .ok (.iload_n 2, 1) := by decide +kernel
theorem dX2_worthFor_118 : decode cX2_worthFor 118 = .ok (.iconst 0, 1) := by decide +kernel
theorem dX2_worthFor_119 : decode cX2_worthFor 119 = .ok (.iconst 0, 1) := by decide +kernel
theorem dX2_worthFor_120 : decode cX2_worthFor 120 = .ok (.invokevirtual 88, 3) := by decide +kernel
theorem dX2_worthFor_123 : decode cX2_worthFor 123 = .ok (.iadd, 1) := by decide +kernel
theorem dX2_worthFor_124 : decode cX2_worthFor 124 = .ok (.bipush 7, 2) := by decide +kernel
theorem dX2_worthFor_126 : decode cX2_worthFor 126 = .ok (.iadd, 1) := by decide +kernel
theorem dX2_worthFor_127 : decode cX2_worthFor 127 = .ok (.iload_n 2, 1) := by decide +kernel
theorem dX2_worthFor_128 : decode cX2_worthFor 128 = .ok (.bipush 8, 2) := by decide +kernel
theorem dX2_worthFor_130 : decode cX2_worthFor 130 = .ok (.idiv, 1) := by decide +kernel
theorem dX2_worthFor_131 : decode cX2_worthFor 131 = .ok (.isub, 1) := by decide +kernel
theorem dX2_worthFor_132 : decode cX2_worthFor 132 = .ok (.ireturn, 1) := by decide +kernel
theorem dX2_worthFor_133 : decode cX2_worthFor 133 = .ok (.iconst 2, 1) := by decide +kernel
theorem dX2_worthFor_134 : decode cX2_worthFor 134 = .ok (.iload_n 3, 1) := by decide +kernel
theorem dX2_worthFor_135 : decode cX2_worthFor 135 = .ok (.aload_n 0, 1) := by decide +kernel
theorem dX2_worthFor_136 : decode cX2_worthFor 136 = .ok (.iload_n 1, 1) := by decide +kernel
theorem dX2_worthFor_137 : decode cX2_worthFor 137 = .ok (.iload_n 2, 1) := by decide +kernel
theorem dX2_worthFor_138 : decode cX2_worthFor 138 = .ok (.iconst 0, 1) := by decide +kernel
theorem dX2_worthFor_139 : decode cX2_worthFor 139 = .ok (.iconst 0, 1) := by decide +kernel
theorem dX2_worthFor_140 : decode cX2_worthFor 140 = .ok (.invokevirtual 88, 3) := by decide +kernel
theorem dX2_worthFor_143 : decode cX2_worthFor 143 = .ok (.iadd, 1) := by decide +kernel
theorem dX2_worthFor_144 : decode cX2_worthFor 144 = .ok (.bipush 7, 2) := by decide +kernel
theorem dX2_worthFor_146 : decode cX2_worthFor 146 = .ok (.iadd, 1) := by decide +kernel
theorem dX2_worthFor_147 : decode cX2_worthFor 147 = .ok (.iload_n 2, 1) := by decide +kernel
theorem dX2_worthFor_148 : decode cX2_worthFor 148 = .ok (.bipush 8, 2) := by decide +kernel
theorem dX2_worthFor_150 : decode cX2_worthFor 150 = .ok (.idiv, 1) := by decide +kernel
theorem dX2_worthFor_151 : decode cX2_worthFor 151 = .ok (.isub, 1) := by decide +kernel
theorem dX2_worthFor_152 : decode cX2_worthFor 152 = .ok (.imul, 1) := by decide +kernel
theorem dX2_worthFor_153 : decode cX2_worthFor 153 = .ok (.ireturn, 1) := by decide +kernel
theorem dX2_worthFor_154 : decode cX2_worthFor 154 = .ok (.iload_n 3, 1) := by decide +kernel
theorem dX2_worthFor_155 : decode cX2_worthFor 155 = .ok (.iconst 2, 1) := by decide +kernel
theorem dX2_worthFor_156 : decode cX2_worthFor 156 = .ok (.iload_n 2, 1) := by decide +kernel
theorem dX2_worthFor_157 : decode cX2_worthFor 157 = .ok (.iconst 0, 1) := by decide +kernel
theorem dX2_worthFor_158 : decode cX2_worthFor 158 = .ok (.invokestatic 72, 3) := by decide +kernel
theorem dX2_worthFor_161 : decode cX2_worthFor 161 = .ok (.imul, 1) := by decide +kernel
theorem dX2_worthFor_162 : decode cX2_worthFor 162 = .ok (.isub, 1) := by decide +kernel
theorem dX2_worthFor_163 : decode cX2_worthFor 163 = .ok (.ireturn, 1) := by decide +kernel
theorem dX2_worthFor_164 : decode cX2_worthFor 164 = .ok (.iload_n 3, 1) := by decide +kernel
theorem dX2_worthFor_165 : decode cX2_worthFor 165 = .ok (.ireturn, 1) := by decide +kernel
theorem dX2_fromHunters_0 : decode cX2_fromHunters 0 = .ok (.aload_n 0, 1) := by decide +kernel
theorem dX2_fromHunters_1 : decode cX2_fromHunters 1 = .ok (.getfield 33, 3) := by decide +kernel
theorem dX2_fromHunters_4 : decode cX2_fromHunters 4 = .ok (.istore_n 2, 1) := by decide +kernel
theorem dX2_fromHunters_5 : decode cX2_fromHunters 5 = .ok (.iconst 0, 1) := by decide +kernel
theorem dX2_fromHunters_6 : decode cX2_fromHunters 6 = .ok (.istore_n 3, 1) := by decide +kernel
theorem dX2_fromHunters_7 : decode cX2_fromHunters 7 = .ok (.iload_n 3, 1) := by decide +kernel
theorem dX2_fromHunters_8 : decode cX2_fromHunters 8 = .ok (.iconst 4, 1) := by decide +kernel
theorem dX2_fromHunters_9 : decode cX2_fromHunters 9 = .ok (.if_icmp .ge 33, 3) := by decide +kernel
theorem dX2_fromHunters_12 : decode cX2_fromHunters 12 = .ok (.aload_n 0, 1) := by decide +kernel
theorem dX2_fromHunters_13 : decode cX2_fromHunters 13 = .ok (.getfield 15, 3) := by decide +kernel
theorem dX2_fromHunters_16 : decode cX2_fromHunters 16 = .ok (.iload_n 3, 1) := by decide +kernel
theorem dX2_fromHunters_17 : decode cX2_fromHunters 17 = .ok (.iaload, 1) := by decide +kernel
theorem dX2_fromHunters_18 : decode cX2_fromHunters 18 = .ok (.ifCond .lt 18, 3) := by decide +kernel
theorem dX2_fromHunters_21 : decode cX2_fromHunters 21 = .ok (.iload_n 2, 1) := by decide +kernel
theorem dX2_fromHunters_22 : decode cX2_fromHunters 22 = .ok (.iload_n 1, 1) := by decide +kernel
theorem dX2_fromHunters_23 : decode cX2_fromHunters 23 = .ok (.aload_n 0, 1) := by decide +kernel
theorem dX2_fromHunters_24 : decode cX2_fromHunters 24 = .ok (.getfield 15, 3) := by decide +kernel
theorem dX2_fromHunters_27 : decode cX2_fromHunters 27 = .ok (.iload_n 3, 1) := by decide +kernel
theorem dX2_fromHunters_28 : decode cX2_fromHunters 28 = .ok (.iaload, 1) := by decide +kernel
theorem dX2_fromHunters_29 : decode cX2_fromHunters 29 = .ok (.invokestatic 72, 3) := by decide +kernel
theorem dX2_fromHunters_32 : decode cX2_fromHunters 32 = .ok (.invokestatic 92, 3) := by decide +kernel
theorem dX2_fromHunters_35 : decode cX2_fromHunters 35 = .ok (.istore_n 2, 1) := by decide +kernel
theorem dX2_fromHunters_36 : decode cX2_fromHunters 36 = .ok (.iinc 3 1, 3) := by decide +kernel
theorem dX2_fromHunters_39 : decode cX2_fromHunters 39 = .ok (.goto (-32), 3) := by decide +kernel
theorem dX2_fromHunters_42 : decode cX2_fromHunters 42 = .ok (.iload_n 2, 1) := by decide +kernel
theorem dX2_fromHunters_43 : decode cX2_fromHunters 43 = .ok (.ireturn, 1) := by decide +kernel
theorem dX2_nearestOther_0 : decode cX2_nearestOther 0 = .ok (.iconst (-1), 1) := by decide +kernel
theorem dX2_nearestOther_1 : decode cX2_nearestOther 1 = .ok (.istore 5, 2) := by decide +kernel
theorem dX2_nearestOther_3 : decode cX2_nearestOther 3 = .ok (.iconst 0, 1) := by decide +kernel
theorem dX2_nearestOther_4 : decode cX2_nearestOther 4 = .ok (.istore 6, 2) := by decide +kernel
theorem dX2_nearestOther_6 : decode cX2_nearestOther 6 = .ok (.iload 6, 2) := by decide +kernel
theorem dX2_nearestOther_8 : decode cX2_nearestOther 8 = .ok (.aload_n 0, 1) := by decide +kernel
theorem dX2_nearestOther_9 : decode cX2_nearestOther 9 = .ok (.getfield 47, 3) := by decide +kernel
theorem dX2_nearestOther_12 : decode cX2_nearestOther 12 = .ok (.if_icmp .ge 72, 3) := by decide +kernel
theorem dX2_nearestOther_15 : decode cX2_nearestOther 15 = .ok (.iload 6, 2) := by decide +kernel
theorem dX2_nearestOther_17 : decode cX2_nearestOther 17 = .ok (.iload_n 1, 1) := by decide +kernel
theorem dX2_nearestOther_18 : decode cX2_nearestOther 18 = .ok (.if_icmp .eq 60, 3) := by decide +kernel
theorem dX2_nearestOther_21 : decode cX2_nearestOther 21 = .ok (.aload_n 0, 1) := by decide +kernel
theorem dX2_nearestOther_22 : decode cX2_nearestOther 22 = .ok (.iload 6, 2) := by decide +kernel
theorem dX2_nearestOther_24 : decode cX2_nearestOther 24 = .ok (.invokevirtual 68, 3) := by decide +kernel
theorem dX2_nearestOther_27 : decode cX2_nearestOther 27 = .ok (.ifCond .eq 51, 3) := by decide +kernel
theorem dX2_nearestOther_30 : decode cX2_nearestOther 30 = .ok (.aload_n 0, 1) := by decide +kernel
theorem dX2_nearestOther_31 : decode cX2_nearestOther 31 = .ok (.getfield 18, 3) := by decide +kernel
theorem dX2_nearestOther_34 : decode cX2_nearestOther 34 = .ok (.iload 6, 2) := by decide +kernel
theorem dX2_nearestOther_36 : decode cX2_nearestOther 36 = .ok (.iaload, 1) := by decide +kernel
theorem dX2_nearestOther_37 : decode cX2_nearestOther 37 = .ok (.iload_n 3, 1) := by decide +kernel
theorem dX2_nearestOther_38 : decode cX2_nearestOther 38 = .ok (.invokestatic 95, 3) := by decide +kernel
theorem dX2_nearestOther_41 : decode cX2_nearestOther 41 = .ok (.ifCond .eq 37, 3) := by decide +kernel
theorem dX2_nearestOther_44 : decode cX2_nearestOther 44 = .ok (.iload_n 2, 1) := by decide +kernel
theorem dX2_nearestOther_45 : decode cX2_nearestOther 45 = .ok (.aload_n 0, 1) := by decide +kernel
theorem dX2_nearestOther_46 : decode cX2_nearestOther 46 = .ok (.getfield 21, 3) := by decide +kernel
theorem dX2_nearestOther_49 : decode cX2_nearestOther 49 = .ok (.iload 6, 2) := by decide +kernel
theorem dX2_nearestOther_51 : decode cX2_nearestOther 51 = .ok (.iaload, 1) := by decide +kernel
theorem dX2_nearestOther_52 : decode cX2_nearestOther 52 = .ok (.invokestatic 72, 3) := by decide +kernel
theorem dX2_nearestOther_55 : decode cX2_nearestOther 55 = .ok (.istore 7, 2) := by decide +kernel
theorem dX2_nearestOther_57 : decode cX2_nearestOther 57 = .ok (.iload 5, 2) := by decide +kernel
theorem dX2_nearestOther_59 : decode cX2_nearestOther 59 = .ok (.ifCond .lt 10, 3) := by decide +kernel
theorem dX2_nearestOther_62 : decode cX2_nearestOther 62 = .ok (.iload 7, 2) := by decide +kernel
theorem dX2_nearestOther_64 : decode cX2_nearestOther 64 = .ok (.iload 5, 2) := by decide +kernel
theorem dX2_nearestOther_66 : decode cX2_nearestOther 66 = .ok (.if_icmp .ge 8, 3) := by decide +kernel
theorem dX2_nearestOther_69 : decode cX2_nearestOther 69 = .ok (.iload 7, 2) := by decide +kernel
theorem dX2_nearestOther_71 : decode cX2_nearestOther 71 = .ok (.goto 5, 3) := by decide +kernel
theorem dX2_nearestOther_74 : decode cX2_nearestOther 74 = .ok (.iload 5, 2) := by decide +kernel
theorem dX2_nearestOther_76 : decode cX2_nearestOther 76 = .ok (.istore 5, 2) := by decide +kernel
theorem dX2_nearestOther_78 : decode cX2_nearestOther 78 = .ok (.iinc 6 1, 3) := by decide +kernel
theorem dX2_nearestOther_81 : decode cX2_nearestOther 81 = .ok (.goto (-75), 3) := by decide +kernel
theorem dX2_nearestOther_84 : decode cX2_nearestOther 84 = .ok (.iload 5, 2) := by decide +kernel
theorem dX2_nearestOther_86 : decode cX2_nearestOther 86 = .ok (.ifCond .ge 8, 3) := by decide +kernel
theorem dX2_nearestOther_89 : decode cX2_nearestOther 89 = .ok (.iload 4, 2) := by decide +kernel
theorem dX2_nearestOther_91 : decode cX2_nearestOther 91 = .ok (.goto 5, 3) := by decide +kernel
theorem dX2_nearestOther_94 : decode cX2_nearestOther 94 = .ok (.iload 5, 2) := by decide +kernel
theorem dX2_nearestOther_96 : decode cX2_nearestOther 96 = .ok (.ireturn, 1) := by decide +kernel
theorem dX2_nextCell_0 : decode cX2_nextCell 0 = .ok (.aload_n 0, 1) := by decide +kernel
theorem dX2_nextCell_1 : decode cX2_nextCell 1 = .ok (.getfield 21, 3) := by decide +kernel
theorem dX2_nextCell_4 : decode cX2_nextCell 4 = .ok (.iload_n 1, 1) := by decide +kernel
theorem dX2_nextCell_5 : decode cX2_nextCell 5 = .ok (.iaload, 1) := by decide +kernel
theorem dX2_nextCell_6 : decode cX2_nextCell 6 = .ok (.istore_n 2, 1) := by decide +kernel
theorem dX2_nextCell_7 : decode cX2_nextCell 7 = .ok (.iload_n 2, 1) := by decide +kernel
theorem dX2_nextCell_8 : decode cX2_nextCell 8 = .ok (.istore_n 3, 1) := by decide +kernel
theorem dX2_nextCell_9 : decode cX2_nextCell 9 = .ok (.aload_n 0, 1) := by decide +kernel
theorem dX2_nextCell_10 : decode cX2_nextCell 10 = .ok (.iload_n 1, 1) := by decide +kernel
theorem dX2_nextCell_11 : decode cX2_nextCell 11 = .ok (.iload_n 2, 1) := by decide +kernel
theorem dX2_nextCell_12 : decode cX2_nextCell 12 = .ok (.invokevirtual 99, 3) := by decide +kernel
theorem dX2_nextCell_15 : decode cX2_nextCell 15 = .ok (.istore 4, 2) := by decide +kernel
theorem dX2_nextCell_17 : decode cX2_nextCell 17 = .ok (.iconst 0, 1) := by decide +kernel
theorem dX2_nextCell_18 : decode cX2_nextCell 18 = .ok (.istore 5, 2) := by decide +kernel
theorem dX2_nextCell_20 : decode cX2_nextCell 20 = .ok (.iload 5, 2) := by decide +kernel
theorem dX2_nextCell_22 : decode cX2_nextCell 22 = .ok (.iconst 4, 1) := by decide +kernel
theorem dX2_nextCell_23 : decode cX2_nextCell 23 = .ok (.if_icmp .ge 45, 3) := by decide +kernel
theorem dX2_nextCell_26 : decode cX2_nextCell 26 = .ok (.iload_n 2, 1) := by decide +kernel
theorem dX2_nextCell_27 : decode cX2_nextCell 27 = .ok (.iload 5, 2) := by decide +kernel
theorem dX2_nextCell_29 : decode cX2_nextCell 29 = .ok (.invokestatic 102, 3) := by decide +kernel
theorem dX2_nextCell_32 : decode cX2_nextCell 32 = .ok (.istore 6, 2) := by decide +kernel
theorem dX2_nextCell_34 : decode cX2_nextCell 34 = .ok (.iload 6, 2) := by decide +kernel
theorem dX2_nextCell_36 : decode cX2_nextCell 36 = .ok (.ifCond .lt 26, 3) := by decide +kernel
theorem dX2_nextCell_39 : decode cX2_nextCell 39 = .ok (.aload_n 0, 1) := by decide +kernel
theorem dX2_nextCell_40 : decode cX2_nextCell 40 = .ok (.iload_n 1, 1) := by decide +kernel
theorem dX2_nextCell_41 : decode cX2_nextCell 41 = .ok (.iload 6, 2) := by decide +kernel
theorem dX2_nextCell_43 : decode cX2_nextCell 43 = .ok (.invokevirtual 99, 3) := by decide +kernel
theorem dX2_nextCell_46 : decode cX2_nextCell 46 = .ok (.istore 7, 2) := by decide +kernel
theorem dX2_nextCell_48 : decode cX2_nextCell 48 = .ok (.iload 7, 2) := by decide +kernel
theorem dX2_nextCell_50 : decode cX2_nextCell 50 = .ok (.iload 4, 2) := by decide +kernel
theorem dX2_nextCell_52 : decode cX2_nextCell 52 = .ok (.if_icmp .le 10, 3) := by decide +kernel
theorem dX2_nextCell_55 : decode cX2_nextCell 55 = .ok (.iload 7, 2) := by decide +kernel
theorem dX2_nextCell_57 : decode cX2_nextCell 57 = .ok (.istore 4, 2) := by decide +kernel
theorem dX2_nextCell_59 : decode cX2_nextCell 59 = .ok (.iload 6, 2) := by decide +kernel
theorem dX2_nextCell_61 : decode cX2_nextCell 61 = .ok (.istore_n 3, 1) := by decide +kernel
theorem dX2_nextCell_62 : decode cX2_nextCell 62 = .ok (.iinc 5 1, 3) := by decide +kernel
theorem dX2_nextCell_65 : decode cX2_nextCell 65 = .ok (.goto (-45), 3) := by decide +kernel
theorem dX2_nextCell_68 : decode cX2_nextCell 68 = .ok (.iload_n 3, 1) := by decide +kernel
theorem dX2_nextCell_69 : decode cX2_nextCell 69 = .ok (.ireturn, 1) := by decide +kernel
theorem dX2_cellBeside_0 : decode cX2_cellBeside 0 = .ok (.iload_n 1, 1) := by decide +kernel
theorem dX2_cellBeside_1 : decode cX2_cellBeside 1 = .ok (.tableswitch 74 0 2 #[27, 42, 59], 27) := by decide +kernel
theorem dX2_cellBeside_28 : decode cX2_cellBeside 28 = .ok (.iload_n 0, 1) := by decide +kernel
theorem dX2_cellBeside_29 : decode cX2_cellBeside 29 = .ok (.bipush 8, 2) := by decide +kernel
theorem dX2_cellBeside_31 : decode cX2_cellBeside 31 = .ok (.if_icmp .lt 10, 3) := by decide +kernel
theorem dX2_cellBeside_34 : decode cX2_cellBeside 34 = .ok (.iload_n 0, 1) := by decide +kernel
theorem dX2_cellBeside_35 : decode cX2_cellBeside 35 = .ok (.bipush 8, 2) := by decide +kernel
theorem dX2_cellBeside_37 : decode cX2_cellBeside 37 = .ok (.isub, 1) := by decide +kernel
theorem dX2_cellBeside_38 : decode cX2_cellBeside 38 = .ok (.goto 4, 3) := by decide +kernel
theorem dX2_cellBeside_41 : decode cX2_cellBeside 41 = .ok (.iconst (-1), 1) := by decide +kernel
theorem dX2_cellBeside_42 : decode cX2_cellBeside 42 = .ok (.ireturn, 1) := by decide +kernel
theorem dX2_cellBeside_43 : decode cX2_cellBeside 43 = .ok (.iload_n 0, 1) := by decide +kernel
theorem dX2_cellBeside_44 : decode cX2_cellBeside 44 = .ok (.bipush 8, 2) := by decide +kernel
theorem dX2_cellBeside_46 : decode cX2_cellBeside 46 = .ok (.irem, 1) := by decide +kernel
theorem dX2_cellBeside_47 : decode cX2_cellBeside 47 = .ok (.bipush 7, 2) := by decide +kernel
theorem dX2_cellBeside_49 : decode cX2_cellBeside 49 = .ok (.if_icmp .ge 9, 3) := by decide +kernel
theorem dX2_cellBeside_52 : decode cX2_cellBeside 52 = .ok (.iload_n 0, 1) := by decide +kernel
theorem dX2_cellBeside_53 : decode cX2_cellBeside 53 = .ok (.iconst 1, 1) := by decide +kernel
theorem dX2_cellBeside_54 : decode cX2_cellBeside 54 = .ok (.iadd, 1) := by decide +kernel
theorem dX2_cellBeside_55 : decode cX2_cellBeside 55 = .ok (.goto 4, 3) := by decide +kernel
theorem dX2_cellBeside_58 : decode cX2_cellBeside 58 = .ok (.iconst (-1), 1) := by decide +kernel
theorem dX2_cellBeside_59 : decode cX2_cellBeside 59 = .ok (.ireturn, 1) := by decide +kernel
theorem dX2_cellBeside_60 : decode cX2_cellBeside 60 = .ok (.iload_n 0, 1) := by decide +kernel
theorem dX2_cellBeside_61 : decode cX2_cellBeside 61 = .ok (.bipush 56, 2) := by decide +kernel
theorem dX2_cellBeside_63 : decode cX2_cellBeside 63 = .ok (.if_icmp .ge 10, 3) := by decide +kernel
theorem dX2_cellBeside_66 : decode cX2_cellBeside 66 = .ok (.iload_n 0, 1) := by decide +kernel
theorem dX2_cellBeside_67 : decode cX2_cellBeside 67 = .ok (.bipush 8, 2) := by decide +kernel
theorem dX2_cellBeside_69 : decode cX2_cellBeside 69 = .ok (.iadd, 1) := by decide +kernel
theorem dX2_cellBeside_70 : decode cX2_cellBeside 70 = .ok (.goto 4, 3) := by decide +kernel
theorem dX2_cellBeside_73 : decode cX2_cellBeside 73 = .ok (.iconst (-1), 1) := by decide +kernel
theorem dX2_cellBeside_74 : decode cX2_cellBeside 74 = .ok (.ireturn, 1) := by decide +kernel
theorem dX2_cellBeside_75 : decode cX2_cellBeside 75 = .ok (.iload_n 0, 1) := by decide +kernel
theorem dX2_cellBeside_76 : decode cX2_cellBeside 76 = .ok (.bipush 8, 2) := by decide +kernel
theorem dX2_cellBeside_78 : decode cX2_cellBeside 78 = .ok (.irem, 1) := by decide +kernel
theorem dX2_cellBeside_79 : decode cX2_cellBeside 79 = .ok (.ifCond .le 9, 3) := by decide +kernel
theorem dX2_cellBeside_82 : decode cX2_cellBeside 82 = .ok (.iload_n 0, 1) := by decide +kernel
theorem dX2_cellBeside_83 : decode cX2_cellBeside 83 = .ok (.iconst 1, 1) := by decide +kernel
theorem dX2_cellBeside_84 : decode cX2_cellBeside 84 = .ok (.isub, 1) := by decide +kernel
theorem dX2_cellBeside_85 : decode cX2_cellBeside 85 = .ok (.goto 4, 3) := by decide +kernel
theorem dX2_cellBeside_88 : decode cX2_cellBeside 88 = .ok (.iconst (-1), 1) := by decide +kernel
theorem dX2_cellBeside_89 : decode cX2_cellBeside 89 = .ok (.ireturn, 1) := by decide +kernel
theorem dX2_hourGoes_0 : decode cX2_hourGoes 0 = .ok (.iconst 0, 1) := by decide +kernel
theorem dX2_hourGoes_1 : decode cX2_hourGoes 1 = .ok (.istore_n 1, 1) := by decide +kernel
theorem dX2_hourGoes_2 : decode cX2_hourGoes 2 = .ok (.iconst 0, 1) := by decide +kernel
theorem dX2_hourGoes_3 : decode cX2_hourGoes 3 = .ok (.istore_n 2, 1) := by decide +kernel
theorem dX2_hourGoes_4 : decode cX2_hourGoes 4 = .ok (.iload_n 2, 1) := by decide +kernel
theorem dX2_hourGoes_5 : decode cX2_hourGoes 5 = .ok (.aload_n 0, 1) := by decide +kernel
theorem dX2_hourGoes_6 : decode cX2_hourGoes 6 = .ok (.getfield 47, 3) := by decide +kernel
theorem dX2_hourGoes_9 : decode cX2_hourGoes 9 = .ok (.if_icmp .ge 82, 3) := by decide +kernel
theorem dX2_hourGoes_12 : decode cX2_hourGoes 12 = .ok (.aload_n 0, 1) := by decide +kernel
theorem dX2_hourGoes_13 : decode cX2_hourGoes 13 = .ok (.iload_n 2, 1) := by decide +kernel
theorem dX2_hourGoes_14 : decode cX2_hourGoes 14 = .ok (.invokevirtual 68, 3) := by decide +kernel
theorem dX2_hourGoes_17 : decode cX2_hourGoes 17 = .ok (.ifCond .eq 68, 3) := by decide +kernel
theorem dX2_hourGoes_20 : decode cX2_hourGoes 20 = .ok (.aload_n 0, 1) := by decide +kernel
theorem dX2_hourGoes_21 : decode cX2_hourGoes 21 = .ok (.iload_n 2, 1) := by decide +kernel
theorem dX2_hourGoes_22 : decode cX2_hourGoes 22 = .ok (.invokevirtual 105, 3) := by decide +kernel
theorem dX2_hourGoes_25 : decode cX2_hourGoes 25 = .ok (.istore_n 3, 1) := by decide +kernel
theorem dX2_hourGoes_26 : decode cX2_hourGoes 26 = .ok (.iload_n 1, 1) := by decide +kernel
theorem dX2_hourGoes_27 : decode cX2_hourGoes 27 = .ok (.iload_n 3, 1) := by decide +kernel
theorem dX2_hourGoes_28 : decode cX2_hourGoes 28 = .ok (.aload_n 0, 1) := by decide +kernel
theorem dX2_hourGoes_29 : decode cX2_hourGoes 29 = .ok (.getfield 21, 3) := by decide +kernel
theorem dX2_hourGoes_32 : decode cX2_hourGoes 32 = .ok (.iload_n 2, 1) := by decide +kernel
theorem dX2_hourGoes_33 : decode cX2_hourGoes 33 = .ok (.iaload, 1) := by decide +kernel
theorem dX2_hourGoes_34 : decode cX2_hourGoes 34 = .ok (.if_icmp .eq 7, 3) := by decide +kernel
theorem dX2_hourGoes_37 : decode cX2_hourGoes 37 = .ok (.iconst 1, 1) := by decide +kernel
theorem dX2_hourGoes_38 : decode cX2_hourGoes 38 = .ok (.goto 4, 3) := by decide +kernel
theorem dX2_hourGoes_41 : decode cX2_hourGoes 41 = .ok (.iconst 0, 1) := by decide +kernel
theorem dX2_hourGoes_42 : decode cX2_hourGoes 42 = .ok (.ior, 1) := by decide +kernel
theorem dX2_hourGoes_43 : decode cX2_hourGoes 43 = .ok (.istore_n 1, 1) := by decide +kernel
theorem dX2_hourGoes_44 : decode cX2_hourGoes 44 = .ok (.aload_n 0, 1) := by decide +kernel
theorem dX2_hourGoes_45 : decode cX2_hourGoes 45 = .ok (.getfield 21, 3) := by decide +kernel
theorem dX2_hourGoes_48 : decode cX2_hourGoes 48 = .ok (.iload_n 2, 1) := by decide +kernel
theorem dX2_hourGoes_49 : decode cX2_hourGoes 49 = .ok (.iload_n 3, 1) := by decide +kernel
theorem dX2_hourGoes_50 : decode cX2_hourGoes 50 = .ok (.iastore, 1) := by decide +kernel
theorem dX2_hourGoes_51 : decode cX2_hourGoes 51 = .ok (.aload_n 0, 1) := by decide +kernel
theorem dX2_hourGoes_52 : decode cX2_hourGoes 52 = .ok (.dup, 1) := by decide +kernel
theorem dX2_hourGoes_53 : decode cX2_hourGoes 53 = .ok (.getfield 53, 3) := by decide +kernel
theorem dX2_hourGoes_56 : decode cX2_hourGoes 56 = .ok (.lconst 1, 1) := by decide +kernel
theorem dX2_hourGoes_57 : decode cX2_hourGoes 57 = .ok (.iload_n 3, 1) := by decide +kernel
theorem dX2_hourGoes_58 : decode cX2_hourGoes 58 = .ok (.lshl, 1) := by decide +kernel
theorem dX2_hourGoes_59 : decode cX2_hourGoes 59 = .ok (.lor, 1) := by decide +kernel
theorem dX2_hourGoes_60 : decode cX2_hourGoes 60 = .ok (.putfield 53, 3) := by decide +kernel
theorem dX2_hourGoes_63 : decode cX2_hourGoes 63 = .ok (.aload_n 0, 1) := by decide +kernel
theorem dX2_hourGoes_64 : decode cX2_hourGoes 64 = .ok (.iload_n 3, 1) := by decide +kernel
theorem dX2_hourGoes_65 : decode cX2_hourGoes 65 = .ok (.invokevirtual 108, 3) := by decide +kernel
theorem dX2_hourGoes_68 : decode cX2_hourGoes 68 = .ok (.ifCond .eq 17, 3) := by decide +kernel
theorem dX2_hourGoes_71 : decode cX2_hourGoes 71 = .ok (.aload_n 0, 1) := by decide +kernel
theorem dX2_hourGoes_72 : decode cX2_hourGoes 72 = .ok (.dup, 1) := by decide +kernel
theorem dX2_hourGoes_73 : decode cX2_hourGoes 73 = .ok (.getfield 50, 3) := by decide +kernel
theorem dX2_hourGoes_76 : decode cX2_hourGoes 76 = .ok (.iconst 1, 1) := by decide +kernel
theorem dX2_hourGoes_77 : decode cX2_hourGoes 77 = .ok (.iload_n 2, 1) := by decide +kernel
theorem dX2_hourGoes_78 : decode cX2_hourGoes 78 = .ok (.ishl, 1) := by decide +kernel
theorem dX2_hourGoes_79 : decode cX2_hourGoes 79 = .ok (.ior, 1) := by decide +kernel
theorem dX2_hourGoes_80 : decode cX2_hourGoes 80 = .ok (.putfield 50, 3) := by decide +kernel
theorem dX2_hourGoes_83 : decode cX2_hourGoes 83 = .ok (.iconst 1, 1) := by decide +kernel
theorem dX2_hourGoes_84 : decode cX2_hourGoes 84 = .ok (.istore_n 1, 1) := by decide +kernel
theorem dX2_hourGoes_85 : decode cX2_hourGoes 85 = .ok (.iinc 2 1, 3) := by decide +kernel
theorem dX2_hourGoes_88 : decode cX2_hourGoes 88 = .ok (.goto (-84), 3) := by decide +kernel
theorem dX2_hourGoes_91 : decode cX2_hourGoes 91 = .ok (.aload_n 0, 1) := by decide +kernel
theorem dX2_hourGoes_92 : decode cX2_hourGoes 92 = .ok (.aload_n 0, 1) := by decide +kernel
theorem dX2_hourGoes_93 : decode cX2_hourGoes 93 = .ok (.getfield 40, 3) := by decide +kernel
theorem dX2_hourGoes_96 : decode cX2_hourGoes 96 = .ok (.iconst 1, 1) := by decide +kernel
theorem dX2_hourGoes_97 : decode cX2_hourGoes 97 = .ok (.iadd, 1) := by decide +kernel
theorem dX2_hourGoes_98 : decode cX2_hourGoes 98 = .ok (.ldc 111, 2) := by decide +kernel
theorem dX2_hourGoes_100 : decode cX2_hourGoes 100 = .ok (.invokestatic 92, 3) := by decide +kernel
theorem dX2_hourGoes_103 : decode cX2_hourGoes 103 = .ok (.putfield 40, 3) := by decide +kernel
theorem dX2_hourGoes_106 : decode cX2_hourGoes 106 = .ok (.iload_n 1, 1) := by decide +kernel
theorem dX2_hourGoes_107 : decode cX2_hourGoes 107 = .ok (.ireturn, 1) := by decide +kernel
theorem dX2_runHours_0 : decode cX2_runHours 0 = .ok (.iconst 1, 1) := by decide +kernel
theorem dX2_runHours_1 : decode cX2_runHours 1 = .ok (.istore_n 2, 1) := by decide +kernel
theorem dX2_runHours_2 : decode cX2_runHours 2 = .ok (.iconst 0, 1) := by decide +kernel
theorem dX2_runHours_3 : decode cX2_runHours 3 = .ok (.istore_n 3, 1) := by decide +kernel
theorem dX2_runHours_4 : decode cX2_runHours 4 = .ok (.iload_n 3, 1) := by decide +kernel
theorem dX2_runHours_5 : decode cX2_runHours 5 = .ok (.iload_n 1, 1) := by decide +kernel
theorem dX2_runHours_6 : decode cX2_runHours 6 = .ok (.if_icmp .ge 18, 3) := by decide +kernel
theorem dX2_runHours_9 : decode cX2_runHours 9 = .ok (.iload_n 2, 1) := by decide +kernel
theorem dX2_runHours_10 : decode cX2_runHours 10 = .ok (.ifCond .eq 14, 3) := by decide +kernel
theorem dX2_runHours_13 : decode cX2_runHours 13 = .ok (.aload_n 0, 1) := by decide +kernel
theorem dX2_runHours_14 : decode cX2_runHours 14 = .ok (.invokevirtual 112, 3) := by decide +kernel
theorem dX2_runHours_17 : decode cX2_runHours 17 = .ok (.istore_n 2, 1) := by decide +kernel
theorem dX2_runHours_18 : decode cX2_runHours 18 = .ok (.iinc 3 1, 3) := by decide +kernel
theorem dX2_runHours_21 : decode cX2_runHours 21 = .ok (.goto (-17), 3) := by decide +kernel
theorem dX2_runHours_24 : decode cX2_runHours 24 = .ok (.return_, 1) := by decide +kernel
theorem dX2_tillCaught_0 : decode cX2_tillCaught 0 = .ok (.iconst 1, 1) := by decide +kernel
theorem dX2_tillCaught_1 : decode cX2_tillCaught 1 = .ok (.istore_n 3, 1) := by decide +kernel
theorem dX2_tillCaught_2 : decode cX2_tillCaught 2 = .ok (.iconst 0, 1) := by decide +kernel
theorem dX2_tillCaught_3 : decode cX2_tillCaught 3 = .ok (.istore 4, 2) := by decide +kernel
theorem dX2_tillCaught_5 : decode cX2_tillCaught 5 = .ok (.iload 4, 2) := by decide +kernel
theorem dX2_tillCaught_7 : decode cX2_tillCaught 7 = .ok (.iload_n 2, 1) := by decide +kernel
theorem dX2_tillCaught_8 : decode cX2_tillCaught 8 = .ok (.if_icmp .gt 43, 3) := by decide +kernel
theorem dX2_tillCaught_11 : decode cX2_tillCaught 11 = .ok (.iload_n 3, 1) := by decide +kernel
theorem dX2_tillCaught_12 : decode cX2_tillCaught 12 = .ok (.ifCond .eq 39, 3) := by decide +kernel
theorem dX2_tillCaught_15 : decode cX2_tillCaught 15 = .ok (.aload_n 0, 1) := by decide +kernel
theorem dX2_tillCaught_16 : decode cX2_tillCaught 16 = .ok (.iload_n 1, 1) := by decide +kernel
theorem dX2_tillCaught_17 : decode cX2_tillCaught 17 = .ok (.invokevirtual 68, 3) := by decide +kernel
theorem dX2_tillCaught_20 : decode cX2_tillCaught 20 = .ok (.ifCond .ne 6, 3) := by decide +kernel
theorem dX2_tillCaught_23 : decode cX2_tillCaught 23 = .ok (.iload 4, 2) := by decide +kernel
theorem dX2_tillCaught_25 : decode cX2_tillCaught 25 = .ok (.ireturn, 1) := by decide +kernel
theorem dX2_tillCaught_26 : decode cX2_tillCaught 26 = .ok (.iload 4, 2) := by decide +kernel
theorem dX2_tillCaught_28 : decode cX2_tillCaught 28 = .ok (.iload_n 2, 1) := by decide +kernel
theorem dX2_tillCaught_29 : decode cX2_tillCaught 29 = .ok (.if_icmp .ge 14, 3) := by decide +kernel
theorem dX2_tillCaught_32 : decode cX2_tillCaught 32 = .ok (.aload_n 0, 1) := by decide +kernel
theorem dX2_tillCaught_33 : decode cX2_tillCaught 33 = .ok (.invokevirtual 112, 3) := by decide +kernel
theorem dX2_tillCaught_36 : decode cX2_tillCaught 36 = .ok (.ifCond .eq 7, 3) := by decide +kernel
theorem dX2_tillCaught_39 : decode cX2_tillCaught 39 = .ok (.iconst 1, 1) := by decide +kernel
theorem dX2_tillCaught_40 : decode cX2_tillCaught 40 = .ok (.goto 4, 3) := by decide +kernel
theorem dX2_tillCaught_43 : decode cX2_tillCaught 43 = .ok (.iconst 0, 1) := by decide +kernel
theorem dX2_tillCaught_44 : decode cX2_tillCaught 44 = .ok (.istore_n 3, 1) := by decide +kernel
theorem dX2_tillCaught_45 : decode cX2_tillCaught 45 = .ok (.iinc 4 1, 3) := by decide +kernel
theorem dX2_tillCaught_48 : decode cX2_tillCaught 48 = .ok (.goto (-43), 3) := by decide +kernel
theorem dX2_tillCaught_51 : decode cX2_tillCaught 51 = .ok (.iconst (-1), 1) := by decide +kernel
theorem dX2_tillCaught_52 : decode cX2_tillCaught 52 = .ok (.ireturn, 1) := by decide +kernel
theorem dX2_draw_0 : decode cX2_draw 0 = .ok (.aload_n 0, 1) := by decide +kernel
theorem dX2_draw_1 : decode cX2_draw 1 = .ok (.aload_n 0, 1) := by decide +kernel
theorem dX2_draw_2 : decode cX2_draw 2 = .ok (.getfield 37, 3) := by decide +kernel
theorem dX2_draw_5 : decode cX2_draw 5 = .ok (.ldc 116, 2) := by decide +kernel
theorem dX2_draw_7 : decode cX2_draw 7 = .ok (.imul, 1) := by decide +kernel
theorem dX2_draw_8 : decode cX2_draw 8 = .ok (.sipush 12345, 3) := by decide +kernel
theorem dX2_draw_11 : decode cX2_draw 11 = .ok (.iadd, 1) := by decide +kernel
theorem dX2_draw_12 : decode cX2_draw 12 = .ok (.putfield 37, 3) := by decide +kernel
theorem dX2_draw_15 : decode cX2_draw 15 = .ok (.aload_n 0, 1) := by decide +kernel
theorem dX2_draw_16 : decode cX2_draw 16 = .ok (.getfield 37, 3) := by decide +kernel
theorem dX2_draw_19 : decode cX2_draw 19 = .ok (.bipush 8, 2) := by decide +kernel
theorem dX2_draw_21 : decode cX2_draw 21 = .ok (.iushr, 1) := by decide +kernel
theorem dX2_draw_22 : decode cX2_draw 22 = .ok (.ireturn, 1) := by decide +kernel
theorem dX2_strike_0 : decode cX2_strike 0 = .ok (.aload_n 0, 1) := by decide +kernel
theorem dX2_strike_1 : decode cX2_strike 1 = .ok (.getfield 47, 3) := by decide +kernel
theorem dX2_strike_4 : decode cX2_strike 4 = .ok (.iconst 1, 1) := by decide +kernel
theorem dX2_strike_5 : decode cX2_strike 5 = .ok (.if_icmp .ge 4, 3) := by decide +kernel
theorem dX2_strike_8 : decode cX2_strike 8 = .ok (.return_, 1) := by decide +kernel
theorem dX2_strike_9 : decode cX2_strike 9 = .ok (.aload_n 0, 1) := by decide +kernel
theorem dX2_strike_10 : decode cX2_strike 10 = .ok (.invokevirtual 117, 3) := by decide +kernel
theorem dX2_strike_13 : decode cX2_strike 13 = .ok (.aload_n 0, 1) := by decide +kernel
theorem dX2_strike_14 : decode cX2_strike 14 = .ok (.getfield 47, 3) := by decide +kernel
theorem dX2_strike_17 : decode cX2_strike 17 = .ok (.irem, 1) := by decide +kernel
theorem dX2_strike_18 : decode cX2_strike 18 = .ok (.istore_n 1, 1) := by decide +kernel
theorem dX2_strike_19 : decode cX2_strike 19 = .ok (.aload_n 0, 1) := by decide +kernel
theorem dX2_strike_20 : decode cX2_strike 20 = .ok (.invokevirtual 117, 3) := by decide +kernel
theorem dX2_strike_23 : decode cX2_strike 23 = .ok (.bipush 64, 2) := by decide +kernel
theorem dX2_strike_25 : decode cX2_strike 25 = .ok (.irem, 1) := by decide +kernel
theorem dX2_strike_26 : decode cX2_strike 26 = .ok (.istore_n 2, 1) := by decide +kernel
theorem dX2_strike_27 : decode cX2_strike 27 = .ok (.aload_n 0, 1) := by decide +kernel
theorem dX2_strike_28 : decode cX2_strike 28 = .ok (.iload_n 1, 1) := by decide +kernel
theorem dX2_strike_29 : decode cX2_strike 29 = .ok (.invokevirtual 68, 3) := by decide +kernel
theorem dX2_strike_32 : decode cX2_strike 32 = .ok (.ifCond .eq 10, 3) := by decide +kernel
theorem dX2_strike_35 : decode cX2_strike 35 = .ok (.aload_n 0, 1) := by decide +kernel
theorem dX2_strike_36 : decode cX2_strike 36 = .ok (.getfield 21, 3) := by decide +kernel
theorem dX2_strike_39 : decode cX2_strike 39 = .ok (.iload_n 1, 1) := by decide +kernel
theorem dX2_strike_40 : decode cX2_strike 40 = .ok (.iload_n 2, 1) := by decide +kernel
theorem dX2_strike_41 : decode cX2_strike 41 = .ok (.iastore, 1) := by decide +kernel
theorem dX2_strike_42 : decode cX2_strike 42 = .ok (.return_, 1) := by decide +kernel
theorem dX2_notesThere_0 : decode cX2_notesThere 0 = .ok (.iconst 0, 1) := by decide +kernel
theorem dX2_notesThere_1 : decode cX2_notesThere 1 = .ok (.istore_n 1, 1) := by decide +kernel
theorem dX2_notesThere_2 : decode cX2_notesThere 2 = .ok (.iconst 0, 1) := by decide +kernel
theorem dX2_notesThere_3 : decode cX2_notesThere 3 = .ok (.istore_n 2, 1) := by decide +kernel
theorem dX2_notesThere_4 : decode cX2_notesThere 4 = .ok (.iload_n 2, 1) := by decide +kernel
theorem dX2_notesThere_5 : decode cX2_notesThere 5 = .ok (.aload_n 0, 1) := by decide +kernel
theorem dX2_notesThere_6 : decode cX2_notesThere 6 = .ok (.getfield 47, 3) := by decide +kernel
theorem dX2_notesThere_9 : decode cX2_notesThere 9 = .ok (.if_icmp .ge 20, 3) := by decide +kernel
theorem dX2_notesThere_12 : decode cX2_notesThere 12 = .ok (.iload_n 1, 1) := by decide +kernel
theorem dX2_notesThere_13 : decode cX2_notesThere 13 = .ok (.iconst 1, 1) := by decide +kernel
theorem dX2_notesThere_14 : decode cX2_notesThere 14 = .ok (.aload_n 0, 1) := by decide +kernel
theorem dX2_notesThere_15 : decode cX2_notesThere 15 = .ok (.getfield 24, 3) := by decide +kernel
theorem dX2_notesThere_18 : decode cX2_notesThere 18 = .ok (.iload_n 2, 1) := by decide +kernel
theorem dX2_notesThere_19 : decode cX2_notesThere 19 = .ok (.iaload, 1) := by decide +kernel
theorem dX2_notesThere_20 : decode cX2_notesThere 20 = .ok (.ishl, 1) := by decide +kernel
theorem dX2_notesThere_21 : decode cX2_notesThere 21 = .ok (.ior, 1) := by decide +kernel
theorem dX2_notesThere_22 : decode cX2_notesThere 22 = .ok (.istore_n 1, 1) := by decide +kernel
theorem dX2_notesThere_23 : decode cX2_notesThere 23 = .ok (.iinc 2 1, 3) := by decide +kernel
theorem dX2_notesThere_26 : decode cX2_notesThere 26 = .ok (.goto (-22), 3) := by decide +kernel
theorem dX2_notesThere_29 : decode cX2_notesThere 29 = .ok (.iload_n 1, 1) := by decide +kernel
theorem dX2_notesThere_30 : decode cX2_notesThere 30 = .ok (.ireturn, 1) := by decide +kernel
theorem dX2_isRing_0 : decode cX2_isRing 0 = .ok (.iconst 0, 1) := by decide +kernel
theorem dX2_isRing_1 : decode cX2_isRing 1 = .ok (.istore_n 2, 1) := by decide +kernel
theorem dX2_isRing_2 : decode cX2_isRing 2 = .ok (.iconst 0, 1) := by decide +kernel
theorem dX2_isRing_3 : decode cX2_isRing 3 = .ok (.istore_n 3, 1) := by decide +kernel
theorem dX2_isRing_4 : decode cX2_isRing 4 = .ok (.iload_n 3, 1) := by decide +kernel
theorem dX2_isRing_5 : decode cX2_isRing 5 = .ok (.aload_n 0, 1) := by decide +kernel
theorem dX2_isRing_6 : decode cX2_isRing 6 = .ok (.getfield 47, 3) := by decide +kernel
theorem dX2_isRing_9 : decode cX2_isRing 9 = .ok (.if_icmp .ge 45, 3) := by decide +kernel
theorem dX2_isRing_12 : decode cX2_isRing 12 = .ok (.iload_n 1, 1) := by decide +kernel
theorem dX2_isRing_13 : decode cX2_isRing 13 = .ok (.i2l, 1) := by decide +kernel
theorem dX2_isRing_14 : decode cX2_isRing 14 = .ok (.iload_n 3, 1) := by decide +kernel
theorem dX2_isRing_15 : decode cX2_isRing 15 = .ok (.invokestatic 62, 3) := by decide +kernel
theorem dX2_isRing_18 : decode cX2_isRing 18 = .ok (.ifCond .eq 30, 3) := by decide +kernel
theorem dX2_isRing_21 : decode cX2_isRing 21 = .ok (.iload_n 2, 1) := by decide +kernel
theorem dX2_isRing_22 : decode cX2_isRing 22 = .ok (.i2l, 1) := by decide +kernel
theorem dX2_isRing_23 : decode cX2_isRing 23 = .ok (.aload_n 0, 1) := by decide +kernel
theorem dX2_isRing_24 : decode cX2_isRing 24 = .ok (.getfield 24, 3) := by decide +kernel
theorem dX2_isRing_27 : decode cX2_isRing 27 = .ok (.iload_n 3, 1) := by decide +kernel
theorem dX2_isRing_28 : decode cX2_isRing 28 = .ok (.iaload, 1) := by decide +kernel
theorem dX2_isRing_29 : decode cX2_isRing 29 = .ok (.invokestatic 62, 3) := by decide +kernel
theorem dX2_isRing_32 : decode cX2_isRing 32 = .ok (.ifCond .eq 5, 3) := by decide +kernel
theorem dX2_isRing_35 : decode cX2_isRing 35 = .ok (.iconst 0, 1) := by decide +kernel
theorem dX2_isRing_36 : decode cX2_isRing 36 = .ok (.ireturn, 1) := by decide +kernel
theorem dX2_isRing_37 : decode cX2_isRing 37 = .ok (.iload_n 2, 1) := by decide +kernel
theorem dX2_isRing_38 : decode cX2_isRing 38 = .ok (.iconst 1, 1) := by decide +kernel
theorem dX2_isRing_39 : decode cX2_isRing 39 = .ok (.aload_n 0, 1) := by decide +kernel
theorem dX2_isRing_40 : decode cX2_isRing 40 = .ok (.getfield 24, 3) := by decide +kernel
theorem dX2_isRing_43 : decode cX2_isRing 43 = .ok (.iload_n 3, 1) := by decide +kernel
theorem dX2_isRing_44 : decode cX2_isRing 44 = .ok (.iaload, 1) := by decide +kernel
theorem dX2_isRing_45 : decode cX2_isRing 45 = .ok (.ishl, 1) := by decide +kernel
theorem dX2_isRing_46 : decode cX2_isRing 46 = .ok (.ior, 1) := by decide +kernel
theorem dX2_isRing_47 : decode cX2_isRing 47 = .ok (.istore_n 2, 1) := by decide +kernel
theorem dX2_isRing_48 : decode cX2_isRing 48 = .ok (.iinc 3 1, 3) := by decide +kernel
theorem dX2_isRing_51 : decode cX2_isRing 51 = .ok (.goto (-47), 3) := by decide +kernel
theorem dX2_isRing_54 : decode cX2_isRing 54 = .ok (.iload_n 2, 1) := by decide +kernel
theorem dX2_isRing_55 : decode cX2_isRing 55 = .ok (.invokestatic 121, 3) := by decide +kernel
theorem dX2_isRing_58 : decode cX2_isRing 58 = .ok (.iload_n 1, 1) := by decide +kernel
theorem dX2_isRing_59 : decode cX2_isRing 59 = .ok (.invokestatic 124, 3) := by decide +kernel
theorem dX2_isRing_62 : decode cX2_isRing 62 = .ok (.if_icmp .ne 7, 3) := by decide +kernel
theorem dX2_isRing_65 : decode cX2_isRing 65 = .ok (.iconst 1, 1) := by decide +kernel
theorem dX2_isRing_66 : decode cX2_isRing 66 = .ok (.goto 4, 3) := by decide +kernel
theorem dX2_isRing_69 : decode cX2_isRing 69 = .ok (.iconst 0, 1) := by decide +kernel
theorem dX2_isRing_70 : decode cX2_isRing 70 = .ok (.ireturn, 1) := by decide +kernel
theorem dX2_greatestRing_0 : decode cX2_greatestRing 0 = .ok (.iconst 0, 1) := by decide +kernel
theorem dX2_greatestRing_1 : decode cX2_greatestRing 1 = .ok (.istore_n 1, 1) := by decide +kernel
theorem dX2_greatestRing_2 : decode cX2_greatestRing 2 = .ok (.iconst 1, 1) := by decide +kernel
theorem dX2_greatestRing_3 : decode cX2_greatestRing 3 = .ok (.istore_n 2, 1) := by decide +kernel
theorem dX2_greatestRing_4 : decode cX2_greatestRing 4 = .ok (.iload_n 2, 1) := by decide +kernel
theorem dX2_greatestRing_5 : decode cX2_greatestRing 5 = .ok (.iconst 1, 1) := by decide +kernel
theorem dX2_greatestRing_6 : decode cX2_greatestRing 6 = .ok (.aload_n 0, 1) := by decide +kernel
theorem dX2_greatestRing_7 : decode cX2_greatestRing 7 = .ok (.getfield 47, 3) := by decide +kernel
theorem dX2_greatestRing_10 : decode cX2_greatestRing 10 = .ok (.ishl, 1) := by decide +kernel
theorem dX2_greatestRing_11 : decode cX2_greatestRing 11 = .ok (.if_icmp .ge 30, 3) := by decide +kernel
theorem dX2_greatestRing_14 : decode cX2_greatestRing 14 = .ok (.iload_n 2, 1) := by decide +kernel
theorem dX2_greatestRing_15 : decode cX2_greatestRing 15 = .ok (.invokestatic 124, 3) := by decide +kernel
theorem dX2_greatestRing_18 : decode cX2_greatestRing 18 = .ok (.iload_n 1, 1) := by decide +kernel
theorem dX2_greatestRing_19 : decode cX2_greatestRing 19 = .ok (.invokestatic 124, 3) := by decide +kernel
theorem dX2_greatestRing_22 : decode cX2_greatestRing 22 = .ok (.if_icmp .le 13, 3) := by decide +kernel
theorem dX2_greatestRing_25 : decode cX2_greatestRing 25 = .ok (.aload_n 0, 1) := by decide +kernel
theorem dX2_greatestRing_26 : decode cX2_greatestRing 26 = .ok (.iload_n 2, 1) := by decide +kernel
theorem dX2_greatestRing_27 : decode cX2_greatestRing 27 = .ok (.invokevirtual 129, 3) := by decide +kernel
theorem dX2_greatestRing_30 : decode cX2_greatestRing 30 = .ok (.ifCond .eq 5, 3) := by decide +kernel
theorem dX2_greatestRing_33 : decode cX2_greatestRing 33 = .ok (.iload_n 2, 1) := by decide +kernel
theorem dX2_greatestRing_34 : decode cX2_greatestRing 34 = .ok (.istore_n 1, 1) := by decide +kernel
theorem dX2_greatestRing_35 : decode cX2_greatestRing 35 = .ok (.iinc 2 1, 3) := by decide +kernel
theorem dX2_greatestRing_38 : decode cX2_greatestRing 38 = .ok (.goto (-34), 3) := by decide +kernel
theorem dX2_greatestRing_41 : decode cX2_greatestRing 41 = .ok (.iload_n 1, 1) := by decide +kernel
theorem dX2_greatestRing_42 : decode cX2_greatestRing 42 = .ok (.ireturn, 1) := by decide +kernel
theorem dX2_followsInRing_0 : decode cX2_followsInRing 0 = .ok (.aload_n 0, 1) := by decide +kernel
theorem dX2_followsInRing_1 : decode cX2_followsInRing 1 = .ok (.getfield 24, 3) := by decide +kernel
theorem dX2_followsInRing_4 : decode cX2_followsInRing 4 = .ok (.iload_n 2, 1) := by decide +kernel
theorem dX2_followsInRing_5 : decode cX2_followsInRing 5 = .ok (.iaload, 1) := by decide +kernel
theorem dX2_followsInRing_6 : decode cX2_followsInRing 6 = .ok (.aload_n 0, 1) := by decide +kernel
theorem dX2_followsInRing_7 : decode cX2_followsInRing 7 = .ok (.getfield 24, 3) := by decide +kernel
theorem dX2_followsInRing_10 : decode cX2_followsInRing 10 = .ok (.iload_n 1, 1) := by decide +kernel
theorem dX2_followsInRing_11 : decode cX2_followsInRing 11 = .ok (.iaload, 1) := by decide +kernel
theorem dX2_followsInRing_12 : decode cX2_followsInRing 12 = .ok (.isub, 1) := by decide +kernel
theorem dX2_followsInRing_13 : decode cX2_followsInRing 13 = .ok (.istore_n 3, 1) := by decide +kernel
theorem dX2_followsInRing_14 : decode cX2_followsInRing 14 = .ok (.iload_n 3, 1) := by decide +kernel
theorem dX2_followsInRing_15 : decode cX2_followsInRing 15 = .ok (.iconst 1, 1) := by decide +kernel
theorem dX2_followsInRing_16 : decode cX2_followsInRing 16 = .ok (.if_icmp .eq 8, 3) := by decide +kernel
theorem dX2_followsInRing_19 : decode cX2_followsInRing 19 = .ok (.iload_n 3, 1) := by decide +kernel
theorem dX2_followsInRing_20 : decode cX2_followsInRing 20 = .ok (.iconst 2, 1) := by decide +kernel
theorem dX2_followsInRing_21 : decode cX2_followsInRing 21 = .ok (.if_icmp .ne 7, 3) := by decide +kernel
theorem dX2_followsInRing_24 : decode cX2_followsInRing 24 = .ok (.iconst 1, 1) := by decide +kernel
theorem dX2_followsInRing_25 : decode cX2_followsInRing 25 = .ok (.goto 4, 3) := by decide +kernel
theorem dX2_followsInRing_28 : decode cX2_followsInRing 28 = .ok (.iconst 0, 1) := by decide +kernel
theorem dX2_followsInRing_29 : decode cX2_followsInRing 29 = .ok (.ireturn, 1) := by decide +kernel
theorem dX3_init_0 : decode cX3_init 0 = .ok (.aload_n 0, 1) := by decide +kernel
theorem dX3_init_1 : decode cX3_init 1 = .ok (.invokespecial 1, 3) := by decide +kernel
theorem dX3_init_4 : decode cX3_init 4 = .ok (.aload_n 0, 1) := by decide +kernel
theorem dX3_init_5 : decode cX3_init 5 = .ok (.new 7, 3) := by decide +kernel
theorem dX3_init_8 : decode cX3_init 8 = .ok (.dup, 1) := by decide +kernel
theorem dX3_init_9 : decode cX3_init 9 = .ok (.invokespecial 9, 3) := by decide +kernel
theorem dX3_init_12 : decode cX3_init 12 = .ok (.putfield 10, 3) := by decide +kernel
theorem dX3_init_15 : decode cX3_init 15 = .ok (.aload_n 0, 1) := by decide +kernel
theorem dX3_init_16 : decode cX3_init 16 = .ok (.new 7, 3) := by decide +kernel
theorem dX3_init_19 : decode cX3_init 19 = .ok (.dup, 1) := by decide +kernel
theorem dX3_init_20 : decode cX3_init 20 = .ok (.invokespecial 9, 3) := by decide +kernel
theorem dX3_init_23 : decode cX3_init 23 = .ok (.putfield 16, 3) := by decide +kernel
theorem dX3_init_26 : decode cX3_init 26 = .ok (.aload_n 0, 1) := by decide +kernel
theorem dX3_init_27 : decode cX3_init 27 = .ok (.new 7, 3) := by decide +kernel
theorem dX3_init_30 : decode cX3_init 30 = .ok (.dup, 1) := by decide +kernel
theorem dX3_init_31 : decode cX3_init 31 = .ok (.invokespecial 9, 3) := by decide +kernel
theorem dX3_init_34 : decode cX3_init 34 = .ok (.putfield 19, 3) := by decide +kernel
theorem dX3_init_37 : decode cX3_init 37 = .ok (.aload_n 0, 1) := by decide +kernel
theorem dX3_init_38 : decode cX3_init 38 = .ok (.iconst 0, 1) := by decide +kernel
theorem dX3_init_39 : decode cX3_init 39 = .ok (.putfield 22, 3) := by decide +kernel
theorem dX3_init_42 : decode cX3_init 42 = .ok (.aload_n 0, 1) := by decide +kernel
theorem dX3_init_43 : decode cX3_init 43 = .ok (.new 26, 3) := by decide +kernel
theorem dX3_init_46 : decode cX3_init 46 = .ok (.dup, 1) := by decide +kernel
theorem dX3_init_47 : decode cX3_init 47 = .ok (.invokespecial 28, 3) := by decide +kernel
theorem dX3_init_50 : decode cX3_init 50 = .ok (.putfield 29, 3) := by decide +kernel
theorem dX3_init_53 : decode cX3_init 53 = .ok (.aload_n 0, 1) := by decide +kernel
theorem dX3_init_54 : decode cX3_init 54 = .ok (.iconst 4, 1) := by decide +kernel
theorem dX3_init_55 : decode cX3_init 55 = .ok (.anewarray 33, 3) := by decide +kernel
theorem dX3_init_58 : decode cX3_init 58 = .ok (.putfield 35, 3) := by decide +kernel
theorem dX3_init_61 : decode cX3_init 61 = .ok (.iconst 0, 1) := by decide +kernel
theorem dX3_init_62 : decode cX3_init 62 = .ok (.istore_n 1, 1) := by decide +kernel
theorem dX3_init_63 : decode cX3_init 63 = .ok (.iload_n 1, 1) := by decide +kernel
theorem dX3_init_64 : decode cX3_init 64 = .ok (.iconst 4, 1) := by decide +kernel
theorem dX3_init_65 : decode cX3_init 65 = .ok (.if_icmp .ge 22, 3) := by decide +kernel
theorem dX3_init_68 : decode cX3_init 68 = .ok (.aload_n 0, 1) := by decide +kernel
theorem dX3_init_69 : decode cX3_init 69 = .ok (.getfield 35, 3) := by decide +kernel
theorem dX3_init_72 : decode cX3_init 72 = .ok (.iload_n 1, 1) := by decide +kernel
theorem dX3_init_73 : decode cX3_init 73 = .ok (.new 33, 3) := by decide +kernel
theorem dX3_init_76 : decode cX3_init 76 = .ok (.dup, 1) := by decide +kernel
theorem dX3_init_77 : decode cX3_init 77 = .ok (.invokespecial 39, 3) := by decide +kernel
theorem dX3_init_80 : decode cX3_init 80 = .ok (.aastore, 1) := by decide +kernel
theorem dX3_init_81 : decode cX3_init 81 = .ok (.iinc 1 1, 3) := by decide +kernel
theorem dX3_init_84 : decode cX3_init 84 = .ok (.goto (-21), 3) := by decide +kernel
theorem dX3_init_87 : decode cX3_init 87 = .ok (.aload_n 0, 1) := by decide +kernel
theorem dX3_init_88 : decode cX3_init 88 = .ok (.bipush 7, 2) := by decide +kernel
theorem dX3_init_90 : decode cX3_init 90 = .ok (.newarray .int, 2) := by decide +kernel
theorem dX3_init_92 : decode cX3_init 92 = .ok (.putfield 40, 3) := by decide +kernel
theorem dX3_init_95 : decode cX3_init 95 = .ok (.aload_n 0, 1) := by decide +kernel
theorem dX3_init_96 : decode cX3_init 96 = .ok (.bipush 16, 2) := by decide +kernel
theorem dX3_init_98 : decode cX3_init 98 = .ok (.newarray .int, 2) := by decide +kernel
theorem dX3_init_100 : decode cX3_init 100 = .ok (.putfield 44, 3) := by decide +kernel
theorem dX3_init_103 : decode cX3_init 103 = .ok (.return_, 1) := by decide +kernel
theorem dX3_net_0 : decode cX3_net 0 = .ok (.iload_n 1, 1) := by decide +kernel
theorem dX3_net_1 : decode cX3_net 1 = .ok (.invokestatic 47, 3) := by decide +kernel
theorem dX3_net_4 : decode cX3_net 4 = .ok (.ifCond .eq 12, 3) := by decide +kernel
theorem dX3_net_7 : decode cX3_net 7 = .ok (.iload_n 2, 1) := by decide +kernel
theorem dX3_net_8 : decode cX3_net 8 = .ok (.ifCond .lt 8, 3) := by decide +kernel
theorem dX3_net_11 : decode cX3_net 11 = .ok (.iload_n 2, 1) := by decide +kernel
theorem dX3_net_12 : decode cX3_net 12 = .ok (.iconst 1, 1) := by decide +kernel
theorem dX3_net_13 : decode cX3_net 13 = .ok (.if_icmp .le 9, 3) := by decide +kernel
theorem dX3_net_16 : decode cX3_net 16 = .ok (.aload_n 0, 1) := by decide +kernel
theorem dX3_net_17 : decode cX3_net 17 = .ok (.iconst 0, 1) := by decide +kernel
theorem dX3_net_18 : decode cX3_net 18 = .ok (.invokevirtual 51, 3) := by decide +kernel
theorem dX3_net_21 : decode cX3_net 21 = .ok (.ireturn, 1) := by decide +kernel
theorem dX3_net_22 : decode cX3_net 22 = .ok (.aload_n 0, 1) := by decide +kernel
theorem dX3_net_23 : decode cX3_net 23 = .ok (.getfield 10, 3) := by decide +kernel
theorem dX3_net_26 : decode cX3_net 26 = .ok (.iload_n 1, 1) := by decide +kernel
theorem dX3_net_27 : decode cX3_net 27 = .ok (.invokevirtual 55, 3) := by decide +kernel
theorem dX3_net_30 : decode cX3_net 30 = .ok (.iload_n 2, 1) := by decide +kernel
theorem dX3_net_31 : decode cX3_net 31 = .ok (.iconst 1, 1) := by decide +kernel
theorem dX3_net_32 : decode cX3_net 32 = .ok (.if_icmp .ne 7, 3) := by decide +kernel
theorem dX3_net_35 : decode cX3_net 35 = .ok (.iconst 1, 1) := by decide +kernel
theorem dX3_net_36 : decode cX3_net 36 = .ok (.goto 4, 3) := by decide +kernel
theorem dX3_net_39 : decode cX3_net 39 = .ok (.iconst 0, 1) := by decide +kernel
theorem dX3_net_40 : decode cX3_net 40 = .ok (.if_icmp .eq 7, 3) := by decide +kernel
theorem dX3_net_43 : decode cX3_net 43 = .ok (.iconst 1, 1) := by decide +kernel
theorem dX3_net_44 : decode cX3_net 44 = .ok (.goto 4, 3) := by decide +kernel
theorem dX3_net_47 : decode cX3_net 47 = .ok (.iconst 0, 1) := by decide +kernel
theorem dX3_net_48 : decode cX3_net 48 = .ok (.istore_n 3, 1) := by decide +kernel
theorem dX3_net_49 : decode cX3_net 49 = .ok (.aload_n 0, 1) := by decide +kernel
theorem dX3_net_50 : decode cX3_net 50 = .ok (.getfield 10, 3) := by decide +kernel
theorem dX3_net_53 : decode cX3_net 53 = .ok (.iload_n 1, 1) := by decide +kernel
theorem dX3_net_54 : decode cX3_net 54 = .ok (.iload_n 2, 1) := by decide +kernel
theorem dX3_net_55 : decode cX3_net 55 = .ok (.iconst 1, 1) := by decide +kernel
theorem dX3_net_56 : decode cX3_net 56 = .ok (.if_icmp .ne 7, 3) := by decide +kernel
theorem dX3_net_59 : decode cX3_net 59 = .ok (.iconst 1, 1) := by decide +kernel
theorem dX3_net_60 : decode cX3_net 60 = .ok (.goto 4, 3) := by decide +kernel
theorem dX3_net_63 : decode cX3_net 63 = .ok (.iconst 0, 1) := by decide +kernel
theorem dX3_net_64 : decode cX3_net 64 = .ok (.invokevirtual 58, 3) := by decide +kernel
theorem dX3_net_67 : decode cX3_net 67 = .ok (.iload_n 3, 1) := by decide +kernel
theorem dX3_net_68 : decode cX3_net 68 = .ok (.ifCond .eq 7, 3) := by decide +kernel
theorem dX3_net_71 : decode cX3_net 71 = .ok (.iconst 1, 1) := by decide +kernel
theorem dX3_net_72 : decode cX3_net 72 = .ok (.goto 4, 3) := by decide +kernel
theorem dX3_net_75 : decode cX3_net 75 = .ok (.iconst 0, 1) := by decide +kernel
theorem dX3_net_76 : decode cX3_net 76 = .ok (.ireturn, 1) := by decide +kernel
theorem dX3_thick_0 : decode cX3_thick 0 = .ok (.iload_n 1, 1) := by decide +kernel
theorem dX3_thick_1 : decode cX3_thick 1 = .ok (.invokestatic 47, 3) := by decide +kernel
theorem dX3_thick_4 : decode cX3_thick 4 = .ok (.ifCond .eq 13, 3) := by decide +kernel
theorem dX3_thick_7 : decode cX3_thick 7 = .ok (.iload_n 2, 1) := by decide +kernel
theorem dX3_thick_8 : decode cX3_thick 8 = .ok (.ifCond .lt 9, 3) := by decide +kernel
theorem dX3_thick_11 : decode cX3_thick 11 = .ok (.iload_n 2, 1) := by decide +kernel
theorem dX3_thick_12 : decode cX3_thick 12 = .ok (.bipush 9, 2) := by decide +kernel
theorem dX3_thick_14 : decode cX3_thick 14 = .ok (.if_icmp .le 9, 3) := by decide +kernel
theorem dX3_thick_17 : decode cX3_thick 17 = .ok (.aload_n 0, 1) := by decide +kernel
theorem dX3_thick_18 : decode cX3_thick 18 = .ok (.iconst 0, 1) := by decide +kernel
theorem dX3_thick_19 : decode cX3_thick 19 = .ok (.invokevirtual 51, 3) := by decide +kernel
theorem dX3_thick_22 : decode cX3_thick 22 = .ok (.ireturn, 1) := by decide +kernel
theorem dX3_thick_23 : decode cX3_thick 23 = .ok (.aload_n 0, 1) := by decide +kernel
theorem dX3_thick_24 : decode cX3_thick 24 = .ok (.getfield 10, 3) := by decide +kernel
theorem dX3_thick_27 : decode cX3_thick 27 = .ok (.getfield 62, 3) := by decide +kernel
theorem dX3_thick_30 : decode cX3_thick 30 = .ok (.iload_n 1, 1) := by decide +kernel
theorem dX3_thick_31 : decode cX3_thick 31 = .ok (.iaload, 1) := by decide +kernel
theorem dX3_thick_32 : decode cX3_thick 32 = .ok (.istore_n 3, 1) := by decide +kernel
theorem dX3_thick_33 : decode cX3_thick 33 = .ok (.aload_n 0, 1) := by decide +kernel
theorem dX3_thick_34 : decode cX3_thick 34 = .ok (.getfield 10, 3) := by decide +kernel
theorem dX3_thick_37 : decode cX3_thick 37 = .ok (.getfield 62, 3) := by decide +kernel
theorem dX3_thick_40 : decode cX3_thick 40 = .ok (.iload_n 1, 1) := by decide +kernel
theorem dX3_thick_41 : decode cX3_thick 41 = .ok (.iload_n 2, 1) := by decide +kernel
theorem dX3_thick_42 : decode cX3_thick 42 = .ok (.iastore, 1) := by decide +kernel
theorem dX3_thick_43 : decode cX3_thick 43 = .ok (.iload_n 3, 1) := by decide +kernel
theorem dX3_thick_44 : decode cX3_thick 44 = .ok (.ireturn, 1) := by decide +kernel
theorem dX3_cell_0 : decode cX3_cell 0 = .ok (.iload_n 1, 1) := by decide +kernel
theorem dX3_cell_1 : decode cX3_cell 1 = .ok (.invokestatic 47, 3) := by decide +kernel
theorem dX3_cell_4 : decode cX3_cell 4 = .ok (.ifCond .ne 9, 3) := by decide +kernel
theorem dX3_cell_7 : decode cX3_cell 7 = .ok (.aload_n 0, 1) := by decide +kernel
theorem dX3_cell_8 : decode cX3_cell 8 = .ok (.iconst 0, 1) := by decide +kernel
theorem dX3_cell_9 : decode cX3_cell 9 = .ok (.invokevirtual 51, 3) := by decide +kernel
theorem dX3_cell_12 : decode cX3_cell 12 = .ok (.ireturn, 1) := by decide +kernel
theorem dX3_cell_13 : decode cX3_cell 13 = .ok (.iload_n 2, 1) := by decide +kernel
theorem dX3_cell_14 : decode cX3_cell 14 = .ok (.tableswitch 75 0 3 #[30, 47, 57, 66], 30) := by decide +kernel
theorem dX3_cell_44 : decode cX3_cell 44 = .ok (.aload_n 0, 1) := by decide +kernel
theorem dX3_cell_45 : decode cX3_cell 45 = .ok (.getfield 10, 3) := by decide +kernel
theorem dX3_cell_48 : decode cX3_cell 48 = .ok (.iload_n 1, 1) := by decide +kernel
theorem dX3_cell_49 : decode cX3_cell 49 = .ok (.invokevirtual 55, 3) := by decide +kernel
theorem dX3_cell_52 : decode cX3_cell 52 = .ok (.ifCond .eq 7, 3) := by decide +kernel
theorem dX3_cell_55 : decode cX3_cell 55 = .ok (.iconst 1, 1) := by decide +kernel
theorem dX3_cell_56 : decode cX3_cell 56 = .ok (.goto 4, 3) := by decide +kernel
theorem dX3_cell_59 : decode cX3_cell 59 = .ok (.iconst 0, 1) := by decide +kernel
theorem dX3_cell_60 : decode cX3_cell 60 = .ok (.ireturn, 1) := by decide +kernel
theorem dX3_cell_61 : decode cX3_cell 61 = .ok (.aload_n 0, 1) := by decide +kernel
theorem dX3_cell_62 : decode cX3_cell 62 = .ok (.getfield 10, 3) := by decide +kernel
theorem dX3_cell_65 : decode cX3_cell 65 = .ok (.getfield 62, 3) := by decide +kernel
theorem dX3_cell_68 : decode cX3_cell 68 = .ok (.iload_n 1, 1) := by decide +kernel
theorem dX3_cell_69 : decode cX3_cell 69 = .ok (.iaload, 1) := by decide +kernel
theorem dX3_cell_70 : decode cX3_cell 70 = .ok (.ireturn, 1) := by decide +kernel
theorem dX3_cell_71 : decode cX3_cell 71 = .ok (.aload_n 0, 1) := by decide +kernel
theorem dX3_cell_72 : decode cX3_cell 72 = .ok (.getfield 10, 3) := by decide +kernel
theorem dX3_cell_75 : decode cX3_cell 75 = .ok (.iload_n 1, 1) := by decide +kernel
theorem dX3_cell_76 : decode cX3_cell 76 = .ok (.invokevirtual 65, 3) := by decide +kernel
theorem dX3_cell_79 : decode cX3_cell 79 = .ok (.ireturn, 1) := by decide +kernel
theorem dX3_cell_80 : decode cX3_cell 80 = .ok (.aload_n 0, 1) := by decide +kernel
theorem dX3_cell_81 : decode cX3_cell 81 = .ok (.getfield 10, 3) := by decide +kernel
theorem dX3_cell_84 : decode cX3_cell 84 = .ok (.iload_n 1, 1) := by decide +kernel
theorem dX3_cell_85 : decode cX3_cell 85 = .ok (.invokevirtual 68, 3) := by decide +kernel
theorem dX3_cell_88 : decode cX3_cell 88 = .ok (.ireturn, 1) := by decide +kernel
theorem dX3_cell_89 : decode cX3_cell 89 = .ok (.aload_n 0, 1) := by decide +kernel
theorem dX3_cell_90 : decode cX3_cell 90 = .ok (.iconst 0, 1) := by decide +kernel
theorem dX3_cell_91 : decode cX3_cell 91 = .ok (.invokevirtual 51, 3) := by decide +kernel
theorem dX3_cell_94 : decode cX3_cell 94 = .ok (.ireturn, 1) := by decide +kernel
theorem dX3_hunter_0 : decode cX3_hunter 0 = .ok (.iload_n 1, 1) := by decide +kernel
theorem dX3_hunter_1 : decode cX3_hunter 1 = .ok (.invokestatic 71, 3) := by decide +kernel
theorem dX3_hunter_4 : decode cX3_hunter 4 = .ok (.ifCond .eq 15, 3) := by decide +kernel
theorem dX3_hunter_7 : decode cX3_hunter 7 = .ok (.iload_n 2, 1) := by decide +kernel
theorem dX3_hunter_8 : decode cX3_hunter 8 = .ok (.iconst (-1), 1) := by decide +kernel
theorem dX3_hunter_9 : decode cX3_hunter 9 = .ok (.if_icmp .eq 16, 3) := by decide +kernel
theorem dX3_hunter_12 : decode cX3_hunter 12 = .ok (.iload_n 2, 1) := by decide +kernel
theorem dX3_hunter_13 : decode cX3_hunter 13 = .ok (.invokestatic 47, 3) := by decide +kernel
theorem dX3_hunter_16 : decode cX3_hunter 16 = .ok (.ifCond .ne 9, 3) := by decide +kernel
theorem dX3_hunter_19 : decode cX3_hunter 19 = .ok (.aload_n 0, 1) := by decide +kernel
theorem dX3_hunter_20 : decode cX3_hunter 20 = .ok (.iconst 0, 1) := by decide +kernel
theorem dX3_hunter_21 : decode cX3_hunter 21 = .ok (.invokevirtual 51, 3) := by decide +kernel
theorem dX3_hunter_24 : decode cX3_hunter 24 = .ok (.ireturn, 1) := by decide +kernel
theorem dX3_hunter_25 : decode cX3_hunter 25 = .ok (.aload_n 0, 1) := by decide +kernel
theorem dX3_hunter_26 : decode cX3_hunter 26 = .ok (.getfield 10, 3) := by decide +kernel
theorem dX3_hunter_29 : decode cX3_hunter 29 = .ok (.getfield 74, 3) := by decide +kernel
theorem dX3_hunter_32 : decode cX3_hunter 32 = .ok (.iload_n 1, 1) := by decide +kernel
theorem dX3_hunter_33 : decode cX3_hunter 33 = .ok (.iaload, 1) := by decide +kernel
theorem dX3_hunter_34 : decode cX3_hunter 34 = .ok (.istore_n 3, 1) := by decide +kernel
theorem dX3_hunter_35 : decode cX3_hunter 35 = .ok (.aload_n 0, 1) := by decide +kernel
theorem dX3_hunter_36 : decode cX3_hunter 36 = .ok (.getfield 10, 3) := by decide +kernel
theorem dX3_hunter_39 : decode cX3_hunter 39 = .ok (.getfield 74, 3) := by decide +kernel
theorem dX3_hunter_42 : decode cX3_hunter 42 = .ok (.iload_n 1, 1) := by decide +kernel
theorem dX3_hunter_43 : decode cX3_hunter 43 = .ok (.iload_n 2, 1) := by decide +kernel
theorem dX3_hunter_44 : decode cX3_hunter 44 = .ok (.iastore, 1) := by decide +kernel
theorem dX3_hunter_45 : decode cX3_hunter 45 = .ok (.iload_n 3, 1) := by decide +kernel
theorem dX3_hunter_46 : decode cX3_hunter 46 = .ok (.ireturn, 1) := by decide +kernel
theorem dX3_fear_0 : decode cX3_fear 0 = .ok (.iload_n 1, 1) := by decide +kernel
theorem dX3_fear_1 : decode cX3_fear 1 = .ok (.ifCond .lt 9, 3) := by decide +kernel
theorem dX3_fear_4 : decode cX3_fear 4 = .ok (.iload_n 1, 1) := by decide +kernel
theorem dX3_fear_5 : decode cX3_fear 5 = .ok (.bipush 9, 2) := by decide +kernel
theorem dX3_fear_7 : decode cX3_fear 7 = .ok (.if_icmp .le 9, 3) := by decide +kernel
theorem dX3_fear_10 : decode cX3_fear 10 = .ok (.aload_n 0, 1) := by decide +kernel
theorem dX3_fear_11 : decode cX3_fear 11 = .ok (.iconst 0, 1) := by decide +kernel
theorem dX3_fear_12 : decode cX3_fear 12 = .ok (.invokevirtual 51, 3) := by decide +kernel
theorem dX3_fear_15 : decode cX3_fear 15 = .ok (.ireturn, 1) := by decide +kernel
theorem dX3_fear_16 : decode cX3_fear 16 = .ok (.aload_n 0, 1) := by decide +kernel
theorem dX3_fear_17 : decode cX3_fear 17 = .ok (.getfield 10, 3) := by decide +kernel
theorem dX3_fear_20 : decode cX3_fear 20 = .ok (.getfield 77, 3) := by decide +kernel
theorem dX3_fear_23 : decode cX3_fear 23 = .ok (.istore_n 2, 1) := by decide +kernel
theorem dX3_fear_24 : decode cX3_fear 24 = .ok (.aload_n 0, 1) := by decide +kernel
theorem dX3_fear_25 : decode cX3_fear 25 = .ok (.getfield 10, 3) := by decide +kernel
theorem dX3_fear_28 : decode cX3_fear 28 = .ok (.iload_n 1, 1) := by decide +kernel
theorem dX3_fear_29 : decode cX3_fear 29 = .ok (.putfield 77, 3) := by decide +kernel
theorem dX3_fear_32 : decode cX3_fear 32 = .ok (.iload_n 2, 1) := by decide +kernel
theorem dX3_fear_33 : decode cX3_fear 33 = .ok (.ireturn, 1) := by decide +kernel
theorem dX3_bell_0 : decode cX3_bell 0 = .ok (.iload_n 1, 1) := by decide +kernel
theorem dX3_bell_1 : decode cX3_bell 1 = .ok (.invokestatic 81, 3) := by decide +kernel
theorem dX3_bell_4 : decode cX3_bell 4 = .ok (.ifCond .eq 10, 3) := by decide +kernel
theorem dX3_bell_7 : decode cX3_bell 7 = .ok (.iload_n 2, 1) := by decide +kernel
theorem dX3_bell_8 : decode cX3_bell 8 = .ok (.invokestatic 47, 3) := by decide +kernel
theorem dX3_bell_11 : decode cX3_bell 11 = .ok (.ifCond .ne 9, 3) := by decide +kernel
theorem dX3_bell_14 : decode cX3_bell 14 = .ok (.aload_n 0, 1) := by decide +kernel
theorem dX3_bell_15 : decode cX3_bell 15 = .ok (.iconst 0, 1) := by decide +kernel
theorem dX3_bell_16 : decode cX3_bell 16 = .ok (.invokevirtual 51, 3) := by decide +kernel
theorem dX3_bell_19 : decode cX3_bell 19 = .ok (.ireturn, 1) := by decide +kernel
theorem dX3_bell_20 : decode cX3_bell 20 = .ok (.aload_n 0, 1) := by decide +kernel
theorem dX3_bell_21 : decode cX3_bell 21 = .ok (.getfield 10, 3) := by decide +kernel
theorem dX3_bell_24 : decode cX3_bell 24 = .ok (.getfield 84, 3) := by decide +kernel
theorem dX3_bell_27 : decode cX3_bell 27 = .ok (.bipush 8, 2) := by decide +kernel
theorem dX3_bell_29 : decode cX3_bell 29 = .ok (.if_icmp .lt 9, 3) := by decide +kernel
theorem dX3_bell_32 : decode cX3_bell 32 = .ok (.aload_n 0, 1) := by decide +kernel
theorem dX3_bell_33 : decode cX3_bell 33 = .ok (.iconst 1, 1) := by decide +kernel
theorem dX3_bell_34 : decode cX3_bell 34 = .ok (.invokevirtual 51, 3) := by decide +kernel
theorem dX3_bell_37 : decode cX3_bell 37 = .ok (.ireturn, 1) := by decide +kernel
theorem dX3_bell_38 : decode cX3_bell 38 = .ok (.aload_n 0, 1) := by decide +kernel
theorem dX3_bell_39 : decode cX3_bell 39 = .ok (.getfield 10, 3) := by decide +kernel
theorem dX3_bell_42 : decode cX3_bell 42 = .ok (.iload_n 1, 1) := by decide +kernel
theorem dX3_bell_43 : decode cX3_bell 43 = .ok (.iload_n 2, 1) := by decide +kernel
theorem dX3_bell_44 : decode cX3_bell 44 = .ok (.invokevirtual 87, 3) := by decide +kernel
theorem dX3_bell_47 : decode cX3_bell 47 = .ok (.ireturn, 1) := by decide +kernel
theorem dX3_of_0 : decode cX3_of 0 = .ok (.aload_n 0, 1) := by decide +kernel
theorem dX3_of_1 : decode cX3_of 1 = .ok (.iload_n 1, 1) := by decide +kernel
theorem dX3_of_2 : decode cX3_of 2 = .ok (.invokevirtual 91, 3) := by decide +kernel
theorem dX3_of_5 : decode cX3_of 5 = .ok (.ifCond .ne 9, 3) := by decide +kernel
theorem dX3_of_8 : decode cX3_of 8 = .ok (.aload_n 0, 1) := by decide +kernel
theorem dX3_of_9 : decode cX3_of 9 = .ok (.iconst 0, 1) := by decide +kernel
theorem dX3_of_10 : decode cX3_of 10 = .ok (.invokevirtual 51, 3) := by decide +kernel
theorem dX3_of_13 : decode cX3_of 13 = .ok (.ireturn, 1) := by decide +kernel
theorem dX3_of_14 : decode cX3_of 14 = .ok (.iload_n 2, 1) := by decide +kernel
theorem dX3_of_15 : decode cX3_of 15 = .ok (.lookupswitch 52 #[(5, 25), (6, 34)], 25) := by decide +kernel
theorem dX3_of_40 : decode cX3_of 40 = .ok (.aload_n 0, 1) := by decide +kernel
theorem dX3_of_41 : decode cX3_of 41 = .ok (.getfield 10, 3) := by decide +kernel
theorem dX3_of_44 : decode cX3_of 44 = .ok (.iload_n 1, 1) := by decide +kernel
theorem dX3_of_45 : decode cX3_of 45 = .ok (.invokevirtual 94, 3) := by decide +kernel
theorem dX3_of_48 : decode cX3_of 48 = .ok (.ireturn, 1) := by decide +kernel
theorem dX3_of_49 : decode cX3_of 49 = .ok (.aload_n 0, 1) := by decide +kernel
theorem dX3_of_50 : decode cX3_of 50 = .ok (.getfield 10, 3) := by decide +kernel
theorem dX3_of_53 : decode cX3_of 53 = .ok (.iload_n 1, 1) := by decide +kernel
theorem dX3_of_54 : decode cX3_of 54 = .ok (.aload_n 0, 1) := by decide +kernel
theorem dX3_of_55 : decode cX3_of 55 = .ok (.getfield 10, 3) := by decide +kernel
theorem dX3_of_58 : decode cX3_of 58 = .ok (.getfield 97, 3) := by decide +kernel
theorem dX3_of_61 : decode cX3_of 61 = .ok (.iload_n 1, 1) := by decide +kernel
theorem dX3_of_62 : decode cX3_of 62 = .ok (.iaload, 1) := by decide +kernel
theorem dX3_of_63 : decode cX3_of 63 = .ok (.invokevirtual 100, 3) := by decide +kernel
theorem dX3_of_66 : decode cX3_of 66 = .ok (.ireturn, 1) := by decide +kernel
theorem dX3_of_67 : decode cX3_of 67 = .ok (.iload_n 2, 1) := by decide +kernel
theorem dX3_of_68 : decode cX3_of 68 = .ok (.invokestatic 103, 3) := by decide +kernel
theorem dX3_of_71 : decode cX3_of 71 = .ok (.ifCond .eq 15, 3) := by decide +kernel
theorem dX3_of_74 : decode cX3_of 74 = .ok (.aload_n 0, 1) := by decide +kernel
theorem dX3_of_75 : decode cX3_of 75 = .ok (.getfield 10, 3) := by decide +kernel
theorem dX3_of_78 : decode cX3_of 78 = .ok (.iload_n 1, 1) := by decide +kernel
theorem dX3_of_79 : decode cX3_of 79 = .ok (.iload_n 2, 1) := by decide +kernel
theorem dX3_of_80 : decode cX3_of 80 = .ok (.invokevirtual 106, 3) := by decide +kernel
theorem dX3_of_83 : decode cX3_of 83 = .ok (.goto 8, 3) := by decide +kernel
theorem dX3_of_86 : decode cX3_of 86 = .ok (.aload_n 0, 1) := by decide +kernel
theorem dX3_of_87 : decode cX3_of 87 = .ok (.iconst 0, 1) := by decide +kernel
theorem dX3_of_88 : decode cX3_of 88 = .ok (.invokevirtual 51, 3) := by decide +kernel
theorem dX3_of_91 : decode cX3_of 91 = .ok (.ireturn, 1) := by decide +kernel
theorem dX3_change_0 : decode cX3_change 0 = .ok (.aload_n 0, 1) := by decide +kernel
theorem dX3_change_1 : decode cX3_change 1 = .ok (.iload_n 1, 1) := by decide +kernel
theorem dX3_change_2 : decode cX3_change 2 = .ok (.invokevirtual 91, 3) := by decide +kernel
theorem dX3_change_5 : decode cX3_change 5 = .ok (.ifCond .eq 18, 3) := by decide +kernel
theorem dX3_change_8 : decode cX3_change 8 = .ok (.iload_n 2, 1) := by decide +kernel
theorem dX3_change_9 : decode cX3_change 9 = .ok (.invokestatic 103, 3) := by decide +kernel
theorem dX3_change_12 : decode cX3_change 12 = .ok (.ifCond .eq 11, 3) := by decide +kernel
theorem dX3_change_15 : decode cX3_change 15 = .ok (.iload_n 2, 1) := by decide +kernel
theorem dX3_change_16 : decode cX3_change 16 = .ok (.iload_n 3, 1) := by decide +kernel
theorem dX3_change_17 : decode cX3_change 17 = .ok (.invokestatic 109, 3) := by decide +kernel
theorem dX3_change_20 : decode cX3_change 20 = .ok (.ifCond .ne 9, 3) := by decide +kernel
theorem dX3_change_23 : decode cX3_change 23 = .ok (.aload_n 0, 1) := by decide +kernel
theorem dX3_change_24 : decode cX3_change 24 = .ok (.iconst 0, 1) := by decide +kernel
theorem dX3_change_25 : decode cX3_change 25 = .ok (.invokevirtual 51, 3) := by decide +kernel
theorem dX3_change_28 : decode cX3_change 28 = .ok (.ireturn, 1) := by decide +kernel
theorem dX3_change_29 : decode cX3_change 29 = .ok (.aload_n 0, 1) := by decide +kernel
theorem dX3_change_30 : decode cX3_change 30 = .ok (.getfield 10, 3) := by decide +kernel
theorem dX3_change_33 : decode cX3_change 33 = .ok (.iload_n 1, 1) := by decide +kernel
theorem dX3_change_34 : decode cX3_change 34 = .ok (.iload_n 2, 1) := by decide +kernel
theorem dX3_change_35 : decode cX3_change 35 = .ok (.invokevirtual 106, 3) := by decide +kernel
theorem dX3_change_38 : decode cX3_change 38 = .ok (.istore 4, 2) := by decide +kernel
theorem dX3_change_40 : decode cX3_change 40 = .ok (.aload_n 0, 1) := by decide +kernel
theorem dX3_change_41 : decode cX3_change 41 = .ok (.getfield 10, 3) := by decide +kernel
theorem dX3_change_44 : decode cX3_change 44 = .ok (.iload_n 1, 1) := by decide +kernel
theorem dX3_change_45 : decode cX3_change 45 = .ok (.iload_n 2, 1) := by decide +kernel
theorem dX3_change_46 : decode cX3_change 46 = .ok (.iload_n 3, 1) := by decide +kernel
theorem dX3_change_47 : decode cX3_change 47 = .ok (.invokevirtual 113, 3) := by decide +kernel
theorem dX3_change_50 : decode cX3_change 50 = .ok (.iload 4, 2) := by decide +kernel
theorem dX3_change_52 : decode cX3_change 52 = .ok (.ireturn, 1) := by decide +kernel
theorem dX3_worth_0 : decode cX3_worth 0 = .ok (.aload_n 0, 1) := by decide +kernel
theorem dX3_worth_1 : decode cX3_worth 1 = .ok (.iload_n 1, 1) := by decide +kernel
theorem dX3_worth_2 : decode cX3_worth 2 = .ok (.invokevirtual 91, 3) := by decide +kernel
theorem dX3_worth_5 : decode cX3_worth 5 = .ok (.ifCond .eq 10, 3) := by decide +kernel
theorem dX3_worth_8 : decode cX3_worth 8 = .ok (.iload_n 2, 1) := by decide +kernel
theorem dX3_worth_9 : decode cX3_worth 9 = .ok (.invokestatic 47, 3) := by decide +kernel
theorem dX3_worth_12 : decode cX3_worth 12 = .ok (.ifCond .ne 9, 3) := by decide +kernel
theorem dX3_worth_15 : decode cX3_worth 15 = .ok (.aload_n 0, 1) := by decide +kernel
theorem dX3_worth_16 : decode cX3_worth 16 = .ok (.iconst 0, 1) := by decide +kernel
theorem dX3_worth_17 : decode cX3_worth 17 = .ok (.invokevirtual 51, 3) := by decide +kernel
theorem dX3_worth_20 : decode cX3_worth 20 = .ok (.ireturn, 1) := by decide +kernel
theorem dX3_worth_21 : decode cX3_worth 21 = .ok (.aload_n 0, 1) := by decide +kernel
theorem dX3_worth_22 : decode cX3_worth 22 = .ok (.getfield 10, 3) := by decide +kernel
theorem dX3_worth_25 : decode cX3_worth 25 = .ok (.iload_n 1, 1) := by decide +kernel
theorem dX3_worth_26 : decode cX3_worth 26 = .ok (.iload_n 2, 1) := by decide +kernel
theorem dX3_worth_27 : decode cX3_worth 27 = .ok (.invokevirtual 100, 3) := by decide +kernel
theorem dX3_worth_30 : decode cX3_worth 30 = .ok (.ireturn, 1) := by decide +kernel
theorem dX3_go_0 : decode cX3_go 0 = .ok (.iload_n 1, 1) := by decide +kernel
theorem dX3_go_1 : decode cX3_go 1 = .ok (.iconst 1, 1) := by decide +kernel
theorem dX3_go_2 : decode cX3_go 2 = .ok (.if_icmp .lt 9, 3) := by decide +kernel
theorem dX3_go_5 : decode cX3_go 5 = .ok (.iload_n 1, 1) := by decide +kernel
theorem dX3_go_6 : decode cX3_go 6 = .ok (.bipush 24, 2) := by decide +kernel
theorem dX3_go_8 : decode cX3_go 8 = .ok (.if_icmp .le 9, 3) := by decide +kernel
theorem dX3_go_11 : decode cX3_go 11 = .ok (.aload_n 0, 1) := by decide +kernel
theorem dX3_go_12 : decode cX3_go 12 = .ok (.iconst 0, 1) := by decide +kernel
theorem dX3_go_13 : decode cX3_go 13 = .ok (.invokevirtual 51, 3) := by decide +kernel
theorem dX3_go_16 : decode cX3_go 16 = .ok (.ireturn, 1) := by decide +kernel
theorem dX3_go_17 : decode cX3_go 17 = .ok (.aload_n 0, 1) := by decide +kernel
theorem dX3_go_18 : decode cX3_go 18 = .ok (.getfield 10, 3) := by decide +kernel
theorem dX3_go_21 : decode cX3_go 21 = .ok (.getfield 117, 3) := by decide +kernel
theorem dX3_go_24 : decode cX3_go 24 = .ok (.iload_n 1, 1) := by decide +kernel
theorem dX3_go_25 : decode cX3_go 25 = .ok (.iadd, 1) := by decide +kernel
theorem dX3_go_26 : decode cX3_go 26 = .ok (.ldc 120, 2) := by decide +kernel
theorem dX3_go_28 : decode cX3_go 28 = .ok (.if_icmp .le 9, 3) := by decide +kernel
theorem dX3_go_31 : decode cX3_go 31 = .ok (.aload_n 0, 1) := by decide +kernel
theorem dX3_go_32 : decode cX3_go 32 = .ok (.iconst 4, 1) := by decide +kernel
theorem dX3_go_33 : decode cX3_go 33 = .ok (.invokevirtual 51, 3) := by decide +kernel
theorem dX3_go_36 : decode cX3_go 36 = .ok (.ireturn, 1) := by decide +kernel
theorem dX3_go_37 : decode cX3_go 37 = .ok (.iconst 0, 1) := by decide +kernel
theorem dX3_go_38 : decode cX3_go 38 = .ok (.istore_n 2, 1) := by decide +kernel
theorem dX3_go_39 : decode cX3_go 39 = .ok (.iload_n 2, 1) := by decide +kernel
theorem dX3_go_40 : decode cX3_go 40 = .ok (.iload_n 1, 1) := by decide +kernel
theorem dX3_go_41 : decode cX3_go 41 = .ok (.if_icmp .ge 17, 3) := by decide +kernel
theorem dX3_go_44 : decode cX3_go 44 = .ok (.aload_n 0, 1) := by decide +kernel
theorem dX3_go_45 : decode cX3_go 45 = .ok (.getfield 10, 3) := by decide +kernel
theorem dX3_go_48 : decode cX3_go 48 = .ok (.invokevirtual 121, 3) := by decide +kernel
theorem dX3_go_51 : decode cX3_go 51 = .ok (.pop, 1) := by decide +kernel
theorem dX3_go_52 : decode cX3_go 52 = .ok (.iinc 2 1, 3) := by decide +kernel
theorem dX3_go_55 : decode cX3_go 55 = .ok (.goto (-16), 3) := by decide +kernel
theorem dX3_go_58 : decode cX3_go 58 = .ok (.aload_n 0, 1) := by decide +kernel
theorem dX3_go_59 : decode cX3_go 59 = .ok (.getfield 10, 3) := by decide +kernel
theorem dX3_go_62 : decode cX3_go 62 = .ok (.getfield 125, 3) := by decide +kernel
theorem dX3_go_65 : decode cX3_go 65 = .ok (.invokestatic 128, 3) := by decide +kernel
theorem dX3_go_68 : decode cX3_go 68 = .ok (.ireturn, 1) := by decide +kernel
theorem dX3_now_0 : decode cX3_now 0 = .ok (.iload_n 1, 1) := by decide +kernel
theorem dX3_now_1 : decode cX3_now 1 = .ok (.tableswitch 85 0 4 #[35, 43, 51, 62, 70], 35) := by decide +kernel
theorem dX3_now_36 : decode cX3_now 36 = .ok (.aload_n 0, 1) := by decide +kernel
theorem dX3_now_37 : decode cX3_now 37 = .ok (.getfield 10, 3) := by decide +kernel
theorem dX3_now_40 : decode cX3_now 40 = .ok (.getfield 117, 3) := by decide +kernel
theorem dX3_now_43 : decode cX3_now 43 = .ok (.ireturn, 1) := by decide +kernel
theorem dX3_now_44 : decode cX3_now 44 = .ok (.aload_n 0, 1) := by decide +kernel
theorem dX3_now_45 : decode cX3_now 45 = .ok (.getfield 10, 3) := by decide +kernel
theorem dX3_now_48 : decode cX3_now 48 = .ok (.getfield 125, 3) := by decide +kernel
theorem dX3_now_51 : decode cX3_now 51 = .ok (.ireturn, 1) := by decide +kernel
theorem dX3_now_52 : decode cX3_now 52 = .ok (.aload_n 0, 1) := by decide +kernel
theorem dX3_now_53 : decode cX3_now 53 = .ok (.getfield 10, 3) := by decide +kernel
theorem dX3_now_56 : decode cX3_now 56 = .ok (.getfield 133, 3) := by decide +kernel
theorem dX3_now_59 : decode cX3_now 59 = .ok (.invokestatic 137, 3) := by decide +kernel
theorem dX3_now_62 : decode cX3_now 62 = .ok (.ireturn, 1) := by decide +kernel
theorem dX3_now_63 : decode cX3_now 63 = .ok (.aload_n 0, 1) := by decide +kernel
theorem dX3_now_64 : decode cX3_now 64 = .ok (.getfield 10, 3) := by decide +kernel
theorem dX3_now_67 : decode cX3_now 67 = .ok (.getfield 77, 3) := by decide +kernel
theorem dX3_now_70 : decode cX3_now 70 = .ok (.ireturn, 1) := by decide +kernel
theorem dX3_now_71 : decode cX3_now 71 = .ok (.aload_n 0, 1) := by decide +kernel
theorem dX3_now_72 : decode cX3_now 72 = .ok (.getfield 10, 3) := by decide +kernel
theorem dX3_now_75 : decode cX3_now 75 = .ok (.aload_n 0, 1) := by decide +kernel
theorem dX3_now_76 : decode cX3_now 76 = .ok (.getfield 10, 3) := by decide +kernel
theorem dX3_now_79 : decode cX3_now 79 = .ok (.getfield 125, 3) := by decide +kernel
theorem dX3_now_82 : decode cX3_now 82 = .ok (.invokevirtual 142, 3) := by decide +kernel
theorem dX3_now_85 : decode cX3_now 85 = .ok (.ireturn, 1) := by decide +kernel
theorem dX3_now_86 : decode cX3_now 86 = .ok (.aload_n 0, 1) := by decide +kernel
theorem dX3_now_87 : decode cX3_now 87 = .ok (.iconst 0, 1) := by decide +kernel
theorem dX3_now_88 : decode cX3_now 88 = .ok (.invokevirtual 51, 3) := by decide +kernel
theorem dX3_now_91 : decode cX3_now 91 = .ok (.ireturn, 1) := by decide +kernel
theorem dX3_loud_0 : decode cX3_loud 0 = .ok (.aload_n 0, 1) := by decide +kernel
theorem dX3_loud_1 : decode cX3_loud 1 = .ok (.iload_n 1, 1) := by decide +kernel
theorem dX3_loud_2 : decode cX3_loud 2 = .ok (.invokevirtual 91, 3) := by decide +kernel
theorem dX3_loud_5 : decode cX3_loud 5 = .ok (.ifCond .eq 10, 3) := by decide +kernel
theorem dX3_loud_8 : decode cX3_loud 8 = .ok (.iload_n 2, 1) := by decide +kernel
theorem dX3_loud_9 : decode cX3_loud 9 = .ok (.invokestatic 47, 3) := by decide +kernel
theorem dX3_loud_12 : decode cX3_loud 12 = .ok (.ifCond .ne 9, 3) := by decide +kernel
theorem dX3_loud_15 : decode cX3_loud 15 = .ok (.aload_n 0, 1) := by decide +kernel
theorem dX3_loud_16 : decode cX3_loud 16 = .ok (.iconst 0, 1) := by decide +kernel
theorem dX3_loud_17 : decode cX3_loud 17 = .ok (.invokevirtual 51, 3) := by decide +kernel
theorem dX3_loud_20 : decode cX3_loud 20 = .ok (.ireturn, 1) := by decide +kernel
theorem dX3_loud_21 : decode cX3_loud 21 = .ok (.aload_n 0, 1) := by decide +kernel
theorem dX3_loud_22 : decode cX3_loud 22 = .ok (.getfield 10, 3) := by decide +kernel
theorem dX3_loud_25 : decode cX3_loud 25 = .ok (.getfield 145, 3) := by decide +kernel
theorem dX3_loud_28 : decode cX3_loud 28 = .ok (.iload_n 1, 1) := by decide +kernel
theorem dX3_loud_29 : decode cX3_loud 29 = .ok (.iaload, 1) := by decide +kernel
theorem dX3_loud_30 : decode cX3_loud 30 = .ok (.aload_n 0, 1) := by decide +kernel
theorem dX3_loud_31 : decode cX3_loud 31 = .ok (.getfield 10, 3) := by decide +kernel
theorem dX3_loud_34 : decode cX3_loud 34 = .ok (.getfield 97, 3) := by decide +kernel
theorem dX3_loud_37 : decode cX3_loud 37 = .ok (.iload_n 1, 1) := by decide +kernel
theorem dX3_loud_38 : decode cX3_loud 38 = .ok (.iaload, 1) := by decide +kernel
theorem dX3_loud_39 : decode cX3_loud 39 = .ok (.iload_n 2, 1) := by decide +kernel
theorem dX3_loud_40 : decode cX3_loud 40 = .ok (.invokestatic 148, 3) := by decide +kernel
theorem dX3_loud_43 : decode cX3_loud 43 = .ok (.invokestatic 151, 3) := by decide +kernel
theorem dX3_loud_46 : decode cX3_loud 46 = .ok (.ireturn, 1) := by decide +kernel
theorem dX3_ahead_0 : decode cX3_ahead 0 = .ok (.aload_n 0, 1) := by decide +kernel
theorem dX3_ahead_1 : decode cX3_ahead 1 = .ok (.iload_n 1, 1) := by decide +kernel
theorem dX3_ahead_2 : decode cX3_ahead 2 = .ok (.invokevirtual 91, 3) := by decide +kernel
theorem dX3_ahead_5 : decode cX3_ahead 5 = .ok (.ifCond .eq 13, 3) := by decide +kernel
theorem dX3_ahead_8 : decode cX3_ahead 8 = .ok (.iload_n 2, 1) := by decide +kernel
theorem dX3_ahead_9 : decode cX3_ahead 9 = .ok (.ifCond .lt 9, 3) := by decide +kernel
theorem dX3_ahead_12 : decode cX3_ahead 12 = .ok (.iload_n 2, 1) := by decide +kernel
theorem dX3_ahead_13 : decode cX3_ahead 13 = .ok (.bipush 60, 2) := by decide +kernel
theorem dX3_ahead_15 : decode cX3_ahead 15 = .ok (.if_icmp .le 9, 3) := by decide +kernel
theorem dX3_ahead_18 : decode cX3_ahead 18 = .ok (.aload_n 0, 1) := by decide +kernel
theorem dX3_ahead_19 : decode cX3_ahead 19 = .ok (.iconst 0, 1) := by decide +kernel
theorem dX3_ahead_20 : decode cX3_ahead 20 = .ok (.invokevirtual 51, 3) := by decide +kernel
theorem dX3_ahead_23 : decode cX3_ahead 23 = .ok (.ireturn, 1) := by decide +kernel
theorem dX3_ahead_24 : decode cX3_ahead 24 = .ok (.aload_n 0, 1) := by decide +kernel
theorem dX3_ahead_25 : decode cX3_ahead 25 = .ok (.getfield 16, 3) := by decide +kernel
theorem dX3_ahead_28 : decode cX3_ahead 28 = .ok (.aload_n 0, 1) := by decide +kernel
theorem dX3_ahead_29 : decode cX3_ahead 29 = .ok (.getfield 10, 3) := by decide +kernel
theorem dX3_ahead_32 : decode cX3_ahead 32 = .ok (.invokevirtual 154, 3) := by decide +kernel
theorem dX3_ahead_35 : decode cX3_ahead 35 = .ok (.aload_n 0, 1) := by decide +kernel
theorem dX3_ahead_36 : decode cX3_ahead 36 = .ok (.getfield 16, 3) := by decide +kernel
theorem dX3_ahead_39 : decode cX3_ahead 39 = .ok (.iload_n 2, 1) := by decide +kernel
theorem dX3_ahead_40 : decode cX3_ahead 40 = .ok (.invokevirtual 158, 3) := by decide +kernel
theorem dX3_ahead_43 : decode cX3_ahead 43 = .ok (.aload_n 0, 1) := by decide +kernel
theorem dX3_ahead_44 : decode cX3_ahead 44 = .ok (.getfield 16, 3) := by decide +kernel
theorem dX3_ahead_47 : decode cX3_ahead 47 = .ok (.getfield 97, 3) := by decide +kernel
theorem dX3_ahead_50 : decode cX3_ahead 50 = .ok (.iload_n 1, 1) := by decide +kernel
theorem dX3_ahead_51 : decode cX3_ahead 51 = .ok (.iaload, 1) := by decide +kernel
theorem dX3_ahead_52 : decode cX3_ahead 52 = .ok (.ireturn, 1) := by decide +kernel
theorem dX3_when_0 : decode cX3_when 0 = .ok (.aload_n 0, 1) := by decide +kernel
theorem dX3_when_1 : decode cX3_when 1 = .ok (.iload_n 1, 1) := by decide +kernel
theorem dX3_when_2 : decode cX3_when 2 = .ok (.invokevirtual 91, 3) := by decide +kernel
theorem dX3_when_5 : decode cX3_when 5 = .ok (.ifCond .ne 9, 3) := by decide +kernel
theorem dX3_when_8 : decode cX3_when 8 = .ok (.aload_n 0, 1) := by decide +kernel
theorem dX3_when_9 : decode cX3_when 9 = .ok (.iconst 0, 1) := by decide +kernel
theorem dX3_when_10 : decode cX3_when 10 = .ok (.invokevirtual 51, 3) := by decide +kernel
theorem dX3_when_13 : decode cX3_when 13 = .ok (.ireturn, 1) := by decide +kernel
theorem dX3_when_14 : decode cX3_when 14 = .ok (.aload_n 0, 1) := by decide +kernel
theorem dX3_when_15 : decode cX3_when 15 = .ok (.getfield 16, 3) := by decide +kernel
theorem dX3_when_18 : decode cX3_when 18 = .ok (.aload_n 0, 1) := by decide +kernel
theorem dX3_when_19 : decode cX3_when 19 = .ok (.getfield 10, 3) := by decide +kernel
theorem dX3_when_22 : decode cX3_when 22 = .ok (.invokevirtual 154, 3) := by decide +kernel
theorem dX3_when_25 : decode cX3_when 25 = .ok (.aload_n 0, 1) := by decide +kernel
theorem dX3_when_26 : decode cX3_when 26 = .ok (.getfield 16, 3) := by decide +kernel
theorem dX3_when_29 : decode cX3_when 29 = .ok (.iload_n 1, 1) := by decide +kernel
theorem dX3_when_30 : decode cX3_when 30 = .ok (.bipush 60, 2) := by decide +kernel
theorem dX3_when_32 : decode cX3_when 32 = .ok (.invokevirtual 162, 3) := by decide +kernel
theorem dX3_when_35 : decode cX3_when 35 = .ok (.istore_n 2, 1) := by decide +kernel
theorem dX3_when_36 : decode cX3_when 36 = .ok (.iload_n 2, 1) := by decide +kernel
theorem dX3_when_37 : decode cX3_when 37 = .ok (.ifCond .ge 11, 3) := by decide +kernel
theorem dX3_when_40 : decode cX3_when 40 = .ok (.aload_n 0, 1) := by decide +kernel
theorem dX3_when_41 : decode cX3_when 41 = .ok (.iconst 3, 1) := by decide +kernel
theorem dX3_when_42 : decode cX3_when 42 = .ok (.invokevirtual 51, 3) := by decide +kernel
theorem dX3_when_45 : decode cX3_when 45 = .ok (.goto 4, 3) := by decide +kernel
theorem dX3_when_48 : decode cX3_when 48 = .ok (.iload_n 2, 1) := by decide +kernel
theorem dX3_when_49 : decode cX3_when 49 = .ok (.ireturn, 1) := by decide +kernel
theorem dX3_still_0 : decode cX3_still 0 = .ok (.aload_n 0, 1) := by decide +kernel
theorem dX3_still_1 : decode cX3_still 1 = .ok (.getfield 16, 3) := by decide +kernel
theorem dX3_still_4 : decode cX3_still 4 = .ok (.aload_n 0, 1) := by decide +kernel
theorem dX3_still_5 : decode cX3_still 5 = .ok (.getfield 10, 3) := by decide +kernel
theorem dX3_still_8 : decode cX3_still 8 = .ok (.invokevirtual 154, 3) := by decide +kernel
theorem dX3_still_11 : decode cX3_still 11 = .ok (.iconst 0, 1) := by decide +kernel
theorem dX3_still_12 : decode cX3_still 12 = .ok (.istore_n 1, 1) := by decide +kernel
theorem dX3_still_13 : decode cX3_still 13 = .ok (.iload_n 1, 1) := by decide +kernel
theorem dX3_still_14 : decode cX3_still 14 = .ok (.bipush 60, 2) := by decide +kernel
theorem dX3_still_16 : decode cX3_still 16 = .ok (.if_icmp .gt 21, 3) := by decide +kernel
theorem dX3_still_19 : decode cX3_still 19 = .ok (.aload_n 0, 1) := by decide +kernel
theorem dX3_still_20 : decode cX3_still 20 = .ok (.getfield 16, 3) := by decide +kernel
theorem dX3_still_23 : decode cX3_still 23 = .ok (.invokevirtual 121, 3) := by decide +kernel
theorem dX3_still_26 : decode cX3_still 26 = .ok (.ifCond .ne 5, 3) := by decide +kernel
theorem dX3_still_29 : decode cX3_still 29 = .ok (.iload_n 1, 1) := by decide +kernel
theorem dX3_still_30 : decode cX3_still 30 = .ok (.ireturn, 1) := by decide +kernel
theorem dX3_still_31 : decode cX3_still 31 = .ok (.iinc 1 1, 3) := by decide +kernel
theorem dX3_still_34 : decode cX3_still 34 = .ok (.goto (-21), 3) := by decide +kernel
theorem dX3_still_37 : decode cX3_still 37 = .ok (.aload_n 0, 1) := by decide +kernel
theorem dX3_still_38 : decode cX3_still 38 = .ok (.iconst 3, 1) := by decide +kernel
theorem dX3_still_39 : decode cX3_still 39 = .ok (.invokevirtual 51, 3) := by decide +kernel
theorem dX3_still_42 : decode cX3_still 42 = .ok (.ireturn, 1) := by decide +kernel
theorem dX3_caught_0 : decode cX3_caught 0 = .ok (.iload_n 1, 1) := by decide +kernel
theorem dX3_caught_1 : decode cX3_caught 1 = .ok (.ifCond .lt 9, 3) := by decide +kernel
theorem dX3_caught_4 : decode cX3_caught 4 = .ok (.iload_n 1, 1) := by decide +kernel
theorem dX3_caught_5 : decode cX3_caught 5 = .ok (.bipush 60, 2) := by decide +kernel
theorem dX3_caught_7 : decode cX3_caught 7 = .ok (.if_icmp .le 9, 3) := by decide +kernel
theorem dX3_caught_10 : decode cX3_caught 10 = .ok (.aload_n 0, 1) := by decide +kernel
theorem dX3_caught_11 : decode cX3_caught 11 = .ok (.iconst 0, 1) := by decide +kernel
theorem dX3_caught_12 : decode cX3_caught 12 = .ok (.invokevirtual 51, 3) := by decide +kernel
theorem dX3_caught_15 : decode cX3_caught 15 = .ok (.ireturn, 1) := by decide +kernel
theorem dX3_caught_16 : decode cX3_caught 16 = .ok (.aload_n 0, 1) := by decide +kernel
theorem dX3_caught_17 : decode cX3_caught 17 = .ok (.getfield 16, 3) := by decide +kernel
theorem dX3_caught_20 : decode cX3_caught 20 = .ok (.aload_n 0, 1) := by decide +kernel
theorem dX3_caught_21 : decode cX3_caught 21 = .ok (.getfield 10, 3) := by decide +kernel
theorem dX3_caught_24 : decode cX3_caught 24 = .ok (.invokevirtual 154, 3) := by decide +kernel
theorem dX3_caught_27 : decode cX3_caught 27 = .ok (.aload_n 0, 1) := by decide +kernel
theorem dX3_caught_28 : decode cX3_caught 28 = .ok (.getfield 16, 3) := by decide +kernel
theorem dX3_caught_31 : decode cX3_caught 31 = .ok (.iload_n 1, 1) := by decide +kernel
theorem dX3_caught_32 : decode cX3_caught 32 = .ok (.invokevirtual 158, 3) := by decide +kernel
theorem dX3_caught_35 : decode cX3_caught 35 = .ok (.aload_n 0, 1) := by decide +kernel
theorem dX3_caught_36 : decode cX3_caught 36 = .ok (.getfield 16, 3) := by decide +kernel
theorem dX3_caught_39 : decode cX3_caught 39 = .ok (.getfield 125, 3) := by decide +kernel
theorem dX3_caught_42 : decode cX3_caught 42 = .ok (.ireturn, 1) := by decide +kernel
theorem dX3_netFor_0 : decode cX3_netFor 0 = .ok (.aload_n 0, 1) := by decide +kernel
theorem dX3_netFor_1 : decode cX3_netFor 1 = .ok (.iload_n 1, 1) := by decide +kernel
theorem dX3_netFor_2 : decode cX3_netFor 2 = .ok (.invokevirtual 91, 3) := by decide +kernel
theorem dX3_netFor_5 : decode cX3_netFor 5 = .ok (.ifCond .ne 9, 3) := by decide +kernel
theorem dX3_netFor_8 : decode cX3_netFor 8 = .ok (.aload_n 0, 1) := by decide +kernel
theorem dX3_netFor_9 : decode cX3_netFor 9 = .ok (.iconst 0, 1) := by decide +kernel
theorem dX3_netFor_10 : decode cX3_netFor 10 = .ok (.invokevirtual 51, 3) := by decide +kernel
theorem dX3_netFor_13 : decode cX3_netFor 13 = .ok (.ireturn, 1) := by decide +kernel
theorem dX3_netFor_14 : decode cX3_netFor 14 = .ok (.aload_n 0, 1) := by decide +kernel
theorem dX3_netFor_15 : decode cX3_netFor 15 = .ok (.getfield 16, 3) := by decide +kernel
theorem dX3_netFor_18 : decode cX3_netFor 18 = .ok (.aload_n 0, 1) := by decide +kernel
theorem dX3_netFor_19 : decode cX3_netFor 19 = .ok (.getfield 10, 3) := by decide +kernel
theorem dX3_netFor_22 : decode cX3_netFor 22 = .ok (.invokevirtual 154, 3) := by decide +kernel
theorem dX3_netFor_25 : decode cX3_netFor 25 = .ok (.aload_n 0, 1) := by decide +kernel
theorem dX3_netFor_26 : decode cX3_netFor 26 = .ok (.getfield 16, 3) := by decide +kernel
theorem dX3_netFor_29 : decode cX3_netFor 29 = .ok (.iload_n 1, 1) := by decide +kernel
theorem dX3_netFor_30 : decode cX3_netFor 30 = .ok (.bipush 20, 2) := by decide +kernel
theorem dX3_netFor_32 : decode cX3_netFor 32 = .ok (.invokevirtual 162, 3) := by decide +kernel
theorem dX3_netFor_35 : decode cX3_netFor 35 = .ok (.istore_n 2, 1) := by decide +kernel
theorem dX3_netFor_36 : decode cX3_netFor 36 = .ok (.aload_n 0, 1) := by decide +kernel
theorem dX3_netFor_37 : decode cX3_netFor 37 = .ok (.getfield 16, 3) := by decide +kernel
theorem dX3_netFor_40 : decode cX3_netFor 40 = .ok (.getfield 165, 3) := by decide +kernel
theorem dX3_netFor_43 : decode cX3_netFor 43 = .ok (.lstore_n 3, 1) := by decide +kernel
theorem dX3_netFor_44 : decode cX3_netFor 44 = .ok (.iconst (-1), 1) := by decide +kernel
theorem dX3_netFor_45 : decode cX3_netFor 45 = .ok (.istore 5, 2) := by decide +kernel
theorem dX3_netFor_47 : decode cX3_netFor 47 = .ok (.bipush 21, 2) := by decide +kernel
theorem dX3_netFor_49 : decode cX3_netFor 49 = .ok (.istore 6, 2) := by decide +kernel
theorem dX3_netFor_51 : decode cX3_netFor 51 = .ok (.iconst 0, 1) := by decide +kernel
theorem dX3_netFor_52 : decode cX3_netFor 52 = .ok (.istore 7, 2) := by decide +kernel
theorem dX3_netFor_54 : decode cX3_netFor 54 = .ok (.iload 7, 2) := by decide +kernel
theorem dX3_netFor_56 : decode cX3_netFor 56 = .ok (.bipush 64, 2) := by decide +kernel
theorem dX3_netFor_58 : decode cX3_netFor 58 = .ok (.if_icmp .ge 91, 3) := by decide +kernel
theorem dX3_netFor_61 : decode cX3_netFor 61 = .ok (.aload_n 0, 1) := by decide +kernel
theorem dX3_netFor_62 : decode cX3_netFor 62 = .ok (.getfield 10, 3) := by decide +kernel
theorem dX3_netFor_65 : decode cX3_netFor 65 = .ok (.iload 7, 2) := by decide +kernel
theorem dX3_netFor_67 : decode cX3_netFor 67 = .ok (.invokevirtual 55, 3) := by decide +kernel
theorem dX3_netFor_70 : decode cX3_netFor 70 = .ok (.ifCond .eq 6, 3) := by decide +kernel
theorem dX3_netFor_73 : decode cX3_netFor 73 = .ok (.goto 70, 3) := by decide +kernel
theorem dX3_netFor_76 : decode cX3_netFor 76 = .ok (.iload_n 2, 1) := by decide +kernel
theorem dX3_netFor_77 : decode cX3_netFor 77 = .ok (.istore 8, 2) := by decide +kernel
theorem dX3_netFor_79 : decode cX3_netFor 79 = .ok (.lload_n 3, 1) := by decide +kernel
theorem dX3_netFor_80 : decode cX3_netFor 80 = .ok (.iload 7, 2) := by decide +kernel
theorem dX3_netFor_82 : decode cX3_netFor 82 = .ok (.invokestatic 168, 3) := by decide +kernel
theorem dX3_netFor_85 : decode cX3_netFor 85 = .ok (.ifCond .eq 38, 3) := by decide +kernel
theorem dX3_netFor_88 : decode cX3_netFor 88 = .ok (.aload_n 0, 1) := by decide +kernel
theorem dX3_netFor_89 : decode cX3_netFor 89 = .ok (.getfield 16, 3) := by decide +kernel
theorem dX3_netFor_92 : decode cX3_netFor 92 = .ok (.aload_n 0, 1) := by decide +kernel
theorem dX3_netFor_93 : decode cX3_netFor 93 = .ok (.getfield 10, 3) := by decide +kernel
theorem dX3_netFor_96 : decode cX3_netFor 96 = .ok (.invokevirtual 154, 3) := by decide +kernel
theorem dX3_netFor_99 : decode cX3_netFor 99 = .ok (.aload_n 0, 1) := by decide +kernel
theorem dX3_netFor_100 : decode cX3_netFor 100 = .ok (.getfield 16, 3) := by decide +kernel
theorem dX3_netFor_103 : decode cX3_netFor 103 = .ok (.iload 7, 2) := by decide +kernel
theorem dX3_netFor_105 : decode cX3_netFor 105 = .ok (.iconst 1, 1) := by decide +kernel
theorem dX3_netFor_106 : decode cX3_netFor 106 = .ok (.invokevirtual 58, 3) := by decide +kernel
theorem dX3_netFor_109 : decode cX3_netFor 109 = .ok (.aload_n 0, 1) := by decide +kernel
theorem dX3_netFor_110 : decode cX3_netFor 110 = .ok (.getfield 16, 3) := by decide +kernel
theorem dX3_netFor_113 : decode cX3_netFor 113 = .ok (.iload_n 1, 1) := by decide +kernel
theorem dX3_netFor_114 : decode cX3_netFor 114 = .ok (.iload 6, 2) := by decide +kernel
theorem dX3_netFor_116 : decode cX3_netFor 116 = .ok (.iconst 1, 1) := by decide +kernel
theorem dX3_netFor_117 : decode cX3_netFor 117 = .ok (.isub, 1) := by decide +kernel
theorem dX3_netFor_118 : decode cX3_netFor 118 = .ok (.invokevirtual 162, 3) := by decide +kernel
theorem dX3_netFor_121 : decode cX3_netFor 121 = .ok (.istore 8, 2) := by decide +kernel
theorem dX3_netFor_123 : decode cX3_netFor 123 = .ok (.iload 8, 2) := by decide +kernel
theorem dX3_netFor_125 : decode cX3_netFor 125 = .ok (.ifCond .lt 18, 3) := by decide +kernel
theorem dX3_netFor_128 : decode cX3_netFor 128 = .ok (.iload 8, 2) := by decide +kernel
theorem dX3_netFor_130 : decode cX3_netFor 130 = .ok (.iload 6, 2) := by decide +kernel
theorem dX3_netFor_132 : decode cX3_netFor 132 = .ok (.if_icmp .ge 11, 3) := by decide +kernel
theorem dX3_netFor_135 : decode cX3_netFor 135 = .ok (.iload 8, 2) := by decide +kernel
theorem dX3_netFor_137 : decode cX3_netFor 137 = .ok (.istore 6, 2) := by decide +kernel
theorem dX3_netFor_139 : decode cX3_netFor 139 = .ok (.iload 7, 2) := by decide +kernel
theorem dX3_netFor_141 : decode cX3_netFor 141 = .ok (.istore 5, 2) := by decide +kernel
theorem dX3_netFor_143 : decode cX3_netFor 143 = .ok (.iinc 7 1, 3) := by decide +kernel
theorem dX3_netFor_146 : decode cX3_netFor 146 = .ok (.goto (-92), 3) := by decide +kernel
theorem dX3_netFor_149 : decode cX3_netFor 149 = .ok (.iload 5, 2) := by decide +kernel
theorem dX3_netFor_151 : decode cX3_netFor 151 = .ok (.ifCond .ge 11, 3) := by decide +kernel
theorem dX3_netFor_154 : decode cX3_netFor 154 = .ok (.aload_n 0, 1) := by decide +kernel
theorem dX3_netFor_155 : decode cX3_netFor 155 = .ok (.iconst 3, 1) := by decide +kernel
theorem dX3_netFor_156 : decode cX3_netFor 156 = .ok (.invokevirtual 51, 3) := by decide +kernel
theorem dX3_netFor_159 : decode cX3_netFor 159 = .ok (.goto 5, 3) := by decide +kernel
theorem dX3_netFor_162 : decode cX3_netFor 162 = .ok (.iload 5, 2) := by decide +kernel
theorem dX3_netFor_164 : decode cX3_netFor 164 = .ok (.ireturn, 1) := by decide +kernel
theorem dX3_best_0 : decode cX3_best 0 = .ok (.iload_n 1, 1) := by decide +kernel
theorem dX3_best_1 : decode cX3_best 1 = .ok (.ifCond .lt 9, 3) := by decide +kernel
theorem dX3_best_4 : decode cX3_best 4 = .ok (.iload_n 1, 1) := by decide +kernel
theorem dX3_best_5 : decode cX3_best 5 = .ok (.bipush 20, 2) := by decide +kernel
theorem dX3_best_7 : decode cX3_best 7 = .ok (.if_icmp .le 9, 3) := by decide +kernel
theorem dX3_best_10 : decode cX3_best 10 = .ok (.aload_n 0, 1) := by decide +kernel
theorem dX3_best_11 : decode cX3_best 11 = .ok (.iconst 0, 1) := by decide +kernel
theorem dX3_best_12 : decode cX3_best 12 = .ok (.invokevirtual 51, 3) := by decide +kernel
theorem dX3_best_15 : decode cX3_best 15 = .ok (.ireturn, 1) := by decide +kernel
theorem dX3_best_16 : decode cX3_best 16 = .ok (.aload_n 0, 1) := by decide +kernel
theorem dX3_best_17 : decode cX3_best 17 = .ok (.getfield 16, 3) := by decide +kernel
theorem dX3_best_20 : decode cX3_best 20 = .ok (.aload_n 0, 1) := by decide +kernel
theorem dX3_best_21 : decode cX3_best 21 = .ok (.getfield 10, 3) := by decide +kernel
theorem dX3_best_24 : decode cX3_best 24 = .ok (.invokevirtual 154, 3) := by decide +kernel
theorem dX3_best_27 : decode cX3_best 27 = .ok (.aload_n 0, 1) := by decide +kernel
theorem dX3_best_28 : decode cX3_best 28 = .ok (.getfield 16, 3) := by decide +kernel
theorem dX3_best_31 : decode cX3_best 31 = .ok (.iload_n 1, 1) := by decide +kernel
theorem dX3_best_32 : decode cX3_best 32 = .ok (.invokevirtual 158, 3) := by decide +kernel
theorem dX3_best_35 : decode cX3_best 35 = .ok (.aload_n 0, 1) := by decide +kernel
theorem dX3_best_36 : decode cX3_best 36 = .ok (.getfield 16, 3) := by decide +kernel
theorem dX3_best_39 : decode cX3_best 39 = .ok (.getfield 125, 3) := by decide +kernel
theorem dX3_best_42 : decode cX3_best 42 = .ok (.invokestatic 128, 3) := by decide +kernel
theorem dX3_best_45 : decode cX3_best 45 = .ok (.istore_n 2, 1) := by decide +kernel
theorem dX3_best_46 : decode cX3_best 46 = .ok (.aload_n 0, 1) := by decide +kernel
theorem dX3_best_47 : decode cX3_best 47 = .ok (.getfield 16, 3) := by decide +kernel
theorem dX3_best_50 : decode cX3_best 50 = .ok (.getfield 165, 3) := by decide +kernel
theorem dX3_best_53 : decode cX3_best 53 = .ok (.lstore_n 3, 1) := by decide +kernel
theorem dX3_best_54 : decode cX3_best 54 = .ok (.iconst (-1), 1) := by decide +kernel
theorem dX3_best_55 : decode cX3_best 55 = .ok (.istore 5, 2) := by decide +kernel
theorem dX3_best_57 : decode cX3_best 57 = .ok (.iconst (-1), 1) := by decide +kernel
theorem dX3_best_58 : decode cX3_best 58 = .ok (.istore 6, 2) := by decide +kernel
theorem dX3_best_60 : decode cX3_best 60 = .ok (.iconst 0, 1) := by decide +kernel
theorem dX3_best_61 : decode cX3_best 61 = .ok (.istore 7, 2) := by decide +kernel
theorem dX3_best_63 : decode cX3_best 63 = .ok (.iload 7, 2) := by decide +kernel
theorem dX3_best_65 : decode cX3_best 65 = .ok (.bipush 64, 2) := by decide +kernel
theorem dX3_best_67 : decode cX3_best 67 = .ok (.if_icmp .ge 92, 3) := by decide +kernel
theorem dX3_best_70 : decode cX3_best 70 = .ok (.aload_n 0, 1) := by decide +kernel
theorem dX3_best_71 : decode cX3_best 71 = .ok (.getfield 10, 3) := by decide +kernel
theorem dX3_best_74 : decode cX3_best 74 = .ok (.iload 7, 2) := by decide +kernel
theorem dX3_best_76 : decode cX3_best 76 = .ok (.invokevirtual 55, 3) := by decide +kernel
theorem dX3_best_79 : decode cX3_best 79 = .ok (.ifCond .eq 6, 3) := by decide +kernel
theorem dX3_best_82 : decode cX3_best 82 = .ok (.goto 71, 3) := by decide +kernel
theorem dX3_best_85 : decode cX3_best 85 = .ok (.iload_n 2, 1) := by decide +kernel
theorem dX3_best_86 : decode cX3_best 86 = .ok (.istore 8, 2) := by decide +kernel
theorem dX3_best_88 : decode cX3_best 88 = .ok (.lload_n 3, 1) := by decide +kernel
theorem dX3_best_89 : decode cX3_best 89 = .ok (.iload 7, 2) := by decide +kernel
theorem dX3_best_91 : decode cX3_best 91 = .ok (.invokestatic 168, 3) := by decide +kernel
theorem dX3_best_94 : decode cX3_best 94 = .ok (.ifCond .eq 44, 3) := by decide +kernel
theorem dX3_best_97 : decode cX3_best 97 = .ok (.aload_n 0, 1) := by decide +kernel
theorem dX3_best_98 : decode cX3_best 98 = .ok (.getfield 16, 3) := by decide +kernel
theorem dX3_best_101 : decode cX3_best 101 = .ok (.aload_n 0, 1) := by decide +kernel
theorem dX3_best_102 : decode cX3_best 102 = .ok (.getfield 10, 3) := by decide +kernel
theorem dX3_best_105 : decode cX3_best 105 = .ok (.invokevirtual 154, 3) := by decide +kernel
theorem dX3_best_108 : decode cX3_best 108 = .ok (.aload_n 0, 1) := by decide +kernel
theorem dX3_best_109 : decode cX3_best 109 = .ok (.getfield 16, 3) := by decide +kernel
theorem dX3_best_112 : decode cX3_best 112 = .ok (.iload 7, 2) := by decide +kernel
theorem dX3_best_114 : decode cX3_best 114 = .ok (.iconst 1, 1) := by decide +kernel
theorem dX3_best_115 : decode cX3_best 115 = .ok (.invokevirtual 58, 3) := by decide +kernel
theorem dX3_best_118 : decode cX3_best 118 = .ok (.aload_n 0, 1) := by decide +kernel
theorem dX3_best_119 : decode cX3_best 119 = .ok (.getfield 16, 3) := by decide +kernel
theorem dX3_best_122 : decode cX3_best 122 = .ok (.iload_n 1, 1) := by decide +kernel
theorem dX3_best_123 : decode cX3_best 123 = .ok (.invokevirtual 158, 3) := by decide +kernel
theorem dX3_best_126 : decode cX3_best 126 = .ok (.aload_n 0, 1) := by decide +kernel
theorem dX3_best_127 : decode cX3_best 127 = .ok (.getfield 16, 3) := by decide +kernel
theorem dX3_best_130 : decode cX3_best 130 = .ok (.getfield 125, 3) := by decide +kernel
theorem dX3_best_133 : decode cX3_best 133 = .ok (.invokestatic 128, 3) := by decide +kernel
theorem dX3_best_136 : decode cX3_best 136 = .ok (.istore 8, 2) := by decide +kernel
theorem dX3_best_138 : decode cX3_best 138 = .ok (.iload 8, 2) := by decide +kernel
theorem dX3_best_140 : decode cX3_best 140 = .ok (.iload 6, 2) := by decide +kernel
theorem dX3_best_142 : decode cX3_best 142 = .ok (.if_icmp .le 11, 3) := by decide +kernel
theorem dX3_best_145 : decode cX3_best 145 = .ok (.iload 8, 2) := by decide +kernel
theorem dX3_best_147 : decode cX3_best 147 = .ok (.istore 6, 2) := by decide +kernel
theorem dX3_best_149 : decode cX3_best 149 = .ok (.iload 7, 2) := by decide +kernel
theorem dX3_best_151 : decode cX3_best 151 = .ok (.istore 5, 2) := by decide +kernel
theorem dX3_best_153 : decode cX3_best 153 = .ok (.iinc 7 1, 3) := by decide +kernel
theorem dX3_best_156 : decode cX3_best 156 = .ok (.goto (-93), 3) := by decide +kernel
theorem dX3_best_159 : decode cX3_best 159 = .ok (.iload 5, 2) := by decide +kernel
theorem dX3_best_161 : decode cX3_best 161 = .ok (.ifCond .ge 11, 3) := by decide +kernel
theorem dX3_best_164 : decode cX3_best 164 = .ok (.aload_n 0, 1) := by decide +kernel
theorem dX3_best_165 : decode cX3_best 165 = .ok (.iconst 3, 1) := by decide +kernel
theorem dX3_best_166 : decode cX3_best 166 = .ok (.invokevirtual 51, 3) := by decide +kernel
theorem dX3_best_169 : decode cX3_best 169 = .ok (.goto 5, 3) := by decide +kernel
theorem dX3_best_172 : decode cX3_best 172 = .ok (.iload 5, 2) := by decide +kernel
theorem dX3_best_174 : decode cX3_best 174 = .ok (.ireturn, 1) := by decide +kernel
theorem dX3_drive_0 : decode cX3_drive 0 = .ok (.iload_n 1, 1) := by decide +kernel
theorem dX3_drive_1 : decode cX3_drive 1 = .ok (.invokestatic 71, 3) := by decide +kernel
theorem dX3_drive_4 : decode cX3_drive 4 = .ok (.ifCond .eq 11, 3) := by decide +kernel
theorem dX3_drive_7 : decode cX3_drive 7 = .ok (.aload_n 0, 1) := by decide +kernel
theorem dX3_drive_8 : decode cX3_drive 8 = .ok (.iload_n 2, 1) := by decide +kernel
theorem dX3_drive_9 : decode cX3_drive 9 = .ok (.invokevirtual 91, 3) := by decide +kernel
theorem dX3_drive_12 : decode cX3_drive 12 = .ok (.ifCond .ne 9, 3) := by decide +kernel
theorem dX3_drive_15 : decode cX3_drive 15 = .ok (.aload_n 0, 1) := by decide +kernel
theorem dX3_drive_16 : decode cX3_drive 16 = .ok (.iconst 0, 1) := by decide +kernel
theorem dX3_drive_17 : decode cX3_drive 17 = .ok (.invokevirtual 51, 3) := by decide +kernel
theorem dX3_drive_20 : decode cX3_drive 20 = .ok (.ireturn, 1) := by decide +kernel
theorem dX3_drive_21 : decode cX3_drive 21 = .ok (.iconst (-1), 1) := by decide +kernel
theorem dX3_drive_22 : decode cX3_drive 22 = .ok (.istore_n 3, 1) := by decide +kernel
theorem dX3_drive_23 : decode cX3_drive 23 = .ok (.bipush 21, 2) := by decide +kernel
theorem dX3_drive_25 : decode cX3_drive 25 = .ok (.istore 4, 2) := by decide +kernel
theorem dX3_drive_27 : decode cX3_drive 27 = .ok (.iconst 0, 1) := by decide +kernel
theorem dX3_drive_28 : decode cX3_drive 28 = .ok (.istore 5, 2) := by decide +kernel
theorem dX3_drive_30 : decode cX3_drive 30 = .ok (.iload 5, 2) := by decide +kernel
theorem dX3_drive_32 : decode cX3_drive 32 = .ok (.bipush 64, 2) := by decide +kernel
theorem dX3_drive_34 : decode cX3_drive 34 = .ok (.if_icmp .ge 57, 3) := by decide +kernel
theorem dX3_drive_37 : decode cX3_drive 37 = .ok (.aload_n 0, 1) := by decide +kernel
theorem dX3_drive_38 : decode cX3_drive 38 = .ok (.getfield 16, 3) := by decide +kernel
theorem dX3_drive_41 : decode cX3_drive 41 = .ok (.aload_n 0, 1) := by decide +kernel
theorem dX3_drive_42 : decode cX3_drive 42 = .ok (.getfield 10, 3) := by decide +kernel
theorem dX3_drive_45 : decode cX3_drive 45 = .ok (.invokevirtual 154, 3) := by decide +kernel
theorem dX3_drive_48 : decode cX3_drive 48 = .ok (.aload_n 0, 1) := by decide +kernel
theorem dX3_drive_49 : decode cX3_drive 49 = .ok (.getfield 16, 3) := by decide +kernel
theorem dX3_drive_52 : decode cX3_drive 52 = .ok (.getfield 74, 3) := by decide +kernel
theorem dX3_drive_55 : decode cX3_drive 55 = .ok (.iload_n 1, 1) := by decide +kernel
theorem dX3_drive_56 : decode cX3_drive 56 = .ok (.iload 5, 2) := by decide +kernel
theorem dX3_drive_58 : decode cX3_drive 58 = .ok (.iastore, 1) := by decide +kernel
theorem dX3_drive_59 : decode cX3_drive 59 = .ok (.aload_n 0, 1) := by decide +kernel
theorem dX3_drive_60 : decode cX3_drive 60 = .ok (.getfield 16, 3) := by decide +kernel
theorem dX3_drive_63 : decode cX3_drive 63 = .ok (.iload_n 2, 1) := by decide +kernel
theorem dX3_drive_64 : decode cX3_drive 64 = .ok (.iload 4, 2) := by decide +kernel
theorem dX3_drive_66 : decode cX3_drive 66 = .ok (.iconst 1, 1) := by decide +kernel
theorem dX3_drive_67 : decode cX3_drive 67 = .ok (.isub, 1) := by decide +kernel
theorem dX3_drive_68 : decode cX3_drive 68 = .ok (.invokevirtual 162, 3) := by decide +kernel
theorem dX3_drive_71 : decode cX3_drive 71 = .ok (.istore 6, 2) := by decide +kernel
theorem dX3_drive_73 : decode cX3_drive 73 = .ok (.iload 6, 2) := by decide +kernel
theorem dX3_drive_75 : decode cX3_drive 75 = .ok (.ifCond .lt 10, 3) := by decide +kernel
theorem dX3_drive_78 : decode cX3_drive 78 = .ok (.iload 6, 2) := by decide +kernel
theorem dX3_drive_80 : decode cX3_drive 80 = .ok (.istore 4, 2) := by decide +kernel
theorem dX3_drive_82 : decode cX3_drive 82 = .ok (.iload 5, 2) := by decide +kernel
theorem dX3_drive_84 : decode cX3_drive 84 = .ok (.istore_n 3, 1) := by decide +kernel
theorem dX3_drive_85 : decode cX3_drive 85 = .ok (.iinc 5 1, 3) := by decide +kernel
theorem dX3_drive_88 : decode cX3_drive 88 = .ok (.goto (-58), 3) := by decide +kernel
theorem dX3_drive_91 : decode cX3_drive 91 = .ok (.iload_n 3, 1) := by decide +kernel
theorem dX3_drive_92 : decode cX3_drive 92 = .ok (.ifCond .ge 11, 3) := by decide +kernel
theorem dX3_drive_95 : decode cX3_drive 95 = .ok (.aload_n 0, 1) := by decide +kernel
theorem dX3_drive_96 : decode cX3_drive 96 = .ok (.iconst 3, 1) := by decide +kernel
theorem dX3_drive_97 : decode cX3_drive 97 = .ok (.invokevirtual 51, 3) := by decide +kernel
theorem dX3_drive_100 : decode cX3_drive 100 = .ok (.goto 4, 3) := by decide +kernel
theorem dX3_drive_103 : decode cX3_drive 103 = .ok (.iload_n 3, 1) := by decide +kernel
theorem dX3_drive_104 : decode cX3_drive 104 = .ok (.ireturn, 1) := by decide +kernel
theorem dX3_kindFor_0 : decode cX3_kindFor 0 = .ok (.aload_n 0, 1) := by decide +kernel
theorem dX3_kindFor_1 : decode cX3_kindFor 1 = .ok (.iload_n 1, 1) := by decide +kernel
theorem dX3_kindFor_2 : decode cX3_kindFor 2 = .ok (.invokevirtual 91, 3) := by decide +kernel
theorem dX3_kindFor_5 : decode cX3_kindFor 5 = .ok (.ifCond .ne 9, 3) := by decide +kernel
theorem dX3_kindFor_8 : decode cX3_kindFor 8 = .ok (.aload_n 0, 1) := by decide +kernel
theorem dX3_kindFor_9 : decode cX3_kindFor 9 = .ok (.iconst 0, 1) := by decide +kernel
theorem dX3_kindFor_10 : decode cX3_kindFor 10 = .ok (.invokevirtual 51, 3) := by decide +kernel
theorem dX3_kindFor_13 : decode cX3_kindFor 13 = .ok (.ireturn, 1) := by decide +kernel
theorem dX3_kindFor_14 : decode cX3_kindFor 14 = .ok (.iconst 0, 1) := by decide +kernel
theorem dX3_kindFor_15 : decode cX3_kindFor 15 = .ok (.istore_n 2, 1) := by decide +kernel
theorem dX3_kindFor_16 : decode cX3_kindFor 16 = .ok (.iconst (-1), 1) := by decide +kernel
theorem dX3_kindFor_17 : decode cX3_kindFor 17 = .ok (.istore_n 3, 1) := by decide +kernel
theorem dX3_kindFor_18 : decode cX3_kindFor 18 = .ok (.iconst 0, 1) := by decide +kernel
theorem dX3_kindFor_19 : decode cX3_kindFor 19 = .ok (.istore 4, 2) := by decide +kernel
theorem dX3_kindFor_21 : decode cX3_kindFor 21 = .ok (.iload 4, 2) := by decide +kernel
theorem dX3_kindFor_23 : decode cX3_kindFor 23 = .ok (.bipush 7, 2) := by decide +kernel
theorem dX3_kindFor_25 : decode cX3_kindFor 25 = .ok (.if_icmp .ge 69, 3) := by decide +kernel
theorem dX3_kindFor_28 : decode cX3_kindFor 28 = .ok (.aload_n 0, 1) := by decide +kernel
theorem dX3_kindFor_29 : decode cX3_kindFor 29 = .ok (.getfield 16, 3) := by decide +kernel
theorem dX3_kindFor_32 : decode cX3_kindFor 32 = .ok (.aload_n 0, 1) := by decide +kernel
theorem dX3_kindFor_33 : decode cX3_kindFor 33 = .ok (.getfield 10, 3) := by decide +kernel
theorem dX3_kindFor_36 : decode cX3_kindFor 36 = .ok (.invokevirtual 154, 3) := by decide +kernel
theorem dX3_kindFor_39 : decode cX3_kindFor 39 = .ok (.aload_n 0, 1) := by decide +kernel
theorem dX3_kindFor_40 : decode cX3_kindFor 40 = .ok (.getfield 16, 3) := by decide +kernel
theorem dX3_kindFor_43 : decode cX3_kindFor 43 = .ok (.getfield 172, 3) := by decide +kernel
theorem dX3_kindFor_46 : decode cX3_kindFor 46 = .ok (.iload_n 1, 1) := by decide +kernel
theorem dX3_kindFor_47 : decode cX3_kindFor 47 = .ok (.iload 4, 2) := by decide +kernel
theorem dX3_kindFor_49 : decode cX3_kindFor 49 = .ok (.iastore, 1) := by decide +kernel
theorem dX3_kindFor_50 : decode cX3_kindFor 50 = .ok (.aload_n 0, 1) := by decide +kernel
theorem dX3_kindFor_51 : decode cX3_kindFor 51 = .ok (.getfield 16, 3) := by decide +kernel
theorem dX3_kindFor_54 : decode cX3_kindFor 54 = .ok (.iload_n 1, 1) := by decide +kernel
theorem dX3_kindFor_55 : decode cX3_kindFor 55 = .ok (.bipush 60, 2) := by decide +kernel
theorem dX3_kindFor_57 : decode cX3_kindFor 57 = .ok (.invokevirtual 162, 3) := by decide +kernel
theorem dX3_kindFor_60 : decode cX3_kindFor 60 = .ok (.istore 5, 2) := by decide +kernel
theorem dX3_kindFor_62 : decode cX3_kindFor 62 = .ok (.iload 5, 2) := by decide +kernel
theorem dX3_kindFor_64 : decode cX3_kindFor 64 = .ok (.ifCond .ge 8, 3) := by decide +kernel
theorem dX3_kindFor_67 : decode cX3_kindFor 67 = .ok (.bipush 60, 2) := by decide +kernel
theorem dX3_kindFor_69 : decode cX3_kindFor 69 = .ok (.goto 5, 3) := by decide +kernel
theorem dX3_kindFor_72 : decode cX3_kindFor 72 = .ok (.iload 5, 2) := by decide +kernel
theorem dX3_kindFor_74 : decode cX3_kindFor 74 = .ok (.istore 6, 2) := by decide +kernel
theorem dX3_kindFor_76 : decode cX3_kindFor 76 = .ok (.iload 6, 2) := by decide +kernel
theorem dX3_kindFor_78 : decode cX3_kindFor 78 = .ok (.iload_n 3, 1) := by decide +kernel
theorem dX3_kindFor_79 : decode cX3_kindFor 79 = .ok (.if_icmp .le 9, 3) := by decide +kernel
theorem dX3_kindFor_82 : decode cX3_kindFor 82 = .ok (.iload 6, 2) := by decide +kernel
theorem dX3_kindFor_84 : decode cX3_kindFor 84 = .ok (.istore_n 3, 1) := by decide +kernel
theorem dX3_kindFor_85 : decode cX3_kindFor 85 = .ok (.iload 4, 2) := by decide +kernel
theorem dX3_kindFor_87 : decode cX3_kindFor 87 = .ok (.istore_n 2, 1) := by decide +kernel
theorem dX3_kindFor_88 : decode cX3_kindFor 88 = .ok (.iinc 4 1, 3) := by decide +kernel
theorem dX3_kindFor_91 : decode cX3_kindFor 91 = .ok (.goto (-70), 3) := by decide +kernel
theorem dX3_kindFor_94 : decode cX3_kindFor 94 = .ok (.iload_n 2, 1) := by decide +kernel
theorem dX3_kindFor_95 : decode cX3_kindFor 95 = .ok (.ireturn, 1) := by decide +kernel
theorem dX3_stands_0 : decode cX3_stands 0 = .ok (.aload_n 0, 1) := by decide +kernel
theorem dX3_stands_1 : decode cX3_stands 1 = .ok (.iload_n 1, 1) := by decide +kernel
theorem dX3_stands_2 : decode cX3_stands 2 = .ok (.iload_n 2, 1) := by decide +kernel
theorem dX3_stands_3 : decode cX3_stands 3 = .ok (.invokevirtual 175, 3) := by decide +kernel
theorem dX3_stands_6 : decode cX3_stands 6 = .ok (.istore_n 3, 1) := by decide +kernel
theorem dX3_stands_7 : decode cX3_stands 7 = .ok (.iload_n 3, 1) := by decide +kernel
theorem dX3_stands_8 : decode cX3_stands 8 = .ok (.iconst (-1), 1) := by decide +kernel
theorem dX3_stands_9 : decode cX3_stands 9 = .ok (.if_icmp .eq 9, 3) := by decide +kernel
theorem dX3_stands_12 : decode cX3_stands 12 = .ok (.aload_n 0, 1) := by decide +kernel
theorem dX3_stands_13 : decode cX3_stands 13 = .ok (.iload_n 3, 1) := by decide +kernel
theorem dX3_stands_14 : decode cX3_stands 14 = .ok (.invokevirtual 51, 3) := by decide +kernel
theorem dX3_stands_17 : decode cX3_stands 17 = .ok (.ireturn, 1) := by decide +kernel
theorem dX3_stands_18 : decode cX3_stands 18 = .ok (.aload_n 0, 1) := by decide +kernel
theorem dX3_stands_19 : decode cX3_stands 19 = .ok (.getfield 35, 3) := by decide +kernel
theorem dX3_stands_22 : decode cX3_stands 22 = .ok (.iload_n 1, 1) := by decide +kernel
theorem dX3_stands_23 : decode cX3_stands 23 = .ok (.aaload, 1) := by decide +kernel
theorem dX3_stands_24 : decode cX3_stands 24 = .ok (.iload_n 2, 1) := by decide +kernel
theorem dX3_stands_25 : decode cX3_stands 25 = .ok (.invokestatic 178, 3) := by decide +kernel
theorem dX3_stands_28 : decode cX3_stands 28 = .ok (.invokestatic 137, 3) := by decide +kernel
theorem dX3_stands_31 : decode cX3_stands 31 = .ok (.ireturn, 1) := by decide +kernel
theorem dX3_where_0 : decode cX3_where 0 = .ok (.aload_n 0, 1) := by decide +kernel
theorem dX3_where_1 : decode cX3_where 1 = .ok (.iload_n 1, 1) := by decide +kernel
theorem dX3_where_2 : decode cX3_where 2 = .ok (.iload_n 2, 1) := by decide +kernel
theorem dX3_where_3 : decode cX3_where 3 = .ok (.invokevirtual 175, 3) := by decide +kernel
theorem dX3_where_6 : decode cX3_where 6 = .ok (.istore_n 3, 1) := by decide +kernel
theorem dX3_where_7 : decode cX3_where 7 = .ok (.iload_n 3, 1) := by decide +kernel
theorem dX3_where_8 : decode cX3_where 8 = .ok (.iconst (-1), 1) := by decide +kernel
theorem dX3_where_9 : decode cX3_where 9 = .ok (.if_icmp .eq 9, 3) := by decide +kernel
theorem dX3_where_12 : decode cX3_where 12 = .ok (.aload_n 0, 1) := by decide +kernel
theorem dX3_where_13 : decode cX3_where 13 = .ok (.iload_n 3, 1) := by decide +kernel
theorem dX3_where_14 : decode cX3_where 14 = .ok (.invokevirtual 51, 3) := by decide +kernel
theorem dX3_where_17 : decode cX3_where 17 = .ok (.ireturn, 1) := by decide +kernel
theorem dX3_where_18 : decode cX3_where 18 = .ok (.aload_n 0, 1) := by decide +kernel
theorem dX3_where_19 : decode cX3_where 19 = .ok (.getfield 35, 3) := by decide +kernel
theorem dX3_where_22 : decode cX3_where 22 = .ok (.iload_n 1, 1) := by decide +kernel
theorem dX3_where_23 : decode cX3_where 23 = .ok (.aaload, 1) := by decide +kernel
theorem dX3_where_24 : decode cX3_where 24 = .ok (.iload_n 2, 1) := by decide +kernel
theorem dX3_where_25 : decode cX3_where 25 = .ok (.invokestatic 178, 3) := by decide +kernel
theorem dX3_where_28 : decode cX3_where 28 = .ok (.lstore 4, 2) := by decide +kernel
theorem dX3_where_30 : decode cX3_where 30 = .ok (.iconst 0, 1) := by decide +kernel
theorem dX3_where_31 : decode cX3_where 31 = .ok (.istore 6, 2) := by decide +kernel
theorem dX3_where_33 : decode cX3_where 33 = .ok (.iload 6, 2) := by decide +kernel
theorem dX3_where_35 : decode cX3_where 35 = .ok (.bipush 64, 2) := by decide +kernel
theorem dX3_where_37 : decode cX3_where 37 = .ok (.if_icmp .ge 22, 3) := by decide +kernel
theorem dX3_where_40 : decode cX3_where 40 = .ok (.lload 4, 2) := by decide +kernel
theorem dX3_where_42 : decode cX3_where 42 = .ok (.iload 6, 2) := by decide +kernel
theorem dX3_where_44 : decode cX3_where 44 = .ok (.invokestatic 168, 3) := by decide +kernel
theorem dX3_where_47 : decode cX3_where 47 = .ok (.ifCond .eq 6, 3) := by decide +kernel
theorem dX3_where_50 : decode cX3_where 50 = .ok (.iload 6, 2) := by decide +kernel
theorem dX3_where_52 : decode cX3_where 52 = .ok (.ireturn, 1) := by decide +kernel
theorem dX3_where_53 : decode cX3_where 53 = .ok (.iinc 6 1, 3) := by decide +kernel
theorem dX3_where_56 : decode cX3_where 56 = .ok (.goto (-23), 3) := by decide +kernel
theorem dX3_where_59 : decode cX3_where 59 = .ok (.aload_n 0, 1) := by decide +kernel
theorem dX3_where_60 : decode cX3_where 60 = .ok (.iconst 3, 1) := by decide +kernel
theorem dX3_where_61 : decode cX3_where 61 = .ok (.invokevirtual 51, 3) := by decide +kernel
theorem dX3_where_64 : decode cX3_where 64 = .ok (.ireturn, 1) := by decide +kernel
theorem dX3_ear_0 : decode cX3_ear 0 = .ok (.aload_n 0, 1) := by decide +kernel
theorem dX3_ear_1 : decode cX3_ear 1 = .ok (.iload_n 1, 1) := by decide +kernel
theorem dX3_ear_2 : decode cX3_ear 2 = .ok (.iload_n 2, 1) := by decide +kernel
theorem dX3_ear_3 : decode cX3_ear 3 = .ok (.invokevirtual 175, 3) := by decide +kernel
theorem dX3_ear_6 : decode cX3_ear 6 = .ok (.istore_n 3, 1) := by decide +kernel
theorem dX3_ear_7 : decode cX3_ear 7 = .ok (.iload_n 3, 1) := by decide +kernel
theorem dX3_ear_8 : decode cX3_ear 8 = .ok (.iconst (-1), 1) := by decide +kernel
theorem dX3_ear_9 : decode cX3_ear 9 = .ok (.if_icmp .eq 9, 3) := by decide +kernel
theorem dX3_ear_12 : decode cX3_ear 12 = .ok (.aload_n 0, 1) := by decide +kernel
theorem dX3_ear_13 : decode cX3_ear 13 = .ok (.iload_n 3, 1) := by decide +kernel
theorem dX3_ear_14 : decode cX3_ear 14 = .ok (.invokevirtual 51, 3) := by decide +kernel
theorem dX3_ear_17 : decode cX3_ear 17 = .ok (.ireturn, 1) := by decide +kernel
theorem dX3_ear_18 : decode cX3_ear 18 = .ok (.aload_n 0, 1) := by decide +kernel
theorem dX3_ear_19 : decode cX3_ear 19 = .ok (.getfield 35, 3) := by decide +kernel
theorem dX3_ear_22 : decode cX3_ear 22 = .ok (.iload_n 1, 1) := by decide +kernel
theorem dX3_ear_23 : decode cX3_ear 23 = .ok (.aaload, 1) := by decide +kernel
theorem dX3_ear_24 : decode cX3_ear 24 = .ok (.iload_n 2, 1) := by decide +kernel
theorem dX3_ear_25 : decode cX3_ear 25 = .ok (.invokestatic 178, 3) := by decide +kernel
theorem dX3_ear_28 : decode cX3_ear 28 = .ok (.lstore 4, 2) := by decide +kernel
theorem dX3_ear_30 : decode cX3_ear 30 = .ok (.lload 4, 2) := by decide +kernel
theorem dX3_ear_32 : decode cX3_ear 32 = .ok (.lconst 0, 1) := by decide +kernel
theorem dX3_ear_33 : decode cX3_ear 33 = .ok (.lcmp, 1) := by decide +kernel
theorem dX3_ear_34 : decode cX3_ear 34 = .ok (.ifCond .ne 9, 3) := by decide +kernel
theorem dX3_ear_37 : decode cX3_ear 37 = .ok (.aload_n 0, 1) := by decide +kernel
theorem dX3_ear_38 : decode cX3_ear 38 = .ok (.iconst 3, 1) := by decide +kernel
theorem dX3_ear_39 : decode cX3_ear 39 = .ok (.invokevirtual 51, 3) := by decide +kernel
theorem dX3_ear_42 : decode cX3_ear 42 = .ok (.ireturn, 1) := by decide +kernel
theorem dX3_ear_43 : decode cX3_ear 43 = .ok (.iconst 0, 1) := by decide +kernel
theorem dX3_ear_44 : decode cX3_ear 44 = .ok (.istore 6, 2) := by decide +kernel
theorem dX3_ear_46 : decode cX3_ear 46 = .ok (.bipush 65, 2) := by decide +kernel
theorem dX3_ear_48 : decode cX3_ear 48 = .ok (.istore 7, 2) := by decide +kernel
theorem dX3_ear_50 : decode cX3_ear 50 = .ok (.iconst 0, 1) := by decide +kernel
theorem dX3_ear_51 : decode cX3_ear 51 = .ok (.istore 8, 2) := by decide +kernel
theorem dX3_ear_53 : decode cX3_ear 53 = .ok (.iload 8, 2) := by decide +kernel
theorem dX3_ear_55 : decode cX3_ear 55 = .ok (.bipush 64, 2) := by decide +kernel
theorem dX3_ear_57 : decode cX3_ear 57 = .ok (.if_icmp .ge 35, 3) := by decide +kernel
theorem dX3_ear_60 : decode cX3_ear 60 = .ok (.aload_n 0, 1) := by decide +kernel
theorem dX3_ear_61 : decode cX3_ear 61 = .ok (.lload 4, 2) := by decide +kernel
theorem dX3_ear_63 : decode cX3_ear 63 = .ok (.iload 8, 2) := by decide +kernel
theorem dX3_ear_65 : decode cX3_ear 65 = .ok (.iload_n 2, 1) := by decide +kernel
theorem dX3_ear_66 : decode cX3_ear 66 = .ok (.invokevirtual 182, 3) := by decide +kernel
theorem dX3_ear_69 : decode cX3_ear 69 = .ok (.istore 9, 2) := by decide +kernel
theorem dX3_ear_71 : decode cX3_ear 71 = .ok (.iload 9, 2) := by decide +kernel
theorem dX3_ear_73 : decode cX3_ear 73 = .ok (.iload 7, 2) := by decide +kernel
theorem dX3_ear_75 : decode cX3_ear 75 = .ok (.if_icmp .ge 11, 3) := by decide +kernel
theorem dX3_ear_78 : decode cX3_ear 78 = .ok (.iload 9, 2) := by decide +kernel
theorem dX3_ear_80 : decode cX3_ear 80 = .ok (.istore 7, 2) := by decide +kernel
theorem dX3_ear_82 : decode cX3_ear 82 = .ok (.iload 8, 2) := by decide +kernel
theorem dX3_ear_84 : decode cX3_ear 84 = .ok (.istore 6, 2) := by decide +kernel
theorem dX3_ear_86 : decode cX3_ear 86 = .ok (.iinc 8 1, 3) := by decide +kernel
theorem dX3_ear_89 : decode cX3_ear 89 = .ok (.goto (-36), 3) := by decide +kernel
theorem dX3_ear_92 : decode cX3_ear 92 = .ok (.iload 6, 2) := by decide +kernel
theorem dX3_ear_94 : decode cX3_ear 94 = .ok (.ireturn, 1) := by decide +kernel
theorem dX3_whose_0 : decode cX3_whose 0 = .ok (.aload_n 0, 1) := by decide +kernel
theorem dX3_whose_1 : decode cX3_whose 1 = .ok (.iload_n 1, 1) := by decide +kernel
theorem dX3_whose_2 : decode cX3_whose 2 = .ok (.bipush 99, 2) := by decide +kernel
theorem dX3_whose_4 : decode cX3_whose 4 = .ok (.invokevirtual 175, 3) := by decide +kernel
theorem dX3_whose_7 : decode cX3_whose 7 = .ok (.istore_n 2, 1) := by decide +kernel
theorem dX3_whose_8 : decode cX3_whose 8 = .ok (.iload_n 2, 1) := by decide +kernel
theorem dX3_whose_9 : decode cX3_whose 9 = .ok (.iconst (-1), 1) := by decide +kernel
theorem dX3_whose_10 : decode cX3_whose 10 = .ok (.if_icmp .eq 9, 3) := by decide +kernel
theorem dX3_whose_13 : decode cX3_whose 13 = .ok (.aload_n 0, 1) := by decide +kernel
theorem dX3_whose_14 : decode cX3_whose 14 = .ok (.iload_n 2, 1) := by decide +kernel
theorem dX3_whose_15 : decode cX3_whose 15 = .ok (.invokevirtual 51, 3) := by decide +kernel
theorem dX3_whose_18 : decode cX3_whose 18 = .ok (.ireturn, 1) := by decide +kernel
theorem dX3_whose_19 : decode cX3_whose 19 = .ok (.iconst 0, 1) := by decide +kernel
theorem dX3_whose_20 : decode cX3_whose 20 = .ok (.istore_n 3, 1) := by decide +kernel
theorem dX3_whose_21 : decode cX3_whose 21 = .ok (.iconst 0, 1) := by decide +kernel
theorem dX3_whose_22 : decode cX3_whose 22 = .ok (.istore 4, 2) := by decide +kernel
theorem dX3_whose_24 : decode cX3_whose 24 = .ok (.iload 4, 2) := by decide +kernel
theorem dX3_whose_26 : decode cX3_whose 26 = .ok (.aload_n 0, 1) := by decide +kernel
theorem dX3_whose_27 : decode cX3_whose 27 = .ok (.getfield 10, 3) := by decide +kernel
theorem dX3_whose_30 : decode cX3_whose 30 = .ok (.getfield 84, 3) := by decide +kernel
theorem dX3_whose_33 : decode cX3_whose 33 = .ok (.if_icmp .ge 60, 3) := by decide +kernel
theorem dX3_whose_36 : decode cX3_whose 36 = .ok (.aload_n 0, 1) := by decide +kernel
theorem dX3_whose_37 : decode cX3_whose 37 = .ok (.getfield 10, 3) := by decide +kernel
theorem dX3_whose_40 : decode cX3_whose 40 = .ok (.iload 4, 2) := by decide +kernel
theorem dX3_whose_42 : decode cX3_whose 42 = .ok (.invokevirtual 186, 3) := by decide +kernel
theorem dX3_whose_45 : decode cX3_whose 45 = .ok (.ifCond .eq 42, 3) := by decide +kernel
theorem dX3_whose_48 : decode cX3_whose 48 = .ok (.aload_n 0, 1) := by decide +kernel
theorem dX3_whose_49 : decode cX3_whose 49 = .ok (.getfield 35, 3) := by decide +kernel
theorem dX3_whose_52 : decode cX3_whose 52 = .ok (.iload_n 1, 1) := by decide +kernel
theorem dX3_whose_53 : decode cX3_whose 53 = .ok (.aaload, 1) := by decide +kernel
theorem dX3_whose_54 : decode cX3_whose 54 = .ok (.aload_n 0, 1) := by decide +kernel
theorem dX3_whose_55 : decode cX3_whose 55 = .ok (.getfield 10, 3) := by decide +kernel
theorem dX3_whose_58 : decode cX3_whose 58 = .ok (.getfield 145, 3) := by decide +kernel
theorem dX3_whose_61 : decode cX3_whose 61 = .ok (.iload 4, 2) := by decide +kernel
theorem dX3_whose_63 : decode cX3_whose 63 = .ok (.iaload, 1) := by decide +kernel
theorem dX3_whose_64 : decode cX3_whose 64 = .ok (.aload_n 0, 1) := by decide +kernel
theorem dX3_whose_65 : decode cX3_whose 65 = .ok (.getfield 10, 3) := by decide +kernel
theorem dX3_whose_68 : decode cX3_whose 68 = .ok (.getfield 97, 3) := by decide +kernel
theorem dX3_whose_71 : decode cX3_whose 71 = .ok (.iload 4, 2) := by decide +kernel
theorem dX3_whose_73 : decode cX3_whose 73 = .ok (.iaload, 1) := by decide +kernel
theorem dX3_whose_74 : decode cX3_whose 74 = .ok (.invokevirtual 189, 3) := by decide +kernel
theorem dX3_whose_77 : decode cX3_whose 77 = .ok (.ifCond .eq 10, 3) := by decide +kernel
theorem dX3_whose_80 : decode cX3_whose 80 = .ok (.iload_n 3, 1) := by decide +kernel
theorem dX3_whose_81 : decode cX3_whose 81 = .ok (.iconst 1, 1) := by decide +kernel
theorem dX3_whose_82 : decode cX3_whose 82 = .ok (.iload 4, 2) := by decide +kernel
theorem dX3_whose_84 : decode cX3_whose 84 = .ok (.ishl, 1) := by decide +kernel
theorem dX3_whose_85 : decode cX3_whose 85 = .ok (.ior, 1) := by decide +kernel
theorem dX3_whose_86 : decode cX3_whose 86 = .ok (.istore_n 3, 1) := by decide +kernel
theorem dX3_whose_87 : decode cX3_whose 87 = .ok (.iinc 4 1, 3) := by decide +kernel
theorem dX3_whose_90 : decode cX3_whose 90 = .ok (.goto (-66), 3) := by decide +kernel
theorem dX3_whose_93 : decode cX3_whose 93 = .ok (.iload_n 3, 1) := by decide +kernel
theorem dX3_whose_94 : decode cX3_whose 94 = .ok (.ireturn, 1) := by decide +kernel
theorem dX3_stock_0 : decode cX3_stock 0 = .ok (.iload_n 1, 1) := by decide +kernel
theorem dX3_stock_1 : decode cX3_stock 1 = .ok (.invokestatic 192, 3) := by decide +kernel
theorem dX3_stock_4 : decode cX3_stock 4 = .ok (.ifCond .eq 24, 3) := by decide +kernel
theorem dX3_stock_7 : decode cX3_stock 7 = .ok (.iload_n 2, 1) := by decide +kernel
theorem dX3_stock_8 : decode cX3_stock 8 = .ok (.ifCond .lt 20, 3) := by decide +kernel
theorem dX3_stock_11 : decode cX3_stock 11 = .ok (.iload_n 2, 1) := by decide +kernel
theorem dX3_stock_12 : decode cX3_stock 12 = .ok (.sipush 999, 3) := by decide +kernel
theorem dX3_stock_15 : decode cX3_stock 15 = .ok (.if_icmp .gt 13, 3) := by decide +kernel
theorem dX3_stock_18 : decode cX3_stock 18 = .ok (.iload_n 3, 1) := by decide +kernel
theorem dX3_stock_19 : decode cX3_stock 19 = .ok (.ifCond .lt 9, 3) := by decide +kernel
theorem dX3_stock_22 : decode cX3_stock 22 = .ok (.iload_n 3, 1) := by decide +kernel
theorem dX3_stock_23 : decode cX3_stock 23 = .ok (.bipush 99, 2) := by decide +kernel
theorem dX3_stock_25 : decode cX3_stock 25 = .ok (.if_icmp .le 9, 3) := by decide +kernel
theorem dX3_stock_28 : decode cX3_stock 28 = .ok (.aload_n 0, 1) := by decide +kernel
theorem dX3_stock_29 : decode cX3_stock 29 = .ok (.iconst 0, 1) := by decide +kernel
theorem dX3_stock_30 : decode cX3_stock 30 = .ok (.invokevirtual 51, 3) := by decide +kernel
theorem dX3_stock_33 : decode cX3_stock 33 = .ok (.ireturn, 1) := by decide +kernel
theorem dX3_stock_34 : decode cX3_stock 34 = .ok (.iload_n 1, 1) := by decide +kernel
theorem dX3_stock_35 : decode cX3_stock 35 = .ok (.iload_n 2, 1) := by decide +kernel
theorem dX3_stock_36 : decode cX3_stock 36 = .ok (.iload_n 3, 1) := by decide +kernel
theorem dX3_stock_37 : decode cX3_stock 37 = .ok (.invokestatic 195, 3) := by decide +kernel
theorem dX3_stock_40 : decode cX3_stock 40 = .ok (.ireturn, 1) := by decide +kernel
theorem dX3_lasts_0 : decode cX3_lasts 0 = .ok (.iload_n 1, 1) := by decide +kernel
theorem dX3_lasts_1 : decode cX3_lasts 1 = .ok (.invokestatic 192, 3) := by decide +kernel
theorem dX3_lasts_4 : decode cX3_lasts 4 = .ok (.ifCond .eq 14, 3) := by decide +kernel
theorem dX3_lasts_7 : decode cX3_lasts 7 = .ok (.iload_n 2, 1) := by decide +kernel
theorem dX3_lasts_8 : decode cX3_lasts 8 = .ok (.iconst 1, 1) := by decide +kernel
theorem dX3_lasts_9 : decode cX3_lasts 9 = .ok (.if_icmp .lt 9, 3) := by decide +kernel
theorem dX3_lasts_12 : decode cX3_lasts 12 = .ok (.iload_n 2, 1) := by decide +kernel
theorem dX3_lasts_13 : decode cX3_lasts 13 = .ok (.bipush 99, 2) := by decide +kernel
theorem dX3_lasts_15 : decode cX3_lasts 15 = .ok (.if_icmp .le 9, 3) := by decide +kernel
theorem dX3_lasts_18 : decode cX3_lasts 18 = .ok (.aload_n 0, 1) := by decide +kernel
theorem dX3_lasts_19 : decode cX3_lasts 19 = .ok (.iconst 0, 1) := by decide +kernel
theorem dX3_lasts_20 : decode cX3_lasts 20 = .ok (.invokevirtual 51, 3) := by decide +kernel
theorem dX3_lasts_23 : decode cX3_lasts 23 = .ok (.ireturn, 1) := by decide +kernel
theorem dX3_lasts_24 : decode cX3_lasts 24 = .ok (.iconst 0, 1) := by decide +kernel
theorem dX3_lasts_25 : decode cX3_lasts 25 = .ok (.istore_n 3, 1) := by decide +kernel
theorem dX3_lasts_26 : decode cX3_lasts 26 = .ok (.sipush 1000, 3) := by decide +kernel
theorem dX3_lasts_29 : decode cX3_lasts 29 = .ok (.istore 4, 2) := by decide +kernel
theorem dX3_lasts_31 : decode cX3_lasts 31 = .ok (.iconst 0, 1) := by decide +kernel
theorem dX3_lasts_32 : decode cX3_lasts 32 = .ok (.istore 5, 2) := by decide +kernel
theorem dX3_lasts_34 : decode cX3_lasts 34 = .ok (.iload 5, 2) := by decide +kernel
theorem dX3_lasts_36 : decode cX3_lasts 36 = .ok (.sipush 999, 3) := by decide +kernel
theorem dX3_lasts_39 : decode cX3_lasts 39 = .ok (.if_icmp .ge 46, 3) := by decide +kernel
theorem dX3_lasts_42 : decode cX3_lasts 42 = .ok (.iload 4, 2) := by decide +kernel
theorem dX3_lasts_44 : decode cX3_lasts 44 = .ok (.iload_n 3, 1) := by decide +kernel
theorem dX3_lasts_45 : decode cX3_lasts 45 = .ok (.isub, 1) := by decide +kernel
theorem dX3_lasts_46 : decode cX3_lasts 46 = .ok (.iconst 1, 1) := by decide +kernel
theorem dX3_lasts_47 : decode cX3_lasts 47 = .ok (.if_icmp .le 38, 3) := by decide +kernel
theorem dX3_lasts_50 : decode cX3_lasts 50 = .ok (.iload_n 3, 1) := by decide +kernel
theorem dX3_lasts_51 : decode cX3_lasts 51 = .ok (.iload 4, 2) := by decide +kernel
theorem dX3_lasts_53 : decode cX3_lasts 53 = .ok (.iadd, 1) := by decide +kernel
theorem dX3_lasts_54 : decode cX3_lasts 54 = .ok (.iconst 2, 1) := by decide +kernel
theorem dX3_lasts_55 : decode cX3_lasts 55 = .ok (.idiv, 1) := by decide +kernel
theorem dX3_lasts_56 : decode cX3_lasts 56 = .ok (.istore 6, 2) := by decide +kernel
theorem dX3_lasts_58 : decode cX3_lasts 58 = .ok (.iload_n 1, 1) := by decide +kernel
theorem dX3_lasts_59 : decode cX3_lasts 59 = .ok (.iload 6, 2) := by decide +kernel
theorem dX3_lasts_61 : decode cX3_lasts 61 = .ok (.iload_n 2, 1) := by decide +kernel
theorem dX3_lasts_62 : decode cX3_lasts 62 = .ok (.invokestatic 195, 3) := by decide +kernel
theorem dX3_lasts_65 : decode cX3_lasts 65 = .ok (.iload_n 1, 1) := by decide +kernel
theorem dX3_lasts_66 : decode cX3_lasts 66 = .ok (.if_icmp .lt 9, 3) := by decide +kernel
theorem dX3_lasts_69 : decode cX3_lasts 69 = .ok (.iload 6, 2) := by decide +kernel
theorem dX3_lasts_71 : decode cX3_lasts 71 = .ok (.istore_n 3, 1) := by decide +kernel
theorem dX3_lasts_72 : decode cX3_lasts 72 = .ok (.goto 7, 3) := by decide +kernel
theorem dX3_lasts_75 : decode cX3_lasts 75 = .ok (.iload 6, 2) := by decide +kernel
theorem dX3_lasts_77 : decode cX3_lasts 77 = .ok (.istore 4, 2) := by decide +kernel
theorem dX3_lasts_79 : decode cX3_lasts 79 = .ok (.iinc 5 1, 3) := by decide +kernel
theorem dX3_lasts_82 : decode cX3_lasts 82 = .ok (.goto (-48), 3) := by decide +kernel
theorem dX3_lasts_85 : decode cX3_lasts 85 = .ok (.iload_n 3, 1) := by decide +kernel
theorem dX3_lasts_86 : decode cX3_lasts 86 = .ok (.ireturn, 1) := by decide +kernel
theorem dX3_ring_0 : decode cX3_ring 0 = .ok (.aload_n 0, 1) := by decide +kernel
theorem dX3_ring_1 : decode cX3_ring 1 = .ok (.getfield 10, 3) := by decide +kernel
theorem dX3_ring_4 : decode cX3_ring 4 = .ok (.invokevirtual 199, 3) := by decide +kernel
theorem dX3_ring_7 : decode cX3_ring 7 = .ok (.invokestatic 128, 3) := by decide +kernel
theorem dX3_ring_10 : decode cX3_ring 10 = .ok (.ireturn, 1) := by decide +kernel
theorem dX3_rings_0 : decode cX3_rings 0 = .ok (.aload_n 0, 1) := by decide +kernel
theorem dX3_rings_1 : decode cX3_rings 1 = .ok (.getfield 10, 3) := by decide +kernel
theorem dX3_rings_4 : decode cX3_rings 4 = .ok (.invokevirtual 199, 3) := by decide +kernel
theorem dX3_rings_7 : decode cX3_rings 7 = .ok (.ireturn, 1) := by decide +kernel
theorem dX3_peals_0 : decode cX3_peals 0 = .ok (.iconst 0, 1) := by decide +kernel
theorem dX3_peals_1 : decode cX3_peals 1 = .ok (.istore_n 1, 1) := by decide +kernel
theorem dX3_peals_2 : decode cX3_peals 2 = .ok (.iconst 1, 1) := by decide +kernel
theorem dX3_peals_3 : decode cX3_peals 3 = .ok (.istore_n 2, 1) := by decide +kernel
theorem dX3_peals_4 : decode cX3_peals 4 = .ok (.iload_n 2, 1) := by decide +kernel
theorem dX3_peals_5 : decode cX3_peals 5 = .ok (.iconst 1, 1) := by decide +kernel
theorem dX3_peals_6 : decode cX3_peals 6 = .ok (.aload_n 0, 1) := by decide +kernel
theorem dX3_peals_7 : decode cX3_peals 7 = .ok (.getfield 10, 3) := by decide +kernel
theorem dX3_peals_10 : decode cX3_peals 10 = .ok (.getfield 84, 3) := by decide +kernel
theorem dX3_peals_13 : decode cX3_peals 13 = .ok (.ishl, 1) := by decide +kernel
theorem dX3_peals_14 : decode cX3_peals 14 = .ok (.if_icmp .ge 23, 3) := by decide +kernel
theorem dX3_peals_17 : decode cX3_peals 17 = .ok (.aload_n 0, 1) := by decide +kernel
theorem dX3_peals_18 : decode cX3_peals 18 = .ok (.getfield 10, 3) := by decide +kernel
theorem dX3_peals_21 : decode cX3_peals 21 = .ok (.iload_n 2, 1) := by decide +kernel
theorem dX3_peals_22 : decode cX3_peals 22 = .ok (.invokevirtual 203, 3) := by decide +kernel
theorem dX3_peals_25 : decode cX3_peals 25 = .ok (.ifCond .eq 6, 3) := by decide +kernel
theorem dX3_peals_28 : decode cX3_peals 28 = .ok (.iinc 1 1, 3) := by decide +kernel
theorem dX3_peals_31 : decode cX3_peals 31 = .ok (.iinc 2 1, 3) := by decide +kernel
theorem dX3_peals_34 : decode cX3_peals 34 = .ok (.goto (-30), 3) := by decide +kernel
theorem dX3_peals_37 : decode cX3_peals 37 = .ok (.iload_n 1, 1) := by decide +kernel
theorem dX3_peals_38 : decode cX3_peals 38 = .ok (.ireturn, 1) := by decide +kernel
theorem dX3_wanted_0 : decode cX3_wanted 0 = .ok (.aload_n 0, 1) := by decide +kernel
theorem dX3_wanted_1 : decode cX3_wanted 1 = .ok (.getfield 10, 3) := by decide +kernel
theorem dX3_wanted_4 : decode cX3_wanted 4 = .ok (.invokevirtual 206, 3) := by decide +kernel
theorem dX3_wanted_7 : decode cX3_wanted 7 = .ok (.istore_n 1, 1) := by decide +kernel
theorem dX3_wanted_8 : decode cX3_wanted 8 = .ok (.iconst 0, 1) := by decide +kernel
theorem dX3_wanted_9 : decode cX3_wanted 9 = .ok (.istore_n 2, 1) := by decide +kernel
theorem dX3_wanted_10 : decode cX3_wanted 10 = .ok (.iconst 0, 1) := by decide +kernel
theorem dX3_wanted_11 : decode cX3_wanted 11 = .ok (.istore_n 3, 1) := by decide +kernel
theorem dX3_wanted_12 : decode cX3_wanted 12 = .ok (.iconst 0, 1) := by decide +kernel
theorem dX3_wanted_13 : decode cX3_wanted 13 = .ok (.istore 4, 2) := by decide +kernel
theorem dX3_wanted_15 : decode cX3_wanted 15 = .ok (.iload 4, 2) := by decide +kernel
theorem dX3_wanted_17 : decode cX3_wanted 17 = .ok (.bipush 12, 2) := by decide +kernel
theorem dX3_wanted_19 : decode cX3_wanted 19 = .ok (.if_icmp .ge 32, 3) := by decide +kernel
theorem dX3_wanted_22 : decode cX3_wanted 22 = .ok (.iload_n 1, 1) := by decide +kernel
theorem dX3_wanted_23 : decode cX3_wanted 23 = .ok (.iconst 1, 1) := by decide +kernel
theorem dX3_wanted_24 : decode cX3_wanted 24 = .ok (.iload 4, 2) := by decide +kernel
theorem dX3_wanted_26 : decode cX3_wanted 26 = .ok (.ishl, 1) := by decide +kernel
theorem dX3_wanted_27 : decode cX3_wanted 27 = .ok (.ior, 1) := by decide +kernel
theorem dX3_wanted_28 : decode cX3_wanted 28 = .ok (.invokestatic 209, 3) := by decide +kernel
theorem dX3_wanted_31 : decode cX3_wanted 31 = .ok (.istore 5, 2) := by decide +kernel
theorem dX3_wanted_33 : decode cX3_wanted 33 = .ok (.iload 5, 2) := by decide +kernel
theorem dX3_wanted_35 : decode cX3_wanted 35 = .ok (.iload_n 3, 1) := by decide +kernel
theorem dX3_wanted_36 : decode cX3_wanted 36 = .ok (.if_icmp .le 9, 3) := by decide +kernel
theorem dX3_wanted_39 : decode cX3_wanted 39 = .ok (.iload 5, 2) := by decide +kernel
theorem dX3_wanted_41 : decode cX3_wanted 41 = .ok (.istore_n 3, 1) := by decide +kernel
theorem dX3_wanted_42 : decode cX3_wanted 42 = .ok (.iload 4, 2) := by decide +kernel
theorem dX3_wanted_44 : decode cX3_wanted 44 = .ok (.istore_n 2, 1) := by decide +kernel
theorem dX3_wanted_45 : decode cX3_wanted 45 = .ok (.iinc 4 1, 3) := by decide +kernel
theorem dX3_wanted_48 : decode cX3_wanted 48 = .ok (.goto (-33), 3) := by decide +kernel
theorem dX3_wanted_51 : decode cX3_wanted 51 = .ok (.iload_n 2, 1) := by decide +kernel
theorem dX3_wanted_52 : decode cX3_wanted 52 = .ok (.ireturn, 1) := by decide +kernel
theorem dX3_changes_0 : decode cX3_changes 0 = .ok (.iload_n 1, 1) := by decide +kernel
theorem dX3_changes_1 : decode cX3_changes 1 = .ok (.ifCond .lt 9, 3) := by decide +kernel
theorem dX3_changes_4 : decode cX3_changes 4 = .ok (.iload_n 1, 1) := by decide +kernel
theorem dX3_changes_5 : decode cX3_changes 5 = .ok (.bipush 20, 2) := by decide +kernel
theorem dX3_changes_7 : decode cX3_changes 7 = .ok (.if_icmp .le 10, 3) := by decide +kernel
theorem dX3_changes_10 : decode cX3_changes 10 = .ok (.aload_n 0, 1) := by decide +kernel
theorem dX3_changes_11 : decode cX3_changes 11 = .ok (.iconst 0, 1) := by decide +kernel
theorem dX3_changes_12 : decode cX3_changes 12 = .ok (.invokevirtual 51, 3) := by decide +kernel
theorem dX3_changes_15 : decode cX3_changes 15 = .ok (.i2l, 1) := by decide +kernel
theorem dX3_changes_16 : decode cX3_changes 16 = .ok (.lreturn, 1) := by decide +kernel
theorem dX3_changes_17 : decode cX3_changes 17 = .ok (.lconst 1, 1) := by decide +kernel
theorem dX3_changes_18 : decode cX3_changes 18 = .ok (.lstore_n 2, 1) := by decide +kernel
theorem dX3_changes_19 : decode cX3_changes 19 = .ok (.iconst 2, 1) := by decide +kernel
theorem dX3_changes_20 : decode cX3_changes 20 = .ok (.istore 4, 2) := by decide +kernel
theorem dX3_changes_22 : decode cX3_changes 22 = .ok (.iload 4, 2) := by decide +kernel
theorem dX3_changes_24 : decode cX3_changes 24 = .ok (.iload_n 1, 1) := by decide +kernel
theorem dX3_changes_25 : decode cX3_changes 25 = .ok (.if_icmp .gt 15, 3) := by decide +kernel
theorem dX3_changes_28 : decode cX3_changes 28 = .ok (.lload_n 2, 1) := by decide +kernel
theorem dX3_changes_29 : decode cX3_changes 29 = .ok (.iload 4, 2) := by decide +kernel
theorem dX3_changes_31 : decode cX3_changes 31 = .ok (.i2l, 1) := by decide +kernel
theorem dX3_changes_32 : decode cX3_changes 32 = .ok (.lmul, 1) := by decide +kernel
theorem dX3_changes_33 : decode cX3_changes 33 = .ok (.lstore_n 2, 1) := by decide +kernel
theorem dX3_changes_34 : decode cX3_changes 34 = .ok (.iinc 4 1, 3) := by decide +kernel
theorem dX3_changes_37 : decode cX3_changes 37 = .ok (.goto (-15), 3) := by decide +kernel
theorem dX3_changes_40 : decode cX3_changes 40 = .ok (.lload_n 2, 1) := by decide +kernel
theorem dX3_changes_41 : decode cX3_changes 41 = .ok (.lreturn, 1) := by decide +kernel
theorem dX3_thunder_0 : decode cX3_thunder 0 = .ok (.iload_n 1, 1) := by decide +kernel
theorem dX3_thunder_1 : decode cX3_thunder 1 = .ok (.iconst 1, 1) := by decide +kernel
theorem dX3_thunder_2 : decode cX3_thunder 2 = .ok (.if_icmp .lt 9, 3) := by decide +kernel
theorem dX3_thunder_5 : decode cX3_thunder 5 = .ok (.iload_n 1, 1) := by decide +kernel
theorem dX3_thunder_6 : decode cX3_thunder 6 = .ok (.bipush 20, 2) := by decide +kernel
theorem dX3_thunder_8 : decode cX3_thunder 8 = .ok (.if_icmp .le 9, 3) := by decide +kernel
theorem dX3_thunder_11 : decode cX3_thunder 11 = .ok (.aload_n 0, 1) := by decide +kernel
theorem dX3_thunder_12 : decode cX3_thunder 12 = .ok (.iconst 0, 1) := by decide +kernel
theorem dX3_thunder_13 : decode cX3_thunder 13 = .ok (.invokevirtual 51, 3) := by decide +kernel
theorem dX3_thunder_16 : decode cX3_thunder 16 = .ok (.ireturn, 1) := by decide +kernel
theorem dX3_thunder_17 : decode cX3_thunder 17 = .ok (.aload_n 0, 1) := by decide +kernel
theorem dX3_thunder_18 : decode cX3_thunder 18 = .ok (.getfield 10, 3) := by decide +kernel
theorem dX3_thunder_21 : decode cX3_thunder 21 = .ok (.getfield 84, 3) := by decide +kernel
theorem dX3_thunder_24 : decode cX3_thunder 24 = .ok (.ifCond .eq 17, 3) := by decide +kernel
theorem dX3_thunder_27 : decode cX3_thunder 27 = .ok (.aload_n 0, 1) := by decide +kernel
theorem dX3_thunder_28 : decode cX3_thunder 28 = .ok (.getfield 10, 3) := by decide +kernel
theorem dX3_thunder_31 : decode cX3_thunder 31 = .ok (.getfield 117, 3) := by decide +kernel
theorem dX3_thunder_34 : decode cX3_thunder 34 = .ok (.iload_n 1, 1) := by decide +kernel
theorem dX3_thunder_35 : decode cX3_thunder 35 = .ok (.iadd, 1) := by decide +kernel
theorem dX3_thunder_36 : decode cX3_thunder 36 = .ok (.ldc 120, 2) := by decide +kernel
theorem dX3_thunder_38 : decode cX3_thunder 38 = .ok (.if_icmp .le 9, 3) := by decide +kernel
theorem dX3_thunder_41 : decode cX3_thunder 41 = .ok (.aload_n 0, 1) := by decide +kernel
theorem dX3_thunder_42 : decode cX3_thunder 42 = .ok (.iconst 4, 1) := by decide +kernel
theorem dX3_thunder_43 : decode cX3_thunder 43 = .ok (.invokevirtual 51, 3) := by decide +kernel
theorem dX3_thunder_46 : decode cX3_thunder 46 = .ok (.ireturn, 1) := by decide +kernel
theorem dX3_thunder_47 : decode cX3_thunder 47 = .ok (.iconst 0, 1) := by decide +kernel
theorem dX3_thunder_48 : decode cX3_thunder 48 = .ok (.istore_n 2, 1) := by decide +kernel
theorem dX3_thunder_49 : decode cX3_thunder 49 = .ok (.iload_n 2, 1) := by decide +kernel
theorem dX3_thunder_50 : decode cX3_thunder 50 = .ok (.iload_n 1, 1) := by decide +kernel
theorem dX3_thunder_51 : decode cX3_thunder 51 = .ok (.if_icmp .ge 24, 3) := by decide +kernel
theorem dX3_thunder_54 : decode cX3_thunder 54 = .ok (.aload_n 0, 1) := by decide +kernel
theorem dX3_thunder_55 : decode cX3_thunder 55 = .ok (.getfield 10, 3) := by decide +kernel
theorem dX3_thunder_58 : decode cX3_thunder 58 = .ok (.invokevirtual 212, 3) := by decide +kernel
theorem dX3_thunder_61 : decode cX3_thunder 61 = .ok (.aload_n 0, 1) := by decide +kernel
theorem dX3_thunder_62 : decode cX3_thunder 62 = .ok (.getfield 10, 3) := by decide +kernel
theorem dX3_thunder_65 : decode cX3_thunder 65 = .ok (.invokevirtual 121, 3) := by decide +kernel
theorem dX3_thunder_68 : decode cX3_thunder 68 = .ok (.pop, 1) := by decide +kernel
theorem dX3_thunder_69 : decode cX3_thunder 69 = .ok (.iinc 2 1, 3) := by decide +kernel
theorem dX3_thunder_72 : decode cX3_thunder 72 = .ok (.goto (-23), 3) := by decide +kernel
theorem dX3_thunder_75 : decode cX3_thunder 75 = .ok (.aload_n 0, 1) := by decide +kernel
theorem dX3_thunder_76 : decode cX3_thunder 76 = .ok (.getfield 10, 3) := by decide +kernel
theorem dX3_thunder_79 : decode cX3_thunder 79 = .ok (.getfield 125, 3) := by decide +kernel
theorem dX3_thunder_82 : decode cX3_thunder 82 = .ok (.invokestatic 128, 3) := by decide +kernel
theorem dX3_thunder_85 : decode cX3_thunder 85 = .ok (.ireturn, 1) := by decide +kernel
theorem dX3_seed_0 : decode cX3_seed 0 = .ok (.aload_n 0, 1) := by decide +kernel
theorem dX3_seed_1 : decode cX3_seed 1 = .ok (.getfield 10, 3) := by decide +kernel
theorem dX3_seed_4 : decode cX3_seed 4 = .ok (.getfield 215, 3) := by decide +kernel
theorem dX3_seed_7 : decode cX3_seed 7 = .ok (.istore_n 2, 1) := by decide +kernel
theorem dX3_seed_8 : decode cX3_seed 8 = .ok (.aload_n 0, 1) := by decide +kernel
theorem dX3_seed_9 : decode cX3_seed 9 = .ok (.getfield 10, 3) := by decide +kernel
theorem dX3_seed_12 : decode cX3_seed 12 = .ok (.iload_n 1, 1) := by decide +kernel
theorem dX3_seed_13 : decode cX3_seed 13 = .ok (.putfield 215, 3) := by decide +kernel
theorem dX3_seed_16 : decode cX3_seed 16 = .ok (.iload_n 2, 1) := by decide +kernel
theorem dX3_seed_17 : decode cX3_seed 17 = .ok (.ireturn, 1) := by decide +kernel
theorem dX3_feed_0 : decode cX3_feed 0 = .ok (.iload_n 2, 1) := by decide +kernel
theorem dX3_feed_1 : decode cX3_feed 1 = .ok (.iconst 1, 1) := by decide +kernel
theorem dX3_feed_2 : decode cX3_feed 2 = .ok (.if_icmp .lt 8, 3) := by decide +kernel
theorem dX3_feed_5 : decode cX3_feed 5 = .ok (.iload_n 2, 1) := by decide +kernel
theorem dX3_feed_6 : decode cX3_feed 6 = .ok (.iconst 4, 1) := by decide +kernel
theorem dX3_feed_7 : decode cX3_feed 7 = .ok (.if_icmp .le 9, 3) := by decide +kernel
theorem dX3_feed_10 : decode cX3_feed 10 = .ok (.aload_n 0, 1) := by decide +kernel
theorem dX3_feed_11 : decode cX3_feed 11 = .ok (.iconst 0, 1) := by decide +kernel
theorem dX3_feed_12 : decode cX3_feed 12 = .ok (.invokevirtual 51, 3) := by decide +kernel
theorem dX3_feed_15 : decode cX3_feed 15 = .ok (.ireturn, 1) := by decide +kernel
theorem dX3_feed_16 : decode cX3_feed 16 = .ok (.aload_n 0, 1) := by decide +kernel
theorem dX3_feed_17 : decode cX3_feed 17 = .ok (.getfield 29, 3) := by decide +kernel
theorem dX3_feed_20 : decode cX3_feed 20 = .ok (.getfield 218, 3) := by decide +kernel
theorem dX3_feed_23 : decode cX3_feed 23 = .ok (.iload_n 2, 1) := by decide +kernel
theorem dX3_feed_24 : decode cX3_feed 24 = .ok (.iadd, 1) := by decide +kernel
theorem dX3_feed_25 : decode cX3_feed 25 = .ok (.bipush 120, 2) := by decide +kernel
theorem dX3_feed_27 : decode cX3_feed 27 = .ok (.if_icmp .le 9, 3) := by decide +kernel
theorem dX3_feed_30 : decode cX3_feed 30 = .ok (.aload_n 0, 1) := by decide +kernel
theorem dX3_feed_31 : decode cX3_feed 31 = .ok (.iconst 1, 1) := by decide +kernel
theorem dX3_feed_32 : decode cX3_feed 32 = .ok (.invokevirtual 51, 3) := by decide +kernel
theorem dX3_feed_35 : decode cX3_feed 35 = .ok (.ireturn, 1) := by decide +kernel
theorem dX3_feed_36 : decode cX3_feed 36 = .ok (.iload_n 2, 1) := by decide +kernel
theorem dX3_feed_37 : decode cX3_feed 37 = .ok (.iconst 1, 1) := by decide +kernel
theorem dX3_feed_38 : decode cX3_feed 38 = .ok (.isub, 1) := by decide +kernel
theorem dX3_feed_39 : decode cX3_feed 39 = .ok (.istore_n 3, 1) := by decide +kernel
theorem dX3_feed_40 : decode cX3_feed 40 = .ok (.iload_n 3, 1) := by decide +kernel
theorem dX3_feed_41 : decode cX3_feed 41 = .ok (.ifCond .lt 22, 3) := by decide +kernel
theorem dX3_feed_44 : decode cX3_feed 44 = .ok (.aload_n 0, 1) := by decide +kernel
theorem dX3_feed_45 : decode cX3_feed 45 = .ok (.getfield 29, 3) := by decide +kernel
theorem dX3_feed_48 : decode cX3_feed 48 = .ok (.iload_n 1, 1) := by decide +kernel
theorem dX3_feed_49 : decode cX3_feed 49 = .ok (.bipush 8, 2) := by decide +kernel
theorem dX3_feed_51 : decode cX3_feed 51 = .ok (.iload_n 3, 1) := by decide +kernel
theorem dX3_feed_52 : decode cX3_feed 52 = .ok (.imul, 1) := by decide +kernel
theorem dX3_feed_53 : decode cX3_feed 53 = .ok (.iushr, 1) := by decide +kernel
theorem dX3_feed_54 : decode cX3_feed 54 = .ok (.invokevirtual 221, 3) := by decide +kernel
theorem dX3_feed_57 : decode cX3_feed 57 = .ok (.iinc 3 (-1), 3) := by decide +kernel
theorem dX3_feed_60 : decode cX3_feed 60 = .ok (.goto (-20), 3) := by decide +kernel
theorem dX3_feed_63 : decode cX3_feed 63 = .ok (.aload_n 0, 1) := by decide +kernel
theorem dX3_feed_64 : decode cX3_feed 64 = .ok (.getfield 29, 3) := by decide +kernel
theorem dX3_feed_67 : decode cX3_feed 67 = .ok (.getfield 218, 3) := by decide +kernel
theorem dX3_feed_70 : decode cX3_feed 70 = .ok (.ireturn, 1) := by decide +kernel
theorem dX3_wipe_0 : decode cX3_wipe 0 = .ok (.aload_n 0, 1) := by decide +kernel
theorem dX3_wipe_1 : decode cX3_wipe 1 = .ok (.getfield 29, 3) := by decide +kernel
theorem dX3_wipe_4 : decode cX3_wipe 4 = .ok (.getfield 218, 3) := by decide +kernel
theorem dX3_wipe_7 : decode cX3_wipe 7 = .ok (.istore_n 1, 1) := by decide +kernel
theorem dX3_wipe_8 : decode cX3_wipe 8 = .ok (.aload_n 0, 1) := by decide +kernel
theorem dX3_wipe_9 : decode cX3_wipe 9 = .ok (.getfield 29, 3) := by decide +kernel
theorem dX3_wipe_12 : decode cX3_wipe 12 = .ok (.iconst 0, 1) := by decide +kernel
theorem dX3_wipe_13 : decode cX3_wipe 13 = .ok (.putfield 218, 3) := by decide +kernel
theorem dX3_wipe_16 : decode cX3_wipe 16 = .ok (.iload_n 1, 1) := by decide +kernel
theorem dX3_wipe_17 : decode cX3_wipe 17 = .ok (.ireturn, 1) := by decide +kernel
theorem dX3_text_0 : decode cX3_text 0 = .ok (.aload_n 0, 1) := by decide +kernel
theorem dX3_text_1 : decode cX3_text 1 = .ok (.getfield 16, 3) := by decide +kernel
theorem dX3_text_4 : decode cX3_text 4 = .ok (.aload_n 0, 1) := by decide +kernel
theorem dX3_text_5 : decode cX3_text 5 = .ok (.getfield 10, 3) := by decide +kernel
theorem dX3_text_8 : decode cX3_text 8 = .ok (.invokevirtual 154, 3) := by decide +kernel
theorem dX3_text_11 : decode cX3_text 11 = .ok (.aload_n 0, 1) := by decide +kernel
theorem dX3_text_12 : decode cX3_text 12 = .ok (.getfield 29, 3) := by decide +kernel
theorem dX3_text_15 : decode cX3_text 15 = .ok (.aload_n 0, 1) := by decide +kernel
theorem dX3_text_16 : decode cX3_text 16 = .ok (.getfield 16, 3) := by decide +kernel
theorem dX3_text_19 : decode cX3_text 19 = .ok (.invokevirtual 224, 3) := by decide +kernel
theorem dX3_text_22 : decode cX3_text 22 = .ok (.istore_n 1, 1) := by decide +kernel
theorem dX3_text_23 : decode cX3_text 23 = .ok (.aload_n 0, 1) := by decide +kernel
theorem dX3_text_24 : decode cX3_text 24 = .ok (.getfield 29, 3) := by decide +kernel
theorem dX3_text_27 : decode cX3_text 27 = .ok (.iconst 0, 1) := by decide +kernel
theorem dX3_text_28 : decode cX3_text 28 = .ok (.putfield 218, 3) := by decide +kernel
theorem dX3_text_31 : decode cX3_text 31 = .ok (.iload_n 1, 1) := by decide +kernel
theorem dX3_text_32 : decode cX3_text 32 = .ok (.ifCond .lt 14, 3) := by decide +kernel
theorem dX3_text_35 : decode cX3_text 35 = .ok (.aload_n 0, 1) := by decide +kernel
theorem dX3_text_36 : decode cX3_text 36 = .ok (.getfield 10, 3) := by decide +kernel
theorem dX3_text_39 : decode cX3_text 39 = .ok (.aload_n 0, 1) := by decide +kernel
theorem dX3_text_40 : decode cX3_text 40 = .ok (.getfield 16, 3) := by decide +kernel
theorem dX3_text_43 : decode cX3_text 43 = .ok (.invokevirtual 154, 3) := by decide +kernel
theorem dX3_text_46 : decode cX3_text 46 = .ok (.iload_n 1, 1) := by decide +kernel
theorem dX3_text_47 : decode cX3_text 47 = .ok (.ireturn, 1) := by decide +kernel
theorem dX3_hold_0 : decode cX3_hold 0 = .ok (.iload_n 1, 1) := by decide +kernel
theorem dX3_hold_1 : decode cX3_hold 1 = .ok (.invokestatic 228, 3) := by decide +kernel
theorem dX3_hold_4 : decode cX3_hold 4 = .ok (.ifCond .eq 16, 3) := by decide +kernel
theorem dX3_hold_7 : decode cX3_hold 7 = .ok (.iload_n 2, 1) := by decide +kernel
theorem dX3_hold_8 : decode cX3_hold 8 = .ok (.iconst (-1), 1) := by decide +kernel
theorem dX3_hold_9 : decode cX3_hold 9 = .ok (.if_icmp .eq 17, 3) := by decide +kernel
theorem dX3_hold_12 : decode cX3_hold 12 = .ok (.aload_n 0, 1) := by decide +kernel
theorem dX3_hold_13 : decode cX3_hold 13 = .ok (.iload_n 2, 1) := by decide +kernel
theorem dX3_hold_14 : decode cX3_hold 14 = .ok (.invokevirtual 91, 3) := by decide +kernel
theorem dX3_hold_17 : decode cX3_hold 17 = .ok (.ifCond .ne 9, 3) := by decide +kernel
theorem dX3_hold_20 : decode cX3_hold 20 = .ok (.aload_n 0, 1) := by decide +kernel
theorem dX3_hold_21 : decode cX3_hold 21 = .ok (.iconst 0, 1) := by decide +kernel
theorem dX3_hold_22 : decode cX3_hold 22 = .ok (.invokevirtual 51, 3) := by decide +kernel
theorem dX3_hold_25 : decode cX3_hold 25 = .ok (.ireturn, 1) := by decide +kernel
theorem dX3_hold_26 : decode cX3_hold 26 = .ok (.aload_n 0, 1) := by decide +kernel
theorem dX3_hold_27 : decode cX3_hold 27 = .ok (.getfield 10, 3) := by decide +kernel
theorem dX3_hold_30 : decode cX3_hold 30 = .ok (.getfield 231, 3) := by decide +kernel
theorem dX3_hold_33 : decode cX3_hold 33 = .ok (.iload_n 1, 1) := by decide +kernel
theorem dX3_hold_34 : decode cX3_hold 34 = .ok (.iload_n 2, 1) := by decide +kernel
theorem dX3_hold_35 : decode cX3_hold 35 = .ok (.iastore, 1) := by decide +kernel
theorem dX3_hold_36 : decode cX3_hold 36 = .ok (.iconst 1, 1) := by decide +kernel
theorem dX3_hold_37 : decode cX3_hold 37 = .ok (.ireturn, 1) := by decide +kernel
theorem dX3_as_0 : decode cX3_as 0 = .ok (.iload_n 1, 1) := by decide +kernel
theorem dX3_as_1 : decode cX3_as 1 = .ok (.invokestatic 228, 3) := by decide +kernel
theorem dX3_as_4 : decode cX3_as 4 = .ok (.ifCond .eq 10, 3) := by decide +kernel
theorem dX3_as_7 : decode cX3_as 7 = .ok (.iload_n 2, 1) := by decide +kernel
theorem dX3_as_8 : decode cX3_as 8 = .ok (.invokestatic 81, 3) := by decide +kernel
theorem dX3_as_11 : decode cX3_as 11 = .ok (.ifCond .ne 9, 3) := by decide +kernel
theorem dX3_as_14 : decode cX3_as 14 = .ok (.aload_n 0, 1) := by decide +kernel
theorem dX3_as_15 : decode cX3_as 15 = .ok (.iconst 0, 1) := by decide +kernel
theorem dX3_as_16 : decode cX3_as 16 = .ok (.invokevirtual 51, 3) := by decide +kernel
theorem dX3_as_19 : decode cX3_as 19 = .ok (.ireturn, 1) := by decide +kernel
theorem dX3_as_20 : decode cX3_as 20 = .ok (.aload_n 0, 1) := by decide +kernel
theorem dX3_as_21 : decode cX3_as 21 = .ok (.getfield 10, 3) := by decide +kernel
theorem dX3_as_24 : decode cX3_as 24 = .ok (.getfield 231, 3) := by decide +kernel
theorem dX3_as_27 : decode cX3_as 27 = .ok (.iload_n 1, 1) := by decide +kernel
theorem dX3_as_28 : decode cX3_as 28 = .ok (.iaload, 1) := by decide +kernel
theorem dX3_as_29 : decode cX3_as 29 = .ok (.istore_n 3, 1) := by decide +kernel
theorem dX3_as_30 : decode cX3_as 30 = .ok (.aload_n 0, 1) := by decide +kernel
theorem dX3_as_31 : decode cX3_as 31 = .ok (.iload_n 3, 1) := by decide +kernel
theorem dX3_as_32 : decode cX3_as 32 = .ok (.invokevirtual 91, 3) := by decide +kernel
theorem dX3_as_35 : decode cX3_as 35 = .ok (.ifCond .ne 9, 3) := by decide +kernel
theorem dX3_as_38 : decode cX3_as 38 = .ok (.aload_n 0, 1) := by decide +kernel
theorem dX3_as_39 : decode cX3_as 39 = .ok (.iconst 5, 1) := by decide +kernel
theorem dX3_as_40 : decode cX3_as 40 = .ok (.invokevirtual 51, 3) := by decide +kernel
theorem dX3_as_43 : decode cX3_as 43 = .ok (.ireturn, 1) := by decide +kernel
theorem dX3_as_44 : decode cX3_as 44 = .ok (.aload_n 0, 1) := by decide +kernel
theorem dX3_as_45 : decode cX3_as 45 = .ok (.getfield 10, 3) := by decide +kernel
theorem dX3_as_48 : decode cX3_as 48 = .ok (.getfield 172, 3) := by decide +kernel
theorem dX3_as_51 : decode cX3_as 51 = .ok (.iload_n 3, 1) := by decide +kernel
theorem dX3_as_52 : decode cX3_as 52 = .ok (.iaload, 1) := by decide +kernel
theorem dX3_as_53 : decode cX3_as 53 = .ok (.iload_n 2, 1) := by decide +kernel
theorem dX3_as_54 : decode cX3_as 54 = .ok (.invokestatic 234, 3) := by decide +kernel
theorem dX3_as_57 : decode cX3_as 57 = .ok (.ifCond .eq 7, 3) := by decide +kernel
theorem dX3_as_60 : decode cX3_as 60 = .ok (.iload_n 3, 1) := by decide +kernel
theorem dX3_as_61 : decode cX3_as 61 = .ok (.goto 8, 3) := by decide +kernel
theorem dX3_as_64 : decode cX3_as 64 = .ok (.aload_n 0, 1) := by decide +kernel
theorem dX3_as_65 : decode cX3_as 65 = .ok (.iconst 2, 1) := by decide +kernel
theorem dX3_as_66 : decode cX3_as 66 = .ok (.invokevirtual 51, 3) := by decide +kernel
theorem dX3_as_69 : decode cX3_as 69 = .ok (.ireturn, 1) := by decide +kernel
theorem dX3_sheet_0 : decode cX3_sheet 0 = .ok (.iload_n 1, 1) := by decide +kernel
theorem dX3_sheet_1 : decode cX3_sheet 1 = .ok (.invokestatic 237, 3) := by decide +kernel
theorem dX3_sheet_4 : decode cX3_sheet 4 = .ok (.ifCond .eq 25, 3) := by decide +kernel
theorem dX3_sheet_7 : decode cX3_sheet 7 = .ok (.iload_n 2, 1) := by decide +kernel
theorem dX3_sheet_8 : decode cX3_sheet 8 = .ok (.ifCond .eq 27, 3) := by decide +kernel
theorem dX3_sheet_11 : decode cX3_sheet 11 = .ok (.iload_n 2, 1) := by decide +kernel
theorem dX3_sheet_12 : decode cX3_sheet 12 = .ok (.bipush 8, 2) := by decide +kernel
theorem dX3_sheet_14 : decode cX3_sheet 14 = .ok (.if_icmp .eq 21, 3) := by decide +kernel
theorem dX3_sheet_17 : decode cX3_sheet 17 = .ok (.iload_n 2, 1) := by decide +kernel
theorem dX3_sheet_18 : decode cX3_sheet 18 = .ok (.bipush 16, 2) := by decide +kernel
theorem dX3_sheet_20 : decode cX3_sheet 20 = .ok (.if_icmp .eq 15, 3) := by decide +kernel
theorem dX3_sheet_23 : decode cX3_sheet 23 = .ok (.iload_n 2, 1) := by decide +kernel
theorem dX3_sheet_24 : decode cX3_sheet 24 = .ok (.bipush 32, 2) := by decide +kernel
theorem dX3_sheet_26 : decode cX3_sheet 26 = .ok (.if_icmp .eq 9, 3) := by decide +kernel
theorem dX3_sheet_29 : decode cX3_sheet 29 = .ok (.aload_n 0, 1) := by decide +kernel
theorem dX3_sheet_30 : decode cX3_sheet 30 = .ok (.iconst 0, 1) := by decide +kernel
theorem dX3_sheet_31 : decode cX3_sheet 31 = .ok (.invokevirtual 51, 3) := by decide +kernel
theorem dX3_sheet_34 : decode cX3_sheet 34 = .ok (.ireturn, 1) := by decide +kernel
theorem dX3_sheet_35 : decode cX3_sheet 35 = .ok (.iload_n 3, 1) := by decide +kernel
theorem dX3_sheet_36 : decode cX3_sheet 36 = .ok (.ifCond .ge 10, 3) := by decide +kernel
theorem dX3_sheet_39 : decode cX3_sheet 39 = .ok (.aload_n 0, 1) := by decide +kernel
theorem dX3_sheet_40 : decode cX3_sheet 40 = .ok (.bipush 6, 2) := by decide +kernel
theorem dX3_sheet_42 : decode cX3_sheet 42 = .ok (.invokevirtual 51, 3) := by decide +kernel
theorem dX3_sheet_45 : decode cX3_sheet 45 = .ok (.ireturn, 1) := by decide +kernel
theorem dX3_sheet_46 : decode cX3_sheet 46 = .ok (.iload_n 3, 1) := by decide +kernel
theorem dX3_sheet_47 : decode cX3_sheet 47 = .ok (.bipush 40, 2) := by decide +kernel
theorem dX3_sheet_49 : decode cX3_sheet 49 = .ok (.if_icmp .le 9, 3) := by decide +kernel
theorem dX3_sheet_52 : decode cX3_sheet 52 = .ok (.aload_n 0, 1) := by decide +kernel
theorem dX3_sheet_53 : decode cX3_sheet 53 = .ok (.iconst 0, 1) := by decide +kernel
theorem dX3_sheet_54 : decode cX3_sheet 54 = .ok (.invokevirtual 51, 3) := by decide +kernel
theorem dX3_sheet_57 : decode cX3_sheet 57 = .ok (.ireturn, 1) := by decide +kernel
theorem dX3_sheet_58 : decode cX3_sheet 58 = .ok (.aload_n 0, 1) := by decide +kernel
theorem dX3_sheet_59 : decode cX3_sheet 59 = .ok (.getfield 35, 3) := by decide +kernel
theorem dX3_sheet_62 : decode cX3_sheet 62 = .ok (.iload_n 1, 1) := by decide +kernel
theorem dX3_sheet_63 : decode cX3_sheet 63 = .ok (.aaload, 1) := by decide +kernel
theorem dX3_sheet_64 : decode cX3_sheet 64 = .ok (.iload_n 2, 1) := by decide +kernel
theorem dX3_sheet_65 : decode cX3_sheet 65 = .ok (.iload_n 3, 1) := by decide +kernel
theorem dX3_sheet_66 : decode cX3_sheet 66 = .ok (.invokevirtual 240, 3) := by decide +kernel
theorem dX3_sheet_69 : decode cX3_sheet 69 = .ok (.aload_n 0, 1) := by decide +kernel
theorem dX3_sheet_70 : decode cX3_sheet 70 = .ok (.getfield 35, 3) := by decide +kernel
theorem dX3_sheet_73 : decode cX3_sheet 73 = .ok (.iload_n 1, 1) := by decide +kernel
theorem dX3_sheet_74 : decode cX3_sheet 74 = .ok (.aaload, 1) := by decide +kernel
theorem dX3_sheet_75 : decode cX3_sheet 75 = .ok (.getfield 244, 3) := by decide +kernel
theorem dX3_sheet_78 : decode cX3_sheet 78 = .ok (.ireturn, 1) := by decide +kernel
theorem dX3_write_0 : decode cX3_write 0 = .ok (.iload_n 1, 1) := by decide +kernel
theorem dX3_write_1 : decode cX3_write 1 = .ok (.invokestatic 237, 3) := by decide +kernel
theorem dX3_write_4 : decode cX3_write 4 = .ok (.ifCond .ne 9, 3) := by decide +kernel
theorem dX3_write_7 : decode cX3_write 7 = .ok (.aload_n 0, 1) := by decide +kernel
theorem dX3_write_8 : decode cX3_write 8 = .ok (.iconst 0, 1) := by decide +kernel
theorem dX3_write_9 : decode cX3_write 9 = .ok (.invokevirtual 51, 3) := by decide +kernel
theorem dX3_write_12 : decode cX3_write 12 = .ok (.ireturn, 1) := by decide +kernel
theorem dX3_write_13 : decode cX3_write 13 = .ok (.aload_n 0, 1) := by decide +kernel
theorem dX3_write_14 : decode cX3_write 14 = .ok (.getfield 35, 3) := by decide +kernel
theorem dX3_write_17 : decode cX3_write 17 = .ok (.iload_n 1, 1) := by decide +kernel
theorem dX3_write_18 : decode cX3_write 18 = .ok (.aaload, 1) := by decide +kernel
theorem dX3_write_19 : decode cX3_write 19 = .ok (.invokevirtual 245, 3) := by decide +kernel
theorem dX3_write_22 : decode cX3_write 22 = .ok (.ifCond .eq 9, 3) := by decide +kernel
theorem dX3_write_25 : decode cX3_write 25 = .ok (.aload_n 0, 1) := by decide +kernel
theorem dX3_write_26 : decode cX3_write 26 = .ok (.iconst 5, 1) := by decide +kernel
theorem dX3_write_27 : decode cX3_write 27 = .ok (.invokevirtual 51, 3) := by decide +kernel
theorem dX3_write_30 : decode cX3_write 30 = .ok (.ireturn, 1) := by decide +kernel
theorem dX3_write_31 : decode cX3_write 31 = .ok (.iload_n 2, 1) := by decide +kernel
theorem dX3_write_32 : decode cX3_write 32 = .ok (.ifCond .lt 16, 3) := by decide +kernel
theorem dX3_write_35 : decode cX3_write 35 = .ok (.iload_n 2, 1) := by decide +kernel
theorem dX3_write_36 : decode cX3_write 36 = .ok (.aload_n 0, 1) := by decide +kernel
theorem dX3_write_37 : decode cX3_write 37 = .ok (.getfield 35, 3) := by decide +kernel
theorem dX3_write_40 : decode cX3_write 40 = .ok (.iload_n 1, 1) := by decide +kernel
theorem dX3_write_41 : decode cX3_write 41 = .ok (.aaload, 1) := by decide +kernel
theorem dX3_write_42 : decode cX3_write 42 = .ok (.getfield 244, 3) := by decide +kernel
theorem dX3_write_45 : decode cX3_write 45 = .ok (.if_icmp .lt 9, 3) := by decide +kernel
theorem dX3_write_48 : decode cX3_write 48 = .ok (.aload_n 0, 1) := by decide +kernel
theorem dX3_write_49 : decode cX3_write 49 = .ok (.iconst 0, 1) := by decide +kernel
theorem dX3_write_50 : decode cX3_write 50 = .ok (.invokevirtual 51, 3) := by decide +kernel
theorem dX3_write_53 : decode cX3_write 53 = .ok (.ireturn, 1) := by decide +kernel
theorem dX3_write_54 : decode cX3_write 54 = .ok (.aload_n 0, 1) := by decide +kernel
theorem dX3_write_55 : decode cX3_write 55 = .ok (.getfield 35, 3) := by decide +kernel
theorem dX3_write_58 : decode cX3_write 58 = .ok (.iload_n 1, 1) := by decide +kernel
theorem dX3_write_59 : decode cX3_write 59 = .ok (.aaload, 1) := by decide +kernel
theorem dX3_write_60 : decode cX3_write 60 = .ok (.iload_n 2, 1) := by decide +kernel
theorem dX3_write_61 : decode cX3_write 61 = .ok (.iload_n 3, 1) := by decide +kernel
theorem dX3_write_62 : decode cX3_write 62 = .ok (.invokevirtual 248, 3) := by decide +kernel
theorem dX3_write_65 : decode cX3_write 65 = .ok (.iconst 1, 1) := by decide +kernel
theorem dX3_write_66 : decode cX3_write 66 = .ok (.ireturn, 1) := by decide +kernel
theorem dX3_copy_0 : decode cX3_copy 0 = .ok (.iload_n 1, 1) := by decide +kernel
theorem dX3_copy_1 : decode cX3_copy 1 = .ok (.invokestatic 237, 3) := by decide +kernel
theorem dX3_copy_4 : decode cX3_copy 4 = .ok (.ifCond .eq 10, 3) := by decide +kernel
theorem dX3_copy_7 : decode cX3_copy 7 = .ok (.iload_n 3, 1) := by decide +kernel
theorem dX3_copy_8 : decode cX3_copy 8 = .ok (.invokestatic 237, 3) := by decide +kernel
theorem dX3_copy_11 : decode cX3_copy 11 = .ok (.ifCond .ne 9, 3) := by decide +kernel
theorem dX3_copy_14 : decode cX3_copy 14 = .ok (.aload_n 0, 1) := by decide +kernel
theorem dX3_copy_15 : decode cX3_copy 15 = .ok (.iconst 0, 1) := by decide +kernel
theorem dX3_copy_16 : decode cX3_copy 16 = .ok (.invokevirtual 51, 3) := by decide +kernel
theorem dX3_copy_19 : decode cX3_copy 19 = .ok (.ireturn, 1) := by decide +kernel
theorem dX3_copy_20 : decode cX3_copy 20 = .ok (.aload_n 0, 1) := by decide +kernel
theorem dX3_copy_21 : decode cX3_copy 21 = .ok (.getfield 35, 3) := by decide +kernel
theorem dX3_copy_24 : decode cX3_copy 24 = .ok (.iload_n 1, 1) := by decide +kernel
theorem dX3_copy_25 : decode cX3_copy 25 = .ok (.aaload, 1) := by decide +kernel
theorem dX3_copy_26 : decode cX3_copy 26 = .ok (.astore 6, 2) := by decide +kernel
theorem dX3_copy_28 : decode cX3_copy 28 = .ok (.aload_n 0, 1) := by decide +kernel
theorem dX3_copy_29 : decode cX3_copy 29 = .ok (.getfield 35, 3) := by decide +kernel
theorem dX3_copy_32 : decode cX3_copy 32 = .ok (.iload_n 3, 1) := by decide +kernel
theorem dX3_copy_33 : decode cX3_copy 33 = .ok (.aaload, 1) := by decide +kernel
theorem dX3_copy_34 : decode cX3_copy 34 = .ok (.astore 7, 2) := by decide +kernel
theorem dX3_copy_36 : decode cX3_copy 36 = .ok (.aload 6, 2) := by decide +kernel
theorem dX3_copy_38 : decode cX3_copy 38 = .ok (.invokevirtual 245, 3) := by decide +kernel
theorem dX3_copy_41 : decode cX3_copy 41 = .ok (.ifCond .ne 11, 3) := by decide +kernel
theorem dX3_copy_44 : decode cX3_copy 44 = .ok (.aload 7, 2) := by decide +kernel
theorem dX3_copy_46 : decode cX3_copy 46 = .ok (.invokevirtual 245, 3) := by decide +kernel
theorem dX3_copy_49 : decode cX3_copy 49 = .ok (.ifCond .eq 9, 3) := by decide +kernel
theorem dX3_copy_52 : decode cX3_copy 52 = .ok (.aload_n 0, 1) := by decide +kernel
theorem dX3_copy_53 : decode cX3_copy 53 = .ok (.iconst 5, 1) := by decide +kernel
theorem dX3_copy_54 : decode cX3_copy 54 = .ok (.invokevirtual 51, 3) := by decide +kernel
theorem dX3_copy_57 : decode cX3_copy 57 = .ok (.ireturn, 1) := by decide +kernel
theorem dX3_copy_58 : decode cX3_copy 58 = .ok (.aload 6, 2) := by decide +kernel
theorem dX3_copy_60 : decode cX3_copy 60 = .ok (.getfield 251, 3) := by decide +kernel
theorem dX3_copy_63 : decode cX3_copy 63 = .ok (.aload 7, 2) := by decide +kernel
theorem dX3_copy_65 : decode cX3_copy 65 = .ok (.getfield 251, 3) := by decide +kernel
theorem dX3_copy_68 : decode cX3_copy 68 = .ok (.if_icmp .eq 9, 3) := by decide +kernel
theorem dX3_copy_71 : decode cX3_copy 71 = .ok (.aload_n 0, 1) := by decide +kernel
theorem dX3_copy_72 : decode cX3_copy 72 = .ok (.iconst 2, 1) := by decide +kernel
theorem dX3_copy_73 : decode cX3_copy 73 = .ok (.invokevirtual 51, 3) := by decide +kernel
theorem dX3_copy_76 : decode cX3_copy 76 = .ok (.ireturn, 1) := by decide +kernel
theorem dX3_copy_77 : decode cX3_copy 77 = .ok (.aload 6, 2) := by decide +kernel
theorem dX3_copy_79 : decode cX3_copy 79 = .ok (.iload_n 2, 1) := by decide +kernel
theorem dX3_copy_80 : decode cX3_copy 80 = .ok (.iload 5, 2) := by decide +kernel
theorem dX3_copy_82 : decode cX3_copy 82 = .ok (.invokevirtual 254, 3) := by decide +kernel
theorem dX3_copy_85 : decode cX3_copy 85 = .ok (.ifCond .eq 15, 3) := by decide +kernel
theorem dX3_copy_88 : decode cX3_copy 88 = .ok (.aload 7, 2) := by decide +kernel
theorem dX3_copy_90 : decode cX3_copy 90 = .ok (.iload 4, 2) := by decide +kernel
theorem dX3_copy_92 : decode cX3_copy 92 = .ok (.iload 5, 2) := by decide +kernel
theorem dX3_copy_94 : decode cX3_copy 94 = .ok (.invokevirtual 254, 3) := by decide +kernel
theorem dX3_copy_97 : decode cX3_copy 97 = .ok (.ifCond .ne 9, 3) := by decide +kernel
theorem dX3_copy_100 : decode cX3_copy 100 = .ok (.aload_n 0, 1) := by decide +kernel
theorem dX3_copy_101 : decode cX3_copy 101 = .ok (.iconst 0, 1) := by decide +kernel
theorem dX3_copy_102 : decode cX3_copy 102 = .ok (.invokevirtual 51, 3) := by decide +kernel
theorem dX3_copy_105 : decode cX3_copy 105 = .ok (.ireturn, 1) := by decide +kernel
theorem dX3_copy_106 : decode cX3_copy 106 = .ok (.aload 6, 2) := by decide +kernel
theorem dX3_copy_108 : decode cX3_copy 108 = .ok (.getfield 257, 3) := by decide +kernel
theorem dX3_copy_111 : decode cX3_copy 111 = .ok (.iload_n 2, 1) := by decide +kernel
theorem dX3_copy_112 : decode cX3_copy 112 = .ok (.aload 7, 2) := by decide +kernel
theorem dX3_copy_114 : decode cX3_copy 114 = .ok (.getfield 257, 3) := by decide +kernel
theorem dX3_copy_117 : decode cX3_copy 117 = .ok (.iload 4, 2) := by decide +kernel
theorem dX3_copy_119 : decode cX3_copy 119 = .ok (.iload 5, 2) := by decide +kernel
theorem dX3_copy_121 : decode cX3_copy 121 = .ok (.invokestatic 260, 3) := by decide +kernel
theorem dX3_copy_124 : decode cX3_copy 124 = .ok (.iload 5, 2) := by decide +kernel
theorem dX3_copy_126 : decode cX3_copy 126 = .ok (.ireturn, 1) := by decide +kernel
theorem dX3_load_0 : decode cX3_load 0 = .ok (.iload_n 1, 1) := by decide +kernel
theorem dX3_load_1 : decode cX3_load 1 = .ok (.invokestatic 237, 3) := by decide +kernel
theorem dX3_load_4 : decode cX3_load 4 = .ok (.ifCond .ne 9, 3) := by decide +kernel
theorem dX3_load_7 : decode cX3_load 7 = .ok (.aload_n 0, 1) := by decide +kernel
theorem dX3_load_8 : decode cX3_load 8 = .ok (.iconst 0, 1) := by decide +kernel
theorem dX3_load_9 : decode cX3_load 9 = .ok (.invokevirtual 51, 3) := by decide +kernel
theorem dX3_load_12 : decode cX3_load 12 = .ok (.ireturn, 1) := by decide +kernel
theorem dX3_load_13 : decode cX3_load 13 = .ok (.aload_n 0, 1) := by decide +kernel
theorem dX3_load_14 : decode cX3_load 14 = .ok (.getfield 35, 3) := by decide +kernel
theorem dX3_load_17 : decode cX3_load 17 = .ok (.iload_n 1, 1) := by decide +kernel
theorem dX3_load_18 : decode cX3_load 18 = .ok (.aaload, 1) := by decide +kernel
theorem dX3_load_19 : decode cX3_load 19 = .ok (.astore_n 2, 1) := by decide +kernel
theorem dX3_load_20 : decode cX3_load 20 = .ok (.aload_n 2, 1) := by decide +kernel
theorem dX3_load_21 : decode cX3_load 21 = .ok (.invokevirtual 245, 3) := by decide +kernel
theorem dX3_load_24 : decode cX3_load 24 = .ok (.ifCond .eq 9, 3) := by decide +kernel
theorem dX3_load_27 : decode cX3_load 27 = .ok (.aload_n 0, 1) := by decide +kernel
theorem dX3_load_28 : decode cX3_load 28 = .ok (.iconst 5, 1) := by decide +kernel
theorem dX3_load_29 : decode cX3_load 29 = .ok (.invokevirtual 51, 3) := by decide +kernel
theorem dX3_load_32 : decode cX3_load 32 = .ok (.ireturn, 1) := by decide +kernel
theorem dX3_load_33 : decode cX3_load 33 = .ok (.iconst 0, 1) := by decide +kernel
theorem dX3_load_34 : decode cX3_load 34 = .ok (.istore_n 3, 1) := by decide +kernel
theorem dX3_load_35 : decode cX3_load 35 = .ok (.iload_n 3, 1) := by decide +kernel
theorem dX3_load_36 : decode cX3_load 36 = .ok (.aload_n 2, 1) := by decide +kernel
theorem dX3_load_37 : decode cX3_load 37 = .ok (.getfield 244, 3) := by decide +kernel
theorem dX3_load_40 : decode cX3_load 40 = .ok (.if_icmp .ge 47, 3) := by decide +kernel
theorem dX3_load_43 : decode cX3_load 43 = .ok (.iload_n 3, 1) := by decide +kernel
theorem dX3_load_44 : decode cX3_load 44 = .ok (.aload_n 0, 1) := by decide +kernel
theorem dX3_load_45 : decode cX3_load 45 = .ok (.getfield 10, 3) := by decide +kernel
theorem dX3_load_48 : decode cX3_load 48 = .ok (.getfield 84, 3) := by decide +kernel
theorem dX3_load_51 : decode cX3_load 51 = .ok (.if_icmp .ge 36, 3) := by decide +kernel
theorem dX3_load_54 : decode cX3_load 54 = .ok (.aload_n 2, 1) := by decide +kernel
theorem dX3_load_55 : decode cX3_load 55 = .ok (.getfield 257, 3) := by decide +kernel
theorem dX3_load_58 : decode cX3_load 58 = .ok (.iload_n 3, 1) := by decide +kernel
theorem dX3_load_59 : decode cX3_load 59 = .ok (.iaload, 1) := by decide +kernel
theorem dX3_load_60 : decode cX3_load 60 = .ok (.invokestatic 266, 3) := by decide +kernel
theorem dX3_load_63 : decode cX3_load 63 = .ok (.ifCond .eq 24, 3) := by decide +kernel
theorem dX3_load_66 : decode cX3_load 66 = .ok (.aload_n 0, 1) := by decide +kernel
theorem dX3_load_67 : decode cX3_load 67 = .ok (.getfield 10, 3) := by decide +kernel
theorem dX3_load_70 : decode cX3_load 70 = .ok (.getfield 269, 3) := by decide +kernel
theorem dX3_load_73 : decode cX3_load 73 = .ok (.iload_n 3, 1) := by decide +kernel
theorem dX3_load_74 : decode cX3_load 74 = .ok (.aload_n 2, 1) := by decide +kernel
theorem dX3_load_75 : decode cX3_load 75 = .ok (.getfield 257, 3) := by decide +kernel
theorem dX3_load_78 : decode cX3_load 78 = .ok (.iload_n 3, 1) := by decide +kernel
theorem dX3_load_79 : decode cX3_load 79 = .ok (.iaload, 1) := by decide +kernel
theorem dX3_load_80 : decode cX3_load 80 = .ok (.iastore, 1) := by decide +kernel
theorem dX3_load_81 : decode cX3_load 81 = .ok (.iinc 3 1, 3) := by decide +kernel
theorem dX3_load_84 : decode cX3_load 84 = .ok (.goto (-49), 3) := by decide +kernel
theorem dX3_load_87 : decode cX3_load 87 = .ok (.iload_n 3, 1) := by decide +kernel
theorem dX3_load_88 : decode cX3_load 88 = .ok (.ireturn, 1) := by decide +kernel
theorem dX3_judge_0 : decode cX3_judge 0 = .ok (.iload_n 1, 1) := by decide +kernel
theorem dX3_judge_1 : decode cX3_judge 1 = .ok (.invokestatic 237, 3) := by decide +kernel
theorem dX3_judge_4 : decode cX3_judge 4 = .ok (.ifCond .ne 9, 3) := by decide +kernel
theorem dX3_judge_7 : decode cX3_judge 7 = .ok (.aload_n 0, 1) := by decide +kernel
theorem dX3_judge_8 : decode cX3_judge 8 = .ok (.iconst 0, 1) := by decide +kernel
theorem dX3_judge_9 : decode cX3_judge 9 = .ok (.invokevirtual 51, 3) := by decide +kernel
theorem dX3_judge_12 : decode cX3_judge 12 = .ok (.ireturn, 1) := by decide +kernel
theorem dX3_judge_13 : decode cX3_judge 13 = .ok (.aload_n 0, 1) := by decide +kernel
theorem dX3_judge_14 : decode cX3_judge 14 = .ok (.getfield 35, 3) := by decide +kernel
theorem dX3_judge_17 : decode cX3_judge 17 = .ok (.iload_n 1, 1) := by decide +kernel
theorem dX3_judge_18 : decode cX3_judge 18 = .ok (.aaload, 1) := by decide +kernel
theorem dX3_judge_19 : decode cX3_judge 19 = .ok (.astore_n 2, 1) := by decide +kernel
theorem dX3_judge_20 : decode cX3_judge 20 = .ok (.aload_n 2, 1) := by decide +kernel
theorem dX3_judge_21 : decode cX3_judge 21 = .ok (.invokevirtual 245, 3) := by decide +kernel
theorem dX3_judge_24 : decode cX3_judge 24 = .ok (.ifCond .eq 9, 3) := by decide +kernel
theorem dX3_judge_27 : decode cX3_judge 27 = .ok (.aload_n 0, 1) := by decide +kernel
theorem dX3_judge_28 : decode cX3_judge 28 = .ok (.iconst 5, 1) := by decide +kernel
theorem dX3_judge_29 : decode cX3_judge 29 = .ok (.invokevirtual 51, 3) := by decide +kernel
theorem dX3_judge_32 : decode cX3_judge 32 = .ok (.ireturn, 1) := by decide +kernel
theorem dX3_judge_33 : decode cX3_judge 33 = .ok (.iconst 0, 1) := by decide +kernel
theorem dX3_judge_34 : decode cX3_judge 34 = .ok (.istore_n 3, 1) := by decide +kernel
theorem dX3_judge_35 : decode cX3_judge 35 = .ok (.iload_n 3, 1) := by decide +kernel
theorem dX3_judge_36 : decode cX3_judge 36 = .ok (.aload_n 2, 1) := by decide +kernel
theorem dX3_judge_37 : decode cX3_judge 37 = .ok (.getfield 244, 3) := by decide +kernel
theorem dX3_judge_40 : decode cX3_judge 40 = .ok (.if_icmp .ge 54, 3) := by decide +kernel
theorem dX3_judge_43 : decode cX3_judge 43 = .ok (.aload_n 2, 1) := by decide +kernel
theorem dX3_judge_44 : decode cX3_judge 44 = .ok (.getfield 257, 3) := by decide +kernel
theorem dX3_judge_47 : decode cX3_judge 47 = .ok (.iload_n 3, 1) := by decide +kernel
theorem dX3_judge_48 : decode cX3_judge 48 = .ok (.iaload, 1) := by decide +kernel
theorem dX3_judge_49 : decode cX3_judge 49 = .ok (.istore 4, 2) := by decide +kernel
theorem dX3_judge_51 : decode cX3_judge 51 = .ok (.aload_n 0, 1) := by decide +kernel
theorem dX3_judge_52 : decode cX3_judge 52 = .ok (.iload 4, 2) := by decide +kernel
theorem dX3_judge_54 : decode cX3_judge 54 = .ok (.invokevirtual 91, 3) := by decide +kernel
theorem dX3_judge_57 : decode cX3_judge 57 = .ok (.ifCond .eq 27, 3) := by decide +kernel
theorem dX3_judge_60 : decode cX3_judge 60 = .ok (.iload_n 3, 1) := by decide +kernel
theorem dX3_judge_61 : decode cX3_judge 61 = .ok (.ifCond .le 27, 3) := by decide +kernel
theorem dX3_judge_64 : decode cX3_judge 64 = .ok (.aload_n 0, 1) := by decide +kernel
theorem dX3_judge_65 : decode cX3_judge 65 = .ok (.getfield 10, 3) := by decide +kernel
theorem dX3_judge_68 : decode cX3_judge 68 = .ok (.aload_n 2, 1) := by decide +kernel
theorem dX3_judge_69 : decode cX3_judge 69 = .ok (.getfield 257, 3) := by decide +kernel
theorem dX3_judge_72 : decode cX3_judge 72 = .ok (.iload_n 3, 1) := by decide +kernel
theorem dX3_judge_73 : decode cX3_judge 73 = .ok (.iconst 1, 1) := by decide +kernel
theorem dX3_judge_74 : decode cX3_judge 74 = .ok (.isub, 1) := by decide +kernel
theorem dX3_judge_75 : decode cX3_judge 75 = .ok (.iaload, 1) := by decide +kernel
theorem dX3_judge_76 : decode cX3_judge 76 = .ok (.iload 4, 2) := by decide +kernel
theorem dX3_judge_78 : decode cX3_judge 78 = .ok (.invokevirtual 272, 3) := by decide +kernel
theorem dX3_judge_81 : decode cX3_judge 81 = .ok (.ifCond .ne 7, 3) := by decide +kernel
theorem dX3_judge_84 : decode cX3_judge 84 = .ok (.iconst 1, 1) := by decide +kernel
theorem dX3_judge_85 : decode cX3_judge 85 = .ok (.iload_n 3, 1) := by decide +kernel
theorem dX3_judge_86 : decode cX3_judge 86 = .ok (.iadd, 1) := by decide +kernel
theorem dX3_judge_87 : decode cX3_judge 87 = .ok (.ireturn, 1) := by decide +kernel
theorem dX3_judge_88 : decode cX3_judge 88 = .ok (.iinc 3 1, 3) := by decide +kernel
theorem dX3_judge_91 : decode cX3_judge 91 = .ok (.goto (-56), 3) := by decide +kernel
theorem dX3_judge_94 : decode cX3_judge 94 = .ok (.iconst 0, 1) := by decide +kernel
theorem dX3_judge_95 : decode cX3_judge 95 = .ok (.ireturn, 1) := by decide +kernel
theorem dX3_image_0 : decode cX3_image 0 = .ok (.aload_n 0, 1) := by decide +kernel
theorem dX3_image_1 : decode cX3_image 1 = .ok (.getfield 19, 3) := by decide +kernel
theorem dX3_image_4 : decode cX3_image 4 = .ok (.aload_n 0, 1) := by decide +kernel
theorem dX3_image_5 : decode cX3_image 5 = .ok (.getfield 10, 3) := by decide +kernel
theorem dX3_image_8 : decode cX3_image 8 = .ok (.invokevirtual 154, 3) := by decide +kernel
theorem dX3_image_11 : decode cX3_image 11 = .ok (.aload_n 0, 1) := by decide +kernel
theorem dX3_image_12 : decode cX3_image 12 = .ok (.iconst 1, 1) := by decide +kernel
theorem dX3_image_13 : decode cX3_image 13 = .ok (.putfield 22, 3) := by decide +kernel
theorem dX3_image_16 : decode cX3_image 16 = .ok (.iconst 1, 1) := by decide +kernel
theorem dX3_image_17 : decode cX3_image 17 = .ok (.ireturn, 1) := by decide +kernel
theorem dX3_undo_0 : decode cX3_undo 0 = .ok (.aload_n 0, 1) := by decide +kernel
theorem dX3_undo_1 : decode cX3_undo 1 = .ok (.getfield 22, 3) := by decide +kernel
theorem dX3_undo_4 : decode cX3_undo 4 = .ok (.ifCond .ne 9, 3) := by decide +kernel
theorem dX3_undo_7 : decode cX3_undo 7 = .ok (.aload_n 0, 1) := by decide +kernel
theorem dX3_undo_8 : decode cX3_undo 8 = .ok (.iconst 3, 1) := by decide +kernel
theorem dX3_undo_9 : decode cX3_undo 9 = .ok (.invokevirtual 51, 3) := by decide +kernel
theorem dX3_undo_12 : decode cX3_undo 12 = .ok (.ireturn, 1) := by decide +kernel
theorem dX3_undo_13 : decode cX3_undo 13 = .ok (.aload_n 0, 1) := by decide +kernel
theorem dX3_undo_14 : decode cX3_undo 14 = .ok (.getfield 10, 3) := by decide +kernel
theorem dX3_undo_17 : decode cX3_undo 17 = .ok (.aload_n 0, 1) := by decide +kernel
theorem dX3_undo_18 : decode cX3_undo 18 = .ok (.getfield 19, 3) := by decide +kernel
theorem dX3_undo_21 : decode cX3_undo 21 = .ok (.invokevirtual 154, 3) := by decide +kernel
theorem dX3_undo_24 : decode cX3_undo 24 = .ok (.aload_n 0, 1) := by decide +kernel
theorem dX3_undo_25 : decode cX3_undo 25 = .ok (.getfield 10, 3) := by decide +kernel
theorem dX3_undo_28 : decode cX3_undo 28 = .ok (.getfield 117, 3) := by decide +kernel
theorem dX3_undo_31 : decode cX3_undo 31 = .ok (.ireturn, 1) := by decide +kernel
theorem dX3_tear_0 : decode cX3_tear 0 = .ok (.aload_n 0, 1) := by decide +kernel
theorem dX3_tear_1 : decode cX3_tear 1 = .ok (.getfield 22, 3) := by decide +kernel
theorem dX3_tear_4 : decode cX3_tear 4 = .ok (.istore_n 1, 1) := by decide +kernel
theorem dX3_tear_5 : decode cX3_tear 5 = .ok (.aload_n 0, 1) := by decide +kernel
theorem dX3_tear_6 : decode cX3_tear 6 = .ok (.iconst 0, 1) := by decide +kernel
theorem dX3_tear_7 : decode cX3_tear 7 = .ok (.putfield 22, 3) := by decide +kernel
theorem dX3_tear_10 : decode cX3_tear 10 = .ok (.iload_n 1, 1) := by decide +kernel
theorem dX3_tear_11 : decode cX3_tear 11 = .ok (.ifCond .eq 7, 3) := by decide +kernel
theorem dX3_tear_14 : decode cX3_tear 14 = .ok (.iconst 1, 1) := by decide +kernel
theorem dX3_tear_15 : decode cX3_tear 15 = .ok (.goto 4, 3) := by decide +kernel
theorem dX3_tear_18 : decode cX3_tear 18 = .ok (.iconst 0, 1) := by decide +kernel
theorem dX3_tear_19 : decode cX3_tear 19 = .ok (.ireturn, 1) := by decide +kernel
theorem dX3_count_0 : decode cX3_count 0 = .ok (.iload_n 1, 1) := by decide +kernel
theorem dX3_count_1 : decode cX3_count 1 = .ok (.tableswitch 118 0 7 #[47, 55, 63, 74, 85, 94, 102, 110], 47) := by decide +kernel
theorem dX3_count_48 : decode cX3_count 48 = .ok (.aload_n 0, 1) := by decide +kernel
theorem dX3_count_49 : decode cX3_count 49 = .ok (.getfield 10, 3) := by decide +kernel
theorem dX3_count_52 : decode cX3_count 52 = .ok (.getfield 117, 3) := by decide +kernel
theorem dX3_count_55 : decode cX3_count 55 = .ok (.ireturn, 1) := by decide +kernel
theorem dX3_count_56 : decode cX3_count 56 = .ok (.aload_n 0, 1) := by decide +kernel
theorem dX3_count_57 : decode cX3_count 57 = .ok (.getfield 10, 3) := by decide +kernel
theorem dX3_count_60 : decode cX3_count 60 = .ok (.getfield 84, 3) := by decide +kernel
theorem dX3_count_63 : decode cX3_count 63 = .ok (.ireturn, 1) := by decide +kernel
theorem dX3_count_64 : decode cX3_count 64 = .ok (.aload_n 0, 1) := by decide +kernel
theorem dX3_count_65 : decode cX3_count 65 = .ok (.getfield 10, 3) := by decide +kernel
theorem dX3_count_68 : decode cX3_count 68 = .ok (.getfield 125, 3) := by decide +kernel
theorem dX3_count_71 : decode cX3_count 71 = .ok (.invokestatic 128, 3) := by decide +kernel
theorem dX3_count_74 : decode cX3_count 74 = .ok (.ireturn, 1) := by decide +kernel
theorem dX3_count_75 : decode cX3_count 75 = .ok (.aload_n 0, 1) := by decide +kernel
theorem dX3_count_76 : decode cX3_count 76 = .ok (.getfield 10, 3) := by decide +kernel
theorem dX3_count_79 : decode cX3_count 79 = .ok (.getfield 133, 3) := by decide +kernel
theorem dX3_count_82 : decode cX3_count 82 = .ok (.invokestatic 137, 3) := by decide +kernel
theorem dX3_count_85 : decode cX3_count 85 = .ok (.ireturn, 1) := by decide +kernel
theorem dX3_count_86 : decode cX3_count 86 = .ok (.aload_n 0, 1) := by decide +kernel
theorem dX3_count_87 : decode cX3_count 87 = .ok (.getfield 10, 3) := by decide +kernel
theorem dX3_count_90 : decode cX3_count 90 = .ok (.iconst (-1), 1) := by decide +kernel
theorem dX3_count_91 : decode cX3_count 91 = .ok (.invokevirtual 142, 3) := by decide +kernel
theorem dX3_count_94 : decode cX3_count 94 = .ok (.ireturn, 1) := by decide +kernel
theorem dX3_count_95 : decode cX3_count 95 = .ok (.aload_n 0, 1) := by decide +kernel
theorem dX3_count_96 : decode cX3_count 96 = .ok (.getfield 29, 3) := by decide +kernel
theorem dX3_count_99 : decode cX3_count 99 = .ok (.getfield 218, 3) := by decide +kernel
theorem dX3_count_102 : decode cX3_count 102 = .ok (.ireturn, 1) := by decide +kernel
theorem dX3_count_103 : decode cX3_count 103 = .ok (.aload_n 0, 1) := by decide +kernel
theorem dX3_count_104 : decode cX3_count 104 = .ok (.getfield 10, 3) := by decide +kernel
theorem dX3_count_107 : decode cX3_count 107 = .ok (.getfield 215, 3) := by decide +kernel
theorem dX3_count_110 : decode cX3_count 110 = .ok (.ireturn, 1) := by decide +kernel
theorem dX3_count_111 : decode cX3_count 111 = .ok (.aload_n 0, 1) := by decide +kernel
theorem dX3_count_112 : decode cX3_count 112 = .ok (.getfield 10, 3) := by decide +kernel
theorem dX3_count_115 : decode cX3_count 115 = .ok (.invokevirtual 275, 3) := by decide +kernel
theorem dX3_count_118 : decode cX3_count 118 = .ok (.ireturn, 1) := by decide +kernel
theorem dX3_count_119 : decode cX3_count 119 = .ok (.aload_n 0, 1) := by decide +kernel
theorem dX3_count_120 : decode cX3_count 120 = .ok (.iconst 0, 1) := by decide +kernel
theorem dX3_count_121 : decode cX3_count 121 = .ok (.invokevirtual 51, 3) := by decide +kernel
theorem dX3_count_124 : decode cX3_count 124 = .ok (.ireturn, 1) := by decide +kernel
theorem dX3_status_0 : decode cX3_status 0 = .ok (.iload_n 1, 1) := by decide +kernel
theorem dX3_status_1 : decode cX3_status 1 = .ok (.iconst (-1), 1) := by decide +kernel
theorem dX3_status_2 : decode cX3_status 2 = .ok (.if_icmp .lt 9, 3) := by decide +kernel
theorem dX3_status_5 : decode cX3_status 5 = .ok (.iload_n 1, 1) := by decide +kernel
theorem dX3_status_6 : decode cX3_status 6 = .ok (.bipush 7, 2) := by decide +kernel
theorem dX3_status_8 : decode cX3_status 8 = .ok (.if_icmp .lt 9, 3) := by decide +kernel
theorem dX3_status_11 : decode cX3_status 11 = .ok (.aload_n 0, 1) := by decide +kernel
theorem dX3_status_12 : decode cX3_status 12 = .ok (.iconst 0, 1) := by decide +kernel
theorem dX3_status_13 : decode cX3_status 13 = .ok (.invokevirtual 51, 3) := by decide +kernel
theorem dX3_status_16 : decode cX3_status 16 = .ok (.ireturn, 1) := by decide +kernel
theorem dX3_status_17 : decode cX3_status 17 = .ok (.iload_n 1, 1) := by decide +kernel
theorem dX3_status_18 : decode cX3_status 18 = .ok (.ifCond .lt 10, 3) := by decide +kernel
theorem dX3_status_21 : decode cX3_status 21 = .ok (.aload_n 0, 1) := by decide +kernel
theorem dX3_status_22 : decode cX3_status 22 = .ok (.getfield 40, 3) := by decide +kernel
theorem dX3_status_25 : decode cX3_status 25 = .ok (.iload_n 1, 1) := by decide +kernel
theorem dX3_status_26 : decode cX3_status 26 = .ok (.iaload, 1) := by decide +kernel
theorem dX3_status_27 : decode cX3_status 27 = .ok (.ireturn, 1) := by decide +kernel
theorem dX3_status_28 : decode cX3_status 28 = .ok (.iconst 0, 1) := by decide +kernel
theorem dX3_status_29 : decode cX3_status 29 = .ok (.istore_n 2, 1) := by decide +kernel
theorem dX3_status_30 : decode cX3_status 30 = .ok (.iconst 0, 1) := by decide +kernel
theorem dX3_status_31 : decode cX3_status 31 = .ok (.istore_n 3, 1) := by decide +kernel
theorem dX3_status_32 : decode cX3_status 32 = .ok (.iload_n 3, 1) := by decide +kernel
theorem dX3_status_33 : decode cX3_status 33 = .ok (.bipush 7, 2) := by decide +kernel
theorem dX3_status_35 : decode cX3_status 35 = .ok (.if_icmp .ge 18, 3) := by decide +kernel
theorem dX3_status_38 : decode cX3_status 38 = .ok (.iload_n 2, 1) := by decide +kernel
theorem dX3_status_39 : decode cX3_status 39 = .ok (.aload_n 0, 1) := by decide +kernel
theorem dX3_status_40 : decode cX3_status 40 = .ok (.getfield 40, 3) := by decide +kernel
theorem dX3_status_43 : decode cX3_status 43 = .ok (.iload_n 3, 1) := by decide +kernel
theorem dX3_status_44 : decode cX3_status 44 = .ok (.iaload, 1) := by decide +kernel
theorem dX3_status_45 : decode cX3_status 45 = .ok (.iadd, 1) := by decide +kernel
theorem dX3_status_46 : decode cX3_status 46 = .ok (.istore_n 2, 1) := by decide +kernel
theorem dX3_status_47 : decode cX3_status 47 = .ok (.iinc 3 1, 3) := by decide +kernel
theorem dX3_status_50 : decode cX3_status 50 = .ok (.goto (-18), 3) := by decide +kernel
theorem dX3_status_53 : decode cX3_status 53 = .ok (.iload_n 2, 1) := by decide +kernel
theorem dX3_status_54 : decode cX3_status 54 = .ok (.ireturn, 1) := by decide +kernel
theorem dX3_finding_0 : decode cX3_finding 0 = .ok (.iload_n 1, 1) := by decide +kernel
theorem dX3_finding_1 : decode cX3_finding 1 = .ok (.ifCond .lt 19, 3) := by decide +kernel
theorem dX3_finding_4 : decode cX3_finding 4 = .ok (.iload_n 1, 1) := by decide +kernel
theorem dX3_finding_5 : decode cX3_finding 5 = .ok (.bipush 7, 2) := by decide +kernel
theorem dX3_finding_7 : decode cX3_finding 7 = .ok (.if_icmp .ge 13, 3) := by decide +kernel
theorem dX3_finding_10 : decode cX3_finding 10 = .ok (.aload_n 0, 1) := by decide +kernel
theorem dX3_finding_11 : decode cX3_finding 11 = .ok (.getfield 40, 3) := by decide +kernel
theorem dX3_finding_14 : decode cX3_finding 14 = .ok (.iload_n 1, 1) := by decide +kernel
theorem dX3_finding_15 : decode cX3_finding 15 = .ok (.dup2, 1) := by decide +kernel
theorem dX3_finding_16 : decode cX3_finding 16 = .ok (.iaload, 1) := by decide +kernel
theorem dX3_finding_17 : decode cX3_finding 17 = .ok (.iconst 1, 1) := by decide +kernel
theorem dX3_finding_18 : decode cX3_finding 18 = .ok (.iadd, 1) := by decide +kernel
theorem dX3_finding_19 : decode cX3_finding 19 = .ok (.iastore, 1) := by decide +kernel
theorem dX3_finding_20 : decode cX3_finding 20 = .ok (.ldc_w 278, 3) := by decide +kernel
theorem dX3_finding_23 : decode cX3_finding 23 = .ok (.iload_n 1, 1) := by decide +kernel
theorem dX3_finding_24 : decode cX3_finding 24 = .ok (.isub, 1) := by decide +kernel
theorem dX3_finding_25 : decode cX3_finding 25 = .ok (.ireturn, 1) := by decide +kernel
theorem dX3_isBell_0 : decode cX3_isBell 0 = .ok (.iload_n 1, 1) := by decide +kernel
theorem dX3_isBell_1 : decode cX3_isBell 1 = .ok (.ifCond .lt 18, 3) := by decide +kernel
theorem dX3_isBell_4 : decode cX3_isBell 4 = .ok (.iload_n 1, 1) := by decide +kernel
theorem dX3_isBell_5 : decode cX3_isBell 5 = .ok (.aload_n 0, 1) := by decide +kernel
theorem dX3_isBell_6 : decode cX3_isBell 6 = .ok (.getfield 10, 3) := by decide +kernel
theorem dX3_isBell_9 : decode cX3_isBell 9 = .ok (.getfield 84, 3) := by decide +kernel
theorem dX3_isBell_12 : decode cX3_isBell 12 = .ok (.if_icmp .ge 7, 3) := by decide +kernel
theorem dX3_isBell_15 : decode cX3_isBell 15 = .ok (.iconst 1, 1) := by decide +kernel
theorem dX3_isBell_16 : decode cX3_isBell 16 = .ok (.goto 4, 3) := by decide +kernel
theorem dX3_isBell_19 : decode cX3_isBell 19 = .ok (.iconst 0, 1) := by decide +kernel
theorem dX3_isBell_20 : decode cX3_isBell 20 = .ok (.ireturn, 1) := by decide +kernel
theorem dX3_isCell_0 : decode cX3_isCell 0 = .ok (.iload_n 0, 1) := by decide +kernel
theorem dX3_isCell_1 : decode cX3_isCell 1 = .ok (.ifCond .lt 13, 3) := by decide +kernel
theorem dX3_isCell_4 : decode cX3_isCell 4 = .ok (.iload_n 0, 1) := by decide +kernel
theorem dX3_isCell_5 : decode cX3_isCell 5 = .ok (.bipush 64, 2) := by decide +kernel
theorem dX3_isCell_7 : decode cX3_isCell 7 = .ok (.if_icmp .ge 7, 3) := by decide +kernel
theorem dX3_isCell_10 : decode cX3_isCell 10 = .ok (.iconst 1, 1) := by decide +kernel
theorem dX3_isCell_11 : decode cX3_isCell 11 = .ok (.goto 4, 3) := by decide +kernel
theorem dX3_isCell_14 : decode cX3_isCell 14 = .ok (.iconst 0, 1) := by decide +kernel
theorem dX3_isCell_15 : decode cX3_isCell 15 = .ok (.ireturn, 1) := by decide +kernel
theorem dX3_isHunter_0 : decode cX3_isHunter 0 = .ok (.iload_n 0, 1) := by decide +kernel
theorem dX3_isHunter_1 : decode cX3_isHunter 1 = .ok (.ifCond .lt 12, 3) := by decide +kernel
theorem dX3_isHunter_4 : decode cX3_isHunter 4 = .ok (.iload_n 0, 1) := by decide +kernel
theorem dX3_isHunter_5 : decode cX3_isHunter 5 = .ok (.iconst 4, 1) := by decide +kernel
theorem dX3_isHunter_6 : decode cX3_isHunter 6 = .ok (.if_icmp .ge 7, 3) := by decide +kernel
theorem dX3_isHunter_9 : decode cX3_isHunter 9 = .ok (.iconst 1, 1) := by decide +kernel
theorem dX3_isHunter_10 : decode cX3_isHunter 10 = .ok (.goto 4, 3) := by decide +kernel
theorem dX3_isHunter_13 : decode cX3_isHunter 13 = .ok (.iconst 0, 1) := by decide +kernel
theorem dX3_isHunter_14 : decode cX3_isHunter 14 = .ok (.ireturn, 1) := by decide +kernel
theorem dX3_isKind_0 : decode cX3_isKind 0 = .ok (.iload_n 0, 1) := by decide +kernel
theorem dX3_isKind_1 : decode cX3_isKind 1 = .ok (.ifCond .lt 13, 3) := by decide +kernel
theorem dX3_isKind_4 : decode cX3_isKind 4 = .ok (.iload_n 0, 1) := by decide +kernel
theorem dX3_isKind_5 : decode cX3_isKind 5 = .ok (.bipush 7, 2) := by decide +kernel
theorem dX3_isKind_7 : decode cX3_isKind 7 = .ok (.if_icmp .ge 7, 3) := by decide +kernel
theorem dX3_isKind_10 : decode cX3_isKind 10 = .ok (.iconst 1, 1) := by decide +kernel
theorem dX3_isKind_11 : decode cX3_isKind 11 = .ok (.goto 4, 3) := by decide +kernel
theorem dX3_isKind_14 : decode cX3_isKind 14 = .ok (.iconst 0, 1) := by decide +kernel
theorem dX3_isKind_15 : decode cX3_isKind 15 = .ok (.ireturn, 1) := by decide +kernel
theorem dX3_isNote_0 : decode cX3_isNote 0 = .ok (.iload_n 0, 1) := by decide +kernel
theorem dX3_isNote_1 : decode cX3_isNote 1 = .ok (.ifCond .lt 13, 3) := by decide +kernel
theorem dX3_isNote_4 : decode cX3_isNote 4 = .ok (.iload_n 0, 1) := by decide +kernel
theorem dX3_isNote_5 : decode cX3_isNote 5 = .ok (.bipush 12, 2) := by decide +kernel
theorem dX3_isNote_7 : decode cX3_isNote 7 = .ok (.if_icmp .ge 7, 3) := by decide +kernel
theorem dX3_isNote_10 : decode cX3_isNote 10 = .ok (.iconst 1, 1) := by decide +kernel
theorem dX3_isNote_11 : decode cX3_isNote 11 = .ok (.goto 4, 3) := by decide +kernel
theorem dX3_isNote_14 : decode cX3_isNote 14 = .ok (.iconst 0, 1) := by decide +kernel
theorem dX3_isNote_15 : decode cX3_isNote 15 = .ok (.ireturn, 1) := by decide +kernel
theorem dX3_isWeight_0 : decode cX3_isWeight 0 = .ok (.iload_n 0, 1) := by decide +kernel
theorem dX3_isWeight_1 : decode cX3_isWeight 1 = .ok (.iconst 1, 1) := by decide +kernel
theorem dX3_isWeight_2 : decode cX3_isWeight 2 = .ok (.if_icmp .lt 13, 3) := by decide +kernel
theorem dX3_isWeight_5 : decode cX3_isWeight 5 = .ok (.iload_n 0, 1) := by decide +kernel
theorem dX3_isWeight_6 : decode cX3_isWeight 6 = .ok (.bipush 99, 2) := by decide +kernel
theorem dX3_isWeight_8 : decode cX3_isWeight 8 = .ok (.if_icmp .gt 7, 3) := by decide +kernel
theorem dX3_isWeight_11 : decode cX3_isWeight 11 = .ok (.iconst 1, 1) := by decide +kernel
theorem dX3_isWeight_12 : decode cX3_isWeight 12 = .ok (.goto 4, 3) := by decide +kernel
theorem dX3_isWeight_15 : decode cX3_isWeight 15 = .ok (.iconst 0, 1) := by decide +kernel
theorem dX3_isWeight_16 : decode cX3_isWeight 16 = .ok (.ireturn, 1) := by decide +kernel
theorem dX3_isStock_0 : decode cX3_isStock 0 = .ok (.iload_n 0, 1) := by decide +kernel
theorem dX3_isStock_1 : decode cX3_isStock 1 = .ok (.ifCond .lt 14, 3) := by decide +kernel
theorem dX3_isStock_4 : decode cX3_isStock 4 = .ok (.iload_n 0, 1) := by decide +kernel
theorem dX3_isStock_5 : decode cX3_isStock 5 = .ok (.sipush 9999, 3) := by decide +kernel
theorem dX3_isStock_8 : decode cX3_isStock 8 = .ok (.if_icmp .gt 7, 3) := by decide +kernel
theorem dX3_isStock_11 : decode cX3_isStock 11 = .ok (.iconst 1, 1) := by decide +kernel
theorem dX3_isStock_12 : decode cX3_isStock 12 = .ok (.goto 4, 3) := by decide +kernel
theorem dX3_isStock_15 : decode cX3_isStock 15 = .ok (.iconst 0, 1) := by decide +kernel
theorem dX3_isStock_16 : decode cX3_isStock 16 = .ok (.ireturn, 1) := by decide +kernel
theorem dX3_isSpot_0 : decode cX3_isSpot 0 = .ok (.iload_n 0, 1) := by decide +kernel
theorem dX3_isSpot_1 : decode cX3_isSpot 1 = .ok (.ifCond .lt 13, 3) := by decide +kernel
theorem dX3_isSpot_4 : decode cX3_isSpot 4 = .ok (.iload_n 0, 1) := by decide +kernel
theorem dX3_isSpot_5 : decode cX3_isSpot 5 = .ok (.bipush 10, 2) := by decide +kernel
theorem dX3_isSpot_7 : decode cX3_isSpot 7 = .ok (.if_icmp .ge 7, 3) := by decide +kernel
theorem dX3_isSpot_10 : decode cX3_isSpot 10 = .ok (.iconst 1, 1) := by decide +kernel
theorem dX3_isSpot_11 : decode cX3_isSpot 11 = .ok (.goto 4, 3) := by decide +kernel
theorem dX3_isSpot_14 : decode cX3_isSpot 14 = .ok (.iconst 0, 1) := by decide +kernel
theorem dX3_isSpot_15 : decode cX3_isSpot 15 = .ok (.ireturn, 1) := by decide +kernel
theorem dX3_isSheet_0 : decode cX3_isSheet 0 = .ok (.iload_n 0, 1) := by decide +kernel
theorem dX3_isSheet_1 : decode cX3_isSheet 1 = .ok (.ifCond .lt 12, 3) := by decide +kernel
theorem dX3_isSheet_4 : decode cX3_isSheet 4 = .ok (.iload_n 0, 1) := by decide +kernel
theorem dX3_isSheet_5 : decode cX3_isSheet 5 = .ok (.iconst 4, 1) := by decide +kernel
theorem dX3_isSheet_6 : decode cX3_isSheet 6 = .ok (.if_icmp .ge 7, 3) := by decide +kernel
theorem dX3_isSheet_9 : decode cX3_isSheet 9 = .ok (.iconst 1, 1) := by decide +kernel
theorem dX3_isSheet_10 : decode cX3_isSheet 10 = .ok (.goto 4, 3) := by decide +kernel
theorem dX3_isSheet_13 : decode cX3_isSheet 13 = .ok (.iconst 0, 1) := by decide +kernel
theorem dX3_isSheet_14 : decode cX3_isSheet 14 = .ok (.ireturn, 1) := by decide +kernel
theorem dX3_isTrait_0 : decode cX3_isTrait 0 = .ok (.iload_n 0, 1) := by decide +kernel
theorem dX3_isTrait_1 : decode cX3_isTrait 1 = .ok (.ifCond .lt 12, 3) := by decide +kernel
theorem dX3_isTrait_4 : decode cX3_isTrait 4 = .ok (.iload_n 0, 1) := by decide +kernel
theorem dX3_isTrait_5 : decode cX3_isTrait 5 = .ok (.iconst 4, 1) := by decide +kernel
theorem dX3_isTrait_6 : decode cX3_isTrait 6 = .ok (.if_icmp .gt 7, 3) := by decide +kernel
theorem dX3_isTrait_9 : decode cX3_isTrait 9 = .ok (.iconst 1, 1) := by decide +kernel
theorem dX3_isTrait_10 : decode cX3_isTrait 10 = .ok (.goto 4, 3) := by decide +kernel
theorem dX3_isTrait_13 : decode cX3_isTrait 13 = .ok (.iconst 0, 1) := by decide +kernel
theorem dX3_isTrait_14 : decode cX3_isTrait 14 = .ok (.ireturn, 1) := by decide +kernel
theorem dX3_suits_0 : decode cX3_suits 0 = .ok (.iload_n 0, 1) := by decide +kernel
theorem dX3_suits_1 : decode cX3_suits 1 = .ok (.tableswitch 51 0 3 #[31, 36, 41, 46], 31) := by decide +kernel
theorem dX3_suits_32 : decode cX3_suits 32 = .ok (.iload_n 1, 1) := by decide +kernel
theorem dX3_suits_33 : decode cX3_suits 33 = .ok (.invokestatic 81, 3) := by decide +kernel
theorem dX3_suits_36 : decode cX3_suits 36 = .ok (.ireturn, 1) := by decide +kernel
theorem dX3_suits_37 : decode cX3_suits 37 = .ok (.iload_n 1, 1) := by decide +kernel
theorem dX3_suits_38 : decode cX3_suits 38 = .ok (.invokestatic 47, 3) := by decide +kernel
theorem dX3_suits_41 : decode cX3_suits 41 = .ok (.ireturn, 1) := by decide +kernel
theorem dX3_suits_42 : decode cX3_suits 42 = .ok (.iload_n 1, 1) := by decide +kernel
theorem dX3_suits_43 : decode cX3_suits 43 = .ok (.invokestatic 266, 3) := by decide +kernel
theorem dX3_suits_46 : decode cX3_suits 46 = .ok (.ireturn, 1) := by decide +kernel
theorem dX3_suits_47 : decode cX3_suits 47 = .ok (.iload_n 1, 1) := by decide +kernel
theorem dX3_suits_48 : decode cX3_suits 48 = .ok (.invokestatic 279, 3) := by decide +kernel
theorem dX3_suits_51 : decode cX3_suits 51 = .ok (.ireturn, 1) := by decide +kernel
theorem dX3_suits_52 : decode cX3_suits 52 = .ok (.iload_n 1, 1) := by decide +kernel
theorem dX3_suits_53 : decode cX3_suits 53 = .ok (.ifCond .eq 8, 3) := by decide +kernel
theorem dX3_suits_56 : decode cX3_suits 56 = .ok (.iload_n 1, 1) := by decide +kernel
theorem dX3_suits_57 : decode cX3_suits 57 = .ok (.iconst 1, 1) := by decide +kernel
theorem dX3_suits_58 : decode cX3_suits 58 = .ok (.if_icmp .ne 7, 3) := by decide +kernel
theorem dX3_suits_61 : decode cX3_suits 61 = .ok (.iconst 1, 1) := by decide +kernel
theorem dX3_suits_62 : decode cX3_suits 62 = .ok (.goto 4, 3) := by decide +kernel
theorem dX3_suits_65 : decode cX3_suits 65 = .ok (.iconst 0, 1) := by decide +kernel
theorem dX3_suits_66 : decode cX3_suits 66 = .ok (.ireturn, 1) := by decide +kernel
theorem dX3_soundFault_0 : decode cX3_soundFault 0 = .ok (.iload_n 1, 1) := by decide +kernel
theorem dX3_soundFault_1 : decode cX3_soundFault 1 = .ok (.invokestatic 237, 3) := by decide +kernel
theorem dX3_soundFault_4 : decode cX3_soundFault 4 = .ok (.ifCond .ne 5, 3) := by decide +kernel
theorem dX3_soundFault_7 : decode cX3_soundFault 7 = .ok (.iconst 0, 1) := by decide +kernel
theorem dX3_soundFault_8 : decode cX3_soundFault 8 = .ok (.ireturn, 1) := by decide +kernel
theorem dX3_soundFault_9 : decode cX3_soundFault 9 = .ok (.aload_n 0, 1) := by decide +kernel
theorem dX3_soundFault_10 : decode cX3_soundFault 10 = .ok (.getfield 35, 3) := by decide +kernel
theorem dX3_soundFault_13 : decode cX3_soundFault 13 = .ok (.iload_n 1, 1) := by decide +kernel
theorem dX3_soundFault_14 : decode cX3_soundFault 14 = .ok (.aaload, 1) := by decide +kernel
theorem dX3_soundFault_15 : decode cX3_soundFault 15 = .ok (.invokevirtual 245, 3) := by decide +kernel
theorem dX3_soundFault_18 : decode cX3_soundFault 18 = .ok (.ifCond .eq 5, 3) := by decide +kernel
theorem dX3_soundFault_21 : decode cX3_soundFault 21 = .ok (.iconst 5, 1) := by decide +kernel
theorem dX3_soundFault_22 : decode cX3_soundFault 22 = .ok (.ireturn, 1) := by decide +kernel
theorem dX3_soundFault_23 : decode cX3_soundFault 23 = .ok (.iload_n 2, 1) := by decide +kernel
theorem dX3_soundFault_24 : decode cX3_soundFault 24 = .ok (.invokestatic 279, 3) := by decide +kernel
theorem dX3_soundFault_27 : decode cX3_soundFault 27 = .ok (.ifCond .ne 5, 3) := by decide +kernel
theorem dX3_soundFault_30 : decode cX3_soundFault 30 = .ok (.iconst 0, 1) := by decide +kernel
theorem dX3_soundFault_31 : decode cX3_soundFault 31 = .ok (.ireturn, 1) := by decide +kernel
theorem dX3_soundFault_32 : decode cX3_soundFault 32 = .ok (.aload_n 0, 1) := by decide +kernel
theorem dX3_soundFault_33 : decode cX3_soundFault 33 = .ok (.getfield 35, 3) := by decide +kernel
theorem dX3_soundFault_36 : decode cX3_soundFault 36 = .ok (.iload_n 1, 1) := by decide +kernel
theorem dX3_soundFault_37 : decode cX3_soundFault 37 = .ok (.aaload, 1) := by decide +kernel
theorem dX3_soundFault_38 : decode cX3_soundFault 38 = .ok (.invokevirtual 282, 3) := by decide +kernel
theorem dX3_soundFault_41 : decode cX3_soundFault 41 = .ok (.ifCond .eq 7, 3) := by decide +kernel
theorem dX3_soundFault_44 : decode cX3_soundFault 44 = .ok (.iconst (-1), 1) := by decide +kernel
theorem dX3_soundFault_45 : decode cX3_soundFault 45 = .ok (.goto 4, 3) := by decide +kernel
theorem dX3_soundFault_48 : decode cX3_soundFault 48 = .ok (.iconst 4, 1) := by decide +kernel
theorem dX3_soundFault_49 : decode cX3_soundFault 49 = .ok (.ireturn, 1) := by decide +kernel
theorem dX3_standingCells_0 : decode cX3_standingCells 0 = .ok (.lconst 0, 1) := by decide +kernel
theorem dX3_standingCells_1 : decode cX3_standingCells 1 = .ok (.lstore_n 2, 1) := by decide +kernel
theorem dX3_standingCells_2 : decode cX3_standingCells 2 = .ok (.iconst 0, 1) := by decide +kernel
theorem dX3_standingCells_3 : decode cX3_standingCells 3 = .ok (.istore 4, 2) := by decide +kernel
theorem dX3_standingCells_5 : decode cX3_standingCells 5 = .ok (.iload 4, 2) := by decide +kernel
theorem dX3_standingCells_7 : decode cX3_standingCells 7 = .ok (.bipush 64, 2) := by decide +kernel
theorem dX3_standingCells_9 : decode cX3_standingCells 9 = .ok (.if_icmp .ge 26, 3) := by decide +kernel
theorem dX3_standingCells_12 : decode cX3_standingCells 12 = .ok (.aload_n 0, 1) := by decide +kernel
theorem dX3_standingCells_13 : decode cX3_standingCells 13 = .ok (.iload_n 1, 1) := by decide +kernel
theorem dX3_standingCells_14 : decode cX3_standingCells 14 = .ok (.iload 4, 2) := by decide +kernel
theorem dX3_standingCells_16 : decode cX3_standingCells 16 = .ok (.invokevirtual 189, 3) := by decide +kernel
theorem dX3_standingCells_19 : decode cX3_standingCells 19 = .ok (.ifCond .eq 10, 3) := by decide +kernel
theorem dX3_standingCells_22 : decode cX3_standingCells 22 = .ok (.lload_n 2, 1) := by decide +kernel
theorem dX3_standingCells_23 : decode cX3_standingCells 23 = .ok (.lconst 1, 1) := by decide +kernel
theorem dX3_standingCells_24 : decode cX3_standingCells 24 = .ok (.iload 4, 2) := by decide +kernel
theorem dX3_standingCells_26 : decode cX3_standingCells 26 = .ok (.lshl, 1) := by decide +kernel
theorem dX3_standingCells_27 : decode cX3_standingCells 27 = .ok (.lor, 1) := by decide +kernel
theorem dX3_standingCells_28 : decode cX3_standingCells 28 = .ok (.lstore_n 2, 1) := by decide +kernel
theorem dX3_standingCells_29 : decode cX3_standingCells 29 = .ok (.iinc 4 1, 3) := by decide +kernel
theorem dX3_standingCells_32 : decode cX3_standingCells 32 = .ok (.goto (-27), 3) := by decide +kernel
theorem dX3_standingCells_35 : decode cX3_standingCells 35 = .ok (.lload_n 2, 1) := by decide +kernel
theorem dX3_standingCells_36 : decode cX3_standingCells 36 = .ok (.lreturn, 1) := by decide +kernel
theorem dX3_leftAtWorst_0 : decode cX3_leftAtWorst 0 = .ok (.bipush 15, 2) := by decide +kernel
theorem dX3_leftAtWorst_2 : decode cX3_leftAtWorst 2 = .ok (.istore 5, 2) := by decide +kernel
theorem dX3_leftAtWorst_4 : decode cX3_leftAtWorst 4 = .ok (.iconst 0, 1) := by decide +kernel
theorem dX3_leftAtWorst_5 : decode cX3_leftAtWorst 5 = .ok (.istore 6, 2) := by decide +kernel
theorem dX3_leftAtWorst_7 : decode cX3_leftAtWorst 7 = .ok (.iload 6, 2) := by decide +kernel
theorem dX3_leftAtWorst_9 : decode cX3_leftAtWorst 9 = .ok (.iload 5, 2) := by decide +kernel
theorem dX3_leftAtWorst_11 : decode cX3_leftAtWorst 11 = .ok (.if_icmp .gt 17, 3) := by decide +kernel
theorem dX3_leftAtWorst_14 : decode cX3_leftAtWorst 14 = .ok (.aload_n 0, 1) := by decide +kernel
theorem dX3_leftAtWorst_15 : decode cX3_leftAtWorst 15 = .ok (.getfield 44, 3) := by decide +kernel
theorem dX3_leftAtWorst_18 : decode cX3_leftAtWorst 18 = .ok (.iload 6, 2) := by decide +kernel
theorem dX3_leftAtWorst_20 : decode cX3_leftAtWorst 20 = .ok (.iconst 0, 1) := by decide +kernel
theorem dX3_leftAtWorst_21 : decode cX3_leftAtWorst 21 = .ok (.iastore, 1) := by decide +kernel
theorem dX3_leftAtWorst_22 : decode cX3_leftAtWorst 22 = .ok (.iinc 6 1, 3) := by decide +kernel
theorem dX3_leftAtWorst_25 : decode cX3_leftAtWorst 25 = .ok (.goto (-18), 3) := by decide +kernel
theorem dX3_leftAtWorst_28 : decode cX3_leftAtWorst 28 = .ok (.iconst 0, 1) := by decide +kernel
theorem dX3_leftAtWorst_29 : decode cX3_leftAtWorst 29 = .ok (.istore 6, 2) := by decide +kernel
theorem dX3_leftAtWorst_31 : decode cX3_leftAtWorst 31 = .ok (.iconst 0, 1) := by decide +kernel
theorem dX3_leftAtWorst_32 : decode cX3_leftAtWorst 32 = .ok (.istore 7, 2) := by decide +kernel
theorem dX3_leftAtWorst_34 : decode cX3_leftAtWorst 34 = .ok (.iload 7, 2) := by decide +kernel
theorem dX3_leftAtWorst_36 : decode cX3_leftAtWorst 36 = .ok (.bipush 64, 2) := by decide +kernel
theorem dX3_leftAtWorst_38 : decode cX3_leftAtWorst 38 = .ok (.if_icmp .ge 70, 3) := by decide +kernel
theorem dX3_leftAtWorst_41 : decode cX3_leftAtWorst 41 = .ok (.lload_n 1, 1) := by decide +kernel
theorem dX3_leftAtWorst_42 : decode cX3_leftAtWorst 42 = .ok (.iload 7, 2) := by decide +kernel
theorem dX3_leftAtWorst_44 : decode cX3_leftAtWorst 44 = .ok (.invokestatic 168, 3) := by decide +kernel
theorem dX3_leftAtWorst_47 : decode cX3_leftAtWorst 47 = .ok (.ifCond .eq 55, 3) := by decide +kernel
theorem dX3_leftAtWorst_50 : decode cX3_leftAtWorst 50 = .ok (.iload 7, 2) := by decide +kernel
theorem dX3_leftAtWorst_52 : decode cX3_leftAtWorst 52 = .ok (.iload_n 3, 1) := by decide +kernel
theorem dX3_leftAtWorst_53 : decode cX3_leftAtWorst 53 = .ok (.invokestatic 148, 3) := by decide +kernel
theorem dX3_leftAtWorst_56 : decode cX3_leftAtWorst 56 = .ok (.istore 8, 2) := by decide +kernel
theorem dX3_leftAtWorst_58 : decode cX3_leftAtWorst 58 = .ok (.iload 4, 2) := by decide +kernel
theorem dX3_leftAtWorst_60 : decode cX3_leftAtWorst 60 = .ok (.iload 8, 2) := by decide +kernel
theorem dX3_leftAtWorst_62 : decode cX3_leftAtWorst 62 = .ok (.invokestatic 151, 3) := by decide +kernel
theorem dX3_leftAtWorst_65 : decode cX3_leftAtWorst 65 = .ok (.ifCond .le 8, 3) := by decide +kernel
theorem dX3_leftAtWorst_68 : decode cX3_leftAtWorst 68 = .ok (.iload 8, 2) := by decide +kernel
theorem dX3_leftAtWorst_70 : decode cX3_leftAtWorst 70 = .ok (.goto 5, 3) := by decide +kernel
theorem dX3_leftAtWorst_73 : decode cX3_leftAtWorst 73 = .ok (.iload 5, 2) := by decide +kernel
theorem dX3_leftAtWorst_75 : decode cX3_leftAtWorst 75 = .ok (.istore 9, 2) := by decide +kernel
theorem dX3_leftAtWorst_77 : decode cX3_leftAtWorst 77 = .ok (.aload_n 0, 1) := by decide +kernel
theorem dX3_leftAtWorst_78 : decode cX3_leftAtWorst 78 = .ok (.getfield 44, 3) := by decide +kernel
theorem dX3_leftAtWorst_81 : decode cX3_leftAtWorst 81 = .ok (.iload 9, 2) := by decide +kernel
theorem dX3_leftAtWorst_83 : decode cX3_leftAtWorst 83 = .ok (.dup2, 1) := by decide +kernel
theorem dX3_leftAtWorst_84 : decode cX3_leftAtWorst 84 = .ok (.iaload, 1) := by decide +kernel
theorem dX3_leftAtWorst_85 : decode cX3_leftAtWorst 85 = .ok (.iconst 1, 1) := by decide +kernel
theorem dX3_leftAtWorst_86 : decode cX3_leftAtWorst 86 = .ok (.iadd, 1) := by decide +kernel
theorem dX3_leftAtWorst_87 : decode cX3_leftAtWorst 87 = .ok (.iastore, 1) := by decide +kernel
theorem dX3_leftAtWorst_88 : decode cX3_leftAtWorst 88 = .ok (.iload 6, 2) := by decide +kernel
theorem dX3_leftAtWorst_90 : decode cX3_leftAtWorst 90 = .ok (.aload_n 0, 1) := by decide +kernel
theorem dX3_leftAtWorst_91 : decode cX3_leftAtWorst 91 = .ok (.getfield 44, 3) := by decide +kernel
theorem dX3_leftAtWorst_94 : decode cX3_leftAtWorst 94 = .ok (.iload 9, 2) := by decide +kernel
theorem dX3_leftAtWorst_96 : decode cX3_leftAtWorst 96 = .ok (.iaload, 1) := by decide +kernel
theorem dX3_leftAtWorst_97 : decode cX3_leftAtWorst 97 = .ok (.invokestatic 285, 3) := by decide +kernel
theorem dX3_leftAtWorst_100 : decode cX3_leftAtWorst 100 = .ok (.istore 6, 2) := by decide +kernel
theorem dX3_leftAtWorst_102 : decode cX3_leftAtWorst 102 = .ok (.iinc 7 1, 3) := by decide +kernel
theorem dX3_leftAtWorst_105 : decode cX3_leftAtWorst 105 = .ok (.goto (-71), 3) := by decide +kernel
theorem dX3_leftAtWorst_108 : decode cX3_leftAtWorst 108 = .ok (.iload 6, 2) := by decide +kernel
theorem dX3_leftAtWorst_110 : decode cX3_leftAtWorst 110 = .ok (.ireturn, 1) := by decide +kernel
theorem dX3_stockBehind_0 : decode cX3_stockBehind 0 = .ok (.iload_n 0, 1) := by decide +kernel
theorem dX3_stockBehind_1 : decode cX3_stockBehind 1 = .ok (.istore_n 3, 1) := by decide +kernel
theorem dX3_stockBehind_2 : decode cX3_stockBehind 2 = .ok (.iconst 0, 1) := by decide +kernel
theorem dX3_stockBehind_3 : decode cX3_stockBehind 3 = .ok (.istore 4, 2) := by decide +kernel
theorem dX3_stockBehind_5 : decode cX3_stockBehind 5 = .ok (.iload 4, 2) := by decide +kernel
theorem dX3_stockBehind_7 : decode cX3_stockBehind 7 = .ok (.iload_n 2, 1) := by decide +kernel
theorem dX3_stockBehind_8 : decode cX3_stockBehind 8 = .ok (.if_icmp .ge 30, 3) := by decide +kernel
theorem dX3_stockBehind_11 : decode cX3_stockBehind 11 = .ok (.iload_n 3, 1) := by decide +kernel
theorem dX3_stockBehind_12 : decode cX3_stockBehind 12 = .ok (.iload_n 1, 1) := by decide +kernel
theorem dX3_stockBehind_13 : decode cX3_stockBehind 13 = .ok (.iload_n 3, 1) := by decide +kernel
theorem dX3_stockBehind_14 : decode cX3_stockBehind 14 = .ok (.invokestatic 290, 3) := by decide +kernel
theorem dX3_stockBehind_17 : decode cX3_stockBehind 17 = .ok (.isub, 1) := by decide +kernel
theorem dX3_stockBehind_18 : decode cX3_stockBehind 18 = .ok (.istore_n 3, 1) := by decide +kernel
theorem dX3_stockBehind_19 : decode cX3_stockBehind 19 = .ok (.iload_n 3, 1) := by decide +kernel
theorem dX3_stockBehind_20 : decode cX3_stockBehind 20 = .ok (.iload_n 3, 1) := by decide +kernel
theorem dX3_stockBehind_21 : decode cX3_stockBehind 21 = .ok (.bipush 10, 2) := by decide +kernel
theorem dX3_stockBehind_23 : decode cX3_stockBehind 23 = .ok (.idiv, 1) := by decide +kernel
theorem dX3_stockBehind_24 : decode cX3_stockBehind 24 = .ok (.iadd, 1) := by decide +kernel
theorem dX3_stockBehind_25 : decode cX3_stockBehind 25 = .ok (.sipush 9999, 3) := by decide +kernel
theorem dX3_stockBehind_28 : decode cX3_stockBehind 28 = .ok (.invokestatic 290, 3) := by decide +kernel
theorem dX3_stockBehind_31 : decode cX3_stockBehind 31 = .ok (.istore_n 3, 1) := by decide +kernel
theorem dX3_stockBehind_32 : decode cX3_stockBehind 32 = .ok (.iinc 4 1, 3) := by decide +kernel
theorem dX3_stockBehind_35 : decode cX3_stockBehind 35 = .ok (.goto (-30), 3) := by decide +kernel
theorem dX3_stockBehind_38 : decode cX3_stockBehind 38 = .ok (.iload_n 3, 1) := by decide +kernel
theorem dX3_stockBehind_39 : decode cX3_stockBehind 39 = .ok (.ireturn, 1) := by decide +kernel
theorem dX3_holds_0 : decode cX3_holds 0 = .ok (.lload_n 0, 1) := by decide +kernel
theorem dX3_holds_1 : decode cX3_holds 1 = .ok (.iload_n 2, 1) := by decide +kernel
theorem dX3_holds_2 : decode cX3_holds 2 = .ok (.lushr, 1) := by decide +kernel
theorem dX3_holds_3 : decode cX3_holds 3 = .ok (.lconst 1, 1) := by decide +kernel
theorem dX3_holds_4 : decode cX3_holds 4 = .ok (.land, 1) := by decide +kernel
theorem dX3_holds_5 : decode cX3_holds 5 = .ok (.lconst 1, 1) := by decide +kernel
theorem dX3_holds_6 : decode cX3_holds 6 = .ok (.lcmp, 1) := by decide +kernel
theorem dX3_holds_7 : decode cX3_holds 7 = .ok (.ifCond .ne 7, 3) := by decide +kernel
theorem dX3_holds_10 : decode cX3_holds 10 = .ok (.iconst 1, 1) := by decide +kernel
theorem dX3_holds_11 : decode cX3_holds 11 = .ok (.goto 4, 3) := by decide +kernel
theorem dX3_holds_14 : decode cX3_holds 14 = .ok (.iconst 0, 1) := by decide +kernel
theorem dX3_holds_15 : decode cX3_holds 15 = .ok (.ireturn, 1) := by decide +kernel
theorem dX3_apart_0 : decode cX3_apart 0 = .ok (.iload_n 0, 1) := by decide +kernel
theorem dX3_apart_1 : decode cX3_apart 1 = .ok (.bipush 8, 2) := by decide +kernel
theorem dX3_apart_3 : decode cX3_apart 3 = .ok (.idiv, 1) := by decide +kernel
theorem dX3_apart_4 : decode cX3_apart 4 = .ok (.iload_n 1, 1) := by decide +kernel
theorem dX3_apart_5 : decode cX3_apart 5 = .ok (.bipush 8, 2) := by decide +kernel
theorem dX3_apart_7 : decode cX3_apart 7 = .ok (.idiv, 1) := by decide +kernel
theorem dX3_apart_8 : decode cX3_apart 8 = .ok (.isub, 1) := by decide +kernel
theorem dX3_apart_9 : decode cX3_apart 9 = .ok (.istore_n 2, 1) := by decide +kernel
theorem dX3_apart_10 : decode cX3_apart 10 = .ok (.iload_n 0, 1) := by decide +kernel
theorem dX3_apart_11 : decode cX3_apart 11 = .ok (.bipush 8, 2) := by decide +kernel
theorem dX3_apart_13 : decode cX3_apart 13 = .ok (.irem, 1) := by decide +kernel
theorem dX3_apart_14 : decode cX3_apart 14 = .ok (.iload_n 1, 1) := by decide +kernel
theorem dX3_apart_15 : decode cX3_apart 15 = .ok (.bipush 8, 2) := by decide +kernel
theorem dX3_apart_17 : decode cX3_apart 17 = .ok (.irem, 1) := by decide +kernel
theorem dX3_apart_18 : decode cX3_apart 18 = .ok (.isub, 1) := by decide +kernel
theorem dX3_apart_19 : decode cX3_apart 19 = .ok (.istore_n 3, 1) := by decide +kernel
theorem dX3_apart_20 : decode cX3_apart 20 = .ok (.iload_n 2, 1) := by decide +kernel
theorem dX3_apart_21 : decode cX3_apart 21 = .ok (.ifCond .ge 8, 3) := by decide +kernel
theorem dX3_apart_24 : decode cX3_apart 24 = .ok (.iload_n 2, 1) := by decide +kernel
theorem dX3_apart_25 : decode cX3_apart 25 = .ok (.ineg, 1) := by decide +kernel
theorem dX3_apart_26 : decode cX3_apart 26 = .ok (.goto 4, 3) := by decide +kernel
theorem dX3_apart_29 : decode cX3_apart 29 = .ok (.iload_n 2, 1) := by decide +kernel
theorem dX3_apart_30 : decode cX3_apart 30 = .ok (.iload_n 3, 1) := by decide +kernel
theorem dX3_apart_31 : decode cX3_apart 31 = .ok (.ifCond .ge 8, 3) := by decide +kernel
theorem dX3_apart_34 : decode cX3_apart 34 = .ok (.iload_n 3, 1) := by decide +kernel
theorem dX3_apart_35 : decode cX3_apart 35 = .ok (.ineg, 1) := by decide +kernel
theorem dX3_apart_36 : decode cX3_apart 36 = .ok (.goto 4, 3) := by decide +kernel
theorem dX3_apart_39 : decode cX3_apart 39 = .ok (.iload_n 3, 1) := by decide +kernel
theorem dX3_apart_40 : decode cX3_apart 40 = .ok (.iadd, 1) := by decide +kernel
theorem dX3_apart_41 : decode cX3_apart 41 = .ok (.ireturn, 1) := by decide +kernel
theorem dX3_loudness_0 : decode cX3_loudness 0 = .ok (.iconst 0, 1) := by decide +kernel
theorem dX3_loudness_1 : decode cX3_loudness 1 = .ok (.iload_n 0, 1) := by decide +kernel
theorem dX3_loudness_2 : decode cX3_loudness 2 = .ok (.iconst 3, 1) := by decide +kernel
theorem dX3_loudness_3 : decode cX3_loudness 3 = .ok (.iload_n 1, 1) := by decide +kernel
theorem dX3_loudness_4 : decode cX3_loudness 4 = .ok (.imul, 1) := by decide +kernel
theorem dX3_loudness_5 : decode cX3_loudness 5 = .ok (.isub, 1) := by decide +kernel
theorem dX3_loudness_6 : decode cX3_loudness 6 = .ok (.invokestatic 285, 3) := by decide +kernel
theorem dX3_loudness_9 : decode cX3_loudness 9 = .ok (.ireturn, 1) := by decide +kernel
theorem dX3_isUnder_0 : decode cX3_isUnder 0 = .ok (.iload_n 0, 1) := by decide +kernel
theorem dX3_isUnder_1 : decode cX3_isUnder 1 = .ok (.istore_n 2, 1) := by decide +kernel
theorem dX3_isUnder_2 : decode cX3_isUnder 2 = .ok (.iconst 0, 1) := by decide +kernel
theorem dX3_isUnder_3 : decode cX3_isUnder 3 = .ok (.istore_n 3, 1) := by decide +kernel
theorem dX3_isUnder_4 : decode cX3_isUnder 4 = .ok (.iload_n 3, 1) := by decide +kernel
theorem dX3_isUnder_5 : decode cX3_isUnder 5 = .ok (.bipush 7, 2) := by decide +kernel
theorem dX3_isUnder_7 : decode cX3_isUnder 7 = .ok (.if_icmp .ge 30, 3) := by decide +kernel
theorem dX3_isUnder_10 : decode cX3_isUnder 10 = .ok (.iload_n 2, 1) := by decide +kernel
theorem dX3_isUnder_11 : decode cX3_isUnder 11 = .ok (.iload_n 1, 1) := by decide +kernel
theorem dX3_isUnder_12 : decode cX3_isUnder 12 = .ok (.if_icmp .eq 25, 3) := by decide +kernel
theorem dX3_isUnder_15 : decode cX3_isUnder 15 = .ok (.iload_n 2, 1) := by decide +kernel
theorem dX3_isUnder_16 : decode cX3_isUnder 16 = .ok (.ifCond .lt 21, 3) := by decide +kernel
theorem dX3_isUnder_19 : decode cX3_isUnder 19 = .ok (.iload_n 2, 1) := by decide +kernel
theorem dX3_isUnder_20 : decode cX3_isUnder 20 = .ok (.bipush 7, 2) := by decide +kernel
theorem dX3_isUnder_22 : decode cX3_isUnder 22 = .ok (.if_icmp .ge 15, 3) := by decide +kernel
theorem dX3_isUnder_25 : decode cX3_isUnder 25 = .ok (.getstatic 293, 3) := by decide +kernel
theorem dX3_isUnder_28 : decode cX3_isUnder 28 = .ok (.iload_n 2, 1) := by decide +kernel
theorem dX3_isUnder_29 : decode cX3_isUnder 29 = .ok (.iaload, 1) := by decide +kernel
theorem dX3_isUnder_30 : decode cX3_isUnder 30 = .ok (.istore_n 2, 1) := by decide +kernel
theorem dX3_isUnder_31 : decode cX3_isUnder 31 = .ok (.iinc 3 1, 3) := by decide +kernel
theorem dX3_isUnder_34 : decode cX3_isUnder 34 = .ok (.goto (-30), 3) := by decide +kernel
theorem dX3_isUnder_37 : decode cX3_isUnder 37 = .ok (.iload_n 2, 1) := by decide +kernel
theorem dX3_isUnder_38 : decode cX3_isUnder 38 = .ok (.iload_n 1, 1) := by decide +kernel
theorem dX3_isUnder_39 : decode cX3_isUnder 39 = .ok (.if_icmp .ne 7, 3) := by decide +kernel
theorem dX3_isUnder_42 : decode cX3_isUnder 42 = .ok (.iconst 1, 1) := by decide +kernel
theorem dX3_isUnder_43 : decode cX3_isUnder 43 = .ok (.goto 4, 3) := by decide +kernel
theorem dX3_isUnder_46 : decode cX3_isUnder 46 = .ok (.iconst 0, 1) := by decide +kernel
theorem dX3_isUnder_47 : decode cX3_isUnder 47 = .ok (.ireturn, 1) := by decide +kernel
theorem dX3_longestRun_0 : decode cX3_longestRun 0 = .ok (.iconst 0, 1) := by decide +kernel
theorem dX3_longestRun_1 : decode cX3_longestRun 1 = .ok (.istore_n 1, 1) := by decide +kernel
theorem dX3_longestRun_2 : decode cX3_longestRun 2 = .ok (.iconst 0, 1) := by decide +kernel
theorem dX3_longestRun_3 : decode cX3_longestRun 3 = .ok (.istore_n 2, 1) := by decide +kernel
theorem dX3_longestRun_4 : decode cX3_longestRun 4 = .ok (.iconst (-1), 1) := by decide +kernel
theorem dX3_longestRun_5 : decode cX3_longestRun 5 = .ok (.istore_n 3, 1) := by decide +kernel
theorem dX3_longestRun_6 : decode cX3_longestRun 6 = .ok (.iconst 0, 1) := by decide +kernel
theorem dX3_longestRun_7 : decode cX3_longestRun 7 = .ok (.istore 4, 2) := by decide +kernel
theorem dX3_longestRun_9 : decode cX3_longestRun 9 = .ok (.iload 4, 2) := by decide +kernel
theorem dX3_longestRun_11 : decode cX3_longestRun 11 = .ok (.bipush 12, 2) := by decide +kernel
theorem dX3_longestRun_13 : decode cX3_longestRun 13 = .ok (.if_icmp .ge 48, 3) := by decide +kernel
theorem dX3_longestRun_16 : decode cX3_longestRun 16 = .ok (.iload_n 0, 1) := by decide +kernel
theorem dX3_longestRun_17 : decode cX3_longestRun 17 = .ok (.i2l, 1) := by decide +kernel
theorem dX3_longestRun_18 : decode cX3_longestRun 18 = .ok (.iload 4, 2) := by decide +kernel
theorem dX3_longestRun_20 : decode cX3_longestRun 20 = .ok (.invokestatic 168, 3) := by decide +kernel
theorem dX3_longestRun_23 : decode cX3_longestRun 23 = .ok (.ifCond .eq 32, 3) := by decide +kernel
theorem dX3_longestRun_26 : decode cX3_longestRun 26 = .ok (.iload_n 2, 1) := by decide +kernel
theorem dX3_longestRun_27 : decode cX3_longestRun 27 = .ok (.ifCond .le 17, 3) := by decide +kernel
theorem dX3_longestRun_30 : decode cX3_longestRun 30 = .ok (.iload 4, 2) := by decide +kernel
theorem dX3_longestRun_32 : decode cX3_longestRun 32 = .ok (.iload_n 3, 1) := by decide +kernel
theorem dX3_longestRun_33 : decode cX3_longestRun 33 = .ok (.isub, 1) := by decide +kernel
theorem dX3_longestRun_34 : decode cX3_longestRun 34 = .ok (.iconst 2, 1) := by decide +kernel
theorem dX3_longestRun_35 : decode cX3_longestRun 35 = .ok (.if_icmp .gt 9, 3) := by decide +kernel
theorem dX3_longestRun_38 : decode cX3_longestRun 38 = .ok (.iload_n 2, 1) := by decide +kernel
theorem dX3_longestRun_39 : decode cX3_longestRun 39 = .ok (.iconst 1, 1) := by decide +kernel
theorem dX3_longestRun_40 : decode cX3_longestRun 40 = .ok (.iadd, 1) := by decide +kernel
theorem dX3_longestRun_41 : decode cX3_longestRun 41 = .ok (.goto 4, 3) := by decide +kernel
theorem dX3_longestRun_44 : decode cX3_longestRun 44 = .ok (.iconst 1, 1) := by decide +kernel
theorem dX3_longestRun_45 : decode cX3_longestRun 45 = .ok (.istore_n 2, 1) := by decide +kernel
theorem dX3_longestRun_46 : decode cX3_longestRun 46 = .ok (.iload 4, 2) := by decide +kernel
theorem dX3_longestRun_48 : decode cX3_longestRun 48 = .ok (.istore_n 3, 1) := by decide +kernel
theorem dX3_longestRun_49 : decode cX3_longestRun 49 = .ok (.iload_n 1, 1) := by decide +kernel
theorem dX3_longestRun_50 : decode cX3_longestRun 50 = .ok (.iload_n 2, 1) := by decide +kernel
theorem dX3_longestRun_51 : decode cX3_longestRun 51 = .ok (.invokestatic 285, 3) := by decide +kernel
theorem dX3_longestRun_54 : decode cX3_longestRun 54 = .ok (.istore_n 1, 1) := by decide +kernel
theorem dX3_longestRun_55 : decode cX3_longestRun 55 = .ok (.iinc 4 1, 3) := by decide +kernel
theorem dX3_longestRun_58 : decode cX3_longestRun 58 = .ok (.goto (-49), 3) := by decide +kernel
theorem dX3_longestRun_61 : decode cX3_longestRun 61 = .ok (.iload_n 1, 1) := by decide +kernel
theorem dX3_longestRun_62 : decode cX3_longestRun 62 = .ok (.ireturn, 1) := by decide +kernel
theorem dJ6_bitCount_0f7a4_0 : decode cJ6_bitCount_0f7a4 0 = .ok (.iload_n 0, 1) := by decide +kernel
theorem dJ6_bitCount_0f7a4_1 : decode cJ6_bitCount_0f7a4 1 = .ok (.iload_n 0, 1) := by decide +kernel
theorem dJ6_bitCount_0f7a4_2 : decode cJ6_bitCount_0f7a4 2 = .ok (.iconst 1, 1) := by decide +kernel
theorem dJ6_bitCount_0f7a4_3 : decode cJ6_bitCount_0f7a4 3 = .ok (.iushr, 1) := by decide +kernel
theorem dJ6_bitCount_0f7a4_4 : decode cJ6_bitCount_0f7a4 4 = .ok (.ldc_w 265, 3) := by decide +kernel
theorem dJ6_bitCount_0f7a4_7 : decode cJ6_bitCount_0f7a4 7 = .ok (.iand, 1) := by decide +kernel
theorem dJ6_bitCount_0f7a4_8 : decode cJ6_bitCount_0f7a4 8 = .ok (.isub, 1) := by decide +kernel
theorem dJ6_bitCount_0f7a4_9 : decode cJ6_bitCount_0f7a4 9 = .ok (.istore_n 0, 1) := by decide +kernel
theorem dJ6_bitCount_0f7a4_10 : decode cJ6_bitCount_0f7a4 10 = .ok (.iload_n 0, 1) := by decide +kernel
theorem dJ6_bitCount_0f7a4_11 : decode cJ6_bitCount_0f7a4 11 = .ok (.ldc_w 266, 3) := by decide +kernel
theorem dJ6_bitCount_0f7a4_14 : decode cJ6_bitCount_0f7a4 14 = .ok (.iand, 1) := by decide +kernel
theorem dJ6_bitCount_0f7a4_15 : decode cJ6_bitCount_0f7a4 15 = .ok (.iload_n 0, 1) := by decide +kernel
theorem dJ6_bitCount_0f7a4_16 : decode cJ6_bitCount_0f7a4 16 = .ok (.iconst 2, 1) := by decide +kernel
theorem dJ6_bitCount_0f7a4_17 : decode cJ6_bitCount_0f7a4 17 = .ok (.iushr, 1) := by decide +kernel
theorem dJ6_bitCount_0f7a4_18 : decode cJ6_bitCount_0f7a4 18 = .ok (.ldc_w 266, 3) := by decide +kernel
theorem dJ6_bitCount_0f7a4_21 : decode cJ6_bitCount_0f7a4 21 = .ok (.iand, 1) := by decide +kernel
theorem dJ6_bitCount_0f7a4_22 : decode cJ6_bitCount_0f7a4 22 = .ok (.iadd, 1) := by decide +kernel
theorem dJ6_bitCount_0f7a4_23 : decode cJ6_bitCount_0f7a4 23 = .ok (.istore_n 0, 1) := by decide +kernel
theorem dJ6_bitCount_0f7a4_24 : decode cJ6_bitCount_0f7a4 24 = .ok (.iload_n 0, 1) := by decide +kernel
theorem dJ6_bitCount_0f7a4_25 : decode cJ6_bitCount_0f7a4 25 = .ok (.iload_n 0, 1) := by decide +kernel
theorem dJ6_bitCount_0f7a4_26 : decode cJ6_bitCount_0f7a4 26 = .ok (.iconst 4, 1) := by decide +kernel
theorem dJ6_bitCount_0f7a4_27 : decode cJ6_bitCount_0f7a4 27 = .ok (.iushr, 1) := by decide +kernel
theorem dJ6_bitCount_0f7a4_28 : decode cJ6_bitCount_0f7a4 28 = .ok (.iadd, 1) := by decide +kernel
theorem dJ6_bitCount_0f7a4_29 : decode cJ6_bitCount_0f7a4 29 = .ok (.ldc_w 267, 3) := by decide +kernel
theorem dJ6_bitCount_0f7a4_32 : decode cJ6_bitCount_0f7a4 32 = .ok (.iand, 1) := by decide +kernel
theorem dJ6_bitCount_0f7a4_33 : decode cJ6_bitCount_0f7a4 33 = .ok (.istore_n 0, 1) := by decide +kernel
theorem dJ6_bitCount_0f7a4_34 : decode cJ6_bitCount_0f7a4 34 = .ok (.iload_n 0, 1) := by decide +kernel
theorem dJ6_bitCount_0f7a4_35 : decode cJ6_bitCount_0f7a4 35 = .ok (.iload_n 0, 1) := by decide +kernel
theorem dJ6_bitCount_0f7a4_36 : decode cJ6_bitCount_0f7a4 36 = .ok (.bipush 8, 2) := by decide +kernel
theorem dJ6_bitCount_0f7a4_38 : decode cJ6_bitCount_0f7a4 38 = .ok (.iushr, 1) := by decide +kernel
theorem dJ6_bitCount_0f7a4_39 : decode cJ6_bitCount_0f7a4 39 = .ok (.iadd, 1) := by decide +kernel
theorem dJ6_bitCount_0f7a4_40 : decode cJ6_bitCount_0f7a4 40 = .ok (.istore_n 0, 1) := by decide +kernel
theorem dJ6_bitCount_0f7a4_41 : decode cJ6_bitCount_0f7a4 41 = .ok (.iload_n 0, 1) := by decide +kernel
theorem dJ6_bitCount_0f7a4_42 : decode cJ6_bitCount_0f7a4 42 = .ok (.iload_n 0, 1) := by decide +kernel
theorem dJ6_bitCount_0f7a4_43 : decode cJ6_bitCount_0f7a4 43 = .ok (.bipush 16, 2) := by decide +kernel
theorem dJ6_bitCount_0f7a4_45 : decode cJ6_bitCount_0f7a4 45 = .ok (.iushr, 1) := by decide +kernel
theorem dJ6_bitCount_0f7a4_46 : decode cJ6_bitCount_0f7a4 46 = .ok (.iadd, 1) := by decide +kernel
theorem dJ6_bitCount_0f7a4_47 : decode cJ6_bitCount_0f7a4 47 = .ok (.istore_n 0, 1) := by decide +kernel
theorem dJ6_bitCount_0f7a4_48 : decode cJ6_bitCount_0f7a4 48 = .ok (.iload_n 0, 1) := by decide +kernel
theorem dJ6_bitCount_0f7a4_49 : decode cJ6_bitCount_0f7a4 49 = .ok (.bipush 63, 2) := by decide +kernel
theorem dJ6_bitCount_0f7a4_51 : decode cJ6_bitCount_0f7a4 51 = .ok (.iand, 1) := by decide +kernel
theorem dJ6_bitCount_0f7a4_52 : decode cJ6_bitCount_0f7a4 52 = .ok (.ireturn, 1) := by decide +kernel
theorem dJ13_bitCount_95d88_0 : decode cJ13_bitCount_95d88 0 = .ok (.lload_n 0, 1) := by decide +kernel
theorem dJ13_bitCount_95d88_1 : decode cJ13_bitCount_95d88 1 = .ok (.lload_n 0, 1) := by decide +kernel
theorem dJ13_bitCount_95d88_2 : decode cJ13_bitCount_95d88 2 = .ok (.iconst 1, 1) := by decide +kernel
theorem dJ13_bitCount_95d88_3 : decode cJ13_bitCount_95d88 3 = .ok (.lushr, 1) := by decide +kernel
theorem dJ13_bitCount_95d88_4 : decode cJ13_bitCount_95d88 4 = .ok (.ldc2_w 314, 3) := by decide +kernel
theorem dJ13_bitCount_95d88_7 : decode cJ13_bitCount_95d88 7 = .ok (.land, 1) := by decide +kernel
theorem dJ13_bitCount_95d88_8 : decode cJ13_bitCount_95d88 8 = .ok (.lsub, 1) := by decide +kernel
theorem dJ13_bitCount_95d88_9 : decode cJ13_bitCount_95d88 9 = .ok (.lstore_n 0, 1) := by decide +kernel
theorem dJ13_bitCount_95d88_10 : decode cJ13_bitCount_95d88 10 = .ok (.lload_n 0, 1) := by decide +kernel
theorem dJ13_bitCount_95d88_11 : decode cJ13_bitCount_95d88 11 = .ok (.ldc2_w 316, 3) := by decide +kernel
theorem dJ13_bitCount_95d88_14 : decode cJ13_bitCount_95d88 14 = .ok (.land, 1) := by decide +kernel
theorem dJ13_bitCount_95d88_15 : decode cJ13_bitCount_95d88 15 = .ok (.lload_n 0, 1) := by decide +kernel
theorem dJ13_bitCount_95d88_16 : decode cJ13_bitCount_95d88 16 = .ok (.iconst 2, 1) := by decide +kernel
theorem dJ13_bitCount_95d88_17 : decode cJ13_bitCount_95d88 17 = .ok (.lushr, 1) := by decide +kernel
theorem dJ13_bitCount_95d88_18 : decode cJ13_bitCount_95d88 18 = .ok (.ldc2_w 316, 3) := by decide +kernel
theorem dJ13_bitCount_95d88_21 : decode cJ13_bitCount_95d88 21 = .ok (.land, 1) := by decide +kernel
theorem dJ13_bitCount_95d88_22 : decode cJ13_bitCount_95d88 22 = .ok (.ladd, 1) := by decide +kernel
theorem dJ13_bitCount_95d88_23 : decode cJ13_bitCount_95d88 23 = .ok (.lstore_n 0, 1) := by decide +kernel
theorem dJ13_bitCount_95d88_24 : decode cJ13_bitCount_95d88 24 = .ok (.lload_n 0, 1) := by decide +kernel
theorem dJ13_bitCount_95d88_25 : decode cJ13_bitCount_95d88 25 = .ok (.lload_n 0, 1) := by decide +kernel
theorem dJ13_bitCount_95d88_26 : decode cJ13_bitCount_95d88 26 = .ok (.iconst 4, 1) := by decide +kernel
theorem dJ13_bitCount_95d88_27 : decode cJ13_bitCount_95d88 27 = .ok (.lushr, 1) := by decide +kernel
theorem dJ13_bitCount_95d88_28 : decode cJ13_bitCount_95d88 28 = .ok (.ladd, 1) := by decide +kernel
theorem dJ13_bitCount_95d88_29 : decode cJ13_bitCount_95d88 29 = .ok (.ldc2_w 318, 3) := by decide +kernel
theorem dJ13_bitCount_95d88_32 : decode cJ13_bitCount_95d88 32 = .ok (.land, 1) := by decide +kernel
theorem dJ13_bitCount_95d88_33 : decode cJ13_bitCount_95d88 33 = .ok (.lstore_n 0, 1) := by decide +kernel
theorem dJ13_bitCount_95d88_34 : decode cJ13_bitCount_95d88 34 = .ok (.lload_n 0, 1) := by decide +kernel
theorem dJ13_bitCount_95d88_35 : decode cJ13_bitCount_95d88 35 = .ok (.lload_n 0, 1) := by decide +kernel
theorem dJ13_bitCount_95d88_36 : decode cJ13_bitCount_95d88 36 = .ok (.bipush 8, 2) := by decide +kernel
theorem dJ13_bitCount_95d88_38 : decode cJ13_bitCount_95d88 38 = .ok (.lushr, 1) := by decide +kernel
theorem dJ13_bitCount_95d88_39 : decode cJ13_bitCount_95d88 39 = .ok (.ladd, 1) := by decide +kernel
theorem dJ13_bitCount_95d88_40 : decode cJ13_bitCount_95d88 40 = .ok (.lstore_n 0, 1) := by decide +kernel
theorem dJ13_bitCount_95d88_41 : decode cJ13_bitCount_95d88 41 = .ok (.lload_n 0, 1) := by decide +kernel
theorem dJ13_bitCount_95d88_42 : decode cJ13_bitCount_95d88 42 = .ok (.lload_n 0, 1) := by decide +kernel
theorem dJ13_bitCount_95d88_43 : decode cJ13_bitCount_95d88 43 = .ok (.bipush 16, 2) := by decide +kernel
theorem dJ13_bitCount_95d88_45 : decode cJ13_bitCount_95d88 45 = .ok (.lushr, 1) := by decide +kernel
theorem dJ13_bitCount_95d88_46 : decode cJ13_bitCount_95d88 46 = .ok (.ladd, 1) := by decide +kernel
theorem dJ13_bitCount_95d88_47 : decode cJ13_bitCount_95d88 47 = .ok (.lstore_n 0, 1) := by decide +kernel
theorem dJ13_bitCount_95d88_48 : decode cJ13_bitCount_95d88 48 = .ok (.lload_n 0, 1) := by decide +kernel
theorem dJ13_bitCount_95d88_49 : decode cJ13_bitCount_95d88 49 = .ok (.lload_n 0, 1) := by decide +kernel
theorem dJ13_bitCount_95d88_50 : decode cJ13_bitCount_95d88 50 = .ok (.bipush 32, 2) := by decide +kernel
theorem dJ13_bitCount_95d88_52 : decode cJ13_bitCount_95d88 52 = .ok (.lushr, 1) := by decide +kernel
theorem dJ13_bitCount_95d88_53 : decode cJ13_bitCount_95d88 53 = .ok (.ladd, 1) := by decide +kernel
theorem dJ13_bitCount_95d88_54 : decode cJ13_bitCount_95d88 54 = .ok (.lstore_n 0, 1) := by decide +kernel
theorem dJ13_bitCount_95d88_55 : decode cJ13_bitCount_95d88 55 = .ok (.lload_n 0, 1) := by decide +kernel
theorem dJ13_bitCount_95d88_56 : decode cJ13_bitCount_95d88 56 = .ok (.l2i, 1) := by decide +kernel
theorem dJ13_bitCount_95d88_57 : decode cJ13_bitCount_95d88 57 = .ok (.bipush 127, 2) := by decide +kernel
theorem dJ13_bitCount_95d88_59 : decode cJ13_bitCount_95d88 59 = .ok (.iand, 1) := by decide +kernel
theorem dJ13_bitCount_95d88_60 : decode cJ13_bitCount_95d88 60 = .ok (.ireturn, 1) := by decide +kernel
theorem dJ0_length_8abf5_0 : decode cJ0_length_8abf5 0 = .ok (.aload_n 0, 1) := by decide +kernel
theorem dJ0_length_8abf5_1 : decode cJ0_length_8abf5 1 = .ok (.getfield 9, 3) := by decide +kernel
theorem dJ0_length_8abf5_4 : decode cJ0_length_8abf5 4 = .ok (.arraylength, 1) := by decide +kernel
theorem dJ0_length_8abf5_5 : decode cJ0_length_8abf5 5 = .ok (.aload_n 0, 1) := by decide +kernel
theorem dJ0_length_8abf5_6 : decode cJ0_length_8abf5 6 = .ok (.invokevirtual 335, 3) := by decide +kernel
theorem dJ0_length_8abf5_9 : decode cJ0_length_8abf5 9 = .ok (.ishr, 1) := by decide +kernel
theorem dJ0_length_8abf5_10 : decode cJ0_length_8abf5 10 = .ok (.ireturn, 1) := by decide +kernel
theorem dJ0_charAt_5068e_0 : decode cJ0_charAt_5068e 0 = .ok (.aload_n 0, 1) := by decide +kernel
theorem dJ0_charAt_5068e_1 : decode cJ0_charAt_5068e 1 = .ok (.invokevirtual 492, 3) := by decide +kernel
theorem dJ0_charAt_5068e_4 : decode cJ0_charAt_5068e 4 = .ok (.ifCond .eq 12, 3) := by decide +kernel
theorem dJ0_charAt_5068e_7 : decode cJ0_charAt_5068e 7 = .ok (.aload_n 0, 1) := by decide +kernel
theorem dJ0_charAt_5068e_8 : decode cJ0_charAt_5068e 8 = .ok (.getfield 9, 3) := by decide +kernel
theorem dJ0_charAt_5068e_11 : decode cJ0_charAt_5068e 11 = .ok (.iload_n 1, 1) := by decide +kernel
theorem dJ0_charAt_5068e_12 : decode cJ0_charAt_5068e 12 = .ok (.invokestatic 495, 3) := by decide +kernel
theorem dJ0_charAt_5068e_15 : decode cJ0_charAt_5068e 15 = .ok (.ireturn, 1) := by decide +kernel
theorem dJ0_charAt_5068e_16 : decode cJ0_charAt_5068e 16 = .ok (.aload_n 0, 1) := by decide +kernel
theorem dJ0_charAt_5068e_17 : decode cJ0_charAt_5068e 17 = .ok (.getfield 9, 3) := by decide +kernel
theorem dJ0_charAt_5068e_20 : decode cJ0_charAt_5068e 20 = .ok (.iload_n 1, 1) := by decide +kernel
theorem dJ0_charAt_5068e_21 : decode cJ0_charAt_5068e 21 = .ok (.invokestatic 498, 3) := by decide +kernel
theorem dJ0_charAt_5068e_24 : decode cJ0_charAt_5068e 24 = .ok (.ireturn, 1) := by decide +kernel
theorem dJ0_coder_7d493_0 : decode cJ0_coder_7d493 0 = .ok (.getstatic 38, 3) := by decide +kernel
theorem dJ0_coder_7d493_3 : decode cJ0_coder_7d493 3 = .ok (.ifCond .eq 10, 3) := by decide +kernel
theorem dJ0_coder_7d493_6 : decode cJ0_coder_7d493 6 = .ok (.aload_n 0, 1) := by decide +kernel
theorem dJ0_coder_7d493_7 : decode cJ0_coder_7d493 7 = .ok (.getfield 15, 3) := by decide +kernel
theorem dJ0_coder_7d493_10 : decode cJ0_coder_7d493 10 = .ok (.goto 4, 3) := by decide +kernel
theorem dJ0_coder_7d493_13 : decode cJ0_coder_7d493 13 = .ok (.iconst 1, 1) := by decide +kernel
theorem dJ0_coder_7d493_14 : decode cJ0_coder_7d493 14 = .ok (.ireturn, 1) := by decide +kernel
theorem dJ0_isLatin1_aae02_0 : decode cJ0_isLatin1_aae02 0 = .ok (.getstatic 38, 3) := by decide +kernel
theorem dJ0_isLatin1_aae02_3 : decode cJ0_isLatin1_aae02 3 = .ok (.ifCond .eq 14, 3) := by decide +kernel
theorem dJ0_isLatin1_aae02_6 : decode cJ0_isLatin1_aae02 6 = .ok (.aload_n 0, 1) := by decide +kernel
theorem dJ0_isLatin1_aae02_7 : decode cJ0_isLatin1_aae02 7 = .ok (.getfield 15, 3) := by decide +kernel
theorem dJ0_isLatin1_aae02_10 : decode cJ0_isLatin1_aae02 10 = .ok (.ifCond .ne 7, 3) := by decide +kernel
theorem dJ0_isLatin1_aae02_13 : decode cJ0_isLatin1_aae02 13 = .ok (.iconst 1, 1) := by decide +kernel
theorem dJ0_isLatin1_aae02_14 : decode cJ0_isLatin1_aae02 14 = .ok (.goto 4, 3) := by decide +kernel
theorem dJ0_isLatin1_aae02_17 : decode cJ0_isLatin1_aae02 17 = .ok (.iconst 0, 1) := by decide +kernel
theorem dJ0_isLatin1_aae02_18 : decode cJ0_isLatin1_aae02 18 = .ok (.ireturn, 1) := by decide +kernel
theorem dJ0_checkIndex_df160_0 : decode cJ0_checkIndex_df160 0 = .ok (.iload_n 0, 1) := by decide +kernel
theorem dJ0_checkIndex_df160_1 : decode cJ0_checkIndex_df160 1 = .ok (.iload_n 1, 1) := by decide +kernel
theorem dJ0_checkIndex_df160_2 : decode cJ0_checkIndex_df160 2 = .ok (.getstatic 1053, 3) := by decide +kernel
theorem dJ0_checkIndex_df160_5 : decode cJ0_checkIndex_df160 5 = .ok (.invokestatic 1059, 3) := by decide +kernel
theorem dJ0_checkIndex_df160_8 : decode cJ0_checkIndex_df160 8 = .ok (.pop, 1) := by decide +kernel
theorem dJ0_checkIndex_df160_9 : decode cJ0_checkIndex_df160 9 = .ok (.return_, 1) := by decide +kernel
theorem dJ1_charAt_3b067_0 : decode cJ1_charAt_3b067 0 = .ok (.iload_n 1, 1) := by decide +kernel
theorem dJ1_charAt_3b067_1 : decode cJ1_charAt_3b067 1 = .ok (.aload_n 0, 1) := by decide +kernel
theorem dJ1_charAt_3b067_2 : decode cJ1_charAt_3b067 2 = .ok (.arraylength, 1) := by decide +kernel
theorem dJ1_charAt_3b067_3 : decode cJ1_charAt_3b067 3 = .ok (.invokestatic 9, 3) := by decide +kernel
theorem dJ1_charAt_3b067_6 : decode cJ1_charAt_3b067 6 = .ok (.aload_n 0, 1) := by decide +kernel
theorem dJ1_charAt_3b067_7 : decode cJ1_charAt_3b067 7 = .ok (.iload_n 1, 1) := by decide +kernel
theorem dJ1_charAt_3b067_8 : decode cJ1_charAt_3b067 8 = .ok (.baload, 1) := by decide +kernel
theorem dJ1_charAt_3b067_9 : decode cJ1_charAt_3b067 9 = .ok (.sipush 255, 3) := by decide +kernel
theorem dJ1_charAt_3b067_12 : decode cJ1_charAt_3b067 12 = .ok (.iand, 1) := by decide +kernel
theorem dJ1_charAt_3b067_13 : decode cJ1_charAt_3b067 13 = .ok (.i2c, 1) := by decide +kernel
theorem dJ1_charAt_3b067_14 : decode cJ1_charAt_3b067 14 = .ok (.ireturn, 1) := by decide +kernel
theorem dJ3_checkIndex_8e157_0 : decode cJ3_checkIndex_8e157 0 = .ok (.iload_n 0, 1) := by decide +kernel
theorem dJ3_checkIndex_8e157_1 : decode cJ3_checkIndex_8e157 1 = .ok (.ifCond .lt 8, 3) := by decide +kernel
theorem dJ3_checkIndex_8e157_4 : decode cJ3_checkIndex_8e157 4 = .ok (.iload_n 0, 1) := by decide +kernel
theorem dJ3_checkIndex_8e157_5 : decode cJ3_checkIndex_8e157 5 = .ok (.iload_n 1, 1) := by decide +kernel
theorem dJ3_checkIndex_8e157_6 : decode cJ3_checkIndex_8e157 6 = .ok (.if_icmp .lt 10, 3) := by decide +kernel
theorem dJ3_checkIndex_8e157_9 : decode cJ3_checkIndex_8e157 9 = .ok (.aload_n 2, 1) := by decide +kernel
theorem dJ3_checkIndex_8e157_10 : decode cJ3_checkIndex_8e157 10 = .ok (.iload_n 0, 1) := by decide +kernel
theorem dJ3_checkIndex_8e157_11 : decode cJ3_checkIndex_8e157 11 = .ok (.iload_n 1, 1) := by decide +kernel
theorem dJ3_checkIndex_8e157_12 : decode cJ3_checkIndex_8e157 12 = .ok (.invokestatic 95, 3) := by decide +kernel
theorem dJ3_checkIndex_8e157_15 : decode cJ3_checkIndex_8e157 15 = .ok (.athrow, 1) := by decide +kernel
theorem dJ3_checkIndex_8e157_16 : decode cJ3_checkIndex_8e157 16 = .ok (.iload_n 0, 1) := by decide +kernel
theorem dJ3_checkIndex_8e157_17 : decode cJ3_checkIndex_8e157 17 = .ok (.ireturn, 1) := by decide +kernel
end
section
theorem dX4_init_0 : decode cX4_init 0 = .ok (.aload_n 0, 1) := by decide +kernel
theorem dX4_init_1 : decode cX4_init 1 = .ok (.invokespecial 1, 3) := by decide +kernel
theorem dX4_init_4 : decode cX4_init 4 = .ok (.aload_n 0, 1) := by decide +kernel
theorem dX4_init_5 : decode cX4_init 5 = .ok (.sipush 186, 3) := by decide +kernel
theorem dX4_init_8 : decode cX4_init 8 = .ok (.newarray .int, 2) := by decide +kernel
theorem dX4_init_10 : decode cX4_init 10 = .ok (.putfield 9, 3) := by decide +kernel
theorem dX4_init_13 : decode cX4_init 13 = .ok (.aload_n 0, 1) := by decide +kernel
theorem dX4_init_14 : decode cX4_init 14 = .ok (.sipush 186, 3) := by decide +kernel
theorem dX4_init_17 : decode cX4_init 17 = .ok (.newarray .int, 2) := by decide +kernel
theorem dX4_init_19 : decode cX4_init 19 = .ok (.putfield 13, 3) := by decide +kernel
theorem dX4_init_22 : decode cX4_init 22 = .ok (.aload_n 0, 1) := by decide +kernel
theorem dX4_init_23 : decode cX4_init 23 = .ok (.sipush 186, 3) := by decide +kernel
theorem dX4_init_26 : decode cX4_init 26 = .ok (.newarray .int, 2) := by decide +kernel
theorem dX4_init_28 : decode cX4_init 28 = .ok (.putfield 16, 3) := by decide +kernel
theorem dX4_init_31 : decode cX4_init 31 = .ok (.aload_n 0, 1) := by decide +kernel
theorem dX4_init_32 : decode cX4_init 32 = .ok (.bipush 8, 2) := by decide +kernel
theorem dX4_init_34 : decode cX4_init 34 = .ok (.newarray .int, 2) := by decide +kernel
theorem dX4_init_36 : decode cX4_init 36 = .ok (.putfield 19, 3) := by decide +kernel
theorem dX4_init_39 : decode cX4_init 39 = .ok (.aload_n 0, 1) := by decide +kernel
theorem dX4_init_40 : decode cX4_init 40 = .ok (.iconst 4, 1) := by decide +kernel
theorem dX4_init_41 : decode cX4_init 41 = .ok (.newarray .int, 2) := by decide +kernel
theorem dX4_init_43 : decode cX4_init 43 = .ok (.dup, 1) := by decide +kernel
theorem dX4_init_44 : decode cX4_init 44 = .ok (.iconst 0, 1) := by decide +kernel
theorem dX4_init_45 : decode cX4_init 45 = .ok (.iconst (-1), 1) := by decide +kernel
theorem dX4_init_46 : decode cX4_init 46 = .ok (.iastore, 1) := by decide +kernel
theorem dX4_init_47 : decode cX4_init 47 = .ok (.dup, 1) := by decide +kernel
theorem dX4_init_48 : decode cX4_init 48 = .ok (.iconst 1, 1) := by decide +kernel
theorem dX4_init_49 : decode cX4_init 49 = .ok (.iconst 0, 1) := by decide +kernel
theorem dX4_init_50 : decode cX4_init 50 = .ok (.iastore, 1) := by decide +kernel
theorem dX4_init_51 : decode cX4_init 51 = .ok (.dup, 1) := by decide +kernel
theorem dX4_init_52 : decode cX4_init 52 = .ok (.iconst 2, 1) := by decide +kernel
theorem dX4_init_53 : decode cX4_init 53 = .ok (.iconst 1, 1) := by decide +kernel
theorem dX4_init_54 : decode cX4_init 54 = .ok (.iastore, 1) := by decide +kernel
theorem dX4_init_55 : decode cX4_init 55 = .ok (.dup, 1) := by decide +kernel
theorem dX4_init_56 : decode cX4_init 56 = .ok (.iconst 3, 1) := by decide +kernel
theorem dX4_init_57 : decode cX4_init 57 = .ok (.iconst 0, 1) := by decide +kernel
theorem dX4_init_58 : decode cX4_init 58 = .ok (.iastore, 1) := by decide +kernel
theorem dX4_init_59 : decode cX4_init 59 = .ok (.putfield 22, 3) := by decide +kernel
theorem dX4_init_62 : decode cX4_init 62 = .ok (.aload_n 0, 1) := by decide +kernel
theorem dX4_init_63 : decode cX4_init 63 = .ok (.iconst 4, 1) := by decide +kernel
theorem dX4_init_64 : decode cX4_init 64 = .ok (.newarray .int, 2) := by decide +kernel
theorem dX4_init_66 : decode cX4_init 66 = .ok (.dup, 1) := by decide +kernel
theorem dX4_init_67 : decode cX4_init 67 = .ok (.iconst 0, 1) := by decide +kernel
theorem dX4_init_68 : decode cX4_init 68 = .ok (.iconst 0, 1) := by decide +kernel
theorem dX4_init_69 : decode cX4_init 69 = .ok (.iastore, 1) := by decide +kernel
theorem dX4_init_70 : decode cX4_init 70 = .ok (.dup, 1) := by decide +kernel
theorem dX4_init_71 : decode cX4_init 71 = .ok (.iconst 1, 1) := by decide +kernel
theorem dX4_init_72 : decode cX4_init 72 = .ok (.iconst 1, 1) := by decide +kernel
theorem dX4_init_73 : decode cX4_init 73 = .ok (.iastore, 1) := by decide +kernel
theorem dX4_init_74 : decode cX4_init 74 = .ok (.dup, 1) := by decide +kernel
theorem dX4_init_75 : decode cX4_init 75 = .ok (.iconst 2, 1) := by decide +kernel
theorem dX4_init_76 : decode cX4_init 76 = .ok (.iconst 0, 1) := by decide +kernel
theorem dX4_init_77 : decode cX4_init 77 = .ok (.iastore, 1) := by decide +kernel
theorem dX4_init_78 : decode cX4_init 78 = .ok (.dup, 1) := by decide +kernel
theorem dX4_init_79 : decode cX4_init 79 = .ok (.iconst 3, 1) := by decide +kernel
theorem dX4_init_80 : decode cX4_init 80 = .ok (.iconst (-1), 1) := by decide +kernel
theorem dX4_init_81 : decode cX4_init 81 = .ok (.iastore, 1) := by decide +kernel
theorem dX4_init_82 : decode cX4_init 82 = .ok (.putfield 25, 3) := by decide +kernel
theorem dX4_init_85 : decode cX4_init 85 = .ok (.aload_n 0, 1) := by decide +kernel
theorem dX4_init_86 : decode cX4_init 86 = .ok (.bipush 100, 2) := by decide +kernel
theorem dX4_init_88 : decode cX4_init 88 = .ok (.newarray .int, 2) := by decide +kernel
theorem dX4_init_90 : decode cX4_init 90 = .ok (.putfield 28, 3) := by decide +kernel
theorem dX4_init_93 : decode cX4_init 93 = .ok (.aload_n 0, 1) := by decide +kernel
theorem dX4_init_94 : decode cX4_init 94 = .ok (.bipush 120, 2) := by decide +kernel
theorem dX4_init_96 : decode cX4_init 96 = .ok (.newarray .int, 2) := by decide +kernel
theorem dX4_init_98 : decode cX4_init 98 = .ok (.putfield 31, 3) := by decide +kernel
theorem dX4_init_101 : decode cX4_init 101 = .ok (.aload_n 0, 1) := by decide +kernel
theorem dX4_init_102 : decode cX4_init 102 = .ok (.bipush 7, 2) := by decide +kernel
theorem dX4_init_104 : decode cX4_init 104 = .ok (.anewarray 34, 3) := by decide +kernel
theorem dX4_init_107 : decode cX4_init 107 = .ok (.dup, 1) := by decide +kernel
theorem dX4_init_108 : decode cX4_init 108 = .ok (.iconst 0, 1) := by decide +kernel
theorem dX4_init_109 : decode cX4_init 109 = .ok (.ldc 36, 2) := by decide +kernel
theorem dX4_init_111 : decode cX4_init 111 = .ok (.aastore, 1) := by decide +kernel
theorem dX4_init_112 : decode cX4_init 112 = .ok (.dup, 1) := by decide +kernel
theorem dX4_init_113 : decode cX4_init 113 = .ok (.iconst 1, 1) := by decide +kernel
theorem dX4_init_114 : decode cX4_init 114 = .ok (.ldc 38, 2) := by decide +kernel
theorem dX4_init_116 : decode cX4_init 116 = .ok (.aastore, 1) := by decide +kernel
theorem dX4_init_117 : decode cX4_init 117 = .ok (.dup, 1) := by decide +kernel
theorem dX4_init_118 : decode cX4_init 118 = .ok (.iconst 2, 1) := by decide +kernel
theorem dX4_init_119 : decode cX4_init 119 = .ok (.ldc 40, 2) := by decide +kernel
theorem dX4_init_121 : decode cX4_init 121 = .ok (.aastore, 1) := by decide +kernel
theorem dX4_init_122 : decode cX4_init 122 = .ok (.dup, 1) := by decide +kernel
theorem dX4_init_123 : decode cX4_init 123 = .ok (.iconst 3, 1) := by decide +kernel
theorem dX4_init_124 : decode cX4_init 124 = .ok (.ldc 42, 2) := by decide +kernel
theorem dX4_init_126 : decode cX4_init 126 = .ok (.aastore, 1) := by decide +kernel
theorem dX4_init_127 : decode cX4_init 127 = .ok (.dup, 1) := by decide +kernel
theorem dX4_init_128 : decode cX4_init 128 = .ok (.iconst 4, 1) := by decide +kernel
theorem dX4_init_129 : decode cX4_init 129 = .ok (.ldc 44, 2) := by decide +kernel
theorem dX4_init_131 : decode cX4_init 131 = .ok (.aastore, 1) := by decide +kernel
theorem dX4_init_132 : decode cX4_init 132 = .ok (.dup, 1) := by decide +kernel
theorem dX4_init_133 : decode cX4_init 133 = .ok (.iconst 5, 1) := by decide +kernel
theorem dX4_init_134 : decode cX4_init 134 = .ok (.ldc 46, 2) := by decide +kernel
theorem dX4_init_136 : decode cX4_init 136 = .ok (.aastore, 1) := by decide +kernel
theorem dX4_init_137 : decode cX4_init 137 = .ok (.dup, 1) := by decide +kernel
theorem dX4_init_138 : decode cX4_init 138 = .ok (.bipush 6, 2) := by decide +kernel
theorem dX4_init_140 : decode cX4_init 140 = .ok (.ldc 48, 2) := by decide +kernel
theorem dX4_init_142 : decode cX4_init 142 = .ok (.aastore, 1) := by decide +kernel
theorem dX4_init_143 : decode cX4_init 143 = .ok (.putfield 50, 3) := by decide +kernel
theorem dX4_init_146 : decode cX4_init 146 = .ok (.aload_n 0, 1) := by decide +kernel
theorem dX4_init_147 : decode cX4_init 147 = .ok (.sipush 480, 3) := by decide +kernel
theorem dX4_init_150 : decode cX4_init 150 = .ok (.newarray .int, 2) := by decide +kernel
theorem dX4_init_152 : decode cX4_init 152 = .ok (.putfield 54, 3) := by decide +kernel
theorem dX4_init_155 : decode cX4_init 155 = .ok (.aload_n 0, 1) := by decide +kernel
theorem dX4_init_156 : decode cX4_init 156 = .ok (.iconst 4, 1) := by decide +kernel
theorem dX4_init_157 : decode cX4_init 157 = .ok (.newarray .int, 2) := by decide +kernel
theorem dX4_init_159 : decode cX4_init 159 = .ok (.putfield 57, 3) := by decide +kernel
theorem dX4_init_162 : decode cX4_init 162 = .ok (.aload_n 0, 1) := by decide +kernel
theorem dX4_init_163 : decode cX4_init 163 = .ok (.iconst 4, 1) := by decide +kernel
theorem dX4_init_164 : decode cX4_init 164 = .ok (.newarray .int, 2) := by decide +kernel
theorem dX4_init_166 : decode cX4_init 166 = .ok (.putfield 60, 3) := by decide +kernel
theorem dX4_init_169 : decode cX4_init 169 = .ok (.aload_n 0, 1) := by decide +kernel
theorem dX4_init_170 : decode cX4_init 170 = .ok (.sipush 160, 3) := by decide +kernel
theorem dX4_init_173 : decode cX4_init 173 = .ok (.newarray .int, 2) := by decide +kernel
theorem dX4_init_175 : decode cX4_init 175 = .ok (.putfield 63, 3) := by decide +kernel
theorem dX4_init_178 : decode cX4_init 178 = .ok (.aload_n 0, 1) := by decide +kernel
theorem dX4_init_179 : decode cX4_init 179 = .ok (.bipush 40, 2) := by decide +kernel
theorem dX4_init_181 : decode cX4_init 181 = .ok (.newarray .int, 2) := by decide +kernel
theorem dX4_init_183 : decode cX4_init 183 = .ok (.putfield 66, 3) := by decide +kernel
theorem dX4_init_186 : decode cX4_init 186 = .ok (.aload_n 0, 1) := by decide +kernel
theorem dX4_init_187 : decode cX4_init 187 = .ok (.getfield 9, 3) := by decide +kernel
theorem dX4_init_190 : decode cX4_init 190 = .ok (.iconst 1, 1) := by decide +kernel
theorem dX4_init_191 : decode cX4_init 191 = .ok (.iconst 3, 1) := by decide +kernel
theorem dX4_init_192 : decode cX4_init 192 = .ok (.iastore, 1) := by decide +kernel
theorem dX4_init_193 : decode cX4_init 193 = .ok (.aload_n 0, 1) := by decide +kernel
theorem dX4_init_194 : decode cX4_init 194 = .ok (.getfield 9, 3) := by decide +kernel
theorem dX4_init_197 : decode cX4_init 197 = .ok (.iconst 3, 1) := by decide +kernel
theorem dX4_init_198 : decode cX4_init 198 = .ok (.iconst 1, 1) := by decide +kernel
theorem dX4_init_199 : decode cX4_init 199 = .ok (.iastore, 1) := by decide +kernel
theorem dX4_init_200 : decode cX4_init 200 = .ok (.iconst 0, 1) := by decide +kernel
theorem dX4_init_201 : decode cX4_init 201 = .ok (.istore_n 1, 1) := by decide +kernel
theorem dX4_init_202 : decode cX4_init 202 = .ok (.iload_n 1, 1) := by decide +kernel
theorem dX4_init_203 : decode cX4_init 203 = .ok (.bipush 10, 2) := by decide +kernel
theorem dX4_init_205 : decode cX4_init 205 = .ok (.if_icmp .ge 18, 3) := by decide +kernel
theorem dX4_init_208 : decode cX4_init 208 = .ok (.aload_n 0, 1) := by decide +kernel
theorem dX4_init_209 : decode cX4_init 209 = .ok (.getfield 9, 3) := by decide +kernel
theorem dX4_init_212 : decode cX4_init 212 = .ok (.iconst 4, 1) := by decide +kernel
theorem dX4_init_213 : decode cX4_init 213 = .ok (.iload_n 1, 1) := by decide +kernel
theorem dX4_init_214 : decode cX4_init 214 = .ok (.iadd, 1) := by decide +kernel
theorem dX4_init_215 : decode cX4_init 215 = .ok (.iconst (-1), 1) := by decide +kernel
theorem dX4_init_216 : decode cX4_init 216 = .ok (.iastore, 1) := by decide +kernel
theorem dX4_init_217 : decode cX4_init 217 = .ok (.iinc 1 1, 3) := by decide +kernel
theorem dX4_init_220 : decode cX4_init 220 = .ok (.goto (-18), 3) := by decide +kernel
theorem dX4_init_223 : decode cX4_init 223 = .ok (.iconst 0, 1) := by decide +kernel
theorem dX4_init_224 : decode cX4_init 224 = .ok (.istore_n 1, 1) := by decide +kernel
theorem dX4_init_225 : decode cX4_init 225 = .ok (.iload_n 1, 1) := by decide +kernel
theorem dX4_init_226 : decode cX4_init 226 = .ok (.iconst 4, 1) := by decide +kernel
theorem dX4_init_227 : decode cX4_init 227 = .ok (.if_icmp .ge 19, 3) := by decide +kernel
theorem dX4_init_230 : decode cX4_init 230 = .ok (.aload_n 0, 1) := by decide +kernel
theorem dX4_init_231 : decode cX4_init 231 = .ok (.getfield 9, 3) := by decide +kernel
theorem dX4_init_234 : decode cX4_init 234 = .ok (.bipush 14, 2) := by decide +kernel
theorem dX4_init_236 : decode cX4_init 236 = .ok (.iload_n 1, 1) := by decide +kernel
theorem dX4_init_237 : decode cX4_init 237 = .ok (.iadd, 1) := by decide +kernel
theorem dX4_init_238 : decode cX4_init 238 = .ok (.iconst (-1), 1) := by decide +kernel
theorem dX4_init_239 : decode cX4_init 239 = .ok (.iastore, 1) := by decide +kernel
theorem dX4_init_240 : decode cX4_init 240 = .ok (.iinc 1 1, 3) := by decide +kernel
theorem dX4_init_243 : decode cX4_init 243 = .ok (.goto (-18), 3) := by decide +kernel
theorem dX4_init_246 : decode cX4_init 246 = .ok (.return_, 1) := by decide +kernel
theorem dX4_finding_0 : decode cX4_finding 0 = .ok (.aload_n 0, 1) := by decide +kernel
theorem dX4_finding_1 : decode cX4_finding 1 = .ok (.getfield 19, 3) := by decide +kernel
theorem dX4_finding_4 : decode cX4_finding 4 = .ok (.ldc 69, 2) := by decide +kernel
theorem dX4_finding_6 : decode cX4_finding 6 = .ok (.iload_n 1, 1) := by decide +kernel
theorem dX4_finding_7 : decode cX4_finding 7 = .ok (.isub, 1) := by decide +kernel
theorem dX4_finding_8 : decode cX4_finding 8 = .ok (.iconst 1, 1) := by decide +kernel
theorem dX4_finding_9 : decode cX4_finding 9 = .ok (.iadd, 1) := by decide +kernel
theorem dX4_finding_10 : decode cX4_finding 10 = .ok (.dup2, 1) := by decide +kernel
theorem dX4_finding_11 : decode cX4_finding 11 = .ok (.iaload, 1) := by decide +kernel
theorem dX4_finding_12 : decode cX4_finding 12 = .ok (.iconst 1, 1) := by decide +kernel
theorem dX4_finding_13 : decode cX4_finding 13 = .ok (.iadd, 1) := by decide +kernel
theorem dX4_finding_14 : decode cX4_finding 14 = .ok (.iastore, 1) := by decide +kernel
theorem dX4_finding_15 : decode cX4_finding 15 = .ok (.aload_n 0, 1) := by decide +kernel
theorem dX4_finding_16 : decode cX4_finding 16 = .ok (.getfield 19, 3) := by decide +kernel
theorem dX4_finding_19 : decode cX4_finding 19 = .ok (.iconst 0, 1) := by decide +kernel
theorem dX4_finding_20 : decode cX4_finding 20 = .ok (.dup2, 1) := by decide +kernel
theorem dX4_finding_21 : decode cX4_finding 21 = .ok (.iaload, 1) := by decide +kernel
theorem dX4_finding_22 : decode cX4_finding 22 = .ok (.iconst 1, 1) := by decide +kernel
theorem dX4_finding_23 : decode cX4_finding 23 = .ok (.iadd, 1) := by decide +kernel
theorem dX4_finding_24 : decode cX4_finding 24 = .ok (.iastore, 1) := by decide +kernel
theorem dX4_finding_25 : decode cX4_finding 25 = .ok (.iload_n 1, 1) := by decide +kernel
theorem dX4_finding_26 : decode cX4_finding 26 = .ok (.ireturn, 1) := by decide +kernel
theorem dX4_within_0 : decode cX4_within 0 = .ok (.iload_n 0, 1) := by decide +kernel
theorem dX4_within_1 : decode cX4_within 1 = .ok (.iload_n 1, 1) := by decide +kernel
theorem dX4_within_2 : decode cX4_within 2 = .ok (.if_icmp .lt 12, 3) := by decide +kernel
theorem dX4_within_5 : decode cX4_within 5 = .ok (.iload_n 0, 1) := by decide +kernel
theorem dX4_within_6 : decode cX4_within 6 = .ok (.iload_n 2, 1) := by decide +kernel
theorem dX4_within_7 : decode cX4_within 7 = .ok (.if_icmp .gt 7, 3) := by decide +kernel
theorem dX4_within_10 : decode cX4_within 10 = .ok (.iconst 1, 1) := by decide +kernel
theorem dX4_within_11 : decode cX4_within 11 = .ok (.goto 4, 3) := by decide +kernel
theorem dX4_within_14 : decode cX4_within 14 = .ok (.iconst 0, 1) := by decide +kernel
theorem dX4_within_15 : decode cX4_within 15 = .ok (.ireturn, 1) := by decide +kernel
theorem dX4_become_0 : decode cX4_become 0 = .ok (.aload_n 0, 1) := by decide +kernel
theorem dX4_become_1 : decode cX4_become 1 = .ok (.getfield 9, 3) := by decide +kernel
theorem dX4_become_4 : decode cX4_become 4 = .ok (.iload_n 1, 1) := by decide +kernel
theorem dX4_become_5 : decode cX4_become 5 = .ok (.iaload, 1) := by decide +kernel
theorem dX4_become_6 : decode cX4_become 6 = .ok (.istore_n 3, 1) := by decide +kernel
theorem dX4_become_7 : decode cX4_become 7 = .ok (.aload_n 0, 1) := by decide +kernel
theorem dX4_become_8 : decode cX4_become 8 = .ok (.getfield 9, 3) := by decide +kernel
theorem dX4_become_11 : decode cX4_become 11 = .ok (.iload_n 1, 1) := by decide +kernel
theorem dX4_become_12 : decode cX4_become 12 = .ok (.iload_n 2, 1) := by decide +kernel
theorem dX4_become_13 : decode cX4_become 13 = .ok (.iastore, 1) := by decide +kernel
theorem dX4_become_14 : decode cX4_become 14 = .ok (.iload_n 3, 1) := by decide +kernel
theorem dX4_become_15 : decode cX4_become 15 = .ok (.ireturn, 1) := by decide +kernel
theorem dX4_copyRow_0 : decode cX4_copyRow 0 = .ok (.iconst 0, 1) := by decide +kernel
theorem dX4_copyRow_1 : decode cX4_copyRow 1 = .ok (.istore_n 2, 1) := by decide +kernel
theorem dX4_copyRow_2 : decode cX4_copyRow 2 = .ok (.iload_n 2, 1) := by decide +kernel
theorem dX4_copyRow_3 : decode cX4_copyRow 3 = .ok (.sipush 186, 3) := by decide +kernel
theorem dX4_copyRow_6 : decode cX4_copyRow 6 = .ok (.if_icmp .ge 15, 3) := by decide +kernel
theorem dX4_copyRow_9 : decode cX4_copyRow 9 = .ok (.aload_n 1, 1) := by decide +kernel
theorem dX4_copyRow_10 : decode cX4_copyRow 10 = .ok (.iload_n 2, 1) := by decide +kernel
theorem dX4_copyRow_11 : decode cX4_copyRow 11 = .ok (.aload_n 0, 1) := by decide +kernel
theorem dX4_copyRow_12 : decode cX4_copyRow 12 = .ok (.iload_n 2, 1) := by decide +kernel
theorem dX4_copyRow_13 : decode cX4_copyRow 13 = .ok (.iaload, 1) := by decide +kernel
theorem dX4_copyRow_14 : decode cX4_copyRow 14 = .ok (.iastore, 1) := by decide +kernel
theorem dX4_copyRow_15 : decode cX4_copyRow 15 = .ok (.iinc 2 1, 3) := by decide +kernel
theorem dX4_copyRow_18 : decode cX4_copyRow 18 = .ok (.goto (-16), 3) := by decide +kernel
theorem dX4_copyRow_21 : decode cX4_copyRow 21 = .ok (.return_, 1) := by decide +kernel
theorem dX4_putBack_0 : decode cX4_putBack 0 = .ok (.aload_n 0, 1) := by decide +kernel
theorem dX4_putBack_1 : decode cX4_putBack 1 = .ok (.getfield 16, 3) := by decide +kernel
theorem dX4_putBack_4 : decode cX4_putBack 4 = .ok (.aload_n 0, 1) := by decide +kernel
theorem dX4_putBack_5 : decode cX4_putBack 5 = .ok (.getfield 9, 3) := by decide +kernel
theorem dX4_putBack_8 : decode cX4_putBack 8 = .ok (.invokestatic 70, 3) := by decide +kernel
theorem dX4_putBack_11 : decode cX4_putBack 11 = .ok (.iload_n 1, 1) := by decide +kernel
theorem dX4_putBack_12 : decode cX4_putBack 12 = .ok (.ireturn, 1) := by decide +kernel
theorem dX4_has_0 : decode cX4_has 0 = .ok (.iload_n 0, 1) := by decide +kernel
theorem dX4_has_1 : decode cX4_has 1 = .ok (.iload_n 1, 1) := by decide +kernel
theorem dX4_has_2 : decode cX4_has 2 = .ok (.ishr, 1) := by decide +kernel
theorem dX4_has_3 : decode cX4_has 3 = .ok (.iconst 1, 1) := by decide +kernel
theorem dX4_has_4 : decode cX4_has 4 = .ok (.iand, 1) := by decide +kernel
theorem dX4_has_5 : decode cX4_has 5 = .ok (.iconst 1, 1) := by decide +kernel
theorem dX4_has_6 : decode cX4_has 6 = .ok (.if_icmp .ne 7, 3) := by decide +kernel
theorem dX4_has_9 : decode cX4_has 9 = .ok (.iconst 1, 1) := by decide +kernel
theorem dX4_has_10 : decode cX4_has 10 = .ok (.goto 4, 3) := by decide +kernel
theorem dX4_has_13 : decode cX4_has 13 = .ok (.iconst 0, 1) := by decide +kernel
theorem dX4_has_14 : decode cX4_has 14 = .ok (.ireturn, 1) := by decide +kernel
theorem dX4_bits_0 : decode cX4_bits 0 = .ok (.iconst 0, 1) := by decide +kernel
theorem dX4_bits_1 : decode cX4_bits 1 = .ok (.istore_n 1, 1) := by decide +kernel
theorem dX4_bits_2 : decode cX4_bits 2 = .ok (.iload_n 0, 1) := by decide +kernel
theorem dX4_bits_3 : decode cX4_bits 3 = .ok (.istore_n 2, 1) := by decide +kernel
theorem dX4_bits_4 : decode cX4_bits 4 = .ok (.iload_n 2, 1) := by decide +kernel
theorem dX4_bits_5 : decode cX4_bits 5 = .ok (.ifCond .eq 15, 3) := by decide +kernel
theorem dX4_bits_8 : decode cX4_bits 8 = .ok (.iinc 1 1, 3) := by decide +kernel
theorem dX4_bits_11 : decode cX4_bits 11 = .ok (.iload_n 2, 1) := by decide +kernel
theorem dX4_bits_12 : decode cX4_bits 12 = .ok (.iload_n 2, 1) := by decide +kernel
theorem dX4_bits_13 : decode cX4_bits 13 = .ok (.iconst 1, 1) := by decide +kernel
theorem dX4_bits_14 : decode cX4_bits 14 = .ok (.isub, 1) := by decide +kernel
theorem dX4_bits_15 : decode cX4_bits 15 = .ok (.iand, 1) := by decide +kernel
theorem dX4_bits_16 : decode cX4_bits 16 = .ok (.istore_n 2, 1) := by decide +kernel
theorem dX4_bits_17 : decode cX4_bits 17 = .ok (.goto (-13), 3) := by decide +kernel
theorem dX4_bits_20 : decode cX4_bits 20 = .ok (.iload_n 1, 1) := by decide +kernel
theorem dX4_bits_21 : decode cX4_bits 21 = .ok (.ireturn, 1) := by decide +kernel
theorem dX4_isCell_0 : decode cX4_isCell 0 = .ok (.iload_n 0, 1) := by decide +kernel
theorem dX4_isCell_1 : decode cX4_isCell 1 = .ok (.iconst 0, 1) := by decide +kernel
theorem dX4_isCell_2 : decode cX4_isCell 2 = .ok (.bipush 63, 2) := by decide +kernel
theorem dX4_isCell_4 : decode cX4_isCell 4 = .ok (.invokestatic 74, 3) := by decide +kernel
theorem dX4_isCell_7 : decode cX4_isCell 7 = .ok (.ireturn, 1) := by decide +kernel
theorem dX4_apart_0 : decode cX4_apart 0 = .ok (.iload_n 0, 1) := by decide +kernel
theorem dX4_apart_1 : decode cX4_apart 1 = .ok (.bipush 8, 2) := by decide +kernel
theorem dX4_apart_3 : decode cX4_apart 3 = .ok (.idiv, 1) := by decide +kernel
theorem dX4_apart_4 : decode cX4_apart 4 = .ok (.iload_n 1, 1) := by decide +kernel
theorem dX4_apart_5 : decode cX4_apart 5 = .ok (.bipush 8, 2) := by decide +kernel
theorem dX4_apart_7 : decode cX4_apart 7 = .ok (.idiv, 1) := by decide +kernel
theorem dX4_apart_8 : decode cX4_apart 8 = .ok (.isub, 1) := by decide +kernel
theorem dX4_apart_9 : decode cX4_apart 9 = .ok (.invokestatic 78, 3) := by decide +kernel
theorem dX4_apart_12 : decode cX4_apart 12 = .ok (.iload_n 0, 1) := by decide +kernel
theorem dX4_apart_13 : decode cX4_apart 13 = .ok (.bipush 8, 2) := by decide +kernel
theorem dX4_apart_15 : decode cX4_apart 15 = .ok (.irem, 1) := by decide +kernel
theorem dX4_apart_16 : decode cX4_apart 16 = .ok (.iload_n 1, 1) := by decide +kernel
theorem dX4_apart_17 : decode cX4_apart 17 = .ok (.bipush 8, 2) := by decide +kernel
theorem dX4_apart_19 : decode cX4_apart 19 = .ok (.irem, 1) := by decide +kernel
theorem dX4_apart_20 : decode cX4_apart 20 = .ok (.isub, 1) := by decide +kernel
theorem dX4_apart_21 : decode cX4_apart 21 = .ok (.invokestatic 78, 3) := by decide +kernel
theorem dX4_apart_24 : decode cX4_apart 24 = .ok (.iadd, 1) := by decide +kernel
theorem dX4_apart_25 : decode cX4_apart 25 = .ok (.ireturn, 1) := by decide +kernel
theorem dX4_beside_0 : decode cX4_beside 0 = .ok (.iload_n 1, 1) := by decide +kernel
theorem dX4_beside_1 : decode cX4_beside 1 = .ok (.bipush 8, 2) := by decide +kernel
theorem dX4_beside_3 : decode cX4_beside 3 = .ok (.idiv, 1) := by decide +kernel
theorem dX4_beside_4 : decode cX4_beside 4 = .ok (.aload_n 0, 1) := by decide +kernel
theorem dX4_beside_5 : decode cX4_beside 5 = .ok (.getfield 22, 3) := by decide +kernel
theorem dX4_beside_8 : decode cX4_beside 8 = .ok (.iload_n 2, 1) := by decide +kernel
theorem dX4_beside_9 : decode cX4_beside 9 = .ok (.iaload, 1) := by decide +kernel
theorem dX4_beside_10 : decode cX4_beside 10 = .ok (.iadd, 1) := by decide +kernel
theorem dX4_beside_11 : decode cX4_beside 11 = .ok (.istore_n 3, 1) := by decide +kernel
theorem dX4_beside_12 : decode cX4_beside 12 = .ok (.iload_n 1, 1) := by decide +kernel
theorem dX4_beside_13 : decode cX4_beside 13 = .ok (.bipush 8, 2) := by decide +kernel
theorem dX4_beside_15 : decode cX4_beside 15 = .ok (.irem, 1) := by decide +kernel
theorem dX4_beside_16 : decode cX4_beside 16 = .ok (.aload_n 0, 1) := by decide +kernel
theorem dX4_beside_17 : decode cX4_beside 17 = .ok (.getfield 25, 3) := by decide +kernel
theorem dX4_beside_20 : decode cX4_beside 20 = .ok (.iload_n 2, 1) := by decide +kernel
theorem dX4_beside_21 : decode cX4_beside 21 = .ok (.iaload, 1) := by decide +kernel
theorem dX4_beside_22 : decode cX4_beside 22 = .ok (.iadd, 1) := by decide +kernel
theorem dX4_beside_23 : decode cX4_beside 23 = .ok (.istore 4, 2) := by decide +kernel
theorem dX4_beside_25 : decode cX4_beside 25 = .ok (.iload_n 3, 1) := by decide +kernel
theorem dX4_beside_26 : decode cX4_beside 26 = .ok (.iconst 0, 1) := by decide +kernel
theorem dX4_beside_27 : decode cX4_beside 27 = .ok (.bipush 7, 2) := by decide +kernel
theorem dX4_beside_29 : decode cX4_beside 29 = .ok (.invokestatic 74, 3) := by decide +kernel
theorem dX4_beside_32 : decode cX4_beside 32 = .ok (.ifCond .eq 24, 3) := by decide +kernel
theorem dX4_beside_35 : decode cX4_beside 35 = .ok (.iload 4, 2) := by decide +kernel
theorem dX4_beside_37 : decode cX4_beside 37 = .ok (.iconst 0, 1) := by decide +kernel
theorem dX4_beside_38 : decode cX4_beside 38 = .ok (.bipush 7, 2) := by decide +kernel
theorem dX4_beside_40 : decode cX4_beside 40 = .ok (.invokestatic 74, 3) := by decide +kernel
theorem dX4_beside_43 : decode cX4_beside 43 = .ok (.ifCond .eq 13, 3) := by decide +kernel
theorem dX4_beside_46 : decode cX4_beside 46 = .ok (.bipush 8, 2) := by decide +kernel
theorem dX4_beside_48 : decode cX4_beside 48 = .ok (.iload_n 3, 1) := by decide +kernel
theorem dX4_beside_49 : decode cX4_beside 49 = .ok (.imul, 1) := by decide +kernel
theorem dX4_beside_50 : decode cX4_beside 50 = .ok (.iload 4, 2) := by decide +kernel
theorem dX4_beside_52 : decode cX4_beside 52 = .ok (.iadd, 1) := by decide +kernel
theorem dX4_beside_53 : decode cX4_beside 53 = .ok (.goto 4, 3) := by decide +kernel
theorem dX4_beside_56 : decode cX4_beside 56 = .ok (.iconst (-1), 1) := by decide +kernel
theorem dX4_beside_57 : decode cX4_beside 57 = .ok (.ireturn, 1) := by decide +kernel
theorem dX4_hasNet_0 : decode cX4_hasNet 0 = .ok (.aload_n 0, 1) := by decide +kernel
theorem dX4_hasNet_1 : decode cX4_hasNet 1 = .ok (.getfield 9, 3) := by decide +kernel
theorem dX4_hasNet_4 : decode cX4_hasNet 4 = .ok (.bipush 18, 2) := by decide +kernel
theorem dX4_hasNet_6 : decode cX4_hasNet 6 = .ok (.iload_n 1, 1) := by decide +kernel
theorem dX4_hasNet_7 : decode cX4_hasNet 7 = .ok (.iadd, 1) := by decide +kernel
theorem dX4_hasNet_8 : decode cX4_hasNet 8 = .ok (.iaload, 1) := by decide +kernel
theorem dX4_hasNet_9 : decode cX4_hasNet 9 = .ok (.iconst 1, 1) := by decide +kernel
theorem dX4_hasNet_10 : decode cX4_hasNet 10 = .ok (.if_icmp .ne 7, 3) := by decide +kernel
theorem dX4_hasNet_13 : decode cX4_hasNet 13 = .ok (.iconst 1, 1) := by decide +kernel
theorem dX4_hasNet_14 : decode cX4_hasNet 14 = .ok (.goto 4, 3) := by decide +kernel
theorem dX4_hasNet_17 : decode cX4_hasNet 17 = .ok (.iconst 0, 1) := by decide +kernel
theorem dX4_hasNet_18 : decode cX4_hasNet 18 = .ok (.ireturn, 1) := by decide +kernel
theorem dX4_net_0 : decode cX4_net 0 = .ok (.iload_n 1, 1) := by decide +kernel
theorem dX4_net_1 : decode cX4_net 1 = .ok (.invokestatic 84, 3) := by decide +kernel
theorem dX4_net_4 : decode cX4_net 4 = .ok (.ifCond .eq 12, 3) := by decide +kernel
theorem dX4_net_7 : decode cX4_net 7 = .ok (.iload_n 2, 1) := by decide +kernel
theorem dX4_net_8 : decode cX4_net 8 = .ok (.iconst 0, 1) := by decide +kernel
theorem dX4_net_9 : decode cX4_net 9 = .ok (.iconst 1, 1) := by decide +kernel
theorem dX4_net_10 : decode cX4_net 10 = .ok (.invokestatic 74, 3) := by decide +kernel
theorem dX4_net_13 : decode cX4_net 13 = .ok (.ifCond .ne 10, 3) := by decide +kernel
theorem dX4_net_16 : decode cX4_net 16 = .ok (.aload_n 0, 1) := by decide +kernel
theorem dX4_net_17 : decode cX4_net 17 = .ok (.ldc 69, 2) := by decide +kernel
theorem dX4_net_19 : decode cX4_net 19 = .ok (.invokevirtual 88, 3) := by decide +kernel
theorem dX4_net_22 : decode cX4_net 22 = .ok (.ireturn, 1) := by decide +kernel
theorem dX4_net_23 : decode cX4_net 23 = .ok (.aload_n 0, 1) := by decide +kernel
theorem dX4_net_24 : decode cX4_net 24 = .ok (.bipush 18, 2) := by decide +kernel
theorem dX4_net_26 : decode cX4_net 26 = .ok (.iload_n 1, 1) := by decide +kernel
theorem dX4_net_27 : decode cX4_net 27 = .ok (.iadd, 1) := by decide +kernel
theorem dX4_net_28 : decode cX4_net 28 = .ok (.iload_n 2, 1) := by decide +kernel
theorem dX4_net_29 : decode cX4_net 29 = .ok (.invokevirtual 91, 3) := by decide +kernel
theorem dX4_net_32 : decode cX4_net 32 = .ok (.iload_n 2, 1) := by decide +kernel
theorem dX4_net_33 : decode cX4_net 33 = .ok (.if_icmp .ne 7, 3) := by decide +kernel
theorem dX4_net_36 : decode cX4_net 36 = .ok (.iconst 0, 1) := by decide +kernel
theorem dX4_net_37 : decode cX4_net 37 = .ok (.goto 4, 3) := by decide +kernel
theorem dX4_net_40 : decode cX4_net 40 = .ok (.iconst 1, 1) := by decide +kernel
theorem dX4_net_41 : decode cX4_net 41 = .ok (.ireturn, 1) := by decide +kernel
theorem dX4_thick_0 : decode cX4_thick 0 = .ok (.iload_n 1, 1) := by decide +kernel
theorem dX4_thick_1 : decode cX4_thick 1 = .ok (.invokestatic 84, 3) := by decide +kernel
theorem dX4_thick_4 : decode cX4_thick 4 = .ok (.ifCond .eq 25, 3) := by decide +kernel
theorem dX4_thick_7 : decode cX4_thick 7 = .ok (.iload_n 2, 1) := by decide +kernel
theorem dX4_thick_8 : decode cX4_thick 8 = .ok (.iconst 0, 1) := by decide +kernel
theorem dX4_thick_9 : decode cX4_thick 9 = .ok (.bipush 9, 2) := by decide +kernel
theorem dX4_thick_11 : decode cX4_thick 11 = .ok (.invokestatic 74, 3) := by decide +kernel
theorem dX4_thick_14 : decode cX4_thick 14 = .ok (.ifCond .eq 15, 3) := by decide +kernel
theorem dX4_thick_17 : decode cX4_thick 17 = .ok (.aload_n 0, 1) := by decide +kernel
theorem dX4_thick_18 : decode cX4_thick 18 = .ok (.bipush 82, 2) := by decide +kernel
theorem dX4_thick_20 : decode cX4_thick 20 = .ok (.iload_n 1, 1) := by decide +kernel
theorem dX4_thick_21 : decode cX4_thick 21 = .ok (.iadd, 1) := by decide +kernel
theorem dX4_thick_22 : decode cX4_thick 22 = .ok (.iload_n 2, 1) := by decide +kernel
theorem dX4_thick_23 : decode cX4_thick 23 = .ok (.invokevirtual 91, 3) := by decide +kernel
theorem dX4_thick_26 : decode cX4_thick 26 = .ok (.goto 9, 3) := by decide +kernel
theorem dX4_thick_29 : decode cX4_thick 29 = .ok (.aload_n 0, 1) := by decide +kernel
theorem dX4_thick_30 : decode cX4_thick 30 = .ok (.ldc 69, 2) := by decide +kernel
theorem dX4_thick_32 : decode cX4_thick 32 = .ok (.invokevirtual 88, 3) := by decide +kernel
theorem dX4_thick_35 : decode cX4_thick 35 = .ok (.ireturn, 1) := by decide +kernel
theorem dX4_isHunter_0 : decode cX4_isHunter 0 = .ok (.iload_n 0, 1) := by decide +kernel
theorem dX4_isHunter_1 : decode cX4_isHunter 1 = .ok (.iconst 0, 1) := by decide +kernel
theorem dX4_isHunter_2 : decode cX4_isHunter 2 = .ok (.iconst 3, 1) := by decide +kernel
theorem dX4_isHunter_3 : decode cX4_isHunter 3 = .ok (.invokestatic 74, 3) := by decide +kernel
theorem dX4_isHunter_6 : decode cX4_isHunter 6 = .ok (.ireturn, 1) := by decide +kernel
theorem dX4_hunter_0 : decode cX4_hunter 0 = .ok (.iload_n 1, 1) := by decide +kernel
theorem dX4_hunter_1 : decode cX4_hunter 1 = .ok (.invokestatic 95, 3) := by decide +kernel
theorem dX4_hunter_4 : decode cX4_hunter 4 = .ok (.ifCond .eq 25, 3) := by decide +kernel
theorem dX4_hunter_7 : decode cX4_hunter 7 = .ok (.iload_n 2, 1) := by decide +kernel
theorem dX4_hunter_8 : decode cX4_hunter 8 = .ok (.iconst (-1), 1) := by decide +kernel
theorem dX4_hunter_9 : decode cX4_hunter 9 = .ok (.bipush 63, 2) := by decide +kernel
theorem dX4_hunter_11 : decode cX4_hunter 11 = .ok (.invokestatic 74, 3) := by decide +kernel
theorem dX4_hunter_14 : decode cX4_hunter 14 = .ok (.ifCond .eq 15, 3) := by decide +kernel
theorem dX4_hunter_17 : decode cX4_hunter 17 = .ok (.aload_n 0, 1) := by decide +kernel
theorem dX4_hunter_18 : decode cX4_hunter 18 = .ok (.bipush 14, 2) := by decide +kernel
theorem dX4_hunter_20 : decode cX4_hunter 20 = .ok (.iload_n 1, 1) := by decide +kernel
theorem dX4_hunter_21 : decode cX4_hunter 21 = .ok (.iadd, 1) := by decide +kernel
theorem dX4_hunter_22 : decode cX4_hunter 22 = .ok (.iload_n 2, 1) := by decide +kernel
theorem dX4_hunter_23 : decode cX4_hunter 23 = .ok (.invokevirtual 91, 3) := by decide +kernel
theorem dX4_hunter_26 : decode cX4_hunter 26 = .ok (.goto 9, 3) := by decide +kernel
theorem dX4_hunter_29 : decode cX4_hunter 29 = .ok (.aload_n 0, 1) := by decide +kernel
theorem dX4_hunter_30 : decode cX4_hunter 30 = .ok (.ldc 69, 2) := by decide +kernel
theorem dX4_hunter_32 : decode cX4_hunter 32 = .ok (.invokevirtual 88, 3) := by decide +kernel
theorem dX4_hunter_35 : decode cX4_hunter 35 = .ok (.ireturn, 1) := by decide +kernel
theorem dX4_fear_0 : decode cX4_fear 0 = .ok (.iload_n 1, 1) := by decide +kernel
theorem dX4_fear_1 : decode cX4_fear 1 = .ok (.iconst 0, 1) := by decide +kernel
theorem dX4_fear_2 : decode cX4_fear 2 = .ok (.bipush 9, 2) := by decide +kernel
theorem dX4_fear_4 : decode cX4_fear 4 = .ok (.invokestatic 74, 3) := by decide +kernel
theorem dX4_fear_7 : decode cX4_fear 7 = .ok (.ifCond .eq 12, 3) := by decide +kernel
theorem dX4_fear_10 : decode cX4_fear 10 = .ok (.aload_n 0, 1) := by decide +kernel
theorem dX4_fear_11 : decode cX4_fear 11 = .ok (.iconst 1, 1) := by decide +kernel
theorem dX4_fear_12 : decode cX4_fear 12 = .ok (.iload_n 1, 1) := by decide +kernel
theorem dX4_fear_13 : decode cX4_fear 13 = .ok (.invokevirtual 91, 3) := by decide +kernel
theorem dX4_fear_16 : decode cX4_fear 16 = .ok (.goto 9, 3) := by decide +kernel
theorem dX4_fear_19 : decode cX4_fear 19 = .ok (.aload_n 0, 1) := by decide +kernel
theorem dX4_fear_20 : decode cX4_fear 20 = .ok (.ldc 69, 2) := by decide +kernel
theorem dX4_fear_22 : decode cX4_fear 22 = .ok (.invokevirtual 88, 3) := by decide +kernel
theorem dX4_fear_25 : decode cX4_fear 25 = .ok (.ireturn, 1) := by decide +kernel
theorem dX4_isBell_0 : decode cX4_isBell 0 = .ok (.iload_n 1, 1) := by decide +kernel
theorem dX4_isBell_1 : decode cX4_isBell 1 = .ok (.iconst 0, 1) := by decide +kernel
theorem dX4_isBell_2 : decode cX4_isBell 2 = .ok (.aload_n 0, 1) := by decide +kernel
theorem dX4_isBell_3 : decode cX4_isBell 3 = .ok (.getfield 9, 3) := by decide +kernel
theorem dX4_isBell_6 : decode cX4_isBell 6 = .ok (.iconst 2, 1) := by decide +kernel
theorem dX4_isBell_7 : decode cX4_isBell 7 = .ok (.iaload, 1) := by decide +kernel
theorem dX4_isBell_8 : decode cX4_isBell 8 = .ok (.iconst 1, 1) := by decide +kernel
theorem dX4_isBell_9 : decode cX4_isBell 9 = .ok (.isub, 1) := by decide +kernel
theorem dX4_isBell_10 : decode cX4_isBell 10 = .ok (.invokestatic 74, 3) := by decide +kernel
theorem dX4_isBell_13 : decode cX4_isBell 13 = .ok (.ireturn, 1) := by decide +kernel
theorem dX4_isKind_0 : decode cX4_isKind 0 = .ok (.iload_n 0, 1) := by decide +kernel
theorem dX4_isKind_1 : decode cX4_isKind 1 = .ok (.iconst 0, 1) := by decide +kernel
theorem dX4_isKind_2 : decode cX4_isKind 2 = .ok (.bipush 6, 2) := by decide +kernel
theorem dX4_isKind_4 : decode cX4_isKind 4 = .ok (.invokestatic 74, 3) := by decide +kernel
theorem dX4_isKind_7 : decode cX4_isKind 7 = .ok (.ireturn, 1) := by decide +kernel
theorem dX4_at_0 : decode cX4_at 0 = .ok (.sipush 146, 3) := by decide +kernel
theorem dX4_at_3 : decode cX4_at 3 = .ok (.iconst 5, 1) := by decide +kernel
theorem dX4_at_4 : decode cX4_at 4 = .ok (.iload_n 0, 1) := by decide +kernel
theorem dX4_at_5 : decode cX4_at 5 = .ok (.imul, 1) := by decide +kernel
theorem dX4_at_6 : decode cX4_at 6 = .ok (.iadd, 1) := by decide +kernel
theorem dX4_at_7 : decode cX4_at 7 = .ok (.iload_n 1, 1) := by decide +kernel
theorem dX4_at_8 : decode cX4_at 8 = .ok (.iadd, 1) := by decide +kernel
theorem dX4_at_9 : decode cX4_at 9 = .ok (.ireturn, 1) := by decide +kernel
theorem dX4_bellIs_0 : decode cX4_bellIs 0 = .ok (.aload_n 0, 1) := by decide +kernel
theorem dX4_bellIs_1 : decode cX4_bellIs 1 = .ok (.getfield 9, 3) := by decide +kernel
theorem dX4_bellIs_4 : decode cX4_bellIs 4 = .ok (.iload_n 1, 1) := by decide +kernel
theorem dX4_bellIs_5 : decode cX4_bellIs 5 = .ok (.iload_n 2, 1) := by decide +kernel
theorem dX4_bellIs_6 : decode cX4_bellIs 6 = .ok (.invokestatic 98, 3) := by decide +kernel
theorem dX4_bellIs_9 : decode cX4_bellIs 9 = .ok (.iaload, 1) := by decide +kernel
theorem dX4_bellIs_10 : decode cX4_bellIs 10 = .ok (.ireturn, 1) := by decide +kernel
theorem dX4_isCaught_0 : decode cX4_isCaught 0 = .ok (.aload_n 0, 1) := by decide +kernel
theorem dX4_isCaught_1 : decode cX4_isCaught 1 = .ok (.iload_n 1, 1) := by decide +kernel
theorem dX4_isCaught_2 : decode cX4_isCaught 2 = .ok (.iconst 4, 1) := by decide +kernel
theorem dX4_isCaught_3 : decode cX4_isCaught 3 = .ok (.invokevirtual 101, 3) := by decide +kernel
theorem dX4_isCaught_6 : decode cX4_isCaught 6 = .ok (.iconst 1, 1) := by decide +kernel
theorem dX4_isCaught_7 : decode cX4_isCaught 7 = .ok (.if_icmp .ne 7, 3) := by decide +kernel
theorem dX4_isCaught_10 : decode cX4_isCaught 10 = .ok (.iconst 1, 1) := by decide +kernel
theorem dX4_isCaught_11 : decode cX4_isCaught 11 = .ok (.goto 4, 3) := by decide +kernel
theorem dX4_isCaught_14 : decode cX4_isCaught 14 = .ok (.iconst 0, 1) := by decide +kernel
theorem dX4_isCaught_15 : decode cX4_isCaught 15 = .ok (.ireturn, 1) := by decide +kernel
theorem dX4_comes_0 : decode cX4_comes 0 = .ok (.aload_n 0, 1) := by decide +kernel
theorem dX4_comes_1 : decode cX4_comes 1 = .ok (.getfield 9, 3) := by decide +kernel
theorem dX4_comes_4 : decode cX4_comes 4 = .ok (.iconst 2, 1) := by decide +kernel
theorem dX4_comes_5 : decode cX4_comes 5 = .ok (.iaload, 1) := by decide +kernel
theorem dX4_comes_6 : decode cX4_comes 6 = .ok (.istore 5, 2) := by decide +kernel
theorem dX4_comes_8 : decode cX4_comes 8 = .ok (.aload_n 0, 1) := by decide +kernel
theorem dX4_comes_9 : decode cX4_comes 9 = .ok (.getfield 9, 3) := by decide +kernel
theorem dX4_comes_12 : decode cX4_comes 12 = .ok (.iload 5, 2) := by decide +kernel
theorem dX4_comes_14 : decode cX4_comes 14 = .ok (.iconst 0, 1) := by decide +kernel
theorem dX4_comes_15 : decode cX4_comes 15 = .ok (.invokestatic 98, 3) := by decide +kernel
theorem dX4_comes_18 : decode cX4_comes 18 = .ok (.iload_n 1, 1) := by decide +kernel
theorem dX4_comes_19 : decode cX4_comes 19 = .ok (.iastore, 1) := by decide +kernel
theorem dX4_comes_20 : decode cX4_comes 20 = .ok (.aload_n 0, 1) := by decide +kernel
theorem dX4_comes_21 : decode cX4_comes 21 = .ok (.getfield 9, 3) := by decide +kernel
theorem dX4_comes_24 : decode cX4_comes 24 = .ok (.iload 5, 2) := by decide +kernel
theorem dX4_comes_26 : decode cX4_comes 26 = .ok (.iconst 1, 1) := by decide +kernel
theorem dX4_comes_27 : decode cX4_comes 27 = .ok (.invokestatic 98, 3) := by decide +kernel
theorem dX4_comes_30 : decode cX4_comes 30 = .ok (.iload_n 2, 1) := by decide +kernel
theorem dX4_comes_31 : decode cX4_comes 31 = .ok (.iastore, 1) := by decide +kernel
theorem dX4_comes_32 : decode cX4_comes 32 = .ok (.aload_n 0, 1) := by decide +kernel
theorem dX4_comes_33 : decode cX4_comes 33 = .ok (.getfield 9, 3) := by decide +kernel
theorem dX4_comes_36 : decode cX4_comes 36 = .ok (.iload 5, 2) := by decide +kernel
theorem dX4_comes_38 : decode cX4_comes 38 = .ok (.iconst 2, 1) := by decide +kernel
theorem dX4_comes_39 : decode cX4_comes 39 = .ok (.invokestatic 98, 3) := by decide +kernel
theorem dX4_comes_42 : decode cX4_comes 42 = .ok (.iload_n 3, 1) := by decide +kernel
theorem dX4_comes_43 : decode cX4_comes 43 = .ok (.iastore, 1) := by decide +kernel
theorem dX4_comes_44 : decode cX4_comes 44 = .ok (.aload_n 0, 1) := by decide +kernel
theorem dX4_comes_45 : decode cX4_comes 45 = .ok (.getfield 9, 3) := by decide +kernel
theorem dX4_comes_48 : decode cX4_comes 48 = .ok (.iload 5, 2) := by decide +kernel
theorem dX4_comes_50 : decode cX4_comes 50 = .ok (.iconst 3, 1) := by decide +kernel
theorem dX4_comes_51 : decode cX4_comes 51 = .ok (.invokestatic 98, 3) := by decide +kernel
theorem dX4_comes_54 : decode cX4_comes 54 = .ok (.iload 4, 2) := by decide +kernel
theorem dX4_comes_56 : decode cX4_comes 56 = .ok (.iastore, 1) := by decide +kernel
theorem dX4_comes_57 : decode cX4_comes 57 = .ok (.aload_n 0, 1) := by decide +kernel
theorem dX4_comes_58 : decode cX4_comes 58 = .ok (.getfield 9, 3) := by decide +kernel
theorem dX4_comes_61 : decode cX4_comes 61 = .ok (.iload 5, 2) := by decide +kernel
theorem dX4_comes_63 : decode cX4_comes 63 = .ok (.iconst 4, 1) := by decide +kernel
theorem dX4_comes_64 : decode cX4_comes 64 = .ok (.invokestatic 98, 3) := by decide +kernel
theorem dX4_comes_67 : decode cX4_comes 67 = .ok (.iconst 0, 1) := by decide +kernel
theorem dX4_comes_68 : decode cX4_comes 68 = .ok (.iastore, 1) := by decide +kernel
theorem dX4_comes_69 : decode cX4_comes 69 = .ok (.aload_n 0, 1) := by decide +kernel
theorem dX4_comes_70 : decode cX4_comes 70 = .ok (.getfield 9, 3) := by decide +kernel
theorem dX4_comes_73 : decode cX4_comes 73 = .ok (.iconst 2, 1) := by decide +kernel
theorem dX4_comes_74 : decode cX4_comes 74 = .ok (.dup2, 1) := by decide +kernel
theorem dX4_comes_75 : decode cX4_comes 75 = .ok (.iaload, 1) := by decide +kernel
theorem dX4_comes_76 : decode cX4_comes 76 = .ok (.iconst 1, 1) := by decide +kernel
theorem dX4_comes_77 : decode cX4_comes 77 = .ok (.iadd, 1) := by decide +kernel
theorem dX4_comes_78 : decode cX4_comes 78 = .ok (.iastore, 1) := by decide +kernel
theorem dX4_comes_79 : decode cX4_comes 79 = .ok (.iload 5, 2) := by decide +kernel
theorem dX4_comes_81 : decode cX4_comes 81 = .ok (.ireturn, 1) := by decide +kernel
theorem dX4_bell_0 : decode cX4_bell 0 = .ok (.iload_n 1, 1) := by decide +kernel
theorem dX4_bell_1 : decode cX4_bell 1 = .ok (.invokestatic 104, 3) := by decide +kernel
theorem dX4_bell_4 : decode cX4_bell 4 = .ok (.ifCond .eq 10, 3) := by decide +kernel
theorem dX4_bell_7 : decode cX4_bell 7 = .ok (.iload_n 2, 1) := by decide +kernel
theorem dX4_bell_8 : decode cX4_bell 8 = .ok (.invokestatic 84, 3) := by decide +kernel
theorem dX4_bell_11 : decode cX4_bell 11 = .ok (.ifCond .ne 10, 3) := by decide +kernel
theorem dX4_bell_14 : decode cX4_bell 14 = .ok (.aload_n 0, 1) := by decide +kernel
theorem dX4_bell_15 : decode cX4_bell 15 = .ok (.ldc 69, 2) := by decide +kernel
theorem dX4_bell_17 : decode cX4_bell 17 = .ok (.invokevirtual 88, 3) := by decide +kernel
theorem dX4_bell_20 : decode cX4_bell 20 = .ok (.ireturn, 1) := by decide +kernel
theorem dX4_bell_21 : decode cX4_bell 21 = .ok (.aload_n 0, 1) := by decide +kernel
theorem dX4_bell_22 : decode cX4_bell 22 = .ok (.getfield 9, 3) := by decide +kernel
theorem dX4_bell_25 : decode cX4_bell 25 = .ok (.iconst 2, 1) := by decide +kernel
theorem dX4_bell_26 : decode cX4_bell 26 = .ok (.iaload, 1) := by decide +kernel
theorem dX4_bell_27 : decode cX4_bell 27 = .ok (.bipush 8, 2) := by decide +kernel
theorem dX4_bell_29 : decode cX4_bell 29 = .ok (.if_icmp .ne 12, 3) := by decide +kernel
theorem dX4_bell_32 : decode cX4_bell 32 = .ok (.aload_n 0, 1) := by decide +kernel
theorem dX4_bell_33 : decode cX4_bell 33 = .ok (.ldc 107, 2) := by decide +kernel
theorem dX4_bell_35 : decode cX4_bell 35 = .ok (.invokevirtual 88, 3) := by decide +kernel
theorem dX4_bell_38 : decode cX4_bell 38 = .ok (.goto 12, 3) := by decide +kernel
theorem dX4_bell_41 : decode cX4_bell 41 = .ok (.aload_n 0, 1) := by decide +kernel
theorem dX4_bell_42 : decode cX4_bell 42 = .ok (.iload_n 1, 1) := by decide +kernel
theorem dX4_bell_43 : decode cX4_bell 43 = .ok (.iload_n 2, 1) := by decide +kernel
theorem dX4_bell_44 : decode cX4_bell 44 = .ok (.iconst 0, 1) := by decide +kernel
theorem dX4_bell_45 : decode cX4_bell 45 = .ok (.bipush 10, 2) := by decide +kernel
theorem dX4_bell_47 : decode cX4_bell 47 = .ok (.invokevirtual 108, 3) := by decide +kernel
theorem dX4_bell_50 : decode cX4_bell 50 = .ok (.ireturn, 1) := by decide +kernel
theorem dX4_above_0 : decode cX4_above 0 = .ok (.iload_n 0, 1) := by decide +kernel
theorem dX4_above_1 : decode cX4_above 1 = .ok (.ifCond .ne 7, 3) := by decide +kernel
theorem dX4_above_4 : decode cX4_above 4 = .ok (.iconst (-1), 1) := by decide +kernel
theorem dX4_above_5 : decode cX4_above 5 = .ok (.goto 32, 3) := by decide +kernel
theorem dX4_above_8 : decode cX4_above 8 = .ok (.iload_n 0, 1) := by decide +kernel
theorem dX4_above_9 : decode cX4_above 9 = .ok (.iconst 3, 1) := by decide +kernel
theorem dX4_above_10 : decode cX4_above 10 = .ok (.if_icmp .ne 7, 3) := by decide +kernel
theorem dX4_above_13 : decode cX4_above 13 = .ok (.iconst 2, 1) := by decide +kernel
theorem dX4_above_14 : decode cX4_above 14 = .ok (.goto 23, 3) := by decide +kernel
theorem dX4_above_17 : decode cX4_above 17 = .ok (.iload_n 0, 1) := by decide +kernel
theorem dX4_above_18 : decode cX4_above 18 = .ok (.iconst 4, 1) := by decide +kernel
theorem dX4_above_19 : decode cX4_above 19 = .ok (.if_icmp .ne 7, 3) := by decide +kernel
theorem dX4_above_22 : decode cX4_above 22 = .ok (.iconst 3, 1) := by decide +kernel
theorem dX4_above_23 : decode cX4_above 23 = .ok (.goto 14, 3) := by decide +kernel
theorem dX4_above_26 : decode cX4_above 26 = .ok (.iload_n 0, 1) := by decide +kernel
theorem dX4_above_27 : decode cX4_above 27 = .ok (.bipush 6, 2) := by decide +kernel
theorem dX4_above_29 : decode cX4_above 29 = .ok (.if_icmp .ne 7, 3) := by decide +kernel
theorem dX4_above_32 : decode cX4_above 32 = .ok (.iconst 1, 1) := by decide +kernel
theorem dX4_above_33 : decode cX4_above 33 = .ok (.goto 4, 3) := by decide +kernel
theorem dX4_above_36 : decode cX4_above 36 = .ok (.iconst 0, 1) := by decide +kernel
theorem dX4_above_37 : decode cX4_above 37 = .ok (.ireturn, 1) := by decide +kernel
theorem dX4_isUnder_0 : decode cX4_isUnder 0 = .ok (.iload_n 0, 1) := by decide +kernel
theorem dX4_isUnder_1 : decode cX4_isUnder 1 = .ok (.istore_n 2, 1) := by decide +kernel
theorem dX4_isUnder_2 : decode cX4_isUnder 2 = .ok (.iload_n 2, 1) := by decide +kernel
theorem dX4_isUnder_3 : decode cX4_isUnder 3 = .ok (.ifCond .lt 16, 3) := by decide +kernel
theorem dX4_isUnder_6 : decode cX4_isUnder 6 = .ok (.iload_n 2, 1) := by decide +kernel
theorem dX4_isUnder_7 : decode cX4_isUnder 7 = .ok (.iload_n 1, 1) := by decide +kernel
theorem dX4_isUnder_8 : decode cX4_isUnder 8 = .ok (.if_icmp .eq 11, 3) := by decide +kernel
theorem dX4_isUnder_11 : decode cX4_isUnder 11 = .ok (.iload_n 2, 1) := by decide +kernel
theorem dX4_isUnder_12 : decode cX4_isUnder 12 = .ok (.invokestatic 112, 3) := by decide +kernel
theorem dX4_isUnder_15 : decode cX4_isUnder 15 = .ok (.istore_n 2, 1) := by decide +kernel
theorem dX4_isUnder_16 : decode cX4_isUnder 16 = .ok (.goto (-14), 3) := by decide +kernel
theorem dX4_isUnder_19 : decode cX4_isUnder 19 = .ok (.iload_n 2, 1) := by decide +kernel
theorem dX4_isUnder_20 : decode cX4_isUnder 20 = .ok (.ifCond .lt 7, 3) := by decide +kernel
theorem dX4_isUnder_23 : decode cX4_isUnder 23 = .ok (.iconst 1, 1) := by decide +kernel
theorem dX4_isUnder_24 : decode cX4_isUnder 24 = .ok (.goto 4, 3) := by decide +kernel
theorem dX4_isUnder_27 : decode cX4_isUnder 27 = .ok (.iconst 0, 1) := by decide +kernel
theorem dX4_isUnder_28 : decode cX4_isUnder 28 = .ok (.ireturn, 1) := by decide +kernel
theorem dX4_nearestOther_0 : decode cX4_nearestOther 0 = .ok (.iconst (-1), 1) := by decide +kernel
theorem dX4_nearestOther_1 : decode cX4_nearestOther 1 = .ok (.istore 4, 2) := by decide +kernel
theorem dX4_nearestOther_3 : decode cX4_nearestOther 3 = .ok (.iconst 0, 1) := by decide +kernel
theorem dX4_nearestOther_4 : decode cX4_nearestOther 4 = .ok (.istore 5, 2) := by decide +kernel
theorem dX4_nearestOther_6 : decode cX4_nearestOther 6 = .ok (.iload 5, 2) := by decide +kernel
theorem dX4_nearestOther_8 : decode cX4_nearestOther 8 = .ok (.aload_n 0, 1) := by decide +kernel
theorem dX4_nearestOther_9 : decode cX4_nearestOther 9 = .ok (.getfield 9, 3) := by decide +kernel
theorem dX4_nearestOther_12 : decode cX4_nearestOther 12 = .ok (.iconst 2, 1) := by decide +kernel
theorem dX4_nearestOther_13 : decode cX4_nearestOther 13 = .ok (.iaload, 1) := by decide +kernel
theorem dX4_nearestOther_14 : decode cX4_nearestOther 14 = .ok (.if_icmp .ge 84, 3) := by decide +kernel
theorem dX4_nearestOther_17 : decode cX4_nearestOther 17 = .ok (.iload 5, 2) := by decide +kernel
theorem dX4_nearestOther_19 : decode cX4_nearestOther 19 = .ok (.iload_n 1, 1) := by decide +kernel
theorem dX4_nearestOther_20 : decode cX4_nearestOther 20 = .ok (.if_icmp .eq 30, 3) := by decide +kernel
theorem dX4_nearestOther_23 : decode cX4_nearestOther 23 = .ok (.aload_n 0, 1) := by decide +kernel
theorem dX4_nearestOther_24 : decode cX4_nearestOther 24 = .ok (.iload 5, 2) := by decide +kernel
theorem dX4_nearestOther_26 : decode cX4_nearestOther 26 = .ok (.invokevirtual 115, 3) := by decide +kernel
theorem dX4_nearestOther_29 : decode cX4_nearestOther 29 = .ok (.ifCond .ne 21, 3) := by decide +kernel
theorem dX4_nearestOther_32 : decode cX4_nearestOther 32 = .ok (.aload_n 0, 1) := by decide +kernel
theorem dX4_nearestOther_33 : decode cX4_nearestOther 33 = .ok (.iload 5, 2) := by decide +kernel
theorem dX4_nearestOther_35 : decode cX4_nearestOther 35 = .ok (.iconst 0, 1) := by decide +kernel
theorem dX4_nearestOther_36 : decode cX4_nearestOther 36 = .ok (.invokevirtual 101, 3) := by decide +kernel
theorem dX4_nearestOther_39 : decode cX4_nearestOther 39 = .ok (.iload_n 3, 1) := by decide +kernel
theorem dX4_nearestOther_40 : decode cX4_nearestOther 40 = .ok (.invokestatic 118, 3) := by decide +kernel
theorem dX4_nearestOther_43 : decode cX4_nearestOther 43 = .ok (.ifCond .eq 7, 3) := by decide +kernel
theorem dX4_nearestOther_46 : decode cX4_nearestOther 46 = .ok (.iconst 1, 1) := by decide +kernel
theorem dX4_nearestOther_47 : decode cX4_nearestOther 47 = .ok (.goto 4, 3) := by decide +kernel
theorem dX4_nearestOther_50 : decode cX4_nearestOther 50 = .ok (.iconst 0, 1) := by decide +kernel
theorem dX4_nearestOther_51 : decode cX4_nearestOther 51 = .ok (.istore 6, 2) := by decide +kernel
theorem dX4_nearestOther_53 : decode cX4_nearestOther 53 = .ok (.iload_n 2, 1) := by decide +kernel
theorem dX4_nearestOther_54 : decode cX4_nearestOther 54 = .ok (.aload_n 0, 1) := by decide +kernel
theorem dX4_nearestOther_55 : decode cX4_nearestOther 55 = .ok (.iload 5, 2) := by decide +kernel
theorem dX4_nearestOther_57 : decode cX4_nearestOther 57 = .ok (.iconst 1, 1) := by decide +kernel
theorem dX4_nearestOther_58 : decode cX4_nearestOther 58 = .ok (.invokevirtual 101, 3) := by decide +kernel
theorem dX4_nearestOther_61 : decode cX4_nearestOther 61 = .ok (.invokestatic 122, 3) := by decide +kernel
theorem dX4_nearestOther_64 : decode cX4_nearestOther 64 = .ok (.istore 7, 2) := by decide +kernel
theorem dX4_nearestOther_66 : decode cX4_nearestOther 66 = .ok (.iload 6, 2) := by decide +kernel
theorem dX4_nearestOther_68 : decode cX4_nearestOther 68 = .ok (.ifCond .eq 20, 3) := by decide +kernel
theorem dX4_nearestOther_71 : decode cX4_nearestOther 71 = .ok (.iload 4, 2) := by decide +kernel
theorem dX4_nearestOther_73 : decode cX4_nearestOther 73 = .ok (.ifCond .lt 10, 3) := by decide +kernel
theorem dX4_nearestOther_76 : decode cX4_nearestOther 76 = .ok (.iload 7, 2) := by decide +kernel
theorem dX4_nearestOther_78 : decode cX4_nearestOther 78 = .ok (.iload 4, 2) := by decide +kernel
theorem dX4_nearestOther_80 : decode cX4_nearestOther 80 = .ok (.if_icmp .ge 8, 3) := by decide +kernel
theorem dX4_nearestOther_83 : decode cX4_nearestOther 83 = .ok (.iload 7, 2) := by decide +kernel
theorem dX4_nearestOther_85 : decode cX4_nearestOther 85 = .ok (.goto 5, 3) := by decide +kernel
theorem dX4_nearestOther_88 : decode cX4_nearestOther 88 = .ok (.iload 4, 2) := by decide +kernel
theorem dX4_nearestOther_90 : decode cX4_nearestOther 90 = .ok (.istore 4, 2) := by decide +kernel
theorem dX4_nearestOther_92 : decode cX4_nearestOther 92 = .ok (.iinc 5 1, 3) := by decide +kernel
theorem dX4_nearestOther_95 : decode cX4_nearestOther 95 = .ok (.goto (-89), 3) := by decide +kernel
theorem dX4_nearestOther_98 : decode cX4_nearestOther 98 = .ok (.iload 4, 2) := by decide +kernel
theorem dX4_nearestOther_100 : decode cX4_nearestOther 100 = .ok (.ireturn, 1) := by decide +kernel
theorem dX4_worthOf_0 : decode cX4_worthOf 0 = .ok (.aload_n 0, 1) := by decide +kernel
theorem dX4_worthOf_1 : decode cX4_worthOf 1 = .ok (.getfield 9, 3) := by decide +kernel
theorem dX4_worthOf_4 : decode cX4_worthOf 4 = .ok (.iconst 1, 1) := by decide +kernel
theorem dX4_worthOf_5 : decode cX4_worthOf 5 = .ok (.iaload, 1) := by decide +kernel
theorem dX4_worthOf_6 : decode cX4_worthOf 6 = .ok (.istore_n 3, 1) := by decide +kernel
theorem dX4_worthOf_7 : decode cX4_worthOf 7 = .ok (.iconst 0, 1) := by decide +kernel
theorem dX4_worthOf_8 : decode cX4_worthOf 8 = .ok (.istore 4, 2) := by decide +kernel
theorem dX4_worthOf_10 : decode cX4_worthOf 10 = .ok (.iload 4, 2) := by decide +kernel
theorem dX4_worthOf_12 : decode cX4_worthOf 12 = .ok (.iconst 4, 1) := by decide +kernel
theorem dX4_worthOf_13 : decode cX4_worthOf 13 = .ok (.if_icmp .ge 45, 3) := by decide +kernel
theorem dX4_worthOf_16 : decode cX4_worthOf 16 = .ok (.aload_n 0, 1) := by decide +kernel
theorem dX4_worthOf_17 : decode cX4_worthOf 17 = .ok (.getfield 9, 3) := by decide +kernel
theorem dX4_worthOf_20 : decode cX4_worthOf 20 = .ok (.bipush 14, 2) := by decide +kernel
theorem dX4_worthOf_22 : decode cX4_worthOf 22 = .ok (.iload 4, 2) := by decide +kernel
theorem dX4_worthOf_24 : decode cX4_worthOf 24 = .ok (.iadd, 1) := by decide +kernel
theorem dX4_worthOf_25 : decode cX4_worthOf 25 = .ok (.iaload, 1) := by decide +kernel
theorem dX4_worthOf_26 : decode cX4_worthOf 26 = .ok (.ifCond .ge 7, 3) := by decide +kernel
theorem dX4_worthOf_29 : decode cX4_worthOf 29 = .ok (.iload_n 3, 1) := by decide +kernel
theorem dX4_worthOf_30 : decode cX4_worthOf 30 = .ok (.goto 21, 3) := by decide +kernel
theorem dX4_worthOf_33 : decode cX4_worthOf 33 = .ok (.iload_n 3, 1) := by decide +kernel
theorem dX4_worthOf_34 : decode cX4_worthOf 34 = .ok (.iload_n 2, 1) := by decide +kernel
theorem dX4_worthOf_35 : decode cX4_worthOf 35 = .ok (.aload_n 0, 1) := by decide +kernel
theorem dX4_worthOf_36 : decode cX4_worthOf 36 = .ok (.getfield 9, 3) := by decide +kernel
theorem dX4_worthOf_39 : decode cX4_worthOf 39 = .ok (.bipush 14, 2) := by decide +kernel
theorem dX4_worthOf_41 : decode cX4_worthOf 41 = .ok (.iload 4, 2) := by decide +kernel
theorem dX4_worthOf_43 : decode cX4_worthOf 43 = .ok (.iadd, 1) := by decide +kernel
theorem dX4_worthOf_44 : decode cX4_worthOf 44 = .ok (.iaload, 1) := by decide +kernel
theorem dX4_worthOf_45 : decode cX4_worthOf 45 = .ok (.invokestatic 122, 3) := by decide +kernel
theorem dX4_worthOf_48 : decode cX4_worthOf 48 = .ok (.invokestatic 125, 3) := by decide +kernel
theorem dX4_worthOf_51 : decode cX4_worthOf 51 = .ok (.istore_n 3, 1) := by decide +kernel
theorem dX4_worthOf_52 : decode cX4_worthOf 52 = .ok (.iinc 4 1, 3) := by decide +kernel
theorem dX4_worthOf_55 : decode cX4_worthOf 55 = .ok (.goto (-45), 3) := by decide +kernel
theorem dX4_worthOf_58 : decode cX4_worthOf 58 = .ok (.aload_n 0, 1) := by decide +kernel
theorem dX4_worthOf_59 : decode cX4_worthOf 59 = .ok (.getfield 9, 3) := by decide +kernel
theorem dX4_worthOf_62 : decode cX4_worthOf 62 = .ok (.bipush 82, 2) := by decide +kernel
theorem dX4_worthOf_64 : decode cX4_worthOf 64 = .ok (.iload_n 2, 1) := by decide +kernel
theorem dX4_worthOf_65 : decode cX4_worthOf 65 = .ok (.iadd, 1) := by decide +kernel
theorem dX4_worthOf_66 : decode cX4_worthOf 66 = .ok (.iaload, 1) := by decide +kernel
theorem dX4_worthOf_67 : decode cX4_worthOf 67 = .ok (.istore 4, 2) := by decide +kernel
theorem dX4_worthOf_69 : decode cX4_worthOf 69 = .ok (.bipush 10, 2) := by decide +kernel
theorem dX4_worthOf_71 : decode cX4_worthOf 71 = .ok (.iload_n 3, 1) := by decide +kernel
theorem dX4_worthOf_72 : decode cX4_worthOf 72 = .ok (.imul, 1) := by decide +kernel
theorem dX4_worthOf_73 : decode cX4_worthOf 73 = .ok (.bipush 9, 2) := by decide +kernel
theorem dX4_worthOf_75 : decode cX4_worthOf 75 = .ok (.iadd, 1) := by decide +kernel
theorem dX4_worthOf_76 : decode cX4_worthOf 76 = .ok (.iload 4, 2) := by decide +kernel
theorem dX4_worthOf_78 : decode cX4_worthOf 78 = .ok (.isub, 1) := by decide +kernel
theorem dX4_worthOf_79 : decode cX4_worthOf 79 = .ok (.istore 5, 2) := by decide +kernel
theorem dX4_worthOf_81 : decode cX4_worthOf 81 = .ok (.aload_n 0, 1) := by decide +kernel
theorem dX4_worthOf_82 : decode cX4_worthOf 82 = .ok (.iload_n 1, 1) := by decide +kernel
theorem dX4_worthOf_83 : decode cX4_worthOf 83 = .ok (.iconst 0, 1) := by decide +kernel
theorem dX4_worthOf_84 : decode cX4_worthOf 84 = .ok (.invokevirtual 101, 3) := by decide +kernel
theorem dX4_worthOf_87 : decode cX4_worthOf 87 = .ok (.istore 6, 2) := by decide +kernel
theorem dX4_worthOf_89 : decode cX4_worthOf 89 = .ok (.iload 6, 2) := by decide +kernel
theorem dX4_worthOf_91 : decode cX4_worthOf 91 = .ok (.ifCond .eq 9, 3) := by decide +kernel
theorem dX4_worthOf_94 : decode cX4_worthOf 94 = .ok (.iload 6, 2) := by decide +kernel
theorem dX4_worthOf_96 : decode cX4_worthOf 96 = .ok (.iconst 5, 1) := by decide +kernel
theorem dX4_worthOf_97 : decode cX4_worthOf 97 = .ok (.if_icmp .ne 24, 3) := by decide +kernel
theorem dX4_worthOf_100 : decode cX4_worthOf 100 = .ok (.iload 6, 2) := by decide +kernel
theorem dX4_worthOf_102 : decode cX4_worthOf 102 = .ok (.ifCond .ne 8, 3) := by decide +kernel
theorem dX4_worthOf_105 : decode cX4_worthOf 105 = .ok (.iload 5, 2) := by decide +kernel
theorem dX4_worthOf_107 : decode cX4_worthOf 107 = .ok (.goto 13, 3) := by decide +kernel
theorem dX4_worthOf_110 : decode cX4_worthOf 110 = .ok (.iload 5, 2) := by decide +kernel
theorem dX4_worthOf_112 : decode cX4_worthOf 112 = .ok (.iconst 2, 1) := by decide +kernel
theorem dX4_worthOf_113 : decode cX4_worthOf 113 = .ok (.iload_n 2, 1) := by decide +kernel
theorem dX4_worthOf_114 : decode cX4_worthOf 114 = .ok (.iconst 0, 1) := by decide +kernel
theorem dX4_worthOf_115 : decode cX4_worthOf 115 = .ok (.invokestatic 122, 3) := by decide +kernel
theorem dX4_worthOf_118 : decode cX4_worthOf 118 = .ok (.imul, 1) := by decide +kernel
theorem dX4_worthOf_119 : decode cX4_worthOf 119 = .ok (.isub, 1) := by decide +kernel
theorem dX4_worthOf_120 : decode cX4_worthOf 120 = .ok (.ireturn, 1) := by decide +kernel
theorem dX4_worthOf_121 : decode cX4_worthOf 121 = .ok (.iload 6, 2) := by decide +kernel
theorem dX4_worthOf_123 : decode cX4_worthOf 123 = .ok (.iconst 1, 1) := by decide +kernel
theorem dX4_worthOf_124 : decode cX4_worthOf 124 = .ok (.invokestatic 118, 3) := by decide +kernel
theorem dX4_worthOf_127 : decode cX4_worthOf 127 = .ok (.ifCond .eq 50, 3) := by decide +kernel
theorem dX4_worthOf_130 : decode cX4_worthOf 130 = .ok (.aload_n 0, 1) := by decide +kernel
theorem dX4_worthOf_131 : decode cX4_worthOf 131 = .ok (.iload_n 1, 1) := by decide +kernel
theorem dX4_worthOf_132 : decode cX4_worthOf 132 = .ok (.iload_n 2, 1) := by decide +kernel
theorem dX4_worthOf_133 : decode cX4_worthOf 133 = .ok (.iconst 1, 1) := by decide +kernel
theorem dX4_worthOf_134 : decode cX4_worthOf 134 = .ok (.invokevirtual 128, 3) := by decide +kernel
theorem dX4_worthOf_137 : decode cX4_worthOf 137 = .ok (.istore 7, 2) := by decide +kernel
theorem dX4_worthOf_139 : decode cX4_worthOf 139 = .ok (.iload 5, 2) := by decide +kernel
theorem dX4_worthOf_141 : decode cX4_worthOf 141 = .ok (.iload 7, 2) := by decide +kernel
theorem dX4_worthOf_143 : decode cX4_worthOf 143 = .ok (.ifCond .ge 7, 3) := by decide +kernel
theorem dX4_worthOf_146 : decode cX4_worthOf 146 = .ok (.iconst 0, 1) := by decide +kernel
theorem dX4_worthOf_147 : decode cX4_worthOf 147 = .ok (.goto 12, 3) := by decide +kernel
theorem dX4_worthOf_150 : decode cX4_worthOf 150 = .ok (.iconst 0, 1) := by decide +kernel
theorem dX4_worthOf_151 : decode cX4_worthOf 151 = .ok (.bipush 20, 2) := by decide +kernel
theorem dX4_worthOf_153 : decode cX4_worthOf 153 = .ok (.iload 7, 2) := by decide +kernel
theorem dX4_worthOf_155 : decode cX4_worthOf 155 = .ok (.isub, 1) := by decide +kernel
theorem dX4_worthOf_156 : decode cX4_worthOf 156 = .ok (.invokestatic 132, 3) := by decide +kernel
theorem dX4_worthOf_159 : decode cX4_worthOf 159 = .ok (.iadd, 1) := by decide +kernel
theorem dX4_worthOf_160 : decode cX4_worthOf 160 = .ok (.iload 6, 2) := by decide +kernel
theorem dX4_worthOf_162 : decode cX4_worthOf 162 = .ok (.bipush 6, 2) := by decide +kernel
theorem dX4_worthOf_164 : decode cX4_worthOf 164 = .ok (.if_icmp .ne 10, 3) := by decide +kernel
theorem dX4_worthOf_167 : decode cX4_worthOf 167 = .ok (.iconst 2, 1) := by decide +kernel
theorem dX4_worthOf_168 : decode cX4_worthOf 168 = .ok (.iload 4, 2) := by decide +kernel
theorem dX4_worthOf_170 : decode cX4_worthOf 170 = .ok (.imul, 1) := by decide +kernel
theorem dX4_worthOf_171 : decode cX4_worthOf 171 = .ok (.goto 4, 3) := by decide +kernel
theorem dX4_worthOf_174 : decode cX4_worthOf 174 = .ok (.iconst 0, 1) := by decide +kernel
theorem dX4_worthOf_175 : decode cX4_worthOf 175 = .ok (.iadd, 1) := by decide +kernel
theorem dX4_worthOf_176 : decode cX4_worthOf 176 = .ok (.ireturn, 1) := by decide +kernel
theorem dX4_worthOf_177 : decode cX4_worthOf 177 = .ok (.iload 5, 2) := by decide +kernel
theorem dX4_worthOf_179 : decode cX4_worthOf 179 = .ok (.iconst 0, 1) := by decide +kernel
theorem dX4_worthOf_180 : decode cX4_worthOf 180 = .ok (.aload_n 0, 1) := by decide +kernel
theorem dX4_worthOf_181 : decode cX4_worthOf 181 = .ok (.iload_n 1, 1) := by decide +kernel
theorem dX4_worthOf_182 : decode cX4_worthOf 182 = .ok (.iload_n 2, 1) := by decide +kernel
theorem dX4_worthOf_183 : decode cX4_worthOf 183 = .ok (.iconst 0, 1) := by decide +kernel
theorem dX4_worthOf_184 : decode cX4_worthOf 184 = .ok (.invokevirtual 128, 3) := by decide +kernel
theorem dX4_worthOf_187 : decode cX4_worthOf 187 = .ok (.invokestatic 132, 3) := by decide +kernel
theorem dX4_worthOf_190 : decode cX4_worthOf 190 = .ok (.iadd, 1) := by decide +kernel
theorem dX4_worthOf_191 : decode cX4_worthOf 191 = .ok (.istore 7, 2) := by decide +kernel
theorem dX4_worthOf_193 : decode cX4_worthOf 193 = .ok (.iload 7, 2) := by decide +kernel
theorem dX4_worthOf_195 : decode cX4_worthOf 195 = .ok (.bipush 7, 2) := by decide +kernel
theorem dX4_worthOf_197 : decode cX4_worthOf 197 = .ok (.iadd, 1) := by decide +kernel
theorem dX4_worthOf_198 : decode cX4_worthOf 198 = .ok (.iload_n 2, 1) := by decide +kernel
theorem dX4_worthOf_199 : decode cX4_worthOf 199 = .ok (.bipush 8, 2) := by decide +kernel
theorem dX4_worthOf_201 : decode cX4_worthOf 201 = .ok (.idiv, 1) := by decide +kernel
theorem dX4_worthOf_202 : decode cX4_worthOf 202 = .ok (.isub, 1) := by decide +kernel
theorem dX4_worthOf_203 : decode cX4_worthOf 203 = .ok (.istore 8, 2) := by decide +kernel
theorem dX4_worthOf_205 : decode cX4_worthOf 205 = .ok (.iload 6, 2) := by decide +kernel
theorem dX4_worthOf_207 : decode cX4_worthOf 207 = .ok (.iconst 2, 1) := by decide +kernel
theorem dX4_worthOf_208 : decode cX4_worthOf 208 = .ok (.if_icmp .ne 8, 3) := by decide +kernel
theorem dX4_worthOf_211 : decode cX4_worthOf 211 = .ok (.iload 7, 2) := by decide +kernel
theorem dX4_worthOf_213 : decode cX4_worthOf 213 = .ok (.goto 18, 3) := by decide +kernel
theorem dX4_worthOf_216 : decode cX4_worthOf 216 = .ok (.iload 6, 2) := by decide +kernel
theorem dX4_worthOf_218 : decode cX4_worthOf 218 = .ok (.iconst 3, 1) := by decide +kernel
theorem dX4_worthOf_219 : decode cX4_worthOf 219 = .ok (.if_icmp .ne 8, 3) := by decide +kernel
theorem dX4_worthOf_222 : decode cX4_worthOf 222 = .ok (.iload 8, 2) := by decide +kernel
theorem dX4_worthOf_224 : decode cX4_worthOf 224 = .ok (.goto 7, 3) := by decide +kernel
theorem dX4_worthOf_227 : decode cX4_worthOf 227 = .ok (.iconst 2, 1) := by decide +kernel
theorem dX4_worthOf_228 : decode cX4_worthOf 228 = .ok (.iload 8, 2) := by decide +kernel
theorem dX4_worthOf_230 : decode cX4_worthOf 230 = .ok (.imul, 1) := by decide +kernel
theorem dX4_worthOf_231 : decode cX4_worthOf 231 = .ok (.ireturn, 1) := by decide +kernel
theorem dX4_nextOf_0 : decode cX4_nextOf 0 = .ok (.aload_n 0, 1) := by decide +kernel
theorem dX4_nextOf_1 : decode cX4_nextOf 1 = .ok (.iload_n 1, 1) := by decide +kernel
theorem dX4_nextOf_2 : decode cX4_nextOf 2 = .ok (.iconst 1, 1) := by decide +kernel
theorem dX4_nextOf_3 : decode cX4_nextOf 3 = .ok (.invokevirtual 101, 3) := by decide +kernel
theorem dX4_nextOf_6 : decode cX4_nextOf 6 = .ok (.istore_n 2, 1) := by decide +kernel
theorem dX4_nextOf_7 : decode cX4_nextOf 7 = .ok (.aload_n 0, 1) := by decide +kernel
theorem dX4_nextOf_8 : decode cX4_nextOf 8 = .ok (.iload_n 1, 1) := by decide +kernel
theorem dX4_nextOf_9 : decode cX4_nextOf 9 = .ok (.iload_n 2, 1) := by decide +kernel
theorem dX4_nextOf_10 : decode cX4_nextOf 10 = .ok (.invokevirtual 135, 3) := by decide +kernel
theorem dX4_nextOf_13 : decode cX4_nextOf 13 = .ok (.istore_n 3, 1) := by decide +kernel
theorem dX4_nextOf_14 : decode cX4_nextOf 14 = .ok (.iconst 0, 1) := by decide +kernel
theorem dX4_nextOf_15 : decode cX4_nextOf 15 = .ok (.istore 4, 2) := by decide +kernel
theorem dX4_nextOf_17 : decode cX4_nextOf 17 = .ok (.iload 4, 2) := by decide +kernel
theorem dX4_nextOf_19 : decode cX4_nextOf 19 = .ok (.iconst 4, 1) := by decide +kernel
theorem dX4_nextOf_20 : decode cX4_nextOf 20 = .ok (.if_icmp .ge 61, 3) := by decide +kernel
theorem dX4_nextOf_23 : decode cX4_nextOf 23 = .ok (.aload_n 0, 1) := by decide +kernel
theorem dX4_nextOf_24 : decode cX4_nextOf 24 = .ok (.aload_n 0, 1) := by decide +kernel
theorem dX4_nextOf_25 : decode cX4_nextOf 25 = .ok (.iload_n 1, 1) := by decide +kernel
theorem dX4_nextOf_26 : decode cX4_nextOf 26 = .ok (.iconst 1, 1) := by decide +kernel
theorem dX4_nextOf_27 : decode cX4_nextOf 27 = .ok (.invokevirtual 101, 3) := by decide +kernel
theorem dX4_nextOf_30 : decode cX4_nextOf 30 = .ok (.iload 4, 2) := by decide +kernel
theorem dX4_nextOf_32 : decode cX4_nextOf 32 = .ok (.invokevirtual 138, 3) := by decide +kernel
theorem dX4_nextOf_35 : decode cX4_nextOf 35 = .ok (.istore 5, 2) := by decide +kernel
theorem dX4_nextOf_37 : decode cX4_nextOf 37 = .ok (.iload 5, 2) := by decide +kernel
theorem dX4_nextOf_39 : decode cX4_nextOf 39 = .ok (.ifCond .ge 7, 3) := by decide +kernel
theorem dX4_nextOf_42 : decode cX4_nextOf 42 = .ok (.iload_n 3, 1) := by decide +kernel
theorem dX4_nextOf_43 : decode cX4_nextOf 43 = .ok (.goto 10, 3) := by decide +kernel
theorem dX4_nextOf_46 : decode cX4_nextOf 46 = .ok (.aload_n 0, 1) := by decide +kernel
theorem dX4_nextOf_47 : decode cX4_nextOf 47 = .ok (.iload_n 1, 1) := by decide +kernel
theorem dX4_nextOf_48 : decode cX4_nextOf 48 = .ok (.iload 5, 2) := by decide +kernel
theorem dX4_nextOf_50 : decode cX4_nextOf 50 = .ok (.invokevirtual 135, 3) := by decide +kernel
theorem dX4_nextOf_53 : decode cX4_nextOf 53 = .ok (.istore 6, 2) := by decide +kernel
theorem dX4_nextOf_55 : decode cX4_nextOf 55 = .ok (.iload 6, 2) := by decide +kernel
theorem dX4_nextOf_57 : decode cX4_nextOf 57 = .ok (.iload_n 3, 1) := by decide +kernel
theorem dX4_nextOf_58 : decode cX4_nextOf 58 = .ok (.if_icmp .le 8, 3) := by decide +kernel
theorem dX4_nextOf_61 : decode cX4_nextOf 61 = .ok (.iload 5, 2) := by decide +kernel
theorem dX4_nextOf_63 : decode cX4_nextOf 63 = .ok (.goto 4, 3) := by decide +kernel
theorem dX4_nextOf_66 : decode cX4_nextOf 66 = .ok (.iload_n 2, 1) := by decide +kernel
theorem dX4_nextOf_67 : decode cX4_nextOf 67 = .ok (.istore_n 2, 1) := by decide +kernel
theorem dX4_nextOf_68 : decode cX4_nextOf 68 = .ok (.iload_n 3, 1) := by decide +kernel
theorem dX4_nextOf_69 : decode cX4_nextOf 69 = .ok (.iload 6, 2) := by decide +kernel
theorem dX4_nextOf_71 : decode cX4_nextOf 71 = .ok (.invokestatic 132, 3) := by decide +kernel
theorem dX4_nextOf_74 : decode cX4_nextOf 74 = .ok (.istore_n 3, 1) := by decide +kernel
theorem dX4_nextOf_75 : decode cX4_nextOf 75 = .ok (.iinc 4 1, 3) := by decide +kernel
theorem dX4_nextOf_78 : decode cX4_nextOf 78 = .ok (.goto (-61), 3) := by decide +kernel
theorem dX4_nextOf_81 : decode cX4_nextOf 81 = .ok (.iload_n 2, 1) := by decide +kernel
theorem dX4_nextOf_82 : decode cX4_nextOf 82 = .ok (.ireturn, 1) := by decide +kernel
theorem dX4_of_0 : decode cX4_of 0 = .ok (.aload_n 0, 1) := by decide +kernel
theorem dX4_of_1 : decode cX4_of 1 = .ok (.iload_n 1, 1) := by decide +kernel
theorem dX4_of_2 : decode cX4_of 2 = .ok (.invokevirtual 141, 3) := by decide +kernel
theorem dX4_of_5 : decode cX4_of 5 = .ok (.ifCond .eq 13, 3) := by decide +kernel
theorem dX4_of_8 : decode cX4_of 8 = .ok (.iload_n 2, 1) := by decide +kernel
theorem dX4_of_9 : decode cX4_of 9 = .ok (.iconst 0, 1) := by decide +kernel
theorem dX4_of_10 : decode cX4_of 10 = .ok (.bipush 6, 2) := by decide +kernel
theorem dX4_of_12 : decode cX4_of 12 = .ok (.invokestatic 74, 3) := by decide +kernel
theorem dX4_of_15 : decode cX4_of 15 = .ok (.ifCond .ne 10, 3) := by decide +kernel
theorem dX4_of_18 : decode cX4_of 18 = .ok (.aload_n 0, 1) := by decide +kernel
theorem dX4_of_19 : decode cX4_of 19 = .ok (.ldc 69, 2) := by decide +kernel
theorem dX4_of_21 : decode cX4_of 21 = .ok (.invokevirtual 88, 3) := by decide +kernel
theorem dX4_of_24 : decode cX4_of 24 = .ok (.ireturn, 1) := by decide +kernel
theorem dX4_of_25 : decode cX4_of 25 = .ok (.iload_n 2, 1) := by decide +kernel
theorem dX4_of_26 : decode cX4_of 26 = .ok (.iconst 5, 1) := by decide +kernel
theorem dX4_of_27 : decode cX4_of 27 = .ok (.if_icmp .ge 12, 3) := by decide +kernel
theorem dX4_of_30 : decode cX4_of 30 = .ok (.aload_n 0, 1) := by decide +kernel
theorem dX4_of_31 : decode cX4_of 31 = .ok (.iload_n 1, 1) := by decide +kernel
theorem dX4_of_32 : decode cX4_of 32 = .ok (.iload_n 2, 1) := by decide +kernel
theorem dX4_of_33 : decode cX4_of 33 = .ok (.invokevirtual 101, 3) := by decide +kernel
theorem dX4_of_36 : decode cX4_of 36 = .ok (.goto 27, 3) := by decide +kernel
theorem dX4_of_39 : decode cX4_of 39 = .ok (.iload_n 2, 1) := by decide +kernel
theorem dX4_of_40 : decode cX4_of 40 = .ok (.iconst 5, 1) := by decide +kernel
theorem dX4_of_41 : decode cX4_of 41 = .ok (.if_icmp .ne 11, 3) := by decide +kernel
theorem dX4_of_44 : decode cX4_of 44 = .ok (.aload_n 0, 1) := by decide +kernel
theorem dX4_of_45 : decode cX4_of 45 = .ok (.iload_n 1, 1) := by decide +kernel
theorem dX4_of_46 : decode cX4_of 46 = .ok (.invokevirtual 144, 3) := by decide +kernel
theorem dX4_of_49 : decode cX4_of 49 = .ok (.goto 14, 3) := by decide +kernel
theorem dX4_of_52 : decode cX4_of 52 = .ok (.aload_n 0, 1) := by decide +kernel
theorem dX4_of_53 : decode cX4_of 53 = .ok (.iload_n 1, 1) := by decide +kernel
theorem dX4_of_54 : decode cX4_of 54 = .ok (.aload_n 0, 1) := by decide +kernel
theorem dX4_of_55 : decode cX4_of 55 = .ok (.iload_n 1, 1) := by decide +kernel
theorem dX4_of_56 : decode cX4_of 56 = .ok (.iconst 1, 1) := by decide +kernel
theorem dX4_of_57 : decode cX4_of 57 = .ok (.invokevirtual 101, 3) := by decide +kernel
theorem dX4_of_60 : decode cX4_of 60 = .ok (.invokevirtual 135, 3) := by decide +kernel
theorem dX4_of_63 : decode cX4_of 63 = .ok (.ireturn, 1) := by decide +kernel
theorem dX4_mayBe_0 : decode cX4_mayBe 0 = .ok (.iload_n 0, 1) := by decide +kernel
theorem dX4_mayBe_1 : decode cX4_mayBe 1 = .ok (.tableswitch 68 0 4 #[35, 40, 45, 53, 61], 35) := by decide +kernel
theorem dX4_mayBe_36 : decode cX4_mayBe 36 = .ok (.iload_n 1, 1) := by decide +kernel
theorem dX4_mayBe_37 : decode cX4_mayBe 37 = .ok (.invokestatic 104, 3) := by decide +kernel
theorem dX4_mayBe_40 : decode cX4_mayBe 40 = .ok (.ireturn, 1) := by decide +kernel
theorem dX4_mayBe_41 : decode cX4_mayBe 41 = .ok (.iload_n 1, 1) := by decide +kernel
theorem dX4_mayBe_42 : decode cX4_mayBe 42 = .ok (.invokestatic 84, 3) := by decide +kernel
theorem dX4_mayBe_45 : decode cX4_mayBe 45 = .ok (.ireturn, 1) := by decide +kernel
theorem dX4_mayBe_46 : decode cX4_mayBe 46 = .ok (.iload_n 1, 1) := by decide +kernel
theorem dX4_mayBe_47 : decode cX4_mayBe 47 = .ok (.iconst 0, 1) := by decide +kernel
theorem dX4_mayBe_48 : decode cX4_mayBe 48 = .ok (.bipush 11, 2) := by decide +kernel
theorem dX4_mayBe_50 : decode cX4_mayBe 50 = .ok (.invokestatic 74, 3) := by decide +kernel
theorem dX4_mayBe_53 : decode cX4_mayBe 53 = .ok (.ireturn, 1) := by decide +kernel
theorem dX4_mayBe_54 : decode cX4_mayBe 54 = .ok (.iload_n 1, 1) := by decide +kernel
theorem dX4_mayBe_55 : decode cX4_mayBe 55 = .ok (.iconst 1, 1) := by decide +kernel
theorem dX4_mayBe_56 : decode cX4_mayBe 56 = .ok (.bipush 99, 2) := by decide +kernel
theorem dX4_mayBe_58 : decode cX4_mayBe 58 = .ok (.invokestatic 74, 3) := by decide +kernel
theorem dX4_mayBe_61 : decode cX4_mayBe 61 = .ok (.ireturn, 1) := by decide +kernel
theorem dX4_mayBe_62 : decode cX4_mayBe 62 = .ok (.iload_n 1, 1) := by decide +kernel
theorem dX4_mayBe_63 : decode cX4_mayBe 63 = .ok (.iconst 0, 1) := by decide +kernel
theorem dX4_mayBe_64 : decode cX4_mayBe 64 = .ok (.iconst 1, 1) := by decide +kernel
theorem dX4_mayBe_65 : decode cX4_mayBe 65 = .ok (.invokestatic 74, 3) := by decide +kernel
theorem dX4_mayBe_68 : decode cX4_mayBe 68 = .ok (.ireturn, 1) := by decide +kernel
theorem dX4_mayBe_69 : decode cX4_mayBe 69 = .ok (.iconst 0, 1) := by decide +kernel
theorem dX4_mayBe_70 : decode cX4_mayBe 70 = .ok (.ireturn, 1) := by decide +kernel
theorem dX4_change_0 : decode cX4_change 0 = .ok (.aload_n 0, 1) := by decide +kernel
theorem dX4_change_1 : decode cX4_change 1 = .ok (.iload_n 1, 1) := by decide +kernel
theorem dX4_change_2 : decode cX4_change 2 = .ok (.invokevirtual 141, 3) := by decide +kernel
theorem dX4_change_5 : decode cX4_change 5 = .ok (.ifCond .eq 24, 3) := by decide +kernel
theorem dX4_change_8 : decode cX4_change 8 = .ok (.iload_n 2, 1) := by decide +kernel
theorem dX4_change_9 : decode cX4_change 9 = .ok (.iload_n 3, 1) := by decide +kernel
theorem dX4_change_10 : decode cX4_change 10 = .ok (.invokestatic 147, 3) := by decide +kernel
theorem dX4_change_13 : decode cX4_change 13 = .ok (.ifCond .eq 16, 3) := by decide +kernel
theorem dX4_change_16 : decode cX4_change 16 = .ok (.aload_n 0, 1) := by decide +kernel
theorem dX4_change_17 : decode cX4_change 17 = .ok (.iload_n 1, 1) := by decide +kernel
theorem dX4_change_18 : decode cX4_change 18 = .ok (.iload_n 2, 1) := by decide +kernel
theorem dX4_change_19 : decode cX4_change 19 = .ok (.invokestatic 98, 3) := by decide +kernel
theorem dX4_change_22 : decode cX4_change 22 = .ok (.iload_n 3, 1) := by decide +kernel
theorem dX4_change_23 : decode cX4_change 23 = .ok (.invokevirtual 91, 3) := by decide +kernel
theorem dX4_change_26 : decode cX4_change 26 = .ok (.goto 9, 3) := by decide +kernel
theorem dX4_change_29 : decode cX4_change 29 = .ok (.aload_n 0, 1) := by decide +kernel
theorem dX4_change_30 : decode cX4_change 30 = .ok (.ldc 69, 2) := by decide +kernel
theorem dX4_change_32 : decode cX4_change 32 = .ok (.invokevirtual 88, 3) := by decide +kernel
theorem dX4_change_35 : decode cX4_change 35 = .ok (.ireturn, 1) := by decide +kernel
theorem dX4_worth_0 : decode cX4_worth 0 = .ok (.aload_n 0, 1) := by decide +kernel
theorem dX4_worth_1 : decode cX4_worth 1 = .ok (.iload_n 1, 1) := by decide +kernel
theorem dX4_worth_2 : decode cX4_worth 2 = .ok (.invokevirtual 141, 3) := by decide +kernel
theorem dX4_worth_5 : decode cX4_worth 5 = .ok (.ifCond .eq 19, 3) := by decide +kernel
theorem dX4_worth_8 : decode cX4_worth 8 = .ok (.iload_n 2, 1) := by decide +kernel
theorem dX4_worth_9 : decode cX4_worth 9 = .ok (.invokestatic 84, 3) := by decide +kernel
theorem dX4_worth_12 : decode cX4_worth 12 = .ok (.ifCond .eq 12, 3) := by decide +kernel
theorem dX4_worth_15 : decode cX4_worth 15 = .ok (.aload_n 0, 1) := by decide +kernel
theorem dX4_worth_16 : decode cX4_worth 16 = .ok (.iload_n 1, 1) := by decide +kernel
theorem dX4_worth_17 : decode cX4_worth 17 = .ok (.iload_n 2, 1) := by decide +kernel
theorem dX4_worth_18 : decode cX4_worth 18 = .ok (.invokevirtual 135, 3) := by decide +kernel
theorem dX4_worth_21 : decode cX4_worth 21 = .ok (.goto 9, 3) := by decide +kernel
theorem dX4_worth_24 : decode cX4_worth 24 = .ok (.aload_n 0, 1) := by decide +kernel
theorem dX4_worth_25 : decode cX4_worth 25 = .ok (.ldc 69, 2) := by decide +kernel
theorem dX4_worth_27 : decode cX4_worth 27 = .ok (.invokevirtual 88, 3) := by decide +kernel
theorem dX4_worth_30 : decode cX4_worth 30 = .ok (.ireturn, 1) := by decide +kernel
theorem dX4_loudOf_0 : decode cX4_loudOf 0 = .ok (.iconst 0, 1) := by decide +kernel
theorem dX4_loudOf_1 : decode cX4_loudOf 1 = .ok (.iload_n 1, 1) := by decide +kernel
theorem dX4_loudOf_2 : decode cX4_loudOf 2 = .ok (.iconst 3, 1) := by decide +kernel
theorem dX4_loudOf_3 : decode cX4_loudOf 3 = .ok (.iload_n 2, 1) := by decide +kernel
theorem dX4_loudOf_4 : decode cX4_loudOf 4 = .ok (.iload_n 3, 1) := by decide +kernel
theorem dX4_loudOf_5 : decode cX4_loudOf 5 = .ok (.invokestatic 122, 3) := by decide +kernel
theorem dX4_loudOf_8 : decode cX4_loudOf 8 = .ok (.imul, 1) := by decide +kernel
theorem dX4_loudOf_9 : decode cX4_loudOf 9 = .ok (.isub, 1) := by decide +kernel
theorem dX4_loudOf_10 : decode cX4_loudOf 10 = .ok (.invokestatic 132, 3) := by decide +kernel
theorem dX4_loudOf_13 : decode cX4_loudOf 13 = .ok (.ireturn, 1) := by decide +kernel
theorem dX4_loudAt_0 : decode cX4_loudAt 0 = .ok (.aload_n 0, 1) := by decide +kernel
theorem dX4_loudAt_1 : decode cX4_loudAt 1 = .ok (.aload_n 0, 1) := by decide +kernel
theorem dX4_loudAt_2 : decode cX4_loudAt 2 = .ok (.iload_n 1, 1) := by decide +kernel
theorem dX4_loudAt_3 : decode cX4_loudAt 3 = .ok (.iconst 3, 1) := by decide +kernel
theorem dX4_loudAt_4 : decode cX4_loudAt 4 = .ok (.invokevirtual 101, 3) := by decide +kernel
theorem dX4_loudAt_7 : decode cX4_loudAt 7 = .ok (.aload_n 0, 1) := by decide +kernel
theorem dX4_loudAt_8 : decode cX4_loudAt 8 = .ok (.iload_n 1, 1) := by decide +kernel
theorem dX4_loudAt_9 : decode cX4_loudAt 9 = .ok (.iconst 1, 1) := by decide +kernel
theorem dX4_loudAt_10 : decode cX4_loudAt 10 = .ok (.invokevirtual 101, 3) := by decide +kernel
theorem dX4_loudAt_13 : decode cX4_loudAt 13 = .ok (.iload_n 2, 1) := by decide +kernel
theorem dX4_loudAt_14 : decode cX4_loudAt 14 = .ok (.invokevirtual 150, 3) := by decide +kernel
theorem dX4_loudAt_17 : decode cX4_loudAt 17 = .ok (.ireturn, 1) := by decide +kernel
theorem dX4_heardAt_0 : decode cX4_heardAt 0 = .ok (.iconst 0, 1) := by decide +kernel
theorem dX4_heardAt_1 : decode cX4_heardAt 1 = .ok (.istore_n 2, 1) := by decide +kernel
theorem dX4_heardAt_2 : decode cX4_heardAt 2 = .ok (.iconst 0, 1) := by decide +kernel
theorem dX4_heardAt_3 : decode cX4_heardAt 3 = .ok (.istore_n 3, 1) := by decide +kernel
theorem dX4_heardAt_4 : decode cX4_heardAt 4 = .ok (.iload_n 3, 1) := by decide +kernel
theorem dX4_heardAt_5 : decode cX4_heardAt 5 = .ok (.aload_n 0, 1) := by decide +kernel
theorem dX4_heardAt_6 : decode cX4_heardAt 6 = .ok (.getfield 9, 3) := by decide +kernel
theorem dX4_heardAt_9 : decode cX4_heardAt 9 = .ok (.iconst 2, 1) := by decide +kernel
theorem dX4_heardAt_10 : decode cX4_heardAt 10 = .ok (.iaload, 1) := by decide +kernel
theorem dX4_heardAt_11 : decode cX4_heardAt 11 = .ok (.if_icmp .ge 32, 3) := by decide +kernel
theorem dX4_heardAt_14 : decode cX4_heardAt 14 = .ok (.aload_n 0, 1) := by decide +kernel
theorem dX4_heardAt_15 : decode cX4_heardAt 15 = .ok (.iload_n 3, 1) := by decide +kernel
theorem dX4_heardAt_16 : decode cX4_heardAt 16 = .ok (.invokevirtual 115, 3) := by decide +kernel
theorem dX4_heardAt_19 : decode cX4_heardAt 19 = .ok (.ifCond .eq 7, 3) := by decide +kernel
theorem dX4_heardAt_22 : decode cX4_heardAt 22 = .ok (.iload_n 2, 1) := by decide +kernel
theorem dX4_heardAt_23 : decode cX4_heardAt 23 = .ok (.goto 13, 3) := by decide +kernel
theorem dX4_heardAt_26 : decode cX4_heardAt 26 = .ok (.iload_n 2, 1) := by decide +kernel
theorem dX4_heardAt_27 : decode cX4_heardAt 27 = .ok (.aload_n 0, 1) := by decide +kernel
theorem dX4_heardAt_28 : decode cX4_heardAt 28 = .ok (.iload_n 3, 1) := by decide +kernel
theorem dX4_heardAt_29 : decode cX4_heardAt 29 = .ok (.iload_n 1, 1) := by decide +kernel
theorem dX4_heardAt_30 : decode cX4_heardAt 30 = .ok (.invokevirtual 153, 3) := by decide +kernel
theorem dX4_heardAt_33 : decode cX4_heardAt 33 = .ok (.invokestatic 132, 3) := by decide +kernel
theorem dX4_heardAt_36 : decode cX4_heardAt 36 = .ok (.istore_n 2, 1) := by decide +kernel
theorem dX4_heardAt_37 : decode cX4_heardAt 37 = .ok (.iinc 3 1, 3) := by decide +kernel
theorem dX4_heardAt_40 : decode cX4_heardAt 40 = .ok (.goto (-36), 3) := by decide +kernel
theorem dX4_heardAt_43 : decode cX4_heardAt 43 = .ok (.iload_n 2, 1) := by decide +kernel
theorem dX4_heardAt_44 : decode cX4_heardAt 44 = .ok (.ireturn, 1) := by decide +kernel
theorem dX4_manyAt_0 : decode cX4_manyAt 0 = .ok (.iconst 0, 1) := by decide +kernel
theorem dX4_manyAt_1 : decode cX4_manyAt 1 = .ok (.istore_n 2, 1) := by decide +kernel
theorem dX4_manyAt_2 : decode cX4_manyAt 2 = .ok (.iconst 0, 1) := by decide +kernel
theorem dX4_manyAt_3 : decode cX4_manyAt 3 = .ok (.istore_n 3, 1) := by decide +kernel
theorem dX4_manyAt_4 : decode cX4_manyAt 4 = .ok (.iload_n 3, 1) := by decide +kernel
theorem dX4_manyAt_5 : decode cX4_manyAt 5 = .ok (.aload_n 0, 1) := by decide +kernel
theorem dX4_manyAt_6 : decode cX4_manyAt 6 = .ok (.getfield 9, 3) := by decide +kernel
theorem dX4_manyAt_9 : decode cX4_manyAt 9 = .ok (.iconst 2, 1) := by decide +kernel
theorem dX4_manyAt_10 : decode cX4_manyAt 10 = .ok (.iaload, 1) := by decide +kernel
theorem dX4_manyAt_11 : decode cX4_manyAt 11 = .ok (.if_icmp .ge 27, 3) := by decide +kernel
theorem dX4_manyAt_14 : decode cX4_manyAt 14 = .ok (.iload_n 2, 1) := by decide +kernel
theorem dX4_manyAt_15 : decode cX4_manyAt 15 = .ok (.aload_n 0, 1) := by decide +kernel
theorem dX4_manyAt_16 : decode cX4_manyAt 16 = .ok (.iload_n 3, 1) := by decide +kernel
theorem dX4_manyAt_17 : decode cX4_manyAt 17 = .ok (.iconst 1, 1) := by decide +kernel
theorem dX4_manyAt_18 : decode cX4_manyAt 18 = .ok (.invokevirtual 101, 3) := by decide +kernel
theorem dX4_manyAt_21 : decode cX4_manyAt 21 = .ok (.iload_n 1, 1) := by decide +kernel
theorem dX4_manyAt_22 : decode cX4_manyAt 22 = .ok (.if_icmp .ne 7, 3) := by decide +kernel
theorem dX4_manyAt_25 : decode cX4_manyAt 25 = .ok (.iconst 1, 1) := by decide +kernel
theorem dX4_manyAt_26 : decode cX4_manyAt 26 = .ok (.goto 4, 3) := by decide +kernel
theorem dX4_manyAt_29 : decode cX4_manyAt 29 = .ok (.iconst 0, 1) := by decide +kernel
theorem dX4_manyAt_30 : decode cX4_manyAt 30 = .ok (.iadd, 1) := by decide +kernel
theorem dX4_manyAt_31 : decode cX4_manyAt 31 = .ok (.istore_n 2, 1) := by decide +kernel
theorem dX4_manyAt_32 : decode cX4_manyAt 32 = .ok (.iinc 3 1, 3) := by decide +kernel
theorem dX4_manyAt_35 : decode cX4_manyAt 35 = .ok (.goto (-31), 3) := by decide +kernel
theorem dX4_manyAt_38 : decode cX4_manyAt 38 = .ok (.iload_n 2, 1) := by decide +kernel
theorem dX4_manyAt_39 : decode cX4_manyAt 39 = .ok (.ireturn, 1) := by decide +kernel
theorem dX4_cell_0 : decode cX4_cell 0 = .ok (.iload_n 1, 1) := by decide +kernel
theorem dX4_cell_1 : decode cX4_cell 1 = .ok (.invokestatic 84, 3) := by decide +kernel
theorem dX4_cell_4 : decode cX4_cell 4 = .ok (.ifCond .eq 12, 3) := by decide +kernel
theorem dX4_cell_7 : decode cX4_cell 7 = .ok (.iload_n 2, 1) := by decide +kernel
theorem dX4_cell_8 : decode cX4_cell 8 = .ok (.iconst 0, 1) := by decide +kernel
theorem dX4_cell_9 : decode cX4_cell 9 = .ok (.iconst 3, 1) := by decide +kernel
theorem dX4_cell_10 : decode cX4_cell 10 = .ok (.invokestatic 74, 3) := by decide +kernel
theorem dX4_cell_13 : decode cX4_cell 13 = .ok (.ifCond .ne 10, 3) := by decide +kernel
theorem dX4_cell_16 : decode cX4_cell 16 = .ok (.aload_n 0, 1) := by decide +kernel
theorem dX4_cell_17 : decode cX4_cell 17 = .ok (.ldc 69, 2) := by decide +kernel
theorem dX4_cell_19 : decode cX4_cell 19 = .ok (.invokevirtual 88, 3) := by decide +kernel
theorem dX4_cell_22 : decode cX4_cell 22 = .ok (.ireturn, 1) := by decide +kernel
theorem dX4_cell_23 : decode cX4_cell 23 = .ok (.iload_n 2, 1) := by decide +kernel
theorem dX4_cell_24 : decode cX4_cell 24 = .ok (.ifCond .ne 15, 3) := by decide +kernel
theorem dX4_cell_27 : decode cX4_cell 27 = .ok (.aload_n 0, 1) := by decide +kernel
theorem dX4_cell_28 : decode cX4_cell 28 = .ok (.getfield 9, 3) := by decide +kernel
theorem dX4_cell_31 : decode cX4_cell 31 = .ok (.bipush 18, 2) := by decide +kernel
theorem dX4_cell_33 : decode cX4_cell 33 = .ok (.iload_n 1, 1) := by decide +kernel
theorem dX4_cell_34 : decode cX4_cell 34 = .ok (.iadd, 1) := by decide +kernel
theorem dX4_cell_35 : decode cX4_cell 35 = .ok (.iaload, 1) := by decide +kernel
theorem dX4_cell_36 : decode cX4_cell 36 = .ok (.goto 38, 3) := by decide +kernel
theorem dX4_cell_39 : decode cX4_cell 39 = .ok (.iload_n 2, 1) := by decide +kernel
theorem dX4_cell_40 : decode cX4_cell 40 = .ok (.iconst 1, 1) := by decide +kernel
theorem dX4_cell_41 : decode cX4_cell 41 = .ok (.if_icmp .ne 15, 3) := by decide +kernel
theorem dX4_cell_44 : decode cX4_cell 44 = .ok (.aload_n 0, 1) := by decide +kernel
theorem dX4_cell_45 : decode cX4_cell 45 = .ok (.getfield 9, 3) := by decide +kernel
theorem dX4_cell_48 : decode cX4_cell 48 = .ok (.bipush 82, 2) := by decide +kernel
theorem dX4_cell_50 : decode cX4_cell 50 = .ok (.iload_n 1, 1) := by decide +kernel
theorem dX4_cell_51 : decode cX4_cell 51 = .ok (.iadd, 1) := by decide +kernel
theorem dX4_cell_52 : decode cX4_cell 52 = .ok (.iaload, 1) := by decide +kernel
theorem dX4_cell_53 : decode cX4_cell 53 = .ok (.goto 21, 3) := by decide +kernel
theorem dX4_cell_56 : decode cX4_cell 56 = .ok (.iload_n 2, 1) := by decide +kernel
theorem dX4_cell_57 : decode cX4_cell 57 = .ok (.iconst 2, 1) := by decide +kernel
theorem dX4_cell_58 : decode cX4_cell 58 = .ok (.if_icmp .ne 11, 3) := by decide +kernel
theorem dX4_cell_61 : decode cX4_cell 61 = .ok (.aload_n 0, 1) := by decide +kernel
theorem dX4_cell_62 : decode cX4_cell 62 = .ok (.iload_n 1, 1) := by decide +kernel
theorem dX4_cell_63 : decode cX4_cell 63 = .ok (.invokevirtual 156, 3) := by decide +kernel
theorem dX4_cell_66 : decode cX4_cell 66 = .ok (.goto 8, 3) := by decide +kernel
theorem dX4_cell_69 : decode cX4_cell 69 = .ok (.aload_n 0, 1) := by decide +kernel
theorem dX4_cell_70 : decode cX4_cell 70 = .ok (.iload_n 1, 1) := by decide +kernel
theorem dX4_cell_71 : decode cX4_cell 71 = .ok (.invokevirtual 159, 3) := by decide +kernel
theorem dX4_cell_74 : decode cX4_cell 74 = .ok (.ireturn, 1) := by decide +kernel
theorem dX4_caughtNow_0 : decode cX4_caughtNow 0 = .ok (.iconst 0, 1) := by decide +kernel
theorem dX4_caughtNow_1 : decode cX4_caughtNow 1 = .ok (.istore_n 1, 1) := by decide +kernel
theorem dX4_caughtNow_2 : decode cX4_caughtNow 2 = .ok (.iconst 0, 1) := by decide +kernel
theorem dX4_caughtNow_3 : decode cX4_caughtNow 3 = .ok (.istore_n 2, 1) := by decide +kernel
theorem dX4_caughtNow_4 : decode cX4_caughtNow 4 = .ok (.iload_n 2, 1) := by decide +kernel
theorem dX4_caughtNow_5 : decode cX4_caughtNow 5 = .ok (.aload_n 0, 1) := by decide +kernel
theorem dX4_caughtNow_6 : decode cX4_caughtNow 6 = .ok (.getfield 9, 3) := by decide +kernel
theorem dX4_caughtNow_9 : decode cX4_caughtNow 9 = .ok (.iconst 2, 1) := by decide +kernel
theorem dX4_caughtNow_10 : decode cX4_caughtNow 10 = .ok (.iaload, 1) := by decide +kernel
theorem dX4_caughtNow_11 : decode cX4_caughtNow 11 = .ok (.if_icmp .ge 27, 3) := by decide +kernel
theorem dX4_caughtNow_14 : decode cX4_caughtNow 14 = .ok (.iload_n 1, 1) := by decide +kernel
theorem dX4_caughtNow_15 : decode cX4_caughtNow 15 = .ok (.aload_n 0, 1) := by decide +kernel
theorem dX4_caughtNow_16 : decode cX4_caughtNow 16 = .ok (.iload_n 2, 1) := by decide +kernel
theorem dX4_caughtNow_17 : decode cX4_caughtNow 17 = .ok (.invokevirtual 115, 3) := by decide +kernel
theorem dX4_caughtNow_20 : decode cX4_caughtNow 20 = .ok (.ifCond .eq 9, 3) := by decide +kernel
theorem dX4_caughtNow_23 : decode cX4_caughtNow 23 = .ok (.iconst 1, 1) := by decide +kernel
theorem dX4_caughtNow_24 : decode cX4_caughtNow 24 = .ok (.iload_n 2, 1) := by decide +kernel
theorem dX4_caughtNow_25 : decode cX4_caughtNow 25 = .ok (.ishl, 1) := by decide +kernel
theorem dX4_caughtNow_26 : decode cX4_caughtNow 26 = .ok (.goto 4, 3) := by decide +kernel
theorem dX4_caughtNow_29 : decode cX4_caughtNow 29 = .ok (.iconst 0, 1) := by decide +kernel
theorem dX4_caughtNow_30 : decode cX4_caughtNow 30 = .ok (.ior, 1) := by decide +kernel
theorem dX4_caughtNow_31 : decode cX4_caughtNow 31 = .ok (.istore_n 1, 1) := by decide +kernel
theorem dX4_caughtNow_32 : decode cX4_caughtNow 32 = .ok (.iinc 2 1, 3) := by decide +kernel
theorem dX4_caughtNow_35 : decode cX4_caughtNow 35 = .ok (.goto (-31), 3) := by decide +kernel
theorem dX4_caughtNow_38 : decode cX4_caughtNow 38 = .ok (.iload_n 1, 1) := by decide +kernel
theorem dX4_caughtNow_39 : decode cX4_caughtNow 39 = .ok (.ireturn, 1) := by decide +kernel
theorem dX4_hour_0 : decode cX4_hour 0 = .ok (.aload_n 0, 1) := by decide +kernel
theorem dX4_hour_1 : decode cX4_hour 1 = .ok (.iconst 0, 1) := by decide +kernel
theorem dX4_hour_2 : decode cX4_hour 2 = .ok (.putfield 162, 3) := by decide +kernel
theorem dX4_hour_5 : decode cX4_hour 5 = .ok (.iconst 0, 1) := by decide +kernel
theorem dX4_hour_6 : decode cX4_hour 6 = .ok (.istore_n 1, 1) := by decide +kernel
theorem dX4_hour_7 : decode cX4_hour 7 = .ok (.iload_n 1, 1) := by decide +kernel
theorem dX4_hour_8 : decode cX4_hour 8 = .ok (.aload_n 0, 1) := by decide +kernel
theorem dX4_hour_9 : decode cX4_hour 9 = .ok (.getfield 9, 3) := by decide +kernel
theorem dX4_hour_12 : decode cX4_hour 12 = .ok (.iconst 2, 1) := by decide +kernel
theorem dX4_hour_13 : decode cX4_hour 13 = .ok (.iaload, 1) := by decide +kernel
theorem dX4_hour_14 : decode cX4_hour 14 = .ok (.if_icmp .ge 91, 3) := by decide +kernel
theorem dX4_hour_17 : decode cX4_hour 17 = .ok (.aload_n 0, 1) := by decide +kernel
theorem dX4_hour_18 : decode cX4_hour 18 = .ok (.iload_n 1, 1) := by decide +kernel
theorem dX4_hour_19 : decode cX4_hour 19 = .ok (.invokevirtual 115, 3) := by decide +kernel
theorem dX4_hour_22 : decode cX4_hour 22 = .ok (.ifCond .ne 77, 3) := by decide +kernel
theorem dX4_hour_25 : decode cX4_hour 25 = .ok (.aload_n 0, 1) := by decide +kernel
theorem dX4_hour_26 : decode cX4_hour 26 = .ok (.iload_n 1, 1) := by decide +kernel
theorem dX4_hour_27 : decode cX4_hour 27 = .ok (.invokevirtual 144, 3) := by decide +kernel
theorem dX4_hour_30 : decode cX4_hour 30 = .ok (.istore_n 2, 1) := by decide +kernel
theorem dX4_hour_31 : decode cX4_hour 31 = .ok (.aload_n 0, 1) := by decide +kernel
theorem dX4_hour_32 : decode cX4_hour 32 = .ok (.aload_n 0, 1) := by decide +kernel
theorem dX4_hour_33 : decode cX4_hour 33 = .ok (.getfield 162, 3) := by decide +kernel
theorem dX4_hour_36 : decode cX4_hour 36 = .ok (.ifCond .ne 21, 3) := by decide +kernel
theorem dX4_hour_39 : decode cX4_hour 39 = .ok (.iload_n 2, 1) := by decide +kernel
theorem dX4_hour_40 : decode cX4_hour 40 = .ok (.aload_n 0, 1) := by decide +kernel
theorem dX4_hour_41 : decode cX4_hour 41 = .ok (.iload_n 1, 1) := by decide +kernel
theorem dX4_hour_42 : decode cX4_hour 42 = .ok (.iconst 1, 1) := by decide +kernel
theorem dX4_hour_43 : decode cX4_hour 43 = .ok (.invokevirtual 101, 3) := by decide +kernel
theorem dX4_hour_46 : decode cX4_hour 46 = .ok (.if_icmp .ne 11, 3) := by decide +kernel
theorem dX4_hour_49 : decode cX4_hour 49 = .ok (.aload_n 0, 1) := by decide +kernel
theorem dX4_hour_50 : decode cX4_hour 50 = .ok (.iload_n 2, 1) := by decide +kernel
theorem dX4_hour_51 : decode cX4_hour 51 = .ok (.invokevirtual 166, 3) := by decide +kernel
theorem dX4_hour_54 : decode cX4_hour 54 = .ok (.ifCond .eq 7, 3) := by decide +kernel
theorem dX4_hour_57 : decode cX4_hour 57 = .ok (.iconst 1, 1) := by decide +kernel
theorem dX4_hour_58 : decode cX4_hour 58 = .ok (.goto 4, 3) := by decide +kernel
theorem dX4_hour_61 : decode cX4_hour 61 = .ok (.iconst 0, 1) := by decide +kernel
theorem dX4_hour_62 : decode cX4_hour 62 = .ok (.putfield 162, 3) := by decide +kernel
theorem dX4_hour_65 : decode cX4_hour 65 = .ok (.aload_n 0, 1) := by decide +kernel
theorem dX4_hour_66 : decode cX4_hour 66 = .ok (.getfield 9, 3) := by decide +kernel
theorem dX4_hour_69 : decode cX4_hour 69 = .ok (.iload_n 1, 1) := by decide +kernel
theorem dX4_hour_70 : decode cX4_hour 70 = .ok (.iconst 1, 1) := by decide +kernel
theorem dX4_hour_71 : decode cX4_hour 71 = .ok (.invokestatic 98, 3) := by decide +kernel
theorem dX4_hour_74 : decode cX4_hour 74 = .ok (.iload_n 2, 1) := by decide +kernel
theorem dX4_hour_75 : decode cX4_hour 75 = .ok (.iastore, 1) := by decide +kernel
theorem dX4_hour_76 : decode cX4_hour 76 = .ok (.aload_n 0, 1) := by decide +kernel
theorem dX4_hour_77 : decode cX4_hour 77 = .ok (.getfield 9, 3) := by decide +kernel
theorem dX4_hour_80 : decode cX4_hour 80 = .ok (.iload_n 1, 1) := by decide +kernel
theorem dX4_hour_81 : decode cX4_hour 81 = .ok (.iconst 4, 1) := by decide +kernel
theorem dX4_hour_82 : decode cX4_hour 82 = .ok (.invokestatic 98, 3) := by decide +kernel
theorem dX4_hour_85 : decode cX4_hour 85 = .ok (.aload_n 0, 1) := by decide +kernel
theorem dX4_hour_86 : decode cX4_hour 86 = .ok (.iload_n 2, 1) := by decide +kernel
theorem dX4_hour_87 : decode cX4_hour 87 = .ok (.invokevirtual 166, 3) := by decide +kernel
theorem dX4_hour_90 : decode cX4_hour 90 = .ok (.ifCond .eq 7, 3) := by decide +kernel
theorem dX4_hour_93 : decode cX4_hour 93 = .ok (.iconst 1, 1) := by decide +kernel
theorem dX4_hour_94 : decode cX4_hour 94 = .ok (.goto 4, 3) := by decide +kernel
theorem dX4_hour_97 : decode cX4_hour 97 = .ok (.iconst 0, 1) := by decide +kernel
theorem dX4_hour_98 : decode cX4_hour 98 = .ok (.iastore, 1) := by decide +kernel
theorem dX4_hour_99 : decode cX4_hour 99 = .ok (.iinc 1 1, 3) := by decide +kernel
theorem dX4_hour_102 : decode cX4_hour 102 = .ok (.goto (-95), 3) := by decide +kernel
theorem dX4_hour_105 : decode cX4_hour 105 = .ok (.aload_n 0, 1) := by decide +kernel
theorem dX4_hour_106 : decode cX4_hour 106 = .ok (.getfield 9, 3) := by decide +kernel
theorem dX4_hour_109 : decode cX4_hour 109 = .ok (.iconst 0, 1) := by decide +kernel
theorem dX4_hour_110 : decode cX4_hour 110 = .ok (.dup2, 1) := by decide +kernel
theorem dX4_hour_111 : decode cX4_hour 111 = .ok (.iaload, 1) := by decide +kernel
theorem dX4_hour_112 : decode cX4_hour 112 = .ok (.iconst 1, 1) := by decide +kernel
theorem dX4_hour_113 : decode cX4_hour 113 = .ok (.iadd, 1) := by decide +kernel
theorem dX4_hour_114 : decode cX4_hour 114 = .ok (.iastore, 1) := by decide +kernel
theorem dX4_hour_115 : decode cX4_hour 115 = .ok (.return_, 1) := by decide +kernel
theorem dX4_hours_0 : decode cX4_hours 0 = .ok (.iconst 0, 1) := by decide +kernel
theorem dX4_hours_1 : decode cX4_hours 1 = .ok (.istore_n 2, 1) := by decide +kernel
theorem dX4_hours_2 : decode cX4_hours 2 = .ok (.iload_n 2, 1) := by decide +kernel
theorem dX4_hours_3 : decode cX4_hours 3 = .ok (.iload_n 1, 1) := by decide +kernel
theorem dX4_hours_4 : decode cX4_hours 4 = .ok (.if_icmp .ge 13, 3) := by decide +kernel
theorem dX4_hours_7 : decode cX4_hours 7 = .ok (.aload_n 0, 1) := by decide +kernel
theorem dX4_hours_8 : decode cX4_hours 8 = .ok (.invokevirtual 169, 3) := by decide +kernel
theorem dX4_hours_11 : decode cX4_hours 11 = .ok (.iinc 2 1, 3) := by decide +kernel
theorem dX4_hours_14 : decode cX4_hours 14 = .ok (.goto (-12), 3) := by decide +kernel
theorem dX4_hours_17 : decode cX4_hours 17 = .ok (.return_, 1) := by decide +kernel
theorem dX4_go_0 : decode cX4_go 0 = .ok (.iload_n 1, 1) := by decide +kernel
theorem dX4_go_1 : decode cX4_go 1 = .ok (.iconst 1, 1) := by decide +kernel
theorem dX4_go_2 : decode cX4_go 2 = .ok (.bipush 24, 2) := by decide +kernel
theorem dX4_go_4 : decode cX4_go 4 = .ok (.invokestatic 74, 3) := by decide +kernel
theorem dX4_go_7 : decode cX4_go 7 = .ok (.ifCond .ne 10, 3) := by decide +kernel
theorem dX4_go_10 : decode cX4_go 10 = .ok (.aload_n 0, 1) := by decide +kernel
theorem dX4_go_11 : decode cX4_go 11 = .ok (.ldc 69, 2) := by decide +kernel
theorem dX4_go_13 : decode cX4_go 13 = .ok (.invokevirtual 88, 3) := by decide +kernel
theorem dX4_go_16 : decode cX4_go 16 = .ok (.ireturn, 1) := by decide +kernel
theorem dX4_go_17 : decode cX4_go 17 = .ok (.aload_n 0, 1) := by decide +kernel
theorem dX4_go_18 : decode cX4_go 18 = .ok (.getfield 9, 3) := by decide +kernel
theorem dX4_go_21 : decode cX4_go 21 = .ok (.iconst 0, 1) := by decide +kernel
theorem dX4_go_22 : decode cX4_go 22 = .ok (.iaload, 1) := by decide +kernel
theorem dX4_go_23 : decode cX4_go 23 = .ok (.iload_n 1, 1) := by decide +kernel
theorem dX4_go_24 : decode cX4_go 24 = .ok (.iadd, 1) := by decide +kernel
theorem dX4_go_25 : decode cX4_go 25 = .ok (.ldc 172, 2) := by decide +kernel
theorem dX4_go_27 : decode cX4_go 27 = .ok (.if_icmp .le 10, 3) := by decide +kernel
theorem dX4_go_30 : decode cX4_go 30 = .ok (.aload_n 0, 1) := by decide +kernel
theorem dX4_go_31 : decode cX4_go 31 = .ok (.ldc 173, 2) := by decide +kernel
theorem dX4_go_33 : decode cX4_go 33 = .ok (.invokevirtual 88, 3) := by decide +kernel
theorem dX4_go_36 : decode cX4_go 36 = .ok (.ireturn, 1) := by decide +kernel
theorem dX4_go_37 : decode cX4_go 37 = .ok (.aload_n 0, 1) := by decide +kernel
theorem dX4_go_38 : decode cX4_go 38 = .ok (.iload_n 1, 1) := by decide +kernel
theorem dX4_go_39 : decode cX4_go 39 = .ok (.invokevirtual 174, 3) := by decide +kernel
theorem dX4_go_42 : decode cX4_go 42 = .ok (.aload_n 0, 1) := by decide +kernel
theorem dX4_go_43 : decode cX4_go 43 = .ok (.invokevirtual 178, 3) := by decide +kernel
theorem dX4_go_46 : decode cX4_go 46 = .ok (.invokestatic 182, 3) := by decide +kernel
theorem dX4_go_49 : decode cX4_go 49 = .ok (.ireturn, 1) := by decide +kernel
theorem dX4_nets_0 : decode cX4_nets 0 = .ok (.iconst 0, 1) := by decide +kernel
theorem dX4_nets_1 : decode cX4_nets 1 = .ok (.istore_n 1, 1) := by decide +kernel
theorem dX4_nets_2 : decode cX4_nets 2 = .ok (.iconst 0, 1) := by decide +kernel
theorem dX4_nets_3 : decode cX4_nets 3 = .ok (.istore_n 2, 1) := by decide +kernel
theorem dX4_nets_4 : decode cX4_nets 4 = .ok (.iload_n 2, 1) := by decide +kernel
theorem dX4_nets_5 : decode cX4_nets 5 = .ok (.bipush 64, 2) := by decide +kernel
theorem dX4_nets_7 : decode cX4_nets 7 = .ok (.if_icmp .ge 21, 3) := by decide +kernel
theorem dX4_nets_10 : decode cX4_nets 10 = .ok (.iload_n 1, 1) := by decide +kernel
theorem dX4_nets_11 : decode cX4_nets 11 = .ok (.aload_n 0, 1) := by decide +kernel
theorem dX4_nets_12 : decode cX4_nets 12 = .ok (.getfield 9, 3) := by decide +kernel
theorem dX4_nets_15 : decode cX4_nets 15 = .ok (.bipush 18, 2) := by decide +kernel
theorem dX4_nets_17 : decode cX4_nets 17 = .ok (.iload_n 2, 1) := by decide +kernel
theorem dX4_nets_18 : decode cX4_nets 18 = .ok (.iadd, 1) := by decide +kernel
theorem dX4_nets_19 : decode cX4_nets 19 = .ok (.iaload, 1) := by decide +kernel
theorem dX4_nets_20 : decode cX4_nets 20 = .ok (.iadd, 1) := by decide +kernel
theorem dX4_nets_21 : decode cX4_nets 21 = .ok (.istore_n 1, 1) := by decide +kernel
theorem dX4_nets_22 : decode cX4_nets 22 = .ok (.iinc 2 1, 3) := by decide +kernel
theorem dX4_nets_25 : decode cX4_nets 25 = .ok (.goto (-21), 3) := by decide +kernel
theorem dX4_nets_28 : decode cX4_nets 28 = .ok (.iload_n 1, 1) := by decide +kernel
theorem dX4_nets_29 : decode cX4_nets 29 = .ok (.ireturn, 1) := by decide +kernel
theorem dX4_caughtWeight_0 : decode cX4_caughtWeight 0 = .ok (.iconst 0, 1) := by decide +kernel
theorem dX4_caughtWeight_1 : decode cX4_caughtWeight 1 = .ok (.istore_n 1, 1) := by decide +kernel
theorem dX4_caughtWeight_2 : decode cX4_caughtWeight 2 = .ok (.iconst 0, 1) := by decide +kernel
theorem dX4_caughtWeight_3 : decode cX4_caughtWeight 3 = .ok (.istore_n 2, 1) := by decide +kernel
theorem dX4_caughtWeight_4 : decode cX4_caughtWeight 4 = .ok (.iload_n 2, 1) := by decide +kernel
theorem dX4_caughtWeight_5 : decode cX4_caughtWeight 5 = .ok (.aload_n 0, 1) := by decide +kernel
theorem dX4_caughtWeight_6 : decode cX4_caughtWeight 6 = .ok (.getfield 9, 3) := by decide +kernel
theorem dX4_caughtWeight_9 : decode cX4_caughtWeight 9 = .ok (.iconst 2, 1) := by decide +kernel
theorem dX4_caughtWeight_10 : decode cX4_caughtWeight 10 = .ok (.iaload, 1) := by decide +kernel
theorem dX4_caughtWeight_11 : decode cX4_caughtWeight 11 = .ok (.if_icmp .ge 30, 3) := by decide +kernel
theorem dX4_caughtWeight_14 : decode cX4_caughtWeight 14 = .ok (.iload_n 1, 1) := by decide +kernel
theorem dX4_caughtWeight_15 : decode cX4_caughtWeight 15 = .ok (.aload_n 0, 1) := by decide +kernel
theorem dX4_caughtWeight_16 : decode cX4_caughtWeight 16 = .ok (.iload_n 2, 1) := by decide +kernel
theorem dX4_caughtWeight_17 : decode cX4_caughtWeight 17 = .ok (.invokevirtual 115, 3) := by decide +kernel
theorem dX4_caughtWeight_20 : decode cX4_caughtWeight 20 = .ok (.ifCond .eq 12, 3) := by decide +kernel
theorem dX4_caughtWeight_23 : decode cX4_caughtWeight 23 = .ok (.aload_n 0, 1) := by decide +kernel
theorem dX4_caughtWeight_24 : decode cX4_caughtWeight 24 = .ok (.iload_n 2, 1) := by decide +kernel
theorem dX4_caughtWeight_25 : decode cX4_caughtWeight 25 = .ok (.iconst 3, 1) := by decide +kernel
theorem dX4_caughtWeight_26 : decode cX4_caughtWeight 26 = .ok (.invokevirtual 101, 3) := by decide +kernel
theorem dX4_caughtWeight_29 : decode cX4_caughtWeight 29 = .ok (.goto 4, 3) := by decide +kernel
theorem dX4_caughtWeight_32 : decode cX4_caughtWeight 32 = .ok (.iconst 0, 1) := by decide +kernel
theorem dX4_caughtWeight_33 : decode cX4_caughtWeight 33 = .ok (.iadd, 1) := by decide +kernel
theorem dX4_caughtWeight_34 : decode cX4_caughtWeight 34 = .ok (.istore_n 1, 1) := by decide +kernel
theorem dX4_caughtWeight_35 : decode cX4_caughtWeight 35 = .ok (.iinc 2 1, 3) := by decide +kernel
theorem dX4_caughtWeight_38 : decode cX4_caughtWeight 38 = .ok (.goto (-34), 3) := by decide +kernel
theorem dX4_caughtWeight_41 : decode cX4_caughtWeight 41 = .ok (.iload_n 1, 1) := by decide +kernel
theorem dX4_caughtWeight_42 : decode cX4_caughtWeight 42 = .ok (.ireturn, 1) := by decide +kernel
theorem dX4_now_0 : decode cX4_now 0 = .ok (.iload_n 1, 1) := by decide +kernel
theorem dX4_now_1 : decode cX4_now 1 = .ok (.tableswitch 64 0 4 #[35, 42, 47, 52, 59], 35) := by decide +kernel
theorem dX4_now_36 : decode cX4_now 36 = .ok (.aload_n 0, 1) := by decide +kernel
theorem dX4_now_37 : decode cX4_now 37 = .ok (.getfield 9, 3) := by decide +kernel
theorem dX4_now_40 : decode cX4_now 40 = .ok (.iconst 0, 1) := by decide +kernel
theorem dX4_now_41 : decode cX4_now 41 = .ok (.iaload, 1) := by decide +kernel
theorem dX4_now_42 : decode cX4_now 42 = .ok (.ireturn, 1) := by decide +kernel
theorem dX4_now_43 : decode cX4_now 43 = .ok (.aload_n 0, 1) := by decide +kernel
theorem dX4_now_44 : decode cX4_now 44 = .ok (.invokevirtual 178, 3) := by decide +kernel
theorem dX4_now_47 : decode cX4_now 47 = .ok (.ireturn, 1) := by decide +kernel
theorem dX4_now_48 : decode cX4_now 48 = .ok (.aload_n 0, 1) := by decide +kernel
theorem dX4_now_49 : decode cX4_now 49 = .ok (.invokevirtual 185, 3) := by decide +kernel
theorem dX4_now_52 : decode cX4_now 52 = .ok (.ireturn, 1) := by decide +kernel
theorem dX4_now_53 : decode cX4_now 53 = .ok (.aload_n 0, 1) := by decide +kernel
theorem dX4_now_54 : decode cX4_now 54 = .ok (.getfield 9, 3) := by decide +kernel
theorem dX4_now_57 : decode cX4_now 57 = .ok (.iconst 1, 1) := by decide +kernel
theorem dX4_now_58 : decode cX4_now 58 = .ok (.iaload, 1) := by decide +kernel
theorem dX4_now_59 : decode cX4_now 59 = .ok (.ireturn, 1) := by decide +kernel
theorem dX4_now_60 : decode cX4_now 60 = .ok (.aload_n 0, 1) := by decide +kernel
theorem dX4_now_61 : decode cX4_now 61 = .ok (.invokevirtual 188, 3) := by decide +kernel
theorem dX4_now_64 : decode cX4_now 64 = .ok (.ireturn, 1) := by decide +kernel
theorem dX4_now_65 : decode cX4_now 65 = .ok (.aload_n 0, 1) := by decide +kernel
theorem dX4_now_66 : decode cX4_now 66 = .ok (.ldc 69, 2) := by decide +kernel
theorem dX4_now_68 : decode cX4_now 68 = .ok (.invokevirtual 88, 3) := by decide +kernel
theorem dX4_now_71 : decode cX4_now 71 = .ok (.ireturn, 1) := by decide +kernel
theorem dX4_loud_0 : decode cX4_loud 0 = .ok (.aload_n 0, 1) := by decide +kernel
theorem dX4_loud_1 : decode cX4_loud 1 = .ok (.iload_n 1, 1) := by decide +kernel
theorem dX4_loud_2 : decode cX4_loud 2 = .ok (.invokevirtual 141, 3) := by decide +kernel
theorem dX4_loud_5 : decode cX4_loud 5 = .ok (.ifCond .eq 19, 3) := by decide +kernel
theorem dX4_loud_8 : decode cX4_loud 8 = .ok (.iload_n 2, 1) := by decide +kernel
theorem dX4_loud_9 : decode cX4_loud 9 = .ok (.invokestatic 84, 3) := by decide +kernel
theorem dX4_loud_12 : decode cX4_loud 12 = .ok (.ifCond .eq 12, 3) := by decide +kernel
theorem dX4_loud_15 : decode cX4_loud 15 = .ok (.aload_n 0, 1) := by decide +kernel
theorem dX4_loud_16 : decode cX4_loud 16 = .ok (.iload_n 1, 1) := by decide +kernel
theorem dX4_loud_17 : decode cX4_loud 17 = .ok (.iload_n 2, 1) := by decide +kernel
theorem dX4_loud_18 : decode cX4_loud 18 = .ok (.invokevirtual 153, 3) := by decide +kernel
theorem dX4_loud_21 : decode cX4_loud 21 = .ok (.goto 9, 3) := by decide +kernel
theorem dX4_loud_24 : decode cX4_loud 24 = .ok (.aload_n 0, 1) := by decide +kernel
theorem dX4_loud_25 : decode cX4_loud 25 = .ok (.ldc 69, 2) := by decide +kernel
theorem dX4_loud_27 : decode cX4_loud 27 = .ok (.invokevirtual 88, 3) := by decide +kernel
theorem dX4_loud_30 : decode cX4_loud 30 = .ok (.ireturn, 1) := by decide +kernel
theorem dX4_fieldBehind_0 : decode cX4_fieldBehind 0 = .ok (.aload_n 0, 1) := by decide +kernel
theorem dX4_fieldBehind_1 : decode cX4_fieldBehind 1 = .ok (.getfield 9, 3) := by decide +kernel
theorem dX4_fieldBehind_4 : decode cX4_fieldBehind 4 = .ok (.aload_n 0, 1) := by decide +kernel
theorem dX4_fieldBehind_5 : decode cX4_fieldBehind 5 = .ok (.getfield 16, 3) := by decide +kernel
theorem dX4_fieldBehind_8 : decode cX4_fieldBehind 8 = .ok (.invokestatic 70, 3) := by decide +kernel
theorem dX4_fieldBehind_11 : decode cX4_fieldBehind 11 = .ok (.aload_n 0, 1) := by decide +kernel
theorem dX4_fieldBehind_12 : decode cX4_fieldBehind 12 = .ok (.iload_n 2, 1) := by decide +kernel
theorem dX4_fieldBehind_13 : decode cX4_fieldBehind 13 = .ok (.invokevirtual 174, 3) := by decide +kernel
theorem dX4_fieldBehind_16 : decode cX4_fieldBehind 16 = .ok (.aload_n 0, 1) := by decide +kernel
theorem dX4_fieldBehind_17 : decode cX4_fieldBehind 17 = .ok (.aload_n 0, 1) := by decide +kernel
theorem dX4_fieldBehind_18 : decode cX4_fieldBehind 18 = .ok (.iload_n 1, 1) := by decide +kernel
theorem dX4_fieldBehind_19 : decode cX4_fieldBehind 19 = .ok (.iload_n 3, 1) := by decide +kernel
theorem dX4_fieldBehind_20 : decode cX4_fieldBehind 20 = .ok (.invokevirtual 101, 3) := by decide +kernel
theorem dX4_fieldBehind_23 : decode cX4_fieldBehind 23 = .ok (.invokevirtual 191, 3) := by decide +kernel
theorem dX4_fieldBehind_26 : decode cX4_fieldBehind 26 = .ok (.ireturn, 1) := by decide +kernel
theorem dX4_ahead_0 : decode cX4_ahead 0 = .ok (.aload_n 0, 1) := by decide +kernel
theorem dX4_ahead_1 : decode cX4_ahead 1 = .ok (.iload_n 1, 1) := by decide +kernel
theorem dX4_ahead_2 : decode cX4_ahead 2 = .ok (.invokevirtual 141, 3) := by decide +kernel
theorem dX4_ahead_5 : decode cX4_ahead 5 = .ok (.ifCond .eq 23, 3) := by decide +kernel
theorem dX4_ahead_8 : decode cX4_ahead 8 = .ok (.iload_n 2, 1) := by decide +kernel
theorem dX4_ahead_9 : decode cX4_ahead 9 = .ok (.iconst 0, 1) := by decide +kernel
theorem dX4_ahead_10 : decode cX4_ahead 10 = .ok (.bipush 60, 2) := by decide +kernel
theorem dX4_ahead_12 : decode cX4_ahead 12 = .ok (.invokestatic 74, 3) := by decide +kernel
theorem dX4_ahead_15 : decode cX4_ahead 15 = .ok (.ifCond .eq 13, 3) := by decide +kernel
theorem dX4_ahead_18 : decode cX4_ahead 18 = .ok (.aload_n 0, 1) := by decide +kernel
theorem dX4_ahead_19 : decode cX4_ahead 19 = .ok (.iload_n 1, 1) := by decide +kernel
theorem dX4_ahead_20 : decode cX4_ahead 20 = .ok (.iload_n 2, 1) := by decide +kernel
theorem dX4_ahead_21 : decode cX4_ahead 21 = .ok (.iconst 1, 1) := by decide +kernel
theorem dX4_ahead_22 : decode cX4_ahead 22 = .ok (.invokevirtual 194, 3) := by decide +kernel
theorem dX4_ahead_25 : decode cX4_ahead 25 = .ok (.goto 9, 3) := by decide +kernel
theorem dX4_ahead_28 : decode cX4_ahead 28 = .ok (.aload_n 0, 1) := by decide +kernel
theorem dX4_ahead_29 : decode cX4_ahead 29 = .ok (.ldc 69, 2) := by decide +kernel
theorem dX4_ahead_31 : decode cX4_ahead 31 = .ok (.invokevirtual 88, 3) := by decide +kernel
theorem dX4_ahead_34 : decode cX4_ahead 34 = .ok (.ireturn, 1) := by decide +kernel
theorem dX4_caughtIn_0 : decode cX4_caughtIn 0 = .ok (.aload_n 0, 1) := by decide +kernel
theorem dX4_caughtIn_1 : decode cX4_caughtIn 1 = .ok (.getfield 9, 3) := by decide +kernel
theorem dX4_caughtIn_4 : decode cX4_caughtIn 4 = .ok (.aload_n 0, 1) := by decide +kernel
theorem dX4_caughtIn_5 : decode cX4_caughtIn 5 = .ok (.getfield 16, 3) := by decide +kernel
theorem dX4_caughtIn_8 : decode cX4_caughtIn 8 = .ok (.invokestatic 70, 3) := by decide +kernel
theorem dX4_caughtIn_11 : decode cX4_caughtIn 11 = .ok (.iconst 0, 1) := by decide +kernel
theorem dX4_caughtIn_12 : decode cX4_caughtIn 12 = .ok (.istore_n 3, 1) := by decide +kernel
theorem dX4_caughtIn_13 : decode cX4_caughtIn 13 = .ok (.iload_n 3, 1) := by decide +kernel
theorem dX4_caughtIn_14 : decode cX4_caughtIn 14 = .ok (.iload_n 2, 1) := by decide +kernel
theorem dX4_caughtIn_15 : decode cX4_caughtIn 15 = .ok (.if_icmp .ge 21, 3) := by decide +kernel
theorem dX4_caughtIn_18 : decode cX4_caughtIn 18 = .ok (.aload_n 0, 1) := by decide +kernel
theorem dX4_caughtIn_19 : decode cX4_caughtIn 19 = .ok (.iload_n 1, 1) := by decide +kernel
theorem dX4_caughtIn_20 : decode cX4_caughtIn 20 = .ok (.invokevirtual 115, 3) := by decide +kernel
theorem dX4_caughtIn_23 : decode cX4_caughtIn 23 = .ok (.ifCond .ne 13, 3) := by decide +kernel
theorem dX4_caughtIn_26 : decode cX4_caughtIn 26 = .ok (.aload_n 0, 1) := by decide +kernel
theorem dX4_caughtIn_27 : decode cX4_caughtIn 27 = .ok (.invokevirtual 169, 3) := by decide +kernel
theorem dX4_caughtIn_30 : decode cX4_caughtIn 30 = .ok (.iinc 3 1, 3) := by decide +kernel
theorem dX4_caughtIn_33 : decode cX4_caughtIn 33 = .ok (.goto (-20), 3) := by decide +kernel
theorem dX4_caughtIn_36 : decode cX4_caughtIn 36 = .ok (.aload_n 0, 1) := by decide +kernel
theorem dX4_caughtIn_37 : decode cX4_caughtIn 37 = .ok (.aload_n 0, 1) := by decide +kernel
theorem dX4_caughtIn_38 : decode cX4_caughtIn 38 = .ok (.iload_n 1, 1) := by decide +kernel
theorem dX4_caughtIn_39 : decode cX4_caughtIn 39 = .ok (.invokevirtual 115, 3) := by decide +kernel
theorem dX4_caughtIn_42 : decode cX4_caughtIn 42 = .ok (.ifCond .eq 7, 3) := by decide +kernel
theorem dX4_caughtIn_45 : decode cX4_caughtIn 45 = .ok (.iload_n 3, 1) := by decide +kernel
theorem dX4_caughtIn_46 : decode cX4_caughtIn 46 = .ok (.goto 5, 3) := by decide +kernel
theorem dX4_caughtIn_49 : decode cX4_caughtIn 49 = .ok (.ldc 197, 2) := by decide +kernel
theorem dX4_caughtIn_51 : decode cX4_caughtIn 51 = .ok (.invokevirtual 191, 3) := by decide +kernel
theorem dX4_caughtIn_54 : decode cX4_caughtIn 54 = .ok (.ireturn, 1) := by decide +kernel
theorem dX4_told_0 : decode cX4_told 0 = .ok (.iload_n 1, 1) := by decide +kernel
theorem dX4_told_1 : decode cX4_told 1 = .ok (.ldc 197, 2) := by decide +kernel
theorem dX4_told_3 : decode cX4_told 3 = .ok (.if_icmp .ne 12, 3) := by decide +kernel
theorem dX4_told_6 : decode cX4_told 6 = .ok (.aload_n 0, 1) := by decide +kernel
theorem dX4_told_7 : decode cX4_told 7 = .ok (.ldc 198, 2) := by decide +kernel
theorem dX4_told_9 : decode cX4_told 9 = .ok (.invokevirtual 88, 3) := by decide +kernel
theorem dX4_told_12 : decode cX4_told 12 = .ok (.goto 4, 3) := by decide +kernel
theorem dX4_told_15 : decode cX4_told 15 = .ok (.iload_n 1, 1) := by decide +kernel
theorem dX4_told_16 : decode cX4_told 16 = .ok (.ireturn, 1) := by decide +kernel
theorem dX4_when_0 : decode cX4_when 0 = .ok (.aload_n 0, 1) := by decide +kernel
theorem dX4_when_1 : decode cX4_when 1 = .ok (.iload_n 1, 1) := by decide +kernel
theorem dX4_when_2 : decode cX4_when 2 = .ok (.invokevirtual 141, 3) := by decide +kernel
theorem dX4_when_5 : decode cX4_when 5 = .ok (.ifCond .eq 17, 3) := by decide +kernel
theorem dX4_when_8 : decode cX4_when 8 = .ok (.aload_n 0, 1) := by decide +kernel
theorem dX4_when_9 : decode cX4_when 9 = .ok (.aload_n 0, 1) := by decide +kernel
theorem dX4_when_10 : decode cX4_when 10 = .ok (.iload_n 1, 1) := by decide +kernel
theorem dX4_when_11 : decode cX4_when 11 = .ok (.bipush 60, 2) := by decide +kernel
theorem dX4_when_13 : decode cX4_when 13 = .ok (.invokevirtual 199, 3) := by decide +kernel
theorem dX4_when_16 : decode cX4_when 16 = .ok (.invokevirtual 202, 3) := by decide +kernel
theorem dX4_when_19 : decode cX4_when 19 = .ok (.goto 9, 3) := by decide +kernel
theorem dX4_when_22 : decode cX4_when 22 = .ok (.aload_n 0, 1) := by decide +kernel
theorem dX4_when_23 : decode cX4_when 23 = .ok (.ldc 69, 2) := by decide +kernel
theorem dX4_when_25 : decode cX4_when 25 = .ok (.invokevirtual 88, 3) := by decide +kernel
theorem dX4_when_28 : decode cX4_when 28 = .ok (.ireturn, 1) := by decide +kernel
theorem dX4_still_0 : decode cX4_still 0 = .ok (.aload_n 0, 1) := by decide +kernel
theorem dX4_still_1 : decode cX4_still 1 = .ok (.getfield 9, 3) := by decide +kernel
theorem dX4_still_4 : decode cX4_still 4 = .ok (.aload_n 0, 1) := by decide +kernel
theorem dX4_still_5 : decode cX4_still 5 = .ok (.getfield 16, 3) := by decide +kernel
theorem dX4_still_8 : decode cX4_still 8 = .ok (.invokestatic 70, 3) := by decide +kernel
theorem dX4_still_11 : decode cX4_still 11 = .ok (.iconst 0, 1) := by decide +kernel
theorem dX4_still_12 : decode cX4_still 12 = .ok (.istore_n 1, 1) := by decide +kernel
theorem dX4_still_13 : decode cX4_still 13 = .ok (.aload_n 0, 1) := by decide +kernel
theorem dX4_still_14 : decode cX4_still 14 = .ok (.invokevirtual 169, 3) := by decide +kernel
theorem dX4_still_17 : decode cX4_still 17 = .ok (.iload_n 1, 1) := by decide +kernel
theorem dX4_still_18 : decode cX4_still 18 = .ok (.bipush 60, 2) := by decide +kernel
theorem dX4_still_20 : decode cX4_still 20 = .ok (.if_icmp .ge 20, 3) := by decide +kernel
theorem dX4_still_23 : decode cX4_still 23 = .ok (.aload_n 0, 1) := by decide +kernel
theorem dX4_still_24 : decode cX4_still 24 = .ok (.getfield 162, 3) := by decide +kernel
theorem dX4_still_27 : decode cX4_still 27 = .ok (.ifCond .eq 13, 3) := by decide +kernel
theorem dX4_still_30 : decode cX4_still 30 = .ok (.aload_n 0, 1) := by decide +kernel
theorem dX4_still_31 : decode cX4_still 31 = .ok (.invokevirtual 169, 3) := by decide +kernel
theorem dX4_still_34 : decode cX4_still 34 = .ok (.iinc 1 1, 3) := by decide +kernel
theorem dX4_still_37 : decode cX4_still 37 = .ok (.goto (-20), 3) := by decide +kernel
theorem dX4_still_40 : decode cX4_still 40 = .ok (.aload_n 0, 1) := by decide +kernel
theorem dX4_still_41 : decode cX4_still 41 = .ok (.aload_n 0, 1) := by decide +kernel
theorem dX4_still_42 : decode cX4_still 42 = .ok (.aload_n 0, 1) := by decide +kernel
theorem dX4_still_43 : decode cX4_still 43 = .ok (.getfield 162, 3) := by decide +kernel
theorem dX4_still_46 : decode cX4_still 46 = .ok (.ifCond .eq 8, 3) := by decide +kernel
theorem dX4_still_49 : decode cX4_still 49 = .ok (.ldc 197, 2) := by decide +kernel
theorem dX4_still_51 : decode cX4_still 51 = .ok (.goto 4, 3) := by decide +kernel
theorem dX4_still_54 : decode cX4_still 54 = .ok (.iload_n 1, 1) := by decide +kernel
theorem dX4_still_55 : decode cX4_still 55 = .ok (.invokevirtual 191, 3) := by decide +kernel
theorem dX4_still_58 : decode cX4_still 58 = .ok (.invokevirtual 202, 3) := by decide +kernel
theorem dX4_still_61 : decode cX4_still 61 = .ok (.ireturn, 1) := by decide +kernel
theorem dX4_setBehind_0 : decode cX4_setBehind 0 = .ok (.aload_n 0, 1) := by decide +kernel
theorem dX4_setBehind_1 : decode cX4_setBehind 1 = .ok (.getfield 9, 3) := by decide +kernel
theorem dX4_setBehind_4 : decode cX4_setBehind 4 = .ok (.aload_n 0, 1) := by decide +kernel
theorem dX4_setBehind_5 : decode cX4_setBehind 5 = .ok (.getfield 16, 3) := by decide +kernel
theorem dX4_setBehind_8 : decode cX4_setBehind 8 = .ok (.invokestatic 70, 3) := by decide +kernel
theorem dX4_setBehind_11 : decode cX4_setBehind 11 = .ok (.aload_n 0, 1) := by decide +kernel
theorem dX4_setBehind_12 : decode cX4_setBehind 12 = .ok (.iload_n 1, 1) := by decide +kernel
theorem dX4_setBehind_13 : decode cX4_setBehind 13 = .ok (.invokevirtual 174, 3) := by decide +kernel
theorem dX4_setBehind_16 : decode cX4_setBehind 16 = .ok (.aload_n 0, 1) := by decide +kernel
theorem dX4_setBehind_17 : decode cX4_setBehind 17 = .ok (.aload_n 0, 1) := by decide +kernel
theorem dX4_setBehind_18 : decode cX4_setBehind 18 = .ok (.invokevirtual 178, 3) := by decide +kernel
theorem dX4_setBehind_21 : decode cX4_setBehind 21 = .ok (.invokevirtual 191, 3) := by decide +kernel
theorem dX4_setBehind_24 : decode cX4_setBehind 24 = .ok (.ireturn, 1) := by decide +kernel
theorem dX4_caught_0 : decode cX4_caught 0 = .ok (.iload_n 1, 1) := by decide +kernel
theorem dX4_caught_1 : decode cX4_caught 1 = .ok (.iconst 0, 1) := by decide +kernel
theorem dX4_caught_2 : decode cX4_caught 2 = .ok (.bipush 60, 2) := by decide +kernel
theorem dX4_caught_4 : decode cX4_caught 4 = .ok (.invokestatic 74, 3) := by decide +kernel
theorem dX4_caught_7 : decode cX4_caught 7 = .ok (.ifCond .eq 11, 3) := by decide +kernel
theorem dX4_caught_10 : decode cX4_caught 10 = .ok (.aload_n 0, 1) := by decide +kernel
theorem dX4_caught_11 : decode cX4_caught 11 = .ok (.iload_n 1, 1) := by decide +kernel
theorem dX4_caught_12 : decode cX4_caught 12 = .ok (.invokevirtual 205, 3) := by decide +kernel
theorem dX4_caught_15 : decode cX4_caught 15 = .ok (.goto 9, 3) := by decide +kernel
theorem dX4_caught_18 : decode cX4_caught 18 = .ok (.aload_n 0, 1) := by decide +kernel
theorem dX4_caught_19 : decode cX4_caught 19 = .ok (.ldc 69, 2) := by decide +kernel
theorem dX4_caught_21 : decode cX4_caught 21 = .ok (.invokevirtual 88, 3) := by decide +kernel
theorem dX4_caught_24 : decode cX4_caught 24 = .ok (.ireturn, 1) := by decide +kernel
theorem dX4_orNone_0 : decode cX4_orNone 0 = .ok (.iload_n 1, 1) := by decide +kernel
theorem dX4_orNone_1 : decode cX4_orNone 1 = .ok (.ifCond .ge 12, 3) := by decide +kernel
theorem dX4_orNone_4 : decode cX4_orNone 4 = .ok (.aload_n 0, 1) := by decide +kernel
theorem dX4_orNone_5 : decode cX4_orNone 5 = .ok (.ldc 198, 2) := by decide +kernel
theorem dX4_orNone_7 : decode cX4_orNone 7 = .ok (.invokevirtual 88, 3) := by decide +kernel
theorem dX4_orNone_10 : decode cX4_orNone 10 = .ok (.goto 4, 3) := by decide +kernel
theorem dX4_orNone_13 : decode cX4_orNone 13 = .ok (.iload_n 1, 1) := by decide +kernel
theorem dX4_orNone_14 : decode cX4_orNone 14 = .ok (.ireturn, 1) := by decide +kernel
theorem dX4_netFor_0 : decode cX4_netFor 0 = .ok (.aload_n 0, 1) := by decide +kernel
theorem dX4_netFor_1 : decode cX4_netFor 1 = .ok (.iload_n 1, 1) := by decide +kernel
theorem dX4_netFor_2 : decode cX4_netFor 2 = .ok (.invokevirtual 141, 3) := by decide +kernel
theorem dX4_netFor_5 : decode cX4_netFor 5 = .ok (.ifCond .ne 10, 3) := by decide +kernel
theorem dX4_netFor_8 : decode cX4_netFor 8 = .ok (.aload_n 0, 1) := by decide +kernel
theorem dX4_netFor_9 : decode cX4_netFor 9 = .ok (.ldc 69, 2) := by decide +kernel
theorem dX4_netFor_11 : decode cX4_netFor 11 = .ok (.invokevirtual 88, 3) := by decide +kernel
theorem dX4_netFor_14 : decode cX4_netFor 14 = .ok (.ireturn, 1) := by decide +kernel
theorem dX4_netFor_15 : decode cX4_netFor 15 = .ok (.iconst (-1), 1) := by decide +kernel
theorem dX4_netFor_16 : decode cX4_netFor 16 = .ok (.istore_n 2, 1) := by decide +kernel
theorem dX4_netFor_17 : decode cX4_netFor 17 = .ok (.ldc 197, 2) := by decide +kernel
theorem dX4_netFor_19 : decode cX4_netFor 19 = .ok (.istore_n 3, 1) := by decide +kernel
theorem dX4_netFor_20 : decode cX4_netFor 20 = .ok (.iconst 0, 1) := by decide +kernel
theorem dX4_netFor_21 : decode cX4_netFor 21 = .ok (.istore 4, 2) := by decide +kernel
theorem dX4_netFor_23 : decode cX4_netFor 23 = .ok (.iload 4, 2) := by decide +kernel
theorem dX4_netFor_25 : decode cX4_netFor 25 = .ok (.bipush 64, 2) := by decide +kernel
theorem dX4_netFor_27 : decode cX4_netFor 27 = .ok (.if_icmp .ge 69, 3) := by decide +kernel
theorem dX4_netFor_30 : decode cX4_netFor 30 = .ok (.aload_n 0, 1) := by decide +kernel
theorem dX4_netFor_31 : decode cX4_netFor 31 = .ok (.iload 4, 2) := by decide +kernel
theorem dX4_netFor_33 : decode cX4_netFor 33 = .ok (.invokevirtual 166, 3) := by decide +kernel
theorem dX4_netFor_36 : decode cX4_netFor 36 = .ok (.ifCond .ne 54, 3) := by decide +kernel
theorem dX4_netFor_39 : decode cX4_netFor 39 = .ok (.aload_n 0, 1) := by decide +kernel
theorem dX4_netFor_40 : decode cX4_netFor 40 = .ok (.getfield 9, 3) := by decide +kernel
theorem dX4_netFor_43 : decode cX4_netFor 43 = .ok (.bipush 18, 2) := by decide +kernel
theorem dX4_netFor_45 : decode cX4_netFor 45 = .ok (.iload 4, 2) := by decide +kernel
theorem dX4_netFor_47 : decode cX4_netFor 47 = .ok (.iadd, 1) := by decide +kernel
theorem dX4_netFor_48 : decode cX4_netFor 48 = .ok (.iconst 1, 1) := by decide +kernel
theorem dX4_netFor_49 : decode cX4_netFor 49 = .ok (.iastore, 1) := by decide +kernel
theorem dX4_netFor_50 : decode cX4_netFor 50 = .ok (.aload_n 0, 1) := by decide +kernel
theorem dX4_netFor_51 : decode cX4_netFor 51 = .ok (.iload_n 1, 1) := by decide +kernel
theorem dX4_netFor_52 : decode cX4_netFor 52 = .ok (.bipush 20, 2) := by decide +kernel
theorem dX4_netFor_54 : decode cX4_netFor 54 = .ok (.invokevirtual 199, 3) := by decide +kernel
theorem dX4_netFor_57 : decode cX4_netFor 57 = .ok (.istore 5, 2) := by decide +kernel
theorem dX4_netFor_59 : decode cX4_netFor 59 = .ok (.aload_n 0, 1) := by decide +kernel
theorem dX4_netFor_60 : decode cX4_netFor 60 = .ok (.getfield 9, 3) := by decide +kernel
theorem dX4_netFor_63 : decode cX4_netFor 63 = .ok (.bipush 18, 2) := by decide +kernel
theorem dX4_netFor_65 : decode cX4_netFor 65 = .ok (.iload 4, 2) := by decide +kernel
theorem dX4_netFor_67 : decode cX4_netFor 67 = .ok (.iadd, 1) := by decide +kernel
theorem dX4_netFor_68 : decode cX4_netFor 68 = .ok (.iconst 0, 1) := by decide +kernel
theorem dX4_netFor_69 : decode cX4_netFor 69 = .ok (.iastore, 1) := by decide +kernel
theorem dX4_netFor_70 : decode cX4_netFor 70 = .ok (.iload 5, 2) := by decide +kernel
theorem dX4_netFor_72 : decode cX4_netFor 72 = .ok (.iload_n 3, 1) := by decide +kernel
theorem dX4_netFor_73 : decode cX4_netFor 73 = .ok (.if_icmp .ge 8, 3) := by decide +kernel
theorem dX4_netFor_76 : decode cX4_netFor 76 = .ok (.iload 4, 2) := by decide +kernel
theorem dX4_netFor_78 : decode cX4_netFor 78 = .ok (.goto 4, 3) := by decide +kernel
theorem dX4_netFor_81 : decode cX4_netFor 81 = .ok (.iload_n 2, 1) := by decide +kernel
theorem dX4_netFor_82 : decode cX4_netFor 82 = .ok (.istore_n 2, 1) := by decide +kernel
theorem dX4_netFor_83 : decode cX4_netFor 83 = .ok (.iload_n 3, 1) := by decide +kernel
theorem dX4_netFor_84 : decode cX4_netFor 84 = .ok (.iload 5, 2) := by decide +kernel
theorem dX4_netFor_86 : decode cX4_netFor 86 = .ok (.invokestatic 125, 3) := by decide +kernel
theorem dX4_netFor_89 : decode cX4_netFor 89 = .ok (.istore_n 3, 1) := by decide +kernel
theorem dX4_netFor_90 : decode cX4_netFor 90 = .ok (.iinc 4 1, 3) := by decide +kernel
theorem dX4_netFor_93 : decode cX4_netFor 93 = .ok (.goto (-70), 3) := by decide +kernel
theorem dX4_netFor_96 : decode cX4_netFor 96 = .ok (.aload_n 0, 1) := by decide +kernel
theorem dX4_netFor_97 : decode cX4_netFor 97 = .ok (.iload_n 2, 1) := by decide +kernel
theorem dX4_netFor_98 : decode cX4_netFor 98 = .ok (.invokevirtual 208, 3) := by decide +kernel
theorem dX4_netFor_101 : decode cX4_netFor 101 = .ok (.ireturn, 1) := by decide +kernel
theorem dX4_best_0 : decode cX4_best 0 = .ok (.iload_n 1, 1) := by decide +kernel
theorem dX4_best_1 : decode cX4_best 1 = .ok (.iconst 0, 1) := by decide +kernel
theorem dX4_best_2 : decode cX4_best 2 = .ok (.bipush 20, 2) := by decide +kernel
theorem dX4_best_4 : decode cX4_best 4 = .ok (.invokestatic 74, 3) := by decide +kernel
theorem dX4_best_7 : decode cX4_best 7 = .ok (.ifCond .ne 10, 3) := by decide +kernel
theorem dX4_best_10 : decode cX4_best 10 = .ok (.aload_n 0, 1) := by decide +kernel
theorem dX4_best_11 : decode cX4_best 11 = .ok (.ldc 69, 2) := by decide +kernel
theorem dX4_best_13 : decode cX4_best 13 = .ok (.invokevirtual 88, 3) := by decide +kernel
theorem dX4_best_16 : decode cX4_best 16 = .ok (.ireturn, 1) := by decide +kernel
theorem dX4_best_17 : decode cX4_best 17 = .ok (.iconst (-1), 1) := by decide +kernel
theorem dX4_best_18 : decode cX4_best 18 = .ok (.istore_n 2, 1) := by decide +kernel
theorem dX4_best_19 : decode cX4_best 19 = .ok (.iconst (-1), 1) := by decide +kernel
theorem dX4_best_20 : decode cX4_best 20 = .ok (.istore_n 3, 1) := by decide +kernel
theorem dX4_best_21 : decode cX4_best 21 = .ok (.iconst 0, 1) := by decide +kernel
theorem dX4_best_22 : decode cX4_best 22 = .ok (.istore 4, 2) := by decide +kernel
theorem dX4_best_24 : decode cX4_best 24 = .ok (.iload 4, 2) := by decide +kernel
theorem dX4_best_26 : decode cX4_best 26 = .ok (.bipush 64, 2) := by decide +kernel
theorem dX4_best_28 : decode cX4_best 28 = .ok (.if_icmp .ge 70, 3) := by decide +kernel
theorem dX4_best_31 : decode cX4_best 31 = .ok (.aload_n 0, 1) := by decide +kernel
theorem dX4_best_32 : decode cX4_best 32 = .ok (.iload 4, 2) := by decide +kernel
theorem dX4_best_34 : decode cX4_best 34 = .ok (.invokevirtual 166, 3) := by decide +kernel
theorem dX4_best_37 : decode cX4_best 37 = .ok (.ifCond .ne 55, 3) := by decide +kernel
theorem dX4_best_40 : decode cX4_best 40 = .ok (.aload_n 0, 1) := by decide +kernel
theorem dX4_best_41 : decode cX4_best 41 = .ok (.getfield 9, 3) := by decide +kernel
theorem dX4_best_44 : decode cX4_best 44 = .ok (.bipush 18, 2) := by decide +kernel
theorem dX4_best_46 : decode cX4_best 46 = .ok (.iload 4, 2) := by decide +kernel
theorem dX4_best_48 : decode cX4_best 48 = .ok (.iadd, 1) := by decide +kernel
theorem dX4_best_49 : decode cX4_best 49 = .ok (.iconst 1, 1) := by decide +kernel
theorem dX4_best_50 : decode cX4_best 50 = .ok (.iastore, 1) := by decide +kernel
theorem dX4_best_51 : decode cX4_best 51 = .ok (.aload_n 0, 1) := by decide +kernel
theorem dX4_best_52 : decode cX4_best 52 = .ok (.iload_n 1, 1) := by decide +kernel
theorem dX4_best_53 : decode cX4_best 53 = .ok (.invokevirtual 205, 3) := by decide +kernel
theorem dX4_best_56 : decode cX4_best 56 = .ok (.invokestatic 182, 3) := by decide +kernel
theorem dX4_best_59 : decode cX4_best 59 = .ok (.istore 5, 2) := by decide +kernel
theorem dX4_best_61 : decode cX4_best 61 = .ok (.aload_n 0, 1) := by decide +kernel
theorem dX4_best_62 : decode cX4_best 62 = .ok (.getfield 9, 3) := by decide +kernel
theorem dX4_best_65 : decode cX4_best 65 = .ok (.bipush 18, 2) := by decide +kernel
theorem dX4_best_67 : decode cX4_best 67 = .ok (.iload 4, 2) := by decide +kernel
theorem dX4_best_69 : decode cX4_best 69 = .ok (.iadd, 1) := by decide +kernel
theorem dX4_best_70 : decode cX4_best 70 = .ok (.iconst 0, 1) := by decide +kernel
theorem dX4_best_71 : decode cX4_best 71 = .ok (.iastore, 1) := by decide +kernel
theorem dX4_best_72 : decode cX4_best 72 = .ok (.iload 5, 2) := by decide +kernel
theorem dX4_best_74 : decode cX4_best 74 = .ok (.iload_n 3, 1) := by decide +kernel
theorem dX4_best_75 : decode cX4_best 75 = .ok (.if_icmp .le 8, 3) := by decide +kernel
theorem dX4_best_78 : decode cX4_best 78 = .ok (.iload 4, 2) := by decide +kernel
theorem dX4_best_80 : decode cX4_best 80 = .ok (.goto 4, 3) := by decide +kernel
theorem dX4_best_83 : decode cX4_best 83 = .ok (.iload_n 2, 1) := by decide +kernel
theorem dX4_best_84 : decode cX4_best 84 = .ok (.istore_n 2, 1) := by decide +kernel
theorem dX4_best_85 : decode cX4_best 85 = .ok (.iload_n 3, 1) := by decide +kernel
theorem dX4_best_86 : decode cX4_best 86 = .ok (.iload 5, 2) := by decide +kernel
theorem dX4_best_88 : decode cX4_best 88 = .ok (.invokestatic 132, 3) := by decide +kernel
theorem dX4_best_91 : decode cX4_best 91 = .ok (.istore_n 3, 1) := by decide +kernel
theorem dX4_best_92 : decode cX4_best 92 = .ok (.iinc 4 1, 3) := by decide +kernel
theorem dX4_best_95 : decode cX4_best 95 = .ok (.goto (-71), 3) := by decide +kernel
theorem dX4_best_98 : decode cX4_best 98 = .ok (.aload_n 0, 1) := by decide +kernel
theorem dX4_best_99 : decode cX4_best 99 = .ok (.iload_n 2, 1) := by decide +kernel
theorem dX4_best_100 : decode cX4_best 100 = .ok (.invokevirtual 208, 3) := by decide +kernel
theorem dX4_best_103 : decode cX4_best 103 = .ok (.ireturn, 1) := by decide +kernel
theorem dX4_drive_0 : decode cX4_drive 0 = .ok (.iload_n 1, 1) := by decide +kernel
theorem dX4_drive_1 : decode cX4_drive 1 = .ok (.invokestatic 95, 3) := by decide +kernel
theorem dX4_drive_4 : decode cX4_drive 4 = .ok (.ifCond .eq 11, 3) := by decide +kernel
theorem dX4_drive_7 : decode cX4_drive 7 = .ok (.aload_n 0, 1) := by decide +kernel
theorem dX4_drive_8 : decode cX4_drive 8 = .ok (.iload_n 2, 1) := by decide +kernel
theorem dX4_drive_9 : decode cX4_drive 9 = .ok (.invokevirtual 141, 3) := by decide +kernel
theorem dX4_drive_12 : decode cX4_drive 12 = .ok (.ifCond .ne 10, 3) := by decide +kernel
theorem dX4_drive_15 : decode cX4_drive 15 = .ok (.aload_n 0, 1) := by decide +kernel
theorem dX4_drive_16 : decode cX4_drive 16 = .ok (.ldc 69, 2) := by decide +kernel
theorem dX4_drive_18 : decode cX4_drive 18 = .ok (.invokevirtual 88, 3) := by decide +kernel
theorem dX4_drive_21 : decode cX4_drive 21 = .ok (.ireturn, 1) := by decide +kernel
theorem dX4_drive_22 : decode cX4_drive 22 = .ok (.aload_n 0, 1) := by decide +kernel
theorem dX4_drive_23 : decode cX4_drive 23 = .ok (.getfield 9, 3) := by decide +kernel
theorem dX4_drive_26 : decode cX4_drive 26 = .ok (.bipush 14, 2) := by decide +kernel
theorem dX4_drive_28 : decode cX4_drive 28 = .ok (.iload_n 1, 1) := by decide +kernel
theorem dX4_drive_29 : decode cX4_drive 29 = .ok (.iadd, 1) := by decide +kernel
theorem dX4_drive_30 : decode cX4_drive 30 = .ok (.iaload, 1) := by decide +kernel
theorem dX4_drive_31 : decode cX4_drive 31 = .ok (.istore_n 3, 1) := by decide +kernel
theorem dX4_drive_32 : decode cX4_drive 32 = .ok (.iconst (-1), 1) := by decide +kernel
theorem dX4_drive_33 : decode cX4_drive 33 = .ok (.istore 4, 2) := by decide +kernel
theorem dX4_drive_35 : decode cX4_drive 35 = .ok (.ldc 197, 2) := by decide +kernel
theorem dX4_drive_37 : decode cX4_drive 37 = .ok (.istore 5, 2) := by decide +kernel
theorem dX4_drive_39 : decode cX4_drive 39 = .ok (.iconst 0, 1) := by decide +kernel
theorem dX4_drive_40 : decode cX4_drive 40 = .ok (.istore 6, 2) := by decide +kernel
theorem dX4_drive_42 : decode cX4_drive 42 = .ok (.iload 6, 2) := by decide +kernel
theorem dX4_drive_44 : decode cX4_drive 44 = .ok (.bipush 64, 2) := by decide +kernel
theorem dX4_drive_46 : decode cX4_drive 46 = .ok (.if_icmp .ge 54, 3) := by decide +kernel
theorem dX4_drive_49 : decode cX4_drive 49 = .ok (.aload_n 0, 1) := by decide +kernel
theorem dX4_drive_50 : decode cX4_drive 50 = .ok (.getfield 9, 3) := by decide +kernel
theorem dX4_drive_53 : decode cX4_drive 53 = .ok (.bipush 14, 2) := by decide +kernel
theorem dX4_drive_55 : decode cX4_drive 55 = .ok (.iload_n 1, 1) := by decide +kernel
theorem dX4_drive_56 : decode cX4_drive 56 = .ok (.iadd, 1) := by decide +kernel
theorem dX4_drive_57 : decode cX4_drive 57 = .ok (.iload 6, 2) := by decide +kernel
theorem dX4_drive_59 : decode cX4_drive 59 = .ok (.iastore, 1) := by decide +kernel
theorem dX4_drive_60 : decode cX4_drive 60 = .ok (.aload_n 0, 1) := by decide +kernel
theorem dX4_drive_61 : decode cX4_drive 61 = .ok (.iload_n 2, 1) := by decide +kernel
theorem dX4_drive_62 : decode cX4_drive 62 = .ok (.bipush 20, 2) := by decide +kernel
theorem dX4_drive_64 : decode cX4_drive 64 = .ok (.invokevirtual 199, 3) := by decide +kernel
theorem dX4_drive_67 : decode cX4_drive 67 = .ok (.istore 7, 2) := by decide +kernel
theorem dX4_drive_69 : decode cX4_drive 69 = .ok (.iload 7, 2) := by decide +kernel
theorem dX4_drive_71 : decode cX4_drive 71 = .ok (.iload 5, 2) := by decide +kernel
theorem dX4_drive_73 : decode cX4_drive 73 = .ok (.if_icmp .ge 8, 3) := by decide +kernel
theorem dX4_drive_76 : decode cX4_drive 76 = .ok (.iload 6, 2) := by decide +kernel
theorem dX4_drive_78 : decode cX4_drive 78 = .ok (.goto 5, 3) := by decide +kernel
theorem dX4_drive_81 : decode cX4_drive 81 = .ok (.iload 4, 2) := by decide +kernel
theorem dX4_drive_83 : decode cX4_drive 83 = .ok (.istore 4, 2) := by decide +kernel
theorem dX4_drive_85 : decode cX4_drive 85 = .ok (.iload 5, 2) := by decide +kernel
theorem dX4_drive_87 : decode cX4_drive 87 = .ok (.iload 7, 2) := by decide +kernel
theorem dX4_drive_89 : decode cX4_drive 89 = .ok (.invokestatic 125, 3) := by decide +kernel
theorem dX4_drive_92 : decode cX4_drive 92 = .ok (.istore 5, 2) := by decide +kernel
theorem dX4_drive_94 : decode cX4_drive 94 = .ok (.iinc 6 1, 3) := by decide +kernel
theorem dX4_drive_97 : decode cX4_drive 97 = .ok (.goto (-55), 3) := by decide +kernel
theorem dX4_drive_100 : decode cX4_drive 100 = .ok (.aload_n 0, 1) := by decide +kernel
theorem dX4_drive_101 : decode cX4_drive 101 = .ok (.getfield 9, 3) := by decide +kernel
theorem dX4_drive_104 : decode cX4_drive 104 = .ok (.bipush 14, 2) := by decide +kernel
theorem dX4_drive_106 : decode cX4_drive 106 = .ok (.iload_n 1, 1) := by decide +kernel
theorem dX4_drive_107 : decode cX4_drive 107 = .ok (.iadd, 1) := by decide +kernel
theorem dX4_drive_108 : decode cX4_drive 108 = .ok (.iload_n 3, 1) := by decide +kernel
theorem dX4_drive_109 : decode cX4_drive 109 = .ok (.iastore, 1) := by decide +kernel
theorem dX4_drive_110 : decode cX4_drive 110 = .ok (.aload_n 0, 1) := by decide +kernel
theorem dX4_drive_111 : decode cX4_drive 111 = .ok (.iload 4, 2) := by decide +kernel
theorem dX4_drive_113 : decode cX4_drive 113 = .ok (.invokevirtual 208, 3) := by decide +kernel
theorem dX4_drive_116 : decode cX4_drive 116 = .ok (.ireturn, 1) := by decide +kernel
theorem dX4_kindFor_0 : decode cX4_kindFor 0 = .ok (.aload_n 0, 1) := by decide +kernel
theorem dX4_kindFor_1 : decode cX4_kindFor 1 = .ok (.iload_n 1, 1) := by decide +kernel
theorem dX4_kindFor_2 : decode cX4_kindFor 2 = .ok (.invokevirtual 141, 3) := by decide +kernel
theorem dX4_kindFor_5 : decode cX4_kindFor 5 = .ok (.ifCond .ne 10, 3) := by decide +kernel
theorem dX4_kindFor_8 : decode cX4_kindFor 8 = .ok (.aload_n 0, 1) := by decide +kernel
theorem dX4_kindFor_9 : decode cX4_kindFor 9 = .ok (.ldc 69, 2) := by decide +kernel
theorem dX4_kindFor_11 : decode cX4_kindFor 11 = .ok (.invokevirtual 88, 3) := by decide +kernel
theorem dX4_kindFor_14 : decode cX4_kindFor 14 = .ok (.ireturn, 1) := by decide +kernel
theorem dX4_kindFor_15 : decode cX4_kindFor 15 = .ok (.aload_n 0, 1) := by decide +kernel
theorem dX4_kindFor_16 : decode cX4_kindFor 16 = .ok (.iload_n 1, 1) := by decide +kernel
theorem dX4_kindFor_17 : decode cX4_kindFor 17 = .ok (.iconst 0, 1) := by decide +kernel
theorem dX4_kindFor_18 : decode cX4_kindFor 18 = .ok (.invokevirtual 101, 3) := by decide +kernel
theorem dX4_kindFor_21 : decode cX4_kindFor 21 = .ok (.istore_n 2, 1) := by decide +kernel
theorem dX4_kindFor_22 : decode cX4_kindFor 22 = .ok (.iconst (-1), 1) := by decide +kernel
theorem dX4_kindFor_23 : decode cX4_kindFor 23 = .ok (.istore_n 3, 1) := by decide +kernel
theorem dX4_kindFor_24 : decode cX4_kindFor 24 = .ok (.iconst (-1), 1) := by decide +kernel
theorem dX4_kindFor_25 : decode cX4_kindFor 25 = .ok (.istore 4, 2) := by decide +kernel
theorem dX4_kindFor_27 : decode cX4_kindFor 27 = .ok (.iconst 0, 1) := by decide +kernel
theorem dX4_kindFor_28 : decode cX4_kindFor 28 = .ok (.istore 5, 2) := by decide +kernel
theorem dX4_kindFor_30 : decode cX4_kindFor 30 = .ok (.iload 5, 2) := by decide +kernel
theorem dX4_kindFor_32 : decode cX4_kindFor 32 = .ok (.bipush 6, 2) := by decide +kernel
theorem dX4_kindFor_34 : decode cX4_kindFor 34 = .ok (.if_icmp .gt 58, 3) := by decide +kernel
theorem dX4_kindFor_37 : decode cX4_kindFor 37 = .ok (.aload_n 0, 1) := by decide +kernel
theorem dX4_kindFor_38 : decode cX4_kindFor 38 = .ok (.getfield 9, 3) := by decide +kernel
theorem dX4_kindFor_41 : decode cX4_kindFor 41 = .ok (.iload_n 1, 1) := by decide +kernel
theorem dX4_kindFor_42 : decode cX4_kindFor 42 = .ok (.iconst 0, 1) := by decide +kernel
theorem dX4_kindFor_43 : decode cX4_kindFor 43 = .ok (.invokestatic 98, 3) := by decide +kernel
theorem dX4_kindFor_46 : decode cX4_kindFor 46 = .ok (.iload 5, 2) := by decide +kernel
theorem dX4_kindFor_48 : decode cX4_kindFor 48 = .ok (.iastore, 1) := by decide +kernel
theorem dX4_kindFor_49 : decode cX4_kindFor 49 = .ok (.bipush 60, 2) := by decide +kernel
theorem dX4_kindFor_51 : decode cX4_kindFor 51 = .ok (.aload_n 0, 1) := by decide +kernel
theorem dX4_kindFor_52 : decode cX4_kindFor 52 = .ok (.iload_n 1, 1) := by decide +kernel
theorem dX4_kindFor_53 : decode cX4_kindFor 53 = .ok (.bipush 60, 2) := by decide +kernel
theorem dX4_kindFor_55 : decode cX4_kindFor 55 = .ok (.invokevirtual 199, 3) := by decide +kernel
theorem dX4_kindFor_58 : decode cX4_kindFor 58 = .ok (.invokestatic 125, 3) := by decide +kernel
theorem dX4_kindFor_61 : decode cX4_kindFor 61 = .ok (.istore 6, 2) := by decide +kernel
theorem dX4_kindFor_63 : decode cX4_kindFor 63 = .ok (.iload 6, 2) := by decide +kernel
theorem dX4_kindFor_65 : decode cX4_kindFor 65 = .ok (.iload 4, 2) := by decide +kernel
theorem dX4_kindFor_67 : decode cX4_kindFor 67 = .ok (.if_icmp .le 8, 3) := by decide +kernel
theorem dX4_kindFor_70 : decode cX4_kindFor 70 = .ok (.iload 5, 2) := by decide +kernel
theorem dX4_kindFor_72 : decode cX4_kindFor 72 = .ok (.goto 4, 3) := by decide +kernel
theorem dX4_kindFor_75 : decode cX4_kindFor 75 = .ok (.iload_n 3, 1) := by decide +kernel
theorem dX4_kindFor_76 : decode cX4_kindFor 76 = .ok (.istore_n 3, 1) := by decide +kernel
theorem dX4_kindFor_77 : decode cX4_kindFor 77 = .ok (.iload 4, 2) := by decide +kernel
theorem dX4_kindFor_79 : decode cX4_kindFor 79 = .ok (.iload 6, 2) := by decide +kernel
theorem dX4_kindFor_81 : decode cX4_kindFor 81 = .ok (.invokestatic 132, 3) := by decide +kernel
theorem dX4_kindFor_84 : decode cX4_kindFor 84 = .ok (.istore 4, 2) := by decide +kernel
theorem dX4_kindFor_86 : decode cX4_kindFor 86 = .ok (.iinc 5 1, 3) := by decide +kernel
theorem dX4_kindFor_89 : decode cX4_kindFor 89 = .ok (.goto (-59), 3) := by decide +kernel
theorem dX4_kindFor_92 : decode cX4_kindFor 92 = .ok (.aload_n 0, 1) := by decide +kernel
theorem dX4_kindFor_93 : decode cX4_kindFor 93 = .ok (.getfield 9, 3) := by decide +kernel
theorem dX4_kindFor_96 : decode cX4_kindFor 96 = .ok (.iload_n 1, 1) := by decide +kernel
theorem dX4_kindFor_97 : decode cX4_kindFor 97 = .ok (.iconst 0, 1) := by decide +kernel
theorem dX4_kindFor_98 : decode cX4_kindFor 98 = .ok (.invokestatic 98, 3) := by decide +kernel
theorem dX4_kindFor_101 : decode cX4_kindFor 101 = .ok (.iload_n 2, 1) := by decide +kernel
theorem dX4_kindFor_102 : decode cX4_kindFor 102 = .ok (.iastore, 1) := by decide +kernel
theorem dX4_kindFor_103 : decode cX4_kindFor 103 = .ok (.iload_n 3, 1) := by decide +kernel
theorem dX4_kindFor_104 : decode cX4_kindFor 104 = .ok (.ireturn, 1) := by decide +kernel
theorem dX4_lacks_0 : decode cX4_lacks 0 = .ok (.iload_n 1, 1) := by decide +kernel
theorem dX4_lacks_1 : decode cX4_lacks 1 = .ok (.invokestatic 211, 3) := by decide +kernel
theorem dX4_lacks_4 : decode cX4_lacks 4 = .ok (.ifCond .ne 8, 3) := by decide +kernel
theorem dX4_lacks_7 : decode cX4_lacks 7 = .ok (.ldc 69, 2) := by decide +kernel
theorem dX4_lacks_9 : decode cX4_lacks 9 = .ok (.goto 18, 3) := by decide +kernel
theorem dX4_lacks_12 : decode cX4_lacks 12 = .ok (.aload_n 0, 1) := by decide +kernel
theorem dX4_lacks_13 : decode cX4_lacks 13 = .ok (.getfield 57, 3) := by decide +kernel
theorem dX4_lacks_16 : decode cX4_lacks 16 = .ok (.iload_n 1, 1) := by decide +kernel
theorem dX4_lacks_17 : decode cX4_lacks 17 = .ok (.iaload, 1) := by decide +kernel
theorem dX4_lacks_18 : decode cX4_lacks 18 = .ok (.ifCond .ne 8, 3) := by decide +kernel
theorem dX4_lacks_21 : decode cX4_lacks 21 = .ok (.ldc 214, 2) := by decide +kernel
theorem dX4_lacks_23 : decode cX4_lacks 23 = .ok (.goto 4, 3) := by decide +kernel
theorem dX4_lacks_26 : decode cX4_lacks 26 = .ok (.iconst 0, 1) := by decide +kernel
theorem dX4_lacks_27 : decode cX4_lacks 27 = .ok (.ireturn, 1) := by decide +kernel
theorem dX4_earOf_0 : decode cX4_earOf 0 = .ok (.aload_n 0, 1) := by decide +kernel
theorem dX4_earOf_1 : decode cX4_earOf 1 = .ok (.getfield 63, 3) := by decide +kernel
theorem dX4_earOf_4 : decode cX4_earOf 4 = .ok (.bipush 40, 2) := by decide +kernel
theorem dX4_earOf_6 : decode cX4_earOf 6 = .ok (.iload_n 1, 1) := by decide +kernel
theorem dX4_earOf_7 : decode cX4_earOf 7 = .ok (.imul, 1) := by decide +kernel
theorem dX4_earOf_8 : decode cX4_earOf 8 = .ok (.iconst 2, 1) := by decide +kernel
theorem dX4_earOf_9 : decode cX4_earOf 9 = .ok (.iload_n 2, 1) := by decide +kernel
theorem dX4_earOf_10 : decode cX4_earOf 10 = .ok (.imul, 1) := by decide +kernel
theorem dX4_earOf_11 : decode cX4_earOf 11 = .ok (.iadd, 1) := by decide +kernel
theorem dX4_earOf_12 : decode cX4_earOf 12 = .ok (.iaload, 1) := by decide +kernel
theorem dX4_earOf_13 : decode cX4_earOf 13 = .ok (.ireturn, 1) := by decide +kernel
theorem dX4_ears_0 : decode cX4_ears 0 = .ok (.aload_n 0, 1) := by decide +kernel
theorem dX4_ears_1 : decode cX4_ears 1 = .ok (.getfield 60, 3) := by decide +kernel
theorem dX4_ears_4 : decode cX4_ears 4 = .ok (.iload_n 1, 1) := by decide +kernel
theorem dX4_ears_5 : decode cX4_ears 5 = .ok (.iaload, 1) := by decide +kernel
theorem dX4_ears_6 : decode cX4_ears 6 = .ok (.iconst 2, 1) := by decide +kernel
theorem dX4_ears_7 : decode cX4_ears 7 = .ok (.idiv, 1) := by decide +kernel
theorem dX4_ears_8 : decode cX4_ears 8 = .ok (.ireturn, 1) := by decide +kernel
theorem dX4_areEars_0 : decode cX4_areEars 0 = .ok (.iconst 1, 1) := by decide +kernel
theorem dX4_areEars_1 : decode cX4_areEars 1 = .ok (.istore_n 2, 1) := by decide +kernel
theorem dX4_areEars_2 : decode cX4_areEars 2 = .ok (.iconst 0, 1) := by decide +kernel
theorem dX4_areEars_3 : decode cX4_areEars 3 = .ok (.istore_n 3, 1) := by decide +kernel
theorem dX4_areEars_4 : decode cX4_areEars 4 = .ok (.iload_n 3, 1) := by decide +kernel
theorem dX4_areEars_5 : decode cX4_areEars 5 = .ok (.aload_n 0, 1) := by decide +kernel
theorem dX4_areEars_6 : decode cX4_areEars 6 = .ok (.iload_n 1, 1) := by decide +kernel
theorem dX4_areEars_7 : decode cX4_areEars 7 = .ok (.invokevirtual 215, 3) := by decide +kernel
theorem dX4_areEars_10 : decode cX4_areEars 10 = .ok (.if_icmp .ge 31, 3) := by decide +kernel
theorem dX4_areEars_13 : decode cX4_areEars 13 = .ok (.iload_n 2, 1) := by decide +kernel
theorem dX4_areEars_14 : decode cX4_areEars 14 = .ok (.ifCond .eq 19, 3) := by decide +kernel
theorem dX4_areEars_17 : decode cX4_areEars 17 = .ok (.aload_n 0, 1) := by decide +kernel
theorem dX4_areEars_18 : decode cX4_areEars 18 = .ok (.iload_n 1, 1) := by decide +kernel
theorem dX4_areEars_19 : decode cX4_areEars 19 = .ok (.iload_n 3, 1) := by decide +kernel
theorem dX4_areEars_20 : decode cX4_areEars 20 = .ok (.invokevirtual 218, 3) := by decide +kernel
theorem dX4_areEars_23 : decode cX4_areEars 23 = .ok (.invokestatic 84, 3) := by decide +kernel
theorem dX4_areEars_26 : decode cX4_areEars 26 = .ok (.ifCond .eq 7, 3) := by decide +kernel
theorem dX4_areEars_29 : decode cX4_areEars 29 = .ok (.iconst 1, 1) := by decide +kernel
theorem dX4_areEars_30 : decode cX4_areEars 30 = .ok (.goto 4, 3) := by decide +kernel
theorem dX4_areEars_33 : decode cX4_areEars 33 = .ok (.iconst 0, 1) := by decide +kernel
theorem dX4_areEars_34 : decode cX4_areEars 34 = .ok (.istore_n 2, 1) := by decide +kernel
theorem dX4_areEars_35 : decode cX4_areEars 35 = .ok (.iinc 3 1, 3) := by decide +kernel
theorem dX4_areEars_38 : decode cX4_areEars 38 = .ok (.goto (-34), 3) := by decide +kernel
theorem dX4_areEars_41 : decode cX4_areEars 41 = .ok (.iload_n 2, 1) := by decide +kernel
theorem dX4_areEars_42 : decode cX4_areEars 42 = .ok (.ireturn, 1) := by decide +kernel
theorem dX4_isSo_0 : decode cX4_isSo 0 = .ok (.iconst 1, 1) := by decide +kernel
theorem dX4_isSo_1 : decode cX4_isSo 1 = .ok (.istore 4, 2) := by decide +kernel
theorem dX4_isSo_3 : decode cX4_isSo 3 = .ok (.iconst 0, 1) := by decide +kernel
theorem dX4_isSo_4 : decode cX4_isSo 4 = .ok (.istore 5, 2) := by decide +kernel
theorem dX4_isSo_6 : decode cX4_isSo 6 = .ok (.iload 5, 2) := by decide +kernel
theorem dX4_isSo_8 : decode cX4_isSo 8 = .ok (.aload_n 0, 1) := by decide +kernel
theorem dX4_isSo_9 : decode cX4_isSo 9 = .ok (.iload_n 1, 1) := by decide +kernel
theorem dX4_isSo_10 : decode cX4_isSo 10 = .ok (.invokevirtual 215, 3) := by decide +kernel
theorem dX4_isSo_13 : decode cX4_isSo 13 = .ok (.if_icmp .ge 53, 3) := by decide +kernel
theorem dX4_isSo_16 : decode cX4_isSo 16 = .ok (.iload 4, 2) := by decide +kernel
theorem dX4_isSo_18 : decode cX4_isSo 18 = .ok (.ifCond .eq 39, 3) := by decide +kernel
theorem dX4_isSo_21 : decode cX4_isSo 21 = .ok (.aload_n 0, 1) := by decide +kernel
theorem dX4_isSo_22 : decode cX4_isSo 22 = .ok (.iload_n 2, 1) := by decide +kernel
theorem dX4_isSo_23 : decode cX4_isSo 23 = .ok (.iload_n 3, 1) := by decide +kernel
theorem dX4_isSo_24 : decode cX4_isSo 24 = .ok (.aload_n 0, 1) := by decide +kernel
theorem dX4_isSo_25 : decode cX4_isSo 25 = .ok (.iload_n 1, 1) := by decide +kernel
theorem dX4_isSo_26 : decode cX4_isSo 26 = .ok (.iload 5, 2) := by decide +kernel
theorem dX4_isSo_28 : decode cX4_isSo 28 = .ok (.invokevirtual 218, 3) := by decide +kernel
theorem dX4_isSo_31 : decode cX4_isSo 31 = .ok (.invokevirtual 150, 3) := by decide +kernel
theorem dX4_isSo_34 : decode cX4_isSo 34 = .ok (.aload_n 0, 1) := by decide +kernel
theorem dX4_isSo_35 : decode cX4_isSo 35 = .ok (.getfield 63, 3) := by decide +kernel
theorem dX4_isSo_38 : decode cX4_isSo 38 = .ok (.bipush 40, 2) := by decide +kernel
theorem dX4_isSo_40 : decode cX4_isSo 40 = .ok (.iload_n 1, 1) := by decide +kernel
theorem dX4_isSo_41 : decode cX4_isSo 41 = .ok (.imul, 1) := by decide +kernel
theorem dX4_isSo_42 : decode cX4_isSo 42 = .ok (.iconst 2, 1) := by decide +kernel
theorem dX4_isSo_43 : decode cX4_isSo 43 = .ok (.iload 5, 2) := by decide +kernel
theorem dX4_isSo_45 : decode cX4_isSo 45 = .ok (.imul, 1) := by decide +kernel
theorem dX4_isSo_46 : decode cX4_isSo 46 = .ok (.iadd, 1) := by decide +kernel
theorem dX4_isSo_47 : decode cX4_isSo 47 = .ok (.iconst 1, 1) := by decide +kernel
theorem dX4_isSo_48 : decode cX4_isSo 48 = .ok (.iadd, 1) := by decide +kernel
theorem dX4_isSo_49 : decode cX4_isSo 49 = .ok (.iaload, 1) := by decide +kernel
theorem dX4_isSo_50 : decode cX4_isSo 50 = .ok (.if_icmp .ne 7, 3) := by decide +kernel
theorem dX4_isSo_53 : decode cX4_isSo 53 = .ok (.iconst 1, 1) := by decide +kernel
theorem dX4_isSo_54 : decode cX4_isSo 54 = .ok (.goto 4, 3) := by decide +kernel
theorem dX4_isSo_57 : decode cX4_isSo 57 = .ok (.iconst 0, 1) := by decide +kernel
theorem dX4_isSo_58 : decode cX4_isSo 58 = .ok (.istore 4, 2) := by decide +kernel
theorem dX4_isSo_60 : decode cX4_isSo 60 = .ok (.iinc 5 1, 3) := by decide +kernel
theorem dX4_isSo_63 : decode cX4_isSo 63 = .ok (.goto (-57), 3) := by decide +kernel
theorem dX4_isSo_66 : decode cX4_isSo 66 = .ok (.iload 4, 2) := by decide +kernel
theorem dX4_isSo_68 : decode cX4_isSo 68 = .ok (.ireturn, 1) := by decide +kernel
theorem dX4_lacksOf_0 : decode cX4_lacksOf 0 = .ok (.aload_n 0, 1) := by decide +kernel
theorem dX4_lacksOf_1 : decode cX4_lacksOf 1 = .ok (.iload_n 1, 1) := by decide +kernel
theorem dX4_lacksOf_2 : decode cX4_lacksOf 2 = .ok (.invokevirtual 221, 3) := by decide +kernel
theorem dX4_lacksOf_5 : decode cX4_lacksOf 5 = .ok (.istore_n 3, 1) := by decide +kernel
theorem dX4_lacksOf_6 : decode cX4_lacksOf 6 = .ok (.iload_n 3, 1) := by decide +kernel
theorem dX4_lacksOf_7 : decode cX4_lacksOf 7 = .ok (.ifCond .eq 7, 3) := by decide +kernel
theorem dX4_lacksOf_10 : decode cX4_lacksOf 10 = .ok (.iload_n 3, 1) := by decide +kernel
theorem dX4_lacksOf_11 : decode cX4_lacksOf 11 = .ok (.goto 32, 3) := by decide +kernel
theorem dX4_lacksOf_14 : decode cX4_lacksOf 14 = .ok (.iload_n 2, 1) := by decide +kernel
theorem dX4_lacksOf_15 : decode cX4_lacksOf 15 = .ok (.iconst 1, 1) := by decide +kernel
theorem dX4_lacksOf_16 : decode cX4_lacksOf 16 = .ok (.bipush 99, 2) := by decide +kernel
theorem dX4_lacksOf_18 : decode cX4_lacksOf 18 = .ok (.invokestatic 74, 3) := by decide +kernel
theorem dX4_lacksOf_21 : decode cX4_lacksOf 21 = .ok (.ifCond .ne 8, 3) := by decide +kernel
theorem dX4_lacksOf_24 : decode cX4_lacksOf 24 = .ok (.ldc 69, 2) := by decide +kernel
theorem dX4_lacksOf_26 : decode cX4_lacksOf 26 = .ok (.goto 17, 3) := by decide +kernel
theorem dX4_lacksOf_29 : decode cX4_lacksOf 29 = .ok (.aload_n 0, 1) := by decide +kernel
theorem dX4_lacksOf_30 : decode cX4_lacksOf 30 = .ok (.iload_n 1, 1) := by decide +kernel
theorem dX4_lacksOf_31 : decode cX4_lacksOf 31 = .ok (.invokevirtual 224, 3) := by decide +kernel
theorem dX4_lacksOf_34 : decode cX4_lacksOf 34 = .ok (.ifCond .eq 7, 3) := by decide +kernel
theorem dX4_lacksOf_37 : decode cX4_lacksOf 37 = .ok (.iconst 0, 1) := by decide +kernel
theorem dX4_lacksOf_38 : decode cX4_lacksOf 38 = .ok (.goto 5, 3) := by decide +kernel
theorem dX4_lacksOf_41 : decode cX4_lacksOf 41 = .ok (.ldc 173, 2) := by decide +kernel
theorem dX4_lacksOf_43 : decode cX4_lacksOf 43 = .ok (.ireturn, 1) := by decide +kernel
theorem dX4_stands_0 : decode cX4_stands 0 = .ok (.aload_n 0, 1) := by decide +kernel
theorem dX4_stands_1 : decode cX4_stands 1 = .ok (.iload_n 1, 1) := by decide +kernel
theorem dX4_stands_2 : decode cX4_stands 2 = .ok (.iload_n 2, 1) := by decide +kernel
theorem dX4_stands_3 : decode cX4_stands 3 = .ok (.invokevirtual 227, 3) := by decide +kernel
theorem dX4_stands_6 : decode cX4_stands 6 = .ok (.ifCond .eq 14, 3) := by decide +kernel
theorem dX4_stands_9 : decode cX4_stands 9 = .ok (.aload_n 0, 1) := by decide +kernel
theorem dX4_stands_10 : decode cX4_stands 10 = .ok (.aload_n 0, 1) := by decide +kernel
theorem dX4_stands_11 : decode cX4_stands 11 = .ok (.iload_n 1, 1) := by decide +kernel
theorem dX4_stands_12 : decode cX4_stands 12 = .ok (.iload_n 2, 1) := by decide +kernel
theorem dX4_stands_13 : decode cX4_stands 13 = .ok (.invokevirtual 227, 3) := by decide +kernel
theorem dX4_stands_16 : decode cX4_stands 16 = .ok (.invokevirtual 88, 3) := by decide +kernel
theorem dX4_stands_19 : decode cX4_stands 19 = .ok (.ireturn, 1) := by decide +kernel
theorem dX4_stands_20 : decode cX4_stands 20 = .ok (.iconst 0, 1) := by decide +kernel
theorem dX4_stands_21 : decode cX4_stands 21 = .ok (.istore_n 3, 1) := by decide +kernel
theorem dX4_stands_22 : decode cX4_stands 22 = .ok (.iconst 0, 1) := by decide +kernel
theorem dX4_stands_23 : decode cX4_stands 23 = .ok (.istore 4, 2) := by decide +kernel
theorem dX4_stands_25 : decode cX4_stands 25 = .ok (.iload 4, 2) := by decide +kernel
theorem dX4_stands_27 : decode cX4_stands 27 = .ok (.bipush 64, 2) := by decide +kernel
theorem dX4_stands_29 : decode cX4_stands 29 = .ok (.if_icmp .ge 28, 3) := by decide +kernel
theorem dX4_stands_32 : decode cX4_stands 32 = .ok (.iload_n 3, 1) := by decide +kernel
theorem dX4_stands_33 : decode cX4_stands 33 = .ok (.aload_n 0, 1) := by decide +kernel
theorem dX4_stands_34 : decode cX4_stands 34 = .ok (.iload_n 1, 1) := by decide +kernel
theorem dX4_stands_35 : decode cX4_stands 35 = .ok (.iload_n 2, 1) := by decide +kernel
theorem dX4_stands_36 : decode cX4_stands 36 = .ok (.iload 4, 2) := by decide +kernel
theorem dX4_stands_38 : decode cX4_stands 38 = .ok (.invokevirtual 230, 3) := by decide +kernel
theorem dX4_stands_41 : decode cX4_stands 41 = .ok (.ifCond .eq 7, 3) := by decide +kernel
theorem dX4_stands_44 : decode cX4_stands 44 = .ok (.iconst 1, 1) := by decide +kernel
theorem dX4_stands_45 : decode cX4_stands 45 = .ok (.goto 4, 3) := by decide +kernel
theorem dX4_stands_48 : decode cX4_stands 48 = .ok (.iconst 0, 1) := by decide +kernel
theorem dX4_stands_49 : decode cX4_stands 49 = .ok (.iadd, 1) := by decide +kernel
theorem dX4_stands_50 : decode cX4_stands 50 = .ok (.istore_n 3, 1) := by decide +kernel
theorem dX4_stands_51 : decode cX4_stands 51 = .ok (.iinc 4 1, 3) := by decide +kernel
theorem dX4_stands_54 : decode cX4_stands 54 = .ok (.goto (-29), 3) := by decide +kernel
theorem dX4_stands_57 : decode cX4_stands 57 = .ok (.iload_n 3, 1) := by decide +kernel
theorem dX4_stands_58 : decode cX4_stands 58 = .ok (.ireturn, 1) := by decide +kernel
theorem dX4_where_0 : decode cX4_where 0 = .ok (.aload_n 0, 1) := by decide +kernel
theorem dX4_where_1 : decode cX4_where 1 = .ok (.iload_n 1, 1) := by decide +kernel
theorem dX4_where_2 : decode cX4_where 2 = .ok (.iload_n 2, 1) := by decide +kernel
theorem dX4_where_3 : decode cX4_where 3 = .ok (.invokevirtual 227, 3) := by decide +kernel
theorem dX4_where_6 : decode cX4_where 6 = .ok (.ifCond .eq 14, 3) := by decide +kernel
theorem dX4_where_9 : decode cX4_where 9 = .ok (.aload_n 0, 1) := by decide +kernel
theorem dX4_where_10 : decode cX4_where 10 = .ok (.aload_n 0, 1) := by decide +kernel
theorem dX4_where_11 : decode cX4_where 11 = .ok (.iload_n 1, 1) := by decide +kernel
theorem dX4_where_12 : decode cX4_where 12 = .ok (.iload_n 2, 1) := by decide +kernel
theorem dX4_where_13 : decode cX4_where 13 = .ok (.invokevirtual 227, 3) := by decide +kernel
theorem dX4_where_16 : decode cX4_where 16 = .ok (.invokevirtual 88, 3) := by decide +kernel
theorem dX4_where_19 : decode cX4_where 19 = .ok (.ireturn, 1) := by decide +kernel
theorem dX4_where_20 : decode cX4_where 20 = .ok (.iconst 0, 1) := by decide +kernel
theorem dX4_where_21 : decode cX4_where 21 = .ok (.istore_n 3, 1) := by decide +kernel
theorem dX4_where_22 : decode cX4_where 22 = .ok (.iload_n 3, 1) := by decide +kernel
theorem dX4_where_23 : decode cX4_where 23 = .ok (.bipush 64, 2) := by decide +kernel
theorem dX4_where_25 : decode cX4_where 25 = .ok (.if_icmp .ge 19, 3) := by decide +kernel
theorem dX4_where_28 : decode cX4_where 28 = .ok (.aload_n 0, 1) := by decide +kernel
theorem dX4_where_29 : decode cX4_where 29 = .ok (.iload_n 1, 1) := by decide +kernel
theorem dX4_where_30 : decode cX4_where 30 = .ok (.iload_n 2, 1) := by decide +kernel
theorem dX4_where_31 : decode cX4_where 31 = .ok (.iload_n 3, 1) := by decide +kernel
theorem dX4_where_32 : decode cX4_where 32 = .ok (.invokevirtual 230, 3) := by decide +kernel
theorem dX4_where_35 : decode cX4_where 35 = .ok (.ifCond .ne 9, 3) := by decide +kernel
theorem dX4_where_38 : decode cX4_where 38 = .ok (.iinc 3 1, 3) := by decide +kernel
theorem dX4_where_41 : decode cX4_where 41 = .ok (.goto (-19), 3) := by decide +kernel
theorem dX4_where_44 : decode cX4_where 44 = .ok (.iload_n 3, 1) := by decide +kernel
theorem dX4_where_45 : decode cX4_where 45 = .ok (.bipush 64, 2) := by decide +kernel
theorem dX4_where_47 : decode cX4_where 47 = .ok (.if_icmp .ne 12, 3) := by decide +kernel
theorem dX4_where_50 : decode cX4_where 50 = .ok (.aload_n 0, 1) := by decide +kernel
theorem dX4_where_51 : decode cX4_where 51 = .ok (.ldc 198, 2) := by decide +kernel
theorem dX4_where_53 : decode cX4_where 53 = .ok (.invokevirtual 88, 3) := by decide +kernel
theorem dX4_where_56 : decode cX4_where 56 = .ok (.goto 4, 3) := by decide +kernel
theorem dX4_where_59 : decode cX4_where 59 = .ok (.iload_n 3, 1) := by decide +kernel
theorem dX4_where_60 : decode cX4_where 60 = .ok (.ireturn, 1) := by decide +kernel
theorem dX4_worst_0 : decode cX4_worst 0 = .ok (.iconst 0, 1) := by decide +kernel
theorem dX4_worst_1 : decode cX4_worst 1 = .ok (.istore 4, 2) := by decide +kernel
theorem dX4_worst_3 : decode cX4_worst 3 = .ok (.iload 4, 2) := by decide +kernel
theorem dX4_worst_5 : decode cX4_worst 5 = .ok (.bipush 99, 2) := by decide +kernel
theorem dX4_worst_7 : decode cX4_worst 7 = .ok (.if_icmp .gt 17, 3) := by decide +kernel
theorem dX4_worst_10 : decode cX4_worst 10 = .ok (.aload_n 0, 1) := by decide +kernel
theorem dX4_worst_11 : decode cX4_worst 11 = .ok (.getfield 28, 3) := by decide +kernel
theorem dX4_worst_14 : decode cX4_worst 14 = .ok (.iload 4, 2) := by decide +kernel
theorem dX4_worst_16 : decode cX4_worst 16 = .ok (.iconst 0, 1) := by decide +kernel
theorem dX4_worst_17 : decode cX4_worst 17 = .ok (.iastore, 1) := by decide +kernel
theorem dX4_worst_18 : decode cX4_worst 18 = .ok (.iinc 4 1, 3) := by decide +kernel
theorem dX4_worst_21 : decode cX4_worst 21 = .ok (.goto (-18), 3) := by decide +kernel
theorem dX4_worst_24 : decode cX4_worst 24 = .ok (.iconst 0, 1) := by decide +kernel
theorem dX4_worst_25 : decode cX4_worst 25 = .ok (.istore 4, 2) := by decide +kernel
theorem dX4_worst_27 : decode cX4_worst 27 = .ok (.iconst 0, 1) := by decide +kernel
theorem dX4_worst_28 : decode cX4_worst 28 = .ok (.istore 5, 2) := by decide +kernel
theorem dX4_worst_30 : decode cX4_worst 30 = .ok (.iload 5, 2) := by decide +kernel
theorem dX4_worst_32 : decode cX4_worst 32 = .ok (.bipush 64, 2) := by decide +kernel
theorem dX4_worst_34 : decode cX4_worst 34 = .ok (.if_icmp .ge 59, 3) := by decide +kernel
theorem dX4_worst_37 : decode cX4_worst 37 = .ok (.aload_n 0, 1) := by decide +kernel
theorem dX4_worst_38 : decode cX4_worst 38 = .ok (.iload_n 2, 1) := by decide +kernel
theorem dX4_worst_39 : decode cX4_worst 39 = .ok (.iload 5, 2) := by decide +kernel
theorem dX4_worst_41 : decode cX4_worst 41 = .ok (.iload_n 3, 1) := by decide +kernel
theorem dX4_worst_42 : decode cX4_worst 42 = .ok (.invokevirtual 150, 3) := by decide +kernel
theorem dX4_worst_45 : decode cX4_worst 45 = .ok (.istore 6, 2) := by decide +kernel
theorem dX4_worst_47 : decode cX4_worst 47 = .ok (.aload_n 0, 1) := by decide +kernel
theorem dX4_worst_48 : decode cX4_worst 48 = .ok (.getfield 28, 3) := by decide +kernel
theorem dX4_worst_51 : decode cX4_worst 51 = .ok (.iload 6, 2) := by decide +kernel
theorem dX4_worst_53 : decode cX4_worst 53 = .ok (.dup2, 1) := by decide +kernel
theorem dX4_worst_54 : decode cX4_worst 54 = .ok (.iaload, 1) := by decide +kernel
theorem dX4_worst_55 : decode cX4_worst 55 = .ok (.aload_n 0, 1) := by decide +kernel
theorem dX4_worst_56 : decode cX4_worst 56 = .ok (.iload_n 1, 1) := by decide +kernel
theorem dX4_worst_57 : decode cX4_worst 57 = .ok (.iload_n 2, 1) := by decide +kernel
theorem dX4_worst_58 : decode cX4_worst 58 = .ok (.iload 5, 2) := by decide +kernel
theorem dX4_worst_60 : decode cX4_worst 60 = .ok (.invokevirtual 230, 3) := by decide +kernel
theorem dX4_worst_63 : decode cX4_worst 63 = .ok (.ifCond .eq 7, 3) := by decide +kernel
theorem dX4_worst_66 : decode cX4_worst 66 = .ok (.iconst 1, 1) := by decide +kernel
theorem dX4_worst_67 : decode cX4_worst 67 = .ok (.goto 4, 3) := by decide +kernel
theorem dX4_worst_70 : decode cX4_worst 70 = .ok (.iconst 0, 1) := by decide +kernel
theorem dX4_worst_71 : decode cX4_worst 71 = .ok (.iadd, 1) := by decide +kernel
theorem dX4_worst_72 : decode cX4_worst 72 = .ok (.iastore, 1) := by decide +kernel
theorem dX4_worst_73 : decode cX4_worst 73 = .ok (.iload 4, 2) := by decide +kernel
theorem dX4_worst_75 : decode cX4_worst 75 = .ok (.aload_n 0, 1) := by decide +kernel
theorem dX4_worst_76 : decode cX4_worst 76 = .ok (.getfield 28, 3) := by decide +kernel
theorem dX4_worst_79 : decode cX4_worst 79 = .ok (.iload 6, 2) := by decide +kernel
theorem dX4_worst_81 : decode cX4_worst 81 = .ok (.iaload, 1) := by decide +kernel
theorem dX4_worst_82 : decode cX4_worst 82 = .ok (.invokestatic 132, 3) := by decide +kernel
theorem dX4_worst_85 : decode cX4_worst 85 = .ok (.istore 4, 2) := by decide +kernel
theorem dX4_worst_87 : decode cX4_worst 87 = .ok (.iinc 5 1, 3) := by decide +kernel
theorem dX4_worst_90 : decode cX4_worst 90 = .ok (.goto (-60), 3) := by decide +kernel
theorem dX4_worst_93 : decode cX4_worst 93 = .ok (.iload 4, 2) := by decide +kernel
theorem dX4_worst_95 : decode cX4_worst 95 = .ok (.ireturn, 1) := by decide +kernel
theorem dX4_ear_0 : decode cX4_ear 0 = .ok (.aload_n 0, 1) := by decide +kernel
theorem dX4_ear_1 : decode cX4_ear 1 = .ok (.iload_n 1, 1) := by decide +kernel
theorem dX4_ear_2 : decode cX4_ear 2 = .ok (.iload_n 2, 1) := by decide +kernel
theorem dX4_ear_3 : decode cX4_ear 3 = .ok (.invokevirtual 227, 3) := by decide +kernel
theorem dX4_ear_6 : decode cX4_ear 6 = .ok (.ifCond .eq 14, 3) := by decide +kernel
theorem dX4_ear_9 : decode cX4_ear 9 = .ok (.aload_n 0, 1) := by decide +kernel
theorem dX4_ear_10 : decode cX4_ear 10 = .ok (.aload_n 0, 1) := by decide +kernel
theorem dX4_ear_11 : decode cX4_ear 11 = .ok (.iload_n 1, 1) := by decide +kernel
theorem dX4_ear_12 : decode cX4_ear 12 = .ok (.iload_n 2, 1) := by decide +kernel
theorem dX4_ear_13 : decode cX4_ear 13 = .ok (.invokevirtual 227, 3) := by decide +kernel
theorem dX4_ear_16 : decode cX4_ear 16 = .ok (.invokevirtual 88, 3) := by decide +kernel
theorem dX4_ear_19 : decode cX4_ear 19 = .ok (.ireturn, 1) := by decide +kernel
theorem dX4_ear_20 : decode cX4_ear 20 = .ok (.iconst 0, 1) := by decide +kernel
theorem dX4_ear_21 : decode cX4_ear 21 = .ok (.istore_n 3, 1) := by decide +kernel
theorem dX4_ear_22 : decode cX4_ear 22 = .ok (.ldc 197, 2) := by decide +kernel
theorem dX4_ear_24 : decode cX4_ear 24 = .ok (.istore 4, 2) := by decide +kernel
theorem dX4_ear_26 : decode cX4_ear 26 = .ok (.iconst 0, 1) := by decide +kernel
theorem dX4_ear_27 : decode cX4_ear 27 = .ok (.istore 5, 2) := by decide +kernel
theorem dX4_ear_29 : decode cX4_ear 29 = .ok (.iload 5, 2) := by decide +kernel
theorem dX4_ear_31 : decode cX4_ear 31 = .ok (.bipush 64, 2) := by decide +kernel
theorem dX4_ear_33 : decode cX4_ear 33 = .ok (.if_icmp .ge 42, 3) := by decide +kernel
theorem dX4_ear_36 : decode cX4_ear 36 = .ok (.aload_n 0, 1) := by decide +kernel
theorem dX4_ear_37 : decode cX4_ear 37 = .ok (.iload_n 1, 1) := by decide +kernel
theorem dX4_ear_38 : decode cX4_ear 38 = .ok (.iload_n 2, 1) := by decide +kernel
theorem dX4_ear_39 : decode cX4_ear 39 = .ok (.iload 5, 2) := by decide +kernel
theorem dX4_ear_41 : decode cX4_ear 41 = .ok (.invokevirtual 233, 3) := by decide +kernel
theorem dX4_ear_44 : decode cX4_ear 44 = .ok (.istore 6, 2) := by decide +kernel
theorem dX4_ear_46 : decode cX4_ear 46 = .ok (.iload 6, 2) := by decide +kernel
theorem dX4_ear_48 : decode cX4_ear 48 = .ok (.iload 4, 2) := by decide +kernel
theorem dX4_ear_50 : decode cX4_ear 50 = .ok (.if_icmp .ge 8, 3) := by decide +kernel
theorem dX4_ear_53 : decode cX4_ear 53 = .ok (.iload 5, 2) := by decide +kernel
theorem dX4_ear_55 : decode cX4_ear 55 = .ok (.goto 4, 3) := by decide +kernel
theorem dX4_ear_58 : decode cX4_ear 58 = .ok (.iload_n 3, 1) := by decide +kernel
theorem dX4_ear_59 : decode cX4_ear 59 = .ok (.istore_n 3, 1) := by decide +kernel
theorem dX4_ear_60 : decode cX4_ear 60 = .ok (.iload 4, 2) := by decide +kernel
theorem dX4_ear_62 : decode cX4_ear 62 = .ok (.iload 6, 2) := by decide +kernel
theorem dX4_ear_64 : decode cX4_ear 64 = .ok (.invokestatic 125, 3) := by decide +kernel
theorem dX4_ear_67 : decode cX4_ear 67 = .ok (.istore 4, 2) := by decide +kernel
theorem dX4_ear_69 : decode cX4_ear 69 = .ok (.iinc 5 1, 3) := by decide +kernel
theorem dX4_ear_72 : decode cX4_ear 72 = .ok (.goto (-43), 3) := by decide +kernel
theorem dX4_ear_75 : decode cX4_ear 75 = .ok (.iload 4, 2) := by decide +kernel
theorem dX4_ear_77 : decode cX4_ear 77 = .ok (.ifCond .ne 12, 3) := by decide +kernel
theorem dX4_ear_80 : decode cX4_ear 80 = .ok (.aload_n 0, 1) := by decide +kernel
theorem dX4_ear_81 : decode cX4_ear 81 = .ok (.ldc 198, 2) := by decide +kernel
theorem dX4_ear_83 : decode cX4_ear 83 = .ok (.invokevirtual 88, 3) := by decide +kernel
theorem dX4_ear_86 : decode cX4_ear 86 = .ok (.goto 4, 3) := by decide +kernel
theorem dX4_ear_89 : decode cX4_ear 89 = .ok (.iload_n 3, 1) := by decide +kernel
theorem dX4_ear_90 : decode cX4_ear 90 = .ok (.ireturn, 1) := by decide +kernel
theorem dX4_whose_0 : decode cX4_whose 0 = .ok (.aload_n 0, 1) := by decide +kernel
theorem dX4_whose_1 : decode cX4_whose 1 = .ok (.iload_n 1, 1) := by decide +kernel
theorem dX4_whose_2 : decode cX4_whose 2 = .ok (.iconst 1, 1) := by decide +kernel
theorem dX4_whose_3 : decode cX4_whose 3 = .ok (.invokevirtual 227, 3) := by decide +kernel
theorem dX4_whose_6 : decode cX4_whose 6 = .ok (.ifCond .eq 14, 3) := by decide +kernel
theorem dX4_whose_9 : decode cX4_whose 9 = .ok (.aload_n 0, 1) := by decide +kernel
theorem dX4_whose_10 : decode cX4_whose 10 = .ok (.aload_n 0, 1) := by decide +kernel
theorem dX4_whose_11 : decode cX4_whose 11 = .ok (.iload_n 1, 1) := by decide +kernel
theorem dX4_whose_12 : decode cX4_whose 12 = .ok (.iconst 1, 1) := by decide +kernel
theorem dX4_whose_13 : decode cX4_whose 13 = .ok (.invokevirtual 227, 3) := by decide +kernel
theorem dX4_whose_16 : decode cX4_whose 16 = .ok (.invokevirtual 88, 3) := by decide +kernel
theorem dX4_whose_19 : decode cX4_whose 19 = .ok (.ireturn, 1) := by decide +kernel
theorem dX4_whose_20 : decode cX4_whose 20 = .ok (.iconst 0, 1) := by decide +kernel
theorem dX4_whose_21 : decode cX4_whose 21 = .ok (.istore_n 2, 1) := by decide +kernel
theorem dX4_whose_22 : decode cX4_whose 22 = .ok (.iconst 0, 1) := by decide +kernel
theorem dX4_whose_23 : decode cX4_whose 23 = .ok (.istore_n 3, 1) := by decide +kernel
theorem dX4_whose_24 : decode cX4_whose 24 = .ok (.iload_n 3, 1) := by decide +kernel
theorem dX4_whose_25 : decode cX4_whose 25 = .ok (.aload_n 0, 1) := by decide +kernel
theorem dX4_whose_26 : decode cX4_whose 26 = .ok (.getfield 9, 3) := by decide +kernel
theorem dX4_whose_29 : decode cX4_whose 29 = .ok (.iconst 2, 1) := by decide +kernel
theorem dX4_whose_30 : decode cX4_whose 30 = .ok (.iaload, 1) := by decide +kernel
theorem dX4_whose_31 : decode cX4_whose 31 = .ok (.if_icmp .ge 47, 3) := by decide +kernel
theorem dX4_whose_34 : decode cX4_whose 34 = .ok (.iload_n 2, 1) := by decide +kernel
theorem dX4_whose_35 : decode cX4_whose 35 = .ok (.aload_n 0, 1) := by decide +kernel
theorem dX4_whose_36 : decode cX4_whose 36 = .ok (.iload_n 3, 1) := by decide +kernel
theorem dX4_whose_37 : decode cX4_whose 37 = .ok (.invokevirtual 115, 3) := by decide +kernel
theorem dX4_whose_40 : decode cX4_whose 40 = .ok (.ifCond .ne 29, 3) := by decide +kernel
theorem dX4_whose_43 : decode cX4_whose 43 = .ok (.aload_n 0, 1) := by decide +kernel
theorem dX4_whose_44 : decode cX4_whose 44 = .ok (.iload_n 1, 1) := by decide +kernel
theorem dX4_whose_45 : decode cX4_whose 45 = .ok (.aload_n 0, 1) := by decide +kernel
theorem dX4_whose_46 : decode cX4_whose 46 = .ok (.iload_n 3, 1) := by decide +kernel
theorem dX4_whose_47 : decode cX4_whose 47 = .ok (.iconst 3, 1) := by decide +kernel
theorem dX4_whose_48 : decode cX4_whose 48 = .ok (.invokevirtual 101, 3) := by decide +kernel
theorem dX4_whose_51 : decode cX4_whose 51 = .ok (.aload_n 0, 1) := by decide +kernel
theorem dX4_whose_52 : decode cX4_whose 52 = .ok (.iload_n 3, 1) := by decide +kernel
theorem dX4_whose_53 : decode cX4_whose 53 = .ok (.iconst 1, 1) := by decide +kernel
theorem dX4_whose_54 : decode cX4_whose 54 = .ok (.invokevirtual 101, 3) := by decide +kernel
theorem dX4_whose_57 : decode cX4_whose 57 = .ok (.invokevirtual 230, 3) := by decide +kernel
theorem dX4_whose_60 : decode cX4_whose 60 = .ok (.ifCond .eq 9, 3) := by decide +kernel
theorem dX4_whose_63 : decode cX4_whose 63 = .ok (.iconst 1, 1) := by decide +kernel
theorem dX4_whose_64 : decode cX4_whose 64 = .ok (.iload_n 3, 1) := by decide +kernel
theorem dX4_whose_65 : decode cX4_whose 65 = .ok (.ishl, 1) := by decide +kernel
theorem dX4_whose_66 : decode cX4_whose 66 = .ok (.goto 4, 3) := by decide +kernel
theorem dX4_whose_69 : decode cX4_whose 69 = .ok (.iconst 0, 1) := by decide +kernel
theorem dX4_whose_70 : decode cX4_whose 70 = .ok (.ior, 1) := by decide +kernel
theorem dX4_whose_71 : decode cX4_whose 71 = .ok (.istore_n 2, 1) := by decide +kernel
theorem dX4_whose_72 : decode cX4_whose 72 = .ok (.iinc 3 1, 3) := by decide +kernel
theorem dX4_whose_75 : decode cX4_whose 75 = .ok (.goto (-51), 3) := by decide +kernel
theorem dX4_whose_78 : decode cX4_whose 78 = .ok (.iload_n 2, 1) := by decide +kernel
theorem dX4_whose_79 : decode cX4_whose 79 = .ok (.ireturn, 1) := by decide +kernel
theorem dX4_stockBehind_0 : decode cX4_stockBehind 0 = .ok (.iload_n 0, 1) := by decide +kernel
theorem dX4_stockBehind_1 : decode cX4_stockBehind 1 = .ok (.istore_n 3, 1) := by decide +kernel
theorem dX4_stockBehind_2 : decode cX4_stockBehind 2 = .ok (.iconst 0, 1) := by decide +kernel
theorem dX4_stockBehind_3 : decode cX4_stockBehind 3 = .ok (.istore 4, 2) := by decide +kernel
theorem dX4_stockBehind_5 : decode cX4_stockBehind 5 = .ok (.iload 4, 2) := by decide +kernel
theorem dX4_stockBehind_7 : decode cX4_stockBehind 7 = .ok (.iload_n 2, 1) := by decide +kernel
theorem dX4_stockBehind_8 : decode cX4_stockBehind 8 = .ok (.if_icmp .ge 30, 3) := by decide +kernel
theorem dX4_stockBehind_11 : decode cX4_stockBehind 11 = .ok (.iload_n 3, 1) := by decide +kernel
theorem dX4_stockBehind_12 : decode cX4_stockBehind 12 = .ok (.iload_n 1, 1) := by decide +kernel
theorem dX4_stockBehind_13 : decode cX4_stockBehind 13 = .ok (.iload_n 3, 1) := by decide +kernel
theorem dX4_stockBehind_14 : decode cX4_stockBehind 14 = .ok (.invokestatic 125, 3) := by decide +kernel
theorem dX4_stockBehind_17 : decode cX4_stockBehind 17 = .ok (.isub, 1) := by decide +kernel
theorem dX4_stockBehind_18 : decode cX4_stockBehind 18 = .ok (.istore_n 3, 1) := by decide +kernel
theorem dX4_stockBehind_19 : decode cX4_stockBehind 19 = .ok (.sipush 9999, 3) := by decide +kernel
theorem dX4_stockBehind_22 : decode cX4_stockBehind 22 = .ok (.iload_n 3, 1) := by decide +kernel
theorem dX4_stockBehind_23 : decode cX4_stockBehind 23 = .ok (.iload_n 3, 1) := by decide +kernel
theorem dX4_stockBehind_24 : decode cX4_stockBehind 24 = .ok (.bipush 10, 2) := by decide +kernel
theorem dX4_stockBehind_26 : decode cX4_stockBehind 26 = .ok (.idiv, 1) := by decide +kernel
theorem dX4_stockBehind_27 : decode cX4_stockBehind 27 = .ok (.iadd, 1) := by decide +kernel
theorem dX4_stockBehind_28 : decode cX4_stockBehind 28 = .ok (.invokestatic 125, 3) := by decide +kernel
theorem dX4_stockBehind_31 : decode cX4_stockBehind 31 = .ok (.istore_n 3, 1) := by decide +kernel
theorem dX4_stockBehind_32 : decode cX4_stockBehind 32 = .ok (.iinc 4 1, 3) := by decide +kernel
theorem dX4_stockBehind_35 : decode cX4_stockBehind 35 = .ok (.goto (-30), 3) := by decide +kernel
theorem dX4_stockBehind_38 : decode cX4_stockBehind 38 = .ok (.iload_n 3, 1) := by decide +kernel
theorem dX4_stockBehind_39 : decode cX4_stockBehind 39 = .ok (.ireturn, 1) := by decide +kernel
theorem dX4_stock_0 : decode cX4_stock 0 = .ok (.iload_n 1, 1) := by decide +kernel
theorem dX4_stock_1 : decode cX4_stock 1 = .ok (.iconst 0, 1) := by decide +kernel
theorem dX4_stock_2 : decode cX4_stock 2 = .ok (.sipush 9999, 3) := by decide +kernel
theorem dX4_stock_5 : decode cX4_stock 5 = .ok (.invokestatic 74, 3) := by decide +kernel
theorem dX4_stock_8 : decode cX4_stock 8 = .ok (.ifCond .eq 33, 3) := by decide +kernel
theorem dX4_stock_11 : decode cX4_stock 11 = .ok (.iload_n 2, 1) := by decide +kernel
theorem dX4_stock_12 : decode cX4_stock 12 = .ok (.iconst 0, 1) := by decide +kernel
theorem dX4_stock_13 : decode cX4_stock 13 = .ok (.sipush 999, 3) := by decide +kernel
theorem dX4_stock_16 : decode cX4_stock 16 = .ok (.invokestatic 74, 3) := by decide +kernel
theorem dX4_stock_19 : decode cX4_stock 19 = .ok (.ifCond .eq 22, 3) := by decide +kernel
theorem dX4_stock_22 : decode cX4_stock 22 = .ok (.iload_n 3, 1) := by decide +kernel
theorem dX4_stock_23 : decode cX4_stock 23 = .ok (.iconst 0, 1) := by decide +kernel
theorem dX4_stock_24 : decode cX4_stock 24 = .ok (.bipush 99, 2) := by decide +kernel
theorem dX4_stock_26 : decode cX4_stock 26 = .ok (.invokestatic 74, 3) := by decide +kernel
theorem dX4_stock_29 : decode cX4_stock 29 = .ok (.ifCond .eq 12, 3) := by decide +kernel
theorem dX4_stock_32 : decode cX4_stock 32 = .ok (.iload_n 1, 1) := by decide +kernel
theorem dX4_stock_33 : decode cX4_stock 33 = .ok (.iload_n 2, 1) := by decide +kernel
theorem dX4_stock_34 : decode cX4_stock 34 = .ok (.iload_n 3, 1) := by decide +kernel
theorem dX4_stock_35 : decode cX4_stock 35 = .ok (.invokestatic 236, 3) := by decide +kernel
theorem dX4_stock_38 : decode cX4_stock 38 = .ok (.goto 9, 3) := by decide +kernel
theorem dX4_stock_41 : decode cX4_stock 41 = .ok (.aload_n 0, 1) := by decide +kernel
theorem dX4_stock_42 : decode cX4_stock 42 = .ok (.ldc 69, 2) := by decide +kernel
theorem dX4_stock_44 : decode cX4_stock 44 = .ok (.invokevirtual 88, 3) := by decide +kernel
theorem dX4_stock_47 : decode cX4_stock 47 = .ok (.ireturn, 1) := by decide +kernel
theorem dX4_lasts_0 : decode cX4_lasts 0 = .ok (.iload_n 1, 1) := by decide +kernel
theorem dX4_lasts_1 : decode cX4_lasts 1 = .ok (.iconst 0, 1) := by decide +kernel
theorem dX4_lasts_2 : decode cX4_lasts 2 = .ok (.sipush 9999, 3) := by decide +kernel
theorem dX4_lasts_5 : decode cX4_lasts 5 = .ok (.invokestatic 74, 3) := by decide +kernel
theorem dX4_lasts_8 : decode cX4_lasts 8 = .ok (.ifCond .eq 13, 3) := by decide +kernel
theorem dX4_lasts_11 : decode cX4_lasts 11 = .ok (.iload_n 2, 1) := by decide +kernel
theorem dX4_lasts_12 : decode cX4_lasts 12 = .ok (.iconst 1, 1) := by decide +kernel
theorem dX4_lasts_13 : decode cX4_lasts 13 = .ok (.bipush 99, 2) := by decide +kernel
theorem dX4_lasts_15 : decode cX4_lasts 15 = .ok (.invokestatic 74, 3) := by decide +kernel
theorem dX4_lasts_18 : decode cX4_lasts 18 = .ok (.ifCond .ne 10, 3) := by decide +kernel
theorem dX4_lasts_21 : decode cX4_lasts 21 = .ok (.aload_n 0, 1) := by decide +kernel
theorem dX4_lasts_22 : decode cX4_lasts 22 = .ok (.ldc 69, 2) := by decide +kernel
theorem dX4_lasts_24 : decode cX4_lasts 24 = .ok (.invokevirtual 88, 3) := by decide +kernel
theorem dX4_lasts_27 : decode cX4_lasts 27 = .ok (.ireturn, 1) := by decide +kernel
theorem dX4_lasts_28 : decode cX4_lasts 28 = .ok (.sipush 999, 3) := by decide +kernel
theorem dX4_lasts_31 : decode cX4_lasts 31 = .ok (.istore_n 3, 1) := by decide +kernel
theorem dX4_lasts_32 : decode cX4_lasts 32 = .ok (.iload_n 3, 1) := by decide +kernel
theorem dX4_lasts_33 : decode cX4_lasts 33 = .ok (.ifCond .le 19, 3) := by decide +kernel
theorem dX4_lasts_36 : decode cX4_lasts 36 = .ok (.iload_n 1, 1) := by decide +kernel
theorem dX4_lasts_37 : decode cX4_lasts 37 = .ok (.iload_n 3, 1) := by decide +kernel
theorem dX4_lasts_38 : decode cX4_lasts 38 = .ok (.iload_n 2, 1) := by decide +kernel
theorem dX4_lasts_39 : decode cX4_lasts 39 = .ok (.invokestatic 236, 3) := by decide +kernel
theorem dX4_lasts_42 : decode cX4_lasts 42 = .ok (.iload_n 1, 1) := by decide +kernel
theorem dX4_lasts_43 : decode cX4_lasts 43 = .ok (.if_icmp .ge 9, 3) := by decide +kernel
theorem dX4_lasts_46 : decode cX4_lasts 46 = .ok (.iinc 3 (-1), 3) := by decide +kernel
theorem dX4_lasts_49 : decode cX4_lasts 49 = .ok (.goto (-17), 3) := by decide +kernel
theorem dX4_lasts_52 : decode cX4_lasts 52 = .ok (.iload_n 3, 1) := by decide +kernel
theorem dX4_lasts_53 : decode cX4_lasts 53 = .ok (.ireturn, 1) := by decide +kernel
theorem dX4_areRing_0 : decode cX4_areRing 0 = .ok (.iconst 0, 1) := by decide +kernel
theorem dX4_areRing_1 : decode cX4_areRing 1 = .ok (.istore_n 2, 1) := by decide +kernel
theorem dX4_areRing_2 : decode cX4_areRing 2 = .ok (.iconst 1, 1) := by decide +kernel
theorem dX4_areRing_3 : decode cX4_areRing 3 = .ok (.istore_n 3, 1) := by decide +kernel
theorem dX4_areRing_4 : decode cX4_areRing 4 = .ok (.iconst 0, 1) := by decide +kernel
theorem dX4_areRing_5 : decode cX4_areRing 5 = .ok (.istore 4, 2) := by decide +kernel
theorem dX4_areRing_7 : decode cX4_areRing 7 = .ok (.iload 4, 2) := by decide +kernel
theorem dX4_areRing_9 : decode cX4_areRing 9 = .ok (.aload_n 0, 1) := by decide +kernel
theorem dX4_areRing_10 : decode cX4_areRing 10 = .ok (.getfield 9, 3) := by decide +kernel
theorem dX4_areRing_13 : decode cX4_areRing 13 = .ok (.iconst 2, 1) := by decide +kernel
theorem dX4_areRing_14 : decode cX4_areRing 14 = .ok (.iaload, 1) := by decide +kernel
theorem dX4_areRing_15 : decode cX4_areRing 15 = .ok (.if_icmp .ge 55, 3) := by decide +kernel
theorem dX4_areRing_18 : decode cX4_areRing 18 = .ok (.iload_n 1, 1) := by decide +kernel
theorem dX4_areRing_19 : decode cX4_areRing 19 = .ok (.iload 4, 2) := by decide +kernel
theorem dX4_areRing_21 : decode cX4_areRing 21 = .ok (.invokestatic 239, 3) := by decide +kernel
theorem dX4_areRing_24 : decode cX4_areRing 24 = .ok (.ifCond .eq 15, 3) := by decide +kernel
theorem dX4_areRing_27 : decode cX4_areRing 27 = .ok (.iconst 1, 1) := by decide +kernel
theorem dX4_areRing_28 : decode cX4_areRing 28 = .ok (.aload_n 0, 1) := by decide +kernel
theorem dX4_areRing_29 : decode cX4_areRing 29 = .ok (.iload 4, 2) := by decide +kernel
theorem dX4_areRing_31 : decode cX4_areRing 31 = .ok (.iconst 2, 1) := by decide +kernel
theorem dX4_areRing_32 : decode cX4_areRing 32 = .ok (.invokevirtual 101, 3) := by decide +kernel
theorem dX4_areRing_35 : decode cX4_areRing 35 = .ok (.ishl, 1) := by decide +kernel
theorem dX4_areRing_36 : decode cX4_areRing 36 = .ok (.goto 4, 3) := by decide +kernel
theorem dX4_areRing_39 : decode cX4_areRing 39 = .ok (.iconst 0, 1) := by decide +kernel
theorem dX4_areRing_40 : decode cX4_areRing 40 = .ok (.istore 5, 2) := by decide +kernel
theorem dX4_areRing_42 : decode cX4_areRing 42 = .ok (.iload_n 3, 1) := by decide +kernel
theorem dX4_areRing_43 : decode cX4_areRing 43 = .ok (.ifCond .eq 14, 3) := by decide +kernel
theorem dX4_areRing_46 : decode cX4_areRing 46 = .ok (.iload_n 2, 1) := by decide +kernel
theorem dX4_areRing_47 : decode cX4_areRing 47 = .ok (.iload 5, 2) := by decide +kernel
theorem dX4_areRing_49 : decode cX4_areRing 49 = .ok (.iand, 1) := by decide +kernel
theorem dX4_areRing_50 : decode cX4_areRing 50 = .ok (.ifCond .ne 7, 3) := by decide +kernel
theorem dX4_areRing_53 : decode cX4_areRing 53 = .ok (.iconst 1, 1) := by decide +kernel
theorem dX4_areRing_54 : decode cX4_areRing 54 = .ok (.goto 4, 3) := by decide +kernel
theorem dX4_areRing_57 : decode cX4_areRing 57 = .ok (.iconst 0, 1) := by decide +kernel
theorem dX4_areRing_58 : decode cX4_areRing 58 = .ok (.istore_n 3, 1) := by decide +kernel
theorem dX4_areRing_59 : decode cX4_areRing 59 = .ok (.iload_n 2, 1) := by decide +kernel
theorem dX4_areRing_60 : decode cX4_areRing 60 = .ok (.iload 5, 2) := by decide +kernel
theorem dX4_areRing_62 : decode cX4_areRing 62 = .ok (.ior, 1) := by decide +kernel
theorem dX4_areRing_63 : decode cX4_areRing 63 = .ok (.istore_n 2, 1) := by decide +kernel
theorem dX4_areRing_64 : decode cX4_areRing 64 = .ok (.iinc 4 1, 3) := by decide +kernel
theorem dX4_areRing_67 : decode cX4_areRing 67 = .ok (.goto (-60), 3) := by decide +kernel
theorem dX4_areRing_70 : decode cX4_areRing 70 = .ok (.iload_n 3, 1) := by decide +kernel
theorem dX4_areRing_71 : decode cX4_areRing 71 = .ok (.ifCond .eq 14, 3) := by decide +kernel
theorem dX4_areRing_74 : decode cX4_areRing 74 = .ok (.iload_n 2, 1) := by decide +kernel
theorem dX4_areRing_75 : decode cX4_areRing 75 = .ok (.invokestatic 242, 3) := by decide +kernel
theorem dX4_areRing_78 : decode cX4_areRing 78 = .ok (.ifCond .eq 7, 3) := by decide +kernel
theorem dX4_areRing_81 : decode cX4_areRing 81 = .ok (.iconst 1, 1) := by decide +kernel
theorem dX4_areRing_82 : decode cX4_areRing 82 = .ok (.goto 4, 3) := by decide +kernel
theorem dX4_areRing_85 : decode cX4_areRing 85 = .ok (.iconst 0, 1) := by decide +kernel
theorem dX4_areRing_86 : decode cX4_areRing 86 = .ok (.ireturn, 1) := by decide +kernel
theorem dX4_stepBySteps_0 : decode cX4_stepBySteps 0 = .ok (.iconst (-1), 1) := by decide +kernel
theorem dX4_stepBySteps_1 : decode cX4_stepBySteps 1 = .ok (.istore_n 1, 1) := by decide +kernel
theorem dX4_stepBySteps_2 : decode cX4_stepBySteps 2 = .ok (.iconst 1, 1) := by decide +kernel
theorem dX4_stepBySteps_3 : decode cX4_stepBySteps 3 = .ok (.istore_n 2, 1) := by decide +kernel
theorem dX4_stepBySteps_4 : decode cX4_stepBySteps 4 = .ok (.iconst 0, 1) := by decide +kernel
theorem dX4_stepBySteps_5 : decode cX4_stepBySteps 5 = .ok (.istore_n 3, 1) := by decide +kernel
theorem dX4_stepBySteps_6 : decode cX4_stepBySteps 6 = .ok (.iload_n 3, 1) := by decide +kernel
theorem dX4_stepBySteps_7 : decode cX4_stepBySteps 7 = .ok (.bipush 12, 2) := by decide +kernel
theorem dX4_stepBySteps_9 : decode cX4_stepBySteps 9 = .ok (.if_icmp .ge 40, 3) := by decide +kernel
theorem dX4_stepBySteps_12 : decode cX4_stepBySteps 12 = .ok (.iload_n 0, 1) := by decide +kernel
theorem dX4_stepBySteps_13 : decode cX4_stepBySteps 13 = .ok (.iload_n 3, 1) := by decide +kernel
theorem dX4_stepBySteps_14 : decode cX4_stepBySteps 14 = .ok (.invokestatic 239, 3) := by decide +kernel
theorem dX4_stepBySteps_17 : decode cX4_stepBySteps 17 = .ok (.ifCond .eq 26, 3) := by decide +kernel
theorem dX4_stepBySteps_20 : decode cX4_stepBySteps 20 = .ok (.iload_n 2, 1) := by decide +kernel
theorem dX4_stepBySteps_21 : decode cX4_stepBySteps 21 = .ok (.ifCond .eq 18, 3) := by decide +kernel
theorem dX4_stepBySteps_24 : decode cX4_stepBySteps 24 = .ok (.iload_n 1, 1) := by decide +kernel
theorem dX4_stepBySteps_25 : decode cX4_stepBySteps 25 = .ok (.ifCond .lt 10, 3) := by decide +kernel
theorem dX4_stepBySteps_28 : decode cX4_stepBySteps 28 = .ok (.iload_n 3, 1) := by decide +kernel
theorem dX4_stepBySteps_29 : decode cX4_stepBySteps 29 = .ok (.iload_n 1, 1) := by decide +kernel
theorem dX4_stepBySteps_30 : decode cX4_stepBySteps 30 = .ok (.isub, 1) := by decide +kernel
theorem dX4_stepBySteps_31 : decode cX4_stepBySteps 31 = .ok (.iconst 3, 1) := by decide +kernel
theorem dX4_stepBySteps_32 : decode cX4_stepBySteps 32 = .ok (.if_icmp .ge 7, 3) := by decide +kernel
theorem dX4_stepBySteps_35 : decode cX4_stepBySteps 35 = .ok (.iconst 1, 1) := by decide +kernel
theorem dX4_stepBySteps_36 : decode cX4_stepBySteps 36 = .ok (.goto 4, 3) := by decide +kernel
theorem dX4_stepBySteps_39 : decode cX4_stepBySteps 39 = .ok (.iconst 0, 1) := by decide +kernel
theorem dX4_stepBySteps_40 : decode cX4_stepBySteps 40 = .ok (.istore_n 2, 1) := by decide +kernel
theorem dX4_stepBySteps_41 : decode cX4_stepBySteps 41 = .ok (.iload_n 3, 1) := by decide +kernel
theorem dX4_stepBySteps_42 : decode cX4_stepBySteps 42 = .ok (.istore_n 1, 1) := by decide +kernel
theorem dX4_stepBySteps_43 : decode cX4_stepBySteps 43 = .ok (.iinc 3 1, 3) := by decide +kernel
theorem dX4_stepBySteps_46 : decode cX4_stepBySteps 46 = .ok (.goto (-40), 3) := by decide +kernel
theorem dX4_stepBySteps_49 : decode cX4_stepBySteps 49 = .ok (.iload_n 2, 1) := by decide +kernel
theorem dX4_stepBySteps_50 : decode cX4_stepBySteps 50 = .ok (.ireturn, 1) := by decide +kernel
theorem dX4_greatest_0 : decode cX4_greatest 0 = .ok (.iconst 0, 1) := by decide +kernel
theorem dX4_greatest_1 : decode cX4_greatest 1 = .ok (.istore_n 1, 1) := by decide +kernel
theorem dX4_greatest_2 : decode cX4_greatest 2 = .ok (.iconst 1, 1) := by decide +kernel
theorem dX4_greatest_3 : decode cX4_greatest 3 = .ok (.istore_n 2, 1) := by decide +kernel
theorem dX4_greatest_4 : decode cX4_greatest 4 = .ok (.iload_n 2, 1) := by decide +kernel
theorem dX4_greatest_5 : decode cX4_greatest 5 = .ok (.iconst 1, 1) := by decide +kernel
theorem dX4_greatest_6 : decode cX4_greatest 6 = .ok (.aload_n 0, 1) := by decide +kernel
theorem dX4_greatest_7 : decode cX4_greatest 7 = .ok (.getfield 9, 3) := by decide +kernel
theorem dX4_greatest_10 : decode cX4_greatest 10 = .ok (.iconst 2, 1) := by decide +kernel
theorem dX4_greatest_11 : decode cX4_greatest 11 = .ok (.iaload, 1) := by decide +kernel
theorem dX4_greatest_12 : decode cX4_greatest 12 = .ok (.ishl, 1) := by decide +kernel
theorem dX4_greatest_13 : decode cX4_greatest 13 = .ok (.if_icmp .ge 34, 3) := by decide +kernel
theorem dX4_greatest_16 : decode cX4_greatest 16 = .ok (.iload_n 2, 1) := by decide +kernel
theorem dX4_greatest_17 : decode cX4_greatest 17 = .ok (.invokestatic 182, 3) := by decide +kernel
theorem dX4_greatest_20 : decode cX4_greatest 20 = .ok (.iload_n 1, 1) := by decide +kernel
theorem dX4_greatest_21 : decode cX4_greatest 21 = .ok (.invokestatic 182, 3) := by decide +kernel
theorem dX4_greatest_24 : decode cX4_greatest 24 = .ok (.if_icmp .le 15, 3) := by decide +kernel
theorem dX4_greatest_27 : decode cX4_greatest 27 = .ok (.aload_n 0, 1) := by decide +kernel
theorem dX4_greatest_28 : decode cX4_greatest 28 = .ok (.iload_n 2, 1) := by decide +kernel
theorem dX4_greatest_29 : decode cX4_greatest 29 = .ok (.invokevirtual 245, 3) := by decide +kernel
theorem dX4_greatest_32 : decode cX4_greatest 32 = .ok (.ifCond .eq 7, 3) := by decide +kernel
theorem dX4_greatest_35 : decode cX4_greatest 35 = .ok (.iload_n 2, 1) := by decide +kernel
theorem dX4_greatest_36 : decode cX4_greatest 36 = .ok (.goto 4, 3) := by decide +kernel
theorem dX4_greatest_39 : decode cX4_greatest 39 = .ok (.iload_n 1, 1) := by decide +kernel
theorem dX4_greatest_40 : decode cX4_greatest 40 = .ok (.istore_n 1, 1) := by decide +kernel
theorem dX4_greatest_41 : decode cX4_greatest 41 = .ok (.iinc 2 1, 3) := by decide +kernel
theorem dX4_greatest_44 : decode cX4_greatest 44 = .ok (.goto (-40), 3) := by decide +kernel
theorem dX4_greatest_47 : decode cX4_greatest 47 = .ok (.iload_n 1, 1) := by decide +kernel
theorem dX4_greatest_48 : decode cX4_greatest 48 = .ok (.ireturn, 1) := by decide +kernel
theorem dX4_ring_0 : decode cX4_ring 0 = .ok (.aload_n 0, 1) := by decide +kernel
theorem dX4_ring_1 : decode cX4_ring 1 = .ok (.invokevirtual 248, 3) := by decide +kernel
theorem dX4_ring_4 : decode cX4_ring 4 = .ok (.invokestatic 182, 3) := by decide +kernel
theorem dX4_ring_7 : decode cX4_ring 7 = .ok (.ireturn, 1) := by decide +kernel
theorem dX4_rings_0 : decode cX4_rings 0 = .ok (.aload_n 0, 1) := by decide +kernel
theorem dX4_rings_1 : decode cX4_rings 1 = .ok (.invokevirtual 248, 3) := by decide +kernel
theorem dX4_rings_4 : decode cX4_rings 4 = .ok (.ireturn, 1) := by decide +kernel
theorem dX4_peals_0 : decode cX4_peals 0 = .ok (.iconst 0, 1) := by decide +kernel
theorem dX4_peals_1 : decode cX4_peals 1 = .ok (.istore_n 1, 1) := by decide +kernel
theorem dX4_peals_2 : decode cX4_peals 2 = .ok (.iconst 1, 1) := by decide +kernel
theorem dX4_peals_3 : decode cX4_peals 3 = .ok (.istore_n 2, 1) := by decide +kernel
theorem dX4_peals_4 : decode cX4_peals 4 = .ok (.iload_n 2, 1) := by decide +kernel
theorem dX4_peals_5 : decode cX4_peals 5 = .ok (.iconst 1, 1) := by decide +kernel
theorem dX4_peals_6 : decode cX4_peals 6 = .ok (.aload_n 0, 1) := by decide +kernel
theorem dX4_peals_7 : decode cX4_peals 7 = .ok (.getfield 9, 3) := by decide +kernel
theorem dX4_peals_10 : decode cX4_peals 10 = .ok (.iconst 2, 1) := by decide +kernel
theorem dX4_peals_11 : decode cX4_peals 11 = .ok (.iaload, 1) := by decide +kernel
theorem dX4_peals_12 : decode cX4_peals 12 = .ok (.ishl, 1) := by decide +kernel
theorem dX4_peals_13 : decode cX4_peals 13 = .ok (.if_icmp .ge 25, 3) := by decide +kernel
theorem dX4_peals_16 : decode cX4_peals 16 = .ok (.iload_n 1, 1) := by decide +kernel
theorem dX4_peals_17 : decode cX4_peals 17 = .ok (.aload_n 0, 1) := by decide +kernel
theorem dX4_peals_18 : decode cX4_peals 18 = .ok (.iload_n 2, 1) := by decide +kernel
theorem dX4_peals_19 : decode cX4_peals 19 = .ok (.invokevirtual 245, 3) := by decide +kernel
theorem dX4_peals_22 : decode cX4_peals 22 = .ok (.ifCond .eq 7, 3) := by decide +kernel
theorem dX4_peals_25 : decode cX4_peals 25 = .ok (.iconst 1, 1) := by decide +kernel
theorem dX4_peals_26 : decode cX4_peals 26 = .ok (.goto 4, 3) := by decide +kernel
theorem dX4_peals_29 : decode cX4_peals 29 = .ok (.iconst 0, 1) := by decide +kernel
theorem dX4_peals_30 : decode cX4_peals 30 = .ok (.iadd, 1) := by decide +kernel
theorem dX4_peals_31 : decode cX4_peals 31 = .ok (.istore_n 1, 1) := by decide +kernel
theorem dX4_peals_32 : decode cX4_peals 32 = .ok (.iinc 2 1, 3) := by decide +kernel
theorem dX4_peals_35 : decode cX4_peals 35 = .ok (.goto (-31), 3) := by decide +kernel
theorem dX4_peals_38 : decode cX4_peals 38 = .ok (.iload_n 1, 1) := by decide +kernel
theorem dX4_peals_39 : decode cX4_peals 39 = .ok (.ireturn, 1) := by decide +kernel
theorem dX4_longest_0 : decode cX4_longest 0 = .ok (.iconst 0, 1) := by decide +kernel
theorem dX4_longest_1 : decode cX4_longest 1 = .ok (.istore_n 1, 1) := by decide +kernel
theorem dX4_longest_2 : decode cX4_longest 2 = .ok (.iconst 0, 1) := by decide +kernel
theorem dX4_longest_3 : decode cX4_longest 3 = .ok (.istore_n 2, 1) := by decide +kernel
theorem dX4_longest_4 : decode cX4_longest 4 = .ok (.bipush (-3), 2) := by decide +kernel
theorem dX4_longest_6 : decode cX4_longest 6 = .ok (.istore_n 3, 1) := by decide +kernel
theorem dX4_longest_7 : decode cX4_longest 7 = .ok (.iconst 0, 1) := by decide +kernel
theorem dX4_longest_8 : decode cX4_longest 8 = .ok (.istore 4, 2) := by decide +kernel
theorem dX4_longest_10 : decode cX4_longest 10 = .ok (.iload 4, 2) := by decide +kernel
theorem dX4_longest_12 : decode cX4_longest 12 = .ok (.bipush 12, 2) := by decide +kernel
theorem dX4_longest_14 : decode cX4_longest 14 = .ok (.if_icmp .ge 43, 3) := by decide +kernel
theorem dX4_longest_17 : decode cX4_longest 17 = .ok (.iload_n 0, 1) := by decide +kernel
theorem dX4_longest_18 : decode cX4_longest 18 = .ok (.iload 4, 2) := by decide +kernel
theorem dX4_longest_20 : decode cX4_longest 20 = .ok (.invokestatic 239, 3) := by decide +kernel
theorem dX4_longest_23 : decode cX4_longest 23 = .ok (.ifCond .eq 28, 3) := by decide +kernel
theorem dX4_longest_26 : decode cX4_longest 26 = .ok (.iload 4, 2) := by decide +kernel
theorem dX4_longest_28 : decode cX4_longest 28 = .ok (.iload_n 3, 1) := by decide +kernel
theorem dX4_longest_29 : decode cX4_longest 29 = .ok (.isub, 1) := by decide +kernel
theorem dX4_longest_30 : decode cX4_longest 30 = .ok (.iconst 3, 1) := by decide +kernel
theorem dX4_longest_31 : decode cX4_longest 31 = .ok (.if_icmp .ge 9, 3) := by decide +kernel
theorem dX4_longest_34 : decode cX4_longest 34 = .ok (.iload_n 2, 1) := by decide +kernel
theorem dX4_longest_35 : decode cX4_longest 35 = .ok (.iconst 1, 1) := by decide +kernel
theorem dX4_longest_36 : decode cX4_longest 36 = .ok (.iadd, 1) := by decide +kernel
theorem dX4_longest_37 : decode cX4_longest 37 = .ok (.goto 4, 3) := by decide +kernel
theorem dX4_longest_40 : decode cX4_longest 40 = .ok (.iconst 1, 1) := by decide +kernel
theorem dX4_longest_41 : decode cX4_longest 41 = .ok (.istore_n 2, 1) := by decide +kernel
theorem dX4_longest_42 : decode cX4_longest 42 = .ok (.iload 4, 2) := by decide +kernel
theorem dX4_longest_44 : decode cX4_longest 44 = .ok (.istore_n 3, 1) := by decide +kernel
theorem dX4_longest_45 : decode cX4_longest 45 = .ok (.iload_n 1, 1) := by decide +kernel
theorem dX4_longest_46 : decode cX4_longest 46 = .ok (.iload_n 2, 1) := by decide +kernel
theorem dX4_longest_47 : decode cX4_longest 47 = .ok (.invokestatic 132, 3) := by decide +kernel
theorem dX4_longest_50 : decode cX4_longest 50 = .ok (.istore_n 1, 1) := by decide +kernel
theorem dX4_longest_51 : decode cX4_longest 51 = .ok (.iinc 4 1, 3) := by decide +kernel
theorem dX4_longest_54 : decode cX4_longest 54 = .ok (.goto (-44), 3) := by decide +kernel
theorem dX4_longest_57 : decode cX4_longest 57 = .ok (.iload_n 1, 1) := by decide +kernel
theorem dX4_longest_58 : decode cX4_longest 58 = .ok (.ireturn, 1) := by decide +kernel
theorem dX4_wanted_0 : decode cX4_wanted 0 = .ok (.iconst 0, 1) := by decide +kernel
theorem dX4_wanted_1 : decode cX4_wanted 1 = .ok (.istore_n 1, 1) := by decide +kernel
theorem dX4_wanted_2 : decode cX4_wanted 2 = .ok (.iconst 0, 1) := by decide +kernel
theorem dX4_wanted_3 : decode cX4_wanted 3 = .ok (.istore_n 2, 1) := by decide +kernel
theorem dX4_wanted_4 : decode cX4_wanted 4 = .ok (.iload_n 2, 1) := by decide +kernel
theorem dX4_wanted_5 : decode cX4_wanted 5 = .ok (.aload_n 0, 1) := by decide +kernel
theorem dX4_wanted_6 : decode cX4_wanted 6 = .ok (.getfield 9, 3) := by decide +kernel
theorem dX4_wanted_9 : decode cX4_wanted 9 = .ok (.iconst 2, 1) := by decide +kernel
theorem dX4_wanted_10 : decode cX4_wanted 10 = .ok (.iaload, 1) := by decide +kernel
theorem dX4_wanted_11 : decode cX4_wanted 11 = .ok (.if_icmp .ge 20, 3) := by decide +kernel
theorem dX4_wanted_14 : decode cX4_wanted 14 = .ok (.iload_n 1, 1) := by decide +kernel
theorem dX4_wanted_15 : decode cX4_wanted 15 = .ok (.iconst 1, 1) := by decide +kernel
theorem dX4_wanted_16 : decode cX4_wanted 16 = .ok (.aload_n 0, 1) := by decide +kernel
theorem dX4_wanted_17 : decode cX4_wanted 17 = .ok (.iload_n 2, 1) := by decide +kernel
theorem dX4_wanted_18 : decode cX4_wanted 18 = .ok (.iconst 2, 1) := by decide +kernel
theorem dX4_wanted_19 : decode cX4_wanted 19 = .ok (.invokevirtual 101, 3) := by decide +kernel
theorem dX4_wanted_22 : decode cX4_wanted 22 = .ok (.ishl, 1) := by decide +kernel
theorem dX4_wanted_23 : decode cX4_wanted 23 = .ok (.ior, 1) := by decide +kernel
theorem dX4_wanted_24 : decode cX4_wanted 24 = .ok (.istore_n 1, 1) := by decide +kernel
theorem dX4_wanted_25 : decode cX4_wanted 25 = .ok (.iinc 2 1, 3) := by decide +kernel
theorem dX4_wanted_28 : decode cX4_wanted 28 = .ok (.goto (-24), 3) := by decide +kernel
theorem dX4_wanted_31 : decode cX4_wanted 31 = .ok (.iconst 0, 1) := by decide +kernel
theorem dX4_wanted_32 : decode cX4_wanted 32 = .ok (.istore_n 2, 1) := by decide +kernel
theorem dX4_wanted_33 : decode cX4_wanted 33 = .ok (.iconst 1, 1) := by decide +kernel
theorem dX4_wanted_34 : decode cX4_wanted 34 = .ok (.istore_n 3, 1) := by decide +kernel
theorem dX4_wanted_35 : decode cX4_wanted 35 = .ok (.iload_n 3, 1) := by decide +kernel
theorem dX4_wanted_36 : decode cX4_wanted 36 = .ok (.bipush 12, 2) := by decide +kernel
theorem dX4_wanted_38 : decode cX4_wanted 38 = .ok (.if_icmp .ge 34, 3) := by decide +kernel
theorem dX4_wanted_41 : decode cX4_wanted 41 = .ok (.iload_n 1, 1) := by decide +kernel
theorem dX4_wanted_42 : decode cX4_wanted 42 = .ok (.iconst 1, 1) := by decide +kernel
theorem dX4_wanted_43 : decode cX4_wanted 43 = .ok (.iload_n 3, 1) := by decide +kernel
theorem dX4_wanted_44 : decode cX4_wanted 44 = .ok (.ishl, 1) := by decide +kernel
theorem dX4_wanted_45 : decode cX4_wanted 45 = .ok (.ior, 1) := by decide +kernel
theorem dX4_wanted_46 : decode cX4_wanted 46 = .ok (.invokestatic 251, 3) := by decide +kernel
theorem dX4_wanted_49 : decode cX4_wanted 49 = .ok (.iload_n 1, 1) := by decide +kernel
theorem dX4_wanted_50 : decode cX4_wanted 50 = .ok (.iconst 1, 1) := by decide +kernel
theorem dX4_wanted_51 : decode cX4_wanted 51 = .ok (.iload_n 2, 1) := by decide +kernel
theorem dX4_wanted_52 : decode cX4_wanted 52 = .ok (.ishl, 1) := by decide +kernel
theorem dX4_wanted_53 : decode cX4_wanted 53 = .ok (.ior, 1) := by decide +kernel
theorem dX4_wanted_54 : decode cX4_wanted 54 = .ok (.invokestatic 251, 3) := by decide +kernel
theorem dX4_wanted_57 : decode cX4_wanted 57 = .ok (.if_icmp .le 7, 3) := by decide +kernel
theorem dX4_wanted_60 : decode cX4_wanted 60 = .ok (.iload_n 3, 1) := by decide +kernel
theorem dX4_wanted_61 : decode cX4_wanted 61 = .ok (.goto 4, 3) := by decide +kernel
theorem dX4_wanted_64 : decode cX4_wanted 64 = .ok (.iload_n 2, 1) := by decide +kernel
theorem dX4_wanted_65 : decode cX4_wanted 65 = .ok (.istore_n 2, 1) := by decide +kernel
theorem dX4_wanted_66 : decode cX4_wanted 66 = .ok (.iinc 3 1, 3) := by decide +kernel
theorem dX4_wanted_69 : decode cX4_wanted 69 = .ok (.goto (-34), 3) := by decide +kernel
theorem dX4_wanted_72 : decode cX4_wanted 72 = .ok (.iload_n 2, 1) := by decide +kernel
theorem dX4_wanted_73 : decode cX4_wanted 73 = .ok (.ireturn, 1) := by decide +kernel
theorem dX4_changes_0 : decode cX4_changes 0 = .ok (.iload_n 1, 1) := by decide +kernel
theorem dX4_changes_1 : decode cX4_changes 1 = .ok (.iconst 0, 1) := by decide +kernel
theorem dX4_changes_2 : decode cX4_changes 2 = .ok (.bipush 20, 2) := by decide +kernel
theorem dX4_changes_4 : decode cX4_changes 4 = .ok (.invokestatic 74, 3) := by decide +kernel
theorem dX4_changes_7 : decode cX4_changes 7 = .ok (.ifCond .ne 11, 3) := by decide +kernel
theorem dX4_changes_10 : decode cX4_changes 10 = .ok (.aload_n 0, 1) := by decide +kernel
theorem dX4_changes_11 : decode cX4_changes 11 = .ok (.ldc 69, 2) := by decide +kernel
theorem dX4_changes_13 : decode cX4_changes 13 = .ok (.invokevirtual 88, 3) := by decide +kernel
theorem dX4_changes_16 : decode cX4_changes 16 = .ok (.i2l, 1) := by decide +kernel
theorem dX4_changes_17 : decode cX4_changes 17 = .ok (.lreturn, 1) := by decide +kernel
theorem dX4_changes_18 : decode cX4_changes 18 = .ok (.lconst 1, 1) := by decide +kernel
theorem dX4_changes_19 : decode cX4_changes 19 = .ok (.lstore_n 2, 1) := by decide +kernel
theorem dX4_changes_20 : decode cX4_changes 20 = .ok (.iconst 2, 1) := by decide +kernel
theorem dX4_changes_21 : decode cX4_changes 21 = .ok (.istore 4, 2) := by decide +kernel
theorem dX4_changes_23 : decode cX4_changes 23 = .ok (.iload 4, 2) := by decide +kernel
theorem dX4_changes_25 : decode cX4_changes 25 = .ok (.iload_n 1, 1) := by decide +kernel
theorem dX4_changes_26 : decode cX4_changes 26 = .ok (.if_icmp .gt 15, 3) := by decide +kernel
theorem dX4_changes_29 : decode cX4_changes 29 = .ok (.lload_n 2, 1) := by decide +kernel
theorem dX4_changes_30 : decode cX4_changes 30 = .ok (.iload 4, 2) := by decide +kernel
theorem dX4_changes_32 : decode cX4_changes 32 = .ok (.i2l, 1) := by decide +kernel
theorem dX4_changes_33 : decode cX4_changes 33 = .ok (.lmul, 1) := by decide +kernel
theorem dX4_changes_34 : decode cX4_changes 34 = .ok (.lstore_n 2, 1) := by decide +kernel
theorem dX4_changes_35 : decode cX4_changes 35 = .ok (.iinc 4 1, 3) := by decide +kernel
theorem dX4_changes_38 : decode cX4_changes 38 = .ok (.goto (-15), 3) := by decide +kernel
theorem dX4_changes_41 : decode cX4_changes 41 = .ok (.lload_n 2, 1) := by decide +kernel
theorem dX4_changes_42 : decode cX4_changes 42 = .ok (.lreturn, 1) := by decide +kernel
theorem dX4_drawn_0 : decode cX4_drawn 0 = .ok (.aload_n 0, 1) := by decide +kernel
theorem dX4_drawn_1 : decode cX4_drawn 1 = .ok (.getfield 9, 3) := by decide +kernel
theorem dX4_drawn_4 : decode cX4_drawn 4 = .ok (.iconst 3, 1) := by decide +kernel
theorem dX4_drawn_5 : decode cX4_drawn 5 = .ok (.aload_n 0, 1) := by decide +kernel
theorem dX4_drawn_6 : decode cX4_drawn 6 = .ok (.getfield 9, 3) := by decide +kernel
theorem dX4_drawn_9 : decode cX4_drawn 9 = .ok (.iconst 3, 1) := by decide +kernel
theorem dX4_drawn_10 : decode cX4_drawn 10 = .ok (.iaload, 1) := by decide +kernel
theorem dX4_drawn_11 : decode cX4_drawn 11 = .ok (.ldc 254, 2) := by decide +kernel
theorem dX4_drawn_13 : decode cX4_drawn 13 = .ok (.imul, 1) := by decide +kernel
theorem dX4_drawn_14 : decode cX4_drawn 14 = .ok (.sipush 12345, 3) := by decide +kernel
theorem dX4_drawn_17 : decode cX4_drawn 17 = .ok (.iadd, 1) := by decide +kernel
theorem dX4_drawn_18 : decode cX4_drawn 18 = .ok (.iastore, 1) := by decide +kernel
theorem dX4_drawn_19 : decode cX4_drawn 19 = .ok (.aload_n 0, 1) := by decide +kernel
theorem dX4_drawn_20 : decode cX4_drawn 20 = .ok (.getfield 9, 3) := by decide +kernel
theorem dX4_drawn_23 : decode cX4_drawn 23 = .ok (.iconst 3, 1) := by decide +kernel
theorem dX4_drawn_24 : decode cX4_drawn 24 = .ok (.iaload, 1) := by decide +kernel
theorem dX4_drawn_25 : decode cX4_drawn 25 = .ok (.bipush 8, 2) := by decide +kernel
theorem dX4_drawn_27 : decode cX4_drawn 27 = .ok (.iushr, 1) := by decide +kernel
theorem dX4_drawn_28 : decode cX4_drawn 28 = .ok (.iload_n 1, 1) := by decide +kernel
theorem dX4_drawn_29 : decode cX4_drawn 29 = .ok (.irem, 1) := by decide +kernel
theorem dX4_drawn_30 : decode cX4_drawn 30 = .ok (.ireturn, 1) := by decide +kernel
theorem dX4_thunder_0 : decode cX4_thunder 0 = .ok (.iload_n 1, 1) := by decide +kernel
theorem dX4_thunder_1 : decode cX4_thunder 1 = .ok (.iconst 1, 1) := by decide +kernel
theorem dX4_thunder_2 : decode cX4_thunder 2 = .ok (.bipush 20, 2) := by decide +kernel
theorem dX4_thunder_4 : decode cX4_thunder 4 = .ok (.invokestatic 74, 3) := by decide +kernel
theorem dX4_thunder_7 : decode cX4_thunder 7 = .ok (.ifCond .ne 10, 3) := by decide +kernel
theorem dX4_thunder_10 : decode cX4_thunder 10 = .ok (.aload_n 0, 1) := by decide +kernel
theorem dX4_thunder_11 : decode cX4_thunder 11 = .ok (.ldc 69, 2) := by decide +kernel
theorem dX4_thunder_13 : decode cX4_thunder 13 = .ok (.invokevirtual 88, 3) := by decide +kernel
theorem dX4_thunder_16 : decode cX4_thunder 16 = .ok (.ireturn, 1) := by decide +kernel
theorem dX4_thunder_17 : decode cX4_thunder 17 = .ok (.aload_n 0, 1) := by decide +kernel
theorem dX4_thunder_18 : decode cX4_thunder 18 = .ok (.getfield 9, 3) := by decide +kernel
theorem dX4_thunder_21 : decode cX4_thunder 21 = .ok (.iconst 2, 1) := by decide +kernel
theorem dX4_thunder_22 : decode cX4_thunder 22 = .ok (.iaload, 1) := by decide +kernel
theorem dX4_thunder_23 : decode cX4_thunder 23 = .ok (.ifCond .eq 16, 3) := by decide +kernel
theorem dX4_thunder_26 : decode cX4_thunder 26 = .ok (.aload_n 0, 1) := by decide +kernel
theorem dX4_thunder_27 : decode cX4_thunder 27 = .ok (.getfield 9, 3) := by decide +kernel
theorem dX4_thunder_30 : decode cX4_thunder 30 = .ok (.iconst 0, 1) := by decide +kernel
theorem dX4_thunder_31 : decode cX4_thunder 31 = .ok (.iaload, 1) := by decide +kernel
theorem dX4_thunder_32 : decode cX4_thunder 32 = .ok (.iload_n 1, 1) := by decide +kernel
theorem dX4_thunder_33 : decode cX4_thunder 33 = .ok (.iadd, 1) := by decide +kernel
theorem dX4_thunder_34 : decode cX4_thunder 34 = .ok (.ldc 172, 2) := by decide +kernel
theorem dX4_thunder_36 : decode cX4_thunder 36 = .ok (.if_icmp .le 10, 3) := by decide +kernel
theorem dX4_thunder_39 : decode cX4_thunder 39 = .ok (.aload_n 0, 1) := by decide +kernel
theorem dX4_thunder_40 : decode cX4_thunder 40 = .ok (.ldc 173, 2) := by decide +kernel
theorem dX4_thunder_42 : decode cX4_thunder 42 = .ok (.invokevirtual 88, 3) := by decide +kernel
theorem dX4_thunder_45 : decode cX4_thunder 45 = .ok (.ireturn, 1) := by decide +kernel
theorem dX4_thunder_46 : decode cX4_thunder 46 = .ok (.iconst 0, 1) := by decide +kernel
theorem dX4_thunder_47 : decode cX4_thunder 47 = .ok (.istore_n 2, 1) := by decide +kernel
theorem dX4_thunder_48 : decode cX4_thunder 48 = .ok (.iload_n 2, 1) := by decide +kernel
theorem dX4_thunder_49 : decode cX4_thunder 49 = .ok (.iload_n 1, 1) := by decide +kernel
theorem dX4_thunder_50 : decode cX4_thunder 50 = .ok (.if_icmp .ge 61, 3) := by decide +kernel
theorem dX4_thunder_53 : decode cX4_thunder 53 = .ok (.aload_n 0, 1) := by decide +kernel
theorem dX4_thunder_54 : decode cX4_thunder 54 = .ok (.aload_n 0, 1) := by decide +kernel
theorem dX4_thunder_55 : decode cX4_thunder 55 = .ok (.getfield 9, 3) := by decide +kernel
theorem dX4_thunder_58 : decode cX4_thunder 58 = .ok (.iconst 2, 1) := by decide +kernel
theorem dX4_thunder_59 : decode cX4_thunder 59 = .ok (.iaload, 1) := by decide +kernel
theorem dX4_thunder_60 : decode cX4_thunder 60 = .ok (.invokevirtual 255, 3) := by decide +kernel
theorem dX4_thunder_63 : decode cX4_thunder 63 = .ok (.istore_n 3, 1) := by decide +kernel
theorem dX4_thunder_64 : decode cX4_thunder 64 = .ok (.aload_n 0, 1) := by decide +kernel
theorem dX4_thunder_65 : decode cX4_thunder 65 = .ok (.bipush 64, 2) := by decide +kernel
theorem dX4_thunder_67 : decode cX4_thunder 67 = .ok (.invokevirtual 255, 3) := by decide +kernel
theorem dX4_thunder_70 : decode cX4_thunder 70 = .ok (.istore 4, 2) := by decide +kernel
theorem dX4_thunder_72 : decode cX4_thunder 72 = .ok (.aload_n 0, 1) := by decide +kernel
theorem dX4_thunder_73 : decode cX4_thunder 73 = .ok (.getfield 9, 3) := by decide +kernel
theorem dX4_thunder_76 : decode cX4_thunder 76 = .ok (.iload_n 3, 1) := by decide +kernel
theorem dX4_thunder_77 : decode cX4_thunder 77 = .ok (.iconst 1, 1) := by decide +kernel
theorem dX4_thunder_78 : decode cX4_thunder 78 = .ok (.invokestatic 98, 3) := by decide +kernel
theorem dX4_thunder_81 : decode cX4_thunder 81 = .ok (.aload_n 0, 1) := by decide +kernel
theorem dX4_thunder_82 : decode cX4_thunder 82 = .ok (.iload_n 3, 1) := by decide +kernel
theorem dX4_thunder_83 : decode cX4_thunder 83 = .ok (.invokevirtual 115, 3) := by decide +kernel
theorem dX4_thunder_86 : decode cX4_thunder 86 = .ok (.ifCond .eq 12, 3) := by decide +kernel
theorem dX4_thunder_89 : decode cX4_thunder 89 = .ok (.aload_n 0, 1) := by decide +kernel
theorem dX4_thunder_90 : decode cX4_thunder 90 = .ok (.iload_n 3, 1) := by decide +kernel
theorem dX4_thunder_91 : decode cX4_thunder 91 = .ok (.iconst 1, 1) := by decide +kernel
theorem dX4_thunder_92 : decode cX4_thunder 92 = .ok (.invokevirtual 101, 3) := by decide +kernel
theorem dX4_thunder_95 : decode cX4_thunder 95 = .ok (.goto 5, 3) := by decide +kernel
theorem dX4_thunder_98 : decode cX4_thunder 98 = .ok (.iload 4, 2) := by decide +kernel
theorem dX4_thunder_100 : decode cX4_thunder 100 = .ok (.iastore, 1) := by decide +kernel
theorem dX4_thunder_101 : decode cX4_thunder 101 = .ok (.aload_n 0, 1) := by decide +kernel
theorem dX4_thunder_102 : decode cX4_thunder 102 = .ok (.invokevirtual 169, 3) := by decide +kernel
theorem dX4_thunder_105 : decode cX4_thunder 105 = .ok (.iinc 2 1, 3) := by decide +kernel
theorem dX4_thunder_108 : decode cX4_thunder 108 = .ok (.goto (-60), 3) := by decide +kernel
theorem dX4_thunder_111 : decode cX4_thunder 111 = .ok (.aload_n 0, 1) := by decide +kernel
theorem dX4_thunder_112 : decode cX4_thunder 112 = .ok (.invokevirtual 178, 3) := by decide +kernel
theorem dX4_thunder_115 : decode cX4_thunder 115 = .ok (.invokestatic 182, 3) := by decide +kernel
theorem dX4_thunder_118 : decode cX4_thunder 118 = .ok (.ireturn, 1) := by decide +kernel
theorem dX4_seed_0 : decode cX4_seed 0 = .ok (.aload_n 0, 1) := by decide +kernel
theorem dX4_seed_1 : decode cX4_seed 1 = .ok (.iconst 3, 1) := by decide +kernel
theorem dX4_seed_2 : decode cX4_seed 2 = .ok (.iload_n 1, 1) := by decide +kernel
theorem dX4_seed_3 : decode cX4_seed 3 = .ok (.invokevirtual 91, 3) := by decide +kernel
theorem dX4_seed_6 : decode cX4_seed 6 = .ok (.ireturn, 1) := by decide +kernel
theorem dX4_feed_0 : decode cX4_feed 0 = .ok (.iload_n 2, 1) := by decide +kernel
theorem dX4_feed_1 : decode cX4_feed 1 = .ok (.iconst 1, 1) := by decide +kernel
theorem dX4_feed_2 : decode cX4_feed 2 = .ok (.iconst 4, 1) := by decide +kernel
theorem dX4_feed_3 : decode cX4_feed 3 = .ok (.invokestatic 74, 3) := by decide +kernel
theorem dX4_feed_6 : decode cX4_feed 6 = .ok (.ifCond .ne 10, 3) := by decide +kernel
theorem dX4_feed_9 : decode cX4_feed 9 = .ok (.aload_n 0, 1) := by decide +kernel
theorem dX4_feed_10 : decode cX4_feed 10 = .ok (.ldc 69, 2) := by decide +kernel
theorem dX4_feed_12 : decode cX4_feed 12 = .ok (.invokevirtual 88, 3) := by decide +kernel
theorem dX4_feed_15 : decode cX4_feed 15 = .ok (.ireturn, 1) := by decide +kernel
theorem dX4_feed_16 : decode cX4_feed 16 = .ok (.aload_n 0, 1) := by decide +kernel
theorem dX4_feed_17 : decode cX4_feed 17 = .ok (.getfield 258, 3) := by decide +kernel
theorem dX4_feed_20 : decode cX4_feed 20 = .ok (.iload_n 2, 1) := by decide +kernel
theorem dX4_feed_21 : decode cX4_feed 21 = .ok (.iadd, 1) := by decide +kernel
theorem dX4_feed_22 : decode cX4_feed 22 = .ok (.bipush 120, 2) := by decide +kernel
theorem dX4_feed_24 : decode cX4_feed 24 = .ok (.if_icmp .le 10, 3) := by decide +kernel
theorem dX4_feed_27 : decode cX4_feed 27 = .ok (.aload_n 0, 1) := by decide +kernel
theorem dX4_feed_28 : decode cX4_feed 28 = .ok (.ldc 107, 2) := by decide +kernel
theorem dX4_feed_30 : decode cX4_feed 30 = .ok (.invokevirtual 88, 3) := by decide +kernel
theorem dX4_feed_33 : decode cX4_feed 33 = .ok (.ireturn, 1) := by decide +kernel
theorem dX4_feed_34 : decode cX4_feed 34 = .ok (.iload_n 2, 1) := by decide +kernel
theorem dX4_feed_35 : decode cX4_feed 35 = .ok (.iconst 1, 1) := by decide +kernel
theorem dX4_feed_36 : decode cX4_feed 36 = .ok (.isub, 1) := by decide +kernel
theorem dX4_feed_37 : decode cX4_feed 37 = .ok (.istore_n 3, 1) := by decide +kernel
theorem dX4_feed_38 : decode cX4_feed 38 = .ok (.iload_n 3, 1) := by decide +kernel
theorem dX4_feed_39 : decode cX4_feed 39 = .ok (.ifCond .lt 38, 3) := by decide +kernel
theorem dX4_feed_42 : decode cX4_feed 42 = .ok (.aload_n 0, 1) := by decide +kernel
theorem dX4_feed_43 : decode cX4_feed 43 = .ok (.getfield 31, 3) := by decide +kernel
theorem dX4_feed_46 : decode cX4_feed 46 = .ok (.aload_n 0, 1) := by decide +kernel
theorem dX4_feed_47 : decode cX4_feed 47 = .ok (.getfield 258, 3) := by decide +kernel
theorem dX4_feed_50 : decode cX4_feed 50 = .ok (.iload_n 1, 1) := by decide +kernel
theorem dX4_feed_51 : decode cX4_feed 51 = .ok (.bipush 8, 2) := by decide +kernel
theorem dX4_feed_53 : decode cX4_feed 53 = .ok (.iload_n 3, 1) := by decide +kernel
theorem dX4_feed_54 : decode cX4_feed 54 = .ok (.imul, 1) := by decide +kernel
theorem dX4_feed_55 : decode cX4_feed 55 = .ok (.ishr, 1) := by decide +kernel
theorem dX4_feed_56 : decode cX4_feed 56 = .ok (.sipush 255, 3) := by decide +kernel
theorem dX4_feed_59 : decode cX4_feed 59 = .ok (.iand, 1) := by decide +kernel
theorem dX4_feed_60 : decode cX4_feed 60 = .ok (.iastore, 1) := by decide +kernel
theorem dX4_feed_61 : decode cX4_feed 61 = .ok (.aload_n 0, 1) := by decide +kernel
theorem dX4_feed_62 : decode cX4_feed 62 = .ok (.dup, 1) := by decide +kernel
theorem dX4_feed_63 : decode cX4_feed 63 = .ok (.getfield 258, 3) := by decide +kernel
theorem dX4_feed_66 : decode cX4_feed 66 = .ok (.iconst 1, 1) := by decide +kernel
theorem dX4_feed_67 : decode cX4_feed 67 = .ok (.iadd, 1) := by decide +kernel
theorem dX4_feed_68 : decode cX4_feed 68 = .ok (.putfield 258, 3) := by decide +kernel
theorem dX4_feed_71 : decode cX4_feed 71 = .ok (.iinc 3 (-1), 3) := by decide +kernel
theorem dX4_feed_74 : decode cX4_feed 74 = .ok (.goto (-36), 3) := by decide +kernel
theorem dX4_feed_77 : decode cX4_feed 77 = .ok (.aload_n 0, 1) := by decide +kernel
theorem dX4_feed_78 : decode cX4_feed 78 = .ok (.getfield 258, 3) := by decide +kernel
theorem dX4_feed_81 : decode cX4_feed 81 = .ok (.ireturn, 1) := by decide +kernel
theorem dX4_wipe_0 : decode cX4_wipe 0 = .ok (.aload_n 0, 1) := by decide +kernel
theorem dX4_wipe_1 : decode cX4_wipe 1 = .ok (.getfield 258, 3) := by decide +kernel
theorem dX4_wipe_4 : decode cX4_wipe 4 = .ok (.istore_n 1, 1) := by decide +kernel
theorem dX4_wipe_5 : decode cX4_wipe 5 = .ok (.aload_n 0, 1) := by decide +kernel
theorem dX4_wipe_6 : decode cX4_wipe 6 = .ok (.iconst 0, 1) := by decide +kernel
theorem dX4_wipe_7 : decode cX4_wipe 7 = .ok (.putfield 258, 3) := by decide +kernel
theorem dX4_wipe_10 : decode cX4_wipe 10 = .ok (.iload_n 1, 1) := by decide +kernel
theorem dX4_wipe_11 : decode cX4_wipe 11 = .ok (.ireturn, 1) := by decide +kernel
theorem dX4_byteAt_0 : decode cX4_byteAt 0 = .ok (.iload_n 1, 1) := by decide +kernel
theorem dX4_byteAt_1 : decode cX4_byteAt 1 = .ok (.aload_n 0, 1) := by decide +kernel
theorem dX4_byteAt_2 : decode cX4_byteAt 2 = .ok (.getfield 258, 3) := by decide +kernel
theorem dX4_byteAt_5 : decode cX4_byteAt 5 = .ok (.if_icmp .ge 12, 3) := by decide +kernel
theorem dX4_byteAt_8 : decode cX4_byteAt 8 = .ok (.aload_n 0, 1) := by decide +kernel
theorem dX4_byteAt_9 : decode cX4_byteAt 9 = .ok (.getfield 31, 3) := by decide +kernel
theorem dX4_byteAt_12 : decode cX4_byteAt 12 = .ok (.iload_n 1, 1) := by decide +kernel
theorem dX4_byteAt_13 : decode cX4_byteAt 13 = .ok (.iaload, 1) := by decide +kernel
theorem dX4_byteAt_14 : decode cX4_byteAt 14 = .ok (.goto 4, 3) := by decide +kernel
theorem dX4_byteAt_17 : decode cX4_byteAt 17 = .ok (.iconst (-1), 1) := by decide +kernel
theorem dX4_byteAt_18 : decode cX4_byteAt 18 = .ok (.ireturn, 1) := by decide +kernel
theorem dX4_next_0 : decode cX4_next 0 = .ok (.aload_n 0, 1) := by decide +kernel
theorem dX4_next_1 : decode cX4_next 1 = .ok (.aload_n 0, 1) := by decide +kernel
theorem dX4_next_2 : decode cX4_next 2 = .ok (.getfield 262, 3) := by decide +kernel
theorem dX4_next_5 : decode cX4_next 5 = .ok (.putfield 265, 3) := by decide +kernel
theorem dX4_next_8 : decode cX4_next 8 = .ok (.aload_n 0, 1) := by decide +kernel
theorem dX4_next_9 : decode cX4_next 9 = .ok (.aload_n 0, 1) := by decide +kernel
theorem dX4_next_10 : decode cX4_next 10 = .ok (.getfield 265, 3) := by decide +kernel
theorem dX4_next_13 : decode cX4_next 13 = .ok (.invokevirtual 268, 3) := by decide +kernel
theorem dX4_next_16 : decode cX4_next 16 = .ok (.bipush 32, 2) := by decide +kernel
theorem dX4_next_18 : decode cX4_next 18 = .ok (.if_icmp .ne 16, 3) := by decide +kernel
theorem dX4_next_21 : decode cX4_next 21 = .ok (.aload_n 0, 1) := by decide +kernel
theorem dX4_next_22 : decode cX4_next 22 = .ok (.dup, 1) := by decide +kernel
theorem dX4_next_23 : decode cX4_next 23 = .ok (.getfield 265, 3) := by decide +kernel
theorem dX4_next_26 : decode cX4_next 26 = .ok (.iconst 1, 1) := by decide +kernel
theorem dX4_next_27 : decode cX4_next 27 = .ok (.iadd, 1) := by decide +kernel
theorem dX4_next_28 : decode cX4_next 28 = .ok (.putfield 265, 3) := by decide +kernel
theorem dX4_next_31 : decode cX4_next 31 = .ok (.goto (-23), 3) := by decide +kernel
theorem dX4_next_34 : decode cX4_next 34 = .ok (.aload_n 0, 1) := by decide +kernel
theorem dX4_next_35 : decode cX4_next 35 = .ok (.aload_n 0, 1) := by decide +kernel
theorem dX4_next_36 : decode cX4_next 36 = .ok (.getfield 265, 3) := by decide +kernel
theorem dX4_next_39 : decode cX4_next 39 = .ok (.invokevirtual 268, 3) := by decide +kernel
theorem dX4_next_42 : decode cX4_next 42 = .ok (.istore_n 1, 1) := by decide +kernel
theorem dX4_next_43 : decode cX4_next 43 = .ok (.aload_n 0, 1) := by decide +kernel
theorem dX4_next_44 : decode cX4_next 44 = .ok (.aload_n 0, 1) := by decide +kernel
theorem dX4_next_45 : decode cX4_next 45 = .ok (.getfield 265, 3) := by decide +kernel
theorem dX4_next_48 : decode cX4_next 48 = .ok (.putfield 262, 3) := by decide +kernel
theorem dX4_next_51 : decode cX4_next 51 = .ok (.aload_n 0, 1) := by decide +kernel
theorem dX4_next_52 : decode cX4_next 52 = .ok (.iconst 0, 1) := by decide +kernel
theorem dX4_next_53 : decode cX4_next 53 = .ok (.putfield 271, 3) := by decide +kernel
theorem dX4_next_56 : decode cX4_next 56 = .ok (.iload_n 1, 1) := by decide +kernel
theorem dX4_next_57 : decode cX4_next 57 = .ok (.ifCond .ge 11, 3) := by decide +kernel
theorem dX4_next_60 : decode cX4_next 60 = .ok (.aload_n 0, 1) := by decide +kernel
theorem dX4_next_61 : decode cX4_next 61 = .ok (.iconst 0, 1) := by decide +kernel
theorem dX4_next_62 : decode cX4_next 62 = .ok (.putfield 274, 3) := by decide +kernel
theorem dX4_next_65 : decode cX4_next 65 = .ok (.goto 141, 3) := by decide +kernel
theorem dX4_next_68 : decode cX4_next 68 = .ok (.iload_n 1, 1) := by decide +kernel
theorem dX4_next_69 : decode cX4_next 69 = .ok (.bipush 97, 2) := by decide +kernel
theorem dX4_next_71 : decode cX4_next 71 = .ok (.bipush 122, 2) := by decide +kernel
theorem dX4_next_73 : decode cX4_next 73 = .ok (.invokestatic 74, 3) := by decide +kernel
theorem dX4_next_76 : decode cX4_next 76 = .ok (.ifCond .eq 39, 3) := by decide +kernel
theorem dX4_next_79 : decode cX4_next 79 = .ok (.aload_n 0, 1) := by decide +kernel
theorem dX4_next_80 : decode cX4_next 80 = .ok (.iconst 1, 1) := by decide +kernel
theorem dX4_next_81 : decode cX4_next 81 = .ok (.putfield 274, 3) := by decide +kernel
theorem dX4_next_84 : decode cX4_next 84 = .ok (.aload_n 0, 1) := by decide +kernel
theorem dX4_next_85 : decode cX4_next 85 = .ok (.aload_n 0, 1) := by decide +kernel
theorem dX4_next_86 : decode cX4_next 86 = .ok (.getfield 262, 3) := by decide +kernel
theorem dX4_next_89 : decode cX4_next 89 = .ok (.invokevirtual 268, 3) := by decide +kernel
theorem dX4_next_92 : decode cX4_next 92 = .ok (.bipush 97, 2) := by decide +kernel
theorem dX4_next_94 : decode cX4_next 94 = .ok (.bipush 122, 2) := by decide +kernel
theorem dX4_next_96 : decode cX4_next 96 = .ok (.invokestatic 74, 3) := by decide +kernel
theorem dX4_next_99 : decode cX4_next 99 = .ok (.ifCond .eq 107, 3) := by decide +kernel
theorem dX4_next_102 : decode cX4_next 102 = .ok (.aload_n 0, 1) := by decide +kernel
theorem dX4_next_103 : decode cX4_next 103 = .ok (.dup, 1) := by decide +kernel
theorem dX4_next_104 : decode cX4_next 104 = .ok (.getfield 262, 3) := by decide +kernel
theorem dX4_next_107 : decode cX4_next 107 = .ok (.iconst 1, 1) := by decide +kernel
theorem dX4_next_108 : decode cX4_next 108 = .ok (.iadd, 1) := by decide +kernel
theorem dX4_next_109 : decode cX4_next 109 = .ok (.putfield 262, 3) := by decide +kernel
theorem dX4_next_112 : decode cX4_next 112 = .ok (.goto (-28), 3) := by decide +kernel
theorem dX4_next_115 : decode cX4_next 115 = .ok (.iload_n 1, 1) := by decide +kernel
theorem dX4_next_116 : decode cX4_next 116 = .ok (.bipush 48, 2) := by decide +kernel
theorem dX4_next_118 : decode cX4_next 118 = .ok (.bipush 57, 2) := by decide +kernel
theorem dX4_next_120 : decode cX4_next 120 = .ok (.invokestatic 74, 3) := by decide +kernel
theorem dX4_next_123 : decode cX4_next 123 = .ok (.ifCond .eq 68, 3) := by decide +kernel
theorem dX4_next_126 : decode cX4_next 126 = .ok (.aload_n 0, 1) := by decide +kernel
theorem dX4_next_127 : decode cX4_next 127 = .ok (.iconst 2, 1) := by decide +kernel
theorem dX4_next_128 : decode cX4_next 128 = .ok (.putfield 274, 3) := by decide +kernel
theorem dX4_next_131 : decode cX4_next 131 = .ok (.aload_n 0, 1) := by decide +kernel
theorem dX4_next_132 : decode cX4_next 132 = .ok (.aload_n 0, 1) := by decide +kernel
theorem dX4_next_133 : decode cX4_next 133 = .ok (.getfield 262, 3) := by decide +kernel
theorem dX4_next_136 : decode cX4_next 136 = .ok (.invokevirtual 268, 3) := by decide +kernel
theorem dX4_next_139 : decode cX4_next 139 = .ok (.bipush 48, 2) := by decide +kernel
theorem dX4_next_141 : decode cX4_next 141 = .ok (.bipush 57, 2) := by decide +kernel
theorem dX4_next_143 : decode cX4_next 143 = .ok (.invokestatic 74, 3) := by decide +kernel
theorem dX4_next_146 : decode cX4_next 146 = .ok (.ifCond .eq 60, 3) := by decide +kernel
theorem dX4_next_149 : decode cX4_next 149 = .ok (.aload_n 0, 1) := by decide +kernel
theorem dX4_next_150 : decode cX4_next 150 = .ok (.sipush 1000, 3) := by decide +kernel
theorem dX4_next_153 : decode cX4_next 153 = .ok (.bipush 10, 2) := by decide +kernel
theorem dX4_next_155 : decode cX4_next 155 = .ok (.aload_n 0, 1) := by decide +kernel
theorem dX4_next_156 : decode cX4_next 156 = .ok (.getfield 271, 3) := by decide +kernel
theorem dX4_next_159 : decode cX4_next 159 = .ok (.imul, 1) := by decide +kernel
theorem dX4_next_160 : decode cX4_next 160 = .ok (.aload_n 0, 1) := by decide +kernel
theorem dX4_next_161 : decode cX4_next 161 = .ok (.aload_n 0, 1) := by decide +kernel
theorem dX4_next_162 : decode cX4_next 162 = .ok (.getfield 262, 3) := by decide +kernel
theorem dX4_next_165 : decode cX4_next 165 = .ok (.invokevirtual 268, 3) := by decide +kernel
theorem dX4_next_168 : decode cX4_next 168 = .ok (.iadd, 1) := by decide +kernel
theorem dX4_next_169 : decode cX4_next 169 = .ok (.bipush 48, 2) := by decide +kernel
theorem dX4_next_171 : decode cX4_next 171 = .ok (.isub, 1) := by decide +kernel
theorem dX4_next_172 : decode cX4_next 172 = .ok (.invokestatic 125, 3) := by decide +kernel
theorem dX4_next_175 : decode cX4_next 175 = .ok (.putfield 271, 3) := by decide +kernel
theorem dX4_next_178 : decode cX4_next 178 = .ok (.aload_n 0, 1) := by decide +kernel
theorem dX4_next_179 : decode cX4_next 179 = .ok (.dup, 1) := by decide +kernel
theorem dX4_next_180 : decode cX4_next 180 = .ok (.getfield 262, 3) := by decide +kernel
theorem dX4_next_183 : decode cX4_next 183 = .ok (.iconst 1, 1) := by decide +kernel
theorem dX4_next_184 : decode cX4_next 184 = .ok (.iadd, 1) := by decide +kernel
theorem dX4_next_185 : decode cX4_next 185 = .ok (.putfield 262, 3) := by decide +kernel
theorem dX4_next_188 : decode cX4_next 188 = .ok (.goto (-57), 3) := by decide +kernel
theorem dX4_next_191 : decode cX4_next 191 = .ok (.aload_n 0, 1) := by decide +kernel
theorem dX4_next_192 : decode cX4_next 192 = .ok (.iconst 3, 1) := by decide +kernel
theorem dX4_next_193 : decode cX4_next 193 = .ok (.putfield 274, 3) := by decide +kernel
theorem dX4_next_196 : decode cX4_next 196 = .ok (.aload_n 0, 1) := by decide +kernel
theorem dX4_next_197 : decode cX4_next 197 = .ok (.dup, 1) := by decide +kernel
theorem dX4_next_198 : decode cX4_next 198 = .ok (.getfield 262, 3) := by decide +kernel
theorem dX4_next_201 : decode cX4_next 201 = .ok (.iconst 1, 1) := by decide +kernel
theorem dX4_next_202 : decode cX4_next 202 = .ok (.iadd, 1) := by decide +kernel
theorem dX4_next_203 : decode cX4_next 203 = .ok (.putfield 262, 3) := by decide +kernel
theorem dX4_next_206 : decode cX4_next 206 = .ok (.return_, 1) := by decide +kernel
theorem dX4_isWord_0 : decode cX4_isWord 0 = .ok (.aload_n 0, 1) := by decide +kernel
theorem dX4_isWord_1 : decode cX4_isWord 1 = .ok (.getfield 274, 3) := by decide +kernel
theorem dX4_isWord_4 : decode cX4_isWord 4 = .ok (.iconst 1, 1) := by decide +kernel
theorem dX4_isWord_5 : decode cX4_isWord 5 = .ok (.if_icmp .ne 23, 3) := by decide +kernel
theorem dX4_isWord_8 : decode cX4_isWord 8 = .ok (.aload_n 0, 1) := by decide +kernel
theorem dX4_isWord_9 : decode cX4_isWord 9 = .ok (.getfield 262, 3) := by decide +kernel
theorem dX4_isWord_12 : decode cX4_isWord 12 = .ok (.aload_n 0, 1) := by decide +kernel
theorem dX4_isWord_13 : decode cX4_isWord 13 = .ok (.getfield 265, 3) := by decide +kernel
theorem dX4_isWord_16 : decode cX4_isWord 16 = .ok (.isub, 1) := by decide +kernel
theorem dX4_isWord_17 : decode cX4_isWord 17 = .ok (.aload_n 1, 1) := by decide +kernel
theorem dX4_isWord_18 : decode cX4_isWord 18 = .ok (.invokevirtual 277, 3) := by decide +kernel
theorem dX4_isWord_21 : decode cX4_isWord 21 = .ok (.if_icmp .ne 7, 3) := by decide +kernel
theorem dX4_isWord_24 : decode cX4_isWord 24 = .ok (.iconst 1, 1) := by decide +kernel
theorem dX4_isWord_25 : decode cX4_isWord 25 = .ok (.goto 4, 3) := by decide +kernel
theorem dX4_isWord_28 : decode cX4_isWord 28 = .ok (.iconst 0, 1) := by decide +kernel
theorem dX4_isWord_29 : decode cX4_isWord 29 = .ok (.istore_n 2, 1) := by decide +kernel
theorem dX4_isWord_30 : decode cX4_isWord 30 = .ok (.iconst 0, 1) := by decide +kernel
theorem dX4_isWord_31 : decode cX4_isWord 31 = .ok (.istore_n 3, 1) := by decide +kernel
theorem dX4_isWord_32 : decode cX4_isWord 32 = .ok (.iload_n 3, 1) := by decide +kernel
theorem dX4_isWord_33 : decode cX4_isWord 33 = .ok (.aload_n 1, 1) := by decide +kernel
theorem dX4_isWord_34 : decode cX4_isWord 34 = .ok (.invokevirtual 277, 3) := by decide +kernel
theorem dX4_isWord_37 : decode cX4_isWord 37 = .ok (.if_icmp .ge 38, 3) := by decide +kernel
theorem dX4_isWord_40 : decode cX4_isWord 40 = .ok (.iload_n 2, 1) := by decide +kernel
theorem dX4_isWord_41 : decode cX4_isWord 41 = .ok (.ifCond .eq 34, 3) := by decide +kernel
theorem dX4_isWord_44 : decode cX4_isWord 44 = .ok (.aload_n 0, 1) := by decide +kernel
theorem dX4_isWord_45 : decode cX4_isWord 45 = .ok (.getfield 31, 3) := by decide +kernel
theorem dX4_isWord_48 : decode cX4_isWord 48 = .ok (.aload_n 0, 1) := by decide +kernel
theorem dX4_isWord_49 : decode cX4_isWord 49 = .ok (.getfield 265, 3) := by decide +kernel
theorem dX4_isWord_52 : decode cX4_isWord 52 = .ok (.iload_n 3, 1) := by decide +kernel
theorem dX4_isWord_53 : decode cX4_isWord 53 = .ok (.iadd, 1) := by decide +kernel
theorem dX4_isWord_54 : decode cX4_isWord 54 = .ok (.iaload, 1) := by decide +kernel
theorem dX4_isWord_55 : decode cX4_isWord 55 = .ok (.aload_n 1, 1) := by decide +kernel
theorem dX4_isWord_56 : decode cX4_isWord 56 = .ok (.iload_n 3, 1) := by decide +kernel
theorem dX4_isWord_57 : decode cX4_isWord 57 = .ok (.invokevirtual 280, 3) := by decide +kernel
theorem dX4_isWord_60 : decode cX4_isWord 60 = .ok (.if_icmp .ne 7, 3) := by decide +kernel
theorem dX4_isWord_63 : decode cX4_isWord 63 = .ok (.iconst 1, 1) := by decide +kernel
theorem dX4_isWord_64 : decode cX4_isWord 64 = .ok (.goto 4, 3) := by decide +kernel
theorem dX4_isWord_67 : decode cX4_isWord 67 = .ok (.iconst 0, 1) := by decide +kernel
theorem dX4_isWord_68 : decode cX4_isWord 68 = .ok (.istore_n 2, 1) := by decide +kernel
theorem dX4_isWord_69 : decode cX4_isWord 69 = .ok (.iinc 3 1, 3) := by decide +kernel
theorem dX4_isWord_72 : decode cX4_isWord 72 = .ok (.goto (-40), 3) := by decide +kernel
theorem dX4_isWord_75 : decode cX4_isWord 75 = .ok (.iload_n 2, 1) := by decide +kernel
theorem dX4_isWord_76 : decode cX4_isWord 76 = .ok (.ireturn, 1) := by decide +kernel
theorem dX4_must_0 : decode cX4_must 0 = .ok (.aload_n 0, 1) := by decide +kernel
theorem dX4_must_1 : decode cX4_must 1 = .ok (.aload_n 0, 1) := by decide +kernel
theorem dX4_must_2 : decode cX4_must 2 = .ok (.getfield 284, 3) := by decide +kernel
theorem dX4_must_5 : decode cX4_must 5 = .ok (.ifCond .ne 7, 3) := by decide +kernel
theorem dX4_must_8 : decode cX4_must 8 = .ok (.iload_n 1, 1) := by decide +kernel
theorem dX4_must_9 : decode cX4_must 9 = .ok (.ifCond .ne 7, 3) := by decide +kernel
theorem dX4_must_12 : decode cX4_must 12 = .ok (.iconst 1, 1) := by decide +kernel
theorem dX4_must_13 : decode cX4_must 13 = .ok (.goto 4, 3) := by decide +kernel
theorem dX4_must_16 : decode cX4_must 16 = .ok (.iconst 0, 1) := by decide +kernel
theorem dX4_must_17 : decode cX4_must 17 = .ok (.putfield 284, 3) := by decide +kernel
theorem dX4_must_20 : decode cX4_must 20 = .ok (.aload_n 0, 1) := by decide +kernel
theorem dX4_must_21 : decode cX4_must 21 = .ok (.getfield 284, 3) := by decide +kernel
theorem dX4_must_24 : decode cX4_must 24 = .ok (.ifCond .ne 7, 3) := by decide +kernel
theorem dX4_must_27 : decode cX4_must 27 = .ok (.aload_n 0, 1) := by decide +kernel
theorem dX4_must_28 : decode cX4_must 28 = .ok (.invokevirtual 287, 3) := by decide +kernel
theorem dX4_must_31 : decode cX4_must 31 = .ok (.return_, 1) := by decide +kernel
theorem dX4_number_0 : decode cX4_number 0 = .ok (.aload_n 0, 1) := by decide +kernel
theorem dX4_number_1 : decode cX4_number 1 = .ok (.getfield 271, 3) := by decide +kernel
theorem dX4_number_4 : decode cX4_number 4 = .ok (.istore_n 3, 1) := by decide +kernel
theorem dX4_number_5 : decode cX4_number 5 = .ok (.aload_n 0, 1) := by decide +kernel
theorem dX4_number_6 : decode cX4_number 6 = .ok (.aload_n 0, 1) := by decide +kernel
theorem dX4_number_7 : decode cX4_number 7 = .ok (.getfield 274, 3) := by decide +kernel
theorem dX4_number_10 : decode cX4_number 10 = .ok (.iconst 2, 1) := by decide +kernel
theorem dX4_number_11 : decode cX4_number 11 = .ok (.if_icmp .ne 16, 3) := by decide +kernel
theorem dX4_number_14 : decode cX4_number 14 = .ok (.iload_n 3, 1) := by decide +kernel
theorem dX4_number_15 : decode cX4_number 15 = .ok (.iload_n 1, 1) := by decide +kernel
theorem dX4_number_16 : decode cX4_number 16 = .ok (.iload_n 2, 1) := by decide +kernel
theorem dX4_number_17 : decode cX4_number 17 = .ok (.invokestatic 74, 3) := by decide +kernel
theorem dX4_number_20 : decode cX4_number 20 = .ok (.ifCond .eq 7, 3) := by decide +kernel
theorem dX4_number_23 : decode cX4_number 23 = .ok (.iconst 1, 1) := by decide +kernel
theorem dX4_number_24 : decode cX4_number 24 = .ok (.goto 4, 3) := by decide +kernel
theorem dX4_number_27 : decode cX4_number 27 = .ok (.iconst 0, 1) := by decide +kernel
theorem dX4_number_28 : decode cX4_number 28 = .ok (.invokevirtual 290, 3) := by decide +kernel
theorem dX4_number_31 : decode cX4_number 31 = .ok (.iload_n 3, 1) := by decide +kernel
theorem dX4_number_32 : decode cX4_number 32 = .ok (.ireturn, 1) := by decide +kernel
theorem dX4_item_0 : decode cX4_item 0 = .ok (.iconst 4, 1) := by decide +kernel
theorem dX4_item_1 : decode cX4_item 1 = .ok (.aload_n 0, 1) := by decide +kernel
theorem dX4_item_2 : decode cX4_item 2 = .ok (.getfield 294, 3) := by decide +kernel
theorem dX4_item_5 : decode cX4_item 5 = .ok (.imul, 1) := by decide +kernel
theorem dX4_item_6 : decode cX4_item 6 = .ok (.istore 5, 2) := by decide +kernel
theorem dX4_item_8 : decode cX4_item 8 = .ok (.aload_n 0, 1) := by decide +kernel
theorem dX4_item_9 : decode cX4_item 9 = .ok (.getfield 54, 3) := by decide +kernel
theorem dX4_item_12 : decode cX4_item 12 = .ok (.iload 5, 2) := by decide +kernel
theorem dX4_item_14 : decode cX4_item 14 = .ok (.iload_n 1, 1) := by decide +kernel
theorem dX4_item_15 : decode cX4_item 15 = .ok (.iastore, 1) := by decide +kernel
theorem dX4_item_16 : decode cX4_item 16 = .ok (.aload_n 0, 1) := by decide +kernel
theorem dX4_item_17 : decode cX4_item 17 = .ok (.getfield 54, 3) := by decide +kernel
theorem dX4_item_20 : decode cX4_item 20 = .ok (.iload 5, 2) := by decide +kernel
theorem dX4_item_22 : decode cX4_item 22 = .ok (.iconst 1, 1) := by decide +kernel
theorem dX4_item_23 : decode cX4_item 23 = .ok (.iadd, 1) := by decide +kernel
theorem dX4_item_24 : decode cX4_item 24 = .ok (.iload_n 2, 1) := by decide +kernel
theorem dX4_item_25 : decode cX4_item 25 = .ok (.iastore, 1) := by decide +kernel
theorem dX4_item_26 : decode cX4_item 26 = .ok (.aload_n 0, 1) := by decide +kernel
theorem dX4_item_27 : decode cX4_item 27 = .ok (.getfield 54, 3) := by decide +kernel
theorem dX4_item_30 : decode cX4_item 30 = .ok (.iload 5, 2) := by decide +kernel
theorem dX4_item_32 : decode cX4_item 32 = .ok (.iconst 2, 1) := by decide +kernel
theorem dX4_item_33 : decode cX4_item 33 = .ok (.iadd, 1) := by decide +kernel
theorem dX4_item_34 : decode cX4_item 34 = .ok (.iload_n 3, 1) := by decide +kernel
theorem dX4_item_35 : decode cX4_item 35 = .ok (.iastore, 1) := by decide +kernel
theorem dX4_item_36 : decode cX4_item 36 = .ok (.aload_n 0, 1) := by decide +kernel
theorem dX4_item_37 : decode cX4_item 37 = .ok (.getfield 54, 3) := by decide +kernel
theorem dX4_item_40 : decode cX4_item 40 = .ok (.iload 5, 2) := by decide +kernel
theorem dX4_item_42 : decode cX4_item 42 = .ok (.iconst 3, 1) := by decide +kernel
theorem dX4_item_43 : decode cX4_item 43 = .ok (.iadd, 1) := by decide +kernel
theorem dX4_item_44 : decode cX4_item 44 = .ok (.iload 4, 2) := by decide +kernel
theorem dX4_item_46 : decode cX4_item 46 = .ok (.iastore, 1) := by decide +kernel
theorem dX4_item_47 : decode cX4_item 47 = .ok (.aload_n 0, 1) := by decide +kernel
theorem dX4_item_48 : decode cX4_item 48 = .ok (.dup, 1) := by decide +kernel
theorem dX4_item_49 : decode cX4_item 49 = .ok (.getfield 294, 3) := by decide +kernel
theorem dX4_item_52 : decode cX4_item 52 = .ok (.iconst 1, 1) := by decide +kernel
theorem dX4_item_53 : decode cX4_item 53 = .ok (.iadd, 1) := by decide +kernel
theorem dX4_item_54 : decode cX4_item 54 = .ok (.putfield 294, 3) := by decide +kernel
theorem dX4_item_57 : decode cX4_item 57 = .ok (.return_, 1) := by decide +kernel
theorem dX4_kindTold_0 : decode cX4_kindTold 0 = .ok (.iconst (-1), 1) := by decide +kernel
theorem dX4_kindTold_1 : decode cX4_kindTold 1 = .ok (.istore_n 1, 1) := by decide +kernel
theorem dX4_kindTold_2 : decode cX4_kindTold 2 = .ok (.iconst 0, 1) := by decide +kernel
theorem dX4_kindTold_3 : decode cX4_kindTold 3 = .ok (.istore_n 2, 1) := by decide +kernel
theorem dX4_kindTold_4 : decode cX4_kindTold 4 = .ok (.iload_n 2, 1) := by decide +kernel
theorem dX4_kindTold_5 : decode cX4_kindTold 5 = .ok (.aload_n 0, 1) := by decide +kernel
theorem dX4_kindTold_6 : decode cX4_kindTold 6 = .ok (.getfield 50, 3) := by decide +kernel
theorem dX4_kindTold_9 : decode cX4_kindTold 9 = .ok (.arraylength, 1) := by decide +kernel
theorem dX4_kindTold_10 : decode cX4_kindTold 10 = .ok (.if_icmp .ge 28, 3) := by decide +kernel
theorem dX4_kindTold_13 : decode cX4_kindTold 13 = .ok (.aload_n 0, 1) := by decide +kernel
theorem dX4_kindTold_14 : decode cX4_kindTold 14 = .ok (.aload_n 0, 1) := by decide +kernel
theorem dX4_kindTold_15 : decode cX4_kindTold 15 = .ok (.getfield 50, 3) := by decide +kernel
theorem dX4_kindTold_18 : decode cX4_kindTold 18 = .ok (.iload_n 2, 1) := by decide +kernel
theorem dX4_kindTold_19 : decode cX4_kindTold 19 = .ok (.aaload, 1) := by decide +kernel
theorem dX4_kindTold_20 : decode cX4_kindTold 20 = .ok (.invokevirtual 297, 3) := by decide +kernel
theorem dX4_kindTold_23 : decode cX4_kindTold 23 = .ok (.ifCond .eq 7, 3) := by decide +kernel
theorem dX4_kindTold_26 : decode cX4_kindTold 26 = .ok (.iload_n 2, 1) := by decide +kernel
theorem dX4_kindTold_27 : decode cX4_kindTold 27 = .ok (.goto 4, 3) := by decide +kernel
theorem dX4_kindTold_30 : decode cX4_kindTold 30 = .ok (.iload_n 1, 1) := by decide +kernel
theorem dX4_kindTold_31 : decode cX4_kindTold 31 = .ok (.istore_n 1, 1) := by decide +kernel
theorem dX4_kindTold_32 : decode cX4_kindTold 32 = .ok (.iinc 2 1, 3) := by decide +kernel
theorem dX4_kindTold_35 : decode cX4_kindTold 35 = .ok (.goto (-31), 3) := by decide +kernel
theorem dX4_kindTold_38 : decode cX4_kindTold 38 = .ok (.iload_n 1, 1) := by decide +kernel
theorem dX4_kindTold_39 : decode cX4_kindTold 39 = .ok (.ireturn, 1) := by decide +kernel
theorem dX4_isNext_0 : decode cX4_isNext 0 = .ok (.aload_n 0, 1) := by decide +kernel
theorem dX4_isNext_1 : decode cX4_isNext 1 = .ok (.getfield 284, 3) := by decide +kernel
theorem dX4_isNext_4 : decode cX4_isNext 4 = .ok (.ifCond .ne 15, 3) := by decide +kernel
theorem dX4_isNext_7 : decode cX4_isNext 7 = .ok (.aload_n 0, 1) := by decide +kernel
theorem dX4_isNext_8 : decode cX4_isNext 8 = .ok (.aload_n 1, 1) := by decide +kernel
theorem dX4_isNext_9 : decode cX4_isNext 9 = .ok (.invokevirtual 297, 3) := by decide +kernel
theorem dX4_isNext_12 : decode cX4_isNext 12 = .ok (.ifCond .eq 7, 3) := by decide +kernel
theorem dX4_isNext_15 : decode cX4_isNext 15 = .ok (.iconst 1, 1) := by decide +kernel
theorem dX4_isNext_16 : decode cX4_isNext 16 = .ok (.goto 4, 3) := by decide +kernel
theorem dX4_isNext_19 : decode cX4_isNext 19 = .ok (.iconst 0, 1) := by decide +kernel
theorem dX4_isNext_20 : decode cX4_isNext 20 = .ok (.istore_n 2, 1) := by decide +kernel
theorem dX4_isNext_21 : decode cX4_isNext 21 = .ok (.iload_n 2, 1) := by decide +kernel
theorem dX4_isNext_22 : decode cX4_isNext 22 = .ok (.ifCond .eq 8, 3) := by decide +kernel
theorem dX4_isNext_25 : decode cX4_isNext 25 = .ok (.aload_n 0, 1) := by decide +kernel
theorem dX4_isNext_26 : decode cX4_isNext 26 = .ok (.iconst 1, 1) := by decide +kernel
theorem dX4_isNext_27 : decode cX4_isNext 27 = .ok (.invokevirtual 290, 3) := by decide +kernel
theorem dX4_isNext_30 : decode cX4_isNext 30 = .ok (.iload_n 2, 1) := by decide +kernel
theorem dX4_isNext_31 : decode cX4_isNext 31 = .ok (.ireturn, 1) := by decide +kernel
theorem dX4_readItem_0 : decode cX4_readItem 0 = .ok (.aload_n 0, 1) := by decide +kernel
theorem dX4_readItem_1 : decode cX4_readItem 1 = .ok (.invokevirtual 301, 3) := by decide +kernel
theorem dX4_readItem_4 : decode cX4_readItem 4 = .ok (.istore_n 1, 1) := by decide +kernel
theorem dX4_readItem_5 : decode cX4_readItem 5 = .ok (.iload_n 1, 1) := by decide +kernel
theorem dX4_readItem_6 : decode cX4_readItem 6 = .ok (.ifCond .lt 107, 3) := by decide +kernel
theorem dX4_readItem_9 : decode cX4_readItem 9 = .ok (.aload_n 0, 1) := by decide +kernel
theorem dX4_readItem_10 : decode cX4_readItem 10 = .ok (.aload_n 0, 1) := by decide +kernel
theorem dX4_readItem_11 : decode cX4_readItem 11 = .ok (.getfield 304, 3) := by decide +kernel
theorem dX4_readItem_14 : decode cX4_readItem 14 = .ok (.bipush 8, 2) := by decide +kernel
theorem dX4_readItem_16 : decode cX4_readItem 16 = .ok (.if_icmp .ge 7, 3) := by decide +kernel
theorem dX4_readItem_19 : decode cX4_readItem 19 = .ok (.iconst 1, 1) := by decide +kernel
theorem dX4_readItem_20 : decode cX4_readItem 20 = .ok (.goto 4, 3) := by decide +kernel
theorem dX4_readItem_23 : decode cX4_readItem 23 = .ok (.iconst 0, 1) := by decide +kernel
theorem dX4_readItem_24 : decode cX4_readItem 24 = .ok (.invokevirtual 290, 3) := by decide +kernel
theorem dX4_readItem_27 : decode cX4_readItem 27 = .ok (.aload_n 0, 1) := by decide +kernel
theorem dX4_readItem_28 : decode cX4_readItem 28 = .ok (.dup, 1) := by decide +kernel
theorem dX4_readItem_29 : decode cX4_readItem 29 = .ok (.getfield 304, 3) := by decide +kernel
theorem dX4_readItem_32 : decode cX4_readItem 32 = .ok (.iconst 1, 1) := by decide +kernel
theorem dX4_readItem_33 : decode cX4_readItem 33 = .ok (.iadd, 1) := by decide +kernel
theorem dX4_readItem_34 : decode cX4_readItem 34 = .ok (.putfield 304, 3) := by decide +kernel
theorem dX4_readItem_37 : decode cX4_readItem 37 = .ok (.aload_n 0, 1) := by decide +kernel
theorem dX4_readItem_38 : decode cX4_readItem 38 = .ok (.ldc_w 307, 3) := by decide +kernel
theorem dX4_readItem_41 : decode cX4_readItem 41 = .ok (.invokevirtual 308, 3) := by decide +kernel
theorem dX4_readItem_44 : decode cX4_readItem 44 = .ok (.ifCond .eq 13, 3) := by decide +kernel
theorem dX4_readItem_47 : decode cX4_readItem 47 = .ok (.aload_n 0, 1) := by decide +kernel
theorem dX4_readItem_48 : decode cX4_readItem 48 = .ok (.iconst 0, 1) := by decide +kernel
theorem dX4_readItem_49 : decode cX4_readItem 49 = .ok (.bipush 63, 2) := by decide +kernel
theorem dX4_readItem_51 : decode cX4_readItem 51 = .ok (.invokevirtual 311, 3) := by decide +kernel
theorem dX4_readItem_54 : decode cX4_readItem 54 = .ok (.goto 4, 3) := by decide +kernel
theorem dX4_readItem_57 : decode cX4_readItem 57 = .ok (.iconst 0, 1) := by decide +kernel
theorem dX4_readItem_58 : decode cX4_readItem 58 = .ok (.istore_n 2, 1) := by decide +kernel
theorem dX4_readItem_59 : decode cX4_readItem 59 = .ok (.aload_n 0, 1) := by decide +kernel
theorem dX4_readItem_60 : decode cX4_readItem 60 = .ok (.ldc_w 314, 3) := by decide +kernel
theorem dX4_readItem_63 : decode cX4_readItem 63 = .ok (.invokevirtual 308, 3) := by decide +kernel
theorem dX4_readItem_66 : decode cX4_readItem 66 = .ok (.ifCond .eq 13, 3) := by decide +kernel
theorem dX4_readItem_69 : decode cX4_readItem 69 = .ok (.aload_n 0, 1) := by decide +kernel
theorem dX4_readItem_70 : decode cX4_readItem 70 = .ok (.iconst 0, 1) := by decide +kernel
theorem dX4_readItem_71 : decode cX4_readItem 71 = .ok (.bipush 11, 2) := by decide +kernel
theorem dX4_readItem_73 : decode cX4_readItem 73 = .ok (.invokevirtual 311, 3) := by decide +kernel
theorem dX4_readItem_76 : decode cX4_readItem 76 = .ok (.goto 4, 3) := by decide +kernel
theorem dX4_readItem_79 : decode cX4_readItem 79 = .ok (.iconst 0, 1) := by decide +kernel
theorem dX4_readItem_80 : decode cX4_readItem 80 = .ok (.istore_n 3, 1) := by decide +kernel
theorem dX4_readItem_81 : decode cX4_readItem 81 = .ok (.aload_n 0, 1) := by decide +kernel
theorem dX4_readItem_82 : decode cX4_readItem 82 = .ok (.iload_n 1, 1) := by decide +kernel
theorem dX4_readItem_83 : decode cX4_readItem 83 = .ok (.iload_n 2, 1) := by decide +kernel
theorem dX4_readItem_84 : decode cX4_readItem 84 = .ok (.iload_n 3, 1) := by decide +kernel
theorem dX4_readItem_85 : decode cX4_readItem 85 = .ok (.aload_n 0, 1) := by decide +kernel
theorem dX4_readItem_86 : decode cX4_readItem 86 = .ok (.ldc_w 316, 3) := by decide +kernel
theorem dX4_readItem_89 : decode cX4_readItem 89 = .ok (.invokevirtual 308, 3) := by decide +kernel
theorem dX4_readItem_92 : decode cX4_readItem 92 = .ok (.ifCond .eq 13, 3) := by decide +kernel
theorem dX4_readItem_95 : decode cX4_readItem 95 = .ok (.aload_n 0, 1) := by decide +kernel
theorem dX4_readItem_96 : decode cX4_readItem 96 = .ok (.iconst 1, 1) := by decide +kernel
theorem dX4_readItem_97 : decode cX4_readItem 97 = .ok (.bipush 99, 2) := by decide +kernel
theorem dX4_readItem_99 : decode cX4_readItem 99 = .ok (.invokevirtual 311, 3) := by decide +kernel
theorem dX4_readItem_102 : decode cX4_readItem 102 = .ok (.goto 5, 3) := by decide +kernel
theorem dX4_readItem_105 : decode cX4_readItem 105 = .ok (.bipush 10, 2) := by decide +kernel
theorem dX4_readItem_107 : decode cX4_readItem 107 = .ok (.invokevirtual 318, 3) := by decide +kernel
theorem dX4_readItem_110 : decode cX4_readItem 110 = .ok (.goto 148, 3) := by decide +kernel
theorem dX4_readItem_113 : decode cX4_readItem 113 = .ok (.aload_n 0, 1) := by decide +kernel
theorem dX4_readItem_114 : decode cX4_readItem 114 = .ok (.ldc_w 322, 3) := by decide +kernel
theorem dX4_readItem_117 : decode cX4_readItem 117 = .ok (.invokevirtual 308, 3) := by decide +kernel
theorem dX4_readItem_120 : decode cX4_readItem 120 = .ok (.ifCond .eq 23, 3) := by decide +kernel
theorem dX4_readItem_123 : decode cX4_readItem 123 = .ok (.aload_n 0, 1) := by decide +kernel
theorem dX4_readItem_124 : decode cX4_readItem 124 = .ok (.bipush 38, 2) := by decide +kernel
theorem dX4_readItem_126 : decode cX4_readItem 126 = .ok (.aload_n 0, 1) := by decide +kernel
theorem dX4_readItem_127 : decode cX4_readItem 127 = .ok (.iconst 0, 1) := by decide +kernel
theorem dX4_readItem_128 : decode cX4_readItem 128 = .ok (.bipush 63, 2) := by decide +kernel
theorem dX4_readItem_130 : decode cX4_readItem 130 = .ok (.invokevirtual 311, 3) := by decide +kernel
theorem dX4_readItem_133 : decode cX4_readItem 133 = .ok (.iadd, 1) := by decide +kernel
theorem dX4_readItem_134 : decode cX4_readItem 134 = .ok (.iconst 1, 1) := by decide +kernel
theorem dX4_readItem_135 : decode cX4_readItem 135 = .ok (.iconst 0, 1) := by decide +kernel
theorem dX4_readItem_136 : decode cX4_readItem 136 = .ok (.iconst 0, 1) := by decide +kernel
theorem dX4_readItem_137 : decode cX4_readItem 137 = .ok (.invokevirtual 318, 3) := by decide +kernel
theorem dX4_readItem_140 : decode cX4_readItem 140 = .ok (.goto 118, 3) := by decide +kernel
theorem dX4_readItem_143 : decode cX4_readItem 143 = .ok (.aload_n 0, 1) := by decide +kernel
theorem dX4_readItem_144 : decode cX4_readItem 144 = .ok (.ldc_w 324, 3) := by decide +kernel
theorem dX4_readItem_147 : decode cX4_readItem 147 = .ok (.invokevirtual 308, 3) := by decide +kernel
theorem dX4_readItem_150 : decode cX4_readItem 150 = .ok (.ifCond .eq 31, 3) := by decide +kernel
theorem dX4_readItem_153 : decode cX4_readItem 153 = .ok (.aload_n 0, 1) := by decide +kernel
theorem dX4_readItem_154 : decode cX4_readItem 154 = .ok (.iconst 0, 1) := by decide +kernel
theorem dX4_readItem_155 : decode cX4_readItem 155 = .ok (.bipush 63, 2) := by decide +kernel
theorem dX4_readItem_157 : decode cX4_readItem 157 = .ok (.invokevirtual 311, 3) := by decide +kernel
theorem dX4_readItem_160 : decode cX4_readItem 160 = .ok (.istore_n 2, 1) := by decide +kernel
theorem dX4_readItem_161 : decode cX4_readItem 161 = .ok (.aload_n 0, 1) := by decide +kernel
theorem dX4_readItem_162 : decode cX4_readItem 162 = .ok (.bipush 102, 2) := by decide +kernel
theorem dX4_readItem_164 : decode cX4_readItem 164 = .ok (.iload_n 2, 1) := by decide +kernel
theorem dX4_readItem_165 : decode cX4_readItem 165 = .ok (.iadd, 1) := by decide +kernel
theorem dX4_readItem_166 : decode cX4_readItem 166 = .ok (.aload_n 0, 1) := by decide +kernel
theorem dX4_readItem_167 : decode cX4_readItem 167 = .ok (.iconst 0, 1) := by decide +kernel
theorem dX4_readItem_168 : decode cX4_readItem 168 = .ok (.bipush 9, 2) := by decide +kernel
theorem dX4_readItem_170 : decode cX4_readItem 170 = .ok (.invokevirtual 311, 3) := by decide +kernel
theorem dX4_readItem_173 : decode cX4_readItem 173 = .ok (.iconst 0, 1) := by decide +kernel
theorem dX4_readItem_174 : decode cX4_readItem 174 = .ok (.iconst 0, 1) := by decide +kernel
theorem dX4_readItem_175 : decode cX4_readItem 175 = .ok (.invokevirtual 318, 3) := by decide +kernel
theorem dX4_readItem_178 : decode cX4_readItem 178 = .ok (.goto 80, 3) := by decide +kernel
theorem dX4_readItem_181 : decode cX4_readItem 181 = .ok (.aload_n 0, 1) := by decide +kernel
theorem dX4_readItem_182 : decode cX4_readItem 182 = .ok (.ldc_w 326, 3) := by decide +kernel
theorem dX4_readItem_185 : decode cX4_readItem 185 = .ok (.invokevirtual 308, 3) := by decide +kernel
theorem dX4_readItem_188 : decode cX4_readItem 188 = .ok (.ifCond .eq 44, 3) := by decide +kernel
theorem dX4_readItem_191 : decode cX4_readItem 191 = .ok (.aload_n 0, 1) := by decide +kernel
theorem dX4_readItem_192 : decode cX4_readItem 192 = .ok (.iconst 0, 1) := by decide +kernel
theorem dX4_readItem_193 : decode cX4_readItem 193 = .ok (.iconst 3, 1) := by decide +kernel
theorem dX4_readItem_194 : decode cX4_readItem 194 = .ok (.invokevirtual 311, 3) := by decide +kernel
theorem dX4_readItem_197 : decode cX4_readItem 197 = .ok (.istore_n 2, 1) := by decide +kernel
theorem dX4_readItem_198 : decode cX4_readItem 198 = .ok (.aload_n 0, 1) := by decide +kernel
theorem dX4_readItem_199 : decode cX4_readItem 199 = .ok (.bipush 34, 2) := by decide +kernel
theorem dX4_readItem_201 : decode cX4_readItem 201 = .ok (.iload_n 2, 1) := by decide +kernel
theorem dX4_readItem_202 : decode cX4_readItem 202 = .ok (.iadd, 1) := by decide +kernel
theorem dX4_readItem_203 : decode cX4_readItem 203 = .ok (.aload_n 0, 1) := by decide +kernel
theorem dX4_readItem_204 : decode cX4_readItem 204 = .ok (.ldc_w 307, 3) := by decide +kernel
theorem dX4_readItem_207 : decode cX4_readItem 207 = .ok (.invokevirtual 308, 3) := by decide +kernel
theorem dX4_readItem_210 : decode cX4_readItem 210 = .ok (.ifCond .eq 13, 3) := by decide +kernel
theorem dX4_readItem_213 : decode cX4_readItem 213 = .ok (.aload_n 0, 1) := by decide +kernel
theorem dX4_readItem_214 : decode cX4_readItem 214 = .ok (.iconst 0, 1) := by decide +kernel
theorem dX4_readItem_215 : decode cX4_readItem 215 = .ok (.bipush 63, 2) := by decide +kernel
theorem dX4_readItem_217 : decode cX4_readItem 217 = .ok (.invokevirtual 311, 3) := by decide +kernel
theorem dX4_readItem_220 : decode cX4_readItem 220 = .ok (.goto 4, 3) := by decide +kernel
theorem dX4_readItem_223 : decode cX4_readItem 223 = .ok (.iconst (-1), 1) := by decide +kernel
theorem dX4_readItem_224 : decode cX4_readItem 224 = .ok (.iconst 0, 1) := by decide +kernel
theorem dX4_readItem_225 : decode cX4_readItem 225 = .ok (.iconst 0, 1) := by decide +kernel
theorem dX4_readItem_226 : decode cX4_readItem 226 = .ok (.invokevirtual 318, 3) := by decide +kernel
theorem dX4_readItem_229 : decode cX4_readItem 229 = .ok (.goto 29, 3) := by decide +kernel
theorem dX4_readItem_232 : decode cX4_readItem 232 = .ok (.aload_n 0, 1) := by decide +kernel
theorem dX4_readItem_233 : decode cX4_readItem 233 = .ok (.aload_n 0, 1) := by decide +kernel
theorem dX4_readItem_234 : decode cX4_readItem 234 = .ok (.ldc_w 328, 3) := by decide +kernel
theorem dX4_readItem_237 : decode cX4_readItem 237 = .ok (.invokevirtual 297, 3) := by decide +kernel
theorem dX4_readItem_240 : decode cX4_readItem 240 = .ok (.invokevirtual 290, 3) := by decide +kernel
theorem dX4_readItem_243 : decode cX4_readItem 243 = .ok (.aload_n 0, 1) := by decide +kernel
theorem dX4_readItem_244 : decode cX4_readItem 244 = .ok (.bipush 21, 2) := by decide +kernel
theorem dX4_readItem_246 : decode cX4_readItem 246 = .ok (.aload_n 0, 1) := by decide +kernel
theorem dX4_readItem_247 : decode cX4_readItem 247 = .ok (.iconst 0, 1) := by decide +kernel
theorem dX4_readItem_248 : decode cX4_readItem 248 = .ok (.bipush 9, 2) := by decide +kernel
theorem dX4_readItem_250 : decode cX4_readItem 250 = .ok (.invokevirtual 311, 3) := by decide +kernel
theorem dX4_readItem_253 : decode cX4_readItem 253 = .ok (.iconst 0, 1) := by decide +kernel
theorem dX4_readItem_254 : decode cX4_readItem 254 = .ok (.iconst 0, 1) := by decide +kernel
theorem dX4_readItem_255 : decode cX4_readItem 255 = .ok (.invokevirtual 318, 3) := by decide +kernel
theorem dX4_readItem_258 : decode cX4_readItem 258 = .ok (.return_, 1) := by decide +kernel
theorem dX4_isToldSo_0 : decode cX4_isToldSo 0 = .ok (.aload_n 0, 1) := by decide +kernel
theorem dX4_isToldSo_1 : decode cX4_isToldSo 1 = .ok (.getfield 54, 3) := by decide +kernel
theorem dX4_isToldSo_4 : decode cX4_isToldSo 4 = .ok (.iload_n 1, 1) := by decide +kernel
theorem dX4_isToldSo_5 : decode cX4_isToldSo 5 = .ok (.iaload, 1) := by decide +kernel
theorem dX4_isToldSo_6 : decode cX4_isToldSo 6 = .ok (.istore_n 2, 1) := by decide +kernel
theorem dX4_isToldSo_7 : decode cX4_isToldSo 7 = .ok (.aload_n 0, 1) := by decide +kernel
theorem dX4_isToldSo_8 : decode cX4_isToldSo 8 = .ok (.getfield 54, 3) := by decide +kernel
theorem dX4_isToldSo_11 : decode cX4_isToldSo 11 = .ok (.iload_n 1, 1) := by decide +kernel
theorem dX4_isToldSo_12 : decode cX4_isToldSo 12 = .ok (.iconst 1, 1) := by decide +kernel
theorem dX4_isToldSo_13 : decode cX4_isToldSo 13 = .ok (.iadd, 1) := by decide +kernel
theorem dX4_isToldSo_14 : decode cX4_isToldSo 14 = .ok (.iaload, 1) := by decide +kernel
theorem dX4_isToldSo_15 : decode cX4_isToldSo 15 = .ok (.istore_n 3, 1) := by decide +kernel
theorem dX4_isToldSo_16 : decode cX4_isToldSo 16 = .ok (.iload_n 2, 1) := by decide +kernel
theorem dX4_isToldSo_17 : decode cX4_isToldSo 17 = .ok (.bipush 20, 2) := by decide +kernel
theorem dX4_isToldSo_19 : decode cX4_isToldSo 19 = .ok (.if_icmp .lt 15, 3) := by decide +kernel
theorem dX4_isToldSo_22 : decode cX4_isToldSo 22 = .ok (.aload_n 0, 1) := by decide +kernel
theorem dX4_isToldSo_23 : decode cX4_isToldSo 23 = .ok (.iload_n 2, 1) := by decide +kernel
theorem dX4_isToldSo_24 : decode cX4_isToldSo 24 = .ok (.bipush 20, 2) := by decide +kernel
theorem dX4_isToldSo_26 : decode cX4_isToldSo 26 = .ok (.isub, 1) := by decide +kernel
theorem dX4_isToldSo_27 : decode cX4_isToldSo 27 = .ok (.iload_n 3, 1) := by decide +kernel
theorem dX4_isToldSo_28 : decode cX4_isToldSo 28 = .ok (.invokevirtual 91, 3) := by decide +kernel
theorem dX4_isToldSo_31 : decode cX4_isToldSo 31 = .ok (.goto 25, 3) := by decide +kernel
theorem dX4_isToldSo_34 : decode cX4_isToldSo 34 = .ok (.aload_n 0, 1) := by decide +kernel
theorem dX4_isToldSo_35 : decode cX4_isToldSo 35 = .ok (.iload_n 2, 1) := by decide +kernel
theorem dX4_isToldSo_36 : decode cX4_isToldSo 36 = .ok (.iload_n 3, 1) := by decide +kernel
theorem dX4_isToldSo_37 : decode cX4_isToldSo 37 = .ok (.aload_n 0, 1) := by decide +kernel
theorem dX4_isToldSo_38 : decode cX4_isToldSo 38 = .ok (.getfield 54, 3) := by decide +kernel
theorem dX4_isToldSo_41 : decode cX4_isToldSo 41 = .ok (.iload_n 1, 1) := by decide +kernel
theorem dX4_isToldSo_42 : decode cX4_isToldSo 42 = .ok (.iconst 2, 1) := by decide +kernel
theorem dX4_isToldSo_43 : decode cX4_isToldSo 43 = .ok (.iadd, 1) := by decide +kernel
theorem dX4_isToldSo_44 : decode cX4_isToldSo 44 = .ok (.iaload, 1) := by decide +kernel
theorem dX4_isToldSo_45 : decode cX4_isToldSo 45 = .ok (.aload_n 0, 1) := by decide +kernel
theorem dX4_isToldSo_46 : decode cX4_isToldSo 46 = .ok (.getfield 54, 3) := by decide +kernel
theorem dX4_isToldSo_49 : decode cX4_isToldSo 49 = .ok (.iload_n 1, 1) := by decide +kernel
theorem dX4_isToldSo_50 : decode cX4_isToldSo 50 = .ok (.iconst 3, 1) := by decide +kernel
theorem dX4_isToldSo_51 : decode cX4_isToldSo 51 = .ok (.iadd, 1) := by decide +kernel
theorem dX4_isToldSo_52 : decode cX4_isToldSo 52 = .ok (.iaload, 1) := by decide +kernel
theorem dX4_isToldSo_53 : decode cX4_isToldSo 53 = .ok (.invokevirtual 108, 3) := by decide +kernel
theorem dX4_isToldSo_56 : decode cX4_isToldSo 56 = .ok (.ireturn, 1) := by decide +kernel
theorem dX4_text_0 : decode cX4_text 0 = .ok (.aload_n 0, 1) := by decide +kernel
theorem dX4_text_1 : decode cX4_text 1 = .ok (.iconst 0, 1) := by decide +kernel
theorem dX4_text_2 : decode cX4_text 2 = .ok (.putfield 262, 3) := by decide +kernel
theorem dX4_text_5 : decode cX4_text 5 = .ok (.aload_n 0, 1) := by decide +kernel
theorem dX4_text_6 : decode cX4_text 6 = .ok (.iconst 0, 1) := by decide +kernel
theorem dX4_text_7 : decode cX4_text 7 = .ok (.putfield 284, 3) := by decide +kernel
theorem dX4_text_10 : decode cX4_text 10 = .ok (.aload_n 0, 1) := by decide +kernel
theorem dX4_text_11 : decode cX4_text 11 = .ok (.iconst 0, 1) := by decide +kernel
theorem dX4_text_12 : decode cX4_text 12 = .ok (.putfield 294, 3) := by decide +kernel
theorem dX4_text_15 : decode cX4_text 15 = .ok (.aload_n 0, 1) := by decide +kernel
theorem dX4_text_16 : decode cX4_text 16 = .ok (.aload_n 0, 1) := by decide +kernel
theorem dX4_text_17 : decode cX4_text 17 = .ok (.getfield 9, 3) := by decide +kernel
theorem dX4_text_20 : decode cX4_text 20 = .ok (.iconst 2, 1) := by decide +kernel
theorem dX4_text_21 : decode cX4_text 21 = .ok (.iaload, 1) := by decide +kernel
theorem dX4_text_22 : decode cX4_text 22 = .ok (.putfield 304, 3) := by decide +kernel
theorem dX4_text_25 : decode cX4_text 25 = .ok (.aload_n 0, 1) := by decide +kernel
theorem dX4_text_26 : decode cX4_text 26 = .ok (.invokevirtual 287, 3) := by decide +kernel
theorem dX4_text_29 : decode cX4_text 29 = .ok (.aload_n 0, 1) := by decide +kernel
theorem dX4_text_30 : decode cX4_text 30 = .ok (.invokevirtual 330, 3) := by decide +kernel
theorem dX4_text_33 : decode cX4_text 33 = .ok (.aload_n 0, 1) := by decide +kernel
theorem dX4_text_34 : decode cX4_text 34 = .ok (.getfield 284, 3) := by decide +kernel
theorem dX4_text_37 : decode cX4_text 37 = .ok (.ifCond .ne 37, 3) := by decide +kernel
theorem dX4_text_40 : decode cX4_text 40 = .ok (.aload_n 0, 1) := by decide +kernel
theorem dX4_text_41 : decode cX4_text 41 = .ok (.getfield 274, 3) := by decide +kernel
theorem dX4_text_44 : decode cX4_text 44 = .ok (.iconst 3, 1) := by decide +kernel
theorem dX4_text_45 : decode cX4_text 45 = .ok (.if_icmp .ne 29, 3) := by decide +kernel
theorem dX4_text_48 : decode cX4_text 48 = .ok (.aload_n 0, 1) := by decide +kernel
theorem dX4_text_49 : decode cX4_text 49 = .ok (.getfield 31, 3) := by decide +kernel
theorem dX4_text_52 : decode cX4_text 52 = .ok (.aload_n 0, 1) := by decide +kernel
theorem dX4_text_53 : decode cX4_text 53 = .ok (.getfield 265, 3) := by decide +kernel
theorem dX4_text_56 : decode cX4_text 56 = .ok (.iaload, 1) := by decide +kernel
theorem dX4_text_57 : decode cX4_text 57 = .ok (.bipush 59, 2) := by decide +kernel
theorem dX4_text_59 : decode cX4_text 59 = .ok (.if_icmp .ne 15, 3) := by decide +kernel
theorem dX4_text_62 : decode cX4_text 62 = .ok (.aload_n 0, 1) := by decide +kernel
theorem dX4_text_63 : decode cX4_text 63 = .ok (.iconst 1, 1) := by decide +kernel
theorem dX4_text_64 : decode cX4_text 64 = .ok (.invokevirtual 290, 3) := by decide +kernel
theorem dX4_text_67 : decode cX4_text 67 = .ok (.aload_n 0, 1) := by decide +kernel
theorem dX4_text_68 : decode cX4_text 68 = .ok (.invokevirtual 330, 3) := by decide +kernel
theorem dX4_text_71 : decode cX4_text 71 = .ok (.goto (-38), 3) := by decide +kernel
theorem dX4_text_74 : decode cX4_text 74 = .ok (.aload_n 0, 1) := by decide +kernel
theorem dX4_text_75 : decode cX4_text 75 = .ok (.aload_n 0, 1) := by decide +kernel
theorem dX4_text_76 : decode cX4_text 76 = .ok (.getfield 274, 3) := by decide +kernel
theorem dX4_text_79 : decode cX4_text 79 = .ok (.ifCond .ne 7, 3) := by decide +kernel
theorem dX4_text_82 : decode cX4_text 82 = .ok (.iconst 1, 1) := by decide +kernel
theorem dX4_text_83 : decode cX4_text 83 = .ok (.goto 4, 3) := by decide +kernel
theorem dX4_text_86 : decode cX4_text 86 = .ok (.iconst 0, 1) := by decide +kernel
theorem dX4_text_87 : decode cX4_text 87 = .ok (.invokevirtual 290, 3) := by decide +kernel
theorem dX4_text_90 : decode cX4_text 90 = .ok (.aload_n 0, 1) := by decide +kernel
theorem dX4_text_91 : decode cX4_text 91 = .ok (.iconst 0, 1) := by decide +kernel
theorem dX4_text_92 : decode cX4_text 92 = .ok (.putfield 258, 3) := by decide +kernel
theorem dX4_text_95 : decode cX4_text 95 = .ok (.aload_n 0, 1) := by decide +kernel
theorem dX4_text_96 : decode cX4_text 96 = .ok (.getfield 284, 3) := by decide +kernel
theorem dX4_text_99 : decode cX4_text 99 = .ok (.ifCond .eq 10, 3) := by decide +kernel
theorem dX4_text_102 : decode cX4_text 102 = .ok (.iconst (-1), 1) := by decide +kernel
theorem dX4_text_103 : decode cX4_text 103 = .ok (.aload_n 0, 1) := by decide +kernel
theorem dX4_text_104 : decode cX4_text 104 = .ok (.getfield 265, 3) := by decide +kernel
theorem dX4_text_107 : decode cX4_text 107 = .ok (.isub, 1) := by decide +kernel
theorem dX4_text_108 : decode cX4_text 108 = .ok (.ireturn, 1) := by decide +kernel
theorem dX4_text_109 : decode cX4_text 109 = .ok (.iconst 0, 1) := by decide +kernel
theorem dX4_text_110 : decode cX4_text 110 = .ok (.istore_n 1, 1) := by decide +kernel
theorem dX4_text_111 : decode cX4_text 111 = .ok (.iconst 0, 1) := by decide +kernel
theorem dX4_text_112 : decode cX4_text 112 = .ok (.istore_n 2, 1) := by decide +kernel
theorem dX4_text_113 : decode cX4_text 113 = .ok (.iload_n 2, 1) := by decide +kernel
theorem dX4_text_114 : decode cX4_text 114 = .ok (.aload_n 0, 1) := by decide +kernel
theorem dX4_text_115 : decode cX4_text 115 = .ok (.getfield 294, 3) := by decide +kernel
theorem dX4_text_118 : decode cX4_text 118 = .ok (.if_icmp .ge 28, 3) := by decide +kernel
theorem dX4_text_121 : decode cX4_text 121 = .ok (.iload_n 1, 1) := by decide +kernel
theorem dX4_text_122 : decode cX4_text 122 = .ok (.aload_n 0, 1) := by decide +kernel
theorem dX4_text_123 : decode cX4_text 123 = .ok (.iconst 4, 1) := by decide +kernel
theorem dX4_text_124 : decode cX4_text 124 = .ok (.iload_n 2, 1) := by decide +kernel
theorem dX4_text_125 : decode cX4_text 125 = .ok (.imul, 1) := by decide +kernel
theorem dX4_text_126 : decode cX4_text 126 = .ok (.invokevirtual 333, 3) := by decide +kernel
theorem dX4_text_129 : decode cX4_text 129 = .ok (.iconst (-1), 1) := by decide +kernel
theorem dX4_text_130 : decode cX4_text 130 = .ok (.if_icmp .ge 7, 3) := by decide +kernel
theorem dX4_text_133 : decode cX4_text 133 = .ok (.iconst 0, 1) := by decide +kernel
theorem dX4_text_134 : decode cX4_text 134 = .ok (.goto 4, 3) := by decide +kernel
theorem dX4_text_137 : decode cX4_text 137 = .ok (.iconst 1, 1) := by decide +kernel
theorem dX4_text_138 : decode cX4_text 138 = .ok (.iadd, 1) := by decide +kernel
theorem dX4_text_139 : decode cX4_text 139 = .ok (.istore_n 1, 1) := by decide +kernel
theorem dX4_text_140 : decode cX4_text 140 = .ok (.iinc 2 1, 3) := by decide +kernel
theorem dX4_text_143 : decode cX4_text 143 = .ok (.goto (-30), 3) := by decide +kernel
theorem dX4_text_146 : decode cX4_text 146 = .ok (.iload_n 1, 1) := by decide +kernel
theorem dX4_text_147 : decode cX4_text 147 = .ok (.ireturn, 1) := by decide +kernel
theorem dX4_isSpot_0 : decode cX4_isSpot 0 = .ok (.iload_n 0, 1) := by decide +kernel
theorem dX4_isSpot_1 : decode cX4_isSpot 1 = .ok (.iconst 0, 1) := by decide +kernel
theorem dX4_isSpot_2 : decode cX4_isSpot 2 = .ok (.bipush 9, 2) := by decide +kernel
theorem dX4_isSpot_4 : decode cX4_isSpot 4 = .ok (.invokestatic 74, 3) := by decide +kernel
theorem dX4_isSpot_7 : decode cX4_isSpot 7 = .ok (.ireturn, 1) := by decide +kernel
theorem dX4_hold_0 : decode cX4_hold 0 = .ok (.iload_n 1, 1) := by decide +kernel
theorem dX4_hold_1 : decode cX4_hold 1 = .ok (.invokestatic 336, 3) := by decide +kernel
theorem dX4_hold_4 : decode cX4_hold 4 = .ok (.ifCond .eq 16, 3) := by decide +kernel
theorem dX4_hold_7 : decode cX4_hold 7 = .ok (.iload_n 2, 1) := by decide +kernel
theorem dX4_hold_8 : decode cX4_hold 8 = .ok (.iconst (-1), 1) := by decide +kernel
theorem dX4_hold_9 : decode cX4_hold 9 = .ok (.if_icmp .eq 18, 3) := by decide +kernel
theorem dX4_hold_12 : decode cX4_hold 12 = .ok (.aload_n 0, 1) := by decide +kernel
theorem dX4_hold_13 : decode cX4_hold 13 = .ok (.iload_n 2, 1) := by decide +kernel
theorem dX4_hold_14 : decode cX4_hold 14 = .ok (.invokevirtual 141, 3) := by decide +kernel
theorem dX4_hold_17 : decode cX4_hold 17 = .ok (.ifCond .ne 10, 3) := by decide +kernel
theorem dX4_hold_20 : decode cX4_hold 20 = .ok (.aload_n 0, 1) := by decide +kernel
theorem dX4_hold_21 : decode cX4_hold 21 = .ok (.ldc 69, 2) := by decide +kernel
theorem dX4_hold_23 : decode cX4_hold 23 = .ok (.invokevirtual 88, 3) := by decide +kernel
theorem dX4_hold_26 : decode cX4_hold 26 = .ok (.ireturn, 1) := by decide +kernel
theorem dX4_hold_27 : decode cX4_hold 27 = .ok (.aload_n 0, 1) := by decide +kernel
theorem dX4_hold_28 : decode cX4_hold 28 = .ok (.getfield 9, 3) := by decide +kernel
theorem dX4_hold_31 : decode cX4_hold 31 = .ok (.iconst 4, 1) := by decide +kernel
theorem dX4_hold_32 : decode cX4_hold 32 = .ok (.iload_n 1, 1) := by decide +kernel
theorem dX4_hold_33 : decode cX4_hold 33 = .ok (.iadd, 1) := by decide +kernel
theorem dX4_hold_34 : decode cX4_hold 34 = .ok (.iload_n 2, 1) := by decide +kernel
theorem dX4_hold_35 : decode cX4_hold 35 = .ok (.iastore, 1) := by decide +kernel
theorem dX4_hold_36 : decode cX4_hold 36 = .ok (.iconst 1, 1) := by decide +kernel
theorem dX4_hold_37 : decode cX4_hold 37 = .ok (.ireturn, 1) := by decide +kernel
theorem dX4_as_0 : decode cX4_as 0 = .ok (.iload_n 1, 1) := by decide +kernel
theorem dX4_as_1 : decode cX4_as 1 = .ok (.invokestatic 336, 3) := by decide +kernel
theorem dX4_as_4 : decode cX4_as 4 = .ok (.ifCond .eq 10, 3) := by decide +kernel
theorem dX4_as_7 : decode cX4_as 7 = .ok (.iload_n 2, 1) := by decide +kernel
theorem dX4_as_8 : decode cX4_as 8 = .ok (.invokestatic 104, 3) := by decide +kernel
theorem dX4_as_11 : decode cX4_as 11 = .ok (.ifCond .ne 10, 3) := by decide +kernel
theorem dX4_as_14 : decode cX4_as 14 = .ok (.aload_n 0, 1) := by decide +kernel
theorem dX4_as_15 : decode cX4_as 15 = .ok (.ldc 69, 2) := by decide +kernel
theorem dX4_as_17 : decode cX4_as 17 = .ok (.invokevirtual 88, 3) := by decide +kernel
theorem dX4_as_20 : decode cX4_as 20 = .ok (.ireturn, 1) := by decide +kernel
theorem dX4_as_21 : decode cX4_as 21 = .ok (.aload_n 0, 1) := by decide +kernel
theorem dX4_as_22 : decode cX4_as 22 = .ok (.getfield 9, 3) := by decide +kernel
theorem dX4_as_25 : decode cX4_as 25 = .ok (.iconst 4, 1) := by decide +kernel
theorem dX4_as_26 : decode cX4_as 26 = .ok (.iload_n 1, 1) := by decide +kernel
theorem dX4_as_27 : decode cX4_as 27 = .ok (.iadd, 1) := by decide +kernel
theorem dX4_as_28 : decode cX4_as 28 = .ok (.iaload, 1) := by decide +kernel
theorem dX4_as_29 : decode cX4_as 29 = .ok (.istore_n 3, 1) := by decide +kernel
theorem dX4_as_30 : decode cX4_as 30 = .ok (.iload_n 3, 1) := by decide +kernel
theorem dX4_as_31 : decode cX4_as 31 = .ok (.ifCond .ge 10, 3) := by decide +kernel
theorem dX4_as_34 : decode cX4_as 34 = .ok (.aload_n 0, 1) := by decide +kernel
theorem dX4_as_35 : decode cX4_as 35 = .ok (.ldc 214, 2) := by decide +kernel
theorem dX4_as_37 : decode cX4_as 37 = .ok (.invokevirtual 88, 3) := by decide +kernel
theorem dX4_as_40 : decode cX4_as 40 = .ok (.ireturn, 1) := by decide +kernel
theorem dX4_as_41 : decode cX4_as 41 = .ok (.aload_n 0, 1) := by decide +kernel
theorem dX4_as_42 : decode cX4_as 42 = .ok (.iload_n 3, 1) := by decide +kernel
theorem dX4_as_43 : decode cX4_as 43 = .ok (.iconst 0, 1) := by decide +kernel
theorem dX4_as_44 : decode cX4_as 44 = .ok (.invokevirtual 101, 3) := by decide +kernel
theorem dX4_as_47 : decode cX4_as 47 = .ok (.iload_n 2, 1) := by decide +kernel
theorem dX4_as_48 : decode cX4_as 48 = .ok (.invokestatic 118, 3) := by decide +kernel
theorem dX4_as_51 : decode cX4_as 51 = .ok (.ifCond .eq 7, 3) := by decide +kernel
theorem dX4_as_54 : decode cX4_as 54 = .ok (.iload_n 3, 1) := by decide +kernel
theorem dX4_as_55 : decode cX4_as 55 = .ok (.goto 10, 3) := by decide +kernel
theorem dX4_as_58 : decode cX4_as 58 = .ok (.aload_n 0, 1) := by decide +kernel
theorem dX4_as_59 : decode cX4_as 59 = .ok (.ldc_w 339, 3) := by decide +kernel
theorem dX4_as_62 : decode cX4_as 62 = .ok (.invokevirtual 88, 3) := by decide +kernel
theorem dX4_as_65 : decode cX4_as 65 = .ok (.ireturn, 1) := by decide +kernel
theorem dX4_isSheet_0 : decode cX4_isSheet 0 = .ok (.iload_n 0, 1) := by decide +kernel
theorem dX4_isSheet_1 : decode cX4_isSheet 1 = .ok (.iconst 0, 1) := by decide +kernel
theorem dX4_isSheet_2 : decode cX4_isSheet 2 = .ok (.iconst 3, 1) := by decide +kernel
theorem dX4_isSheet_3 : decode cX4_isSheet 3 = .ok (.invokestatic 74, 3) := by decide +kernel
theorem dX4_isSheet_6 : decode cX4_isSheet 6 = .ok (.ireturn, 1) := by decide +kernel
theorem dX4_cutTo_0 : decode cX4_cutTo 0 = .ok (.iload_n 1, 1) := by decide +kernel
theorem dX4_cutTo_1 : decode cX4_cutTo 1 = .ok (.bipush 8, 2) := by decide +kernel
theorem dX4_cutTo_3 : decode cX4_cutTo 3 = .ok (.if_icmp .ne 8, 3) := by decide +kernel
theorem dX4_cutTo_6 : decode cX4_cutTo 6 = .ok (.iload_n 0, 1) := by decide +kernel
theorem dX4_cutTo_7 : decode cX4_cutTo 7 = .ok (.i2b, 1) := by decide +kernel
theorem dX4_cutTo_8 : decode cX4_cutTo 8 = .ok (.goto 15, 3) := by decide +kernel
theorem dX4_cutTo_11 : decode cX4_cutTo 11 = .ok (.iload_n 1, 1) := by decide +kernel
theorem dX4_cutTo_12 : decode cX4_cutTo 12 = .ok (.bipush 16, 2) := by decide +kernel
theorem dX4_cutTo_14 : decode cX4_cutTo 14 = .ok (.if_icmp .ne 8, 3) := by decide +kernel
theorem dX4_cutTo_17 : decode cX4_cutTo 17 = .ok (.iload_n 0, 1) := by decide +kernel
theorem dX4_cutTo_18 : decode cX4_cutTo 18 = .ok (.i2s, 1) := by decide +kernel
theorem dX4_cutTo_19 : decode cX4_cutTo 19 = .ok (.goto 4, 3) := by decide +kernel
theorem dX4_cutTo_22 : decode cX4_cutTo 22 = .ok (.iload_n 0, 1) := by decide +kernel
theorem dX4_cutTo_23 : decode cX4_cutTo 23 = .ok (.ireturn, 1) := by decide +kernel
theorem dX4_sheet_0 : decode cX4_sheet 0 = .ok (.iload_n 1, 1) := by decide +kernel
theorem dX4_sheet_1 : decode cX4_sheet 1 = .ok (.invokestatic 211, 3) := by decide +kernel
theorem dX4_sheet_4 : decode cX4_sheet 4 = .ok (.ifCond .eq 25, 3) := by decide +kernel
theorem dX4_sheet_7 : decode cX4_sheet 7 = .ok (.iload_n 2, 1) := by decide +kernel
theorem dX4_sheet_8 : decode cX4_sheet 8 = .ok (.ifCond .eq 28, 3) := by decide +kernel
theorem dX4_sheet_11 : decode cX4_sheet 11 = .ok (.iload_n 2, 1) := by decide +kernel
theorem dX4_sheet_12 : decode cX4_sheet 12 = .ok (.bipush 8, 2) := by decide +kernel
theorem dX4_sheet_14 : decode cX4_sheet 14 = .ok (.if_icmp .eq 22, 3) := by decide +kernel
theorem dX4_sheet_17 : decode cX4_sheet 17 = .ok (.iload_n 2, 1) := by decide +kernel
theorem dX4_sheet_18 : decode cX4_sheet 18 = .ok (.bipush 16, 2) := by decide +kernel
theorem dX4_sheet_20 : decode cX4_sheet 20 = .ok (.if_icmp .eq 16, 3) := by decide +kernel
theorem dX4_sheet_23 : decode cX4_sheet 23 = .ok (.iload_n 2, 1) := by decide +kernel
theorem dX4_sheet_24 : decode cX4_sheet 24 = .ok (.bipush 32, 2) := by decide +kernel
theorem dX4_sheet_26 : decode cX4_sheet 26 = .ok (.if_icmp .eq 10, 3) := by decide +kernel
theorem dX4_sheet_29 : decode cX4_sheet 29 = .ok (.aload_n 0, 1) := by decide +kernel
theorem dX4_sheet_30 : decode cX4_sheet 30 = .ok (.ldc 69, 2) := by decide +kernel
theorem dX4_sheet_32 : decode cX4_sheet 32 = .ok (.invokevirtual 88, 3) := by decide +kernel
theorem dX4_sheet_35 : decode cX4_sheet 35 = .ok (.ireturn, 1) := by decide +kernel
theorem dX4_sheet_36 : decode cX4_sheet 36 = .ok (.iload_n 3, 1) := by decide +kernel
theorem dX4_sheet_37 : decode cX4_sheet 37 = .ok (.ifCond .ge 11, 3) := by decide +kernel
theorem dX4_sheet_40 : decode cX4_sheet 40 = .ok (.aload_n 0, 1) := by decide +kernel
theorem dX4_sheet_41 : decode cX4_sheet 41 = .ok (.ldc_w 340, 3) := by decide +kernel
theorem dX4_sheet_44 : decode cX4_sheet 44 = .ok (.invokevirtual 88, 3) := by decide +kernel
theorem dX4_sheet_47 : decode cX4_sheet 47 = .ok (.ireturn, 1) := by decide +kernel
theorem dX4_sheet_48 : decode cX4_sheet 48 = .ok (.iload_n 3, 1) := by decide +kernel
theorem dX4_sheet_49 : decode cX4_sheet 49 = .ok (.bipush 40, 2) := by decide +kernel
theorem dX4_sheet_51 : decode cX4_sheet 51 = .ok (.if_icmp .le 10, 3) := by decide +kernel
theorem dX4_sheet_54 : decode cX4_sheet 54 = .ok (.aload_n 0, 1) := by decide +kernel
theorem dX4_sheet_55 : decode cX4_sheet 55 = .ok (.ldc 69, 2) := by decide +kernel
theorem dX4_sheet_57 : decode cX4_sheet 57 = .ok (.invokevirtual 88, 3) := by decide +kernel
theorem dX4_sheet_60 : decode cX4_sheet 60 = .ok (.ireturn, 1) := by decide +kernel
theorem dX4_sheet_61 : decode cX4_sheet 61 = .ok (.aload_n 0, 1) := by decide +kernel
theorem dX4_sheet_62 : decode cX4_sheet 62 = .ok (.getfield 57, 3) := by decide +kernel
theorem dX4_sheet_65 : decode cX4_sheet 65 = .ok (.iload_n 1, 1) := by decide +kernel
theorem dX4_sheet_66 : decode cX4_sheet 66 = .ok (.iload_n 2, 1) := by decide +kernel
theorem dX4_sheet_67 : decode cX4_sheet 67 = .ok (.iastore, 1) := by decide +kernel
theorem dX4_sheet_68 : decode cX4_sheet 68 = .ok (.aload_n 0, 1) := by decide +kernel
theorem dX4_sheet_69 : decode cX4_sheet 69 = .ok (.getfield 60, 3) := by decide +kernel
theorem dX4_sheet_72 : decode cX4_sheet 72 = .ok (.iload_n 1, 1) := by decide +kernel
theorem dX4_sheet_73 : decode cX4_sheet 73 = .ok (.iload_n 2, 1) := by decide +kernel
theorem dX4_sheet_74 : decode cX4_sheet 74 = .ok (.ifCond .ne 7, 3) := by decide +kernel
theorem dX4_sheet_77 : decode cX4_sheet 77 = .ok (.iconst 0, 1) := by decide +kernel
theorem dX4_sheet_78 : decode cX4_sheet 78 = .ok (.goto 4, 3) := by decide +kernel
theorem dX4_sheet_81 : decode cX4_sheet 81 = .ok (.iload_n 3, 1) := by decide +kernel
theorem dX4_sheet_82 : decode cX4_sheet 82 = .ok (.iastore, 1) := by decide +kernel
theorem dX4_sheet_83 : decode cX4_sheet 83 = .ok (.iconst 0, 1) := by decide +kernel
theorem dX4_sheet_84 : decode cX4_sheet 84 = .ok (.istore 4, 2) := by decide +kernel
theorem dX4_sheet_86 : decode cX4_sheet 86 = .ok (.iload 4, 2) := by decide +kernel
theorem dX4_sheet_88 : decode cX4_sheet 88 = .ok (.bipush 40, 2) := by decide +kernel
theorem dX4_sheet_90 : decode cX4_sheet 90 = .ok (.if_icmp .ge 22, 3) := by decide +kernel
theorem dX4_sheet_93 : decode cX4_sheet 93 = .ok (.aload_n 0, 1) := by decide +kernel
theorem dX4_sheet_94 : decode cX4_sheet 94 = .ok (.getfield 63, 3) := by decide +kernel
theorem dX4_sheet_97 : decode cX4_sheet 97 = .ok (.bipush 40, 2) := by decide +kernel
theorem dX4_sheet_99 : decode cX4_sheet 99 = .ok (.iload_n 1, 1) := by decide +kernel
theorem dX4_sheet_100 : decode cX4_sheet 100 = .ok (.imul, 1) := by decide +kernel
theorem dX4_sheet_101 : decode cX4_sheet 101 = .ok (.iload 4, 2) := by decide +kernel
theorem dX4_sheet_103 : decode cX4_sheet 103 = .ok (.iadd, 1) := by decide +kernel
theorem dX4_sheet_104 : decode cX4_sheet 104 = .ok (.iconst 0, 1) := by decide +kernel
theorem dX4_sheet_105 : decode cX4_sheet 105 = .ok (.iastore, 1) := by decide +kernel
theorem dX4_sheet_106 : decode cX4_sheet 106 = .ok (.iinc 4 1, 3) := by decide +kernel
theorem dX4_sheet_109 : decode cX4_sheet 109 = .ok (.goto (-23), 3) := by decide +kernel
theorem dX4_sheet_112 : decode cX4_sheet 112 = .ok (.aload_n 0, 1) := by decide +kernel
theorem dX4_sheet_113 : decode cX4_sheet 113 = .ok (.getfield 60, 3) := by decide +kernel
theorem dX4_sheet_116 : decode cX4_sheet 116 = .ok (.iload_n 1, 1) := by decide +kernel
theorem dX4_sheet_117 : decode cX4_sheet 117 = .ok (.iaload, 1) := by decide +kernel
theorem dX4_sheet_118 : decode cX4_sheet 118 = .ok (.ireturn, 1) := by decide +kernel
theorem dX4_write_0 : decode cX4_write 0 = .ok (.iload_n 1, 1) := by decide +kernel
theorem dX4_write_1 : decode cX4_write 1 = .ok (.invokestatic 211, 3) := by decide +kernel
theorem dX4_write_4 : decode cX4_write 4 = .ok (.ifCond .ne 10, 3) := by decide +kernel
theorem dX4_write_7 : decode cX4_write 7 = .ok (.aload_n 0, 1) := by decide +kernel
theorem dX4_write_8 : decode cX4_write 8 = .ok (.ldc 69, 2) := by decide +kernel
theorem dX4_write_10 : decode cX4_write 10 = .ok (.invokevirtual 88, 3) := by decide +kernel
theorem dX4_write_13 : decode cX4_write 13 = .ok (.ireturn, 1) := by decide +kernel
theorem dX4_write_14 : decode cX4_write 14 = .ok (.aload_n 0, 1) := by decide +kernel
theorem dX4_write_15 : decode cX4_write 15 = .ok (.getfield 57, 3) := by decide +kernel
theorem dX4_write_18 : decode cX4_write 18 = .ok (.iload_n 1, 1) := by decide +kernel
theorem dX4_write_19 : decode cX4_write 19 = .ok (.iaload, 1) := by decide +kernel
theorem dX4_write_20 : decode cX4_write 20 = .ok (.ifCond .ne 10, 3) := by decide +kernel
theorem dX4_write_23 : decode cX4_write 23 = .ok (.aload_n 0, 1) := by decide +kernel
theorem dX4_write_24 : decode cX4_write 24 = .ok (.ldc 214, 2) := by decide +kernel
theorem dX4_write_26 : decode cX4_write 26 = .ok (.invokevirtual 88, 3) := by decide +kernel
theorem dX4_write_29 : decode cX4_write 29 = .ok (.ireturn, 1) := by decide +kernel
theorem dX4_write_30 : decode cX4_write 30 = .ok (.iload_n 2, 1) := by decide +kernel
theorem dX4_write_31 : decode cX4_write 31 = .ok (.iconst 0, 1) := by decide +kernel
theorem dX4_write_32 : decode cX4_write 32 = .ok (.aload_n 0, 1) := by decide +kernel
theorem dX4_write_33 : decode cX4_write 33 = .ok (.getfield 60, 3) := by decide +kernel
theorem dX4_write_36 : decode cX4_write 36 = .ok (.iload_n 1, 1) := by decide +kernel
theorem dX4_write_37 : decode cX4_write 37 = .ok (.iaload, 1) := by decide +kernel
theorem dX4_write_38 : decode cX4_write 38 = .ok (.iconst 1, 1) := by decide +kernel
theorem dX4_write_39 : decode cX4_write 39 = .ok (.isub, 1) := by decide +kernel
theorem dX4_write_40 : decode cX4_write 40 = .ok (.invokestatic 74, 3) := by decide +kernel
theorem dX4_write_43 : decode cX4_write 43 = .ok (.ifCond .ne 10, 3) := by decide +kernel
theorem dX4_write_46 : decode cX4_write 46 = .ok (.aload_n 0, 1) := by decide +kernel
theorem dX4_write_47 : decode cX4_write 47 = .ok (.ldc 69, 2) := by decide +kernel
theorem dX4_write_49 : decode cX4_write 49 = .ok (.invokevirtual 88, 3) := by decide +kernel
theorem dX4_write_52 : decode cX4_write 52 = .ok (.ireturn, 1) := by decide +kernel
theorem dX4_write_53 : decode cX4_write 53 = .ok (.aload_n 0, 1) := by decide +kernel
theorem dX4_write_54 : decode cX4_write 54 = .ok (.getfield 63, 3) := by decide +kernel
theorem dX4_write_57 : decode cX4_write 57 = .ok (.bipush 40, 2) := by decide +kernel
theorem dX4_write_59 : decode cX4_write 59 = .ok (.iload_n 1, 1) := by decide +kernel
theorem dX4_write_60 : decode cX4_write 60 = .ok (.imul, 1) := by decide +kernel
theorem dX4_write_61 : decode cX4_write 61 = .ok (.iload_n 2, 1) := by decide +kernel
theorem dX4_write_62 : decode cX4_write 62 = .ok (.iadd, 1) := by decide +kernel
theorem dX4_write_63 : decode cX4_write 63 = .ok (.iload_n 3, 1) := by decide +kernel
theorem dX4_write_64 : decode cX4_write 64 = .ok (.aload_n 0, 1) := by decide +kernel
theorem dX4_write_65 : decode cX4_write 65 = .ok (.getfield 57, 3) := by decide +kernel
theorem dX4_write_68 : decode cX4_write 68 = .ok (.iload_n 1, 1) := by decide +kernel
theorem dX4_write_69 : decode cX4_write 69 = .ok (.iaload, 1) := by decide +kernel
theorem dX4_write_70 : decode cX4_write 70 = .ok (.invokestatic 341, 3) := by decide +kernel
theorem dX4_write_73 : decode cX4_write 73 = .ok (.iastore, 1) := by decide +kernel
theorem dX4_write_74 : decode cX4_write 74 = .ok (.iconst 1, 1) := by decide +kernel
theorem dX4_write_75 : decode cX4_write 75 = .ok (.ireturn, 1) := by decide +kernel
theorem dX4_copy_0 : decode cX4_copy 0 = .ok (.iload_n 1, 1) := by decide +kernel
theorem dX4_copy_1 : decode cX4_copy 1 = .ok (.invokestatic 211, 3) := by decide +kernel
theorem dX4_copy_4 : decode cX4_copy 4 = .ok (.ifCond .eq 10, 3) := by decide +kernel
theorem dX4_copy_7 : decode cX4_copy 7 = .ok (.iload_n 3, 1) := by decide +kernel
theorem dX4_copy_8 : decode cX4_copy 8 = .ok (.invokestatic 211, 3) := by decide +kernel
theorem dX4_copy_11 : decode cX4_copy 11 = .ok (.ifCond .ne 10, 3) := by decide +kernel
theorem dX4_copy_14 : decode cX4_copy 14 = .ok (.aload_n 0, 1) := by decide +kernel
theorem dX4_copy_15 : decode cX4_copy 15 = .ok (.ldc 69, 2) := by decide +kernel
theorem dX4_copy_17 : decode cX4_copy 17 = .ok (.invokevirtual 88, 3) := by decide +kernel
theorem dX4_copy_20 : decode cX4_copy 20 = .ok (.ireturn, 1) := by decide +kernel
theorem dX4_copy_21 : decode cX4_copy 21 = .ok (.aload_n 0, 1) := by decide +kernel
theorem dX4_copy_22 : decode cX4_copy 22 = .ok (.getfield 57, 3) := by decide +kernel
theorem dX4_copy_25 : decode cX4_copy 25 = .ok (.iload_n 1, 1) := by decide +kernel
theorem dX4_copy_26 : decode cX4_copy 26 = .ok (.iaload, 1) := by decide +kernel
theorem dX4_copy_27 : decode cX4_copy 27 = .ok (.ifCond .eq 12, 3) := by decide +kernel
theorem dX4_copy_30 : decode cX4_copy 30 = .ok (.aload_n 0, 1) := by decide +kernel
theorem dX4_copy_31 : decode cX4_copy 31 = .ok (.getfield 57, 3) := by decide +kernel
theorem dX4_copy_34 : decode cX4_copy 34 = .ok (.iload_n 3, 1) := by decide +kernel
theorem dX4_copy_35 : decode cX4_copy 35 = .ok (.iaload, 1) := by decide +kernel
theorem dX4_copy_36 : decode cX4_copy 36 = .ok (.ifCond .ne 10, 3) := by decide +kernel
theorem dX4_copy_39 : decode cX4_copy 39 = .ok (.aload_n 0, 1) := by decide +kernel
theorem dX4_copy_40 : decode cX4_copy 40 = .ok (.ldc 214, 2) := by decide +kernel
theorem dX4_copy_42 : decode cX4_copy 42 = .ok (.invokevirtual 88, 3) := by decide +kernel
theorem dX4_copy_45 : decode cX4_copy 45 = .ok (.ireturn, 1) := by decide +kernel
theorem dX4_copy_46 : decode cX4_copy 46 = .ok (.aload_n 0, 1) := by decide +kernel
theorem dX4_copy_47 : decode cX4_copy 47 = .ok (.getfield 57, 3) := by decide +kernel
theorem dX4_copy_50 : decode cX4_copy 50 = .ok (.iload_n 1, 1) := by decide +kernel
theorem dX4_copy_51 : decode cX4_copy 51 = .ok (.iaload, 1) := by decide +kernel
theorem dX4_copy_52 : decode cX4_copy 52 = .ok (.aload_n 0, 1) := by decide +kernel
theorem dX4_copy_53 : decode cX4_copy 53 = .ok (.getfield 57, 3) := by decide +kernel
theorem dX4_copy_56 : decode cX4_copy 56 = .ok (.iload_n 3, 1) := by decide +kernel
theorem dX4_copy_57 : decode cX4_copy 57 = .ok (.iaload, 1) := by decide +kernel
theorem dX4_copy_58 : decode cX4_copy 58 = .ok (.if_icmp .eq 11, 3) := by decide +kernel
theorem dX4_copy_61 : decode cX4_copy 61 = .ok (.aload_n 0, 1) := by decide +kernel
theorem dX4_copy_62 : decode cX4_copy 62 = .ok (.ldc_w 339, 3) := by decide +kernel
theorem dX4_copy_65 : decode cX4_copy 65 = .ok (.invokevirtual 88, 3) := by decide +kernel
theorem dX4_copy_68 : decode cX4_copy 68 = .ok (.ireturn, 1) := by decide +kernel
theorem dX4_copy_69 : decode cX4_copy 69 = .ok (.iload_n 2, 1) := by decide +kernel
theorem dX4_copy_70 : decode cX4_copy 70 = .ok (.ifCond .lt 48, 3) := by decide +kernel
theorem dX4_copy_73 : decode cX4_copy 73 = .ok (.iload 4, 2) := by decide +kernel
theorem dX4_copy_75 : decode cX4_copy 75 = .ok (.ifCond .lt 43, 3) := by decide +kernel
theorem dX4_copy_78 : decode cX4_copy 78 = .ok (.iload 5, 2) := by decide +kernel
theorem dX4_copy_80 : decode cX4_copy 80 = .ok (.ifCond .lt 38, 3) := by decide +kernel
theorem dX4_copy_83 : decode cX4_copy 83 = .ok (.iload_n 2, 1) := by decide +kernel
theorem dX4_copy_84 : decode cX4_copy 84 = .ok (.i2l, 1) := by decide +kernel
theorem dX4_copy_85 : decode cX4_copy 85 = .ok (.iload 5, 2) := by decide +kernel
theorem dX4_copy_87 : decode cX4_copy 87 = .ok (.i2l, 1) := by decide +kernel
theorem dX4_copy_88 : decode cX4_copy 88 = .ok (.ladd, 1) := by decide +kernel
theorem dX4_copy_89 : decode cX4_copy 89 = .ok (.aload_n 0, 1) := by decide +kernel
theorem dX4_copy_90 : decode cX4_copy 90 = .ok (.getfield 60, 3) := by decide +kernel
theorem dX4_copy_93 : decode cX4_copy 93 = .ok (.iload_n 1, 1) := by decide +kernel
theorem dX4_copy_94 : decode cX4_copy 94 = .ok (.iaload, 1) := by decide +kernel
theorem dX4_copy_95 : decode cX4_copy 95 = .ok (.i2l, 1) := by decide +kernel
theorem dX4_copy_96 : decode cX4_copy 96 = .ok (.lcmp, 1) := by decide +kernel
theorem dX4_copy_97 : decode cX4_copy 97 = .ok (.ifCond .gt 21, 3) := by decide +kernel
theorem dX4_copy_100 : decode cX4_copy 100 = .ok (.iload 4, 2) := by decide +kernel
theorem dX4_copy_102 : decode cX4_copy 102 = .ok (.i2l, 1) := by decide +kernel
theorem dX4_copy_103 : decode cX4_copy 103 = .ok (.iload 5, 2) := by decide +kernel
theorem dX4_copy_105 : decode cX4_copy 105 = .ok (.i2l, 1) := by decide +kernel
theorem dX4_copy_106 : decode cX4_copy 106 = .ok (.ladd, 1) := by decide +kernel
theorem dX4_copy_107 : decode cX4_copy 107 = .ok (.aload_n 0, 1) := by decide +kernel
theorem dX4_copy_108 : decode cX4_copy 108 = .ok (.getfield 60, 3) := by decide +kernel
theorem dX4_copy_111 : decode cX4_copy 111 = .ok (.iload_n 3, 1) := by decide +kernel
theorem dX4_copy_112 : decode cX4_copy 112 = .ok (.iaload, 1) := by decide +kernel
theorem dX4_copy_113 : decode cX4_copy 113 = .ok (.i2l, 1) := by decide +kernel
theorem dX4_copy_114 : decode cX4_copy 114 = .ok (.lcmp, 1) := by decide +kernel
theorem dX4_copy_115 : decode cX4_copy 115 = .ok (.ifCond .le 10, 3) := by decide +kernel
theorem dX4_copy_118 : decode cX4_copy 118 = .ok (.aload_n 0, 1) := by decide +kernel
theorem dX4_copy_119 : decode cX4_copy 119 = .ok (.ldc 69, 2) := by decide +kernel
theorem dX4_copy_121 : decode cX4_copy 121 = .ok (.invokevirtual 88, 3) := by decide +kernel
theorem dX4_copy_124 : decode cX4_copy 124 = .ok (.ireturn, 1) := by decide +kernel
theorem dX4_copy_125 : decode cX4_copy 125 = .ok (.iconst 0, 1) := by decide +kernel
theorem dX4_copy_126 : decode cX4_copy 126 = .ok (.istore 6, 2) := by decide +kernel
theorem dX4_copy_128 : decode cX4_copy 128 = .ok (.iload 6, 2) := by decide +kernel
theorem dX4_copy_130 : decode cX4_copy 130 = .ok (.iload 5, 2) := by decide +kernel
theorem dX4_copy_132 : decode cX4_copy 132 = .ok (.if_icmp .ge 30, 3) := by decide +kernel
theorem dX4_copy_135 : decode cX4_copy 135 = .ok (.aload_n 0, 1) := by decide +kernel
theorem dX4_copy_136 : decode cX4_copy 136 = .ok (.getfield 66, 3) := by decide +kernel
theorem dX4_copy_139 : decode cX4_copy 139 = .ok (.iload 6, 2) := by decide +kernel
theorem dX4_copy_141 : decode cX4_copy 141 = .ok (.aload_n 0, 1) := by decide +kernel
theorem dX4_copy_142 : decode cX4_copy 142 = .ok (.getfield 63, 3) := by decide +kernel
theorem dX4_copy_145 : decode cX4_copy 145 = .ok (.bipush 40, 2) := by decide +kernel
theorem dX4_copy_147 : decode cX4_copy 147 = .ok (.iload_n 1, 1) := by decide +kernel
theorem dX4_copy_148 : decode cX4_copy 148 = .ok (.imul, 1) := by decide +kernel
theorem dX4_copy_149 : decode cX4_copy 149 = .ok (.iload_n 2, 1) := by decide +kernel
theorem dX4_copy_150 : decode cX4_copy 150 = .ok (.iadd, 1) := by decide +kernel
theorem dX4_copy_151 : decode cX4_copy 151 = .ok (.iload 6, 2) := by decide +kernel
theorem dX4_copy_153 : decode cX4_copy 153 = .ok (.iadd, 1) := by decide +kernel
theorem dX4_copy_154 : decode cX4_copy 154 = .ok (.iaload, 1) := by decide +kernel
theorem dX4_copy_155 : decode cX4_copy 155 = .ok (.iastore, 1) := by decide +kernel
theorem dX4_copy_156 : decode cX4_copy 156 = .ok (.iinc 6 1, 3) := by decide +kernel
theorem dX4_copy_159 : decode cX4_copy 159 = .ok (.goto (-31), 3) := by decide +kernel
theorem dX4_copy_162 : decode cX4_copy 162 = .ok (.iconst 0, 1) := by decide +kernel
theorem dX4_copy_163 : decode cX4_copy 163 = .ok (.istore 6, 2) := by decide +kernel
theorem dX4_copy_165 : decode cX4_copy 165 = .ok (.iload 6, 2) := by decide +kernel
theorem dX4_copy_167 : decode cX4_copy 167 = .ok (.iload 5, 2) := by decide +kernel
theorem dX4_copy_169 : decode cX4_copy 169 = .ok (.if_icmp .ge 31, 3) := by decide +kernel
theorem dX4_copy_172 : decode cX4_copy 172 = .ok (.aload_n 0, 1) := by decide +kernel
theorem dX4_copy_173 : decode cX4_copy 173 = .ok (.getfield 63, 3) := by decide +kernel
theorem dX4_copy_176 : decode cX4_copy 176 = .ok (.bipush 40, 2) := by decide +kernel
theorem dX4_copy_178 : decode cX4_copy 178 = .ok (.iload_n 3, 1) := by decide +kernel
theorem dX4_copy_179 : decode cX4_copy 179 = .ok (.imul, 1) := by decide +kernel
theorem dX4_copy_180 : decode cX4_copy 180 = .ok (.iload 4, 2) := by decide +kernel
theorem dX4_copy_182 : decode cX4_copy 182 = .ok (.iadd, 1) := by decide +kernel
theorem dX4_copy_183 : decode cX4_copy 183 = .ok (.iload 6, 2) := by decide +kernel
theorem dX4_copy_185 : decode cX4_copy 185 = .ok (.iadd, 1) := by decide +kernel
theorem dX4_copy_186 : decode cX4_copy 186 = .ok (.aload_n 0, 1) := by decide +kernel
theorem dX4_copy_187 : decode cX4_copy 187 = .ok (.getfield 66, 3) := by decide +kernel
theorem dX4_copy_190 : decode cX4_copy 190 = .ok (.iload 6, 2) := by decide +kernel
theorem dX4_copy_192 : decode cX4_copy 192 = .ok (.iaload, 1) := by decide +kernel
theorem dX4_copy_193 : decode cX4_copy 193 = .ok (.iastore, 1) := by decide +kernel
theorem dX4_copy_194 : decode cX4_copy 194 = .ok (.iinc 6 1, 3) := by decide +kernel
theorem dX4_copy_197 : decode cX4_copy 197 = .ok (.goto (-32), 3) := by decide +kernel
theorem dX4_copy_200 : decode cX4_copy 200 = .ok (.iload 5, 2) := by decide +kernel
theorem dX4_copy_202 : decode cX4_copy 202 = .ok (.ireturn, 1) := by decide +kernel
theorem dX4_load_0 : decode cX4_load 0 = .ok (.aload_n 0, 1) := by decide +kernel
theorem dX4_load_1 : decode cX4_load 1 = .ok (.iload_n 1, 1) := by decide +kernel
theorem dX4_load_2 : decode cX4_load 2 = .ok (.invokevirtual 221, 3) := by decide +kernel
theorem dX4_load_5 : decode cX4_load 5 = .ok (.ifCond .eq 13, 3) := by decide +kernel
theorem dX4_load_8 : decode cX4_load 8 = .ok (.aload_n 0, 1) := by decide +kernel
theorem dX4_load_9 : decode cX4_load 9 = .ok (.aload_n 0, 1) := by decide +kernel
theorem dX4_load_10 : decode cX4_load 10 = .ok (.iload_n 1, 1) := by decide +kernel
theorem dX4_load_11 : decode cX4_load 11 = .ok (.invokevirtual 221, 3) := by decide +kernel
theorem dX4_load_14 : decode cX4_load 14 = .ok (.invokevirtual 88, 3) := by decide +kernel
theorem dX4_load_17 : decode cX4_load 17 = .ok (.ireturn, 1) := by decide +kernel
theorem dX4_load_18 : decode cX4_load 18 = .ok (.iconst 0, 1) := by decide +kernel
theorem dX4_load_19 : decode cX4_load 19 = .ok (.istore_n 2, 1) := by decide +kernel
theorem dX4_load_20 : decode cX4_load 20 = .ok (.iload_n 2, 1) := by decide +kernel
theorem dX4_load_21 : decode cX4_load 21 = .ok (.aload_n 0, 1) := by decide +kernel
theorem dX4_load_22 : decode cX4_load 22 = .ok (.getfield 60, 3) := by decide +kernel
theorem dX4_load_25 : decode cX4_load 25 = .ok (.iload_n 1, 1) := by decide +kernel
theorem dX4_load_26 : decode cX4_load 26 = .ok (.iaload, 1) := by decide +kernel
theorem dX4_load_27 : decode cX4_load 27 = .ok (.if_icmp .ge 58, 3) := by decide +kernel
theorem dX4_load_30 : decode cX4_load 30 = .ok (.aload_n 0, 1) := by decide +kernel
theorem dX4_load_31 : decode cX4_load 31 = .ok (.iload_n 2, 1) := by decide +kernel
theorem dX4_load_32 : decode cX4_load 32 = .ok (.invokevirtual 141, 3) := by decide +kernel
theorem dX4_load_35 : decode cX4_load 35 = .ok (.ifCond .eq 50, 3) := by decide +kernel
theorem dX4_load_38 : decode cX4_load 38 = .ok (.aload_n 0, 1) := by decide +kernel
theorem dX4_load_39 : decode cX4_load 39 = .ok (.getfield 63, 3) := by decide +kernel
theorem dX4_load_42 : decode cX4_load 42 = .ok (.bipush 40, 2) := by decide +kernel
theorem dX4_load_44 : decode cX4_load 44 = .ok (.iload_n 1, 1) := by decide +kernel
theorem dX4_load_45 : decode cX4_load 45 = .ok (.imul, 1) := by decide +kernel
theorem dX4_load_46 : decode cX4_load 46 = .ok (.iload_n 2, 1) := by decide +kernel
theorem dX4_load_47 : decode cX4_load 47 = .ok (.iadd, 1) := by decide +kernel
theorem dX4_load_48 : decode cX4_load 48 = .ok (.iaload, 1) := by decide +kernel
theorem dX4_load_49 : decode cX4_load 49 = .ok (.iconst 0, 1) := by decide +kernel
theorem dX4_load_50 : decode cX4_load 50 = .ok (.bipush 11, 2) := by decide +kernel
theorem dX4_load_52 : decode cX4_load 52 = .ok (.invokestatic 74, 3) := by decide +kernel
theorem dX4_load_55 : decode cX4_load 55 = .ok (.ifCond .eq 30, 3) := by decide +kernel
theorem dX4_load_58 : decode cX4_load 58 = .ok (.aload_n 0, 1) := by decide +kernel
theorem dX4_load_59 : decode cX4_load 59 = .ok (.getfield 9, 3) := by decide +kernel
theorem dX4_load_62 : decode cX4_load 62 = .ok (.iload_n 2, 1) := by decide +kernel
theorem dX4_load_63 : decode cX4_load 63 = .ok (.iconst 2, 1) := by decide +kernel
theorem dX4_load_64 : decode cX4_load 64 = .ok (.invokestatic 98, 3) := by decide +kernel
theorem dX4_load_67 : decode cX4_load 67 = .ok (.aload_n 0, 1) := by decide +kernel
theorem dX4_load_68 : decode cX4_load 68 = .ok (.getfield 63, 3) := by decide +kernel
theorem dX4_load_71 : decode cX4_load 71 = .ok (.bipush 40, 2) := by decide +kernel
theorem dX4_load_73 : decode cX4_load 73 = .ok (.iload_n 1, 1) := by decide +kernel
theorem dX4_load_74 : decode cX4_load 74 = .ok (.imul, 1) := by decide +kernel
theorem dX4_load_75 : decode cX4_load 75 = .ok (.iload_n 2, 1) := by decide +kernel
theorem dX4_load_76 : decode cX4_load 76 = .ok (.iadd, 1) := by decide +kernel
theorem dX4_load_77 : decode cX4_load 77 = .ok (.iaload, 1) := by decide +kernel
theorem dX4_load_78 : decode cX4_load 78 = .ok (.iastore, 1) := by decide +kernel
theorem dX4_load_79 : decode cX4_load 79 = .ok (.iinc 2 1, 3) := by decide +kernel
theorem dX4_load_82 : decode cX4_load 82 = .ok (.goto (-62), 3) := by decide +kernel
theorem dX4_load_85 : decode cX4_load 85 = .ok (.iload_n 2, 1) := by decide +kernel
theorem dX4_load_86 : decode cX4_load 86 = .ok (.ireturn, 1) := by decide +kernel
theorem dX4_judge_0 : decode cX4_judge 0 = .ok (.aload_n 0, 1) := by decide +kernel
theorem dX4_judge_1 : decode cX4_judge 1 = .ok (.iload_n 1, 1) := by decide +kernel
theorem dX4_judge_2 : decode cX4_judge 2 = .ok (.invokevirtual 221, 3) := by decide +kernel
theorem dX4_judge_5 : decode cX4_judge 5 = .ok (.ifCond .eq 13, 3) := by decide +kernel
theorem dX4_judge_8 : decode cX4_judge 8 = .ok (.aload_n 0, 1) := by decide +kernel
theorem dX4_judge_9 : decode cX4_judge 9 = .ok (.aload_n 0, 1) := by decide +kernel
theorem dX4_judge_10 : decode cX4_judge 10 = .ok (.iload_n 1, 1) := by decide +kernel
theorem dX4_judge_11 : decode cX4_judge 11 = .ok (.invokevirtual 221, 3) := by decide +kernel
theorem dX4_judge_14 : decode cX4_judge 14 = .ok (.invokevirtual 88, 3) := by decide +kernel
theorem dX4_judge_17 : decode cX4_judge 17 = .ok (.ireturn, 1) := by decide +kernel
theorem dX4_judge_18 : decode cX4_judge 18 = .ok (.iconst 0, 1) := by decide +kernel
theorem dX4_judge_19 : decode cX4_judge 19 = .ok (.istore_n 2, 1) := by decide +kernel
theorem dX4_judge_20 : decode cX4_judge 20 = .ok (.iconst (-1), 1) := by decide +kernel
theorem dX4_judge_21 : decode cX4_judge 21 = .ok (.istore_n 3, 1) := by decide +kernel
theorem dX4_judge_22 : decode cX4_judge 22 = .ok (.iconst 1, 1) := by decide +kernel
theorem dX4_judge_23 : decode cX4_judge 23 = .ok (.istore 4, 2) := by decide +kernel
theorem dX4_judge_25 : decode cX4_judge 25 = .ok (.iload_n 2, 1) := by decide +kernel
theorem dX4_judge_26 : decode cX4_judge 26 = .ok (.aload_n 0, 1) := by decide +kernel
theorem dX4_judge_27 : decode cX4_judge 27 = .ok (.getfield 60, 3) := by decide +kernel
theorem dX4_judge_30 : decode cX4_judge 30 = .ok (.iload_n 1, 1) := by decide +kernel
theorem dX4_judge_31 : decode cX4_judge 31 = .ok (.iaload, 1) := by decide +kernel
theorem dX4_judge_32 : decode cX4_judge 32 = .ok (.if_icmp .ge 91, 3) := by decide +kernel
theorem dX4_judge_35 : decode cX4_judge 35 = .ok (.iload 4, 2) := by decide +kernel
theorem dX4_judge_37 : decode cX4_judge 37 = .ok (.ifCond .eq 86, 3) := by decide +kernel
theorem dX4_judge_40 : decode cX4_judge 40 = .ok (.aload_n 0, 1) := by decide +kernel
theorem dX4_judge_41 : decode cX4_judge 41 = .ok (.getfield 63, 3) := by decide +kernel
theorem dX4_judge_44 : decode cX4_judge 44 = .ok (.bipush 40, 2) := by decide +kernel
theorem dX4_judge_46 : decode cX4_judge 46 = .ok (.iload_n 1, 1) := by decide +kernel
theorem dX4_judge_47 : decode cX4_judge 47 = .ok (.imul, 1) := by decide +kernel
theorem dX4_judge_48 : decode cX4_judge 48 = .ok (.iload_n 2, 1) := by decide +kernel
theorem dX4_judge_49 : decode cX4_judge 49 = .ok (.iadd, 1) := by decide +kernel
theorem dX4_judge_50 : decode cX4_judge 50 = .ok (.iaload, 1) := by decide +kernel
theorem dX4_judge_51 : decode cX4_judge 51 = .ok (.istore 5, 2) := by decide +kernel
theorem dX4_judge_53 : decode cX4_judge 53 = .ok (.aload_n 0, 1) := by decide +kernel
theorem dX4_judge_54 : decode cX4_judge 54 = .ok (.iload 5, 2) := by decide +kernel
theorem dX4_judge_56 : decode cX4_judge 56 = .ok (.invokevirtual 141, 3) := by decide +kernel
theorem dX4_judge_59 : decode cX4_judge 59 = .ok (.ifCond .eq 28, 3) := by decide +kernel
theorem dX4_judge_62 : decode cX4_judge 62 = .ok (.iload_n 2, 1) := by decide +kernel
theorem dX4_judge_63 : decode cX4_judge 63 = .ok (.ifCond .eq 20, 3) := by decide +kernel
theorem dX4_judge_66 : decode cX4_judge 66 = .ok (.aload_n 0, 1) := by decide +kernel
theorem dX4_judge_67 : decode cX4_judge 67 = .ok (.iload 5, 2) := by decide +kernel
theorem dX4_judge_69 : decode cX4_judge 69 = .ok (.iconst 2, 1) := by decide +kernel
theorem dX4_judge_70 : decode cX4_judge 70 = .ok (.invokevirtual 101, 3) := by decide +kernel
theorem dX4_judge_73 : decode cX4_judge 73 = .ok (.iload_n 3, 1) := by decide +kernel
theorem dX4_judge_74 : decode cX4_judge 74 = .ok (.isub, 1) := by decide +kernel
theorem dX4_judge_75 : decode cX4_judge 75 = .ok (.iconst 1, 1) := by decide +kernel
theorem dX4_judge_76 : decode cX4_judge 76 = .ok (.iconst 2, 1) := by decide +kernel
theorem dX4_judge_77 : decode cX4_judge 77 = .ok (.invokestatic 74, 3) := by decide +kernel
theorem dX4_judge_80 : decode cX4_judge 80 = .ok (.ifCond .eq 7, 3) := by decide +kernel
theorem dX4_judge_83 : decode cX4_judge 83 = .ok (.iconst 1, 1) := by decide +kernel
theorem dX4_judge_84 : decode cX4_judge 84 = .ok (.goto 4, 3) := by decide +kernel
theorem dX4_judge_87 : decode cX4_judge 87 = .ok (.iconst 0, 1) := by decide +kernel
theorem dX4_judge_88 : decode cX4_judge 88 = .ok (.istore 4, 2) := by decide +kernel
theorem dX4_judge_90 : decode cX4_judge 90 = .ok (.iload 4, 2) := by decide +kernel
theorem dX4_judge_92 : decode cX4_judge 92 = .ok (.ifCond .eq 13, 3) := by decide +kernel
theorem dX4_judge_95 : decode cX4_judge 95 = .ok (.aload_n 0, 1) := by decide +kernel
theorem dX4_judge_96 : decode cX4_judge 96 = .ok (.iload 5, 2) := by decide +kernel
theorem dX4_judge_98 : decode cX4_judge 98 = .ok (.iconst 2, 1) := by decide +kernel
theorem dX4_judge_99 : decode cX4_judge 99 = .ok (.invokevirtual 101, 3) := by decide +kernel
theorem dX4_judge_102 : decode cX4_judge 102 = .ok (.goto 4, 3) := by decide +kernel
theorem dX4_judge_105 : decode cX4_judge 105 = .ok (.iload_n 3, 1) := by decide +kernel
theorem dX4_judge_106 : decode cX4_judge 106 = .ok (.istore_n 3, 1) := by decide +kernel
theorem dX4_judge_107 : decode cX4_judge 107 = .ok (.iload_n 2, 1) := by decide +kernel
theorem dX4_judge_108 : decode cX4_judge 108 = .ok (.iload 4, 2) := by decide +kernel
theorem dX4_judge_110 : decode cX4_judge 110 = .ok (.ifCond .eq 7, 3) := by decide +kernel
theorem dX4_judge_113 : decode cX4_judge 113 = .ok (.iconst 1, 1) := by decide +kernel
theorem dX4_judge_114 : decode cX4_judge 114 = .ok (.goto 4, 3) := by decide +kernel
theorem dX4_judge_117 : decode cX4_judge 117 = .ok (.iconst 0, 1) := by decide +kernel
theorem dX4_judge_118 : decode cX4_judge 118 = .ok (.iadd, 1) := by decide +kernel
theorem dX4_judge_119 : decode cX4_judge 119 = .ok (.istore_n 2, 1) := by decide +kernel
theorem dX4_judge_120 : decode cX4_judge 120 = .ok (.goto (-95), 3) := by decide +kernel
theorem dX4_judge_123 : decode cX4_judge 123 = .ok (.iload 4, 2) := by decide +kernel
theorem dX4_judge_125 : decode cX4_judge 125 = .ok (.ifCond .eq 7, 3) := by decide +kernel
theorem dX4_judge_128 : decode cX4_judge 128 = .ok (.iconst 0, 1) := by decide +kernel
theorem dX4_judge_129 : decode cX4_judge 129 = .ok (.goto 6, 3) := by decide +kernel
theorem dX4_judge_132 : decode cX4_judge 132 = .ok (.iconst 1, 1) := by decide +kernel
theorem dX4_judge_133 : decode cX4_judge 133 = .ok (.iload_n 2, 1) := by decide +kernel
theorem dX4_judge_134 : decode cX4_judge 134 = .ok (.iadd, 1) := by decide +kernel
theorem dX4_judge_135 : decode cX4_judge 135 = .ok (.ireturn, 1) := by decide +kernel
theorem dX4_image_0 : decode cX4_image 0 = .ok (.aload_n 0, 1) := by decide +kernel
theorem dX4_image_1 : decode cX4_image 1 = .ok (.getfield 9, 3) := by decide +kernel
theorem dX4_image_4 : decode cX4_image 4 = .ok (.aload_n 0, 1) := by decide +kernel
theorem dX4_image_5 : decode cX4_image 5 = .ok (.getfield 13, 3) := by decide +kernel
theorem dX4_image_8 : decode cX4_image 8 = .ok (.invokestatic 70, 3) := by decide +kernel
theorem dX4_image_11 : decode cX4_image 11 = .ok (.aload_n 0, 1) := by decide +kernel
theorem dX4_image_12 : decode cX4_image 12 = .ok (.iconst 1, 1) := by decide +kernel
theorem dX4_image_13 : decode cX4_image 13 = .ok (.putfield 344, 3) := by decide +kernel
theorem dX4_image_16 : decode cX4_image 16 = .ok (.iconst 1, 1) := by decide +kernel
theorem dX4_image_17 : decode cX4_image 17 = .ok (.ireturn, 1) := by decide +kernel
theorem dX4_undo_0 : decode cX4_undo 0 = .ok (.aload_n 0, 1) := by decide +kernel
theorem dX4_undo_1 : decode cX4_undo 1 = .ok (.getfield 344, 3) := by decide +kernel
theorem dX4_undo_4 : decode cX4_undo 4 = .ok (.ifCond .ne 10, 3) := by decide +kernel
theorem dX4_undo_7 : decode cX4_undo 7 = .ok (.aload_n 0, 1) := by decide +kernel
theorem dX4_undo_8 : decode cX4_undo 8 = .ok (.ldc 198, 2) := by decide +kernel
theorem dX4_undo_10 : decode cX4_undo 10 = .ok (.invokevirtual 88, 3) := by decide +kernel
theorem dX4_undo_13 : decode cX4_undo 13 = .ok (.ireturn, 1) := by decide +kernel
theorem dX4_undo_14 : decode cX4_undo 14 = .ok (.aload_n 0, 1) := by decide +kernel
theorem dX4_undo_15 : decode cX4_undo 15 = .ok (.getfield 13, 3) := by decide +kernel
theorem dX4_undo_18 : decode cX4_undo 18 = .ok (.aload_n 0, 1) := by decide +kernel
theorem dX4_undo_19 : decode cX4_undo 19 = .ok (.getfield 9, 3) := by decide +kernel
theorem dX4_undo_22 : decode cX4_undo 22 = .ok (.invokestatic 70, 3) := by decide +kernel
theorem dX4_undo_25 : decode cX4_undo 25 = .ok (.aload_n 0, 1) := by decide +kernel
theorem dX4_undo_26 : decode cX4_undo 26 = .ok (.getfield 9, 3) := by decide +kernel
theorem dX4_undo_29 : decode cX4_undo 29 = .ok (.iconst 0, 1) := by decide +kernel
theorem dX4_undo_30 : decode cX4_undo 30 = .ok (.iaload, 1) := by decide +kernel
theorem dX4_undo_31 : decode cX4_undo 31 = .ok (.ireturn, 1) := by decide +kernel
theorem dX4_tear_0 : decode cX4_tear 0 = .ok (.aload_n 0, 1) := by decide +kernel
theorem dX4_tear_1 : decode cX4_tear 1 = .ok (.getfield 344, 3) := by decide +kernel
theorem dX4_tear_4 : decode cX4_tear 4 = .ok (.ifCond .eq 7, 3) := by decide +kernel
theorem dX4_tear_7 : decode cX4_tear 7 = .ok (.iconst 1, 1) := by decide +kernel
theorem dX4_tear_8 : decode cX4_tear 8 = .ok (.goto 4, 3) := by decide +kernel
theorem dX4_tear_11 : decode cX4_tear 11 = .ok (.iconst 0, 1) := by decide +kernel
theorem dX4_tear_12 : decode cX4_tear 12 = .ok (.istore_n 1, 1) := by decide +kernel
theorem dX4_tear_13 : decode cX4_tear 13 = .ok (.aload_n 0, 1) := by decide +kernel
theorem dX4_tear_14 : decode cX4_tear 14 = .ok (.iconst 0, 1) := by decide +kernel
theorem dX4_tear_15 : decode cX4_tear 15 = .ok (.putfield 344, 3) := by decide +kernel
theorem dX4_tear_18 : decode cX4_tear 18 = .ok (.iload_n 1, 1) := by decide +kernel
theorem dX4_tear_19 : decode cX4_tear 19 = .ok (.ireturn, 1) := by decide +kernel
theorem dX4_count_0 : decode cX4_count 0 = .ok (.iconst 0, 1) := by decide +kernel
theorem dX4_count_1 : decode cX4_count 1 = .ok (.istore_n 2, 1) := by decide +kernel
theorem dX4_count_2 : decode cX4_count 2 = .ok (.iload_n 1, 1) := by decide +kernel
theorem dX4_count_3 : decode cX4_count 3 = .ok (.tableswitch 148 0 7 #[45, 52, 59, 67, 72, 101, 106, 113], 45) := by decide +kernel
theorem dX4_count_48 : decode cX4_count 48 = .ok (.aload_n 0, 1) := by decide +kernel
theorem dX4_count_49 : decode cX4_count 49 = .ok (.getfield 9, 3) := by decide +kernel
theorem dX4_count_52 : decode cX4_count 52 = .ok (.iconst 0, 1) := by decide +kernel
theorem dX4_count_53 : decode cX4_count 53 = .ok (.iaload, 1) := by decide +kernel
theorem dX4_count_54 : decode cX4_count 54 = .ok (.ireturn, 1) := by decide +kernel
theorem dX4_count_55 : decode cX4_count 55 = .ok (.aload_n 0, 1) := by decide +kernel
theorem dX4_count_56 : decode cX4_count 56 = .ok (.getfield 9, 3) := by decide +kernel
theorem dX4_count_59 : decode cX4_count 59 = .ok (.iconst 2, 1) := by decide +kernel
theorem dX4_count_60 : decode cX4_count 60 = .ok (.iaload, 1) := by decide +kernel
theorem dX4_count_61 : decode cX4_count 61 = .ok (.ireturn, 1) := by decide +kernel
theorem dX4_count_62 : decode cX4_count 62 = .ok (.aload_n 0, 1) := by decide +kernel
theorem dX4_count_63 : decode cX4_count 63 = .ok (.invokevirtual 178, 3) := by decide +kernel
theorem dX4_count_66 : decode cX4_count 66 = .ok (.invokestatic 182, 3) := by decide +kernel
theorem dX4_count_69 : decode cX4_count 69 = .ok (.ireturn, 1) := by decide +kernel
theorem dX4_count_70 : decode cX4_count 70 = .ok (.aload_n 0, 1) := by decide +kernel
theorem dX4_count_71 : decode cX4_count 71 = .ok (.invokevirtual 185, 3) := by decide +kernel
theorem dX4_count_74 : decode cX4_count 74 = .ok (.ireturn, 1) := by decide +kernel
theorem dX4_count_75 : decode cX4_count 75 = .ok (.iconst 0, 1) := by decide +kernel
theorem dX4_count_76 : decode cX4_count 76 = .ok (.istore_n 3, 1) := by decide +kernel
theorem dX4_count_77 : decode cX4_count 77 = .ok (.iload_n 3, 1) := by decide +kernel
theorem dX4_count_78 : decode cX4_count 78 = .ok (.aload_n 0, 1) := by decide +kernel
theorem dX4_count_79 : decode cX4_count 79 = .ok (.getfield 9, 3) := by decide +kernel
theorem dX4_count_82 : decode cX4_count 82 = .ok (.iconst 2, 1) := by decide +kernel
theorem dX4_count_83 : decode cX4_count 83 = .ok (.iaload, 1) := by decide +kernel
theorem dX4_count_84 : decode cX4_count 84 = .ok (.if_icmp .ge 18, 3) := by decide +kernel
theorem dX4_count_87 : decode cX4_count 87 = .ok (.iload_n 2, 1) := by decide +kernel
theorem dX4_count_88 : decode cX4_count 88 = .ok (.aload_n 0, 1) := by decide +kernel
theorem dX4_count_89 : decode cX4_count 89 = .ok (.iload_n 3, 1) := by decide +kernel
theorem dX4_count_90 : decode cX4_count 90 = .ok (.iconst 3, 1) := by decide +kernel
theorem dX4_count_91 : decode cX4_count 91 = .ok (.invokevirtual 101, 3) := by decide +kernel
theorem dX4_count_94 : decode cX4_count 94 = .ok (.iadd, 1) := by decide +kernel
theorem dX4_count_95 : decode cX4_count 95 = .ok (.istore_n 2, 1) := by decide +kernel
theorem dX4_count_96 : decode cX4_count 96 = .ok (.iinc 3 1, 3) := by decide +kernel
theorem dX4_count_99 : decode cX4_count 99 = .ok (.goto (-22), 3) := by decide +kernel
theorem dX4_count_102 : decode cX4_count 102 = .ok (.iload_n 2, 1) := by decide +kernel
theorem dX4_count_103 : decode cX4_count 103 = .ok (.ireturn, 1) := by decide +kernel
theorem dX4_count_104 : decode cX4_count 104 = .ok (.aload_n 0, 1) := by decide +kernel
theorem dX4_count_105 : decode cX4_count 105 = .ok (.getfield 258, 3) := by decide +kernel
theorem dX4_count_108 : decode cX4_count 108 = .ok (.ireturn, 1) := by decide +kernel
theorem dX4_count_109 : decode cX4_count 109 = .ok (.aload_n 0, 1) := by decide +kernel
theorem dX4_count_110 : decode cX4_count 110 = .ok (.getfield 9, 3) := by decide +kernel
theorem dX4_count_113 : decode cX4_count 113 = .ok (.iconst 3, 1) := by decide +kernel
theorem dX4_count_114 : decode cX4_count 114 = .ok (.iaload, 1) := by decide +kernel
theorem dX4_count_115 : decode cX4_count 115 = .ok (.ireturn, 1) := by decide +kernel
theorem dX4_count_116 : decode cX4_count 116 = .ok (.iconst 0, 1) := by decide +kernel
theorem dX4_count_117 : decode cX4_count 117 = .ok (.istore_n 3, 1) := by decide +kernel
theorem dX4_count_118 : decode cX4_count 118 = .ok (.iload_n 3, 1) := by decide +kernel
theorem dX4_count_119 : decode cX4_count 119 = .ok (.bipush 10, 2) := by decide +kernel
theorem dX4_count_121 : decode cX4_count 121 = .ok (.if_icmp .ge 28, 3) := by decide +kernel
theorem dX4_count_124 : decode cX4_count 124 = .ok (.iload_n 2, 1) := by decide +kernel
theorem dX4_count_125 : decode cX4_count 125 = .ok (.aload_n 0, 1) := by decide +kernel
theorem dX4_count_126 : decode cX4_count 126 = .ok (.getfield 9, 3) := by decide +kernel
theorem dX4_count_129 : decode cX4_count 129 = .ok (.iconst 4, 1) := by decide +kernel
theorem dX4_count_130 : decode cX4_count 130 = .ok (.iload_n 3, 1) := by decide +kernel
theorem dX4_count_131 : decode cX4_count 131 = .ok (.iadd, 1) := by decide +kernel
theorem dX4_count_132 : decode cX4_count 132 = .ok (.iaload, 1) := by decide +kernel
theorem dX4_count_133 : decode cX4_count 133 = .ok (.ifCond .ge 7, 3) := by decide +kernel
theorem dX4_count_136 : decode cX4_count 136 = .ok (.iconst 0, 1) := by decide +kernel
theorem dX4_count_137 : decode cX4_count 137 = .ok (.goto 4, 3) := by decide +kernel
theorem dX4_count_140 : decode cX4_count 140 = .ok (.iconst 1, 1) := by decide +kernel
theorem dX4_count_141 : decode cX4_count 141 = .ok (.iadd, 1) := by decide +kernel
theorem dX4_count_142 : decode cX4_count 142 = .ok (.istore_n 2, 1) := by decide +kernel
theorem dX4_count_143 : decode cX4_count 143 = .ok (.iinc 3 1, 3) := by decide +kernel
theorem dX4_count_146 : decode cX4_count 146 = .ok (.goto (-28), 3) := by decide +kernel
theorem dX4_count_149 : decode cX4_count 149 = .ok (.iload_n 2, 1) := by decide +kernel
theorem dX4_count_150 : decode cX4_count 150 = .ok (.ireturn, 1) := by decide +kernel
theorem dX4_count_151 : decode cX4_count 151 = .ok (.aload_n 0, 1) := by decide +kernel
theorem dX4_count_152 : decode cX4_count 152 = .ok (.ldc 69, 2) := by decide +kernel
theorem dX4_count_154 : decode cX4_count 154 = .ok (.invokevirtual 88, 3) := by decide +kernel
theorem dX4_count_157 : decode cX4_count 157 = .ok (.ireturn, 1) := by decide +kernel
theorem dX4_status_0 : decode cX4_status 0 = .ok (.iload_n 1, 1) := by decide +kernel
theorem dX4_status_1 : decode cX4_status 1 = .ok (.iconst (-1), 1) := by decide +kernel
theorem dX4_status_2 : decode cX4_status 2 = .ok (.bipush 6, 2) := by decide +kernel
theorem dX4_status_4 : decode cX4_status 4 = .ok (.invokestatic 74, 3) := by decide +kernel
theorem dX4_status_7 : decode cX4_status 7 = .ok (.ifCond .eq 14, 3) := by decide +kernel
theorem dX4_status_10 : decode cX4_status 10 = .ok (.aload_n 0, 1) := by decide +kernel
theorem dX4_status_11 : decode cX4_status 11 = .ok (.getfield 19, 3) := by decide +kernel
theorem dX4_status_14 : decode cX4_status 14 = .ok (.iload_n 1, 1) := by decide +kernel
theorem dX4_status_15 : decode cX4_status 15 = .ok (.iconst 1, 1) := by decide +kernel
theorem dX4_status_16 : decode cX4_status 16 = .ok (.iadd, 1) := by decide +kernel
theorem dX4_status_17 : decode cX4_status 17 = .ok (.iaload, 1) := by decide +kernel
theorem dX4_status_18 : decode cX4_status 18 = .ok (.goto 9, 3) := by decide +kernel
theorem dX4_status_21 : decode cX4_status 21 = .ok (.aload_n 0, 1) := by decide +kernel
theorem dX4_status_22 : decode cX4_status 22 = .ok (.ldc 69, 2) := by decide +kernel
theorem dX4_status_24 : decode cX4_status 24 = .ok (.invokevirtual 88, 3) := by decide +kernel
theorem dX4_status_27 : decode cX4_status 27 = .ok (.ireturn, 1) := by decide +kernel
end
section
/-! ===== Math.max, min, abs ===== -/
section FM
variable {M : zM} {out : Option Value × zH} {pc : Nat} {L : List (Option Value)} {S : List Value} {h : zH}
theorem z_mx : Cond.static Lib.Math.max.name ∈ z_T ∧ Cond.initialized "java/lang/Math" ∈ z_T ∧ Cond.code Lib.Math.max.name Lib.Math.max.code 2 (some .int) ∈ z_T := ⟨z_in (z_t1 213 (by decide +kernel)) rfl, z_in (z_t1 6 (by decide +kernel)) rfl, z_in (z_t1 214 (by decide +kernel)) rfl⟩
theorem z_mn : Cond.static Lib.Math.min.name ∈ z_T ∧ Cond.initialized "java/lang/Math" ∈ z_T ∧ Cond.code Lib.Math.min.name Lib.Math.min.code 2 (some .int) ∈ z_T := ⟨z_in (z_t2 23 (by decide +kernel)) rfl, z_in (z_t1 6 (by decide +kernel)) rfl, z_in (z_t2 24 (by decide +kernel)) rfl⟩
theorem z_mb : Cond.static Lib.Math.abs.name ∈ z_T ∧ Cond.initialized "java/lang/Math" ∈ z_T ∧ Cond.code Lib.Math.abs.name Lib.Math.abs.code 1 (some .int) ∈ z_T := ⟨z_in (z_t4 155 (by decide +kernel)) rfl, z_in (z_t1 6 (by decide +kernel)) rfl, z_in (z_t4 156 (by decide +kernel)) rfl⟩
def jmax (x y : Int32) : Int32 := if x < y then y else x
def jmin (x y : Int32) : Int32 := if y < x then y else x
def jabs (x : Int32) : Int32 := if 0 ≤ x then x else 0 - x
theorem fx_max {idx : Nat} {x y : Int32} (hd : decode M.2.1 pc = .ok (.invokestatic idx, 3)) (hk : Cond.methodLink M.1.cls idx yJ9_max_7cf53 ∈ z_T) (hdep : 1 ≤ M.2.2.2.2) (hr : (S.map fun v => v.category).sum ≤ 8) (k : Fx M out (pc + 3) L (.int (jmax x y) :: S) h) : Fx M out pc L (.int y :: .int x :: S) h := by
  refine ⟨k.1, fun E D tA ad p l e s m args below meth c C H locs ls hl hP hS => ?_⟩
  obtain ⟨c1, c2, c3, c4, c5, c6, c7, c8, c9, c10, c11, c12⟩ := id C
  have hroom : (((S.map (z_g ad)).map fun v => v.category).sum + 13) ≤ (z_rm M.2.2.2.2).locals := by
    rw [z_cats]
    show _ ≤ 31 * M.2.2.2.2
    omega
  exact va_mmax c1 c2 (by rw [c4]; exact hl.1.symm) c5 (c6 _ (z_Tw hk)) (c6 _ (z_Tw z_mx.1)) (c6 _ (z_Tw z_mx.2.1)) (c6 _ (z_Tw z_mx.2.2)) hdep hroom (Nat.zero_le _) (Nat.zero_le _) hd (k.2 E D tA ad p l e s m args below meth c C H locs ls hl hP hS)
theorem fx_min {idx : Nat} {x y : Int32} (hd : decode M.2.1 pc = .ok (.invokestatic idx, 3)) (hk : Cond.methodLink M.1.cls idx yJ9_min_7cf53 ∈ z_T) (hdep : 1 ≤ M.2.2.2.2) (hr : (S.map fun v => v.category).sum ≤ 8) (k : Fx M out (pc + 3) L (.int (jmin x y) :: S) h) : Fx M out pc L (.int y :: .int x :: S) h := by
  refine ⟨k.1, fun E D tA ad p l e s m args below meth c C H locs ls hl hP hS => ?_⟩
  obtain ⟨c1, c2, c3, c4, c5, c6, c7, c8, c9, c10, c11, c12⟩ := id C
  have hroom : (((S.map (z_g ad)).map fun v => v.category).sum + 13) ≤ (z_rm M.2.2.2.2).locals := by
    rw [z_cats]
    show _ ≤ 31 * M.2.2.2.2
    omega
  exact va_mmin c1 c2 (by rw [c4]; exact hl.1.symm) c5 (c6 _ (z_Tw hk)) (c6 _ (z_Tw z_mn.1)) (c6 _ (z_Tw z_mn.2.1)) (c6 _ (z_Tw z_mn.2.2)) hdep hroom (Nat.zero_le _) (Nat.zero_le _) hd (k.2 E D tA ad p l e s m args below meth c C H locs ls hl hP hS)
theorem fx_abs {idx : Nat} {x : Int32} (hd : decode M.2.1 pc = .ok (.invokestatic idx, 3)) (hk : Cond.methodLink M.1.cls idx yJ9_abs_0f7a4 ∈ z_T) (hdep : 1 ≤ M.2.2.2.2) (hr : (S.map fun v => v.category).sum ≤ 8) (k : Fx M out (pc + 3) L (.int (jabs x) :: S) h) : Fx M out pc L (.int x :: S) h := by
  refine ⟨k.1, fun E D tA ad p l e s m args below meth c C H locs ls hl hP hS => ?_⟩
  obtain ⟨c1, c2, c3, c4, c5, c6, c7, c8, c9, c10, c11, c12⟩ := id C
  have hroom : (((S.map (z_g ad)).map fun v => v.category).sum + 13) ≤ (z_rm M.2.2.2.2).locals := by
    rw [z_cats]
    show _ ≤ 31 * M.2.2.2.2
    omega
  exact va_mabs c1 c2 (by rw [c4]; exact hl.1.symm) c5 (c6 _ (z_Tw hk)) (c6 _ (z_Tw z_mb.1)) (c6 _ (z_Tw z_mb.2.1)) (c6 _ (z_Tw z_mb.2.2)) hdep hroom (Nat.zero_le _) (Nat.zero_le _) hd (k.2 E D tA ad p l e s m args below meth c C H locs ls hl hP hS)
end FM
end
