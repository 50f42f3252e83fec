section
-- ===== PART A: goes FIRST, ahead of the names: the tables' words, and 'selects' of the private methods out of them =====
/-- a private method of a class that the tables say can be made, by its rows of tables_1 -/
def lw_okq (q : MethodName × Nat) : Prop := (q.1.cls ≠ "java/lang/invoke/MethodHandle" ∧ q.1.cls ≠ "java/lang/invoke/VarHandle") ∧ Cond.instantiable q.1.cls q.2 ∈ tables_1 ∧ Cond.privateMethod q.1 ∈ tables_1 ∧ Cond.instanceMethod q.1 ∈ tables_1
theorem lw_p0 : lw_okq (⟨"WildBells", "finding", "(I)I"⟩, 8) := ⟨⟨by decide +kernel, by decide +kernel⟩, List.mem_of_getElem? (i := 15) (by decide +kernel), List.mem_of_getElem? (i := 174) (by decide +kernel), List.mem_of_getElem? (i := 175) (by decide +kernel)⟩
theorem lw_p1 : lw_okq (⟨"WildBells$Woods", "hasNet", "(I)Z"⟩, 14) := ⟨⟨by decide +kernel, by decide +kernel⟩, List.mem_of_getElem? (i := 23) (by decide +kernel), List.mem_of_getElem? (i := 179) (by decide +kernel), List.mem_of_getElem? (i := 180) (by decide +kernel)⟩
theorem lw_p2 : lw_okq (⟨"WildBells$Woods", "setNet", "(IZ)V"⟩, 14) := ⟨⟨by decide +kernel, by decide +kernel⟩, List.mem_of_getElem? (i := 23) (by decide +kernel), List.mem_of_getElem? (i := 186) (by decide +kernel), List.mem_of_getElem? (i := 187) (by decide +kernel)⟩
theorem lw_p3 : lw_okq (⟨"WildBells$Woods", "heardAt", "(I)I"⟩, 14) := ⟨⟨by decide +kernel, by decide +kernel⟩, List.mem_of_getElem? (i := 23) (by decide +kernel), List.mem_of_getElem? (i := 199) (by decide +kernel), List.mem_of_getElem? (i := 200) (by decide +kernel)⟩
theorem lw_p4 : lw_okq (⟨"WildBells$Woods", "isFree", "(I)Z"⟩, 14) := ⟨⟨by decide +kernel, by decide +kernel⟩, List.mem_of_getElem? (i := 23) (by decide +kernel), List.mem_of_getElem? (i := 203) (by decide +kernel), List.mem_of_getElem? (i := 204) (by decide +kernel)⟩
theorem lw_p5 : lw_okq (⟨"WildBells$Woods", "bellsAt", "(I)I"⟩, 14) := ⟨⟨by decide +kernel, by decide +kernel⟩, List.mem_of_getElem? (i := 23) (by decide +kernel), List.mem_of_getElem? (i := 217) (by decide +kernel), List.mem_of_getElem? (i := 218) (by decide +kernel)⟩
theorem lw_p6 : lw_okq (⟨"WildBells$Woods", "addBell", "(II)I"⟩, 14) := ⟨⟨by decide +kernel, by decide +kernel⟩, List.mem_of_getElem? (i := 23) (by decide +kernel), List.mem_of_getElem? (i := 239) (by decide +kernel), List.mem_of_getElem? (i := 240) (by decide +kernel)⟩
theorem lw_p7 : lw_okq (⟨"WildBells", "isBell", "(I)Z"⟩, 8) := ⟨⟨by decide +kernel, by decide +kernel⟩, List.mem_of_getElem? (i := 15) (by decide +kernel), List.mem_of_getElem? (i := 247) (by decide +kernel), List.mem_of_getElem? (i := 248) (by decide +kernel)⟩
theorem lw_p8 : lw_okq (⟨"WildBells$Woods", "nextCell", "(I)I"⟩, 14) := ⟨⟨by decide +kernel, by decide +kernel⟩, List.mem_of_getElem? (i := 23) (by decide +kernel), List.mem_of_getElem? (i := 251) (by decide +kernel), List.mem_of_getElem? (i := 252) (by decide +kernel)⟩
theorem lw_p9 : lw_okq (⟨"WildBells$Woods", "worthFor", "(II)I"⟩, 14) := ⟨⟨by decide +kernel, by decide +kernel⟩, List.mem_of_getElem? (i := 23) (by decide +kernel), List.mem_of_getElem? (i := 255) (by decide +kernel), List.mem_of_getElem? (i := 256) (by decide +kernel)⟩
theorem lw_p10 : lw_okq (⟨"WildBells$Woods", "fromHunters", "(I)I"⟩, 14) := ⟨⟨by decide +kernel, by decide +kernel⟩, List.mem_of_getElem? (i := 23) (by decide +kernel), List.mem_of_getElem? (i := 259) (by decide +kernel), List.mem_of_getElem? (i := 260) (by decide +kernel)⟩
theorem lw_p11 : lw_okq (⟨"WildBells$Woods", "nearestOther", "(IIII)I"⟩, 14) := ⟨⟨by decide +kernel, by decide +kernel⟩, List.mem_of_getElem? (i := 23) (by decide +kernel), List.mem_of_getElem? (i := 266) (by decide +kernel), List.mem_of_getElem? (i := 267) (by decide +kernel)⟩
theorem lw_p12 : lw_okq (⟨"WildBells$Woods", "trait", "(II)I"⟩, 14) := ⟨⟨by decide +kernel, by decide +kernel⟩, List.mem_of_getElem? (i := 23) (by decide +kernel), List.mem_of_getElem? (i := 282) (by decide +kernel), List.mem_of_getElem? (i := 283) (by decide +kernel)⟩
theorem lw_p13 : lw_okq (⟨"WildBells$Woods", "setTrait", "(III)V"⟩, 14) := ⟨⟨by decide +kernel, by decide +kernel⟩, List.mem_of_getElem? (i := 23) (by decide +kernel), List.mem_of_getElem? (i := 299) (by decide +kernel), List.mem_of_getElem? (i := 300) (by decide +kernel)⟩
theorem lw_p14 : lw_okq (⟨"WildBells$Woods", "hourGoes", "()Z"⟩, 14) := ⟨⟨by decide +kernel, by decide +kernel⟩, List.mem_of_getElem? (i := 23) (by decide +kernel), List.mem_of_getElem? (i := 312) (by decide +kernel), List.mem_of_getElem? (i := 313) (by decide +kernel)⟩
theorem lw_p15 : lw_okq (⟨"WildBells$Woods", "weightOf", "(I)I"⟩, 14) := ⟨⟨by decide +kernel, by decide +kernel⟩, List.mem_of_getElem? (i := 23) (by decide +kernel), List.mem_of_getElem? (i := 335) (by decide +kernel), List.mem_of_getElem? (i := 336) (by decide +kernel)⟩
def lw_privs_1 : List (MethodName × Nat) := [(⟨"WildBells", "finding", "(I)I"⟩, 8), (⟨"WildBells$Woods", "hasNet", "(I)Z"⟩, 14), (⟨"WildBells$Woods", "setNet", "(IZ)V"⟩, 14), (⟨"WildBells$Woods", "heardAt", "(I)I"⟩, 14), (⟨"WildBells$Woods", "isFree", "(I)Z"⟩, 14), (⟨"WildBells$Woods", "bellsAt", "(I)I"⟩, 14), (⟨"WildBells$Woods", "addBell", "(II)I"⟩, 14), (⟨"WildBells", "isBell", "(I)Z"⟩, 8), (⟨"WildBells$Woods", "nextCell", "(I)I"⟩, 14), (⟨"WildBells$Woods", "worthFor", "(II)I"⟩, 14), (⟨"WildBells$Woods", "fromHunters", "(I)I"⟩, 14), (⟨"WildBells$Woods", "nearestOther", "(IIII)I"⟩, 14), (⟨"WildBells$Woods", "trait", "(II)I"⟩, 14), (⟨"WildBells$Woods", "setTrait", "(III)V"⟩, 14), (⟨"WildBells$Woods", "hourGoes", "()Z"⟩, 14), (⟨"WildBells$Woods", "weightOf", "(I)I"⟩, 14)]
theorem lw_r1 : ∀ q ∈ lw_privs_1, lw_okq q := List.forall_mem_cons.mpr ⟨lw_p0, List.forall_mem_cons.mpr ⟨lw_p1, List.forall_mem_cons.mpr ⟨lw_p2, List.forall_mem_cons.mpr ⟨lw_p3, List.forall_mem_cons.mpr ⟨lw_p4, List.forall_mem_cons.mpr ⟨lw_p5, List.forall_mem_cons.mpr ⟨lw_p6, List.forall_mem_cons.mpr ⟨lw_p7, List.forall_mem_cons.mpr ⟨lw_p8, List.forall_mem_cons.mpr ⟨lw_p9, List.forall_mem_cons.mpr ⟨lw_p10, List.forall_mem_cons.mpr ⟨lw_p11, List.forall_mem_cons.mpr ⟨lw_p12, List.forall_mem_cons.mpr ⟨lw_p13, List.forall_mem_cons.mpr ⟨lw_p14, List.forall_mem_cons.mpr ⟨lw_p15, fun _ h => absurd h List.not_mem_nil⟩⟩⟩⟩⟩⟩⟩⟩⟩⟩⟩⟩⟩⟩⟩⟩
theorem lw_p16 : lw_okq (⟨"WildBells$Woods", "becomes", "(LWildBells$Woods;)V"⟩, 14) := ⟨⟨by decide +kernel, by decide +kernel⟩, List.mem_of_getElem? (i := 23) (by decide +kernel), List.mem_of_getElem? (i := 349) (by decide +kernel), List.mem_of_getElem? (i := 350) (by decide +kernel)⟩
theorem lw_p17 : lw_okq (⟨"WildBells$Woods", "runHours", "(I)V"⟩, 14) := ⟨⟨by decide +kernel, by decide +kernel⟩, List.mem_of_getElem? (i := 23) (by decide +kernel), List.mem_of_getElem? (i := 356) (by decide +kernel), List.mem_of_getElem? (i := 357) (by decide +kernel)⟩
theorem lw_p18 : lw_okq (⟨"WildBells$Woods", "tillCaught", "(II)I"⟩, 14) := ⟨⟨by decide +kernel, by decide +kernel⟩, List.mem_of_getElem? (i := 23) (by decide +kernel), List.mem_of_getElem? (i := 365) (by decide +kernel), List.mem_of_getElem? (i := 366) (by decide +kernel)⟩
theorem lw_p19 : lw_okq (⟨"WildBells", "soundFault", "(II)I"⟩, 8) := ⟨⟨by decide +kernel, by decide +kernel⟩, List.mem_of_getElem? (i := 15) (by decide +kernel), List.mem_of_getElem? (i := 398) (by decide +kernel), List.mem_of_getElem? (i := 399) (by decide +kernel)⟩
theorem lw_p20 : lw_okq (⟨"WildBells$Sheet", "isMissing", "()Z"⟩, 3) := ⟨⟨by decide +kernel, by decide +kernel⟩, List.mem_of_getElem? (i := 123) (by decide +kernel), List.mem_of_getElem? (i := 405) (by decide +kernel), List.mem_of_getElem? (i := 406) (by decide +kernel)⟩
theorem lw_p21 : lw_okq (⟨"WildBells$Sheet", "earsAreCells", "()Z"⟩, 3) := ⟨⟨by decide +kernel, by decide +kernel⟩, List.mem_of_getElem? (i := 123) (by decide +kernel), List.mem_of_getElem? (i := 409) (by decide +kernel), List.mem_of_getElem? (i := 410) (by decide +kernel)⟩
theorem lw_p22 : lw_okq (⟨"WildBells$Sheet", "tellsLoud", "(II)Z"⟩, 3) := ⟨⟨by decide +kernel, by decide +kernel⟩, List.mem_of_getElem? (i := 123) (by decide +kernel), List.mem_of_getElem? (i := 417) (by decide +kernel), List.mem_of_getElem? (i := 418) (by decide +kernel)⟩
theorem lw_p23 : lw_okq (⟨"WildBells", "leftAtWorst", "(JII)I"⟩, 8) := ⟨⟨by decide +kernel, by decide +kernel⟩, List.mem_of_getElem? (i := 15) (by decide +kernel), List.mem_of_getElem? (i := 431) (by decide +kernel), List.mem_of_getElem? (i := 432) (by decide +kernel)⟩
theorem lw_p24 : lw_okq (⟨"WildBells$Woods", "greatestRing", "()I"⟩, 14) := ⟨⟨by decide +kernel, by decide +kernel⟩, List.mem_of_getElem? (i := 23) (by decide +kernel), List.mem_of_getElem? (i := 459) (by decide +kernel), List.mem_of_getElem? (i := 460) (by decide +kernel)⟩
theorem lw_p25 : lw_okq (⟨"WildBells$Woods", "isRing", "(I)Z"⟩, 14) := ⟨⟨by decide +kernel, by decide +kernel⟩, List.mem_of_getElem? (i := 23) (by decide +kernel), List.mem_of_getElem? (i := 464) (by decide +kernel), List.mem_of_getElem? (i := 465) (by decide +kernel)⟩
theorem lw_p26 : lw_okq (⟨"WildBells$Woods", "notesThere", "()I"⟩, 14) := ⟨⟨by decide +kernel, by decide +kernel⟩, List.mem_of_getElem? (i := 23) (by decide +kernel), List.mem_of_getElem? (i := 484) (by decide +kernel), List.mem_of_getElem? (i := 485) (by decide +kernel)⟩
theorem lw_p27 : lw_okq (⟨"WildBells$Woods", "strike", "()V"⟩, 14) := ⟨⟨by decide +kernel, by decide +kernel⟩, List.mem_of_getElem? (i := 23) (by decide +kernel), List.mem_of_getElem? (i := 497) (by decide +kernel), List.mem_of_getElem? (i := 498) (by decide +kernel)⟩
theorem lw_p28 : lw_okq (⟨"WildBells$Woods", "draw", "()I"⟩, 14) := ⟨⟨by decide +kernel, by decide +kernel⟩, List.mem_of_getElem? (i := 23) (by decide +kernel), List.mem_of_getElem? (i := 501) (by decide +kernel), List.mem_of_getElem? (i := 502) (by decide +kernel)⟩
theorem lw_p29 : lw_okq (⟨"WildBells$Tape", "append", "(I)V"⟩, 7) := ⟨⟨by decide +kernel, by decide +kernel⟩, List.mem_of_getElem? (i := 93) (by decide +kernel), List.mem_of_getElem? (i := 514) (by decide +kernel), List.mem_of_getElem? (i := 515) (by decide +kernel)⟩
theorem lw_p30 : lw_okq (⟨"WildBells$Tape", "readInto", "(LWildBells$Woods;)I"⟩, 7) := ⟨⟨by decide +kernel, by decide +kernel⟩, List.mem_of_getElem? (i := 93) (by decide +kernel), List.mem_of_getElem? (i := 526) (by decide +kernel), List.mem_of_getElem? (i := 527) (by decide +kernel)⟩
theorem lw_p31 : lw_okq (⟨"WildBells$Tape", "advance", "()V"⟩, 7) := ⟨⟨by decide +kernel, by decide +kernel⟩, List.mem_of_getElem? (i := 93) (by decide +kernel), List.mem_of_getElem? (i := 530) (by decide +kernel), List.mem_of_getElem? (i := 531) (by decide +kernel)⟩
def lw_privs_2 : List (MethodName × Nat) := [(⟨"WildBells$Woods", "becomes", "(LWildBells$Woods;)V"⟩, 14), (⟨"WildBells$Woods", "runHours", "(I)V"⟩, 14), (⟨"WildBells$Woods", "tillCaught", "(II)I"⟩, 14), (⟨"WildBells", "soundFault", "(II)I"⟩, 8), (⟨"WildBells$Sheet", "isMissing", "()Z"⟩, 3), (⟨"WildBells$Sheet", "earsAreCells", "()Z"⟩, 3), (⟨"WildBells$Sheet", "tellsLoud", "(II)Z"⟩, 3), (⟨"WildBells", "leftAtWorst", "(JII)I"⟩, 8), (⟨"WildBells$Woods", "greatestRing", "()I"⟩, 14), (⟨"WildBells$Woods", "isRing", "(I)Z"⟩, 14), (⟨"WildBells$Woods", "notesThere", "()I"⟩, 14), (⟨"WildBells$Woods", "strike", "()V"⟩, 14), (⟨"WildBells$Woods", "draw", "()I"⟩, 14), (⟨"WildBells$Tape", "append", "(I)V"⟩, 7), (⟨"WildBells$Tape", "readInto", "(LWildBells$Woods;)I"⟩, 7), (⟨"WildBells$Tape", "advance", "()V"⟩, 7)]
theorem lw_r2 : ∀ q ∈ lw_privs_2, lw_okq q := List.forall_mem_cons.mpr ⟨lw_p16, List.forall_mem_cons.mpr ⟨lw_p17, List.forall_mem_cons.mpr ⟨lw_p18, List.forall_mem_cons.mpr ⟨lw_p19, List.forall_mem_cons.mpr ⟨lw_p20, List.forall_mem_cons.mpr ⟨lw_p21, List.forall_mem_cons.mpr ⟨lw_p22, List.forall_mem_cons.mpr ⟨lw_p23, List.forall_mem_cons.mpr ⟨lw_p24, List.forall_mem_cons.mpr ⟨lw_p25, List.forall_mem_cons.mpr ⟨lw_p26, List.forall_mem_cons.mpr ⟨lw_p27, List.forall_mem_cons.mpr ⟨lw_p28, List.forall_mem_cons.mpr ⟨lw_p29, List.forall_mem_cons.mpr ⟨lw_p30, List.forall_mem_cons.mpr ⟨lw_p31, fun _ h => absurd h List.not_mem_nil⟩⟩⟩⟩⟩⟩⟩⟩⟩⟩⟩⟩⟩⟩⟩⟩
theorem lw_p32 : lw_okq (⟨"WildBells$Tape", "readItem", "(LWildBells$Woods;)V"⟩, 7) := ⟨⟨by decide +kernel, by decide +kernel⟩, List.mem_of_getElem? (i := 93) (by decide +kernel), List.mem_of_getElem? (i := 534) (by decide +kernel), List.mem_of_getElem? (i := 535) (by decide +kernel)⟩
theorem lw_p33 : lw_okq (⟨"WildBells$Tape", "kindOfWord", "()I"⟩, 7) := ⟨⟨by decide +kernel, by decide +kernel⟩, List.mem_of_getElem? (i := 93) (by decide +kernel), List.mem_of_getElem? (i := 538) (by decide +kernel), List.mem_of_getElem? (i := 539) (by decide +kernel)⟩
theorem lw_p34 : lw_okq (⟨"WildBells$Tape", "isWord", "(Ljava/lang/String;)Z"⟩, 7) := ⟨⟨by decide +kernel, by decide +kernel⟩, List.mem_of_getElem? (i := 93) (by decide +kernel), List.mem_of_getElem? (i := 552) (by decide +kernel), List.mem_of_getElem? (i := 553) (by decide +kernel)⟩
theorem lw_p35 : lw_okq (⟨"WildBells$Tape", "readBell", "(LWildBells$Woods;I)V"⟩, 7) := ⟨⟨by decide +kernel, by decide +kernel⟩, List.mem_of_getElem? (i := 93) (by decide +kernel), List.mem_of_getElem? (i := 604) (by decide +kernel), List.mem_of_getElem? (i := 605) (by decide +kernel)⟩
theorem lw_p36 : lw_okq (⟨"WildBells$Tape", "takePerhaps", "(Ljava/lang/String;III)I"⟩, 7) := ⟨⟨by decide +kernel, by decide +kernel⟩, List.mem_of_getElem? (i := 93) (by decide +kernel), List.mem_of_getElem? (i := 609) (by decide +kernel), List.mem_of_getElem? (i := 610) (by decide +kernel)⟩
theorem lw_p37 : lw_okq (⟨"WildBells$Tape", "takeNumber", "(II)I"⟩, 7) := ⟨⟨by decide +kernel, by decide +kernel⟩, List.mem_of_getElem? (i := 93) (by decide +kernel), List.mem_of_getElem? (i := 613) (by decide +kernel), List.mem_of_getElem? (i := 614) (by decide +kernel)⟩
theorem lw_p38 : lw_okq (⟨"WildBells$Tape", "readNet", "(LWildBells$Woods;)V"⟩, 7) := ⟨⟨by decide +kernel, by decide +kernel⟩, List.mem_of_getElem? (i := 93) (by decide +kernel), List.mem_of_getElem? (i := 621) (by decide +kernel), List.mem_of_getElem? (i := 622) (by decide +kernel)⟩
theorem lw_p39 : lw_okq (⟨"WildBells$Tape", "readThick", "(LWildBells$Woods;)V"⟩, 7) := ⟨⟨by decide +kernel, by decide +kernel⟩, List.mem_of_getElem? (i := 93) (by decide +kernel), List.mem_of_getElem? (i := 627) (by decide +kernel), List.mem_of_getElem? (i := 628) (by decide +kernel)⟩
theorem lw_p40 : lw_okq (⟨"WildBells$Tape", "readHunter", "(LWildBells$Woods;)V"⟩, 7) := ⟨⟨by decide +kernel, by decide +kernel⟩, List.mem_of_getElem? (i := 93) (by decide +kernel), List.mem_of_getElem? (i := 632) (by decide +kernel), List.mem_of_getElem? (i := 633) (by decide +kernel)⟩
theorem lw_p41 : lw_okq (⟨"WildBells$Tape", "readFear", "(LWildBells$Woods;)V"⟩, 7) := ⟨⟨by decide +kernel, by decide +kernel⟩, List.mem_of_getElem? (i := 93) (by decide +kernel), List.mem_of_getElem? (i := 637) (by decide +kernel), List.mem_of_getElem? (i := 638) (by decide +kernel)⟩
theorem lw_p42 : lw_okq (⟨"WildBells$Sheet", "begin", "(II)V"⟩, 3) := ⟨⟨by decide +kernel, by decide +kernel⟩, List.mem_of_getElem? (i := 123) (by decide +kernel), List.mem_of_getElem? (i := 658) (by decide +kernel), List.mem_of_getElem? (i := 659) (by decide +kernel)⟩
theorem lw_p43 : lw_okq (⟨"WildBells$Sheet", "put", "(II)V"⟩, 3) := ⟨⟨by decide +kernel, by decide +kernel⟩, List.mem_of_getElem? (i := 123) (by decide +kernel), List.mem_of_getElem? (i := 666) (by decide +kernel), List.mem_of_getElem? (i := 667) (by decide +kernel)⟩
theorem lw_p44 : lw_okq (⟨"WildBells$Sheet", "hasFrom", "(II)Z"⟩, 3) := ⟨⟨by decide +kernel, by decide +kernel⟩, List.mem_of_getElem? (i := 123) (by decide +kernel), List.mem_of_getElem? (i := 674) (by decide +kernel), List.mem_of_getElem? (i := 675) (by decide +kernel)⟩
theorem lw_p45 : lw_okq (⟨"WildBells$Woods", "followsInRing", "(II)Z"⟩, 14) := ⟨⟨by decide +kernel, by decide +kernel⟩, List.mem_of_getElem? (i := 23) (by decide +kernel), List.mem_of_getElem? (i := 687) (by decide +kernel), List.mem_of_getElem? (i := 688) (by decide +kernel)⟩
theorem lw_p46 : lw_okq (⟨"WildBells$Woods", "spotsHolding", "()I"⟩, 14) := ⟨⟨by decide +kernel, by decide +kernel⟩, List.mem_of_getElem? (i := 23) (by decide +kernel), List.mem_of_getElem? (i := 707) (by decide +kernel), List.mem_of_getElem? (i := 708) (by decide +kernel)⟩
theorem lw_p47 : lw_okq (⟨"WildBellsModel", "finding", "(I)I"⟩, 24) := ⟨⟨by decide +kernel, by decide +kernel⟩, List.mem_of_getElem? (i := 715) (by decide +kernel), List.mem_of_getElem? (i := 814) (by decide +kernel), List.mem_of_getElem? (i := 815) (by decide +kernel)⟩
def lw_privs_3 : List (MethodName × Nat) := [(⟨"WildBells$Tape", "readItem", "(LWildBells$Woods;)V"⟩, 7), (⟨"WildBells$Tape", "kindOfWord", "()I"⟩, 7), (⟨"WildBells$Tape", "isWord", "(Ljava/lang/String;)Z"⟩, 7), (⟨"WildBells$Tape", "readBell", "(LWildBells$Woods;I)V"⟩, 7), (⟨"WildBells$Tape", "takePerhaps", "(Ljava/lang/String;III)I"⟩, 7), (⟨"WildBells$Tape", "takeNumber", "(II)I"⟩, 7), (⟨"WildBells$Tape", "readNet", "(LWildBells$Woods;)V"⟩, 7), (⟨"WildBells$Tape", "readThick", "(LWildBells$Woods;)V"⟩, 7), (⟨"WildBells$Tape", "readHunter", "(LWildBells$Woods;)V"⟩, 7), (⟨"WildBells$Tape", "readFear", "(LWildBells$Woods;)V"⟩, 7), (⟨"WildBells$Sheet", "begin", "(II)V"⟩, 3), (⟨"WildBells$Sheet", "put", "(II)V"⟩, 3), (⟨"WildBells$Sheet", "hasFrom", "(II)Z"⟩, 3), (⟨"WildBells$Woods", "followsInRing", "(II)Z"⟩, 14), (⟨"WildBells$Woods", "spotsHolding", "()I"⟩, 14), (⟨"WildBellsModel", "finding", "(I)I"⟩, 24)]
theorem lw_r3 : ∀ q ∈ lw_privs_3, lw_okq q := List.forall_mem_cons.mpr ⟨lw_p32, List.forall_mem_cons.mpr ⟨lw_p33, List.forall_mem_cons.mpr ⟨lw_p34, List.forall_mem_cons.mpr ⟨lw_p35, List.forall_mem_cons.mpr ⟨lw_p36, List.forall_mem_cons.mpr ⟨lw_p37, List.forall_mem_cons.mpr ⟨lw_p38, List.forall_mem_cons.mpr ⟨lw_p39, List.forall_mem_cons.mpr ⟨lw_p40, List.forall_mem_cons.mpr ⟨lw_p41, List.forall_mem_cons.mpr ⟨lw_p42, List.forall_mem_cons.mpr ⟨lw_p43, List.forall_mem_cons.mpr ⟨lw_p44, List.forall_mem_cons.mpr ⟨lw_p45, List.forall_mem_cons.mpr ⟨lw_p46, List.forall_mem_cons.mpr ⟨lw_p47, fun _ h => absurd h List.not_mem_nil⟩⟩⟩⟩⟩⟩⟩⟩⟩⟩⟩⟩⟩⟩⟩⟩
theorem lw_p48 : lw_okq (⟨"WildBellsModel", "become", "(II)I"⟩, 24) := ⟨⟨by decide +kernel, by decide +kernel⟩, List.mem_of_getElem? (i := 715) (by decide +kernel), List.mem_of_getElem? (i := 818) (by decide +kernel), List.mem_of_getElem? (i := 819) (by decide +kernel)⟩
theorem lw_p49 : lw_okq (⟨"WildBellsModel", "comes", "(IIII)I"⟩, 24) := ⟨⟨by decide +kernel, by decide +kernel⟩, List.mem_of_getElem? (i := 715) (by decide +kernel), List.mem_of_getElem? (i := 845) (by decide +kernel), List.mem_of_getElem? (i := 846) (by decide +kernel)⟩
theorem lw_p50 : lw_okq (⟨"WildBellsModel", "isBell", "(I)Z"⟩, 24) := ⟨⟨by decide +kernel, by decide +kernel⟩, List.mem_of_getElem? (i := 715) (by decide +kernel), List.mem_of_getElem? (i := 856) (by decide +kernel), List.mem_of_getElem? (i := 857) (by decide +kernel)⟩
theorem lw_p51 : lw_okq (⟨"WildBellsModel", "bellIs", "(II)I"⟩, 24) := ⟨⟨by decide +kernel, by decide +kernel⟩, List.mem_of_getElem? (i := 715) (by decide +kernel), List.mem_of_getElem? (i := 860) (by decide +kernel), List.mem_of_getElem? (i := 861) (by decide +kernel)⟩
theorem lw_p52 : lw_okq (⟨"WildBellsModel", "nextOf", "(I)I"⟩, 24) := ⟨⟨by decide +kernel, by decide +kernel⟩, List.mem_of_getElem? (i := 715) (by decide +kernel), List.mem_of_getElem? (i := 864) (by decide +kernel), List.mem_of_getElem? (i := 865) (by decide +kernel)⟩
theorem lw_p53 : lw_okq (⟨"WildBellsModel", "worthOf", "(II)I"⟩, 24) := ⟨⟨by decide +kernel, by decide +kernel⟩, List.mem_of_getElem? (i := 715) (by decide +kernel), List.mem_of_getElem? (i := 868) (by decide +kernel), List.mem_of_getElem? (i := 869) (by decide +kernel)⟩
theorem lw_p54 : lw_okq (⟨"WildBellsModel", "nearestOther", "(III)I"⟩, 24) := ⟨⟨by decide +kernel, by decide +kernel⟩, List.mem_of_getElem? (i := 715) (by decide +kernel), List.mem_of_getElem? (i := 885) (by decide +kernel), List.mem_of_getElem? (i := 886) (by decide +kernel)⟩
theorem lw_p55 : lw_okq (⟨"WildBellsModel", "isCaught", "(I)Z"⟩, 24) := ⟨⟨by decide +kernel, by decide +kernel⟩, List.mem_of_getElem? (i := 715) (by decide +kernel), List.mem_of_getElem? (i := 889) (by decide +kernel), List.mem_of_getElem? (i := 890) (by decide +kernel)⟩
theorem lw_p56 : lw_okq (⟨"WildBellsModel", "beside", "(II)I"⟩, 24) := ⟨⟨by decide +kernel, by decide +kernel⟩, List.mem_of_getElem? (i := 715) (by decide +kernel), List.mem_of_getElem? (i := 894) (by decide +kernel), List.mem_of_getElem? (i := 895) (by decide +kernel)⟩
theorem lw_p57 : lw_okq (⟨"WildBellsModel", "heardAt", "(I)I"⟩, 24) := ⟨⟨by decide +kernel, by decide +kernel⟩, List.mem_of_getElem? (i := 715) (by decide +kernel), List.mem_of_getElem? (i := 913) (by decide +kernel), List.mem_of_getElem? (i := 914) (by decide +kernel)⟩
theorem lw_p58 : lw_okq (⟨"WildBellsModel", "loudAt", "(II)I"⟩, 24) := ⟨⟨by decide +kernel, by decide +kernel⟩, List.mem_of_getElem? (i := 715) (by decide +kernel), List.mem_of_getElem? (i := 917) (by decide +kernel), List.mem_of_getElem? (i := 918) (by decide +kernel)⟩
theorem lw_p59 : lw_okq (⟨"WildBellsModel", "loudOf", "(III)I"⟩, 24) := ⟨⟨by decide +kernel, by decide +kernel⟩, List.mem_of_getElem? (i := 715) (by decide +kernel), List.mem_of_getElem? (i := 921) (by decide +kernel), List.mem_of_getElem? (i := 922) (by decide +kernel)⟩
theorem lw_p60 : lw_okq (⟨"WildBellsModel", "manyAt", "(I)I"⟩, 24) := ⟨⟨by decide +kernel, by decide +kernel⟩, List.mem_of_getElem? (i := 715) (by decide +kernel), List.mem_of_getElem? (i := 925) (by decide +kernel), List.mem_of_getElem? (i := 926) (by decide +kernel)⟩
theorem lw_p61 : lw_okq (⟨"WildBellsModel", "hours", "(I)V"⟩, 24) := ⟨⟨by decide +kernel, by decide +kernel⟩, List.mem_of_getElem? (i := 715) (by decide +kernel), List.mem_of_getElem? (i := 935) (by decide +kernel), List.mem_of_getElem? (i := 936) (by decide +kernel)⟩
theorem lw_p62 : lw_okq (⟨"WildBellsModel", "hour", "()V"⟩, 24) := ⟨⟨by decide +kernel, by decide +kernel⟩, List.mem_of_getElem? (i := 715) (by decide +kernel), List.mem_of_getElem? (i := 939) (by decide +kernel), List.mem_of_getElem? (i := 940) (by decide +kernel)⟩
theorem lw_p63 : lw_okq (⟨"WildBellsModel", "hasNet", "(I)Z"⟩, 24) := ⟨⟨by decide +kernel, by decide +kernel⟩, List.mem_of_getElem? (i := 715) (by decide +kernel), List.mem_of_getElem? (i := 943) (by decide +kernel), List.mem_of_getElem? (i := 944) (by decide +kernel)⟩
def lw_privs_4 : List (MethodName × Nat) := [(⟨"WildBellsModel", "become", "(II)I"⟩, 24), (⟨"WildBellsModel", "comes", "(IIII)I"⟩, 24), (⟨"WildBellsModel", "isBell", "(I)Z"⟩, 24), (⟨"WildBellsModel", "bellIs", "(II)I"⟩, 24), (⟨"WildBellsModel", "nextOf", "(I)I"⟩, 24), (⟨"WildBellsModel", "worthOf", "(II)I"⟩, 24), (⟨"WildBellsModel", "nearestOther", "(III)I"⟩, 24), (⟨"WildBellsModel", "isCaught", "(I)Z"⟩, 24), (⟨"WildBellsModel", "beside", "(II)I"⟩, 24), (⟨"WildBellsModel", "heardAt", "(I)I"⟩, 24), (⟨"WildBellsModel", "loudAt", "(II)I"⟩, 24), (⟨"WildBellsModel", "loudOf", "(III)I"⟩, 24), (⟨"WildBellsModel", "manyAt", "(I)I"⟩, 24), (⟨"WildBellsModel", "hours", "(I)V"⟩, 24), (⟨"WildBellsModel", "hour", "()V"⟩, 24), (⟨"WildBellsModel", "hasNet", "(I)Z"⟩, 24)]
theorem lw_r4 : ∀ q ∈ lw_privs_4, lw_okq q := List.forall_mem_cons.mpr ⟨lw_p48, List.forall_mem_cons.mpr ⟨lw_p49, List.forall_mem_cons.mpr ⟨lw_p50, List.forall_mem_cons.mpr ⟨lw_p51, List.forall_mem_cons.mpr ⟨lw_p52, List.forall_mem_cons.mpr ⟨lw_p53, List.forall_mem_cons.mpr ⟨lw_p54, List.forall_mem_cons.mpr ⟨lw_p55, List.forall_mem_cons.mpr ⟨lw_p56, List.forall_mem_cons.mpr ⟨lw_p57, List.forall_mem_cons.mpr ⟨lw_p58, List.forall_mem_cons.mpr ⟨lw_p59, List.forall_mem_cons.mpr ⟨lw_p60, List.forall_mem_cons.mpr ⟨lw_p61, List.forall_mem_cons.mpr ⟨lw_p62, List.forall_mem_cons.mpr ⟨lw_p63, fun _ h => absurd h List.not_mem_nil⟩⟩⟩⟩⟩⟩⟩⟩⟩⟩⟩⟩⟩⟩⟩⟩
theorem lw_p64 : lw_okq (⟨"WildBellsModel", "caughtNow", "()I"⟩, 24) := ⟨⟨by decide +kernel, by decide +kernel⟩, List.mem_of_getElem? (i := 715) (by decide +kernel), List.mem_of_getElem? (i := 947) (by decide +kernel), List.mem_of_getElem? (i := 948) (by decide +kernel)⟩
theorem lw_p65 : lw_okq (⟨"WildBellsModel", "nets", "()I"⟩, 24) := ⟨⟨by decide +kernel, by decide +kernel⟩, List.mem_of_getElem? (i := 715) (by decide +kernel), List.mem_of_getElem? (i := 958) (by decide +kernel), List.mem_of_getElem? (i := 959) (by decide +kernel)⟩
theorem lw_p66 : lw_okq (⟨"WildBellsModel", "caughtWeight", "()I"⟩, 24) := ⟨⟨by decide +kernel, by decide +kernel⟩, List.mem_of_getElem? (i := 715) (by decide +kernel), List.mem_of_getElem? (i := 962) (by decide +kernel), List.mem_of_getElem? (i := 963) (by decide +kernel)⟩
theorem lw_p67 : lw_okq (⟨"WildBellsModel", "fieldBehind", "(III)I"⟩, 24) := ⟨⟨by decide +kernel, by decide +kernel⟩, List.mem_of_getElem? (i := 715) (by decide +kernel), List.mem_of_getElem? (i := 974) (by decide +kernel), List.mem_of_getElem? (i := 975) (by decide +kernel)⟩
theorem lw_p68 : lw_okq (⟨"WildBellsModel", "putBack", "(I)I"⟩, 24) := ⟨⟨by decide +kernel, by decide +kernel⟩, List.mem_of_getElem? (i := 715) (by decide +kernel), List.mem_of_getElem? (i := 981) (by decide +kernel), List.mem_of_getElem? (i := 982) (by decide +kernel)⟩
theorem lw_p69 : lw_okq (⟨"WildBellsModel", "caughtIn", "(II)I"⟩, 24) := ⟨⟨by decide +kernel, by decide +kernel⟩, List.mem_of_getElem? (i := 715) (by decide +kernel), List.mem_of_getElem? (i := 989) (by decide +kernel), List.mem_of_getElem? (i := 990) (by decide +kernel)⟩
theorem lw_p70 : lw_okq (⟨"WildBellsModel", "told", "(I)I"⟩, 24) := ⟨⟨by decide +kernel, by decide +kernel⟩, List.mem_of_getElem? (i := 715) (by decide +kernel), List.mem_of_getElem? (i := 994) (by decide +kernel), List.mem_of_getElem? (i := 995) (by decide +kernel)⟩
theorem lw_p71 : lw_okq (⟨"WildBellsModel", "setBehind", "(I)I"⟩, 24) := ⟨⟨by decide +kernel, by decide +kernel⟩, List.mem_of_getElem? (i := 715) (by decide +kernel), List.mem_of_getElem? (i := 1007) (by decide +kernel), List.mem_of_getElem? (i := 1008) (by decide +kernel)⟩
theorem lw_p72 : lw_okq (⟨"WildBellsModel", "orNone", "(I)I"⟩, 24) := ⟨⟨by decide +kernel, by decide +kernel⟩, List.mem_of_getElem? (i := 715) (by decide +kernel), List.mem_of_getElem? (i := 1015) (by decide +kernel), List.mem_of_getElem? (i := 1016) (by decide +kernel)⟩
theorem lw_p73 : lw_okq (⟨"WildBellsModel", "lacksOf", "(II)I"⟩, 24) := ⟨⟨by decide +kernel, by decide +kernel⟩, List.mem_of_getElem? (i := 715) (by decide +kernel), List.mem_of_getElem? (i := 1035) (by decide +kernel), List.mem_of_getElem? (i := 1036) (by decide +kernel)⟩
theorem lw_p74 : lw_okq (⟨"WildBellsModel", "lacks", "(I)I"⟩, 24) := ⟨⟨by decide +kernel, by decide +kernel⟩, List.mem_of_getElem? (i := 715) (by decide +kernel), List.mem_of_getElem? (i := 1039) (by decide +kernel), List.mem_of_getElem? (i := 1040) (by decide +kernel)⟩
theorem lw_p75 : lw_okq (⟨"WildBellsModel", "areEars", "(I)Z"⟩, 24) := ⟨⟨by decide +kernel, by decide +kernel⟩, List.mem_of_getElem? (i := 715) (by decide +kernel), List.mem_of_getElem? (i := 1047) (by decide +kernel), List.mem_of_getElem? (i := 1048) (by decide +kernel)⟩
theorem lw_p76 : lw_okq (⟨"WildBellsModel", "ears", "(I)I"⟩, 24) := ⟨⟨by decide +kernel, by decide +kernel⟩, List.mem_of_getElem? (i := 715) (by decide +kernel), List.mem_of_getElem? (i := 1051) (by decide +kernel), List.mem_of_getElem? (i := 1052) (by decide +kernel)⟩
theorem lw_p77 : lw_okq (⟨"WildBellsModel", "earOf", "(II)I"⟩, 24) := ⟨⟨by decide +kernel, by decide +kernel⟩, List.mem_of_getElem? (i := 715) (by decide +kernel), List.mem_of_getElem? (i := 1055) (by decide +kernel), List.mem_of_getElem? (i := 1056) (by decide +kernel)⟩
theorem lw_p78 : lw_okq (⟨"WildBellsModel", "isSo", "(III)Z"⟩, 24) := ⟨⟨by decide +kernel, by decide +kernel⟩, List.mem_of_getElem? (i := 715) (by decide +kernel), List.mem_of_getElem? (i := 1059) (by decide +kernel), List.mem_of_getElem? (i := 1060) (by decide +kernel)⟩
theorem lw_p79 : lw_okq (⟨"WildBellsModel", "worst", "(III)I"⟩, 24) := ⟨⟨by decide +kernel, by decide +kernel⟩, List.mem_of_getElem? (i := 715) (by decide +kernel), List.mem_of_getElem? (i := 1071) (by decide +kernel), List.mem_of_getElem? (i := 1072) (by decide +kernel)⟩
def lw_privs_5 : List (MethodName × Nat) := [(⟨"WildBellsModel", "caughtNow", "()I"⟩, 24), (⟨"WildBellsModel", "nets", "()I"⟩, 24), (⟨"WildBellsModel", "caughtWeight", "()I"⟩, 24), (⟨"WildBellsModel", "fieldBehind", "(III)I"⟩, 24), (⟨"WildBellsModel", "putBack", "(I)I"⟩, 24), (⟨"WildBellsModel", "caughtIn", "(II)I"⟩, 24), (⟨"WildBellsModel", "told", "(I)I"⟩, 24), (⟨"WildBellsModel", "setBehind", "(I)I"⟩, 24), (⟨"WildBellsModel", "orNone", "(I)I"⟩, 24), (⟨"WildBellsModel", "lacksOf", "(II)I"⟩, 24), (⟨"WildBellsModel", "lacks", "(I)I"⟩, 24), (⟨"WildBellsModel", "areEars", "(I)Z"⟩, 24), (⟨"WildBellsModel", "ears", "(I)I"⟩, 24), (⟨"WildBellsModel", "earOf", "(II)I"⟩, 24), (⟨"WildBellsModel", "isSo", "(III)Z"⟩, 24), (⟨"WildBellsModel", "worst", "(III)I"⟩, 24)]
theorem lw_r5 : ∀ q ∈ lw_privs_5, lw_okq q := List.forall_mem_cons.mpr ⟨lw_p64, List.forall_mem_cons.mpr ⟨lw_p65, List.forall_mem_cons.mpr ⟨lw_p66, List.forall_mem_cons.mpr ⟨lw_p67, List.forall_mem_cons.mpr ⟨lw_p68, List.forall_mem_cons.mpr ⟨lw_p69, List.forall_mem_cons.mpr ⟨lw_p70, List.forall_mem_cons.mpr ⟨lw_p71, List.forall_mem_cons.mpr ⟨lw_p72, List.forall_mem_cons.mpr ⟨lw_p73, List.forall_mem_cons.mpr ⟨lw_p74, List.forall_mem_cons.mpr ⟨lw_p75, List.forall_mem_cons.mpr ⟨lw_p76, List.forall_mem_cons.mpr ⟨lw_p77, List.forall_mem_cons.mpr ⟨lw_p78, List.forall_mem_cons.mpr ⟨lw_p79, fun _ h => absurd h List.not_mem_nil⟩⟩⟩⟩⟩⟩⟩⟩⟩⟩⟩⟩⟩⟩⟩⟩
theorem lw_p80 : lw_okq (⟨"WildBellsModel", "greatest", "()I"⟩, 24) := ⟨⟨by decide +kernel, by decide +kernel⟩, List.mem_of_getElem? (i := 715) (by decide +kernel), List.mem_of_getElem? (i := 1094) (by decide +kernel), List.mem_of_getElem? (i := 1095) (by decide +kernel)⟩
theorem lw_p81 : lw_okq (⟨"WildBellsModel", "areRing", "(I)Z"⟩, 24) := ⟨⟨by decide +kernel, by decide +kernel⟩, List.mem_of_getElem? (i := 715) (by decide +kernel), List.mem_of_getElem? (i := 1098) (by decide +kernel), List.mem_of_getElem? (i := 1099) (by decide +kernel)⟩
theorem lw_p82 : lw_okq (⟨"WildBellsModel", "drawn", "(I)I"⟩, 24) := ⟨⟨by decide +kernel, by decide +kernel⟩, List.mem_of_getElem? (i := 715) (by decide +kernel), List.mem_of_getElem? (i := 1131) (by decide +kernel), List.mem_of_getElem? (i := 1132) (by decide +kernel)⟩
theorem lw_p83 : lw_okq (⟨"WildBellsModel", "next", "()V"⟩, 24) := ⟨⟨by decide +kernel, by decide +kernel⟩, List.mem_of_getElem? (i := 715) (by decide +kernel), List.mem_of_getElem? (i := 1152) (by decide +kernel), List.mem_of_getElem? (i := 1153) (by decide +kernel)⟩
theorem lw_p84 : lw_okq (⟨"WildBellsModel", "byteAt", "(I)I"⟩, 24) := ⟨⟨by decide +kernel, by decide +kernel⟩, List.mem_of_getElem? (i := 715) (by decide +kernel), List.mem_of_getElem? (i := 1156) (by decide +kernel), List.mem_of_getElem? (i := 1157) (by decide +kernel)⟩
theorem lw_p85 : lw_okq (⟨"WildBellsModel", "readItem", "()V"⟩, 24) := ⟨⟨by decide +kernel, by decide +kernel⟩, List.mem_of_getElem? (i := 715) (by decide +kernel), List.mem_of_getElem? (i := 1160) (by decide +kernel), List.mem_of_getElem? (i := 1161) (by decide +kernel)⟩
theorem lw_p86 : lw_okq (⟨"WildBellsModel", "kindTold", "()I"⟩, 24) := ⟨⟨by decide +kernel, by decide +kernel⟩, List.mem_of_getElem? (i := 715) (by decide +kernel), List.mem_of_getElem? (i := 1164) (by decide +kernel), List.mem_of_getElem? (i := 1165) (by decide +kernel)⟩
theorem lw_p87 : lw_okq (⟨"WildBellsModel", "isWord", "(Ljava/lang/String;)Z"⟩, 24) := ⟨⟨by decide +kernel, by decide +kernel⟩, List.mem_of_getElem? (i := 715) (by decide +kernel), List.mem_of_getElem? (i := 1168) (by decide +kernel), List.mem_of_getElem? (i := 1169) (by decide +kernel)⟩
theorem lw_p88 : lw_okq (⟨"WildBellsModel", "must", "(Z)V"⟩, 24) := ⟨⟨by decide +kernel, by decide +kernel⟩, List.mem_of_getElem? (i := 715) (by decide +kernel), List.mem_of_getElem? (i := 1174) (by decide +kernel), List.mem_of_getElem? (i := 1175) (by decide +kernel)⟩
theorem lw_p89 : lw_okq (⟨"WildBellsModel", "isNext", "(Ljava/lang/String;)Z"⟩, 24) := ⟨⟨by decide +kernel, by decide +kernel⟩, List.mem_of_getElem? (i := 715) (by decide +kernel), List.mem_of_getElem? (i := 1179) (by decide +kernel), List.mem_of_getElem? (i := 1180) (by decide +kernel)⟩
theorem lw_p90 : lw_okq (⟨"WildBellsModel", "number", "(II)I"⟩, 24) := ⟨⟨by decide +kernel, by decide +kernel⟩, List.mem_of_getElem? (i := 715) (by decide +kernel), List.mem_of_getElem? (i := 1183) (by decide +kernel), List.mem_of_getElem? (i := 1184) (by decide +kernel)⟩
theorem lw_p91 : lw_okq (⟨"WildBellsModel", "item", "(IIII)V"⟩, 24) := ⟨⟨by decide +kernel, by decide +kernel⟩, List.mem_of_getElem? (i := 715) (by decide +kernel), List.mem_of_getElem? (i := 1189) (by decide +kernel), List.mem_of_getElem? (i := 1190) (by decide +kernel)⟩
theorem lw_p92 : lw_okq (⟨"WildBellsModel", "isToldSo", "(I)I"⟩, 24) := ⟨⟨by decide +kernel, by decide +kernel⟩, List.mem_of_getElem? (i := 715) (by decide +kernel), List.mem_of_getElem? (i := 1197) (by decide +kernel), List.mem_of_getElem? (i := 1198) (by decide +kernel)⟩
def lw_privs_6 : List (MethodName × Nat) := [(⟨"WildBellsModel", "greatest", "()I"⟩, 24), (⟨"WildBellsModel", "areRing", "(I)Z"⟩, 24), (⟨"WildBellsModel", "drawn", "(I)I"⟩, 24), (⟨"WildBellsModel", "next", "()V"⟩, 24), (⟨"WildBellsModel", "byteAt", "(I)I"⟩, 24), (⟨"WildBellsModel", "readItem", "()V"⟩, 24), (⟨"WildBellsModel", "kindTold", "()I"⟩, 24), (⟨"WildBellsModel", "isWord", "(Ljava/lang/String;)Z"⟩, 24), (⟨"WildBellsModel", "must", "(Z)V"⟩, 24), (⟨"WildBellsModel", "isNext", "(Ljava/lang/String;)Z"⟩, 24), (⟨"WildBellsModel", "number", "(II)I"⟩, 24), (⟨"WildBellsModel", "item", "(IIII)V"⟩, 24), (⟨"WildBellsModel", "isToldSo", "(I)I"⟩, 24)]
theorem lw_r6 : ∀ q ∈ lw_privs_6, lw_okq q := List.forall_mem_cons.mpr ⟨lw_p80, List.forall_mem_cons.mpr ⟨lw_p81, List.forall_mem_cons.mpr ⟨lw_p82, List.forall_mem_cons.mpr ⟨lw_p83, List.forall_mem_cons.mpr ⟨lw_p84, List.forall_mem_cons.mpr ⟨lw_p85, List.forall_mem_cons.mpr ⟨lw_p86, List.forall_mem_cons.mpr ⟨lw_p87, List.forall_mem_cons.mpr ⟨lw_p88, List.forall_mem_cons.mpr ⟨lw_p89, List.forall_mem_cons.mpr ⟨lw_p90, List.forall_mem_cons.mpr ⟨lw_p91, List.forall_mem_cons.mpr ⟨lw_p92, fun _ h => absurd h List.not_mem_nil⟩⟩⟩⟩⟩⟩⟩⟩⟩⟩⟩⟩⟩
def lw_privs : List (MethodName × Nat) := lw_privs_1 ++ (lw_privs_2 ++ (lw_privs_3 ++ (lw_privs_4 ++ (lw_privs_5 ++ (lw_privs_6)))))
def lw_tbl : List Cond := k2_sels lw_privs ++ tables_1
theorem lw_privs_ok : ∀ q ∈ lw_privs, lw_okq q := by
  show ∀ q ∈ lw_privs_1 ++ (lw_privs_2 ++ (lw_privs_3 ++ (lw_privs_4 ++ (lw_privs_5 ++ (lw_privs_6))))), lw_okq q
  exact List.forall_mem_append.mpr ⟨lw_r1, List.forall_mem_append.mpr ⟨lw_r2, List.forall_mem_append.mpr ⟨lw_r3, List.forall_mem_append.mpr ⟨lw_r4, List.forall_mem_append.mpr ⟨lw_r5, lw_r6⟩⟩⟩⟩⟩
end
section
def RX0 : String := "WildBells$Sheet"
def TX0 : u_T := fun k => match k with
  | 0 => ("WildBells$Sheet", "bits", "I", false)
  | 1 => ("WildBells$Sheet", "size", "I", false)
  | _ => ("WildBells$Sheet", "numbers", "[I", true)
def tyX0 : Nat → FieldType := fun k => match k with
  | 0 => .int
  | 1 => .int
  | _ => .array .int
abbrev wsX00 : List Cond := u_ws RX0 TX0 3
theorem nmX0 : ∀ a, a < 3 → ∀ b, b < 3 → a ≠ b → (TX0 a).2.1 ≠ (TX0 b).2.1 := by decide +kernel
theorem tyX0_ok : ∀ k, k < 3 → parseFieldDescriptor (TX0 k).2.2.1 = some (tyX0 k) := by decide +kernel
abbrev cX0_init : ByteArray := prog_2_method_1_code
def yX0_init : MethodName := ⟨RX0, "<init>", "()V"⟩
abbrev cX0_isMissing : ByteArray := prog_2_method_2_code
def yX0_isMissing : MethodName := ⟨RX0, "isMissing", "()Z"⟩
abbrev cX0_begin : ByteArray := prog_2_method_3_code
def yX0_begin : MethodName := ⟨RX0, "begin", "(II)V"⟩
abbrev cX0_put : ByteArray := prog_2_method_4_code
def yX0_put : MethodName := ⟨RX0, "put", "(II)V"⟩
abbrev cX0_hasFrom : ByteArray := prog_2_method_5_code
def yX0_hasFrom : MethodName := ⟨RX0, "hasFrom", "(II)Z"⟩
abbrev cX0_earsAreCells : ByteArray := prog_2_method_6_code
def yX0_earsAreCells : MethodName := ⟨RX0, "earsAreCells", "()Z"⟩
abbrev cX0_tellsLoud : ByteArray := prog_2_method_7_code
def yX0_tellsLoud : MethodName := ⟨RX0, "tellsLoud", "(II)Z"⟩
def RX1 : String := "WildBells$Tape"
def TX1 : u_T := fun k => match k with
  | 0 => ("WildBells$Tape", "bytes", "[I", true)
  | 1 => ("WildBells$Tape", "size", "I", false)
  | 2 => ("WildBells$Tape", "token", "I", false)
  | 3 => ("WildBells$Tape", "start", "I", false)
  | 4 => ("WildBells$Tape", "behind", "I", false)
  | 5 => ("WildBells$Tape", "value", "I", false)
  | _ => ("WildBells$Tape", "fault", "I", false)
def tyX1 : Nat → FieldType := fun k => match k with
  | 0 => .array .int
  | 1 => .int
  | 2 => .int
  | 3 => .int
  | 4 => .int
  | 5 => .int
  | _ => .int
abbrev wsX10 : List Cond := u_ws RX1 TX1 7
theorem nmX1 : ∀ a, a < 7 → ∀ b, b < 7 → a ≠ b → (TX1 a).2.1 ≠ (TX1 b).2.1 := by decide +kernel
theorem tyX1_ok : ∀ k, k < 7 → parseFieldDescriptor (TX1 k).2.2.1 = some (tyX1 k) := by decide +kernel
abbrev cX1_init : ByteArray := prog_3_method_1_code
def yX1_init : MethodName := ⟨RX1, "<init>", "()V"⟩
abbrev cX1_append : ByteArray := prog_3_method_2_code
def yX1_append : MethodName := ⟨RX1, "append", "(I)V"⟩
abbrev cX1_readInto : ByteArray := prog_3_method_3_code
def yX1_readInto : MethodName := ⟨RX1, "readInto", "(LWildBells$Woods;)I"⟩
abbrev cX1_advance : ByteArray := prog_3_method_4_code
def yX1_advance : MethodName := ⟨RX1, "advance", "()V"⟩
abbrev cX1_isWord : ByteArray := prog_3_method_5_code
def yX1_isWord : MethodName := ⟨RX1, "isWord", "(Ljava/lang/String;)Z"⟩
abbrev cX1_readItem : ByteArray := prog_3_method_6_code
def yX1_readItem : MethodName := ⟨RX1, "readItem", "(LWildBells$Woods;)V"⟩
abbrev cX1_kindOfWord : ByteArray := prog_3_method_7_code
def yX1_kindOfWord : MethodName := ⟨RX1, "kindOfWord", "()I"⟩
abbrev cX1_wordOfKind : ByteArray := prog_3_method_8_code
def yX1_wordOfKind : MethodName := ⟨RX1, "wordOfKind", "(I)Ljava/lang/String;"⟩
abbrev cX1_readBell : ByteArray := prog_3_method_9_code
def yX1_readBell : MethodName := ⟨RX1, "readBell", "(LWildBells$Woods;I)V"⟩
abbrev cX1_readNet : ByteArray := prog_3_method_10_code
def yX1_readNet : MethodName := ⟨RX1, "readNet", "(LWildBells$Woods;)V"⟩
abbrev cX1_readThick : ByteArray := prog_3_method_11_code
def yX1_readThick : MethodName := ⟨RX1, "readThick", "(LWildBells$Woods;)V"⟩
abbrev cX1_readHunter : ByteArray := prog_3_method_12_code
def yX1_readHunter : MethodName := ⟨RX1, "readHunter", "(LWildBells$Woods;)V"⟩
abbrev cX1_readFear : ByteArray := prog_3_method_13_code
def yX1_readFear : MethodName := ⟨RX1, "readFear", "(LWildBells$Woods;)V"⟩
abbrev cX1_takeNumber : ByteArray := prog_3_method_14_code
def yX1_takeNumber : MethodName := ⟨RX1, "takeNumber", "(II)I"⟩
abbrev cX1_takePerhaps : ByteArray := prog_3_method_15_code
def yX1_takePerhaps : MethodName := ⟨RX1, "takePerhaps", "(Ljava/lang/String;III)I"⟩
def RX2 : String := "WildBells$Woods"
def TX2 : u_T := fun k => match k with
  | 0 => ("WildBells$Woods", "hour", "I", false)
  | 1 => ("WildBells$Woods", "nets", "J", false)
  | 2 => ("WildBells$Woods", "thickness", "[I", true)
  | 3 => ("WildBells$Woods", "hunterAt", "[I", true)
  | 4 => ("WildBells$Woods", "mostFear", "I", false)
  | 5 => ("WildBells$Woods", "bells", "I", false)
  | 6 => ("WildBells$Woods", "kind", "[I", true)
  | 7 => ("WildBells$Woods", "at", "[I", true)
  | 8 => ("WildBells$Woods", "note", "[I", true)
  | 9 => ("WildBells$Woods", "weight", "[I", true)
  | 10 => ("WildBells$Woods", "caughtBells", "I", false)
  | 11 => ("WildBells$Woods", "z", "I", false)
  | 12 => ("WildBells$Woods", "spots", "[I", true)
  | _ => ("WildBells$Woods", "trod", "J", false)
def tyX2 : Nat → FieldType := fun k => match k with
  | 0 => .int
  | 1 => .long
  | 2 => .array .int
  | 3 => .array .int
  | 4 => .int
  | 5 => .int
  | 6 => .array .int
  | 7 => .array .int
  | 8 => .array .int
  | 9 => .array .int
  | 10 => .int
  | 11 => .int
  | 12 => .array .int
  | _ => .long
abbrev wsX20 : List Cond := u_ws RX2 TX2 14
theorem nmX2 : ∀ a, a < 14 → ∀ b, b < 14 → a ≠ b → (TX2 a).2.1 ≠ (TX2 b).2.1 := by decide +kernel
theorem tyX2_ok : ∀ k, k < 14 → parseFieldDescriptor (TX2 k).2.2.1 = some (tyX2 k) := by decide +kernel
abbrev cX2_init : ByteArray := prog_4_method_1_code
def yX2_init : MethodName := ⟨RX2, "<init>", "()V"⟩
abbrev cX2_becomes : ByteArray := prog_4_method_2_code
def yX2_becomes : MethodName := ⟨RX2, "becomes", "(LWildBells$Woods;)V"⟩
abbrev cX2_hasNet : ByteArray := prog_4_method_3_code
def yX2_hasNet : MethodName := ⟨RX2, "hasNet", "(I)Z"⟩
abbrev cX2_setNet : ByteArray := prog_4_method_4_code
def yX2_setNet : MethodName := ⟨RX2, "setNet", "(IZ)V"⟩
abbrev cX2_addBell : ByteArray := prog_4_method_5_code
def yX2_addBell : MethodName := ⟨RX2, "addBell", "(II)I"⟩
abbrev cX2_isFree : ByteArray := prog_4_method_6_code
def yX2_isFree : MethodName := ⟨RX2, "isFree", "(I)Z"⟩
abbrev cX2_trait : ByteArray := prog_4_method_7_code
def yX2_trait : MethodName := ⟨RX2, "trait", "(II)I"⟩
abbrev cX2_setTrait : ByteArray := prog_4_method_8_code
def yX2_setTrait : MethodName := ⟨RX2, "setTrait", "(III)V"⟩
abbrev cX2_heardAt : ByteArray := prog_4_method_9_code
def yX2_heardAt : MethodName := ⟨RX2, "heardAt", "(I)I"⟩
abbrev cX2_bellsAt : ByteArray := prog_4_method_10_code
def yX2_bellsAt : MethodName := ⟨RX2, "bellsAt", "(I)I"⟩
abbrev cX2_weightOf : ByteArray := prog_4_method_11_code
def yX2_weightOf : MethodName := ⟨RX2, "weightOf", "(I)I"⟩
abbrev cX2_spotsHolding : ByteArray := prog_4_method_12_code
def yX2_spotsHolding : MethodName := ⟨RX2, "spotsHolding", "()I"⟩
abbrev cX2_worthFor : ByteArray := prog_4_method_13_code
def yX2_worthFor : MethodName := ⟨RX2, "worthFor", "(II)I"⟩
abbrev cX2_fromHunters : ByteArray := prog_4_method_14_code
def yX2_fromHunters : MethodName := ⟨RX2, "fromHunters", "(I)I"⟩
abbrev cX2_nearestOther : ByteArray := prog_4_method_15_code
def yX2_nearestOther : MethodName := ⟨RX2, "nearestOther", "(IIII)I"⟩
abbrev cX2_nextCell : ByteArray := prog_4_method_16_code
def yX2_nextCell : MethodName := ⟨RX2, "nextCell", "(I)I"⟩
abbrev cX2_cellBeside : ByteArray := prog_4_method_17_code
def yX2_cellBeside : MethodName := ⟨RX2, "cellBeside", "(II)I"⟩
abbrev cX2_hourGoes : ByteArray := prog_4_method_18_code
def yX2_hourGoes : MethodName := ⟨RX2, "hourGoes", "()Z"⟩
abbrev cX2_runHours : ByteArray := prog_4_method_19_code
def yX2_runHours : MethodName := ⟨RX2, "runHours", "(I)V"⟩
abbrev cX2_tillCaught : ByteArray := prog_4_method_20_code
def yX2_tillCaught : MethodName := ⟨RX2, "tillCaught", "(II)I"⟩
abbrev cX2_draw : ByteArray := prog_4_method_21_code
def yX2_draw : MethodName := ⟨RX2, "draw", "()I"⟩
abbrev cX2_strike : ByteArray := prog_4_method_22_code
def yX2_strike : MethodName := ⟨RX2, "strike", "()V"⟩
abbrev cX2_notesThere : ByteArray := prog_4_method_23_code
def yX2_notesThere : MethodName := ⟨RX2, "notesThere", "()I"⟩
abbrev cX2_isRing : ByteArray := prog_4_method_24_code
def yX2_isRing : MethodName := ⟨RX2, "isRing", "(I)Z"⟩
abbrev cX2_greatestRing : ByteArray := prog_4_method_25_code
def yX2_greatestRing : MethodName := ⟨RX2, "greatestRing", "()I"⟩
abbrev cX2_followsInRing : ByteArray := prog_4_method_26_code
def yX2_followsInRing : MethodName := ⟨RX2, "followsInRing", "(II)Z"⟩
def RX3 : String := "WildBells"
def TX3 : u_T := fun k => match k with
  | 0 => ("WildBells", "woods", "LWildBells$Woods;", true)
  | 1 => ("WildBells", "trial", "LWildBells$Woods;", true)
  | 2 => ("WildBells", "kept", "LWildBells$Woods;", true)
  | 3 => ("WildBells", "anyKept", "Z", false)
  | 4 => ("WildBells", "tape", "LWildBells$Tape;", true)
  | 5 => ("WildBells", "sheets", "[LWildBells$Sheet;", true)
  | 6 => ("WildBells", "told", "[I", true)
  | _ => ("WildBells", "groups", "[I", true)
def tyX3 : Nat → FieldType := fun k => match k with
  | 0 => .object "WildBells$Woods"
  | 1 => .object "WildBells$Woods"
  | 2 => .object "WildBells$Woods"
  | 3 => .boolean
  | 4 => .object "WildBells$Tape"
  | 5 => .array (.object "WildBells$Sheet")
  | 6 => .array .int
  | _ => .array .int
abbrev wsX30 : List Cond := u_ws RX3 TX3 8
theorem nmX3 : ∀ a, a < 8 → ∀ b, b < 8 → a ≠ b → (TX3 a).2.1 ≠ (TX3 b).2.1 := by decide +kernel
theorem tyX3_ok : ∀ k, k < 8 → parseFieldDescriptor (TX3 k).2.2.1 = some (tyX3 k) := by decide +kernel
abbrev cX3_init : ByteArray := prog_1_method_1_code
def yX3_init : MethodName := ⟨RX3, "<init>", "()V"⟩
abbrev cX3_net : ByteArray := prog_1_method_2_code
def yX3_net : MethodName := ⟨RX3, "net", "(II)I"⟩
abbrev cX3_thick : ByteArray := prog_1_method_3_code
def yX3_thick : MethodName := ⟨RX3, "thick", "(II)I"⟩
abbrev cX3_cell : ByteArray := prog_1_method_4_code
def yX3_cell : MethodName := ⟨RX3, "cell", "(II)I"⟩
abbrev cX3_hunter : ByteArray := prog_1_method_5_code
def yX3_hunter : MethodName := ⟨RX3, "hunter", "(II)I"⟩
abbrev cX3_fear : ByteArray := prog_1_method_6_code
def yX3_fear : MethodName := ⟨RX3, "fear", "(I)I"⟩
abbrev cX3_bell : ByteArray := prog_1_method_7_code
def yX3_bell : MethodName := ⟨RX3, "bell", "(II)I"⟩
abbrev cX3_of : ByteArray := prog_1_method_8_code
def yX3_of : MethodName := ⟨RX3, "of", "(II)I"⟩
abbrev cX3_change : ByteArray := prog_1_method_9_code
def yX3_change : MethodName := ⟨RX3, "change", "(III)I"⟩
abbrev cX3_worth : ByteArray := prog_1_method_10_code
def yX3_worth : MethodName := ⟨RX3, "worth", "(II)I"⟩
abbrev cX3_go : ByteArray := prog_1_method_11_code
def yX3_go : MethodName := ⟨RX3, "go", "(I)I"⟩
abbrev cX3_now : ByteArray := prog_1_method_12_code
def yX3_now : MethodName := ⟨RX3, "now", "(I)I"⟩
abbrev cX3_loud : ByteArray := prog_1_method_13_code
def yX3_loud : MethodName := ⟨RX3, "loud", "(II)I"⟩
abbrev cX3_ahead : ByteArray := prog_1_method_14_code
def yX3_ahead : MethodName := ⟨RX3, "ahead", "(II)I"⟩
abbrev cX3_when : ByteArray := prog_1_method_15_code
def yX3_when : MethodName := ⟨RX3, "when", "(I)I"⟩
abbrev cX3_still : ByteArray := prog_1_method_16_code
def yX3_still : MethodName := ⟨RX3, "still", "()I"⟩
abbrev cX3_caught : ByteArray := prog_1_method_17_code
def yX3_caught : MethodName := ⟨RX3, "caught", "(I)I"⟩
abbrev cX3_netFor : ByteArray := prog_1_method_18_code
def yX3_netFor : MethodName := ⟨RX3, "netFor", "(I)I"⟩
abbrev cX3_best : ByteArray := prog_1_method_19_code
def yX3_best : MethodName := ⟨RX3, "best", "(I)I"⟩
abbrev cX3_drive : ByteArray := prog_1_method_20_code
def yX3_drive : MethodName := ⟨RX3, "drive", "(II)I"⟩
abbrev cX3_kindFor : ByteArray := prog_1_method_21_code
def yX3_kindFor : MethodName := ⟨RX3, "kindFor", "(I)I"⟩
abbrev cX3_stands : ByteArray := prog_1_method_22_code
def yX3_stands : MethodName := ⟨RX3, "stands", "(II)I"⟩
abbrev cX3_where : ByteArray := prog_1_method_23_code
def yX3_where : MethodName := ⟨RX3, "where", "(II)I"⟩
abbrev cX3_ear : ByteArray := prog_1_method_24_code
def yX3_ear : MethodName := ⟨RX3, "ear", "(II)I"⟩
abbrev cX3_whose : ByteArray := prog_1_method_25_code
def yX3_whose : MethodName := ⟨RX3, "whose", "(I)I"⟩
abbrev cX3_stock : ByteArray := prog_1_method_26_code
def yX3_stock : MethodName := ⟨RX3, "stock", "(III)I"⟩
abbrev cX3_lasts : ByteArray := prog_1_method_27_code
def yX3_lasts : MethodName := ⟨RX3, "lasts", "(II)I"⟩
abbrev cX3_ring : ByteArray := prog_1_method_28_code
def yX3_ring : MethodName := ⟨RX3, "ring", "()I"⟩
abbrev cX3_rings : ByteArray := prog_1_method_29_code
def yX3_rings : MethodName := ⟨RX3, "rings", "()I"⟩
abbrev cX3_peals : ByteArray := prog_1_method_30_code
def yX3_peals : MethodName := ⟨RX3, "peals", "()I"⟩
abbrev cX3_wanted : ByteArray := prog_1_method_31_code
def yX3_wanted : MethodName := ⟨RX3, "wanted", "()I"⟩
abbrev cX3_changes : ByteArray := prog_1_method_32_code
def yX3_changes : MethodName := ⟨RX3, "changes", "(I)J"⟩
abbrev cX3_thunder : ByteArray := prog_1_method_33_code
def yX3_thunder : MethodName := ⟨RX3, "thunder", "(I)I"⟩
abbrev cX3_seed : ByteArray := prog_1_method_34_code
def yX3_seed : MethodName := ⟨RX3, "seed", "(I)I"⟩
abbrev cX3_feed : ByteArray := prog_1_method_35_code
def yX3_feed : MethodName := ⟨RX3, "feed", "(II)I"⟩
abbrev cX3_wipe : ByteArray := prog_1_method_36_code
def yX3_wipe : MethodName := ⟨RX3, "wipe", "()I"⟩
abbrev cX3_text : ByteArray := prog_1_method_37_code
def yX3_text : MethodName := ⟨RX3, "text", "()I"⟩
abbrev cX3_hold : ByteArray := prog_1_method_38_code
def yX3_hold : MethodName := ⟨RX3, "hold", "(II)I"⟩
abbrev cX3_as : ByteArray := prog_1_method_39_code
def yX3_as : MethodName := ⟨RX3, "as", "(II)I"⟩
abbrev cX3_sheet : ByteArray := prog_1_method_40_code
def yX3_sheet : MethodName := ⟨RX3, "sheet", "(III)I"⟩
abbrev cX3_write : ByteArray := prog_1_method_41_code
def yX3_write : MethodName := ⟨RX3, "write", "(III)I"⟩
abbrev cX3_copy : ByteArray := prog_1_method_42_code
def yX3_copy : MethodName := ⟨RX3, "copy", "(IIIII)I"⟩
abbrev cX3_load : ByteArray := prog_1_method_43_code
def yX3_load : MethodName := ⟨RX3, "load", "(I)I"⟩
abbrev cX3_judge : ByteArray := prog_1_method_44_code
def yX3_judge : MethodName := ⟨RX3, "judge", "(I)I"⟩
abbrev cX3_image : ByteArray := prog_1_method_45_code
def yX3_image : MethodName := ⟨RX3, "image", "()I"⟩
abbrev cX3_undo : ByteArray := prog_1_method_46_code
def yX3_undo : MethodName := ⟨RX3, "undo", "()I"⟩
abbrev cX3_tear : ByteArray := prog_1_method_47_code
def yX3_tear : MethodName := ⟨RX3, "tear", "()I"⟩
abbrev cX3_count : ByteArray := prog_1_method_48_code
def yX3_count : MethodName := ⟨RX3, "count", "(I)I"⟩
abbrev cX3_status : ByteArray := prog_1_method_49_code
def yX3_status : MethodName := ⟨RX3, "status", "(I)I"⟩
abbrev cX3_finding : ByteArray := prog_1_method_50_code
def yX3_finding : MethodName := ⟨RX3, "finding", "(I)I"⟩
abbrev cX3_isBell : ByteArray := prog_1_method_51_code
def yX3_isBell : MethodName := ⟨RX3, "isBell", "(I)Z"⟩
abbrev cX3_isCell : ByteArray := prog_1_method_52_code
def yX3_isCell : MethodName := ⟨RX3, "isCell", "(I)Z"⟩
abbrev cX3_isHunter : ByteArray := prog_1_method_53_code
def yX3_isHunter : MethodName := ⟨RX3, "isHunter", "(I)Z"⟩
abbrev cX3_isKind : ByteArray := prog_1_method_54_code
def yX3_isKind : MethodName := ⟨RX3, "isKind", "(I)Z"⟩
abbrev cX3_isNote : ByteArray := prog_1_method_55_code
def yX3_isNote : MethodName := ⟨RX3, "isNote", "(I)Z"⟩
abbrev cX3_isWeight : ByteArray := prog_1_method_56_code
def yX3_isWeight : MethodName := ⟨RX3, "isWeight", "(I)Z"⟩
abbrev cX3_isStock : ByteArray := prog_1_method_57_code
def yX3_isStock : MethodName := ⟨RX3, "isStock", "(I)Z"⟩
abbrev cX3_isSpot : ByteArray := prog_1_method_58_code
def yX3_isSpot : MethodName := ⟨RX3, "isSpot", "(I)Z"⟩
abbrev cX3_isSheet : ByteArray := prog_1_method_59_code
def yX3_isSheet : MethodName := ⟨RX3, "isSheet", "(I)Z"⟩
abbrev cX3_isTrait : ByteArray := prog_1_method_60_code
def yX3_isTrait : MethodName := ⟨RX3, "isTrait", "(I)Z"⟩
abbrev cX3_suits : ByteArray := prog_1_method_61_code
def yX3_suits : MethodName := ⟨RX3, "suits", "(II)Z"⟩
abbrev cX3_soundFault : ByteArray := prog_1_method_62_code
def yX3_soundFault : MethodName := ⟨RX3, "soundFault", "(II)I"⟩
abbrev cX3_standingCells : ByteArray := prog_1_method_63_code
def yX3_standingCells : MethodName := ⟨RX3, "standingCells", "(LWildBells$Sheet;I)J"⟩
abbrev cX3_leftAtWorst : ByteArray := prog_1_method_64_code
def yX3_leftAtWorst : MethodName := ⟨RX3, "leftAtWorst", "(JII)I"⟩
abbrev cX3_stockBehind : ByteArray := prog_1_method_65_code
def yX3_stockBehind : MethodName := ⟨RX3, "stockBehind", "(III)I"⟩
abbrev cX3_holds : ByteArray := prog_1_method_66_code
def yX3_holds : MethodName := ⟨RX3, "holds", "(JI)Z"⟩
abbrev cX3_apart : ByteArray := prog_1_method_67_code
def yX3_apart : MethodName := ⟨RX3, "apart", "(II)I"⟩
abbrev cX3_loudness : ByteArray := prog_1_method_68_code
def yX3_loudness : MethodName := ⟨RX3, "loudness", "(II)I"⟩
abbrev cX3_isUnder : ByteArray := prog_1_method_69_code
def yX3_isUnder : MethodName := ⟨RX3, "isUnder", "(II)Z"⟩
abbrev cX3_longestRun : ByteArray := prog_1_method_70_code
def yX3_longestRun : MethodName := ⟨RX3, "longestRun", "(I)I"⟩
def RX4 : String := "WildBellsModel"
def TX4 : u_T := fun k => match k with
  | 0 => ("WildBellsModel", "now", "[I", true)
  | 1 => ("WildBellsModel", "kept", "[I", true)
  | 2 => ("WildBellsModel", "aside", "[I", true)
  | 3 => ("WildBellsModel", "isKept", "Z", false)
  | 4 => ("WildBellsModel", "found", "[I", true)
  | 5 => ("WildBellsModel", "down", "[I", true)
  | 6 => ("WildBellsModel", "right", "[I", true)
  | 7 => ("WildBellsModel", "isMoved", "Z", false)
  | 8 => ("WildBellsModel", "parts", "[I", true)
  | 9 => ("WildBellsModel", "tape", "[I", true)
  | 10 => ("WildBellsModel", "taped", "I", false)
  | 11 => ("WildBellsModel", "begins", "I", false)
  | 12 => ("WildBellsModel", "ends", "I", false)
  | 13 => ("WildBellsModel", "sort", "I", false)
  | 14 => ("WildBellsModel", "value", "I", false)
  | 15 => ("WildBellsModel", "isWrong", "Z", false)
  | 16 => ("WildBellsModel", "kindNames", "[Ljava/lang/String;", true)
  | 17 => ("WildBellsModel", "items", "[I", true)
  | 18 => ("WildBellsModel", "itemMany", "I", false)
  | 19 => ("WildBellsModel", "bellThen", "I", false)
  | 20 => ("WildBellsModel", "widths", "[I", true)
  | 21 => ("WildBellsModel", "sizes", "[I", true)
  | 22 => ("WildBellsModel", "numbers", "[I", true)
  | _ => ("WildBellsModel", "moved", "[I", true)
def tyX4 : Nat → FieldType := fun k => match k with
  | 0 => .array .int
  | 1 => .array .int
  | 2 => .array .int
  | 3 => .boolean
  | 4 => .array .int
  | 5 => .array .int
  | 6 => .array .int
  | 7 => .boolean
  | 8 => .array .int
  | 9 => .array .int
  | 10 => .int
  | 11 => .int
  | 12 => .int
  | 13 => .int
  | 14 => .int
  | 15 => .boolean
  | 16 => .array (.object "java/lang/String")
  | 17 => .array .int
  | 18 => .int
  | 19 => .int
  | 20 => .array .int
  | 21 => .array .int
  | 22 => .array .int
  | _ => .array .int
abbrev wsX40 : List Cond := u_ws RX4 TX4 24
theorem nmX4 : ∀ a, a < 24 → ∀ b, b < 24 → a ≠ b → (TX4 a).2.1 ≠ (TX4 b).2.1 := by decide +kernel
theorem tyX4_ok : ∀ k, k < 24 → parseFieldDescriptor (TX4 k).2.2.1 = some (tyX4 k) := by decide +kernel
abbrev cX4_init : ByteArray := prog_6_method_1_code
def yX4_init : MethodName := ⟨RX4, "<init>", "()V"⟩
abbrev cX4_finding : ByteArray := prog_6_method_2_code
def yX4_finding : MethodName := ⟨RX4, "finding", "(I)I"⟩
abbrev cX4_within : ByteArray := prog_6_method_3_code
def yX4_within : MethodName := ⟨RX4, "within", "(III)Z"⟩
abbrev cX4_become : ByteArray := prog_6_method_4_code
def yX4_become : MethodName := ⟨RX4, "become", "(II)I"⟩
abbrev cX4_copyRow : ByteArray := prog_6_method_5_code
def yX4_copyRow : MethodName := ⟨RX4, "copyRow", "([I[I)V"⟩
abbrev cX4_putBack : ByteArray := prog_6_method_6_code
def yX4_putBack : MethodName := ⟨RX4, "putBack", "(I)I"⟩
abbrev cX4_has : ByteArray := prog_6_method_7_code
def yX4_has : MethodName := ⟨RX4, "has", "(II)Z"⟩
abbrev cX4_bits : ByteArray := prog_6_method_8_code
def yX4_bits : MethodName := ⟨RX4, "bits", "(I)I"⟩
abbrev cX4_isCell : ByteArray := prog_6_method_9_code
def yX4_isCell : MethodName := ⟨RX4, "isCell", "(I)Z"⟩
abbrev cX4_apart : ByteArray := prog_6_method_10_code
def yX4_apart : MethodName := ⟨RX4, "apart", "(II)I"⟩
abbrev cX4_beside : ByteArray := prog_6_method_11_code
def yX4_beside : MethodName := ⟨RX4, "beside", "(II)I"⟩
abbrev cX4_hasNet : ByteArray := prog_6_method_12_code
def yX4_hasNet : MethodName := ⟨RX4, "hasNet", "(I)Z"⟩
abbrev cX4_net : ByteArray := prog_6_method_13_code
def yX4_net : MethodName := ⟨RX4, "net", "(II)I"⟩
abbrev cX4_thick : ByteArray := prog_6_method_14_code
def yX4_thick : MethodName := ⟨RX4, "thick", "(II)I"⟩
abbrev cX4_isHunter : ByteArray := prog_6_method_15_code
def yX4_isHunter : MethodName := ⟨RX4, "isHunter", "(I)Z"⟩
abbrev cX4_hunter : ByteArray := prog_6_method_16_code
def yX4_hunter : MethodName := ⟨RX4, "hunter", "(II)I"⟩
abbrev cX4_fear : ByteArray := prog_6_method_17_code
def yX4_fear : MethodName := ⟨RX4, "fear", "(I)I"⟩
abbrev cX4_isBell : ByteArray := prog_6_method_18_code
def yX4_isBell : MethodName := ⟨RX4, "isBell", "(I)Z"⟩
abbrev cX4_isKind : ByteArray := prog_6_method_19_code
def yX4_isKind : MethodName := ⟨RX4, "isKind", "(I)Z"⟩
abbrev cX4_at : ByteArray := prog_6_method_20_code
def yX4_at : MethodName := ⟨RX4, "at", "(II)I"⟩
abbrev cX4_bellIs : ByteArray := prog_6_method_21_code
def yX4_bellIs : MethodName := ⟨RX4, "bellIs", "(II)I"⟩
abbrev cX4_isCaught : ByteArray := prog_6_method_22_code
def yX4_isCaught : MethodName := ⟨RX4, "isCaught", "(I)Z"⟩
abbrev cX4_comes : ByteArray := prog_6_method_23_code
def yX4_comes : MethodName := ⟨RX4, "comes", "(IIII)I"⟩
abbrev cX4_bell : ByteArray := prog_6_method_24_code
def yX4_bell : MethodName := ⟨RX4, "bell", "(II)I"⟩
abbrev cX4_above : ByteArray := prog_6_method_25_code
def yX4_above : MethodName := ⟨RX4, "above", "(I)I"⟩
abbrev cX4_isUnder : ByteArray := prog_6_method_26_code
def yX4_isUnder : MethodName := ⟨RX4, "isUnder", "(II)Z"⟩
abbrev cX4_nearestOther : ByteArray := prog_6_method_27_code
def yX4_nearestOther : MethodName := ⟨RX4, "nearestOther", "(III)I"⟩
abbrev cX4_worthOf : ByteArray := prog_6_method_28_code
def yX4_worthOf : MethodName := ⟨RX4, "worthOf", "(II)I"⟩
abbrev cX4_nextOf : ByteArray := prog_6_method_29_code
def yX4_nextOf : MethodName := ⟨RX4, "nextOf", "(I)I"⟩
abbrev cX4_of : ByteArray := prog_6_method_30_code
def yX4_of : MethodName := ⟨RX4, "of", "(II)I"⟩
abbrev cX4_mayBe : ByteArray := prog_6_method_31_code
def yX4_mayBe : MethodName := ⟨RX4, "mayBe", "(II)Z"⟩
abbrev cX4_change : ByteArray := prog_6_method_32_code
def yX4_change : MethodName := ⟨RX4, "change", "(III)I"⟩
abbrev cX4_worth : ByteArray := prog_6_method_33_code
def yX4_worth : MethodName := ⟨RX4, "worth", "(II)I"⟩
abbrev cX4_loudOf : ByteArray := prog_6_method_34_code
def yX4_loudOf : MethodName := ⟨RX4, "loudOf", "(III)I"⟩
abbrev cX4_loudAt : ByteArray := prog_6_method_35_code
def yX4_loudAt : MethodName := ⟨RX4, "loudAt", "(II)I"⟩
abbrev cX4_heardAt : ByteArray := prog_6_method_36_code
def yX4_heardAt : MethodName := ⟨RX4, "heardAt", "(I)I"⟩
abbrev cX4_manyAt : ByteArray := prog_6_method_37_code
def yX4_manyAt : MethodName := ⟨RX4, "manyAt", "(I)I"⟩
abbrev cX4_cell : ByteArray := prog_6_method_38_code
def yX4_cell : MethodName := ⟨RX4, "cell", "(II)I"⟩
abbrev cX4_caughtNow : ByteArray := prog_6_method_39_code
def yX4_caughtNow : MethodName := ⟨RX4, "caughtNow", "()I"⟩
abbrev cX4_hour : ByteArray := prog_6_method_40_code
def yX4_hour : MethodName := ⟨RX4, "hour", "()V"⟩
abbrev cX4_hours : ByteArray := prog_6_method_41_code
def yX4_hours : MethodName := ⟨RX4, "hours", "(I)V"⟩
abbrev cX4_go : ByteArray := prog_6_method_42_code
def yX4_go : MethodName := ⟨RX4, "go", "(I)I"⟩
abbrev cX4_nets : ByteArray := prog_6_method_43_code
def yX4_nets : MethodName := ⟨RX4, "nets", "()I"⟩
abbrev cX4_caughtWeight : ByteArray := prog_6_method_44_code
def yX4_caughtWeight : MethodName := ⟨RX4, "caughtWeight", "()I"⟩
abbrev cX4_now : ByteArray := prog_6_method_45_code
def yX4_now : MethodName := ⟨RX4, "now", "(I)I"⟩
abbrev cX4_loud : ByteArray := prog_6_method_46_code
def yX4_loud : MethodName := ⟨RX4, "loud", "(II)I"⟩
abbrev cX4_fieldBehind : ByteArray := prog_6_method_47_code
def yX4_fieldBehind : MethodName := ⟨RX4, "fieldBehind", "(III)I"⟩
abbrev cX4_ahead : ByteArray := prog_6_method_48_code
def yX4_ahead : MethodName := ⟨RX4, "ahead", "(II)I"⟩
abbrev cX4_caughtIn : ByteArray := prog_6_method_49_code
def yX4_caughtIn : MethodName := ⟨RX4, "caughtIn", "(II)I"⟩
abbrev cX4_told : ByteArray := prog_6_method_50_code
def yX4_told : MethodName := ⟨RX4, "told", "(I)I"⟩
abbrev cX4_when : ByteArray := prog_6_method_51_code
def yX4_when : MethodName := ⟨RX4, "when", "(I)I"⟩
abbrev cX4_still : ByteArray := prog_6_method_52_code
def yX4_still : MethodName := ⟨RX4, "still", "()I"⟩
abbrev cX4_setBehind : ByteArray := prog_6_method_53_code
def yX4_setBehind : MethodName := ⟨RX4, "setBehind", "(I)I"⟩
abbrev cX4_caught : ByteArray := prog_6_method_54_code
def yX4_caught : MethodName := ⟨RX4, "caught", "(I)I"⟩
abbrev cX4_orNone : ByteArray := prog_6_method_55_code
def yX4_orNone : MethodName := ⟨RX4, "orNone", "(I)I"⟩
abbrev cX4_netFor : ByteArray := prog_6_method_56_code
def yX4_netFor : MethodName := ⟨RX4, "netFor", "(I)I"⟩
abbrev cX4_best : ByteArray := prog_6_method_57_code
def yX4_best : MethodName := ⟨RX4, "best", "(I)I"⟩
abbrev cX4_drive : ByteArray := prog_6_method_58_code
def yX4_drive : MethodName := ⟨RX4, "drive", "(II)I"⟩
abbrev cX4_kindFor : ByteArray := prog_6_method_59_code
def yX4_kindFor : MethodName := ⟨RX4, "kindFor", "(I)I"⟩
abbrev cX4_lacks : ByteArray := prog_6_method_60_code
def yX4_lacks : MethodName := ⟨RX4, "lacks", "(I)I"⟩
abbrev cX4_earOf : ByteArray := prog_6_method_61_code
def yX4_earOf : MethodName := ⟨RX4, "earOf", "(II)I"⟩
abbrev cX4_ears : ByteArray := prog_6_method_62_code
def yX4_ears : MethodName := ⟨RX4, "ears", "(I)I"⟩
abbrev cX4_areEars : ByteArray := prog_6_method_63_code
def yX4_areEars : MethodName := ⟨RX4, "areEars", "(I)Z"⟩
abbrev cX4_isSo : ByteArray := prog_6_method_64_code
def yX4_isSo : MethodName := ⟨RX4, "isSo", "(III)Z"⟩
abbrev cX4_lacksOf : ByteArray := prog_6_method_65_code
def yX4_lacksOf : MethodName := ⟨RX4, "lacksOf", "(II)I"⟩
abbrev cX4_stands : ByteArray := prog_6_method_66_code
def yX4_stands : MethodName := ⟨RX4, "stands", "(II)I"⟩
abbrev cX4_where : ByteArray := prog_6_method_67_code
def yX4_where : MethodName := ⟨RX4, "where", "(II)I"⟩
abbrev cX4_worst : ByteArray := prog_6_method_68_code
def yX4_worst : MethodName := ⟨RX4, "worst", "(III)I"⟩
abbrev cX4_ear : ByteArray := prog_6_method_69_code
def yX4_ear : MethodName := ⟨RX4, "ear", "(II)I"⟩
abbrev cX4_whose : ByteArray := prog_6_method_70_code
def yX4_whose : MethodName := ⟨RX4, "whose", "(I)I"⟩
abbrev cX4_stockBehind : ByteArray := prog_6_method_71_code
def yX4_stockBehind : MethodName := ⟨RX4, "stockBehind", "(III)I"⟩
abbrev cX4_stock : ByteArray := prog_6_method_72_code
def yX4_stock : MethodName := ⟨RX4, "stock", "(III)I"⟩
abbrev cX4_lasts : ByteArray := prog_6_method_73_code
def yX4_lasts : MethodName := ⟨RX4, "lasts", "(II)I"⟩
abbrev cX4_areRing : ByteArray := prog_6_method_74_code
def yX4_areRing : MethodName := ⟨RX4, "areRing", "(I)Z"⟩
abbrev cX4_stepBySteps : ByteArray := prog_6_method_75_code
def yX4_stepBySteps : MethodName := ⟨RX4, "stepBySteps", "(I)Z"⟩
abbrev cX4_greatest : ByteArray := prog_6_method_76_code
def yX4_greatest : MethodName := ⟨RX4, "greatest", "()I"⟩
abbrev cX4_ring : ByteArray := prog_6_method_77_code
def yX4_ring : MethodName := ⟨RX4, "ring", "()I"⟩
abbrev cX4_rings : ByteArray := prog_6_method_78_code
def yX4_rings : MethodName := ⟨RX4, "rings", "()I"⟩
abbrev cX4_peals : ByteArray := prog_6_method_79_code
def yX4_peals : MethodName := ⟨RX4, "peals", "()I"⟩
abbrev cX4_longest : ByteArray := prog_6_method_80_code
def yX4_longest : MethodName := ⟨RX4, "longest", "(I)I"⟩
abbrev cX4_wanted : ByteArray := prog_6_method_81_code
def yX4_wanted : MethodName := ⟨RX4, "wanted", "()I"⟩
abbrev cX4_changes : ByteArray := prog_6_method_82_code
def yX4_changes : MethodName := ⟨RX4, "changes", "(I)J"⟩
abbrev cX4_drawn : ByteArray := prog_6_method_83_code
def yX4_drawn : MethodName := ⟨RX4, "drawn", "(I)I"⟩
abbrev cX4_thunder : ByteArray := prog_6_method_84_code
def yX4_thunder : MethodName := ⟨RX4, "thunder", "(I)I"⟩
abbrev cX4_seed : ByteArray := prog_6_method_85_code
def yX4_seed : MethodName := ⟨RX4, "seed", "(I)I"⟩
abbrev cX4_feed : ByteArray := prog_6_method_86_code
def yX4_feed : MethodName := ⟨RX4, "feed", "(II)I"⟩
abbrev cX4_wipe : ByteArray := prog_6_method_87_code
def yX4_wipe : MethodName := ⟨RX4, "wipe", "()I"⟩
abbrev cX4_byteAt : ByteArray := prog_6_method_88_code
def yX4_byteAt : MethodName := ⟨RX4, "byteAt", "(I)I"⟩
abbrev cX4_next : ByteArray := prog_6_method_89_code
def yX4_next : MethodName := ⟨RX4, "next", "()V"⟩
abbrev cX4_isWord : ByteArray := prog_6_method_90_code
def yX4_isWord : MethodName := ⟨RX4, "isWord", "(Ljava/lang/String;)Z"⟩
abbrev cX4_must : ByteArray := prog_6_method_91_code
def yX4_must : MethodName := ⟨RX4, "must", "(Z)V"⟩
abbrev cX4_number : ByteArray := prog_6_method_92_code
def yX4_number : MethodName := ⟨RX4, "number", "(II)I"⟩
abbrev cX4_item : ByteArray := prog_6_method_93_code
def yX4_item : MethodName := ⟨RX4, "item", "(IIII)V"⟩
abbrev cX4_kindTold : ByteArray := prog_6_method_94_code
def yX4_kindTold : MethodName := ⟨RX4, "kindTold", "()I"⟩
abbrev cX4_isNext : ByteArray := prog_6_method_95_code
def yX4_isNext : MethodName := ⟨RX4, "isNext", "(Ljava/lang/String;)Z"⟩
abbrev cX4_readItem : ByteArray := prog_6_method_96_code
def yX4_readItem : MethodName := ⟨RX4, "readItem", "()V"⟩
abbrev cX4_isToldSo : ByteArray := prog_6_method_97_code
def yX4_isToldSo : MethodName := ⟨RX4, "isToldSo", "(I)I"⟩
abbrev cX4_text : ByteArray := prog_6_method_98_code
def yX4_text : MethodName := ⟨RX4, "text", "()I"⟩
abbrev cX4_isSpot : ByteArray := prog_6_method_99_code
def yX4_isSpot : MethodName := ⟨RX4, "isSpot", "(I)Z"⟩
abbrev cX4_hold : ByteArray := prog_6_method_100_code
def yX4_hold : MethodName := ⟨RX4, "hold", "(II)I"⟩
abbrev cX4_as : ByteArray := prog_6_method_101_code
def yX4_as : MethodName := ⟨RX4, "as", "(II)I"⟩
abbrev cX4_isSheet : ByteArray := prog_6_method_102_code
def yX4_isSheet : MethodName := ⟨RX4, "isSheet", "(I)Z"⟩
abbrev cX4_cutTo : ByteArray := prog_6_method_103_code
def yX4_cutTo : MethodName := ⟨RX4, "cutTo", "(II)I"⟩
abbrev cX4_sheet : ByteArray := prog_6_method_104_code
def yX4_sheet : MethodName := ⟨RX4, "sheet", "(III)I"⟩
abbrev cX4_write : ByteArray := prog_6_method_105_code
def yX4_write : MethodName := ⟨RX4, "write", "(III)I"⟩
abbrev cX4_copy : ByteArray := prog_6_method_106_code
def yX4_copy : MethodName := ⟨RX4, "copy", "(IIIII)I"⟩
abbrev cX4_load : ByteArray := prog_6_method_107_code
def yX4_load : MethodName := ⟨RX4, "load", "(I)I"⟩
abbrev cX4_judge : ByteArray := prog_6_method_108_code
def yX4_judge : MethodName := ⟨RX4, "judge", "(I)I"⟩
abbrev cX4_image : ByteArray := prog_6_method_109_code
def yX4_image : MethodName := ⟨RX4, "image", "()I"⟩
abbrev cX4_undo : ByteArray := prog_6_method_110_code
def yX4_undo : MethodName := ⟨RX4, "undo", "()I"⟩
abbrev cX4_tear : ByteArray := prog_6_method_111_code
def yX4_tear : MethodName := ⟨RX4, "tear", "()I"⟩
abbrev cX4_count : ByteArray := prog_6_method_112_code
def yX4_count : MethodName := ⟨RX4, "count", "(I)I"⟩
abbrev cX4_status : ByteArray := prog_6_method_113_code
def yX4_status : MethodName := ⟨RX4, "status", "(I)I"⟩
def RJ6 : String := "java/lang/Integer"
abbrev cJ6_bitCount_0f7a4 : ByteArray := prog_7_method_49_code
def yJ6_bitCount_0f7a4 : MethodName := ⟨RJ6, "bitCount", "(I)I"⟩
def RJ13 : String := "java/lang/Long"
abbrev cJ13_bitCount_95d88 : ByteArray := prog_8_method_50_code
def yJ13_bitCount_95d88 : MethodName := ⟨RJ13, "bitCount", "(J)I"⟩
def RJ9 : String := "java/lang/Math"
abbrev cJ9_abs_0f7a4 : ByteArray := prog_9_method_59_code
def yJ9_abs_0f7a4 : MethodName := ⟨RJ9, "abs", "(I)I"⟩
abbrev cJ9_max_7cf53 : ByteArray := prog_9_method_65_code
def yJ9_max_7cf53 : MethodName := ⟨RJ9, "max", "(II)I"⟩
abbrev cJ9_min_7cf53 : ByteArray := prog_9_method_69_code
def yJ9_min_7cf53 : MethodName := ⟨RJ9, "min", "(II)I"⟩
def RJ0 : String := "java/lang/String"
abbrev cJ0_length_8abf5 : ByteArray := prog_10_method_54_code
def yJ0_length_8abf5 : MethodName := ⟨RJ0, "length", "()I"⟩
abbrev cJ0_charAt_5068e : ByteArray := prog_10_method_56_code
def yJ0_charAt_5068e : MethodName := ⟨RJ0, "charAt", "(I)C"⟩
abbrev cJ0_coder_7d493 : ByteArray := prog_10_method_152_code
def yJ0_coder_7d493 : MethodName := ⟨RJ0, "coder", "()B"⟩
abbrev cJ0_isLatin1_aae02 : ByteArray := prog_10_method_154_code
def yJ0_isLatin1_aae02 : MethodName := ⟨RJ0, "isLatin1", "()Z"⟩
abbrev cJ0_checkIndex_df160 : ByteArray := prog_10_method_155_code
def yJ0_checkIndex_df160 : MethodName := ⟨RJ0, "checkIndex", "(II)V"⟩
def RJ1 : String := "java/lang/StringLatin1"
abbrev cJ1_charAt_3b067 : ByteArray := prog_11_method_2_code
def yJ1_charAt_3b067 : MethodName := ⟨RJ1, "charAt", "([BI)C"⟩
def RJ2 : String := "java/lang/StringUTF16"
abbrev cJ2_getChar_3b067 : ByteArray := prog_12_method_5_code
def yJ2_getChar_3b067 : MethodName := ⟨RJ2, "getChar", "([BI)C"⟩
abbrev cJ2_length_9d52b : ByteArray := prog_12_method_6_code
def yJ2_length_9d52b : MethodName := ⟨RJ2, "length", "([B)I"⟩
abbrev cJ2_charAt_3b067 : ByteArray := prog_12_method_83_code
def yJ2_charAt_3b067 : MethodName := ⟨RJ2, "charAt", "([BI)C"⟩
abbrev cJ2_checkIndex_2214a : ByteArray := prog_12_method_91_code
def yJ2_checkIndex_2214a : MethodName := ⟨RJ2, "checkIndex", "(I[B)V"⟩
def RJ10 : String := "java/lang/System"
def RJ3 : String := "jdk/internal/util/Preconditions"
abbrev cJ3_checkIndex_8e157 : ByteArray := prog_14_method_11_code
def yJ3_checkIndex_8e157 : MethodName := ⟨RJ3, "checkIndex", "(IILjava/util/function/BiFunction;)I"⟩
def RL : String := "WildBellsLaw"
abbrev vwCl : List vw_C := [(RX0, TX0, 3), (RX1, TX1, 7), (RX2, TX2, 14), (RX3, TX3, 8), (RX4, TX4, 24)]
end
section
/-! ===== abstract worlds: cells by places; a reference is a place; 'ad' gives each place its address ===== -/
abbrev zM : Type := MethodName × ByteArray × Nat × Option FieldType × Nat
abbrev zC : Type := (Nat × vp_A) ⊕ (Nat × List Value)
abbrev zH : Type := List zC
def z_T : List Cond := lw_tbl.filter goodWord
def z_isN (w : Cond) : Bool := match w with
  | .fieldLinkNest _ _ _ _ _ _ => true
  | .methodLinkNest _ _ _ _ => true
  | _ => false
def z_N : List Cond := lw_tbl.filter z_isN
def z_wd (M : zM) : List Cond := .code M.1 M.2.1 M.2.2.1 M.2.2.2.1 :: z_T
def z_rm (d : Nat) : Room := { frames := d, cells := 0, slots := 0, locals := 31 * d }
def z_g (ad : Nat → Nat) (v : Value) : Value := match v with
  | .ref k => .ref (ad k)
  | v => v
def z_ga (ad : Nat → Nat) (x : vp_A) : vp_A := match x with
  | (n, .inr (.inr (.inr (.inr f)))) => (n, .inr (.inr (.inr (.inr (fun i => (f i).map ad)))))
  | x => x
def z_c (tA : Nat → ClassId) (ad : Nat → Nat) (c : zC) : va_E := match c with
  | .inl (t, x) => .inl (tA t, z_ga ad x)
  | .inr (i, fs) => .inr (i, fs.map (z_g ad))
def z_ws (tA : Nat → ClassId) (ad : Nat → Nat) : Nat → zH → va_W
  | _, [] => []
  | k, c :: r => (ad k, z_c tA ad c) :: z_ws tA ad (k + 1) r
def z_at : zH → Nat → Option zC
  | [], _ => none
  | c :: _, 0 => some c
  | _ :: r, k + 1 => z_at r k
def z_set : zH → Nat → zC → zH
  | [], _, _ => []
  | _ :: r, 0, x => x :: r
  | c :: r, k + 1, x => c :: z_set r k x
theorem z_ws_at (tA : Nat → ClassId) (ad : Nat → Nat) : ∀ (h : zH) (k i : Nat) (c : zC), z_at h i = some c → (z_ws tA ad k h)[i]? = some (ad (k + i), z_c tA ad c) := by
  intro h
  induction h with
  | nil => intro k i c e; cases e
  | cons a r ih =>
    intro k i c e
    cases i with
    | zero => cases e; rfl
    | succ i =>
      have := ih (k + 1) i c e
      show (z_ws tA ad (k + 1) r)[i]? = _
      rw [this, show k + 1 + i = k + (i + 1) by omega]
theorem z_ws_set (tA : Nat → ClassId) (ad : Nat → Nat) : ∀ (h : zH) (k i : Nat) (x : zC), (z_ws tA ad k h).set i (ad (k + i), z_c tA ad x) = z_ws tA ad k (z_set h i x) := by
  intro h
  induction h with
  | nil => intro k i x; rfl
  | cons a r ih =>
    intro k i x
    cases i with
    | zero => rfl
    | succ i =>
      have := ih (k + 1) i x
      show (ad k, z_c tA ad a) :: (z_ws tA ad (k + 1) r).set i (ad (k + (i + 1)), z_c tA ad x) = _
      rw [show k + (i + 1) = k + 1 + i by omega, this]
      rfl
theorem z_set_len : ∀ (h : zH) (i : Nat) (x : zC), (z_set h i x).length = h.length := by
  intro h
  induction h with
  | nil => intro i x; rfl
  | cons a r ih =>
    intro i x
    cases i with
    | zero => rfl
    | succ i => show (z_set r i x).length + 1 = r.length + 1; rw [ih]
theorem z_ws_mem (tA : Nat → ClassId) (ad : Nat → Nat) : ∀ (h : zH) (k i : Nat) (q : Nat × va_E), (z_ws tA ad k h)[i]? = some q → i < h.length ∧ q.1 = ad (k + i) := by
  intro h
  induction h with
  | nil => intro k i q e; simp [z_ws] at e
  | cons a r ih =>
    intro k i q e
    cases i with
    | zero =>
      have e2 : some (ad k, z_c tA ad a) = some q := e
      cases e2
      exact ⟨Nat.succ_pos _, rfl⟩
    | succ i =>
      obtain ⟨h1, h2⟩ := ih (k + 1) i q e
      exact ⟨Nat.succ_lt_succ h1, by rw [h2, show k + 1 + i = k + (i + 1) by omega]⟩
/-- the places' addresses are apart -/
def z_ap (ad : Nat → Nat) (n : Nat) : Prop := ∀ i j, i < n → j < n → ad i = ad j → i = j
/-- what a method may change -/
def z_A (ad : Nat → Nat) (n sz : Nat) : Nat → Prop := fun q => (∃ k, k < n ∧ ad k = q) ∨ sz ≤ q
theorem z_D {ad : Nat → Nat} {n : Nat} (h : z_ap ad n) (tA : Nat → ClassId) (sz : Nat) (r : zH) (hr : r.length = n) : va_D (z_A ad n sz) (z_ws tA ad 0 r) := by
  refine ⟨fun i j p q hp hq e => ?_, fun k q hq => ?_⟩
  · obtain ⟨h1, h2⟩ := z_ws_mem tA ad r 0 i p hp
    obtain ⟨h3, h4⟩ := z_ws_mem tA ad r 0 j q hq
    rw [Nat.zero_add] at h2 h4
    exact h i j (by omega) (by omega) (by rw [← h2, ← h4, e])
  · obtain ⟨h1, h2⟩ := z_ws_mem tA ad r 0 k q hq
    rw [Nat.zero_add] at h2
    exact Or.inl ⟨k, by omega, h2.symm⟩
theorem z_cat (ad : Nat → Nat) (v : Value) : (z_g ad v).category = v.category := by cases v <;> rfl
theorem z_cats (ad : Nat → Nat) (S : List Value) : ((S.map (z_g ad)).map fun v => v.category).sum = (S.map fun v => v.category).sum := by
  induction S with
  | nil => rfl
  | cons v S ih => simp only [List.map_cons, List.sum_cons, ih, z_cat]
/-! locals: a list by their numbers; none: not known -/
def z_L (ad : Nat → Nat) : Nat → List (Option Value) → List (Nat × Value)
  | _, [] => []
  | i, some v :: L => (i, z_g ad v) :: z_L ad (i + 1) L
  | i, none :: L => z_L ad (i + 1) L
def z_nt : List (Option Value) → Nat → Option (Option Value)
  | [], _ => none
  | a :: _, 0 => some a
  | _ :: L, k + 1 => z_nt L k
def z_st : List (Option Value) → Nat → Option Value → List (Option Value)
  | [], _, _ => []
  | _ :: L, 0, x => x :: L
  | a :: L, k + 1, x => a :: z_st L k x
/-- the local ahead of place k is no long -/
def z_no2 : List (Option Value) → Nat → Bool
  | [], _ => true
  | _, 0 => true
  | some v :: _, 1 => v.category == 1
  | none :: _, 1 => true
  | _ :: L, k + 2 => z_no2 L (k + 1)
theorem z_L_in (ad : Nat → Nat) : ∀ (L : List (Option Value)) (k i : Nat) (v : Value), z_nt L i = some (some v) → (k + i, z_g ad v) ∈ z_L ad k L := by
  intro L
  induction L with
  | nil => intro k i v e; cases e
  | cons a L ih =>
    intro k i v e
    cases i with
    | zero =>
      have e2 : some a = some (some v) := e
      cases e2
      exact List.mem_cons_self
    | succ i =>
      have := ih (k + 1) i v e
      rw [show k + 1 + i = k + (i + 1) by omega] at this
      cases a with
      | none => exact this
      | some x => exact List.mem_cons_of_mem _ this
theorem z_L_out (ad : Nat → Nat) : ∀ (L : List (Option Value)) (k : Nat) (q : Nat × Value), q ∈ z_L ad k L → ∃ i v, z_nt L i = some (some v) ∧ q = (k + i, z_g ad v) := by
  intro L
  induction L with
  | nil => intro k q h; cases h
  | cons a L ih =>
    intro k q h
    have go : q ∈ z_L ad (k + 1) L → ∃ i v, z_nt (a :: L) i = some (some v) ∧ q = (k + i, z_g ad v) := by
      intro h
      obtain ⟨i, v, h1, h2⟩ := ih (k + 1) q h
      exact ⟨i + 1, v, h1, by rw [h2, show k + 1 + i = k + (i + 1) by omega]⟩
    cases a with
    | none => exact go h
    | some x =>
      rcases List.mem_cons.mp h with h | h
      · exact ⟨0, x, rfl, h⟩
      · exact go h
theorem z_nt_st : ∀ (L : List (Option Value)) (i j : Nat) (x : Option Value) (v : Value), z_nt (z_st L i x) j = some (some v) → (j = i ∧ x = some v) ∨ (j ≠ i ∧ z_nt L j = some (some v)) := by
  intro L
  induction L with
  | nil => intro i j x v e; cases e
  | cons a L ih =>
    intro i j x v e
    cases i with
    | zero =>
      cases j with
      | zero => have e2 : some x = some (some v) := e; cases e2; exact Or.inl ⟨rfl, rfl⟩
      | succ j => exact Or.inr ⟨by omega, e⟩
    | succ i =>
      cases j with
      | zero => exact Or.inr ⟨by omega, e⟩
      | succ j =>
        rcases ih i j x v e with ⟨h1, h2⟩ | ⟨h1, h2⟩
        · exact Or.inl ⟨by omega, h2⟩
        · exact Or.inr ⟨by omega, h2⟩
theorem z_no2_spec : ∀ (L : List (Option Value)) (j : Nat) (v : Value), z_no2 L (j + 1) = true → z_nt L j = some (some v) → v.category = 1 := by
  intro L
  induction L with
  | nil => intro j v _ e; cases e
  | cons a L ih =>
    intro j v h e
    cases j with
    | zero =>
      have e2 : some a = some (some v) := e
      cases e2
      exact eq_of_beq h
    | succ j => exact ih j v (by cases a <;> exact h) e
/-- storing a value of one slot -/
theorem z_store {ls' : Array Slot} {nL i : Nat} {v : Value} {ad : Nat → Nat} {L : List (Option Value)} (hc : v.category = 1) (hn : z_no2 L i = true)
    (h : lv_has ls' nL ((i, z_g ad v) :: (z_L ad 0 L).filter (fun q => !(q.1 == i) && !(q.1 + 1 == i && q.2.category == 2)))) : lv_has ls' nL (z_L ad 0 (z_st L i (some v))) := by
  refine ⟨h.1, h.2.1, fun q hq => ?_⟩
  obtain ⟨j, u, h1, h2⟩ := z_L_out ad _ 0 q hq
  rw [Nat.zero_add] at h2
  subst h2
  rcases z_nt_st L i j (some v) u h1 with ⟨e1, e2⟩ | ⟨e1, e2⟩
  · cases e2; subst e1
    exact h.2.2 _ List.mem_cons_self
  · refine h.2.2 _ (List.mem_cons_of_mem _ (List.mem_filter.mpr ⟨by have := z_L_in ad L 0 j u e2; rwa [Nat.zero_add] at this, ?_⟩))
    have hb : (j == i) = false := by simp [e1]
    by_cases hj : j + 1 = i
    · subst hj
      have := z_no2_spec L j u hn e2
      simp [z_cat, this]
    · have hb2 : (j + 1 == i) = false := by simp [hj]
      simp [hb, hb2]
/-- storing a value of two slots -/
theorem z_store2 {ls' : Array Slot} {nL i : Nat} {v : Value} {ad : Nat → Nat} {L : List (Option Value)} (hn : z_no2 L i = true)
    (h : lv_has ls' nL ((i, z_g ad v) :: (z_L ad 0 L).filter (fun q => !(q.1 == i) && (!(q.1 == i + 1) && !(q.1 + 1 == i && q.2.category == 2))))) : lv_has ls' nL (z_L ad 0 (z_st (z_st L i (some v)) (i + 1) none)) := by
  refine ⟨h.1, h.2.1, fun q hq => ?_⟩
  obtain ⟨j, u, h1, h2⟩ := z_L_out ad _ 0 q hq
  rw [Nat.zero_add] at h2
  subst h2
  rcases z_nt_st _ (i + 1) j none u h1 with ⟨e1, e3⟩ | ⟨e0, e3⟩
  · cases e3
  · rcases z_nt_st L i j (some v) u e3 with ⟨e1, e2⟩ | ⟨e1, e2⟩
    · cases e2; subst e1
      exact h.2.2 _ List.mem_cons_self
    · refine h.2.2 _ (List.mem_cons_of_mem _ (List.mem_filter.mpr ⟨by have := z_L_in ad L 0 j u e2; rwa [Nat.zero_add] at this, ?_⟩))
      have hb : (j == i) = false := by simp [e1]
      have hb1 : (j == i + 1) = false := by simp [e0]
      by_cases hj : j + 1 = i
      · subst hj
        have := z_no2_spec L j u hn e2
        simp [z_cat, this] <;> omega
      · have hb2 : (j + 1 == i) = false := by simp [hj]
        simp [hb, hb1, hb2]
/-! what nobody writes: the String constants, the table KIND_ABOVE -/
def z_sx : List (String × Nat × String × Nat) := [("WildBells$Tape", 86, "herd", 1), ("WildBells$Tape", 88, "lone", 2), ("WildBells$Tape", 90, "tenor", 3), ("WildBells$Tape", 92, "eldest", 4), ("WildBells$Tape", 94, "tame", 5), ("WildBells$Tape", 96, "young", 6), ("WildBells$Tape", 98, "bell", 0), ("WildBells$Tape", 105, "at", 11), ("WildBells$Tape", 111, "note", 12), ("WildBells$Tape", 113, "weight", 13), ("WildBells$Tape", 58, "net", 7), ("WildBells$Tape", 67, "thick", 8), ("WildBells$Tape", 72, "hunter", 9), ("WildBells$Tape", 77, "fear", 10), ("WildBellsModel", 36, "bell", 0), ("WildBellsModel", 38, "herd", 1), ("WildBellsModel", 40, "lone", 2), ("WildBellsModel", 42, "tenor", 3), ("WildBellsModel", 44, "eldest", 4), ("WildBellsModel", 46, "tame", 5), ("WildBellsModel", 48, "young", 6), ("WildBellsModel", 307, "at", 11), ("WildBellsModel", 314, "note", 12), ("WildBellsModel", 316, "weight", 13), ("WildBellsModel", 322, "net", 7), ("WildBellsModel", 324, "thick", 8), ("WildBellsModel", 326, "hunter", 9), ("WildBellsModel", 328, "fear", 10)]
def z_len : List Nat := [4, 4, 4, 5, 6, 4, 5, 3, 5, 6, 4, 2, 4, 6]
def z_byt : List (List Int32) := [[98, 101, 108, 108], [104, 101, 114, 100], [108, 111, 110, 101], [116, 101, 110, 111, 114], [101, 108, 100, 101, 115, 116], [116, 97, 109, 101], [121, 111, 117, 110, 103], [110, 101, 116], [116, 104, 105, 99, 107], [104, 117, 110, 116, 101, 114], [102, 101, 97, 114], [97, 116], [110, 111, 116, 101], [119, 101, 105, 103, 104, 116]]
def z_ka : List Int32 := [-1, 0, 0, 2, 3, 0, 1]
/-- adK, adV: addresses of the texts and of their bytes; tK: of KIND_ABOVE -/
abbrev zE : Type := (Nat → Nat) × (Nat → Nat) × Nat
def z_EX (E : zE) (A : Nat → Prop) (U : State) (H : Heap) : Prop :=
  vk_S 14 z_len z_byt E.1 E.2.1 A U H ∧ (∀ r ∈ z_sx, vk_R r.1 r.2.1 r.2.2.1 (E.1 r.2.2.2) U) ∧ va_Z "WildBells" "KIND_ABOVE" "[I" (.ref E.2.2) A U H ∧ va_T .int E.2.2 7 (fun j => .int (z_ka.getD j 0)) A U H ∧ va_Z "java/lang/String" "COMPACT_STRINGS" "Z" (.int 1) A U H ∧ va_Zq "jdk/internal/util/Preconditions" "SIOOBE_FORMATTER" "Ljava/util/function/BiFunction;" A U H
theorem z_EX.calling {E : zE} {A : Nat → Prop} {U : State} {g : JFrame} {mk : MethodId} {a : Array Value} (h : z_EX E A U U.heap) : z_EX E A (U.calling g mk a) (U.calling g mk a).heap := by
  obtain ⟨h1, h2, h3, h4, h5, h6⟩ := h
  have hv : U.vm.Alike (U.calling g mk a).vm := Vm.Alike.refl U.vm
  exact ⟨h1.moved hv, fun r hr => (h2 r hr).same rfl, h3.moved hv, h4.moved hv, h5.moved hv, h6.moved hv⟩
theorem z_EX.pass {E : zE} {A B : Nat → Prop} {s U : State} {H : Heap} (h : z_EX E A s s.heap) (hU : U.heap = H) (hW : s.WarmedH U.vm) (hq : ∀ a : Nat, a < s.heap.size → ¬ A a → H[a]? = s.heap[a]?) (hAB : ∀ q, B q → A q) : z_EX E B U U.heap := by
  obtain ⟨h1, h2, h3, h4, h5, h6⟩ := h
  subst hU
  exact ⟨((h1.moved hW.alike).kept hq).narrow hAB, fun r hr => (h2 r hr).warm hW, ((h3.moved hW.alike).kept hq).narrow hAB, ((h4.moved hW.alike).kept hq).narrow hAB, ((h5.moved hW.alike).kept hq).narrow hAB, ((h6.moved hW.alike).kept hq).narrow hAB⟩
/-! links to private members of nest mates -/
def z_nst (U : State) : Prop := ∀ w ∈ z_N, va_Nw w U
theorem z_nst.calling {U : State} {g : JFrame} {mk : MethodId} {a : Array Value} (h : z_nst U) : z_nst (U.calling g mk a) := by
  intro w hw
  have hk : w.onTables = true := by
    have := (List.mem_filter.mp hw).2
    cases w <;> first | rfl | (simp [z_isN] at this)
  exact va_Nw.same (u := U) hk rfl (h w hw)
theorem z_nst.pass {s U : State} (h : z_nst s) (hW : s.WarmedH U.vm) : z_nst U := by
  intro w hw
  have h1 := h w hw
  have := (List.mem_filter.mp hw).2
  cases w <;> first | exact va_Nw.warmF hW h1 | exact va_Nw.warmM hW h1 | (simp [z_isN] at this)
/-- the classes of the arrays -/
def z_tys (tA : Nat → ClassId) : List (ClassId × FieldType) := [(tA 0, .int), (tA 1, .object "WildBells$Sheet"), (tA 2, .object "java/lang/String")]
/-- the world at a method's start -/
def z_Wd (E : zE) (D : va_G) (tA : Nat → ClassId) (ad : Nat → Nat) (h : zH) (sz : Nat) (U : State) : Prop :=
  U.heap.size = sz ∧ va_P D vwCl (z_ws tA ad 0 h) U.heap ∧ va_K D vwCl (z_tys tA) U ∧ z_nst U ∧ z_EX E (z_A ad h.length sz) U U.heap
def z_Q (D : va_G) (tA : Nat → ClassId) (ad : Nat → Nat) (rv : Option Value) (h : zH) (A : Nat → Prop) : Array Value → State → Outcome → State → Prop := fun _ st oc t => (oc = .returned (rv.map (z_g ad)) ∧ va_P D vwCl (z_ws tA ad 0 h) t.heap) ∧ va_F A st t
/-- the places of the texts (1000 ..), of their bytes (3000 ..), of KIND_ABOVE (2000) -/
def z_sa (E : zE) (ad : Nat → Nat) : Prop := (∀ i, i < 14 → ad (1000 + i) = E.1 i ∧ ad (3000 + i) = E.2.1 i) ∧ ad 2000 = E.2.2
/-- A METHOD: with these arguments, over the world h, it answers rv and leaves the world h2 -/
def Mx (M : zM) (as : List Value) (h : zH) (rv : Option Value) (h2 : zH) : Prop :=
  h2.length = h.length ∧ ∀ (l : Launch) (E : zE) (D : va_G) (tA : Nat → ClassId) (ad : Nat → Nat) (sz : Nat), z_ap ad h.length → z_sa E ad →
    Met l M.1 (z_wd M) (z_rm M.2.2.2.2) (va_Pc (as.map (z_g ad)) (z_Wd E D tA ad h sz)) (z_Q D tA ad rv h2 (z_A ad h.length sz)) 0 0 (z_A ad h.length sz)
/-- what a frame has around it -/
def z_Cx (M : zM) (n : Nat) (E : zE) (D : va_G) (tA : Nat → ClassId) (ad : Nat → Nat) (p : Program) (s : State) (m : MethodId) (args : Array Value) (meth : Method) (c : Code) : Prop :=
  p.tables.exec = Jvm.exec ∧ c.code = M.2.1 ∧ meth.sig.returnType = M.2.2.2.1 ∧ c.maxLocals = M.2.2.1 ∧ s.vm.findClass M.1.cls = some m.cls ∧ (∀ w ∈ z_wd M, w.before args s = true) ∧ meth.locks = false ∧ va_K D vwCl (z_tys tA) s ∧ z_nst s ∧ z_EX E (z_A ad n s.heap.size) s s.heap ∧ z_ap ad n ∧ z_sa E ad
/-- A FRAME: at pc with locals L, stack S, over the world h, the method comes to its end with 'out' -/
def Fx (M : zM) (out : Option Value × zH) (pc : Nat) (L : List (Option Value)) (S : List Value) (h : zH) : Prop :=
  h.length = out.2.length ∧ ∀ (E : zE) (D : va_G) (tA : Nat → ClassId) (ad : Nat → Nat) (p : Program) (l : Launch) (e : Env) (s : State) (m : MethodId) (args : Array Value) (below : List Frame) (meth : Method) (c : Code), z_Cx M h.length E D tA ad p s m args meth c →
    ∀ (H : Heap) (locs : List Loc) (ls : Array Slot), lv_has ls M.2.2.1 (z_L ad 0 L) → va_P D vwCl (z_ws tA ad 0 h) H → va_S (z_A ad h.length s.heap.size) s.heap H locs →
      W p l e (z_rm M.2.2.2.2) s m args below meth c H locs 0 0 (MQ below (z_Q D tA ad out.1 out.2 (z_A ad h.length s.heap.size)) args s 0 0 (z_A ad h.length s.heap.size)) (F0 m pc ls (S.map (z_g ad)))
section FX
variable {M : zM} {out : Option Value × zH} {pc : Nat} {L : List (Option Value)} {S : List Value} {h : zH}

theorem fx_iadd {x y : Int32} (hd : decode M.2.1 pc = .ok (.iadd, 1)) (k : Fx M out (pc + 1) L (.int (x + y) :: S) h) : Fx M out pc L (.int y :: .int x :: S) h := ⟨k.1, fun E D tA ad p l e s m args below meth c C H locs ls hl hP hS => lv_iadd C.1 C.2.1 hd (k.2 E D tA ad p l e s m args below meth c C H locs ls hl hP hS)⟩
theorem fx_isub {x y : Int32} (hd : decode M.2.1 pc = .ok (.isub, 1)) (k : Fx M out (pc + 1) L (.int (x - y) :: S) h) : Fx M out pc L (.int y :: .int x :: S) h := ⟨k.1, fun E D tA ad p l e s m args below meth c C H locs ls hl hP hS => lv_isub C.1 C.2.1 hd (k.2 E D tA ad p l e s m args below meth c C H locs ls hl hP hS)⟩
theorem fx_imul {x y : Int32} (hd : decode M.2.1 pc = .ok (.imul, 1)) (k : Fx M out (pc + 1) L (.int (x * y) :: S) h) : Fx M out pc L (.int y :: .int x :: S) h := ⟨k.1, fun E D tA ad p l e s m args below meth c C H locs ls hl hP hS => lv_imul C.1 C.2.1 hd (k.2 E D tA ad p l e s m args below meth c C H locs ls hl hP hS)⟩
theorem fx_iand {x y : Int32} (hd : decode M.2.1 pc = .ok (.iand, 1)) (k : Fx M out (pc + 1) L (.int (x &&& y) :: S) h) : Fx M out pc L (.int y :: .int x :: S) h := ⟨k.1, fun E D tA ad p l e s m args below meth c C H locs ls hl hP hS => lv_iand C.1 C.2.1 hd (k.2 E D tA ad p l e s m args below meth c C H locs ls hl hP hS)⟩
theorem fx_ior {x y : Int32} (hd : decode M.2.1 pc = .ok (.ior, 1)) (k : Fx M out (pc + 1) L (.int (x ||| y) :: S) h) : Fx M out pc L (.int y :: .int x :: S) h := ⟨k.1, fun E D tA ad p l e s m args below meth c C H locs ls hl hP hS => lv_ior C.1 C.2.1 hd (k.2 E D tA ad p l e s m args below meth c C H locs ls hl hP hS)⟩
theorem fx_ixor {x y : Int32} (hd : decode M.2.1 pc = .ok (.ixor, 1)) (k : Fx M out (pc + 1) L (.int (x ^^^ y) :: S) h) : Fx M out pc L (.int y :: .int x :: S) h := ⟨k.1, fun E D tA ad p l e s m args below meth c C H locs ls hl hP hS => lv_ixor C.1 C.2.1 hd (k.2 E D tA ad p l e s m args below meth c C H locs ls hl hP hS)⟩
theorem fx_ishl {x y : Int32} (hd : decode M.2.1 pc = .ok (.ishl, 1)) (k : Fx M out (pc + 1) L (.int (x <<< (y &&& 31)) :: S) h) : Fx M out pc L (.int y :: .int x :: S) h := ⟨k.1, fun E D tA ad p l e s m args below meth c C H locs ls hl hP hS => lv_ishl C.1 C.2.1 hd (k.2 E D tA ad p l e s m args below meth c C H locs ls hl hP hS)⟩
theorem fx_ishr {x y : Int32} (hd : decode M.2.1 pc = .ok (.ishr, 1)) (k : Fx M out (pc + 1) L (.int (x >>> (y &&& 31)) :: S) h) : Fx M out pc L (.int y :: .int x :: S) h := ⟨k.1, fun E D tA ad p l e s m args below meth c C H locs ls hl hP hS => lv_ishr C.1 C.2.1 hd (k.2 E D tA ad p l e s m args below meth c C H locs ls hl hP hS)⟩
theorem fx_iushr {x y : Int32} (hd : decode M.2.1 pc = .ok (.iushr, 1)) (k : Fx M out (pc + 1) L (.int ((x.toUInt32 >>> (y.toUInt32 &&& Int32.toUInt32 31)).toInt32) :: S) h) : Fx M out pc L (.int y :: .int x :: S) h := ⟨k.1, fun E D tA ad p l e s m args below meth c C H locs ls hl hP hS => lv_iushr C.1 C.2.1 hd rfl (k.2 E D tA ad p l e s m args below meth c C H locs ls hl hP hS)⟩
theorem fx_idiv {x y : Int32} (hd : decode M.2.1 pc = .ok (.idiv, 1)) (hne : ¬ y = 0) (k : Fx M out (pc + 1) L (.int (x / y) :: S) h) : Fx M out pc L (.int y :: .int x :: S) h := ⟨k.1, fun E D tA ad p l e s m args below meth c C H locs ls hl hP hS => lv_idiv C.1 C.2.1 hd hne (k.2 E D tA ad p l e s m args below meth c C H locs ls hl hP hS)⟩
theorem fx_irem {x y : Int32} (hd : decode M.2.1 pc = .ok (.irem, 1)) (hne : ¬ y = 0) (k : Fx M out (pc + 1) L (.int (x - x / y * y) :: S) h) : Fx M out pc L (.int y :: .int x :: S) h := ⟨k.1, fun E D tA ad p l e s m args below meth c C H locs ls hl hP hS => lv_irem C.1 C.2.1 hd hne (k.2 E D tA ad p l e s m args below meth c C H locs ls hl hP hS)⟩
theorem fx_ineg {x : Int32} (hd : decode M.2.1 pc = .ok (.ineg, 1)) (k : Fx M out (pc + 1) L (.int (-x) :: S) h) : Fx M out pc L (.int x :: S) h := ⟨k.1, fun E D tA ad p l e s m args below meth c C H locs ls hl hP hS => lv_ineg C.1 C.2.1 hd (k.2 E D tA ad p l e s m args below meth c C H locs ls hl hP hS)⟩
theorem fx_ladd {x y : Int64} (hd : decode M.2.1 pc = .ok (.ladd, 1)) (k : Fx M out (pc + 1) L (.long (x + y) :: S) h) : Fx M out pc L (.long y :: .long x :: S) h := ⟨k.1, fun E D tA ad p l e s m args below meth c C H locs ls hl hP hS => lv_ladd C.1 C.2.1 hd (k.2 E D tA ad p l e s m args below meth c C H locs ls hl hP hS)⟩
theorem fx_lsub {x y : Int64} (hd : decode M.2.1 pc = .ok (.lsub, 1)) (k : Fx M out (pc + 1) L (.long (x - y) :: S) h) : Fx M out pc L (.long y :: .long x :: S) h := ⟨k.1, fun E D tA ad p l e s m args below meth c C H locs ls hl hP hS => lv_lsub C.1 C.2.1 hd (k.2 E D tA ad p l e s m args below meth c C H locs ls hl hP hS)⟩
theorem fx_lmul {x y : Int64} (hd : decode M.2.1 pc = .ok (.lmul, 1)) (k : Fx M out (pc + 1) L (.long (x * y) :: S) h) : Fx M out pc L (.long y :: .long x :: S) h := ⟨k.1, fun E D tA ad p l e s m args below meth c C H locs ls hl hP hS => lv_lmul C.1 C.2.1 hd (k.2 E D tA ad p l e s m args below meth c C H locs ls hl hP hS)⟩
theorem fx_land {x y : Int64} (hd : decode M.2.1 pc = .ok (.land, 1)) (k : Fx M out (pc + 1) L (.long (x &&& y) :: S) h) : Fx M out pc L (.long y :: .long x :: S) h := ⟨k.1, fun E D tA ad p l e s m args below meth c C H locs ls hl hP hS => lv_land C.1 C.2.1 hd (k.2 E D tA ad p l e s m args below meth c C H locs ls hl hP hS)⟩
theorem fx_lor {x y : Int64} (hd : decode M.2.1 pc = .ok (.lor, 1)) (k : Fx M out (pc + 1) L (.long (x ||| y) :: S) h) : Fx M out pc L (.long y :: .long x :: S) h := ⟨k.1, fun E D tA ad p l e s m args below meth c C H locs ls hl hP hS => lv_lor C.1 C.2.1 hd (k.2 E D tA ad p l e s m args below meth c C H locs ls hl hP hS)⟩
theorem fx_lxor {x y : Int64} (hd : decode M.2.1 pc = .ok (.lxor, 1)) (k : Fx M out (pc + 1) L (.long (x ^^^ y) :: S) h) : Fx M out pc L (.long y :: .long x :: S) h := ⟨k.1, fun E D tA ad p l e s m args below meth c C H locs ls hl hP hS => lv_lxor C.1 C.2.1 hd (k.2 E D tA ad p l e s m args below meth c C H locs ls hl hP hS)⟩
theorem fx_lshl {x : Int64} {y : Int32} (hd : decode M.2.1 pc = .ok (.lshl, 1)) (k : Fx M out (pc + 1) L (.long (x <<< (y.toInt64 &&& 63)) :: S) h) : Fx M out pc L (.int y :: .long x :: S) h := ⟨k.1, fun E D tA ad p l e s m args below meth c C H locs ls hl hP hS => lv_lshl C.1 C.2.1 hd rfl (k.2 E D tA ad p l e s m args below meth c C H locs ls hl hP hS)⟩
theorem fx_lushr {x : Int64} {y : Int32} (hd : decode M.2.1 pc = .ok (.lushr, 1)) (k : Fx M out (pc + 1) L (.long ((x.toUInt64 >>> (y.toInt64.toUInt64 &&& Int64.toUInt64 63)).toInt64) :: S) h) : Fx M out pc L (.int y :: .long x :: S) h := ⟨k.1, fun E D tA ad p l e s m args below meth c C H locs ls hl hP hS => lv_lushr C.1 C.2.1 hd rfl (k.2 E D tA ad p l e s m args below meth c C H locs ls hl hP hS)⟩
theorem fx_lcmp {x y : Int64} (hd : decode M.2.1 pc = .ok (.lcmp, 1)) (k : Fx M out (pc + 1) L (.int (lg_cmp x y) :: S) h) : Fx M out pc L (.long y :: .long x :: S) h := ⟨k.1, fun E D tA ad p l e s m args below meth c C H locs ls hl hP hS => W.lcmp C.1 C.2.1 hd (k.2 E D tA ad p l e s m args below meth c C H locs ls hl hP hS)⟩
theorem fx_i2l {x : Int32} (hd : decode M.2.1 pc = .ok (.i2l, 1)) (k : Fx M out (pc + 1) L (.long x.toInt64 :: S) h) : Fx M out pc L (.int x :: S) h := ⟨k.1, fun E D tA ad p l e s m args below meth c C H locs ls hl hP hS => lv_i2l C.1 C.2.1 hd rfl (k.2 E D tA ad p l e s m args below meth c C H locs ls hl hP hS)⟩
theorem fx_l2i {x : Int64} (hd : decode M.2.1 pc = .ok (.l2i, 1)) (k : Fx M out (pc + 1) L (.int x.toInt32 :: S) h) : Fx M out pc L (.long x :: S) h := ⟨k.1, fun E D tA ad p l e s m args below meth c C H locs ls hl hP hS => lv_l2i C.1 C.2.1 hd rfl (k.2 E D tA ad p l e s m args below meth c C H locs ls hl hP hS)⟩
theorem fx_i2b {x : Int32} (hd : decode M.2.1 pc = .ok (.i2b, 1)) (k : Fx M out (pc + 1) L (.int x.toInt8.toInt32 :: S) h) : Fx M out pc L (.int x :: S) h := ⟨k.1, fun E D tA ad p l e s m args below meth c C H locs ls hl hP hS => lv_i2b C.1 C.2.1 hd rfl (k.2 E D tA ad p l e s m args below meth c C H locs ls hl hP hS)⟩
theorem fx_i2s {x : Int32} (hd : decode M.2.1 pc = .ok (.i2s, 1)) (k : Fx M out (pc + 1) L (.int x.toInt16.toInt32 :: S) h) : Fx M out pc L (.int x :: S) h := ⟨k.1, fun E D tA ad p l e s m args below meth c C H locs ls hl hP hS => lv_i2s C.1 C.2.1 hd rfl (k.2 E D tA ad p l e s m args below meth c C H locs ls hl hP hS)⟩
theorem fx_i2c {x : Int32} (hd : decode M.2.1 pc = .ok (.i2c, 1)) (k : Fx M out (pc + 1) L (.int (x.toUInt32 % 65536).toInt32 :: S) h) : Fx M out pc L (.int x :: S) h := ⟨k.1, fun E D tA ad p l e s m args below meth c C H locs ls hl hP hS => lv_i2c C.1 C.2.1 hd rfl (k.2 E D tA ad p l e s m args below meth c C H locs ls hl hP hS)⟩
theorem fx_iconst {n : Int} {v : Int32} (hd : decode M.2.1 pc = .ok (.iconst n, 1)) (hv : Int32.ofInt n = v) (k : Fx M out (pc + 1) L (.int v :: S) h) : Fx M out pc L (S) h := ⟨k.1, fun E D tA ad p l e s m args below meth c C H locs ls hl hP hS => lv_iconst C.1 C.2.1 hd hv (k.2 E D tA ad p l e s m args below meth c C H locs ls hl hP hS)⟩
theorem fx_bipush {n : Int} {v : Int32} (hd : decode M.2.1 pc = .ok (.bipush n, 2)) (hv : (Int8.ofInt n).toInt32 = v) (k : Fx M out (pc + 2) L (.int v :: S) h) : Fx M out pc L (S) h := ⟨k.1, fun E D tA ad p l e s m args below meth c C H locs ls hl hP hS => lv_bipush C.1 C.2.1 hd hv (k.2 E D tA ad p l e s m args below meth c C H locs ls hl hP hS)⟩
theorem fx_sipush {n : Int} {v : Int32} (hd : decode M.2.1 pc = .ok (.sipush n, 3)) (hv : (Int16.ofInt n).toInt32 = v) (k : Fx M out (pc + 3) L (.int v :: S) h) : Fx M out pc L (S) h := ⟨k.1, fun E D tA ad p l e s m args below meth c C H locs ls hl hP hS => lv_sipush C.1 C.2.1 hd hv (k.2 E D tA ad p l e s m args below meth c C H locs ls hl hP hS)⟩
theorem fx_lconst {n : Fin 2} {v : Int64} (hd : decode M.2.1 pc = .ok (.lconst n, 1)) (hv : Int64.ofNat (n : Nat) = v) (k : Fx M out (pc + 1) L (.long v :: S) h) : Fx M out pc L (S) h := ⟨k.1, fun E D tA ad p l e s m args below meth c C H locs ls hl hP hS => lv_lconst C.1 C.2.1 hd hv (k.2 E D tA ad p l e s m args below meth c C H locs ls hl hP hS)⟩
theorem fx_dup {a : Value} (hd : decode M.2.1 pc = .ok (.dup, 1)) (ha : a.category = 1) (k : Fx M out (pc + 1) L (a :: a :: S) h) : Fx M out pc L (a :: S) h := ⟨k.1, fun E D tA ad p l e s m args below meth c C H locs ls hl hP hS => lv_dup C.1 C.2.1 hd ((z_cat ad a).trans ha) (k.2 E D tA ad p l e s m args below meth c C H locs ls hl hP hS)⟩
theorem fx_pop {a : Value} (hd : decode M.2.1 pc = .ok (.pop, 1)) (ha : a.category = 1) (k : Fx M out (pc + 1) L (S) h) : Fx M out pc L (a :: S) h := ⟨k.1, fun E D tA ad p l e s m args below meth c C H locs ls hl hP hS => lv_pop C.1 C.2.1 hd ((z_cat ad a).trans ha) (k.2 E D tA ad p l e s m args below meth c C H locs ls hl hP hS)⟩
theorem fx_dup2 {a b : Value} (hd : decode M.2.1 pc = .ok (.dup2, 1)) (ha : a.category = 1) (hb : b.category = 1) (k : Fx M out (pc + 1) L (a :: b :: a :: b :: S) h) : Fx M out pc L (a :: b :: S) h := ⟨k.1, fun E D tA ad p l e s m args below meth c C H locs ls hl hP hS => lv_dup2_11 C.1 C.2.1 hd ((z_cat ad a).trans ha) ((z_cat ad b).trans hb) (k.2 E D tA ad p l e s m args below meth c C H locs ls hl hP hS)⟩
theorem fx_iload_n {j : Fin 4} {i : Nat} {x : Int32} (hd : decode M.2.1 pc = .ok (.iload_n j, 1)) (hi : (j : Nat) = i) (hL : z_nt L i = some (some (.int x))) (k : Fx M out (pc + 1) L (.int x :: S) h) : Fx M out pc L (S) h := ⟨k.1, fun E D tA ad p l e s m args below meth c C H locs ls hl hP hS => lv_iload_n C.1 C.2.1 hd hi (hl.2.2 (i, .int x) (by have := z_L_in ad L 0 i _ hL; rwa [Nat.zero_add] at this)) (k.2 E D tA ad p l e s m args below meth c C H locs ls hl hP hS)⟩
theorem fx_iload {i : Nat} {x : Int32} (hd : decode M.2.1 pc = .ok (.iload i, 2)) (hL : z_nt L i = some (some (.int x))) (k : Fx M out (pc + 2) L (.int x :: S) h) : Fx M out pc L (S) h := ⟨k.1, fun E D tA ad p l e s m args below meth c C H locs ls hl hP hS => lv_iload C.1 C.2.1 hd (hl.2.2 (i, .int x) (by have := z_L_in ad L 0 i _ hL; rwa [Nat.zero_add] at this)) (k.2 E D tA ad p l e s m args below meth c C H locs ls hl hP hS)⟩
theorem fx_lload_n {j : Fin 4} {i : Nat} {x : Int64} (hd : decode M.2.1 pc = .ok (.lload_n j, 1)) (hi : (j : Nat) = i) (hL : z_nt L i = some (some (.long x))) (k : Fx M out (pc + 1) L (.long x :: S) h) : Fx M out pc L (S) h := ⟨k.1, fun E D tA ad p l e s m args below meth c C H locs ls hl hP hS => lv_lload_n C.1 C.2.1 hd hi (hl.2.2 (i, .long x) (by have := z_L_in ad L 0 i _ hL; rwa [Nat.zero_add] at this)) (k.2 E D tA ad p l e s m args below meth c C H locs ls hl hP hS)⟩
theorem fx_lload {i : Nat} {x : Int64} (hd : decode M.2.1 pc = .ok (.lload i, 2)) (hL : z_nt L i = some (some (.long x))) (k : Fx M out (pc + 2) L (.long x :: S) h) : Fx M out pc L (S) h := ⟨k.1, fun E D tA ad p l e s m args below meth c C H locs ls hl hP hS => lv_lload C.1 C.2.1 hd (hl.2.2 (i, .long x) (by have := z_L_in ad L 0 i _ hL; rwa [Nat.zero_add] at this)) (k.2 E D tA ad p l e s m args below meth c C H locs ls hl hP hS)⟩
theorem fx_aload_n {j : Fin 4} {i : Nat} {x : Nat} (hd : decode M.2.1 pc = .ok (.aload_n j, 1)) (hi : (j : Nat) = i) (hL : z_nt L i = some (some (.ref x))) (k : Fx M out (pc + 1) L (.ref x :: S) h) : Fx M out pc L (S) h := ⟨k.1, fun E D tA ad p l e s m args below meth c C H locs ls hl hP hS => lv_aload_n C.1 C.2.1 hd hi (hl.2.2 (i, .ref (ad x)) (by have := z_L_in ad L 0 i _ hL; rwa [Nat.zero_add] at this)) (k.2 E D tA ad p l e s m args below meth c C H locs ls hl hP hS)⟩
theorem fx_aload {i : Nat} {x : Nat} (hd : decode M.2.1 pc = .ok (.aload i, 2)) (hL : z_nt L i = some (some (.ref x))) (k : Fx M out (pc + 2) L (.ref x :: S) h) : Fx M out pc L (S) h := ⟨k.1, fun E D tA ad p l e s m args below meth c C H locs ls hl hP hS => lv_aload C.1 C.2.1 hd (hl.2.2 (i, .ref (ad x)) (by have := z_L_in ad L 0 i _ hL; rwa [Nat.zero_add] at this)) (k.2 E D tA ad p l e s m args below meth c C H locs ls hl hP hS)⟩
theorem fx_istore_n {j : Fin 4} {i : Nat} {x : Int32} {L' : List (Option Value)} (hd : decode M.2.1 pc = .ok (.istore_n j, 1)) (hi : (j : Nat) = i) (hL : z_st L i (some (.int x)) = L') (hn : z_no2 L i = true) (hm : i < M.2.2.1) (k : Fx M out (pc + 1) L' S h) : Fx M out pc L (.int x :: S) h := ⟨k.1, fun E D tA ad p l e s m args below meth c C H locs ls hl hP hS => lv_istore_n C.1 C.2.1 hd hi hl hm rfl (fun ls hl2 => k.2 E D tA ad p l e s m args below meth c C H locs ls (by rw [← hL]; exact z_store (v := .int x) rfl hn hl2) hP hS)⟩
theorem fx_istore {i : Nat} {x : Int32} {L' : List (Option Value)} (hd : decode M.2.1 pc = .ok (.istore i, 2)) (hL : z_st L i (some (.int x)) = L') (hn : z_no2 L i = true) (hm : i < M.2.2.1) (k : Fx M out (pc + 2) L' S h) : Fx M out pc L (.int x :: S) h := ⟨k.1, fun E D tA ad p l e s m args below meth c C H locs ls hl hP hS => lv_istore C.1 C.2.1 hd hl hm rfl (fun ls hl2 => k.2 E D tA ad p l e s m args below meth c C H locs ls (by rw [← hL]; exact z_store (v := .int x) rfl hn hl2) hP hS)⟩
theorem fx_astore_n {j : Fin 4} {i : Nat} {x : Nat} {L' : List (Option Value)} (hd : decode M.2.1 pc = .ok (.astore_n j, 1)) (hi : (j : Nat) = i) (hL : z_st L i (some (.ref x)) = L') (hn : z_no2 L i = true) (hm : i < M.2.2.1) (k : Fx M out (pc + 1) L' S h) : Fx M out pc L (.ref x :: S) h := ⟨k.1, fun E D tA ad p l e s m args below meth c C H locs ls hl hP hS => lv_astore_n C.1 C.2.1 hd hi hl hm rfl (fun ls hl2 => k.2 E D tA ad p l e s m args below meth c C H locs ls (by rw [← hL]; exact z_store (v := .ref x) rfl hn hl2) hP hS)⟩
theorem fx_astore {i : Nat} {x : Nat} {L' : List (Option Value)} (hd : decode M.2.1 pc = .ok (.astore i, 2)) (hL : z_st L i (some (.ref x)) = L') (hn : z_no2 L i = true) (hm : i < M.2.2.1) (k : Fx M out (pc + 2) L' S h) : Fx M out pc L (.ref x :: S) h := ⟨k.1, fun E D tA ad p l e s m args below meth c C H locs ls hl hP hS => lv_astore C.1 C.2.1 hd hl hm rfl (fun ls hl2 => k.2 E D tA ad p l e s m args below meth c C H locs ls (by rw [← hL]; exact z_store (v := .ref x) rfl hn hl2) hP hS)⟩
theorem fx_lstore_n {j : Fin 4} {i : Nat} {x : Int64} {L' : List (Option Value)} (hd : decode M.2.1 pc = .ok (.lstore_n j, 1)) (hi : (j : Nat) = i) (hL : z_st (z_st L i (some (.long x))) (i + 1) none = L') (hn : z_no2 L i = true) (hm : i + 1 < M.2.2.1) (k : Fx M out (pc + 1) L' S h) : Fx M out pc L (.long x :: S) h := ⟨k.1, fun E D tA ad p l e s m args below meth c C H locs ls hl hP hS => lv_lstore_n C.1 C.2.1 hd hi hl hm rfl (fun ls hl2 => k.2 E D tA ad p l e s m args below meth c C H locs ls (by rw [← hL]; exact z_store2 (v := .long x) hn hl2) hP hS)⟩
theorem fx_lstore {i : Nat} {x : Int64} {L' : List (Option Value)} (hd : decode M.2.1 pc = .ok (.lstore i, 2)) (hL : z_st (z_st L i (some (.long x))) (i + 1) none = L') (hn : z_no2 L i = true) (hm : i + 1 < M.2.2.1) (k : Fx M out (pc + 2) L' S h) : Fx M out pc L (.long x :: S) h := ⟨k.1, fun E D tA ad p l e s m args below meth c C H locs ls hl hP hS => lv_lstore C.1 C.2.1 hd hl hm rfl (fun ls hl2 => k.2 E D tA ad p l e s m args below meth c C H locs ls (by rw [← hL]; exact z_store2 (v := .long x) hn hl2) hP hS)⟩
theorem z_L_get (ad : Nat → Nat) {L : List (Option Value)} {i : Nat} {v : Value} (hL : z_nt L i = some (some v)) : ∃ q : Nat, (z_L ad 0 L)[q]? = some (i, z_g ad v) := by
  have := z_L_in ad L 0 i v hL
  rw [Nat.zero_add] at this
  exact List.getElem?_of_mem this
theorem fx_iinc {i : Nat} {n : Int} {x v : Int32} {L' : List (Option Value)} (hd : decode M.2.1 pc = .ok (.iinc i n, 3)) (hL : z_nt L i = some (some (.int x))) (hv : x + Int32.ofInt n = v) (hL2 : z_st L i (some (.int v)) = L') (hn : z_no2 L i = true) (hm : i < M.2.2.1) (k : Fx M out (pc + 3) L' S h) : Fx M out pc L S h := ⟨k.1, fun E D tA ad p l e s m args below meth c C H locs ls hl hP hS => by
  obtain ⟨q, hq⟩ := z_L_get ad hL
  exact lv_iinc C.1 C.2.1 hd hl hq hv hm rfl (fun ls hl2 => k.2 E D tA ad p l e s m args below meth c C H locs ls (by rw [← hL2]; exact z_store (v := .int v) rfl hn hl2) hP hS)⟩
theorem fx_if_eq {x : Int32} {off : Int} {tgt : Nat} (hd : decode M.2.1 pc = .ok (.ifCond .eq off, 3)) (ht : (pc : Int) + off = (tgt : Int)) (hn : h.length = out.2.length) (kt : x = 0 → Fx M out tgt L S h) (kf : ¬ (x = 0) → Fx M out (pc + 3) L S h) : Fx M out pc L (.int x :: S) h := ⟨hn, fun E D tA ad p l e s m args below meth c C H locs ls hl hP hS => lv_if_eq C.1 C.2.1 hd ht (fun q => (kt q).2 E D tA ad p l e s m args below meth c C H locs ls hl hP hS) (fun q => (kf q).2 E D tA ad p l e s m args below meth c C H locs ls hl hP hS)⟩
theorem fx_icmp_eq {x y : Int32} {off : Int} {tgt : Nat} (hd : decode M.2.1 pc = .ok (.if_icmp .eq off, 3)) (ht : (pc : Int) + off = (tgt : Int)) (hn : h.length = out.2.length) (kt : x = y → Fx M out tgt L S h) (kf : ¬ (x = y) → Fx M out (pc + 3) L S h) : Fx M out pc L (.int y :: .int x :: S) h := ⟨hn, fun E D tA ad p l e s m args below meth c C H locs ls hl hP hS => lv_icmp_eq C.1 C.2.1 hd ht (fun q => (kt q).2 E D tA ad p l e s m args below meth c C H locs ls hl hP hS) (fun q => (kf q).2 E D tA ad p l e s m args below meth c C H locs ls hl hP hS)⟩
theorem fx_if_ne {x : Int32} {off : Int} {tgt : Nat} (hd : decode M.2.1 pc = .ok (.ifCond .ne off, 3)) (ht : (pc : Int) + off = (tgt : Int)) (hn : h.length = out.2.length) (kt : ¬ x = 0 → Fx M out tgt L S h) (kf : x = 0 → Fx M out (pc + 3) L S h) : Fx M out pc L (.int x :: S) h := ⟨hn, fun E D tA ad p l e s m args below meth c C H locs ls hl hP hS => lv_if_ne C.1 C.2.1 hd ht (fun q => (kt q).2 E D tA ad p l e s m args below meth c C H locs ls hl hP hS) (fun q => (kf q).2 E D tA ad p l e s m args below meth c C H locs ls hl hP hS)⟩
theorem fx_icmp_ne {x y : Int32} {off : Int} {tgt : Nat} (hd : decode M.2.1 pc = .ok (.if_icmp .ne off, 3)) (ht : (pc : Int) + off = (tgt : Int)) (hn : h.length = out.2.length) (kt : ¬ x = y → Fx M out tgt L S h) (kf : x = y → Fx M out (pc + 3) L S h) : Fx M out pc L (.int y :: .int x :: S) h := ⟨hn, fun E D tA ad p l e s m args below meth c C H locs ls hl hP hS => lv_icmp_ne C.1 C.2.1 hd ht (fun q => (kt q).2 E D tA ad p l e s m args below meth c C H locs ls hl hP hS) (fun q => (kf q).2 E D tA ad p l e s m args below meth c C H locs ls hl hP hS)⟩
theorem fx_if_lt {x : Int32} {off : Int} {tgt : Nat} (hd : decode M.2.1 pc = .ok (.ifCond .lt off, 3)) (ht : (pc : Int) + off = (tgt : Int)) (hn : h.length = out.2.length) (kt : x < 0 → Fx M out tgt L S h) (kf : ¬ (x < 0) → Fx M out (pc + 3) L S h) : Fx M out pc L (.int x :: S) h := ⟨hn, fun E D tA ad p l e s m args below meth c C H locs ls hl hP hS => lv_if_lt C.1 C.2.1 hd ht (fun q => (kt q).2 E D tA ad p l e s m args below meth c C H locs ls hl hP hS) (fun q => (kf q).2 E D tA ad p l e s m args below meth c C H locs ls hl hP hS)⟩
theorem fx_icmp_lt {x y : Int32} {off : Int} {tgt : Nat} (hd : decode M.2.1 pc = .ok (.if_icmp .lt off, 3)) (ht : (pc : Int) + off = (tgt : Int)) (hn : h.length = out.2.length) (kt : x < y → Fx M out tgt L S h) (kf : ¬ (x < y) → Fx M out (pc + 3) L S h) : Fx M out pc L (.int y :: .int x :: S) h := ⟨hn, fun E D tA ad p l e s m args below meth c C H locs ls hl hP hS => lv_icmp_lt C.1 C.2.1 hd ht (fun q => (kt q).2 E D tA ad p l e s m args below meth c C H locs ls hl hP hS) (fun q => (kf q).2 E D tA ad p l e s m args below meth c C H locs ls hl hP hS)⟩
theorem fx_if_ge {x : Int32} {off : Int} {tgt : Nat} (hd : decode M.2.1 pc = .ok (.ifCond .ge off, 3)) (ht : (pc : Int) + off = (tgt : Int)) (hn : h.length = out.2.length) (kt : 0 ≤ x → Fx M out tgt L S h) (kf : ¬ (0 ≤ x) → Fx M out (pc + 3) L S h) : Fx M out pc L (.int x :: S) h := ⟨hn, fun E D tA ad p l e s m args below meth c C H locs ls hl hP hS => lv_if_ge C.1 C.2.1 hd ht (fun q => (kt q).2 E D tA ad p l e s m args below meth c C H locs ls hl hP hS) (fun q => (kf q).2 E D tA ad p l e s m args below meth c C H locs ls hl hP hS)⟩
theorem fx_icmp_ge {x y : Int32} {off : Int} {tgt : Nat} (hd : decode M.2.1 pc = .ok (.if_icmp .ge off, 3)) (ht : (pc : Int) + off = (tgt : Int)) (hn : h.length = out.2.length) (kt : y ≤ x → Fx M out tgt L S h) (kf : ¬ (y ≤ x) → Fx M out (pc + 3) L S h) : Fx M out pc L (.int y :: .int x :: S) h := ⟨hn, fun E D tA ad p l e s m args below meth c C H locs ls hl hP hS => lv_icmp_ge C.1 C.2.1 hd ht (fun q => (kt q).2 E D tA ad p l e s m args below meth c C H locs ls hl hP hS) (fun q => (kf q).2 E D tA ad p l e s m args below meth c C H locs ls hl hP hS)⟩
theorem fx_if_gt {x : Int32} {off : Int} {tgt : Nat} (hd : decode M.2.1 pc = .ok (.ifCond .gt off, 3)) (ht : (pc : Int) + off = (tgt : Int)) (hn : h.length = out.2.length) (kt : 0 < x → Fx M out tgt L S h) (kf : ¬ (0 < x) → Fx M out (pc + 3) L S h) : Fx M out pc L (.int x :: S) h := ⟨hn, fun E D tA ad p l e s m args below meth c C H locs ls hl hP hS => lv_if_gt C.1 C.2.1 hd ht (fun q => (kt q).2 E D tA ad p l e s m args below meth c C H locs ls hl hP hS) (fun q => (kf q).2 E D tA ad p l e s m args below meth c C H locs ls hl hP hS)⟩
theorem fx_icmp_gt {x y : Int32} {off : Int} {tgt : Nat} (hd : decode M.2.1 pc = .ok (.if_icmp .gt off, 3)) (ht : (pc : Int) + off = (tgt : Int)) (hn : h.length = out.2.length) (kt : y < x → Fx M out tgt L S h) (kf : ¬ (y < x) → Fx M out (pc + 3) L S h) : Fx M out pc L (.int y :: .int x :: S) h := ⟨hn, fun E D tA ad p l e s m args below meth c C H locs ls hl hP hS => lv_icmp_gt C.1 C.2.1 hd ht (fun q => (kt q).2 E D tA ad p l e s m args below meth c C H locs ls hl hP hS) (fun q => (kf q).2 E D tA ad p l e s m args below meth c C H locs ls hl hP hS)⟩
theorem fx_if_le {x : Int32} {off : Int} {tgt : Nat} (hd : decode M.2.1 pc = .ok (.ifCond .le off, 3)) (ht : (pc : Int) + off = (tgt : Int)) (hn : h.length = out.2.length) (kt : x ≤ 0 → Fx M out tgt L S h) (kf : ¬ (x ≤ 0) → Fx M out (pc + 3) L S h) : Fx M out pc L (.int x :: S) h := ⟨hn, fun E D tA ad p l e s m args below meth c C H locs ls hl hP hS => lv_if_le C.1 C.2.1 hd ht (fun q => (kt q).2 E D tA ad p l e s m args below meth c C H locs ls hl hP hS) (fun q => (kf q).2 E D tA ad p l e s m args below meth c C H locs ls hl hP hS)⟩
theorem fx_icmp_le {x y : Int32} {off : Int} {tgt : Nat} (hd : decode M.2.1 pc = .ok (.if_icmp .le off, 3)) (ht : (pc : Int) + off = (tgt : Int)) (hn : h.length = out.2.length) (kt : x ≤ y → Fx M out tgt L S h) (kf : ¬ (x ≤ y) → Fx M out (pc + 3) L S h) : Fx M out pc L (.int y :: .int x :: S) h := ⟨hn, fun E D tA ad p l e s m args below meth c C H locs ls hl hP hS => lv_icmp_le C.1 C.2.1 hd ht (fun q => (kt q).2 E D tA ad p l e s m args below meth c C H locs ls hl hP hS) (fun q => (kf q).2 E D tA ad p l e s m args below meth c C H locs ls hl hP hS)⟩
theorem fx_goto {off : Int} {tgt : Nat} (hd : decode M.2.1 pc = .ok (.goto off, 3)) (ht : (pc : Int) + off = (tgt : Int)) (k : Fx M out tgt L S h) : Fx M out pc L S h := ⟨k.1, fun E D tA ad p l e s m args below meth c C H locs ls hl hP hS => lv_goto C.1 C.2.1 hd ht (k.2 E D tA ad p l e s m args below meth c C H locs ls hl hP hS)⟩
theorem fx_tableIn {dflt lo hi : Int} {offs : Array Int} {len : Nat} {x : Int32} {off : Int} {tgt : Nat} (hd : decode M.2.1 pc = .ok (.tableswitch dflt lo hi offs, len)) (h1 : ¬ x.toInt < lo) (h2 : ¬ hi < x.toInt) (ho : offs[(x.toInt - lo).toNat]? = some off) (ht : (pc : Int) + off = (tgt : Int)) (k : Fx M out tgt L S h) : Fx M out pc L (.int x :: S) h := ⟨k.1, fun E D tA ad p l e s m args below meth c C H locs ls hl hP hS => lv_tableIn C.1 C.2.1 hd h1 h2 ho ht (k.2 E D tA ad p l e s m args below meth c C H locs ls hl hP hS)⟩
theorem fx_tableOut {dflt lo hi : Int} {offs : Array Int} {len : Nat} {x : Int32} {tgt : Nat} (hd : decode M.2.1 pc = .ok (.tableswitch dflt lo hi offs, len)) (hq : x.toInt < lo ∨ hi < x.toInt) (ht : (pc : Int) + dflt = (tgt : Int)) (k : Fx M out tgt L S h) : Fx M out pc L (.int x :: S) h := ⟨k.1, fun E D tA ad p l e s m args below meth c C H locs ls hl hP hS => lv_tableOut C.1 C.2.1 hd hq ht (k.2 E D tA ad p l e s m args below meth c C H locs ls hl hP hS)⟩
theorem fx_lookup {dflt : Int} {ps : Array (Int × Int)} {len : Nat} {x : Int32} {off : Int} {tgt : Nat} (hd : decode M.2.1 pc = .ok (.lookupswitch dflt ps, len)) (hp : (ps.toList.zip (ps.toList.drop 1)).all (fun (a, next) => a.1 < next.1) = true) (ho : Op.lookupswitch.offset ps.toList dflt x.toInt = off) (ht : (pc : Int) + off = (tgt : Int)) (k : Fx M out tgt L S h) : Fx M out pc L (.int x :: S) h := ⟨k.1, fun E D tA ad p l e s m args below meth c C H locs ls hl hP hS => lv_lookup C.1 C.2.1 hd hp ho ht (k.2 E D tA ad p l e s m args below meth c C H locs ls hl hP hS)⟩
end FX
/-! ===== links, and rows over the heap ===== -/
theorem z_in {w : Cond} (h : w ∈ lw_tbl) (g : goodWord w = true) : w ∈ z_T := List.mem_filter.mpr ⟨h, g⟩
theorem z_inN {w : Cond} (h : w ∈ lw_tbl) (g : z_isN w = true) : w ∈ z_N := List.mem_filter.mpr ⟨h, g⟩
theorem z_Tw {M : zM} {w : Cond} (h : w ∈ z_T) : w ∈ z_wd M := List.mem_cons_of_mem _ h
/-- a class of ours: its fields in order, their types -/
def z_Kl (ci : Nat) (C : String) (T : u_T) (N : Nat) (ty : Nat → FieldType) : Prop :=
  vwCl[ci]? = some (C, T, N) ∧ (∀ w ∈ u_ws C T N, w ∈ z_T) ∧ (∀ k, k < N → parseFieldDescriptor (T k).2.2.1 = some (ty k)) ∧ (∀ a, a < N → ∀ b, b < N → a ≠ b → (T a).2.1 ≠ (T b).2.1)
/-- entry idx of a class's pool is field j of class ci, of this type -/
def z_Lk (own : String) (idx ci j : Nat) (ft : FieldType) (fin : Bool) : Prop := ∃ C T N ty, z_Kl ci C T N ty ∧ j < N ∧ ty j = ft ∧ (T j).2.2.2 = fin ∧
  (Cond.fieldLink own idx (T j).1 (T j).2.1 (T j).2.2.1 ∈ z_T ∨ ∃ host, Cond.fieldLinkNest own idx (T j).1 (T j).2.1 (T j).2.2.1 host ∈ z_N)
theorem z_ws0 {tA : Nat → ClassId} {ad : Nat → Nat} {h : zH} {q : Nat} {c : zC} (h0 : z_at h q = some c) : (z_ws tA ad 0 h)[q]? = some (ad q, z_c tA ad c) := by
  have := z_ws_at tA ad h 0 q c h0
  rwa [Nat.zero_add] at this
theorem z_ws0s {tA : Nat → ClassId} {ad : Nat → Nat} {h h' : zH} {q : Nat} {c : zC} (hs : z_set h q c = h') : (z_ws tA ad 0 h).set q (ad q, z_c tA ad c) = z_ws tA ad 0 h' := by
  have := z_ws_set tA ad h 0 q c
  rw [Nat.zero_add] at this
  rw [this, hs]
section FH
variable {M : zM} {out : Option Value × zH} {pc : Nat} {L : List (Option Value)} {S : List Value} {h : zH}
theorem fx_get {idx ci j q : Nat} {fs : List Value} {v : Value} {ft : FieldType} {fin : Bool} (hd : decode M.2.1 pc = .ok (.getfield idx, 3)) (hk : z_Lk M.1.cls idx ci j ft fin) (h0 : z_at h q = some (.inr (ci, fs))) (hv : fs[j]? = some v)
    (k : Fx M out (pc + 3) L (v :: S) h) : Fx M out pc L (.ref q :: S) h := by
  refine ⟨k.1, fun E D tA ad p l e s m args below meth c C H locs ls hl hP hS => ?_⟩
  obtain ⟨c1, c2, c3, c4, c5, c6, c7, c8, c9, c10, c11, c12⟩ := id C
  obtain ⟨CC, T, N, ty, ⟨e1, e2, e3, e4⟩, hj, -, -, hlk⟩ := hk
  have he := z_ws0 (tA := tA) (ad := ad) h0
  have hv' : (fs.map (z_g ad))[j]? = some (z_g ad v) := by rw [List.getElem?_map, hv]; rfl
  rcases hlk with hlk | ⟨host, hlk⟩
  · exact va_get (T := T) (ref := (T j).1) c1 c2 c6 (fun w hw => z_Tw (e2 w hw)) c5 c8 hP q he e1 j hj (c6 _ (z_Tw hlk)) (fun _ h9 => h9) hv' hd (k.2 E D tA ad p l e s m args below meth c C H locs ls hl hP hS)
  · exact va_getN (T := T) (ref := (T j).1) (host := host) c1 c2 c6 (fun w hw => z_Tw (e2 w hw)) c5 c8 hP q he e1 j hj (va_Nw.use rfl (c9 _ hlk)) (fun _ h9 => h9) hv' hd (k.2 E D tA ad p l e s m args below meth c C H locs ls hl hP hS)
theorem fx_put {idx ci j q : Nat} {fs : List Value} {v : Value} {ft : FieldType} {h' : zH} (hd : decode M.2.1 pc = .ok (.putfield idx, 3)) (hk : z_Lk M.1.cls idx ci j ft false) (h0 : z_at h q = some (.inr (ci, fs))) (hjl : j < fs.length) (hg : ∀ ad, z_g ad v = v) (hnw : narrow ft v = v) (hft : fits ft v = true)
    (hs : z_set h q (.inr (ci, fs.set j v)) = h') (k : Fx M out (pc + 3) L S h') : Fx M out pc L (v :: .ref q :: S) h := by
  have hlen : h'.length = h.length := by rw [← hs, z_set_len]
  refine ⟨by rw [← hlen]; exact k.1, fun E D tA ad p l e s m args below meth c C H locs ls hl hP hS => ?_⟩
  obtain ⟨c1, c2, c3, c4, c5, c6, c7, c8, c9, c10, c11, c12⟩ := id C
  obtain ⟨CC, T, N, ty, ⟨e1, e2, e3, e4⟩, hj, hty, hfin, hlk⟩ := hk
  have he := z_ws0 (tA := tA) (ad := ad) h0
  have hD := z_D c11 tA s.heap.size h rfl
  have hmap : (fs.map (z_g ad)).set j v = (fs.set j v).map (z_g ad) := by rw [List.map_set, hg ad]
  have hws : (z_ws tA ad 0 h).set q (ad q, .inr (ci, (fs.map (z_g ad)).set j v)) = z_ws tA ad 0 h' := by rw [hmap]; exact z_ws0s hs
  have kk : ∀ (H1 : Heap) (locs1 : List Loc), va_P D vwCl ((z_ws tA ad 0 h).set q (ad q, .inr (ci, (fs.map (z_g ad)).set j v))) H1 → va_D (z_A ad h.length s.heap.size) ((z_ws tA ad 0 h).set q (ad q, .inr (ci, (fs.map (z_g ad)).set j v))) → va_S (z_A ad h.length s.heap.size) s.heap H1 locs1 → W p l e (z_rm M.2.2.2.2) s m args below meth c H1 locs1 0 0 (MQ below (z_Q D tA ad out.1 out.2 (z_A ad h.length s.heap.size)) args s 0 0 (z_A ad h.length s.heap.size)) (F0 m (pc + 3) ls (S.map (z_g ad))) := by
    intro H1 locs1 hP1 hD1 hS1
    rw [hws] at hP1
    have := k.2 E D tA ad p l e s m args below meth c (by rw [hlen]; exact C) H1 locs1 ls hl hP1 (by rw [hlen]; exact hS1)
    rw [hlen] at this
    exact this
  show W p l e (z_rm M.2.2.2.2) s m args below meth c H locs 0 0 _ (F0 m pc ls (z_g ad v :: .ref (ad q) :: S.map (z_g ad)))
  rw [hg ad]
  rcases hlk with hlk | ⟨host, hlk⟩
  · exact va_put (T := T) (ref := (T j).1) (ty := ft) c1 c2 c6 (fun w hw => z_Tw (e2 w hw)) ty e3 e4 c5 c8 hP hD hS q he e1 j hj (c6 _ (z_Tw hlk)) (fun _ h9 => h9) hfin (by rw [e3 j hj, hty]) hnw hft (by rw [List.length_map]; exact hjl) hd kk
  · exact va_putN (T := T) (ref := (T j).1) (host := host) (ty := ft) c1 c2 c6 (fun w hw => z_Tw (e2 w hw)) ty e3 e4 c5 c8 hP hD hS q he e1 j hj (va_Nw.use rfl (c9 _ hlk)) (fun _ h9 => h9) hfin (by rw [e3 j hj, hty]) hnw hft (by rw [List.length_map]; exact hjl) hd kk
theorem fx_iald {q n : Nat} {f : Nat → Int32} {i : Int32} (hd : decode M.2.1 pc = .ok (.iaload, 1)) (h0 : z_at h q = some (.inl (0, n, .inl f))) (hi : vp_in i n) (k : Fx M out (pc + 1) L (.int (f i.toNatClampNeg) :: S) h) : Fx M out pc L (.int i :: .ref q :: S) h := by
  refine ⟨k.1, fun E D tA ad p l e s m args below meth c C H locs ls hl hP hS => ?_⟩
  obtain ⟨c1, c2, c3, c4, c5, c6, c7, c8, c9, c10, c11, c12⟩ := id C
  exact va_iald c1 c2 c8 hP q 0 (z_ws0 h0) rfl hi hd (k.2 E D tA ad p l e s m args below meth c C H locs ls hl hP hS)
theorem fx_iast {q n : Nat} {f : Nat → Int32} {i x : Int32} {h' : zH} (hd : decode M.2.1 pc = .ok (.iastore, 1)) (h0 : z_at h q = some (.inl (0, n, .inl f))) (hi : vp_in i n) (hs : z_set h q (.inl (0, n, .inl (upd f i.toNatClampNeg x))) = h') (k : Fx M out (pc + 1) L S h') : Fx M out pc L (.int x :: .int i :: .ref q :: S) h := by
  have hlen : h'.length = h.length := by rw [← hs, z_set_len]
  refine ⟨by rw [← hlen]; exact k.1, fun E D tA ad p l e s m args below meth c C H locs ls hl hP hS => ?_⟩
  obtain ⟨c1, c2, c3, c4, c5, c6, c7, c8, c9, c10, c11, c12⟩ := id C
  have hD := z_D c11 tA s.heap.size h rfl
  have hws : (z_ws tA ad 0 h).set q (ad q, .inl (tA 0, n, .inl (upd f i.toNatClampNeg x))) = z_ws tA ad 0 h' := z_ws0s hs
  refine va_iast c1 c2 c8 hP hD hS q 0 (z_ws0 h0) rfl hi hd (fun H1 locs1 hP1 hD1 hS1 => ?_)
  rw [hws] at hP1
  have := k.2 E D tA ad p l e s m args below meth c (by rw [hlen]; exact C) H1 locs1 ls hl hP1 (by rw [hlen]; exact hS1)
  rw [hlen] at this
  exact this
theorem fx_alen {q t : Nat} {x : vp_A} {v : Int32} (hd : decode M.2.1 pc = .ok (.arraylength, 1)) (h0 : z_at h q = some (.inl (t, x))) (ht : t < 3) (hv : Int32.ofNat x.1 = v) (k : Fx M out (pc + 1) L (.int v :: S) h) : Fx M out pc L (.ref q :: S) h := by
  refine ⟨k.1, fun E D tA ad p l e s m args below meth c C H locs ls hl hP hS => ?_⟩
  obtain ⟨c1, c2, c3, c4, c5, c6, c7, c8, c9, c10, c11, c12⟩ := id C
  have hn : (z_ga ad x).1 = x.1 := by
    obtain ⟨n, a | a | a | a | a⟩ := x <;> rfl
  obtain ⟨ty, hty⟩ : ∃ ty, (z_tys tA)[t]? = some (tA t, ty) := by
    match t, ht with
    | 0, _ => exact ⟨_, rfl⟩
    | 1, _ => exact ⟨_, rfl⟩
    | 2, _ => exact ⟨_, rfl⟩
  exact va_alen c1 c2 c8 hP q t (z_ws0 h0) hty (by rw [hn]; exact hv) hd (k.2 E D tA ad p l e s m args below meth c C H locs ls hl hP hS)
theorem fx_aald {q t n b : Nat} {f : Nat → Option Nat} {i : Int32} (hd : decode M.2.1 pc = .ok (.aaload, 1)) (h0 : z_at h q = some (.inl (t, n, .inr (.inr (.inr (.inr f)))))) (ht : t = 1 ∨ t = 2) (hi : vp_in i n) (hb : f i.toNatClampNeg = some b) (k : Fx M out (pc + 1) L (.ref b :: S) h) : Fx M out pc L (.int i :: .ref q :: S) h := by
  refine ⟨k.1, fun E D tA ad p l e s m args below meth c C H locs ls hl hP hS => ?_⟩
  obtain ⟨c1, c2, c3, c4, c5, c6, c7, c8, c9, c10, c11, c12⟩ := id C
  obtain ⟨CC, hty⟩ : ∃ CC, (z_tys tA)[t]? = some (tA t, .object CC) := by
    rcases ht with rfl | rfl
    · exact ⟨_, rfl⟩
    · exact ⟨_, rfl⟩
  have := va_aldq (i := i) (p := p) (l := l) (e := e) (R := z_rm M.2.2.2.2) (s := s) (m := m) (args := args) (below := below) (meth := meth) (c := c) (H := H) (locs := locs) (cells := 0) (slots := 0) (pc := pc) (ls := ls) (rest := S.map (z_g ad)) (Q := MQ below (z_Q D tA ad out.1 out.2 (z_A ad h.length s.heap.size)) args s 0 0 (z_A ad h.length s.heap.size)) c1 c2 c8 hP q t (z_ws0 h0) hty hi hd
  refine this ?_
  show W p l e _ s m args below meth c H locs 0 0 _ (F0 m (pc + 1) ls (va_rf ((f i.toNatClampNeg).map ad) :: S.map (z_g ad)))
  rw [hb]
  exact k.2 E D tA ad p l e s m args below meth c C H locs ls hl hP hS
theorem fx_ldc {idx : Nat} {v : Int32} (hd : decode M.2.1 pc = .ok (.ldc idx, 2)) (hk : Cond.constant M.1.cls idx v ∈ z_T) (k : Fx M out (pc + 2) L (.int v :: S) h) : Fx M out pc L S h :=
  ⟨k.1, fun E D tA ad p l e s m args below meth c C H locs ls hl hP hS => lv_ldc C.1 C.2.1 C.2.2.2.2.1 (C.2.2.2.2.2.1 _ (z_Tw hk)) hd (k.2 E D tA ad p l e s m args below meth c C H locs ls hl hP hS)⟩
theorem fx_ldcw {idx : Nat} {v : Int32} (hd : decode M.2.1 pc = .ok (.ldc_w idx, 3)) (hk : Cond.constant M.1.cls idx v ∈ z_T) (k : Fx M out (pc + 3) L (.int v :: S) h) : Fx M out pc L S h :=
  ⟨k.1, fun E D tA ad p l e s m args below meth c C H locs ls hl hP hS => lv_ldcw C.1 C.2.1 C.2.2.2.2.1 (C.2.2.2.2.2.1 _ (z_Tw hk)) hd (k.2 E D tA ad p l e s m args below meth c C H locs ls hl hP hS)⟩
theorem fx_ldc2 {idx : Nat} {v : Int64} (hd : decode M.2.1 pc = .ok (.ldc2_w idx, 3)) (hk : Cond.constantLong M.1.cls idx v ∈ z_T) (k : Fx M out (pc + 3) L (.long v :: S) h) : Fx M out pc L S h :=
  ⟨k.1, fun E D tA ad p l e s m args below meth c C H locs ls hl hP hS => lv_ldc2 C.1 C.2.1 C.2.2.2.2.1 (C.2.2.2.2.2.1 _ (z_Tw hk)) hd (k.2 E D tA ad p l e s m args below meth c C H locs ls hl hP hS)⟩
theorem fx_copy {idx q0 q1 n0 n1 : Nat} {f g : Nat → Int32} {sp dp n : Int32} {h' : zH} (hd : decode M.2.1 pc = .ok (.invokestatic idx, 3)) (hk : Cond.methodLink M.1.cls idx arraycopyName ∈ z_T) (hk2 : Cond.native arraycopyName ∈ z_T ∧ Cond.static arraycopyName ∈ z_T ∧ Cond.initialized "java/lang/System" ∈ z_T) (hdep : 1 ≤ M.2.2.2.2)
    (h0 : z_at h q0 = some (.inl (0, n0, .inl f))) (h1 : z_at h q1 = some (.inl (0, n1, .inl g))) (g1 : ¬ sp < 0) (g2 : ¬ dp < 0) (g3 : ¬ n < 0) (g4 : sp.toNatClampNeg + n.toNatClampNeg ≤ n0) (g5 : dp.toNatClampNeg + n.toNatClampNeg ≤ n1) (hr : (S.map fun v => v.category).sum ≤ 8)
    (hs : z_set h q1 (.inl (0, n1, .inl (va_cpy f g sp.toNatClampNeg dp.toNatClampNeg n.toNatClampNeg))) = h') (k : Fx M out (pc + 3) L S h') : Fx M out pc L (.int n :: .int dp :: .ref q1 :: .int sp :: .ref q0 :: S) h := by
  have hlen : h'.length = h.length := by rw [← hs, z_set_len]
  refine ⟨by rw [← hlen]; exact k.1, fun E D tA ad p l e s m args below meth c C H locs ls hl hP hS => ?_⟩
  obtain ⟨c1, c2, c3, c4, c5, c6, c7, c8, c9, c10, c11, c12⟩ := id C
  have hD := z_D c11 tA s.heap.size h rfl
  have hws : (z_ws tA ad 0 h).set q1 (ad q1, .inl (tA 0, n1, .inl (va_cpy f g sp.toNatClampNeg dp.toNatClampNeg n.toNatClampNeg))) = z_ws tA ad 0 h' := z_ws0s hs
  have hroom : (((S.map (z_g ad)).map fun v => v.category).sum + (nativeFrameWords "java/lang/System" "arraycopy" 5 + 11)) ≤ (z_rm M.2.2.2.2).locals := by
    rw [z_cats]
    have e : nativeFrameWords "java/lang/System" "arraycopy" 5 ≤ 12 := by decide +kernel
    show _ ≤ 31 * M.2.2.2.2
    omega
  refine va_copyi c1 c2 (by rw [c4]; exact hl.1.symm) c5 (c6 _ (z_Tw hk)) (c6 _ (z_Tw hk2.1)) (c6 _ (z_Tw hk2.2.1)) (c6 _ (z_Tw hk2.2.2)) c8 hP hD hS q0 q1 0 0 (z_ws0 h0) (z_ws0 h1) (ty := .int) rfl rfl rfl g1 g2 g3 g4 g5 (fun _ _ => rfl) hdep hroom hd (fun H1 locs1 hP1 hD1 hS1 => ?_)
  rw [hws] at hP1
  have := k.2 E D tA ad p l e s m args below meth c (by rw [hlen]; exact C) H1 locs1 ls hl hP1 (by rw [hlen]; exact hS1)
  rw [hlen] at this
  exact this
/-! ===== calls ===== -/
/-- what a call of a method needs of the tables -/
def z_ok (Y : zM) : Prop := Cond.code Y.1 Y.2.1 Y.2.2.1 Y.2.2.2.1 ∈ z_T ∧ Cond.initialized Y.1.cls ∈ z_T ∧ (Y.1.cls ≠ "java/lang/invoke/MethodHandle" ∧ Y.1.cls ≠ "java/lang/invoke/VarHandle") ∧ Y.2.2.1 ≤ 12 ∧ plainName Y.1.cls = true
def z_np (Y : zM) (n : Nat) : Prop := ∀ sig, parseMethodDescriptor Y.1.desc = some sig → n = sig.parameters.length
def z_Lm (own : String) (idx : Nat) (Y : zM) : Prop := Cond.methodLink own idx Y.1 ∈ z_T ∨ ∃ host, Cond.methodLinkNest own idx Y.1 host ∈ z_N
def z_okV (Y : zM) (ci n : Nat) : Prop := z_ok Y ∧ z_np Y n ∧ Cond.instanceMethod Y.1 ∈ z_T ∧ Cond.selects Y.1.cls Y.1 Y.1 ∈ z_T ∧ ∃ T N, vwCl[ci]? = some (Y.1.cls, T, N)
def z_okS (Y : zM) (n : Nat) : Prop := z_ok Y ∧ z_np Y n ∧ Cond.static Y.1 ∈ z_T
theorem z_pay {M : zM} {args : Array Value} {s : State} (c6 : ∀ w ∈ z_wd M, w.before args s = true) {Y : zM} (hY : Cond.code Y.1 Y.2.1 Y.2.2.1 Y.2.2.2.1 ∈ z_T) : ∀ w ∈ z_wd Y, ∀ (a' : Array Value) (U : State), s.WarmedH U.vm → w.before a' U = true := by
  intro w hw a' U hW
  have hw2 : w ∈ z_T := by
    rcases List.mem_cons.mp hw with e | e
    · rw [e]; exact hY
    · exact e
  exact word_at hW (good_of_word (List.mem_filter.mp hw2).2) (c6 w (z_Tw hw2))
theorem z_Pcx {M : zM} {E : zE} {D : va_G} {tA : Nat → ClassId} {ad : Nat → Nat} {p : Program} {s : State} {m : MethodId} {args : Array Value} {meth : Method} {c : Code} (C : z_Cx M h.length E D tA ad p s m args meth c) {H : Heap} {locs : List Loc} (hP : va_P D vwCl (z_ws tA ad 0 h) H) (hS : va_S (z_A ad h.length s.heap.size) s.heap H locs) (as : List Value) :
    FrameBlind (va_Pc as (z_Wd E D tA ad h H.size)) ∧ ∀ U : State, U.heap = H → s.WarmedH U.vm → va_Pc as (z_Wd E D tA ad h H.size) as.toArray U := by
  obtain ⟨c1, c2, c3, c4, c5, c6, c7, c8, c9, c10, c11, c12⟩ := C
  refine ⟨fun a U g mk q => ?_, fun U hU hW => ⟨rfl, by rw [hU], by rw [hU]; exact hP, va_K.moved hW.alike c8, c9.pass hW, ?_⟩⟩
  · obtain ⟨q0, q1, q2, q3, q4, q5⟩ := q
    exact ⟨q0, q1, q2, va_K.moved (u := U) (U := U.calling g mk a) (Vm.Alike.refl U.vm) q3, q4.calling, q5.calling⟩
  · refine z_EX.pass c10 hU hW (fun a h1 h2 => hS.2.1 a h1 h2) (fun q hq => ?_)
    rcases hq with hq | hq
    · exact Or.inl hq
    · exact Or.inr (Nat.le_trans hS.1 hq)
/-- behind a call -/
theorem z_run {p : Program} {l : Launch} {e : Env} {R : Room} {s : State} {m : MethodId} {args : Array Value} {below : List Frame} {meth : Method} {c : Code} {H : Heap} {locs : List Loc} {Q : State → Prop} {ls : Array Slot} {st0 rest : List Value} {D : va_G} {tA : Nat → ClassId} {ad : Nat → Nat} {n : Nat} {rv : Option Value} {h1 : zH} {a : Array Value}
    (hr : va_Run p l e R s m args below meth c H locs 0 0 0 0 (F0 m pc ls st0) rest (z_Q D tA ad rv h1 (z_A ad n H.size) a) (z_A ad n H.size)) (hS : va_S (z_A ad n s.heap.size) s.heap H locs)
    (kk : ∀ (H1 : Heap) (locs1 : List Loc), va_P D vwCl (z_ws tA ad 0 h1) H1 → va_S (z_A ad n s.heap.size) s.heap H1 locs1 → W p l e R s m args below meth c H1 locs1 0 0 Q (F0 m (pc + 3) ls ((rv.map (z_g ad)).toList ++ rest))) : W p l e R s m args below meth c H locs 0 0 Q (F0 m pc ls st0) := by
  have hA : ∀ q, z_A ad n H.size q → z_A ad n s.heap.size q := fun q hq => by
    rcases hq with hq | hq
    · exact Or.inl hq
    · exact Or.inr (Nat.le_trans hS.1 hq)
  intro T hT X
  obtain ⟨v, st₀, t, T', LL, h0, X', hL, e1, e2, ⟨⟨hv, hb⟩, hz, hk⟩, st⟩ := hr T hT X
  cases hv
  rw [h0] at hz hk
  obtain ⟨t2, a1, b1⟩ := kk T'.heap (locs ++ LL) (by rw [e1]; exact hb)
    ⟨Nat.le_trans hS.1 (by rw [e1]; exact hz), fun q h1 h2 => by rw [e1, hk q (Nat.lt_of_lt_of_le h1 hS.1) (fun z => h2 (hA q z))]; exact hS.2.1 q h1 h2, fun q hq => by
      rcases List.mem_append.mp hq with h | h
      · exact hS.2.2 q h
      · exact hA _ (hL q h)⟩ T' rfl X'
  exact ⟨t2, st t2 a1, b1⟩
theorem fx_callS {Y : zM} {idx : Nat} {as : List Value} {rv : Option Value} {h1 : zH} {S0 S1 : List Value} (hd : decode M.2.1 pc = .ok (.invokestatic idx, 3)) (hY : z_okS Y as.length) (hk : z_Lm M.1.cls idx Y) (hdep : Y.2.2.2.2 + 1 ≤ M.2.2.2.2) (hr : (S.map fun v => v.category).sum ≤ 8) (hM : Mx Y as h rv h1)
    (e0 : S0 = as.reverse ++ S) (e1 : S1 = rv.toList ++ S) (k : Fx M out (pc + 3) L S1 h1) : Fx M out pc L S0 h := by
  subst e0; subst e1
  obtain ⟨hlen, hM⟩ := hM
  refine ⟨by rw [← hlen]; exact k.1, fun E D tA ad p l e s m args below meth c C H locs ls hl hP hS => ?_⟩
  obtain ⟨c1, c2, c3, c4, c5, c6, c7, c8, c9, c10, c11, c12⟩ := id C
  obtain ⟨⟨y1, y2, y3, y4, y5⟩, y6, y7⟩ := hY
  have hrm : (z_rm Y.2.2.2.2).frames + 1 ≤ (z_rm M.2.2.2.2).frames := hdep
  have hlo : 8 + (Y.2.2.1 + 11) + (z_rm Y.2.2.2.2).locals ≤ (z_rm M.2.2.2.2).locals := by
    show 8 + (Y.2.2.1 + 11) + 31 * Y.2.2.2.2 ≤ 31 * M.2.2.2.2
    omega
  have hst : (as.reverse ++ S).map (z_g ad) = (as.map (z_g ad)).reverse ++ S.map (z_g ad) := by rw [List.map_append, List.map_reverse]
  have hcats : 2 * (F0 m pc ls ((as.reverse ++ S).map (z_g ad))).monitorRoom + ((S.map (z_g ad)).map fun v => v.category).sum ≤ 8 := lv_room (by rw [z_cats]; exact hr)
  have hlenA : (as.map (z_g ad)).length = as.length := List.length_map _
  have kk : ∀ (H1 : Heap) (locs1 : List Loc), va_P D vwCl (z_ws tA ad 0 h1) H1 → va_S (z_A ad h.length s.heap.size) s.heap H1 locs1 → W p l e (z_rm M.2.2.2.2) s m args below meth c H1 locs1 0 0 (MQ below (z_Q D tA ad out.1 out.2 (z_A ad h.length s.heap.size)) args s 0 0 (z_A ad h.length s.heap.size)) (F0 m (pc + 3) ls ((rv.map (z_g ad)).toList ++ S.map (z_g ad))) := by
    intro H1 locs1 hP1 hS1
    have := k.2 E D tA ad p l e s m args below meth c (by rw [hlen]; exact C) H1 locs1 ls hl hP1 (by rw [hlen]; exact hS1)
    rw [hlen] at this
    have e2 : (rv.toList ++ S).map (z_g ad) = (rv.map (z_g ad)).toList ++ S.map (z_g ad) := by cases rv <;> rfl
    rw [e2] at this
    exact this
  rcases hk with hk | ⟨host, hk⟩
  · refine z_run (va_runS (n := as.length) (As := as.map (z_g ad)) (rest := S.map (z_g ad)) ⟨c1, c2, c4, c5, c6⟩ (hM l E D tA ad H.size c11 c12) ⟨⟨rfl, rfl, hrm, hlo, z_pay c6 y1, List.mem_cons_self, c6 _ (z_Tw y1), c6 _ (z_Tw y2), y3, y6, c6 _ (z_Tw hk)⟩, c6 _ (z_Tw y7)⟩ (z_Pcx C hP hS _) rfl hlenA hl.1 hst hcats hd ⟨Nat.zero_le _, Nat.zero_le _⟩) hS kk
  · refine z_run (va_runSN (n := as.length) (host := host) (As := as.map (z_g ad)) (rest := S.map (z_g ad)) ⟨c1, c2, c4, c5, c6⟩ (hM l E D tA ad H.size c11 c12) ⟨⟨⟨rfl, rfl, hrm, hlo, z_pay c6 y1, List.mem_cons_self⟩, c6 _ (z_Tw y1), c6 _ (z_Tw y2), y3, y6, va_Nw.use rfl (c9 _ hk)⟩, c6 _ (z_Tw y7), trivial⟩ (z_Pcx C hP hS _) rfl hlenA hl.1 hst hcats hd ⟨Nat.zero_le _, Nat.zero_le _⟩) hS kk
theorem fx_callV {Y : zM} {idx q ci : Nat} {as fs : List Value} {rv : Option Value} {h1 : zH} {S0 S1 : List Value} (hd : decode M.2.1 pc = .ok (.invokevirtual idx, 3)) (hY : z_okV Y ci as.length) (hk : z_Lm M.1.cls idx Y) (hdep : Y.2.2.2.2 + 1 ≤ M.2.2.2.2) (h0 : z_at h q = some (.inr (ci, fs))) (hr : (S.map fun v => v.category).sum ≤ 8) (hM : Mx Y (.ref q :: as) h rv h1)
    (e0 : S0 = as.reverse ++ .ref q :: S) (e1 : S1 = rv.toList ++ S) (k : Fx M out (pc + 3) L S1 h1) : Fx M out pc L S0 h := by
  subst e0; subst e1
  obtain ⟨hlen, hM⟩ := hM
  refine ⟨by rw [← hlen]; exact k.1, fun E D tA ad p l e s m args below meth c C H locs ls hl hP hS => ?_⟩
  obtain ⟨c1, c2, c3, c4, c5, c6, c7, c8, c9, c10, c11, c12⟩ := id C
  obtain ⟨⟨y1, y2, y3, y4, y5⟩, y6, y7, y8, TT, NN, y9⟩ := hY
  have hrm : (z_rm Y.2.2.2.2).frames + 1 ≤ (z_rm M.2.2.2.2).frames := hdep
  have hlo : 8 + (Y.2.2.1 + 11) + (z_rm Y.2.2.2.2).locals ≤ (z_rm M.2.2.2.2).locals := by
    show 8 + (Y.2.2.1 + 11) + 31 * Y.2.2.2.2 ≤ 31 * M.2.2.2.2
    omega
  have hst : (as.reverse ++ .ref q :: S).map (z_g ad) = (as.map (z_g ad)).reverse ++ .ref (ad q) :: S.map (z_g ad) := by rw [List.map_append, List.map_reverse]; rfl
  have hcats : 2 * (F0 m pc ls ((as.reverse ++ .ref q :: S).map (z_g ad))).monitorRoom + ((S.map (z_g ad)).map fun v => v.category).sum ≤ 8 := lv_room (by rw [z_cats]; exact hr)
  have hlenA : (as.map (z_g ad)).length = as.length := List.length_map _
  have hrec := va_recv c8 hP y9 (z_ws0 h0)
  have kk : ∀ (H1 : Heap) (locs1 : List Loc), va_P D vwCl (z_ws tA ad 0 h1) H1 → va_S (z_A ad h.length s.heap.size) s.heap H1 locs1 → W p l e (z_rm M.2.2.2.2) s m args below meth c H1 locs1 0 0 (MQ below (z_Q D tA ad out.1 out.2 (z_A ad h.length s.heap.size)) args s 0 0 (z_A ad h.length s.heap.size)) (F0 m (pc + 3) ls ((rv.map (z_g ad)).toList ++ S.map (z_g ad))) := by
    intro H1 locs1 hP1 hS1
    have := k.2 E D tA ad p l e s m args below meth c (by rw [hlen]; exact C) H1 locs1 ls hl hP1 (by rw [hlen]; exact hS1)
    rw [hlen] at this
    have e2 : (rv.toList ++ S).map (z_g ad) = (rv.map (z_g ad)).toList ++ S.map (z_g ad) := by cases rv <;> rfl
    rw [e2] at this
    exact this
  have hPc := z_Pcx C hP hS ((Value.ref q :: as).map (z_g ad))
  rcases hk with hk | ⟨host, hk⟩
  · refine z_run (va_runV (n := as.length) (C := Y.1.cls) (b := ad q) (As := as.map (z_g ad)) (rest := S.map (z_g ad)) ⟨c1, c2, c4, c5, c6⟩ (hM l E D tA ad H.size c11 c12) ⟨⟨rfl, rfl, hrm, hlo, z_pay c6 y1, List.mem_cons_self, c6 _ (z_Tw y1), c6 _ (z_Tw y2), y3, y6, c6 _ (z_Tw hk)⟩, c6 _ (z_Tw y7), c6 _ (z_Tw y8)⟩ ⟨hPc.1, hrec, hPc.2⟩ rfl hlenA hl.1 hst hcats hd ⟨Nat.zero_le _, Nat.zero_le _⟩) hS kk
  · refine z_run (va_runVN (n := as.length) (host := host) (C := Y.1.cls) (b := ad q) (As := as.map (z_g ad)) (rest := S.map (z_g ad)) ⟨c1, c2, c4, c5, c6⟩ (hM l E D tA ad H.size c11 c12) ⟨⟨⟨rfl, rfl, hrm, hlo, z_pay c6 y1, List.mem_cons_self⟩, c6 _ (z_Tw y1), c6 _ (z_Tw y2), y3, y6, va_Nw.use rfl (c9 _ hk)⟩, c6 _ (z_Tw y7), c6 _ (z_Tw y8)⟩ ⟨hPc.1, hrec, hPc.2⟩ rfl hlenA hl.1 hst hcats hd ⟨Nat.zero_le _, Nat.zero_le _⟩) hS kk
/-! ===== what nobody writes ===== -/
theorem fx_ldcS {idx i : Nat} {tx : String} (hd : decode M.2.1 pc = .ok (.ldc idx, 2)) (hk : (M.1.cls, idx, tx, i) ∈ z_sx) (hi : i < 14) (k : Fx M out (pc + 2) L (.ref (1000 + i) :: S) h) : Fx M out pc L S h := by
  refine ⟨k.1, fun E D tA ad p l e s m args below meth c C H locs ls hl hP hS => ?_⟩
  obtain ⟨c1, c2, c3, c4, c5, c6, c7, c8, c9, c10, c11, c12⟩ := id C
  have hR := c10.2.1 _ hk
  have := k.2 E D tA ad p l e s m args below meth c C H locs ls hl hP hS
  rw [show (Value.ref (1000 + i) :: S).map (z_g ad) = Value.ref (ad (1000 + i)) :: S.map (z_g ad) from rfl, (c12.1 i hi).1] at this
  exact va_ldcS c1 c2 c5 hR hd this
theorem fx_ldcSw {idx i : Nat} {tx : String} (hd : decode M.2.1 pc = .ok (.ldc_w idx, 3)) (hk : (M.1.cls, idx, tx, i) ∈ z_sx) (hi : i < 14) (k : Fx M out (pc + 3) L (.ref (1000 + i) :: S) h) : Fx M out pc L S h := by
  refine ⟨k.1, fun E D tA ad p l e s m args below meth c C H locs ls hl hP hS => ?_⟩
  obtain ⟨c1, c2, c3, c4, c5, c6, c7, c8, c9, c10, c11, c12⟩ := id C
  have hR := c10.2.1 _ hk
  have := k.2 E D tA ad p l e s m args below meth c C H locs ls hl hP hS
  rw [show (Value.ref (1000 + i) :: S).map (z_g ad) = Value.ref (ad (1000 + i)) :: S.map (z_g ad) from rfl, (c12.1 i hi).1] at this
  intro T hT X
  obtain ⟨t, a1, b1⟩ := this T hT X
  exact ⟨t, X.ldcStringW c1 c5 (text := tx) (a := E.1 i) hR.1 hR.2 (g := F0 m pc ls (S.map (z_g ad))) rfl (by rw [c2]; exact hd) t a1, b1⟩
/-- KIND_ABOVE -/
theorem fx_getsK {idx : Nat} (hd : decode M.2.1 pc = .ok (.getstatic idx, 3)) (hk : Cond.fieldLink M.1.cls idx "WildBells" "KIND_ABOVE" "[I" ∈ z_T) (k : Fx M out (pc + 3) L (.ref 2000 :: S) h) : Fx M out pc L S h := by
  refine ⟨k.1, fun E D tA ad p l e s m args below meth c C H locs ls hl hP hS => ?_⟩
  obtain ⟨c1, c2, c3, c4, c5, c6, c7, c8, c9, c10, c11, c12⟩ := id C
  have := k.2 E D tA ad p l e s m args below meth c C H locs ls hl hP hS
  rw [show (Value.ref 2000 :: S).map (z_g ad) = Value.ref (ad 2000) :: S.map (z_g ad) from rfl, c12.2] at this
  exact va_gets c1 c2 c10.2.2.1 hS c5 (c6 _ (z_Tw hk)) (fun _ h9 => h9) hd this
theorem fx_taldK {i v : Int32} (hd : decode M.2.1 pc = .ok (.iaload, 1)) (hi : vp_in i 7) (hv : z_ka.getD i.toNatClampNeg 0 = v) (k : Fx M out (pc + 1) L (.int v :: S) h) : Fx M out pc L (.int i :: .ref 2000 :: S) h := by
  refine ⟨k.1, fun E D tA ad p l e s m args below meth c C H locs ls hl hP hS => ?_⟩
  obtain ⟨c1, c2, c3, c4, c5, c6, c7, c8, c9, c10, c11, c12⟩ := id C
  have := va_ti (i := i) (v := .int v) c1 c2 c10.2.2.2.1 hS hi (by rw [hv]) hd (k.2 E D tA ad p l e s m args below meth c C H locs ls hl hP hS)
  rw [← c12.2] at this
  exact this
/-- fields of a text -/
theorem fx_getsv {idx i : Nat} (hd : decode M.2.1 pc = .ok (.getfield idx, 3)) (hk : Cond.fieldLink M.1.cls idx "java/lang/String" "value" "[B" ∈ z_T) (hi : i < 14) (k : Fx M out (pc + 3) L (.ref (3000 + i) :: S) h) : Fx M out pc L (.ref (1000 + i) :: S) h := by
  refine ⟨k.1, fun E D tA ad p l e s m args below meth c C H locs ls hl hP hS => ?_⟩
  obtain ⟨c1, c2, c3, c4, c5, c6, c7, c8, c9, c10, c11, c12⟩ := id C
  have := k.2 E D tA ad p l e s m args below meth c C H locs ls hl hP hS
  rw [show (Value.ref (3000 + i) :: S).map (z_g ad) = Value.ref (ad (3000 + i)) :: S.map (z_g ad) from rfl, (c12.1 i hi).2] at this
  rw [show (Value.ref (1000 + i) :: S).map (z_g ad) = Value.ref (ad (1000 + i)) :: S.map (z_g ad) from rfl, (c12.1 i hi).1]
  exact vk_getf c1 c2 (c10.1.1 i hi).2.2.1 hS c5 (c6 _ (z_Tw hk)) (fun _ h9 => h9) hd this
theorem fx_getsc {idx i : Nat} (hd : decode M.2.1 pc = .ok (.getfield idx, 3)) (hk : Cond.fieldLink M.1.cls idx "java/lang/String" "coder" "B" ∈ z_T) (hi : i < 14) (k : Fx M out (pc + 3) L (.int 0 :: S) h) : Fx M out pc L (.ref (1000 + i) :: S) h := by
  refine ⟨k.1, fun E D tA ad p l e s m args below meth c C H locs ls hl hP hS => ?_⟩
  obtain ⟨c1, c2, c3, c4, c5, c6, c7, c8, c9, c10, c11, c12⟩ := id C
  rw [show (Value.ref (1000 + i) :: S).map (z_g ad) = Value.ref (ad (1000 + i)) :: S.map (z_g ad) from rfl, (c12.1 i hi).1]
  exact vk_getf c1 c2 (c10.1.1 i hi).2.1 hS c5 (c6 _ (z_Tw hk)) (fun _ h9 => h9) hd (k.2 E D tA ad p l e s m args below meth c C H locs ls hl hP hS)
/-- COMPACT_STRINGS -/
theorem fx_getsC {idx : Nat} (hd : decode M.2.1 pc = .ok (.getstatic idx, 3)) (hk : Cond.fieldLink M.1.cls idx "java/lang/String" "COMPACT_STRINGS" "Z" ∈ z_T) (k : Fx M out (pc + 3) L (.int 1 :: S) h) : Fx M out pc L S h := by
  refine ⟨k.1, fun E D tA ad p l e s m args below meth c C H locs ls hl hP hS => ?_⟩
  obtain ⟨c1, c2, c3, c4, c5, c6, c7, c8, c9, c10, c11, c12⟩ := id C
  exact va_gets c1 c2 c10.2.2.2.2.1 hS c5 (c6 _ (z_Tw hk)) (fun _ h9 => h9) hd (k.2 E D tA ad p l e s m args below meth c C H locs ls hl hP hS)
/-- bytes of a text -/
theorem fx_slen {i : Nat} {v : Int32} (hd : decode M.2.1 pc = .ok (.arraylength, 1)) (hi : i < 14) (hv : Int32.ofNat (z_len.getD i 0) = v) (k : Fx M out (pc + 1) L (.int v :: S) h) : Fx M out pc L (.ref (3000 + i) :: S) h := by
  refine ⟨k.1, fun E D tA ad p l e s m args below meth c C H locs ls hl hP hS => ?_⟩
  obtain ⟨c1, c2, c3, c4, c5, c6, c7, c8, c9, c10, c11, c12⟩ := id C
  rw [show (Value.ref (3000 + i) :: S).map (z_g ad) = Value.ref (ad (3000 + i)) :: S.map (z_g ad) from rfl, (c12.1 i hi).2]
  exact va_tlen c1 c2 (c10.1.1 i hi).2.2.2 hS hv hd (k.2 E D tA ad p l e s m args below meth c C H locs ls hl hP hS)
theorem fx_sald {i : Nat} {j v : Int32} (hd : decode M.2.1 pc = .ok (.baload, 1)) (hi : i < 14) (hj : vp_in j (z_len.getD i 0)) (hv : (z_byt.getD i []).getD j.toNatClampNeg 0 = v) (k : Fx M out (pc + 1) L (.int v :: S) h) : Fx M out pc L (.int j :: .ref (3000 + i) :: S) h := by
  refine ⟨k.1, fun E D tA ad p l e s m args below meth c C H locs ls hl hP hS => ?_⟩
  obtain ⟨c1, c2, c3, c4, c5, c6, c7, c8, c9, c10, c11, c12⟩ := id C
  have := va_tb (i := j) (v := .int v) c1 c2 (c10.1.1 i hi).2.2.2 hS hj (by rw [hv]) hd (k.2 E D tA ad p l e s m args below meth c C H locs ls hl hP hS)
  rw [← (c12.1 i hi).2] at this
  exact this
/-- a call on a text -/
theorem fx_callT {Y : zM} {idx i : Nat} {as : List Value} {rv : Option Value} {h1 : zH} {S0 S1 : List Value} (hd : decode M.2.1 pc = .ok (.invokevirtual idx, 3)) (hY : z_ok Y) (hYn : z_np Y as.length) (hYi : Cond.instanceMethod Y.1 ∈ z_T) (hYs : Cond.selects Y.1.cls Y.1 Y.1 ∈ z_T) (hYc : Y.1.cls = "java/lang/String") (hk : Cond.methodLink M.1.cls idx Y.1 ∈ z_T) (hdep : Y.2.2.2.2 + 1 ≤ M.2.2.2.2) (hi : i < 14) (hr : (S.map fun v => v.category).sum ≤ 8) (hM : Mx Y (.ref (1000 + i) :: as) h rv h1)
    (e0 : S0 = as.reverse ++ .ref (1000 + i) :: S) (e1 : S1 = rv.toList ++ S) (k : Fx M out (pc + 3) L S1 h1) : Fx M out pc L S0 h := by
  subst e0; subst e1
  obtain ⟨hlen, hM⟩ := hM
  refine ⟨by rw [← hlen]; exact k.1, fun E D tA ad p l e s m args below meth c C H locs ls hl hP hS => ?_⟩
  obtain ⟨c1, c2, c3, c4, c5, c6, c7, c8, c9, c10, c11, c12⟩ := id C
  obtain ⟨y1, y2, y3, y4, y5⟩ := hY
  have hrm : (z_rm Y.2.2.2.2).frames + 1 ≤ (z_rm M.2.2.2.2).frames := hdep
  have hlo : 8 + (Y.2.2.1 + 11) + (z_rm Y.2.2.2.2).locals ≤ (z_rm M.2.2.2.2).locals := by
    show 8 + (Y.2.2.1 + 11) + 31 * Y.2.2.2.2 ≤ 31 * M.2.2.2.2
    omega
  have hst : (as.reverse ++ .ref (1000 + i) :: S).map (z_g ad) = (as.map (z_g ad)).reverse ++ .ref (ad (1000 + i)) :: S.map (z_g ad) := by rw [List.map_append, List.map_reverse]; rfl
  have hcats : 2 * (F0 m pc ls ((as.reverse ++ .ref (1000 + i) :: S).map (z_g ad))).monitorRoom + ((S.map (z_g ad)).map fun v => v.category).sum ≤ 8 := lv_room (by rw [z_cats]; exact hr)
  have hlenA : (as.map (z_g ad)).length = as.length := List.length_map _
  have hrec := vk_recv c10.1 hi hS
  rw [← (c12.1 i hi).1, ← hYc] at hrec
  have kk : ∀ (H1 : Heap) (locs1 : List Loc), va_P D vwCl (z_ws tA ad 0 h1) H1 → va_S (z_A ad h.length s.heap.size) s.heap H1 locs1 → W p l e (z_rm M.2.2.2.2) s m args below meth c H1 locs1 0 0 (MQ below (z_Q D tA ad out.1 out.2 (z_A ad h.length s.heap.size)) args s 0 0 (z_A ad h.length s.heap.size)) (F0 m (pc + 3) ls ((rv.map (z_g ad)).toList ++ S.map (z_g ad))) := by
    intro H1 locs1 hP1 hS1
    have := k.2 E D tA ad p l e s m args below meth c (by rw [hlen]; exact C) H1 locs1 ls hl hP1 (by rw [hlen]; exact hS1)
    rw [hlen] at this
    have e2 : (rv.toList ++ S).map (z_g ad) = (rv.map (z_g ad)).toList ++ S.map (z_g ad) := by cases rv <;> rfl
    rw [e2] at this
    exact this
  have hPc := z_Pcx C hP hS ((Value.ref (1000 + i) :: as).map (z_g ad))
  refine z_run (va_runV (n := as.length) (C := Y.1.cls) (b := ad (1000 + i)) (As := as.map (z_g ad)) (rest := S.map (z_g ad)) ⟨c1, c2, c4, c5, c6⟩ (hM l E D tA ad H.size c11 c12) ⟨⟨rfl, rfl, hrm, hlo, z_pay c6 y1, List.mem_cons_self, c6 _ (z_Tw y1), c6 _ (z_Tw y2), y3, hYn, c6 _ (z_Tw hk)⟩, c6 _ (z_Tw hYi), c6 _ (z_Tw hYs)⟩ ⟨hPc.1, hrec, hPc.2⟩ rfl hlenA hl.1 hst hcats hd ⟨Nat.zero_le _, Nat.zero_le _⟩) hS kk
/-! ===== ends, and a method out of its frame ===== -/
theorem fx_iret {v : Int32} {rt : FieldType} (hd : decode M.2.1 pc = .ok (.ireturn, 1)) (hrt : M.2.2.2.1 = some rt) (hn : narrow rt (.int v) = .int v) : Fx M (some (.int v), h) pc L [.int v] h := by
  refine ⟨rfl, fun E D tA ad p l e s m args below meth c C H locs ls hl hP hS => ?_⟩
  obtain ⟨c1, c2, c3, c4, c5, c6, c7, c8, c9, c10, c11, c12⟩ := id C
  exact W.zret (v := v) (ty := rt) c1 c2 (by rw [c3, hrt]) hn (fun t ht hW => ⟨⟨rfl, by rw [ht]; exact hP⟩, hS.F ht⟩) hS.2.2 hd c7
theorem fx_lret {v : Int64} (hd : decode M.2.1 pc = .ok (.lreturn, 1)) (hrt : M.2.2.2.1 = some .long) : Fx M (some (.long v), h) pc L [.long v] h := by
  refine ⟨rfl, fun E D tA ad p l e s m args below meth c C H locs ls hl hP hS => ?_⟩
  obtain ⟨c1, c2, c3, c4, c5, c6, c7, c8, c9, c10, c11, c12⟩ := id C
  exact W.lret (v := v) c1 c2 (by rw [c3, hrt]) (fun t ht hW => ⟨⟨rfl, by rw [ht]; exact hP⟩, hS.F ht⟩) hS.2.2 hd c7
theorem fx_aret {q : Nat} {rt : FieldType} (hd : decode M.2.1 pc = .ok (.areturn, 1)) (hrt : M.2.2.2.1 = some rt) (hr : (∃ n, rt = .object n) ∨ ∃ t, rt = .array t) : Fx M (some (.ref q), h) pc L [.ref q] h := by
  refine ⟨rfl, fun E D tA ad p l e s m args below meth c C H locs ls hl hP hS => ?_⟩
  obtain ⟨c1, c2, c3, c4, c5, c6, c7, c8, c9, c10, c11, c12⟩ := id C
  exact W.aret (v := .ref (ad q)) c1 c2 (by rw [c3, hrt]) hr (Or.inr ⟨_, rfl⟩) (fun t ht hW => ⟨⟨rfl, by rw [ht]; exact hP⟩, hS.F ht⟩) hS.2.2 hd c7
theorem fx_vret (hd : decode M.2.1 pc = .ok (.return_, 1)) (hrt : M.2.2.2.1 = none) : Fx M (none, h) pc L [] h := by
  refine ⟨rfl, fun E D tA ad p l e s m args below meth c C H locs ls hl hP hS => ?_⟩
  obtain ⟨c1, c2, c3, c4, c5, c6, c7, c8, c9, c10, c11, c12⟩ := id C
  exact W.vret c1 c2 (by rw [c3, hrt]) (fun t ht hW => ⟨⟨rfl, by rw [ht]; exact hP⟩, hS.F ht⟩) hS.2.2 hd c7
/-- the same frame, said otherwise -/
theorem fx_eq {L' : List (Option Value)} {S' : List Value} {h' : zH} (k : Fx M out pc L' S' h') (e1 : L = L') (e2 : S = S') (e3 : h = h') : Fx M out pc L S h := by subst e1; subst e2; subst e3; exact k
/-- a method, out of the walk of its frame from its entry -/
theorem mx_of {as : List Value} {rv : Option Value} {h2 : zH} (hp : plainName M.1.cls = true) (hL : ∀ ad, z_L ad 0 L = lv_args 0 (as.map (z_g ad))) (hn : ∀ ad, (lg_sl (as.map (z_g ad))).length ≤ M.2.2.1) (k : Fx M (rv, h2) 0 L [] h) : Mx M as h rv h2 := by
  refine ⟨k.1.symm, fun l E D tA ad sz hap hsa => ?_⟩
  refine Met.ofW (cc := M.2.1) (maxL := M.2.2.1) (ret := M.2.2.2.1) hp rfl ?_
  intro p e s m args below meth c s₁ B hml hv
  obtain ⟨rfl, rfl, hP, hK, hN, hE⟩ := hv
  have hts := atoms_spec (ws := z_wd M) B.pre
  have hown : s.vm.findClass M.1.cls = some m.cls := findClass_of_methodNamed B.named
  have hl := lv_entry (as.map (z_g ad)) (hn ad)
  rw [lg_entry_eq]
  exact k.2 E D tA ad p l e s m _ below meth c ⟨B.exec, B.bytes, B.returns, hml, hown, hts, B.notSynchronized, hK, hN, hE, hap, hsa⟩ s.heap [] _ (by rw [hL ad]; exact hl) hP va_S.rf
end FH
end
