section
-- ===== PART A: goes FIRST, ahead of the names: the tables' words, and 'selects' of the private methods out of them =====
/-- a private method of a class that the tables say can be made, by its rows of tables_1 -/
def lw_okq (q : MethodName × Nat) : Prop := (q.1.cls ≠ "java/lang/invoke/MethodHandle" ∧ q.1.cls ≠ "java/lang/invoke/VarHandle") ∧ Cond.instantiable q.1.cls q.2 ∈ tables_1 ∧ Cond.privateMethod q.1 ∈ tables_1 ∧ Cond.instanceMethod q.1 ∈ tables_1
theorem lw_p0 : lw_okq (⟨"WildBells", "finding", "(I)I"⟩, 8) := ⟨⟨by decide +kernel, by decide +kernel⟩, List.mem_of_getElem? (i := 15) (by decide +kernel), List.mem_of_getElem? (i := 174) (by decide +kernel), List.mem_of_getElem? (i := 175) (by decide +kernel)⟩
theorem lw_p1 : lw_okq (⟨"WildBells$Woods", "hasNet", "(I)Z"⟩, 14) := ⟨⟨by decide +kernel, by decide +kernel⟩, List.mem_of_getElem? (i := 23) (by decide +kernel), List.mem_of_getElem? (i := 179) (by decide +kernel), List.mem_of_getElem? (i := 180) (by decide +kernel)⟩
theorem lw_p2 : lw_okq (⟨"WildBells$Woods", "setNet", "(IZ)V"⟩, 14) := ⟨⟨by decide +kernel, by decide +kernel⟩, List.mem_of_getElem? (i := 23) (by decide +kernel), List.mem_of_getElem? (i := 186) (by decide +kernel), List.mem_of_getElem? (i := 187) (by decide +kernel)⟩
theorem lw_p3 : lw_okq (⟨"WildBells$Woods", "heardAt", "(I)I"⟩, 14) := ⟨⟨by decide +kernel, by decide +kernel⟩, List.mem_of_getElem? (i := 23) (by decide +kernel), List.mem_of_getElem? (i := 199) (by decide +kernel), List.mem_of_getElem? (i := 200) (by decide +kernel)⟩
theorem lw_p4 : lw_okq (⟨"WildBells$Woods", "isFree", "(I)Z"⟩, 14) := ⟨⟨by decide +kernel, by decide +kernel⟩, List.mem_of_getElem? (i := 23) (by decide +kernel), List.mem_of_getElem? (i := 203) (by decide +kernel), List.mem_of_getElem? (i := 204) (by decide +kernel)⟩
theorem lw_p5 : lw_okq (⟨"WildBells$Woods", "bellsAt", "(I)I"⟩, 14) := ⟨⟨by decide +kernel, by decide +kernel⟩, List.mem_of_getElem? (i := 23) (by decide +kernel), List.mem_of_getElem? (i := 217) (by decide +kernel), List.mem_of_getElem? (i := 218) (by decide +kernel)⟩
theorem lw_p6 : lw_okq (⟨"WildBells$Woods", "addBell", "(II)I"⟩, 14) := ⟨⟨by decide +kernel, by decide +kernel⟩, List.mem_of_getElem? (i := 23) (by decide +kernel), List.mem_of_getElem? (i := 239) (by decide +kernel), List.mem_of_getElem? (i := 240) (by decide +kernel)⟩
theorem lw_p7 : lw_okq (⟨"WildBells", "isBell", "(I)Z"⟩, 8) := ⟨⟨by decide +kernel, by decide +kernel⟩, List.mem_of_getElem? (i := 15) (by decide +kernel), List.mem_of_getElem? (i := 247) (by decide +kernel), List.mem_of_getElem? (i := 248) (by decide +kernel)⟩
theorem lw_p8 : lw_okq (⟨"WildBells$Woods", "nextCell", "(I)I"⟩, 14) := ⟨⟨by decide +kernel, by decide +kernel⟩, List.mem_of_getElem? (i := 23) (by decide +kernel), List.mem_of_getElem? (i := 251) (by decide +kernel), List.mem_of_getElem? (i := 252) (by decide +kernel)⟩
theorem lw_p9 : lw_okq (⟨"WildBells$Woods", "worthFor", "(II)I"⟩, 14) := ⟨⟨by decide +kernel, by decide +kernel⟩, List.mem_of_getElem? (i := 23) (by decide +kernel), List.mem_of_getElem? (i := 255) (by decide +kernel), List.mem_of_getElem? (i := 256) (by decide +kernel)⟩
theorem lw_p10 : lw_okq (⟨"WildBells$Woods", "fromHunters", "(I)I"⟩, 14) := ⟨⟨by decide +kernel, by decide +kernel⟩, List.mem_of_getElem? (i := 23) (by decide +kernel), List.mem_of_getElem? (i := 259) (by decide +kernel), List.mem_of_getElem? (i := 260) (by decide +kernel)⟩
theorem lw_p11 : lw_okq (⟨"WildBells$Woods", "nearestOther", "(IIII)I"⟩, 14) := ⟨⟨by decide +kernel, by decide +kernel⟩, List.mem_of_getElem? (i := 23) (by decide +kernel), List.mem_of_getElem? (i := 266) (by decide +kernel), List.mem_of_getElem? (i := 267) (by decide +kernel)⟩
theorem lw_p12 : lw_okq (⟨"WildBells$Woods", "trait", "(II)I"⟩, 14) := ⟨⟨by decide +kernel, by decide +kernel⟩, List.mem_of_getElem? (i := 23) (by decide +kernel), List.mem_of_getElem? (i := 282) (by decide +kernel), List.mem_of_getElem? (i := 283) (by decide +kernel)⟩
theorem lw_p13 : lw_okq (⟨"WildBells$Woods", "setTrait", "(III)V"⟩, 14) := ⟨⟨by decide +kernel, by decide +kernel⟩, List.mem_of_getElem? (i := 23) (by decide +kernel), List.mem_of_getElem? (i := 299) (by decide +kernel), List.mem_of_getElem? (i := 300) (by decide +kernel)⟩
theorem lw_p14 : lw_okq (⟨"WildBells$Woods", "hourGoes", "()Z"⟩, 14) := ⟨⟨by decide +kernel, by decide +kernel⟩, List.mem_of_getElem? (i := 23) (by decide +kernel), List.mem_of_getElem? (i := 312) (by decide +kernel), List.mem_of_getElem? (i := 313) (by decide +kernel)⟩
theorem lw_p15 : lw_okq (⟨"WildBells$Woods", "weightOf", "(I)I"⟩, 14) := ⟨⟨by decide +kernel, by decide +kernel⟩, List.mem_of_getElem? (i := 23) (by decide +kernel), List.mem_of_getElem? (i := 335) (by decide +kernel), List.mem_of_getElem? (i := 336) (by decide +kernel)⟩
def lw_privs_1 : List (MethodName × Nat) := [(⟨"WildBells", "finding", "(I)I"⟩, 8), (⟨"WildBells$Woods", "hasNet", "(I)Z"⟩, 14), (⟨"WildBells$Woods", "setNet", "(IZ)V"⟩, 14), (⟨"WildBells$Woods", "heardAt", "(I)I"⟩, 14), (⟨"WildBells$Woods", "isFree", "(I)Z"⟩, 14), (⟨"WildBells$Woods", "bellsAt", "(I)I"⟩, 14), (⟨"WildBells$Woods", "addBell", "(II)I"⟩, 14), (⟨"WildBells", "isBell", "(I)Z"⟩, 8), (⟨"WildBells$Woods", "nextCell", "(I)I"⟩, 14), (⟨"WildBells$Woods", "worthFor", "(II)I"⟩, 14), (⟨"WildBells$Woods", "fromHunters", "(I)I"⟩, 14), (⟨"WildBells$Woods", "nearestOther", "(IIII)I"⟩, 14), (⟨"WildBells$Woods", "trait", "(II)I"⟩, 14), (⟨"WildBells$Woods", "setTrait", "(III)V"⟩, 14), (⟨"WildBells$Woods", "hourGoes", "()Z"⟩, 14), (⟨"WildBells$Woods", "weightOf", "(I)I"⟩, 14)]
theorem lw_r1 : ∀ q ∈ lw_privs_1, lw_okq q := List.forall_mem_cons.mpr ⟨lw_p0, List.forall_mem_cons.mpr ⟨lw_p1, List.forall_mem_cons.mpr ⟨lw_p2, List.forall_mem_cons.mpr ⟨lw_p3, List.forall_mem_cons.mpr ⟨lw_p4, List.forall_mem_cons.mpr ⟨lw_p5, List.forall_mem_cons.mpr ⟨lw_p6, List.forall_mem_cons.mpr ⟨lw_p7, List.forall_mem_cons.mpr ⟨lw_p8, List.forall_mem_cons.mpr ⟨lw_p9, List.forall_mem_cons.mpr ⟨lw_p10, List.forall_mem_cons.mpr ⟨lw_p11, List.forall_mem_cons.mpr ⟨lw_p12, List.forall_mem_cons.mpr ⟨lw_p13, List.forall_mem_cons.mpr ⟨lw_p14, List.forall_mem_cons.mpr ⟨lw_p15, fun _ h => absurd h List.not_mem_nil⟩⟩⟩⟩⟩⟩⟩⟩⟩⟩⟩⟩⟩⟩⟩⟩
theorem lw_p16 : lw_okq (⟨"WildBells$Woods", "becomes", "(LWildBells$Woods;)V"⟩, 14) := ⟨⟨by decide +kernel, by decide +kernel⟩, List.mem_of_getElem? (i := 23) (by decide +kernel), List.mem_of_getElem? (i := 349) (by decide +kernel), List.mem_of_getElem? (i := 350) (by decide +kernel)⟩
theorem lw_p17 : lw_okq (⟨"WildBells$Woods", "runHours", "(I)V"⟩, 14) := ⟨⟨by decide +kernel, by decide +kernel⟩, List.mem_of_getElem? (i := 23) (by decide +kernel), List.mem_of_getElem? (i := 356) (by decide +kernel), List.mem_of_getElem? (i := 357) (by decide +kernel)⟩
theorem lw_p18 : lw_okq (⟨"WildBells$Woods", "tillCaught", "(II)I"⟩, 14) := ⟨⟨by decide +kernel, by decide +kernel⟩, List.mem_of_getElem? (i := 23) (by decide +kernel), List.mem_of_getElem? (i := 365) (by decide +kernel), List.mem_of_getElem? (i := 366) (by decide +kernel)⟩
theorem lw_p19 : lw_okq (⟨"WildBells", "soundFault", "(II)I"⟩, 8) := ⟨⟨by decide +kernel, by decide +kernel⟩, List.mem_of_getElem? (i := 15) (by decide +kernel), List.mem_of_getElem? (i := 398) (by decide +kernel), List.mem_of_getElem? (i := 399) (by decide +kernel)⟩
theorem lw_p20 : lw_okq (⟨"WildBells$Sheet", "isMissing", "()Z"⟩, 3) := ⟨⟨by decide +kernel, by decide +kernel⟩, List.mem_of_getElem? (i := 123) (by decide +kernel), List.mem_of_getElem? (i := 405) (by decide +kernel), List.mem_of_getElem? (i := 406) (by decide +kernel)⟩
theorem lw_p21 : lw_okq (⟨"WildBells$Sheet", "earsAreCells", "()Z"⟩, 3) := ⟨⟨by decide +kernel, by decide +kernel⟩, List.mem_of_getElem? (i := 123) (by decide +kernel), List.mem_of_getElem? (i := 409) (by decide +kernel), List.mem_of_getElem? (i := 410) (by decide +kernel)⟩
theorem lw_p22 : lw_okq (⟨"WildBells$Sheet", "tellsLoud", "(II)Z"⟩, 3) := ⟨⟨by decide +kernel, by decide +kernel⟩, List.mem_of_getElem? (i := 123) (by decide +kernel), List.mem_of_getElem? (i := 417) (by decide +kernel), List.mem_of_getElem? (i := 418) (by decide +kernel)⟩
theorem lw_p23 : lw_okq (⟨"WildBells", "leftAtWorst", "(JII)I"⟩, 8) := ⟨⟨by decide +kernel, by decide +kernel⟩, List.mem_of_getElem? (i := 15) (by decide +kernel), List.mem_of_getElem? (i := 431) (by decide +kernel), List.mem_of_getElem? (i := 432) (by decide +kernel)⟩
theorem lw_p24 : lw_okq (⟨"WildBells$Woods", "greatestRing", "()I"⟩, 14) := ⟨⟨by decide +kernel, by decide +kernel⟩, List.mem_of_getElem? (i := 23) (by decide +kernel), List.mem_of_getElem? (i := 459) (by decide +kernel), List.mem_of_getElem? (i := 460) (by decide +kernel)⟩
theorem lw_p25 : lw_okq (⟨"WildBells$Woods", "isRing", "(I)Z"⟩, 14) := ⟨⟨by decide +kernel, by decide +kernel⟩, List.mem_of_getElem? (i := 23) (by decide +kernel), List.mem_of_getElem? (i := 464) (by decide +kernel), List.mem_of_getElem? (i := 465) (by decide +kernel)⟩
theorem lw_p26 : lw_okq (⟨"WildBells$Woods", "notesThere", "()I"⟩, 14) := ⟨⟨by decide +kernel, by decide +kernel⟩, List.mem_of_getElem? (i := 23) (by decide +kernel), List.mem_of_getElem? (i := 484) (by decide +kernel), List.mem_of_getElem? (i := 485) (by decide +kernel)⟩
theorem lw_p27 : lw_okq (⟨"WildBells$Woods", "strike", "()V"⟩, 14) := ⟨⟨by decide +kernel, by decide +kernel⟩, List.mem_of_getElem? (i := 23) (by decide +kernel), List.mem_of_getElem? (i := 497) (by decide +kernel), List.mem_of_getElem? (i := 498) (by decide +kernel)⟩
theorem lw_p28 : lw_okq (⟨"WildBells$Woods", "draw", "()I"⟩, 14) := ⟨⟨by decide +kernel, by decide +kernel⟩, List.mem_of_getElem? (i := 23) (by decide +kernel), List.mem_of_getElem? (i := 501) (by decide +kernel), List.mem_of_getElem? (i := 502) (by decide +kernel)⟩
theorem lw_p29 : lw_okq (⟨"WildBells$Tape", "append", "(I)V"⟩, 7) := ⟨⟨by decide +kernel, by decide +kernel⟩, List.mem_of_getElem? (i := 93) (by decide +kernel), List.mem_of_getElem? (i := 514) (by decide +kernel), List.mem_of_getElem? (i := 515) (by decide +kernel)⟩
theorem lw_p30 : lw_okq (⟨"WildBells$Tape", "readInto", "(LWildBells$Woods;)I"⟩, 7) := ⟨⟨by decide +kernel, by decide +kernel⟩, List.mem_of_getElem? (i := 93) (by decide +kernel), List.mem_of_getElem? (i := 526) (by decide +kernel), List.mem_of_getElem? (i := 527) (by decide +kernel)⟩
theorem lw_p31 : lw_okq (⟨"WildBells$Tape", "advance", "()V"⟩, 7) := ⟨⟨by decide +kernel, by decide +kernel⟩, List.mem_of_getElem? (i := 93) (by decide +kernel), List.mem_of_getElem? (i := 530) (by decide +kernel), List.mem_of_getElem? (i := 531) (by decide +kernel)⟩
def lw_privs_2 : List (MethodName × Nat) := [(⟨"WildBells$Woods", "becomes", "(LWildBells$Woods;)V"⟩, 14), (⟨"WildBells$Woods", "runHours", "(I)V"⟩, 14), (⟨"WildBells$Woods", "tillCaught", "(II)I"⟩, 14), (⟨"WildBells", "soundFault", "(II)I"⟩, 8), (⟨"WildBells$Sheet", "isMissing", "()Z"⟩, 3), (⟨"WildBells$Sheet", "earsAreCells", "()Z"⟩, 3), (⟨"WildBells$Sheet", "tellsLoud", "(II)Z"⟩, 3), (⟨"WildBells", "leftAtWorst", "(JII)I"⟩, 8), (⟨"WildBells$Woods", "greatestRing", "()I"⟩, 14), (⟨"WildBells$Woods", "isRing", "(I)Z"⟩, 14), (⟨"WildBells$Woods", "notesThere", "()I"⟩, 14), (⟨"WildBells$Woods", "strike", "()V"⟩, 14), (⟨"WildBells$Woods", "draw", "()I"⟩, 14), (⟨"WildBells$Tape", "append", "(I)V"⟩, 7), (⟨"WildBells$Tape", "readInto", "(LWildBells$Woods;)I"⟩, 7), (⟨"WildBells$Tape", "advance", "()V"⟩, 7)]
theorem lw_r2 : ∀ q ∈ lw_privs_2, lw_okq q := List.forall_mem_cons.mpr ⟨lw_p16, List.forall_mem_cons.mpr ⟨lw_p17, List.forall_mem_cons.mpr ⟨lw_p18, List.forall_mem_cons.mpr ⟨lw_p19, List.forall_mem_cons.mpr ⟨lw_p20, List.forall_mem_cons.mpr ⟨lw_p21, List.forall_mem_cons.mpr ⟨lw_p22, List.forall_mem_cons.mpr ⟨lw_p23, List.forall_mem_cons.mpr ⟨lw_p24, List.forall_mem_cons.mpr ⟨lw_p25, List.forall_mem_cons.mpr ⟨lw_p26, List.forall_mem_cons.mpr ⟨lw_p27, List.forall_mem_cons.mpr ⟨lw_p28, List.forall_mem_cons.mpr ⟨lw_p29, List.forall_mem_cons.mpr ⟨lw_p30, List.forall_mem_cons.mpr ⟨lw_p31, fun _ h => absurd h List.not_mem_nil⟩⟩⟩⟩⟩⟩⟩⟩⟩⟩⟩⟩⟩⟩⟩⟩
theorem lw_p32 : lw_okq (⟨"WildBells$Tape", "readItem", "(LWildBells$Woods;)V"⟩, 7) := ⟨⟨by decide +kernel, by decide +kernel⟩, List.mem_of_getElem? (i := 93) (by decide +kernel), List.mem_of_getElem? (i := 534) (by decide +kernel), List.mem_of_getElem? (i := 535) (by decide +kernel)⟩
theorem lw_p33 : lw_okq (⟨"WildBells$Tape", "kindOfWord", "()I"⟩, 7) := ⟨⟨by decide +kernel, by decide +kernel⟩, List.mem_of_getElem? (i := 93) (by decide +kernel), List.mem_of_getElem? (i := 538) (by decide +kernel), List.mem_of_getElem? (i := 539) (by decide +kernel)⟩
theorem lw_p34 : lw_okq (⟨"WildBells$Tape", "isWord", "(Ljava/lang/String;)Z"⟩, 7) := ⟨⟨by decide +kernel, by decide +kernel⟩, List.mem_of_getElem? (i := 93) (by decide +kernel), List.mem_of_getElem? (i := 552) (by decide +kernel), List.mem_of_getElem? (i := 553) (by decide +kernel)⟩
theorem lw_p35 : lw_okq (⟨"WildBells$Tape", "readBell", "(LWildBells$Woods;I)V"⟩, 7) := ⟨⟨by decide +kernel, by decide +kernel⟩, List.mem_of_getElem? (i := 93) (by decide +kernel), List.mem_of_getElem? (i := 604) (by decide +kernel), List.mem_of_getElem? (i := 605) (by decide +kernel)⟩
theorem lw_p36 : lw_okq (⟨"WildBells$Tape", "takePerhaps", "(Ljava/lang/String;III)I"⟩, 7) := ⟨⟨by decide +kernel, by decide +kernel⟩, List.mem_of_getElem? (i := 93) (by decide +kernel), List.mem_of_getElem? (i := 609) (by decide +kernel), List.mem_of_getElem? (i := 610) (by decide +kernel)⟩
theorem lw_p37 : lw_okq (⟨"WildBells$Tape", "takeNumber", "(II)I"⟩, 7) := ⟨⟨by decide +kernel, by decide +kernel⟩, List.mem_of_getElem? (i := 93) (by decide +kernel), List.mem_of_getElem? (i := 613) (by decide +kernel), List.mem_of_getElem? (i := 614) (by decide +kernel)⟩
theorem lw_p38 : lw_okq (⟨"WildBells$Tape", "readNet", "(LWildBells$Woods;)V"⟩, 7) := ⟨⟨by decide +kernel, by decide +kernel⟩, List.mem_of_getElem? (i := 93) (by decide +kernel), List.mem_of_getElem? (i := 621) (by decide +kernel), List.mem_of_getElem? (i := 622) (by decide +kernel)⟩
theorem lw_p39 : lw_okq (⟨"WildBells$Tape", "readThick", "(LWildBells$Woods;)V"⟩, 7) := ⟨⟨by decide +kernel, by decide +kernel⟩, List.mem_of_getElem? (i := 93) (by decide +kernel), List.mem_of_getElem? (i := 627) (by decide +kernel), List.mem_of_getElem? (i := 628) (by decide +kernel)⟩
theorem lw_p40 : lw_okq (⟨"WildBells$Tape", "readHunter", "(LWildBells$Woods;)V"⟩, 7) := ⟨⟨by decide +kernel, by decide +kernel⟩, List.mem_of_getElem? (i := 93) (by decide +kernel), List.mem_of_getElem? (i := 632) (by decide +kernel), List.mem_of_getElem? (i := 633) (by decide +kernel)⟩
theorem lw_p41 : lw_okq (⟨"WildBells$Tape", "readFear", "(LWildBells$Woods;)V"⟩, 7) := ⟨⟨by decide +kernel, by decide +kernel⟩, List.mem_of_getElem? (i := 93) (by decide +kernel), List.mem_of_getElem? (i := 637) (by decide +kernel), List.mem_of_getElem? (i := 638) (by decide +kernel)⟩
theorem lw_p42 : lw_okq (⟨"WildBells$Sheet", "begin", "(II)V"⟩, 3) := ⟨⟨by decide +kernel, by decide +kernel⟩, List.mem_of_getElem? (i := 123) (by decide +kernel), List.mem_of_getElem? (i := 658) (by decide +kernel), List.mem_of_getElem? (i := 659) (by decide +kernel)⟩
theorem lw_p43 : lw_okq (⟨"WildBells$Sheet", "put", "(II)V"⟩, 3) := ⟨⟨by decide +kernel, by decide +kernel⟩, List.mem_of_getElem? (i := 123) (by decide +kernel), List.mem_of_getElem? (i := 666) (by decide +kernel), List.mem_of_getElem? (i := 667) (by decide +kernel)⟩
theorem lw_p44 : lw_okq (⟨"WildBells$Sheet", "hasFrom", "(II)Z"⟩, 3) := ⟨⟨by decide +kernel, by decide +kernel⟩, List.mem_of_getElem? (i := 123) (by decide +kernel), List.mem_of_getElem? (i := 674) (by decide +kernel), List.mem_of_getElem? (i := 675) (by decide +kernel)⟩
theorem lw_p45 : lw_okq (⟨"WildBells$Woods", "followsInRing", "(II)Z"⟩, 14) := ⟨⟨by decide +kernel, by decide +kernel⟩, List.mem_of_getElem? (i := 23) (by decide +kernel), List.mem_of_getElem? (i := 687) (by decide +kernel), List.mem_of_getElem? (i := 688) (by decide +kernel)⟩
theorem lw_p46 : lw_okq (⟨"WildBells$Woods", "spotsHolding", "()I"⟩, 14) := ⟨⟨by decide +kernel, by decide +kernel⟩, List.mem_of_getElem? (i := 23) (by decide +kernel), List.mem_of_getElem? (i := 707) (by decide +kernel), List.mem_of_getElem? (i := 708) (by decide +kernel)⟩
theorem lw_p47 : lw_okq (⟨"WildBellsModel", "finding", "(I)I"⟩, 24) := ⟨⟨by decide +kernel, by decide +kernel⟩, List.mem_of_getElem? (i := 715) (by decide +kernel), List.mem_of_getElem? (i := 814) (by decide +kernel), List.mem_of_getElem? (i := 815) (by decide +kernel)⟩
def lw_privs_3 : List (MethodName × Nat) := [(⟨"WildBells$Tape", "readItem", "(LWildBells$Woods;)V"⟩, 7), (⟨"WildBells$Tape", "kindOfWord", "()I"⟩, 7), (⟨"WildBells$Tape", "isWord", "(Ljava/lang/String;)Z"⟩, 7), (⟨"WildBells$Tape", "readBell", "(LWildBells$Woods;I)V"⟩, 7), (⟨"WildBells$Tape", "takePerhaps", "(Ljava/lang/String;III)I"⟩, 7), (⟨"WildBells$Tape", "takeNumber", "(II)I"⟩, 7), (⟨"WildBells$Tape", "readNet", "(LWildBells$Woods;)V"⟩, 7), (⟨"WildBells$Tape", "readThick", "(LWildBells$Woods;)V"⟩, 7), (⟨"WildBells$Tape", "readHunter", "(LWildBells$Woods;)V"⟩, 7), (⟨"WildBells$Tape", "readFear", "(LWildBells$Woods;)V"⟩, 7), (⟨"WildBells$Sheet", "begin", "(II)V"⟩, 3), (⟨"WildBells$Sheet", "put", "(II)V"⟩, 3), (⟨"WildBells$Sheet", "hasFrom", "(II)Z"⟩, 3), (⟨"WildBells$Woods", "followsInRing", "(II)Z"⟩, 14), (⟨"WildBells$Woods", "spotsHolding", "()I"⟩, 14), (⟨"WildBellsModel", "finding", "(I)I"⟩, 24)]
theorem lw_r3 : ∀ q ∈ lw_privs_3, lw_okq q := List.forall_mem_cons.mpr ⟨lw_p32, List.forall_mem_cons.mpr ⟨lw_p33, List.forall_mem_cons.mpr ⟨lw_p34, List.forall_mem_cons.mpr ⟨lw_p35, List.forall_mem_cons.mpr ⟨lw_p36, List.forall_mem_cons.mpr ⟨lw_p37, List.forall_mem_cons.mpr ⟨lw_p38, List.forall_mem_cons.mpr ⟨lw_p39, List.forall_mem_cons.mpr ⟨lw_p40, List.forall_mem_cons.mpr ⟨lw_p41, List.forall_mem_cons.mpr ⟨lw_p42, List.forall_mem_cons.mpr ⟨lw_p43, List.forall_mem_cons.mpr ⟨lw_p44, List.forall_mem_cons.mpr ⟨lw_p45, List.forall_mem_cons.mpr ⟨lw_p46, List.forall_mem_cons.mpr ⟨lw_p47, fun _ h => absurd h List.not_mem_nil⟩⟩⟩⟩⟩⟩⟩⟩⟩⟩⟩⟩⟩⟩⟩⟩
theorem lw_p48 : lw_okq (⟨"WildBellsModel", "become", "(II)I"⟩, 24) := ⟨⟨by decide +kernel, by decide +kernel⟩, List.mem_of_getElem? (i := 715) (by decide +kernel), List.mem_of_getElem? (i := 818) (by decide +kernel), List.mem_of_getElem? (i := 819) (by decide +kernel)⟩
theorem lw_p49 : lw_okq (⟨"WildBellsModel", "comes", "(IIII)I"⟩, 24) := ⟨⟨by decide +kernel, by decide +kernel⟩, List.mem_of_getElem? (i := 715) (by decide +kernel), List.mem_of_getElem? (i := 845) (by decide +kernel), List.mem_of_getElem? (i := 846) (by decide +kernel)⟩
theorem lw_p50 : lw_okq (⟨"WildBellsModel", "isBell", "(I)Z"⟩, 24) := ⟨⟨by decide +kernel, by decide +kernel⟩, List.mem_of_getElem? (i := 715) (by decide +kernel), List.mem_of_getElem? (i := 856) (by decide +kernel), List.mem_of_getElem? (i := 857) (by decide +kernel)⟩
theorem lw_p51 : lw_okq (⟨"WildBellsModel", "bellIs", "(II)I"⟩, 24) := ⟨⟨by decide +kernel, by decide +kernel⟩, List.mem_of_getElem? (i := 715) (by decide +kernel), List.mem_of_getElem? (i := 860) (by decide +kernel), List.mem_of_getElem? (i := 861) (by decide +kernel)⟩
theorem lw_p52 : lw_okq (⟨"WildBellsModel", "nextOf", "(I)I"⟩, 24) := ⟨⟨by decide +kernel, by decide +kernel⟩, List.mem_of_getElem? (i := 715) (by decide +kernel), List.mem_of_getElem? (i := 864) (by decide +kernel), List.mem_of_getElem? (i := 865) (by decide +kernel)⟩
theorem lw_p53 : lw_okq (⟨"WildBellsModel", "worthOf", "(II)I"⟩, 24) := ⟨⟨by decide +kernel, by decide +kernel⟩, List.mem_of_getElem? (i := 715) (by decide +kernel), List.mem_of_getElem? (i := 868) (by decide +kernel), List.mem_of_getElem? (i := 869) (by decide +kernel)⟩
theorem lw_p54 : lw_okq (⟨"WildBellsModel", "nearestOther", "(III)I"⟩, 24) := ⟨⟨by decide +kernel, by decide +kernel⟩, List.mem_of_getElem? (i := 715) (by decide +kernel), List.mem_of_getElem? (i := 885) (by decide +kernel), List.mem_of_getElem? (i := 886) (by decide +kernel)⟩
theorem lw_p55 : lw_okq (⟨"WildBellsModel", "isCaught", "(I)Z"⟩, 24) := ⟨⟨by decide +kernel, by decide +kernel⟩, List.mem_of_getElem? (i := 715) (by decide +kernel), List.mem_of_getElem? (i := 889) (by decide +kernel), List.mem_of_getElem? (i := 890) (by decide +kernel)⟩
theorem lw_p56 : lw_okq (⟨"WildBellsModel", "beside", "(II)I"⟩, 24) := ⟨⟨by decide +kernel, by decide +kernel⟩, List.mem_of_getElem? (i := 715) (by decide +kernel), List.mem_of_getElem? (i := 894) (by decide +kernel), List.mem_of_getElem? (i := 895) (by decide +kernel)⟩
theorem lw_p57 : lw_okq (⟨"WildBellsModel", "heardAt", "(I)I"⟩, 24) := ⟨⟨by decide +kernel, by decide +kernel⟩, List.mem_of_getElem? (i := 715) (by decide +kernel), List.mem_of_getElem? (i := 913) (by decide +kernel), List.mem_of_getElem? (i := 914) (by decide +kernel)⟩
theorem lw_p58 : lw_okq (⟨"WildBellsModel", "loudAt", "(II)I"⟩, 24) := ⟨⟨by decide +kernel, by decide +kernel⟩, List.mem_of_getElem? (i := 715) (by decide +kernel), List.mem_of_getElem? (i := 917) (by decide +kernel), List.mem_of_getElem? (i := 918) (by decide +kernel)⟩
theorem lw_p59 : lw_okq (⟨"WildBellsModel", "loudOf", "(III)I"⟩, 24) := ⟨⟨by decide +kernel, by decide +kernel⟩, List.mem_of_getElem? (i := 715) (by decide +kernel), List.mem_of_getElem? (i := 921) (by decide +kernel), List.mem_of_getElem? (i := 922) (by decide +kernel)⟩
theorem lw_p60 : lw_okq (⟨"WildBellsModel", "manyAt", "(I)I"⟩, 24) := ⟨⟨by decide +kernel, by decide +kernel⟩, List.mem_of_getElem? (i := 715) (by decide +kernel), List.mem_of_getElem? (i := 925) (by decide +kernel), List.mem_of_getElem? (i := 926) (by decide +kernel)⟩
theorem lw_p61 : lw_okq (⟨"WildBellsModel", "hours", "(I)V"⟩, 24) := ⟨⟨by decide +kernel, by decide +kernel⟩, List.mem_of_getElem? (i := 715) (by decide +kernel), List.mem_of_getElem? (i := 935) (by decide +kernel), List.mem_of_getElem? (i := 936) (by decide +kernel)⟩
theorem lw_p62 : lw_okq (⟨"WildBellsModel", "hour", "()V"⟩, 24) := ⟨⟨by decide +kernel, by decide +kernel⟩, List.mem_of_getElem? (i := 715) (by decide +kernel), List.mem_of_getElem? (i := 939) (by decide +kernel), List.mem_of_getElem? (i := 940) (by decide +kernel)⟩
theorem lw_p63 : lw_okq (⟨"WildBellsModel", "hasNet", "(I)Z"⟩, 24) := ⟨⟨by decide +kernel, by decide +kernel⟩, List.mem_of_getElem? (i := 715) (by decide +kernel), List.mem_of_getElem? (i := 943) (by decide +kernel), List.mem_of_getElem? (i := 944) (by decide +kernel)⟩
def lw_privs_4 : List (MethodName × Nat) := [(⟨"WildBellsModel", "become", "(II)I"⟩, 24), (⟨"WildBellsModel", "comes", "(IIII)I"⟩, 24), (⟨"WildBellsModel", "isBell", "(I)Z"⟩, 24), (⟨"WildBellsModel", "bellIs", "(II)I"⟩, 24), (⟨"WildBellsModel", "nextOf", "(I)I"⟩, 24), (⟨"WildBellsModel", "worthOf", "(II)I"⟩, 24), (⟨"WildBellsModel", "nearestOther", "(III)I"⟩, 24), (⟨"WildBellsModel", "isCaught", "(I)Z"⟩, 24), (⟨"WildBellsModel", "beside", "(II)I"⟩, 24), (⟨"WildBellsModel", "heardAt", "(I)I"⟩, 24), (⟨"WildBellsModel", "loudAt", "(II)I"⟩, 24), (⟨"WildBellsModel", "loudOf", "(III)I"⟩, 24), (⟨"WildBellsModel", "manyAt", "(I)I"⟩, 24), (⟨"WildBellsModel", "hours", "(I)V"⟩, 24), (⟨"WildBellsModel", "hour", "()V"⟩, 24), (⟨"WildBellsModel", "hasNet", "(I)Z"⟩, 24)]
theorem lw_r4 : ∀ q ∈ lw_privs_4, lw_okq q := List.forall_mem_cons.mpr ⟨lw_p48, List.forall_mem_cons.mpr ⟨lw_p49, List.forall_mem_cons.mpr ⟨lw_p50, List.forall_mem_cons.mpr ⟨lw_p51, List.forall_mem_cons.mpr ⟨lw_p52, List.forall_mem_cons.mpr ⟨lw_p53, List.forall_mem_cons.mpr ⟨lw_p54, List.forall_mem_cons.mpr ⟨lw_p55, List.forall_mem_cons.mpr ⟨lw_p56, List.forall_mem_cons.mpr ⟨lw_p57, List.forall_mem_cons.mpr ⟨lw_p58, List.forall_mem_cons.mpr ⟨lw_p59, List.forall_mem_cons.mpr ⟨lw_p60, List.forall_mem_cons.mpr ⟨lw_p61, List.forall_mem_cons.mpr ⟨lw_p62, List.forall_mem_cons.mpr ⟨lw_p63, fun _ h => absurd h List.not_mem_nil⟩⟩⟩⟩⟩⟩⟩⟩⟩⟩⟩⟩⟩⟩⟩⟩
theorem lw_p64 : lw_okq (⟨"WildBellsModel", "caughtNow", "()I"⟩, 24) := ⟨⟨by decide +kernel, by decide +kernel⟩, List.mem_of_getElem? (i := 715) (by decide +kernel), List.mem_of_getElem? (i := 947) (by decide +kernel), List.mem_of_getElem? (i := 948) (by decide +kernel)⟩
theorem lw_p65 : lw_okq (⟨"WildBellsModel", "nets", "()I"⟩, 24) := ⟨⟨by decide +kernel, by decide +kernel⟩, List.mem_of_getElem? (i := 715) (by decide +kernel), List.mem_of_getElem? (i := 958) (by decide +kernel), List.mem_of_getElem? (i := 959) (by decide +kernel)⟩
theorem lw_p66 : lw_okq (⟨"WildBellsModel", "caughtWeight", "()I"⟩, 24) := ⟨⟨by decide +kernel, by decide +kernel⟩, List.mem_of_getElem? (i := 715) (by decide +kernel), List.mem_of_getElem? (i := 962) (by decide +kernel), List.mem_of_getElem? (i := 963) (by decide +kernel)⟩
theorem lw_p67 : lw_okq (⟨"WildBellsModel", "fieldBehind", "(III)I"⟩, 24) := ⟨⟨by decide +kernel, by decide +kernel⟩, List.mem_of_getElem? (i := 715) (by decide +kernel), List.mem_of_getElem? (i := 974) (by decide +kernel), List.mem_of_getElem? (i := 975) (by decide +kernel)⟩
theorem lw_p68 : lw_okq (⟨"WildBellsModel", "putBack", "(I)I"⟩, 24) := ⟨⟨by decide +kernel, by decide +kernel⟩, List.mem_of_getElem? (i := 715) (by decide +kernel), List.mem_of_getElem? (i := 981) (by decide +kernel), List.mem_of_getElem? (i := 982) (by decide +kernel)⟩
theorem lw_p69 : lw_okq (⟨"WildBellsModel", "caughtIn", "(II)I"⟩, 24) := ⟨⟨by decide +kernel, by decide +kernel⟩, List.mem_of_getElem? (i := 715) (by decide +kernel), List.mem_of_getElem? (i := 989) (by decide +kernel), List.mem_of_getElem? (i := 990) (by decide +kernel)⟩
theorem lw_p70 : lw_okq (⟨"WildBellsModel", "told", "(I)I"⟩, 24) := ⟨⟨by decide +kernel, by decide +kernel⟩, List.mem_of_getElem? (i := 715) (by decide +kernel), List.mem_of_getElem? (i := 994) (by decide +kernel), List.mem_of_getElem? (i := 995) (by decide +kernel)⟩
theorem lw_p71 : lw_okq (⟨"WildBellsModel", "setBehind", "(I)I"⟩, 24) := ⟨⟨by decide +kernel, by decide +kernel⟩, List.mem_of_getElem? (i := 715) (by decide +kernel), List.mem_of_getElem? (i := 1007) (by decide +kernel), List.mem_of_getElem? (i := 1008) (by decide +kernel)⟩
theorem lw_p72 : lw_okq (⟨"WildBellsModel", "orNone", "(I)I"⟩, 24) := ⟨⟨by decide +kernel, by decide +kernel⟩, List.mem_of_getElem? (i := 715) (by decide +kernel), List.mem_of_getElem? (i := 1015) (by decide +kernel), List.mem_of_getElem? (i := 1016) (by decide +kernel)⟩
theorem lw_p73 : lw_okq (⟨"WildBellsModel", "lacksOf", "(II)I"⟩, 24) := ⟨⟨by decide +kernel, by decide +kernel⟩, List.mem_of_getElem? (i := 715) (by decide +kernel), List.mem_of_getElem? (i := 1035) (by decide +kernel), List.mem_of_getElem? (i := 1036) (by decide +kernel)⟩
theorem lw_p74 : lw_okq (⟨"WildBellsModel", "lacks", "(I)I"⟩, 24) := ⟨⟨by decide +kernel, by decide +kernel⟩, List.mem_of_getElem? (i := 715) (by decide +kernel), List.mem_of_getElem? (i := 1039) (by decide +kernel), List.mem_of_getElem? (i := 1040) (by decide +kernel)⟩
theorem lw_p75 : lw_okq (⟨"WildBellsModel", "areEars", "(I)Z"⟩, 24) := ⟨⟨by decide +kernel, by decide +kernel⟩, List.mem_of_getElem? (i := 715) (by decide +kernel), List.mem_of_getElem? (i := 1047) (by decide +kernel), List.mem_of_getElem? (i := 1048) (by decide +kernel)⟩
theorem lw_p76 : lw_okq (⟨"WildBellsModel", "ears", "(I)I"⟩, 24) := ⟨⟨by decide +kernel, by decide +kernel⟩, List.mem_of_getElem? (i := 715) (by decide +kernel), List.mem_of_getElem? (i := 1051) (by decide +kernel), List.mem_of_getElem? (i := 1052) (by decide +kernel)⟩
theorem lw_p77 : lw_okq (⟨"WildBellsModel", "earOf", "(II)I"⟩, 24) := ⟨⟨by decide +kernel, by decide +kernel⟩, List.mem_of_getElem? (i := 715) (by decide +kernel), List.mem_of_getElem? (i := 1055) (by decide +kernel), List.mem_of_getElem? (i := 1056) (by decide +kernel)⟩
theorem lw_p78 : lw_okq (⟨"WildBellsModel", "isSo", "(III)Z"⟩, 24) := ⟨⟨by decide +kernel, by decide +kernel⟩, List.mem_of_getElem? (i := 715) (by decide +kernel), List.mem_of_getElem? (i := 1059) (by decide +kernel), List.mem_of_getElem? (i := 1060) (by decide +kernel)⟩
theorem lw_p79 : lw_okq (⟨"WildBellsModel", "worst", "(III)I"⟩, 24) := ⟨⟨by decide +kernel, by decide +kernel⟩, List.mem_of_getElem? (i := 715) (by decide +kernel), List.mem_of_getElem? (i := 1071) (by decide +kernel), List.mem_of_getElem? (i := 1072) (by decide +kernel)⟩
def lw_privs_5 : List (MethodName × Nat) := [(⟨"WildBellsModel", "caughtNow", "()I"⟩, 24), (⟨"WildBellsModel", "nets", "()I"⟩, 24), (⟨"WildBellsModel", "caughtWeight", "()I"⟩, 24), (⟨"WildBellsModel", "fieldBehind", "(III)I"⟩, 24), (⟨"WildBellsModel", "putBack", "(I)I"⟩, 24), (⟨"WildBellsModel", "caughtIn", "(II)I"⟩, 24), (⟨"WildBellsModel", "told", "(I)I"⟩, 24), (⟨"WildBellsModel", "setBehind", "(I)I"⟩, 24), (⟨"WildBellsModel", "orNone", "(I)I"⟩, 24), (⟨"WildBellsModel", "lacksOf", "(II)I"⟩, 24), (⟨"WildBellsModel", "lacks", "(I)I"⟩, 24), (⟨"WildBellsModel", "areEars", "(I)Z"⟩, 24), (⟨"WildBellsModel", "ears", "(I)I"⟩, 24), (⟨"WildBellsModel", "earOf", "(II)I"⟩, 24), (⟨"WildBellsModel", "isSo", "(III)Z"⟩, 24), (⟨"WildBellsModel", "worst", "(III)I"⟩, 24)]
theorem lw_r5 : ∀ q ∈ lw_privs_5, lw_okq q := List.forall_mem_cons.mpr ⟨lw_p64, List.forall_mem_cons.mpr ⟨lw_p65, List.forall_mem_cons.mpr ⟨lw_p66, List.forall_mem_cons.mpr ⟨lw_p67, List.forall_mem_cons.mpr ⟨lw_p68, List.forall_mem_cons.mpr ⟨lw_p69, List.forall_mem_cons.mpr ⟨lw_p70, List.forall_mem_cons.mpr ⟨lw_p71, List.forall_mem_cons.mpr ⟨lw_p72, List.forall_mem_cons.mpr ⟨lw_p73, List.forall_mem_cons.mpr ⟨lw_p74, List.forall_mem_cons.mpr ⟨lw_p75, List.forall_mem_cons.mpr ⟨lw_p76, List.forall_mem_cons.mpr ⟨lw_p77, List.forall_mem_cons.mpr ⟨lw_p78, List.forall_mem_cons.mpr ⟨lw_p79, fun _ h => absurd h List.not_mem_nil⟩⟩⟩⟩⟩⟩⟩⟩⟩⟩⟩⟩⟩⟩⟩⟩
theorem lw_p80 : lw_okq (⟨"WildBellsModel", "greatest", "()I"⟩, 24) := ⟨⟨by decide +kernel, by decide +kernel⟩, List.mem_of_getElem? (i := 715) (by decide +kernel), List.mem_of_getElem? (i := 1094) (by decide +kernel), List.mem_of_getElem? (i := 1095) (by decide +kernel)⟩
theorem lw_p81 : lw_okq (⟨"WildBellsModel", "areRing", "(I)Z"⟩, 24) := ⟨⟨by decide +kernel, by decide +kernel⟩, List.mem_of_getElem? (i := 715) (by decide +kernel), List.mem_of_getElem? (i := 1098) (by decide +kernel), List.mem_of_getElem? (i := 1099) (by decide +kernel)⟩
theorem lw_p82 : lw_okq (⟨"WildBellsModel", "drawn", "(I)I"⟩, 24) := ⟨⟨by decide +kernel, by decide +kernel⟩, List.mem_of_getElem? (i := 715) (by decide +kernel), List.mem_of_getElem? (i := 1131) (by decide +kernel), List.mem_of_getElem? (i := 1132) (by decide +kernel)⟩
theorem lw_p83 : lw_okq (⟨"WildBellsModel", "next", "()V"⟩, 24) := ⟨⟨by decide +kernel, by decide +kernel⟩, List.mem_of_getElem? (i := 715) (by decide +kernel), List.mem_of_getElem? (i := 1152) (by decide +kernel), List.mem_of_getElem? (i := 1153) (by decide +kernel)⟩
theorem lw_p84 : lw_okq (⟨"WildBellsModel", "byteAt", "(I)I"⟩, 24) := ⟨⟨by decide +kernel, by decide +kernel⟩, List.mem_of_getElem? (i := 715) (by decide +kernel), List.mem_of_getElem? (i := 1156) (by decide +kernel), List.mem_of_getElem? (i := 1157) (by decide +kernel)⟩
theorem lw_p85 : lw_okq (⟨"WildBellsModel", "readItem", "()V"⟩, 24) := ⟨⟨by decide +kernel, by decide +kernel⟩, List.mem_of_getElem? (i := 715) (by decide +kernel), List.mem_of_getElem? (i := 1160) (by decide +kernel), List.mem_of_getElem? (i := 1161) (by decide +kernel)⟩
theorem lw_p86 : lw_okq (⟨"WildBellsModel", "kindTold", "()I"⟩, 24) := ⟨⟨by decide +kernel, by decide +kernel⟩, List.mem_of_getElem? (i := 715) (by decide +kernel), List.mem_of_getElem? (i := 1164) (by decide +kernel), List.mem_of_getElem? (i := 1165) (by decide +kernel)⟩
theorem lw_p87 : lw_okq (⟨"WildBellsModel", "isWord", "(Ljava/lang/String;)Z"⟩, 24) := ⟨⟨by decide +kernel, by decide +kernel⟩, List.mem_of_getElem? (i := 715) (by decide +kernel), List.mem_of_getElem? (i := 1168) (by decide +kernel), List.mem_of_getElem? (i := 1169) (by decide +kernel)⟩
theorem lw_p88 : lw_okq (⟨"WildBellsModel", "must", "(Z)V"⟩, 24) := ⟨⟨by decide +kernel, by decide +kernel⟩, List.mem_of_getElem? (i := 715) (by decide +kernel), List.mem_of_getElem? (i := 1174) (by decide +kernel), List.mem_of_getElem? (i := 1175) (by decide +kernel)⟩
theorem lw_p89 : lw_okq (⟨"WildBellsModel", "isNext", "(Ljava/lang/String;)Z"⟩, 24) := ⟨⟨by decide +kernel, by decide +kernel⟩, List.mem_of_getElem? (i := 715) (by decide +kernel), List.mem_of_getElem? (i := 1179) (by decide +kernel), List.mem_of_getElem? (i := 1180) (by decide +kernel)⟩
theorem lw_p90 : lw_okq (⟨"WildBellsModel", "number", "(II)I"⟩, 24) := ⟨⟨by decide +kernel, by decide +kernel⟩, List.mem_of_getElem? (i := 715) (by decide +kernel), List.mem_of_getElem? (i := 1183) (by decide +kernel), List.mem_of_getElem? (i := 1184) (by decide +kernel)⟩
theorem lw_p91 : lw_okq (⟨"WildBellsModel", "item", "(IIII)V"⟩, 24) := ⟨⟨by decide +kernel, by decide +kernel⟩, List.mem_of_getElem? (i := 715) (by decide +kernel), List.mem_of_getElem? (i := 1189) (by decide +kernel), List.mem_of_getElem? (i := 1190) (by decide +kernel)⟩
theorem lw_p92 : lw_okq (⟨"WildBellsModel", "isToldSo", "(I)I"⟩, 24) := ⟨⟨by decide +kernel, by decide +kernel⟩, List.mem_of_getElem? (i := 715) (by decide +kernel), List.mem_of_getElem? (i := 1197) (by decide +kernel), List.mem_of_getElem? (i := 1198) (by decide +kernel)⟩
def lw_privs_6 : List (MethodName × Nat) := [(⟨"WildBellsModel", "greatest", "()I"⟩, 24), (⟨"WildBellsModel", "areRing", "(I)Z"⟩, 24), (⟨"WildBellsModel", "drawn", "(I)I"⟩, 24), (⟨"WildBellsModel", "next", "()V"⟩, 24), (⟨"WildBellsModel", "byteAt", "(I)I"⟩, 24), (⟨"WildBellsModel", "readItem", "()V"⟩, 24), (⟨"WildBellsModel", "kindTold", "()I"⟩, 24), (⟨"WildBellsModel", "isWord", "(Ljava/lang/String;)Z"⟩, 24), (⟨"WildBellsModel", "must", "(Z)V"⟩, 24), (⟨"WildBellsModel", "isNext", "(Ljava/lang/String;)Z"⟩, 24), (⟨"WildBellsModel", "number", "(II)I"⟩, 24), (⟨"WildBellsModel", "item", "(IIII)V"⟩, 24), (⟨"WildBellsModel", "isToldSo", "(I)I"⟩, 24)]
theorem lw_r6 : ∀ q ∈ lw_privs_6, lw_okq q := List.forall_mem_cons.mpr ⟨lw_p80, List.forall_mem_cons.mpr ⟨lw_p81, List.forall_mem_cons.mpr ⟨lw_p82, List.forall_mem_cons.mpr ⟨lw_p83, List.forall_mem_cons.mpr ⟨lw_p84, List.forall_mem_cons.mpr ⟨lw_p85, List.forall_mem_cons.mpr ⟨lw_p86, List.forall_mem_cons.mpr ⟨lw_p87, List.forall_mem_cons.mpr ⟨lw_p88, List.forall_mem_cons.mpr ⟨lw_p89, List.forall_mem_cons.mpr ⟨lw_p90, List.forall_mem_cons.mpr ⟨lw_p91, List.forall_mem_cons.mpr ⟨lw_p92, fun _ h => absurd h List.not_mem_nil⟩⟩⟩⟩⟩⟩⟩⟩⟩⟩⟩⟩⟩
def lw_privs : List (MethodName × Nat) := lw_privs_1 ++ (lw_privs_2 ++ (lw_privs_3 ++ (lw_privs_4 ++ (lw_privs_5 ++ (lw_privs_6)))))
def lw_tbl : List Cond := k2_sels lw_privs ++ tables_1
theorem lw_privs_ok : ∀ q ∈ lw_privs, lw_okq q := by
  show ∀ q ∈ lw_privs_1 ++ (lw_privs_2 ++ (lw_privs_3 ++ (lw_privs_4 ++ (lw_privs_5 ++ (lw_privs_6))))), lw_okq q
  exact List.forall_mem_append.mpr ⟨lw_r1, List.forall_mem_append.mpr ⟨lw_r2, List.forall_mem_append.mpr ⟨lw_r3, List.forall_mem_append.mpr ⟨lw_r4, List.forall_mem_append.mpr ⟨lw_r5, lw_r6⟩⟩⟩⟩⟩
end
section
def RX0 : String := "WildBells$Sheet"
def TX0 : u_T := fun k => match k with
  | 0 => ("WildBells$Sheet", "bits", "I", false)
  | 1 => ("WildBells$Sheet", "size", "I", false)
  | _ => ("WildBells$Sheet", "numbers", "[I", true)
def tyX0 : Nat → FieldType := fun k => match k with
  | 0 => .int
  | 1 => .int
  | _ => .array .int
abbrev wsX00 : List Cond := u_ws RX0 TX0 3
theorem nmX0 : ∀ a, a < 3 → ∀ b, b < 3 → a ≠ b → (TX0 a).2.1 ≠ (TX0 b).2.1 := by decide +kernel
theorem tyX0_ok : ∀ k, k < 3 → parseFieldDescriptor (TX0 k).2.2.1 = some (tyX0 k) := by decide +kernel
abbrev cX0_init : ByteArray := prog_2_method_1_code
def yX0_init : MethodName := ⟨RX0, "<init>", "()V"⟩
abbrev cX0_isMissing : ByteArray := prog_2_method_2_code
def yX0_isMissing : MethodName := ⟨RX0, "isMissing", "()Z"⟩
abbrev cX0_begin : ByteArray := prog_2_method_3_code
def yX0_begin : MethodName := ⟨RX0, "begin", "(II)V"⟩
abbrev cX0_put : ByteArray := prog_2_method_4_code
def yX0_put : MethodName := ⟨RX0, "put", "(II)V"⟩
abbrev cX0_hasFrom : ByteArray := prog_2_method_5_code
def yX0_hasFrom : MethodName := ⟨RX0, "hasFrom", "(II)Z"⟩
abbrev cX0_earsAreCells : ByteArray := prog_2_method_6_code
def yX0_earsAreCells : MethodName := ⟨RX0, "earsAreCells", "()Z"⟩
abbrev cX0_tellsLoud : ByteArray := prog_2_method_7_code
def yX0_tellsLoud : MethodName := ⟨RX0, "tellsLoud", "(II)Z"⟩
def RX1 : String := "WildBells$Tape"
def TX1 : u_T := fun k => match k with
  | 0 => ("WildBells$Tape", "bytes", "[I", true)
  | 1 => ("WildBells$Tape", "size", "I", false)
  | 2 => ("WildBells$Tape", "token", "I", false)
  | 3 => ("WildBells$Tape", "start", "I", false)
  | 4 => ("WildBells$Tape", "behind", "I", false)
  | 5 => ("WildBells$Tape", "value", "I", false)
  | _ => ("WildBells$Tape", "fault", "I", false)
def tyX1 : Nat → FieldType := fun k => match k with
  | 0 => .array .int
  | 1 => .int
  | 2 => .int
  | 3 => .int
  | 4 => .int
  | 5 => .int
  | _ => .int
abbrev wsX10 : List Cond := u_ws RX1 TX1 7
theorem nmX1 : ∀ a, a < 7 → ∀ b, b < 7 → a ≠ b → (TX1 a).2.1 ≠ (TX1 b).2.1 := by decide +kernel
theorem tyX1_ok : ∀ k, k < 7 → parseFieldDescriptor (TX1 k).2.2.1 = some (tyX1 k) := by decide +kernel
abbrev cX1_init : ByteArray := prog_3_method_1_code
def yX1_init : MethodName := ⟨RX1, "<init>", "()V"⟩
abbrev cX1_append : ByteArray := prog_3_method_2_code
def yX1_append : MethodName := ⟨RX1, "append", "(I)V"⟩
abbrev cX1_readInto : ByteArray := prog_3_method_3_code
def yX1_readInto : MethodName := ⟨RX1, "readInto", "(LWildBells$Woods;)I"⟩
abbrev cX1_advance : ByteArray := prog_3_method_4_code
def yX1_advance : MethodName := ⟨RX1, "advance", "()V"⟩
abbrev cX1_isWord : ByteArray := prog_3_method_5_code
def yX1_isWord : MethodName := ⟨RX1, "isWord", "(Ljava/lang/String;)Z"⟩
abbrev cX1_readItem : ByteArray := prog_3_method_6_code
def yX1_readItem : MethodName := ⟨RX1, "readItem", "(LWildBells$Woods;)V"⟩
abbrev cX1_kindOfWord : ByteArray := prog_3_method_7_code
def yX1_kindOfWord : MethodName := ⟨RX1, "kindOfWord", "()I"⟩
abbrev cX1_wordOfKind : ByteArray := prog_3_method_8_code
def yX1_wordOfKind : MethodName := ⟨RX1, "wordOfKind", "(I)Ljava/lang/String;"⟩
abbrev cX1_readBell : ByteArray := prog_3_method_9_code
def yX1_readBell : MethodName := ⟨RX1, "readBell", "(LWildBells$Woods;I)V"⟩
abbrev cX1_readNet : ByteArray := prog_3_method_10_code
def yX1_readNet : MethodName := ⟨RX1, "readNet", "(LWildBells$Woods;)V"⟩
abbrev cX1_readThick : ByteArray := prog_3_method_11_code
def yX1_readThick : MethodName := ⟨RX1, "readThick", "(LWildBells$Woods;)V"⟩
abbrev cX1_readHunter : ByteArray := prog_3_method_12_code
def yX1_readHunter : MethodName := ⟨RX1, "readHunter", "(LWildBells$Woods;)V"⟩
abbrev cX1_readFear : ByteArray := prog_3_method_13_code
def yX1_readFear : MethodName := ⟨RX1, "readFear", "(LWildBells$Woods;)V"⟩
abbrev cX1_takeNumber : ByteArray := prog_3_method_14_code
def yX1_takeNumber : MethodName := ⟨RX1, "takeNumber", "(II)I"⟩
abbrev cX1_takePerhaps : ByteArray := prog_3_method_15_code
def yX1_takePerhaps : MethodName := ⟨RX1, "takePerhaps", "(Ljava/lang/String;III)I"⟩
def RX2 : String := "WildBells$Woods"
def TX2 : u_T := fun k => match k with
  | 0 => ("WildBells$Woods", "hour", "I", false)
  | 1 => ("WildBells$Woods", "nets", "J", false)
  | 2 => ("WildBells$Woods", "thickness", "[I", true)
  | 3 => ("WildBells$Woods", "hunterAt", "[I", true)
  | 4 => ("WildBells$Woods", "mostFear", "I", false)
  | 5 => ("WildBells$Woods", "bells", "I", false)
  | 6 => ("WildBells$Woods", "kind", "[I", true)
  | 7 => ("WildBells$Woods", "at", "[I", true)
  | 8 => ("WildBells$Woods", "note", "[I", true)
  | 9 => ("WildBells$Woods", "weight", "[I", true)
  | 10 => ("WildBells$Woods", "caughtBells", "I", false)
  | 11 => ("WildBells$Woods", "z", "I", false)
  | 12 => ("WildBells$Woods", "spots", "[I", true)
  | _ => ("WildBells$Woods", "trod", "J", false)
def tyX2 : Nat → FieldType := fun k => match k with
  | 0 => .int
  | 1 => .long
  | 2 => .array .int
  | 3 => .array .int
  | 4 => .int
  | 5 => .int
  | 6 => .array .int
  | 7 => .array .int
  | 8 => .array .int
  | 9 => .array .int
  | 10 => .int
  | 11 => .int
  | 12 => .array .int
  | _ => .long
abbrev wsX20 : List Cond := u_ws RX2 TX2 14
theorem nmX2 : ∀ a, a < 14 → ∀ b, b < 14 → a ≠ b → (TX2 a).2.1 ≠ (TX2 b).2.1 := by decide +kernel
theorem tyX2_ok : ∀ k, k < 14 → parseFieldDescriptor (TX2 k).2.2.1 = some (tyX2 k) := by decide +kernel
abbrev cX2_init : ByteArray := prog_4_method_1_code
def yX2_init : MethodName := ⟨RX2, "<init>", "()V"⟩
abbrev cX2_becomes : ByteArray := prog_4_method_2_code
def yX2_becomes : MethodName := ⟨RX2, "becomes", "(LWildBells$Woods;)V"⟩
abbrev cX2_hasNet : ByteArray := prog_4_method_3_code
def yX2_hasNet : MethodName := ⟨RX2, "hasNet", "(I)Z"⟩
abbrev cX2_setNet : ByteArray := prog_4_method_4_code
def yX2_setNet : MethodName := ⟨RX2, "setNet", "(IZ)V"⟩
abbrev cX2_addBell : ByteArray := prog_4_method_5_code
def yX2_addBell : MethodName := ⟨RX2, "addBell", "(II)I"⟩
abbrev cX2_isFree : ByteArray := prog_4_method_6_code
def yX2_isFree : MethodName := ⟨RX2, "isFree", "(I)Z"⟩
abbrev cX2_trait : ByteArray := prog_4_method_7_code
def yX2_trait : MethodName := ⟨RX2, "trait", "(II)I"⟩
abbrev cX2_setTrait : ByteArray := prog_4_method_8_code
def yX2_setTrait : MethodName := ⟨RX2, "setTrait", "(III)V"⟩
abbrev cX2_heardAt : ByteArray := prog_4_method_9_code
def yX2_heardAt : MethodName := ⟨RX2, "heardAt", "(I)I"⟩
abbrev cX2_bellsAt : ByteArray := prog_4_method_10_code
def yX2_bellsAt : MethodName := ⟨RX2, "bellsAt", "(I)I"⟩
abbrev cX2_weightOf : ByteArray := prog_4_method_11_code
def yX2_weightOf : MethodName := ⟨RX2, "weightOf", "(I)I"⟩
abbrev cX2_spotsHolding : ByteArray := prog_4_method_12_code
def yX2_spotsHolding : MethodName := ⟨RX2, "spotsHolding", "()I"⟩
abbrev cX2_worthFor : ByteArray := prog_4_method_13_code
def yX2_worthFor : MethodName := ⟨RX2, "worthFor", "(II)I"⟩
abbrev cX2_fromHunters : ByteArray := prog_4_method_14_code
def yX2_fromHunters : MethodName := ⟨RX2, "fromHunters", "(I)I"⟩
abbrev cX2_nearestOther : ByteArray := prog_4_method_15_code
def yX2_nearestOther : MethodName := ⟨RX2, "nearestOther", "(IIII)I"⟩
abbrev cX2_nextCell : ByteArray := prog_4_method_16_code
def yX2_nextCell : MethodName := ⟨RX2, "nextCell", "(I)I"⟩
abbrev cX2_cellBeside : ByteArray := prog_4_method_17_code
def yX2_cellBeside : MethodName := ⟨RX2, "cellBeside", "(II)I"⟩
abbrev cX2_hourGoes : ByteArray := prog_4_method_18_code
def yX2_hourGoes : MethodName := ⟨RX2, "hourGoes", "()Z"⟩
abbrev cX2_runHours : ByteArray := prog_4_method_19_code
def yX2_runHours : MethodName := ⟨RX2, "runHours", "(I)V"⟩
abbrev cX2_tillCaught : ByteArray := prog_4_method_20_code
def yX2_tillCaught : MethodName := ⟨RX2, "tillCaught", "(II)I"⟩
abbrev cX2_draw : ByteArray := prog_4_method_21_code
def yX2_draw : MethodName := ⟨RX2, "draw", "()I"⟩
abbrev cX2_strike : ByteArray := prog_4_method_22_code
def yX2_strike : MethodName := ⟨RX2, "strike", "()V"⟩
abbrev cX2_notesThere : ByteArray := prog_4_method_23_code
def yX2_notesThere : MethodName := ⟨RX2, "notesThere", "()I"⟩
abbrev cX2_isRing : ByteArray := prog_4_method_24_code
def yX2_isRing : MethodName := ⟨RX2, "isRing", "(I)Z"⟩
abbrev cX2_greatestRing : ByteArray := prog_4_method_25_code
def yX2_greatestRing : MethodName := ⟨RX2, "greatestRing", "()I"⟩
abbrev cX2_followsInRing : ByteArray := prog_4_method_26_code
def yX2_followsInRing : MethodName := ⟨RX2, "followsInRing", "(II)Z"⟩
def RX3 : String := "WildBells"
def TX3 : u_T := fun k => match k with
  | 0 => ("WildBells", "woods", "LWildBells$Woods;", true)
  | 1 => ("WildBells", "trial", "LWildBells$Woods;", true)
  | 2 => ("WildBells", "kept", "LWildBells$Woods;", true)
  | 3 => ("WildBells", "anyKept", "Z", false)
  | 4 => ("WildBells", "tape", "LWildBells$Tape;", true)
  | 5 => ("WildBells", "sheets", "[LWildBells$Sheet;", true)
  | 6 => ("WildBells", "told", "[I", true)
  | _ => ("WildBells", "groups", "[I", true)
def tyX3 : Nat → FieldType := fun k => match k with
  | 0 => .object "WildBells$Woods"
  | 1 => .object "WildBells$Woods"
  | 2 => .object "WildBells$Woods"
  | 3 => .boolean
  | 4 => .object "WildBells$Tape"
  | 5 => .array (.object "WildBells$Sheet")
  | 6 => .array .int
  | _ => .array .int
abbrev wsX30 : List Cond := u_ws RX3 TX3 8
theorem nmX3 : ∀ a, a < 8 → ∀ b, b < 8 → a ≠ b → (TX3 a).2.1 ≠ (TX3 b).2.1 := by decide +kernel
theorem tyX3_ok : ∀ k, k < 8 → parseFieldDescriptor (TX3 k).2.2.1 = some (tyX3 k) := by decide +kernel
abbrev cX3_init : ByteArray := prog_1_method_1_code
def yX3_init : MethodName := ⟨RX3, "<init>", "()V"⟩
abbrev cX3_net : ByteArray := prog_1_method_2_code
def yX3_net : MethodName := ⟨RX3, "net", "(II)I"⟩
abbrev cX3_thick : ByteArray := prog_1_method_3_code
def yX3_thick : MethodName := ⟨RX3, "thick", "(II)I"⟩
abbrev cX3_cell : ByteArray := prog_1_method_4_code
def yX3_cell : MethodName := ⟨RX3, "cell", "(II)I"⟩
abbrev cX3_hunter : ByteArray := prog_1_method_5_code
def yX3_hunter : MethodName := ⟨RX3, "hunter", "(II)I"⟩
abbrev cX3_fear : ByteArray := prog_1_method_6_code
def yX3_fear : MethodName := ⟨RX3, "fear", "(I)I"⟩
abbrev cX3_bell : ByteArray := prog_1_method_7_code
def yX3_bell : MethodName := ⟨RX3, "bell", "(II)I"⟩
abbrev cX3_of : ByteArray := prog_1_method_8_code
def yX3_of : MethodName := ⟨RX3, "of", "(II)I"⟩
abbrev cX3_change : ByteArray := prog_1_method_9_code
def yX3_change : MethodName := ⟨RX3, "change", "(III)I"⟩
abbrev cX3_worth : ByteArray := prog_1_method_10_code
def yX3_worth : MethodName := ⟨RX3, "worth", "(II)I"⟩
abbrev cX3_go : ByteArray := prog_1_method_11_code
def yX3_go : MethodName := ⟨RX3, "go", "(I)I"⟩
abbrev cX3_now : ByteArray := prog_1_method_12_code
def yX3_now : MethodName := ⟨RX3, "now", "(I)I"⟩
abbrev cX3_loud : ByteArray := prog_1_method_13_code
def yX3_loud : MethodName := ⟨RX3, "loud", "(II)I"⟩
abbrev cX3_ahead : ByteArray := prog_1_method_14_code
def yX3_ahead : MethodName := ⟨RX3, "ahead", "(II)I"⟩
abbrev cX3_when : ByteArray := prog_1_method_15_code
def yX3_when : MethodName := ⟨RX3, "when", "(I)I"⟩
abbrev cX3_still : ByteArray := prog_1_method_16_code
def yX3_still : MethodName := ⟨RX3, "still", "()I"⟩
abbrev cX3_caught : ByteArray := prog_1_method_17_code
def yX3_caught : MethodName := ⟨RX3, "caught", "(I)I"⟩
abbrev cX3_netFor : ByteArray := prog_1_method_18_code
def yX3_netFor : MethodName := ⟨RX3, "netFor", "(I)I"⟩
abbrev cX3_best : ByteArray := prog_1_method_19_code
def yX3_best : MethodName := ⟨RX3, "best", "(I)I"⟩
abbrev cX3_drive : ByteArray := prog_1_method_20_code
def yX3_drive : MethodName := ⟨RX3, "drive", "(II)I"⟩
abbrev cX3_kindFor : ByteArray := prog_1_method_21_code
def yX3_kindFor : MethodName := ⟨RX3, "kindFor", "(I)I"⟩
abbrev cX3_stands : ByteArray := prog_1_method_22_code
def yX3_stands : MethodName := ⟨RX3, "stands", "(II)I"⟩
abbrev cX3_where : ByteArray := prog_1_method_23_code
def yX3_where : MethodName := ⟨RX3, "where", "(II)I"⟩
abbrev cX3_ear : ByteArray := prog_1_method_24_code
def yX3_ear : MethodName := ⟨RX3, "ear", "(II)I"⟩
abbrev cX3_whose : ByteArray := prog_1_method_25_code
def yX3_whose : MethodName := ⟨RX3, "whose", "(I)I"⟩
abbrev cX3_stock : ByteArray := prog_1_method_26_code
def yX3_stock : MethodName := ⟨RX3, "stock", "(III)I"⟩
abbrev cX3_lasts : ByteArray := prog_1_method_27_code
def yX3_lasts : MethodName := ⟨RX3, "lasts", "(II)I"⟩
abbrev cX3_ring : ByteArray := prog_1_method_28_code
def yX3_ring : MethodName := ⟨RX3, "ring", "()I"⟩
abbrev cX3_rings : ByteArray := prog_1_method_29_code
def yX3_rings : MethodName := ⟨RX3, "rings", "()I"⟩
abbrev cX3_peals : ByteArray := prog_1_method_30_code
def yX3_peals : MethodName := ⟨RX3, "peals", "()I"⟩
abbrev cX3_wanted : ByteArray := prog_1_method_31_code
def yX3_wanted : MethodName := ⟨RX3, "wanted", "()I"⟩
abbrev cX3_changes : ByteArray := prog_1_method_32_code
def yX3_changes : MethodName := ⟨RX3, "changes", "(I)J"⟩
abbrev cX3_thunder : ByteArray := prog_1_method_33_code
def yX3_thunder : MethodName := ⟨RX3, "thunder", "(I)I"⟩
abbrev cX3_seed : ByteArray := prog_1_method_34_code
def yX3_seed : MethodName := ⟨RX3, "seed", "(I)I"⟩
abbrev cX3_feed : ByteArray := prog_1_method_35_code
def yX3_feed : MethodName := ⟨RX3, "feed", "(II)I"⟩
abbrev cX3_wipe : ByteArray := prog_1_method_36_code
def yX3_wipe : MethodName := ⟨RX3, "wipe", "()I"⟩
abbrev cX3_text : ByteArray := prog_1_method_37_code
def yX3_text : MethodName := ⟨RX3, "text", "()I"⟩
abbrev cX3_hold : ByteArray := prog_1_method_38_code
def yX3_hold : MethodName := ⟨RX3, "hold", "(II)I"⟩
abbrev cX3_as : ByteArray := prog_1_method_39_code
def yX3_as : MethodName := ⟨RX3, "as", "(II)I"⟩
abbrev cX3_sheet : ByteArray := prog_1_method_40_code
def yX3_sheet : MethodName := ⟨RX3, "sheet", "(III)I"⟩
abbrev cX3_write : ByteArray := prog_1_method_41_code
def yX3_write : MethodName := ⟨RX3, "write", "(III)I"⟩
abbrev cX3_copy : ByteArray := prog_1_method_42_code
def yX3_copy : MethodName := ⟨RX3, "copy", "(IIIII)I"⟩
abbrev cX3_load : ByteArray := prog_1_method_43_code
def yX3_load : MethodName := ⟨RX3, "load", "(I)I"⟩
abbrev cX3_judge : ByteArray := prog_1_method_44_code
def yX3_judge : MethodName := ⟨RX3, "judge", "(I)I"⟩
abbrev cX3_image : ByteArray := prog_1_method_45_code
def yX3_image : MethodName := ⟨RX3, "image", "()I"⟩
abbrev cX3_undo : ByteArray := prog_1_method_46_code
def yX3_undo : MethodName := ⟨RX3, "undo", "()I"⟩
abbrev cX3_tear : ByteArray := prog_1_method_47_code
def yX3_tear : MethodName := ⟨RX3, "tear", "()I"⟩
abbrev cX3_count : ByteArray := prog_1_method_48_code
def yX3_count : MethodName := ⟨RX3, "count", "(I)I"⟩
abbrev cX3_status : ByteArray := prog_1_method_49_code
def yX3_status : MethodName := ⟨RX3, "status", "(I)I"⟩
abbrev cX3_finding : ByteArray := prog_1_method_50_code
def yX3_finding : MethodName := ⟨RX3, "finding", "(I)I"⟩
abbrev cX3_isBell : ByteArray := prog_1_method_51_code
def yX3_isBell : MethodName := ⟨RX3, "isBell", "(I)Z"⟩
abbrev cX3_isCell : ByteArray := prog_1_method_52_code
def yX3_isCell : MethodName := ⟨RX3, "isCell", "(I)Z"⟩
abbrev cX3_isHunter : ByteArray := prog_1_method_53_code
def yX3_isHunter : MethodName := ⟨RX3, "isHunter", "(I)Z"⟩
abbrev cX3_isKind : ByteArray := prog_1_method_54_code
def yX3_isKind : MethodName := ⟨RX3, "isKind", "(I)Z"⟩
abbrev cX3_isNote : ByteArray := prog_1_method_55_code
def yX3_isNote : MethodName := ⟨RX3, "isNote", "(I)Z"⟩
abbrev cX3_isWeight : ByteArray := prog_1_method_56_code
def yX3_isWeight : MethodName := ⟨RX3, "isWeight", "(I)Z"⟩
abbrev cX3_isStock : ByteArray := prog_1_method_57_code
def yX3_isStock : MethodName := ⟨RX3, "isStock", "(I)Z"⟩
abbrev cX3_isSpot : ByteArray := prog_1_method_58_code
def yX3_isSpot : MethodName := ⟨RX3, "isSpot", "(I)Z"⟩
abbrev cX3_isSheet : ByteArray := prog_1_method_59_code
def yX3_isSheet : MethodName := ⟨RX3, "isSheet", "(I)Z"⟩
abbrev cX3_isTrait : ByteArray := prog_1_method_60_code
def yX3_isTrait : MethodName := ⟨RX3, "isTrait", "(I)Z"⟩
abbrev cX3_suits : ByteArray := prog_1_method_61_code
def yX3_suits : MethodName := ⟨RX3, "suits", "(II)Z"⟩
abbrev cX3_soundFault : ByteArray := prog_1_method_62_code
def yX3_soundFault : MethodName := ⟨RX3, "soundFault", "(II)I"⟩
abbrev cX3_standingCells : ByteArray := prog_1_method_63_code
def yX3_standingCells : MethodName := ⟨RX3, "standingCells", "(LWildBells$Sheet;I)J"⟩
abbrev cX3_leftAtWorst : ByteArray := prog_1_method_64_code
def yX3_leftAtWorst : MethodName := ⟨RX3, "leftAtWorst", "(JII)I"⟩
abbrev cX3_stockBehind : ByteArray := prog_1_method_65_code
def yX3_stockBehind : MethodName := ⟨RX3, "stockBehind", "(III)I"⟩
abbrev cX3_holds : ByteArray := prog_1_method_66_code
def yX3_holds : MethodName := ⟨RX3, "holds", "(JI)Z"⟩
abbrev cX3_apart : ByteArray := prog_1_method_67_code
def yX3_apart : MethodName := ⟨RX3, "apart", "(II)I"⟩
abbrev cX3_loudness : ByteArray := prog_1_method_68_code
def yX3_loudness : MethodName := ⟨RX3, "loudness", "(II)I"⟩
abbrev cX3_isUnder : ByteArray := prog_1_method_69_code
def yX3_isUnder : MethodName := ⟨RX3, "isUnder", "(II)Z"⟩
abbrev cX3_longestRun : ByteArray := prog_1_method_70_code
def yX3_longestRun : MethodName := ⟨RX3, "longestRun", "(I)I"⟩
def RX4 : String := "WildBellsModel"
def TX4 : u_T := fun k => match k with
  | 0 => ("WildBellsModel", "now", "[I", true)
  | 1 => ("WildBellsModel", "kept", "[I", true)
  | 2 => ("WildBellsModel", "aside", "[I", true)
  | 3 => ("WildBellsModel", "isKept", "Z", false)
  | 4 => ("WildBellsModel", "found", "[I", true)
  | 5 => ("WildBellsModel", "down", "[I", true)
  | 6 => ("WildBellsModel", "right", "[I", true)
  | 7 => ("WildBellsModel", "isMoved", "Z", false)
  | 8 => ("WildBellsModel", "parts", "[I", true)
  | 9 => ("WildBellsModel", "tape", "[I", true)
  | 10 => ("WildBellsModel", "taped", "I", false)
  | 11 => ("WildBellsModel", "begins", "I", false)
  | 12 => ("WildBellsModel", "ends", "I", false)
  | 13 => ("WildBellsModel", "sort", "I", false)
  | 14 => ("WildBellsModel", "value", "I", false)
  | 15 => ("WildBellsModel", "isWrong", "Z", false)
  | 16 => ("WildBellsModel", "kindNames", "[Ljava/lang/String;", true)
  | 17 => ("WildBellsModel", "items", "[I", true)
  | 18 => ("WildBellsModel", "itemMany", "I", false)
  | 19 => ("WildBellsModel", "bellThen", "I", false)
  | 20 => ("WildBellsModel", "widths", "[I", true)
  | 21 => ("WildBellsModel", "sizes", "[I", true)
  | 22 => ("WildBellsModel", "numbers", "[I", true)
  | _ => ("WildBellsModel", "moved", "[I", true)
def tyX4 : Nat → FieldType := fun k => match k with
  | 0 => .array .int
  | 1 => .array .int
  | 2 => .array .int
  | 3 => .boolean
  | 4 => .array .int
  | 5 => .array .int
  | 6 => .array .int
  | 7 => .boolean
  | 8 => .array .int
  | 9 => .array .int
  | 10 => .int
  | 11 => .int
  | 12 => .int
  | 13 => .int
  | 14 => .int
  | 15 => .boolean
  | 16 => .array (.object "java/lang/String")
  | 17 => .array .int
  | 18 => .int
  | 19 => .int
  | 20 => .array .int
  | 21 => .array .int
  | 22 => .array .int
  | _ => .array .int
abbrev wsX40 : List Cond := u_ws RX4 TX4 24
theorem nmX4 : ∀ a, a < 24 → ∀ b, b < 24 → a ≠ b → (TX4 a).2.1 ≠ (TX4 b).2.1 := by decide +kernel
theorem tyX4_ok : ∀ k, k < 24 → parseFieldDescriptor (TX4 k).2.2.1 = some (tyX4 k) := by decide +kernel
abbrev cX4_init : ByteArray := prog_6_method_1_code
def yX4_init : MethodName := ⟨RX4, "<init>", "()V"⟩
abbrev cX4_finding : ByteArray := prog_6_method_2_code
def yX4_finding : MethodName := ⟨RX4, "finding", "(I)I"⟩
abbrev cX4_within : ByteArray := prog_6_method_3_code
def yX4_within : MethodName := ⟨RX4, "within", "(III)Z"⟩
abbrev cX4_become : ByteArray := prog_6_method_4_code
def yX4_become : MethodName := ⟨RX4, "become", "(II)I"⟩
abbrev cX4_copyRow : ByteArray := prog_6_method_5_code
def yX4_copyRow : MethodName := ⟨RX4, "copyRow", "([I[I)V"⟩
abbrev cX4_putBack : ByteArray := prog_6_method_6_code
def yX4_putBack : MethodName := ⟨RX4, "putBack", "(I)I"⟩
abbrev cX4_has : ByteArray := prog_6_method_7_code
def yX4_has : MethodName := ⟨RX4, "has", "(II)Z"⟩
abbrev cX4_bits : ByteArray := prog_6_method_8_code
def yX4_bits : MethodName := ⟨RX4, "bits", "(I)I"⟩
abbrev cX4_isCell : ByteArray := prog_6_method_9_code
def yX4_isCell : MethodName := ⟨RX4, "isCell", "(I)Z"⟩
abbrev cX4_apart : ByteArray := prog_6_method_10_code
def yX4_apart : MethodName := ⟨RX4, "apart", "(II)I"⟩
abbrev cX4_beside : ByteArray := prog_6_method_11_code
def yX4_beside : MethodName := ⟨RX4, "beside", "(II)I"⟩
abbrev cX4_hasNet : ByteArray := prog_6_method_12_code
def yX4_hasNet : MethodName := ⟨RX4, "hasNet", "(I)Z"⟩
abbrev cX4_net : ByteArray := prog_6_method_13_code
def yX4_net : MethodName := ⟨RX4, "net", "(II)I"⟩
abbrev cX4_thick : ByteArray := prog_6_method_14_code
def yX4_thick : MethodName := ⟨RX4, "thick", "(II)I"⟩
abbrev cX4_isHunter : ByteArray := prog_6_method_15_code
def yX4_isHunter : MethodName := ⟨RX4, "isHunter", "(I)Z"⟩
abbrev cX4_hunter : ByteArray := prog_6_method_16_code
def yX4_hunter : MethodName := ⟨RX4, "hunter", "(II)I"⟩
abbrev cX4_fear : ByteArray := prog_6_method_17_code
def yX4_fear : MethodName := ⟨RX4, "fear", "(I)I"⟩
abbrev cX4_isBell : ByteArray := prog_6_method_18_code
def yX4_isBell : MethodName := ⟨RX4, "isBell", "(I)Z"⟩
abbrev cX4_isKind : ByteArray := prog_6_method_19_code
def yX4_isKind : MethodName := ⟨RX4, "isKind", "(I)Z"⟩
abbrev cX4_at : ByteArray := prog_6_method_20_code
def yX4_at : MethodName := ⟨RX4, "at", "(II)I"⟩
abbrev cX4_bellIs : ByteArray := prog_6_method_21_code
def yX4_bellIs : MethodName := ⟨RX4, "bellIs", "(II)I"⟩
abbrev cX4_isCaught : ByteArray := prog_6_method_22_code
def yX4_isCaught : MethodName := ⟨RX4, "isCaught", "(I)Z"⟩
abbrev cX4_comes : ByteArray := prog_6_method_23_code
def yX4_comes : MethodName := ⟨RX4, "comes", "(IIII)I"⟩
abbrev cX4_bell : ByteArray := prog_6_method_24_code
def yX4_bell : MethodName := ⟨RX4, "bell", "(II)I"⟩
abbrev cX4_above : ByteArray := prog_6_method_25_code
def yX4_above : MethodName := ⟨RX4, "above", "(I)I"⟩
abbrev cX4_isUnder : ByteArray := prog_6_method_26_code
def yX4_isUnder : MethodName := ⟨RX4, "isUnder", "(II)Z"⟩
abbrev cX4_nearestOther : ByteArray := prog_6_method_27_code
def yX4_nearestOther : MethodName := ⟨RX4, "nearestOther", "(III)I"⟩
abbrev cX4_worthOf : ByteArray := prog_6_method_28_code
def yX4_worthOf : MethodName := ⟨RX4, "worthOf", "(II)I"⟩
abbrev cX4_nextOf : ByteArray := prog_6_method_29_code
def yX4_nextOf : MethodName := ⟨RX4, "nextOf", "(I)I"⟩
abbrev cX4_of : ByteArray := prog_6_method_30_code
def yX4_of : MethodName := ⟨RX4, "of", "(II)I"⟩
abbrev cX4_mayBe : ByteArray := prog_6_method_31_code
def yX4_mayBe : MethodName := ⟨RX4, "mayBe", "(II)Z"⟩
abbrev cX4_change : ByteArray := prog_6_method_32_code
def yX4_change : MethodName := ⟨RX4, "change", "(III)I"⟩
abbrev cX4_worth : ByteArray := prog_6_method_33_code
def yX4_worth : MethodName := ⟨RX4, "worth", "(II)I"⟩
abbrev cX4_loudOf : ByteArray := prog_6_method_34_code
def yX4_loudOf : MethodName := ⟨RX4, "loudOf", "(III)I"⟩
abbrev cX4_loudAt : ByteArray := prog_6_method_35_code
def yX4_loudAt : MethodName := ⟨RX4, "loudAt", "(II)I"⟩
abbrev cX4_heardAt : ByteArray := prog_6_method_36_code
def yX4_heardAt : MethodName := ⟨RX4, "heardAt", "(I)I"⟩
abbrev cX4_manyAt : ByteArray := prog_6_method_37_code
def yX4_manyAt : MethodName := ⟨RX4, "manyAt", "(I)I"⟩
abbrev cX4_cell : ByteArray := prog_6_method_38_code
def yX4_cell : MethodName := ⟨RX4, "cell", "(II)I"⟩
abbrev cX4_caughtNow : ByteArray := prog_6_method_39_code
def yX4_caughtNow : MethodName := ⟨RX4, "caughtNow", "()I"⟩
abbrev cX4_hour : ByteArray := prog_6_method_40_code
def yX4_hour : MethodName := ⟨RX4, "hour", "()V"⟩
abbrev cX4_hours : ByteArray := prog_6_method_41_code
def yX4_hours : MethodName := ⟨RX4, "hours", "(I)V"⟩
abbrev cX4_go : ByteArray := prog_6_method_42_code
def yX4_go : MethodName := ⟨RX4, "go", "(I)I"⟩
abbrev cX4_nets : ByteArray := prog_6_method_43_code
def yX4_nets : MethodName := ⟨RX4, "nets", "()I"⟩
abbrev cX4_caughtWeight : ByteArray := prog_6_method_44_code
def yX4_caughtWeight : MethodName := ⟨RX4, "caughtWeight", "()I"⟩
abbrev cX4_now : ByteArray := prog_6_method_45_code
def yX4_now : MethodName := ⟨RX4, "now", "(I)I"⟩
abbrev cX4_loud : ByteArray := prog_6_method_46_code
def yX4_loud : MethodName := ⟨RX4, "loud", "(II)I"⟩
abbrev cX4_fieldBehind : ByteArray := prog_6_method_47_code
def yX4_fieldBehind : MethodName := ⟨RX4, "fieldBehind", "(III)I"⟩
abbrev cX4_ahead : ByteArray := prog_6_method_48_code
def yX4_ahead : MethodName := ⟨RX4, "ahead", "(II)I"⟩
abbrev cX4_caughtIn : ByteArray := prog_6_method_49_code
def yX4_caughtIn : MethodName := ⟨RX4, "caughtIn", "(II)I"⟩
abbrev cX4_told : ByteArray := prog_6_method_50_code
def yX4_told : MethodName := ⟨RX4, "told", "(I)I"⟩
abbrev cX4_when : ByteArray := prog_6_method_51_code
def yX4_when : MethodName := ⟨RX4, "when", "(I)I"⟩
abbrev cX4_still : ByteArray := prog_6_method_52_code
def yX4_still : MethodName := ⟨RX4, "still", "()I"⟩
abbrev cX4_setBehind : ByteArray := prog_6_method_53_code
def yX4_setBehind : MethodName := ⟨RX4, "setBehind", "(I)I"⟩
abbrev cX4_caught : ByteArray := prog_6_method_54_code
def yX4_caught : MethodName := ⟨RX4, "caught", "(I)I"⟩
abbrev cX4_orNone : ByteArray := prog_6_method_55_code
def yX4_orNone : MethodName := ⟨RX4, "orNone", "(I)I"⟩
abbrev cX4_netFor : ByteArray := prog_6_method_56_code
def yX4_netFor : MethodName := ⟨RX4, "netFor", "(I)I"⟩
abbrev cX4_best : ByteArray := prog_6_method_57_code
def yX4_best : MethodName := ⟨RX4, "best", "(I)I"⟩
abbrev cX4_drive : ByteArray := prog_6_method_58_code
def yX4_drive : MethodName := ⟨RX4, "drive", "(II)I"⟩
abbrev cX4_kindFor : ByteArray := prog_6_method_59_code
def yX4_kindFor : MethodName := ⟨RX4, "kindFor", "(I)I"⟩
abbrev cX4_lacks : ByteArray := prog_6_method_60_code
def yX4_lacks : MethodName := ⟨RX4, "lacks", "(I)I"⟩
abbrev cX4_earOf : ByteArray := prog_6_method_61_code
def yX4_earOf : MethodName := ⟨RX4, "earOf", "(II)I"⟩
abbrev cX4_ears : ByteArray := prog_6_method_62_code
def yX4_ears : MethodName := ⟨RX4, "ears", "(I)I"⟩
abbrev cX4_areEars : ByteArray := prog_6_method_63_code
def yX4_areEars : MethodName := ⟨RX4, "areEars", "(I)Z"⟩
abbrev cX4_isSo : ByteArray := prog_6_method_64_code
def yX4_isSo : MethodName := ⟨RX4, "isSo", "(III)Z"⟩
abbrev cX4_lacksOf : ByteArray := prog_6_method_65_code
def yX4_lacksOf : MethodName := ⟨RX4, "lacksOf", "(II)I"⟩
abbrev cX4_stands : ByteArray := prog_6_method_66_code
def yX4_stands : MethodName := ⟨RX4, "stands", "(II)I"⟩
abbrev cX4_where : ByteArray := prog_6_method_67_code
def yX4_where : MethodName := ⟨RX4, "where", "(II)I"⟩
abbrev cX4_worst : ByteArray := prog_6_method_68_code
def yX4_worst : MethodName := ⟨RX4, "worst", "(III)I"⟩
abbrev cX4_ear : ByteArray := prog_6_method_69_code
def yX4_ear : MethodName := ⟨RX4, "ear", "(II)I"⟩
abbrev cX4_whose : ByteArray := prog_6_method_70_code
def yX4_whose : MethodName := ⟨RX4, "whose", "(I)I"⟩
abbrev cX4_stockBehind : ByteArray := prog_6_method_71_code
def yX4_stockBehind : MethodName := ⟨RX4, "stockBehind", "(III)I"⟩
abbrev cX4_stock : ByteArray := prog_6_method_72_code
def yX4_stock : MethodName := ⟨RX4, "stock", "(III)I"⟩
abbrev cX4_lasts : ByteArray := prog_6_method_73_code
def yX4_lasts : MethodName := ⟨RX4, "lasts", "(II)I"⟩
abbrev cX4_areRing : ByteArray := prog_6_method_74_code
def yX4_areRing : MethodName := ⟨RX4, "areRing", "(I)Z"⟩
abbrev cX4_stepBySteps : ByteArray := prog_6_method_75_code
def yX4_stepBySteps : MethodName := ⟨RX4, "stepBySteps", "(I)Z"⟩
abbrev cX4_greatest : ByteArray := prog_6_method_76_code
def yX4_greatest : MethodName := ⟨RX4, "greatest", "()I"⟩
abbrev cX4_ring : ByteArray := prog_6_method_77_code
def yX4_ring : MethodName := ⟨RX4, "ring", "()I"⟩
abbrev cX4_rings : ByteArray := prog_6_method_78_code
def yX4_rings : MethodName := ⟨RX4, "rings", "()I"⟩
abbrev cX4_peals : ByteArray := prog_6_method_79_code
def yX4_peals : MethodName := ⟨RX4, "peals", "()I"⟩
abbrev cX4_longest : ByteArray := prog_6_method_80_code
def yX4_longest : MethodName := ⟨RX4, "longest", "(I)I"⟩
abbrev cX4_wanted : ByteArray := prog_6_method_81_code
def yX4_wanted : MethodName := ⟨RX4, "wanted", "()I"⟩
abbrev cX4_changes : ByteArray := prog_6_method_82_code
def yX4_changes : MethodName := ⟨RX4, "changes", "(I)J"⟩
abbrev cX4_drawn : ByteArray := prog_6_method_83_code
def yX4_drawn : MethodName := ⟨RX4, "drawn", "(I)I"⟩
abbrev cX4_thunder : ByteArray := prog_6_method_84_code
def yX4_thunder : MethodName := ⟨RX4, "thunder", "(I)I"⟩
abbrev cX4_seed : ByteArray := prog_6_method_85_code
def yX4_seed : MethodName := ⟨RX4, "seed", "(I)I"⟩
abbrev cX4_feed : ByteArray := prog_6_method_86_code
def yX4_feed : MethodName := ⟨RX4, "feed", "(II)I"⟩
abbrev cX4_wipe : ByteArray := prog_6_method_87_code
def yX4_wipe : MethodName := ⟨RX4, "wipe", "()I"⟩
abbrev cX4_byteAt : ByteArray := prog_6_method_88_code
def yX4_byteAt : MethodName := ⟨RX4, "byteAt", "(I)I"⟩
abbrev cX4_next : ByteArray := prog_6_method_89_code
def yX4_next : MethodName := ⟨RX4, "next", "()V"⟩
abbrev cX4_isWord : ByteArray := prog_6_method_90_code
def yX4_isWord : MethodName := ⟨RX4, "isWord", "(Ljava/lang/String;)Z"⟩
abbrev cX4_must : ByteArray := prog_6_method_91_code
def yX4_must : MethodName := ⟨RX4, "must", "(Z)V"⟩
abbrev cX4_number : ByteArray := prog_6_method_92_code
def yX4_number : MethodName := ⟨RX4, "number", "(II)I"⟩
abbrev cX4_item : ByteArray := prog_6_method_93_code
def yX4_item : MethodName := ⟨RX4, "item", "(IIII)V"⟩
abbrev cX4_kindTold : ByteArray := prog_6_method_94_code
def yX4_kindTold : MethodName := ⟨RX4, "kindTold", "()I"⟩
abbrev cX4_isNext : ByteArray := prog_6_method_95_code
def yX4_isNext : MethodName := ⟨RX4, "isNext", "(Ljava/lang/String;)Z"⟩
abbrev cX4_readItem : ByteArray := prog_6_method_96_code
def yX4_readItem : MethodName := ⟨RX4, "readItem", "()V"⟩
abbrev cX4_isToldSo : ByteArray := prog_6_method_97_code
def yX4_isToldSo : MethodName := ⟨RX4, "isToldSo", "(I)I"⟩
abbrev cX4_text : ByteArray := prog_6_method_98_code
def yX4_text : MethodName := ⟨RX4, "text", "()I"⟩
abbrev cX4_isSpot : ByteArray := prog_6_method_99_code
def yX4_isSpot : MethodName := ⟨RX4, "isSpot", "(I)Z"⟩
abbrev cX4_hold : ByteArray := prog_6_method_100_code
def yX4_hold : MethodName := ⟨RX4, "hold", "(II)I"⟩
abbrev cX4_as : ByteArray := prog_6_method_101_code
def yX4_as : MethodName := ⟨RX4, "as", "(II)I"⟩
abbrev cX4_isSheet : ByteArray := prog_6_method_102_code
def yX4_isSheet : MethodName := ⟨RX4, "isSheet", "(I)Z"⟩
abbrev cX4_cutTo : ByteArray := prog_6_method_103_code
def yX4_cutTo : MethodName := ⟨RX4, "cutTo", "(II)I"⟩
abbrev cX4_sheet : ByteArray := prog_6_method_104_code
def yX4_sheet : MethodName := ⟨RX4, "sheet", "(III)I"⟩
abbrev cX4_write : ByteArray := prog_6_method_105_code
def yX4_write : MethodName := ⟨RX4, "write", "(III)I"⟩
abbrev cX4_copy : ByteArray := prog_6_method_106_code
def yX4_copy : MethodName := ⟨RX4, "copy", "(IIIII)I"⟩
abbrev cX4_load : ByteArray := prog_6_method_107_code
def yX4_load : MethodName := ⟨RX4, "load", "(I)I"⟩
abbrev cX4_judge : ByteArray := prog_6_method_108_code
def yX4_judge : MethodName := ⟨RX4, "judge", "(I)I"⟩
abbrev cX4_image : ByteArray := prog_6_method_109_code
def yX4_image : MethodName := ⟨RX4, "image", "()I"⟩
abbrev cX4_undo : ByteArray := prog_6_method_110_code
def yX4_undo : MethodName := ⟨RX4, "undo", "()I"⟩
abbrev cX4_tear : ByteArray := prog_6_method_111_code
def yX4_tear : MethodName := ⟨RX4, "tear", "()I"⟩
abbrev cX4_count : ByteArray := prog_6_method_112_code
def yX4_count : MethodName := ⟨RX4, "count", "(I)I"⟩
abbrev cX4_status : ByteArray := prog_6_method_113_code
def yX4_status : MethodName := ⟨RX4, "status", "(I)I"⟩
def RJ6 : String := "java/lang/Integer"
abbrev cJ6_bitCount_0f7a4 : ByteArray := prog_7_method_49_code
def yJ6_bitCount_0f7a4 : MethodName := ⟨RJ6, "bitCount", "(I)I"⟩
def RJ13 : String := "java/lang/Long"
abbrev cJ13_bitCount_95d88 : ByteArray := prog_8_method_50_code
def yJ13_bitCount_95d88 : MethodName := ⟨RJ13, "bitCount", "(J)I"⟩
def RJ9 : String := "java/lang/Math"
abbrev cJ9_abs_0f7a4 : ByteArray := prog_9_method_59_code
def yJ9_abs_0f7a4 : MethodName := ⟨RJ9, "abs", "(I)I"⟩
abbrev cJ9_max_7cf53 : ByteArray := prog_9_method_65_code
def yJ9_max_7cf53 : MethodName := ⟨RJ9, "max", "(II)I"⟩
abbrev cJ9_min_7cf53 : ByteArray := prog_9_method_69_code
def yJ9_min_7cf53 : MethodName := ⟨RJ9, "min", "(II)I"⟩
def RJ0 : String := "java/lang/String"
abbrev cJ0_length_8abf5 : ByteArray := prog_10_method_54_code
def yJ0_length_8abf5 : MethodName := ⟨RJ0, "length", "()I"⟩
abbrev cJ0_charAt_5068e : ByteArray := prog_10_method_56_code
def yJ0_charAt_5068e : MethodName := ⟨RJ0, "charAt", "(I)C"⟩
abbrev cJ0_coder_7d493 : ByteArray := prog_10_method_152_code
def yJ0_coder_7d493 : MethodName := ⟨RJ0, "coder", "()B"⟩
abbrev cJ0_isLatin1_aae02 : ByteArray := prog_10_method_154_code
def yJ0_isLatin1_aae02 : MethodName := ⟨RJ0, "isLatin1", "()Z"⟩
abbrev cJ0_checkIndex_df160 : ByteArray := prog_10_method_155_code
def yJ0_checkIndex_df160 : MethodName := ⟨RJ0, "checkIndex", "(II)V"⟩
def RJ1 : String := "java/lang/StringLatin1"
abbrev cJ1_charAt_3b067 : ByteArray := prog_11_method_2_code
def yJ1_charAt_3b067 : MethodName := ⟨RJ1, "charAt", "([BI)C"⟩
def RJ2 : String := "java/lang/StringUTF16"
abbrev cJ2_getChar_3b067 : ByteArray := prog_12_method_5_code
def yJ2_getChar_3b067 : MethodName := ⟨RJ2, "getChar", "([BI)C"⟩
abbrev cJ2_length_9d52b : ByteArray := prog_12_method_6_code
def yJ2_length_9d52b : MethodName := ⟨RJ2, "length", "([B)I"⟩
abbrev cJ2_charAt_3b067 : ByteArray := prog_12_method_83_code
def yJ2_charAt_3b067 : MethodName := ⟨RJ2, "charAt", "([BI)C"⟩
abbrev cJ2_checkIndex_2214a : ByteArray := prog_12_method_91_code
def yJ2_checkIndex_2214a : MethodName := ⟨RJ2, "checkIndex", "(I[B)V"⟩
def RJ10 : String := "java/lang/System"
def RJ3 : String := "jdk/internal/util/Preconditions"
abbrev cJ3_checkIndex_8e157 : ByteArray := prog_14_method_11_code
def yJ3_checkIndex_8e157 : MethodName := ⟨RJ3, "checkIndex", "(IILjava/util/function/BiFunction;)I"⟩
def RL : String := "WildBellsLaw"
abbrev vwCl : List vw_C := [(RX0, TX0, 3), (RX1, TX1, 7), (RX2, TX2, 14), (RX3, TX3, 8), (RX4, TX4, 24)]
end
section
/-! ===== abstract worlds: cells by places; a reference is a place; 'ad' gives each place its address ===== -/
abbrev zM : Type := MethodName × ByteArray × Nat × Option FieldType × Nat
abbrev zC : Type := (Nat × vp_A) ⊕ (Nat × List Value)
abbrev zH : Type := List zC
def z_T : List Cond := lw_tbl.filter goodWord
def z_isN (w : Cond) : Bool := match w with
  | .fieldLinkNest _ _ _ _ _ _ => true
  | .methodLinkNest _ _ _ _ => true
  | _ => false
def z_N : List Cond := lw_tbl.filter z_isN
def z_wd (M : zM) : List Cond := .code M.1 M.2.1 M.2.2.1 M.2.2.2.1 :: z_T
def z_rm (d : Nat) : Room := { frames := d, cells := 0, slots := 0, locals := 31 * d }
def z_g (ad : Nat → Nat) (v : Value) : Value := match v with
  | .ref k => .ref (ad k)
  | v => v
def z_ga (ad : Nat → Nat) (x : vp_A) : vp_A := match x with
  | (n, .inr (.inr (.inr (.inr f)))) => (n, .inr (.inr (.inr (.inr (fun i => (f i).map ad)))))
  | x => x
def z_c (tA : Nat → ClassId) (ad : Nat → Nat) (c : zC) : va_E := match c with
  | .inl (t, x) => .inl (tA t, z_ga ad x)
  | .inr (i, fs) => .inr (i, fs.map (z_g ad))
def z_ws (tA : Nat → ClassId) (ad : Nat → Nat) : Nat → zH → va_W
  | _, [] => []
  | k, c :: r => (ad k, z_c tA ad c) :: z_ws tA ad (k + 1) r
def z_at : zH → Nat → Option zC
  | [], _ => none
  | c :: _, 0 => some c
  | _ :: r, k + 1 => z_at r k
def z_set : zH → Nat → zC → zH
  | [], _, _ => []
  | _ :: r, 0, x => x :: r
  | c :: r, k + 1, x => c :: z_set r k x
theorem z_ws_at (tA : Nat → ClassId) (ad : Nat → Nat) : ∀ (h : zH) (k i : Nat) (c : zC), z_at h i = some c → (z_ws tA ad k h)[i]? = some (ad (k + i), z_c tA ad c) := by
  intro h
  induction h with
  | nil => intro k i c e; cases e
  | cons a r ih =>
    intro k i c e
    cases i with
    | zero => cases e; rfl
    | succ i =>
      have := ih (k + 1) i c e
      show (z_ws tA ad (k + 1) r)[i]? = _
      rw [this, show k + 1 + i = k + (i + 1) by omega]
theorem z_ws_set (tA : Nat → ClassId) (ad : Nat → Nat) : ∀ (h : zH) (k i : Nat) (x : zC), (z_ws tA ad k h).set i (ad (k + i), z_c tA ad x) = z_ws tA ad k (z_set h i x) := by
  intro h
  induction h with
  | nil => intro k i x; rfl
  | cons a r ih =>
    intro k i x
    cases i with
    | zero => rfl
    | succ i =>
      have := ih (k + 1) i x
      show (ad k, z_c tA ad a) :: (z_ws tA ad (k + 1) r).set i (ad (k + (i + 1)), z_c tA ad x) = _
      rw [show k + (i + 1) = k + 1 + i by omega, this]
      rfl
theorem z_set_len : ∀ (h : zH) (i : Nat) (x : zC), (z_set h i x).length = h.length := by
  intro h
  induction h with
  | nil => intro i x; rfl
  | cons a r ih =>
    intro i x
    cases i with
    | zero => rfl
    | succ i => show (z_set r i x).length + 1 = r.length + 1; rw [ih]
theorem z_ws_mem (tA : Nat → ClassId) (ad : Nat → Nat) : ∀ (h : zH) (k i : Nat) (q : Nat × va_E), (z_ws tA ad k h)[i]? = some q → i < h.length ∧ q.1 = ad (k + i) := by
  intro h
  induction h with
  | nil => intro k i q e; simp [z_ws] at e
  | cons a r ih =>
    intro k i q e
    cases i with
    | zero =>
      have e2 : some (ad k, z_c tA ad a) = some q := e
      cases e2
      exact ⟨Nat.succ_pos _, rfl⟩
    | succ i =>
      obtain ⟨h1, h2⟩ := ih (k + 1) i q e
      exact ⟨Nat.succ_lt_succ h1, by rw [h2, show k + 1 + i = k + (i + 1) by omega]⟩
/-- the places' addresses are apart -/
def z_ap (ad : Nat → Nat) (n : Nat) : Prop := ∀ i j, i < n → j < n → ad i = ad j → i = j
/-- what a method may change -/
def z_A (ad : Nat → Nat) (n sz : Nat) : Nat → Prop := fun q => (∃ k, k < n ∧ ad k = q) ∨ sz ≤ q
theorem z_D {ad : Nat → Nat} {n : Nat} (h : z_ap ad n) (tA : Nat → ClassId) (sz : Nat) (r : zH) (hr : r.length = n) : va_D (z_A ad n sz) (z_ws tA ad 0 r) := by
  refine ⟨fun i j p q hp hq e => ?_, fun k q hq => ?_⟩
  · obtain ⟨h1, h2⟩ := z_ws_mem tA ad r 0 i p hp
    obtain ⟨h3, h4⟩ := z_ws_mem tA ad r 0 j q hq
    rw [Nat.zero_add] at h2 h4
    exact h i j (by omega) (by omega) (by rw [← h2, ← h4, e])
  · obtain ⟨h1, h2⟩ := z_ws_mem tA ad r 0 k q hq
    rw [Nat.zero_add] at h2
    exact Or.inl ⟨k, by omega, h2.symm⟩
theorem z_cat (ad : Nat → Nat) (v : Value) : (z_g ad v).category = v.category := by cases v <;> rfl
theorem z_cats (ad : Nat → Nat) (S : List Value) : ((S.map (z_g ad)).map fun v => v.category).sum = (S.map fun v => v.category).sum := by
  induction S with
  | nil => rfl
  | cons v S ih => simp only [List.map_cons, List.sum_cons, ih, z_cat]
/-! locals: a list by their numbers; none: not known -/
def z_L (ad : Nat → Nat) : Nat → List (Option Value) → List (Nat × Value)
  | _, [] => []
  | i, some v :: L => (i, z_g ad v) :: z_L ad (i + 1) L
  | i, none :: L => z_L ad (i + 1) L
def z_nt : List (Option Value) → Nat → Option (Option Value)
  | [], _ => none
  | a :: _, 0 => some a
  | _ :: L, k + 1 => z_nt L k
def z_st : List (Option Value) → Nat → Option Value → List (Option Value)
  | [], _, _ => []
  | _ :: L, 0, x => x :: L
  | a :: L, k + 1, x => a :: z_st L k x
/-- the local ahead of place k is no long -/
def z_no2 : List (Option Value) → Nat → Bool
  | [], _ => true
  | _, 0 => true
  | some v :: _, 1 => v.category == 1
  | none :: _, 1 => true
  | _ :: L, k + 2 => z_no2 L (k + 1)
theorem z_L_in (ad : Nat → Nat) : ∀ (L : List (Option Value)) (k i : Nat) (v : Value), z_nt L i = some (some v) → (k + i, z_g ad v) ∈ z_L ad k L := by
  intro L
  induction L with
  | nil => intro k i v e; cases e
  | cons a L ih =>
    intro k i v e
    cases i with
    | zero =>
      have e2 : some a = some (some v) := e
      cases e2
      exact List.mem_cons_self
    | succ i =>
      have := ih (k + 1) i v e
      rw [show k + 1 + i = k + (i + 1) by omega] at this
      cases a with
      | none => exact this
      | some x => exact List.mem_cons_of_mem _ this
theorem z_L_out (ad : Nat → Nat) : ∀ (L : List (Option Value)) (k : Nat) (q : Nat × Value), q ∈ z_L ad k L → ∃ i v, z_nt L i = some (some v) ∧ q = (k + i, z_g ad v) := by
  intro L
  induction L with
  | nil => intro k q h; cases h
  | cons a L ih =>
    intro k q h
    have go : q ∈ z_L ad (k + 1) L → ∃ i v, z_nt (a :: L) i = some (some v) ∧ q = (k + i, z_g ad v) := by
      intro h
      obtain ⟨i, v, h1, h2⟩ := ih (k + 1) q h
      exact ⟨i + 1, v, h1, by rw [h2, show k + 1 + i = k + (i + 1) by omega]⟩
    cases a with
    | none => exact go h
    | some x =>
      rcases List.mem_cons.mp h with h | h
      · exact ⟨0, x, rfl, h⟩
      · exact go h
theorem z_nt_st : ∀ (L : List (Option Value)) (i j : Nat) (x : Option Value) (v : Value), z_nt (z_st L i x) j = some (some v) → (j = i ∧ x = some v) ∨ (j ≠ i ∧ z_nt L j = some (some v)) := by
  intro L
  induction L with
  | nil => intro i j x v e; cases e
  | cons a L ih =>
    intro i j x v e
    cases i with
    | zero =>
      cases j with
      | zero => have e2 : some x = some (some v) := e; cases e2; exact Or.inl ⟨rfl, rfl⟩
      | succ j => exact Or.inr ⟨by omega, e⟩
    | succ i =>
      cases j with
      | zero => exact Or.inr ⟨by omega, e⟩
      | succ j =>
        rcases ih i j x v e with ⟨h1, h2⟩ | ⟨h1, h2⟩
        · exact Or.inl ⟨by omega, h2⟩
        · exact Or.inr ⟨by omega, h2⟩
theorem z_no2_spec : ∀ (L : List (Option Value)) (j : Nat) (v : Value), z_no2 L (j + 1) = true → z_nt L j = some (some v) → v.category = 1 := by
  intro L
  induction L with
  | nil => intro j v _ e; cases e
  | cons a L ih =>
    intro j v h e
    cases j with
    | zero =>
      have e2 : some a = some (some v) := e
      cases e2
      exact eq_of_beq h
    | succ j => exact ih j v (by cases a <;> exact h) e
/-- storing a value of one slot -/
theorem z_store {ls' : Array Slot} {nL i : Nat} {v : Value} {ad : Nat → Nat} {L : List (Option Value)} (hc : v.category = 1) (hn : z_no2 L i = true)
    (h : lv_has ls' nL ((i, z_g ad v) :: (z_L ad 0 L).filter (fun q => !(q.1 == i) && !(q.1 + 1 == i && q.2.category == 2)))) : lv_has ls' nL (z_L ad 0 (z_st L i (some v))) := by
  refine ⟨h.1, h.2.1, fun q hq => ?_⟩
  obtain ⟨j, u, h1, h2⟩ := z_L_out ad _ 0 q hq
  rw [Nat.zero_add] at h2
  subst h2
  rcases z_nt_st L i j (some v) u h1 with ⟨e1, e2⟩ | ⟨e1, e2⟩
  · cases e2; subst e1
    exact h.2.2 _ List.mem_cons_self
  · refine h.2.2 _ (List.mem_cons_of_mem _ (List.mem_filter.mpr ⟨by have := z_L_in ad L 0 j u e2; rwa [Nat.zero_add] at this, ?_⟩))
    have hb : (j == i) = false := by simp [e1]
    by_cases hj : j + 1 = i
    · subst hj
      have := z_no2_spec L j u hn e2
      simp [z_cat, this]
    · have hb2 : (j + 1 == i) = false := by simp [hj]
      simp [hb, hb2]
/-- storing a value of two slots -/
theorem z_store2 {ls' : Array Slot} {nL i : Nat} {v : Value} {ad : Nat → Nat} {L : List (Option Value)} (hn : z_no2 L i = true)
    (h : lv_has ls' nL ((i, z_g ad v) :: (z_L ad 0 L).filter (fun q => !(q.1 == i) && (!(q.1 == i + 1) && !(q.1 + 1 == i && q.2.category == 2))))) : lv_has ls' nL (z_L ad 0 (z_st (z_st L i (some v)) (i + 1) none)) := by
  refine ⟨h.1, h.2.1, fun q hq => ?_⟩
  obtain ⟨j, u, h1, h2⟩ := z_L_out ad _ 0 q hq
  rw [Nat.zero_add] at h2
  subst h2
  rcases z_nt_st _ (i + 1) j none u h1 with ⟨e1, e3⟩ | ⟨e0, e3⟩
  · cases e3
  · rcases z_nt_st L i j (some v) u e3 with ⟨e1, e2⟩ | ⟨e1, e2⟩
    · cases e2; subst e1
      exact h.2.2 _ List.mem_cons_self
    · refine h.2.2 _ (List.mem_cons_of_mem _ (List.mem_filter.mpr ⟨by have := z_L_in ad L 0 j u e2; rwa [Nat.zero_add] at this, ?_⟩))
      have hb : (j == i) = false := by simp [e1]
      have hb1 : (j == i + 1) = false := by simp [e0]
      by_cases hj : j + 1 = i
      · subst hj
        have := z_no2_spec L j u hn e2
        simp [z_cat, this] <;> omega
      · have hb2 : (j + 1 == i) = false := by simp [hj]
        simp [hb, hb1, hb2]
/-! what nobody writes: the String constants, the table KIND_ABOVE -/
def z_sx : List (String × Nat × String × Nat) := [("WildBells$Tape", 86, "herd", 1), ("WildBells$Tape", 88, "lone", 2), ("WildBells$Tape", 90, "tenor", 3), ("WildBells$Tape", 92, "eldest", 4), ("WildBells$Tape", 94, "tame", 5), ("WildBells$Tape", 96, "young", 6), ("WildBells$Tape", 98, "bell", 0), ("WildBells$Tape", 105, "at", 11), ("WildBells$Tape", 111, "note", 12), ("WildBells$Tape", 113, "weight", 13), ("WildBells$Tape", 58, "net", 7), ("WildBells$Tape", 67, "thick", 8), ("WildBells$Tape", 72, "hunter", 9), ("WildBells$Tape", 77, "fear", 10), ("WildBellsModel", 36, "bell", 0), ("WildBellsModel", 38, "herd", 1), ("WildBellsModel", 40, "lone", 2), ("WildBellsModel", 42, "tenor", 3), ("WildBellsModel", 44, "eldest", 4), ("WildBellsModel", 46, "tame", 5), ("WildBellsModel", 48, "young", 6), ("WildBellsModel", 307, "at", 11), ("WildBellsModel", 314, "note", 12), ("WildBellsModel", 316, "weight", 13), ("WildBellsModel", 322, "net", 7), ("WildBellsModel", 324, "thick", 8), ("WildBellsModel", 326, "hunter", 9), ("WildBellsModel", 328, "fear", 10)]
def z_len : List Nat := [4, 4, 4, 5, 6, 4, 5, 3, 5, 6, 4, 2, 4, 6]
def z_byt : List (List Int32) := [[98, 101, 108, 108], [104, 101, 114, 100], [108, 111, 110, 101], [116, 101, 110, 111, 114], [101, 108, 100, 101, 115, 116], [116, 97, 109, 101], [121, 111, 117, 110, 103], [110, 101, 116], [116, 104, 105, 99, 107], [104, 117, 110, 116, 101, 114], [102, 101, 97, 114], [97, 116], [110, 111, 116, 101], [119, 101, 105, 103, 104, 116]]
def z_ka : List Int32 := [-1, 0, 0, 2, 3, 0, 1]
/-- adK, adV: addresses of the texts and of their bytes; tK: of KIND_ABOVE -/
abbrev zE : Type := (Nat → Nat) × (Nat → Nat) × Nat
def z_EX (E : zE) (A : Nat → Prop) (U : State) (H : Heap) : Prop :=
  vk_S 14 z_len z_byt E.1 E.2.1 A U H ∧ (∀ r ∈ z_sx, vk_R r.1 r.2.1 r.2.2.1 (E.1 r.2.2.2) U) ∧ va_Z "WildBells" "KIND_ABOVE" "[I" (.ref E.2.2) A U H ∧ va_T .int E.2.2 7 (fun j => .int (z_ka.getD j 0)) A U H ∧ va_Z "java/lang/String" "COMPACT_STRINGS" "Z" (.int 1) A U H ∧ va_Zq "jdk/internal/util/Preconditions" "SIOOBE_FORMATTER" "Ljava/util/function/BiFunction;" A U H
theorem z_EX.calling {E : zE} {A : Nat → Prop} {U : State} {g : JFrame} {mk : MethodId} {a : Array Value} (h : z_EX E A U U.heap) : z_EX E A (U.calling g mk a) (U.calling g mk a).heap := by
  obtain ⟨h1, h2, h3, h4, h5, h6⟩ := h
  have hv : U.vm.Alike (U.calling g mk a).vm := Vm.Alike.refl U.vm
  exact ⟨h1.moved hv, fun r hr => (h2 r hr).same rfl, h3.moved hv, h4.moved hv, h5.moved hv, h6.moved hv⟩
theorem z_EX.pass {E : zE} {A B : Nat → Prop} {s U : State} {H : Heap} (h : z_EX E A s s.heap) (hU : U.heap = H) (hW : s.WarmedH U.vm) (hq : ∀ a : Nat, a < s.heap.size → ¬ A a → H[a]? = s.heap[a]?) (hAB : ∀ q, B q → A q) : z_EX E B U U.heap := by
  obtain ⟨h1, h2, h3, h4, h5, h6⟩ := h
  subst hU
  exact ⟨((h1.moved hW.alike).kept hq).narrow hAB, fun r hr => (h2 r hr).warm hW, ((h3.moved hW.alike).kept hq).narrow hAB, ((h4.moved hW.alike).kept hq).narrow hAB, ((h5.moved hW.alike).kept hq).narrow hAB, ((h6.moved hW.alike).kept hq).narrow hAB⟩
/-! links to private members of nest mates -/
def z_nst (U : State) : Prop := ∀ w ∈ z_N, va_Nw w U
theorem z_nst.calling {U : State} {g : JFrame} {mk : MethodId} {a : Array Value} (h : z_nst U) : z_nst (U.calling g mk a) := by
  intro w hw
  have hk : w.onTables = true := by
    have := (List.mem_filter.mp hw).2
    cases w <;> first | rfl | (simp [z_isN] at this)
  exact va_Nw.same (u := U) hk rfl (h w hw)
theorem z_nst.pass {s U : State} (h : z_nst s) (hW : s.WarmedH U.vm) : z_nst U := by
  intro w hw
  have h1 := h w hw
  have := (List.mem_filter.mp hw).2
  cases w <;> first | exact va_Nw.warmF hW h1 | exact va_Nw.warmM hW h1 | (simp [z_isN] at this)
/-- the classes of the arrays -/
def z_tys (tA : Nat → ClassId) : List (ClassId × FieldType) := [(tA 0, .int), (tA 1, .object "WildBells$Sheet"), (tA 2, .object "java/lang/String")]
/-- the world at a method's start -/
def z_Wd (E : zE) (D : va_G) (tA : Nat → ClassId) (ad : Nat → Nat) (h : zH) (sz : Nat) (U : State) : Prop :=
  U.heap.size = sz ∧ va_P D vwCl (z_ws tA ad 0 h) U.heap ∧ va_K D vwCl (z_tys tA) U ∧ z_nst U ∧ z_EX E (z_A ad h.length sz) U U.heap
def z_Q (D : va_G) (tA : Nat → ClassId) (ad : Nat → Nat) (rv : Option Value) (h : zH) (A : Nat → Prop) : Array Value → State → Outcome → State → Prop := fun _ st oc t => (oc = .returned (rv.map (z_g ad)) ∧ va_P D vwCl (z_ws tA ad 0 h) t.heap) ∧ va_F A st t
/-- the places of the texts (1000 ..), of their bytes (3000 ..), of KIND_ABOVE (2000) -/
def z_sa (E : zE) (ad : Nat → Nat) : Prop := (∀ i, i < 14 → ad (1000 + i) = E.1 i ∧ ad (3000 + i) = E.2.1 i) ∧ ad 2000 = E.2.2
/-- A METHOD: with these arguments, over the world h, it answers rv and leaves the world h2 -/
def Mx (M : zM) (as : List Value) (h : zH) (rv : Option Value) (h2 : zH) : Prop :=
  h2.length = h.length ∧ ∀ (l : Launch) (E : zE) (D : va_G) (tA : Nat → ClassId) (ad : Nat → Nat) (sz : Nat), z_ap ad h.length → z_sa E ad →
    Met l M.1 (z_wd M) (z_rm M.2.2.2.2) (va_Pc (as.map (z_g ad)) (z_Wd E D tA ad h sz)) (z_Q D tA ad rv h2 (z_A ad h.length sz)) 0 0 (z_A ad h.length sz)
/-- what a frame has around it -/
def z_Cx (M : zM) (n : Nat) (E : zE) (D : va_G) (tA : Nat → ClassId) (ad : Nat → Nat) (p : Program) (s : State) (m : MethodId) (args : Array Value) (meth : Method) (c : Code) : Prop :=
  p.tables.exec = Jvm.exec ∧ c.code = M.2.1 ∧ meth.sig.returnType = M.2.2.2.1 ∧ c.maxLocals = M.2.2.1 ∧ s.vm.findClass M.1.cls = some m.cls ∧ (∀ w ∈ z_wd M, w.before args s = true) ∧ meth.locks = false ∧ va_K D vwCl (z_tys tA) s ∧ z_nst s ∧ z_EX E (z_A ad n s.heap.size) s s.heap ∧ z_ap ad n ∧ z_sa E ad
/-- A FRAME: at pc with locals L, stack S, over the world h, the method comes to its end with 'out' -/
def Fx (M : zM) (out : Option Value × zH) (pc : Nat) (L : List (Option Value)) (S : List Value) (h : zH) : Prop :=
  h.length = out.2.length ∧ ∀ (E : zE) (D : va_G) (tA : Nat → ClassId) (ad : Nat → Nat) (p : Program) (l : Launch) (e : Env) (s : State) (m : MethodId) (args : Array Value) (below : List Frame) (meth : Method) (c : Code), z_Cx M h.length E D tA ad p s m args meth c →
    ∀ (H : Heap) (locs : List Loc) (ls : Array Slot), lv_has ls M.2.2.1 (z_L ad 0 L) → va_P D vwCl (z_ws tA ad 0 h) H → va_S (z_A ad h.length s.heap.size) s.heap H locs →
      W p l e (z_rm M.2.2.2.2) s m args below meth c H locs 0 0 (MQ below (z_Q D tA ad out.1 out.2 (z_A ad h.length s.heap.size)) args s 0 0 (z_A ad h.length s.heap.size)) (F0 m pc ls (S.map (z_g ad)))
section FX
variable {M : zM} {out : Option Value × zH} {pc : Nat} {L : List (Option Value)} {S : List Value} {h : zH}

theorem fx_iadd {x y : Int32} (hd : decode M.2.1 pc = .ok (.iadd, 1)) (k : Fx M out (pc + 1) L (.int (x + y) :: S) h) : Fx M out pc L (.int y :: .int x :: S) h := ⟨k.1, fun E D tA ad p l e s m args below meth c C H locs ls hl hP hS => lv_iadd C.1 C.2.1 hd (k.2 E D tA ad p l e s m args below meth c C H locs ls hl hP hS)⟩
theorem fx_isub {x y : Int32} (hd : decode M.2.1 pc = .ok (.isub, 1)) (k : Fx M out (pc + 1) L (.int (x - y) :: S) h) : Fx M out pc L (.int y :: .int x :: S) h := ⟨k.1, fun E D tA ad p l e s m args below meth c C H locs ls hl hP hS => lv_isub C.1 C.2.1 hd (k.2 E D tA ad p l e s m args below meth c C H locs ls hl hP hS)⟩
theorem fx_imul {x y : Int32} (hd : decode M.2.1 pc = .ok (.imul, 1)) (k : Fx M out (pc + 1) L (.int (x * y) :: S) h) : Fx M out pc L (.int y :: .int x :: S) h := ⟨k.1, fun E D tA ad p l e s m args below meth c C H locs ls hl hP hS => lv_imul C.1 C.2.1 hd (k.2 E D tA ad p l e s m args below meth c C H locs ls hl hP hS)⟩
theorem fx_iand {x y : Int32} (hd : decode M.2.1 pc = .ok (.iand, 1)) (k : Fx M out (pc + 1) L (.int (x &&& y) :: S) h) : Fx M out pc L (.int y :: .int x :: S) h := ⟨k.1, fun E D tA ad p l e s m args below meth c C H locs ls hl hP hS => lv_iand C.1 C.2.1 hd (k.2 E D tA ad p l e s m args below meth c C H locs ls hl hP hS)⟩
theorem fx_ior {x y : Int32} (hd : decode M.2.1 pc = .ok (.ior, 1)) (k : Fx M out (pc + 1) L (.int (x ||| y) :: S) h) : Fx M out pc L (.int y :: .int x :: S) h := ⟨k.1, fun E D tA ad p l e s m args below meth c C H locs ls hl hP hS => lv_ior C.1 C.2.1 hd (k.2 E D tA ad p l e s m args below meth c C H locs ls hl hP hS)⟩
theorem fx_ixor {x y : Int32} (hd : decode M.2.1 pc = .ok (.ixor, 1)) (k : Fx M out (pc + 1) L (.int (x ^^^ y) :: S) h) : Fx M out pc L (.int y :: .int x :: S) h := ⟨k.1, fun E D tA ad p l e s m args below meth c C H locs ls hl hP hS => lv_ixor C.1 C.2.1 hd (k.2 E D tA ad p l e s m args below meth c C H locs ls hl hP hS)⟩
theorem fx_ishl {x y : Int32} (hd : decode M.2.1 pc = .ok (.ishl, 1)) (k : Fx M out (pc + 1) L (.int (x <<< (y &&& 31)) :: S) h) : Fx M out pc L (.int y :: .int x :: S) h := ⟨k.1, fun E D tA ad p l e s m args below meth c C H locs ls hl hP hS => lv_ishl C.1 C.2.1 hd (k.2 E D tA ad p l e s m args below meth c C H locs ls hl hP hS)⟩
theorem fx_ishr {x y : Int32} (hd : decode M.2.1 pc = .ok (.ishr, 1)) (k : Fx M out (pc + 1) L (.int (x >>> (y &&& 31)) :: S) h) : Fx M out pc L (.int y :: .int x :: S) h := ⟨k.1, fun E D tA ad p l e s m args below meth c C H locs ls hl hP hS => lv_ishr C.1 C.2.1 hd (k.2 E D tA ad p l e s m args below meth c C H locs ls hl hP hS)⟩
theorem fx_iushr {x y : Int32} (hd : decode M.2.1 pc = .ok (.iushr, 1)) (k : Fx M out (pc + 1) L (.int ((x.toUInt32 >>> (y.toUInt32 &&& Int32.toUInt32 31)).toInt32) :: S) h) : Fx M out pc L (.int y :: .int x :: S) h := ⟨k.1, fun E D tA ad p l e s m args below meth c C H locs ls hl hP hS => lv_iushr C.1 C.2.1 hd rfl (k.2 E D tA ad p l e s m args below meth c C H locs ls hl hP hS)⟩
theorem fx_idiv {x y : Int32} (hd : decode M.2.1 pc = .ok (.idiv, 1)) (hne : ¬ y = 0) (k : Fx M out (pc + 1) L (.int (x / y) :: S) h) : Fx M out pc L (.int y :: .int x :: S) h := ⟨k.1, fun E D tA ad p l e s m args below meth c C H locs ls hl hP hS => lv_idiv C.1 C.2.1 hd hne (k.2 E D tA ad p l e s m args below meth c C H locs ls hl hP hS)⟩
theorem fx_irem {x y : Int32} (hd : decode M.2.1 pc = .ok (.irem, 1)) (hne : ¬ y = 0) (k : Fx M out (pc + 1) L (.int (x - x / y * y) :: S) h) : Fx M out pc L (.int y :: .int x :: S) h := ⟨k.1, fun E D tA ad p l e s m args below meth c C H locs ls hl hP hS => lv_irem C.1 C.2.1 hd hne (k.2 E D tA ad p l e s m args below meth c C H locs ls hl hP hS)⟩
theorem fx_ineg {x : Int32} (hd : decode M.2.1 pc = .ok (.ineg, 1)) (k : Fx M out (pc + 1) L (.int (-x) :: S) h) : Fx M out pc L (.int x :: S) h := ⟨k.1, fun E D tA ad p l e s m args below meth c C H locs ls hl hP hS => lv_ineg C.1 C.2.1 hd (k.2 E D tA ad p l e s m args below meth c C H locs ls hl hP hS)⟩
theorem fx_ladd {x y : Int64} (hd : decode M.2.1 pc = .ok (.ladd, 1)) (k : Fx M out (pc + 1) L (.long (x + y) :: S) h) : Fx M out pc L (.long y :: .long x :: S) h := ⟨k.1, fun E D tA ad p l e s m args below meth c C H locs ls hl hP hS => lv_ladd C.1 C.2.1 hd (k.2 E D tA ad p l e s m args below meth c C H locs ls hl hP hS)⟩
theorem fx_lsub {x y : Int64} (hd : decode M.2.1 pc = .ok (.lsub, 1)) (k : Fx M out (pc + 1) L (.long (x - y) :: S) h) : Fx M out pc L (.long y :: .long x :: S) h := ⟨k.1, fun E D tA ad p l e s m args below meth c C H locs ls hl hP hS => lv_lsub C.1 C.2.1 hd (k.2 E D tA ad p l e s m args below meth c C H locs ls hl hP hS)⟩
theorem fx_lmul {x y : Int64} (hd : decode M.2.1 pc = .ok (.lmul, 1)) (k : Fx M out (pc + 1) L (.long (x * y) :: S) h) : Fx M out pc L (.long y :: .long x :: S) h := ⟨k.1, fun E D tA ad p l e s m args below meth c C H locs ls hl hP hS => lv_lmul C.1 C.2.1 hd (k.2 E D tA ad p l e s m args below meth c C H locs ls hl hP hS)⟩
theorem fx_land {x y : Int64} (hd : decode M.2.1 pc = .ok (.land, 1)) (k : Fx M out (pc + 1) L (.long (x &&& y) :: S) h) : Fx M out pc L (.long y :: .long x :: S) h := ⟨k.1, fun E D tA ad p l e s m args below meth c C H locs ls hl hP hS => lv_land C.1 C.2.1 hd (k.2 E D tA ad p l e s m args below meth c C H locs ls hl hP hS)⟩
theorem fx_lor {x y : Int64} (hd : decode M.2.1 pc = .ok (.lor, 1)) (k : Fx M out (pc + 1) L (.long (x ||| y) :: S) h) : Fx M out pc L (.long y :: .long x :: S) h := ⟨k.1, fun E D tA ad p l e s m args below meth c C H locs ls hl hP hS => lv_lor C.1 C.2.1 hd (k.2 E D tA ad p l e s m args below meth c C H locs ls hl hP hS)⟩
theorem fx_lxor {x y : Int64} (hd : decode M.2.1 pc = .ok (.lxor, 1)) (k : Fx M out (pc + 1) L (.long (x ^^^ y) :: S) h) : Fx M out pc L (.long y :: .long x :: S) h := ⟨k.1, fun E D tA ad p l e s m args below meth c C H locs ls hl hP hS => lv_lxor C.1 C.2.1 hd (k.2 E D tA ad p l e s m args below meth c C H locs ls hl hP hS)⟩
theorem fx_lshl {x : Int64} {y : Int32} (hd : decode M.2.1 pc = .ok (.lshl, 1)) (k : Fx M out (pc + 1) L (.long (x <<< (y.toInt64 &&& 63)) :: S) h) : Fx M out pc L (.int y :: .long x :: S) h := ⟨k.1, fun E D tA ad p l e s m args below meth c C H locs ls hl hP hS => lv_lshl C.1 C.2.1 hd rfl (k.2 E D tA ad p l e s m args below meth c C H locs ls hl hP hS)⟩
theorem fx_lushr {x : Int64} {y : Int32} (hd : decode M.2.1 pc = .ok (.lushr, 1)) (k : Fx M out (pc + 1) L (.long ((x.toUInt64 >>> (y.toInt64.toUInt64 &&& Int64.toUInt64 63)).toInt64) :: S) h) : Fx M out pc L (.int y :: .long x :: S) h := ⟨k.1, fun E D tA ad p l e s m args below meth c C H locs ls hl hP hS => lv_lushr C.1 C.2.1 hd rfl (k.2 E D tA ad p l e s m args below meth c C H locs ls hl hP hS)⟩
theorem fx_lcmp {x y : Int64} (hd : decode M.2.1 pc = .ok (.lcmp, 1)) (k : Fx M out (pc + 1) L (.int (lg_cmp x y) :: S) h) : Fx M out pc L (.long y :: .long x :: S) h := ⟨k.1, fun E D tA ad p l e s m args below meth c C H locs ls hl hP hS => W.lcmp C.1 C.2.1 hd (k.2 E D tA ad p l e s m args below meth c C H locs ls hl hP hS)⟩
theorem fx_i2l {x : Int32} (hd : decode M.2.1 pc = .ok (.i2l, 1)) (k : Fx M out (pc + 1) L (.long x.toInt64 :: S) h) : Fx M out pc L (.int x :: S) h := ⟨k.1, fun E D tA ad p l e s m args below meth c C H locs ls hl hP hS => lv_i2l C.1 C.2.1 hd rfl (k.2 E D tA ad p l e s m args below meth c C H locs ls hl hP hS)⟩
theorem fx_l2i {x : Int64} (hd : decode M.2.1 pc = .ok (.l2i, 1)) (k : Fx M out (pc + 1) L (.int x.toInt32 :: S) h) : Fx M out pc L (.long x :: S) h := ⟨k.1, fun E D tA ad p l e s m args below meth c C H locs ls hl hP hS => lv_l2i C.1 C.2.1 hd rfl (k.2 E D tA ad p l e s m args below meth c C H locs ls hl hP hS)⟩
theorem fx_i2b {x : Int32} (hd : decode M.2.1 pc = .ok (.i2b, 1)) (k : Fx M out (pc + 1) L (.int x.toInt8.toInt32 :: S) h) : Fx M out pc L (.int x :: S) h := ⟨k.1, fun E D tA ad p l e s m args below meth c C H locs ls hl hP hS => lv_i2b C.1 C.2.1 hd rfl (k.2 E D tA ad p l e s m args below meth c C H locs ls hl hP hS)⟩
theorem fx_i2s {x : Int32} (hd : decode M.2.1 pc = .ok (.i2s, 1)) (k : Fx M out (pc + 1) L (.int x.toInt16.toInt32 :: S) h) : Fx M out pc L (.int x :: S) h := ⟨k.1, fun E D tA ad p l e s m args below meth c C H locs ls hl hP hS => lv_i2s C.1 C.2.1 hd rfl (k.2 E D tA ad p l e s m args below meth c C H locs ls hl hP hS)⟩
theorem fx_i2c {x : Int32} (hd : decode M.2.1 pc = .ok (.i2c, 1)) (k : Fx M out (pc + 1) L (.int (x.toUInt32 % 65536).toInt32 :: S) h) : Fx M out pc L (.int x :: S) h := ⟨k.1, fun E D tA ad p l e s m args below meth c C H locs ls hl hP hS => lv_i2c C.1 C.2.1 hd rfl (k.2 E D tA ad p l e s m args below meth c C H locs ls hl hP hS)⟩
theorem fx_iconst {n : Int} {v : Int32} (hd : decode M.2.1 pc = .ok (.iconst n, 1)) (hv : Int32.ofInt n = v) (k : Fx M out (pc + 1) L (.int v :: S) h) : Fx M out pc L (S) h := ⟨k.1, fun E D tA ad p l e s m args below meth c C H locs ls hl hP hS => lv_iconst C.1 C.2.1 hd hv (k.2 E D tA ad p l e s m args below meth c C H locs ls hl hP hS)⟩
theorem fx_bipush {n : Int} {v : Int32} (hd : decode M.2.1 pc = .ok (.bipush n, 2)) (hv : (Int8.ofInt n).toInt32 = v) (k : Fx M out (pc + 2) L (.int v :: S) h) : Fx M out pc L (S) h := ⟨k.1, fun E D tA ad p l e s m args below meth c C H locs ls hl hP hS => lv_bipush C.1 C.2.1 hd hv (k.2 E D tA ad p l e s m args below meth c C H locs ls hl hP hS)⟩
theorem fx_sipush {n : Int} {v : Int32} (hd : decode M.2.1 pc = .ok (.sipush n, 3)) (hv : (Int16.ofInt n).toInt32 = v) (k : Fx M out (pc + 3) L (.int v :: S) h) : Fx M out pc L (S) h := ⟨k.1, fun E D tA ad p l e s m args below meth c C H locs ls hl hP hS => lv_sipush C.1 C.2.1 hd hv (k.2 E D tA ad p l e s m args below meth c C H locs ls hl hP hS)⟩
theorem fx_lconst {n : Fin 2} {v : Int64} (hd : decode M.2.1 pc = .ok (.lconst n, 1)) (hv : Int64.ofNat (n : Nat) = v) (k : Fx M out (pc + 1) L (.long v :: S) h) : Fx M out pc L (S) h := ⟨k.1, fun E D tA ad p l e s m args below meth c C H locs ls hl hP hS => lv_lconst C.1 C.2.1 hd hv (k.2 E D tA ad p l e s m args below meth c C H locs ls hl hP hS)⟩
theorem fx_dup {a : Value} (hd : decode M.2.1 pc = .ok (.dup, 1)) (ha : a.category = 1) (k : Fx M out (pc + 1) L (a :: a :: S) h) : Fx M out pc L (a :: S) h := ⟨k.1, fun E D tA ad p l e s m args below meth c C H locs ls hl hP hS => lv_dup C.1 C.2.1 hd ((z_cat ad a).trans ha) (k.2 E D tA ad p l e s m args below meth c C H locs ls hl hP hS)⟩
theorem fx_pop {a : Value} (hd : decode M.2.1 pc = .ok (.pop, 1)) (ha : a.category = 1) (k : Fx M out (pc + 1) L (S) h) : Fx M out pc L (a :: S) h := ⟨k.1, fun E D tA ad p l e s m args below meth c C H locs ls hl hP hS => lv_pop C.1 C.2.1 hd ((z_cat ad a).trans ha) (k.2 E D tA ad p l e s m args below meth c C H locs ls hl hP hS)⟩
theorem fx_dup2 {a b : Value} (hd : decode M.2.1 pc = .ok (.dup2, 1)) (ha : a.category = 1) (hb : b.category = 1) (k : Fx M out (pc + 1) L (a :: b :: a :: b :: S) h) : Fx M out pc L (a :: b :: S) h := ⟨k.1, fun E D tA ad p l e s m args below meth c C H locs ls hl hP hS => lv_dup2_11 C.1 C.2.1 hd ((z_cat ad a).trans ha) ((z_cat ad b).trans hb) (k.2 E D tA ad p l e s m args below meth c C H locs ls hl hP hS)⟩
theorem fx_iload_n {j : Fin 4} {i : Nat} {x : Int32} (hd : decode M.2.1 pc = .ok (.iload_n j, 1)) (hi : (j : Nat) = i) (hL : z_nt L i = some (some (.int x))) (k : Fx M out (pc + 1) L (.int x :: S) h) : Fx M out pc L (S) h := ⟨k.1, fun E D tA ad p l e s m args below meth c C H locs ls hl hP hS => lv_iload_n C.1 C.2.1 hd hi (hl.2.2 (i, .int x) (by have := z_L_in ad L 0 i _ hL; rwa [Nat.zero_add] at this)) (k.2 E D tA ad p l e s m args below meth c C H locs ls hl hP hS)⟩
theorem fx_iload {i : Nat} {x : Int32} (hd : decode M.2.1 pc = .ok (.iload i, 2)) (hL : z_nt L i = some (some (.int x))) (k : Fx M out (pc + 2) L (.int x :: S) h) : Fx M out pc L (S) h := ⟨k.1, fun E D tA ad p l e s m args below meth c C H locs ls hl hP hS => lv_iload C.1 C.2.1 hd (hl.2.2 (i, .int x) (by have := z_L_in ad L 0 i _ hL; rwa [Nat.zero_add] at this)) (k.2 E D tA ad p l e s m args below meth c C H locs ls hl hP hS)⟩
theorem fx_lload_n {j : Fin 4} {i : Nat} {x : Int64} (hd : decode M.2.1 pc = .ok (.lload_n j, 1)) (hi : (j : Nat) = i) (hL : z_nt L i = some (some (.long x))) (k : Fx M out (pc + 1) L (.long x :: S) h) : Fx M out pc L (S) h := ⟨k.1, fun E D tA ad p l e s m args below meth c C H locs ls hl hP hS => lv_lload_n C.1 C.2.1 hd hi (hl.2.2 (i, .long x) (by have := z_L_in ad L 0 i _ hL; rwa [Nat.zero_add] at this)) (k.2 E D tA ad p l e s m args below meth c C H locs ls hl hP hS)⟩
theorem fx_lload {i : Nat} {x : Int64} (hd : decode M.2.1 pc = .ok (.lload i, 2)) (hL : z_nt L i = some (some (.long x))) (k : Fx M out (pc + 2) L (.long x :: S) h) : Fx M out pc L (S) h := ⟨k.1, fun E D tA ad p l e s m args below meth c C H locs ls hl hP hS => lv_lload C.1 C.2.1 hd (hl.2.2 (i, .long x) (by have := z_L_in ad L 0 i _ hL; rwa [Nat.zero_add] at this)) (k.2 E D tA ad p l e s m args below meth c C H locs ls hl hP hS)⟩
theorem fx_aload_n {j : Fin 4} {i : Nat} {x : Nat} (hd : decode M.2.1 pc = .ok (.aload_n j, 1)) (hi : (j : Nat) = i) (hL : z_nt L i = some (some (.ref x))) (k : Fx M out (pc + 1) L (.ref x :: S) h) : Fx M out pc L (S) h := ⟨k.1, fun E D tA ad p l e s m args below meth c C H locs ls hl hP hS => lv_aload_n C.1 C.2.1 hd hi (hl.2.2 (i, .ref (ad x)) (by have := z_L_in ad L 0 i _ hL; rwa [Nat.zero_add] at this)) (k.2 E D tA ad p l e s m args below meth c C H locs ls hl hP hS)⟩
theorem fx_aload {i : Nat} {x : Nat} (hd : decode M.2.1 pc = .ok (.aload i, 2)) (hL : z_nt L i = some (some (.ref x))) (k : Fx M out (pc + 2) L (.ref x :: S) h) : Fx M out pc L (S) h := ⟨k.1, fun E D tA ad p l e s m args below meth c C H locs ls hl hP hS => lv_aload C.1 C.2.1 hd (hl.2.2 (i, .ref (ad x)) (by have := z_L_in ad L 0 i _ hL; rwa [Nat.zero_add] at this)) (k.2 E D tA ad p l e s m args below meth c C H locs ls hl hP hS)⟩
theorem fx_istore_n {j : Fin 4} {i : Nat} {x : Int32} {L' : List (Option Value)} (hd : decode M.2.1 pc = .ok (.istore_n j, 1)) (hi : (j : Nat) = i) (hL : z_st L i (some (.int x)) = L') (hn : z_no2 L i = true) (hm : i < M.2.2.1) (k : Fx M out (pc + 1) L' S h) : Fx M out pc L (.int x :: S) h := ⟨k.1, fun E D tA ad p l e s m args below meth c C H locs ls hl hP hS => lv_istore_n C.1 C.2.1 hd hi hl hm rfl (fun ls hl2 => k.2 E D tA ad p l e s m args below meth c C H locs ls (by rw [← hL]; exact z_store (v := .int x) rfl hn hl2) hP hS)⟩
theorem fx_istore {i : Nat} {x : Int32} {L' : List (Option Value)} (hd : decode M.2.1 pc = .ok (.istore i, 2)) (hL : z_st L i (some (.int x)) = L') (hn : z_no2 L i = true) (hm : i < M.2.2.1) (k : Fx M out (pc + 2) L' S h) : Fx M out pc L (.int x :: S) h := ⟨k.1, fun E D tA ad p l e s m args below meth c C H locs ls hl hP hS => lv_istore C.1 C.2.1 hd hl hm rfl (fun ls hl2 => k.2 E D tA ad p l e s m args below meth c C H locs ls (by rw [← hL]; exact z_store (v := .int x) rfl hn hl2) hP hS)⟩
theorem fx_astore_n {j : Fin 4} {i : Nat} {x : Nat} {L' : List (Option Value)} (hd : decode M.2.1 pc = .ok (.astore_n j, 1)) (hi : (j : Nat) = i) (hL : z_st L i (some (.ref x)) = L') (hn : z_no2 L i = true) (hm : i < M.2.2.1) (k : Fx M out (pc + 1) L' S h) : Fx M out pc L (.ref x :: S) h := ⟨k.1, fun E D tA ad p l e s m args below meth c C H locs ls hl hP hS => lv_astore_n C.1 C.2.1 hd hi hl hm rfl (fun ls hl2 => k.2 E D tA ad p l e s m args below meth c C H locs ls (by rw [← hL]; exact z_store (v := .ref x) rfl hn hl2) hP hS)⟩
theorem fx_astore {i : Nat} {x : Nat} {L' : List (Option Value)} (hd : decode M.2.1 pc = .ok (.astore i, 2)) (hL : z_st L i (some (.ref x)) = L') (hn : z_no2 L i = true) (hm : i < M.2.2.1) (k : Fx M out (pc + 2) L' S h) : Fx M out pc L (.ref x :: S) h := ⟨k.1, fun E D tA ad p l e s m args below meth c C H locs ls hl hP hS => lv_astore C.1 C.2.1 hd hl hm rfl (fun ls hl2 => k.2 E D tA ad p l e s m args below meth c C H locs ls (by rw [← hL]; exact z_store (v := .ref x) rfl hn hl2) hP hS)⟩
theorem fx_lstore_n {j : Fin 4} {i : Nat} {x : Int64} {L' : List (Option Value)} (hd : decode M.2.1 pc = .ok (.lstore_n j, 1)) (hi : (j : Nat) = i) (hL : z_st (z_st L i (some (.long x))) (i + 1) none = L') (hn : z_no2 L i = true) (hm : i + 1 < M.2.2.1) (k : Fx M out (pc + 1) L' S h) : Fx M out pc L (.long x :: S) h := ⟨k.1, fun E D tA ad p l e s m args below meth c C H locs ls hl hP hS => lv_lstore_n C.1 C.2.1 hd hi hl hm rfl (fun ls hl2 => k.2 E D tA ad p l e s m args below meth c C H locs ls (by rw [← hL]; exact z_store2 (v := .long x) hn hl2) hP hS)⟩
theorem fx_lstore {i : Nat} {x : Int64} {L' : List (Option Value)} (hd : decode M.2.1 pc = .ok (.lstore i, 2)) (hL : z_st (z_st L i (some (.long x))) (i + 1) none = L') (hn : z_no2 L i = true) (hm : i + 1 < M.2.2.1) (k : Fx M out (pc + 2) L' S h) : Fx M out pc L (.long x :: S) h := ⟨k.1, fun E D tA ad p l e s m args below meth c C H locs ls hl hP hS => lv_lstore C.1 C.2.1 hd hl hm rfl (fun ls hl2 => k.2 E D tA ad p l e s m args below meth c C H locs ls (by rw [← hL]; exact z_store2 (v := .long x) hn hl2) hP hS)⟩
theorem z_L_get (ad : Nat → Nat) {L : List (Option Value)} {i : Nat} {v : Value} (hL : z_nt L i = some (some v)) : ∃ q : Nat, (z_L ad 0 L)[q]? = some (i, z_g ad v) := by
  have := z_L_in ad L 0 i v hL
  rw [Nat.zero_add] at this
  exact List.getElem?_of_mem this
theorem fx_iinc {i : Nat} {n : Int} {x v : Int32} {L' : List (Option Value)} (hd : decode M.2.1 pc = .ok (.iinc i n, 3)) (hL : z_nt L i = some (some (.int x))) (hv : x + Int32.ofInt n = v) (hL2 : z_st L i (some (.int v)) = L') (hn : z_no2 L i = true) (hm : i < M.2.2.1) (k : Fx M out (pc + 3) L' S h) : Fx M out pc L S h := ⟨k.1, fun E D tA ad p l e s m args below meth c C H locs ls hl hP hS => by
  obtain ⟨q, hq⟩ := z_L_get ad hL
  exact lv_iinc C.1 C.2.1 hd hl hq hv hm rfl (fun ls hl2 => k.2 E D tA ad p l e s m args below meth c C H locs ls (by rw [← hL2]; exact z_store (v := .int v) rfl hn hl2) hP hS)⟩
theorem fx_if_eq {x : Int32} {off : Int} {tgt : Nat} (hd : decode M.2.1 pc = .ok (.ifCond .eq off, 3)) (ht : (pc : Int) + off = (tgt : Int)) (hn : h.length = out.2.length) (kt : x = 0 → Fx M out tgt L S h) (kf : ¬ (x = 0) → Fx M out (pc + 3) L S h) : Fx M out pc L (.int x :: S) h := ⟨hn, fun E D tA ad p l e s m args below meth c C H locs ls hl hP hS => lv_if_eq C.1 C.2.1 hd ht (fun q => (kt q).2 E D tA ad p l e s m args below meth c C H locs ls hl hP hS) (fun q => (kf q).2 E D tA ad p l e s m args below meth c C H locs ls hl hP hS)⟩
theorem fx_icmp_eq {x y : Int32} {off : Int} {tgt : Nat} (hd : decode M.2.1 pc = .ok (.if_icmp .eq off, 3)) (ht : (pc : Int) + off = (tgt : Int)) (hn : h.length = out.2.length) (kt : x = y → Fx M out tgt L S h) (kf : ¬ (x = y) → Fx M out (pc + 3) L S h) : Fx M out pc L (.int y :: .int x :: S) h := ⟨hn, fun E D tA ad p l e s m args below meth c C H locs ls hl hP hS => lv_icmp_eq C.1 C.2.1 hd ht (fun q => (kt q).2 E D tA ad p l e s m args below meth c C H locs ls hl hP hS) (fun q => (kf q).2 E D tA ad p l e s m args below meth c C H locs ls hl hP hS)⟩
theorem fx_if_ne {x : Int32} {off : Int} {tgt : Nat} (hd : decode M.2.1 pc = .ok (.ifCond .ne off, 3)) (ht : (pc : Int) + off = (tgt : Int)) (hn : h.length = out.2.length) (kt : ¬ x = 0 → Fx M out tgt L S h) (kf : x = 0 → Fx M out (pc + 3) L S h) : Fx M out pc L (.int x :: S) h := ⟨hn, fun E D tA ad p l e s m args below meth c C H locs ls hl hP hS => lv_if_ne C.1 C.2.1 hd ht (fun q => (kt q).2 E D tA ad p l e s m args below meth c C H locs ls hl hP hS) (fun q => (kf q).2 E D tA ad p l e s m args below meth c C H locs ls hl hP hS)⟩
theorem fx_icmp_ne {x y : Int32} {off : Int} {tgt : Nat} (hd : decode M.2.1 pc = .ok (.if_icmp .ne off, 3)) (ht : (pc : Int) + off = (tgt : Int)) (hn : h.length = out.2.length) (kt : ¬ x = y → Fx M out tgt L S h) (kf : x = y → Fx M out (pc + 3) L S h) : Fx M out pc L (.int y :: .int x :: S) h := ⟨hn, fun E D tA ad p l e s m args below meth c C H locs ls hl hP hS => lv_icmp_ne C.1 C.2.1 hd ht (fun q => (kt q).2 E D tA ad p l e s m args below meth c C H locs ls hl hP hS) (fun q => (kf q).2 E D tA ad p l e s m args below meth c C H locs ls hl hP hS)⟩
theorem fx_if_lt {x : Int32} {off : Int} {tgt : Nat} (hd : decode M.2.1 pc = .ok (.ifCond .lt off, 3)) (ht : (pc : Int) + off = (tgt : Int)) (hn : h.length = out.2.length) (kt : x < 0 → Fx M out tgt L S h) (kf : ¬ (x < 0) → Fx M out (pc + 3) L S h) : Fx M out pc L (.int x :: S) h := ⟨hn, fun E D tA ad p l e s m args below meth c C H locs ls hl hP hS => lv_if_lt C.1 C.2.1 hd ht (fun q => (kt q).2 E D tA ad p l e s m args below meth c C H locs ls hl hP hS) (fun q => (kf q).2 E D tA ad p l e s m args below meth c C H locs ls hl hP hS)⟩
theorem fx_icmp_lt {x y : Int32} {off : Int} {tgt : Nat} (hd : decode M.2.1 pc = .ok (.if_icmp .lt off, 3)) (ht : (pc : Int) + off = (tgt : Int)) (hn : h.length = out.2.length) (kt : x < y → Fx M out tgt L S h) (kf : ¬ (x < y) → Fx M out (pc + 3) L S h) : Fx M out pc L (.int y :: .int x :: S) h := ⟨hn, fun E D tA ad p l e s m args below meth c C H locs ls hl hP hS => lv_icmp_lt C.1 C.2.1 hd ht (fun q => (kt q).2 E D tA ad p l e s m args below meth c C H locs ls hl hP hS) (fun q => (kf q).2 E D tA ad p l e s m args below meth c C H locs ls hl hP hS)⟩
theorem fx_if_ge {x : Int32} {off : Int} {tgt : Nat} (hd : decode M.2.1 pc = .ok (.ifCond .ge off, 3)) (ht : (pc : Int) + off = (tgt : Int)) (hn : h.length = out.2.length) (kt : 0 ≤ x → Fx M out tgt L S h) (kf : ¬ (0 ≤ x) → Fx M out (pc + 3) L S h) : Fx M out pc L (.int x :: S) h := ⟨hn, fun E D tA ad p l e s m args below meth c C H locs ls hl hP hS => lv_if_ge C.1 C.2.1 hd ht (fun q => (kt q).2 E D tA ad p l e s m args below meth c C H locs ls hl hP hS) (fun q => (kf q).2 E D tA ad p l e s m args below meth c C H locs ls hl hP hS)⟩
theorem fx_icmp_ge {x y : Int32} {off : Int} {tgt : Nat} (hd : decode M.2.1 pc = .ok (.if_icmp .ge off, 3)) (ht : (pc : Int) + off = (tgt : Int)) (hn : h.length = out.2.length) (kt : y ≤ x → Fx M out tgt L S h) (kf : ¬ (y ≤ x) → Fx M out (pc + 3) L S h) : Fx M out pc L (.int y :: .int x :: S) h := ⟨hn, fun E D tA ad p l e s m args below meth c C H locs ls hl hP hS => lv_icmp_ge C.1 C.2.1 hd ht (fun q => (kt q).2 E D tA ad p l e s m args below meth c C H locs ls hl hP hS) (fun q => (kf q).2 E D tA ad p l e s m args below meth c C H locs ls hl hP hS)⟩
theorem fx_if_gt {x : Int32} {off : Int} {tgt : Nat} (hd : decode M.2.1 pc = .ok (.ifCond .gt off, 3)) (ht : (pc : Int) + off = (tgt : Int)) (hn : h.length = out.2.length) (kt : 0 < x → Fx M out tgt L S h) (kf : ¬ (0 < x) → Fx M out (pc + 3) L S h) : Fx M out pc L (.int x :: S) h := ⟨hn, fun E D tA ad p l e s m args below meth c C H locs ls hl hP hS => lv_if_gt C.1 C.2.1 hd ht (fun q => (kt q).2 E D tA ad p l e s m args below meth c C H locs ls hl hP hS) (fun q => (kf q).2 E D tA ad p l e s m args below meth c C H locs ls hl hP hS)⟩
theorem fx_icmp_gt {x y : Int32} {off : Int} {tgt : Nat} (hd : decode M.2.1 pc = .ok (.if_icmp .gt off, 3)) (ht : (pc : Int) + off = (tgt : Int)) (hn : h.length = out.2.length) (kt : y < x → Fx M out tgt L S h) (kf : ¬ (y < x) → Fx M out (pc + 3) L S h) : Fx M out pc L (.int y :: .int x :: S) h := ⟨hn, fun E D tA ad p l e s m args below meth c C H locs ls hl hP hS => lv_icmp_gt C.1 C.2.1 hd ht (fun q => (kt q).2 E D tA ad p l e s m args below meth c C H locs ls hl hP hS) (fun q => (kf q).2 E D tA ad p l e s m args below meth c C H locs ls hl hP hS)⟩
theorem fx_if_le {x : Int32} {off : Int} {tgt : Nat} (hd : decode M.2.1 pc = .ok (.ifCond .le off, 3)) (ht : (pc : Int) + off = (tgt : Int)) (hn : h.length = out.2.length) (kt : x ≤ 0 → Fx M out tgt L S h) (kf : ¬ (x ≤ 0) → Fx M out (pc + 3) L S h) : Fx M out pc L (.int x :: S) h := ⟨hn, fun E D tA ad p l e s m args below meth c C H locs ls hl hP hS => lv_if_le C.1 C.2.1 hd ht (fun q => (kt q).2 E D tA ad p l e s m args below meth c C H locs ls hl hP hS) (fun q => (kf q).2 E D tA ad p l e s m args below meth c C H locs ls hl hP hS)⟩
theorem fx_icmp_le {x y : Int32} {off : Int} {tgt : Nat} (hd : decode M.2.1 pc = .ok (.if_icmp .le off, 3)) (ht : (pc : Int) + off = (tgt : Int)) (hn : h.length = out.2.length) (kt : x ≤ y → Fx M out tgt L S h) (kf : ¬ (x ≤ y) → Fx M out (pc + 3) L S h) : Fx M out pc L (.int y :: .int x :: S) h := ⟨hn, fun E D tA ad p l e s m args below meth c C H locs ls hl hP hS => lv_icmp_le C.1 C.2.1 hd ht (fun q => (kt q).2 E D tA ad p l e s m args below meth c C H locs ls hl hP hS) (fun q => (kf q).2 E D tA ad p l e s m args below meth c C H locs ls hl hP hS)⟩
theorem fx_goto {off : Int} {tgt : Nat} (hd : decode M.2.1 pc = .ok (.goto off, 3)) (ht : (pc : Int) + off = (tgt : Int)) (k : Fx M out tgt L S h) : Fx M out pc L S h := ⟨k.1, fun E D tA ad p l e s m args below meth c C H locs ls hl hP hS => lv_goto C.1 C.2.1 hd ht (k.2 E D tA ad p l e s m args below meth c C H locs ls hl hP hS)⟩
theorem fx_tableIn {dflt lo hi : Int} {offs : Array Int} {len : Nat} {x : Int32} {off : Int} {tgt : Nat} (hd : decode M.2.1 pc = .ok (.tableswitch dflt lo hi offs, len)) (h1 : ¬ x.toInt < lo) (h2 : ¬ hi < x.toInt) (ho : offs[(x.toInt - lo).toNat]? = some off) (ht : (pc : Int) + off = (tgt : Int)) (k : Fx M out tgt L S h) : Fx M out pc L (.int x :: S) h := ⟨k.1, fun E D tA ad p l e s m args below meth c C H locs ls hl hP hS => lv_tableIn C.1 C.2.1 hd h1 h2 ho ht (k.2 E D tA ad p l e s m args below meth c C H locs ls hl hP hS)⟩
theorem fx_tableOut {dflt lo hi : Int} {offs : Array Int} {len : Nat} {x : Int32} {tgt : Nat} (hd : decode M.2.1 pc = .ok (.tableswitch dflt lo hi offs, len)) (hq : x.toInt < lo ∨ hi < x.toInt) (ht : (pc : Int) + dflt = (tgt : Int)) (k : Fx M out tgt L S h) : Fx M out pc L (.int x :: S) h := ⟨k.1, fun E D tA ad p l e s m args below meth c C H locs ls hl hP hS => lv_tableOut C.1 C.2.1 hd hq ht (k.2 E D tA ad p l e s m args below meth c C H locs ls hl hP hS)⟩
theorem fx_lookup {dflt : Int} {ps : Array (Int × Int)} {len : Nat} {x : Int32} {off : Int} {tgt : Nat} (hd : decode M.2.1 pc = .ok (.lookupswitch dflt ps, len)) (hp : (ps.toList.zip (ps.toList.drop 1)).all (fun (a, next) => a.1 < next.1) = true) (ho : Op.lookupswitch.offset ps.toList dflt x.toInt = off) (ht : (pc : Int) + off = (tgt : Int)) (k : Fx M out tgt L S h) : Fx M out pc L (.int x :: S) h := ⟨k.1, fun E D tA ad p l e s m args below meth c C H locs ls hl hP hS => lv_lookup C.1 C.2.1 hd hp ho ht (k.2 E D tA ad p l e s m args below meth c C H locs ls hl hP hS)⟩
end FX
/-! ===== links, and rows over the heap ===== -/
theorem z_in {w : Cond} (h : w ∈ lw_tbl) (g : goodWord w = true) : w ∈ z_T := List.mem_filter.mpr ⟨h, g⟩
theorem z_inN {w : Cond} (h : w ∈ lw_tbl) (g : z_isN w = true) : w ∈ z_N := List.mem_filter.mpr ⟨h, g⟩
theorem z_Tw {M : zM} {w : Cond} (h : w ∈ z_T) : w ∈ z_wd M := List.mem_cons_of_mem _ h
/-- a class of ours: its fields in order, their types -/
def z_Kl (ci : Nat) (C : String) (T : u_T) (N : Nat) (ty : Nat → FieldType) : Prop :=
  vwCl[ci]? = some (C, T, N) ∧ (∀ w ∈ u_ws C T N, w ∈ z_T) ∧ (∀ k, k < N → parseFieldDescriptor (T k).2.2.1 = some (ty k)) ∧ (∀ a, a < N → ∀ b, b < N → a ≠ b → (T a).2.1 ≠ (T b).2.1)
/-- entry idx of a class's pool is field j of class ci, of this type -/
def z_Lk (own : String) (idx ci j : Nat) (ft : FieldType) (fin : Bool) : Prop := ∃ C T N ty, z_Kl ci C T N ty ∧ j < N ∧ ty j = ft ∧ (T j).2.2.2 = fin ∧
  (Cond.fieldLink own idx (T j).1 (T j).2.1 (T j).2.2.1 ∈ z_T ∨ ∃ host, Cond.fieldLinkNest own idx (T j).1 (T j).2.1 (T j).2.2.1 host ∈ z_N)
theorem z_ws0 {tA : Nat → ClassId} {ad : Nat → Nat} {h : zH} {q : Nat} {c : zC} (h0 : z_at h q = some c) : (z_ws tA ad 0 h)[q]? = some (ad q, z_c tA ad c) := by
  have := z_ws_at tA ad h 0 q c h0
  rwa [Nat.zero_add] at this
theorem z_ws0s {tA : Nat → ClassId} {ad : Nat → Nat} {h h' : zH} {q : Nat} {c : zC} (hs : z_set h q c = h') : (z_ws tA ad 0 h).set q (ad q, z_c tA ad c) = z_ws tA ad 0 h' := by
  have := z_ws_set tA ad h 0 q c
  rw [Nat.zero_add] at this
  rw [this, hs]
section FH
variable {M : zM} {out : Option Value × zH} {pc : Nat} {L : List (Option Value)} {S : List Value} {h : zH}
theorem fx_get {idx ci j q : Nat} {fs : List Value} {v : Value} {ft : FieldType} {fin : Bool} (hd : decode M.2.1 pc = .ok (.getfield idx, 3)) (hk : z_Lk M.1.cls idx ci j ft fin) (h0 : z_at h q = some (.inr (ci, fs))) (hv : fs[j]? = some v)
    (k : Fx M out (pc + 3) L (v :: S) h) : Fx M out pc L (.ref q :: S) h := by
  refine ⟨k.1, fun E D tA ad p l e s m args below meth c C H locs ls hl hP hS => ?_⟩
  obtain ⟨c1, c2, c3, c4, c5, c6, c7, c8, c9, c10, c11, c12⟩ := id C
  obtain ⟨CC, T, N, ty, ⟨e1, e2, e3, e4⟩, hj, -, -, hlk⟩ := hk
  have he := z_ws0 (tA := tA) (ad := ad) h0
  have hv' : (fs.map (z_g ad))[j]? = some (z_g ad v) := by rw [List.getElem?_map, hv]; rfl
  rcases hlk with hlk | ⟨host, hlk⟩
  · exact va_get (T := T) (ref := (T j).1) c1 c2 c6 (fun w hw => z_Tw (e2 w hw)) c5 c8 hP q he e1 j hj (c6 _ (z_Tw hlk)) (fun _ h9 => h9) hv' hd (k.2 E D tA ad p l e s m args below meth c C H locs ls hl hP hS)
  · exact va_getN (T := T) (ref := (T j).1) (host := host) c1 c2 c6 (fun w hw => z_Tw (e2 w hw)) c5 c8 hP q he e1 j hj (va_Nw.use rfl (c9 _ hlk)) (fun _ h9 => h9) hv' hd (k.2 E D tA ad p l e s m args below meth c C H locs ls hl hP hS)
theorem fx_put {idx ci j q : Nat} {fs : List Value} {v : Value} {ft : FieldType} {h' : zH} (hd : decode M.2.1 pc = .ok (.putfield idx, 3)) (hk : z_Lk M.1.cls idx ci j ft false) (h0 : z_at h q = some (.inr (ci, fs))) (hjl : j < fs.length) (hg : ∀ ad, z_g ad v = v) (hnw : narrow ft v = v) (hft : fits ft v = true)
    (hs : z_set h q (.inr (ci, fs.set j v)) = h') (k : Fx M out (pc + 3) L S h') : Fx M out pc L (v :: .ref q :: S) h := by
  have hlen : h'.length = h.length := by rw [← hs, z_set_len]
  refine ⟨by rw [← hlen]; exact k.1, fun E D tA ad p l e s m args below meth c C H locs ls hl hP hS => ?_⟩
  obtain ⟨c1, c2, c3, c4, c5, c6, c7, c8, c9, c10, c11, c12⟩ := id C
  obtain ⟨CC, T, N, ty, ⟨e1, e2, e3, e4⟩, hj, hty, hfin, hlk⟩ := hk
  have he := z_ws0 (tA := tA) (ad := ad) h0
  have hD := z_D c11 tA s.heap.size h rfl
  have hmap : (fs.map (z_g ad)).set j v = (fs.set j v).map (z_g ad) := by rw [List.map_set, hg ad]
  have hws : (z_ws tA ad 0 h).set q (ad q, .inr (ci, (fs.map (z_g ad)).set j v)) = z_ws tA ad 0 h' := by rw [hmap]; exact z_ws0s hs
  have kk : ∀ (H1 : Heap) (locs1 : List Loc), va_P D vwCl ((z_ws tA ad 0 h).set q (ad q, .inr (ci, (fs.map (z_g ad)).set j v))) H1 → va_D (z_A ad h.length s.heap.size) ((z_ws tA ad 0 h).set q (ad q, .inr (ci, (fs.map (z_g ad)).set j v))) → va_S (z_A ad h.length s.heap.size) s.heap H1 locs1 → W p l e (z_rm M.2.2.2.2) s m args below meth c H1 locs1 0 0 (MQ below (z_Q D tA ad out.1 out.2 (z_A ad h.length s.heap.size)) args s 0 0 (z_A ad h.length s.heap.size)) (F0 m (pc + 3) ls (S.map (z_g ad))) := by
    intro H1 locs1 hP1 hD1 hS1
    rw [hws] at hP1
    have := k.2 E D tA ad p l e s m args below meth c (by rw [hlen]; exact C) H1 locs1 ls hl hP1 (by rw [hlen]; exact hS1)
    rw [hlen] at this
    exact this
  show W p l e (z_rm M.2.2.2.2) s m args below meth c H locs 0 0 _ (F0 m pc ls (z_g ad v :: .ref (ad q) :: S.map (z_g ad)))
  rw [hg ad]
  rcases hlk with hlk | ⟨host, hlk⟩
  · exact va_put (T := T) (ref := (T j).1) (ty := ft) c1 c2 c6 (fun w hw => z_Tw (e2 w hw)) ty e3 e4 c5 c8 hP hD hS q he e1 j hj (c6 _ (z_Tw hlk)) (fun _ h9 => h9) hfin (by rw [e3 j hj, hty]) hnw hft (by rw [List.length_map]; exact hjl) hd kk
  · exact va_putN (T := T) (ref := (T j).1) (host := host) (ty := ft) c1 c2 c6 (fun w hw => z_Tw (e2 w hw)) ty e3 e4 c5 c8 hP hD hS q he e1 j hj (va_Nw.use rfl (c9 _ hlk)) (fun _ h9 => h9) hfin (by rw [e3 j hj, hty]) hnw hft (by rw [List.length_map]; exact hjl) hd kk
theorem fx_iald {q n : Nat} {f : Nat → Int32} {i : Int32} (hd : decode M.2.1 pc = .ok (.iaload, 1)) (h0 : z_at h q = some (.inl (0, n, .inl f))) (hi : vp_in i n) (k : Fx M out (pc + 1) L (.int (f i.toNatClampNeg) :: S) h) : Fx M out pc L (.int i :: .ref q :: S) h := by
  refine ⟨k.1, fun E D tA ad p l e s m args below meth c C H locs ls hl hP hS => ?_⟩
  obtain ⟨c1, c2, c3, c4, c5, c6, c7, c8, c9, c10, c11, c12⟩ := id C
  exact va_iald c1 c2 c8 hP q 0 (z_ws0 h0) rfl hi hd (k.2 E D tA ad p l e s m args below meth c C H locs ls hl hP hS)
theorem fx_iast {q n : Nat} {f : Nat → Int32} {i x : Int32} {h' : zH} (hd : decode M.2.1 pc = .ok (.iastore, 1)) (h0 : z_at h q = some (.inl (0, n, .inl f))) (hi : vp_in i n) (hs : z_set h q (.inl (0, n, .inl (upd f i.toNatClampNeg x))) = h') (k : Fx M out (pc + 1) L S h') : Fx M out pc L (.int x :: .int i :: .ref q :: S) h := by
  have hlen : h'.length = h.length := by rw [← hs, z_set_len]
  refine ⟨by rw [← hlen]; exact k.1, fun E D tA ad p l e s m args below meth c C H locs ls hl hP hS => ?_⟩
  obtain ⟨c1, c2, c3, c4, c5, c6, c7, c8, c9, c10, c11, c12⟩ := id C
  have hD := z_D c11 tA s.heap.size h rfl
  have hws : (z_ws tA ad 0 h).set q (ad q, .inl (tA 0, n, .inl (upd f i.toNatClampNeg x))) = z_ws tA ad 0 h' := z_ws0s hs
  refine va_iast c1 c2 c8 hP hD hS q 0 (z_ws0 h0) rfl hi hd (fun H1 locs1 hP1 hD1 hS1 => ?_)
  rw [hws] at hP1
  have := k.2 E D tA ad p l e s m args below meth c (by rw [hlen]; exact C) H1 locs1 ls hl hP1 (by rw [hlen]; exact hS1)
  rw [hlen] at this
  exact this
theorem fx_alen {q t : Nat} {x : vp_A} {v : Int32} (hd : decode M.2.1 pc = .ok (.arraylength, 1)) (h0 : z_at h q = some (.inl (t, x))) (ht : t < 3) (hv : Int32.ofNat x.1 = v) (k : Fx M out (pc + 1) L (.int v :: S) h) : Fx M out pc L (.ref q :: S) h := by
  refine ⟨k.1, fun E D tA ad p l e s m args below meth c C H locs ls hl hP hS => ?_⟩
  obtain ⟨c1, c2, c3, c4, c5, c6, c7, c8, c9, c10, c11, c12⟩ := id C
  have hn : (z_ga ad x).1 = x.1 := by
    obtain ⟨n, a | a | a | a | a⟩ := x <;> rfl
  obtain ⟨ty, hty⟩ : ∃ ty, (z_tys tA)[t]? = some (tA t, ty) := by
    match t, ht with
    | 0, _ => exact ⟨_, rfl⟩
    | 1, _ => exact ⟨_, rfl⟩
    | 2, _ => exact ⟨_, rfl⟩
  exact va_alen c1 c2 c8 hP q t (z_ws0 h0) hty (by rw [hn]; exact hv) hd (k.2 E D tA ad p l e s m args below meth c C H locs ls hl hP hS)
theorem fx_aald {q t n b : Nat} {f : Nat → Option Nat} {i : Int32} (hd : decode M.2.1 pc = .ok (.aaload, 1)) (h0 : z_at h q = some (.inl (t, n, .inr (.inr (.inr (.inr f)))))) (ht : t = 1 ∨ t = 2) (hi : vp_in i n) (hb : f i.toNatClampNeg = some b) (k : Fx M out (pc + 1) L (.ref b :: S) h) : Fx M out pc L (.int i :: .ref q :: S) h := by
  refine ⟨k.1, fun E D tA ad p l e s m args below meth c C H locs ls hl hP hS => ?_⟩
  obtain ⟨c1, c2, c3, c4, c5, c6, c7, c8, c9, c10, c11, c12⟩ := id C
  obtain ⟨CC, hty⟩ : ∃ CC, (z_tys tA)[t]? = some (tA t, .object CC) := by
    rcases ht with rfl | rfl
    · exact ⟨_, rfl⟩
    · exact ⟨_, rfl⟩
  have := va_aldq (i := i) (p := p) (l := l) (e := e) (R := z_rm M.2.2.2.2) (s := s) (m := m) (args := args) (below := below) (meth := meth) (c := c) (H := H) (locs := locs) (cells := 0) (slots := 0) (pc := pc) (ls := ls) (rest := S.map (z_g ad)) (Q := MQ below (z_Q D tA ad out.1 out.2 (z_A ad h.length s.heap.size)) args s 0 0 (z_A ad h.length s.heap.size)) c1 c2 c8 hP q t (z_ws0 h0) hty hi hd
  refine this ?_
  show W p l e _ s m args below meth c H locs 0 0 _ (F0 m (pc + 1) ls (va_rf ((f i.toNatClampNeg).map ad) :: S.map (z_g ad)))
  rw [hb]
  exact k.2 E D tA ad p l e s m args below meth c C H locs ls hl hP hS
theorem fx_ldc {idx : Nat} {v : Int32} (hd : decode M.2.1 pc = .ok (.ldc idx, 2)) (hk : Cond.constant M.1.cls idx v ∈ z_T) (k : Fx M out (pc + 2) L (.int v :: S) h) : Fx M out pc L S h :=
  ⟨k.1, fun E D tA ad p l e s m args below meth c C H locs ls hl hP hS => lv_ldc C.1 C.2.1 C.2.2.2.2.1 (C.2.2.2.2.2.1 _ (z_Tw hk)) hd (k.2 E D tA ad p l e s m args below meth c C H locs ls hl hP hS)⟩
theorem fx_ldcw {idx : Nat} {v : Int32} (hd : decode M.2.1 pc = .ok (.ldc_w idx, 3)) (hk : Cond.constant M.1.cls idx v ∈ z_T) (k : Fx M out (pc + 3) L (.int v :: S) h) : Fx M out pc L S h :=
  ⟨k.1, fun E D tA ad p l e s m args below meth c C H locs ls hl hP hS => lv_ldcw C.1 C.2.1 C.2.2.2.2.1 (C.2.2.2.2.2.1 _ (z_Tw hk)) hd (k.2 E D tA ad p l e s m args below meth c C H locs ls hl hP hS)⟩
theorem fx_ldc2 {idx : Nat} {v : Int64} (hd : decode M.2.1 pc = .ok (.ldc2_w idx, 3)) (hk : Cond.constantLong M.1.cls idx v ∈ z_T) (k : Fx M out (pc + 3) L (.long v :: S) h) : Fx M out pc L S h :=
  ⟨k.1, fun E D tA ad p l e s m args below meth c C H locs ls hl hP hS => lv_ldc2 C.1 C.2.1 C.2.2.2.2.1 (C.2.2.2.2.2.1 _ (z_Tw hk)) hd (k.2 E D tA ad p l e s m args below meth c C H locs ls hl hP hS)⟩
theorem fx_copy {idx q0 q1 n0 n1 : Nat} {f g : Nat → Int32} {sp dp n : Int32} {h' : zH} (hd : decode M.2.1 pc = .ok (.invokestatic idx, 3)) (hk : Cond.methodLink M.1.cls idx arraycopyName ∈ z_T) (hk2 : Cond.native arraycopyName ∈ z_T ∧ Cond.static arraycopyName ∈ z_T ∧ Cond.initialized "java/lang/System" ∈ z_T) (hdep : 1 ≤ M.2.2.2.2)
    (h0 : z_at h q0 = some (.inl (0, n0, .inl f))) (h1 : z_at h q1 = some (.inl (0, n1, .inl g))) (g1 : ¬ sp < 0) (g2 : ¬ dp < 0) (g3 : ¬ n < 0) (g4 : sp.toNatClampNeg + n.toNatClampNeg ≤ n0) (g5 : dp.toNatClampNeg + n.toNatClampNeg ≤ n1) (hr : (S.map fun v => v.category).sum ≤ 8)
    (hs : z_set h q1 (.inl (0, n1, .inl (va_cpy f g sp.toNatClampNeg dp.toNatClampNeg n.toNatClampNeg))) = h') (k : Fx M out (pc + 3) L S h') : Fx M out pc L (.int n :: .int dp :: .ref q1 :: .int sp :: .ref q0 :: S) h := by
  have hlen : h'.length = h.length := by rw [← hs, z_set_len]
  refine ⟨by rw [← hlen]; exact k.1, fun E D tA ad p l e s m args below meth c C H locs ls hl hP hS => ?_⟩
  obtain ⟨c1, c2, c3, c4, c5, c6, c7, c8, c9, c10, c11, c12⟩ := id C
  have hD := z_D c11 tA s.heap.size h rfl
  have hws : (z_ws tA ad 0 h).set q1 (ad q1, .inl (tA 0, n1, .inl (va_cpy f g sp.toNatClampNeg dp.toNatClampNeg n.toNatClampNeg))) = z_ws tA ad 0 h' := z_ws0s hs
  have hroom : (((S.map (z_g ad)).map fun v => v.category).sum + (nativeFrameWords "java/lang/System" "arraycopy" 5 + 11)) ≤ (z_rm M.2.2.2.2).locals := by
    rw [z_cats]
    have e : nativeFrameWords "java/lang/System" "arraycopy" 5 ≤ 12 := by decide +kernel
    show _ ≤ 31 * M.2.2.2.2
    omega
  refine va_copyi c1 c2 (by rw [c4]; exact hl.1.symm) c5 (c6 _ (z_Tw hk)) (c6 _ (z_Tw hk2.1)) (c6 _ (z_Tw hk2.2.1)) (c6 _ (z_Tw hk2.2.2)) c8 hP hD hS q0 q1 0 0 (z_ws0 h0) (z_ws0 h1) (ty := .int) rfl rfl rfl g1 g2 g3 g4 g5 (fun _ _ => rfl) hdep hroom hd (fun H1 locs1 hP1 hD1 hS1 => ?_)
  rw [hws] at hP1
  have := k.2 E D tA ad p l e s m args below meth c (by rw [hlen]; exact C) H1 locs1 ls hl hP1 (by rw [hlen]; exact hS1)
  rw [hlen] at this
  exact this
/-! ===== calls ===== -/
/-- what a call of a method needs of the tables -/
def z_ok (Y : zM) : Prop := Cond.code Y.1 Y.2.1 Y.2.2.1 Y.2.2.2.1 ∈ z_T ∧ Cond.initialized Y.1.cls ∈ z_T ∧ (Y.1.cls ≠ "java/lang/invoke/MethodHandle" ∧ Y.1.cls ≠ "java/lang/invoke/VarHandle") ∧ Y.2.2.1 ≤ 12 ∧ plainName Y.1.cls = true
def z_np (Y : zM) (n : Nat) : Prop := ∀ sig, parseMethodDescriptor Y.1.desc = some sig → n = sig.parameters.length
def z_Lm (own : String) (idx : Nat) (Y : zM) : Prop := Cond.methodLink own idx Y.1 ∈ z_T ∨ ∃ host, Cond.methodLinkNest own idx Y.1 host ∈ z_N
def z_okV (Y : zM) (ci n : Nat) : Prop := z_ok Y ∧ z_np Y n ∧ Cond.instanceMethod Y.1 ∈ z_T ∧ Cond.selects Y.1.cls Y.1 Y.1 ∈ z_T ∧ ∃ T N, vwCl[ci]? = some (Y.1.cls, T, N)
def z_okS (Y : zM) (n : Nat) : Prop := z_ok Y ∧ z_np Y n ∧ Cond.static Y.1 ∈ z_T
theorem z_pay {M : zM} {args : Array Value} {s : State} (c6 : ∀ w ∈ z_wd M, w.before args s = true) {Y : zM} (hY : Cond.code Y.1 Y.2.1 Y.2.2.1 Y.2.2.2.1 ∈ z_T) : ∀ w ∈ z_wd Y, ∀ (a' : Array Value) (U : State), s.WarmedH U.vm → w.before a' U = true := by
  intro w hw a' U hW
  have hw2 : w ∈ z_T := by
    rcases List.mem_cons.mp hw with e | e
    · rw [e]; exact hY
    · exact e
  exact word_at hW (good_of_word (List.mem_filter.mp hw2).2) (c6 w (z_Tw hw2))
theorem z_Pcx {M : zM} {E : zE} {D : va_G} {tA : Nat → ClassId} {ad : Nat → Nat} {p : Program} {s : State} {m : MethodId} {args : Array Value} {meth : Method} {c : Code} (C : z_Cx M h.length E D tA ad p s m args meth c) {H : Heap} {locs : List Loc} (hP : va_P D vwCl (z_ws tA ad 0 h) H) (hS : va_S (z_A ad h.length s.heap.size) s.heap H locs) (as : List Value) :
    FrameBlind (va_Pc as (z_Wd E D tA ad h H.size)) ∧ ∀ U : State, U.heap = H → s.WarmedH U.vm → va_Pc as (z_Wd E D tA ad h H.size) as.toArray U := by
  obtain ⟨c1, c2, c3, c4, c5, c6, c7, c8, c9, c10, c11, c12⟩ := C
  refine ⟨fun a U g mk q => ?_, fun U hU hW => ⟨rfl, by rw [hU], by rw [hU]; exact hP, va_K.moved hW.alike c8, c9.pass hW, ?_⟩⟩
  · obtain ⟨q0, q1, q2, q3, q4, q5⟩ := q
    exact ⟨q0, q1, q2, va_K.moved (u := U) (U := U.calling g mk a) (Vm.Alike.refl U.vm) q3, q4.calling, q5.calling⟩
  · refine z_EX.pass c10 hU hW (fun a h1 h2 => hS.2.1 a h1 h2) (fun q hq => ?_)
    rcases hq with hq | hq
    · exact Or.inl hq
    · exact Or.inr (Nat.le_trans hS.1 hq)
/-- behind a call -/
theorem z_run {p : Program} {l : Launch} {e : Env} {R : Room} {s : State} {m : MethodId} {args : Array Value} {below : List Frame} {meth : Method} {c : Code} {H : Heap} {locs : List Loc} {Q : State → Prop} {ls : Array Slot} {st0 rest : List Value} {D : va_G} {tA : Nat → ClassId} {ad : Nat → Nat} {n : Nat} {rv : Option Value} {h1 : zH} {a : Array Value}
    (hr : va_Run p l e R s m args below meth c H locs 0 0 0 0 (F0 m pc ls st0) rest (z_Q D tA ad rv h1 (z_A ad n H.size) a) (z_A ad n H.size)) (hS : va_S (z_A ad n s.heap.size) s.heap H locs)
    (kk : ∀ (H1 : Heap) (locs1 : List Loc), va_P D vwCl (z_ws tA ad 0 h1) H1 → va_S (z_A ad n s.heap.size) s.heap H1 locs1 → W p l e R s m args below meth c H1 locs1 0 0 Q (F0 m (pc + 3) ls ((rv.map (z_g ad)).toList ++ rest))) : W p l e R s m args below meth c H locs 0 0 Q (F0 m pc ls st0) := by
  have hA : ∀ q, z_A ad n H.size q → z_A ad n s.heap.size q := fun q hq => by
    rcases hq with hq | hq
    · exact Or.inl hq
    · exact Or.inr (Nat.le_trans hS.1 hq)
  intro T hT X
  obtain ⟨v, st₀, t, T', LL, h0, X', hL, e1, e2, ⟨⟨hv, hb⟩, hz, hk⟩, st⟩ := hr T hT X
  cases hv
  rw [h0] at hz hk
  obtain ⟨t2, a1, b1⟩ := kk T'.heap (locs ++ LL) (by rw [e1]; exact hb)
    ⟨Nat.le_trans hS.1 (by rw [e1]; exact hz), fun q h1 h2 => by rw [e1, hk q (Nat.lt_of_lt_of_le h1 hS.1) (fun z => h2 (hA q z))]; exact hS.2.1 q h1 h2, fun q hq => by
      rcases List.mem_append.mp hq with h | h
      · exact hS.2.2 q h
      · exact hA _ (hL q h)⟩ T' rfl X'
  exact ⟨t2, st t2 a1, b1⟩
theorem fx_callS {Y : zM} {idx : Nat} {as : List Value} {rv : Option Value} {h1 : zH} {S0 S1 : List Value} (hd : decode M.2.1 pc = .ok (.invokestatic idx, 3)) (hY : z_okS Y as.length) (hk : z_Lm M.1.cls idx Y) (hdep : Y.2.2.2.2 + 1 ≤ M.2.2.2.2) (hr : (S.map fun v => v.category).sum ≤ 8) (hM : Mx Y as h rv h1)
    (e0 : S0 = as.reverse ++ S) (e1 : S1 = rv.toList ++ S) (k : Fx M out (pc + 3) L S1 h1) : Fx M out pc L S0 h := by
  subst e0; subst e1
  obtain ⟨hlen, hM⟩ := hM
  refine ⟨by rw [← hlen]; exact k.1, fun E D tA ad p l e s m args below meth c C H locs ls hl hP hS => ?_⟩
  obtain ⟨c1, c2, c3, c4, c5, c6, c7, c8, c9, c10, c11, c12⟩ := id C
  obtain ⟨⟨y1, y2, y3, y4, y5⟩, y6, y7⟩ := hY
  have hrm : (z_rm Y.2.2.2.2).frames + 1 ≤ (z_rm M.2.2.2.2).frames := hdep
  have hlo : 8 + (Y.2.2.1 + 11) + (z_rm Y.2.2.2.2).locals ≤ (z_rm M.2.2.2.2).locals := by
    show 8 + (Y.2.2.1 + 11) + 31 * Y.2.2.2.2 ≤ 31 * M.2.2.2.2
    omega
  have hst : (as.reverse ++ S).map (z_g ad) = (as.map (z_g ad)).reverse ++ S.map (z_g ad) := by rw [List.map_append, List.map_reverse]
  have hcats : 2 * (F0 m pc ls ((as.reverse ++ S).map (z_g ad))).monitorRoom + ((S.map (z_g ad)).map fun v => v.category).sum ≤ 8 := lv_room (by rw [z_cats]; exact hr)
  have hlenA : (as.map (z_g ad)).length = as.length := List.length_map _
  have kk : ∀ (H1 : Heap) (locs1 : List Loc), va_P D vwCl (z_ws tA ad 0 h1) H1 → va_S (z_A ad h.length s.heap.size) s.heap H1 locs1 → W p l e (z_rm M.2.2.2.2) s m args below meth c H1 locs1 0 0 (MQ below (z_Q D tA ad out.1 out.2 (z_A ad h.length s.heap.size)) args s 0 0 (z_A ad h.length s.heap.size)) (F0 m (pc + 3) ls ((rv.map (z_g ad)).toList ++ S.map (z_g ad))) := by
    intro H1 locs1 hP1 hS1
    have := k.2 E D tA ad p l e s m args below meth c (by rw [hlen]; exact C) H1 locs1 ls hl hP1 (by rw [hlen]; exact hS1)
    rw [hlen] at this
    have e2 : (rv.toList ++ S).map (z_g ad) = (rv.map (z_g ad)).toList ++ S.map (z_g ad) := by cases rv <;> rfl
    rw [e2] at this
    exact this
  rcases hk with hk | ⟨host, hk⟩
  · refine z_run (va_runS (n := as.length) (As := as.map (z_g ad)) (rest := S.map (z_g ad)) ⟨c1, c2, c4, c5, c6⟩ (hM l E D tA ad H.size c11 c12) ⟨⟨rfl, rfl, hrm, hlo, z_pay c6 y1, List.mem_cons_self, c6 _ (z_Tw y1), c6 _ (z_Tw y2), y3, y6, c6 _ (z_Tw hk)⟩, c6 _ (z_Tw y7)⟩ (z_Pcx C hP hS _) rfl hlenA hl.1 hst hcats hd ⟨Nat.zero_le _, Nat.zero_le _⟩) hS kk
  · refine z_run (va_runSN (n := as.length) (host := host) (As := as.map (z_g ad)) (rest := S.map (z_g ad)) ⟨c1, c2, c4, c5, c6⟩ (hM l E D tA ad H.size c11 c12) ⟨⟨⟨rfl, rfl, hrm, hlo, z_pay c6 y1, List.mem_cons_self⟩, c6 _ (z_Tw y1), c6 _ (z_Tw y2), y3, y6, va_Nw.use rfl (c9 _ hk)⟩, c6 _ (z_Tw y7), trivial⟩ (z_Pcx C hP hS _) rfl hlenA hl.1 hst hcats hd ⟨Nat.zero_le _, Nat.zero_le _⟩) hS kk
theorem fx_callV {Y : zM} {idx q ci : Nat} {as fs : List Value} {rv : Option Value} {h1 : zH} {S0 S1 : List Value} (hd : decode M.2.1 pc = .ok (.invokevirtual idx, 3)) (hY : z_okV Y ci as.length) (hk : z_Lm M.1.cls idx Y) (hdep : Y.2.2.2.2 + 1 ≤ M.2.2.2.2) (h0 : z_at h q = some (.inr (ci, fs))) (hr : (S.map fun v => v.category).sum ≤ 8) (hM : Mx Y (.ref q :: as) h rv h1)
    (e0 : S0 = as.reverse ++ .ref q :: S) (e1 : S1 = rv.toList ++ S) (k : Fx M out (pc + 3) L S1 h1) : Fx M out pc L S0 h := by
  subst e0; subst e1
  obtain ⟨hlen, hM⟩ := hM
  refine ⟨by rw [← hlen]; exact k.1, fun E D tA ad p l e s m args below meth c C H locs ls hl hP hS => ?_⟩
  obtain ⟨c1, c2, c3, c4, c5, c6, c7, c8, c9, c10, c11, c12⟩ := id C
  obtain ⟨⟨y1, y2, y3, y4, y5⟩, y6, y7, y8, TT, NN, y9⟩ := hY
  have hrm : (z_rm Y.2.2.2.2).frames + 1 ≤ (z_rm M.2.2.2.2).frames := hdep
  have hlo : 8 + (Y.2.2.1 + 11) + (z_rm Y.2.2.2.2).locals ≤ (z_rm M.2.2.2.2).locals := by
    show 8 + (Y.2.2.1 + 11) + 31 * Y.2.2.2.2 ≤ 31 * M.2.2.2.2
    omega
  have hst : (as.reverse ++ .ref q :: S).map (z_g ad) = (as.map (z_g ad)).reverse ++ .ref (ad q) :: S.map (z_g ad) := by rw [List.map_append, List.map_reverse]; rfl
  have hcats : 2 * (F0 m pc ls ((as.reverse ++ .ref q :: S).map (z_g ad))).monitorRoom + ((S.map (z_g ad)).map fun v => v.category).sum ≤ 8 := lv_room (by rw [z_cats]; exact hr)
  have hlenA : (as.map (z_g ad)).length = as.length := List.length_map _
  have hrec := va_recv c8 hP y9 (z_ws0 h0)
  have kk : ∀ (H1 : Heap) (locs1 : List Loc), va_P D vwCl (z_ws tA ad 0 h1) H1 → va_S (z_A ad h.length s.heap.size) s.heap H1 locs1 → W p l e (z_rm M.2.2.2.2) s m args below meth c H1 locs1 0 0 (MQ below (z_Q D tA ad out.1 out.2 (z_A ad h.length s.heap.size)) args s 0 0 (z_A ad h.length s.heap.size)) (F0 m (pc + 3) ls ((rv.map (z_g ad)).toList ++ S.map (z_g ad))) := by
    intro H1 locs1 hP1 hS1
    have := k.2 E D tA ad p l e s m args below meth c (by rw [hlen]; exact C) H1 locs1 ls hl hP1 (by rw [hlen]; exact hS1)
    rw [hlen] at this
    have e2 : (rv.toList ++ S).map (z_g ad) = (rv.map (z_g ad)).toList ++ S.map (z_g ad) := by cases rv <;> rfl
    rw [e2] at this
    exact this
  have hPc := z_Pcx C hP hS ((Value.ref q :: as).map (z_g ad))
  rcases hk with hk | ⟨host, hk⟩
  · refine z_run (va_runV (n := as.length) (C := Y.1.cls) (b := ad q) (As := as.map (z_g ad)) (rest := S.map (z_g ad)) ⟨c1, c2, c4, c5, c6⟩ (hM l E D tA ad H.size c11 c12) ⟨⟨rfl, rfl, hrm, hlo, z_pay c6 y1, List.mem_cons_self, c6 _ (z_Tw y1), c6 _ (z_Tw y2), y3, y6, c6 _ (z_Tw hk)⟩, c6 _ (z_Tw y7), c6 _ (z_Tw y8)⟩ ⟨hPc.1, hrec, hPc.2⟩ rfl hlenA hl.1 hst hcats hd ⟨Nat.zero_le _, Nat.zero_le _⟩) hS kk
  · refine z_run (va_runVN (n := as.length) (host := host) (C := Y.1.cls) (b := ad q) (As := as.map (z_g ad)) (rest := S.map (z_g ad)) ⟨c1, c2, c4, c5, c6⟩ (hM l E D tA ad H.size c11 c12) ⟨⟨⟨rfl, rfl, hrm, hlo, z_pay c6 y1, List.mem_cons_self⟩, c6 _ (z_Tw y1), c6 _ (z_Tw y2), y3, y6, va_Nw.use rfl (c9 _ hk)⟩, c6 _ (z_Tw y7), c6 _ (z_Tw y8)⟩ ⟨hPc.1, hrec, hPc.2⟩ rfl hlenA hl.1 hst hcats hd ⟨Nat.zero_le _, Nat.zero_le _⟩) hS kk
/-! ===== what nobody writes ===== -/
theorem fx_ldcS {idx i : Nat} {tx : String} (hd : decode M.2.1 pc = .ok (.ldc idx, 2)) (hk : (M.1.cls, idx, tx, i) ∈ z_sx) (hi : i < 14) (k : Fx M out (pc + 2) L (.ref (1000 + i) :: S) h) : Fx M out pc L S h := by
  refine ⟨k.1, fun E D tA ad p l e s m args below meth c C H locs ls hl hP hS => ?_⟩
  obtain ⟨c1, c2, c3, c4, c5, c6, c7, c8, c9, c10, c11, c12⟩ := id C
  have hR := c10.2.1 _ hk
  have := k.2 E D tA ad p l e s m args below meth c C H locs ls hl hP hS
  rw [show (Value.ref (1000 + i) :: S).map (z_g ad) = Value.ref (ad (1000 + i)) :: S.map (z_g ad) from rfl, (c12.1 i hi).1] at this
  exact va_ldcS c1 c2 c5 hR hd this
theorem fx_ldcSw {idx i : Nat} {tx : String} (hd : decode M.2.1 pc = .ok (.ldc_w idx, 3)) (hk : (M.1.cls, idx, tx, i) ∈ z_sx) (hi : i < 14) (k : Fx M out (pc + 3) L (.ref (1000 + i) :: S) h) : Fx M out pc L S h := by
  refine ⟨k.1, fun E D tA ad p l e s m args below meth c C H locs ls hl hP hS => ?_⟩
  obtain ⟨c1, c2, c3, c4, c5, c6, c7, c8, c9, c10, c11, c12⟩ := id C
  have hR := c10.2.1 _ hk
  have := k.2 E D tA ad p l e s m args below meth c C H locs ls hl hP hS
  rw [show (Value.ref (1000 + i) :: S).map (z_g ad) = Value.ref (ad (1000 + i)) :: S.map (z_g ad) from rfl, (c12.1 i hi).1] at this
  intro T hT X
  obtain ⟨t, a1, b1⟩ := this T hT X
  exact ⟨t, X.ldcStringW c1 c5 (text := tx) (a := E.1 i) hR.1 hR.2 (g := F0 m pc ls (S.map (z_g ad))) rfl (by rw [c2]; exact hd) t a1, b1⟩
/-- KIND_ABOVE -/
theorem fx_getsK {idx : Nat} (hd : decode M.2.1 pc = .ok (.getstatic idx, 3)) (hk : Cond.fieldLink M.1.cls idx "WildBells" "KIND_ABOVE" "[I" ∈ z_T) (k : Fx M out (pc + 3) L (.ref 2000 :: S) h) : Fx M out pc L S h := by
  refine ⟨k.1, fun E D tA ad p l e s m args below meth c C H locs ls hl hP hS => ?_⟩
  obtain ⟨c1, c2, c3, c4, c5, c6, c7, c8, c9, c10, c11, c12⟩ := id C
  have := k.2 E D tA ad p l e s m args below meth c C H locs ls hl hP hS
  rw [show (Value.ref 2000 :: S).map (z_g ad) = Value.ref (ad 2000) :: S.map (z_g ad) from rfl, c12.2] at this
  exact va_gets c1 c2 c10.2.2.1 hS c5 (c6 _ (z_Tw hk)) (fun _ h9 => h9) hd this
theorem fx_taldK {i v : Int32} (hd : decode M.2.1 pc = .ok (.iaload, 1)) (hi : vp_in i 7) (hv : z_ka.getD i.toNatClampNeg 0 = v) (k : Fx M out (pc + 1) L (.int v :: S) h) : Fx M out pc L (.int i :: .ref 2000 :: S) h := by
  refine ⟨k.1, fun E D tA ad p l e s m args below meth c C H locs ls hl hP hS => ?_⟩
  obtain ⟨c1, c2, c3, c4, c5, c6, c7, c8, c9, c10, c11, c12⟩ := id C
  have := va_ti (i := i) (v := .int v) c1 c2 c10.2.2.2.1 hS hi (by rw [hv]) hd (k.2 E D tA ad p l e s m args below meth c C H locs ls hl hP hS)
  rw [← c12.2] at this
  exact this
/-- fields of a text -/
theorem fx_getsv {idx i : Nat} (hd : decode M.2.1 pc = .ok (.getfield idx, 3)) (hk : Cond.fieldLink M.1.cls idx "java/lang/String" "value" "[B" ∈ z_T) (hi : i < 14) (k : Fx M out (pc + 3) L (.ref (3000 + i) :: S) h) : Fx M out pc L (.ref (1000 + i) :: S) h := by
  refine ⟨k.1, fun E D tA ad p l e s m args below meth c C H locs ls hl hP hS => ?_⟩
  obtain ⟨c1, c2, c3, c4, c5, c6, c7, c8, c9, c10, c11, c12⟩ := id C
  have := k.2 E D tA ad p l e s m args below meth c C H locs ls hl hP hS
  rw [show (Value.ref (3000 + i) :: S).map (z_g ad) = Value.ref (ad (3000 + i)) :: S.map (z_g ad) from rfl, (c12.1 i hi).2] at this
  rw [show (Value.ref (1000 + i) :: S).map (z_g ad) = Value.ref (ad (1000 + i)) :: S.map (z_g ad) from rfl, (c12.1 i hi).1]
  exact vk_getf c1 c2 (c10.1.1 i hi).2.2.1 hS c5 (c6 _ (z_Tw hk)) (fun _ h9 => h9) hd this
theorem fx_getsc {idx i : Nat} (hd : decode M.2.1 pc = .ok (.getfield idx, 3)) (hk : Cond.fieldLink M.1.cls idx "java/lang/String" "coder" "B" ∈ z_T) (hi : i < 14) (k : Fx M out (pc + 3) L (.int 0 :: S) h) : Fx M out pc L (.ref (1000 + i) :: S) h := by
  refine ⟨k.1, fun E D tA ad p l e s m args below meth c C H locs ls hl hP hS => ?_⟩
  obtain ⟨c1, c2, c3, c4, c5, c6, c7, c8, c9, c10, c11, c12⟩ := id C
  rw [show (Value.ref (1000 + i) :: S).map (z_g ad) = Value.ref (ad (1000 + i)) :: S.map (z_g ad) from rfl, (c12.1 i hi).1]
  exact vk_getf c1 c2 (c10.1.1 i hi).2.1 hS c5 (c6 _ (z_Tw hk)) (fun _ h9 => h9) hd (k.2 E D tA ad p l e s m args below meth c C H locs ls hl hP hS)
/-- COMPACT_STRINGS -/
theorem fx_getsC {idx : Nat} (hd : decode M.2.1 pc = .ok (.getstatic idx, 3)) (hk : Cond.fieldLink M.1.cls idx "java/lang/String" "COMPACT_STRINGS" "Z" ∈ z_T) (k : Fx M out (pc + 3) L (.int 1 :: S) h) : Fx M out pc L S h := by
  refine ⟨k.1, fun E D tA ad p l e s m args below meth c C H locs ls hl hP hS => ?_⟩
  obtain ⟨c1, c2, c3, c4, c5, c6, c7, c8, c9, c10, c11, c12⟩ := id C
  exact va_gets c1 c2 c10.2.2.2.2.1 hS c5 (c6 _ (z_Tw hk)) (fun _ h9 => h9) hd (k.2 E D tA ad p l e s m args below meth c C H locs ls hl hP hS)
/-- bytes of a text -/
theorem fx_slen {i : Nat} {v : Int32} (hd : decode M.2.1 pc = .ok (.arraylength, 1)) (hi : i < 14) (hv : Int32.ofNat (z_len.getD i 0) = v) (k : Fx M out (pc + 1) L (.int v :: S) h) : Fx M out pc L (.ref (3000 + i) :: S) h := by
  refine ⟨k.1, fun E D tA ad p l e s m args below meth c C H locs ls hl hP hS => ?_⟩
  obtain ⟨c1, c2, c3, c4, c5, c6, c7, c8, c9, c10, c11, c12⟩ := id C
  rw [show (Value.ref (3000 + i) :: S).map (z_g ad) = Value.ref (ad (3000 + i)) :: S.map (z_g ad) from rfl, (c12.1 i hi).2]
  exact va_tlen c1 c2 (c10.1.1 i hi).2.2.2 hS hv hd (k.2 E D tA ad p l e s m args below meth c C H locs ls hl hP hS)
theorem fx_sald {i : Nat} {j v : Int32} (hd : decode M.2.1 pc = .ok (.baload, 1)) (hi : i < 14) (hj : vp_in j (z_len.getD i 0)) (hv : (z_byt.getD i []).getD j.toNatClampNeg 0 = v) (k : Fx M out (pc + 1) L (.int v :: S) h) : Fx M out pc L (.int j :: .ref (3000 + i) :: S) h := by
  refine ⟨k.1, fun E D tA ad p l e s m args below meth c C H locs ls hl hP hS => ?_⟩
  obtain ⟨c1, c2, c3, c4, c5, c6, c7, c8, c9, c10, c11, c12⟩ := id C
  have := va_tb (i := j) (v := .int v) c1 c2 (c10.1.1 i hi).2.2.2 hS hj (by rw [hv]) hd (k.2 E D tA ad p l e s m args below meth c C H locs ls hl hP hS)
  rw [← (c12.1 i hi).2] at this
  exact this
/-- a call on a text -/
theorem fx_callT {Y : zM} {idx i : Nat} {as : List Value} {rv : Option Value} {h1 : zH} {S0 S1 : List Value} (hd : decode M.2.1 pc = .ok (.invokevirtual idx, 3)) (hY : z_ok Y) (hYn : z_np Y as.length) (hYi : Cond.instanceMethod Y.1 ∈ z_T) (hYs : Cond.selects Y.1.cls Y.1 Y.1 ∈ z_T) (hYc : Y.1.cls = "java/lang/String") (hk : Cond.methodLink M.1.cls idx Y.1 ∈ z_T) (hdep : Y.2.2.2.2 + 1 ≤ M.2.2.2.2) (hi : i < 14) (hr : (S.map fun v => v.category).sum ≤ 8) (hM : Mx Y (.ref (1000 + i) :: as) h rv h1)
    (e0 : S0 = as.reverse ++ .ref (1000 + i) :: S) (e1 : S1 = rv.toList ++ S) (k : Fx M out (pc + 3) L S1 h1) : Fx M out pc L S0 h := by
  subst e0; subst e1
  obtain ⟨hlen, hM⟩ := hM
  refine ⟨by rw [← hlen]; exact k.1, fun E D tA ad p l e s m args below meth c C H locs ls hl hP hS => ?_⟩
  obtain ⟨c1, c2, c3, c4, c5, c6, c7, c8, c9, c10, c11, c12⟩ := id C
  obtain ⟨y1, y2, y3, y4, y5⟩ := hY
  have hrm : (z_rm Y.2.2.2.2).frames + 1 ≤ (z_rm M.2.2.2.2).frames := hdep
  have hlo : 8 + (Y.2.2.1 + 11) + (z_rm Y.2.2.2.2).locals ≤ (z_rm M.2.2.2.2).locals := by
    show 8 + (Y.2.2.1 + 11) + 31 * Y.2.2.2.2 ≤ 31 * M.2.2.2.2
    omega
  have hst : (as.reverse ++ .ref (1000 + i) :: S).map (z_g ad) = (as.map (z_g ad)).reverse ++ .ref (ad (1000 + i)) :: S.map (z_g ad) := by rw [List.map_append, List.map_reverse]; rfl
  have hcats : 2 * (F0 m pc ls ((as.reverse ++ .ref (1000 + i) :: S).map (z_g ad))).monitorRoom + ((S.map (z_g ad)).map fun v => v.category).sum ≤ 8 := lv_room (by rw [z_cats]; exact hr)
  have hlenA : (as.map (z_g ad)).length = as.length := List.length_map _
  have hrec := vk_recv c10.1 hi hS
  rw [← (c12.1 i hi).1, ← hYc] at hrec
  have kk : ∀ (H1 : Heap) (locs1 : List Loc), va_P D vwCl (z_ws tA ad 0 h1) H1 → va_S (z_A ad h.length s.heap.size) s.heap H1 locs1 → W p l e (z_rm M.2.2.2.2) s m args below meth c H1 locs1 0 0 (MQ below (z_Q D tA ad out.1 out.2 (z_A ad h.length s.heap.size)) args s 0 0 (z_A ad h.length s.heap.size)) (F0 m (pc + 3) ls ((rv.map (z_g ad)).toList ++ S.map (z_g ad))) := by
    intro H1 locs1 hP1 hS1
    have := k.2 E D tA ad p l e s m args below meth c (by rw [hlen]; exact C) H1 locs1 ls hl hP1 (by rw [hlen]; exact hS1)
    rw [hlen] at this
    have e2 : (rv.toList ++ S).map (z_g ad) = (rv.map (z_g ad)).toList ++ S.map (z_g ad) := by cases rv <;> rfl
    rw [e2] at this
    exact this
  have hPc := z_Pcx C hP hS ((Value.ref (1000 + i) :: as).map (z_g ad))
  refine z_run (va_runV (n := as.length) (C := Y.1.cls) (b := ad (1000 + i)) (As := as.map (z_g ad)) (rest := S.map (z_g ad)) ⟨c1, c2, c4, c5, c6⟩ (hM l E D tA ad H.size c11 c12) ⟨⟨rfl, rfl, hrm, hlo, z_pay c6 y1, List.mem_cons_self, c6 _ (z_Tw y1), c6 _ (z_Tw y2), y3, hYn, c6 _ (z_Tw hk)⟩, c6 _ (z_Tw hYi), c6 _ (z_Tw hYs)⟩ ⟨hPc.1, hrec, hPc.2⟩ rfl hlenA hl.1 hst hcats hd ⟨Nat.zero_le _, Nat.zero_le _⟩) hS kk
/-! ===== ends, and a method out of its frame ===== -/
theorem fx_iret {v : Int32} {rt : FieldType} (hd : decode M.2.1 pc = .ok (.ireturn, 1)) (hrt : M.2.2.2.1 = some rt) (hn : narrow rt (.int v) = .int v) : Fx M (some (.int v), h) pc L [.int v] h := by
  refine ⟨rfl, fun E D tA ad p l e s m args below meth c C H locs ls hl hP hS => ?_⟩
  obtain ⟨c1, c2, c3, c4, c5, c6, c7, c8, c9, c10, c11, c12⟩ := id C
  exact W.zret (v := v) (ty := rt) c1 c2 (by rw [c3, hrt]) hn (fun t ht hW => ⟨⟨rfl, by rw [ht]; exact hP⟩, hS.F ht⟩) hS.2.2 hd c7
theorem fx_lret {v : Int64} (hd : decode M.2.1 pc = .ok (.lreturn, 1)) (hrt : M.2.2.2.1 = some .long) : Fx M (some (.long v), h) pc L [.long v] h := by
  refine ⟨rfl, fun E D tA ad p l e s m args below meth c C H locs ls hl hP hS => ?_⟩
  obtain ⟨c1, c2, c3, c4, c5, c6, c7, c8, c9, c10, c11, c12⟩ := id C
  exact W.lret (v := v) c1 c2 (by rw [c3, hrt]) (fun t ht hW => ⟨⟨rfl, by rw [ht]; exact hP⟩, hS.F ht⟩) hS.2.2 hd c7
theorem fx_aret {q : Nat} {rt : FieldType} (hd : decode M.2.1 pc = .ok (.areturn, 1)) (hrt : M.2.2.2.1 = some rt) (hr : (∃ n, rt = .object n) ∨ ∃ t, rt = .array t) : Fx M (some (.ref q), h) pc L [.ref q] h := by
  refine ⟨rfl, fun E D tA ad p l e s m args below meth c C H locs ls hl hP hS => ?_⟩
  obtain ⟨c1, c2, c3, c4, c5, c6, c7, c8, c9, c10, c11, c12⟩ := id C
  exact W.aret (v := .ref (ad q)) c1 c2 (by rw [c3, hrt]) hr (Or.inr ⟨_, rfl⟩) (fun t ht hW => ⟨⟨rfl, by rw [ht]; exact hP⟩, hS.F ht⟩) hS.2.2 hd c7
theorem fx_vret (hd : decode M.2.1 pc = .ok (.return_, 1)) (hrt : M.2.2.2.1 = none) : Fx M (none, h) pc L [] h := by
  refine ⟨rfl, fun E D tA ad p l e s m args below meth c C H locs ls hl hP hS => ?_⟩
  obtain ⟨c1, c2, c3, c4, c5, c6, c7, c8, c9, c10, c11, c12⟩ := id C
  exact W.vret c1 c2 (by rw [c3, hrt]) (fun t ht hW => ⟨⟨rfl, by rw [ht]; exact hP⟩, hS.F ht⟩) hS.2.2 hd c7
/-- the same frame, said otherwise -/
theorem fx_eq {L' : List (Option Value)} {S' : List Value} {h' : zH} (k : Fx M out pc L' S' h') (e1 : L = L') (e2 : S = S') (e3 : h = h') : Fx M out pc L S h := by subst e1; subst e2; subst e3; exact k
/-- a method, out of the walk of its frame from its entry -/
theorem mx_of {as : List Value} {rv : Option Value} {h2 : zH} (hp : plainName M.1.cls = true) (hL : ∀ ad, z_L ad 0 L = lv_args 0 (as.map (z_g ad))) (hn : ∀ ad, (lg_sl (as.map (z_g ad))).length ≤ M.2.2.1) (k : Fx M (rv, h2) 0 L [] h) : Mx M as h rv h2 := by
  refine ⟨k.1.symm, fun l E D tA ad sz hap hsa => ?_⟩
  refine Met.ofW (cc := M.2.1) (maxL := M.2.2.1) (ret := M.2.2.2.1) hp rfl ?_
  intro p e s m args below meth c s₁ B hml hv
  obtain ⟨rfl, rfl, hP, hK, hN, hE⟩ := hv
  have hts := atoms_spec (ws := z_wd M) B.pre
  have hown : s.vm.findClass M.1.cls = some m.cls := findClass_of_methodNamed B.named
  have hl := lv_entry (as.map (z_g ad)) (hn ad)
  rw [lg_entry_eq]
  exact k.2 E D tA ad p l e s m _ below meth c ⟨B.exec, B.bytes, B.returns, hml, hown, hts, B.notSynchronized, hK, hN, hE, hap, hsa⟩ s.heap [] _ (by rw [hL ad]; exact hl) hP va_S.rf
end FH
end
section
/-! ===== methods, and what the tables say of them and of the links (printed by gen/meths.py) ===== -/
theorem z_tp {w : Cond} (n : Nat) (h : (k2_sels lw_privs)[n]? = some w) : w ∈ lw_tbl := List.mem_append_left _ (List.mem_of_getElem? h)
theorem z_u {w : Cond} (h : w ∈ tables_1) : w ∈ lw_tbl := List.mem_append_right _ h
theorem z_t1 {w : Cond} (n : Nat) (h : tables_1_1[n]? = some w) : w ∈ lw_tbl := z_u (List.mem_append_left _ (List.mem_of_getElem? h))
theorem z_t2 {w : Cond} (n : Nat) (h : tables_1_2[n]? = some w) : w ∈ lw_tbl := z_u (List.mem_append_right _ (List.mem_append_left _ (List.mem_of_getElem? h)))
theorem z_t3 {w : Cond} (n : Nat) (h : tables_1_3[n]? = some w) : w ∈ lw_tbl := z_u (List.mem_append_right _ (List.mem_append_right _ (List.mem_append_left _ (List.mem_of_getElem? h))))
theorem z_t4 {w : Cond} (n : Nat) (h : tables_1_4[n]? = some w) : w ∈ lw_tbl := z_u (List.mem_append_right _ (List.mem_append_right _ (List.mem_append_right _ (List.mem_append_left _ (List.mem_of_getElem? h)))))
theorem z_t5 {w : Cond} (n : Nat) (h : tables_1_5[n]? = some w) : w ∈ lw_tbl := z_u (List.mem_append_right _ (List.mem_append_right _ (List.mem_append_right _ (List.mem_append_right _ (List.mem_append_left _ (List.mem_of_getElem? h))))))
theorem z_t6 {w : Cond} (n : Nat) (h : tables_1_6[n]? = some w) : w ∈ lw_tbl := z_u (List.mem_append_right _ (List.mem_append_right _ (List.mem_append_right _ (List.mem_append_right _ (List.mem_append_right _ (List.mem_of_getElem? h))))))
theorem z_k0 : z_Kl 0 RX0 TX0 3 tyX0 := ⟨rfl, fun w hw => z_in ((show ∀ w ∈ u_ws RX0 TX0 3, w ∈ lw_tbl by decide +kernel) w hw) ((show ∀ w ∈ u_ws RX0 TX0 3, goodWord w = true by decide +kernel) w hw), tyX0_ok, nmX0⟩
theorem z_k1 : z_Kl 1 RX1 TX1 7 tyX1 := ⟨rfl, fun w hw => z_in ((show ∀ w ∈ u_ws RX1 TX1 7, w ∈ lw_tbl by decide +kernel) w hw) ((show ∀ w ∈ u_ws RX1 TX1 7, goodWord w = true by decide +kernel) w hw), tyX1_ok, nmX1⟩
theorem z_k2 : z_Kl 2 RX2 TX2 14 tyX2 := ⟨rfl, fun w hw => z_in ((show ∀ w ∈ u_ws RX2 TX2 14, w ∈ lw_tbl by decide +kernel) w hw) ((show ∀ w ∈ u_ws RX2 TX2 14, goodWord w = true by decide +kernel) w hw), tyX2_ok, nmX2⟩
theorem z_k3 : z_Kl 3 RX3 TX3 8 tyX3 := ⟨rfl, fun w hw => z_in ((show ∀ w ∈ u_ws RX3 TX3 8, w ∈ lw_tbl by decide +kernel) w hw) ((show ∀ w ∈ u_ws RX3 TX3 8, goodWord w = true by decide +kernel) w hw), tyX3_ok, nmX3⟩
theorem z_k4 : z_Kl 4 RX4 TX4 24 tyX4 := ⟨rfl, fun w hw => z_in ((show ∀ w ∈ u_ws RX4 TX4 24, w ∈ lw_tbl by decide +kernel) w hw) ((show ∀ w ∈ u_ws RX4 TX4 24, goodWord w = true by decide +kernel) w hw), tyX4_ok, nmX4⟩
theorem z_iX3 : Cond.initialized RX3 ∈ z_T := z_in (z_t1 1 (by decide +kernel)) rfl
theorem z_iX2 : Cond.initialized RX2 ∈ z_T := z_in (z_t1 2 (by decide +kernel)) rfl
theorem z_iX1 : Cond.initialized RX1 ∈ z_T := z_in (z_t1 3 (by decide +kernel)) rfl
theorem z_iX0 : Cond.initialized RX0 ∈ z_T := z_in (z_t1 4 (by decide +kernel)) rfl
theorem z_iX4 : Cond.initialized RX4 ∈ z_T := z_in (z_t1 5 (by decide +kernel)) rfl
theorem z_iJ9 : Cond.initialized RJ9 ∈ z_T := z_in (z_t1 6 (by decide +kernel)) rfl
theorem z_iJ6 : Cond.initialized RJ6 ∈ z_T := z_in (z_t1 7 (by decide +kernel)) rfl
theorem z_iJ13 : Cond.initialized RJ13 ∈ z_T := z_in (z_t1 8 (by decide +kernel)) rfl
theorem z_iJ10 : Cond.initialized RJ10 ∈ z_T := z_in (z_t1 9 (by decide +kernel)) rfl
theorem z_iJ0 : Cond.initialized RJ0 ∈ z_T := z_in (z_t1 10 (by decide +kernel)) rfl
theorem z_iJ1 : Cond.initialized RJ1 ∈ z_T := z_in (z_t1 11 (by decide +kernel)) rfl
theorem z_iJ3 : Cond.initialized RJ3 ∈ z_T := z_in (z_t1 12 (by decide +kernel)) rfl
theorem z_iJ2 : Cond.initialized RJ2 ∈ z_T := z_in (z_t1 13 (by decide +kernel)) rfl
abbrev mX0_isMissing : zM := (yX0_isMissing, cX0_isMissing, 1, Option.some Jvm.ClassFile.FieldType.boolean, 0)
theorem oX0_isMissing : z_ok mX0_isMissing := ⟨z_in (z_t2 167 (by decide +kernel)) rfl, z_iX0, by decide, by decide, by decide⟩
theorem pX0_isMissing : z_np mX0_isMissing 0 := fun sig hs => by
  have e : (parseMethodDescriptor yX0_isMissing.desc).map (fun d => d.parameters.length) = some 0 := by decide +kernel
  rw [hs] at e
  exact (Option.some.inj e).symm
theorem vX0_isMissing : z_okV mX0_isMissing 0 0 := ⟨oX0_isMissing, pX0_isMissing, z_in (z_t2 166 (by decide +kernel)) rfl, z_in (z_tp 20 (by decide +kernel)) rfl, _, _, rfl⟩
abbrev mX0_begin : zM := (yX0_begin, cX0_begin, 4, Option.none, 0)
theorem oX0_begin : z_ok mX0_begin := ⟨z_in (z_t3 180 (by decide +kernel)) rfl, z_iX0, by decide, by decide, by decide⟩
theorem pX0_begin : z_np mX0_begin 2 := fun sig hs => by
  have e : (parseMethodDescriptor yX0_begin.desc).map (fun d => d.parameters.length) = some 2 := by decide +kernel
  rw [hs] at e
  exact (Option.some.inj e).symm
theorem vX0_begin : z_okV mX0_begin 0 2 := ⟨oX0_begin, pX0_begin, z_in (z_t3 179 (by decide +kernel)) rfl, z_in (z_tp 42 (by decide +kernel)) rfl, _, _, rfl⟩
abbrev mX0_put : zM := (yX0_put, cX0_put, 3, Option.none, 0)
theorem oX0_put : z_ok mX0_put := ⟨z_in (z_t3 188 (by decide +kernel)) rfl, z_iX0, by decide, by decide, by decide⟩
theorem pX0_put : z_np mX0_put 2 := fun sig hs => by
  have e : (parseMethodDescriptor yX0_put.desc).map (fun d => d.parameters.length) = some 2 := by decide +kernel
  rw [hs] at e
  exact (Option.some.inj e).symm
theorem vX0_put : z_okV mX0_put 0 2 := ⟨oX0_put, pX0_put, z_in (z_t3 187 (by decide +kernel)) rfl, z_in (z_tp 43 (by decide +kernel)) rfl, _, _, rfl⟩
abbrev mX0_hasFrom : zM := (yX0_hasFrom, cX0_hasFrom, 3, Option.some Jvm.ClassFile.FieldType.boolean, 0)
theorem oX0_hasFrom : z_ok mX0_hasFrom := ⟨z_in (z_t3 196 (by decide +kernel)) rfl, z_iX0, by decide, by decide, by decide⟩
theorem pX0_hasFrom : z_np mX0_hasFrom 2 := fun sig hs => by
  have e : (parseMethodDescriptor yX0_hasFrom.desc).map (fun d => d.parameters.length) = some 2 := by decide +kernel
  rw [hs] at e
  exact (Option.some.inj e).symm
theorem vX0_hasFrom : z_okV mX0_hasFrom 0 2 := ⟨oX0_hasFrom, pX0_hasFrom, z_in (z_t3 195 (by decide +kernel)) rfl, z_in (z_tp 44 (by decide +kernel)) rfl, _, _, rfl⟩
abbrev mX0_earsAreCells : zM := (yX0_earsAreCells, cX0_earsAreCells, 2, Option.some Jvm.ClassFile.FieldType.boolean, 1)
theorem oX0_earsAreCells : z_ok mX0_earsAreCells := ⟨z_in (z_t2 171 (by decide +kernel)) rfl, z_iX0, by decide, by decide, by decide⟩
theorem pX0_earsAreCells : z_np mX0_earsAreCells 0 := fun sig hs => by
  have e : (parseMethodDescriptor yX0_earsAreCells.desc).map (fun d => d.parameters.length) = some 0 := by decide +kernel
  rw [hs] at e
  exact (Option.some.inj e).symm
theorem vX0_earsAreCells : z_okV mX0_earsAreCells 0 0 := ⟨oX0_earsAreCells, pX0_earsAreCells, z_in (z_t2 170 (by decide +kernel)) rfl, z_in (z_tp 21 (by decide +kernel)) rfl, _, _, rfl⟩
abbrev mX0_tellsLoud : zM := (yX0_tellsLoud, cX0_tellsLoud, 4, Option.some Jvm.ClassFile.FieldType.boolean, 2)
theorem oX0_tellsLoud : z_ok mX0_tellsLoud := ⟨z_in (z_t2 179 (by decide +kernel)) rfl, z_iX0, by decide, by decide, by decide⟩
theorem pX0_tellsLoud : z_np mX0_tellsLoud 2 := fun sig hs => by
  have e : (parseMethodDescriptor yX0_tellsLoud.desc).map (fun d => d.parameters.length) = some 2 := by decide +kernel
  rw [hs] at e
  exact (Option.some.inj e).symm
theorem vX0_tellsLoud : z_okV mX0_tellsLoud 0 2 := ⟨oX0_tellsLoud, pX0_tellsLoud, z_in (z_t2 178 (by decide +kernel)) rfl, z_in (z_tp 22 (by decide +kernel)) rfl, _, _, rfl⟩
abbrev mX1_append : zM := (yX1_append, cX1_append, 2, Option.none, 0)
theorem oX1_append : z_ok mX1_append := ⟨z_in (z_t3 36 (by decide +kernel)) rfl, z_iX1, by decide, by decide, by decide⟩
theorem pX1_append : z_np mX1_append 1 := fun sig hs => by
  have e : (parseMethodDescriptor yX1_append.desc).map (fun d => d.parameters.length) = some 1 := by decide +kernel
  rw [hs] at e
  exact (Option.some.inj e).symm
theorem vX1_append : z_okV mX1_append 1 1 := ⟨oX1_append, pX1_append, z_in (z_t3 35 (by decide +kernel)) rfl, z_in (z_tp 29 (by decide +kernel)) rfl, _, _, rfl⟩
abbrev mX1_readInto : zM := (yX1_readInto, cX1_readInto, 5, Option.some Jvm.ClassFile.FieldType.int, 10)
theorem oX1_readInto : z_ok mX1_readInto := ⟨z_in (z_t3 48 (by decide +kernel)) rfl, z_iX1, by decide, by decide, by decide⟩
theorem pX1_readInto : z_np mX1_readInto 1 := fun sig hs => by
  have e : (parseMethodDescriptor yX1_readInto.desc).map (fun d => d.parameters.length) = some 1 := by decide +kernel
  rw [hs] at e
  exact (Option.some.inj e).symm
theorem vX1_readInto : z_okV mX1_readInto 1 1 := ⟨oX1_readInto, pX1_readInto, z_in (z_t3 47 (by decide +kernel)) rfl, z_in (z_tp 30 (by decide +kernel)) rfl, _, _, rfl⟩
abbrev mX1_advance : zM := (yX1_advance, cX1_advance, 2, Option.none, 0)
theorem oX1_advance : z_ok mX1_advance := ⟨z_in (z_t3 52 (by decide +kernel)) rfl, z_iX1, by decide, by decide, by decide⟩
theorem pX1_advance : z_np mX1_advance 0 := fun sig hs => by
  have e : (parseMethodDescriptor yX1_advance.desc).map (fun d => d.parameters.length) = some 0 := by decide +kernel
  rw [hs] at e
  exact (Option.some.inj e).symm
theorem vX1_advance : z_okV mX1_advance 1 0 := ⟨oX1_advance, pX1_advance, z_in (z_t3 51 (by decide +kernel)) rfl, z_in (z_tp 31 (by decide +kernel)) rfl, _, _, rfl⟩
abbrev mX1_isWord : zM := (yX1_isWord, cX1_isWord, 3, Option.some Jvm.ClassFile.FieldType.boolean, 6)
theorem oX1_isWord : z_ok mX1_isWord := ⟨z_in (z_t3 74 (by decide +kernel)) rfl, z_iX1, by decide, by decide, by decide⟩
theorem pX1_isWord : z_np mX1_isWord 1 := fun sig hs => by
  have e : (parseMethodDescriptor yX1_isWord.desc).map (fun d => d.parameters.length) = some 1 := by decide +kernel
  rw [hs] at e
  exact (Option.some.inj e).symm
theorem vX1_isWord : z_okV mX1_isWord 1 1 := ⟨oX1_isWord, pX1_isWord, z_in (z_t3 73 (by decide +kernel)) rfl, z_in (z_tp 34 (by decide +kernel)) rfl, _, _, rfl⟩
abbrev mX1_readItem : zM := (yX1_readItem, cX1_readItem, 3, Option.none, 9)
theorem oX1_readItem : z_ok mX1_readItem := ⟨z_in (z_t3 56 (by decide +kernel)) rfl, z_iX1, by decide, by decide, by decide⟩
theorem pX1_readItem : z_np mX1_readItem 1 := fun sig hs => by
  have e : (parseMethodDescriptor yX1_readItem.desc).map (fun d => d.parameters.length) = some 1 := by decide +kernel
  rw [hs] at e
  exact (Option.some.inj e).symm
theorem vX1_readItem : z_okV mX1_readItem 1 1 := ⟨oX1_readItem, pX1_readItem, z_in (z_t3 55 (by decide +kernel)) rfl, z_in (z_tp 32 (by decide +kernel)) rfl, _, _, rfl⟩
abbrev mX1_kindOfWord : zM := (yX1_kindOfWord, cX1_kindOfWord, 2, Option.some Jvm.ClassFile.FieldType.int, 7)
theorem oX1_kindOfWord : z_ok mX1_kindOfWord := ⟨z_in (z_t3 60 (by decide +kernel)) rfl, z_iX1, by decide, by decide, by decide⟩
theorem pX1_kindOfWord : z_np mX1_kindOfWord 0 := fun sig hs => by
  have e : (parseMethodDescriptor yX1_kindOfWord.desc).map (fun d => d.parameters.length) = some 0 := by decide +kernel
  rw [hs] at e
  exact (Option.some.inj e).symm
theorem vX1_kindOfWord : z_okV mX1_kindOfWord 1 0 := ⟨oX1_kindOfWord, pX1_kindOfWord, z_in (z_t3 59 (by decide +kernel)) rfl, z_in (z_tp 33 (by decide +kernel)) rfl, _, _, rfl⟩
abbrev mX1_wordOfKind : zM := (yX1_wordOfKind, cX1_wordOfKind, 1, Option.some (Jvm.ClassFile.FieldType.object "java/lang/String"), 0)
theorem oX1_wordOfKind : z_ok mX1_wordOfKind := ⟨z_in (z_t3 63 (by decide +kernel)) rfl, z_iX1, by decide, by decide, by decide⟩
theorem pX1_wordOfKind : z_np mX1_wordOfKind 1 := fun sig hs => by
  have e : (parseMethodDescriptor yX1_wordOfKind.desc).map (fun d => d.parameters.length) = some 1 := by decide +kernel
  rw [hs] at e
  exact (Option.some.inj e).symm
theorem sX1_wordOfKind : z_okS mX1_wordOfKind 1 := ⟨oX1_wordOfKind, pX1_wordOfKind, z_in (z_t3 62 (by decide +kernel)) rfl⟩
abbrev mX1_readBell : zM := (yX1_readBell, cX1_readBell, 7, Option.none, 8)
theorem oX1_readBell : z_ok mX1_readBell := ⟨z_in (z_t3 126 (by decide +kernel)) rfl, z_iX1, by decide, by decide, by decide⟩
theorem pX1_readBell : z_np mX1_readBell 2 := fun sig hs => by
  have e : (parseMethodDescriptor yX1_readBell.desc).map (fun d => d.parameters.length) = some 2 := by decide +kernel
  rw [hs] at e
  exact (Option.some.inj e).symm
theorem vX1_readBell : z_okV mX1_readBell 1 2 := ⟨oX1_readBell, pX1_readBell, z_in (z_t3 125 (by decide +kernel)) rfl, z_in (z_tp 35 (by decide +kernel)) rfl, _, _, rfl⟩
abbrev mX1_readNet : zM := (yX1_readNet, cX1_readNet, 3, Option.none, 2)
theorem oX1_readNet : z_ok mX1_readNet := ⟨z_in (z_t3 143 (by decide +kernel)) rfl, z_iX1, by decide, by decide, by decide⟩
theorem pX1_readNet : z_np mX1_readNet 1 := fun sig hs => by
  have e : (parseMethodDescriptor yX1_readNet.desc).map (fun d => d.parameters.length) = some 1 := by decide +kernel
  rw [hs] at e
  exact (Option.some.inj e).symm
theorem vX1_readNet : z_okV mX1_readNet 1 1 := ⟨oX1_readNet, pX1_readNet, z_in (z_t3 142 (by decide +kernel)) rfl, z_in (z_tp 38 (by decide +kernel)) rfl, _, _, rfl⟩
abbrev mX1_readThick : zM := (yX1_readThick, cX1_readThick, 4, Option.none, 2)
theorem oX1_readThick : z_ok mX1_readThick := ⟨z_in (z_t3 149 (by decide +kernel)) rfl, z_iX1, by decide, by decide, by decide⟩
theorem pX1_readThick : z_np mX1_readThick 1 := fun sig hs => by
  have e : (parseMethodDescriptor yX1_readThick.desc).map (fun d => d.parameters.length) = some 1 := by decide +kernel
  rw [hs] at e
  exact (Option.some.inj e).symm
theorem vX1_readThick : z_okV mX1_readThick 1 1 := ⟨oX1_readThick, pX1_readThick, z_in (z_t3 148 (by decide +kernel)) rfl, z_in (z_tp 39 (by decide +kernel)) rfl, _, _, rfl⟩
abbrev mX1_readHunter : zM := (yX1_readHunter, cX1_readHunter, 4, Option.none, 8)
theorem oX1_readHunter : z_ok mX1_readHunter := ⟨z_in (z_t3 154 (by decide +kernel)) rfl, z_iX1, by decide, by decide, by decide⟩
theorem pX1_readHunter : z_np mX1_readHunter 1 := fun sig hs => by
  have e : (parseMethodDescriptor yX1_readHunter.desc).map (fun d => d.parameters.length) = some 1 := by decide +kernel
  rw [hs] at e
  exact (Option.some.inj e).symm
theorem vX1_readHunter : z_okV mX1_readHunter 1 1 := ⟨oX1_readHunter, pX1_readHunter, z_in (z_t3 153 (by decide +kernel)) rfl, z_in (z_tp 40 (by decide +kernel)) rfl, _, _, rfl⟩
abbrev mX1_readFear : zM := (yX1_readFear, cX1_readFear, 3, Option.none, 2)
theorem oX1_readFear : z_ok mX1_readFear := ⟨z_in (z_t3 159 (by decide +kernel)) rfl, z_iX1, by decide, by decide, by decide⟩
theorem pX1_readFear : z_np mX1_readFear 1 := fun sig hs => by
  have e : (parseMethodDescriptor yX1_readFear.desc).map (fun d => d.parameters.length) = some 1 := by decide +kernel
  rw [hs] at e
  exact (Option.some.inj e).symm
theorem vX1_readFear : z_okV mX1_readFear 1 1 := ⟨oX1_readFear, pX1_readFear, z_in (z_t3 158 (by decide +kernel)) rfl, z_in (z_tp 41 (by decide +kernel)) rfl, _, _, rfl⟩
abbrev mX1_takeNumber : zM := (yX1_takeNumber, cX1_takeNumber, 4, Option.some Jvm.ClassFile.FieldType.int, 1)
theorem oX1_takeNumber : z_ok mX1_takeNumber := ⟨z_in (z_t3 135 (by decide +kernel)) rfl, z_iX1, by decide, by decide, by decide⟩
theorem pX1_takeNumber : z_np mX1_takeNumber 2 := fun sig hs => by
  have e : (parseMethodDescriptor yX1_takeNumber.desc).map (fun d => d.parameters.length) = some 2 := by decide +kernel
  rw [hs] at e
  exact (Option.some.inj e).symm
theorem vX1_takeNumber : z_okV mX1_takeNumber 1 2 := ⟨oX1_takeNumber, pX1_takeNumber, z_in (z_t3 134 (by decide +kernel)) rfl, z_in (z_tp 37 (by decide +kernel)) rfl, _, _, rfl⟩
abbrev mX1_takePerhaps : zM := (yX1_takePerhaps, cX1_takePerhaps, 5, Option.some Jvm.ClassFile.FieldType.int, 7)
theorem oX1_takePerhaps : z_ok mX1_takePerhaps := ⟨z_in (z_t3 131 (by decide +kernel)) rfl, z_iX1, by decide, by decide, by decide⟩
theorem pX1_takePerhaps : z_np mX1_takePerhaps 4 := fun sig hs => by
  have e : (parseMethodDescriptor yX1_takePerhaps.desc).map (fun d => d.parameters.length) = some 4 := by decide +kernel
  rw [hs] at e
  exact (Option.some.inj e).symm
theorem vX1_takePerhaps : z_okV mX1_takePerhaps 1 4 := ⟨oX1_takePerhaps, pX1_takePerhaps, z_in (z_t3 130 (by decide +kernel)) rfl, z_in (z_tp 36 (by decide +kernel)) rfl, _, _, rfl⟩
abbrev mX2_becomes : zM := (yX2_becomes, cX2_becomes, 2, Option.none, 1)
theorem oX2_becomes : z_ok mX2_becomes := ⟨z_in (z_t2 111 (by decide +kernel)) rfl, z_iX2, by decide, by decide, by decide⟩
theorem pX2_becomes : z_np mX2_becomes 1 := fun sig hs => by
  have e : (parseMethodDescriptor yX2_becomes.desc).map (fun d => d.parameters.length) = some 1 := by decide +kernel
  rw [hs] at e
  exact (Option.some.inj e).symm
theorem vX2_becomes : z_okV mX2_becomes 2 1 := ⟨oX2_becomes, pX2_becomes, z_in (z_t2 110 (by decide +kernel)) rfl, z_in (z_tp 16 (by decide +kernel)) rfl, _, _, rfl⟩
abbrev mX2_hasNet : zM := (yX2_hasNet, cX2_hasNet, 2, Option.some Jvm.ClassFile.FieldType.boolean, 1)
theorem oX2_hasNet : z_ok mX2_hasNet := ⟨z_in (z_t1 181 (by decide +kernel)) rfl, z_iX2, by decide, by decide, by decide⟩
theorem pX2_hasNet : z_np mX2_hasNet 1 := fun sig hs => by
  have e : (parseMethodDescriptor yX2_hasNet.desc).map (fun d => d.parameters.length) = some 1 := by decide +kernel
  rw [hs] at e
  exact (Option.some.inj e).symm
theorem vX2_hasNet : z_okV mX2_hasNet 2 1 := ⟨oX2_hasNet, pX2_hasNet, z_in (z_t1 180 (by decide +kernel)) rfl, z_in (z_tp 1 (by decide +kernel)) rfl, _, _, rfl⟩
abbrev mX2_setNet : zM := (yX2_setNet, cX2_setNet, 3, Option.none, 0)
theorem oX2_setNet : z_ok mX2_setNet := ⟨z_in (z_t1 188 (by decide +kernel)) rfl, z_iX2, by decide, by decide, by decide⟩
theorem pX2_setNet : z_np mX2_setNet 2 := fun sig hs => by
  have e : (parseMethodDescriptor yX2_setNet.desc).map (fun d => d.parameters.length) = some 2 := by decide +kernel
  rw [hs] at e
  exact (Option.some.inj e).symm
theorem vX2_setNet : z_okV mX2_setNet 2 2 := ⟨oX2_setNet, pX2_setNet, z_in (z_t1 187 (by decide +kernel)) rfl, z_in (z_tp 2 (by decide +kernel)) rfl, _, _, rfl⟩
abbrev mX2_addBell : zM := (yX2_addBell, cX2_addBell, 4, Option.some Jvm.ClassFile.FieldType.int, 0)
theorem oX2_addBell : z_ok mX2_addBell := ⟨z_in (z_t2 1 (by decide +kernel)) rfl, z_iX2, by decide, by decide, by decide⟩
theorem pX2_addBell : z_np mX2_addBell 2 := fun sig hs => by
  have e : (parseMethodDescriptor yX2_addBell.desc).map (fun d => d.parameters.length) = some 2 := by decide +kernel
  rw [hs] at e
  exact (Option.some.inj e).symm
theorem vX2_addBell : z_okV mX2_addBell 2 2 := ⟨oX2_addBell, pX2_addBell, z_in (z_t2 0 (by decide +kernel)) rfl, z_in (z_tp 6 (by decide +kernel)) rfl, _, _, rfl⟩
abbrev mX2_isFree : zM := (yX2_isFree, cX2_isFree, 2, Option.some Jvm.ClassFile.FieldType.boolean, 0)
theorem oX2_isFree : z_ok mX2_isFree := ⟨z_in (z_t1 205 (by decide +kernel)) rfl, z_iX2, by decide, by decide, by decide⟩
theorem pX2_isFree : z_np mX2_isFree 1 := fun sig hs => by
  have e : (parseMethodDescriptor yX2_isFree.desc).map (fun d => d.parameters.length) = some 1 := by decide +kernel
  rw [hs] at e
  exact (Option.some.inj e).symm
theorem vX2_isFree : z_okV mX2_isFree 2 1 := ⟨oX2_isFree, pX2_isFree, z_in (z_t1 204 (by decide +kernel)) rfl, z_in (z_tp 4 (by decide +kernel)) rfl, _, _, rfl⟩
abbrev mX2_trait : zM := (yX2_trait, cX2_trait, 3, Option.some Jvm.ClassFile.FieldType.int, 1)
theorem oX2_trait : z_ok mX2_trait := ⟨z_in (z_t2 44 (by decide +kernel)) rfl, z_iX2, by decide, by decide, by decide⟩
theorem pX2_trait : z_np mX2_trait 2 := fun sig hs => by
  have e : (parseMethodDescriptor yX2_trait.desc).map (fun d => d.parameters.length) = some 2 := by decide +kernel
  rw [hs] at e
  exact (Option.some.inj e).symm
theorem vX2_trait : z_okV mX2_trait 2 2 := ⟨oX2_trait, pX2_trait, z_in (z_t2 43 (by decide +kernel)) rfl, z_in (z_tp 12 (by decide +kernel)) rfl, _, _, rfl⟩
abbrev mX2_setTrait : zM := (yX2_setTrait, cX2_setTrait, 4, Option.none, 0)
theorem oX2_setTrait : z_ok mX2_setTrait := ⟨z_in (z_t2 61 (by decide +kernel)) rfl, z_iX2, by decide, by decide, by decide⟩
theorem pX2_setTrait : z_np mX2_setTrait 3 := fun sig hs => by
  have e : (parseMethodDescriptor yX2_setTrait.desc).map (fun d => d.parameters.length) = some 3 := by decide +kernel
  rw [hs] at e
  exact (Option.some.inj e).symm
theorem vX2_setTrait : z_okV mX2_setTrait 2 3 := ⟨oX2_setTrait, pX2_setTrait, z_in (z_t2 60 (by decide +kernel)) rfl, z_in (z_tp 13 (by decide +kernel)) rfl, _, _, rfl⟩
abbrev mX2_heardAt : zM := (yX2_heardAt, cX2_heardAt, 4, Option.some Jvm.ClassFile.FieldType.int, 2)
theorem oX2_heardAt : z_ok mX2_heardAt := ⟨z_in (z_t1 201 (by decide +kernel)) rfl, z_iX2, by decide, by decide, by decide⟩
theorem pX2_heardAt : z_np mX2_heardAt 1 := fun sig hs => by
  have e : (parseMethodDescriptor yX2_heardAt.desc).map (fun d => d.parameters.length) = some 1 := by decide +kernel
  rw [hs] at e
  exact (Option.some.inj e).symm
theorem vX2_heardAt : z_okV mX2_heardAt 2 1 := ⟨oX2_heardAt, pX2_heardAt, z_in (z_t1 200 (by decide +kernel)) rfl, z_in (z_tp 3 (by decide +kernel)) rfl, _, _, rfl⟩
abbrev mX2_bellsAt : zM := (yX2_bellsAt, cX2_bellsAt, 4, Option.some Jvm.ClassFile.FieldType.int, 0)
theorem oX2_bellsAt : z_ok mX2_bellsAt := ⟨z_in (z_t1 219 (by decide +kernel)) rfl, z_iX2, by decide, by decide, by decide⟩
theorem pX2_bellsAt : z_np mX2_bellsAt 1 := fun sig hs => by
  have e : (parseMethodDescriptor yX2_bellsAt.desc).map (fun d => d.parameters.length) = some 1 := by decide +kernel
  rw [hs] at e
  exact (Option.some.inj e).symm
theorem vX2_bellsAt : z_okV mX2_bellsAt 2 1 := ⟨oX2_bellsAt, pX2_bellsAt, z_in (z_t1 218 (by decide +kernel)) rfl, z_in (z_tp 5 (by decide +kernel)) rfl, _, _, rfl⟩
abbrev mX2_weightOf : zM := (yX2_weightOf, cX2_weightOf, 4, Option.some Jvm.ClassFile.FieldType.int, 1)
theorem oX2_weightOf : z_ok mX2_weightOf := ⟨z_in (z_t2 97 (by decide +kernel)) rfl, z_iX2, by decide, by decide, by decide⟩
theorem pX2_weightOf : z_np mX2_weightOf 1 := fun sig hs => by
  have e : (parseMethodDescriptor yX2_weightOf.desc).map (fun d => d.parameters.length) = some 1 := by decide +kernel
  rw [hs] at e
  exact (Option.some.inj e).symm
theorem vX2_weightOf : z_okV mX2_weightOf 2 1 := ⟨oX2_weightOf, pX2_weightOf, z_in (z_t2 96 (by decide +kernel)) rfl, z_in (z_tp 15 (by decide +kernel)) rfl, _, _, rfl⟩
abbrev mX2_spotsHolding : zM := (yX2_spotsHolding, cX2_spotsHolding, 3, Option.some Jvm.ClassFile.FieldType.int, 0)
theorem oX2_spotsHolding : z_ok mX2_spotsHolding := ⟨z_in (z_t3 229 (by decide +kernel)) rfl, z_iX2, by decide, by decide, by decide⟩
theorem pX2_spotsHolding : z_np mX2_spotsHolding 0 := fun sig hs => by
  have e : (parseMethodDescriptor yX2_spotsHolding.desc).map (fun d => d.parameters.length) = some 0 := by decide +kernel
  rw [hs] at e
  exact (Option.some.inj e).symm
theorem vX2_spotsHolding : z_okV mX2_spotsHolding 2 0 := ⟨oX2_spotsHolding, pX2_spotsHolding, z_in (z_t3 228 (by decide +kernel)) rfl, z_in (z_tp 46 (by decide +kernel)) rfl, _, _, rfl⟩
abbrev mX2_worthFor : zM := (yX2_worthFor, cX2_worthFor, 4, Option.some Jvm.ClassFile.FieldType.int, 2)
theorem oX2_worthFor : z_ok mX2_worthFor := ⟨z_in (z_t2 17 (by decide +kernel)) rfl, z_iX2, by decide, by decide, by decide⟩
theorem pX2_worthFor : z_np mX2_worthFor 2 := fun sig hs => by
  have e : (parseMethodDescriptor yX2_worthFor.desc).map (fun d => d.parameters.length) = some 2 := by decide +kernel
  rw [hs] at e
  exact (Option.some.inj e).symm
theorem vX2_worthFor : z_okV mX2_worthFor 2 2 := ⟨oX2_worthFor, pX2_worthFor, z_in (z_t2 16 (by decide +kernel)) rfl, z_in (z_tp 9 (by decide +kernel)) rfl, _, _, rfl⟩
abbrev mX2_fromHunters : zM := (yX2_fromHunters, cX2_fromHunters, 4, Option.some Jvm.ClassFile.FieldType.int, 1)
theorem oX2_fromHunters : z_ok mX2_fromHunters := ⟨z_in (z_t2 21 (by decide +kernel)) rfl, z_iX2, by decide, by decide, by decide⟩
theorem pX2_fromHunters : z_np mX2_fromHunters 1 := fun sig hs => by
  have e : (parseMethodDescriptor yX2_fromHunters.desc).map (fun d => d.parameters.length) = some 1 := by decide +kernel
  rw [hs] at e
  exact (Option.some.inj e).symm
theorem vX2_fromHunters : z_okV mX2_fromHunters 2 1 := ⟨oX2_fromHunters, pX2_fromHunters, z_in (z_t2 20 (by decide +kernel)) rfl, z_in (z_tp 10 (by decide +kernel)) rfl, _, _, rfl⟩
abbrev mX2_nearestOther : zM := (yX2_nearestOther, cX2_nearestOther, 8, Option.some Jvm.ClassFile.FieldType.int, 1)
theorem oX2_nearestOther : z_ok mX2_nearestOther := ⟨z_in (z_t2 28 (by decide +kernel)) rfl, z_iX2, by decide, by decide, by decide⟩
theorem pX2_nearestOther : z_np mX2_nearestOther 4 := fun sig hs => by
  have e : (parseMethodDescriptor yX2_nearestOther.desc).map (fun d => d.parameters.length) = some 4 := by decide +kernel
  rw [hs] at e
  exact (Option.some.inj e).symm
theorem vX2_nearestOther : z_okV mX2_nearestOther 2 4 := ⟨oX2_nearestOther, pX2_nearestOther, z_in (z_t2 27 (by decide +kernel)) rfl, z_in (z_tp 11 (by decide +kernel)) rfl, _, _, rfl⟩
abbrev mX2_nextCell : zM := (yX2_nextCell, cX2_nextCell, 8, Option.some Jvm.ClassFile.FieldType.int, 3)
theorem oX2_nextCell : z_ok mX2_nextCell := ⟨z_in (z_t2 13 (by decide +kernel)) rfl, z_iX2, by decide, by decide, by decide⟩
theorem pX2_nextCell : z_np mX2_nextCell 1 := fun sig hs => by
  have e : (parseMethodDescriptor yX2_nextCell.desc).map (fun d => d.parameters.length) = some 1 := by decide +kernel
  rw [hs] at e
  exact (Option.some.inj e).symm
theorem vX2_nextCell : z_okV mX2_nextCell 2 1 := ⟨oX2_nextCell, pX2_nextCell, z_in (z_t2 12 (by decide +kernel)) rfl, z_in (z_tp 8 (by decide +kernel)) rfl, _, _, rfl⟩
abbrev mX2_cellBeside : zM := (yX2_cellBeside, cX2_cellBeside, 2, Option.some Jvm.ClassFile.FieldType.int, 0)
theorem oX2_cellBeside : z_ok mX2_cellBeside := ⟨z_in (z_t2 36 (by decide +kernel)) rfl, z_iX2, by decide, by decide, by decide⟩
theorem pX2_cellBeside : z_np mX2_cellBeside 2 := fun sig hs => by
  have e : (parseMethodDescriptor yX2_cellBeside.desc).map (fun d => d.parameters.length) = some 2 := by decide +kernel
  rw [hs] at e
  exact (Option.some.inj e).symm
theorem sX2_cellBeside : z_okS mX2_cellBeside 2 := ⟨oX2_cellBeside, pX2_cellBeside, z_in (z_t2 35 (by decide +kernel)) rfl⟩
abbrev mX2_hourGoes : zM := (yX2_hourGoes, cX2_hourGoes, 4, Option.some Jvm.ClassFile.FieldType.boolean, 4)
theorem oX2_hourGoes : z_ok mX2_hourGoes := ⟨z_in (z_t2 74 (by decide +kernel)) rfl, z_iX2, by decide, by decide, by decide⟩
theorem pX2_hourGoes : z_np mX2_hourGoes 0 := fun sig hs => by
  have e : (parseMethodDescriptor yX2_hourGoes.desc).map (fun d => d.parameters.length) = some 0 := by decide +kernel
  rw [hs] at e
  exact (Option.some.inj e).symm
theorem vX2_hourGoes : z_okV mX2_hourGoes 2 0 := ⟨oX2_hourGoes, pX2_hourGoes, z_in (z_t2 73 (by decide +kernel)) rfl, z_in (z_tp 14 (by decide +kernel)) rfl, _, _, rfl⟩
abbrev mX2_runHours : zM := (yX2_runHours, cX2_runHours, 4, Option.none, 5)
theorem oX2_runHours : z_ok mX2_runHours := ⟨z_in (z_t2 118 (by decide +kernel)) rfl, z_iX2, by decide, by decide, by decide⟩
theorem pX2_runHours : z_np mX2_runHours 1 := fun sig hs => by
  have e : (parseMethodDescriptor yX2_runHours.desc).map (fun d => d.parameters.length) = some 1 := by decide +kernel
  rw [hs] at e
  exact (Option.some.inj e).symm
theorem vX2_runHours : z_okV mX2_runHours 2 1 := ⟨oX2_runHours, pX2_runHours, z_in (z_t2 117 (by decide +kernel)) rfl, z_in (z_tp 17 (by decide +kernel)) rfl, _, _, rfl⟩
abbrev mX2_tillCaught : zM := (yX2_tillCaught, cX2_tillCaught, 5, Option.some Jvm.ClassFile.FieldType.int, 5)
theorem oX2_tillCaught : z_ok mX2_tillCaught := ⟨z_in (z_t2 127 (by decide +kernel)) rfl, z_iX2, by decide, by decide, by decide⟩
theorem pX2_tillCaught : z_np mX2_tillCaught 2 := fun sig hs => by
  have e : (parseMethodDescriptor yX2_tillCaught.desc).map (fun d => d.parameters.length) = some 2 := by decide +kernel
  rw [hs] at e
  exact (Option.some.inj e).symm
theorem vX2_tillCaught : z_okV mX2_tillCaught 2 2 := ⟨oX2_tillCaught, pX2_tillCaught, z_in (z_t2 126 (by decide +kernel)) rfl, z_in (z_tp 18 (by decide +kernel)) rfl, _, _, rfl⟩
abbrev mX2_draw : zM := (yX2_draw, cX2_draw, 1, Option.some Jvm.ClassFile.FieldType.int, 0)
theorem oX2_draw : z_ok mX2_draw := ⟨z_in (z_t3 23 (by decide +kernel)) rfl, z_iX2, by decide, by decide, by decide⟩
theorem pX2_draw : z_np mX2_draw 0 := fun sig hs => by
  have e : (parseMethodDescriptor yX2_draw.desc).map (fun d => d.parameters.length) = some 0 := by decide +kernel
  rw [hs] at e
  exact (Option.some.inj e).symm
theorem vX2_draw : z_okV mX2_draw 2 0 := ⟨oX2_draw, pX2_draw, z_in (z_t3 22 (by decide +kernel)) rfl, z_in (z_tp 28 (by decide +kernel)) rfl, _, _, rfl⟩
abbrev mX2_strike : zM := (yX2_strike, cX2_strike, 3, Option.none, 1)
theorem oX2_strike : z_ok mX2_strike := ⟨z_in (z_t3 19 (by decide +kernel)) rfl, z_iX2, by decide, by decide, by decide⟩
theorem pX2_strike : z_np mX2_strike 0 := fun sig hs => by
  have e : (parseMethodDescriptor yX2_strike.desc).map (fun d => d.parameters.length) = some 0 := by decide +kernel
  rw [hs] at e
  exact (Option.some.inj e).symm
theorem vX2_strike : z_okV mX2_strike 2 0 := ⟨oX2_strike, pX2_strike, z_in (z_t3 18 (by decide +kernel)) rfl, z_in (z_tp 27 (by decide +kernel)) rfl, _, _, rfl⟩
abbrev mX2_notesThere : zM := (yX2_notesThere, cX2_notesThere, 3, Option.some Jvm.ClassFile.FieldType.int, 0)
theorem oX2_notesThere : z_ok mX2_notesThere := ⟨z_in (z_t3 6 (by decide +kernel)) rfl, z_iX2, by decide, by decide, by decide⟩
theorem pX2_notesThere : z_np mX2_notesThere 0 := fun sig hs => by
  have e : (parseMethodDescriptor yX2_notesThere.desc).map (fun d => d.parameters.length) = some 0 := by decide +kernel
  rw [hs] at e
  exact (Option.some.inj e).symm
theorem vX2_notesThere : z_okV mX2_notesThere 2 0 := ⟨oX2_notesThere, pX2_notesThere, z_in (z_t3 5 (by decide +kernel)) rfl, z_in (z_tp 26 (by decide +kernel)) rfl, _, _, rfl⟩
abbrev mX2_isRing : zM := (yX2_isRing, cX2_isRing, 4, Option.some Jvm.ClassFile.FieldType.boolean, 2)
theorem oX2_isRing : z_ok mX2_isRing := ⟨z_in (z_t2 226 (by decide +kernel)) rfl, z_iX2, by decide, by decide, by decide⟩
theorem pX2_isRing : z_np mX2_isRing 1 := fun sig hs => by
  have e : (parseMethodDescriptor yX2_isRing.desc).map (fun d => d.parameters.length) = some 1 := by decide +kernel
  rw [hs] at e
  exact (Option.some.inj e).symm
theorem vX2_isRing : z_okV mX2_isRing 2 1 := ⟨oX2_isRing, pX2_isRing, z_in (z_t2 225 (by decide +kernel)) rfl, z_in (z_tp 25 (by decide +kernel)) rfl, _, _, rfl⟩
abbrev mX2_greatestRing : zM := (yX2_greatestRing, cX2_greatestRing, 3, Option.some Jvm.ClassFile.FieldType.int, 3)
theorem oX2_greatestRing : z_ok mX2_greatestRing := ⟨z_in (z_t2 221 (by decide +kernel)) rfl, z_iX2, by decide, by decide, by decide⟩
theorem pX2_greatestRing : z_np mX2_greatestRing 0 := fun sig hs => by
  have e : (parseMethodDescriptor yX2_greatestRing.desc).map (fun d => d.parameters.length) = some 0 := by decide +kernel
  rw [hs] at e
  exact (Option.some.inj e).symm
theorem vX2_greatestRing : z_okV mX2_greatestRing 2 0 := ⟨oX2_greatestRing, pX2_greatestRing, z_in (z_t2 220 (by decide +kernel)) rfl, z_in (z_tp 24 (by decide +kernel)) rfl, _, _, rfl⟩
abbrev mX2_followsInRing : zM := (yX2_followsInRing, cX2_followsInRing, 4, Option.some Jvm.ClassFile.FieldType.boolean, 0)
theorem oX2_followsInRing : z_ok mX2_followsInRing := ⟨z_in (z_t3 209 (by decide +kernel)) rfl, z_iX2, by decide, by decide, by decide⟩
theorem pX2_followsInRing : z_np mX2_followsInRing 2 := fun sig hs => by
  have e : (parseMethodDescriptor yX2_followsInRing.desc).map (fun d => d.parameters.length) = some 2 := by decide +kernel
  rw [hs] at e
  exact (Option.some.inj e).symm
theorem vX2_followsInRing : z_okV mX2_followsInRing 2 2 := ⟨oX2_followsInRing, pX2_followsInRing, z_in (z_t3 208 (by decide +kernel)) rfl, z_in (z_tp 45 (by decide +kernel)) rfl, _, _, rfl⟩
abbrev mX3_net : zM := (yX3_net, cX3_net, 4, Option.some Jvm.ClassFile.FieldType.int, 2)
theorem oX3_net : z_ok mX3_net := ⟨z_in (z_t1 169 (by decide +kernel)) rfl, z_iX3, by decide, by decide, by decide⟩
theorem pX3_net : z_np mX3_net 2 := fun sig hs => by
  have e : (parseMethodDescriptor yX3_net.desc).map (fun d => d.parameters.length) = some 2 := by decide +kernel
  rw [hs] at e
  exact (Option.some.inj e).symm
theorem vX3_net : z_okV mX3_net 3 2 := ⟨oX3_net, pX3_net, z_in (z_t1 167 (by decide +kernel)) rfl, z_in (z_t1 168 (by decide +kernel)) rfl, _, _, rfl⟩
abbrev mX3_thick : zM := (yX3_thick, cX3_thick, 4, Option.some Jvm.ClassFile.FieldType.int, 1)
theorem oX3_thick : z_ok mX3_thick := ⟨z_in (z_t1 193 (by decide +kernel)) rfl, z_iX3, by decide, by decide, by decide⟩
theorem pX3_thick : z_np mX3_thick 2 := fun sig hs => by
  have e : (parseMethodDescriptor yX3_thick.desc).map (fun d => d.parameters.length) = some 2 := by decide +kernel
  rw [hs] at e
  exact (Option.some.inj e).symm
theorem vX3_thick : z_okV mX3_thick 3 2 := ⟨oX3_thick, pX3_thick, z_in (z_t1 191 (by decide +kernel)) rfl, z_in (z_t1 192 (by decide +kernel)) rfl, _, _, rfl⟩
abbrev mX3_cell : zM := (yX3_cell, cX3_cell, 3, Option.some Jvm.ClassFile.FieldType.int, 3)
theorem oX3_cell : z_ok mX3_cell := ⟨z_in (z_t1 197 (by decide +kernel)) rfl, z_iX3, by decide, by decide, by decide⟩
theorem pX3_cell : z_np mX3_cell 2 := fun sig hs => by
  have e : (parseMethodDescriptor yX3_cell.desc).map (fun d => d.parameters.length) = some 2 := by decide +kernel
  rw [hs] at e
  exact (Option.some.inj e).symm
theorem vX3_cell : z_okV mX3_cell 3 2 := ⟨oX3_cell, pX3_cell, z_in (z_t1 195 (by decide +kernel)) rfl, z_in (z_t1 196 (by decide +kernel)) rfl, _, _, rfl⟩
abbrev mX3_hunter : zM := (yX3_hunter, cX3_hunter, 4, Option.some Jvm.ClassFile.FieldType.int, 1)
theorem oX3_hunter : z_ok mX3_hunter := ⟨z_in (z_t1 223 (by decide +kernel)) rfl, z_iX3, by decide, by decide, by decide⟩
theorem pX3_hunter : z_np mX3_hunter 2 := fun sig hs => by
  have e : (parseMethodDescriptor yX3_hunter.desc).map (fun d => d.parameters.length) = some 2 := by decide +kernel
  rw [hs] at e
  exact (Option.some.inj e).symm
theorem vX3_hunter : z_okV mX3_hunter 3 2 := ⟨oX3_hunter, pX3_hunter, z_in (z_t1 221 (by decide +kernel)) rfl, z_in (z_t1 222 (by decide +kernel)) rfl, _, _, rfl⟩
abbrev mX3_fear : zM := (yX3_fear, cX3_fear, 3, Option.some Jvm.ClassFile.FieldType.int, 1)
theorem oX3_fear : z_ok mX3_fear := ⟨z_in (z_t1 230 (by decide +kernel)) rfl, z_iX3, by decide, by decide, by decide⟩
theorem pX3_fear : z_np mX3_fear 1 := fun sig hs => by
  have e : (parseMethodDescriptor yX3_fear.desc).map (fun d => d.parameters.length) = some 1 := by decide +kernel
  rw [hs] at e
  exact (Option.some.inj e).symm
theorem vX3_fear : z_okV mX3_fear 3 1 := ⟨oX3_fear, pX3_fear, z_in (z_t1 228 (by decide +kernel)) rfl, z_in (z_t1 229 (by decide +kernel)) rfl, _, _, rfl⟩
abbrev mX3_bell : zM := (yX3_bell, cX3_bell, 3, Option.some Jvm.ClassFile.FieldType.int, 1)
theorem oX3_bell : z_ok mX3_bell := ⟨z_in (z_t1 234 (by decide +kernel)) rfl, z_iX3, by decide, by decide, by decide⟩
theorem pX3_bell : z_np mX3_bell 2 := fun sig hs => by
  have e : (parseMethodDescriptor yX3_bell.desc).map (fun d => d.parameters.length) = some 2 := by decide +kernel
  rw [hs] at e
  exact (Option.some.inj e).symm
theorem vX3_bell : z_okV mX3_bell 3 2 := ⟨oX3_bell, pX3_bell, z_in (z_t1 232 (by decide +kernel)) rfl, z_in (z_t1 233 (by decide +kernel)) rfl, _, _, rfl⟩
abbrev mX3_of : zM := (yX3_of, cX3_of, 3, Option.some Jvm.ClassFile.FieldType.int, 4)
theorem oX3_of : z_ok mX3_of := ⟨z_in (z_t2 5 (by decide +kernel)) rfl, z_iX3, by decide, by decide, by decide⟩
theorem pX3_of : z_np mX3_of 2 := fun sig hs => by
  have e : (parseMethodDescriptor yX3_of.desc).map (fun d => d.parameters.length) = some 2 := by decide +kernel
  rw [hs] at e
  exact (Option.some.inj e).symm
theorem vX3_of : z_okV mX3_of 3 2 := ⟨oX3_of, pX3_of, z_in (z_t2 3 (by decide +kernel)) rfl, z_in (z_t2 4 (by decide +kernel)) rfl, _, _, rfl⟩
abbrev mX3_change : zM := (yX3_change, cX3_change, 5, Option.some Jvm.ClassFile.FieldType.int, 2)
theorem oX3_change : z_ok mX3_change := ⟨z_in (z_t2 48 (by decide +kernel)) rfl, z_iX3, by decide, by decide, by decide⟩
theorem pX3_change : z_np mX3_change 3 := fun sig hs => by
  have e : (parseMethodDescriptor yX3_change.desc).map (fun d => d.parameters.length) = some 3 := by decide +kernel
  rw [hs] at e
  exact (Option.some.inj e).symm
theorem vX3_change : z_okV mX3_change 3 3 := ⟨oX3_change, pX3_change, z_in (z_t2 46 (by decide +kernel)) rfl, z_in (z_t2 47 (by decide +kernel)) rfl, _, _, rfl⟩
abbrev mX3_worth : zM := (yX3_worth, cX3_worth, 3, Option.some Jvm.ClassFile.FieldType.int, 3)
theorem oX3_worth : z_ok mX3_worth := ⟨z_in (z_t2 65 (by decide +kernel)) rfl, z_iX3, by decide, by decide, by decide⟩
theorem pX3_worth : z_np mX3_worth 2 := fun sig hs => by
  have e : (parseMethodDescriptor yX3_worth.desc).map (fun d => d.parameters.length) = some 2 := by decide +kernel
  rw [hs] at e
  exact (Option.some.inj e).symm
theorem vX3_worth : z_okV mX3_worth 3 2 := ⟨oX3_worth, pX3_worth, z_in (z_t2 63 (by decide +kernel)) rfl, z_in (z_t2 64 (by decide +kernel)) rfl, _, _, rfl⟩
abbrev mX3_go : zM := (yX3_go, cX3_go, 3, Option.some Jvm.ClassFile.FieldType.int, 5)
theorem oX3_go : z_ok mX3_go := ⟨z_in (z_t2 69 (by decide +kernel)) rfl, z_iX3, by decide, by decide, by decide⟩
theorem pX3_go : z_np mX3_go 1 := fun sig hs => by
  have e : (parseMethodDescriptor yX3_go.desc).map (fun d => d.parameters.length) = some 1 := by decide +kernel
  rw [hs] at e
  exact (Option.some.inj e).symm
theorem vX3_go : z_okV mX3_go 3 1 := ⟨oX3_go, pX3_go, z_in (z_t2 67 (by decide +kernel)) rfl, z_in (z_t2 68 (by decide +kernel)) rfl, _, _, rfl⟩
abbrev mX3_now : zM := (yX3_now, cX3_now, 2, Option.some Jvm.ClassFile.FieldType.int, 2)
theorem oX3_now : z_ok mX3_now := ⟨z_in (z_t2 87 (by decide +kernel)) rfl, z_iX3, by decide, by decide, by decide⟩
theorem pX3_now : z_np mX3_now 1 := fun sig hs => by
  have e : (parseMethodDescriptor yX3_now.desc).map (fun d => d.parameters.length) = some 1 := by decide +kernel
  rw [hs] at e
  exact (Option.some.inj e).symm
theorem vX3_now : z_okV mX3_now 3 1 := ⟨oX3_now, pX3_now, z_in (z_t2 85 (by decide +kernel)) rfl, z_in (z_t2 86 (by decide +kernel)) rfl, _, _, rfl⟩
abbrev mX3_loud : zM := (yX3_loud, cX3_loud, 3, Option.some Jvm.ClassFile.FieldType.int, 2)
theorem oX3_loud : z_ok mX3_loud := ⟨z_in (z_t2 101 (by decide +kernel)) rfl, z_iX3, by decide, by decide, by decide⟩
theorem pX3_loud : z_np mX3_loud 2 := fun sig hs => by
  have e : (parseMethodDescriptor yX3_loud.desc).map (fun d => d.parameters.length) = some 2 := by decide +kernel
  rw [hs] at e
  exact (Option.some.inj e).symm
theorem vX3_loud : z_okV mX3_loud 3 2 := ⟨oX3_loud, pX3_loud, z_in (z_t2 99 (by decide +kernel)) rfl, z_in (z_t2 100 (by decide +kernel)) rfl, _, _, rfl⟩
abbrev mX3_ahead : zM := (yX3_ahead, cX3_ahead, 3, Option.some Jvm.ClassFile.FieldType.int, 6)
theorem oX3_ahead : z_ok mX3_ahead := ⟨z_in (z_t2 107 (by decide +kernel)) rfl, z_iX3, by decide, by decide, by decide⟩
theorem pX3_ahead : z_np mX3_ahead 2 := fun sig hs => by
  have e : (parseMethodDescriptor yX3_ahead.desc).map (fun d => d.parameters.length) = some 2 := by decide +kernel
  rw [hs] at e
  exact (Option.some.inj e).symm
theorem vX3_ahead : z_okV mX3_ahead 3 2 := ⟨oX3_ahead, pX3_ahead, z_in (z_t2 105 (by decide +kernel)) rfl, z_in (z_t2 106 (by decide +kernel)) rfl, _, _, rfl⟩
abbrev mX3_when : zM := (yX3_when, cX3_when, 3, Option.some Jvm.ClassFile.FieldType.int, 6)
theorem oX3_when : z_ok mX3_when := ⟨z_in (z_t2 123 (by decide +kernel)) rfl, z_iX3, by decide, by decide, by decide⟩
theorem pX3_when : z_np mX3_when 1 := fun sig hs => by
  have e : (parseMethodDescriptor yX3_when.desc).map (fun d => d.parameters.length) = some 1 := by decide +kernel
  rw [hs] at e
  exact (Option.some.inj e).symm
theorem vX3_when : z_okV mX3_when 3 1 := ⟨oX3_when, pX3_when, z_in (z_t2 121 (by decide +kernel)) rfl, z_in (z_t2 122 (by decide +kernel)) rfl, _, _, rfl⟩
abbrev mX3_still : zM := (yX3_still, cX3_still, 2, Option.some Jvm.ClassFile.FieldType.int, 5)
theorem oX3_still : z_ok mX3_still := ⟨z_in (z_t2 131 (by decide +kernel)) rfl, z_iX3, by decide, by decide, by decide⟩
theorem pX3_still : z_np mX3_still 0 := fun sig hs => by
  have e : (parseMethodDescriptor yX3_still.desc).map (fun d => d.parameters.length) = some 0 := by decide +kernel
  rw [hs] at e
  exact (Option.some.inj e).symm
theorem vX3_still : z_okV mX3_still 3 0 := ⟨oX3_still, pX3_still, z_in (z_t2 129 (by decide +kernel)) rfl, z_in (z_t2 130 (by decide +kernel)) rfl, _, _, rfl⟩
abbrev mX3_caught : zM := (yX3_caught, cX3_caught, 2, Option.some Jvm.ClassFile.FieldType.int, 6)
theorem oX3_caught : z_ok mX3_caught := ⟨z_in (z_t2 135 (by decide +kernel)) rfl, z_iX3, by decide, by decide, by decide⟩
theorem pX3_caught : z_np mX3_caught 1 := fun sig hs => by
  have e : (parseMethodDescriptor yX3_caught.desc).map (fun d => d.parameters.length) = some 1 := by decide +kernel
  rw [hs] at e
  exact (Option.some.inj e).symm
theorem vX3_caught : z_okV mX3_caught 3 1 := ⟨oX3_caught, pX3_caught, z_in (z_t2 133 (by decide +kernel)) rfl, z_in (z_t2 134 (by decide +kernel)) rfl, _, _, rfl⟩
abbrev mX3_netFor : zM := (yX3_netFor, cX3_netFor, 9, Option.some Jvm.ClassFile.FieldType.int, 6)
theorem oX3_netFor : z_ok mX3_netFor := ⟨z_in (z_t2 139 (by decide +kernel)) rfl, z_iX3, by decide, by decide, by decide⟩
theorem pX3_netFor : z_np mX3_netFor 1 := fun sig hs => by
  have e : (parseMethodDescriptor yX3_netFor.desc).map (fun d => d.parameters.length) = some 1 := by decide +kernel
  rw [hs] at e
  exact (Option.some.inj e).symm
theorem vX3_netFor : z_okV mX3_netFor 3 1 := ⟨oX3_netFor, pX3_netFor, z_in (z_t2 137 (by decide +kernel)) rfl, z_in (z_t2 138 (by decide +kernel)) rfl, _, _, rfl⟩
abbrev mX3_best : zM := (yX3_best, cX3_best, 9, Option.some Jvm.ClassFile.FieldType.int, 6)
theorem oX3_best : z_ok mX3_best := ⟨z_in (z_t2 144 (by decide +kernel)) rfl, z_iX3, by decide, by decide, by decide⟩
theorem pX3_best : z_np mX3_best 1 := fun sig hs => by
  have e : (parseMethodDescriptor yX3_best.desc).map (fun d => d.parameters.length) = some 1 := by decide +kernel
  rw [hs] at e
  exact (Option.some.inj e).symm
theorem vX3_best : z_okV mX3_best 3 1 := ⟨oX3_best, pX3_best, z_in (z_t2 142 (by decide +kernel)) rfl, z_in (z_t2 143 (by decide +kernel)) rfl, _, _, rfl⟩
abbrev mX3_drive : zM := (yX3_drive, cX3_drive, 7, Option.some Jvm.ClassFile.FieldType.int, 6)
theorem oX3_drive : z_ok mX3_drive := ⟨z_in (z_t2 148 (by decide +kernel)) rfl, z_iX3, by decide, by decide, by decide⟩
theorem pX3_drive : z_np mX3_drive 2 := fun sig hs => by
  have e : (parseMethodDescriptor yX3_drive.desc).map (fun d => d.parameters.length) = some 2 := by decide +kernel
  rw [hs] at e
  exact (Option.some.inj e).symm
theorem vX3_drive : z_okV mX3_drive 3 2 := ⟨oX3_drive, pX3_drive, z_in (z_t2 146 (by decide +kernel)) rfl, z_in (z_t2 147 (by decide +kernel)) rfl, _, _, rfl⟩
abbrev mX3_kindFor : zM := (yX3_kindFor, cX3_kindFor, 7, Option.some Jvm.ClassFile.FieldType.int, 6)
theorem oX3_kindFor : z_ok mX3_kindFor := ⟨z_in (z_t2 152 (by decide +kernel)) rfl, z_iX3, by decide, by decide, by decide⟩
theorem pX3_kindFor : z_np mX3_kindFor 1 := fun sig hs => by
  have e : (parseMethodDescriptor yX3_kindFor.desc).map (fun d => d.parameters.length) = some 1 := by decide +kernel
  rw [hs] at e
  exact (Option.some.inj e).symm
theorem vX3_kindFor : z_okV mX3_kindFor 3 1 := ⟨oX3_kindFor, pX3_kindFor, z_in (z_t2 150 (by decide +kernel)) rfl, z_in (z_t2 151 (by decide +kernel)) rfl, _, _, rfl⟩
abbrev mX3_stands : zM := (yX3_stands, cX3_stands, 4, Option.some Jvm.ClassFile.FieldType.int, 4)
theorem oX3_stands : z_ok mX3_stands := ⟨z_in (z_t2 156 (by decide +kernel)) rfl, z_iX3, by decide, by decide, by decide⟩
theorem pX3_stands : z_np mX3_stands 2 := fun sig hs => by
  have e : (parseMethodDescriptor yX3_stands.desc).map (fun d => d.parameters.length) = some 2 := by decide +kernel
  rw [hs] at e
  exact (Option.some.inj e).symm
theorem vX3_stands : z_okV mX3_stands 3 2 := ⟨oX3_stands, pX3_stands, z_in (z_t2 154 (by decide +kernel)) rfl, z_in (z_t2 155 (by decide +kernel)) rfl, _, _, rfl⟩
abbrev mX3_where : zM := (yX3_where, cX3_where, 7, Option.some Jvm.ClassFile.FieldType.int, 4)
theorem oX3_where : z_ok mX3_where := ⟨z_in (z_t2 185 (by decide +kernel)) rfl, z_iX3, by decide, by decide, by decide⟩
theorem pX3_where : z_np mX3_where 2 := fun sig hs => by
  have e : (parseMethodDescriptor yX3_where.desc).map (fun d => d.parameters.length) = some 2 := by decide +kernel
  rw [hs] at e
  exact (Option.some.inj e).symm
theorem vX3_where : z_okV mX3_where 3 2 := ⟨oX3_where, pX3_where, z_in (z_t2 183 (by decide +kernel)) rfl, z_in (z_t2 184 (by decide +kernel)) rfl, _, _, rfl⟩
abbrev mX3_ear : zM := (yX3_ear, cX3_ear, 10, Option.some Jvm.ClassFile.FieldType.int, 4)
theorem oX3_ear : z_ok mX3_ear := ⟨z_in (z_t2 189 (by decide +kernel)) rfl, z_iX3, by decide, by decide, by decide⟩
theorem pX3_ear : z_np mX3_ear 2 := fun sig hs => by
  have e : (parseMethodDescriptor yX3_ear.desc).map (fun d => d.parameters.length) = some 2 := by decide +kernel
  rw [hs] at e
  exact (Option.some.inj e).symm
theorem vX3_ear : z_okV mX3_ear 3 2 := ⟨oX3_ear, pX3_ear, z_in (z_t2 187 (by decide +kernel)) rfl, z_in (z_t2 188 (by decide +kernel)) rfl, _, _, rfl⟩
abbrev mX3_whose : zM := (yX3_whose, cX3_whose, 5, Option.some Jvm.ClassFile.FieldType.int, 3)
theorem oX3_whose : z_ok mX3_whose := ⟨z_in (z_t2 197 (by decide +kernel)) rfl, z_iX3, by decide, by decide, by decide⟩
theorem pX3_whose : z_np mX3_whose 1 := fun sig hs => by
  have e : (parseMethodDescriptor yX3_whose.desc).map (fun d => d.parameters.length) = some 1 := by decide +kernel
  rw [hs] at e
  exact (Option.some.inj e).symm
theorem vX3_whose : z_okV mX3_whose 3 1 := ⟨oX3_whose, pX3_whose, z_in (z_t2 195 (by decide +kernel)) rfl, z_in (z_t2 196 (by decide +kernel)) rfl, _, _, rfl⟩
abbrev mX3_stock : zM := (yX3_stock, cX3_stock, 4, Option.some Jvm.ClassFile.FieldType.int, 2)
theorem oX3_stock : z_ok mX3_stock := ⟨z_in (z_t2 202 (by decide +kernel)) rfl, z_iX3, by decide, by decide, by decide⟩
theorem pX3_stock : z_np mX3_stock 3 := fun sig hs => by
  have e : (parseMethodDescriptor yX3_stock.desc).map (fun d => d.parameters.length) = some 3 := by decide +kernel
  rw [hs] at e
  exact (Option.some.inj e).symm
theorem vX3_stock : z_okV mX3_stock 3 3 := ⟨oX3_stock, pX3_stock, z_in (z_t2 200 (by decide +kernel)) rfl, z_in (z_t2 201 (by decide +kernel)) rfl, _, _, rfl⟩
abbrev mX3_lasts : zM := (yX3_lasts, cX3_lasts, 7, Option.some Jvm.ClassFile.FieldType.int, 2)
theorem oX3_lasts : z_ok mX3_lasts := ⟨z_in (z_t2 213 (by decide +kernel)) rfl, z_iX3, by decide, by decide, by decide⟩
theorem pX3_lasts : z_np mX3_lasts 2 := fun sig hs => by
  have e : (parseMethodDescriptor yX3_lasts.desc).map (fun d => d.parameters.length) = some 2 := by decide +kernel
  rw [hs] at e
  exact (Option.some.inj e).symm
theorem vX3_lasts : z_okV mX3_lasts 3 2 := ⟨oX3_lasts, pX3_lasts, z_in (z_t2 211 (by decide +kernel)) rfl, z_in (z_t2 212 (by decide +kernel)) rfl, _, _, rfl⟩
abbrev mX3_ring : zM := (yX3_ring, cX3_ring, 1, Option.some Jvm.ClassFile.FieldType.int, 4)
theorem oX3_ring : z_ok mX3_ring := ⟨z_in (z_t2 217 (by decide +kernel)) rfl, z_iX3, by decide, by decide, by decide⟩
theorem pX3_ring : z_np mX3_ring 0 := fun sig hs => by
  have e : (parseMethodDescriptor yX3_ring.desc).map (fun d => d.parameters.length) = some 0 := by decide +kernel
  rw [hs] at e
  exact (Option.some.inj e).symm
theorem vX3_ring : z_okV mX3_ring 3 0 := ⟨oX3_ring, pX3_ring, z_in (z_t2 215 (by decide +kernel)) rfl, z_in (z_t2 216 (by decide +kernel)) rfl, _, _, rfl⟩
abbrev mX3_rings : zM := (yX3_rings, cX3_rings, 1, Option.some Jvm.ClassFile.FieldType.int, 4)
theorem oX3_rings : z_ok mX3_rings := ⟨z_in (z_t2 233 (by decide +kernel)) rfl, z_iX3, by decide, by decide, by decide⟩
theorem pX3_rings : z_np mX3_rings 0 := fun sig hs => by
  have e : (parseMethodDescriptor yX3_rings.desc).map (fun d => d.parameters.length) = some 0 := by decide +kernel
  rw [hs] at e
  exact (Option.some.inj e).symm
theorem vX3_rings : z_okV mX3_rings 3 0 := ⟨oX3_rings, pX3_rings, z_in (z_t2 231 (by decide +kernel)) rfl, z_in (z_t2 232 (by decide +kernel)) rfl, _, _, rfl⟩
abbrev mX3_peals : zM := (yX3_peals, cX3_peals, 3, Option.some Jvm.ClassFile.FieldType.int, 3)
theorem oX3_peals : z_ok mX3_peals := ⟨z_in (z_t2 237 (by decide +kernel)) rfl, z_iX3, by decide, by decide, by decide⟩
theorem pX3_peals : z_np mX3_peals 0 := fun sig hs => by
  have e : (parseMethodDescriptor yX3_peals.desc).map (fun d => d.parameters.length) = some 0 := by decide +kernel
  rw [hs] at e
  exact (Option.some.inj e).symm
theorem vX3_peals : z_okV mX3_peals 3 0 := ⟨oX3_peals, pX3_peals, z_in (z_t2 235 (by decide +kernel)) rfl, z_in (z_t2 236 (by decide +kernel)) rfl, _, _, rfl⟩
abbrev mX3_wanted : zM := (yX3_wanted, cX3_wanted, 6, Option.some Jvm.ClassFile.FieldType.int, 2)
theorem oX3_wanted : z_ok mX3_wanted := ⟨z_in (z_t3 2 (by decide +kernel)) rfl, z_iX3, by decide, by decide, by decide⟩
theorem pX3_wanted : z_np mX3_wanted 0 := fun sig hs => by
  have e : (parseMethodDescriptor yX3_wanted.desc).map (fun d => d.parameters.length) = some 0 := by decide +kernel
  rw [hs] at e
  exact (Option.some.inj e).symm
theorem vX3_wanted : z_okV mX3_wanted 3 0 := ⟨oX3_wanted, pX3_wanted, z_in (z_t3 0 (by decide +kernel)) rfl, z_in (z_t3 1 (by decide +kernel)) rfl, _, _, rfl⟩
abbrev mX3_changes : zM := (yX3_changes, cX3_changes, 5, Option.some Jvm.ClassFile.FieldType.long, 1)
theorem oX3_changes : z_ok mX3_changes := ⟨z_in (z_t3 11 (by decide +kernel)) rfl, z_iX3, by decide, by decide, by decide⟩
theorem pX3_changes : z_np mX3_changes 1 := fun sig hs => by
  have e : (parseMethodDescriptor yX3_changes.desc).map (fun d => d.parameters.length) = some 1 := by decide +kernel
  rw [hs] at e
  exact (Option.some.inj e).symm
theorem vX3_changes : z_okV mX3_changes 3 1 := ⟨oX3_changes, pX3_changes, z_in (z_t3 9 (by decide +kernel)) rfl, z_in (z_t3 10 (by decide +kernel)) rfl, _, _, rfl⟩
abbrev mX3_thunder : zM := (yX3_thunder, cX3_thunder, 3, Option.some Jvm.ClassFile.FieldType.int, 5)
theorem oX3_thunder : z_ok mX3_thunder := ⟨z_in (z_t3 15 (by decide +kernel)) rfl, z_iX3, by decide, by decide, by decide⟩
theorem pX3_thunder : z_np mX3_thunder 1 := fun sig hs => by
  have e : (parseMethodDescriptor yX3_thunder.desc).map (fun d => d.parameters.length) = some 1 := by decide +kernel
  rw [hs] at e
  exact (Option.some.inj e).symm
theorem vX3_thunder : z_okV mX3_thunder 3 1 := ⟨oX3_thunder, pX3_thunder, z_in (z_t3 13 (by decide +kernel)) rfl, z_in (z_t3 14 (by decide +kernel)) rfl, _, _, rfl⟩
abbrev mX3_seed : zM := (yX3_seed, cX3_seed, 3, Option.some Jvm.ClassFile.FieldType.int, 0)
theorem oX3_seed : z_ok mX3_seed := ⟨z_in (z_t3 28 (by decide +kernel)) rfl, z_iX3, by decide, by decide, by decide⟩
theorem pX3_seed : z_np mX3_seed 1 := fun sig hs => by
  have e : (parseMethodDescriptor yX3_seed.desc).map (fun d => d.parameters.length) = some 1 := by decide +kernel
  rw [hs] at e
  exact (Option.some.inj e).symm
theorem vX3_seed : z_okV mX3_seed 3 1 := ⟨oX3_seed, pX3_seed, z_in (z_t3 26 (by decide +kernel)) rfl, z_in (z_t3 27 (by decide +kernel)) rfl, _, _, rfl⟩
abbrev mX3_feed : zM := (yX3_feed, cX3_feed, 4, Option.some Jvm.ClassFile.FieldType.int, 1)
theorem oX3_feed : z_ok mX3_feed := ⟨z_in (z_t3 32 (by decide +kernel)) rfl, z_iX3, by decide, by decide, by decide⟩
theorem pX3_feed : z_np mX3_feed 2 := fun sig hs => by
  have e : (parseMethodDescriptor yX3_feed.desc).map (fun d => d.parameters.length) = some 2 := by decide +kernel
  rw [hs] at e
  exact (Option.some.inj e).symm
theorem vX3_feed : z_okV mX3_feed 3 2 := ⟨oX3_feed, pX3_feed, z_in (z_t3 30 (by decide +kernel)) rfl, z_in (z_t3 31 (by decide +kernel)) rfl, _, _, rfl⟩
abbrev mX3_wipe : zM := (yX3_wipe, cX3_wipe, 2, Option.some Jvm.ClassFile.FieldType.int, 0)
theorem oX3_wipe : z_ok mX3_wipe := ⟨z_in (z_t3 40 (by decide +kernel)) rfl, z_iX3, by decide, by decide, by decide⟩
theorem pX3_wipe : z_np mX3_wipe 0 := fun sig hs => by
  have e : (parseMethodDescriptor yX3_wipe.desc).map (fun d => d.parameters.length) = some 0 := by decide +kernel
  rw [hs] at e
  exact (Option.some.inj e).symm
theorem vX3_wipe : z_okV mX3_wipe 3 0 := ⟨oX3_wipe, pX3_wipe, z_in (z_t3 38 (by decide +kernel)) rfl, z_in (z_t3 39 (by decide +kernel)) rfl, _, _, rfl⟩
abbrev mX3_text : zM := (yX3_text, cX3_text, 2, Option.some Jvm.ClassFile.FieldType.int, 11)
theorem oX3_text : z_ok mX3_text := ⟨z_in (z_t3 44 (by decide +kernel)) rfl, z_iX3, by decide, by decide, by decide⟩
theorem pX3_text : z_np mX3_text 0 := fun sig hs => by
  have e : (parseMethodDescriptor yX3_text.desc).map (fun d => d.parameters.length) = some 0 := by decide +kernel
  rw [hs] at e
  exact (Option.some.inj e).symm
theorem vX3_text : z_okV mX3_text 3 0 := ⟨oX3_text, pX3_text, z_in (z_t3 42 (by decide +kernel)) rfl, z_in (z_t3 43 (by decide +kernel)) rfl, _, _, rfl⟩
abbrev mX3_hold : zM := (yX3_hold, cX3_hold, 3, Option.some Jvm.ClassFile.FieldType.int, 1)
theorem oX3_hold : z_ok mX3_hold := ⟨z_in (z_t3 164 (by decide +kernel)) rfl, z_iX3, by decide, by decide, by decide⟩
theorem pX3_hold : z_np mX3_hold 2 := fun sig hs => by
  have e : (parseMethodDescriptor yX3_hold.desc).map (fun d => d.parameters.length) = some 2 := by decide +kernel
  rw [hs] at e
  exact (Option.some.inj e).symm
theorem vX3_hold : z_okV mX3_hold 3 2 := ⟨oX3_hold, pX3_hold, z_in (z_t3 162 (by decide +kernel)) rfl, z_in (z_t3 163 (by decide +kernel)) rfl, _, _, rfl⟩
abbrev mX3_as : zM := (yX3_as, cX3_as, 4, Option.some Jvm.ClassFile.FieldType.int, 1)
theorem oX3_as : z_ok mX3_as := ⟨z_in (z_t3 171 (by decide +kernel)) rfl, z_iX3, by decide, by decide, by decide⟩
theorem pX3_as : z_np mX3_as 2 := fun sig hs => by
  have e : (parseMethodDescriptor yX3_as.desc).map (fun d => d.parameters.length) = some 2 := by decide +kernel
  rw [hs] at e
  exact (Option.some.inj e).symm
theorem vX3_as : z_okV mX3_as 3 2 := ⟨oX3_as, pX3_as, z_in (z_t3 169 (by decide +kernel)) rfl, z_in (z_t3 170 (by decide +kernel)) rfl, _, _, rfl⟩
abbrev mX3_sheet : zM := (yX3_sheet, cX3_sheet, 4, Option.some Jvm.ClassFile.FieldType.int, 1)
theorem oX3_sheet : z_ok mX3_sheet := ⟨z_in (z_t3 176 (by decide +kernel)) rfl, z_iX3, by decide, by decide, by decide⟩
theorem pX3_sheet : z_np mX3_sheet 3 := fun sig hs => by
  have e : (parseMethodDescriptor yX3_sheet.desc).map (fun d => d.parameters.length) = some 3 := by decide +kernel
  rw [hs] at e
  exact (Option.some.inj e).symm
theorem vX3_sheet : z_okV mX3_sheet 3 3 := ⟨oX3_sheet, pX3_sheet, z_in (z_t3 174 (by decide +kernel)) rfl, z_in (z_t3 175 (by decide +kernel)) rfl, _, _, rfl⟩
abbrev mX3_write : zM := (yX3_write, cX3_write, 4, Option.some Jvm.ClassFile.FieldType.int, 1)
theorem oX3_write : z_ok mX3_write := ⟨z_in (z_t3 184 (by decide +kernel)) rfl, z_iX3, by decide, by decide, by decide⟩
theorem pX3_write : z_np mX3_write 3 := fun sig hs => by
  have e : (parseMethodDescriptor yX3_write.desc).map (fun d => d.parameters.length) = some 3 := by decide +kernel
  rw [hs] at e
  exact (Option.some.inj e).symm
theorem vX3_write : z_okV mX3_write 3 3 := ⟨oX3_write, pX3_write, z_in (z_t3 182 (by decide +kernel)) rfl, z_in (z_t3 183 (by decide +kernel)) rfl, _, _, rfl⟩
abbrev mX3_copy : zM := (yX3_copy, cX3_copy, 8, Option.some Jvm.ClassFile.FieldType.int, 1)
theorem oX3_copy : z_ok mX3_copy := ⟨z_in (z_t3 192 (by decide +kernel)) rfl, z_iX3, by decide, by decide, by decide⟩
theorem pX3_copy : z_np mX3_copy 5 := fun sig hs => by
  have e : (parseMethodDescriptor yX3_copy.desc).map (fun d => d.parameters.length) = some 5 := by decide +kernel
  rw [hs] at e
  exact (Option.some.inj e).symm
theorem vX3_copy : z_okV mX3_copy 3 5 := ⟨oX3_copy, pX3_copy, z_in (z_t3 190 (by decide +kernel)) rfl, z_in (z_t3 191 (by decide +kernel)) rfl, _, _, rfl⟩
abbrev mX3_load : zM := (yX3_load, cX3_load, 4, Option.some Jvm.ClassFile.FieldType.int, 1)
theorem oX3_load : z_ok mX3_load := ⟨z_in (z_t3 201 (by decide +kernel)) rfl, z_iX3, by decide, by decide, by decide⟩
theorem pX3_load : z_np mX3_load 1 := fun sig hs => by
  have e : (parseMethodDescriptor yX3_load.desc).map (fun d => d.parameters.length) = some 1 := by decide +kernel
  rw [hs] at e
  exact (Option.some.inj e).symm
theorem vX3_load : z_okV mX3_load 3 1 := ⟨oX3_load, pX3_load, z_in (z_t3 199 (by decide +kernel)) rfl, z_in (z_t3 200 (by decide +kernel)) rfl, _, _, rfl⟩
abbrev mX3_judge : zM := (yX3_judge, cX3_judge, 5, Option.some Jvm.ClassFile.FieldType.int, 1)
theorem oX3_judge : z_ok mX3_judge := ⟨z_in (z_t3 205 (by decide +kernel)) rfl, z_iX3, by decide, by decide, by decide⟩
theorem pX3_judge : z_np mX3_judge 1 := fun sig hs => by
  have e : (parseMethodDescriptor yX3_judge.desc).map (fun d => d.parameters.length) = some 1 := by decide +kernel
  rw [hs] at e
  exact (Option.some.inj e).symm
theorem vX3_judge : z_okV mX3_judge 3 1 := ⟨oX3_judge, pX3_judge, z_in (z_t3 203 (by decide +kernel)) rfl, z_in (z_t3 204 (by decide +kernel)) rfl, _, _, rfl⟩
abbrev mX3_image : zM := (yX3_image, cX3_image, 1, Option.some Jvm.ClassFile.FieldType.int, 2)
theorem oX3_image : z_ok mX3_image := ⟨z_in (z_t3 213 (by decide +kernel)) rfl, z_iX3, by decide, by decide, by decide⟩
theorem pX3_image : z_np mX3_image 0 := fun sig hs => by
  have e : (parseMethodDescriptor yX3_image.desc).map (fun d => d.parameters.length) = some 0 := by decide +kernel
  rw [hs] at e
  exact (Option.some.inj e).symm
theorem vX3_image : z_okV mX3_image 3 0 := ⟨oX3_image, pX3_image, z_in (z_t3 211 (by decide +kernel)) rfl, z_in (z_t3 212 (by decide +kernel)) rfl, _, _, rfl⟩
abbrev mX3_undo : zM := (yX3_undo, cX3_undo, 1, Option.some Jvm.ClassFile.FieldType.int, 2)
theorem oX3_undo : z_ok mX3_undo := ⟨z_in (z_t3 217 (by decide +kernel)) rfl, z_iX3, by decide, by decide, by decide⟩
theorem pX3_undo : z_np mX3_undo 0 := fun sig hs => by
  have e : (parseMethodDescriptor yX3_undo.desc).map (fun d => d.parameters.length) = some 0 := by decide +kernel
  rw [hs] at e
  exact (Option.some.inj e).symm
theorem vX3_undo : z_okV mX3_undo 3 0 := ⟨oX3_undo, pX3_undo, z_in (z_t3 215 (by decide +kernel)) rfl, z_in (z_t3 216 (by decide +kernel)) rfl, _, _, rfl⟩
abbrev mX3_tear : zM := (yX3_tear, cX3_tear, 2, Option.some Jvm.ClassFile.FieldType.int, 0)
theorem oX3_tear : z_ok mX3_tear := ⟨z_in (z_t3 221 (by decide +kernel)) rfl, z_iX3, by decide, by decide, by decide⟩
theorem pX3_tear : z_np mX3_tear 0 := fun sig hs => by
  have e : (parseMethodDescriptor yX3_tear.desc).map (fun d => d.parameters.length) = some 0 := by decide +kernel
  rw [hs] at e
  exact (Option.some.inj e).symm
theorem vX3_tear : z_okV mX3_tear 3 0 := ⟨oX3_tear, pX3_tear, z_in (z_t3 219 (by decide +kernel)) rfl, z_in (z_t3 220 (by decide +kernel)) rfl, _, _, rfl⟩
abbrev mX3_count : zM := (yX3_count, cX3_count, 2, Option.some Jvm.ClassFile.FieldType.int, 2)
theorem oX3_count : z_ok mX3_count := ⟨z_in (z_t3 225 (by decide +kernel)) rfl, z_iX3, by decide, by decide, by decide⟩
theorem pX3_count : z_np mX3_count 1 := fun sig hs => by
  have e : (parseMethodDescriptor yX3_count.desc).map (fun d => d.parameters.length) = some 1 := by decide +kernel
  rw [hs] at e
  exact (Option.some.inj e).symm
theorem vX3_count : z_okV mX3_count 3 1 := ⟨oX3_count, pX3_count, z_in (z_t3 223 (by decide +kernel)) rfl, z_in (z_t3 224 (by decide +kernel)) rfl, _, _, rfl⟩
abbrev mX3_status : zM := (yX3_status, cX3_status, 4, Option.some Jvm.ClassFile.FieldType.int, 1)
theorem oX3_status : z_ok mX3_status := ⟨z_in (z_t3 233 (by decide +kernel)) rfl, z_iX3, by decide, by decide, by decide⟩
theorem pX3_status : z_np mX3_status 1 := fun sig hs => by
  have e : (parseMethodDescriptor yX3_status.desc).map (fun d => d.parameters.length) = some 1 := by decide +kernel
  rw [hs] at e
  exact (Option.some.inj e).symm
theorem vX3_status : z_okV mX3_status 3 1 := ⟨oX3_status, pX3_status, z_in (z_t3 231 (by decide +kernel)) rfl, z_in (z_t3 232 (by decide +kernel)) rfl, _, _, rfl⟩
abbrev mX3_finding : zM := (yX3_finding, cX3_finding, 2, Option.some Jvm.ClassFile.FieldType.int, 0)
theorem oX3_finding : z_ok mX3_finding := ⟨z_in (z_t1 176 (by decide +kernel)) rfl, z_iX3, by decide, by decide, by decide⟩
theorem pX3_finding : z_np mX3_finding 1 := fun sig hs => by
  have e : (parseMethodDescriptor yX3_finding.desc).map (fun d => d.parameters.length) = some 1 := by decide +kernel
  rw [hs] at e
  exact (Option.some.inj e).symm
theorem vX3_finding : z_okV mX3_finding 3 1 := ⟨oX3_finding, pX3_finding, z_in (z_t1 175 (by decide +kernel)) rfl, z_in (z_tp 0 (by decide +kernel)) rfl, _, _, rfl⟩
abbrev mX3_isBell : zM := (yX3_isBell, cX3_isBell, 2, Option.some Jvm.ClassFile.FieldType.boolean, 0)
theorem oX3_isBell : z_ok mX3_isBell := ⟨z_in (z_t2 9 (by decide +kernel)) rfl, z_iX3, by decide, by decide, by decide⟩
theorem pX3_isBell : z_np mX3_isBell 1 := fun sig hs => by
  have e : (parseMethodDescriptor yX3_isBell.desc).map (fun d => d.parameters.length) = some 1 := by decide +kernel
  rw [hs] at e
  exact (Option.some.inj e).symm
theorem vX3_isBell : z_okV mX3_isBell 3 1 := ⟨oX3_isBell, pX3_isBell, z_in (z_t2 8 (by decide +kernel)) rfl, z_in (z_tp 7 (by decide +kernel)) rfl, _, _, rfl⟩
abbrev mX3_isCell : zM := (yX3_isCell, cX3_isCell, 1, Option.some Jvm.ClassFile.FieldType.boolean, 0)
theorem oX3_isCell : z_ok mX3_isCell := ⟨z_in (z_t1 172 (by decide +kernel)) rfl, z_iX3, by decide, by decide, by decide⟩
theorem pX3_isCell : z_np mX3_isCell 1 := fun sig hs => by
  have e : (parseMethodDescriptor yX3_isCell.desc).map (fun d => d.parameters.length) = some 1 := by decide +kernel
  rw [hs] at e
  exact (Option.some.inj e).symm
theorem sX3_isCell : z_okS mX3_isCell 1 := ⟨oX3_isCell, pX3_isCell, z_in (z_t1 171 (by decide +kernel)) rfl⟩
abbrev mX3_isHunter : zM := (yX3_isHunter, cX3_isHunter, 1, Option.some Jvm.ClassFile.FieldType.boolean, 0)
theorem oX3_isHunter : z_ok mX3_isHunter := ⟨z_in (z_t1 226 (by decide +kernel)) rfl, z_iX3, by decide, by decide, by decide⟩
theorem pX3_isHunter : z_np mX3_isHunter 1 := fun sig hs => by
  have e : (parseMethodDescriptor yX3_isHunter.desc).map (fun d => d.parameters.length) = some 1 := by decide +kernel
  rw [hs] at e
  exact (Option.some.inj e).symm
theorem sX3_isHunter : z_okS mX3_isHunter 1 := ⟨oX3_isHunter, pX3_isHunter, z_in (z_t1 225 (by decide +kernel)) rfl⟩
abbrev mX3_isKind : zM := (yX3_isKind, cX3_isKind, 1, Option.some Jvm.ClassFile.FieldType.boolean, 0)
theorem oX3_isKind : z_ok mX3_isKind := ⟨z_in (z_t1 237 (by decide +kernel)) rfl, z_iX3, by decide, by decide, by decide⟩
theorem pX3_isKind : z_np mX3_isKind 1 := fun sig hs => by
  have e : (parseMethodDescriptor yX3_isKind.desc).map (fun d => d.parameters.length) = some 1 := by decide +kernel
  rw [hs] at e
  exact (Option.some.inj e).symm
theorem sX3_isKind : z_okS mX3_isKind 1 := ⟨oX3_isKind, pX3_isKind, z_in (z_t1 236 (by decide +kernel)) rfl⟩
abbrev mX3_isNote : zM := (yX3_isNote, cX3_isNote, 1, Option.some Jvm.ClassFile.FieldType.boolean, 0)
theorem oX3_isNote : z_ok mX3_isNote := ⟨z_in (z_t2 54 (by decide +kernel)) rfl, z_iX3, by decide, by decide, by decide⟩
theorem pX3_isNote : z_np mX3_isNote 1 := fun sig hs => by
  have e : (parseMethodDescriptor yX3_isNote.desc).map (fun d => d.parameters.length) = some 1 := by decide +kernel
  rw [hs] at e
  exact (Option.some.inj e).symm
theorem sX3_isNote : z_okS mX3_isNote 1 := ⟨oX3_isNote, pX3_isNote, z_in (z_t2 53 (by decide +kernel)) rfl⟩
abbrev mX3_isWeight : zM := (yX3_isWeight, cX3_isWeight, 1, Option.some Jvm.ClassFile.FieldType.boolean, 0)
theorem oX3_isWeight : z_ok mX3_isWeight := ⟨z_in (z_t2 57 (by decide +kernel)) rfl, z_iX3, by decide, by decide, by decide⟩
theorem pX3_isWeight : z_np mX3_isWeight 1 := fun sig hs => by
  have e : (parseMethodDescriptor yX3_isWeight.desc).map (fun d => d.parameters.length) = some 1 := by decide +kernel
  rw [hs] at e
  exact (Option.some.inj e).symm
theorem sX3_isWeight : z_okS mX3_isWeight 1 := ⟨oX3_isWeight, pX3_isWeight, z_in (z_t2 56 (by decide +kernel)) rfl⟩
abbrev mX3_isStock : zM := (yX3_isStock, cX3_isStock, 1, Option.some Jvm.ClassFile.FieldType.boolean, 0)
theorem oX3_isStock : z_ok mX3_isStock := ⟨z_in (z_t2 205 (by decide +kernel)) rfl, z_iX3, by decide, by decide, by decide⟩
theorem pX3_isStock : z_np mX3_isStock 1 := fun sig hs => by
  have e : (parseMethodDescriptor yX3_isStock.desc).map (fun d => d.parameters.length) = some 1 := by decide +kernel
  rw [hs] at e
  exact (Option.some.inj e).symm
theorem sX3_isStock : z_okS mX3_isStock 1 := ⟨oX3_isStock, pX3_isStock, z_in (z_t2 204 (by decide +kernel)) rfl⟩
abbrev mX3_isSpot : zM := (yX3_isSpot, cX3_isSpot, 1, Option.some Jvm.ClassFile.FieldType.boolean, 0)
theorem oX3_isSpot : z_ok mX3_isSpot := ⟨z_in (z_t3 167 (by decide +kernel)) rfl, z_iX3, by decide, by decide, by decide⟩
theorem pX3_isSpot : z_np mX3_isSpot 1 := fun sig hs => by
  have e : (parseMethodDescriptor yX3_isSpot.desc).map (fun d => d.parameters.length) = some 1 := by decide +kernel
  rw [hs] at e
  exact (Option.some.inj e).symm
theorem sX3_isSpot : z_okS mX3_isSpot 1 := ⟨oX3_isSpot, pX3_isSpot, z_in (z_t3 166 (by decide +kernel)) rfl⟩
abbrev mX3_isSheet : zM := (yX3_isSheet, cX3_isSheet, 1, Option.some Jvm.ClassFile.FieldType.boolean, 0)
theorem oX3_isSheet : z_ok mX3_isSheet := ⟨z_in (z_t2 163 (by decide +kernel)) rfl, z_iX3, by decide, by decide, by decide⟩
theorem pX3_isSheet : z_np mX3_isSheet 1 := fun sig hs => by
  have e : (parseMethodDescriptor yX3_isSheet.desc).map (fun d => d.parameters.length) = some 1 := by decide +kernel
  rw [hs] at e
  exact (Option.some.inj e).symm
theorem sX3_isSheet : z_okS mX3_isSheet 1 := ⟨oX3_isSheet, pX3_isSheet, z_in (z_t2 162 (by decide +kernel)) rfl⟩
abbrev mX3_isTrait : zM := (yX3_isTrait, cX3_isTrait, 1, Option.some Jvm.ClassFile.FieldType.boolean, 0)
theorem oX3_isTrait : z_ok mX3_isTrait := ⟨z_in (z_t2 40 (by decide +kernel)) rfl, z_iX3, by decide, by decide, by decide⟩
theorem pX3_isTrait : z_np mX3_isTrait 1 := fun sig hs => by
  have e : (parseMethodDescriptor yX3_isTrait.desc).map (fun d => d.parameters.length) = some 1 := by decide +kernel
  rw [hs] at e
  exact (Option.some.inj e).symm
theorem sX3_isTrait : z_okS mX3_isTrait 1 := ⟨oX3_isTrait, pX3_isTrait, z_in (z_t2 39 (by decide +kernel)) rfl⟩
abbrev mX3_suits : zM := (yX3_suits, cX3_suits, 2, Option.some Jvm.ClassFile.FieldType.boolean, 1)
theorem oX3_suits : z_ok mX3_suits := ⟨z_in (z_t2 51 (by decide +kernel)) rfl, z_iX3, by decide, by decide, by decide⟩
theorem pX3_suits : z_np mX3_suits 2 := fun sig hs => by
  have e : (parseMethodDescriptor yX3_suits.desc).map (fun d => d.parameters.length) = some 2 := by decide +kernel
  rw [hs] at e
  exact (Option.some.inj e).symm
theorem sX3_suits : z_okS mX3_suits 2 := ⟨oX3_suits, pX3_suits, z_in (z_t2 50 (by decide +kernel)) rfl⟩
abbrev mX3_soundFault : zM := (yX3_soundFault, cX3_soundFault, 3, Option.some Jvm.ClassFile.FieldType.int, 2)
theorem oX3_soundFault : z_ok mX3_soundFault := ⟨z_in (z_t2 160 (by decide +kernel)) rfl, z_iX3, by decide, by decide, by decide⟩
theorem pX3_soundFault : z_np mX3_soundFault 2 := fun sig hs => by
  have e : (parseMethodDescriptor yX3_soundFault.desc).map (fun d => d.parameters.length) = some 2 := by decide +kernel
  rw [hs] at e
  exact (Option.some.inj e).symm
theorem vX3_soundFault : z_okV mX3_soundFault 3 2 := ⟨oX3_soundFault, pX3_soundFault, z_in (z_t2 159 (by decide +kernel)) rfl, z_in (z_tp 19 (by decide +kernel)) rfl, _, _, rfl⟩
abbrev mX3_standingCells : zM := (yX3_standingCells, cX3_standingCells, 5, Option.some Jvm.ClassFile.FieldType.long, 3)
theorem oX3_standingCells : z_ok mX3_standingCells := ⟨z_in (z_t2 175 (by decide +kernel)) rfl, z_iX3, by decide, by decide, by decide⟩
theorem pX3_standingCells : z_np mX3_standingCells 2 := fun sig hs => by
  have e : (parseMethodDescriptor yX3_standingCells.desc).map (fun d => d.parameters.length) = some 2 := by decide +kernel
  rw [hs] at e
  exact (Option.some.inj e).symm
theorem sX3_standingCells : z_okS mX3_standingCells 2 := ⟨oX3_standingCells, pX3_standingCells, z_in (z_t2 174 (by decide +kernel)) rfl⟩
abbrev mX3_leftAtWorst : zM := (yX3_leftAtWorst, cX3_leftAtWorst, 10, Option.some Jvm.ClassFile.FieldType.int, 2)
theorem oX3_leftAtWorst : z_ok mX3_leftAtWorst := ⟨z_in (z_t2 193 (by decide +kernel)) rfl, z_iX3, by decide, by decide, by decide⟩
theorem pX3_leftAtWorst : z_np mX3_leftAtWorst 3 := fun sig hs => by
  have e : (parseMethodDescriptor yX3_leftAtWorst.desc).map (fun d => d.parameters.length) = some 3 := by decide +kernel
  rw [hs] at e
  exact (Option.some.inj e).symm
theorem vX3_leftAtWorst : z_okV mX3_leftAtWorst 3 3 := ⟨oX3_leftAtWorst, pX3_leftAtWorst, z_in (z_t2 192 (by decide +kernel)) rfl, z_in (z_tp 23 (by decide +kernel)) rfl, _, _, rfl⟩
abbrev mX3_stockBehind : zM := (yX3_stockBehind, cX3_stockBehind, 5, Option.some Jvm.ClassFile.FieldType.int, 1)
theorem oX3_stockBehind : z_ok mX3_stockBehind := ⟨z_in (z_t2 208 (by decide +kernel)) rfl, z_iX3, by decide, by decide, by decide⟩
theorem pX3_stockBehind : z_np mX3_stockBehind 3 := fun sig hs => by
  have e : (parseMethodDescriptor yX3_stockBehind.desc).map (fun d => d.parameters.length) = some 3 := by decide +kernel
  rw [hs] at e
  exact (Option.some.inj e).symm
theorem sX3_stockBehind : z_okS mX3_stockBehind 3 := ⟨oX3_stockBehind, pX3_stockBehind, z_in (z_t2 207 (by decide +kernel)) rfl⟩
abbrev mX3_holds : zM := (yX3_holds, cX3_holds, 3, Option.some Jvm.ClassFile.FieldType.boolean, 0)
theorem oX3_holds : z_ok mX3_holds := ⟨z_in (z_t1 184 (by decide +kernel)) rfl, z_iX3, by decide, by decide, by decide⟩
theorem pX3_holds : z_np mX3_holds 2 := fun sig hs => by
  have e : (parseMethodDescriptor yX3_holds.desc).map (fun d => d.parameters.length) = some 2 := by decide +kernel
  rw [hs] at e
  exact (Option.some.inj e).symm
theorem sX3_holds : z_okS mX3_holds 2 := ⟨oX3_holds, pX3_holds, z_in (z_t1 183 (by decide +kernel)) rfl⟩
abbrev mX3_apart : zM := (yX3_apart, cX3_apart, 4, Option.some Jvm.ClassFile.FieldType.int, 0)
theorem oX3_apart : z_ok mX3_apart := ⟨z_in (z_t1 208 (by decide +kernel)) rfl, z_iX3, by decide, by decide, by decide⟩
theorem pX3_apart : z_np mX3_apart 2 := fun sig hs => by
  have e : (parseMethodDescriptor yX3_apart.desc).map (fun d => d.parameters.length) = some 2 := by decide +kernel
  rw [hs] at e
  exact (Option.some.inj e).symm
theorem sX3_apart : z_okS mX3_apart 2 := ⟨oX3_apart, pX3_apart, z_in (z_t1 207 (by decide +kernel)) rfl⟩
abbrev mX3_loudness : zM := (yX3_loudness, cX3_loudness, 2, Option.some Jvm.ClassFile.FieldType.int, 1)
theorem oX3_loudness : z_ok mX3_loudness := ⟨z_in (z_t1 211 (by decide +kernel)) rfl, z_iX3, by decide, by decide, by decide⟩
theorem pX3_loudness : z_np mX3_loudness 2 := fun sig hs => by
  have e : (parseMethodDescriptor yX3_loudness.desc).map (fun d => d.parameters.length) = some 2 := by decide +kernel
  rw [hs] at e
  exact (Option.some.inj e).symm
theorem sX3_loudness : z_okS mX3_loudness 2 := ⟨oX3_loudness, pX3_loudness, z_in (z_t1 210 (by decide +kernel)) rfl⟩
abbrev mX3_isUnder : zM := (yX3_isUnder, cX3_isUnder, 4, Option.some Jvm.ClassFile.FieldType.boolean, 0)
theorem oX3_isUnder : z_ok mX3_isUnder := ⟨z_in (z_t2 31 (by decide +kernel)) rfl, z_iX3, by decide, by decide, by decide⟩
theorem pX3_isUnder : z_np mX3_isUnder 2 := fun sig hs => by
  have e : (parseMethodDescriptor yX3_isUnder.desc).map (fun d => d.parameters.length) = some 2 := by decide +kernel
  rw [hs] at e
  exact (Option.some.inj e).symm
theorem sX3_isUnder : z_okS mX3_isUnder 2 := ⟨oX3_isUnder, pX3_isUnder, z_in (z_t2 30 (by decide +kernel)) rfl⟩
abbrev mX3_longestRun : zM := (yX3_longestRun, cX3_longestRun, 5, Option.some Jvm.ClassFile.FieldType.int, 1)
theorem oX3_longestRun : z_ok mX3_longestRun := ⟨z_in (z_t2 229 (by decide +kernel)) rfl, z_iX3, by decide, by decide, by decide⟩
theorem pX3_longestRun : z_np mX3_longestRun 1 := fun sig hs => by
  have e : (parseMethodDescriptor yX3_longestRun.desc).map (fun d => d.parameters.length) = some 1 := by decide +kernel
  rw [hs] at e
  exact (Option.some.inj e).symm
theorem sX3_longestRun : z_okS mX3_longestRun 1 := ⟨oX3_longestRun, pX3_longestRun, z_in (z_t2 228 (by decide +kernel)) rfl⟩
abbrev mX4_finding : zM := (yX4_finding, cX4_finding, 2, Option.some Jvm.ClassFile.FieldType.int, 0)
theorem oX4_finding : z_ok mX4_finding := ⟨z_in (z_t4 96 (by decide +kernel)) rfl, z_iX4, by decide, by decide, by decide⟩
theorem pX4_finding : z_np mX4_finding 1 := fun sig hs => by
  have e : (parseMethodDescriptor yX4_finding.desc).map (fun d => d.parameters.length) = some 1 := by decide +kernel
  rw [hs] at e
  exact (Option.some.inj e).symm
theorem vX4_finding : z_okV mX4_finding 4 1 := ⟨oX4_finding, pX4_finding, z_in (z_t4 95 (by decide +kernel)) rfl, z_in (z_tp 47 (by decide +kernel)) rfl, _, _, rfl⟩
abbrev mX4_within : zM := (yX4_within, cX4_within, 3, Option.some Jvm.ClassFile.FieldType.boolean, 0)
theorem oX4_within : z_ok mX4_within := ⟨z_in (z_t4 91 (by decide +kernel)) rfl, z_iX4, by decide, by decide, by decide⟩
theorem pX4_within : z_np mX4_within 3 := fun sig hs => by
  have e : (parseMethodDescriptor yX4_within.desc).map (fun d => d.parameters.length) = some 3 := by decide +kernel
  rw [hs] at e
  exact (Option.some.inj e).symm
theorem sX4_within : z_okS mX4_within 3 := ⟨oX4_within, pX4_within, z_in (z_t4 90 (by decide +kernel)) rfl⟩
abbrev mX4_become : zM := (yX4_become, cX4_become, 4, Option.some Jvm.ClassFile.FieldType.int, 0)
theorem oX4_become : z_ok mX4_become := ⟨z_in (z_t4 100 (by decide +kernel)) rfl, z_iX4, by decide, by decide, by decide⟩
theorem pX4_become : z_np mX4_become 2 := fun sig hs => by
  have e : (parseMethodDescriptor yX4_become.desc).map (fun d => d.parameters.length) = some 2 := by decide +kernel
  rw [hs] at e
  exact (Option.some.inj e).symm
theorem vX4_become : z_okV mX4_become 4 2 := ⟨oX4_become, pX4_become, z_in (z_t4 99 (by decide +kernel)) rfl, z_in (z_tp 48 (by decide +kernel)) rfl, _, _, rfl⟩
abbrev mX4_copyRow : zM := (yX4_copyRow, cX4_copyRow, 3, Option.none, 0)
theorem oX4_copyRow : z_ok mX4_copyRow := ⟨z_in (z_t5 19 (by decide +kernel)) rfl, z_iX4, by decide, by decide, by decide⟩
theorem pX4_copyRow : z_np mX4_copyRow 2 := fun sig hs => by
  have e : (parseMethodDescriptor yX4_copyRow.desc).map (fun d => d.parameters.length) = some 2 := by decide +kernel
  rw [hs] at e
  exact (Option.some.inj e).symm
theorem sX4_copyRow : z_okS mX4_copyRow 2 := ⟨oX4_copyRow, pX4_copyRow, z_in (z_t5 18 (by decide +kernel)) rfl⟩
abbrev mX4_putBack : zM := (yX4_putBack, cX4_putBack, 2, Option.some Jvm.ClassFile.FieldType.int, 1)
theorem oX4_putBack : z_ok mX4_putBack := ⟨z_in (z_t5 23 (by decide +kernel)) rfl, z_iX4, by decide, by decide, by decide⟩
theorem pX4_putBack : z_np mX4_putBack 1 := fun sig hs => by
  have e : (parseMethodDescriptor yX4_putBack.desc).map (fun d => d.parameters.length) = some 1 := by decide +kernel
  rw [hs] at e
  exact (Option.some.inj e).symm
theorem vX4_putBack : z_okV mX4_putBack 4 1 := ⟨oX4_putBack, pX4_putBack, z_in (z_t5 22 (by decide +kernel)) rfl, z_in (z_tp 68 (by decide +kernel)) rfl, _, _, rfl⟩
abbrev mX4_has : zM := (yX4_has, cX4_has, 2, Option.some Jvm.ClassFile.FieldType.boolean, 0)
theorem oX4_has : z_ok mX4_has := ⟨z_in (z_t5 143 (by decide +kernel)) rfl, z_iX4, by decide, by decide, by decide⟩
theorem pX4_has : z_np mX4_has 2 := fun sig hs => by
  have e : (parseMethodDescriptor yX4_has.desc).map (fun d => d.parameters.length) = some 2 := by decide +kernel
  rw [hs] at e
  exact (Option.some.inj e).symm
theorem sX4_has : z_okS mX4_has 2 := ⟨oX4_has, pX4_has, z_in (z_t5 142 (by decide +kernel)) rfl⟩
abbrev mX4_bits : zM := (yX4_bits, cX4_bits, 3, Option.some Jvm.ClassFile.FieldType.int, 0)
theorem oX4_bits : z_ok mX4_bits := ⟨z_in (z_t4 232 (by decide +kernel)) rfl, z_iX4, by decide, by decide, by decide⟩
theorem pX4_bits : z_np mX4_bits 1 := fun sig hs => by
  have e : (parseMethodDescriptor yX4_bits.desc).map (fun d => d.parameters.length) = some 1 := by decide +kernel
  rw [hs] at e
  exact (Option.some.inj e).symm
theorem sX4_bits : z_okS mX4_bits 1 := ⟨oX4_bits, pX4_bits, z_in (z_t4 231 (by decide +kernel)) rfl⟩
abbrev mX4_isCell : zM := (yX4_isCell, cX4_isCell, 1, Option.some Jvm.ClassFile.FieldType.boolean, 1)
theorem oX4_isCell : z_ok mX4_isCell := ⟨z_in (z_t4 88 (by decide +kernel)) rfl, z_iX4, by decide, by decide, by decide⟩
theorem pX4_isCell : z_np mX4_isCell 1 := fun sig hs => by
  have e : (parseMethodDescriptor yX4_isCell.desc).map (fun d => d.parameters.length) = some 1 := by decide +kernel
  rw [hs] at e
  exact (Option.some.inj e).symm
theorem sX4_isCell : z_okS mX4_isCell 1 := ⟨oX4_isCell, pX4_isCell, z_in (z_t4 87 (by decide +kernel)) rfl⟩
abbrev mX4_apart : zM := (yX4_apart, cX4_apart, 2, Option.some Jvm.ClassFile.FieldType.int, 1)
theorem oX4_apart : z_ok mX4_apart := ⟨z_in (z_t4 153 (by decide +kernel)) rfl, z_iX4, by decide, by decide, by decide⟩
theorem pX4_apart : z_np mX4_apart 2 := fun sig hs => by
  have e : (parseMethodDescriptor yX4_apart.desc).map (fun d => d.parameters.length) = some 2 := by decide +kernel
  rw [hs] at e
  exact (Option.some.inj e).symm
theorem sX4_apart : z_okS mX4_apart 2 := ⟨oX4_apart, pX4_apart, z_in (z_t4 152 (by decide +kernel)) rfl⟩
abbrev mX4_beside : zM := (yX4_beside, cX4_beside, 5, Option.some Jvm.ClassFile.FieldType.int, 1)
theorem oX4_beside : z_ok mX4_beside := ⟨z_in (z_t4 176 (by decide +kernel)) rfl, z_iX4, by decide, by decide, by decide⟩
theorem pX4_beside : z_np mX4_beside 2 := fun sig hs => by
  have e : (parseMethodDescriptor yX4_beside.desc).map (fun d => d.parameters.length) = some 2 := by decide +kernel
  rw [hs] at e
  exact (Option.some.inj e).symm
theorem vX4_beside : z_okV mX4_beside 4 2 := ⟨oX4_beside, pX4_beside, z_in (z_t4 175 (by decide +kernel)) rfl, z_in (z_tp 56 (by decide +kernel)) rfl, _, _, rfl⟩
abbrev mX4_hasNet : zM := (yX4_hasNet, cX4_hasNet, 2, Option.some Jvm.ClassFile.FieldType.boolean, 0)
theorem oX4_hasNet : z_ok mX4_hasNet := ⟨z_in (z_t4 225 (by decide +kernel)) rfl, z_iX4, by decide, by decide, by decide⟩
theorem pX4_hasNet : z_np mX4_hasNet 1 := fun sig hs => by
  have e : (parseMethodDescriptor yX4_hasNet.desc).map (fun d => d.parameters.length) = some 1 := by decide +kernel
  rw [hs] at e
  exact (Option.some.inj e).symm
theorem vX4_hasNet : z_okV mX4_hasNet 4 1 := ⟨oX4_hasNet, pX4_hasNet, z_in (z_t4 224 (by decide +kernel)) rfl, z_in (z_tp 63 (by decide +kernel)) rfl, _, _, rfl⟩
abbrev mX4_net : zM := (yX4_net, cX4_net, 3, Option.some Jvm.ClassFile.FieldType.int, 2)
theorem oX4_net : z_ok mX4_net := ⟨z_in (z_t4 85 (by decide +kernel)) rfl, z_iX4, by decide, by decide, by decide⟩
theorem pX4_net : z_np mX4_net 2 := fun sig hs => by
  have e : (parseMethodDescriptor yX4_net.desc).map (fun d => d.parameters.length) = some 2 := by decide +kernel
  rw [hs] at e
  exact (Option.some.inj e).symm
theorem vX4_net : z_okV mX4_net 4 2 := ⟨oX4_net, pX4_net, z_in (z_t4 83 (by decide +kernel)) rfl, z_in (z_t4 84 (by decide +kernel)) rfl, _, _, rfl⟩
abbrev mX4_thick : zM := (yX4_thick, cX4_thick, 3, Option.some Jvm.ClassFile.FieldType.int, 2)
theorem oX4_thick : z_ok mX4_thick := ⟨z_in (z_t4 104 (by decide +kernel)) rfl, z_iX4, by decide, by decide, by decide⟩
theorem pX4_thick : z_np mX4_thick 2 := fun sig hs => by
  have e : (parseMethodDescriptor yX4_thick.desc).map (fun d => d.parameters.length) = some 2 := by decide +kernel
  rw [hs] at e
  exact (Option.some.inj e).symm
theorem vX4_thick : z_okV mX4_thick 4 2 := ⟨oX4_thick, pX4_thick, z_in (z_t4 102 (by decide +kernel)) rfl, z_in (z_t4 103 (by decide +kernel)) rfl, _, _, rfl⟩
abbrev mX4_isHunter : zM := (yX4_isHunter, cX4_isHunter, 1, Option.some Jvm.ClassFile.FieldType.boolean, 1)
theorem oX4_isHunter : z_ok mX4_isHunter := ⟨z_in (z_t4 111 (by decide +kernel)) rfl, z_iX4, by decide, by decide, by decide⟩
theorem pX4_isHunter : z_np mX4_isHunter 1 := fun sig hs => by
  have e : (parseMethodDescriptor yX4_isHunter.desc).map (fun d => d.parameters.length) = some 1 := by decide +kernel
  rw [hs] at e
  exact (Option.some.inj e).symm
theorem sX4_isHunter : z_okS mX4_isHunter 1 := ⟨oX4_isHunter, pX4_isHunter, z_in (z_t4 110 (by decide +kernel)) rfl⟩
abbrev mX4_hunter : zM := (yX4_hunter, cX4_hunter, 3, Option.some Jvm.ClassFile.FieldType.int, 2)
theorem oX4_hunter : z_ok mX4_hunter := ⟨z_in (z_t4 108 (by decide +kernel)) rfl, z_iX4, by decide, by decide, by decide⟩
theorem pX4_hunter : z_np mX4_hunter 2 := fun sig hs => by
  have e : (parseMethodDescriptor yX4_hunter.desc).map (fun d => d.parameters.length) = some 2 := by decide +kernel
  rw [hs] at e
  exact (Option.some.inj e).symm
theorem vX4_hunter : z_okV mX4_hunter 4 2 := ⟨oX4_hunter, pX4_hunter, z_in (z_t4 106 (by decide +kernel)) rfl, z_in (z_t4 107 (by decide +kernel)) rfl, _, _, rfl⟩
abbrev mX4_fear : zM := (yX4_fear, cX4_fear, 2, Option.some Jvm.ClassFile.FieldType.int, 1)
theorem oX4_fear : z_ok mX4_fear := ⟨z_in (z_t4 115 (by decide +kernel)) rfl, z_iX4, by decide, by decide, by decide⟩
theorem pX4_fear : z_np mX4_fear 1 := fun sig hs => by
  have e : (parseMethodDescriptor yX4_fear.desc).map (fun d => d.parameters.length) = some 1 := by decide +kernel
  rw [hs] at e
  exact (Option.some.inj e).symm
theorem vX4_fear : z_okV mX4_fear 4 1 := ⟨oX4_fear, pX4_fear, z_in (z_t4 113 (by decide +kernel)) rfl, z_in (z_t4 114 (by decide +kernel)) rfl, _, _, rfl⟩
abbrev mX4_isBell : zM := (yX4_isBell, cX4_isBell, 2, Option.some Jvm.ClassFile.FieldType.boolean, 1)
theorem oX4_isBell : z_ok mX4_isBell := ⟨z_in (z_t4 138 (by decide +kernel)) rfl, z_iX4, by decide, by decide, by decide⟩
theorem pX4_isBell : z_np mX4_isBell 1 := fun sig hs => by
  have e : (parseMethodDescriptor yX4_isBell.desc).map (fun d => d.parameters.length) = some 1 := by decide +kernel
  rw [hs] at e
  exact (Option.some.inj e).symm
theorem vX4_isBell : z_okV mX4_isBell 4 1 := ⟨oX4_isBell, pX4_isBell, z_in (z_t4 137 (by decide +kernel)) rfl, z_in (z_tp 50 (by decide +kernel)) rfl, _, _, rfl⟩
abbrev mX4_isKind : zM := (yX4_isKind, cX4_isKind, 1, Option.some Jvm.ClassFile.FieldType.boolean, 1)
theorem oX4_isKind : z_ok mX4_isKind := ⟨z_in (z_t4 122 (by decide +kernel)) rfl, z_iX4, by decide, by decide, by decide⟩
theorem pX4_isKind : z_np mX4_isKind 1 := fun sig hs => by
  have e : (parseMethodDescriptor yX4_isKind.desc).map (fun d => d.parameters.length) = some 1 := by decide +kernel
  rw [hs] at e
  exact (Option.some.inj e).symm
theorem sX4_isKind : z_okS mX4_isKind 1 := ⟨oX4_isKind, pX4_isKind, z_in (z_t4 121 (by decide +kernel)) rfl⟩
abbrev mX4_at : zM := (yX4_at, cX4_at, 2, Option.some Jvm.ClassFile.FieldType.int, 0)
theorem oX4_at : z_ok mX4_at := ⟨z_in (z_t4 130 (by decide +kernel)) rfl, z_iX4, by decide, by decide, by decide⟩
theorem pX4_at : z_np mX4_at 2 := fun sig hs => by
  have e : (parseMethodDescriptor yX4_at.desc).map (fun d => d.parameters.length) = some 2 := by decide +kernel
  rw [hs] at e
  exact (Option.some.inj e).symm
theorem sX4_at : z_okS mX4_at 2 := ⟨oX4_at, pX4_at, z_in (z_t4 129 (by decide +kernel)) rfl⟩
abbrev mX4_bellIs : zM := (yX4_bellIs, cX4_bellIs, 3, Option.some Jvm.ClassFile.FieldType.int, 1)
theorem oX4_bellIs : z_ok mX4_bellIs := ⟨z_in (z_t4 142 (by decide +kernel)) rfl, z_iX4, by decide, by decide, by decide⟩
theorem pX4_bellIs : z_np mX4_bellIs 2 := fun sig hs => by
  have e : (parseMethodDescriptor yX4_bellIs.desc).map (fun d => d.parameters.length) = some 2 := by decide +kernel
  rw [hs] at e
  exact (Option.some.inj e).symm
theorem vX4_bellIs : z_okV mX4_bellIs 4 2 := ⟨oX4_bellIs, pX4_bellIs, z_in (z_t4 141 (by decide +kernel)) rfl, z_in (z_tp 51 (by decide +kernel)) rfl, _, _, rfl⟩
abbrev mX4_isCaught : zM := (yX4_isCaught, cX4_isCaught, 2, Option.some Jvm.ClassFile.FieldType.boolean, 2)
theorem oX4_isCaught : z_ok mX4_isCaught := ⟨z_in (z_t4 171 (by decide +kernel)) rfl, z_iX4, by decide, by decide, by decide⟩
theorem pX4_isCaught : z_np mX4_isCaught 1 := fun sig hs => by
  have e : (parseMethodDescriptor yX4_isCaught.desc).map (fun d => d.parameters.length) = some 1 := by decide +kernel
  rw [hs] at e
  exact (Option.some.inj e).symm
theorem vX4_isCaught : z_okV mX4_isCaught 4 1 := ⟨oX4_isCaught, pX4_isCaught, z_in (z_t4 170 (by decide +kernel)) rfl, z_in (z_tp 55 (by decide +kernel)) rfl, _, _, rfl⟩
abbrev mX4_comes : zM := (yX4_comes, cX4_comes, 6, Option.some Jvm.ClassFile.FieldType.int, 1)
theorem oX4_comes : z_ok mX4_comes := ⟨z_in (z_t4 127 (by decide +kernel)) rfl, z_iX4, by decide, by decide, by decide⟩
theorem pX4_comes : z_np mX4_comes 4 := fun sig hs => by
  have e : (parseMethodDescriptor yX4_comes.desc).map (fun d => d.parameters.length) = some 4 := by decide +kernel
  rw [hs] at e
  exact (Option.some.inj e).symm
theorem vX4_comes : z_okV mX4_comes 4 4 := ⟨oX4_comes, pX4_comes, z_in (z_t4 126 (by decide +kernel)) rfl, z_in (z_tp 49 (by decide +kernel)) rfl, _, _, rfl⟩
abbrev mX4_bell : zM := (yX4_bell, cX4_bell, 3, Option.some Jvm.ClassFile.FieldType.int, 2)
theorem oX4_bell : z_ok mX4_bell := ⟨z_in (z_t4 119 (by decide +kernel)) rfl, z_iX4, by decide, by decide, by decide⟩
theorem pX4_bell : z_np mX4_bell 2 := fun sig hs => by
  have e : (parseMethodDescriptor yX4_bell.desc).map (fun d => d.parameters.length) = some 2 := by decide +kernel
  rw [hs] at e
  exact (Option.some.inj e).symm
theorem vX4_bell : z_okV mX4_bell 4 2 := ⟨oX4_bell, pX4_bell, z_in (z_t4 117 (by decide +kernel)) rfl, z_in (z_t4 118 (by decide +kernel)) rfl, _, _, rfl⟩
abbrev mX4_above : zM := (yX4_above, cX4_above, 1, Option.some Jvm.ClassFile.FieldType.int, 0)
theorem oX4_above : z_ok mX4_above := ⟨z_in (z_t4 163 (by decide +kernel)) rfl, z_iX4, by decide, by decide, by decide⟩
theorem pX4_above : z_np mX4_above 1 := fun sig hs => by
  have e : (parseMethodDescriptor yX4_above.desc).map (fun d => d.parameters.length) = some 1 := by decide +kernel
  rw [hs] at e
  exact (Option.some.inj e).symm
theorem sX4_above : z_okS mX4_above 1 := ⟨oX4_above, pX4_above, z_in (z_t4 162 (by decide +kernel)) rfl⟩
abbrev mX4_isUnder : zM := (yX4_isUnder, cX4_isUnder, 3, Option.some Jvm.ClassFile.FieldType.boolean, 1)
theorem oX4_isUnder : z_ok mX4_isUnder := ⟨z_in (z_t4 160 (by decide +kernel)) rfl, z_iX4, by decide, by decide, by decide⟩
theorem pX4_isUnder : z_np mX4_isUnder 2 := fun sig hs => by
  have e : (parseMethodDescriptor yX4_isUnder.desc).map (fun d => d.parameters.length) = some 2 := by decide +kernel
  rw [hs] at e
  exact (Option.some.inj e).symm
theorem sX4_isUnder : z_okS mX4_isUnder 2 := ⟨oX4_isUnder, pX4_isUnder, z_in (z_t4 159 (by decide +kernel)) rfl⟩
abbrev mX4_nearestOther : zM := (yX4_nearestOther, cX4_nearestOther, 8, Option.some Jvm.ClassFile.FieldType.int, 3)
theorem oX4_nearestOther : z_ok mX4_nearestOther := ⟨z_in (z_t4 167 (by decide +kernel)) rfl, z_iX4, by decide, by decide, by decide⟩
theorem pX4_nearestOther : z_np mX4_nearestOther 3 := fun sig hs => by
  have e : (parseMethodDescriptor yX4_nearestOther.desc).map (fun d => d.parameters.length) = some 3 := by decide +kernel
  rw [hs] at e
  exact (Option.some.inj e).symm
theorem vX4_nearestOther : z_okV mX4_nearestOther 4 3 := ⟨oX4_nearestOther, pX4_nearestOther, z_in (z_t4 166 (by decide +kernel)) rfl, z_in (z_tp 54 (by decide +kernel)) rfl, _, _, rfl⟩
abbrev mX4_worthOf : zM := (yX4_worthOf, cX4_worthOf, 9, Option.some Jvm.ClassFile.FieldType.int, 4)
theorem oX4_worthOf : z_ok mX4_worthOf := ⟨z_in (z_t4 150 (by decide +kernel)) rfl, z_iX4, by decide, by decide, by decide⟩
theorem pX4_worthOf : z_np mX4_worthOf 2 := fun sig hs => by
  have e : (parseMethodDescriptor yX4_worthOf.desc).map (fun d => d.parameters.length) = some 2 := by decide +kernel
  rw [hs] at e
  exact (Option.some.inj e).symm
theorem vX4_worthOf : z_okV mX4_worthOf 4 2 := ⟨oX4_worthOf, pX4_worthOf, z_in (z_t4 149 (by decide +kernel)) rfl, z_in (z_tp 53 (by decide +kernel)) rfl, _, _, rfl⟩
abbrev mX4_nextOf : zM := (yX4_nextOf, cX4_nextOf, 7, Option.some Jvm.ClassFile.FieldType.int, 5)
theorem oX4_nextOf : z_ok mX4_nextOf := ⟨z_in (z_t4 146 (by decide +kernel)) rfl, z_iX4, by decide, by decide, by decide⟩
theorem pX4_nextOf : z_np mX4_nextOf 1 := fun sig hs => by
  have e : (parseMethodDescriptor yX4_nextOf.desc).map (fun d => d.parameters.length) = some 1 := by decide +kernel
  rw [hs] at e
  exact (Option.some.inj e).symm
theorem vX4_nextOf : z_okV mX4_nextOf 4 1 := ⟨oX4_nextOf, pX4_nextOf, z_in (z_t4 145 (by decide +kernel)) rfl, z_in (z_tp 52 (by decide +kernel)) rfl, _, _, rfl⟩
abbrev mX4_of : zM := (yX4_of, cX4_of, 3, Option.some Jvm.ClassFile.FieldType.int, 6)
theorem oX4_of : z_ok mX4_of := ⟨z_in (z_t4 134 (by decide +kernel)) rfl, z_iX4, by decide, by decide, by decide⟩
theorem pX4_of : z_np mX4_of 2 := fun sig hs => by
  have e : (parseMethodDescriptor yX4_of.desc).map (fun d => d.parameters.length) = some 2 := by decide +kernel
  rw [hs] at e
  exact (Option.some.inj e).symm
theorem vX4_of : z_okV mX4_of 4 2 := ⟨oX4_of, pX4_of, z_in (z_t4 132 (by decide +kernel)) rfl, z_in (z_t4 133 (by decide +kernel)) rfl, _, _, rfl⟩
abbrev mX4_mayBe : zM := (yX4_mayBe, cX4_mayBe, 2, Option.some Jvm.ClassFile.FieldType.boolean, 2)
theorem oX4_mayBe : z_ok mX4_mayBe := ⟨z_in (z_t4 183 (by decide +kernel)) rfl, z_iX4, by decide, by decide, by decide⟩
theorem pX4_mayBe : z_np mX4_mayBe 2 := fun sig hs => by
  have e : (parseMethodDescriptor yX4_mayBe.desc).map (fun d => d.parameters.length) = some 2 := by decide +kernel
  rw [hs] at e
  exact (Option.some.inj e).symm
theorem sX4_mayBe : z_okS mX4_mayBe 2 := ⟨oX4_mayBe, pX4_mayBe, z_in (z_t4 182 (by decide +kernel)) rfl⟩
abbrev mX4_change : zM := (yX4_change, cX4_change, 4, Option.some Jvm.ClassFile.FieldType.int, 3)
theorem oX4_change : z_ok mX4_change := ⟨z_in (z_t4 180 (by decide +kernel)) rfl, z_iX4, by decide, by decide, by decide⟩
theorem pX4_change : z_np mX4_change 3 := fun sig hs => by
  have e : (parseMethodDescriptor yX4_change.desc).map (fun d => d.parameters.length) = some 3 := by decide +kernel
  rw [hs] at e
  exact (Option.some.inj e).symm
theorem vX4_change : z_okV mX4_change 4 3 := ⟨oX4_change, pX4_change, z_in (z_t4 178 (by decide +kernel)) rfl, z_in (z_t4 179 (by decide +kernel)) rfl, _, _, rfl⟩
abbrev mX4_worth : zM := (yX4_worth, cX4_worth, 3, Option.some Jvm.ClassFile.FieldType.int, 5)
theorem oX4_worth : z_ok mX4_worth := ⟨z_in (z_t4 187 (by decide +kernel)) rfl, z_iX4, by decide, by decide, by decide⟩
theorem pX4_worth : z_np mX4_worth 2 := fun sig hs => by
  have e : (parseMethodDescriptor yX4_worth.desc).map (fun d => d.parameters.length) = some 2 := by decide +kernel
  rw [hs] at e
  exact (Option.some.inj e).symm
theorem vX4_worth : z_okV mX4_worth 4 2 := ⟨oX4_worth, pX4_worth, z_in (z_t4 185 (by decide +kernel)) rfl, z_in (z_t4 186 (by decide +kernel)) rfl, _, _, rfl⟩
abbrev mX4_loudOf : zM := (yX4_loudOf, cX4_loudOf, 4, Option.some Jvm.ClassFile.FieldType.int, 2)
theorem oX4_loudOf : z_ok mX4_loudOf := ⟨z_in (z_t4 203 (by decide +kernel)) rfl, z_iX4, by decide, by decide, by decide⟩
theorem pX4_loudOf : z_np mX4_loudOf 3 := fun sig hs => by
  have e : (parseMethodDescriptor yX4_loudOf.desc).map (fun d => d.parameters.length) = some 3 := by decide +kernel
  rw [hs] at e
  exact (Option.some.inj e).symm
theorem vX4_loudOf : z_okV mX4_loudOf 4 3 := ⟨oX4_loudOf, pX4_loudOf, z_in (z_t4 202 (by decide +kernel)) rfl, z_in (z_tp 59 (by decide +kernel)) rfl, _, _, rfl⟩
abbrev mX4_loudAt : zM := (yX4_loudAt, cX4_loudAt, 3, Option.some Jvm.ClassFile.FieldType.int, 3)
theorem oX4_loudAt : z_ok mX4_loudAt := ⟨z_in (z_t4 199 (by decide +kernel)) rfl, z_iX4, by decide, by decide, by decide⟩
theorem pX4_loudAt : z_np mX4_loudAt 2 := fun sig hs => by
  have e : (parseMethodDescriptor yX4_loudAt.desc).map (fun d => d.parameters.length) = some 2 := by decide +kernel
  rw [hs] at e
  exact (Option.some.inj e).symm
theorem vX4_loudAt : z_okV mX4_loudAt 4 2 := ⟨oX4_loudAt, pX4_loudAt, z_in (z_t4 198 (by decide +kernel)) rfl, z_in (z_tp 58 (by decide +kernel)) rfl, _, _, rfl⟩
abbrev mX4_heardAt : zM := (yX4_heardAt, cX4_heardAt, 4, Option.some Jvm.ClassFile.FieldType.int, 4)
theorem oX4_heardAt : z_ok mX4_heardAt := ⟨z_in (z_t4 195 (by decide +kernel)) rfl, z_iX4, by decide, by decide, by decide⟩
theorem pX4_heardAt : z_np mX4_heardAt 1 := fun sig hs => by
  have e : (parseMethodDescriptor yX4_heardAt.desc).map (fun d => d.parameters.length) = some 1 := by decide +kernel
  rw [hs] at e
  exact (Option.some.inj e).symm
theorem vX4_heardAt : z_okV mX4_heardAt 4 1 := ⟨oX4_heardAt, pX4_heardAt, z_in (z_t4 194 (by decide +kernel)) rfl, z_in (z_tp 57 (by decide +kernel)) rfl, _, _, rfl⟩
abbrev mX4_manyAt : zM := (yX4_manyAt, cX4_manyAt, 4, Option.some Jvm.ClassFile.FieldType.int, 2)
theorem oX4_manyAt : z_ok mX4_manyAt := ⟨z_in (z_t4 207 (by decide +kernel)) rfl, z_iX4, by decide, by decide, by decide⟩
theorem pX4_manyAt : z_np mX4_manyAt 1 := fun sig hs => by
  have e : (parseMethodDescriptor yX4_manyAt.desc).map (fun d => d.parameters.length) = some 1 := by decide +kernel
  rw [hs] at e
  exact (Option.some.inj e).symm
theorem vX4_manyAt : z_okV mX4_manyAt 4 1 := ⟨oX4_manyAt, pX4_manyAt, z_in (z_t4 206 (by decide +kernel)) rfl, z_in (z_tp 60 (by decide +kernel)) rfl, _, _, rfl⟩
abbrev mX4_cell : zM := (yX4_cell, cX4_cell, 3, Option.some Jvm.ClassFile.FieldType.int, 5)
theorem oX4_cell : z_ok mX4_cell := ⟨z_in (z_t4 191 (by decide +kernel)) rfl, z_iX4, by decide, by decide, by decide⟩
theorem pX4_cell : z_np mX4_cell 2 := fun sig hs => by
  have e : (parseMethodDescriptor yX4_cell.desc).map (fun d => d.parameters.length) = some 2 := by decide +kernel
  rw [hs] at e
  exact (Option.some.inj e).symm
theorem vX4_cell : z_okV mX4_cell 4 2 := ⟨oX4_cell, pX4_cell, z_in (z_t4 189 (by decide +kernel)) rfl, z_in (z_t4 190 (by decide +kernel)) rfl, _, _, rfl⟩
abbrev mX4_caughtNow : zM := (yX4_caughtNow, cX4_caughtNow, 3, Option.some Jvm.ClassFile.FieldType.int, 3)
theorem oX4_caughtNow : z_ok mX4_caughtNow := ⟨z_in (z_t4 229 (by decide +kernel)) rfl, z_iX4, by decide, by decide, by decide⟩
theorem pX4_caughtNow : z_np mX4_caughtNow 0 := fun sig hs => by
  have e : (parseMethodDescriptor yX4_caughtNow.desc).map (fun d => d.parameters.length) = some 0 := by decide +kernel
  rw [hs] at e
  exact (Option.some.inj e).symm
theorem vX4_caughtNow : z_okV mX4_caughtNow 4 0 := ⟨oX4_caughtNow, pX4_caughtNow, z_in (z_t4 228 (by decide +kernel)) rfl, z_in (z_tp 64 (by decide +kernel)) rfl, _, _, rfl⟩
abbrev mX4_hour : zM := (yX4_hour, cX4_hour, 3, Option.none, 6)
theorem oX4_hour : z_ok mX4_hour := ⟨z_in (z_t4 221 (by decide +kernel)) rfl, z_iX4, by decide, by decide, by decide⟩
theorem pX4_hour : z_np mX4_hour 0 := fun sig hs => by
  have e : (parseMethodDescriptor yX4_hour.desc).map (fun d => d.parameters.length) = some 0 := by decide +kernel
  rw [hs] at e
  exact (Option.some.inj e).symm
theorem vX4_hour : z_okV mX4_hour 4 0 := ⟨oX4_hour, pX4_hour, z_in (z_t4 220 (by decide +kernel)) rfl, z_in (z_tp 62 (by decide +kernel)) rfl, _, _, rfl⟩
abbrev mX4_hours : zM := (yX4_hours, cX4_hours, 3, Option.none, 7)
theorem oX4_hours : z_ok mX4_hours := ⟨z_in (z_t4 217 (by decide +kernel)) rfl, z_iX4, by decide, by decide, by decide⟩
theorem pX4_hours : z_np mX4_hours 1 := fun sig hs => by
  have e : (parseMethodDescriptor yX4_hours.desc).map (fun d => d.parameters.length) = some 1 := by decide +kernel
  rw [hs] at e
  exact (Option.some.inj e).symm
theorem vX4_hours : z_okV mX4_hours 4 1 := ⟨oX4_hours, pX4_hours, z_in (z_t4 216 (by decide +kernel)) rfl, z_in (z_tp 61 (by decide +kernel)) rfl, _, _, rfl⟩
abbrev mX4_go : zM := (yX4_go, cX4_go, 2, Option.some Jvm.ClassFile.FieldType.int, 8)
theorem oX4_go : z_ok mX4_go := ⟨z_in (z_t4 211 (by decide +kernel)) rfl, z_iX4, by decide, by decide, by decide⟩
theorem pX4_go : z_np mX4_go 1 := fun sig hs => by
  have e : (parseMethodDescriptor yX4_go.desc).map (fun d => d.parameters.length) = some 1 := by decide +kernel
  rw [hs] at e
  exact (Option.some.inj e).symm
theorem vX4_go : z_okV mX4_go 4 1 := ⟨oX4_go, pX4_go, z_in (z_t4 209 (by decide +kernel)) rfl, z_in (z_t4 210 (by decide +kernel)) rfl, _, _, rfl⟩
abbrev mX4_nets : zM := (yX4_nets, cX4_nets, 3, Option.some Jvm.ClassFile.FieldType.int, 0)
theorem oX4_nets : z_ok mX4_nets := ⟨z_in (z_t5 0 (by decide +kernel)) rfl, z_iX4, by decide, by decide, by decide⟩
theorem pX4_nets : z_np mX4_nets 0 := fun sig hs => by
  have e : (parseMethodDescriptor yX4_nets.desc).map (fun d => d.parameters.length) = some 0 := by decide +kernel
  rw [hs] at e
  exact (Option.some.inj e).symm
theorem vX4_nets : z_okV mX4_nets 4 0 := ⟨oX4_nets, pX4_nets, z_in (z_t4 239 (by decide +kernel)) rfl, z_in (z_tp 65 (by decide +kernel)) rfl, _, _, rfl⟩
abbrev mX4_caughtWeight : zM := (yX4_caughtWeight, cX4_caughtWeight, 3, Option.some Jvm.ClassFile.FieldType.int, 3)
theorem oX4_caughtWeight : z_ok mX4_caughtWeight := ⟨z_in (z_t5 4 (by decide +kernel)) rfl, z_iX4, by decide, by decide, by decide⟩
theorem pX4_caughtWeight : z_np mX4_caughtWeight 0 := fun sig hs => by
  have e : (parseMethodDescriptor yX4_caughtWeight.desc).map (fun d => d.parameters.length) = some 0 := by decide +kernel
  rw [hs] at e
  exact (Option.some.inj e).symm
theorem vX4_caughtWeight : z_okV mX4_caughtWeight 4 0 := ⟨oX4_caughtWeight, pX4_caughtWeight, z_in (z_t5 3 (by decide +kernel)) rfl, z_in (z_tp 66 (by decide +kernel)) rfl, _, _, rfl⟩
abbrev mX4_now : zM := (yX4_now, cX4_now, 2, Option.some Jvm.ClassFile.FieldType.int, 4)
theorem oX4_now : z_ok mX4_now := ⟨z_in (z_t4 236 (by decide +kernel)) rfl, z_iX4, by decide, by decide, by decide⟩
theorem pX4_now : z_np mX4_now 1 := fun sig hs => by
  have e : (parseMethodDescriptor yX4_now.desc).map (fun d => d.parameters.length) = some 1 := by decide +kernel
  rw [hs] at e
  exact (Option.some.inj e).symm
theorem vX4_now : z_okV mX4_now 4 1 := ⟨oX4_now, pX4_now, z_in (z_t4 234 (by decide +kernel)) rfl, z_in (z_t4 235 (by decide +kernel)) rfl, _, _, rfl⟩
abbrev mX4_loud : zM := (yX4_loud, cX4_loud, 3, Option.some Jvm.ClassFile.FieldType.int, 4)
theorem oX4_loud : z_ok mX4_loud := ⟨z_in (z_t5 8 (by decide +kernel)) rfl, z_iX4, by decide, by decide, by decide⟩
theorem pX4_loud : z_np mX4_loud 2 := fun sig hs => by
  have e : (parseMethodDescriptor yX4_loud.desc).map (fun d => d.parameters.length) = some 2 := by decide +kernel
  rw [hs] at e
  exact (Option.some.inj e).symm
theorem vX4_loud : z_okV mX4_loud 4 2 := ⟨oX4_loud, pX4_loud, z_in (z_t5 6 (by decide +kernel)) rfl, z_in (z_t5 7 (by decide +kernel)) rfl, _, _, rfl⟩
abbrev mX4_fieldBehind : zM := (yX4_fieldBehind, cX4_fieldBehind, 4, Option.some Jvm.ClassFile.FieldType.int, 8)
theorem oX4_fieldBehind : z_ok mX4_fieldBehind := ⟨z_in (z_t5 16 (by decide +kernel)) rfl, z_iX4, by decide, by decide, by decide⟩
theorem pX4_fieldBehind : z_np mX4_fieldBehind 3 := fun sig hs => by
  have e : (parseMethodDescriptor yX4_fieldBehind.desc).map (fun d => d.parameters.length) = some 3 := by decide +kernel
  rw [hs] at e
  exact (Option.some.inj e).symm
theorem vX4_fieldBehind : z_okV mX4_fieldBehind 4 3 := ⟨oX4_fieldBehind, pX4_fieldBehind, z_in (z_t5 15 (by decide +kernel)) rfl, z_in (z_tp 67 (by decide +kernel)) rfl, _, _, rfl⟩
abbrev mX4_ahead : zM := (yX4_ahead, cX4_ahead, 3, Option.some Jvm.ClassFile.FieldType.int, 9)
theorem oX4_ahead : z_ok mX4_ahead := ⟨z_in (z_t5 12 (by decide +kernel)) rfl, z_iX4, by decide, by decide, by decide⟩
theorem pX4_ahead : z_np mX4_ahead 2 := fun sig hs => by
  have e : (parseMethodDescriptor yX4_ahead.desc).map (fun d => d.parameters.length) = some 2 := by decide +kernel
  rw [hs] at e
  exact (Option.some.inj e).symm
theorem vX4_ahead : z_okV mX4_ahead 4 2 := ⟨oX4_ahead, pX4_ahead, z_in (z_t5 10 (by decide +kernel)) rfl, z_in (z_t5 11 (by decide +kernel)) rfl, _, _, rfl⟩
abbrev mX4_caughtIn : zM := (yX4_caughtIn, cX4_caughtIn, 4, Option.some Jvm.ClassFile.FieldType.int, 7)
theorem oX4_caughtIn : z_ok mX4_caughtIn := ⟨z_in (z_t5 31 (by decide +kernel)) rfl, z_iX4, by decide, by decide, by decide⟩
theorem pX4_caughtIn : z_np mX4_caughtIn 2 := fun sig hs => by
  have e : (parseMethodDescriptor yX4_caughtIn.desc).map (fun d => d.parameters.length) = some 2 := by decide +kernel
  rw [hs] at e
  exact (Option.some.inj e).symm
theorem vX4_caughtIn : z_okV mX4_caughtIn 4 2 := ⟨oX4_caughtIn, pX4_caughtIn, z_in (z_t5 30 (by decide +kernel)) rfl, z_in (z_tp 69 (by decide +kernel)) rfl, _, _, rfl⟩
abbrev mX4_told : zM := (yX4_told, cX4_told, 2, Option.some Jvm.ClassFile.FieldType.int, 1)
theorem oX4_told : z_ok mX4_told := ⟨z_in (z_t5 36 (by decide +kernel)) rfl, z_iX4, by decide, by decide, by decide⟩
theorem pX4_told : z_np mX4_told 1 := fun sig hs => by
  have e : (parseMethodDescriptor yX4_told.desc).map (fun d => d.parameters.length) = some 1 := by decide +kernel
  rw [hs] at e
  exact (Option.some.inj e).symm
theorem vX4_told : z_okV mX4_told 4 1 := ⟨oX4_told, pX4_told, z_in (z_t5 35 (by decide +kernel)) rfl, z_in (z_tp 70 (by decide +kernel)) rfl, _, _, rfl⟩
abbrev mX4_when : zM := (yX4_when, cX4_when, 2, Option.some Jvm.ClassFile.FieldType.int, 8)
theorem oX4_when : z_ok mX4_when := ⟨z_in (z_t5 27 (by decide +kernel)) rfl, z_iX4, by decide, by decide, by decide⟩
theorem pX4_when : z_np mX4_when 1 := fun sig hs => by
  have e : (parseMethodDescriptor yX4_when.desc).map (fun d => d.parameters.length) = some 1 := by decide +kernel
  rw [hs] at e
  exact (Option.some.inj e).symm
theorem vX4_when : z_okV mX4_when 4 1 := ⟨oX4_when, pX4_when, z_in (z_t5 25 (by decide +kernel)) rfl, z_in (z_t5 26 (by decide +kernel)) rfl, _, _, rfl⟩
abbrev mX4_still : zM := (yX4_still, cX4_still, 2, Option.some Jvm.ClassFile.FieldType.int, 7)
theorem oX4_still : z_ok mX4_still := ⟨z_in (z_t5 41 (by decide +kernel)) rfl, z_iX4, by decide, by decide, by decide⟩
theorem pX4_still : z_np mX4_still 0 := fun sig hs => by
  have e : (parseMethodDescriptor yX4_still.desc).map (fun d => d.parameters.length) = some 0 := by decide +kernel
  rw [hs] at e
  exact (Option.some.inj e).symm
theorem vX4_still : z_okV mX4_still 4 0 := ⟨oX4_still, pX4_still, z_in (z_t5 39 (by decide +kernel)) rfl, z_in (z_t5 40 (by decide +kernel)) rfl, _, _, rfl⟩
abbrev mX4_setBehind : zM := (yX4_setBehind, cX4_setBehind, 2, Option.some Jvm.ClassFile.FieldType.int, 8)
theorem oX4_setBehind : z_ok mX4_setBehind := ⟨z_in (z_t5 49 (by decide +kernel)) rfl, z_iX4, by decide, by decide, by decide⟩
theorem pX4_setBehind : z_np mX4_setBehind 1 := fun sig hs => by
  have e : (parseMethodDescriptor yX4_setBehind.desc).map (fun d => d.parameters.length) = some 1 := by decide +kernel
  rw [hs] at e
  exact (Option.some.inj e).symm
theorem vX4_setBehind : z_okV mX4_setBehind 4 1 := ⟨oX4_setBehind, pX4_setBehind, z_in (z_t5 48 (by decide +kernel)) rfl, z_in (z_tp 71 (by decide +kernel)) rfl, _, _, rfl⟩
abbrev mX4_caught : zM := (yX4_caught, cX4_caught, 2, Option.some Jvm.ClassFile.FieldType.int, 9)
theorem oX4_caught : z_ok mX4_caught := ⟨z_in (z_t5 45 (by decide +kernel)) rfl, z_iX4, by decide, by decide, by decide⟩
theorem pX4_caught : z_np mX4_caught 1 := fun sig hs => by
  have e : (parseMethodDescriptor yX4_caught.desc).map (fun d => d.parameters.length) = some 1 := by decide +kernel
  rw [hs] at e
  exact (Option.some.inj e).symm
theorem vX4_caught : z_okV mX4_caught 4 1 := ⟨oX4_caught, pX4_caught, z_in (z_t5 43 (by decide +kernel)) rfl, z_in (z_t5 44 (by decide +kernel)) rfl, _, _, rfl⟩
abbrev mX4_orNone : zM := (yX4_orNone, cX4_orNone, 2, Option.some Jvm.ClassFile.FieldType.int, 1)
theorem oX4_orNone : z_ok mX4_orNone := ⟨z_in (z_t5 57 (by decide +kernel)) rfl, z_iX4, by decide, by decide, by decide⟩
theorem pX4_orNone : z_np mX4_orNone 1 := fun sig hs => by
  have e : (parseMethodDescriptor yX4_orNone.desc).map (fun d => d.parameters.length) = some 1 := by decide +kernel
  rw [hs] at e
  exact (Option.some.inj e).symm
theorem vX4_orNone : z_okV mX4_orNone 4 1 := ⟨oX4_orNone, pX4_orNone, z_in (z_t5 56 (by decide +kernel)) rfl, z_in (z_tp 72 (by decide +kernel)) rfl, _, _, rfl⟩
abbrev mX4_netFor : zM := (yX4_netFor, cX4_netFor, 6, Option.some Jvm.ClassFile.FieldType.int, 8)
theorem oX4_netFor : z_ok mX4_netFor := ⟨z_in (z_t5 53 (by decide +kernel)) rfl, z_iX4, by decide, by decide, by decide⟩
theorem pX4_netFor : z_np mX4_netFor 1 := fun sig hs => by
  have e : (parseMethodDescriptor yX4_netFor.desc).map (fun d => d.parameters.length) = some 1 := by decide +kernel
  rw [hs] at e
  exact (Option.some.inj e).symm
theorem vX4_netFor : z_okV mX4_netFor 4 1 := ⟨oX4_netFor, pX4_netFor, z_in (z_t5 51 (by decide +kernel)) rfl, z_in (z_t5 52 (by decide +kernel)) rfl, _, _, rfl⟩
abbrev mX4_best : zM := (yX4_best, cX4_best, 6, Option.some Jvm.ClassFile.FieldType.int, 9)
theorem oX4_best : z_ok mX4_best := ⟨z_in (z_t5 61 (by decide +kernel)) rfl, z_iX4, by decide, by decide, by decide⟩
theorem pX4_best : z_np mX4_best 1 := fun sig hs => by
  have e : (parseMethodDescriptor yX4_best.desc).map (fun d => d.parameters.length) = some 1 := by decide +kernel
  rw [hs] at e
  exact (Option.some.inj e).symm
theorem vX4_best : z_okV mX4_best 4 1 := ⟨oX4_best, pX4_best, z_in (z_t5 59 (by decide +kernel)) rfl, z_in (z_t5 60 (by decide +kernel)) rfl, _, _, rfl⟩
abbrev mX4_drive : zM := (yX4_drive, cX4_drive, 8, Option.some Jvm.ClassFile.FieldType.int, 8)
theorem oX4_drive : z_ok mX4_drive := ⟨z_in (z_t5 65 (by decide +kernel)) rfl, z_iX4, by decide, by decide, by decide⟩
theorem pX4_drive : z_np mX4_drive 2 := fun sig hs => by
  have e : (parseMethodDescriptor yX4_drive.desc).map (fun d => d.parameters.length) = some 2 := by decide +kernel
  rw [hs] at e
  exact (Option.some.inj e).symm
theorem vX4_drive : z_okV mX4_drive 4 2 := ⟨oX4_drive, pX4_drive, z_in (z_t5 63 (by decide +kernel)) rfl, z_in (z_t5 64 (by decide +kernel)) rfl, _, _, rfl⟩
abbrev mX4_kindFor : zM := (yX4_kindFor, cX4_kindFor, 7, Option.some Jvm.ClassFile.FieldType.int, 8)
theorem oX4_kindFor : z_ok mX4_kindFor := ⟨z_in (z_t5 69 (by decide +kernel)) rfl, z_iX4, by decide, by decide, by decide⟩
theorem pX4_kindFor : z_np mX4_kindFor 1 := fun sig hs => by
  have e : (parseMethodDescriptor yX4_kindFor.desc).map (fun d => d.parameters.length) = some 1 := by decide +kernel
  rw [hs] at e
  exact (Option.some.inj e).symm
theorem vX4_kindFor : z_okV mX4_kindFor 4 1 := ⟨oX4_kindFor, pX4_kindFor, z_in (z_t5 67 (by decide +kernel)) rfl, z_in (z_t5 68 (by decide +kernel)) rfl, _, _, rfl⟩
abbrev mX4_lacks : zM := (yX4_lacks, cX4_lacks, 2, Option.some Jvm.ClassFile.FieldType.int, 2)
theorem oX4_lacks : z_ok mX4_lacks := ⟨z_in (z_t5 81 (by decide +kernel)) rfl, z_iX4, by decide, by decide, by decide⟩
theorem pX4_lacks : z_np mX4_lacks 1 := fun sig hs => by
  have e : (parseMethodDescriptor yX4_lacks.desc).map (fun d => d.parameters.length) = some 1 := by decide +kernel
  rw [hs] at e
  exact (Option.some.inj e).symm
theorem vX4_lacks : z_okV mX4_lacks 4 1 := ⟨oX4_lacks, pX4_lacks, z_in (z_t5 80 (by decide +kernel)) rfl, z_in (z_tp 74 (by decide +kernel)) rfl, _, _, rfl⟩
abbrev mX4_earOf : zM := (yX4_earOf, cX4_earOf, 3, Option.some Jvm.ClassFile.FieldType.int, 0)
theorem oX4_earOf : z_ok mX4_earOf := ⟨z_in (z_t5 97 (by decide +kernel)) rfl, z_iX4, by decide, by decide, by decide⟩
theorem pX4_earOf : z_np mX4_earOf 2 := fun sig hs => by
  have e : (parseMethodDescriptor yX4_earOf.desc).map (fun d => d.parameters.length) = some 2 := by decide +kernel
  rw [hs] at e
  exact (Option.some.inj e).symm
theorem vX4_earOf : z_okV mX4_earOf 4 2 := ⟨oX4_earOf, pX4_earOf, z_in (z_t5 96 (by decide +kernel)) rfl, z_in (z_tp 77 (by decide +kernel)) rfl, _, _, rfl⟩
abbrev mX4_ears : zM := (yX4_ears, cX4_ears, 2, Option.some Jvm.ClassFile.FieldType.int, 0)
theorem oX4_ears : z_ok mX4_ears := ⟨z_in (z_t5 93 (by decide +kernel)) rfl, z_iX4, by decide, by decide, by decide⟩
theorem pX4_ears : z_np mX4_ears 1 := fun sig hs => by
  have e : (parseMethodDescriptor yX4_ears.desc).map (fun d => d.parameters.length) = some 1 := by decide +kernel
  rw [hs] at e
  exact (Option.some.inj e).symm
theorem vX4_ears : z_okV mX4_ears 4 1 := ⟨oX4_ears, pX4_ears, z_in (z_t5 92 (by decide +kernel)) rfl, z_in (z_tp 76 (by decide +kernel)) rfl, _, _, rfl⟩
abbrev mX4_areEars : zM := (yX4_areEars, cX4_areEars, 4, Option.some Jvm.ClassFile.FieldType.boolean, 2)
theorem oX4_areEars : z_ok mX4_areEars := ⟨z_in (z_t5 89 (by decide +kernel)) rfl, z_iX4, by decide, by decide, by decide⟩
theorem pX4_areEars : z_np mX4_areEars 1 := fun sig hs => by
  have e : (parseMethodDescriptor yX4_areEars.desc).map (fun d => d.parameters.length) = some 1 := by decide +kernel
  rw [hs] at e
  exact (Option.some.inj e).symm
theorem vX4_areEars : z_okV mX4_areEars 4 1 := ⟨oX4_areEars, pX4_areEars, z_in (z_t5 88 (by decide +kernel)) rfl, z_in (z_tp 75 (by decide +kernel)) rfl, _, _, rfl⟩
abbrev mX4_isSo : zM := (yX4_isSo, cX4_isSo, 6, Option.some Jvm.ClassFile.FieldType.boolean, 3)
theorem oX4_isSo : z_ok mX4_isSo := ⟨z_in (z_t5 101 (by decide +kernel)) rfl, z_iX4, by decide, by decide, by decide⟩
theorem pX4_isSo : z_np mX4_isSo 3 := fun sig hs => by
  have e : (parseMethodDescriptor yX4_isSo.desc).map (fun d => d.parameters.length) = some 3 := by decide +kernel
  rw [hs] at e
  exact (Option.some.inj e).symm
theorem vX4_isSo : z_okV mX4_isSo 4 3 := ⟨oX4_isSo, pX4_isSo, z_in (z_t5 100 (by decide +kernel)) rfl, z_in (z_tp 78 (by decide +kernel)) rfl, _, _, rfl⟩
abbrev mX4_lacksOf : zM := (yX4_lacksOf, cX4_lacksOf, 4, Option.some Jvm.ClassFile.FieldType.int, 3)
theorem oX4_lacksOf : z_ok mX4_lacksOf := ⟨z_in (z_t5 77 (by decide +kernel)) rfl, z_iX4, by decide, by decide, by decide⟩
theorem pX4_lacksOf : z_np mX4_lacksOf 2 := fun sig hs => by
  have e : (parseMethodDescriptor yX4_lacksOf.desc).map (fun d => d.parameters.length) = some 2 := by decide +kernel
  rw [hs] at e
  exact (Option.some.inj e).symm
theorem vX4_lacksOf : z_okV mX4_lacksOf 4 2 := ⟨oX4_lacksOf, pX4_lacksOf, z_in (z_t5 76 (by decide +kernel)) rfl, z_in (z_tp 73 (by decide +kernel)) rfl, _, _, rfl⟩
abbrev mX4_stands : zM := (yX4_stands, cX4_stands, 5, Option.some Jvm.ClassFile.FieldType.int, 4)
theorem oX4_stands : z_ok mX4_stands := ⟨z_in (z_t5 73 (by decide +kernel)) rfl, z_iX4, by decide, by decide, by decide⟩
theorem pX4_stands : z_np mX4_stands 2 := fun sig hs => by
  have e : (parseMethodDescriptor yX4_stands.desc).map (fun d => d.parameters.length) = some 2 := by decide +kernel
  rw [hs] at e
  exact (Option.some.inj e).symm
theorem vX4_stands : z_okV mX4_stands 4 2 := ⟨oX4_stands, pX4_stands, z_in (z_t5 71 (by decide +kernel)) rfl, z_in (z_t5 72 (by decide +kernel)) rfl, _, _, rfl⟩
abbrev mX4_where : zM := (yX4_where, cX4_where, 4, Option.some Jvm.ClassFile.FieldType.int, 4)
theorem oX4_where : z_ok mX4_where := ⟨z_in (z_t5 105 (by decide +kernel)) rfl, z_iX4, by decide, by decide, by decide⟩
theorem pX4_where : z_np mX4_where 2 := fun sig hs => by
  have e : (parseMethodDescriptor yX4_where.desc).map (fun d => d.parameters.length) = some 2 := by decide +kernel
  rw [hs] at e
  exact (Option.some.inj e).symm
theorem vX4_where : z_okV mX4_where 4 2 := ⟨oX4_where, pX4_where, z_in (z_t5 103 (by decide +kernel)) rfl, z_in (z_t5 104 (by decide +kernel)) rfl, _, _, rfl⟩
abbrev mX4_worst : zM := (yX4_worst, cX4_worst, 7, Option.some Jvm.ClassFile.FieldType.int, 4)
theorem oX4_worst : z_ok mX4_worst := ⟨z_in (z_t5 113 (by decide +kernel)) rfl, z_iX4, by decide, by decide, by decide⟩
theorem pX4_worst : z_np mX4_worst 3 := fun sig hs => by
  have e : (parseMethodDescriptor yX4_worst.desc).map (fun d => d.parameters.length) = some 3 := by decide +kernel
  rw [hs] at e
  exact (Option.some.inj e).symm
theorem vX4_worst : z_okV mX4_worst 4 3 := ⟨oX4_worst, pX4_worst, z_in (z_t5 112 (by decide +kernel)) rfl, z_in (z_tp 79 (by decide +kernel)) rfl, _, _, rfl⟩
abbrev mX4_ear : zM := (yX4_ear, cX4_ear, 7, Option.some Jvm.ClassFile.FieldType.int, 5)
theorem oX4_ear : z_ok mX4_ear := ⟨z_in (z_t5 109 (by decide +kernel)) rfl, z_iX4, by decide, by decide, by decide⟩
theorem pX4_ear : z_np mX4_ear 2 := fun sig hs => by
  have e : (parseMethodDescriptor yX4_ear.desc).map (fun d => d.parameters.length) = some 2 := by decide +kernel
  rw [hs] at e
  exact (Option.some.inj e).symm
theorem vX4_ear : z_okV mX4_ear 4 2 := ⟨oX4_ear, pX4_ear, z_in (z_t5 107 (by decide +kernel)) rfl, z_in (z_t5 108 (by decide +kernel)) rfl, _, _, rfl⟩
abbrev mX4_whose : zM := (yX4_whose, cX4_whose, 4, Option.some Jvm.ClassFile.FieldType.int, 4)
theorem oX4_whose : z_ok mX4_whose := ⟨z_in (z_t5 117 (by decide +kernel)) rfl, z_iX4, by decide, by decide, by decide⟩
theorem pX4_whose : z_np mX4_whose 1 := fun sig hs => by
  have e : (parseMethodDescriptor yX4_whose.desc).map (fun d => d.parameters.length) = some 1 := by decide +kernel
  rw [hs] at e
  exact (Option.some.inj e).symm
theorem vX4_whose : z_okV mX4_whose 4 1 := ⟨oX4_whose, pX4_whose, z_in (z_t5 115 (by decide +kernel)) rfl, z_in (z_t5 116 (by decide +kernel)) rfl, _, _, rfl⟩
abbrev mX4_stockBehind : zM := (yX4_stockBehind, cX4_stockBehind, 5, Option.some Jvm.ClassFile.FieldType.int, 1)
theorem oX4_stockBehind : z_ok mX4_stockBehind := ⟨z_in (z_t5 124 (by decide +kernel)) rfl, z_iX4, by decide, by decide, by decide⟩
theorem pX4_stockBehind : z_np mX4_stockBehind 3 := fun sig hs => by
  have e : (parseMethodDescriptor yX4_stockBehind.desc).map (fun d => d.parameters.length) = some 3 := by decide +kernel
  rw [hs] at e
  exact (Option.some.inj e).symm
theorem sX4_stockBehind : z_okS mX4_stockBehind 3 := ⟨oX4_stockBehind, pX4_stockBehind, z_in (z_t5 123 (by decide +kernel)) rfl⟩
abbrev mX4_stock : zM := (yX4_stock, cX4_stock, 4, Option.some Jvm.ClassFile.FieldType.int, 2)
theorem oX4_stock : z_ok mX4_stock := ⟨z_in (z_t5 121 (by decide +kernel)) rfl, z_iX4, by decide, by decide, by decide⟩
theorem pX4_stock : z_np mX4_stock 3 := fun sig hs => by
  have e : (parseMethodDescriptor yX4_stock.desc).map (fun d => d.parameters.length) = some 3 := by decide +kernel
  rw [hs] at e
  exact (Option.some.inj e).symm
theorem vX4_stock : z_okV mX4_stock 4 3 := ⟨oX4_stock, pX4_stock, z_in (z_t5 119 (by decide +kernel)) rfl, z_in (z_t5 120 (by decide +kernel)) rfl, _, _, rfl⟩
abbrev mX4_lasts : zM := (yX4_lasts, cX4_lasts, 4, Option.some Jvm.ClassFile.FieldType.int, 2)
theorem oX4_lasts : z_ok mX4_lasts := ⟨z_in (z_t5 128 (by decide +kernel)) rfl, z_iX4, by decide, by decide, by decide⟩
theorem pX4_lasts : z_np mX4_lasts 2 := fun sig hs => by
  have e : (parseMethodDescriptor yX4_lasts.desc).map (fun d => d.parameters.length) = some 2 := by decide +kernel
  rw [hs] at e
  exact (Option.some.inj e).symm
theorem vX4_lasts : z_okV mX4_lasts 4 2 := ⟨oX4_lasts, pX4_lasts, z_in (z_t5 126 (by decide +kernel)) rfl, z_in (z_t5 127 (by decide +kernel)) rfl, _, _, rfl⟩
abbrev mX4_areRing : zM := (yX4_areRing, cX4_areRing, 6, Option.some Jvm.ClassFile.FieldType.boolean, 2)
theorem oX4_areRing : z_ok mX4_areRing := ⟨z_in (z_t5 140 (by decide +kernel)) rfl, z_iX4, by decide, by decide, by decide⟩
theorem pX4_areRing : z_np mX4_areRing 1 := fun sig hs => by
  have e : (parseMethodDescriptor yX4_areRing.desc).map (fun d => d.parameters.length) = some 1 := by decide +kernel
  rw [hs] at e
  exact (Option.some.inj e).symm
theorem vX4_areRing : z_okV mX4_areRing 4 1 := ⟨oX4_areRing, pX4_areRing, z_in (z_t5 139 (by decide +kernel)) rfl, z_in (z_tp 81 (by decide +kernel)) rfl, _, _, rfl⟩
abbrev mX4_stepBySteps : zM := (yX4_stepBySteps, cX4_stepBySteps, 4, Option.some Jvm.ClassFile.FieldType.boolean, 1)
theorem oX4_stepBySteps : z_ok mX4_stepBySteps := ⟨z_in (z_t5 146 (by decide +kernel)) rfl, z_iX4, by decide, by decide, by decide⟩
theorem pX4_stepBySteps : z_np mX4_stepBySteps 1 := fun sig hs => by
  have e : (parseMethodDescriptor yX4_stepBySteps.desc).map (fun d => d.parameters.length) = some 1 := by decide +kernel
  rw [hs] at e
  exact (Option.some.inj e).symm
theorem sX4_stepBySteps : z_okS mX4_stepBySteps 1 := ⟨oX4_stepBySteps, pX4_stepBySteps, z_in (z_t5 145 (by decide +kernel)) rfl⟩
abbrev mX4_greatest : zM := (yX4_greatest, cX4_greatest, 3, Option.some Jvm.ClassFile.FieldType.int, 3)
theorem oX4_greatest : z_ok mX4_greatest := ⟨z_in (z_t5 136 (by decide +kernel)) rfl, z_iX4, by decide, by decide, by decide⟩
theorem pX4_greatest : z_np mX4_greatest 0 := fun sig hs => by
  have e : (parseMethodDescriptor yX4_greatest.desc).map (fun d => d.parameters.length) = some 0 := by decide +kernel
  rw [hs] at e
  exact (Option.some.inj e).symm
theorem vX4_greatest : z_okV mX4_greatest 4 0 := ⟨oX4_greatest, pX4_greatest, z_in (z_t5 135 (by decide +kernel)) rfl, z_in (z_tp 80 (by decide +kernel)) rfl, _, _, rfl⟩
abbrev mX4_ring : zM := (yX4_ring, cX4_ring, 1, Option.some Jvm.ClassFile.FieldType.int, 4)
theorem oX4_ring : z_ok mX4_ring := ⟨z_in (z_t5 132 (by decide +kernel)) rfl, z_iX4, by decide, by decide, by decide⟩
theorem pX4_ring : z_np mX4_ring 0 := fun sig hs => by
  have e : (parseMethodDescriptor yX4_ring.desc).map (fun d => d.parameters.length) = some 0 := by decide +kernel
  rw [hs] at e
  exact (Option.some.inj e).symm
theorem vX4_ring : z_okV mX4_ring 4 0 := ⟨oX4_ring, pX4_ring, z_in (z_t5 130 (by decide +kernel)) rfl, z_in (z_t5 131 (by decide +kernel)) rfl, _, _, rfl⟩
abbrev mX4_rings : zM := (yX4_rings, cX4_rings, 1, Option.some Jvm.ClassFile.FieldType.int, 4)
theorem oX4_rings : z_ok mX4_rings := ⟨z_in (z_t5 150 (by decide +kernel)) rfl, z_iX4, by decide, by decide, by decide⟩
theorem pX4_rings : z_np mX4_rings 0 := fun sig hs => by
  have e : (parseMethodDescriptor yX4_rings.desc).map (fun d => d.parameters.length) = some 0 := by decide +kernel
  rw [hs] at e
  exact (Option.some.inj e).symm
theorem vX4_rings : z_okV mX4_rings 4 0 := ⟨oX4_rings, pX4_rings, z_in (z_t5 148 (by decide +kernel)) rfl, z_in (z_t5 149 (by decide +kernel)) rfl, _, _, rfl⟩
abbrev mX4_peals : zM := (yX4_peals, cX4_peals, 3, Option.some Jvm.ClassFile.FieldType.int, 3)
theorem oX4_peals : z_ok mX4_peals := ⟨z_in (z_t5 154 (by decide +kernel)) rfl, z_iX4, by decide, by decide, by decide⟩
theorem pX4_peals : z_np mX4_peals 0 := fun sig hs => by
  have e : (parseMethodDescriptor yX4_peals.desc).map (fun d => d.parameters.length) = some 0 := by decide +kernel
  rw [hs] at e
  exact (Option.some.inj e).symm
theorem vX4_peals : z_okV mX4_peals 4 0 := ⟨oX4_peals, pX4_peals, z_in (z_t5 152 (by decide +kernel)) rfl, z_in (z_t5 153 (by decide +kernel)) rfl, _, _, rfl⟩
abbrev mX4_longest : zM := (yX4_longest, cX4_longest, 5, Option.some Jvm.ClassFile.FieldType.int, 1)
theorem oX4_longest : z_ok mX4_longest := ⟨z_in (z_t5 161 (by decide +kernel)) rfl, z_iX4, by decide, by decide, by decide⟩
theorem pX4_longest : z_np mX4_longest 1 := fun sig hs => by
  have e : (parseMethodDescriptor yX4_longest.desc).map (fun d => d.parameters.length) = some 1 := by decide +kernel
  rw [hs] at e
  exact (Option.some.inj e).symm
theorem sX4_longest : z_okS mX4_longest 1 := ⟨oX4_longest, pX4_longest, z_in (z_t5 160 (by decide +kernel)) rfl⟩
abbrev mX4_wanted : zM := (yX4_wanted, cX4_wanted, 4, Option.some Jvm.ClassFile.FieldType.int, 2)
theorem oX4_wanted : z_ok mX4_wanted := ⟨z_in (z_t5 158 (by decide +kernel)) rfl, z_iX4, by decide, by decide, by decide⟩
theorem pX4_wanted : z_np mX4_wanted 0 := fun sig hs => by
  have e : (parseMethodDescriptor yX4_wanted.desc).map (fun d => d.parameters.length) = some 0 := by decide +kernel
  rw [hs] at e
  exact (Option.some.inj e).symm
theorem vX4_wanted : z_okV mX4_wanted 4 0 := ⟨oX4_wanted, pX4_wanted, z_in (z_t5 156 (by decide +kernel)) rfl, z_in (z_t5 157 (by decide +kernel)) rfl, _, _, rfl⟩
abbrev mX4_changes : zM := (yX4_changes, cX4_changes, 5, Option.some Jvm.ClassFile.FieldType.long, 1)
theorem oX4_changes : z_ok mX4_changes := ⟨z_in (z_t5 165 (by decide +kernel)) rfl, z_iX4, by decide, by decide, by decide⟩
theorem pX4_changes : z_np mX4_changes 1 := fun sig hs => by
  have e : (parseMethodDescriptor yX4_changes.desc).map (fun d => d.parameters.length) = some 1 := by decide +kernel
  rw [hs] at e
  exact (Option.some.inj e).symm
theorem vX4_changes : z_okV mX4_changes 4 1 := ⟨oX4_changes, pX4_changes, z_in (z_t5 163 (by decide +kernel)) rfl, z_in (z_t5 164 (by decide +kernel)) rfl, _, _, rfl⟩
abbrev mX4_drawn : zM := (yX4_drawn, cX4_drawn, 2, Option.some Jvm.ClassFile.FieldType.int, 0)
theorem oX4_drawn : z_ok mX4_drawn := ⟨z_in (z_t5 173 (by decide +kernel)) rfl, z_iX4, by decide, by decide, by decide⟩
theorem pX4_drawn : z_np mX4_drawn 1 := fun sig hs => by
  have e : (parseMethodDescriptor yX4_drawn.desc).map (fun d => d.parameters.length) = some 1 := by decide +kernel
  rw [hs] at e
  exact (Option.some.inj e).symm
theorem vX4_drawn : z_okV mX4_drawn 4 1 := ⟨oX4_drawn, pX4_drawn, z_in (z_t5 172 (by decide +kernel)) rfl, z_in (z_tp 82 (by decide +kernel)) rfl, _, _, rfl⟩
abbrev mX4_thunder : zM := (yX4_thunder, cX4_thunder, 5, Option.some Jvm.ClassFile.FieldType.int, 7)
theorem oX4_thunder : z_ok mX4_thunder := ⟨z_in (z_t5 169 (by decide +kernel)) rfl, z_iX4, by decide, by decide, by decide⟩
theorem pX4_thunder : z_np mX4_thunder 1 := fun sig hs => by
  have e : (parseMethodDescriptor yX4_thunder.desc).map (fun d => d.parameters.length) = some 1 := by decide +kernel
  rw [hs] at e
  exact (Option.some.inj e).symm
theorem vX4_thunder : z_okV mX4_thunder 4 1 := ⟨oX4_thunder, pX4_thunder, z_in (z_t5 167 (by decide +kernel)) rfl, z_in (z_t5 168 (by decide +kernel)) rfl, _, _, rfl⟩
abbrev mX4_seed : zM := (yX4_seed, cX4_seed, 2, Option.some Jvm.ClassFile.FieldType.int, 1)
theorem oX4_seed : z_ok mX4_seed := ⟨z_in (z_t5 178 (by decide +kernel)) rfl, z_iX4, by decide, by decide, by decide⟩
theorem pX4_seed : z_np mX4_seed 1 := fun sig hs => by
  have e : (parseMethodDescriptor yX4_seed.desc).map (fun d => d.parameters.length) = some 1 := by decide +kernel
  rw [hs] at e
  exact (Option.some.inj e).symm
theorem vX4_seed : z_okV mX4_seed 4 1 := ⟨oX4_seed, pX4_seed, z_in (z_t5 176 (by decide +kernel)) rfl, z_in (z_t5 177 (by decide +kernel)) rfl, _, _, rfl⟩
abbrev mX4_feed : zM := (yX4_feed, cX4_feed, 4, Option.some Jvm.ClassFile.FieldType.int, 1)
theorem oX4_feed : z_ok mX4_feed := ⟨z_in (z_t5 182 (by decide +kernel)) rfl, z_iX4, by decide, by decide, by decide⟩
theorem pX4_feed : z_np mX4_feed 2 := fun sig hs => by
  have e : (parseMethodDescriptor yX4_feed.desc).map (fun d => d.parameters.length) = some 2 := by decide +kernel
  rw [hs] at e
  exact (Option.some.inj e).symm
theorem vX4_feed : z_okV mX4_feed 4 2 := ⟨oX4_feed, pX4_feed, z_in (z_t5 180 (by decide +kernel)) rfl, z_in (z_t5 181 (by decide +kernel)) rfl, _, _, rfl⟩
abbrev mX4_wipe : zM := (yX4_wipe, cX4_wipe, 2, Option.some Jvm.ClassFile.FieldType.int, 0)
theorem oX4_wipe : z_ok mX4_wipe := ⟨z_in (z_t5 186 (by decide +kernel)) rfl, z_iX4, by decide, by decide, by decide⟩
theorem pX4_wipe : z_np mX4_wipe 0 := fun sig hs => by
  have e : (parseMethodDescriptor yX4_wipe.desc).map (fun d => d.parameters.length) = some 0 := by decide +kernel
  rw [hs] at e
  exact (Option.some.inj e).symm
theorem vX4_wipe : z_okV mX4_wipe 4 0 := ⟨oX4_wipe, pX4_wipe, z_in (z_t5 184 (by decide +kernel)) rfl, z_in (z_t5 185 (by decide +kernel)) rfl, _, _, rfl⟩
abbrev mX4_byteAt : zM := (yX4_byteAt, cX4_byteAt, 2, Option.some Jvm.ClassFile.FieldType.int, 0)
theorem oX4_byteAt : z_ok mX4_byteAt := ⟨z_in (z_t5 198 (by decide +kernel)) rfl, z_iX4, by decide, by decide, by decide⟩
theorem pX4_byteAt : z_np mX4_byteAt 1 := fun sig hs => by
  have e : (parseMethodDescriptor yX4_byteAt.desc).map (fun d => d.parameters.length) = some 1 := by decide +kernel
  rw [hs] at e
  exact (Option.some.inj e).symm
theorem vX4_byteAt : z_okV mX4_byteAt 4 1 := ⟨oX4_byteAt, pX4_byteAt, z_in (z_t5 197 (by decide +kernel)) rfl, z_in (z_tp 84 (by decide +kernel)) rfl, _, _, rfl⟩
abbrev mX4_next : zM := (yX4_next, cX4_next, 2, Option.none, 1)
theorem oX4_next : z_ok mX4_next := ⟨z_in (z_t5 194 (by decide +kernel)) rfl, z_iX4, by decide, by decide, by decide⟩
theorem pX4_next : z_np mX4_next 0 := fun sig hs => by
  have e : (parseMethodDescriptor yX4_next.desc).map (fun d => d.parameters.length) = some 0 := by decide +kernel
  rw [hs] at e
  exact (Option.some.inj e).symm
theorem vX4_next : z_okV mX4_next 4 0 := ⟨oX4_next, pX4_next, z_in (z_t5 193 (by decide +kernel)) rfl, z_in (z_tp 83 (by decide +kernel)) rfl, _, _, rfl⟩
abbrev mX4_isWord : zM := (yX4_isWord, cX4_isWord, 4, Option.some Jvm.ClassFile.FieldType.boolean, 6)
theorem oX4_isWord : z_ok mX4_isWord := ⟨z_in (z_t5 210 (by decide +kernel)) rfl, z_iX4, by decide, by decide, by decide⟩
theorem pX4_isWord : z_np mX4_isWord 1 := fun sig hs => by
  have e : (parseMethodDescriptor yX4_isWord.desc).map (fun d => d.parameters.length) = some 1 := by decide +kernel
  rw [hs] at e
  exact (Option.some.inj e).symm
theorem vX4_isWord : z_okV mX4_isWord 4 1 := ⟨oX4_isWord, pX4_isWord, z_in (z_t5 209 (by decide +kernel)) rfl, z_in (z_tp 87 (by decide +kernel)) rfl, _, _, rfl⟩
abbrev mX4_must : zM := (yX4_must, cX4_must, 2, Option.none, 2)
theorem oX4_must : z_ok mX4_must := ⟨z_in (z_t5 216 (by decide +kernel)) rfl, z_iX4, by decide, by decide, by decide⟩
theorem pX4_must : z_np mX4_must 1 := fun sig hs => by
  have e : (parseMethodDescriptor yX4_must.desc).map (fun d => d.parameters.length) = some 1 := by decide +kernel
  rw [hs] at e
  exact (Option.some.inj e).symm
theorem vX4_must : z_okV mX4_must 4 1 := ⟨oX4_must, pX4_must, z_in (z_t5 215 (by decide +kernel)) rfl, z_in (z_tp 88 (by decide +kernel)) rfl, _, _, rfl⟩
abbrev mX4_number : zM := (yX4_number, cX4_number, 4, Option.some Jvm.ClassFile.FieldType.int, 3)
theorem oX4_number : z_ok mX4_number := ⟨z_in (z_t5 225 (by decide +kernel)) rfl, z_iX4, by decide, by decide, by decide⟩
theorem pX4_number : z_np mX4_number 2 := fun sig hs => by
  have e : (parseMethodDescriptor yX4_number.desc).map (fun d => d.parameters.length) = some 2 := by decide +kernel
  rw [hs] at e
  exact (Option.some.inj e).symm
theorem vX4_number : z_okV mX4_number 4 2 := ⟨oX4_number, pX4_number, z_in (z_t5 224 (by decide +kernel)) rfl, z_in (z_tp 90 (by decide +kernel)) rfl, _, _, rfl⟩
abbrev mX4_item : zM := (yX4_item, cX4_item, 6, Option.none, 0)
theorem oX4_item : z_ok mX4_item := ⟨z_in (z_t5 231 (by decide +kernel)) rfl, z_iX4, by decide, by decide, by decide⟩
theorem pX4_item : z_np mX4_item 4 := fun sig hs => by
  have e : (parseMethodDescriptor yX4_item.desc).map (fun d => d.parameters.length) = some 4 := by decide +kernel
  rw [hs] at e
  exact (Option.some.inj e).symm
theorem vX4_item : z_okV mX4_item 4 4 := ⟨oX4_item, pX4_item, z_in (z_t5 230 (by decide +kernel)) rfl, z_in (z_tp 91 (by decide +kernel)) rfl, _, _, rfl⟩
abbrev mX4_kindTold : zM := (yX4_kindTold, cX4_kindTold, 3, Option.some Jvm.ClassFile.FieldType.int, 7)
theorem oX4_kindTold : z_ok mX4_kindTold := ⟨z_in (z_t5 206 (by decide +kernel)) rfl, z_iX4, by decide, by decide, by decide⟩
theorem pX4_kindTold : z_np mX4_kindTold 0 := fun sig hs => by
  have e : (parseMethodDescriptor yX4_kindTold.desc).map (fun d => d.parameters.length) = some 0 := by decide +kernel
  rw [hs] at e
  exact (Option.some.inj e).symm
theorem vX4_kindTold : z_okV mX4_kindTold 4 0 := ⟨oX4_kindTold, pX4_kindTold, z_in (z_t5 205 (by decide +kernel)) rfl, z_in (z_tp 86 (by decide +kernel)) rfl, _, _, rfl⟩
abbrev mX4_isNext : zM := (yX4_isNext, cX4_isNext, 3, Option.some Jvm.ClassFile.FieldType.boolean, 7)
theorem oX4_isNext : z_ok mX4_isNext := ⟨z_in (z_t5 221 (by decide +kernel)) rfl, z_iX4, by decide, by decide, by decide⟩
theorem pX4_isNext : z_np mX4_isNext 1 := fun sig hs => by
  have e : (parseMethodDescriptor yX4_isNext.desc).map (fun d => d.parameters.length) = some 1 := by decide +kernel
  rw [hs] at e
  exact (Option.some.inj e).symm
theorem vX4_isNext : z_okV mX4_isNext 4 1 := ⟨oX4_isNext, pX4_isNext, z_in (z_t5 220 (by decide +kernel)) rfl, z_in (z_tp 89 (by decide +kernel)) rfl, _, _, rfl⟩
abbrev mX4_readItem : zM := (yX4_readItem, cX4_readItem, 4, Option.none, 8)
theorem oX4_readItem : z_ok mX4_readItem := ⟨z_in (z_t5 202 (by decide +kernel)) rfl, z_iX4, by decide, by decide, by decide⟩
theorem pX4_readItem : z_np mX4_readItem 0 := fun sig hs => by
  have e : (parseMethodDescriptor yX4_readItem.desc).map (fun d => d.parameters.length) = some 0 := by decide +kernel
  rw [hs] at e
  exact (Option.some.inj e).symm
theorem vX4_readItem : z_okV mX4_readItem 4 0 := ⟨oX4_readItem, pX4_readItem, z_in (z_t5 201 (by decide +kernel)) rfl, z_in (z_tp 85 (by decide +kernel)) rfl, _, _, rfl⟩
abbrev mX4_isToldSo : zM := (yX4_isToldSo, cX4_isToldSo, 4, Option.some Jvm.ClassFile.FieldType.int, 2)
theorem oX4_isToldSo : z_ok mX4_isToldSo := ⟨z_in (z_t5 239 (by decide +kernel)) rfl, z_iX4, by decide, by decide, by decide⟩
theorem pX4_isToldSo : z_np mX4_isToldSo 1 := fun sig hs => by
  have e : (parseMethodDescriptor yX4_isToldSo.desc).map (fun d => d.parameters.length) = some 1 := by decide +kernel
  rw [hs] at e
  exact (Option.some.inj e).symm
theorem vX4_isToldSo : z_okV mX4_isToldSo 4 1 := ⟨oX4_isToldSo, pX4_isToldSo, z_in (z_t5 238 (by decide +kernel)) rfl, z_in (z_tp 92 (by decide +kernel)) rfl, _, _, rfl⟩
abbrev mX4_text : zM := (yX4_text, cX4_text, 3, Option.some Jvm.ClassFile.FieldType.int, 9)
theorem oX4_text : z_ok mX4_text := ⟨z_in (z_t5 190 (by decide +kernel)) rfl, z_iX4, by decide, by decide, by decide⟩
theorem pX4_text : z_np mX4_text 0 := fun sig hs => by
  have e : (parseMethodDescriptor yX4_text.desc).map (fun d => d.parameters.length) = some 0 := by decide +kernel
  rw [hs] at e
  exact (Option.some.inj e).symm
theorem vX4_text : z_okV mX4_text 4 0 := ⟨oX4_text, pX4_text, z_in (z_t5 188 (by decide +kernel)) rfl, z_in (z_t5 189 (by decide +kernel)) rfl, _, _, rfl⟩
abbrev mX4_isSpot : zM := (yX4_isSpot, cX4_isSpot, 1, Option.some Jvm.ClassFile.FieldType.boolean, 1)
theorem oX4_isSpot : z_ok mX4_isSpot := ⟨z_in (z_t6 6 (by decide +kernel)) rfl, z_iX4, by decide, by decide, by decide⟩
theorem pX4_isSpot : z_np mX4_isSpot 1 := fun sig hs => by
  have e : (parseMethodDescriptor yX4_isSpot.desc).map (fun d => d.parameters.length) = some 1 := by decide +kernel
  rw [hs] at e
  exact (Option.some.inj e).symm
theorem sX4_isSpot : z_okS mX4_isSpot 1 := ⟨oX4_isSpot, pX4_isSpot, z_in (z_t6 5 (by decide +kernel)) rfl⟩
abbrev mX4_hold : zM := (yX4_hold, cX4_hold, 3, Option.some Jvm.ClassFile.FieldType.int, 2)
theorem oX4_hold : z_ok mX4_hold := ⟨z_in (z_t6 3 (by decide +kernel)) rfl, z_iX4, by decide, by decide, by decide⟩
theorem pX4_hold : z_np mX4_hold 2 := fun sig hs => by
  have e : (parseMethodDescriptor yX4_hold.desc).map (fun d => d.parameters.length) = some 2 := by decide +kernel
  rw [hs] at e
  exact (Option.some.inj e).symm
theorem vX4_hold : z_okV mX4_hold 4 2 := ⟨oX4_hold, pX4_hold, z_in (z_t6 1 (by decide +kernel)) rfl, z_in (z_t6 2 (by decide +kernel)) rfl, _, _, rfl⟩
abbrev mX4_as : zM := (yX4_as, cX4_as, 4, Option.some Jvm.ClassFile.FieldType.int, 2)
theorem oX4_as : z_ok mX4_as := ⟨z_in (z_t6 10 (by decide +kernel)) rfl, z_iX4, by decide, by decide, by decide⟩
theorem pX4_as : z_np mX4_as 2 := fun sig hs => by
  have e : (parseMethodDescriptor yX4_as.desc).map (fun d => d.parameters.length) = some 2 := by decide +kernel
  rw [hs] at e
  exact (Option.some.inj e).symm
theorem vX4_as : z_okV mX4_as 4 2 := ⟨oX4_as, pX4_as, z_in (z_t6 8 (by decide +kernel)) rfl, z_in (z_t6 9 (by decide +kernel)) rfl, _, _, rfl⟩
abbrev mX4_isSheet : zM := (yX4_isSheet, cX4_isSheet, 1, Option.some Jvm.ClassFile.FieldType.boolean, 1)
theorem oX4_isSheet : z_ok mX4_isSheet := ⟨z_in (z_t5 84 (by decide +kernel)) rfl, z_iX4, by decide, by decide, by decide⟩
theorem pX4_isSheet : z_np mX4_isSheet 1 := fun sig hs => by
  have e : (parseMethodDescriptor yX4_isSheet.desc).map (fun d => d.parameters.length) = some 1 := by decide +kernel
  rw [hs] at e
  exact (Option.some.inj e).symm
theorem sX4_isSheet : z_okS mX4_isSheet 1 := ⟨oX4_isSheet, pX4_isSheet, z_in (z_t5 83 (by decide +kernel)) rfl⟩
abbrev mX4_cutTo : zM := (yX4_cutTo, cX4_cutTo, 2, Option.some Jvm.ClassFile.FieldType.int, 0)
theorem oX4_cutTo : z_ok mX4_cutTo := ⟨z_in (z_t6 23 (by decide +kernel)) rfl, z_iX4, by decide, by decide, by decide⟩
theorem pX4_cutTo : z_np mX4_cutTo 2 := fun sig hs => by
  have e : (parseMethodDescriptor yX4_cutTo.desc).map (fun d => d.parameters.length) = some 2 := by decide +kernel
  rw [hs] at e
  exact (Option.some.inj e).symm
theorem sX4_cutTo : z_okS mX4_cutTo 2 := ⟨oX4_cutTo, pX4_cutTo, z_in (z_t6 22 (by decide +kernel)) rfl⟩
abbrev mX4_sheet : zM := (yX4_sheet, cX4_sheet, 5, Option.some Jvm.ClassFile.FieldType.int, 2)
theorem oX4_sheet : z_ok mX4_sheet := ⟨z_in (z_t6 15 (by decide +kernel)) rfl, z_iX4, by decide, by decide, by decide⟩
theorem pX4_sheet : z_np mX4_sheet 3 := fun sig hs => by
  have e : (parseMethodDescriptor yX4_sheet.desc).map (fun d => d.parameters.length) = some 3 := by decide +kernel
  rw [hs] at e
  exact (Option.some.inj e).symm
theorem vX4_sheet : z_okV mX4_sheet 4 3 := ⟨oX4_sheet, pX4_sheet, z_in (z_t6 13 (by decide +kernel)) rfl, z_in (z_t6 14 (by decide +kernel)) rfl, _, _, rfl⟩
abbrev mX4_write : zM := (yX4_write, cX4_write, 4, Option.some Jvm.ClassFile.FieldType.int, 2)
theorem oX4_write : z_ok mX4_write := ⟨z_in (z_t6 20 (by decide +kernel)) rfl, z_iX4, by decide, by decide, by decide⟩
theorem pX4_write : z_np mX4_write 3 := fun sig hs => by
  have e : (parseMethodDescriptor yX4_write.desc).map (fun d => d.parameters.length) = some 3 := by decide +kernel
  rw [hs] at e
  exact (Option.some.inj e).symm
theorem vX4_write : z_okV mX4_write 4 3 := ⟨oX4_write, pX4_write, z_in (z_t6 18 (by decide +kernel)) rfl, z_in (z_t6 19 (by decide +kernel)) rfl, _, _, rfl⟩
abbrev mX4_copy : zM := (yX4_copy, cX4_copy, 7, Option.some Jvm.ClassFile.FieldType.int, 2)
theorem oX4_copy : z_ok mX4_copy := ⟨z_in (z_t6 27 (by decide +kernel)) rfl, z_iX4, by decide, by decide, by decide⟩
theorem pX4_copy : z_np mX4_copy 5 := fun sig hs => by
  have e : (parseMethodDescriptor yX4_copy.desc).map (fun d => d.parameters.length) = some 5 := by decide +kernel
  rw [hs] at e
  exact (Option.some.inj e).symm
theorem vX4_copy : z_okV mX4_copy 4 5 := ⟨oX4_copy, pX4_copy, z_in (z_t6 25 (by decide +kernel)) rfl, z_in (z_t6 26 (by decide +kernel)) rfl, _, _, rfl⟩
abbrev mX4_load : zM := (yX4_load, cX4_load, 3, Option.some Jvm.ClassFile.FieldType.int, 3)
theorem oX4_load : z_ok mX4_load := ⟨z_in (z_t6 31 (by decide +kernel)) rfl, z_iX4, by decide, by decide, by decide⟩
theorem pX4_load : z_np mX4_load 1 := fun sig hs => by
  have e : (parseMethodDescriptor yX4_load.desc).map (fun d => d.parameters.length) = some 1 := by decide +kernel
  rw [hs] at e
  exact (Option.some.inj e).symm
theorem vX4_load : z_okV mX4_load 4 1 := ⟨oX4_load, pX4_load, z_in (z_t6 29 (by decide +kernel)) rfl, z_in (z_t6 30 (by decide +kernel)) rfl, _, _, rfl⟩
abbrev mX4_judge : zM := (yX4_judge, cX4_judge, 6, Option.some Jvm.ClassFile.FieldType.int, 3)
theorem oX4_judge : z_ok mX4_judge := ⟨z_in (z_t6 35 (by decide +kernel)) rfl, z_iX4, by decide, by decide, by decide⟩
theorem pX4_judge : z_np mX4_judge 1 := fun sig hs => by
  have e : (parseMethodDescriptor yX4_judge.desc).map (fun d => d.parameters.length) = some 1 := by decide +kernel
  rw [hs] at e
  exact (Option.some.inj e).symm
theorem vX4_judge : z_okV mX4_judge 4 1 := ⟨oX4_judge, pX4_judge, z_in (z_t6 33 (by decide +kernel)) rfl, z_in (z_t6 34 (by decide +kernel)) rfl, _, _, rfl⟩
abbrev mX4_image : zM := (yX4_image, cX4_image, 1, Option.some Jvm.ClassFile.FieldType.int, 1)
theorem oX4_image : z_ok mX4_image := ⟨z_in (z_t6 39 (by decide +kernel)) rfl, z_iX4, by decide, by decide, by decide⟩
theorem pX4_image : z_np mX4_image 0 := fun sig hs => by
  have e : (parseMethodDescriptor yX4_image.desc).map (fun d => d.parameters.length) = some 0 := by decide +kernel
  rw [hs] at e
  exact (Option.some.inj e).symm
theorem vX4_image : z_okV mX4_image 4 0 := ⟨oX4_image, pX4_image, z_in (z_t6 37 (by decide +kernel)) rfl, z_in (z_t6 38 (by decide +kernel)) rfl, _, _, rfl⟩
abbrev mX4_undo : zM := (yX4_undo, cX4_undo, 1, Option.some Jvm.ClassFile.FieldType.int, 1)
theorem oX4_undo : z_ok mX4_undo := ⟨z_in (z_t6 43 (by decide +kernel)) rfl, z_iX4, by decide, by decide, by decide⟩
theorem pX4_undo : z_np mX4_undo 0 := fun sig hs => by
  have e : (parseMethodDescriptor yX4_undo.desc).map (fun d => d.parameters.length) = some 0 := by decide +kernel
  rw [hs] at e
  exact (Option.some.inj e).symm
theorem vX4_undo : z_okV mX4_undo 4 0 := ⟨oX4_undo, pX4_undo, z_in (z_t6 41 (by decide +kernel)) rfl, z_in (z_t6 42 (by decide +kernel)) rfl, _, _, rfl⟩
abbrev mX4_tear : zM := (yX4_tear, cX4_tear, 2, Option.some Jvm.ClassFile.FieldType.int, 0)
theorem oX4_tear : z_ok mX4_tear := ⟨z_in (z_t6 47 (by decide +kernel)) rfl, z_iX4, by decide, by decide, by decide⟩
theorem pX4_tear : z_np mX4_tear 0 := fun sig hs => by
  have e : (parseMethodDescriptor yX4_tear.desc).map (fun d => d.parameters.length) = some 0 := by decide +kernel
  rw [hs] at e
  exact (Option.some.inj e).symm
theorem vX4_tear : z_okV mX4_tear 4 0 := ⟨oX4_tear, pX4_tear, z_in (z_t6 45 (by decide +kernel)) rfl, z_in (z_t6 46 (by decide +kernel)) rfl, _, _, rfl⟩
abbrev mX4_count : zM := (yX4_count, cX4_count, 4, Option.some Jvm.ClassFile.FieldType.int, 4)
theorem oX4_count : z_ok mX4_count := ⟨z_in (z_t6 51 (by decide +kernel)) rfl, z_iX4, by decide, by decide, by decide⟩
theorem pX4_count : z_np mX4_count 1 := fun sig hs => by
  have e : (parseMethodDescriptor yX4_count.desc).map (fun d => d.parameters.length) = some 1 := by decide +kernel
  rw [hs] at e
  exact (Option.some.inj e).symm
theorem vX4_count : z_okV mX4_count 4 1 := ⟨oX4_count, pX4_count, z_in (z_t6 49 (by decide +kernel)) rfl, z_in (z_t6 50 (by decide +kernel)) rfl, _, _, rfl⟩
abbrev mX4_status : zM := (yX4_status, cX4_status, 2, Option.some Jvm.ClassFile.FieldType.int, 1)
theorem oX4_status : z_ok mX4_status := ⟨z_in (z_t6 55 (by decide +kernel)) rfl, z_iX4, by decide, by decide, by decide⟩
theorem pX4_status : z_np mX4_status 1 := fun sig hs => by
  have e : (parseMethodDescriptor yX4_status.desc).map (fun d => d.parameters.length) = some 1 := by decide +kernel
  rw [hs] at e
  exact (Option.some.inj e).symm
theorem vX4_status : z_okV mX4_status 4 1 := ⟨oX4_status, pX4_status, z_in (z_t6 53 (by decide +kernel)) rfl, z_in (z_t6 54 (by decide +kernel)) rfl, _, _, rfl⟩
abbrev mJ6_bitCount_0f7a4 : zM := (yJ6_bitCount_0f7a4, cJ6_bitCount_0f7a4, 1, Option.some Jvm.ClassFile.FieldType.int, 0)
theorem oJ6_bitCount_0f7a4 : z_ok mJ6_bitCount_0f7a4 := ⟨z_in (z_t2 80 (by decide +kernel)) rfl, z_iJ6, by decide, by decide, by decide⟩
theorem pJ6_bitCount_0f7a4 : z_np mJ6_bitCount_0f7a4 1 := fun sig hs => by
  have e : (parseMethodDescriptor yJ6_bitCount_0f7a4.desc).map (fun d => d.parameters.length) = some 1 := by decide +kernel
  rw [hs] at e
  exact (Option.some.inj e).symm
theorem sJ6_bitCount_0f7a4 : z_okS mJ6_bitCount_0f7a4 1 := ⟨oJ6_bitCount_0f7a4, pJ6_bitCount_0f7a4, z_in (z_t2 79 (by decide +kernel)) rfl⟩
abbrev mJ13_bitCount_95d88 : zM := (yJ13_bitCount_95d88, cJ13_bitCount_95d88, 2, Option.some Jvm.ClassFile.FieldType.int, 0)
theorem oJ13_bitCount_95d88 : z_ok mJ13_bitCount_95d88 := ⟨z_in (z_t2 90 (by decide +kernel)) rfl, z_iJ13, by decide, by decide, by decide⟩
theorem pJ13_bitCount_95d88 : z_np mJ13_bitCount_95d88 1 := fun sig hs => by
  have e : (parseMethodDescriptor yJ13_bitCount_95d88.desc).map (fun d => d.parameters.length) = some 1 := by decide +kernel
  rw [hs] at e
  exact (Option.some.inj e).symm
theorem sJ13_bitCount_95d88 : z_okS mJ13_bitCount_95d88 1 := ⟨oJ13_bitCount_95d88, pJ13_bitCount_95d88, z_in (z_t2 89 (by decide +kernel)) rfl⟩
abbrev mJ9_abs_0f7a4 : zM := (yJ9_abs_0f7a4, cJ9_abs_0f7a4, 1, Option.some Jvm.ClassFile.FieldType.int, 0)
abbrev mJ9_max_7cf53 : zM := (yJ9_max_7cf53, cJ9_max_7cf53, 2, Option.some Jvm.ClassFile.FieldType.int, 0)
abbrev mJ9_min_7cf53 : zM := (yJ9_min_7cf53, cJ9_min_7cf53, 2, Option.some Jvm.ClassFile.FieldType.int, 0)
abbrev mJ0_length_8abf5 : zM := (yJ0_length_8abf5, cJ0_length_8abf5, 1, Option.some Jvm.ClassFile.FieldType.int, 1)
theorem oJ0_length_8abf5 : z_ok mJ0_length_8abf5 := ⟨z_in (z_t3 78 (by decide +kernel)) rfl, z_iJ0, by decide, by decide, by decide⟩
theorem pJ0_length_8abf5 : z_np mJ0_length_8abf5 0 := fun sig hs => by
  have e : (parseMethodDescriptor yJ0_length_8abf5.desc).map (fun d => d.parameters.length) = some 0 := by decide +kernel
  rw [hs] at e
  exact (Option.some.inj e).symm
theorem viJ0_length_8abf5 : Cond.instanceMethod yJ0_length_8abf5 ∈ z_T := z_in (z_t3 76 (by decide +kernel)) rfl
theorem vsJ0_length_8abf5 : Cond.selects RJ0 yJ0_length_8abf5 yJ0_length_8abf5 ∈ z_T := z_in (z_t3 77 (by decide +kernel)) rfl
abbrev mJ0_charAt_5068e : zM := (yJ0_charAt_5068e, cJ0_charAt_5068e, 2, Option.some Jvm.ClassFile.FieldType.char, 5)
theorem oJ0_charAt_5068e : z_ok mJ0_charAt_5068e := ⟨z_in (z_t3 88 (by decide +kernel)) rfl, z_iJ0, by decide, by decide, by decide⟩
theorem pJ0_charAt_5068e : z_np mJ0_charAt_5068e 1 := fun sig hs => by
  have e : (parseMethodDescriptor yJ0_charAt_5068e.desc).map (fun d => d.parameters.length) = some 1 := by decide +kernel
  rw [hs] at e
  exact (Option.some.inj e).symm
theorem viJ0_charAt_5068e : Cond.instanceMethod yJ0_charAt_5068e ∈ z_T := z_in (z_t3 86 (by decide +kernel)) rfl
theorem vsJ0_charAt_5068e : Cond.selects RJ0 yJ0_charAt_5068e yJ0_charAt_5068e ∈ z_T := z_in (z_t3 87 (by decide +kernel)) rfl
abbrev mJ0_coder_7d493 : zM := (yJ0_coder_7d493, cJ0_coder_7d493, 1, Option.some Jvm.ClassFile.FieldType.byte, 0)
theorem oJ0_coder_7d493 : z_ok mJ0_coder_7d493 := ⟨z_in (z_t3 82 (by decide +kernel)) rfl, z_iJ0, by decide, by decide, by decide⟩
theorem pJ0_coder_7d493 : z_np mJ0_coder_7d493 0 := fun sig hs => by
  have e : (parseMethodDescriptor yJ0_coder_7d493.desc).map (fun d => d.parameters.length) = some 0 := by decide +kernel
  rw [hs] at e
  exact (Option.some.inj e).symm
theorem viJ0_coder_7d493 : Cond.instanceMethod yJ0_coder_7d493 ∈ z_T := z_in (z_t3 80 (by decide +kernel)) rfl
theorem vsJ0_coder_7d493 : Cond.selects RJ0 yJ0_coder_7d493 yJ0_coder_7d493 ∈ z_T := z_in (z_t3 81 (by decide +kernel)) rfl
abbrev mJ0_isLatin1_aae02 : zM := (yJ0_isLatin1_aae02, cJ0_isLatin1_aae02, 1, Option.some Jvm.ClassFile.FieldType.boolean, 0)
theorem oJ0_isLatin1_aae02 : z_ok mJ0_isLatin1_aae02 := ⟨z_in (z_t3 92 (by decide +kernel)) rfl, z_iJ0, by decide, by decide, by decide⟩
theorem pJ0_isLatin1_aae02 : z_np mJ0_isLatin1_aae02 0 := fun sig hs => by
  have e : (parseMethodDescriptor yJ0_isLatin1_aae02.desc).map (fun d => d.parameters.length) = some 0 := by decide +kernel
  rw [hs] at e
  exact (Option.some.inj e).symm
theorem viJ0_isLatin1_aae02 : Cond.instanceMethod yJ0_isLatin1_aae02 ∈ z_T := z_in (z_t3 90 (by decide +kernel)) rfl
theorem vsJ0_isLatin1_aae02 : Cond.selects RJ0 yJ0_isLatin1_aae02 yJ0_isLatin1_aae02 ∈ z_T := z_in (z_t3 91 (by decide +kernel)) rfl
abbrev mJ0_checkIndex_df160 : zM := (yJ0_checkIndex_df160, cJ0_checkIndex_df160, 2, Option.none, 2)
theorem oJ0_checkIndex_df160 : z_ok mJ0_checkIndex_df160 := ⟨z_in (z_t3 98 (by decide +kernel)) rfl, z_iJ0, by decide, by decide, by decide⟩
theorem pJ0_checkIndex_df160 : z_np mJ0_checkIndex_df160 2 := fun sig hs => by
  have e : (parseMethodDescriptor yJ0_checkIndex_df160.desc).map (fun d => d.parameters.length) = some 2 := by decide +kernel
  rw [hs] at e
  exact (Option.some.inj e).symm
theorem sJ0_checkIndex_df160 : z_okS mJ0_checkIndex_df160 2 := ⟨oJ0_checkIndex_df160, pJ0_checkIndex_df160, z_in (z_t3 97 (by decide +kernel)) rfl⟩
abbrev mJ1_charAt_3b067 : zM := (yJ1_charAt_3b067, cJ1_charAt_3b067, 2, Option.some Jvm.ClassFile.FieldType.char, 3)
theorem oJ1_charAt_3b067 : z_ok mJ1_charAt_3b067 := ⟨z_in (z_t3 95 (by decide +kernel)) rfl, z_iJ1, by decide, by decide, by decide⟩
theorem pJ1_charAt_3b067 : z_np mJ1_charAt_3b067 2 := fun sig hs => by
  have e : (parseMethodDescriptor yJ1_charAt_3b067.desc).map (fun d => d.parameters.length) = some 2 := by decide +kernel
  rw [hs] at e
  exact (Option.some.inj e).symm
theorem sJ1_charAt_3b067 : z_okS mJ1_charAt_3b067 2 := ⟨oJ1_charAt_3b067, pJ1_charAt_3b067, z_in (z_t3 94 (by decide +kernel)) rfl⟩
abbrev mJ3_checkIndex_8e157 : zM := (yJ3_checkIndex_8e157, cJ3_checkIndex_8e157, 3, Option.some Jvm.ClassFile.FieldType.int, 1)
theorem oJ3_checkIndex_8e157 : z_ok mJ3_checkIndex_8e157 := ⟨z_in (z_t3 103 (by decide +kernel)) rfl, z_iJ3, by decide, by decide, by decide⟩
theorem pJ3_checkIndex_8e157 : z_np mJ3_checkIndex_8e157 3 := fun sig hs => by
  have e : (parseMethodDescriptor yJ3_checkIndex_8e157.desc).map (fun d => d.parameters.length) = some 3 := by decide +kernel
  rw [hs] at e
  exact (Option.some.inj e).symm
theorem sJ3_checkIndex_8e157 : z_okS mJ3_checkIndex_8e157 3 := ⟨oJ3_checkIndex_8e157, pJ3_checkIndex_8e157, z_in (z_t3 102 (by decide +kernel)) rfl⟩
theorem kX3_10 : z_Lk RX3 10 3 0 (.object "WildBells$Woods") true := ⟨RX3, TX3, 8, tyX3, z_k3, by decide, rfl, rfl, Or.inl (z_in (z_t1 141 (by decide +kernel)) rfl)⟩
theorem kX3_16 : z_Lk RX3 16 3 1 (.object "WildBells$Woods") true := ⟨RX3, TX3, 8, tyX3, z_k3, by decide, rfl, rfl, Or.inl (z_in (z_t1 142 (by decide +kernel)) rfl)⟩
theorem kX3_19 : z_Lk RX3 19 3 2 (.object "WildBells$Woods") true := ⟨RX3, TX3, 8, tyX3, z_k3, by decide, rfl, rfl, Or.inl (z_in (z_t1 143 (by decide +kernel)) rfl)⟩
theorem kX3_22 : z_Lk RX3 22 3 3 .boolean false := ⟨RX3, TX3, 8, tyX3, z_k3, by decide, rfl, rfl, Or.inl (z_in (z_t1 144 (by decide +kernel)) rfl)⟩
theorem kX3_29 : z_Lk RX3 29 3 4 (.object "WildBells$Tape") true := ⟨RX3, TX3, 8, tyX3, z_k3, by decide, rfl, rfl, Or.inl (z_in (z_t1 145 (by decide +kernel)) rfl)⟩
theorem kX3_35 : z_Lk RX3 35 3 5 (.array (.object "WildBells$Sheet")) true := ⟨RX3, TX3, 8, tyX3, z_k3, by decide, rfl, rfl, Or.inl (z_in (z_t1 146 (by decide +kernel)) rfl)⟩
theorem kX3_40 : z_Lk RX3 40 3 6 (.array .int) true := ⟨RX3, TX3, 8, tyX3, z_k3, by decide, rfl, rfl, Or.inl (z_in (z_t1 147 (by decide +kernel)) rfl)⟩
theorem kX3_44 : z_Lk RX3 44 3 7 (.array .int) true := ⟨RX3, TX3, 8, tyX3, z_k3, by decide, rfl, rfl, Or.inl (z_in (z_t1 148 (by decide +kernel)) rfl)⟩
theorem kX0_9 : z_Lk RX0 9 0 2 (.array .int) true := ⟨RX0, TX0, 3, tyX0, z_k0, by decide, rfl, rfl, Or.inl (z_in (z_t1 132 (by decide +kernel)) rfl)⟩
theorem kX0_15 : z_Lk RX0 15 0 0 .int false := ⟨RX0, TX0, 3, tyX0, z_k0, by decide, rfl, rfl, Or.inl (z_in (z_t1 128 (by decide +kernel)) rfl)⟩
theorem kX0_19 : z_Lk RX0 19 0 1 .int false := ⟨RX0, TX0, 3, tyX0, z_k0, by decide, rfl, rfl, Or.inl (z_in (z_t1 130 (by decide +kernel)) rfl)⟩
theorem kX1_9 : z_Lk RX1 9 1 0 (.array .int) true := ⟨RX1, TX1, 7, tyX1, z_k1, by decide, rfl, rfl, Or.inl (z_in (z_t1 98 (by decide +kernel)) rfl)⟩
theorem kX1_15 : z_Lk RX1 15 1 1 .int false := ⟨RX1, TX1, 7, tyX1, z_k1, by decide, rfl, rfl, Or.inl (z_in (z_t1 99 (by decide +kernel)) rfl)⟩
theorem kX1_19 : z_Lk RX1 19 1 6 .int false := ⟨RX1, TX1, 7, tyX1, z_k1, by decide, rfl, rfl, Or.inl (z_in (z_t1 105 (by decide +kernel)) rfl)⟩
theorem kX1_22 : z_Lk RX1 22 1 4 .int false := ⟨RX1, TX1, 7, tyX1, z_k1, by decide, rfl, rfl, Or.inl (z_in (z_t1 103 (by decide +kernel)) rfl)⟩
theorem kX1_32 : z_Lk RX1 32 1 2 .int false := ⟨RX1, TX1, 7, tyX1, z_k1, by decide, rfl, rfl, Or.inl (z_in (z_t1 101 (by decide +kernel)) rfl)⟩
theorem kX1_35 : z_Lk RX1 35 1 3 .int false := ⟨RX1, TX1, 7, tyX1, z_k1, by decide, rfl, rfl, Or.inl (z_in (z_t1 102 (by decide +kernel)) rfl)⟩
theorem kX1_38 : z_Lk RX1 38 1 5 .int false := ⟨RX1, TX1, 7, tyX1, z_k1, by decide, rfl, rfl, Or.inl (z_in (z_t1 104 (by decide +kernel)) rfl)⟩
theorem kX2_9 : z_Lk RX2 9 2 2 (.array .int) true := ⟨RX2, TX2, 14, tyX2, z_k2, by decide, rfl, rfl, Or.inl (z_in (z_t1 32 (by decide +kernel)) rfl)⟩
theorem kX2_15 : z_Lk RX2 15 2 3 (.array .int) true := ⟨RX2, TX2, 14, tyX2, z_k2, by decide, rfl, rfl, Or.inl (z_in (z_t1 35 (by decide +kernel)) rfl)⟩
theorem kX2_18 : z_Lk RX2 18 2 6 (.array .int) true := ⟨RX2, TX2, 14, tyX2, z_k2, by decide, rfl, rfl, Or.inl (z_in (z_t1 44 (by decide +kernel)) rfl)⟩
theorem kX2_21 : z_Lk RX2 21 2 7 (.array .int) true := ⟨RX2, TX2, 14, tyX2, z_k2, by decide, rfl, rfl, Or.inl (z_in (z_t1 46 (by decide +kernel)) rfl)⟩
theorem kX2_24 : z_Lk RX2 24 2 8 (.array .int) true := ⟨RX2, TX2, 14, tyX2, z_k2, by decide, rfl, rfl, Or.inl (z_in (z_t1 48 (by decide +kernel)) rfl)⟩
theorem kX2_27 : z_Lk RX2 27 2 9 (.array .int) true := ⟨RX2, TX2, 14, tyX2, z_k2, by decide, rfl, rfl, Or.inl (z_in (z_t1 51 (by decide +kernel)) rfl)⟩
theorem kX2_30 : z_Lk RX2 30 2 12 (.array .int) true := ⟨RX2, TX2, 14, tyX2, z_k2, by decide, rfl, rfl, Or.inl (z_in (z_t1 58 (by decide +kernel)) rfl)⟩
theorem kX2_33 : z_Lk RX2 33 2 4 .int false := ⟨RX2, TX2, 14, tyX2, z_k2, by decide, rfl, rfl, Or.inl (z_in (z_t1 38 (by decide +kernel)) rfl)⟩
theorem kX2_37 : z_Lk RX2 37 2 11 .int false := ⟨RX2, TX2, 14, tyX2, z_k2, by decide, rfl, rfl, Or.inl (z_in (z_t1 56 (by decide +kernel)) rfl)⟩
theorem kX2_40 : z_Lk RX2 40 2 0 .int false := ⟨RX2, TX2, 14, tyX2, z_k2, by decide, rfl, rfl, Or.inl (z_in (z_t1 28 (by decide +kernel)) rfl)⟩
theorem kX2_43 : z_Lk RX2 43 2 1 .long false := ⟨RX2, TX2, 14, tyX2, z_k2, by decide, rfl, rfl, Or.inl (z_in (z_t1 30 (by decide +kernel)) rfl)⟩
theorem kX2_47 : z_Lk RX2 47 2 5 .int false := ⟨RX2, TX2, 14, tyX2, z_k2, by decide, rfl, rfl, Or.inl (z_in (z_t1 41 (by decide +kernel)) rfl)⟩
theorem kX2_50 : z_Lk RX2 50 2 10 .int false := ⟨RX2, TX2, 14, tyX2, z_k2, by decide, rfl, rfl, Or.inl (z_in (z_t1 54 (by decide +kernel)) rfl)⟩
theorem kX2_53 : z_Lk RX2 53 2 13 .long false := ⟨RX2, TX2, 14, tyX2, z_k2, by decide, rfl, rfl, Or.inl (z_in (z_t1 60 (by decide +kernel)) rfl)⟩
theorem kX4_9 : z_Lk RX4 9 4 0 (.array .int) true := ⟨RX4, TX4, 24, tyX4, z_k4, by decide, rfl, rfl, Or.inl (z_in (z_t4 9 (by decide +kernel)) rfl)⟩
theorem kX4_13 : z_Lk RX4 13 4 1 (.array .int) true := ⟨RX4, TX4, 24, tyX4, z_k4, by decide, rfl, rfl, Or.inl (z_in (z_t4 10 (by decide +kernel)) rfl)⟩
theorem kX4_16 : z_Lk RX4 16 4 2 (.array .int) true := ⟨RX4, TX4, 24, tyX4, z_k4, by decide, rfl, rfl, Or.inl (z_in (z_t4 11 (by decide +kernel)) rfl)⟩
theorem kX4_19 : z_Lk RX4 19 4 4 (.array .int) true := ⟨RX4, TX4, 24, tyX4, z_k4, by decide, rfl, rfl, Or.inl (z_in (z_t4 13 (by decide +kernel)) rfl)⟩
theorem kX4_22 : z_Lk RX4 22 4 5 (.array .int) true := ⟨RX4, TX4, 24, tyX4, z_k4, by decide, rfl, rfl, Or.inl (z_in (z_t4 14 (by decide +kernel)) rfl)⟩
theorem kX4_25 : z_Lk RX4 25 4 6 (.array .int) true := ⟨RX4, TX4, 24, tyX4, z_k4, by decide, rfl, rfl, Or.inl (z_in (z_t4 15 (by decide +kernel)) rfl)⟩
theorem kX4_28 : z_Lk RX4 28 4 8 (.array .int) true := ⟨RX4, TX4, 24, tyX4, z_k4, by decide, rfl, rfl, Or.inl (z_in (z_t4 17 (by decide +kernel)) rfl)⟩
theorem kX4_31 : z_Lk RX4 31 4 9 (.array .int) true := ⟨RX4, TX4, 24, tyX4, z_k4, by decide, rfl, rfl, Or.inl (z_in (z_t4 18 (by decide +kernel)) rfl)⟩
theorem kX4_50 : z_Lk RX4 50 4 16 (.array (.object "java/lang/String")) true := ⟨RX4, TX4, 24, tyX4, z_k4, by decide, rfl, rfl, Or.inl (z_in (z_t4 25 (by decide +kernel)) rfl)⟩
theorem kX4_54 : z_Lk RX4 54 4 17 (.array .int) true := ⟨RX4, TX4, 24, tyX4, z_k4, by decide, rfl, rfl, Or.inl (z_in (z_t4 26 (by decide +kernel)) rfl)⟩
theorem kX4_57 : z_Lk RX4 57 4 20 (.array .int) true := ⟨RX4, TX4, 24, tyX4, z_k4, by decide, rfl, rfl, Or.inl (z_in (z_t4 29 (by decide +kernel)) rfl)⟩
theorem kX4_60 : z_Lk RX4 60 4 21 (.array .int) true := ⟨RX4, TX4, 24, tyX4, z_k4, by decide, rfl, rfl, Or.inl (z_in (z_t4 30 (by decide +kernel)) rfl)⟩
theorem kX4_63 : z_Lk RX4 63 4 22 (.array .int) true := ⟨RX4, TX4, 24, tyX4, z_k4, by decide, rfl, rfl, Or.inl (z_in (z_t4 31 (by decide +kernel)) rfl)⟩
theorem kX4_66 : z_Lk RX4 66 4 23 (.array .int) true := ⟨RX4, TX4, 24, tyX4, z_k4, by decide, rfl, rfl, Or.inl (z_in (z_t4 32 (by decide +kernel)) rfl)⟩
theorem kX4_162 : z_Lk RX4 162 4 7 .boolean false := ⟨RX4, TX4, 24, tyX4, z_k4, by decide, rfl, rfl, Or.inl (z_in (z_t4 16 (by decide +kernel)) rfl)⟩
theorem kX4_258 : z_Lk RX4 258 4 10 .int false := ⟨RX4, TX4, 24, tyX4, z_k4, by decide, rfl, rfl, Or.inl (z_in (z_t4 19 (by decide +kernel)) rfl)⟩
theorem kX4_262 : z_Lk RX4 262 4 12 .int false := ⟨RX4, TX4, 24, tyX4, z_k4, by decide, rfl, rfl, Or.inl (z_in (z_t4 21 (by decide +kernel)) rfl)⟩
theorem kX4_265 : z_Lk RX4 265 4 11 .int false := ⟨RX4, TX4, 24, tyX4, z_k4, by decide, rfl, rfl, Or.inl (z_in (z_t4 20 (by decide +kernel)) rfl)⟩
theorem kX4_271 : z_Lk RX4 271 4 14 .int false := ⟨RX4, TX4, 24, tyX4, z_k4, by decide, rfl, rfl, Or.inl (z_in (z_t4 23 (by decide +kernel)) rfl)⟩
theorem kX4_274 : z_Lk RX4 274 4 13 .int false := ⟨RX4, TX4, 24, tyX4, z_k4, by decide, rfl, rfl, Or.inl (z_in (z_t4 22 (by decide +kernel)) rfl)⟩
theorem kX4_284 : z_Lk RX4 284 4 15 .boolean false := ⟨RX4, TX4, 24, tyX4, z_k4, by decide, rfl, rfl, Or.inl (z_in (z_t4 24 (by decide +kernel)) rfl)⟩
theorem kX4_294 : z_Lk RX4 294 4 18 .int false := ⟨RX4, TX4, 24, tyX4, z_k4, by decide, rfl, rfl, Or.inl (z_in (z_t4 27 (by decide +kernel)) rfl)⟩
theorem kX4_304 : z_Lk RX4 304 4 19 .int false := ⟨RX4, TX4, 24, tyX4, z_k4, by decide, rfl, rfl, Or.inl (z_in (z_t4 28 (by decide +kernel)) rfl)⟩
theorem kX4_344 : z_Lk RX4 344 4 3 .boolean false := ⟨RX4, TX4, 24, tyX4, z_k4, by decide, rfl, rfl, Or.inl (z_in (z_t4 12 (by decide +kernel)) rfl)⟩
theorem kX3_62 : z_Lk RX3 62 2 2 (.array .int) true := ⟨RX2, TX2, 14, tyX2, z_k2, by decide, rfl, rfl, Or.inr ⟨"WildBells", z_inN (z_t1 33 (by decide +kernel)) rfl⟩⟩
theorem kX3_74 : z_Lk RX3 74 2 3 (.array .int) true := ⟨RX2, TX2, 14, tyX2, z_k2, by decide, rfl, rfl, Or.inr ⟨"WildBells", z_inN (z_t1 36 (by decide +kernel)) rfl⟩⟩
theorem kX3_77 : z_Lk RX3 77 2 4 .int false := ⟨RX2, TX2, 14, tyX2, z_k2, by decide, rfl, rfl, Or.inr ⟨"WildBells", z_inN (z_t1 39 (by decide +kernel)) rfl⟩⟩
theorem kX3_84 : z_Lk RX3 84 2 5 .int false := ⟨RX2, TX2, 14, tyX2, z_k2, by decide, rfl, rfl, Or.inr ⟨"WildBells", z_inN (z_t1 42 (by decide +kernel)) rfl⟩⟩
theorem kX3_97 : z_Lk RX3 97 2 7 (.array .int) true := ⟨RX2, TX2, 14, tyX2, z_k2, by decide, rfl, rfl, Or.inr ⟨"WildBells", z_inN (z_t1 47 (by decide +kernel)) rfl⟩⟩
theorem kX3_117 : z_Lk RX3 117 2 0 .int false := ⟨RX2, TX2, 14, tyX2, z_k2, by decide, rfl, rfl, Or.inr ⟨"WildBells", z_inN (z_t1 29 (by decide +kernel)) rfl⟩⟩
theorem kX3_125 : z_Lk RX3 125 2 10 .int false := ⟨RX2, TX2, 14, tyX2, z_k2, by decide, rfl, rfl, Or.inr ⟨"WildBells", z_inN (z_t1 55 (by decide +kernel)) rfl⟩⟩
theorem kX3_133 : z_Lk RX3 133 2 1 .long false := ⟨RX2, TX2, 14, tyX2, z_k2, by decide, rfl, rfl, Or.inr ⟨"WildBells", z_inN (z_t1 31 (by decide +kernel)) rfl⟩⟩
theorem kX3_145 : z_Lk RX3 145 2 9 (.array .int) true := ⟨RX2, TX2, 14, tyX2, z_k2, by decide, rfl, rfl, Or.inr ⟨"WildBells", z_inN (z_t1 53 (by decide +kernel)) rfl⟩⟩
theorem kX3_165 : z_Lk RX3 165 2 13 .long false := ⟨RX2, TX2, 14, tyX2, z_k2, by decide, rfl, rfl, Or.inr ⟨"WildBells", z_inN (z_t1 61 (by decide +kernel)) rfl⟩⟩
theorem kX3_172 : z_Lk RX3 172 2 6 (.array .int) true := ⟨RX2, TX2, 14, tyX2, z_k2, by decide, rfl, rfl, Or.inr ⟨"WildBells", z_inN (z_t1 45 (by decide +kernel)) rfl⟩⟩
theorem kX3_215 : z_Lk RX3 215 2 11 .int false := ⟨RX2, TX2, 14, tyX2, z_k2, by decide, rfl, rfl, Or.inr ⟨"WildBells", z_inN (z_t1 57 (by decide +kernel)) rfl⟩⟩
theorem kX3_218 : z_Lk RX3 218 1 1 .int false := ⟨RX1, TX1, 7, tyX1, z_k1, by decide, rfl, rfl, Or.inr ⟨"WildBells", z_inN (z_t1 100 (by decide +kernel)) rfl⟩⟩
theorem kX3_231 : z_Lk RX3 231 2 12 (.array .int) true := ⟨RX2, TX2, 14, tyX2, z_k2, by decide, rfl, rfl, Or.inr ⟨"WildBells", z_inN (z_t1 59 (by decide +kernel)) rfl⟩⟩
theorem kX3_244 : z_Lk RX3 244 0 1 .int false := ⟨RX0, TX0, 3, tyX0, z_k0, by decide, rfl, rfl, Or.inr ⟨"WildBells", z_inN (z_t1 131 (by decide +kernel)) rfl⟩⟩
theorem kX3_251 : z_Lk RX3 251 0 0 .int false := ⟨RX0, TX0, 3, tyX0, z_k0, by decide, rfl, rfl, Or.inr ⟨"WildBells", z_inN (z_t1 129 (by decide +kernel)) rfl⟩⟩
theorem kX3_257 : z_Lk RX3 257 0 2 (.array .int) true := ⟨RX0, TX0, 3, tyX0, z_k0, by decide, rfl, rfl, Or.inr ⟨"WildBells", z_inN (z_t1 133 (by decide +kernel)) rfl⟩⟩
theorem kX3_269 : z_Lk RX3 269 2 8 (.array .int) true := ⟨RX2, TX2, 14, tyX2, z_k2, by decide, rfl, rfl, Or.inr ⟨"WildBells", z_inN (z_t1 50 (by decide +kernel)) rfl⟩⟩
theorem kX1_100 : z_Lk RX1 100 2 5 .int false := ⟨RX2, TX2, 14, tyX2, z_k2, by decide, rfl, rfl, Or.inr ⟨"WildBells", z_inN (z_t1 43 (by decide +kernel)) rfl⟩⟩
theorem kX1_119 : z_Lk RX1 119 2 8 (.array .int) true := ⟨RX2, TX2, 14, tyX2, z_k2, by decide, rfl, rfl, Or.inr ⟨"WildBells", z_inN (z_t1 49 (by decide +kernel)) rfl⟩⟩
theorem kX1_121 : z_Lk RX1 121 2 9 (.array .int) true := ⟨RX2, TX2, 14, tyX2, z_k2, by decide, rfl, rfl, Or.inr ⟨"WildBells", z_inN (z_t1 52 (by decide +kernel)) rfl⟩⟩
theorem kX1_130 : z_Lk RX1 130 2 2 (.array .int) true := ⟨RX2, TX2, 14, tyX2, z_k2, by decide, rfl, rfl, Or.inr ⟨"WildBells", z_inN (z_t1 34 (by decide +kernel)) rfl⟩⟩
theorem kX1_133 : z_Lk RX1 133 2 3 (.array .int) true := ⟨RX2, TX2, 14, tyX2, z_k2, by decide, rfl, rfl, Or.inr ⟨"WildBells", z_inN (z_t1 37 (by decide +kernel)) rfl⟩⟩
theorem kX1_136 : z_Lk RX1 136 2 4 .int false := ⟨RX2, TX2, 14, tyX2, z_k2, by decide, rfl, rfl, Or.inr ⟨"WildBells", z_inN (z_t1 40 (by decide +kernel)) rfl⟩⟩
theorem lX3_47 : z_Lm RX3 47 mX3_isCell := Or.inl (z_in (z_t1 170 (by decide +kernel)) rfl)
theorem lX3_51 : z_Lm RX3 51 mX3_finding := Or.inl (z_in (z_t1 173 (by decide +kernel)) rfl)
theorem lX3_71 : z_Lm RX3 71 mX3_isHunter := Or.inl (z_in (z_t1 224 (by decide +kernel)) rfl)
theorem lX3_81 : z_Lm RX3 81 mX3_isKind := Or.inl (z_in (z_t1 235 (by decide +kernel)) rfl)
theorem lX3_91 : z_Lm RX3 91 mX3_isBell := Or.inl (z_in (z_t2 6 (by decide +kernel)) rfl)
theorem lX3_103 : z_Lm RX3 103 mX3_isTrait := Or.inl (z_in (z_t2 38 (by decide +kernel)) rfl)
theorem lX3_109 : z_Lm RX3 109 mX3_suits := Or.inl (z_in (z_t2 49 (by decide +kernel)) rfl)
theorem lX3_128 : z_Lm RX3 128 mJ6_bitCount_0f7a4 := Or.inl (z_in (z_t2 78 (by decide +kernel)) rfl)
theorem lX3_137 : z_Lm RX3 137 mJ13_bitCount_95d88 := Or.inl (z_in (z_t2 88 (by decide +kernel)) rfl)
theorem lX3_148 : z_Lm RX3 148 mX3_apart := Or.inl (z_in (z_t2 102 (by decide +kernel)) rfl)
theorem lX3_151 : z_Lm RX3 151 mX3_loudness := Or.inl (z_in (z_t2 103 (by decide +kernel)) rfl)
theorem lX3_168 : z_Lm RX3 168 mX3_holds := Or.inl (z_in (z_t2 140 (by decide +kernel)) rfl)
theorem lX3_175 : z_Lm RX3 175 mX3_soundFault := Or.inl (z_in (z_t2 157 (by decide +kernel)) rfl)
theorem lX3_178 : z_Lm RX3 178 mX3_standingCells := Or.inl (z_in (z_t2 173 (by decide +kernel)) rfl)
theorem lX3_182 : z_Lm RX3 182 mX3_leftAtWorst := Or.inl (z_in (z_t2 190 (by decide +kernel)) rfl)
theorem lX3_192 : z_Lm RX3 192 mX3_isStock := Or.inl (z_in (z_t2 203 (by decide +kernel)) rfl)
theorem lX3_195 : z_Lm RX3 195 mX3_stockBehind := Or.inl (z_in (z_t2 206 (by decide +kernel)) rfl)
theorem lX3_209 : z_Lm RX3 209 mX3_longestRun := Or.inl (z_in (z_t3 7 (by decide +kernel)) rfl)
theorem lX3_228 : z_Lm RX3 228 mX3_isSpot := Or.inl (z_in (z_t3 165 (by decide +kernel)) rfl)
theorem lX3_234 : z_Lm RX3 234 mX3_isUnder := Or.inl (z_in (z_t3 172 (by decide +kernel)) rfl)
theorem lX3_237 : z_Lm RX3 237 mX3_isSheet := Or.inl (z_in (z_t2 161 (by decide +kernel)) rfl)
theorem lX3_260 : Cond.methodLink RX3 260 arraycopyName ∈ z_T := z_in (z_t3 197 (by decide +kernel)) rfl
theorem lX3_266 : z_Lm RX3 266 mX3_isNote := Or.inl (z_in (z_t2 52 (by decide +kernel)) rfl)
theorem lX3_279 : z_Lm RX3 279 mX3_isWeight := Or.inl (z_in (z_t2 55 (by decide +kernel)) rfl)
theorem lX3_285 : Cond.methodLink RX3 285 yJ9_max_7cf53 ∈ z_T := z_in (z_t1 212 (by decide +kernel)) rfl
theorem lX3_290 : Cond.methodLink RX3 290 yJ9_min_7cf53 ∈ z_T := z_in (z_t2 209 (by decide +kernel)) rfl
theorem lX1_25 : z_Lm RX1 25 mX1_advance := Or.inl (z_in (z_t3 49 (by decide +kernel)) rfl)
theorem lX1_28 : z_Lm RX1 28 mX1_readItem := Or.inl (z_in (z_t3 53 (by decide +kernel)) rfl)
theorem lX1_41 : z_Lm RX1 41 mJ0_length_8abf5 := Or.inl (z_in (z_t3 75 (by decide +kernel)) rfl)
theorem lX1_47 : z_Lm RX1 47 mJ0_charAt_5068e := Or.inl (z_in (z_t3 85 (by decide +kernel)) rfl)
theorem lX1_51 : z_Lm RX1 51 mX1_kindOfWord := Or.inl (z_in (z_t3 57 (by decide +kernel)) rfl)
theorem lX1_54 : z_Lm RX1 54 mX1_readBell := Or.inl (z_in (z_t3 123 (by decide +kernel)) rfl)
theorem lX1_60 : z_Lm RX1 60 mX1_isWord := Or.inl (z_in (z_t3 71 (by decide +kernel)) rfl)
theorem lX1_64 : z_Lm RX1 64 mX1_readNet := Or.inl (z_in (z_t3 140 (by decide +kernel)) rfl)
theorem lX1_69 : z_Lm RX1 69 mX1_readThick := Or.inl (z_in (z_t3 146 (by decide +kernel)) rfl)
theorem lX1_74 : z_Lm RX1 74 mX1_readHunter := Or.inl (z_in (z_t3 151 (by decide +kernel)) rfl)
theorem lX1_79 : z_Lm RX1 79 mX1_readFear := Or.inl (z_in (z_t3 156 (by decide +kernel)) rfl)
theorem lX1_82 : z_Lm RX1 82 mX1_wordOfKind := Or.inl (z_in (z_t3 61 (by decide +kernel)) rfl)
theorem lX1_107 : z_Lm RX1 107 mX1_takePerhaps := Or.inl (z_in (z_t3 128 (by decide +kernel)) rfl)
theorem lX1_123 : z_Lm RX1 123 mX1_takeNumber := Or.inl (z_in (z_t3 132 (by decide +kernel)) rfl)
theorem lX2_56 : Cond.methodLink RX2 56 arraycopyName ∈ z_T := z_in (z_t2 112 (by decide +kernel)) rfl
theorem lX2_68 : z_Lm RX2 68 mX2_isFree := Or.inl (z_in (z_t1 202 (by decide +kernel)) rfl)
theorem lX2_79 : Cond.methodLink RX2 79 yJ9_max_7cf53 ∈ z_T := z_in (z_t1 215 (by decide +kernel)) rfl
theorem lX2_84 : z_Lm RX2 84 mX2_fromHunters := Or.inl (z_in (z_t2 18 (by decide +kernel)) rfl)
theorem lX2_88 : z_Lm RX2 88 mX2_nearestOther := Or.inl (z_in (z_t2 25 (by decide +kernel)) rfl)
theorem lX2_92 : Cond.methodLink RX2 92 yJ9_min_7cf53 ∈ z_T := z_in (z_t2 22 (by decide +kernel)) rfl
theorem lX2_99 : z_Lm RX2 99 mX2_worthFor := Or.inl (z_in (z_t2 14 (by decide +kernel)) rfl)
theorem lX2_102 : z_Lm RX2 102 mX2_cellBeside := Or.inl (z_in (z_t2 34 (by decide +kernel)) rfl)
theorem lX2_105 : z_Lm RX2 105 mX2_nextCell := Or.inl (z_in (z_t2 75 (by decide +kernel)) rfl)
theorem lX2_108 : z_Lm RX2 108 mX2_hasNet := Or.inl (z_in (z_t2 76 (by decide +kernel)) rfl)
theorem lX2_112 : z_Lm RX2 112 mX2_hourGoes := Or.inl (z_in (z_t2 119 (by decide +kernel)) rfl)
theorem lX2_117 : z_Lm RX2 117 mX2_draw := Or.inl (z_in (z_t3 20 (by decide +kernel)) rfl)
theorem lX2_124 : z_Lm RX2 124 mJ6_bitCount_0f7a4 := Or.inl (z_in (z_t2 222 (by decide +kernel)) rfl)
theorem lX2_129 : z_Lm RX2 129 mX2_isRing := Or.inl (z_in (z_t2 223 (by decide +kernel)) rfl)
theorem lX4_70 : z_Lm RX4 70 mX4_copyRow := Or.inl (z_in (z_t5 17 (by decide +kernel)) rfl)
theorem lX4_74 : z_Lm RX4 74 mX4_within := Or.inl (z_in (z_t4 89 (by decide +kernel)) rfl)
theorem lX4_78 : Cond.methodLink RX4 78 yJ9_abs_0f7a4 ∈ z_T := z_in (z_t4 154 (by decide +kernel)) rfl
theorem lX4_84 : z_Lm RX4 84 mX4_isCell := Or.inl (z_in (z_t4 86 (by decide +kernel)) rfl)
theorem lX4_88 : z_Lm RX4 88 mX4_finding := Or.inl (z_in (z_t4 93 (by decide +kernel)) rfl)
theorem lX4_91 : z_Lm RX4 91 mX4_become := Or.inl (z_in (z_t4 97 (by decide +kernel)) rfl)
theorem lX4_95 : z_Lm RX4 95 mX4_isHunter := Or.inl (z_in (z_t4 109 (by decide +kernel)) rfl)
theorem lX4_98 : z_Lm RX4 98 mX4_at := Or.inl (z_in (z_t4 128 (by decide +kernel)) rfl)
theorem lX4_101 : z_Lm RX4 101 mX4_bellIs := Or.inl (z_in (z_t4 139 (by decide +kernel)) rfl)
theorem lX4_104 : z_Lm RX4 104 mX4_isKind := Or.inl (z_in (z_t4 120 (by decide +kernel)) rfl)
theorem lX4_108 : z_Lm RX4 108 mX4_comes := Or.inl (z_in (z_t4 124 (by decide +kernel)) rfl)
theorem lX4_112 : z_Lm RX4 112 mX4_above := Or.inl (z_in (z_t4 161 (by decide +kernel)) rfl)
theorem lX4_115 : z_Lm RX4 115 mX4_isCaught := Or.inl (z_in (z_t4 168 (by decide +kernel)) rfl)
theorem lX4_118 : z_Lm RX4 118 mX4_isUnder := Or.inl (z_in (z_t4 158 (by decide +kernel)) rfl)
theorem lX4_122 : z_Lm RX4 122 mX4_apart := Or.inl (z_in (z_t4 151 (by decide +kernel)) rfl)
theorem lX4_125 : Cond.methodLink RX4 125 yJ9_min_7cf53 ∈ z_T := z_in (z_t4 157 (by decide +kernel)) rfl
theorem lX4_128 : z_Lm RX4 128 mX4_nearestOther := Or.inl (z_in (z_t4 164 (by decide +kernel)) rfl)
theorem lX4_132 : Cond.methodLink RX4 132 yJ9_max_7cf53 ∈ z_T := z_in (z_t4 172 (by decide +kernel)) rfl
theorem lX4_135 : z_Lm RX4 135 mX4_worthOf := Or.inl (z_in (z_t4 147 (by decide +kernel)) rfl)
theorem lX4_138 : z_Lm RX4 138 mX4_beside := Or.inl (z_in (z_t4 173 (by decide +kernel)) rfl)
theorem lX4_141 : z_Lm RX4 141 mX4_isBell := Or.inl (z_in (z_t4 135 (by decide +kernel)) rfl)
theorem lX4_144 : z_Lm RX4 144 mX4_nextOf := Or.inl (z_in (z_t4 143 (by decide +kernel)) rfl)
theorem lX4_147 : z_Lm RX4 147 mX4_mayBe := Or.inl (z_in (z_t4 181 (by decide +kernel)) rfl)
theorem lX4_150 : z_Lm RX4 150 mX4_loudOf := Or.inl (z_in (z_t4 200 (by decide +kernel)) rfl)
theorem lX4_153 : z_Lm RX4 153 mX4_loudAt := Or.inl (z_in (z_t4 196 (by decide +kernel)) rfl)
theorem lX4_156 : z_Lm RX4 156 mX4_heardAt := Or.inl (z_in (z_t4 192 (by decide +kernel)) rfl)
theorem lX4_159 : z_Lm RX4 159 mX4_manyAt := Or.inl (z_in (z_t4 204 (by decide +kernel)) rfl)
theorem lX4_166 : z_Lm RX4 166 mX4_hasNet := Or.inl (z_in (z_t4 222 (by decide +kernel)) rfl)
theorem lX4_169 : z_Lm RX4 169 mX4_hour := Or.inl (z_in (z_t4 218 (by decide +kernel)) rfl)
theorem lX4_174 : z_Lm RX4 174 mX4_hours := Or.inl (z_in (z_t4 214 (by decide +kernel)) rfl)
theorem lX4_178 : z_Lm RX4 178 mX4_caughtNow := Or.inl (z_in (z_t4 226 (by decide +kernel)) rfl)
theorem lX4_182 : z_Lm RX4 182 mX4_bits := Or.inl (z_in (z_t4 230 (by decide +kernel)) rfl)
theorem lX4_185 : z_Lm RX4 185 mX4_nets := Or.inl (z_in (z_t4 237 (by decide +kernel)) rfl)
theorem lX4_188 : z_Lm RX4 188 mX4_caughtWeight := Or.inl (z_in (z_t5 1 (by decide +kernel)) rfl)
theorem lX4_191 : z_Lm RX4 191 mX4_putBack := Or.inl (z_in (z_t5 20 (by decide +kernel)) rfl)
theorem lX4_194 : z_Lm RX4 194 mX4_fieldBehind := Or.inl (z_in (z_t5 13 (by decide +kernel)) rfl)
theorem lX4_199 : z_Lm RX4 199 mX4_caughtIn := Or.inl (z_in (z_t5 28 (by decide +kernel)) rfl)
theorem lX4_202 : z_Lm RX4 202 mX4_told := Or.inl (z_in (z_t5 33 (by decide +kernel)) rfl)
theorem lX4_205 : z_Lm RX4 205 mX4_setBehind := Or.inl (z_in (z_t5 46 (by decide +kernel)) rfl)
theorem lX4_208 : z_Lm RX4 208 mX4_orNone := Or.inl (z_in (z_t5 54 (by decide +kernel)) rfl)
theorem lX4_211 : z_Lm RX4 211 mX4_isSheet := Or.inl (z_in (z_t5 82 (by decide +kernel)) rfl)
theorem lX4_215 : z_Lm RX4 215 mX4_ears := Or.inl (z_in (z_t5 90 (by decide +kernel)) rfl)
theorem lX4_218 : z_Lm RX4 218 mX4_earOf := Or.inl (z_in (z_t5 94 (by decide +kernel)) rfl)
theorem lX4_221 : z_Lm RX4 221 mX4_lacks := Or.inl (z_in (z_t5 78 (by decide +kernel)) rfl)
theorem lX4_224 : z_Lm RX4 224 mX4_areEars := Or.inl (z_in (z_t5 86 (by decide +kernel)) rfl)
theorem lX4_227 : z_Lm RX4 227 mX4_lacksOf := Or.inl (z_in (z_t5 74 (by decide +kernel)) rfl)
theorem lX4_230 : z_Lm RX4 230 mX4_isSo := Or.inl (z_in (z_t5 98 (by decide +kernel)) rfl)
theorem lX4_233 : z_Lm RX4 233 mX4_worst := Or.inl (z_in (z_t5 110 (by decide +kernel)) rfl)
theorem lX4_236 : z_Lm RX4 236 mX4_stockBehind := Or.inl (z_in (z_t5 122 (by decide +kernel)) rfl)
theorem lX4_239 : z_Lm RX4 239 mX4_has := Or.inl (z_in (z_t5 141 (by decide +kernel)) rfl)
theorem lX4_242 : z_Lm RX4 242 mX4_stepBySteps := Or.inl (z_in (z_t5 144 (by decide +kernel)) rfl)
theorem lX4_245 : z_Lm RX4 245 mX4_areRing := Or.inl (z_in (z_t5 137 (by decide +kernel)) rfl)
theorem lX4_248 : z_Lm RX4 248 mX4_greatest := Or.inl (z_in (z_t5 133 (by decide +kernel)) rfl)
theorem lX4_251 : z_Lm RX4 251 mX4_longest := Or.inl (z_in (z_t5 159 (by decide +kernel)) rfl)
theorem lX4_255 : z_Lm RX4 255 mX4_drawn := Or.inl (z_in (z_t5 170 (by decide +kernel)) rfl)
theorem lX4_268 : z_Lm RX4 268 mX4_byteAt := Or.inl (z_in (z_t5 195 (by decide +kernel)) rfl)
theorem lX4_277 : z_Lm RX4 277 mJ0_length_8abf5 := Or.inl (z_in (z_t5 211 (by decide +kernel)) rfl)
theorem lX4_280 : z_Lm RX4 280 mJ0_charAt_5068e := Or.inl (z_in (z_t5 212 (by decide +kernel)) rfl)
theorem lX4_287 : z_Lm RX4 287 mX4_next := Or.inl (z_in (z_t5 191 (by decide +kernel)) rfl)
theorem lX4_290 : z_Lm RX4 290 mX4_must := Or.inl (z_in (z_t5 213 (by decide +kernel)) rfl)
theorem lX4_297 : z_Lm RX4 297 mX4_isWord := Or.inl (z_in (z_t5 207 (by decide +kernel)) rfl)
theorem lX4_301 : z_Lm RX4 301 mX4_kindTold := Or.inl (z_in (z_t5 203 (by decide +kernel)) rfl)
theorem lX4_308 : z_Lm RX4 308 mX4_isNext := Or.inl (z_in (z_t5 218 (by decide +kernel)) rfl)
theorem lX4_311 : z_Lm RX4 311 mX4_number := Or.inl (z_in (z_t5 222 (by decide +kernel)) rfl)
theorem lX4_318 : z_Lm RX4 318 mX4_item := Or.inl (z_in (z_t5 228 (by decide +kernel)) rfl)
theorem lX4_330 : z_Lm RX4 330 mX4_readItem := Or.inl (z_in (z_t5 199 (by decide +kernel)) rfl)
theorem lX4_333 : z_Lm RX4 333 mX4_isToldSo := Or.inl (z_in (z_t5 236 (by decide +kernel)) rfl)
theorem lX4_336 : z_Lm RX4 336 mX4_isSpot := Or.inl (z_in (z_t6 4 (by decide +kernel)) rfl)
theorem lX4_341 : z_Lm RX4 341 mX4_cutTo := Or.inl (z_in (z_t6 21 (by decide +kernel)) rfl)
theorem lJ0_335 : z_Lm RJ0 335 mJ0_coder_7d493 := Or.inl (z_in (z_t3 79 (by decide +kernel)) rfl)
theorem lJ0_492 : z_Lm RJ0 492 mJ0_isLatin1_aae02 := Or.inl (z_in (z_t3 89 (by decide +kernel)) rfl)
theorem lJ0_495 : z_Lm RJ0 495 mJ1_charAt_3b067 := Or.inl (z_in (z_t3 93 (by decide +kernel)) rfl)
theorem lJ0_1059 : z_Lm RJ0 1059 mJ3_checkIndex_8e157 := Or.inl (z_in (z_t3 101 (by decide +kernel)) rfl)
theorem lJ1_9 : z_Lm RJ1 9 mJ0_checkIndex_df160 := Or.inl (z_in (z_t3 96 (by decide +kernel)) rfl)
theorem lJ2_414 : z_Lm RJ2 414 mJ0_checkIndex_df160 := Or.inl (z_in (z_t3 113 (by decide +kernel)) rfl)
theorem lX3_55 : z_Lm RX3 55 mX2_hasNet := Or.inr ⟨"WildBells", z_inN (z_t1 178 (by decide +kernel)) rfl⟩
theorem lX3_58 : z_Lm RX3 58 mX2_setNet := Or.inr ⟨"WildBells", z_inN (z_t1 185 (by decide +kernel)) rfl⟩
theorem lX3_65 : z_Lm RX3 65 mX2_heardAt := Or.inr ⟨"WildBells", z_inN (z_t1 198 (by decide +kernel)) rfl⟩
theorem lX3_68 : z_Lm RX3 68 mX2_bellsAt := Or.inr ⟨"WildBells", z_inN (z_t1 216 (by decide +kernel)) rfl⟩
theorem lX3_87 : z_Lm RX3 87 mX2_addBell := Or.inr ⟨"WildBells", z_inN (z_t1 238 (by decide +kernel)) rfl⟩
theorem lX3_94 : z_Lm RX3 94 mX2_nextCell := Or.inr ⟨"WildBells", z_inN (z_t2 10 (by decide +kernel)) rfl⟩
theorem lX3_100 : z_Lm RX3 100 mX2_worthFor := Or.inr ⟨"WildBells", z_inN (z_t2 37 (by decide +kernel)) rfl⟩
theorem lX3_106 : z_Lm RX3 106 mX2_trait := Or.inr ⟨"WildBells", z_inN (z_t2 41 (by decide +kernel)) rfl⟩
theorem lX3_113 : z_Lm RX3 113 mX2_setTrait := Or.inr ⟨"WildBells", z_inN (z_t2 58 (by decide +kernel)) rfl⟩
theorem lX3_121 : z_Lm RX3 121 mX2_hourGoes := Or.inr ⟨"WildBells", z_inN (z_t2 71 (by decide +kernel)) rfl⟩
theorem lX3_142 : z_Lm RX3 142 mX2_weightOf := Or.inr ⟨"WildBells", z_inN (z_t2 94 (by decide +kernel)) rfl⟩
theorem lX3_154 : z_Lm RX3 154 mX2_becomes := Or.inr ⟨"WildBells", z_inN (z_t2 108 (by decide +kernel)) rfl⟩
theorem lX3_158 : z_Lm RX3 158 mX2_runHours := Or.inr ⟨"WildBells", z_inN (z_t2 115 (by decide +kernel)) rfl⟩
theorem lX3_162 : z_Lm RX3 162 mX2_tillCaught := Or.inr ⟨"WildBells", z_inN (z_t2 124 (by decide +kernel)) rfl⟩
theorem lX3_186 : z_Lm RX3 186 mX2_isFree := Or.inr ⟨"WildBells", z_inN (z_t2 198 (by decide +kernel)) rfl⟩
theorem lX3_189 : z_Lm RX3 189 mX0_tellsLoud := Or.inr ⟨"WildBells", z_inN (z_t2 176 (by decide +kernel)) rfl⟩
theorem lX3_199 : z_Lm RX3 199 mX2_greatestRing := Or.inr ⟨"WildBells", z_inN (z_t2 218 (by decide +kernel)) rfl⟩
theorem lX3_203 : z_Lm RX3 203 mX2_isRing := Or.inr ⟨"WildBells", z_inN (z_t2 238 (by decide +kernel)) rfl⟩
theorem lX3_206 : z_Lm RX3 206 mX2_notesThere := Or.inr ⟨"WildBells", z_inN (z_t3 3 (by decide +kernel)) rfl⟩
theorem lX3_212 : z_Lm RX3 212 mX2_strike := Or.inr ⟨"WildBells", z_inN (z_t3 16 (by decide +kernel)) rfl⟩
theorem lX3_221 : z_Lm RX3 221 mX1_append := Or.inr ⟨"WildBells", z_inN (z_t3 33 (by decide +kernel)) rfl⟩
theorem lX3_224 : z_Lm RX3 224 mX1_readInto := Or.inr ⟨"WildBells", z_inN (z_t3 45 (by decide +kernel)) rfl⟩
theorem lX3_240 : z_Lm RX3 240 mX0_begin := Or.inr ⟨"WildBells", z_inN (z_t3 177 (by decide +kernel)) rfl⟩
theorem lX3_245 : z_Lm RX3 245 mX0_isMissing := Or.inr ⟨"WildBells", z_inN (z_t2 164 (by decide +kernel)) rfl⟩
theorem lX3_248 : z_Lm RX3 248 mX0_put := Or.inr ⟨"WildBells", z_inN (z_t3 185 (by decide +kernel)) rfl⟩
theorem lX3_254 : z_Lm RX3 254 mX0_hasFrom := Or.inr ⟨"WildBells", z_inN (z_t3 193 (by decide +kernel)) rfl⟩
theorem lX3_272 : z_Lm RX3 272 mX2_followsInRing := Or.inr ⟨"WildBells", z_inN (z_t3 206 (by decide +kernel)) rfl⟩
theorem lX3_275 : z_Lm RX3 275 mX2_spotsHolding := Or.inr ⟨"WildBells", z_inN (z_t3 226 (by decide +kernel)) rfl⟩
theorem lX3_282 : z_Lm RX3 282 mX0_earsAreCells := Or.inr ⟨"WildBells", z_inN (z_t2 168 (by decide +kernel)) rfl⟩
theorem lX0_22 : z_Lm RX0 22 mX3_isCell := Or.inr ⟨"WildBells", z_inN (z_t2 172 (by decide +kernel)) rfl⟩
theorem lX0_26 : z_Lm RX0 26 mX3_apart := Or.inr ⟨"WildBells", z_inN (z_t2 180 (by decide +kernel)) rfl⟩
theorem lX0_30 : z_Lm RX0 30 mX3_loudness := Or.inr ⟨"WildBells", z_inN (z_t2 181 (by decide +kernel)) rfl⟩
theorem lX1_115 : z_Lm RX1 115 mX2_addBell := Or.inr ⟨"WildBells", z_inN (z_t3 138 (by decide +kernel)) rfl⟩
theorem lX1_126 : z_Lm RX1 126 mX2_setNet := Or.inr ⟨"WildBells", z_inN (z_t3 144 (by decide +kernel)) rfl⟩
theorem lX2_62 : z_Lm RX2 62 mX3_holds := Or.inr ⟨"WildBells", z_inN (z_t1 182 (by decide +kernel)) rfl⟩
theorem lX2_72 : z_Lm RX2 72 mX3_apart := Or.inr ⟨"WildBells", z_inN (z_t1 206 (by decide +kernel)) rfl⟩
theorem lX2_76 : z_Lm RX2 76 mX3_loudness := Or.inr ⟨"WildBells", z_inN (z_t1 209 (by decide +kernel)) rfl⟩
theorem lX2_95 : z_Lm RX2 95 mX3_isUnder := Or.inr ⟨"WildBells", z_inN (z_t2 29 (by decide +kernel)) rfl⟩
theorem lX2_121 : z_Lm RX2 121 mX3_longestRun := Or.inr ⟨"WildBells", z_inN (z_t2 227 (by decide +kernel)) rfl⟩
theorem qX3_120 : Cond.constant RX3 120 (99999) ∈ z_T := z_in (z_t2 70 (by decide +kernel)) rfl
theorem qX3_278 : Cond.constant RX3 278 (-1000001) ∈ z_T := z_in (z_t1 177 (by decide +kernel)) rfl
theorem qX2_66 : Cond.constantLong RX2 66 (-1) ∈ z_T := z_in (z_t1 189 (by decide +kernel)) rfl
theorem qX2_111 : Cond.constant RX2 111 (99999) ∈ z_T := z_in (z_t2 77 (by decide +kernel)) rfl
theorem qX2_116 : Cond.constant RX2 116 (1103515245) ∈ z_T := z_in (z_t3 24 (by decide +kernel)) rfl
theorem qX4_69 : Cond.constant RX4 69 (-1000001) ∈ z_T := z_in (z_t4 92 (by decide +kernel)) rfl
theorem qX4_107 : Cond.constant RX4 107 (-1000002) ∈ z_T := z_in (z_t4 123 (by decide +kernel)) rfl
theorem qX4_172 : Cond.constant RX4 172 (99999) ∈ z_T := z_in (z_t4 212 (by decide +kernel)) rfl
theorem qX4_173 : Cond.constant RX4 173 (-1000005) ∈ z_T := z_in (z_t4 213 (by decide +kernel)) rfl
theorem qX4_197 : Cond.constant RX4 197 (1000000) ∈ z_T := z_in (z_t5 32 (by decide +kernel)) rfl
theorem qX4_198 : Cond.constant RX4 198 (-1000004) ∈ z_T := z_in (z_t5 37 (by decide +kernel)) rfl
theorem qX4_214 : Cond.constant RX4 214 (-1000006) ∈ z_T := z_in (z_t5 85 (by decide +kernel)) rfl
theorem qX4_254 : Cond.constant RX4 254 (1103515245) ∈ z_T := z_in (z_t5 174 (by decide +kernel)) rfl
theorem qX4_339 : Cond.constant RX4 339 (-1000003) ∈ z_T := z_in (z_t6 11 (by decide +kernel)) rfl
theorem qX4_340 : Cond.constant RX4 340 (-1000007) ∈ z_T := z_in (z_t6 16 (by decide +kernel)) rfl
theorem qJ6_265 : Cond.constant RJ6 265 (1431655765) ∈ z_T := z_in (z_t2 81 (by decide +kernel)) rfl
theorem qJ6_266 : Cond.constant RJ6 266 (858993459) ∈ z_T := z_in (z_t2 82 (by decide +kernel)) rfl
theorem qJ6_267 : Cond.constant RJ6 267 (252645135) ∈ z_T := z_in (z_t2 83 (by decide +kernel)) rfl
theorem qJ13_314 : Cond.constantLong RJ13 314 (6148914691236517205) ∈ z_T := z_in (z_t2 91 (by decide +kernel)) rfl
theorem qJ13_316 : Cond.constantLong RJ13 316 (3689348814741910323) ∈ z_T := z_in (z_t2 92 (by decide +kernel)) rfl
theorem qJ13_318 : Cond.constantLong RJ13 318 (1085102592571150095) ∈ z_T := z_in (z_t2 93 (by decide +kernel)) rfl
theorem z_ac : Cond.native arraycopyName ∈ z_T ∧ Cond.static arraycopyName ∈ z_T ∧ Cond.initialized "java/lang/System" ∈ z_T := ⟨z_in (z_t2 114 (by decide +kernel)) rfl, z_in (z_t2 113 (by decide +kernel)) rfl, z_iJ10⟩
end
