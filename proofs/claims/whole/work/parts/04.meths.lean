/-! ===== methods, and what the tables say of them and of the links (printed by gen/meths.py) ===== -/
theorem z_tp {w : Cond} (n : Nat) (h : (k2_sels lw_privs)[n]? = some w) : w ∈ lw_tbl := List.mem_append_left _ (List.mem_of_getElem? h)
theorem z_u {w : Cond} (h : w ∈ tables_1) : w ∈ lw_tbl := List.mem_append_right _ h
theorem z_t1 {w : Cond} (n : Nat) (h : tables_1_1[n]? = some w) : w ∈ lw_tbl := z_u (List.mem_append_left _ (List.mem_of_getElem? h))
theorem z_t2 {w : Cond} (n : Nat) (h : tables_1_2[n]? = some w) : w ∈ lw_tbl := z_u (List.mem_append_right _ (List.mem_append_left _ (List.mem_of_getElem? h)))
theorem z_t3 {w : Cond} (n : Nat) (h : tables_1_3[n]? = some w) : w ∈ lw_tbl := z_u (List.mem_append_right _ (List.mem_append_right _ (List.mem_append_left _ (List.mem_of_getElem? h))))
theorem z_t4 {w : Cond} (n : Nat) (h : tables_1_4[n]? = some w) : w ∈ lw_tbl := z_u (List.mem_append_right _ (List.mem_append_right _ (List.mem_append_right _ (List.mem_append_left _ (List.mem_of_getElem? h)))))
theorem z_t5 {w : Cond} (n : Nat) (h : tables_1_5[n]? = some w) : w ∈ lw_tbl := z_u (List.mem_append_right _ (List.mem_append_right _ (List.mem_append_right _ (List.mem_append_right _ (List.mem_append_left _ (List.mem_of_getElem? h))))))
theorem z_t6 {w : Cond} (n : Nat) (h : tables_1_6[n]? = some w) : w ∈ lw_tbl := z_u (List.mem_append_right _ (List.mem_append_right _ (List.mem_append_right _ (List.mem_append_right _ (List.mem_append_right _ (List.mem_of_getElem? h))))))
theorem z_k0 : z_Kl 0 RX0 TX0 3 tyX0 := ⟨rfl, fun w hw => z_in ((show ∀ w ∈ u_ws RX0 TX0 3, w ∈ lw_tbl by decide +kernel) w hw) ((show ∀ w ∈ u_ws RX0 TX0 3, goodWord w = true by decide +kernel) w hw), tyX0_ok, nmX0⟩
theorem z_k1 : z_Kl 1 RX1 TX1 7 tyX1 := ⟨rfl, fun w hw => z_in ((show ∀ w ∈ u_ws RX1 TX1 7, w ∈ lw_tbl by decide +kernel) w hw) ((show ∀ w ∈ u_ws RX1 TX1 7, goodWord w = true by decide +kernel) w hw), tyX1_ok, nmX1⟩
theorem z_k2 : z_Kl 2 RX2 TX2 14 tyX2 := ⟨rfl, fun w hw => z_in ((show ∀ w ∈ u_ws RX2 TX2 14, w ∈ lw_tbl by decide +kernel) w hw) ((show ∀ w ∈ u_ws RX2 TX2 14, goodWord w = true by decide +kernel) w hw), tyX2_ok, nmX2⟩
theorem z_k3 : z_Kl 3 RX3 TX3 8 tyX3 := ⟨rfl, fun w hw => z_in ((show ∀ w ∈ u_ws RX3 TX3 8, w ∈ lw_tbl by decide +kernel) w hw) ((show ∀ w ∈ u_ws RX3 TX3 8, goodWord w = true by decide +kernel) w hw), tyX3_ok, nmX3⟩
theorem z_k4 : z_Kl 4 RX4 TX4 24 tyX4 := ⟨rfl, fun w hw => z_in ((show ∀ w ∈ u_ws RX4 TX4 24, w ∈ lw_tbl by decide +kernel) w hw) ((show ∀ w ∈ u_ws RX4 TX4 24, goodWord w = true by decide +kernel) w hw), tyX4_ok, nmX4⟩
theorem z_iX3 : Cond.initialized RX3 ∈ z_T := z_in (z_t1 1 (by decide +kernel)) rfl
theorem z_iX2 : Cond.initialized RX2 ∈ z_T := z_in (z_t1 2 (by decide +kernel)) rfl
theorem z_iX1 : Cond.initialized RX1 ∈ z_T := z_in (z_t1 3 (by decide +kernel)) rfl
theorem z_iX0 : Cond.initialized RX0 ∈ z_T := z_in (z_t1 4 (by decide +kernel)) rfl
theorem z_iX4 : Cond.initialized RX4 ∈ z_T := z_in (z_t1 5 (by decide +kernel)) rfl
theorem z_iJ9 : Cond.initialized RJ9 ∈ z_T := z_in (z_t1 6 (by decide +kernel)) rfl
theorem z_iJ6 : Cond.initialized RJ6 ∈ z_T := z_in (z_t1 7 (by decide +kernel)) rfl
theorem z_iJ13 : Cond.initialized RJ13 ∈ z_T := z_in (z_t1 8 (by decide +kernel)) rfl
theorem z_iJ10 : Cond.initialized RJ10 ∈ z_T := z_in (z_t1 9 (by decide +kernel)) rfl
theorem z_iJ0 : Cond.initialized RJ0 ∈ z_T := z_in (z_t1 10 (by decide +kernel)) rfl
theorem z_iJ1 : Cond.initialized RJ1 ∈ z_T := z_in (z_t1 11 (by decide +kernel)) rfl
theorem z_iJ3 : Cond.initialized RJ3 ∈ z_T := z_in (z_t1 12 (by decide +kernel)) rfl
theorem z_iJ2 : Cond.initialized RJ2 ∈ z_T := z_in (z_t1 13 (by decide +kernel)) rfl
abbrev mX0_isMissing : zM := (yX0_isMissing, cX0_isMissing, 1, Option.some Jvm.ClassFile.FieldType.boolean, 0)
theorem oX0_isMissing : z_ok mX0_isMissing := ⟨z_in (z_t2 167 (by decide +kernel)) rfl, z_iX0, by decide, by decide, by decide⟩
theorem pX0_isMissing : z_np mX0_isMissing 0 := fun sig hs => by
  have e : (parseMethodDescriptor yX0_isMissing.desc).map (fun d => d.parameters.length) = some 0 := by decide +kernel
  rw [hs] at e
  exact (Option.some.inj e).symm
theorem vX0_isMissing : z_okV mX0_isMissing 0 0 := ⟨oX0_isMissing, pX0_isMissing, z_in (z_t2 166 (by decide +kernel)) rfl, z_in (z_tp 20 (by decide +kernel)) rfl, _, _, rfl⟩
abbrev mX0_begin : zM := (yX0_begin, cX0_begin, 4, Option.none, 0)
theorem oX0_begin : z_ok mX0_begin := ⟨z_in (z_t3 180 (by decide +kernel)) rfl, z_iX0, by decide, by decide, by decide⟩
theorem pX0_begin : z_np mX0_begin 2 := fun sig hs => by
  have e : (parseMethodDescriptor yX0_begin.desc).map (fun d => d.parameters.length) = some 2 := by decide +kernel
  rw [hs] at e
  exact (Option.some.inj e).symm
theorem vX0_begin : z_okV mX0_begin 0 2 := ⟨oX0_begin, pX0_begin, z_in (z_t3 179 (by decide +kernel)) rfl, z_in (z_tp 42 (by decide +kernel)) rfl, _, _, rfl⟩
abbrev mX0_put : zM := (yX0_put, cX0_put, 3, Option.none, 0)
theorem oX0_put : z_ok mX0_put := ⟨z_in (z_t3 188 (by decide +kernel)) rfl, z_iX0, by decide, by decide, by decide⟩
theorem pX0_put : z_np mX0_put 2 := fun sig hs => by
  have e : (parseMethodDescriptor yX0_put.desc).map (fun d => d.parameters.length) = some 2 := by decide +kernel
  rw [hs] at e
  exact (Option.some.inj e).symm
theorem vX0_put : z_okV mX0_put 0 2 := ⟨oX0_put, pX0_put, z_in (z_t3 187 (by decide +kernel)) rfl, z_in (z_tp 43 (by decide +kernel)) rfl, _, _, rfl⟩
abbrev mX0_hasFrom : zM := (yX0_hasFrom, cX0_hasFrom, 3, Option.some Jvm.ClassFile.FieldType.boolean, 0)
theorem oX0_hasFrom : z_ok mX0_hasFrom := ⟨z_in (z_t3 196 (by decide +kernel)) rfl, z_iX0, by decide, by decide, by decide⟩
theorem pX0_hasFrom : z_np mX0_hasFrom 2 := fun sig hs => by
  have e : (parseMethodDescriptor yX0_hasFrom.desc).map (fun d => d.parameters.length) = some 2 := by decide +kernel
  rw [hs] at e
  exact (Option.some.inj e).symm
theorem vX0_hasFrom : z_okV mX0_hasFrom 0 2 := ⟨oX0_hasFrom, pX0_hasFrom, z_in (z_t3 195 (by decide +kernel)) rfl, z_in (z_tp 44 (by decide +kernel)) rfl, _, _, rfl⟩
abbrev mX0_earsAreCells : zM := (yX0_earsAreCells, cX0_earsAreCells, 2, Option.some Jvm.ClassFile.FieldType.boolean, 1)
theorem oX0_earsAreCells : z_ok mX0_earsAreCells := ⟨z_in (z_t2 171 (by decide +kernel)) rfl, z_iX0, by decide, by decide, by decide⟩
theorem pX0_earsAreCells : z_np mX0_earsAreCells 0 := fun sig hs => by
  have e : (parseMethodDescriptor yX0_earsAreCells.desc).map (fun d => d.parameters.length) = some 0 := by decide +kernel
  rw [hs] at e
  exact (Option.some.inj e).symm
theorem vX0_earsAreCells : z_okV mX0_earsAreCells 0 0 := ⟨oX0_earsAreCells, pX0_earsAreCells, z_in (z_t2 170 (by decide +kernel)) rfl, z_in (z_tp 21 (by decide +kernel)) rfl, _, _, rfl⟩
abbrev mX0_tellsLoud : zM := (yX0_tellsLoud, cX0_tellsLoud, 4, Option.some Jvm.ClassFile.FieldType.boolean, 2)
theorem oX0_tellsLoud : z_ok mX0_tellsLoud := ⟨z_in (z_t2 179 (by decide +kernel)) rfl, z_iX0, by decide, by decide, by decide⟩
theorem pX0_tellsLoud : z_np mX0_tellsLoud 2 := fun sig hs => by
  have e : (parseMethodDescriptor yX0_tellsLoud.desc).map (fun d => d.parameters.length) = some 2 := by decide +kernel
  rw [hs] at e
  exact (Option.some.inj e).symm
theorem vX0_tellsLoud : z_okV mX0_tellsLoud 0 2 := ⟨oX0_tellsLoud, pX0_tellsLoud, z_in (z_t2 178 (by decide +kernel)) rfl, z_in (z_tp 22 (by decide +kernel)) rfl, _, _, rfl⟩
abbrev mX1_append : zM := (yX1_append, cX1_append, 2, Option.none, 0)
theorem oX1_append : z_ok mX1_append := ⟨z_in (z_t3 36 (by decide +kernel)) rfl, z_iX1, by decide, by decide, by decide⟩
theorem pX1_append : z_np mX1_append 1 := fun sig hs => by
  have e : (parseMethodDescriptor yX1_append.desc).map (fun d => d.parameters.length) = some 1 := by decide +kernel
  rw [hs] at e
  exact (Option.some.inj e).symm
theorem vX1_append : z_okV mX1_append 1 1 := ⟨oX1_append, pX1_append, z_in (z_t3 35 (by decide +kernel)) rfl, z_in (z_tp 29 (by decide +kernel)) rfl, _, _, rfl⟩
abbrev mX1_readInto : zM := (yX1_readInto, cX1_readInto, 5, Option.some Jvm.ClassFile.FieldType.int, 10)
theorem oX1_readInto : z_ok mX1_readInto := ⟨z_in (z_t3 48 (by decide +kernel)) rfl, z_iX1, by decide, by decide, by decide⟩
theorem pX1_readInto : z_np mX1_readInto 1 := fun sig hs => by
  have e : (parseMethodDescriptor yX1_readInto.desc).map (fun d => d.parameters.length) = some 1 := by decide +kernel
  rw [hs] at e
  exact (Option.some.inj e).symm
theorem vX1_readInto : z_okV mX1_readInto 1 1 := ⟨oX1_readInto, pX1_readInto, z_in (z_t3 47 (by decide +kernel)) rfl, z_in (z_tp 30 (by decide +kernel)) rfl, _, _, rfl⟩
abbrev mX1_advance : zM := (yX1_advance, cX1_advance, 2, Option.none, 0)
theorem oX1_advance : z_ok mX1_advance := ⟨z_in (z_t3 52 (by decide +kernel)) rfl, z_iX1, by decide, by decide, by decide⟩
theorem pX1_advance : z_np mX1_advance 0 := fun sig hs => by
  have e : (parseMethodDescriptor yX1_advance.desc).map (fun d => d.parameters.length) = some 0 := by decide +kernel
  rw [hs] at e
  exact (Option.some.inj e).symm
theorem vX1_advance : z_okV mX1_advance 1 0 := ⟨oX1_advance, pX1_advance, z_in (z_t3 51 (by decide +kernel)) rfl, z_in (z_tp 31 (by decide +kernel)) rfl, _, _, rfl⟩
abbrev mX1_isWord : zM := (yX1_isWord, cX1_isWord, 3, Option.some Jvm.ClassFile.FieldType.boolean, 6)
theorem oX1_isWord : z_ok mX1_isWord := ⟨z_in (z_t3 74 (by decide +kernel)) rfl, z_iX1, by decide, by decide, by decide⟩
theorem pX1_isWord : z_np mX1_isWord 1 := fun sig hs => by
  have e : (parseMethodDescriptor yX1_isWord.desc).map (fun d => d.parameters.length) = some 1 := by decide +kernel
  rw [hs] at e
  exact (Option.some.inj e).symm
theorem vX1_isWord : z_okV mX1_isWord 1 1 := ⟨oX1_isWord, pX1_isWord, z_in (z_t3 73 (by decide +kernel)) rfl, z_in (z_tp 34 (by decide +kernel)) rfl, _, _, rfl⟩
abbrev mX1_readItem : zM := (yX1_readItem, cX1_readItem, 3, Option.none, 9)
theorem oX1_readItem : z_ok mX1_readItem := ⟨z_in (z_t3 56 (by decide +kernel)) rfl, z_iX1, by decide, by decide, by decide⟩
theorem pX1_readItem : z_np mX1_readItem 1 := fun sig hs => by
  have e : (parseMethodDescriptor yX1_readItem.desc).map (fun d => d.parameters.length) = some 1 := by decide +kernel
  rw [hs] at e
  exact (Option.some.inj e).symm
theorem vX1_readItem : z_okV mX1_readItem 1 1 := ⟨oX1_readItem, pX1_readItem, z_in (z_t3 55 (by decide +kernel)) rfl, z_in (z_tp 32 (by decide +kernel)) rfl, _, _, rfl⟩
abbrev mX1_kindOfWord : zM := (yX1_kindOfWord, cX1_kindOfWord, 2, Option.some Jvm.ClassFile.FieldType.int, 7)
theorem oX1_kindOfWord : z_ok mX1_kindOfWord := ⟨z_in (z_t3 60 (by decide +kernel)) rfl, z_iX1, by decide, by decide, by decide⟩
theorem pX1_kindOfWord : z_np mX1_kindOfWord 0 := fun sig hs => by
  have e : (parseMethodDescriptor yX1_kindOfWord.desc).map (fun d => d.parameters.length) = some 0 := by decide +kernel
  rw [hs] at e
  exact (Option.some.inj e).symm
theorem vX1_kindOfWord : z_okV mX1_kindOfWord 1 0 := ⟨oX1_kindOfWord, pX1_kindOfWord, z_in (z_t3 59 (by decide +kernel)) rfl, z_in (z_tp 33 (by decide +kernel)) rfl, _, _, rfl⟩
abbrev mX1_wordOfKind : zM := (yX1_wordOfKind, cX1_wordOfKind, 1, Option.some (Jvm.ClassFile.FieldType.object "java/lang/String"), 0)
theorem oX1_wordOfKind : z_ok mX1_wordOfKind := ⟨z_in (z_t3 63 (by decide +kernel)) rfl, z_iX1, by decide, by decide, by decide⟩
theorem pX1_wordOfKind : z_np mX1_wordOfKind 1 := fun sig hs => by
  have e : (parseMethodDescriptor yX1_wordOfKind.desc).map (fun d => d.parameters.length) = some 1 := by decide +kernel
  rw [hs] at e
  exact (Option.some.inj e).symm
theorem sX1_wordOfKind : z_okS mX1_wordOfKind 1 := ⟨oX1_wordOfKind, pX1_wordOfKind, z_in (z_t3 62 (by decide +kernel)) rfl⟩
abbrev mX1_readBell : zM := (yX1_readBell, cX1_readBell, 7, Option.none, 8)
theorem oX1_readBell : z_ok mX1_readBell := ⟨z_in (z_t3 126 (by decide +kernel)) rfl, z_iX1, by decide, by decide, by decide⟩
theorem pX1_readBell : z_np mX1_readBell 2 := fun sig hs => by
  have e : (parseMethodDescriptor yX1_readBell.desc).map (fun d => d.parameters.length) = some 2 := by decide +kernel
  rw [hs] at e
  exact (Option.some.inj e).symm
theorem vX1_readBell : z_okV mX1_readBell 1 2 := ⟨oX1_readBell, pX1_readBell, z_in (z_t3 125 (by decide +kernel)) rfl, z_in (z_tp 35 (by decide +kernel)) rfl, _, _, rfl⟩
abbrev mX1_readNet : zM := (yX1_readNet, cX1_readNet, 3, Option.none, 2)
theorem oX1_readNet : z_ok mX1_readNet := ⟨z_in (z_t3 143 (by decide +kernel)) rfl, z_iX1, by decide, by decide, by decide⟩
theorem pX1_readNet : z_np mX1_readNet 1 := fun sig hs => by
  have e : (parseMethodDescriptor yX1_readNet.desc).map (fun d => d.parameters.length) = some 1 := by decide +kernel
  rw [hs] at e
  exact (Option.some.inj e).symm
theorem vX1_readNet : z_okV mX1_readNet 1 1 := ⟨oX1_readNet, pX1_readNet, z_in (z_t3 142 (by decide +kernel)) rfl, z_in (z_tp 38 (by decide +kernel)) rfl, _, _, rfl⟩
abbrev mX1_readThick : zM := (yX1_readThick, cX1_readThick, 4, Option.none, 2)
theorem oX1_readThick : z_ok mX1_readThick := ⟨z_in (z_t3 149 (by decide +kernel)) rfl, z_iX1, by decide, by decide, by decide⟩
theorem pX1_readThick : z_np mX1_readThick 1 := fun sig hs => by
  have e : (parseMethodDescriptor yX1_readThick.desc).map (fun d => d.parameters.length) = some 1 := by decide +kernel
  rw [hs] at e
  exact (Option.some.inj e).symm
theorem vX1_readThick : z_okV mX1_readThick 1 1 := ⟨oX1_readThick, pX1_readThick, z_in (z_t3 148 (by decide +kernel)) rfl, z_in (z_tp 39 (by decide +kernel)) rfl, _, _, rfl⟩
abbrev mX1_readHunter : zM := (yX1_readHunter, cX1_readHunter, 4, Option.none, 8)
theorem oX1_readHunter : z_ok mX1_readHunter := ⟨z_in (z_t3 154 (by decide +kernel)) rfl, z_iX1, by decide, by decide, by decide⟩
theorem pX1_readHunter : z_np mX1_readHunter 1 := fun sig hs => by
  have e : (parseMethodDescriptor yX1_readHunter.desc).map (fun d => d.parameters.length) = some 1 := by decide +kernel
  rw [hs] at e
  exact (Option.some.inj e).symm
theorem vX1_readHunter : z_okV mX1_readHunter 1 1 := ⟨oX1_readHunter, pX1_readHunter, z_in (z_t3 153 (by decide +kernel)) rfl, z_in (z_tp 40 (by decide +kernel)) rfl, _, _, rfl⟩
abbrev mX1_readFear : zM := (yX1_readFear, cX1_readFear, 3, Option.none, 2)
theorem oX1_readFear : z_ok mX1_readFear := ⟨z_in (z_t3 159 (by decide +kernel)) rfl, z_iX1, by decide, by decide, by decide⟩
theorem pX1_readFear : z_np mX1_readFear 1 := fun sig hs => by
  have e : (parseMethodDescriptor yX1_readFear.desc).map (fun d => d.parameters.length) = some 1 := by decide +kernel
  rw [hs] at e
  exact (Option.some.inj e).symm
theorem vX1_readFear : z_okV mX1_readFear 1 1 := ⟨oX1_readFear, pX1_readFear, z_in (z_t3 158 (by decide +kernel)) rfl, z_in (z_tp 41 (by decide +kernel)) rfl, _, _, rfl⟩
abbrev mX1_takeNumber : zM := (yX1_takeNumber, cX1_takeNumber, 4, Option.some Jvm.ClassFile.FieldType.int, 1)
theorem oX1_takeNumber : z_ok mX1_takeNumber := ⟨z_in (z_t3 135 (by decide +kernel)) rfl, z_iX1, by decide, by decide, by decide⟩
theorem pX1_takeNumber : z_np mX1_takeNumber 2 := fun sig hs => by
  have e : (parseMethodDescriptor yX1_takeNumber.desc).map (fun d => d.parameters.length) = some 2 := by decide +kernel
  rw [hs] at e
  exact (Option.some.inj e).symm
theorem vX1_takeNumber : z_okV mX1_takeNumber 1 2 := ⟨oX1_takeNumber, pX1_takeNumber, z_in (z_t3 134 (by decide +kernel)) rfl, z_in (z_tp 37 (by decide +kernel)) rfl, _, _, rfl⟩
abbrev mX1_takePerhaps : zM := (yX1_takePerhaps, cX1_takePerhaps, 5, Option.some Jvm.ClassFile.FieldType.int, 7)
theorem oX1_takePerhaps : z_ok mX1_takePerhaps := ⟨z_in (z_t3 131 (by decide +kernel)) rfl, z_iX1, by decide, by decide, by decide⟩
theorem pX1_takePerhaps : z_np mX1_takePerhaps 4 := fun sig hs => by
  have e : (parseMethodDescriptor yX1_takePerhaps.desc).map (fun d => d.parameters.length) = some 4 := by decide +kernel
  rw [hs] at e
  exact (Option.some.inj e).symm
theorem vX1_takePerhaps : z_okV mX1_takePerhaps 1 4 := ⟨oX1_takePerhaps, pX1_takePerhaps, z_in (z_t3 130 (by decide +kernel)) rfl, z_in (z_tp 36 (by decide +kernel)) rfl, _, _, rfl⟩
abbrev mX2_becomes : zM := (yX2_becomes, cX2_becomes, 2, Option.none, 1)
theorem oX2_becomes : z_ok mX2_becomes := ⟨z_in (z_t2 111 (by decide +kernel)) rfl, z_iX2, by decide, by decide, by decide⟩
theorem pX2_becomes : z_np mX2_becomes 1 := fun sig hs => by
  have e : (parseMethodDescriptor yX2_becomes.desc).map (fun d => d.parameters.length) = some 1 := by decide +kernel
  rw [hs] at e
  exact (Option.some.inj e).symm
theorem vX2_becomes : z_okV mX2_becomes 2 1 := ⟨oX2_becomes, pX2_becomes, z_in (z_t2 110 (by decide +kernel)) rfl, z_in (z_tp 16 (by decide +kernel)) rfl, _, _, rfl⟩
abbrev mX2_hasNet : zM := (yX2_hasNet, cX2_hasNet, 2, Option.some Jvm.ClassFile.FieldType.boolean, 1)
theorem oX2_hasNet : z_ok mX2_hasNet := ⟨z_in (z_t1 181 (by decide +kernel)) rfl, z_iX2, by decide, by decide, by decide⟩
theorem pX2_hasNet : z_np mX2_hasNet 1 := fun sig hs => by
  have e : (parseMethodDescriptor yX2_hasNet.desc).map (fun d => d.parameters.length) = some 1 := by decide +kernel
  rw [hs] at e
  exact (Option.some.inj e).symm
theorem vX2_hasNet : z_okV mX2_hasNet 2 1 := ⟨oX2_hasNet, pX2_hasNet, z_in (z_t1 180 (by decide +kernel)) rfl, z_in (z_tp 1 (by decide +kernel)) rfl, _, _, rfl⟩
abbrev mX2_setNet : zM := (yX2_setNet, cX2_setNet, 3, Option.none, 0)
theorem oX2_setNet : z_ok mX2_setNet := ⟨z_in (z_t1 188 (by decide +kernel)) rfl, z_iX2, by decide, by decide, by decide⟩
theorem pX2_setNet : z_np mX2_setNet 2 := fun sig hs => by
  have e : (parseMethodDescriptor yX2_setNet.desc).map (fun d => d.parameters.length) = some 2 := by decide +kernel
  rw [hs] at e
  exact (Option.some.inj e).symm
theorem vX2_setNet : z_okV mX2_setNet 2 2 := ⟨oX2_setNet, pX2_setNet, z_in (z_t1 187 (by decide +kernel)) rfl, z_in (z_tp 2 (by decide +kernel)) rfl, _, _, rfl⟩
abbrev mX2_addBell : zM := (yX2_addBell, cX2_addBell, 4, Option.some Jvm.ClassFile.FieldType.int, 0)
theorem oX2_addBell : z_ok mX2_addBell := ⟨z_in (z_t2 1 (by decide +kernel)) rfl, z_iX2, by decide, by decide, by decide⟩
theorem pX2_addBell : z_np mX2_addBell 2 := fun sig hs => by
  have e : (parseMethodDescriptor yX2_addBell.desc).map (fun d => d.parameters.length) = some 2 := by decide +kernel
  rw [hs] at e
  exact (Option.some.inj e).symm
theorem vX2_addBell : z_okV mX2_addBell 2 2 := ⟨oX2_addBell, pX2_addBell, z_in (z_t2 0 (by decide +kernel)) rfl, z_in (z_tp 6 (by decide +kernel)) rfl, _, _, rfl⟩
abbrev mX2_isFree : zM := (yX2_isFree, cX2_isFree, 2, Option.some Jvm.ClassFile.FieldType.boolean, 0)
theorem oX2_isFree : z_ok mX2_isFree := ⟨z_in (z_t1 205 (by decide +kernel)) rfl, z_iX2, by decide, by decide, by decide⟩
theorem pX2_isFree : z_np mX2_isFree 1 := fun sig hs => by
  have e : (parseMethodDescriptor yX2_isFree.desc).map (fun d => d.parameters.length) = some 1 := by decide +kernel
  rw [hs] at e
  exact (Option.some.inj e).symm
theorem vX2_isFree : z_okV mX2_isFree 2 1 := ⟨oX2_isFree, pX2_isFree, z_in (z_t1 204 (by decide +kernel)) rfl, z_in (z_tp 4 (by decide +kernel)) rfl, _, _, rfl⟩
abbrev mX2_trait : zM := (yX2_trait, cX2_trait, 3, Option.some Jvm.ClassFile.FieldType.int, 1)
theorem oX2_trait : z_ok mX2_trait := ⟨z_in (z_t2 44 (by decide +kernel)) rfl, z_iX2, by decide, by decide, by decide⟩
theorem pX2_trait : z_np mX2_trait 2 := fun sig hs => by
  have e : (parseMethodDescriptor yX2_trait.desc).map (fun d => d.parameters.length) = some 2 := by decide +kernel
  rw [hs] at e
  exact (Option.some.inj e).symm
theorem vX2_trait : z_okV mX2_trait 2 2 := ⟨oX2_trait, pX2_trait, z_in (z_t2 43 (by decide +kernel)) rfl, z_in (z_tp 12 (by decide +kernel)) rfl, _, _, rfl⟩
abbrev mX2_setTrait : zM := (yX2_setTrait, cX2_setTrait, 4, Option.none, 0)
theorem oX2_setTrait : z_ok mX2_setTrait := ⟨z_in (z_t2 61 (by decide +kernel)) rfl, z_iX2, by decide, by decide, by decide⟩
theorem pX2_setTrait : z_np mX2_setTrait 3 := fun sig hs => by
  have e : (parseMethodDescriptor yX2_setTrait.desc).map (fun d => d.parameters.length) = some 3 := by decide +kernel
  rw [hs] at e
  exact (Option.some.inj e).symm
theorem vX2_setTrait : z_okV mX2_setTrait 2 3 := ⟨oX2_setTrait, pX2_setTrait, z_in (z_t2 60 (by decide +kernel)) rfl, z_in (z_tp 13 (by decide +kernel)) rfl, _, _, rfl⟩
abbrev mX2_heardAt : zM := (yX2_heardAt, cX2_heardAt, 4, Option.some Jvm.ClassFile.FieldType.int, 2)
theorem oX2_heardAt : z_ok mX2_heardAt := ⟨z_in (z_t1 201 (by decide +kernel)) rfl, z_iX2, by decide, by decide, by decide⟩
theorem pX2_heardAt : z_np mX2_heardAt 1 := fun sig hs => by
  have e : (parseMethodDescriptor yX2_heardAt.desc).map (fun d => d.parameters.length) = some 1 := by decide +kernel
  rw [hs] at e
  exact (Option.some.inj e).symm
theorem vX2_heardAt : z_okV mX2_heardAt 2 1 := ⟨oX2_heardAt, pX2_heardAt, z_in (z_t1 200 (by decide +kernel)) rfl, z_in (z_tp 3 (by decide +kernel)) rfl, _, _, rfl⟩
abbrev mX2_bellsAt : zM := (yX2_bellsAt, cX2_bellsAt, 4, Option.some Jvm.ClassFile.FieldType.int, 0)
theorem oX2_bellsAt : z_ok mX2_bellsAt := ⟨z_in (z_t1 219 (by decide +kernel)) rfl, z_iX2, by decide, by decide, by decide⟩
theorem pX2_bellsAt : z_np mX2_bellsAt 1 := fun sig hs => by
  have e : (parseMethodDescriptor yX2_bellsAt.desc).map (fun d => d.parameters.length) = some 1 := by decide +kernel
  rw [hs] at e
  exact (Option.some.inj e).symm
theorem vX2_bellsAt : z_okV mX2_bellsAt 2 1 := ⟨oX2_bellsAt, pX2_bellsAt, z_in (z_t1 218 (by decide +kernel)) rfl, z_in (z_tp 5 (by decide +kernel)) rfl, _, _, rfl⟩
abbrev mX2_weightOf : zM := (yX2_weightOf, cX2_weightOf, 4, Option.some Jvm.ClassFile.FieldType.int, 1)
theorem oX2_weightOf : z_ok mX2_weightOf := ⟨z_in (z_t2 97 (by decide +kernel)) rfl, z_iX2, by decide, by decide, by decide⟩
theorem pX2_weightOf : z_np mX2_weightOf 1 := fun sig hs => by
  have e : (parseMethodDescriptor yX2_weightOf.desc).map (fun d => d.parameters.length) = some 1 := by decide +kernel
  rw [hs] at e
  exact (Option.some.inj e).symm
theorem vX2_weightOf : z_okV mX2_weightOf 2 1 := ⟨oX2_weightOf, pX2_weightOf, z_in (z_t2 96 (by decide +kernel)) rfl, z_in (z_tp 15 (by decide +kernel)) rfl, _, _, rfl⟩
abbrev mX2_spotsHolding : zM := (yX2_spotsHolding, cX2_spotsHolding, 3, Option.some Jvm.ClassFile.FieldType.int, 0)
theorem oX2_spotsHolding : z_ok mX2_spotsHolding := ⟨z_in (z_t3 229 (by decide +kernel)) rfl, z_iX2, by decide, by decide, by decide⟩
theorem pX2_spotsHolding : z_np mX2_spotsHolding 0 := fun sig hs => by
  have e : (parseMethodDescriptor yX2_spotsHolding.desc).map (fun d => d.parameters.length) = some 0 := by decide +kernel
  rw [hs] at e
  exact (Option.some.inj e).symm
theorem vX2_spotsHolding : z_okV mX2_spotsHolding 2 0 := ⟨oX2_spotsHolding, pX2_spotsHolding, z_in (z_t3 228 (by decide +kernel)) rfl, z_in (z_tp 46 (by decide +kernel)) rfl, _, _, rfl⟩
abbrev mX2_worthFor : zM := (yX2_worthFor, cX2_worthFor, 4, Option.some Jvm.ClassFile.FieldType.int, 2)
theorem oX2_worthFor : z_ok mX2_worthFor := ⟨z_in (z_t2 17 (by decide +kernel)) rfl, z_iX2, by decide, by decide, by decide⟩
theorem pX2_worthFor : z_np mX2_worthFor 2 := fun sig hs => by
  have e : (parseMethodDescriptor yX2_worthFor.desc).map (fun d => d.parameters.length) = some 2 := by decide +kernel
  rw [hs] at e
  exact (Option.some.inj e).symm
theorem vX2_worthFor : z_okV mX2_worthFor 2 2 := ⟨oX2_worthFor, pX2_worthFor, z_in (z_t2 16 (by decide +kernel)) rfl, z_in (z_tp 9 (by decide +kernel)) rfl, _, _, rfl⟩
abbrev mX2_fromHunters : zM := (yX2_fromHunters, cX2_fromHunters, 4, Option.some Jvm.ClassFile.FieldType.int, 1)
theorem oX2_fromHunters : z_ok mX2_fromHunters := ⟨z_in (z_t2 21 (by decide +kernel)) rfl, z_iX2, by decide, by decide, by decide⟩
theorem pX2_fromHunters : z_np mX2_fromHunters 1 := fun sig hs => by
  have e : (parseMethodDescriptor yX2_fromHunters.desc).map (fun d => d.parameters.length) = some 1 := by decide +kernel
  rw [hs] at e
  exact (Option.some.inj e).symm
theorem vX2_fromHunters : z_okV mX2_fromHunters 2 1 := ⟨oX2_fromHunters, pX2_fromHunters, z_in (z_t2 20 (by decide +kernel)) rfl, z_in (z_tp 10 (by decide +kernel)) rfl, _, _, rfl⟩
abbrev mX2_nearestOther : zM := (yX2_nearestOther, cX2_nearestOther, 8, Option.some Jvm.ClassFile.FieldType.int, 1)
theorem oX2_nearestOther : z_ok mX2_nearestOther := ⟨z_in (z_t2 28 (by decide +kernel)) rfl, z_iX2, by decide, by decide, by decide⟩
theorem pX2_nearestOther : z_np mX2_nearestOther 4 := fun sig hs => by
  have e : (parseMethodDescriptor yX2_nearestOther.desc).map (fun d => d.parameters.length) = some 4 := by decide +kernel
  rw [hs] at e
  exact (Option.some.inj e).symm
theorem vX2_nearestOther : z_okV mX2_nearestOther 2 4 := ⟨oX2_nearestOther, pX2_nearestOther, z_in (z_t2 27 (by decide +kernel)) rfl, z_in (z_tp 11 (by decide +kernel)) rfl, _, _, rfl⟩
abbrev mX2_nextCell : zM := (yX2_nextCell, cX2_nextCell, 8, Option.some Jvm.ClassFile.FieldType.int, 3)
theorem oX2_nextCell : z_ok mX2_nextCell := ⟨z_in (z_t2 13 (by decide +kernel)) rfl, z_iX2, by decide, by decide, by decide⟩
theorem pX2_nextCell : z_np mX2_nextCell 1 := fun sig hs => by
  have e : (parseMethodDescriptor yX2_nextCell.desc).map (fun d => d.parameters.length) = some 1 := by decide +kernel
  rw [hs] at e
  exact (Option.some.inj e).symm
theorem vX2_nextCell : z_okV mX2_nextCell 2 1 := ⟨oX2_nextCell, pX2_nextCell, z_in (z_t2 12 (by decide +kernel)) rfl, z_in (z_tp 8 (by decide +kernel)) rfl, _, _, rfl⟩
abbrev mX2_cellBeside : zM := (yX2_cellBeside, cX2_cellBeside, 2, Option.some Jvm.ClassFile.FieldType.int, 0)
theorem oX2_cellBeside : z_ok mX2_cellBeside := ⟨z_in (z_t2 36 (by decide +kernel)) rfl, z_iX2, by decide, by decide, by decide⟩
theorem pX2_cellBeside : z_np mX2_cellBeside 2 := fun sig hs => by
  have e : (parseMethodDescriptor yX2_cellBeside.desc).map (fun d => d.parameters.length) = some 2 := by decide +kernel
  rw [hs] at e
  exact (Option.some.inj e).symm
theorem sX2_cellBeside : z_okS mX2_cellBeside 2 := ⟨oX2_cellBeside, pX2_cellBeside, z_in (z_t2 35 (by decide +kernel)) rfl⟩
abbrev mX2_hourGoes : zM := (yX2_hourGoes, cX2_hourGoes, 4, Option.some Jvm.ClassFile.FieldType.boolean, 4)
theorem oX2_hourGoes : z_ok mX2_hourGoes := ⟨z_in (z_t2 74 (by decide +kernel)) rfl, z_iX2, by decide, by decide, by decide⟩
theorem pX2_hourGoes : z_np mX2_hourGoes 0 := fun sig hs => by
  have e : (parseMethodDescriptor yX2_hourGoes.desc).map (fun d => d.parameters.length) = some 0 := by decide +kernel
  rw [hs] at e
  exact (Option.some.inj e).symm
theorem vX2_hourGoes : z_okV mX2_hourGoes 2 0 := ⟨oX2_hourGoes, pX2_hourGoes, z_in (z_t2 73 (by decide +kernel)) rfl, z_in (z_tp 14 (by decide +kernel)) rfl, _, _, rfl⟩
abbrev mX2_runHours : zM := (yX2_runHours, cX2_runHours, 4, Option.none, 5)
theorem oX2_runHours : z_ok mX2_runHours := ⟨z_in (z_t2 118 (by decide +kernel)) rfl, z_iX2, by decide, by decide, by decide⟩
theorem pX2_runHours : z_np mX2_runHours 1 := fun sig hs => by
  have e : (parseMethodDescriptor yX2_runHours.desc).map (fun d => d.parameters.length) = some 1 := by decide +kernel
  rw [hs] at e
  exact (Option.some.inj e).symm
theorem vX2_runHours : z_okV mX2_runHours 2 1 := ⟨oX2_runHours, pX2_runHours, z_in (z_t2 117 (by decide +kernel)) rfl, z_in (z_tp 17 (by decide +kernel)) rfl, _, _, rfl⟩
abbrev mX2_tillCaught : zM := (yX2_tillCaught, cX2_tillCaught, 5, Option.some Jvm.ClassFile.FieldType.int, 5)
theorem oX2_tillCaught : z_ok mX2_tillCaught := ⟨z_in (z_t2 127 (by decide +kernel)) rfl, z_iX2, by decide, by decide, by decide⟩
theorem pX2_tillCaught : z_np mX2_tillCaught 2 := fun sig hs => by
  have e : (parseMethodDescriptor yX2_tillCaught.desc).map (fun d => d.parameters.length) = some 2 := by decide +kernel
  rw [hs] at e
  exact (Option.some.inj e).symm
theorem vX2_tillCaught : z_okV mX2_tillCaught 2 2 := ⟨oX2_tillCaught, pX2_tillCaught, z_in (z_t2 126 (by decide +kernel)) rfl, z_in (z_tp 18 (by decide +kernel)) rfl, _, _, rfl⟩
abbrev mX2_draw : zM := (yX2_draw, cX2_draw, 1, Option.some Jvm.ClassFile.FieldType.int, 0)
theorem oX2_draw : z_ok mX2_draw := ⟨z_in (z_t3 23 (by decide +kernel)) rfl, z_iX2, by decide, by decide, by decide⟩
theorem pX2_draw : z_np mX2_draw 0 := fun sig hs => by
  have e : (parseMethodDescriptor yX2_draw.desc).map (fun d => d.parameters.length) = some 0 := by decide +kernel
  rw [hs] at e
  exact (Option.some.inj e).symm
theorem vX2_draw : z_okV mX2_draw 2 0 := ⟨oX2_draw, pX2_draw, z_in (z_t3 22 (by decide +kernel)) rfl, z_in (z_tp 28 (by decide +kernel)) rfl, _, _, rfl⟩
abbrev mX2_strike : zM := (yX2_strike, cX2_strike, 3, Option.none, 1)
theorem oX2_strike : z_ok mX2_strike := ⟨z_in (z_t3 19 (by decide +kernel)) rfl, z_iX2, by decide, by decide, by decide⟩
theorem pX2_strike : z_np mX2_strike 0 := fun sig hs => by
  have e : (parseMethodDescriptor yX2_strike.desc).map (fun d => d.parameters.length) = some 0 := by decide +kernel
  rw [hs] at e
  exact (Option.some.inj e).symm
theorem vX2_strike : z_okV mX2_strike 2 0 := ⟨oX2_strike, pX2_strike, z_in (z_t3 18 (by decide +kernel)) rfl, z_in (z_tp 27 (by decide +kernel)) rfl, _, _, rfl⟩
abbrev mX2_notesThere : zM := (yX2_notesThere, cX2_notesThere, 3, Option.some Jvm.ClassFile.FieldType.int, 0)
theorem oX2_notesThere : z_ok mX2_notesThere := ⟨z_in (z_t3 6 (by decide +kernel)) rfl, z_iX2, by decide, by decide, by decide⟩
theorem pX2_notesThere : z_np mX2_notesThere 0 := fun sig hs => by
  have e : (parseMethodDescriptor yX2_notesThere.desc).map (fun d => d.parameters.length) = some 0 := by decide +kernel
  rw [hs] at e
  exact (Option.some.inj e).symm
theorem vX2_notesThere : z_okV mX2_notesThere 2 0 := ⟨oX2_notesThere, pX2_notesThere, z_in (z_t3 5 (by decide +kernel)) rfl, z_in (z_tp 26 (by decide +kernel)) rfl, _, _, rfl⟩
abbrev mX2_isRing : zM := (yX2_isRing, cX2_isRing, 4, Option.some Jvm.ClassFile.FieldType.boolean, 2)
theorem oX2_isRing : z_ok mX2_isRing := ⟨z_in (z_t2 226 (by decide +kernel)) rfl, z_iX2, by decide, by decide, by decide⟩
theorem pX2_isRing : z_np mX2_isRing 1 := fun sig hs => by
  have e : (parseMethodDescriptor yX2_isRing.desc).map (fun d => d.parameters.length) = some 1 := by decide +kernel
  rw [hs] at e
  exact (Option.some.inj e).symm
theorem vX2_isRing : z_okV mX2_isRing 2 1 := ⟨oX2_isRing, pX2_isRing, z_in (z_t2 225 (by decide +kernel)) rfl, z_in (z_tp 25 (by decide +kernel)) rfl, _, _, rfl⟩
abbrev mX2_greatestRing : zM := (yX2_greatestRing, cX2_greatestRing, 3, Option.some Jvm.ClassFile.FieldType.int, 3)
theorem oX2_greatestRing : z_ok mX2_greatestRing := ⟨z_in (z_t2 221 (by decide +kernel)) rfl, z_iX2, by decide, by decide, by decide⟩
theorem pX2_greatestRing : z_np mX2_greatestRing 0 := fun sig hs => by
  have e : (parseMethodDescriptor yX2_greatestRing.desc).map (fun d => d.parameters.length) = some 0 := by decide +kernel
  rw [hs] at e
  exact (Option.some.inj e).symm
theorem vX2_greatestRing : z_okV mX2_greatestRing 2 0 := ⟨oX2_greatestRing, pX2_greatestRing, z_in (z_t2 220 (by decide +kernel)) rfl, z_in (z_tp 24 (by decide +kernel)) rfl, _, _, rfl⟩
abbrev mX2_followsInRing : zM := (yX2_followsInRing, cX2_followsInRing, 4, Option.some Jvm.ClassFile.FieldType.boolean, 0)
theorem oX2_followsInRing : z_ok mX2_followsInRing := ⟨z_in (z_t3 209 (by decide +kernel)) rfl, z_iX2, by decide, by decide, by decide⟩
theorem pX2_followsInRing : z_np mX2_followsInRing 2 := fun sig hs => by
  have e : (parseMethodDescriptor yX2_followsInRing.desc).map (fun d => d.parameters.length) = some 2 := by decide +kernel
  rw [hs] at e
  exact (Option.some.inj e).symm
theorem vX2_followsInRing : z_okV mX2_followsInRing 2 2 := ⟨oX2_followsInRing, pX2_followsInRing, z_in (z_t3 208 (by decide +kernel)) rfl, z_in (z_tp 45 (by decide +kernel)) rfl, _, _, rfl⟩
abbrev mX3_net : zM := (yX3_net, cX3_net, 4, Option.some Jvm.ClassFile.FieldType.int, 2)
theorem oX3_net : z_ok mX3_net := ⟨z_in (z_t1 169 (by decide +kernel)) rfl, z_iX3, by decide, by decide, by decide⟩
theorem pX3_net : z_np mX3_net 2 := fun sig hs => by
  have e : (parseMethodDescriptor yX3_net.desc).map (fun d => d.parameters.length) = some 2 := by decide +kernel
  rw [hs] at e
  exact (Option.some.inj e).symm
theorem vX3_net : z_okV mX3_net 3 2 := ⟨oX3_net, pX3_net, z_in (z_t1 167 (by decide +kernel)) rfl, z_in (z_t1 168 (by decide +kernel)) rfl, _, _, rfl⟩
abbrev mX3_thick : zM := (yX3_thick, cX3_thick, 4, Option.some Jvm.ClassFile.FieldType.int, 1)
theorem oX3_thick : z_ok mX3_thick := ⟨z_in (z_t1 193 (by decide +kernel)) rfl, z_iX3, by decide, by decide, by decide⟩
theorem pX3_thick : z_np mX3_thick 2 := fun sig hs => by
  have e : (parseMethodDescriptor yX3_thick.desc).map (fun d => d.parameters.length) = some 2 := by decide +kernel
  rw [hs] at e
  exact (Option.some.inj e).symm
theorem vX3_thick : z_okV mX3_thick 3 2 := ⟨oX3_thick, pX3_thick, z_in (z_t1 191 (by decide +kernel)) rfl, z_in (z_t1 192 (by decide +kernel)) rfl, _, _, rfl⟩
abbrev mX3_cell : zM := (yX3_cell, cX3_cell, 3, Option.some Jvm.ClassFile.FieldType.int, 3)
theorem oX3_cell : z_ok mX3_cell := ⟨z_in (z_t1 197 (by decide +kernel)) rfl, z_iX3, by decide, by decide, by decide⟩
theorem pX3_cell : z_np mX3_cell 2 := fun sig hs => by
  have e : (parseMethodDescriptor yX3_cell.desc).map (fun d => d.parameters.length) = some 2 := by decide +kernel
  rw [hs] at e
  exact (Option.some.inj e).symm
theorem vX3_cell : z_okV mX3_cell 3 2 := ⟨oX3_cell, pX3_cell, z_in (z_t1 195 (by decide +kernel)) rfl, z_in (z_t1 196 (by decide +kernel)) rfl, _, _, rfl⟩
abbrev mX3_hunter : zM := (yX3_hunter, cX3_hunter, 4, Option.some Jvm.ClassFile.FieldType.int, 1)
theorem oX3_hunter : z_ok mX3_hunter := ⟨z_in (z_t1 223 (by decide +kernel)) rfl, z_iX3, by decide, by decide, by decide⟩
theorem pX3_hunter : z_np mX3_hunter 2 := fun sig hs => by
  have e : (parseMethodDescriptor yX3_hunter.desc).map (fun d => d.parameters.length) = some 2 := by decide +kernel
  rw [hs] at e
  exact (Option.some.inj e).symm
theorem vX3_hunter : z_okV mX3_hunter 3 2 := ⟨oX3_hunter, pX3_hunter, z_in (z_t1 221 (by decide +kernel)) rfl, z_in (z_t1 222 (by decide +kernel)) rfl, _, _, rfl⟩
abbrev mX3_fear : zM := (yX3_fear, cX3_fear, 3, Option.some Jvm.ClassFile.FieldType.int, 1)
theorem oX3_fear : z_ok mX3_fear := ⟨z_in (z_t1 230 (by decide +kernel)) rfl, z_iX3, by decide, by decide, by decide⟩
theorem pX3_fear : z_np mX3_fear 1 := fun sig hs => by
  have e : (parseMethodDescriptor yX3_fear.desc).map (fun d => d.parameters.length) = some 1 := by decide +kernel
  rw [hs] at e
  exact (Option.some.inj e).symm
theorem vX3_fear : z_okV mX3_fear 3 1 := ⟨oX3_fear, pX3_fear, z_in (z_t1 228 (by decide +kernel)) rfl, z_in (z_t1 229 (by decide +kernel)) rfl, _, _, rfl⟩
abbrev mX3_bell : zM := (yX3_bell, cX3_bell, 3, Option.some Jvm.ClassFile.FieldType.int, 1)
theorem oX3_bell : z_ok mX3_bell := ⟨z_in (z_t1 234 (by decide +kernel)) rfl, z_iX3, by decide, by decide, by decide⟩
theorem pX3_bell : z_np mX3_bell 2 := fun sig hs => by
  have e : (parseMethodDescriptor yX3_bell.desc).map (fun d => d.parameters.length) = some 2 := by decide +kernel
  rw [hs] at e
  exact (Option.some.inj e).symm
theorem vX3_bell : z_okV mX3_bell 3 2 := ⟨oX3_bell, pX3_bell, z_in (z_t1 232 (by decide +kernel)) rfl, z_in (z_t1 233 (by decide +kernel)) rfl, _, _, rfl⟩
abbrev mX3_of : zM := (yX3_of, cX3_of, 3, Option.some Jvm.ClassFile.FieldType.int, 4)
theorem oX3_of : z_ok mX3_of := ⟨z_in (z_t2 5 (by decide +kernel)) rfl, z_iX3, by decide, by decide, by decide⟩
theorem pX3_of : z_np mX3_of 2 := fun sig hs => by
  have e : (parseMethodDescriptor yX3_of.desc).map (fun d => d.parameters.length) = some 2 := by decide +kernel
  rw [hs] at e
  exact (Option.some.inj e).symm
theorem vX3_of : z_okV mX3_of 3 2 := ⟨oX3_of, pX3_of, z_in (z_t2 3 (by decide +kernel)) rfl, z_in (z_t2 4 (by decide +kernel)) rfl, _, _, rfl⟩
abbrev mX3_change : zM := (yX3_change, cX3_change, 5, Option.some Jvm.ClassFile.FieldType.int, 2)
theorem oX3_change : z_ok mX3_change := ⟨z_in (z_t2 48 (by decide +kernel)) rfl, z_iX3, by decide, by decide, by decide⟩
theorem pX3_change : z_np mX3_change 3 := fun sig hs => by
  have e : (parseMethodDescriptor yX3_change.desc).map (fun d => d.parameters.length) = some 3 := by decide +kernel
  rw [hs] at e
  exact (Option.some.inj e).symm
theorem vX3_change : z_okV mX3_change 3 3 := ⟨oX3_change, pX3_change, z_in (z_t2 46 (by decide +kernel)) rfl, z_in (z_t2 47 (by decide +kernel)) rfl, _, _, rfl⟩
abbrev mX3_worth : zM := (yX3_worth, cX3_worth, 3, Option.some Jvm.ClassFile.FieldType.int, 3)
theorem oX3_worth : z_ok mX3_worth := ⟨z_in (z_t2 65 (by decide +kernel)) rfl, z_iX3, by decide, by decide, by decide⟩
theorem pX3_worth : z_np mX3_worth 2 := fun sig hs => by
  have e : (parseMethodDescriptor yX3_worth.desc).map (fun d => d.parameters.length) = some 2 := by decide +kernel
  rw [hs] at e
  exact (Option.some.inj e).symm
theorem vX3_worth : z_okV mX3_worth 3 2 := ⟨oX3_worth, pX3_worth, z_in (z_t2 63 (by decide +kernel)) rfl, z_in (z_t2 64 (by decide +kernel)) rfl, _, _, rfl⟩
abbrev mX3_go : zM := (yX3_go, cX3_go, 3, Option.some Jvm.ClassFile.FieldType.int, 5)
theorem oX3_go : z_ok mX3_go := ⟨z_in (z_t2 69 (by decide +kernel)) rfl, z_iX3, by decide, by decide, by decide⟩
theorem pX3_go : z_np mX3_go 1 := fun sig hs => by
  have e : (parseMethodDescriptor yX3_go.desc).map (fun d => d.parameters.length) = some 1 := by decide +kernel
  rw [hs] at e
  exact (Option.some.inj e).symm
theorem vX3_go : z_okV mX3_go 3 1 := ⟨oX3_go, pX3_go, z_in (z_t2 67 (by decide +kernel)) rfl, z_in (z_t2 68 (by decide +kernel)) rfl, _, _, rfl⟩
abbrev mX3_now : zM := (yX3_now, cX3_now, 2, Option.some Jvm.ClassFile.FieldType.int, 2)
theorem oX3_now : z_ok mX3_now := ⟨z_in (z_t2 87 (by decide +kernel)) rfl, z_iX3, by decide, by decide, by decide⟩
theorem pX3_now : z_np mX3_now 1 := fun sig hs => by
  have e : (parseMethodDescriptor yX3_now.desc).map (fun d => d.parameters.length) = some 1 := by decide +kernel
  rw [hs] at e
  exact (Option.some.inj e).symm
theorem vX3_now : z_okV mX3_now 3 1 := ⟨oX3_now, pX3_now, z_in (z_t2 85 (by decide +kernel)) rfl, z_in (z_t2 86 (by decide +kernel)) rfl, _, _, rfl⟩
abbrev mX3_loud : zM := (yX3_loud, cX3_loud, 3, Option.some Jvm.ClassFile.FieldType.int, 2)
theorem oX3_loud : z_ok mX3_loud := ⟨z_in (z_t2 101 (by decide +kernel)) rfl, z_iX3, by decide, by decide, by decide⟩
theorem pX3_loud : z_np mX3_loud 2 := fun sig hs => by
  have e : (parseMethodDescriptor yX3_loud.desc).map (fun d => d.parameters.length) = some 2 := by decide +kernel
  rw [hs] at e
  exact (Option.some.inj e).symm
theorem vX3_loud : z_okV mX3_loud 3 2 := ⟨oX3_loud, pX3_loud, z_in (z_t2 99 (by decide +kernel)) rfl, z_in (z_t2 100 (by decide +kernel)) rfl, _, _, rfl⟩
abbrev mX3_ahead : zM := (yX3_ahead, cX3_ahead, 3, Option.some Jvm.ClassFile.FieldType.int, 6)
theorem oX3_ahead : z_ok mX3_ahead := ⟨z_in (z_t2 107 (by decide +kernel)) rfl, z_iX3, by decide, by decide, by decide⟩
theorem pX3_ahead : z_np mX3_ahead 2 := fun sig hs => by
  have e : (parseMethodDescriptor yX3_ahead.desc).map (fun d => d.parameters.length) = some 2 := by decide +kernel
  rw [hs] at e
  exact (Option.some.inj e).symm
theorem vX3_ahead : z_okV mX3_ahead 3 2 := ⟨oX3_ahead, pX3_ahead, z_in (z_t2 105 (by decide +kernel)) rfl, z_in (z_t2 106 (by decide +kernel)) rfl, _, _, rfl⟩
abbrev mX3_when : zM := (yX3_when, cX3_when, 3, Option.some Jvm.ClassFile.FieldType.int, 6)
theorem oX3_when : z_ok mX3_when := ⟨z_in (z_t2 123 (by decide +kernel)) rfl, z_iX3, by decide, by decide, by decide⟩
theorem pX3_when : z_np mX3_when 1 := fun sig hs => by
  have e : (parseMethodDescriptor yX3_when.desc).map (fun d => d.parameters.length) = some 1 := by decide +kernel
  rw [hs] at e
  exact (Option.some.inj e).symm
theorem vX3_when : z_okV mX3_when 3 1 := ⟨oX3_when, pX3_when, z_in (z_t2 121 (by decide +kernel)) rfl, z_in (z_t2 122 (by decide +kernel)) rfl, _, _, rfl⟩
abbrev mX3_still : zM := (yX3_still, cX3_still, 2, Option.some Jvm.ClassFile.FieldType.int, 5)
theorem oX3_still : z_ok mX3_still := ⟨z_in (z_t2 131 (by decide +kernel)) rfl, z_iX3, by decide, by decide, by decide⟩
theorem pX3_still : z_np mX3_still 0 := fun sig hs => by
  have e : (parseMethodDescriptor yX3_still.desc).map (fun d => d.parameters.length) = some 0 := by decide +kernel
  rw [hs] at e
  exact (Option.some.inj e).symm
theorem vX3_still : z_okV mX3_still 3 0 := ⟨oX3_still, pX3_still, z_in (z_t2 129 (by decide +kernel)) rfl, z_in (z_t2 130 (by decide +kernel)) rfl, _, _, rfl⟩
abbrev mX3_caught : zM := (yX3_caught, cX3_caught, 2, Option.some Jvm.ClassFile.FieldType.int, 6)
theorem oX3_caught : z_ok mX3_caught := ⟨z_in (z_t2 135 (by decide +kernel)) rfl, z_iX3, by decide, by decide, by decide⟩
theorem pX3_caught : z_np mX3_caught 1 := fun sig hs => by
  have e : (parseMethodDescriptor yX3_caught.desc).map (fun d => d.parameters.length) = some 1 := by decide +kernel
  rw [hs] at e
  exact (Option.some.inj e).symm
theorem vX3_caught : z_okV mX3_caught 3 1 := ⟨oX3_caught, pX3_caught, z_in (z_t2 133 (by decide +kernel)) rfl, z_in (z_t2 134 (by decide +kernel)) rfl, _, _, rfl⟩
abbrev mX3_netFor : zM := (yX3_netFor, cX3_netFor, 9, Option.some Jvm.ClassFile.FieldType.int, 6)
theorem oX3_netFor : z_ok mX3_netFor := ⟨z_in (z_t2 139 (by decide +kernel)) rfl, z_iX3, by decide, by decide, by decide⟩
theorem pX3_netFor : z_np mX3_netFor 1 := fun sig hs => by
  have e : (parseMethodDescriptor yX3_netFor.desc).map (fun d => d.parameters.length) = some 1 := by decide +kernel
  rw [hs] at e
  exact (Option.some.inj e).symm
theorem vX3_netFor : z_okV mX3_netFor 3 1 := ⟨oX3_netFor, pX3_netFor, z_in (z_t2 137 (by decide +kernel)) rfl, z_in (z_t2 138 (by decide +kernel)) rfl, _, _, rfl⟩
abbrev mX3_best : zM := (yX3_best, cX3_best, 9, Option.some Jvm.ClassFile.FieldType.int, 6)
theorem oX3_best : z_ok mX3_best := ⟨z_in (z_t2 144 (by decide +kernel)) rfl, z_iX3, by decide, by decide, by decide⟩
theorem pX3_best : z_np mX3_best 1 := fun sig hs => by
  have e : (parseMethodDescriptor yX3_best.desc).map (fun d => d.parameters.length) = some 1 := by decide +kernel
  rw [hs] at e
  exact (Option.some.inj e).symm
theorem vX3_best : z_okV mX3_best 3 1 := ⟨oX3_best, pX3_best, z_in (z_t2 142 (by decide +kernel)) rfl, z_in (z_t2 143 (by decide +kernel)) rfl, _, _, rfl⟩
abbrev mX3_drive : zM := (yX3_drive, cX3_drive, 7, Option.some Jvm.ClassFile.FieldType.int, 6)
theorem oX3_drive : z_ok mX3_drive := ⟨z_in (z_t2 148 (by decide +kernel)) rfl, z_iX3, by decide, by decide, by decide⟩
theorem pX3_drive : z_np mX3_drive 2 := fun sig hs => by
  have e : (parseMethodDescriptor yX3_drive.desc).map (fun d => d.parameters.length) = some 2 := by decide +kernel
  rw [hs] at e
  exact (Option.some.inj e).symm
theorem vX3_drive : z_okV mX3_drive 3 2 := ⟨oX3_drive, pX3_drive, z_in (z_t2 146 (by decide +kernel)) rfl, z_in (z_t2 147 (by decide +kernel)) rfl, _, _, rfl⟩
abbrev mX3_kindFor : zM := (yX3_kindFor, cX3_kindFor, 7, Option.some Jvm.ClassFile.FieldType.int, 6)
theorem oX3_kindFor : z_ok mX3_kindFor := ⟨z_in (z_t2 152 (by decide +kernel)) rfl, z_iX3, by decide, by decide, by decide⟩
theorem pX3_kindFor : z_np mX3_kindFor 1 := fun sig hs => by
  have e : (parseMethodDescriptor yX3_kindFor.desc).map (fun d => d.parameters.length) = some 1 := by decide +kernel
  rw [hs] at e
  exact (Option.some.inj e).symm
theorem vX3_kindFor : z_okV mX3_kindFor 3 1 := ⟨oX3_kindFor, pX3_kindFor, z_in (z_t2 150 (by decide +kernel)) rfl, z_in (z_t2 151 (by decide +kernel)) rfl, _, _, rfl⟩
abbrev mX3_stands : zM := (yX3_stands, cX3_stands, 4, Option.some Jvm.ClassFile.FieldType.int, 4)
theorem oX3_stands : z_ok mX3_stands := ⟨z_in (z_t2 156 (by decide +kernel)) rfl, z_iX3, by decide, by decide, by decide⟩
theorem pX3_stands : z_np mX3_stands 2 := fun sig hs => by
  have e : (parseMethodDescriptor yX3_stands.desc).map (fun d => d.parameters.length) = some 2 := by decide +kernel
  rw [hs] at e
  exact (Option.some.inj e).symm
theorem vX3_stands : z_okV mX3_stands 3 2 := ⟨oX3_stands, pX3_stands, z_in (z_t2 154 (by decide +kernel)) rfl, z_in (z_t2 155 (by decide +kernel)) rfl, _, _, rfl⟩
abbrev mX3_where : zM := (yX3_where, cX3_where, 7, Option.some Jvm.ClassFile.FieldType.int, 4)
theorem oX3_where : z_ok mX3_where := ⟨z_in (z_t2 185 (by decide +kernel)) rfl, z_iX3, by decide, by decide, by decide⟩
theorem pX3_where : z_np mX3_where 2 := fun sig hs => by
  have e : (parseMethodDescriptor yX3_where.desc).map (fun d => d.parameters.length) = some 2 := by decide +kernel
  rw [hs] at e
  exact (Option.some.inj e).symm
theorem vX3_where : z_okV mX3_where 3 2 := ⟨oX3_where, pX3_where, z_in (z_t2 183 (by decide +kernel)) rfl, z_in (z_t2 184 (by decide +kernel)) rfl, _, _, rfl⟩
abbrev mX3_ear : zM := (yX3_ear, cX3_ear, 10, Option.some Jvm.ClassFile.FieldType.int, 4)
theorem oX3_ear : z_ok mX3_ear := ⟨z_in (z_t2 189 (by decide +kernel)) rfl, z_iX3, by decide, by decide, by decide⟩
theorem pX3_ear : z_np mX3_ear 2 := fun sig hs => by
  have e : (parseMethodDescriptor yX3_ear.desc).map (fun d => d.parameters.length) = some 2 := by decide +kernel
  rw [hs] at e
  exact (Option.some.inj e).symm
theorem vX3_ear : z_okV mX3_ear 3 2 := ⟨oX3_ear, pX3_ear, z_in (z_t2 187 (by decide +kernel)) rfl, z_in (z_t2 188 (by decide +kernel)) rfl, _, _, rfl⟩
abbrev mX3_whose : zM := (yX3_whose, cX3_whose, 5, Option.some Jvm.ClassFile.FieldType.int, 3)
theorem oX3_whose : z_ok mX3_whose := ⟨z_in (z_t2 197 (by decide +kernel)) rfl, z_iX3, by decide, by decide, by decide⟩
theorem pX3_whose : z_np mX3_whose 1 := fun sig hs => by
  have e : (parseMethodDescriptor yX3_whose.desc).map (fun d => d.parameters.length) = some 1 := by decide +kernel
  rw [hs] at e
  exact (Option.some.inj e).symm
theorem vX3_whose : z_okV mX3_whose 3 1 := ⟨oX3_whose, pX3_whose, z_in (z_t2 195 (by decide +kernel)) rfl, z_in (z_t2 196 (by decide +kernel)) rfl, _, _, rfl⟩
abbrev mX3_stock : zM := (yX3_stock, cX3_stock, 4, Option.some Jvm.ClassFile.FieldType.int, 2)
theorem oX3_stock : z_ok mX3_stock := ⟨z_in (z_t2 202 (by decide +kernel)) rfl, z_iX3, by decide, by decide, by decide⟩
theorem pX3_stock : z_np mX3_stock 3 := fun sig hs => by
  have e : (parseMethodDescriptor yX3_stock.desc).map (fun d => d.parameters.length) = some 3 := by decide +kernel
  rw [hs] at e
  exact (Option.some.inj e).symm
theorem vX3_stock : z_okV mX3_stock 3 3 := ⟨oX3_stock, pX3_stock, z_in (z_t2 200 (by decide +kernel)) rfl, z_in (z_t2 201 (by decide +kernel)) rfl, _, _, rfl⟩
abbrev mX3_lasts : zM := (yX3_lasts, cX3_lasts, 7, Option.some Jvm.ClassFile.FieldType.int, 2)
theorem oX3_lasts : z_ok mX3_lasts := ⟨z_in (z_t2 213 (by decide +kernel)) rfl, z_iX3, by decide, by decide, by decide⟩
theorem pX3_lasts : z_np mX3_lasts 2 := fun sig hs => by
  have e : (parseMethodDescriptor yX3_lasts.desc).map (fun d => d.parameters.length) = some 2 := by decide +kernel
  rw [hs] at e
  exact (Option.some.inj e).symm
theorem vX3_lasts : z_okV mX3_lasts 3 2 := ⟨oX3_lasts, pX3_lasts, z_in (z_t2 211 (by decide +kernel)) rfl, z_in (z_t2 212 (by decide +kernel)) rfl, _, _, rfl⟩
abbrev mX3_ring : zM := (yX3_ring, cX3_ring, 1, Option.some Jvm.ClassFile.FieldType.int, 4)
theorem oX3_ring : z_ok mX3_ring := ⟨z_in (z_t2 217 (by decide +kernel)) rfl, z_iX3, by decide, by decide, by decide⟩
theorem pX3_ring : z_np mX3_ring 0 := fun sig hs => by
  have e : (parseMethodDescriptor yX3_ring.desc).map (fun d => d.parameters.length) = some 0 := by decide +kernel
  rw [hs] at e
  exact (Option.some.inj e).symm
theorem vX3_ring : z_okV mX3_ring 3 0 := ⟨oX3_ring, pX3_ring, z_in (z_t2 215 (by decide +kernel)) rfl, z_in (z_t2 216 (by decide +kernel)) rfl, _, _, rfl⟩
abbrev mX3_rings : zM := (yX3_rings, cX3_rings, 1, Option.some Jvm.ClassFile.FieldType.int, 4)
theorem oX3_rings : z_ok mX3_rings := ⟨z_in (z_t2 233 (by decide +kernel)) rfl, z_iX3, by decide, by decide, by decide⟩
theorem pX3_rings : z_np mX3_rings 0 := fun sig hs => by
  have e : (parseMethodDescriptor yX3_rings.desc).map (fun d => d.parameters.length) = some 0 := by decide +kernel
  rw [hs] at e
  exact (Option.some.inj e).symm
theorem vX3_rings : z_okV mX3_rings 3 0 := ⟨oX3_rings, pX3_rings, z_in (z_t2 231 (by decide +kernel)) rfl, z_in (z_t2 232 (by decide +kernel)) rfl, _, _, rfl⟩
abbrev mX3_peals : zM := (yX3_peals, cX3_peals, 3, Option.some Jvm.ClassFile.FieldType.int, 3)
theorem oX3_peals : z_ok mX3_peals := ⟨z_in (z_t2 237 (by decide +kernel)) rfl, z_iX3, by decide, by decide, by decide⟩
theorem pX3_peals : z_np mX3_peals 0 := fun sig hs => by
  have e : (parseMethodDescriptor yX3_peals.desc).map (fun d => d.parameters.length) = some 0 := by decide +kernel
  rw [hs] at e
  exact (Option.some.inj e).symm
theorem vX3_peals : z_okV mX3_peals 3 0 := ⟨oX3_peals, pX3_peals, z_in (z_t2 235 (by decide +kernel)) rfl, z_in (z_t2 236 (by decide +kernel)) rfl, _, _, rfl⟩
abbrev mX3_wanted : zM := (yX3_wanted, cX3_wanted, 6, Option.some Jvm.ClassFile.FieldType.int, 2)
theorem oX3_wanted : z_ok mX3_wanted := ⟨z_in (z_t3 2 (by decide +kernel)) rfl, z_iX3, by decide, by decide, by decide⟩
theorem pX3_wanted : z_np mX3_wanted 0 := fun sig hs => by
  have e : (parseMethodDescriptor yX3_wanted.desc).map (fun d => d.parameters.length) = some 0 := by decide +kernel
  rw [hs] at e
  exact (Option.some.inj e).symm
theorem vX3_wanted : z_okV mX3_wanted 3 0 := ⟨oX3_wanted, pX3_wanted, z_in (z_t3 0 (by decide +kernel)) rfl, z_in (z_t3 1 (by decide +kernel)) rfl, _, _, rfl⟩
abbrev mX3_changes : zM := (yX3_changes, cX3_changes, 5, Option.some Jvm.ClassFile.FieldType.long, 1)
theorem oX3_changes : z_ok mX3_changes := ⟨z_in (z_t3 11 (by decide +kernel)) rfl, z_iX3, by decide, by decide, by decide⟩
theorem pX3_changes : z_np mX3_changes 1 := fun sig hs => by
  have e : (parseMethodDescriptor yX3_changes.desc).map (fun d => d.parameters.length) = some 1 := by decide +kernel
  rw [hs] at e
  exact (Option.some.inj e).symm
theorem vX3_changes : z_okV mX3_changes 3 1 := ⟨oX3_changes, pX3_changes, z_in (z_t3 9 (by decide +kernel)) rfl, z_in (z_t3 10 (by decide +kernel)) rfl, _, _, rfl⟩
abbrev mX3_thunder : zM := (yX3_thunder, cX3_thunder, 3, Option.some Jvm.ClassFile.FieldType.int, 5)
theorem oX3_thunder : z_ok mX3_thunder := ⟨z_in (z_t3 15 (by decide +kernel)) rfl, z_iX3, by decide, by decide, by decide⟩
theorem pX3_thunder : z_np mX3_thunder 1 := fun sig hs => by
  have e : (parseMethodDescriptor yX3_thunder.desc).map (fun d => d.parameters.length) = some 1 := by decide +kernel
  rw [hs] at e
  exact (Option.some.inj e).symm
theorem vX3_thunder : z_okV mX3_thunder 3 1 := ⟨oX3_thunder, pX3_thunder, z_in (z_t3 13 (by decide +kernel)) rfl, z_in (z_t3 14 (by decide +kernel)) rfl, _, _, rfl⟩
abbrev mX3_seed : zM := (yX3_seed, cX3_seed, 3, Option.some Jvm.ClassFile.FieldType.int, 0)
theorem oX3_seed : z_ok mX3_seed := ⟨z_in (z_t3 28 (by decide +kernel)) rfl, z_iX3, by decide, by decide, by decide⟩
theorem pX3_seed : z_np mX3_seed 1 := fun sig hs => by
  have e : (parseMethodDescriptor yX3_seed.desc).map (fun d => d.parameters.length) = some 1 := by decide +kernel
  rw [hs] at e
  exact (Option.some.inj e).symm
theorem vX3_seed : z_okV mX3_seed 3 1 := ⟨oX3_seed, pX3_seed, z_in (z_t3 26 (by decide +kernel)) rfl, z_in (z_t3 27 (by decide +kernel)) rfl, _, _, rfl⟩
abbrev mX3_feed : zM := (yX3_feed, cX3_feed, 4, Option.some Jvm.ClassFile.FieldType.int, 1)
theorem oX3_feed : z_ok mX3_feed := ⟨z_in (z_t3 32 (by decide +kernel)) rfl, z_iX3, by decide, by decide, by decide⟩
theorem pX3_feed : z_np mX3_feed 2 := fun sig hs => by
  have e : (parseMethodDescriptor yX3_feed.desc).map (fun d => d.parameters.length) = some 2 := by decide +kernel
  rw [hs] at e
  exact (Option.some.inj e).symm
theorem vX3_feed : z_okV mX3_feed 3 2 := ⟨oX3_feed, pX3_feed, z_in (z_t3 30 (by decide +kernel)) rfl, z_in (z_t3 31 (by decide +kernel)) rfl, _, _, rfl⟩
abbrev mX3_wipe : zM := (yX3_wipe, cX3_wipe, 2, Option.some Jvm.ClassFile.FieldType.int, 0)
theorem oX3_wipe : z_ok mX3_wipe := ⟨z_in (z_t3 40 (by decide +kernel)) rfl, z_iX3, by decide, by decide, by decide⟩
theorem pX3_wipe : z_np mX3_wipe 0 := fun sig hs => by
  have e : (parseMethodDescriptor yX3_wipe.desc).map (fun d => d.parameters.length) = some 0 := by decide +kernel
  rw [hs] at e
  exact (Option.some.inj e).symm
theorem vX3_wipe : z_okV mX3_wipe 3 0 := ⟨oX3_wipe, pX3_wipe, z_in (z_t3 38 (by decide +kernel)) rfl, z_in (z_t3 39 (by decide +kernel)) rfl, _, _, rfl⟩
abbrev mX3_text : zM := (yX3_text, cX3_text, 2, Option.some Jvm.ClassFile.FieldType.int, 11)
theorem oX3_text : z_ok mX3_text := ⟨z_in (z_t3 44 (by decide +kernel)) rfl, z_iX3, by decide, by decide, by decide⟩
theorem pX3_text : z_np mX3_text 0 := fun sig hs => by
  have e : (parseMethodDescriptor yX3_text.desc).map (fun d => d.parameters.length) = some 0 := by decide +kernel
  rw [hs] at e
  exact (Option.some.inj e).symm
theorem vX3_text : z_okV mX3_text 3 0 := ⟨oX3_text, pX3_text, z_in (z_t3 42 (by decide +kernel)) rfl, z_in (z_t3 43 (by decide +kernel)) rfl, _, _, rfl⟩
abbrev mX3_hold : zM := (yX3_hold, cX3_hold, 3, Option.some Jvm.ClassFile.FieldType.int, 1)
theorem oX3_hold : z_ok mX3_hold := ⟨z_in (z_t3 164 (by decide +kernel)) rfl, z_iX3, by decide, by decide, by decide⟩
theorem pX3_hold : z_np mX3_hold 2 := fun sig hs => by
  have e : (parseMethodDescriptor yX3_hold.desc).map (fun d => d.parameters.length) = some 2 := by decide +kernel
  rw [hs] at e
  exact (Option.some.inj e).symm
theorem vX3_hold : z_okV mX3_hold 3 2 := ⟨oX3_hold, pX3_hold, z_in (z_t3 162 (by decide +kernel)) rfl, z_in (z_t3 163 (by decide +kernel)) rfl, _, _, rfl⟩
abbrev mX3_as : zM := (yX3_as, cX3_as, 4, Option.some Jvm.ClassFile.FieldType.int, 1)
theorem oX3_as : z_ok mX3_as := ⟨z_in (z_t3 171 (by decide +kernel)) rfl, z_iX3, by decide, by decide, by decide⟩
theorem pX3_as : z_np mX3_as 2 := fun sig hs => by
  have e : (parseMethodDescriptor yX3_as.desc).map (fun d => d.parameters.length) = some 2 := by decide +kernel
  rw [hs] at e
  exact (Option.some.inj e).symm
theorem vX3_as : z_okV mX3_as 3 2 := ⟨oX3_as, pX3_as, z_in (z_t3 169 (by decide +kernel)) rfl, z_in (z_t3 170 (by decide +kernel)) rfl, _, _, rfl⟩
abbrev mX3_sheet : zM := (yX3_sheet, cX3_sheet, 4, Option.some Jvm.ClassFile.FieldType.int, 1)
theorem oX3_sheet : z_ok mX3_sheet := ⟨z_in (z_t3 176 (by decide +kernel)) rfl, z_iX3, by decide, by decide, by decide⟩
theorem pX3_sheet : z_np mX3_sheet 3 := fun sig hs => by
  have e : (parseMethodDescriptor yX3_sheet.desc).map (fun d => d.parameters.length) = some 3 := by decide +kernel
  rw [hs] at e
  exact (Option.some.inj e).symm
theorem vX3_sheet : z_okV mX3_sheet 3 3 := ⟨oX3_sheet, pX3_sheet, z_in (z_t3 174 (by decide +kernel)) rfl, z_in (z_t3 175 (by decide +kernel)) rfl, _, _, rfl⟩
abbrev mX3_write : zM := (yX3_write, cX3_write, 4, Option.some Jvm.ClassFile.FieldType.int, 1)
theorem oX3_write : z_ok mX3_write := ⟨z_in (z_t3 184 (by decide +kernel)) rfl, z_iX3, by decide, by decide, by decide⟩
theorem pX3_write : z_np mX3_write 3 := fun sig hs => by
  have e : (parseMethodDescriptor yX3_write.desc).map (fun d => d.parameters.length) = some 3 := by decide +kernel
  rw [hs] at e
  exact (Option.some.inj e).symm
theorem vX3_write : z_okV mX3_write 3 3 := ⟨oX3_write, pX3_write, z_in (z_t3 182 (by decide +kernel)) rfl, z_in (z_t3 183 (by decide +kernel)) rfl, _, _, rfl⟩
abbrev mX3_copy : zM := (yX3_copy, cX3_copy, 8, Option.some Jvm.ClassFile.FieldType.int, 1)
theorem oX3_copy : z_ok mX3_copy := ⟨z_in (z_t3 192 (by decide +kernel)) rfl, z_iX3, by decide, by decide, by decide⟩
theorem pX3_copy : z_np mX3_copy 5 := fun sig hs => by
  have e : (parseMethodDescriptor yX3_copy.desc).map (fun d => d.parameters.length) = some 5 := by decide +kernel
  rw [hs] at e
  exact (Option.some.inj e).symm
theorem vX3_copy : z_okV mX3_copy 3 5 := ⟨oX3_copy, pX3_copy, z_in (z_t3 190 (by decide +kernel)) rfl, z_in (z_t3 191 (by decide +kernel)) rfl, _, _, rfl⟩
abbrev mX3_load : zM := (yX3_load, cX3_load, 4, Option.some Jvm.ClassFile.FieldType.int, 1)
theorem oX3_load : z_ok mX3_load := ⟨z_in (z_t3 201 (by decide +kernel)) rfl, z_iX3, by decide, by decide, by decide⟩
theorem pX3_load : z_np mX3_load 1 := fun sig hs => by
  have e : (parseMethodDescriptor yX3_load.desc).map (fun d => d.parameters.length) = some 1 := by decide +kernel
  rw [hs] at e
  exact (Option.some.inj e).symm
theorem vX3_load : z_okV mX3_load 3 1 := ⟨oX3_load, pX3_load, z_in (z_t3 199 (by decide +kernel)) rfl, z_in (z_t3 200 (by decide +kernel)) rfl, _, _, rfl⟩
abbrev mX3_judge : zM := (yX3_judge, cX3_judge, 5, Option.some Jvm.ClassFile.FieldType.int, 1)
theorem oX3_judge : z_ok mX3_judge := ⟨z_in (z_t3 205 (by decide +kernel)) rfl, z_iX3, by decide, by decide, by decide⟩
theorem pX3_judge : z_np mX3_judge 1 := fun sig hs => by
  have e : (parseMethodDescriptor yX3_judge.desc).map (fun d => d.parameters.length) = some 1 := by decide +kernel
  rw [hs] at e
  exact (Option.some.inj e).symm
theorem vX3_judge : z_okV mX3_judge 3 1 := ⟨oX3_judge, pX3_judge, z_in (z_t3 203 (by decide +kernel)) rfl, z_in (z_t3 204 (by decide +kernel)) rfl, _, _, rfl⟩
abbrev mX3_image : zM := (yX3_image, cX3_image, 1, Option.some Jvm.ClassFile.FieldType.int, 2)
theorem oX3_image : z_ok mX3_image := ⟨z_in (z_t3 213 (by decide +kernel)) rfl, z_iX3, by decide, by decide, by decide⟩
theorem pX3_image : z_np mX3_image 0 := fun sig hs => by
  have e : (parseMethodDescriptor yX3_image.desc).map (fun d => d.parameters.length) = some 0 := by decide +kernel
  rw [hs] at e
  exact (Option.some.inj e).symm
theorem vX3_image : z_okV mX3_image 3 0 := ⟨oX3_image, pX3_image, z_in (z_t3 211 (by decide +kernel)) rfl, z_in (z_t3 212 (by decide +kernel)) rfl, _, _, rfl⟩
abbrev mX3_undo : zM := (yX3_undo, cX3_undo, 1, Option.some Jvm.ClassFile.FieldType.int, 2)
theorem oX3_undo : z_ok mX3_undo := ⟨z_in (z_t3 217 (by decide +kernel)) rfl, z_iX3, by decide, by decide, by decide⟩
theorem pX3_undo : z_np mX3_undo 0 := fun sig hs => by
  have e : (parseMethodDescriptor yX3_undo.desc).map (fun d => d.parameters.length) = some 0 := by decide +kernel
  rw [hs] at e
  exact (Option.some.inj e).symm
theorem vX3_undo : z_okV mX3_undo 3 0 := ⟨oX3_undo, pX3_undo, z_in (z_t3 215 (by decide +kernel)) rfl, z_in (z_t3 216 (by decide +kernel)) rfl, _, _, rfl⟩
abbrev mX3_tear : zM := (yX3_tear, cX3_tear, 2, Option.some Jvm.ClassFile.FieldType.int, 0)
theorem oX3_tear : z_ok mX3_tear := ⟨z_in (z_t3 221 (by decide +kernel)) rfl, z_iX3, by decide, by decide, by decide⟩
theorem pX3_tear : z_np mX3_tear 0 := fun sig hs => by
  have e : (parseMethodDescriptor yX3_tear.desc).map (fun d => d.parameters.length) = some 0 := by decide +kernel
  rw [hs] at e
  exact (Option.some.inj e).symm
theorem vX3_tear : z_okV mX3_tear 3 0 := ⟨oX3_tear, pX3_tear, z_in (z_t3 219 (by decide +kernel)) rfl, z_in (z_t3 220 (by decide +kernel)) rfl, _, _, rfl⟩
abbrev mX3_count : zM := (yX3_count, cX3_count, 2, Option.some Jvm.ClassFile.FieldType.int, 2)
theorem oX3_count : z_ok mX3_count := ⟨z_in (z_t3 225 (by decide +kernel)) rfl, z_iX3, by decide, by decide, by decide⟩
theorem pX3_count : z_np mX3_count 1 := fun sig hs => by
  have e : (parseMethodDescriptor yX3_count.desc).map (fun d => d.parameters.length) = some 1 := by decide +kernel
  rw [hs] at e
  exact (Option.some.inj e).symm
theorem vX3_count : z_okV mX3_count 3 1 := ⟨oX3_count, pX3_count, z_in (z_t3 223 (by decide +kernel)) rfl, z_in (z_t3 224 (by decide +kernel)) rfl, _, _, rfl⟩
abbrev mX3_status : zM := (yX3_status, cX3_status, 4, Option.some Jvm.ClassFile.FieldType.int, 1)
theorem oX3_status : z_ok mX3_status := ⟨z_in (z_t3 233 (by decide +kernel)) rfl, z_iX3, by decide, by decide, by decide⟩
theorem pX3_status : z_np mX3_status 1 := fun sig hs => by
  have e : (parseMethodDescriptor yX3_status.desc).map (fun d => d.parameters.length) = some 1 := by decide +kernel
  rw [hs] at e
  exact (Option.some.inj e).symm
theorem vX3_status : z_okV mX3_status 3 1 := ⟨oX3_status, pX3_status, z_in (z_t3 231 (by decide +kernel)) rfl, z_in (z_t3 232 (by decide +kernel)) rfl, _, _, rfl⟩
abbrev mX3_finding : zM := (yX3_finding, cX3_finding, 2, Option.some Jvm.ClassFile.FieldType.int, 0)
theorem oX3_finding : z_ok mX3_finding := ⟨z_in (z_t1 176 (by decide +kernel)) rfl, z_iX3, by decide, by decide, by decide⟩
theorem pX3_finding : z_np mX3_finding 1 := fun sig hs => by
  have e : (parseMethodDescriptor yX3_finding.desc).map (fun d => d.parameters.length) = some 1 := by decide +kernel
  rw [hs] at e
  exact (Option.some.inj e).symm
theorem vX3_finding : z_okV mX3_finding 3 1 := ⟨oX3_finding, pX3_finding, z_in (z_t1 175 (by decide +kernel)) rfl, z_in (z_tp 0 (by decide +kernel)) rfl, _, _, rfl⟩
abbrev mX3_isBell : zM := (yX3_isBell, cX3_isBell, 2, Option.some Jvm.ClassFile.FieldType.boolean, 0)
theorem oX3_isBell : z_ok mX3_isBell := ⟨z_in (z_t2 9 (by decide +kernel)) rfl, z_iX3, by decide, by decide, by decide⟩
theorem pX3_isBell : z_np mX3_isBell 1 := fun sig hs => by
  have e : (parseMethodDescriptor yX3_isBell.desc).map (fun d => d.parameters.length) = some 1 := by decide +kernel
  rw [hs] at e
  exact (Option.some.inj e).symm
theorem vX3_isBell : z_okV mX3_isBell 3 1 := ⟨oX3_isBell, pX3_isBell, z_in (z_t2 8 (by decide +kernel)) rfl, z_in (z_tp 7 (by decide +kernel)) rfl, _, _, rfl⟩
abbrev mX3_isCell : zM := (yX3_isCell, cX3_isCell, 1, Option.some Jvm.ClassFile.FieldType.boolean, 0)
theorem oX3_isCell : z_ok mX3_isCell := ⟨z_in (z_t1 172 (by decide +kernel)) rfl, z_iX3, by decide, by decide, by decide⟩
theorem pX3_isCell : z_np mX3_isCell 1 := fun sig hs => by
  have e : (parseMethodDescriptor yX3_isCell.desc).map (fun d => d.parameters.length) = some 1 := by decide +kernel
  rw [hs] at e
  exact (Option.some.inj e).symm
theorem sX3_isCell : z_okS mX3_isCell 1 := ⟨oX3_isCell, pX3_isCell, z_in (z_t1 171 (by decide +kernel)) rfl⟩
abbrev mX3_isHunter : zM := (yX3_isHunter, cX3_isHunter, 1, Option.some Jvm.ClassFile.FieldType.boolean, 0)
theorem oX3_isHunter : z_ok mX3_isHunter := ⟨z_in (z_t1 226 (by decide +kernel)) rfl, z_iX3, by decide, by decide, by decide⟩
theorem pX3_isHunter : z_np mX3_isHunter 1 := fun sig hs => by
  have e : (parseMethodDescriptor yX3_isHunter.desc).map (fun d => d.parameters.length) = some 1 := by decide +kernel
  rw [hs] at e
  exact (Option.some.inj e).symm
theorem sX3_isHunter : z_okS mX3_isHunter 1 := ⟨oX3_isHunter, pX3_isHunter, z_in (z_t1 225 (by decide +kernel)) rfl⟩
abbrev mX3_isKind : zM := (yX3_isKind, cX3_isKind, 1, Option.some Jvm.ClassFile.FieldType.boolean, 0)
theorem oX3_isKind : z_ok mX3_isKind := ⟨z_in (z_t1 237 (by decide +kernel)) rfl, z_iX3, by decide, by decide, by decide⟩
theorem pX3_isKind : z_np mX3_isKind 1 := fun sig hs => by
  have e : (parseMethodDescriptor yX3_isKind.desc).map (fun d => d.parameters.length) = some 1 := by decide +kernel
  rw [hs] at e
  exact (Option.some.inj e).symm
theorem sX3_isKind : z_okS mX3_isKind 1 := ⟨oX3_isKind, pX3_isKind, z_in (z_t1 236 (by decide +kernel)) rfl⟩
abbrev mX3_isNote : zM := (yX3_isNote, cX3_isNote, 1, Option.some Jvm.ClassFile.FieldType.boolean, 0)
theorem oX3_isNote : z_ok mX3_isNote := ⟨z_in (z_t2 54 (by decide +kernel)) rfl, z_iX3, by decide, by decide, by decide⟩
theorem pX3_isNote : z_np mX3_isNote 1 := fun sig hs => by
  have e : (parseMethodDescriptor yX3_isNote.desc).map (fun d => d.parameters.length) = some 1 := by decide +kernel
  rw [hs] at e
  exact (Option.some.inj e).symm
theorem sX3_isNote : z_okS mX3_isNote 1 := ⟨oX3_isNote, pX3_isNote, z_in (z_t2 53 (by decide +kernel)) rfl⟩
abbrev mX3_isWeight : zM := (yX3_isWeight, cX3_isWeight, 1, Option.some Jvm.ClassFile.FieldType.boolean, 0)
theorem oX3_isWeight : z_ok mX3_isWeight := ⟨z_in (z_t2 57 (by decide +kernel)) rfl, z_iX3, by decide, by decide, by decide⟩
theorem pX3_isWeight : z_np mX3_isWeight 1 := fun sig hs => by
  have e : (parseMethodDescriptor yX3_isWeight.desc).map (fun d => d.parameters.length) = some 1 := by decide +kernel
  rw [hs] at e
  exact (Option.some.inj e).symm
theorem sX3_isWeight : z_okS mX3_isWeight 1 := ⟨oX3_isWeight, pX3_isWeight, z_in (z_t2 56 (by decide +kernel)) rfl⟩
abbrev mX3_isStock : zM := (yX3_isStock, cX3_isStock, 1, Option.some Jvm.ClassFile.FieldType.boolean, 0)
theorem oX3_isStock : z_ok mX3_isStock := ⟨z_in (z_t2 205 (by decide +kernel)) rfl, z_iX3, by decide, by decide, by decide⟩
theorem pX3_isStock : z_np mX3_isStock 1 := fun sig hs => by
  have e : (parseMethodDescriptor yX3_isStock.desc).map (fun d => d.parameters.length) = some 1 := by decide +kernel
  rw [hs] at e
  exact (Option.some.inj e).symm
theorem sX3_isStock : z_okS mX3_isStock 1 := ⟨oX3_isStock, pX3_isStock, z_in (z_t2 204 (by decide +kernel)) rfl⟩
abbrev mX3_isSpot : zM := (yX3_isSpot, cX3_isSpot, 1, Option.some Jvm.ClassFile.FieldType.boolean, 0)
theorem oX3_isSpot : z_ok mX3_isSpot := ⟨z_in (z_t3 167 (by decide +kernel)) rfl, z_iX3, by decide, by decide, by decide⟩
theorem pX3_isSpot : z_np mX3_isSpot 1 := fun sig hs => by
  have e : (parseMethodDescriptor yX3_isSpot.desc).map (fun d => d.parameters.length) = some 1 := by decide +kernel
  rw [hs] at e
  exact (Option.some.inj e).symm
theorem sX3_isSpot : z_okS mX3_isSpot 1 := ⟨oX3_isSpot, pX3_isSpot, z_in (z_t3 166 (by decide +kernel)) rfl⟩
abbrev mX3_isSheet : zM := (yX3_isSheet, cX3_isSheet, 1, Option.some Jvm.ClassFile.FieldType.boolean, 0)
theorem oX3_isSheet : z_ok mX3_isSheet := ⟨z_in (z_t2 163 (by decide +kernel)) rfl, z_iX3, by decide, by decide, by decide⟩
theorem pX3_isSheet : z_np mX3_isSheet 1 := fun sig hs => by
  have e : (parseMethodDescriptor yX3_isSheet.desc).map (fun d => d.parameters.length) = some 1 := by decide +kernel
  rw [hs] at e
  exact (Option.some.inj e).symm
theorem sX3_isSheet : z_okS mX3_isSheet 1 := ⟨oX3_isSheet, pX3_isSheet, z_in (z_t2 162 (by decide +kernel)) rfl⟩
abbrev mX3_isTrait : zM := (yX3_isTrait, cX3_isTrait, 1, Option.some Jvm.ClassFile.FieldType.boolean, 0)
theorem oX3_isTrait : z_ok mX3_isTrait := ⟨z_in (z_t2 40 (by decide +kernel)) rfl, z_iX3, by decide, by decide, by decide⟩
theorem pX3_isTrait : z_np mX3_isTrait 1 := fun sig hs => by
  have e : (parseMethodDescriptor yX3_isTrait.desc).map (fun d => d.parameters.length) = some 1 := by decide +kernel
  rw [hs] at e
  exact (Option.some.inj e).symm
theorem sX3_isTrait : z_okS mX3_isTrait 1 := ⟨oX3_isTrait, pX3_isTrait, z_in (z_t2 39 (by decide +kernel)) rfl⟩
abbrev mX3_suits : zM := (yX3_suits, cX3_suits, 2, Option.some Jvm.ClassFile.FieldType.boolean, 1)
theorem oX3_suits : z_ok mX3_suits := ⟨z_in (z_t2 51 (by decide +kernel)) rfl, z_iX3, by decide, by decide, by decide⟩
theorem pX3_suits : z_np mX3_suits 2 := fun sig hs => by
  have e : (parseMethodDescriptor yX3_suits.desc).map (fun d => d.parameters.length) = some 2 := by decide +kernel
  rw [hs] at e
  exact (Option.some.inj e).symm
theorem sX3_suits : z_okS mX3_suits 2 := ⟨oX3_suits, pX3_suits, z_in (z_t2 50 (by decide +kernel)) rfl⟩
abbrev mX3_soundFault : zM := (yX3_soundFault, cX3_soundFault, 3, Option.some Jvm.ClassFile.FieldType.int, 2)
theorem oX3_soundFault : z_ok mX3_soundFault := ⟨z_in (z_t2 160 (by decide +kernel)) rfl, z_iX3, by decide, by decide, by decide⟩
theorem pX3_soundFault : z_np mX3_soundFault 2 := fun sig hs => by
  have e : (parseMethodDescriptor yX3_soundFault.desc).map (fun d => d.parameters.length) = some 2 := by decide +kernel
  rw [hs] at e
  exact (Option.some.inj e).symm
theorem vX3_soundFault : z_okV mX3_soundFault 3 2 := ⟨oX3_soundFault, pX3_soundFault, z_in (z_t2 159 (by decide +kernel)) rfl, z_in (z_tp 19 (by decide +kernel)) rfl, _, _, rfl⟩
abbrev mX3_standingCells : zM := (yX3_standingCells, cX3_standingCells, 5, Option.some Jvm.ClassFile.FieldType.long, 3)
theorem oX3_standingCells : z_ok mX3_standingCells := ⟨z_in (z_t2 175 (by decide +kernel)) rfl, z_iX3, by decide, by decide, by decide⟩
theorem pX3_standingCells : z_np mX3_standingCells 2 := fun sig hs => by
  have e : (parseMethodDescriptor yX3_standingCells.desc).map (fun d => d.parameters.length) = some 2 := by decide +kernel
  rw [hs] at e
  exact (Option.some.inj e).symm
theorem sX3_standingCells : z_okS mX3_standingCells 2 := ⟨oX3_standingCells, pX3_standingCells, z_in (z_t2 174 (by decide +kernel)) rfl⟩
abbrev mX3_leftAtWorst : zM := (yX3_leftAtWorst, cX3_leftAtWorst, 10, Option.some Jvm.ClassFile.FieldType.int, 2)
theorem oX3_leftAtWorst : z_ok mX3_leftAtWorst := ⟨z_in (z_t2 193 (by decide +kernel)) rfl, z_iX3, by decide, by decide, by decide⟩
theorem pX3_leftAtWorst : z_np mX3_leftAtWorst 3 := fun sig hs => by
  have e : (parseMethodDescriptor yX3_leftAtWorst.desc).map (fun d => d.parameters.length) = some 3 := by decide +kernel
  rw [hs] at e
  exact (Option.some.inj e).symm
theorem vX3_leftAtWorst : z_okV mX3_leftAtWorst 3 3 := ⟨oX3_leftAtWorst, pX3_leftAtWorst, z_in (z_t2 192 (by decide +kernel)) rfl, z_in (z_tp 23 (by decide +kernel)) rfl, _, _, rfl⟩
abbrev mX3_stockBehind : zM := (yX3_stockBehind, cX3_stockBehind, 5, Option.some Jvm.ClassFile.FieldType.int, 1)
theorem oX3_stockBehind : z_ok mX3_stockBehind := ⟨z_in (z_t2 208 (by decide +kernel)) rfl, z_iX3, by decide, by decide, by decide⟩
theorem pX3_stockBehind : z_np mX3_stockBehind 3 := fun sig hs => by
  have e : (parseMethodDescriptor yX3_stockBehind.desc).map (fun d => d.parameters.length) = some 3 := by decide +kernel
  rw [hs] at e
  exact (Option.some.inj e).symm
theorem sX3_stockBehind : z_okS mX3_stockBehind 3 := ⟨oX3_stockBehind, pX3_stockBehind, z_in (z_t2 207 (by decide +kernel)) rfl⟩
abbrev mX3_holds : zM := (yX3_holds, cX3_holds, 3, Option.some Jvm.ClassFile.FieldType.boolean, 0)
theorem oX3_holds : z_ok mX3_holds := ⟨z_in (z_t1 184 (by decide +kernel)) rfl, z_iX3, by decide, by decide, by decide⟩
theorem pX3_holds : z_np mX3_holds 2 := fun sig hs => by
  have e : (parseMethodDescriptor yX3_holds.desc).map (fun d => d.parameters.length) = some 2 := by decide +kernel
  rw [hs] at e
  exact (Option.some.inj e).symm
theorem sX3_holds : z_okS mX3_holds 2 := ⟨oX3_holds, pX3_holds, z_in (z_t1 183 (by decide +kernel)) rfl⟩
abbrev mX3_apart : zM := (yX3_apart, cX3_apart, 4, Option.some Jvm.ClassFile.FieldType.int, 0)
theorem oX3_apart : z_ok mX3_apart := ⟨z_in (z_t1 208 (by decide +kernel)) rfl, z_iX3, by decide, by decide, by decide⟩
theorem pX3_apart : z_np mX3_apart 2 := fun sig hs => by
  have e : (parseMethodDescriptor yX3_apart.desc).map (fun d => d.parameters.length) = some 2 := by decide +kernel
  rw [hs] at e
  exact (Option.some.inj e).symm
theorem sX3_apart : z_okS mX3_apart 2 := ⟨oX3_apart, pX3_apart, z_in (z_t1 207 (by decide +kernel)) rfl⟩
abbrev mX3_loudness : zM := (yX3_loudness, cX3_loudness, 2, Option.some Jvm.ClassFile.FieldType.int, 1)
theorem oX3_loudness : z_ok mX3_loudness := ⟨z_in (z_t1 211 (by decide +kernel)) rfl, z_iX3, by decide, by decide, by decide⟩
theorem pX3_loudness : z_np mX3_loudness 2 := fun sig hs => by
  have e : (parseMethodDescriptor yX3_loudness.desc).map (fun d => d.parameters.length) = some 2 := by decide +kernel
  rw [hs] at e
  exact (Option.some.inj e).symm
theorem sX3_loudness : z_okS mX3_loudness 2 := ⟨oX3_loudness, pX3_loudness, z_in (z_t1 210 (by decide +kernel)) rfl⟩
abbrev mX3_isUnder : zM := (yX3_isUnder, cX3_isUnder, 4, Option.some Jvm.ClassFile.FieldType.boolean, 0)
theorem oX3_isUnder : z_ok mX3_isUnder := ⟨z_in (z_t2 31 (by decide +kernel)) rfl, z_iX3, by decide, by decide, by decide⟩
theorem pX3_isUnder : z_np mX3_isUnder 2 := fun sig hs => by
  have e : (parseMethodDescriptor yX3_isUnder.desc).map (fun d => d.parameters.length) = some 2 := by decide +kernel
  rw [hs] at e
  exact (Option.some.inj e).symm
theorem sX3_isUnder : z_okS mX3_isUnder 2 := ⟨oX3_isUnder, pX3_isUnder, z_in (z_t2 30 (by decide +kernel)) rfl⟩
abbrev mX3_longestRun : zM := (yX3_longestRun, cX3_longestRun, 5, Option.some Jvm.ClassFile.FieldType.int, 1)
theorem oX3_longestRun : z_ok mX3_longestRun := ⟨z_in (z_t2 229 (by decide +kernel)) rfl, z_iX3, by decide, by decide, by decide⟩
theorem pX3_longestRun : z_np mX3_longestRun 1 := fun sig hs => by
  have e : (parseMethodDescriptor yX3_longestRun.desc).map (fun d => d.parameters.length) = some 1 := by decide +kernel
  rw [hs] at e
  exact (Option.some.inj e).symm
theorem sX3_longestRun : z_okS mX3_longestRun 1 := ⟨oX3_longestRun, pX3_longestRun, z_in (z_t2 228 (by decide +kernel)) rfl⟩
abbrev mX4_finding : zM := (yX4_finding, cX4_finding, 2, Option.some Jvm.ClassFile.FieldType.int, 0)
theorem oX4_finding : z_ok mX4_finding := ⟨z_in (z_t4 96 (by decide +kernel)) rfl, z_iX4, by decide, by decide, by decide⟩
theorem pX4_finding : z_np mX4_finding 1 := fun sig hs => by
  have e : (parseMethodDescriptor yX4_finding.desc).map (fun d => d.parameters.length) = some 1 := by decide +kernel
  rw [hs] at e
  exact (Option.some.inj e).symm
theorem vX4_finding : z_okV mX4_finding 4 1 := ⟨oX4_finding, pX4_finding, z_in (z_t4 95 (by decide +kernel)) rfl, z_in (z_tp 47 (by decide +kernel)) rfl, _, _, rfl⟩
abbrev mX4_within : zM := (yX4_within, cX4_within, 3, Option.some Jvm.ClassFile.FieldType.boolean, 0)
theorem oX4_within : z_ok mX4_within := ⟨z_in (z_t4 91 (by decide +kernel)) rfl, z_iX4, by decide, by decide, by decide⟩
theorem pX4_within : z_np mX4_within 3 := fun sig hs => by
  have e : (parseMethodDescriptor yX4_within.desc).map (fun d => d.parameters.length) = some 3 := by decide +kernel
  rw [hs] at e
  exact (Option.some.inj e).symm
theorem sX4_within : z_okS mX4_within 3 := ⟨oX4_within, pX4_within, z_in (z_t4 90 (by decide +kernel)) rfl⟩
abbrev mX4_become : zM := (yX4_become, cX4_become, 4, Option.some Jvm.ClassFile.FieldType.int, 0)
theorem oX4_become : z_ok mX4_become := ⟨z_in (z_t4 100 (by decide +kernel)) rfl, z_iX4, by decide, by decide, by decide⟩
theorem pX4_become : z_np mX4_become 2 := fun sig hs => by
  have e : (parseMethodDescriptor yX4_become.desc).map (fun d => d.parameters.length) = some 2 := by decide +kernel
  rw [hs] at e
  exact (Option.some.inj e).symm
theorem vX4_become : z_okV mX4_become 4 2 := ⟨oX4_become, pX4_become, z_in (z_t4 99 (by decide +kernel)) rfl, z_in (z_tp 48 (by decide +kernel)) rfl, _, _, rfl⟩
abbrev mX4_copyRow : zM := (yX4_copyRow, cX4_copyRow, 3, Option.none, 0)
theorem oX4_copyRow : z_ok mX4_copyRow := ⟨z_in (z_t5 19 (by decide +kernel)) rfl, z_iX4, by decide, by decide, by decide⟩
theorem pX4_copyRow : z_np mX4_copyRow 2 := fun sig hs => by
  have e : (parseMethodDescriptor yX4_copyRow.desc).map (fun d => d.parameters.length) = some 2 := by decide +kernel
  rw [hs] at e
  exact (Option.some.inj e).symm
theorem sX4_copyRow : z_okS mX4_copyRow 2 := ⟨oX4_copyRow, pX4_copyRow, z_in (z_t5 18 (by decide +kernel)) rfl⟩
abbrev mX4_putBack : zM := (yX4_putBack, cX4_putBack, 2, Option.some Jvm.ClassFile.FieldType.int, 1)
theorem oX4_putBack : z_ok mX4_putBack := ⟨z_in (z_t5 23 (by decide +kernel)) rfl, z_iX4, by decide, by decide, by decide⟩
theorem pX4_putBack : z_np mX4_putBack 1 := fun sig hs => by
  have e : (parseMethodDescriptor yX4_putBack.desc).map (fun d => d.parameters.length) = some 1 := by decide +kernel
  rw [hs] at e
  exact (Option.some.inj e).symm
theorem vX4_putBack : z_okV mX4_putBack 4 1 := ⟨oX4_putBack, pX4_putBack, z_in (z_t5 22 (by decide +kernel)) rfl, z_in (z_tp 68 (by decide +kernel)) rfl, _, _, rfl⟩
abbrev mX4_has : zM := (yX4_has, cX4_has, 2, Option.some Jvm.ClassFile.FieldType.boolean, 0)
theorem oX4_has : z_ok mX4_has := ⟨z_in (z_t5 143 (by decide +kernel)) rfl, z_iX4, by decide, by decide, by decide⟩
theorem pX4_has : z_np mX4_has 2 := fun sig hs => by
  have e : (parseMethodDescriptor yX4_has.desc).map (fun d => d.parameters.length) = some 2 := by decide +kernel
  rw [hs] at e
  exact (Option.some.inj e).symm
theorem sX4_has : z_okS mX4_has 2 := ⟨oX4_has, pX4_has, z_in (z_t5 142 (by decide +kernel)) rfl⟩
abbrev mX4_bits : zM := (yX4_bits, cX4_bits, 3, Option.some Jvm.ClassFile.FieldType.int, 0)
theorem oX4_bits : z_ok mX4_bits := ⟨z_in (z_t4 232 (by decide +kernel)) rfl, z_iX4, by decide, by decide, by decide⟩
theorem pX4_bits : z_np mX4_bits 1 := fun sig hs => by
  have e : (parseMethodDescriptor yX4_bits.desc).map (fun d => d.parameters.length) = some 1 := by decide +kernel
  rw [hs] at e
  exact (Option.some.inj e).symm
theorem sX4_bits : z_okS mX4_bits 1 := ⟨oX4_bits, pX4_bits, z_in (z_t4 231 (by decide +kernel)) rfl⟩
abbrev mX4_isCell : zM := (yX4_isCell, cX4_isCell, 1, Option.some Jvm.ClassFile.FieldType.boolean, 1)
theorem oX4_isCell : z_ok mX4_isCell := ⟨z_in (z_t4 88 (by decide +kernel)) rfl, z_iX4, by decide, by decide, by decide⟩
theorem pX4_isCell : z_np mX4_isCell 1 := fun sig hs => by
  have e : (parseMethodDescriptor yX4_isCell.desc).map (fun d => d.parameters.length) = some 1 := by decide +kernel
  rw [hs] at e
  exact (Option.some.inj e).symm
theorem sX4_isCell : z_okS mX4_isCell 1 := ⟨oX4_isCell, pX4_isCell, z_in (z_t4 87 (by decide +kernel)) rfl⟩
abbrev mX4_apart : zM := (yX4_apart, cX4_apart, 2, Option.some Jvm.ClassFile.FieldType.int, 1)
theorem oX4_apart : z_ok mX4_apart := ⟨z_in (z_t4 153 (by decide +kernel)) rfl, z_iX4, by decide, by decide, by decide⟩
theorem pX4_apart : z_np mX4_apart 2 := fun sig hs => by
  have e : (parseMethodDescriptor yX4_apart.desc).map (fun d => d.parameters.length) = some 2 := by decide +kernel
  rw [hs] at e
  exact (Option.some.inj e).symm
theorem sX4_apart : z_okS mX4_apart 2 := ⟨oX4_apart, pX4_apart, z_in (z_t4 152 (by decide +kernel)) rfl⟩
abbrev mX4_beside : zM := (yX4_beside, cX4_beside, 5, Option.some Jvm.ClassFile.FieldType.int, 1)
theorem oX4_beside : z_ok mX4_beside := ⟨z_in (z_t4 176 (by decide +kernel)) rfl, z_iX4, by decide, by decide, by decide⟩
theorem pX4_beside : z_np mX4_beside 2 := fun sig hs => by
  have e : (parseMethodDescriptor yX4_beside.desc).map (fun d => d.parameters.length) = some 2 := by decide +kernel
  rw [hs] at e
  exact (Option.some.inj e).symm
theorem vX4_beside : z_okV mX4_beside 4 2 := ⟨oX4_beside, pX4_beside, z_in (z_t4 175 (by decide +kernel)) rfl, z_in (z_tp 56 (by decide +kernel)) rfl, _, _, rfl⟩
abbrev mX4_hasNet : zM := (yX4_hasNet, cX4_hasNet, 2, Option.some Jvm.ClassFile.FieldType.boolean, 0)
theorem oX4_hasNet : z_ok mX4_hasNet := ⟨z_in (z_t4 225 (by decide +kernel)) rfl, z_iX4, by decide, by decide, by decide⟩
theorem pX4_hasNet : z_np mX4_hasNet 1 := fun sig hs => by
  have e : (parseMethodDescriptor yX4_hasNet.desc).map (fun d => d.parameters.length) = some 1 := by decide +kernel
  rw [hs] at e
  exact (Option.some.inj e).symm
theorem vX4_hasNet : z_okV mX4_hasNet 4 1 := ⟨oX4_hasNet, pX4_hasNet, z_in (z_t4 224 (by decide +kernel)) rfl, z_in (z_tp 63 (by decide +kernel)) rfl, _, _, rfl⟩
abbrev mX4_net : zM := (yX4_net, cX4_net, 3, Option.some Jvm.ClassFile.FieldType.int, 2)
theorem oX4_net : z_ok mX4_net := ⟨z_in (z_t4 85 (by decide +kernel)) rfl, z_iX4, by decide, by decide, by decide⟩
theorem pX4_net : z_np mX4_net 2 := fun sig hs => by
  have e : (parseMethodDescriptor yX4_net.desc).map (fun d => d.parameters.length) = some 2 := by decide +kernel
  rw [hs] at e
  exact (Option.some.inj e).symm
theorem vX4_net : z_okV mX4_net 4 2 := ⟨oX4_net, pX4_net, z_in (z_t4 83 (by decide +kernel)) rfl, z_in (z_t4 84 (by decide +kernel)) rfl, _, _, rfl⟩
abbrev mX4_thick : zM := (yX4_thick, cX4_thick, 3, Option.some Jvm.ClassFile.FieldType.int, 2)
theorem oX4_thick : z_ok mX4_thick := ⟨z_in (z_t4 104 (by decide +kernel)) rfl, z_iX4, by decide, by decide, by decide⟩
theorem pX4_thick : z_np mX4_thick 2 := fun sig hs => by
  have e : (parseMethodDescriptor yX4_thick.desc).map (fun d => d.parameters.length) = some 2 := by decide +kernel
  rw [hs] at e
  exact (Option.some.inj e).symm
theorem vX4_thick : z_okV mX4_thick 4 2 := ⟨oX4_thick, pX4_thick, z_in (z_t4 102 (by decide +kernel)) rfl, z_in (z_t4 103 (by decide +kernel)) rfl, _, _, rfl⟩
abbrev mX4_isHunter : zM := (yX4_isHunter, cX4_isHunter, 1, Option.some Jvm.ClassFile.FieldType.boolean, 1)
theorem oX4_isHunter : z_ok mX4_isHunter := ⟨z_in (z_t4 111 (by decide +kernel)) rfl, z_iX4, by decide, by decide, by decide⟩
theorem pX4_isHunter : z_np mX4_isHunter 1 := fun sig hs => by
  have e : (parseMethodDescriptor yX4_isHunter.desc).map (fun d => d.parameters.length) = some 1 := by decide +kernel
  rw [hs] at e
  exact (Option.some.inj e).symm
theorem sX4_isHunter : z_okS mX4_isHunter 1 := ⟨oX4_isHunter, pX4_isHunter, z_in (z_t4 110 (by decide +kernel)) rfl⟩
abbrev mX4_hunter : zM := (yX4_hunter, cX4_hunter, 3, Option.some Jvm.ClassFile.FieldType.int, 2)
theorem oX4_hunter : z_ok mX4_hunter := ⟨z_in (z_t4 108 (by decide +kernel)) rfl, z_iX4, by decide, by decide, by decide⟩
theorem pX4_hunter : z_np mX4_hunter 2 := fun sig hs => by
  have e : (parseMethodDescriptor yX4_hunter.desc).map (fun d => d.parameters.length) = some 2 := by decide +kernel
  rw [hs] at e
  exact (Option.some.inj e).symm
theorem vX4_hunter : z_okV mX4_hunter 4 2 := ⟨oX4_hunter, pX4_hunter, z_in (z_t4 106 (by decide +kernel)) rfl, z_in (z_t4 107 (by decide +kernel)) rfl, _, _, rfl⟩
abbrev mX4_fear : zM := (yX4_fear, cX4_fear, 2, Option.some Jvm.ClassFile.FieldType.int, 1)
theorem oX4_fear : z_ok mX4_fear := ⟨z_in (z_t4 115 (by decide +kernel)) rfl, z_iX4, by decide, by decide, by decide⟩
theorem pX4_fear : z_np mX4_fear 1 := fun sig hs => by
  have e : (parseMethodDescriptor yX4_fear.desc).map (fun d => d.parameters.length) = some 1 := by decide +kernel
  rw [hs] at e
  exact (Option.some.inj e).symm
theorem vX4_fear : z_okV mX4_fear 4 1 := ⟨oX4_fear, pX4_fear, z_in (z_t4 113 (by decide +kernel)) rfl, z_in (z_t4 114 (by decide +kernel)) rfl, _, _, rfl⟩
abbrev mX4_isBell : zM := (yX4_isBell, cX4_isBell, 2, Option.some Jvm.ClassFile.FieldType.boolean, 1)
theorem oX4_isBell : z_ok mX4_isBell := ⟨z_in (z_t4 138 (by decide +kernel)) rfl, z_iX4, by decide, by decide, by decide⟩
theorem pX4_isBell : z_np mX4_isBell 1 := fun sig hs => by
  have e : (parseMethodDescriptor yX4_isBell.desc).map (fun d => d.parameters.length) = some 1 := by decide +kernel
  rw [hs] at e
  exact (Option.some.inj e).symm
theorem vX4_isBell : z_okV mX4_isBell 4 1 := ⟨oX4_isBell, pX4_isBell, z_in (z_t4 137 (by decide +kernel)) rfl, z_in (z_tp 50 (by decide +kernel)) rfl, _, _, rfl⟩
abbrev mX4_isKind : zM := (yX4_isKind, cX4_isKind, 1, Option.some Jvm.ClassFile.FieldType.boolean, 1)
theorem oX4_isKind : z_ok mX4_isKind := ⟨z_in (z_t4 122 (by decide +kernel)) rfl, z_iX4, by decide, by decide, by decide⟩
theorem pX4_isKind : z_np mX4_isKind 1 := fun sig hs => by
  have e : (parseMethodDescriptor yX4_isKind.desc).map (fun d => d.parameters.length) = some 1 := by decide +kernel
  rw [hs] at e
  exact (Option.some.inj e).symm
theorem sX4_isKind : z_okS mX4_isKind 1 := ⟨oX4_isKind, pX4_isKind, z_in (z_t4 121 (by decide +kernel)) rfl⟩
abbrev mX4_at : zM := (yX4_at, cX4_at, 2, Option.some Jvm.ClassFile.FieldType.int, 0)
theorem oX4_at : z_ok mX4_at := ⟨z_in (z_t4 130 (by decide +kernel)) rfl, z_iX4, by decide, by decide, by decide⟩
theorem pX4_at : z_np mX4_at 2 := fun sig hs => by
  have e : (parseMethodDescriptor yX4_at.desc).map (fun d => d.parameters.length) = some 2 := by decide +kernel
  rw [hs] at e
  exact (Option.some.inj e).symm
theorem sX4_at : z_okS mX4_at 2 := ⟨oX4_at, pX4_at, z_in (z_t4 129 (by decide +kernel)) rfl⟩
abbrev mX4_bellIs : zM := (yX4_bellIs, cX4_bellIs, 3, Option.some Jvm.ClassFile.FieldType.int, 1)
theorem oX4_bellIs : z_ok mX4_bellIs := ⟨z_in (z_t4 142 (by decide +kernel)) rfl, z_iX4, by decide, by decide, by decide⟩
theorem pX4_bellIs : z_np mX4_bellIs 2 := fun sig hs => by
  have e : (parseMethodDescriptor yX4_bellIs.desc).map (fun d => d.parameters.length) = some 2 := by decide +kernel
  rw [hs] at e
  exact (Option.some.inj e).symm
theorem vX4_bellIs : z_okV mX4_bellIs 4 2 := ⟨oX4_bellIs, pX4_bellIs, z_in (z_t4 141 (by decide +kernel)) rfl, z_in (z_tp 51 (by decide +kernel)) rfl, _, _, rfl⟩
abbrev mX4_isCaught : zM := (yX4_isCaught, cX4_isCaught, 2, Option.some Jvm.ClassFile.FieldType.boolean, 2)
theorem oX4_isCaught : z_ok mX4_isCaught := ⟨z_in (z_t4 171 (by decide +kernel)) rfl, z_iX4, by decide, by decide, by decide⟩
theorem pX4_isCaught : z_np mX4_isCaught 1 := fun sig hs => by
  have e : (parseMethodDescriptor yX4_isCaught.desc).map (fun d => d.parameters.length) = some 1 := by decide +kernel
  rw [hs] at e
  exact (Option.some.inj e).symm
theorem vX4_isCaught : z_okV mX4_isCaught 4 1 := ⟨oX4_isCaught, pX4_isCaught, z_in (z_t4 170 (by decide +kernel)) rfl, z_in (z_tp 55 (by decide +kernel)) rfl, _, _, rfl⟩
abbrev mX4_comes : zM := (yX4_comes, cX4_comes, 6, Option.some Jvm.ClassFile.FieldType.int, 1)
theorem oX4_comes : z_ok mX4_comes := ⟨z_in (z_t4 127 (by decide +kernel)) rfl, z_iX4, by decide, by decide, by decide⟩
theorem pX4_comes : z_np mX4_comes 4 := fun sig hs => by
  have e : (parseMethodDescriptor yX4_comes.desc).map (fun d => d.parameters.length) = some 4 := by decide +kernel
  rw [hs] at e
  exact (Option.some.inj e).symm
theorem vX4_comes : z_okV mX4_comes 4 4 := ⟨oX4_comes, pX4_comes, z_in (z_t4 126 (by decide +kernel)) rfl, z_in (z_tp 49 (by decide +kernel)) rfl, _, _, rfl⟩
abbrev mX4_bell : zM := (yX4_bell, cX4_bell, 3, Option.some Jvm.ClassFile.FieldType.int, 2)
theorem oX4_bell : z_ok mX4_bell := ⟨z_in (z_t4 119 (by decide +kernel)) rfl, z_iX4, by decide, by decide, by decide⟩
theorem pX4_bell : z_np mX4_bell 2 := fun sig hs => by
  have e : (parseMethodDescriptor yX4_bell.desc).map (fun d => d.parameters.length) = some 2 := by decide +kernel
  rw [hs] at e
  exact (Option.some.inj e).symm
theorem vX4_bell : z_okV mX4_bell 4 2 := ⟨oX4_bell, pX4_bell, z_in (z_t4 117 (by decide +kernel)) rfl, z_in (z_t4 118 (by decide +kernel)) rfl, _, _, rfl⟩
abbrev mX4_above : zM := (yX4_above, cX4_above, 1, Option.some Jvm.ClassFile.FieldType.int, 0)
theorem oX4_above : z_ok mX4_above := ⟨z_in (z_t4 163 (by decide +kernel)) rfl, z_iX4, by decide, by decide, by decide⟩
theorem pX4_above : z_np mX4_above 1 := fun sig hs => by
  have e : (parseMethodDescriptor yX4_above.desc).map (fun d => d.parameters.length) = some 1 := by decide +kernel
  rw [hs] at e
  exact (Option.some.inj e).symm
theorem sX4_above : z_okS mX4_above 1 := ⟨oX4_above, pX4_above, z_in (z_t4 162 (by decide +kernel)) rfl⟩
abbrev mX4_isUnder : zM := (yX4_isUnder, cX4_isUnder, 3, Option.some Jvm.ClassFile.FieldType.boolean, 1)
theorem oX4_isUnder : z_ok mX4_isUnder := ⟨z_in (z_t4 160 (by decide +kernel)) rfl, z_iX4, by decide, by decide, by decide⟩
theorem pX4_isUnder : z_np mX4_isUnder 2 := fun sig hs => by
  have e : (parseMethodDescriptor yX4_isUnder.desc).map (fun d => d.parameters.length) = some 2 := by decide +kernel
  rw [hs] at e
  exact (Option.some.inj e).symm
theorem sX4_isUnder : z_okS mX4_isUnder 2 := ⟨oX4_isUnder, pX4_isUnder, z_in (z_t4 159 (by decide +kernel)) rfl⟩
abbrev mX4_nearestOther : zM := (yX4_nearestOther, cX4_nearestOther, 8, Option.some Jvm.ClassFile.FieldType.int, 3)
theorem oX4_nearestOther : z_ok mX4_nearestOther := ⟨z_in (z_t4 167 (by decide +kernel)) rfl, z_iX4, by decide, by decide, by decide⟩
theorem pX4_nearestOther : z_np mX4_nearestOther 3 := fun sig hs => by
  have e : (parseMethodDescriptor yX4_nearestOther.desc).map (fun d => d.parameters.length) = some 3 := by decide +kernel
  rw [hs] at e
  exact (Option.some.inj e).symm
theorem vX4_nearestOther : z_okV mX4_nearestOther 4 3 := ⟨oX4_nearestOther, pX4_nearestOther, z_in (z_t4 166 (by decide +kernel)) rfl, z_in (z_tp 54 (by decide +kernel)) rfl, _, _, rfl⟩
abbrev mX4_worthOf : zM := (yX4_worthOf, cX4_worthOf, 9, Option.some Jvm.ClassFile.FieldType.int, 4)
theorem oX4_worthOf : z_ok mX4_worthOf := ⟨z_in (z_t4 150 (by decide +kernel)) rfl, z_iX4, by decide, by decide, by decide⟩
theorem pX4_worthOf : z_np mX4_worthOf 2 := fun sig hs => by
  have e : (parseMethodDescriptor yX4_worthOf.desc).map (fun d => d.parameters.length) = some 2 := by decide +kernel
  rw [hs] at e
  exact (Option.some.inj e).symm
theorem vX4_worthOf : z_okV mX4_worthOf 4 2 := ⟨oX4_worthOf, pX4_worthOf, z_in (z_t4 149 (by decide +kernel)) rfl, z_in (z_tp 53 (by decide +kernel)) rfl, _, _, rfl⟩
abbrev mX4_nextOf : zM := (yX4_nextOf, cX4_nextOf, 7, Option.some Jvm.ClassFile.FieldType.int, 5)
theorem oX4_nextOf : z_ok mX4_nextOf := ⟨z_in (z_t4 146 (by decide +kernel)) rfl, z_iX4, by decide, by decide, by decide⟩
theorem pX4_nextOf : z_np mX4_nextOf 1 := fun sig hs => by
  have e : (parseMethodDescriptor yX4_nextOf.desc).map (fun d => d.parameters.length) = some 1 := by decide +kernel
  rw [hs] at e
  exact (Option.some.inj e).symm
theorem vX4_nextOf : z_okV mX4_nextOf 4 1 := ⟨oX4_nextOf, pX4_nextOf, z_in (z_t4 145 (by decide +kernel)) rfl, z_in (z_tp 52 (by decide +kernel)) rfl, _, _, rfl⟩
abbrev mX4_of : zM := (yX4_of, cX4_of, 3, Option.some Jvm.ClassFile.FieldType.int, 6)
theorem oX4_of : z_ok mX4_of := ⟨z_in (z_t4 134 (by decide +kernel)) rfl, z_iX4, by decide, by decide, by decide⟩
theorem pX4_of : z_np mX4_of 2 := fun sig hs => by
  have e : (parseMethodDescriptor yX4_of.desc).map (fun d => d.parameters.length) = some 2 := by decide +kernel
  rw [hs] at e
  exact (Option.some.inj e).symm
theorem vX4_of : z_okV mX4_of 4 2 := ⟨oX4_of, pX4_of, z_in (z_t4 132 (by decide +kernel)) rfl, z_in (z_t4 133 (by decide +kernel)) rfl, _, _, rfl⟩
abbrev mX4_mayBe : zM := (yX4_mayBe, cX4_mayBe, 2, Option.some Jvm.ClassFile.FieldType.boolean, 2)
theorem oX4_mayBe : z_ok mX4_mayBe := ⟨z_in (z_t4 183 (by decide +kernel)) rfl, z_iX4, by decide, by decide, by decide⟩
theorem pX4_mayBe : z_np mX4_mayBe 2 := fun sig hs => by
  have e : (parseMethodDescriptor yX4_mayBe.desc).map (fun d => d.parameters.length) = some 2 := by decide +kernel
  rw [hs] at e
  exact (Option.some.inj e).symm
theorem sX4_mayBe : z_okS mX4_mayBe 2 := ⟨oX4_mayBe, pX4_mayBe, z_in (z_t4 182 (by decide +kernel)) rfl⟩
abbrev mX4_change : zM := (yX4_change, cX4_change, 4, Option.some Jvm.ClassFile.FieldType.int, 3)
theorem oX4_change : z_ok mX4_change := ⟨z_in (z_t4 180 (by decide +kernel)) rfl, z_iX4, by decide, by decide, by decide⟩
theorem pX4_change : z_np mX4_change 3 := fun sig hs => by
  have e : (parseMethodDescriptor yX4_change.desc).map (fun d => d.parameters.length) = some 3 := by decide +kernel
  rw [hs] at e
  exact (Option.some.inj e).symm
theorem vX4_change : z_okV mX4_change 4 3 := ⟨oX4_change, pX4_change, z_in (z_t4 178 (by decide +kernel)) rfl, z_in (z_t4 179 (by decide +kernel)) rfl, _, _, rfl⟩
abbrev mX4_worth : zM := (yX4_worth, cX4_worth, 3, Option.some Jvm.ClassFile.FieldType.int, 5)
theorem oX4_worth : z_ok mX4_worth := ⟨z_in (z_t4 187 (by decide +kernel)) rfl, z_iX4, by decide, by decide, by decide⟩
theorem pX4_worth : z_np mX4_worth 2 := fun sig hs => by
  have e : (parseMethodDescriptor yX4_worth.desc).map (fun d => d.parameters.length) = some 2 := by decide +kernel
  rw [hs] at e
  exact (Option.some.inj e).symm
theorem vX4_worth : z_okV mX4_worth 4 2 := ⟨oX4_worth, pX4_worth, z_in (z_t4 185 (by decide +kernel)) rfl, z_in (z_t4 186 (by decide +kernel)) rfl, _, _, rfl⟩
abbrev mX4_loudOf : zM := (yX4_loudOf, cX4_loudOf, 4, Option.some Jvm.ClassFile.FieldType.int, 2)
theorem oX4_loudOf : z_ok mX4_loudOf := ⟨z_in (z_t4 203 (by decide +kernel)) rfl, z_iX4, by decide, by decide, by decide⟩
theorem pX4_loudOf : z_np mX4_loudOf 3 := fun sig hs => by
  have e : (parseMethodDescriptor yX4_loudOf.desc).map (fun d => d.parameters.length) = some 3 := by decide +kernel
  rw [hs] at e
  exact (Option.some.inj e).symm
theorem vX4_loudOf : z_okV mX4_loudOf 4 3 := ⟨oX4_loudOf, pX4_loudOf, z_in (z_t4 202 (by decide +kernel)) rfl, z_in (z_tp 59 (by decide +kernel)) rfl, _, _, rfl⟩
abbrev mX4_loudAt : zM := (yX4_loudAt, cX4_loudAt, 3, Option.some Jvm.ClassFile.FieldType.int, 3)
theorem oX4_loudAt : z_ok mX4_loudAt := ⟨z_in (z_t4 199 (by decide +kernel)) rfl, z_iX4, by decide, by decide, by decide⟩
theorem pX4_loudAt : z_np mX4_loudAt 2 := fun sig hs => by
  have e : (parseMethodDescriptor yX4_loudAt.desc).map (fun d => d.parameters.length) = some 2 := by decide +kernel
  rw [hs] at e
  exact (Option.some.inj e).symm
theorem vX4_loudAt : z_okV mX4_loudAt 4 2 := ⟨oX4_loudAt, pX4_loudAt, z_in (z_t4 198 (by decide +kernel)) rfl, z_in (z_tp 58 (by decide +kernel)) rfl, _, _, rfl⟩
abbrev mX4_heardAt : zM := (yX4_heardAt, cX4_heardAt, 4, Option.some Jvm.ClassFile.FieldType.int, 4)
theorem oX4_heardAt : z_ok mX4_heardAt := ⟨z_in (z_t4 195 (by decide +kernel)) rfl, z_iX4, by decide, by decide, by decide⟩
theorem pX4_heardAt : z_np mX4_heardAt 1 := fun sig hs => by
  have e : (parseMethodDescriptor yX4_heardAt.desc).map (fun d => d.parameters.length) = some 1 := by decide +kernel
  rw [hs] at e
  exact (Option.some.inj e).symm
theorem vX4_heardAt : z_okV mX4_heardAt 4 1 := ⟨oX4_heardAt, pX4_heardAt, z_in (z_t4 194 (by decide +kernel)) rfl, z_in (z_tp 57 (by decide +kernel)) rfl, _, _, rfl⟩
abbrev mX4_manyAt : zM := (yX4_manyAt, cX4_manyAt, 4, Option.some Jvm.ClassFile.FieldType.int, 2)
theorem oX4_manyAt : z_ok mX4_manyAt := ⟨z_in (z_t4 207 (by decide +kernel)) rfl, z_iX4, by decide, by decide, by decide⟩
theorem pX4_manyAt : z_np mX4_manyAt 1 := fun sig hs => by
  have e : (parseMethodDescriptor yX4_manyAt.desc).map (fun d => d.parameters.length) = some 1 := by decide +kernel
  rw [hs] at e
  exact (Option.some.inj e).symm
theorem vX4_manyAt : z_okV mX4_manyAt 4 1 := ⟨oX4_manyAt, pX4_manyAt, z_in (z_t4 206 (by decide +kernel)) rfl, z_in (z_tp 60 (by decide +kernel)) rfl, _, _, rfl⟩
abbrev mX4_cell : zM := (yX4_cell, cX4_cell, 3, Option.some Jvm.ClassFile.FieldType.int, 5)
theorem oX4_cell : z_ok mX4_cell := ⟨z_in (z_t4 191 (by decide +kernel)) rfl, z_iX4, by decide, by decide, by decide⟩
theorem pX4_cell : z_np mX4_cell 2 := fun sig hs => by
  have e : (parseMethodDescriptor yX4_cell.desc).map (fun d => d.parameters.length) = some 2 := by decide +kernel
  rw [hs] at e
  exact (Option.some.inj e).symm
theorem vX4_cell : z_okV mX4_cell 4 2 := ⟨oX4_cell, pX4_cell, z_in (z_t4 189 (by decide +kernel)) rfl, z_in (z_t4 190 (by decide +kernel)) rfl, _, _, rfl⟩
abbrev mX4_caughtNow : zM := (yX4_caughtNow, cX4_caughtNow, 3, Option.some Jvm.ClassFile.FieldType.int, 3)
theorem oX4_caughtNow : z_ok mX4_caughtNow := ⟨z_in (z_t4 229 (by decide +kernel)) rfl, z_iX4, by decide, by decide, by decide⟩
theorem pX4_caughtNow : z_np mX4_caughtNow 0 := fun sig hs => by
  have e : (parseMethodDescriptor yX4_caughtNow.desc).map (fun d => d.parameters.length) = some 0 := by decide +kernel
  rw [hs] at e
  exact (Option.some.inj e).symm
theorem vX4_caughtNow : z_okV mX4_caughtNow 4 0 := ⟨oX4_caughtNow, pX4_caughtNow, z_in (z_t4 228 (by decide +kernel)) rfl, z_in (z_tp 64 (by decide +kernel)) rfl, _, _, rfl⟩
abbrev mX4_hour : zM := (yX4_hour, cX4_hour, 3, Option.none, 6)
theorem oX4_hour : z_ok mX4_hour := ⟨z_in (z_t4 221 (by decide +kernel)) rfl, z_iX4, by decide, by decide, by decide⟩
theorem pX4_hour : z_np mX4_hour 0 := fun sig hs => by
  have e : (parseMethodDescriptor yX4_hour.desc).map (fun d => d.parameters.length) = some 0 := by decide +kernel
  rw [hs] at e
  exact (Option.some.inj e).symm
theorem vX4_hour : z_okV mX4_hour 4 0 := ⟨oX4_hour, pX4_hour, z_in (z_t4 220 (by decide +kernel)) rfl, z_in (z_tp 62 (by decide +kernel)) rfl, _, _, rfl⟩
abbrev mX4_hours : zM := (yX4_hours, cX4_hours, 3, Option.none, 7)
theorem oX4_hours : z_ok mX4_hours := ⟨z_in (z_t4 217 (by decide +kernel)) rfl, z_iX4, by decide, by decide, by decide⟩
theorem pX4_hours : z_np mX4_hours 1 := fun sig hs => by
  have e : (parseMethodDescriptor yX4_hours.desc).map (fun d => d.parameters.length) = some 1 := by decide +kernel
  rw [hs] at e
  exact (Option.some.inj e).symm
theorem vX4_hours : z_okV mX4_hours 4 1 := ⟨oX4_hours, pX4_hours, z_in (z_t4 216 (by decide +kernel)) rfl, z_in (z_tp 61 (by decide +kernel)) rfl, _, _, rfl⟩
abbrev mX4_go : zM := (yX4_go, cX4_go, 2, Option.some Jvm.ClassFile.FieldType.int, 8)
theorem oX4_go : z_ok mX4_go := ⟨z_in (z_t4 211 (by decide +kernel)) rfl, z_iX4, by decide, by decide, by decide⟩
theorem pX4_go : z_np mX4_go 1 := fun sig hs => by
  have e : (parseMethodDescriptor yX4_go.desc).map (fun d => d.parameters.length) = some 1 := by decide +kernel
  rw [hs] at e
  exact (Option.some.inj e).symm
theorem vX4_go : z_okV mX4_go 4 1 := ⟨oX4_go, pX4_go, z_in (z_t4 209 (by decide +kernel)) rfl, z_in (z_t4 210 (by decide +kernel)) rfl, _, _, rfl⟩
abbrev mX4_nets : zM := (yX4_nets, cX4_nets, 3, Option.some Jvm.ClassFile.FieldType.int, 0)
theorem oX4_nets : z_ok mX4_nets := ⟨z_in (z_t5 0 (by decide +kernel)) rfl, z_iX4, by decide, by decide, by decide⟩
theorem pX4_nets : z_np mX4_nets 0 := fun sig hs => by
  have e : (parseMethodDescriptor yX4_nets.desc).map (fun d => d.parameters.length) = some 0 := by decide +kernel
  rw [hs] at e
  exact (Option.some.inj e).symm
theorem vX4_nets : z_okV mX4_nets 4 0 := ⟨oX4_nets, pX4_nets, z_in (z_t4 239 (by decide +kernel)) rfl, z_in (z_tp 65 (by decide +kernel)) rfl, _, _, rfl⟩
abbrev mX4_caughtWeight : zM := (yX4_caughtWeight, cX4_caughtWeight, 3, Option.some Jvm.ClassFile.FieldType.int, 3)
theorem oX4_caughtWeight : z_ok mX4_caughtWeight := ⟨z_in (z_t5 4 (by decide +kernel)) rfl, z_iX4, by decide, by decide, by decide⟩
theorem pX4_caughtWeight : z_np mX4_caughtWeight 0 := fun sig hs => by
  have e : (parseMethodDescriptor yX4_caughtWeight.desc).map (fun d => d.parameters.length) = some 0 := by decide +kernel
  rw [hs] at e
  exact (Option.some.inj e).symm
theorem vX4_caughtWeight : z_okV mX4_caughtWeight 4 0 := ⟨oX4_caughtWeight, pX4_caughtWeight, z_in (z_t5 3 (by decide +kernel)) rfl, z_in (z_tp 66 (by decide +kernel)) rfl, _, _, rfl⟩
abbrev mX4_now : zM := (yX4_now, cX4_now, 2, Option.some Jvm.ClassFile.FieldType.int, 4)
theorem oX4_now : z_ok mX4_now := ⟨z_in (z_t4 236 (by decide +kernel)) rfl, z_iX4, by decide, by decide, by decide⟩
theorem pX4_now : z_np mX4_now 1 := fun sig hs => by
  have e : (parseMethodDescriptor yX4_now.desc).map (fun d => d.parameters.length) = some 1 := by decide +kernel
  rw [hs] at e
  exact (Option.some.inj e).symm
theorem vX4_now : z_okV mX4_now 4 1 := ⟨oX4_now, pX4_now, z_in (z_t4 234 (by decide +kernel)) rfl, z_in (z_t4 235 (by decide +kernel)) rfl, _, _, rfl⟩
abbrev mX4_loud : zM := (yX4_loud, cX4_loud, 3, Option.some Jvm.ClassFile.FieldType.int, 4)
theorem oX4_loud : z_ok mX4_loud := ⟨z_in (z_t5 8 (by decide +kernel)) rfl, z_iX4, by decide, by decide, by decide⟩
theorem pX4_loud : z_np mX4_loud 2 := fun sig hs => by
  have e : (parseMethodDescriptor yX4_loud.desc).map (fun d => d.parameters.length) = some 2 := by decide +kernel
  rw [hs] at e
  exact (Option.some.inj e).symm
theorem vX4_loud : z_okV mX4_loud 4 2 := ⟨oX4_loud, pX4_loud, z_in (z_t5 6 (by decide +kernel)) rfl, z_in (z_t5 7 (by decide +kernel)) rfl, _, _, rfl⟩
abbrev mX4_fieldBehind : zM := (yX4_fieldBehind, cX4_fieldBehind, 4, Option.some Jvm.ClassFile.FieldType.int, 8)
theorem oX4_fieldBehind : z_ok mX4_fieldBehind := ⟨z_in (z_t5 16 (by decide +kernel)) rfl, z_iX4, by decide, by decide, by decide⟩
theorem pX4_fieldBehind : z_np mX4_fieldBehind 3 := fun sig hs => by
  have e : (parseMethodDescriptor yX4_fieldBehind.desc).map (fun d => d.parameters.length) = some 3 := by decide +kernel
  rw [hs] at e
  exact (Option.some.inj e).symm
theorem vX4_fieldBehind : z_okV mX4_fieldBehind 4 3 := ⟨oX4_fieldBehind, pX4_fieldBehind, z_in (z_t5 15 (by decide +kernel)) rfl, z_in (z_tp 67 (by decide +kernel)) rfl, _, _, rfl⟩
abbrev mX4_ahead : zM := (yX4_ahead, cX4_ahead, 3, Option.some Jvm.ClassFile.FieldType.int, 9)
theorem oX4_ahead : z_ok mX4_ahead := ⟨z_in (z_t5 12 (by decide +kernel)) rfl, z_iX4, by decide, by decide, by decide⟩
theorem pX4_ahead : z_np mX4_ahead 2 := fun sig hs => by
  have e : (parseMethodDescriptor yX4_ahead.desc).map (fun d => d.parameters.length) = some 2 := by decide +kernel
  rw [hs] at e
  exact (Option.some.inj e).symm
theorem vX4_ahead : z_okV mX4_ahead 4 2 := ⟨oX4_ahead, pX4_ahead, z_in (z_t5 10 (by decide +kernel)) rfl, z_in (z_t5 11 (by decide +kernel)) rfl, _, _, rfl⟩
abbrev mX4_caughtIn : zM := (yX4_caughtIn, cX4_caughtIn, 4, Option.some Jvm.ClassFile.FieldType.int, 7)
theorem oX4_caughtIn : z_ok mX4_caughtIn := ⟨z_in (z_t5 31 (by decide +kernel)) rfl, z_iX4, by decide, by decide, by decide⟩
theorem pX4_caughtIn : z_np mX4_caughtIn 2 := fun sig hs => by
  have e : (parseMethodDescriptor yX4_caughtIn.desc).map (fun d => d.parameters.length) = some 2 := by decide +kernel
  rw [hs] at e
  exact (Option.some.inj e).symm
theorem vX4_caughtIn : z_okV mX4_caughtIn 4 2 := ⟨oX4_caughtIn, pX4_caughtIn, z_in (z_t5 30 (by decide +kernel)) rfl, z_in (z_tp 69 (by decide +kernel)) rfl, _, _, rfl⟩
abbrev mX4_told : zM := (yX4_told, cX4_told, 2, Option.some Jvm.ClassFile.FieldType.int, 1)
theorem oX4_told : z_ok mX4_told := ⟨z_in (z_t5 36 (by decide +kernel)) rfl, z_iX4, by decide, by decide, by decide⟩
theorem pX4_told : z_np mX4_told 1 := fun sig hs => by
  have e : (parseMethodDescriptor yX4_told.desc).map (fun d => d.parameters.length) = some 1 := by decide +kernel
  rw [hs] at e
  exact (Option.some.inj e).symm
theorem vX4_told : z_okV mX4_told 4 1 := ⟨oX4_told, pX4_told, z_in (z_t5 35 (by decide +kernel)) rfl, z_in (z_tp 70 (by decide +kernel)) rfl, _, _, rfl⟩
abbrev mX4_when : zM := (yX4_when, cX4_when, 2, Option.some Jvm.ClassFile.FieldType.int, 8)
theorem oX4_when : z_ok mX4_when := ⟨z_in (z_t5 27 (by decide +kernel)) rfl, z_iX4, by decide, by decide, by decide⟩
theorem pX4_when : z_np mX4_when 1 := fun sig hs => by
  have e : (parseMethodDescriptor yX4_when.desc).map (fun d => d.parameters.length) = some 1 := by decide +kernel
  rw [hs] at e
  exact (Option.some.inj e).symm
theorem vX4_when : z_okV mX4_when 4 1 := ⟨oX4_when, pX4_when, z_in (z_t5 25 (by decide +kernel)) rfl, z_in (z_t5 26 (by decide +kernel)) rfl, _, _, rfl⟩
abbrev mX4_still : zM := (yX4_still, cX4_still, 2, Option.some Jvm.ClassFile.FieldType.int, 7)
theorem oX4_still : z_ok mX4_still := ⟨z_in (z_t5 41 (by decide +kernel)) rfl, z_iX4, by decide, by decide, by decide⟩
theorem pX4_still : z_np mX4_still 0 := fun sig hs => by
  have e : (parseMethodDescriptor yX4_still.desc).map (fun d => d.parameters.length) = some 0 := by decide +kernel
  rw [hs] at e
  exact (Option.some.inj e).symm
theorem vX4_still : z_okV mX4_still 4 0 := ⟨oX4_still, pX4_still, z_in (z_t5 39 (by decide +kernel)) rfl, z_in (z_t5 40 (by decide +kernel)) rfl, _, _, rfl⟩
abbrev mX4_setBehind : zM := (yX4_setBehind, cX4_setBehind, 2, Option.some Jvm.ClassFile.FieldType.int, 8)
theorem oX4_setBehind : z_ok mX4_setBehind := ⟨z_in (z_t5 49 (by decide +kernel)) rfl, z_iX4, by decide, by decide, by decide⟩
theorem pX4_setBehind : z_np mX4_setBehind 1 := fun sig hs => by
  have e : (parseMethodDescriptor yX4_setBehind.desc).map (fun d => d.parameters.length) = some 1 := by decide +kernel
  rw [hs] at e
  exact (Option.some.inj e).symm
theorem vX4_setBehind : z_okV mX4_setBehind 4 1 := ⟨oX4_setBehind, pX4_setBehind, z_in (z_t5 48 (by decide +kernel)) rfl, z_in (z_tp 71 (by decide +kernel)) rfl, _, _, rfl⟩
abbrev mX4_caught : zM := (yX4_caught, cX4_caught, 2, Option.some Jvm.ClassFile.FieldType.int, 9)
theorem oX4_caught : z_ok mX4_caught := ⟨z_in (z_t5 45 (by decide +kernel)) rfl, z_iX4, by decide, by decide, by decide⟩
theorem pX4_caught : z_np mX4_caught 1 := fun sig hs => by
  have e : (parseMethodDescriptor yX4_caught.desc).map (fun d => d.parameters.length) = some 1 := by decide +kernel
  rw [hs] at e
  exact (Option.some.inj e).symm
theorem vX4_caught : z_okV mX4_caught 4 1 := ⟨oX4_caught, pX4_caught, z_in (z_t5 43 (by decide +kernel)) rfl, z_in (z_t5 44 (by decide +kernel)) rfl, _, _, rfl⟩
abbrev mX4_orNone : zM := (yX4_orNone, cX4_orNone, 2, Option.some Jvm.ClassFile.FieldType.int, 1)
theorem oX4_orNone : z_ok mX4_orNone := ⟨z_in (z_t5 57 (by decide +kernel)) rfl, z_iX4, by decide, by decide, by decide⟩
theorem pX4_orNone : z_np mX4_orNone 1 := fun sig hs => by
  have e : (parseMethodDescriptor yX4_orNone.desc).map (fun d => d.parameters.length) = some 1 := by decide +kernel
  rw [hs] at e
  exact (Option.some.inj e).symm
theorem vX4_orNone : z_okV mX4_orNone 4 1 := ⟨oX4_orNone, pX4_orNone, z_in (z_t5 56 (by decide +kernel)) rfl, z_in (z_tp 72 (by decide +kernel)) rfl, _, _, rfl⟩
abbrev mX4_netFor : zM := (yX4_netFor, cX4_netFor, 6, Option.some Jvm.ClassFile.FieldType.int, 8)
theorem oX4_netFor : z_ok mX4_netFor := ⟨z_in (z_t5 53 (by decide +kernel)) rfl, z_iX4, by decide, by decide, by decide⟩
theorem pX4_netFor : z_np mX4_netFor 1 := fun sig hs => by
  have e : (parseMethodDescriptor yX4_netFor.desc).map (fun d => d.parameters.length) = some 1 := by decide +kernel
  rw [hs] at e
  exact (Option.some.inj e).symm
theorem vX4_netFor : z_okV mX4_netFor 4 1 := ⟨oX4_netFor, pX4_netFor, z_in (z_t5 51 (by decide +kernel)) rfl, z_in (z_t5 52 (by decide +kernel)) rfl, _, _, rfl⟩
abbrev mX4_best : zM := (yX4_best, cX4_best, 6, Option.some Jvm.ClassFile.FieldType.int, 9)
theorem oX4_best : z_ok mX4_best := ⟨z_in (z_t5 61 (by decide +kernel)) rfl, z_iX4, by decide, by decide, by decide⟩
theorem pX4_best : z_np mX4_best 1 := fun sig hs => by
  have e : (parseMethodDescriptor yX4_best.desc).map (fun d => d.parameters.length) = some 1 := by decide +kernel
  rw [hs] at e
  exact (Option.some.inj e).symm
theorem vX4_best : z_okV mX4_best 4 1 := ⟨oX4_best, pX4_best, z_in (z_t5 59 (by decide +kernel)) rfl, z_in (z_t5 60 (by decide +kernel)) rfl, _, _, rfl⟩
abbrev mX4_drive : zM := (yX4_drive, cX4_drive, 8, Option.some Jvm.ClassFile.FieldType.int, 8)
theorem oX4_drive : z_ok mX4_drive := ⟨z_in (z_t5 65 (by decide +kernel)) rfl, z_iX4, by decide, by decide, by decide⟩
theorem pX4_drive : z_np mX4_drive 2 := fun sig hs => by
  have e : (parseMethodDescriptor yX4_drive.desc).map (fun d => d.parameters.length) = some 2 := by decide +kernel
  rw [hs] at e
  exact (Option.some.inj e).symm
theorem vX4_drive : z_okV mX4_drive 4 2 := ⟨oX4_drive, pX4_drive, z_in (z_t5 63 (by decide +kernel)) rfl, z_in (z_t5 64 (by decide +kernel)) rfl, _, _, rfl⟩
abbrev mX4_kindFor : zM := (yX4_kindFor, cX4_kindFor, 7, Option.some Jvm.ClassFile.FieldType.int, 8)
theorem oX4_kindFor : z_ok mX4_kindFor := ⟨z_in (z_t5 69 (by decide +kernel)) rfl, z_iX4, by decide, by decide, by decide⟩
theorem pX4_kindFor : z_np mX4_kindFor 1 := fun sig hs => by
  have e : (parseMethodDescriptor yX4_kindFor.desc).map (fun d => d.parameters.length) = some 1 := by decide +kernel
  rw [hs] at e
  exact (Option.some.inj e).symm
theorem vX4_kindFor : z_okV mX4_kindFor 4 1 := ⟨oX4_kindFor, pX4_kindFor, z_in (z_t5 67 (by decide +kernel)) rfl, z_in (z_t5 68 (by decide +kernel)) rfl, _, _, rfl⟩
abbrev mX4_lacks : zM := (yX4_lacks, cX4_lacks, 2, Option.some Jvm.ClassFile.FieldType.int, 2)
theorem oX4_lacks : z_ok mX4_lacks := ⟨z_in (z_t5 81 (by decide +kernel)) rfl, z_iX4, by decide, by decide, by decide⟩
theorem pX4_lacks : z_np mX4_lacks 1 := fun sig hs => by
  have e : (parseMethodDescriptor yX4_lacks.desc).map (fun d => d.parameters.length) = some 1 := by decide +kernel
  rw [hs] at e
  exact (Option.some.inj e).symm
theorem vX4_lacks : z_okV mX4_lacks 4 1 := ⟨oX4_lacks, pX4_lacks, z_in (z_t5 80 (by decide +kernel)) rfl, z_in (z_tp 74 (by decide +kernel)) rfl, _, _, rfl⟩
abbrev mX4_earOf : zM := (yX4_earOf, cX4_earOf, 3, Option.some Jvm.ClassFile.FieldType.int, 0)
theorem oX4_earOf : z_ok mX4_earOf := ⟨z_in (z_t5 97 (by decide +kernel)) rfl, z_iX4, by decide, by decide, by decide⟩
theorem pX4_earOf : z_np mX4_earOf 2 := fun sig hs => by
  have e : (parseMethodDescriptor yX4_earOf.desc).map (fun d => d.parameters.length) = some 2 := by decide +kernel
  rw [hs] at e
  exact (Option.some.inj e).symm
theorem vX4_earOf : z_okV mX4_earOf 4 2 := ⟨oX4_earOf, pX4_earOf, z_in (z_t5 96 (by decide +kernel)) rfl, z_in (z_tp 77 (by decide +kernel)) rfl, _, _, rfl⟩
abbrev mX4_ears : zM := (yX4_ears, cX4_ears, 2, Option.some Jvm.ClassFile.FieldType.int, 0)
theorem oX4_ears : z_ok mX4_ears := ⟨z_in (z_t5 93 (by decide +kernel)) rfl, z_iX4, by decide, by decide, by decide⟩
theorem pX4_ears : z_np mX4_ears 1 := fun sig hs => by
  have e : (parseMethodDescriptor yX4_ears.desc).map (fun d => d.parameters.length) = some 1 := by decide +kernel
  rw [hs] at e
  exact (Option.some.inj e).symm
theorem vX4_ears : z_okV mX4_ears 4 1 := ⟨oX4_ears, pX4_ears, z_in (z_t5 92 (by decide +kernel)) rfl, z_in (z_tp 76 (by decide +kernel)) rfl, _, _, rfl⟩
abbrev mX4_areEars : zM := (yX4_areEars, cX4_areEars, 4, Option.some Jvm.ClassFile.FieldType.boolean, 2)
theorem oX4_areEars : z_ok mX4_areEars := ⟨z_in (z_t5 89 (by decide +kernel)) rfl, z_iX4, by decide, by decide, by decide⟩
theorem pX4_areEars : z_np mX4_areEars 1 := fun sig hs => by
  have e : (parseMethodDescriptor yX4_areEars.desc).map (fun d => d.parameters.length) = some 1 := by decide +kernel
  rw [hs] at e
  exact (Option.some.inj e).symm
theorem vX4_areEars : z_okV mX4_areEars 4 1 := ⟨oX4_areEars, pX4_areEars, z_in (z_t5 88 (by decide +kernel)) rfl, z_in (z_tp 75 (by decide +kernel)) rfl, _, _, rfl⟩
abbrev mX4_isSo : zM := (yX4_isSo, cX4_isSo, 6, Option.some Jvm.ClassFile.FieldType.boolean, 3)
theorem oX4_isSo : z_ok mX4_isSo := ⟨z_in (z_t5 101 (by decide +kernel)) rfl, z_iX4, by decide, by decide, by decide⟩
theorem pX4_isSo : z_np mX4_isSo 3 := fun sig hs => by
  have e : (parseMethodDescriptor yX4_isSo.desc).map (fun d => d.parameters.length) = some 3 := by decide +kernel
  rw [hs] at e
  exact (Option.some.inj e).symm
theorem vX4_isSo : z_okV mX4_isSo 4 3 := ⟨oX4_isSo, pX4_isSo, z_in (z_t5 100 (by decide +kernel)) rfl, z_in (z_tp 78 (by decide +kernel)) rfl, _, _, rfl⟩
abbrev mX4_lacksOf : zM := (yX4_lacksOf, cX4_lacksOf, 4, Option.some Jvm.ClassFile.FieldType.int, 3)
theorem oX4_lacksOf : z_ok mX4_lacksOf := ⟨z_in (z_t5 77 (by decide +kernel)) rfl, z_iX4, by decide, by decide, by decide⟩
theorem pX4_lacksOf : z_np mX4_lacksOf 2 := fun sig hs => by
  have e : (parseMethodDescriptor yX4_lacksOf.desc).map (fun d => d.parameters.length) = some 2 := by decide +kernel
  rw [hs] at e
  exact (Option.some.inj e).symm
theorem vX4_lacksOf : z_okV mX4_lacksOf 4 2 := ⟨oX4_lacksOf, pX4_lacksOf, z_in (z_t5 76 (by decide +kernel)) rfl, z_in (z_tp 73 (by decide +kernel)) rfl, _, _, rfl⟩
abbrev mX4_stands : zM := (yX4_stands, cX4_stands, 5, Option.some Jvm.ClassFile.FieldType.int, 4)
theorem oX4_stands : z_ok mX4_stands := ⟨z_in (z_t5 73 (by decide +kernel)) rfl, z_iX4, by decide, by decide, by decide⟩
theorem pX4_stands : z_np mX4_stands 2 := fun sig hs => by
  have e : (parseMethodDescriptor yX4_stands.desc).map (fun d => d.parameters.length) = some 2 := by decide +kernel
  rw [hs] at e
  exact (Option.some.inj e).symm
theorem vX4_stands : z_okV mX4_stands 4 2 := ⟨oX4_stands, pX4_stands, z_in (z_t5 71 (by decide +kernel)) rfl, z_in (z_t5 72 (by decide +kernel)) rfl, _, _, rfl⟩
abbrev mX4_where : zM := (yX4_where, cX4_where, 4, Option.some Jvm.ClassFile.FieldType.int, 4)
theorem oX4_where : z_ok mX4_where := ⟨z_in (z_t5 105 (by decide +kernel)) rfl, z_iX4, by decide, by decide, by decide⟩
theorem pX4_where : z_np mX4_where 2 := fun sig hs => by
  have e : (parseMethodDescriptor yX4_where.desc).map (fun d => d.parameters.length) = some 2 := by decide +kernel
  rw [hs] at e
  exact (Option.some.inj e).symm
theorem vX4_where : z_okV mX4_where 4 2 := ⟨oX4_where, pX4_where, z_in (z_t5 103 (by decide +kernel)) rfl, z_in (z_t5 104 (by decide +kernel)) rfl, _, _, rfl⟩
abbrev mX4_worst : zM := (yX4_worst, cX4_worst, 7, Option.some Jvm.ClassFile.FieldType.int, 4)
theorem oX4_worst : z_ok mX4_worst := ⟨z_in (z_t5 113 (by decide +kernel)) rfl, z_iX4, by decide, by decide, by decide⟩
theorem pX4_worst : z_np mX4_worst 3 := fun sig hs => by
  have e : (parseMethodDescriptor yX4_worst.desc).map (fun d => d.parameters.length) = some 3 := by decide +kernel
  rw [hs] at e
  exact (Option.some.inj e).symm
theorem vX4_worst : z_okV mX4_worst 4 3 := ⟨oX4_worst, pX4_worst, z_in (z_t5 112 (by decide +kernel)) rfl, z_in (z_tp 79 (by decide +kernel)) rfl, _, _, rfl⟩
abbrev mX4_ear : zM := (yX4_ear, cX4_ear, 7, Option.some Jvm.ClassFile.FieldType.int, 5)
theorem oX4_ear : z_ok mX4_ear := ⟨z_in (z_t5 109 (by decide +kernel)) rfl, z_iX4, by decide, by decide, by decide⟩
theorem pX4_ear : z_np mX4_ear 2 := fun sig hs => by
  have e : (parseMethodDescriptor yX4_ear.desc).map (fun d => d.parameters.length) = some 2 := by decide +kernel
  rw [hs] at e
  exact (Option.some.inj e).symm
theorem vX4_ear : z_okV mX4_ear 4 2 := ⟨oX4_ear, pX4_ear, z_in (z_t5 107 (by decide +kernel)) rfl, z_in (z_t5 108 (by decide +kernel)) rfl, _, _, rfl⟩
abbrev mX4_whose : zM := (yX4_whose, cX4_whose, 4, Option.some Jvm.ClassFile.FieldType.int, 4)
theorem oX4_whose : z_ok mX4_whose := ⟨z_in (z_t5 117 (by decide +kernel)) rfl, z_iX4, by decide, by decide, by decide⟩
theorem pX4_whose : z_np mX4_whose 1 := fun sig hs => by
  have e : (parseMethodDescriptor yX4_whose.desc).map (fun d => d.parameters.length) = some 1 := by decide +kernel
  rw [hs] at e
  exact (Option.some.inj e).symm
theorem vX4_whose : z_okV mX4_whose 4 1 := ⟨oX4_whose, pX4_whose, z_in (z_t5 115 (by decide +kernel)) rfl, z_in (z_t5 116 (by decide +kernel)) rfl, _, _, rfl⟩
abbrev mX4_stockBehind : zM := (yX4_stockBehind, cX4_stockBehind, 5, Option.some Jvm.ClassFile.FieldType.int, 1)
theorem oX4_stockBehind : z_ok mX4_stockBehind := ⟨z_in (z_t5 124 (by decide +kernel)) rfl, z_iX4, by decide, by decide, by decide⟩
theorem pX4_stockBehind : z_np mX4_stockBehind 3 := fun sig hs => by
  have e : (parseMethodDescriptor yX4_stockBehind.desc).map (fun d => d.parameters.length) = some 3 := by decide +kernel
  rw [hs] at e
  exact (Option.some.inj e).symm
theorem sX4_stockBehind : z_okS mX4_stockBehind 3 := ⟨oX4_stockBehind, pX4_stockBehind, z_in (z_t5 123 (by decide +kernel)) rfl⟩
abbrev mX4_stock : zM := (yX4_stock, cX4_stock, 4, Option.some Jvm.ClassFile.FieldType.int, 2)
theorem oX4_stock : z_ok mX4_stock := ⟨z_in (z_t5 121 (by decide +kernel)) rfl, z_iX4, by decide, by decide, by decide⟩
theorem pX4_stock : z_np mX4_stock 3 := fun sig hs => by
  have e : (parseMethodDescriptor yX4_stock.desc).map (fun d => d.parameters.length) = some 3 := by decide +kernel
  rw [hs] at e
  exact (Option.some.inj e).symm
theorem vX4_stock : z_okV mX4_stock 4 3 := ⟨oX4_stock, pX4_stock, z_in (z_t5 119 (by decide +kernel)) rfl, z_in (z_t5 120 (by decide +kernel)) rfl, _, _, rfl⟩
abbrev mX4_lasts : zM := (yX4_lasts, cX4_lasts, 4, Option.some Jvm.ClassFile.FieldType.int, 2)
theorem oX4_lasts : z_ok mX4_lasts := ⟨z_in (z_t5 128 (by decide +kernel)) rfl, z_iX4, by decide, by decide, by decide⟩
theorem pX4_lasts : z_np mX4_lasts 2 := fun sig hs => by
  have e : (parseMethodDescriptor yX4_lasts.desc).map (fun d => d.parameters.length) = some 2 := by decide +kernel
  rw [hs] at e
  exact (Option.some.inj e).symm
theorem vX4_lasts : z_okV mX4_lasts 4 2 := ⟨oX4_lasts, pX4_lasts, z_in (z_t5 126 (by decide +kernel)) rfl, z_in (z_t5 127 (by decide +kernel)) rfl, _, _, rfl⟩
abbrev mX4_areRing : zM := (yX4_areRing, cX4_areRing, 6, Option.some Jvm.ClassFile.FieldType.boolean, 2)
theorem oX4_areRing : z_ok mX4_areRing := ⟨z_in (z_t5 140 (by decide +kernel)) rfl, z_iX4, by decide, by decide, by decide⟩
theorem pX4_areRing : z_np mX4_areRing 1 := fun sig hs => by
  have e : (parseMethodDescriptor yX4_areRing.desc).map (fun d => d.parameters.length) = some 1 := by decide +kernel
  rw [hs] at e
  exact (Option.some.inj e).symm
theorem vX4_areRing : z_okV mX4_areRing 4 1 := ⟨oX4_areRing, pX4_areRing, z_in (z_t5 139 (by decide +kernel)) rfl, z_in (z_tp 81 (by decide +kernel)) rfl, _, _, rfl⟩
abbrev mX4_stepBySteps : zM := (yX4_stepBySteps, cX4_stepBySteps, 4, Option.some Jvm.ClassFile.FieldType.boolean, 1)
theorem oX4_stepBySteps : z_ok mX4_stepBySteps := ⟨z_in (z_t5 146 (by decide +kernel)) rfl, z_iX4, by decide, by decide, by decide⟩
theorem pX4_stepBySteps : z_np mX4_stepBySteps 1 := fun sig hs => by
  have e : (parseMethodDescriptor yX4_stepBySteps.desc).map (fun d => d.parameters.length) = some 1 := by decide +kernel
  rw [hs] at e
  exact (Option.some.inj e).symm
theorem sX4_stepBySteps : z_okS mX4_stepBySteps 1 := ⟨oX4_stepBySteps, pX4_stepBySteps, z_in (z_t5 145 (by decide +kernel)) rfl⟩
abbrev mX4_greatest : zM := (yX4_greatest, cX4_greatest, 3, Option.some Jvm.ClassFile.FieldType.int, 3)
theorem oX4_greatest : z_ok mX4_greatest := ⟨z_in (z_t5 136 (by decide +kernel)) rfl, z_iX4, by decide, by decide, by decide⟩
theorem pX4_greatest : z_np mX4_greatest 0 := fun sig hs => by
  have e : (parseMethodDescriptor yX4_greatest.desc).map (fun d => d.parameters.length) = some 0 := by decide +kernel
  rw [hs] at e
  exact (Option.some.inj e).symm
theorem vX4_greatest : z_okV mX4_greatest 4 0 := ⟨oX4_greatest, pX4_greatest, z_in (z_t5 135 (by decide +kernel)) rfl, z_in (z_tp 80 (by decide +kernel)) rfl, _, _, rfl⟩
abbrev mX4_ring : zM := (yX4_ring, cX4_ring, 1, Option.some Jvm.ClassFile.FieldType.int, 4)
theorem oX4_ring : z_ok mX4_ring := ⟨z_in (z_t5 132 (by decide +kernel)) rfl, z_iX4, by decide, by decide, by decide⟩
theorem pX4_ring : z_np mX4_ring 0 := fun sig hs => by
  have e : (parseMethodDescriptor yX4_ring.desc).map (fun d => d.parameters.length) = some 0 := by decide +kernel
  rw [hs] at e
  exact (Option.some.inj e).symm
theorem vX4_ring : z_okV mX4_ring 4 0 := ⟨oX4_ring, pX4_ring, z_in (z_t5 130 (by decide +kernel)) rfl, z_in (z_t5 131 (by decide +kernel)) rfl, _, _, rfl⟩
abbrev mX4_rings : zM := (yX4_rings, cX4_rings, 1, Option.some Jvm.ClassFile.FieldType.int, 4)
theorem oX4_rings : z_ok mX4_rings := ⟨z_in (z_t5 150 (by decide +kernel)) rfl, z_iX4, by decide, by decide, by decide⟩
theorem pX4_rings : z_np mX4_rings 0 := fun sig hs => by
  have e : (parseMethodDescriptor yX4_rings.desc).map (fun d => d.parameters.length) = some 0 := by decide +kernel
  rw [hs] at e
  exact (Option.some.inj e).symm
theorem vX4_rings : z_okV mX4_rings 4 0 := ⟨oX4_rings, pX4_rings, z_in (z_t5 148 (by decide +kernel)) rfl, z_in (z_t5 149 (by decide +kernel)) rfl, _, _, rfl⟩
abbrev mX4_peals : zM := (yX4_peals, cX4_peals, 3, Option.some Jvm.ClassFile.FieldType.int, 3)
theorem oX4_peals : z_ok mX4_peals := ⟨z_in (z_t5 154 (by decide +kernel)) rfl, z_iX4, by decide, by decide, by decide⟩
theorem pX4_peals : z_np mX4_peals 0 := fun sig hs => by
  have e : (parseMethodDescriptor yX4_peals.desc).map (fun d => d.parameters.length) = some 0 := by decide +kernel
  rw [hs] at e
  exact (Option.some.inj e).symm
theorem vX4_peals : z_okV mX4_peals 4 0 := ⟨oX4_peals, pX4_peals, z_in (z_t5 152 (by decide +kernel)) rfl, z_in (z_t5 153 (by decide +kernel)) rfl, _, _, rfl⟩
abbrev mX4_longest : zM := (yX4_longest, cX4_longest, 5, Option.some Jvm.ClassFile.FieldType.int, 1)
theorem oX4_longest : z_ok mX4_longest := ⟨z_in (z_t5 161 (by decide +kernel)) rfl, z_iX4, by decide, by decide, by decide⟩
theorem pX4_longest : z_np mX4_longest 1 := fun sig hs => by
  have e : (parseMethodDescriptor yX4_longest.desc).map (fun d => d.parameters.length) = some 1 := by decide +kernel
  rw [hs] at e
  exact (Option.some.inj e).symm
theorem sX4_longest : z_okS mX4_longest 1 := ⟨oX4_longest, pX4_longest, z_in (z_t5 160 (by decide +kernel)) rfl⟩
abbrev mX4_wanted : zM := (yX4_wanted, cX4_wanted, 4, Option.some Jvm.ClassFile.FieldType.int, 2)
theorem oX4_wanted : z_ok mX4_wanted := ⟨z_in (z_t5 158 (by decide +kernel)) rfl, z_iX4, by decide, by decide, by decide⟩
theorem pX4_wanted : z_np mX4_wanted 0 := fun sig hs => by
  have e : (parseMethodDescriptor yX4_wanted.desc).map (fun d => d.parameters.length) = some 0 := by decide +kernel
  rw [hs] at e
  exact (Option.some.inj e).symm
theorem vX4_wanted : z_okV mX4_wanted 4 0 := ⟨oX4_wanted, pX4_wanted, z_in (z_t5 156 (by decide +kernel)) rfl, z_in (z_t5 157 (by decide +kernel)) rfl, _, _, rfl⟩
abbrev mX4_changes : zM := (yX4_changes, cX4_changes, 5, Option.some Jvm.ClassFile.FieldType.long, 1)
theorem oX4_changes : z_ok mX4_changes := ⟨z_in (z_t5 165 (by decide +kernel)) rfl, z_iX4, by decide, by decide, by decide⟩
theorem pX4_changes : z_np mX4_changes 1 := fun sig hs => by
  have e : (parseMethodDescriptor yX4_changes.desc).map (fun d => d.parameters.length) = some 1 := by decide +kernel
  rw [hs] at e
  exact (Option.some.inj e).symm
theorem vX4_changes : z_okV mX4_changes 4 1 := ⟨oX4_changes, pX4_changes, z_in (z_t5 163 (by decide +kernel)) rfl, z_in (z_t5 164 (by decide +kernel)) rfl, _, _, rfl⟩
abbrev mX4_drawn : zM := (yX4_drawn, cX4_drawn, 2, Option.some Jvm.ClassFile.FieldType.int, 0)
theorem oX4_drawn : z_ok mX4_drawn := ⟨z_in (z_t5 173 (by decide +kernel)) rfl, z_iX4, by decide, by decide, by decide⟩
theorem pX4_drawn : z_np mX4_drawn 1 := fun sig hs => by
  have e : (parseMethodDescriptor yX4_drawn.desc).map (fun d => d.parameters.length) = some 1 := by decide +kernel
  rw [hs] at e
  exact (Option.some.inj e).symm
theorem vX4_drawn : z_okV mX4_drawn 4 1 := ⟨oX4_drawn, pX4_drawn, z_in (z_t5 172 (by decide +kernel)) rfl, z_in (z_tp 82 (by decide +kernel)) rfl, _, _, rfl⟩
abbrev mX4_thunder : zM := (yX4_thunder, cX4_thunder, 5, Option.some Jvm.ClassFile.FieldType.int, 7)
theorem oX4_thunder : z_ok mX4_thunder := ⟨z_in (z_t5 169 (by decide +kernel)) rfl, z_iX4, by decide, by decide, by decide⟩
theorem pX4_thunder : z_np mX4_thunder 1 := fun sig hs => by
  have e : (parseMethodDescriptor yX4_thunder.desc).map (fun d => d.parameters.length) = some 1 := by decide +kernel
  rw [hs] at e
  exact (Option.some.inj e).symm
theorem vX4_thunder : z_okV mX4_thunder 4 1 := ⟨oX4_thunder, pX4_thunder, z_in (z_t5 167 (by decide +kernel)) rfl, z_in (z_t5 168 (by decide +kernel)) rfl, _, _, rfl⟩
abbrev mX4_seed : zM := (yX4_seed, cX4_seed, 2, Option.some Jvm.ClassFile.FieldType.int, 1)
theorem oX4_seed : z_ok mX4_seed := ⟨z_in (z_t5 178 (by decide +kernel)) rfl, z_iX4, by decide, by decide, by decide⟩
theorem pX4_seed : z_np mX4_seed 1 := fun sig hs => by
  have e : (parseMethodDescriptor yX4_seed.desc).map (fun d => d.parameters.length) = some 1 := by decide +kernel
  rw [hs] at e
  exact (Option.some.inj e).symm
theorem vX4_seed : z_okV mX4_seed 4 1 := ⟨oX4_seed, pX4_seed, z_in (z_t5 176 (by decide +kernel)) rfl, z_in (z_t5 177 (by decide +kernel)) rfl, _, _, rfl⟩
abbrev mX4_feed : zM := (yX4_feed, cX4_feed, 4, Option.some Jvm.ClassFile.FieldType.int, 1)
theorem oX4_feed : z_ok mX4_feed := ⟨z_in (z_t5 182 (by decide +kernel)) rfl, z_iX4, by decide, by decide, by decide⟩
theorem pX4_feed : z_np mX4_feed 2 := fun sig hs => by
  have e : (parseMethodDescriptor yX4_feed.desc).map (fun d => d.parameters.length) = some 2 := by decide +kernel
  rw [hs] at e
  exact (Option.some.inj e).symm
theorem vX4_feed : z_okV mX4_feed 4 2 := ⟨oX4_feed, pX4_feed, z_in (z_t5 180 (by decide +kernel)) rfl, z_in (z_t5 181 (by decide +kernel)) rfl, _, _, rfl⟩
abbrev mX4_wipe : zM := (yX4_wipe, cX4_wipe, 2, Option.some Jvm.ClassFile.FieldType.int, 0)
theorem oX4_wipe : z_ok mX4_wipe := ⟨z_in (z_t5 186 (by decide +kernel)) rfl, z_iX4, by decide, by decide, by decide⟩
theorem pX4_wipe : z_np mX4_wipe 0 := fun sig hs => by
  have e : (parseMethodDescriptor yX4_wipe.desc).map (fun d => d.parameters.length) = some 0 := by decide +kernel
  rw [hs] at e
  exact (Option.some.inj e).symm
theorem vX4_wipe : z_okV mX4_wipe 4 0 := ⟨oX4_wipe, pX4_wipe, z_in (z_t5 184 (by decide +kernel)) rfl, z_in (z_t5 185 (by decide +kernel)) rfl, _, _, rfl⟩
abbrev mX4_byteAt : zM := (yX4_byteAt, cX4_byteAt, 2, Option.some Jvm.ClassFile.FieldType.int, 0)
theorem oX4_byteAt : z_ok mX4_byteAt := ⟨z_in (z_t5 198 (by decide +kernel)) rfl, z_iX4, by decide, by decide, by decide⟩
theorem pX4_byteAt : z_np mX4_byteAt 1 := fun sig hs => by
  have e : (parseMethodDescriptor yX4_byteAt.desc).map (fun d => d.parameters.length) = some 1 := by decide +kernel
  rw [hs] at e
  exact (Option.some.inj e).symm
theorem vX4_byteAt : z_okV mX4_byteAt 4 1 := ⟨oX4_byteAt, pX4_byteAt, z_in (z_t5 197 (by decide +kernel)) rfl, z_in (z_tp 84 (by decide +kernel)) rfl, _, _, rfl⟩
abbrev mX4_next : zM := (yX4_next, cX4_next, 2, Option.none, 1)
theorem oX4_next : z_ok mX4_next := ⟨z_in (z_t5 194 (by decide +kernel)) rfl, z_iX4, by decide, by decide, by decide⟩
theorem pX4_next : z_np mX4_next 0 := fun sig hs => by
  have e : (parseMethodDescriptor yX4_next.desc).map (fun d => d.parameters.length) = some 0 := by decide +kernel
  rw [hs] at e
  exact (Option.some.inj e).symm
theorem vX4_next : z_okV mX4_next 4 0 := ⟨oX4_next, pX4_next, z_in (z_t5 193 (by decide +kernel)) rfl, z_in (z_tp 83 (by decide +kernel)) rfl, _, _, rfl⟩
abbrev mX4_isWord : zM := (yX4_isWord, cX4_isWord, 4, Option.some Jvm.ClassFile.FieldType.boolean, 6)
theorem oX4_isWord : z_ok mX4_isWord := ⟨z_in (z_t5 210 (by decide +kernel)) rfl, z_iX4, by decide, by decide, by decide⟩
theorem pX4_isWord : z_np mX4_isWord 1 := fun sig hs => by
  have e : (parseMethodDescriptor yX4_isWord.desc).map (fun d => d.parameters.length) = some 1 := by decide +kernel
  rw [hs] at e
  exact (Option.some.inj e).symm
theorem vX4_isWord : z_okV mX4_isWord 4 1 := ⟨oX4_isWord, pX4_isWord, z_in (z_t5 209 (by decide +kernel)) rfl, z_in (z_tp 87 (by decide +kernel)) rfl, _, _, rfl⟩
abbrev mX4_must : zM := (yX4_must, cX4_must, 2, Option.none, 2)
theorem oX4_must : z_ok mX4_must := ⟨z_in (z_t5 216 (by decide +kernel)) rfl, z_iX4, by decide, by decide, by decide⟩
theorem pX4_must : z_np mX4_must 1 := fun sig hs => by
  have e : (parseMethodDescriptor yX4_must.desc).map (fun d => d.parameters.length) = some 1 := by decide +kernel
  rw [hs] at e
  exact (Option.some.inj e).symm
theorem vX4_must : z_okV mX4_must 4 1 := ⟨oX4_must, pX4_must, z_in (z_t5 215 (by decide +kernel)) rfl, z_in (z_tp 88 (by decide +kernel)) rfl, _, _, rfl⟩
abbrev mX4_number : zM := (yX4_number, cX4_number, 4, Option.some Jvm.ClassFile.FieldType.int, 3)
theorem oX4_number : z_ok mX4_number := ⟨z_in (z_t5 225 (by decide +kernel)) rfl, z_iX4, by decide, by decide, by decide⟩
theorem pX4_number : z_np mX4_number 2 := fun sig hs => by
  have e : (parseMethodDescriptor yX4_number.desc).map (fun d => d.parameters.length) = some 2 := by decide +kernel
  rw [hs] at e
  exact (Option.some.inj e).symm
theorem vX4_number : z_okV mX4_number 4 2 := ⟨oX4_number, pX4_number, z_in (z_t5 224 (by decide +kernel)) rfl, z_in (z_tp 90 (by decide +kernel)) rfl, _, _, rfl⟩
abbrev mX4_item : zM := (yX4_item, cX4_item, 6, Option.none, 0)
theorem oX4_item : z_ok mX4_item := ⟨z_in (z_t5 231 (by decide +kernel)) rfl, z_iX4, by decide, by decide, by decide⟩
theorem pX4_item : z_np mX4_item 4 := fun sig hs => by
  have e : (parseMethodDescriptor yX4_item.desc).map (fun d => d.parameters.length) = some 4 := by decide +kernel
  rw [hs] at e
  exact (Option.some.inj e).symm
theorem vX4_item : z_okV mX4_item 4 4 := ⟨oX4_item, pX4_item, z_in (z_t5 230 (by decide +kernel)) rfl, z_in (z_tp 91 (by decide +kernel)) rfl, _, _, rfl⟩
abbrev mX4_kindTold : zM := (yX4_kindTold, cX4_kindTold, 3, Option.some Jvm.ClassFile.FieldType.int, 7)
theorem oX4_kindTold : z_ok mX4_kindTold := ⟨z_in (z_t5 206 (by decide +kernel)) rfl, z_iX4, by decide, by decide, by decide⟩
theorem pX4_kindTold : z_np mX4_kindTold 0 := fun sig hs => by
  have e : (parseMethodDescriptor yX4_kindTold.desc).map (fun d => d.parameters.length) = some 0 := by decide +kernel
  rw [hs] at e
  exact (Option.some.inj e).symm
theorem vX4_kindTold : z_okV mX4_kindTold 4 0 := ⟨oX4_kindTold, pX4_kindTold, z_in (z_t5 205 (by decide +kernel)) rfl, z_in (z_tp 86 (by decide +kernel)) rfl, _, _, rfl⟩
abbrev mX4_isNext : zM := (yX4_isNext, cX4_isNext, 3, Option.some Jvm.ClassFile.FieldType.boolean, 7)
theorem oX4_isNext : z_ok mX4_isNext := ⟨z_in (z_t5 221 (by decide +kernel)) rfl, z_iX4, by decide, by decide, by decide⟩
theorem pX4_isNext : z_np mX4_isNext 1 := fun sig hs => by
  have e : (parseMethodDescriptor yX4_isNext.desc).map (fun d => d.parameters.length) = some 1 := by decide +kernel
  rw [hs] at e
  exact (Option.some.inj e).symm
theorem vX4_isNext : z_okV mX4_isNext 4 1 := ⟨oX4_isNext, pX4_isNext, z_in (z_t5 220 (by decide +kernel)) rfl, z_in (z_tp 89 (by decide +kernel)) rfl, _, _, rfl⟩
abbrev mX4_readItem : zM := (yX4_readItem, cX4_readItem, 4, Option.none, 8)
theorem oX4_readItem : z_ok mX4_readItem := ⟨z_in (z_t5 202 (by decide +kernel)) rfl, z_iX4, by decide, by decide, by decide⟩
theorem pX4_readItem : z_np mX4_readItem 0 := fun sig hs => by
  have e : (parseMethodDescriptor yX4_readItem.desc).map (fun d => d.parameters.length) = some 0 := by decide +kernel
  rw [hs] at e
  exact (Option.some.inj e).symm
theorem vX4_readItem : z_okV mX4_readItem 4 0 := ⟨oX4_readItem, pX4_readItem, z_in (z_t5 201 (by decide +kernel)) rfl, z_in (z_tp 85 (by decide +kernel)) rfl, _, _, rfl⟩
abbrev mX4_isToldSo : zM := (yX4_isToldSo, cX4_isToldSo, 4, Option.some Jvm.ClassFile.FieldType.int, 2)
theorem oX4_isToldSo : z_ok mX4_isToldSo := ⟨z_in (z_t5 239 (by decide +kernel)) rfl, z_iX4, by decide, by decide, by decide⟩
theorem pX4_isToldSo : z_np mX4_isToldSo 1 := fun sig hs => by
  have e : (parseMethodDescriptor yX4_isToldSo.desc).map (fun d => d.parameters.length) = some 1 := by decide +kernel
  rw [hs] at e
  exact (Option.some.inj e).symm
theorem vX4_isToldSo : z_okV mX4_isToldSo 4 1 := ⟨oX4_isToldSo, pX4_isToldSo, z_in (z_t5 238 (by decide +kernel)) rfl, z_in (z_tp 92 (by decide +kernel)) rfl, _, _, rfl⟩
abbrev mX4_text : zM := (yX4_text, cX4_text, 3, Option.some Jvm.ClassFile.FieldType.int, 9)
theorem oX4_text : z_ok mX4_text := ⟨z_in (z_t5 190 (by decide +kernel)) rfl, z_iX4, by decide, by decide, by decide⟩
theorem pX4_text : z_np mX4_text 0 := fun sig hs => by
  have e : (parseMethodDescriptor yX4_text.desc).map (fun d => d.parameters.length) = some 0 := by decide +kernel
  rw [hs] at e
  exact (Option.some.inj e).symm
theorem vX4_text : z_okV mX4_text 4 0 := ⟨oX4_text, pX4_text, z_in (z_t5 188 (by decide +kernel)) rfl, z_in (z_t5 189 (by decide +kernel)) rfl, _, _, rfl⟩
abbrev mX4_isSpot : zM := (yX4_isSpot, cX4_isSpot, 1, Option.some Jvm.ClassFile.FieldType.boolean, 1)
theorem oX4_isSpot : z_ok mX4_isSpot := ⟨z_in (z_t6 6 (by decide +kernel)) rfl, z_iX4, by decide, by decide, by decide⟩
theorem pX4_isSpot : z_np mX4_isSpot 1 := fun sig hs => by
  have e : (parseMethodDescriptor yX4_isSpot.desc).map (fun d => d.parameters.length) = some 1 := by decide +kernel
  rw [hs] at e
  exact (Option.some.inj e).symm
theorem sX4_isSpot : z_okS mX4_isSpot 1 := ⟨oX4_isSpot, pX4_isSpot, z_in (z_t6 5 (by decide +kernel)) rfl⟩
abbrev mX4_hold : zM := (yX4_hold, cX4_hold, 3, Option.some Jvm.ClassFile.FieldType.int, 2)
theorem oX4_hold : z_ok mX4_hold := ⟨z_in (z_t6 3 (by decide +kernel)) rfl, z_iX4, by decide, by decide, by decide⟩
theorem pX4_hold : z_np mX4_hold 2 := fun sig hs => by
  have e : (parseMethodDescriptor yX4_hold.desc).map (fun d => d.parameters.length) = some 2 := by decide +kernel
  rw [hs] at e
  exact (Option.some.inj e).symm
theorem vX4_hold : z_okV mX4_hold 4 2 := ⟨oX4_hold, pX4_hold, z_in (z_t6 1 (by decide +kernel)) rfl, z_in (z_t6 2 (by decide +kernel)) rfl, _, _, rfl⟩
abbrev mX4_as : zM := (yX4_as, cX4_as, 4, Option.some Jvm.ClassFile.FieldType.int, 2)
theorem oX4_as : z_ok mX4_as := ⟨z_in (z_t6 10 (by decide +kernel)) rfl, z_iX4, by decide, by decide, by decide⟩
theorem pX4_as : z_np mX4_as 2 := fun sig hs => by
  have e : (parseMethodDescriptor yX4_as.desc).map (fun d => d.parameters.length) = some 2 := by decide +kernel
  rw [hs] at e
  exact (Option.some.inj e).symm
theorem vX4_as : z_okV mX4_as 4 2 := ⟨oX4_as, pX4_as, z_in (z_t6 8 (by decide +kernel)) rfl, z_in (z_t6 9 (by decide +kernel)) rfl, _, _, rfl⟩
abbrev mX4_isSheet : zM := (yX4_isSheet, cX4_isSheet, 1, Option.some Jvm.ClassFile.FieldType.boolean, 1)
theorem oX4_isSheet : z_ok mX4_isSheet := ⟨z_in (z_t5 84 (by decide +kernel)) rfl, z_iX4, by decide, by decide, by decide⟩
theorem pX4_isSheet : z_np mX4_isSheet 1 := fun sig hs => by
  have e : (parseMethodDescriptor yX4_isSheet.desc).map (fun d => d.parameters.length) = some 1 := by decide +kernel
  rw [hs] at e
  exact (Option.some.inj e).symm
theorem sX4_isSheet : z_okS mX4_isSheet 1 := ⟨oX4_isSheet, pX4_isSheet, z_in (z_t5 83 (by decide +kernel)) rfl⟩
abbrev mX4_cutTo : zM := (yX4_cutTo, cX4_cutTo, 2, Option.some Jvm.ClassFile.FieldType.int, 0)
theorem oX4_cutTo : z_ok mX4_cutTo := ⟨z_in (z_t6 23 (by decide +kernel)) rfl, z_iX4, by decide, by decide, by decide⟩
theorem pX4_cutTo : z_np mX4_cutTo 2 := fun sig hs => by
  have e : (parseMethodDescriptor yX4_cutTo.desc).map (fun d => d.parameters.length) = some 2 := by decide +kernel
  rw [hs] at e
  exact (Option.some.inj e).symm
theorem sX4_cutTo : z_okS mX4_cutTo 2 := ⟨oX4_cutTo, pX4_cutTo, z_in (z_t6 22 (by decide +kernel)) rfl⟩
abbrev mX4_sheet : zM := (yX4_sheet, cX4_sheet, 5, Option.some Jvm.ClassFile.FieldType.int, 2)
theorem oX4_sheet : z_ok mX4_sheet := ⟨z_in (z_t6 15 (by decide +kernel)) rfl, z_iX4, by decide, by decide, by decide⟩
theorem pX4_sheet : z_np mX4_sheet 3 := fun sig hs => by
  have e : (parseMethodDescriptor yX4_sheet.desc).map (fun d => d.parameters.length) = some 3 := by decide +kernel
  rw [hs] at e
  exact (Option.some.inj e).symm
theorem vX4_sheet : z_okV mX4_sheet 4 3 := ⟨oX4_sheet, pX4_sheet, z_in (z_t6 13 (by decide +kernel)) rfl, z_in (z_t6 14 (by decide +kernel)) rfl, _, _, rfl⟩
abbrev mX4_write : zM := (yX4_write, cX4_write, 4, Option.some Jvm.ClassFile.FieldType.int, 2)
theorem oX4_write : z_ok mX4_write := ⟨z_in (z_t6 20 (by decide +kernel)) rfl, z_iX4, by decide, by decide, by decide⟩
theorem pX4_write : z_np mX4_write 3 := fun sig hs => by
  have e : (parseMethodDescriptor yX4_write.desc).map (fun d => d.parameters.length) = some 3 := by decide +kernel
  rw [hs] at e
  exact (Option.some.inj e).symm
theorem vX4_write : z_okV mX4_write 4 3 := ⟨oX4_write, pX4_write, z_in (z_t6 18 (by decide +kernel)) rfl, z_in (z_t6 19 (by decide +kernel)) rfl, _, _, rfl⟩
abbrev mX4_copy : zM := (yX4_copy, cX4_copy, 7, Option.some Jvm.ClassFile.FieldType.int, 2)
theorem oX4_copy : z_ok mX4_copy := ⟨z_in (z_t6 27 (by decide +kernel)) rfl, z_iX4, by decide, by decide, by decide⟩
theorem pX4_copy : z_np mX4_copy 5 := fun sig hs => by
  have e : (parseMethodDescriptor yX4_copy.desc).map (fun d => d.parameters.length) = some 5 := by decide +kernel
  rw [hs] at e
  exact (Option.some.inj e).symm
theorem vX4_copy : z_okV mX4_copy 4 5 := ⟨oX4_copy, pX4_copy, z_in (z_t6 25 (by decide +kernel)) rfl, z_in (z_t6 26 (by decide +kernel)) rfl, _, _, rfl⟩
abbrev mX4_load : zM := (yX4_load, cX4_load, 3, Option.some Jvm.ClassFile.FieldType.int, 3)
theorem oX4_load : z_ok mX4_load := ⟨z_in (z_t6 31 (by decide +kernel)) rfl, z_iX4, by decide, by decide, by decide⟩
theorem pX4_load : z_np mX4_load 1 := fun sig hs => by
  have e : (parseMethodDescriptor yX4_load.desc).map (fun d => d.parameters.length) = some 1 := by decide +kernel
  rw [hs] at e
  exact (Option.some.inj e).symm
theorem vX4_load : z_okV mX4_load 4 1 := ⟨oX4_load, pX4_load, z_in (z_t6 29 (by decide +kernel)) rfl, z_in (z_t6 30 (by decide +kernel)) rfl, _, _, rfl⟩
abbrev mX4_judge : zM := (yX4_judge, cX4_judge, 6, Option.some Jvm.ClassFile.FieldType.int, 3)
theorem oX4_judge : z_ok mX4_judge := ⟨z_in (z_t6 35 (by decide +kernel)) rfl, z_iX4, by decide, by decide, by decide⟩
theorem pX4_judge : z_np mX4_judge 1 := fun sig hs => by
  have e : (parseMethodDescriptor yX4_judge.desc).map (fun d => d.parameters.length) = some 1 := by decide +kernel
  rw [hs] at e
  exact (Option.some.inj e).symm
theorem vX4_judge : z_okV mX4_judge 4 1 := ⟨oX4_judge, pX4_judge, z_in (z_t6 33 (by decide +kernel)) rfl, z_in (z_t6 34 (by decide +kernel)) rfl, _, _, rfl⟩
abbrev mX4_image : zM := (yX4_image, cX4_image, 1, Option.some Jvm.ClassFile.FieldType.int, 1)
theorem oX4_image : z_ok mX4_image := ⟨z_in (z_t6 39 (by decide +kernel)) rfl, z_iX4, by decide, by decide, by decide⟩
theorem pX4_image : z_np mX4_image 0 := fun sig hs => by
  have e : (parseMethodDescriptor yX4_image.desc).map (fun d => d.parameters.length) = some 0 := by decide +kernel
  rw [hs] at e
  exact (Option.some.inj e).symm
theorem vX4_image : z_okV mX4_image 4 0 := ⟨oX4_image, pX4_image, z_in (z_t6 37 (by decide +kernel)) rfl, z_in (z_t6 38 (by decide +kernel)) rfl, _, _, rfl⟩
abbrev mX4_undo : zM := (yX4_undo, cX4_undo, 1, Option.some Jvm.ClassFile.FieldType.int, 1)
theorem oX4_undo : z_ok mX4_undo := ⟨z_in (z_t6 43 (by decide +kernel)) rfl, z_iX4, by decide, by decide, by decide⟩
theorem pX4_undo : z_np mX4_undo 0 := fun sig hs => by
  have e : (parseMethodDescriptor yX4_undo.desc).map (fun d => d.parameters.length) = some 0 := by decide +kernel
  rw [hs] at e
  exact (Option.some.inj e).symm
theorem vX4_undo : z_okV mX4_undo 4 0 := ⟨oX4_undo, pX4_undo, z_in (z_t6 41 (by decide +kernel)) rfl, z_in (z_t6 42 (by decide +kernel)) rfl, _, _, rfl⟩
abbrev mX4_tear : zM := (yX4_tear, cX4_tear, 2, Option.some Jvm.ClassFile.FieldType.int, 0)
theorem oX4_tear : z_ok mX4_tear := ⟨z_in (z_t6 47 (by decide +kernel)) rfl, z_iX4, by decide, by decide, by decide⟩
theorem pX4_tear : z_np mX4_tear 0 := fun sig hs => by
  have e : (parseMethodDescriptor yX4_tear.desc).map (fun d => d.parameters.length) = some 0 := by decide +kernel
  rw [hs] at e
  exact (Option.some.inj e).symm
theorem vX4_tear : z_okV mX4_tear 4 0 := ⟨oX4_tear, pX4_tear, z_in (z_t6 45 (by decide +kernel)) rfl, z_in (z_t6 46 (by decide +kernel)) rfl, _, _, rfl⟩
abbrev mX4_count : zM := (yX4_count, cX4_count, 4, Option.some Jvm.ClassFile.FieldType.int, 4)
theorem oX4_count : z_ok mX4_count := ⟨z_in (z_t6 51 (by decide +kernel)) rfl, z_iX4, by decide, by decide, by decide⟩
theorem pX4_count : z_np mX4_count 1 := fun sig hs => by
  have e : (parseMethodDescriptor yX4_count.desc).map (fun d => d.parameters.length) = some 1 := by decide +kernel
  rw [hs] at e
  exact (Option.some.inj e).symm
theorem vX4_count : z_okV mX4_count 4 1 := ⟨oX4_count, pX4_count, z_in (z_t6 49 (by decide +kernel)) rfl, z_in (z_t6 50 (by decide +kernel)) rfl, _, _, rfl⟩
abbrev mX4_status : zM := (yX4_status, cX4_status, 2, Option.some Jvm.ClassFile.FieldType.int, 1)
theorem oX4_status : z_ok mX4_status := ⟨z_in (z_t6 55 (by decide +kernel)) rfl, z_iX4, by decide, by decide, by decide⟩
theorem pX4_status : z_np mX4_status 1 := fun sig hs => by
  have e : (parseMethodDescriptor yX4_status.desc).map (fun d => d.parameters.length) = some 1 := by decide +kernel
  rw [hs] at e
  exact (Option.some.inj e).symm
theorem vX4_status : z_okV mX4_status 4 1 := ⟨oX4_status, pX4_status, z_in (z_t6 53 (by decide +kernel)) rfl, z_in (z_t6 54 (by decide +kernel)) rfl, _, _, rfl⟩
abbrev mJ6_bitCount_0f7a4 : zM := (yJ6_bitCount_0f7a4, cJ6_bitCount_0f7a4, 1, Option.some Jvm.ClassFile.FieldType.int, 0)
theorem oJ6_bitCount_0f7a4 : z_ok mJ6_bitCount_0f7a4 := ⟨z_in (z_t2 80 (by decide +kernel)) rfl, z_iJ6, by decide, by decide, by decide⟩
theorem pJ6_bitCount_0f7a4 : z_np mJ6_bitCount_0f7a4 1 := fun sig hs => by
  have e : (parseMethodDescriptor yJ6_bitCount_0f7a4.desc).map (fun d => d.parameters.length) = some 1 := by decide +kernel
  rw [hs] at e
  exact (Option.some.inj e).symm
theorem sJ6_bitCount_0f7a4 : z_okS mJ6_bitCount_0f7a4 1 := ⟨oJ6_bitCount_0f7a4, pJ6_bitCount_0f7a4, z_in (z_t2 79 (by decide +kernel)) rfl⟩
abbrev mJ13_bitCount_95d88 : zM := (yJ13_bitCount_95d88, cJ13_bitCount_95d88, 2, Option.some Jvm.ClassFile.FieldType.int, 0)
theorem oJ13_bitCount_95d88 : z_ok mJ13_bitCount_95d88 := ⟨z_in (z_t2 90 (by decide +kernel)) rfl, z_iJ13, by decide, by decide, by decide⟩
theorem pJ13_bitCount_95d88 : z_np mJ13_bitCount_95d88 1 := fun sig hs => by
  have e : (parseMethodDescriptor yJ13_bitCount_95d88.desc).map (fun d => d.parameters.length) = some 1 := by decide +kernel
  rw [hs] at e
  exact (Option.some.inj e).symm
theorem sJ13_bitCount_95d88 : z_okS mJ13_bitCount_95d88 1 := ⟨oJ13_bitCount_95d88, pJ13_bitCount_95d88, z_in (z_t2 89 (by decide +kernel)) rfl⟩
abbrev mJ9_abs_0f7a4 : zM := (yJ9_abs_0f7a4, cJ9_abs_0f7a4, 1, Option.some Jvm.ClassFile.FieldType.int, 0)
abbrev mJ9_max_7cf53 : zM := (yJ9_max_7cf53, cJ9_max_7cf53, 2, Option.some Jvm.ClassFile.FieldType.int, 0)
abbrev mJ9_min_7cf53 : zM := (yJ9_min_7cf53, cJ9_min_7cf53, 2, Option.some Jvm.ClassFile.FieldType.int, 0)
abbrev mJ0_length_8abf5 : zM := (yJ0_length_8abf5, cJ0_length_8abf5, 1, Option.some Jvm.ClassFile.FieldType.int, 1)
theorem oJ0_length_8abf5 : z_ok mJ0_length_8abf5 := ⟨z_in (z_t3 78 (by decide +kernel)) rfl, z_iJ0, by decide, by decide, by decide⟩
theorem pJ0_length_8abf5 : z_np mJ0_length_8abf5 0 := fun sig hs => by
  have e : (parseMethodDescriptor yJ0_length_8abf5.desc).map (fun d => d.parameters.length) = some 0 := by decide +kernel
  rw [hs] at e
  exact (Option.some.inj e).symm
theorem viJ0_length_8abf5 : Cond.instanceMethod yJ0_length_8abf5 ∈ z_T := z_in (z_t3 76 (by decide +kernel)) rfl
theorem vsJ0_length_8abf5 : Cond.selects RJ0 yJ0_length_8abf5 yJ0_length_8abf5 ∈ z_T := z_in (z_t3 77 (by decide +kernel)) rfl
abbrev mJ0_charAt_5068e : zM := (yJ0_charAt_5068e, cJ0_charAt_5068e, 2, Option.some Jvm.ClassFile.FieldType.char, 5)
theorem oJ0_charAt_5068e : z_ok mJ0_charAt_5068e := ⟨z_in (z_t3 88 (by decide +kernel)) rfl, z_iJ0, by decide, by decide, by decide⟩
theorem pJ0_charAt_5068e : z_np mJ0_charAt_5068e 1 := fun sig hs => by
  have e : (parseMethodDescriptor yJ0_charAt_5068e.desc).map (fun d => d.parameters.length) = some 1 := by decide +kernel
  rw [hs] at e
  exact (Option.some.inj e).symm
theorem viJ0_charAt_5068e : Cond.instanceMethod yJ0_charAt_5068e ∈ z_T := z_in (z_t3 86 (by decide +kernel)) rfl
theorem vsJ0_charAt_5068e : Cond.selects RJ0 yJ0_charAt_5068e yJ0_charAt_5068e ∈ z_T := z_in (z_t3 87 (by decide +kernel)) rfl
abbrev mJ0_coder_7d493 : zM := (yJ0_coder_7d493, cJ0_coder_7d493, 1, Option.some Jvm.ClassFile.FieldType.byte, 0)
theorem oJ0_coder_7d493 : z_ok mJ0_coder_7d493 := ⟨z_in (z_t3 82 (by decide +kernel)) rfl, z_iJ0, by decide, by decide, by decide⟩
theorem pJ0_coder_7d493 : z_np mJ0_coder_7d493 0 := fun sig hs => by
  have e : (parseMethodDescriptor yJ0_coder_7d493.desc).map (fun d => d.parameters.length) = some 0 := by decide +kernel
  rw [hs] at e
  exact (Option.some.inj e).symm
theorem viJ0_coder_7d493 : Cond.instanceMethod yJ0_coder_7d493 ∈ z_T := z_in (z_t3 80 (by decide +kernel)) rfl
theorem vsJ0_coder_7d493 : Cond.selects RJ0 yJ0_coder_7d493 yJ0_coder_7d493 ∈ z_T := z_in (z_t3 81 (by decide +kernel)) rfl
abbrev mJ0_isLatin1_aae02 : zM := (yJ0_isLatin1_aae02, cJ0_isLatin1_aae02, 1, Option.some Jvm.ClassFile.FieldType.boolean, 0)
theorem oJ0_isLatin1_aae02 : z_ok mJ0_isLatin1_aae02 := ⟨z_in (z_t3 92 (by decide +kernel)) rfl, z_iJ0, by decide, by decide, by decide⟩
theorem pJ0_isLatin1_aae02 : z_np mJ0_isLatin1_aae02 0 := fun sig hs => by
  have e : (parseMethodDescriptor yJ0_isLatin1_aae02.desc).map (fun d => d.parameters.length) = some 0 := by decide +kernel
  rw [hs] at e
  exact (Option.some.inj e).symm
theorem viJ0_isLatin1_aae02 : Cond.instanceMethod yJ0_isLatin1_aae02 ∈ z_T := z_in (z_t3 90 (by decide +kernel)) rfl
theorem vsJ0_isLatin1_aae02 : Cond.selects RJ0 yJ0_isLatin1_aae02 yJ0_isLatin1_aae02 ∈ z_T := z_in (z_t3 91 (by decide +kernel)) rfl
abbrev mJ0_checkIndex_df160 : zM := (yJ0_checkIndex_df160, cJ0_checkIndex_df160, 2, Option.none, 2)
theorem oJ0_checkIndex_df160 : z_ok mJ0_checkIndex_df160 := ⟨z_in (z_t3 98 (by decide +kernel)) rfl, z_iJ0, by decide, by decide, by decide⟩
theorem pJ0_checkIndex_df160 : z_np mJ0_checkIndex_df160 2 := fun sig hs => by
  have e : (parseMethodDescriptor yJ0_checkIndex_df160.desc).map (fun d => d.parameters.length) = some 2 := by decide +kernel
  rw [hs] at e
  exact (Option.some.inj e).symm
theorem sJ0_checkIndex_df160 : z_okS mJ0_checkIndex_df160 2 := ⟨oJ0_checkIndex_df160, pJ0_checkIndex_df160, z_in (z_t3 97 (by decide +kernel)) rfl⟩
abbrev mJ1_charAt_3b067 : zM := (yJ1_charAt_3b067, cJ1_charAt_3b067, 2, Option.some Jvm.ClassFile.FieldType.char, 3)
theorem oJ1_charAt_3b067 : z_ok mJ1_charAt_3b067 := ⟨z_in (z_t3 95 (by decide +kernel)) rfl, z_iJ1, by decide, by decide, by decide⟩
theorem pJ1_charAt_3b067 : z_np mJ1_charAt_3b067 2 := fun sig hs => by
  have e : (parseMethodDescriptor yJ1_charAt_3b067.desc).map (fun d => d.parameters.length) = some 2 := by decide +kernel
  rw [hs] at e
  exact (Option.some.inj e).symm
theorem sJ1_charAt_3b067 : z_okS mJ1_charAt_3b067 2 := ⟨oJ1_charAt_3b067, pJ1_charAt_3b067, z_in (z_t3 94 (by decide +kernel)) rfl⟩
abbrev mJ3_checkIndex_8e157 : zM := (yJ3_checkIndex_8e157, cJ3_checkIndex_8e157, 3, Option.some Jvm.ClassFile.FieldType.int, 1)
theorem oJ3_checkIndex_8e157 : z_ok mJ3_checkIndex_8e157 := ⟨z_in (z_t3 103 (by decide +kernel)) rfl, z_iJ3, by decide, by decide, by decide⟩
theorem pJ3_checkIndex_8e157 : z_np mJ3_checkIndex_8e157 3 := fun sig hs => by
  have e : (parseMethodDescriptor yJ3_checkIndex_8e157.desc).map (fun d => d.parameters.length) = some 3 := by decide +kernel
  rw [hs] at e
  exact (Option.some.inj e).symm
theorem sJ3_checkIndex_8e157 : z_okS mJ3_checkIndex_8e157 3 := ⟨oJ3_checkIndex_8e157, pJ3_checkIndex_8e157, z_in (z_t3 102 (by decide +kernel)) rfl⟩
theorem kX3_10 : z_Lk RX3 10 3 0 (.object "WildBells$Woods") true := ⟨RX3, TX3, 8, tyX3, z_k3, by decide, rfl, rfl, Or.inl (z_in (z_t1 141 (by decide +kernel)) rfl)⟩
theorem kX3_16 : z_Lk RX3 16 3 1 (.object "WildBells$Woods") true := ⟨RX3, TX3, 8, tyX3, z_k3, by decide, rfl, rfl, Or.inl (z_in (z_t1 142 (by decide +kernel)) rfl)⟩
theorem kX3_19 : z_Lk RX3 19 3 2 (.object "WildBells$Woods") true := ⟨RX3, TX3, 8, tyX3, z_k3, by decide, rfl, rfl, Or.inl (z_in (z_t1 143 (by decide +kernel)) rfl)⟩
theorem kX3_22 : z_Lk RX3 22 3 3 .boolean false := ⟨RX3, TX3, 8, tyX3, z_k3, by decide, rfl, rfl, Or.inl (z_in (z_t1 144 (by decide +kernel)) rfl)⟩
theorem kX3_29 : z_Lk RX3 29 3 4 (.object "WildBells$Tape") true := ⟨RX3, TX3, 8, tyX3, z_k3, by decide, rfl, rfl, Or.inl (z_in (z_t1 145 (by decide +kernel)) rfl)⟩
theorem kX3_35 : z_Lk RX3 35 3 5 (.array (.object "WildBells$Sheet")) true := ⟨RX3, TX3, 8, tyX3, z_k3, by decide, rfl, rfl, Or.inl (z_in (z_t1 146 (by decide +kernel)) rfl)⟩
theorem kX3_40 : z_Lk RX3 40 3 6 (.array .int) true := ⟨RX3, TX3, 8, tyX3, z_k3, by decide, rfl, rfl, Or.inl (z_in (z_t1 147 (by decide +kernel)) rfl)⟩
theorem kX3_44 : z_Lk RX3 44 3 7 (.array .int) true := ⟨RX3, TX3, 8, tyX3, z_k3, by decide, rfl, rfl, Or.inl (z_in (z_t1 148 (by decide +kernel)) rfl)⟩
theorem kX0_9 : z_Lk RX0 9 0 2 (.array .int) true := ⟨RX0, TX0, 3, tyX0, z_k0, by decide, rfl, rfl, Or.inl (z_in (z_t1 132 (by decide +kernel)) rfl)⟩
theorem kX0_15 : z_Lk RX0 15 0 0 .int false := ⟨RX0, TX0, 3, tyX0, z_k0, by decide, rfl, rfl, Or.inl (z_in (z_t1 128 (by decide +kernel)) rfl)⟩
theorem kX0_19 : z_Lk RX0 19 0 1 .int false := ⟨RX0, TX0, 3, tyX0, z_k0, by decide, rfl, rfl, Or.inl (z_in (z_t1 130 (by decide +kernel)) rfl)⟩
theorem kX1_9 : z_Lk RX1 9 1 0 (.array .int) true := ⟨RX1, TX1, 7, tyX1, z_k1, by decide, rfl, rfl, Or.inl (z_in (z_t1 98 (by decide +kernel)) rfl)⟩
theorem kX1_15 : z_Lk RX1 15 1 1 .int false := ⟨RX1, TX1, 7, tyX1, z_k1, by decide, rfl, rfl, Or.inl (z_in (z_t1 99 (by decide +kernel)) rfl)⟩
theorem kX1_19 : z_Lk RX1 19 1 6 .int false := ⟨RX1, TX1, 7, tyX1, z_k1, by decide, rfl, rfl, Or.inl (z_in (z_t1 105 (by decide +kernel)) rfl)⟩
theorem kX1_22 : z_Lk RX1 22 1 4 .int false := ⟨RX1, TX1, 7, tyX1, z_k1, by decide, rfl, rfl, Or.inl (z_in (z_t1 103 (by decide +kernel)) rfl)⟩
theorem kX1_32 : z_Lk RX1 32 1 2 .int false := ⟨RX1, TX1, 7, tyX1, z_k1, by decide, rfl, rfl, Or.inl (z_in (z_t1 101 (by decide +kernel)) rfl)⟩
theorem kX1_35 : z_Lk RX1 35 1 3 .int false := ⟨RX1, TX1, 7, tyX1, z_k1, by decide, rfl, rfl, Or.inl (z_in (z_t1 102 (by decide +kernel)) rfl)⟩
theorem kX1_38 : z_Lk RX1 38 1 5 .int false := ⟨RX1, TX1, 7, tyX1, z_k1, by decide, rfl, rfl, Or.inl (z_in (z_t1 104 (by decide +kernel)) rfl)⟩
theorem kX2_9 : z_Lk RX2 9 2 2 (.array .int) true := ⟨RX2, TX2, 14, tyX2, z_k2, by decide, rfl, rfl, Or.inl (z_in (z_t1 32 (by decide +kernel)) rfl)⟩
theorem kX2_15 : z_Lk RX2 15 2 3 (.array .int) true := ⟨RX2, TX2, 14, tyX2, z_k2, by decide, rfl, rfl, Or.inl (z_in (z_t1 35 (by decide +kernel)) rfl)⟩
theorem kX2_18 : z_Lk RX2 18 2 6 (.array .int) true := ⟨RX2, TX2, 14, tyX2, z_k2, by decide, rfl, rfl, Or.inl (z_in (z_t1 44 (by decide +kernel)) rfl)⟩
theorem kX2_21 : z_Lk RX2 21 2 7 (.array .int) true := ⟨RX2, TX2, 14, tyX2, z_k2, by decide, rfl, rfl, Or.inl (z_in (z_t1 46 (by decide +kernel)) rfl)⟩
theorem kX2_24 : z_Lk RX2 24 2 8 (.array .int) true := ⟨RX2, TX2, 14, tyX2, z_k2, by decide, rfl, rfl, Or.inl (z_in (z_t1 48 (by decide +kernel)) rfl)⟩
theorem kX2_27 : z_Lk RX2 27 2 9 (.array .int) true := ⟨RX2, TX2, 14, tyX2, z_k2, by decide, rfl, rfl, Or.inl (z_in (z_t1 51 (by decide +kernel)) rfl)⟩
theorem kX2_30 : z_Lk RX2 30 2 12 (.array .int) true := ⟨RX2, TX2, 14, tyX2, z_k2, by decide, rfl, rfl, Or.inl (z_in (z_t1 58 (by decide +kernel)) rfl)⟩
theorem kX2_33 : z_Lk RX2 33 2 4 .int false := ⟨RX2, TX2, 14, tyX2, z_k2, by decide, rfl, rfl, Or.inl (z_in (z_t1 38 (by decide +kernel)) rfl)⟩
theorem kX2_37 : z_Lk RX2 37 2 11 .int false := ⟨RX2, TX2, 14, tyX2, z_k2, by decide, rfl, rfl, Or.inl (z_in (z_t1 56 (by decide +kernel)) rfl)⟩
theorem kX2_40 : z_Lk RX2 40 2 0 .int false := ⟨RX2, TX2, 14, tyX2, z_k2, by decide, rfl, rfl, Or.inl (z_in (z_t1 28 (by decide +kernel)) rfl)⟩
theorem kX2_43 : z_Lk RX2 43 2 1 .long false := ⟨RX2, TX2, 14, tyX2, z_k2, by decide, rfl, rfl, Or.inl (z_in (z_t1 30 (by decide +kernel)) rfl)⟩
theorem kX2_47 : z_Lk RX2 47 2 5 .int false := ⟨RX2, TX2, 14, tyX2, z_k2, by decide, rfl, rfl, Or.inl (z_in (z_t1 41 (by decide +kernel)) rfl)⟩
theorem kX2_50 : z_Lk RX2 50 2 10 .int false := ⟨RX2, TX2, 14, tyX2, z_k2, by decide, rfl, rfl, Or.inl (z_in (z_t1 54 (by decide +kernel)) rfl)⟩
theorem kX2_53 : z_Lk RX2 53 2 13 .long false := ⟨RX2, TX2, 14, tyX2, z_k2, by decide, rfl, rfl, Or.inl (z_in (z_t1 60 (by decide +kernel)) rfl)⟩
theorem kX4_9 : z_Lk RX4 9 4 0 (.array .int) true := ⟨RX4, TX4, 24, tyX4, z_k4, by decide, rfl, rfl, Or.inl (z_in (z_t4 9 (by decide +kernel)) rfl)⟩
theorem kX4_13 : z_Lk RX4 13 4 1 (.array .int) true := ⟨RX4, TX4, 24, tyX4, z_k4, by decide, rfl, rfl, Or.inl (z_in (z_t4 10 (by decide +kernel)) rfl)⟩
theorem kX4_16 : z_Lk RX4 16 4 2 (.array .int) true := ⟨RX4, TX4, 24, tyX4, z_k4, by decide, rfl, rfl, Or.inl (z_in (z_t4 11 (by decide +kernel)) rfl)⟩
theorem kX4_19 : z_Lk RX4 19 4 4 (.array .int) true := ⟨RX4, TX4, 24, tyX4, z_k4, by decide, rfl, rfl, Or.inl (z_in (z_t4 13 (by decide +kernel)) rfl)⟩
theorem kX4_22 : z_Lk RX4 22 4 5 (.array .int) true := ⟨RX4, TX4, 24, tyX4, z_k4, by decide, rfl, rfl, Or.inl (z_in (z_t4 14 (by decide +kernel)) rfl)⟩
theorem kX4_25 : z_Lk RX4 25 4 6 (.array .int) true := ⟨RX4, TX4, 24, tyX4, z_k4, by decide, rfl, rfl, Or.inl (z_in (z_t4 15 (by decide +kernel)) rfl)⟩
theorem kX4_28 : z_Lk RX4 28 4 8 (.array .int) true := ⟨RX4, TX4, 24, tyX4, z_k4, by decide, rfl, rfl, Or.inl (z_in (z_t4 17 (by decide +kernel)) rfl)⟩
theorem kX4_31 : z_Lk RX4 31 4 9 (.array .int) true := ⟨RX4, TX4, 24, tyX4, z_k4, by decide, rfl, rfl, Or.inl (z_in (z_t4 18 (by decide +kernel)) rfl)⟩
theorem kX4_50 : z_Lk RX4 50 4 16 (.array (.object "java/lang/String")) true := ⟨RX4, TX4, 24, tyX4, z_k4, by decide, rfl, rfl, Or.inl (z_in (z_t4 25 (by decide +kernel)) rfl)⟩
theorem kX4_54 : z_Lk RX4 54 4 17 (.array .int) true := ⟨RX4, TX4, 24, tyX4, z_k4, by decide, rfl, rfl, Or.inl (z_in (z_t4 26 (by decide +kernel)) rfl)⟩
theorem kX4_57 : z_Lk RX4 57 4 20 (.array .int) true := ⟨RX4, TX4, 24, tyX4, z_k4, by decide, rfl, rfl, Or.inl (z_in (z_t4 29 (by decide +kernel)) rfl)⟩
theorem kX4_60 : z_Lk RX4 60 4 21 (.array .int) true := ⟨RX4, TX4, 24, tyX4, z_k4, by decide, rfl, rfl, Or.inl (z_in (z_t4 30 (by decide +kernel)) rfl)⟩
theorem kX4_63 : z_Lk RX4 63 4 22 (.array .int) true := ⟨RX4, TX4, 24, tyX4, z_k4, by decide, rfl, rfl, Or.inl (z_in (z_t4 31 (by decide +kernel)) rfl)⟩
theorem kX4_66 : z_Lk RX4 66 4 23 (.array .int) true := ⟨RX4, TX4, 24, tyX4, z_k4, by decide, rfl, rfl, Or.inl (z_in (z_t4 32 (by decide +kernel)) rfl)⟩
theorem kX4_162 : z_Lk RX4 162 4 7 .boolean false := ⟨RX4, TX4, 24, tyX4, z_k4, by decide, rfl, rfl, Or.inl (z_in (z_t4 16 (by decide +kernel)) rfl)⟩
theorem kX4_258 : z_Lk RX4 258 4 10 .int false := ⟨RX4, TX4, 24, tyX4, z_k4, by decide, rfl, rfl, Or.inl (z_in (z_t4 19 (by decide +kernel)) rfl)⟩
theorem kX4_262 : z_Lk RX4 262 4 12 .int false := ⟨RX4, TX4, 24, tyX4, z_k4, by decide, rfl, rfl, Or.inl (z_in (z_t4 21 (by decide +kernel)) rfl)⟩
theorem kX4_265 : z_Lk RX4 265 4 11 .int false := ⟨RX4, TX4, 24, tyX4, z_k4, by decide, rfl, rfl, Or.inl (z_in (z_t4 20 (by decide +kernel)) rfl)⟩
theorem kX4_271 : z_Lk RX4 271 4 14 .int false := ⟨RX4, TX4, 24, tyX4, z_k4, by decide, rfl, rfl, Or.inl (z_in (z_t4 23 (by decide +kernel)) rfl)⟩
theorem kX4_274 : z_Lk RX4 274 4 13 .int false := ⟨RX4, TX4, 24, tyX4, z_k4, by decide, rfl, rfl, Or.inl (z_in (z_t4 22 (by decide +kernel)) rfl)⟩
theorem kX4_284 : z_Lk RX4 284 4 15 .boolean false := ⟨RX4, TX4, 24, tyX4, z_k4, by decide, rfl, rfl, Or.inl (z_in (z_t4 24 (by decide +kernel)) rfl)⟩
theorem kX4_294 : z_Lk RX4 294 4 18 .int false := ⟨RX4, TX4, 24, tyX4, z_k4, by decide, rfl, rfl, Or.inl (z_in (z_t4 27 (by decide +kernel)) rfl)⟩
theorem kX4_304 : z_Lk RX4 304 4 19 .int false := ⟨RX4, TX4, 24, tyX4, z_k4, by decide, rfl, rfl, Or.inl (z_in (z_t4 28 (by decide +kernel)) rfl)⟩
theorem kX4_344 : z_Lk RX4 344 4 3 .boolean false := ⟨RX4, TX4, 24, tyX4, z_k4, by decide, rfl, rfl, Or.inl (z_in (z_t4 12 (by decide +kernel)) rfl)⟩
theorem kX3_62 : z_Lk RX3 62 2 2 (.array .int) true := ⟨RX2, TX2, 14, tyX2, z_k2, by decide, rfl, rfl, Or.inr ⟨"WildBells", z_inN (z_t1 33 (by decide +kernel)) rfl⟩⟩
theorem kX3_74 : z_Lk RX3 74 2 3 (.array .int) true := ⟨RX2, TX2, 14, tyX2, z_k2, by decide, rfl, rfl, Or.inr ⟨"WildBells", z_inN (z_t1 36 (by decide +kernel)) rfl⟩⟩
theorem kX3_77 : z_Lk RX3 77 2 4 .int false := ⟨RX2, TX2, 14, tyX2, z_k2, by decide, rfl, rfl, Or.inr ⟨"WildBells", z_inN (z_t1 39 (by decide +kernel)) rfl⟩⟩
theorem kX3_84 : z_Lk RX3 84 2 5 .int false := ⟨RX2, TX2, 14, tyX2, z_k2, by decide, rfl, rfl, Or.inr ⟨"WildBells", z_inN (z_t1 42 (by decide +kernel)) rfl⟩⟩
theorem kX3_97 : z_Lk RX3 97 2 7 (.array .int) true := ⟨RX2, TX2, 14, tyX2, z_k2, by decide, rfl, rfl, Or.inr ⟨"WildBells", z_inN (z_t1 47 (by decide +kernel)) rfl⟩⟩
theorem kX3_117 : z_Lk RX3 117 2 0 .int false := ⟨RX2, TX2, 14, tyX2, z_k2, by decide, rfl, rfl, Or.inr ⟨"WildBells", z_inN (z_t1 29 (by decide +kernel)) rfl⟩⟩
theorem kX3_125 : z_Lk RX3 125 2 10 .int false := ⟨RX2, TX2, 14, tyX2, z_k2, by decide, rfl, rfl, Or.inr ⟨"WildBells", z_inN (z_t1 55 (by decide +kernel)) rfl⟩⟩
theorem kX3_133 : z_Lk RX3 133 2 1 .long false := ⟨RX2, TX2, 14, tyX2, z_k2, by decide, rfl, rfl, Or.inr ⟨"WildBells", z_inN (z_t1 31 (by decide +kernel)) rfl⟩⟩
theorem kX3_145 : z_Lk RX3 145 2 9 (.array .int) true := ⟨RX2, TX2, 14, tyX2, z_k2, by decide, rfl, rfl, Or.inr ⟨"WildBells", z_inN (z_t1 53 (by decide +kernel)) rfl⟩⟩
theorem kX3_165 : z_Lk RX3 165 2 13 .long false := ⟨RX2, TX2, 14, tyX2, z_k2, by decide, rfl, rfl, Or.inr ⟨"WildBells", z_inN (z_t1 61 (by decide +kernel)) rfl⟩⟩
theorem kX3_172 : z_Lk RX3 172 2 6 (.array .int) true := ⟨RX2, TX2, 14, tyX2, z_k2, by decide, rfl, rfl, Or.inr ⟨"WildBells", z_inN (z_t1 45 (by decide +kernel)) rfl⟩⟩
theorem kX3_215 : z_Lk RX3 215 2 11 .int false := ⟨RX2, TX2, 14, tyX2, z_k2, by decide, rfl, rfl, Or.inr ⟨"WildBells", z_inN (z_t1 57 (by decide +kernel)) rfl⟩⟩
theorem kX3_218 : z_Lk RX3 218 1 1 .int false := ⟨RX1, TX1, 7, tyX1, z_k1, by decide, rfl, rfl, Or.inr ⟨"WildBells", z_inN (z_t1 100 (by decide +kernel)) rfl⟩⟩
theorem kX3_231 : z_Lk RX3 231 2 12 (.array .int) true := ⟨RX2, TX2, 14, tyX2, z_k2, by decide, rfl, rfl, Or.inr ⟨"WildBells", z_inN (z_t1 59 (by decide +kernel)) rfl⟩⟩
theorem kX3_244 : z_Lk RX3 244 0 1 .int false := ⟨RX0, TX0, 3, tyX0, z_k0, by decide, rfl, rfl, Or.inr ⟨"WildBells", z_inN (z_t1 131 (by decide +kernel)) rfl⟩⟩
theorem kX3_251 : z_Lk RX3 251 0 0 .int false := ⟨RX0, TX0, 3, tyX0, z_k0, by decide, rfl, rfl, Or.inr ⟨"WildBells", z_inN (z_t1 129 (by decide +kernel)) rfl⟩⟩
theorem kX3_257 : z_Lk RX3 257 0 2 (.array .int) true := ⟨RX0, TX0, 3, tyX0, z_k0, by decide, rfl, rfl, Or.inr ⟨"WildBells", z_inN (z_t1 133 (by decide +kernel)) rfl⟩⟩
theorem kX3_269 : z_Lk RX3 269 2 8 (.array .int) true := ⟨RX2, TX2, 14, tyX2, z_k2, by decide, rfl, rfl, Or.inr ⟨"WildBells", z_inN (z_t1 50 (by decide +kernel)) rfl⟩⟩
theorem kX1_100 : z_Lk RX1 100 2 5 .int false := ⟨RX2, TX2, 14, tyX2, z_k2, by decide, rfl, rfl, Or.inr ⟨"WildBells", z_inN (z_t1 43 (by decide +kernel)) rfl⟩⟩
theorem kX1_119 : z_Lk RX1 119 2 8 (.array .int) true := ⟨RX2, TX2, 14, tyX2, z_k2, by decide, rfl, rfl, Or.inr ⟨"WildBells", z_inN (z_t1 49 (by decide +kernel)) rfl⟩⟩
theorem kX1_121 : z_Lk RX1 121 2 9 (.array .int) true := ⟨RX2, TX2, 14, tyX2, z_k2, by decide, rfl, rfl, Or.inr ⟨"WildBells", z_inN (z_t1 52 (by decide +kernel)) rfl⟩⟩
theorem kX1_130 : z_Lk RX1 130 2 2 (.array .int) true := ⟨RX2, TX2, 14, tyX2, z_k2, by decide, rfl, rfl, Or.inr ⟨"WildBells", z_inN (z_t1 34 (by decide +kernel)) rfl⟩⟩
theorem kX1_133 : z_Lk RX1 133 2 3 (.array .int) true := ⟨RX2, TX2, 14, tyX2, z_k2, by decide, rfl, rfl, Or.inr ⟨"WildBells", z_inN (z_t1 37 (by decide +kernel)) rfl⟩⟩
theorem kX1_136 : z_Lk RX1 136 2 4 .int false := ⟨RX2, TX2, 14, tyX2, z_k2, by decide, rfl, rfl, Or.inr ⟨"WildBells", z_inN (z_t1 40 (by decide +kernel)) rfl⟩⟩
theorem lX3_47 : z_Lm RX3 47 mX3_isCell := Or.inl (z_in (z_t1 170 (by decide +kernel)) rfl)
theorem lX3_51 : z_Lm RX3 51 mX3_finding := Or.inl (z_in (z_t1 173 (by decide +kernel)) rfl)
theorem lX3_71 : z_Lm RX3 71 mX3_isHunter := Or.inl (z_in (z_t1 224 (by decide +kernel)) rfl)
theorem lX3_81 : z_Lm RX3 81 mX3_isKind := Or.inl (z_in (z_t1 235 (by decide +kernel)) rfl)
theorem lX3_91 : z_Lm RX3 91 mX3_isBell := Or.inl (z_in (z_t2 6 (by decide +kernel)) rfl)
theorem lX3_103 : z_Lm RX3 103 mX3_isTrait := Or.inl (z_in (z_t2 38 (by decide +kernel)) rfl)
theorem lX3_109 : z_Lm RX3 109 mX3_suits := Or.inl (z_in (z_t2 49 (by decide +kernel)) rfl)
theorem lX3_128 : z_Lm RX3 128 mJ6_bitCount_0f7a4 := Or.inl (z_in (z_t2 78 (by decide +kernel)) rfl)
theorem lX3_137 : z_Lm RX3 137 mJ13_bitCount_95d88 := Or.inl (z_in (z_t2 88 (by decide +kernel)) rfl)
theorem lX3_148 : z_Lm RX3 148 mX3_apart := Or.inl (z_in (z_t2 102 (by decide +kernel)) rfl)
theorem lX3_151 : z_Lm RX3 151 mX3_loudness := Or.inl (z_in (z_t2 103 (by decide +kernel)) rfl)
theorem lX3_168 : z_Lm RX3 168 mX3_holds := Or.inl (z_in (z_t2 140 (by decide +kernel)) rfl)
theorem lX3_175 : z_Lm RX3 175 mX3_soundFault := Or.inl (z_in (z_t2 157 (by decide +kernel)) rfl)
theorem lX3_178 : z_Lm RX3 178 mX3_standingCells := Or.inl (z_in (z_t2 173 (by decide +kernel)) rfl)
theorem lX3_182 : z_Lm RX3 182 mX3_leftAtWorst := Or.inl (z_in (z_t2 190 (by decide +kernel)) rfl)
theorem lX3_192 : z_Lm RX3 192 mX3_isStock := Or.inl (z_in (z_t2 203 (by decide +kernel)) rfl)
theorem lX3_195 : z_Lm RX3 195 mX3_stockBehind := Or.inl (z_in (z_t2 206 (by decide +kernel)) rfl)
theorem lX3_209 : z_Lm RX3 209 mX3_longestRun := Or.inl (z_in (z_t3 7 (by decide +kernel)) rfl)
theorem lX3_228 : z_Lm RX3 228 mX3_isSpot := Or.inl (z_in (z_t3 165 (by decide +kernel)) rfl)
theorem lX3_234 : z_Lm RX3 234 mX3_isUnder := Or.inl (z_in (z_t3 172 (by decide +kernel)) rfl)
theorem lX3_237 : z_Lm RX3 237 mX3_isSheet := Or.inl (z_in (z_t2 161 (by decide +kernel)) rfl)
theorem lX3_260 : Cond.methodLink RX3 260 arraycopyName ∈ z_T := z_in (z_t3 197 (by decide +kernel)) rfl
theorem lX3_266 : z_Lm RX3 266 mX3_isNote := Or.inl (z_in (z_t2 52 (by decide +kernel)) rfl)
theorem lX3_279 : z_Lm RX3 279 mX3_isWeight := Or.inl (z_in (z_t2 55 (by decide +kernel)) rfl)
theorem lX3_285 : Cond.methodLink RX3 285 yJ9_max_7cf53 ∈ z_T := z_in (z_t1 212 (by decide +kernel)) rfl
theorem lX3_290 : Cond.methodLink RX3 290 yJ9_min_7cf53 ∈ z_T := z_in (z_t2 209 (by decide +kernel)) rfl
theorem lX1_25 : z_Lm RX1 25 mX1_advance := Or.inl (z_in (z_t3 49 (by decide +kernel)) rfl)
theorem lX1_28 : z_Lm RX1 28 mX1_readItem := Or.inl (z_in (z_t3 53 (by decide +kernel)) rfl)
theorem lX1_41 : z_Lm RX1 41 mJ0_length_8abf5 := Or.inl (z_in (z_t3 75 (by decide +kernel)) rfl)
theorem lX1_47 : z_Lm RX1 47 mJ0_charAt_5068e := Or.inl (z_in (z_t3 85 (by decide +kernel)) rfl)
theorem lX1_51 : z_Lm RX1 51 mX1_kindOfWord := Or.inl (z_in (z_t3 57 (by decide +kernel)) rfl)
theorem lX1_54 : z_Lm RX1 54 mX1_readBell := Or.inl (z_in (z_t3 123 (by decide +kernel)) rfl)
theorem lX1_60 : z_Lm RX1 60 mX1_isWord := Or.inl (z_in (z_t3 71 (by decide +kernel)) rfl)
theorem lX1_64 : z_Lm RX1 64 mX1_readNet := Or.inl (z_in (z_t3 140 (by decide +kernel)) rfl)
theorem lX1_69 : z_Lm RX1 69 mX1_readThick := Or.inl (z_in (z_t3 146 (by decide +kernel)) rfl)
theorem lX1_74 : z_Lm RX1 74 mX1_readHunter := Or.inl (z_in (z_t3 151 (by decide +kernel)) rfl)
theorem lX1_79 : z_Lm RX1 79 mX1_readFear := Or.inl (z_in (z_t3 156 (by decide +kernel)) rfl)
theorem lX1_82 : z_Lm RX1 82 mX1_wordOfKind := Or.inl (z_in (z_t3 61 (by decide +kernel)) rfl)
theorem lX1_107 : z_Lm RX1 107 mX1_takePerhaps := Or.inl (z_in (z_t3 128 (by decide +kernel)) rfl)
theorem lX1_123 : z_Lm RX1 123 mX1_takeNumber := Or.inl (z_in (z_t3 132 (by decide +kernel)) rfl)
theorem lX2_56 : Cond.methodLink RX2 56 arraycopyName ∈ z_T := z_in (z_t2 112 (by decide +kernel)) rfl
theorem lX2_68 : z_Lm RX2 68 mX2_isFree := Or.inl (z_in (z_t1 202 (by decide +kernel)) rfl)
theorem lX2_79 : Cond.methodLink RX2 79 yJ9_max_7cf53 ∈ z_T := z_in (z_t1 215 (by decide +kernel)) rfl
theorem lX2_84 : z_Lm RX2 84 mX2_fromHunters := Or.inl (z_in (z_t2 18 (by decide +kernel)) rfl)
theorem lX2_88 : z_Lm RX2 88 mX2_nearestOther := Or.inl (z_in (z_t2 25 (by decide +kernel)) rfl)
theorem lX2_92 : Cond.methodLink RX2 92 yJ9_min_7cf53 ∈ z_T := z_in (z_t2 22 (by decide +kernel)) rfl
theorem lX2_99 : z_Lm RX2 99 mX2_worthFor := Or.inl (z_in (z_t2 14 (by decide +kernel)) rfl)
theorem lX2_102 : z_Lm RX2 102 mX2_cellBeside := Or.inl (z_in (z_t2 34 (by decide +kernel)) rfl)
theorem lX2_105 : z_Lm RX2 105 mX2_nextCell := Or.inl (z_in (z_t2 75 (by decide +kernel)) rfl)
theorem lX2_108 : z_Lm RX2 108 mX2_hasNet := Or.inl (z_in (z_t2 76 (by decide +kernel)) rfl)
theorem lX2_112 : z_Lm RX2 112 mX2_hourGoes := Or.inl (z_in (z_t2 119 (by decide +kernel)) rfl)
theorem lX2_117 : z_Lm RX2 117 mX2_draw := Or.inl (z_in (z_t3 20 (by decide +kernel)) rfl)
theorem lX2_124 : z_Lm RX2 124 mJ6_bitCount_0f7a4 := Or.inl (z_in (z_t2 222 (by decide +kernel)) rfl)
theorem lX2_129 : z_Lm RX2 129 mX2_isRing := Or.inl (z_in (z_t2 223 (by decide +kernel)) rfl)
theorem lX4_70 : z_Lm RX4 70 mX4_copyRow := Or.inl (z_in (z_t5 17 (by decide +kernel)) rfl)
theorem lX4_74 : z_Lm RX4 74 mX4_within := Or.inl (z_in (z_t4 89 (by decide +kernel)) rfl)
theorem lX4_78 : Cond.methodLink RX4 78 yJ9_abs_0f7a4 ∈ z_T := z_in (z_t4 154 (by decide +kernel)) rfl
theorem lX4_84 : z_Lm RX4 84 mX4_isCell := Or.inl (z_in (z_t4 86 (by decide +kernel)) rfl)
theorem lX4_88 : z_Lm RX4 88 mX4_finding := Or.inl (z_in (z_t4 93 (by decide +kernel)) rfl)
theorem lX4_91 : z_Lm RX4 91 mX4_become := Or.inl (z_in (z_t4 97 (by decide +kernel)) rfl)
theorem lX4_95 : z_Lm RX4 95 mX4_isHunter := Or.inl (z_in (z_t4 109 (by decide +kernel)) rfl)
theorem lX4_98 : z_Lm RX4 98 mX4_at := Or.inl (z_in (z_t4 128 (by decide +kernel)) rfl)
theorem lX4_101 : z_Lm RX4 101 mX4_bellIs := Or.inl (z_in (z_t4 139 (by decide +kernel)) rfl)
theorem lX4_104 : z_Lm RX4 104 mX4_isKind := Or.inl (z_in (z_t4 120 (by decide +kernel)) rfl)
theorem lX4_108 : z_Lm RX4 108 mX4_comes := Or.inl (z_in (z_t4 124 (by decide +kernel)) rfl)
theorem lX4_112 : z_Lm RX4 112 mX4_above := Or.inl (z_in (z_t4 161 (by decide +kernel)) rfl)
theorem lX4_115 : z_Lm RX4 115 mX4_isCaught := Or.inl (z_in (z_t4 168 (by decide +kernel)) rfl)
theorem lX4_118 : z_Lm RX4 118 mX4_isUnder := Or.inl (z_in (z_t4 158 (by decide +kernel)) rfl)
theorem lX4_122 : z_Lm RX4 122 mX4_apart := Or.inl (z_in (z_t4 151 (by decide +kernel)) rfl)
theorem lX4_125 : Cond.methodLink RX4 125 yJ9_min_7cf53 ∈ z_T := z_in (z_t4 157 (by decide +kernel)) rfl
theorem lX4_128 : z_Lm RX4 128 mX4_nearestOther := Or.inl (z_in (z_t4 164 (by decide +kernel)) rfl)
theorem lX4_132 : Cond.methodLink RX4 132 yJ9_max_7cf53 ∈ z_T := z_in (z_t4 172 (by decide +kernel)) rfl
theorem lX4_135 : z_Lm RX4 135 mX4_worthOf := Or.inl (z_in (z_t4 147 (by decide +kernel)) rfl)
theorem lX4_138 : z_Lm RX4 138 mX4_beside := Or.inl (z_in (z_t4 173 (by decide +kernel)) rfl)
theorem lX4_141 : z_Lm RX4 141 mX4_isBell := Or.inl (z_in (z_t4 135 (by decide +kernel)) rfl)
theorem lX4_144 : z_Lm RX4 144 mX4_nextOf := Or.inl (z_in (z_t4 143 (by decide +kernel)) rfl)
theorem lX4_147 : z_Lm RX4 147 mX4_mayBe := Or.inl (z_in (z_t4 181 (by decide +kernel)) rfl)
theorem lX4_150 : z_Lm RX4 150 mX4_loudOf := Or.inl (z_in (z_t4 200 (by decide +kernel)) rfl)
theorem lX4_153 : z_Lm RX4 153 mX4_loudAt := Or.inl (z_in (z_t4 196 (by decide +kernel)) rfl)
theorem lX4_156 : z_Lm RX4 156 mX4_heardAt := Or.inl (z_in (z_t4 192 (by decide +kernel)) rfl)
theorem lX4_159 : z_Lm RX4 159 mX4_manyAt := Or.inl (z_in (z_t4 204 (by decide +kernel)) rfl)
theorem lX4_166 : z_Lm RX4 166 mX4_hasNet := Or.inl (z_in (z_t4 222 (by decide +kernel)) rfl)
theorem lX4_169 : z_Lm RX4 169 mX4_hour := Or.inl (z_in (z_t4 218 (by decide +kernel)) rfl)
theorem lX4_174 : z_Lm RX4 174 mX4_hours := Or.inl (z_in (z_t4 214 (by decide +kernel)) rfl)
theorem lX4_178 : z_Lm RX4 178 mX4_caughtNow := Or.inl (z_in (z_t4 226 (by decide +kernel)) rfl)
theorem lX4_182 : z_Lm RX4 182 mX4_bits := Or.inl (z_in (z_t4 230 (by decide +kernel)) rfl)
theorem lX4_185 : z_Lm RX4 185 mX4_nets := Or.inl (z_in (z_t4 237 (by decide +kernel)) rfl)
theorem lX4_188 : z_Lm RX4 188 mX4_caughtWeight := Or.inl (z_in (z_t5 1 (by decide +kernel)) rfl)
theorem lX4_191 : z_Lm RX4 191 mX4_putBack := Or.inl (z_in (z_t5 20 (by decide +kernel)) rfl)
theorem lX4_194 : z_Lm RX4 194 mX4_fieldBehind := Or.inl (z_in (z_t5 13 (by decide +kernel)) rfl)
theorem lX4_199 : z_Lm RX4 199 mX4_caughtIn := Or.inl (z_in (z_t5 28 (by decide +kernel)) rfl)
theorem lX4_202 : z_Lm RX4 202 mX4_told := Or.inl (z_in (z_t5 33 (by decide +kernel)) rfl)
theorem lX4_205 : z_Lm RX4 205 mX4_setBehind := Or.inl (z_in (z_t5 46 (by decide +kernel)) rfl)
theorem lX4_208 : z_Lm RX4 208 mX4_orNone := Or.inl (z_in (z_t5 54 (by decide +kernel)) rfl)
theorem lX4_211 : z_Lm RX4 211 mX4_isSheet := Or.inl (z_in (z_t5 82 (by decide +kernel)) rfl)
theorem lX4_215 : z_Lm RX4 215 mX4_ears := Or.inl (z_in (z_t5 90 (by decide +kernel)) rfl)
theorem lX4_218 : z_Lm RX4 218 mX4_earOf := Or.inl (z_in (z_t5 94 (by decide +kernel)) rfl)
theorem lX4_221 : z_Lm RX4 221 mX4_lacks := Or.inl (z_in (z_t5 78 (by decide +kernel)) rfl)
theorem lX4_224 : z_Lm RX4 224 mX4_areEars := Or.inl (z_in (z_t5 86 (by decide +kernel)) rfl)
theorem lX4_227 : z_Lm RX4 227 mX4_lacksOf := Or.inl (z_in (z_t5 74 (by decide +kernel)) rfl)
theorem lX4_230 : z_Lm RX4 230 mX4_isSo := Or.inl (z_in (z_t5 98 (by decide +kernel)) rfl)
theorem lX4_233 : z_Lm RX4 233 mX4_worst := Or.inl (z_in (z_t5 110 (by decide +kernel)) rfl)
theorem lX4_236 : z_Lm RX4 236 mX4_stockBehind := Or.inl (z_in (z_t5 122 (by decide +kernel)) rfl)
theorem lX4_239 : z_Lm RX4 239 mX4_has := Or.inl (z_in (z_t5 141 (by decide +kernel)) rfl)
theorem lX4_242 : z_Lm RX4 242 mX4_stepBySteps := Or.inl (z_in (z_t5 144 (by decide +kernel)) rfl)
theorem lX4_245 : z_Lm RX4 245 mX4_areRing := Or.inl (z_in (z_t5 137 (by decide +kernel)) rfl)
theorem lX4_248 : z_Lm RX4 248 mX4_greatest := Or.inl (z_in (z_t5 133 (by decide +kernel)) rfl)
theorem lX4_251 : z_Lm RX4 251 mX4_longest := Or.inl (z_in (z_t5 159 (by decide +kernel)) rfl)
theorem lX4_255 : z_Lm RX4 255 mX4_drawn := Or.inl (z_in (z_t5 170 (by decide +kernel)) rfl)
theorem lX4_268 : z_Lm RX4 268 mX4_byteAt := Or.inl (z_in (z_t5 195 (by decide +kernel)) rfl)
theorem lX4_277 : z_Lm RX4 277 mJ0_length_8abf5 := Or.inl (z_in (z_t5 211 (by decide +kernel)) rfl)
theorem lX4_280 : z_Lm RX4 280 mJ0_charAt_5068e := Or.inl (z_in (z_t5 212 (by decide +kernel)) rfl)
theorem lX4_287 : z_Lm RX4 287 mX4_next := Or.inl (z_in (z_t5 191 (by decide +kernel)) rfl)
theorem lX4_290 : z_Lm RX4 290 mX4_must := Or.inl (z_in (z_t5 213 (by decide +kernel)) rfl)
theorem lX4_297 : z_Lm RX4 297 mX4_isWord := Or.inl (z_in (z_t5 207 (by decide +kernel)) rfl)
theorem lX4_301 : z_Lm RX4 301 mX4_kindTold := Or.inl (z_in (z_t5 203 (by decide +kernel)) rfl)
theorem lX4_308 : z_Lm RX4 308 mX4_isNext := Or.inl (z_in (z_t5 218 (by decide +kernel)) rfl)
theorem lX4_311 : z_Lm RX4 311 mX4_number := Or.inl (z_in (z_t5 222 (by decide +kernel)) rfl)
theorem lX4_318 : z_Lm RX4 318 mX4_item := Or.inl (z_in (z_t5 228 (by decide +kernel)) rfl)
theorem lX4_330 : z_Lm RX4 330 mX4_readItem := Or.inl (z_in (z_t5 199 (by decide +kernel)) rfl)
theorem lX4_333 : z_Lm RX4 333 mX4_isToldSo := Or.inl (z_in (z_t5 236 (by decide +kernel)) rfl)
theorem lX4_336 : z_Lm RX4 336 mX4_isSpot := Or.inl (z_in (z_t6 4 (by decide +kernel)) rfl)
theorem lX4_341 : z_Lm RX4 341 mX4_cutTo := Or.inl (z_in (z_t6 21 (by decide +kernel)) rfl)
theorem lJ0_335 : z_Lm RJ0 335 mJ0_coder_7d493 := Or.inl (z_in (z_t3 79 (by decide +kernel)) rfl)
theorem lJ0_492 : z_Lm RJ0 492 mJ0_isLatin1_aae02 := Or.inl (z_in (z_t3 89 (by decide +kernel)) rfl)
theorem lJ0_495 : z_Lm RJ0 495 mJ1_charAt_3b067 := Or.inl (z_in (z_t3 93 (by decide +kernel)) rfl)
theorem lJ0_1059 : z_Lm RJ0 1059 mJ3_checkIndex_8e157 := Or.inl (z_in (z_t3 101 (by decide +kernel)) rfl)
theorem lJ1_9 : z_Lm RJ1 9 mJ0_checkIndex_df160 := Or.inl (z_in (z_t3 96 (by decide +kernel)) rfl)
theorem lJ2_414 : z_Lm RJ2 414 mJ0_checkIndex_df160 := Or.inl (z_in (z_t3 113 (by decide +kernel)) rfl)
theorem lX3_55 : z_Lm RX3 55 mX2_hasNet := Or.inr ⟨"WildBells", z_inN (z_t1 178 (by decide +kernel)) rfl⟩
theorem lX3_58 : z_Lm RX3 58 mX2_setNet := Or.inr ⟨"WildBells", z_inN (z_t1 185 (by decide +kernel)) rfl⟩
theorem lX3_65 : z_Lm RX3 65 mX2_heardAt := Or.inr ⟨"WildBells", z_inN (z_t1 198 (by decide +kernel)) rfl⟩
theorem lX3_68 : z_Lm RX3 68 mX2_bellsAt := Or.inr ⟨"WildBells", z_inN (z_t1 216 (by decide +kernel)) rfl⟩
theorem lX3_87 : z_Lm RX3 87 mX2_addBell := Or.inr ⟨"WildBells", z_inN (z_t1 238 (by decide +kernel)) rfl⟩
theorem lX3_94 : z_Lm RX3 94 mX2_nextCell := Or.inr ⟨"WildBells", z_inN (z_t2 10 (by decide +kernel)) rfl⟩
theorem lX3_100 : z_Lm RX3 100 mX2_worthFor := Or.inr ⟨"WildBells", z_inN (z_t2 37 (by decide +kernel)) rfl⟩
theorem lX3_106 : z_Lm RX3 106 mX2_trait := Or.inr ⟨"WildBells", z_inN (z_t2 41 (by decide +kernel)) rfl⟩
theorem lX3_113 : z_Lm RX3 113 mX2_setTrait := Or.inr ⟨"WildBells", z_inN (z_t2 58 (by decide +kernel)) rfl⟩
theorem lX3_121 : z_Lm RX3 121 mX2_hourGoes := Or.inr ⟨"WildBells", z_inN (z_t2 71 (by decide +kernel)) rfl⟩
theorem lX3_142 : z_Lm RX3 142 mX2_weightOf := Or.inr ⟨"WildBells", z_inN (z_t2 94 (by decide +kernel)) rfl⟩
theorem lX3_154 : z_Lm RX3 154 mX2_becomes := Or.inr ⟨"WildBells", z_inN (z_t2 108 (by decide +kernel)) rfl⟩
theorem lX3_158 : z_Lm RX3 158 mX2_runHours := Or.inr ⟨"WildBells", z_inN (z_t2 115 (by decide +kernel)) rfl⟩
theorem lX3_162 : z_Lm RX3 162 mX2_tillCaught := Or.inr ⟨"WildBells", z_inN (z_t2 124 (by decide +kernel)) rfl⟩
theorem lX3_186 : z_Lm RX3 186 mX2_isFree := Or.inr ⟨"WildBells", z_inN (z_t2 198 (by decide +kernel)) rfl⟩
theorem lX3_189 : z_Lm RX3 189 mX0_tellsLoud := Or.inr ⟨"WildBells", z_inN (z_t2 176 (by decide +kernel)) rfl⟩
theorem lX3_199 : z_Lm RX3 199 mX2_greatestRing := Or.inr ⟨"WildBells", z_inN (z_t2 218 (by decide +kernel)) rfl⟩
theorem lX3_203 : z_Lm RX3 203 mX2_isRing := Or.inr ⟨"WildBells", z_inN (z_t2 238 (by decide +kernel)) rfl⟩
theorem lX3_206 : z_Lm RX3 206 mX2_notesThere := Or.inr ⟨"WildBells", z_inN (z_t3 3 (by decide +kernel)) rfl⟩
theorem lX3_212 : z_Lm RX3 212 mX2_strike := Or.inr ⟨"WildBells", z_inN (z_t3 16 (by decide +kernel)) rfl⟩
theorem lX3_221 : z_Lm RX3 221 mX1_append := Or.inr ⟨"WildBells", z_inN (z_t3 33 (by decide +kernel)) rfl⟩
theorem lX3_224 : z_Lm RX3 224 mX1_readInto := Or.inr ⟨"WildBells", z_inN (z_t3 45 (by decide +kernel)) rfl⟩
theorem lX3_240 : z_Lm RX3 240 mX0_begin := Or.inr ⟨"WildBells", z_inN (z_t3 177 (by decide +kernel)) rfl⟩
theorem lX3_245 : z_Lm RX3 245 mX0_isMissing := Or.inr ⟨"WildBells", z_inN (z_t2 164 (by decide +kernel)) rfl⟩
theorem lX3_248 : z_Lm RX3 248 mX0_put := Or.inr ⟨"WildBells", z_inN (z_t3 185 (by decide +kernel)) rfl⟩
theorem lX3_254 : z_Lm RX3 254 mX0_hasFrom := Or.inr ⟨"WildBells", z_inN (z_t3 193 (by decide +kernel)) rfl⟩
theorem lX3_272 : z_Lm RX3 272 mX2_followsInRing := Or.inr ⟨"WildBells", z_inN (z_t3 206 (by decide +kernel)) rfl⟩
theorem lX3_275 : z_Lm RX3 275 mX2_spotsHolding := Or.inr ⟨"WildBells", z_inN (z_t3 226 (by decide +kernel)) rfl⟩
theorem lX3_282 : z_Lm RX3 282 mX0_earsAreCells := Or.inr ⟨"WildBells", z_inN (z_t2 168 (by decide +kernel)) rfl⟩
theorem lX0_22 : z_Lm RX0 22 mX3_isCell := Or.inr ⟨"WildBells", z_inN (z_t2 172 (by decide +kernel)) rfl⟩
theorem lX0_26 : z_Lm RX0 26 mX3_apart := Or.inr ⟨"WildBells", z_inN (z_t2 180 (by decide +kernel)) rfl⟩
theorem lX0_30 : z_Lm RX0 30 mX3_loudness := Or.inr ⟨"WildBells", z_inN (z_t2 181 (by decide +kernel)) rfl⟩
theorem lX1_115 : z_Lm RX1 115 mX2_addBell := Or.inr ⟨"WildBells", z_inN (z_t3 138 (by decide +kernel)) rfl⟩
theorem lX1_126 : z_Lm RX1 126 mX2_setNet := Or.inr ⟨"WildBells", z_inN (z_t3 144 (by decide +kernel)) rfl⟩
theorem lX2_62 : z_Lm RX2 62 mX3_holds := Or.inr ⟨"WildBells", z_inN (z_t1 182 (by decide +kernel)) rfl⟩
theorem lX2_72 : z_Lm RX2 72 mX3_apart := Or.inr ⟨"WildBells", z_inN (z_t1 206 (by decide +kernel)) rfl⟩
theorem lX2_76 : z_Lm RX2 76 mX3_loudness := Or.inr ⟨"WildBells", z_inN (z_t1 209 (by decide +kernel)) rfl⟩
theorem lX2_95 : z_Lm RX2 95 mX3_isUnder := Or.inr ⟨"WildBells", z_inN (z_t2 29 (by decide +kernel)) rfl⟩
theorem lX2_121 : z_Lm RX2 121 mX3_longestRun := Or.inr ⟨"WildBells", z_inN (z_t2 227 (by decide +kernel)) rfl⟩
theorem qX3_120 : Cond.constant RX3 120 (99999) ∈ z_T := z_in (z_t2 70 (by decide +kernel)) rfl
theorem qX3_278 : Cond.constant RX3 278 (-1000001) ∈ z_T := z_in (z_t1 177 (by decide +kernel)) rfl
theorem qX2_66 : Cond.constantLong RX2 66 (-1) ∈ z_T := z_in (z_t1 189 (by decide +kernel)) rfl
theorem qX2_111 : Cond.constant RX2 111 (99999) ∈ z_T := z_in (z_t2 77 (by decide +kernel)) rfl
theorem qX2_116 : Cond.constant RX2 116 (1103515245) ∈ z_T := z_in (z_t3 24 (by decide +kernel)) rfl
theorem qX4_69 : Cond.constant RX4 69 (-1000001) ∈ z_T := z_in (z_t4 92 (by decide +kernel)) rfl
theorem qX4_107 : Cond.constant RX4 107 (-1000002) ∈ z_T := z_in (z_t4 123 (by decide +kernel)) rfl
theorem qX4_172 : Cond.constant RX4 172 (99999) ∈ z_T := z_in (z_t4 212 (by decide +kernel)) rfl
theorem qX4_173 : Cond.constant RX4 173 (-1000005) ∈ z_T := z_in (z_t4 213 (by decide +kernel)) rfl
theorem qX4_197 : Cond.constant RX4 197 (1000000) ∈ z_T := z_in (z_t5 32 (by decide +kernel)) rfl
theorem qX4_198 : Cond.constant RX4 198 (-1000004) ∈ z_T := z_in (z_t5 37 (by decide +kernel)) rfl
theorem qX4_214 : Cond.constant RX4 214 (-1000006) ∈ z_T := z_in (z_t5 85 (by decide +kernel)) rfl
theorem qX4_254 : Cond.constant RX4 254 (1103515245) ∈ z_T := z_in (z_t5 174 (by decide +kernel)) rfl
theorem qX4_339 : Cond.constant RX4 339 (-1000003) ∈ z_T := z_in (z_t6 11 (by decide +kernel)) rfl
theorem qX4_340 : Cond.constant RX4 340 (-1000007) ∈ z_T := z_in (z_t6 16 (by decide +kernel)) rfl
theorem qJ6_265 : Cond.constant RJ6 265 (1431655765) ∈ z_T := z_in (z_t2 81 (by decide +kernel)) rfl
theorem qJ6_266 : Cond.constant RJ6 266 (858993459) ∈ z_T := z_in (z_t2 82 (by decide +kernel)) rfl
theorem qJ6_267 : Cond.constant RJ6 267 (252645135) ∈ z_T := z_in (z_t2 83 (by decide +kernel)) rfl
theorem qJ13_314 : Cond.constantLong RJ13 314 (6148914691236517205) ∈ z_T := z_in (z_t2 91 (by decide +kernel)) rfl
theorem qJ13_316 : Cond.constantLong RJ13 316 (3689348814741910323) ∈ z_T := z_in (z_t2 92 (by decide +kernel)) rfl
theorem qJ13_318 : Cond.constantLong RJ13 318 (1085102592571150095) ∈ z_T := z_in (z_t2 93 (by decide +kernel)) rfl
theorem z_ac : Cond.native arraycopyName ∈ z_T ∧ Cond.static arraycopyName ∈ z_T ∧ Cond.initialized "java/lang/System" ∈ z_T := ⟨z_in (z_t2 114 (by decide +kernel)) rfl, z_in (z_t2 113 (by decide +kernel)) rfl, z_iJ10⟩
