/-! ===== items: hunters, bells ===== -/
set_option maxRecDepth 100000
section
variable {F4 : Nat → Int32} {G4 : Nat → Nat → Int32} {F : Nat → Nat → Int32} {N : Nat → Nat → Int64} {G : Nat → Nat → Int32} {B : Nat → Int32} {z s m n : Nat} {V : Nat → Int32} {h : Int32} {t : Nat} {d : Int32}
theorem jw_imp {w w' : Bool} (h : w = true → w' = true) (q : w' = false) : w = false := by
  cases e : w
  · rfl
  · rw [h e] at q; exact absurd q (by decide)
theorem jI_hunter (hz4 : F4 10 = nI z) (hG4 : G4 8 = B) (hz : F 25 1 = nI z) (hb : ∀ i, i < z → G 26 i = B i) (hB : jBy B z) (hs : s ≤ z) (hm : m < 120) (hW : jW V n) (hw : iw B z s 9 = true) : jIC F4 G4 F N G B z s m n V h t d := by
  have hz1 := hB.1
  have hz' : pF F 9 V n h 25 1 = nI z := (pF_o (by decide)).trans hz
  have hb' : ∀ i, i < z → pG G 9 V 26 i = B i := fun i hi => by rw [pG_o (by decide)]; exact hb i hi
  have ho := fun j hj hne => iw_oth (j := j) (show 9 < 14 by decide) hj hw hne
  have hk := iw_kd hw
  obtain ⟨nx1, nx2, nx3⟩ := nx_b hB hs
  have nx4 := nx3 (by rw [hk]; decide)
  have eK := eX4_kindTold (F := F4) (G := G4) (m := nI m) (n := nI n) (w := jB false) hG4 hB hs
  rw [kf_n (fun i hi => ho i (by omega) (by omega))] at eK
  have eC := eX1_kindOfWord (F := pF F 9 V n h) (N := pN N 9 V t) (G := pG G 9 V) (d := d) (f := (-1)) hb' hB hs
  rw [kf_n (fun i hi => ho i (by omega) (by omega))] at eC
  have c7 := eX1_isWord (F := pF F 9 V n h) (N := pN N 9 V t) (G := pG G 9 V) (d := d) (f := (-1)) hb' hB hs (show 7 < 14 by decide)
  have c8 := eX1_isWord (F := pF F 9 V n h) (N := pN N 9 V t) (G := pG G 9 V) (d := d) (f := (-1)) hb' hB hs (show 8 < 14 by decide)
  have c9 := eX1_isWord (F := pF F 9 V n h) (N := pN N 9 V t) (G := pG G 9 V) (d := d) (f := (-1)) hb' hB hs (show 9 < 14 by decide)
  rw [ho 7 (by decide) (by decide)] at c7
  rw [ho 8 (by decide) (by decide)] at c8
  rw [hw] at c9
  have eA := eX1_adv (N := pN N 9 V t) (d := d) (f := (-1)) hz' hb' hB hs
  obtain ⟨w1, s1, x, y, d1, i1, i2, i3, i4, i5, i6, i7⟩ := jNum (F4 := F4) (G4 := G4) (F := pF F 9 V n h) (N := pN N 9 V t) (G := pG G 9 V) (d := nv B z (nx B z s) d) (w := false) (m := nI m) (n := nI n) (lo := 0) (hi := 3) hz4 hG4 hz' hb' hB nx2 nv_h (by decide) (by decide)
  obtain ⟨c, w2, w', s2, s', x', y', d', j1, j2, j3, j4, j5, j6, j8, j7⟩ := jPer (F4 := F4) (G4 := G4) (F := pF F 9 V n h) (N := pN N 9 V t) (G := pG G 9 V) (d := d1) (w := w1) (m := nI m) (n := nI n) (i := 11) (lo := 0) (hi := 63) (x0 := (-1)) (by decide) hz4 hG4 hz' hb' hB i2 i3 (by decide) (by decide)
  have hw1 := jw_imp j4
  have hx' : w' = false → x' = (-1) ∨ ∃ c, c < 64 ∧ x' = nI c := fun q => (j5 q).2.imp id (fun ⟨v, v1, v2, e⟩ => ⟨v, by omega, e⟩)
  refine ⟨w', s', nI 34 + x, x', nI 0, nI 0, nI n, n, if w' = true then V else upd V (14 + x.toNatClampNeg) x', d', j2, fun _ => by omega, j3, fun q => ?_, ?_, ?_⟩
  · obtain ⟨-, v, v1, v2, rfl⟩ := i5 (hw1 q)
    rw [q, if_neg (by decide), nI_clamp (by omega)]
    exact ⟨Or.inl ⟨14 + v, by omega, by omega, by rw [nI_add]; congr 1; omega, rfl, rfl, jW_hunter hW (by omega) (hx' q)⟩, rfl⟩
  · refine mx_of (L := [some (.ref 0), none, none, none]) (by decide) (fun _ => rfl) (fun _ => Nat.le_of_ble_eq_true rfl) ?_
    cases c
    · obtain ⟨k1, rfl⟩ := j6 rfl
      refine fx_aload_n dX4_readItem_0 rfl rfl ?_
      refine fx_callVv dX4_readItem_1 vX4_kindTold lX4_301 (by decide) rfl (Nat.le_of_ble_eq_true rfl) eK rfl ?_
      refine fs_istore_n_1 dX4_readItem_4 rfl (by decide) ?_
      refine fx_iload_n dX4_readItem_5 rfl rfl ?_
      refine fx_if_lt (tgt := 113) dX4_readItem_6 (by decide) rM_l (fun hc6 => ?_) (fun hc6 => ?_)
      · refine fx_aload_n dX4_readItem_113 rfl rfl ?_
        refine fx_ldcSw (i := 7) dX4_readItem_114 (List.mem_of_getElem? (i := 24) rfl) (by decide) ?_
        refine fx_callVv dX4_readItem_117 vX4_isNext lX4_308 (by decide) rfl (Nat.le_of_ble_eq_true rfl) (eX4_isNext_n hG4 hB hs (by decide) (ho 7 (by decide) (by decide))) rfl ?_
        refine fx_if_eq (tgt := 143) dX4_readItem_120 (by decide) rM_l (fun hc120 => ?_) (fun hc120 => ?_)
        · refine fx_aload_n dX4_readItem_143 rfl rfl ?_
          refine fx_ldcSw (i := 8) dX4_readItem_144 (List.mem_of_getElem? (i := 25) rfl) (by decide) ?_
          refine fx_callVv dX4_readItem_147 vX4_isNext lX4_308 (by decide) rfl (Nat.le_of_ble_eq_true rfl) (eX4_isNext_n hG4 hB hs (by decide) (ho 8 (by decide) (by decide))) rfl ?_
          refine fx_if_eq (tgt := 181) dX4_readItem_150 (by decide) rM_l (fun hc150 => ?_) (fun hc150 => ?_)
          · refine fx_aload_n dX4_readItem_181 rfl rfl ?_
            refine fx_ldcSw (i := 9) dX4_readItem_182 (List.mem_of_getElem? (i := 26) rfl) (by decide) ?_
            refine fx_callVv dX4_readItem_185 vX4_isNext lX4_308 (by decide) rfl (Nat.le_of_ble_eq_true rfl) (eX4_isNext_y hz4 hG4 hB hs (by decide) hw) rfl ?_
            refine fx_if_eq (tgt := 232) dX4_readItem_188 (by decide) rM_l (fun hc188 => ?_) (fun hc188 => ?_)
            · exact absurd hc188 (by decide)
            · refine fx_aload_n dX4_readItem_191 rfl rfl ?_
              refine fx_iconst (v := nI 0) dX4_readItem_192 (by decide) ?_
              refine fx_iconst (v := nI 3) dX4_readItem_193 (by decide) ?_
              refine fx_callVv dX4_readItem_194 vX4_number lX4_311 (by decide) rfl (Nat.le_of_ble_eq_true rfl) i6 rfl ?_
              refine fs_istore_n_2 dX4_readItem_197 rfl (by decide) ?_
              refine fx_aload_n dX4_readItem_198 rfl rfl ?_
              refine fx_bipush (v := nI 34) dX4_readItem_199 (by decide) ?_
              refine fx_iload_n dX4_readItem_201 rfl rfl ?_
              refine fx_iadd dX4_readItem_202 ?_
              refine fx_aload_n dX4_readItem_203 rfl rfl ?_
              refine fx_ldcSw (i := 11) dX4_readItem_204 (List.mem_of_getElem? (i := 21) rfl) (by decide) ?_
              refine fx_callVv dX4_readItem_207 vX4_isNext lX4_308 (by decide) rfl (Nat.le_of_ble_eq_true rfl) k1 rfl ?_
              refine fx_if_eq (tgt := 223) dX4_readItem_210 (by decide) rM_l (fun hc210 => ?_) (fun hc210 => ?_)
              · refine fx_iconst (v := (-1)) dX4_readItem_223 (by decide) ?_
                refine fx_iconst (v := nI 0) dX4_readItem_224 (by decide) ?_
                refine fx_iconst (v := nI 0) dX4_readItem_225 (by decide) ?_
                refine fx_callVn dX4_readItem_226 vX4_item lX4_318 (by decide) rfl (Nat.le_of_ble_eq_true rfl) (eX4_item hm) rfl ?_
                refine fx_goto (tgt := 258) dX4_readItem_229 (by decide) ?_
                exact fx_vreq dX4_readItem_258 rfl rfl
              · exact absurd rfl hc210
          · exact absurd rfl hc150
        · exact absurd rfl hc120
      · exact absurd (by decide) hc6
    · obtain ⟨k1, k2⟩ := j8 rfl
      refine fx_aload_n dX4_readItem_0 rfl rfl ?_
      refine fx_callVv dX4_readItem_1 vX4_kindTold lX4_301 (by decide) rfl (Nat.le_of_ble_eq_true rfl) eK rfl ?_
      refine fs_istore_n_1 dX4_readItem_4 rfl (by decide) ?_
      refine fx_iload_n dX4_readItem_5 rfl rfl ?_
      refine fx_if_lt (tgt := 113) dX4_readItem_6 (by decide) rM_l (fun hc6 => ?_) (fun hc6 => ?_)
      · refine fx_aload_n dX4_readItem_113 rfl rfl ?_
        refine fx_ldcSw (i := 7) dX4_readItem_114 (List.mem_of_getElem? (i := 24) rfl) (by decide) ?_
        refine fx_callVv dX4_readItem_117 vX4_isNext lX4_308 (by decide) rfl (Nat.le_of_ble_eq_true rfl) (eX4_isNext_n hG4 hB hs (by decide) (ho 7 (by decide) (by decide))) rfl ?_
        refine fx_if_eq (tgt := 143) dX4_readItem_120 (by decide) rM_l (fun hc120 => ?_) (fun hc120 => ?_)
        · refine fx_aload_n dX4_readItem_143 rfl rfl ?_
          refine fx_ldcSw (i := 8) dX4_readItem_144 (List.mem_of_getElem? (i := 25) rfl) (by decide) ?_
          refine fx_callVv dX4_readItem_147 vX4_isNext lX4_308 (by decide) rfl (Nat.le_of_ble_eq_true rfl) (eX4_isNext_n hG4 hB hs (by decide) (ho 8 (by decide) (by decide))) rfl ?_
          refine fx_if_eq (tgt := 181) dX4_readItem_150 (by decide) rM_l (fun hc150 => ?_) (fun hc150 => ?_)
          · refine fx_aload_n dX4_readItem_181 rfl rfl ?_
            refine fx_ldcSw (i := 9) dX4_readItem_182 (List.mem_of_getElem? (i := 26) rfl) (by decide) ?_
            refine fx_callVv dX4_readItem_185 vX4_isNext lX4_308 (by decide) rfl (Nat.le_of_ble_eq_true rfl) (eX4_isNext_y hz4 hG4 hB hs (by decide) hw) rfl ?_
            refine fx_if_eq (tgt := 232) dX4_readItem_188 (by decide) rM_l (fun hc188 => ?_) (fun hc188 => ?_)
            · exact absurd hc188 (by decide)
            · refine fx_aload_n dX4_readItem_191 rfl rfl ?_
              refine fx_iconst (v := nI 0) dX4_readItem_192 (by decide) ?_
              refine fx_iconst (v := nI 3) dX4_readItem_193 (by decide) ?_
              refine fx_callVv dX4_readItem_194 vX4_number lX4_311 (by decide) rfl (Nat.le_of_ble_eq_true rfl) i6 rfl ?_
              refine fs_istore_n_2 dX4_readItem_197 rfl (by decide) ?_
              refine fx_aload_n dX4_readItem_198 rfl rfl ?_
              refine fx_bipush (v := nI 34) dX4_readItem_199 (by decide) ?_
              refine fx_iload_n dX4_readItem_201 rfl rfl ?_
              refine fx_iadd dX4_readItem_202 ?_
              refine fx_aload_n dX4_readItem_203 rfl rfl ?_
              refine fx_ldcSw (i := 11) dX4_readItem_204 (List.mem_of_getElem? (i := 21) rfl) (by decide) ?_
              refine fx_callVv dX4_readItem_207 vX4_isNext lX4_308 (by decide) rfl (Nat.le_of_ble_eq_true rfl) k1 rfl ?_
              refine fx_if_eq (tgt := 223) dX4_readItem_210 (by decide) rM_l (fun hc210 => ?_) (fun hc210 => ?_)
              · exact absurd hc210 (by decide)
              · refine fx_aload_n dX4_readItem_213 rfl rfl ?_
                refine fx_iconst (v := nI 0) dX4_readItem_214 (by decide) ?_
                refine fx_bipush (v := nI 63) dX4_readItem_215 (by decide) ?_
                refine fx_callVv dX4_readItem_217 vX4_number lX4_311 (by decide) rfl (Nat.le_of_ble_eq_true rfl) k2 rfl ?_
                refine fx_goto (tgt := 224) dX4_readItem_220 (by decide) ?_
                refine fx_iconst (v := nI 0) dX4_readItem_224 (by decide) ?_
                refine fx_iconst (v := nI 0) dX4_readItem_225 (by decide) ?_
                refine fx_callVn dX4_readItem_226 vX4_item lX4_318 (by decide) rfl (Nat.le_of_ble_eq_true rfl) (eX4_item hm) rfl ?_
                refine fx_goto (tgt := 258) dX4_readItem_229 (by decide) ?_
                exact fx_vreq dX4_readItem_258 rfl rfl
          · exact absurd rfl hc150
        · exact absurd rfl hc120
      · exact absurd (by decide) hc6
  · have eR : Mx mX1_readHunter [.ref 25, .ref 9] (tW F N G B z s d (-1) V n h t) none (tW F N G B z s' d' (ft w' s') (if w' = true then V else upd V (14 + x.toNatClampNeg) x') n h t) := by
      refine mx_of (L := [some (.ref 25), some (.ref 9), none, none]) (by decide) (fun _ => rfl) (fun _ => Nat.le_of_ble_eq_true rfl) ?_
      cases w'
      · obtain ⟨rfl, v, v1, v2, rfl⟩ := i5 (hw1 rfl)
        obtain ⟨rfl, -⟩ := j5 rfl
        rw [if_neg (by decide), nI_clamp (by omega)]
        refine fx_aload_n dX1_readHunter_0 rfl rfl ?_
        refine fx_callVn dX1_readHunter_1 vX1_advance lX1_25 (by decide) rfl (Nat.le_of_ble_eq_true rfl) eA rfl ?_
        refine fx_aload_n dX1_readHunter_4 rfl rfl ?_
        refine fx_iconst (v := nI 0) dX1_readHunter_5 (by decide) ?_
        refine fx_iconst (v := nI 3) dX1_readHunter_6 (by decide) ?_
        refine fx_callVv dX1_readHunter_7 vX1_takeNumber lX1_123 (by decide) rfl (Nat.le_of_ble_eq_true rfl) i7 rfl ?_
        refine fs_istore_n_2 dX1_readHunter_10 rfl (by decide) ?_
        refine fx_aload_n dX1_readHunter_11 rfl rfl ?_
        refine fx_ldcS (i := 11) dX1_readHunter_12 (List.mem_of_getElem? (i := 7) rfl) (by decide) ?_
        refine fx_iconst (v := nI 0) dX1_readHunter_14 (by decide) ?_
        refine fx_bipush (v := nI 63) dX1_readHunter_15 (by decide) ?_
        refine fx_iconst (v := (-1)) dX1_readHunter_17 (by decide) ?_
        refine fx_callVv dX1_readHunter_18 vX1_takePerhaps lX1_107 (by decide) rfl (Nat.le_of_ble_eq_true rfl) j7 rfl ?_
        refine fs_istore_n_3 dX1_readHunter_21 rfl (by decide) ?_
        refine fx_aload_n dX1_readHunter_22 rfl rfl ?_
        refine fx_get dX1_readHunter_23 kX1_19 rfl rfl ?_
        rw [r6]
        refine fx_if_ge (tgt := 36) dX1_readHunter_26 (by decide) rC_l (fun hc26 => ?_) (fun hc26 => ?_)
        · exact absurd hc26 (show ¬ (0 : Int32) ≤ (-1) by decide)
        · refine fx_aload_n dX1_readHunter_29 rfl rfl ?_
          refine fx_get dX1_readHunter_30 kX1_133 rfl rfl ?_
          refine fx_iload_n dX1_readHunter_33 rfl rfl ?_
          refine fx_iload_n dX1_readHunter_34 rfl rfl ?_
          refine fx_iast dX1_readHunter_35 rfl (vp_in_nI (by omega) (by decide)) wa_11 ?_
          rw [nI_clamp (by omega), tW_hu (by omega)]
          exact fx_vreq dX1_readHunter_36 rfl rfl
      · rw [if_pos rfl]
        refine fx_aload_n dX1_readHunter_0 rfl rfl ?_
        refine fx_callVn dX1_readHunter_1 vX1_advance lX1_25 (by decide) rfl (Nat.le_of_ble_eq_true rfl) eA rfl ?_
        refine fx_aload_n dX1_readHunter_4 rfl rfl ?_
        refine fx_iconst (v := nI 0) dX1_readHunter_5 (by decide) ?_
        refine fx_iconst (v := nI 3) dX1_readHunter_6 (by decide) ?_
        refine fx_callVv dX1_readHunter_7 vX1_takeNumber lX1_123 (by decide) rfl (Nat.le_of_ble_eq_true rfl) i7 rfl ?_
        refine fs_istore_n_2 dX1_readHunter_10 rfl (by decide) ?_
        refine fx_aload_n dX1_readHunter_11 rfl rfl ?_
        refine fx_ldcS (i := 11) dX1_readHunter_12 (List.mem_of_getElem? (i := 7) rfl) (by decide) ?_
        refine fx_iconst (v := nI 0) dX1_readHunter_14 (by decide) ?_
        refine fx_bipush (v := nI 63) dX1_readHunter_15 (by decide) ?_
        refine fx_iconst (v := (-1)) dX1_readHunter_17 (by decide) ?_
        refine fx_callVv dX1_readHunter_18 vX1_takePerhaps lX1_107 (by decide) rfl (Nat.le_of_ble_eq_true rfl) j7 rfl ?_
        refine fs_istore_n_3 dX1_readHunter_21 rfl (by decide) ?_
        refine fx_aload_n dX1_readHunter_22 rfl rfl ?_
        refine fx_get dX1_readHunter_23 kX1_19 rfl rfl ?_
        rw [r6]
        refine fx_if_ge (tgt := 36) dX1_readHunter_26 (by decide) rC_l (fun hc26 => ?_) (fun hc26 => ?_)
        · exact fx_vreq dX1_readHunter_36 rfl rfl
        · exact absurd (nI_pos' (by omega)) hc26
    refine mx_of (L := [some (.ref 25), some (.ref 9), none]) (by decide) (fun _ => rfl) (fun _ => Nat.le_of_ble_eq_true rfl) ?_
    refine fx_aload_n dX1_readItem_0 rfl rfl ?_
    refine fx_callVv dX1_readItem_1 vX1_kindOfWord lX1_51 (by decide) rfl (Nat.le_of_ble_eq_true rfl) eC rfl ?_
    refine fs_istore_n_2 dX1_readItem_4 rfl (by decide) ?_
    refine fx_iload_n dX1_readItem_5 rfl rfl ?_
    refine fx_if_lt (tgt := 18) dX1_readItem_6 (by decide) rC_l (fun hc6 => ?_) (fun hc6 => ?_)
    · refine fx_aload_n dX1_readItem_18 rfl rfl ?_
      refine fx_ldcS (i := 7) dX1_readItem_19 (List.mem_of_getElem? (i := 10) rfl) (by decide) ?_
      refine fx_callVv dX1_readItem_21 vX1_isWord lX1_60 (by decide) rfl (Nat.le_of_ble_eq_true rfl) c7 rfl ?_
      refine fx_if_eq (tgt := 35) dX1_readItem_24 (by decide) rC_l (fun hc24 => ?_) (fun hc24 => ?_)
      · refine fx_aload_n dX1_readItem_35 rfl rfl ?_
        refine fx_ldcS (i := 8) dX1_readItem_36 (List.mem_of_getElem? (i := 11) rfl) (by decide) ?_
        refine fx_callVv dX1_readItem_38 vX1_isWord lX1_60 (by decide) rfl (Nat.le_of_ble_eq_true rfl) c8 rfl ?_
        refine fx_if_eq (tgt := 52) dX1_readItem_41 (by decide) rC_l (fun hc41 => ?_) (fun hc41 => ?_)
        · refine fx_aload_n dX1_readItem_52 rfl rfl ?_
          refine fx_ldcS (i := 9) dX1_readItem_53 (List.mem_of_getElem? (i := 12) rfl) (by decide) ?_
          refine fx_callVv dX1_readItem_55 vX1_isWord lX1_60 (by decide) rfl (Nat.le_of_ble_eq_true rfl) c9 rfl ?_
          refine fx_if_eq (tgt := 69) dX1_readItem_58 (by decide) rC_l (fun hc58 => ?_) (fun hc58 => ?_)
          · exact absurd hc58 (by decide)
          · refine fx_aload_n dX1_readItem_61 rfl rfl ?_
            refine fx_aload_n dX1_readItem_62 rfl rfl ?_
            refine fx_callVn dX1_readItem_63 vX1_readHunter lX1_74 (by decide) rfl (Nat.le_of_ble_eq_true rfl) eR rfl ?_
            refine fx_goto (tgt := 94) dX1_readItem_66 (by decide) ?_
            exact fx_vreq dX1_readItem_94 rfl rfl
        · exact absurd rfl hc41
      · exact absurd rfl hc24
    · exact absurd (by decide) hc6
theorem jI_bell {k : Nat} (hk7 : k < 7) (hz4 : F4 10 = nI z) (hG4 : G4 8 = B) (hz : F 25 1 = nI z) (hb : ∀ i, i < z → G 26 i = B i) (hB : jBy B z) (hs : s ≤ z) (hm : m < 120) (hd : kd B z s = 2 → d = nI (vc B z s 0)) (hW : jW V n) (hw : iw B z s k = true) : jIC F4 G4 F N G B z s m n V h t d := by
  have hz1 := hB.1
  have hn8 := hW.2.1
  have hz' : pF F 9 V n h 25 1 = nI z := (pF_o (by decide)).trans hz
  have hb' : ∀ i, i < z → pG G 9 V 26 i = B i := fun i hi => by rw [pG_o (by decide)]; exact hb i hi
  have hk := iw_kd hw
  obtain ⟨nx1, nx2, nx3⟩ := nx_b hB hs
  have nx4 := nx3 (by rw [hk]; decide)
  have eK := eX4_kindTold (F := F4) (G := G4) (m := nI m) (n := nI n) (w := jB false) hG4 hB hs
  rw [kf_y hk7 hw] at eK
  have eC := eX1_kindOfWord (F := pF F 9 V n h) (N := pN N 9 V t) (G := pG G 9 V) (d := d) (f := (-1)) hb' hB hs
  rw [kf_y hk7 hw] at eC
  have eA := eX1_adv (N := pN N 9 V t) (d := d) (f := (-1)) hz' hb' hB hs
  by_cases hn : n < 8
  · obtain ⟨c1, v1, w1, u1, s1, x1, y1, d1, i1, i2, i3, i4, i5, i6, i8, i7⟩ := jPer (F4 := F4) (G4 := G4) (F := pF F 9 V n h) (N := pN N 9 V t) (G := pG G 9 V) (d := nv B z (nx B z s) d) (w := false) (m := nI m) (n := nI (n + 1)) (i := 11) (lo := 0) (hi := 63) (x0 := nI 0) (by decide) hz4 hG4 hz' hb' hB nx2 nv_h (by decide) (by decide)
    obtain ⟨c2, v2, w2, u2, s2, x2, y2, d2, j1, j2, j3, j4, j5, j6, j8, j7⟩ := jPer (F4 := F4) (G4 := G4) (F := pF F 9 V n h) (N := pN N 9 V t) (G := pG G 9 V) (d := d1) (w := w1) (m := nI m) (n := nI (n + 1)) (i := 12) (lo := 0) (hi := 11) (x0 := nI 0) (by decide) hz4 hG4 hz' hb' hB i2 i3 (by decide) (by decide)
    obtain ⟨c3, v3, w3, u3, s3, x3, y3, d3, k1, k2, k3, k4, k5, k6, k8, k7⟩ := jPer (F4 := F4) (G4 := G4) (F := pF F 9 V n h) (N := pN N 9 V t) (G := pG G 9 V) (d := d2) (w := w2) (m := nI m) (n := nI (n + 1)) (i := 13) (lo := 1) (hi := 99) (x0 := nI 10) (by decide) hz4 hG4 hz' hb' hB j2 j3 (by decide) (by decide)
    have f3 : w3 = false → (x3 = y3 ∧ ∃ q, 1 ≤ q ∧ q ≤ 99 ∧ x3 = nI q) := fun q => ⟨(k5 q).1, (k5 q).2.elim (fun e => ⟨10, by decide, by decide, e⟩) (fun ⟨v, a, b, e⟩ => ⟨v, a, b, e⟩)⟩
    have f2' : w3 = false → (x2 = y2 ∧ ∃ q, q < 12 ∧ x2 = nI q) := fun q => by
      have q2 := jw_imp k4 q
      exact ⟨(j5 q2).1, (j5 q2).2.elim (fun e => ⟨0, by decide, e⟩) (fun ⟨v, a, b, e⟩ => ⟨v, by omega, e⟩)⟩
    have f1' : w3 = false → (x1 = y1 ∧ ∃ q, q < 64 ∧ x1 = nI q) := fun q => by
      have q1 := jw_imp j4 (jw_imp k4 q)
      exact ⟨(i5 q1).1, (i5 q1).2.elim (fun e => ⟨0, by decide, e⟩) (fun ⟨v, a, b, e⟩ => ⟨v, by omega, e⟩)⟩
    refine ⟨w3, s3, nI k, x1, x2, x3, nI (n + 1), if w3 = true then n else n + 1, if w3 = true then V else jcome V n (nI k) x1 x2 x3, d3, k2, fun _ => by omega, k3, fun q => ?_, ?_, ?_⟩
    · obtain ⟨-, q3, a3, b3, e3⟩ := f3 q
      obtain ⟨-, q2, a2, e2⟩ := f2' q
      obtain ⟨-, q1, a1, e1⟩ := f1' q
      rw [q, if_neg (by decide), if_neg (by decide)]
      exact ⟨Or.inr ⟨k, q1, q2, q3, hk7, a1, a2, a3, b3, hn, rfl, e1, e2, e3, rfl, rfl⟩, rfl⟩
    · refine mx_of (L := [some (.ref 0), none, none, none]) (by decide) (fun _ => rfl) (fun _ => Nat.le_of_ble_eq_true rfl) ?_
      generalize hout : ((none, rM (qM F4 (nI s3) (nI (en B z s3)) (nI (min 3 (kd B z s3))) (nI (va B z s3)) (jB w3) (nI (m + 1)) (nI (n + 1))) (ga G4 10 (it4 (G4 10) m (nI k) x1 x2 x3))) : Option Value × zH) = out
      have hlen : ∀ F' G', (rM F' G').length = out.2.length := fun F' G' => by rw [← hout]; exact rM_l
      have K81 : Fx mX4_readItem out 81 [some (.ref 0), some (.int (nI k)), some (.int x1), some (.int x2)] [] (sN F4 G4 B z s2 w2 (nI m) (nI (n + 1))) := by
        rw [← hout]
        cases c3
        · obtain ⟨q1, rfl⟩ := k6 rfl
          refine fx_aload_n dX4_readItem_81 rfl rfl ?_
          refine fx_iload_n dX4_readItem_82 rfl rfl ?_
          refine fx_iload_n dX4_readItem_83 rfl rfl ?_
          refine fx_iload_n dX4_readItem_84 rfl rfl ?_
          refine fx_aload_n dX4_readItem_85 rfl rfl ?_
          refine fx_ldcSw (i := 13) dX4_readItem_86 (List.mem_of_getElem? (i := 23) rfl) (by decide) ?_
          refine fx_callVv dX4_readItem_89 vX4_isNext lX4_308 (by decide) rfl (Nat.le_of_ble_eq_true rfl) q1 rfl ?_
          refine fx_if_eq (tgt := 105) dX4_readItem_92 (by decide) rM_l (fun hc92 => ?_) (fun hc92 => ?_)
          · refine fx_bipush (v := nI 10) dX4_readItem_105 (by decide) ?_
            refine fx_callVn dX4_readItem_107 vX4_item lX4_318 (by decide) rfl (Nat.le_of_ble_eq_true rfl) (eX4_item hm) rfl ?_
            refine fx_goto (tgt := 258) dX4_readItem_110 (by decide) ?_
            exact fx_vreq dX4_readItem_258 rfl rfl
          · exact absurd rfl hc92
        · obtain ⟨q1, q2⟩ := k8 rfl
          refine fx_aload_n dX4_readItem_81 rfl rfl ?_
          refine fx_iload_n dX4_readItem_82 rfl rfl ?_
          refine fx_iload_n dX4_readItem_83 rfl rfl ?_
          refine fx_iload_n dX4_readItem_84 rfl rfl ?_
          refine fx_aload_n dX4_readItem_85 rfl rfl ?_
          refine fx_ldcSw (i := 13) dX4_readItem_86 (List.mem_of_getElem? (i := 23) rfl) (by decide) ?_
          refine fx_callVv dX4_readItem_89 vX4_isNext lX4_308 (by decide) rfl (Nat.le_of_ble_eq_true rfl) q1 rfl ?_
          refine fx_if_eq (tgt := 105) dX4_readItem_92 (by decide) rM_l (fun hc92 => ?_) (fun hc92 => ?_)
          · exact absurd hc92 (by decide)
          · refine fx_aload_n dX4_readItem_95 rfl rfl ?_
            refine fx_iconst (v := nI 1) dX4_readItem_96 (by decide) ?_
            refine fx_bipush (v := nI 99) dX4_readItem_97 (by decide) ?_
            refine fx_callVv dX4_readItem_99 vX4_number lX4_311 (by decide) rfl (Nat.le_of_ble_eq_true rfl) q2 rfl ?_
            refine fx_goto (tgt := 107) dX4_readItem_102 (by decide) ?_
            refine fx_callVn dX4_readItem_107 vX4_item lX4_318 (by decide) rfl (Nat.le_of_ble_eq_true rfl) (eX4_item hm) rfl ?_
            refine fx_goto (tgt := 258) dX4_readItem_110 (by decide) ?_
            exact fx_vreq dX4_readItem_258 rfl rfl
      have K59 : Fx mX4_readItem out 59 [some (.ref 0), some (.int (nI k)), some (.int x1), none] [] (sN F4 G4 B z s1 w1 (nI m) (nI (n + 1))) := by
        cases c2
        · obtain ⟨q1, rfl⟩ := j6 rfl
          refine fx_aload_n dX4_readItem_59 rfl rfl ?_
          refine fx_ldcSw (i := 12) dX4_readItem_60 (List.mem_of_getElem? (i := 22) rfl) (by decide) ?_
          refine fx_callVv dX4_readItem_63 vX4_isNext lX4_308 (by decide) rfl (Nat.le_of_ble_eq_true rfl) q1 rfl ?_
          refine fx_if_eq (tgt := 79) dX4_readItem_66 (by decide) (hlen _ _) (fun hc66 => ?_) (fun hc66 => ?_)
          · refine fx_iconst (v := nI 0) dX4_readItem_79 (by decide) ?_
            refine fs_istore_n_3 dX4_readItem_80 rfl (by decide) ?_
            exact K81
          · exact absurd rfl hc66
        · obtain ⟨q1, q2⟩ := j8 rfl
          refine fx_aload_n dX4_readItem_59 rfl rfl ?_
          refine fx_ldcSw (i := 12) dX4_readItem_60 (List.mem_of_getElem? (i := 22) rfl) (by decide) ?_
          refine fx_callVv dX4_readItem_63 vX4_isNext lX4_308 (by decide) rfl (Nat.le_of_ble_eq_true rfl) q1 rfl ?_
          refine fx_if_eq (tgt := 79) dX4_readItem_66 (by decide) (hlen _ _) (fun hc66 => ?_) (fun hc66 => ?_)
          · exact absurd hc66 (by decide)
          · refine fx_aload_n dX4_readItem_69 rfl rfl ?_
            refine fx_iconst (v := nI 0) dX4_readItem_70 (by decide) ?_
            refine fx_bipush (v := nI 11) dX4_readItem_71 (by decide) ?_
            refine fx_callVv dX4_readItem_73 vX4_number lX4_311 (by decide) rfl (Nat.le_of_ble_eq_true rfl) q2 rfl ?_
            refine fx_goto (tgt := 80) dX4_readItem_76 (by decide) ?_
            refine fs_istore_n_3 dX4_readItem_80 rfl (by decide) ?_
            exact K81
      have K37 : Fx mX4_readItem out 37 [some (.ref 0), some (.int (nI k)), none, none] [] (sN F4 G4 B z (nx B z s) false (nI m) (nI (n + 1))) := by
        cases c1
        · obtain ⟨q1, rfl⟩ := i6 rfl
          refine fx_aload_n dX4_readItem_37 rfl rfl ?_
          refine fx_ldcSw (i := 11) dX4_readItem_38 (List.mem_of_getElem? (i := 21) rfl) (by decide) ?_
          refine fx_callVv dX4_readItem_41 vX4_isNext lX4_308 (by decide) rfl (Nat.le_of_ble_eq_true rfl) q1 rfl ?_
          refine fx_if_eq (tgt := 57) dX4_readItem_44 (by decide) (hlen _ _) (fun hc44 => ?_) (fun hc44 => ?_)
          · refine fx_iconst (v := nI 0) dX4_readItem_57 (by decide) ?_
            refine fs_istore_n_2 dX4_readItem_58 rfl (by decide) ?_
            exact K59
          · exact absurd rfl hc44
        · obtain ⟨q1, q2⟩ := i8 rfl
          refine fx_aload_n dX4_readItem_37 rfl rfl ?_
          refine fx_ldcSw (i := 11) dX4_readItem_38 (List.mem_of_getElem? (i := 21) rfl) (by decide) ?_
          refine fx_callVv dX4_readItem_41 vX4_isNext lX4_308 (by decide) rfl (Nat.le_of_ble_eq_true rfl) q1 rfl ?_
          refine fx_if_eq (tgt := 57) dX4_readItem_44 (by decide) (hlen _ _) (fun hc44 => ?_) (fun hc44 => ?_)
          · exact absurd hc44 (by decide)
          · refine fx_aload_n dX4_readItem_47 rfl rfl ?_
            refine fx_iconst (v := nI 0) dX4_readItem_48 (by decide) ?_
            refine fx_bipush (v := nI 63) dX4_readItem_49 (by decide) ?_
            refine fx_callVv dX4_readItem_51 vX4_number lX4_311 (by decide) rfl (Nat.le_of_ble_eq_true rfl) q2 rfl ?_
            refine fx_goto (tgt := 58) dX4_readItem_54 (by decide) ?_
            refine fs_istore_n_2 dX4_readItem_58 rfl (by decide) ?_
            exact K59
      have eM : Mx mX4_must [.ref 0, .int (nI 1)] (sN F4 G4 B z s false (nI m) (nI n)) none (sN F4 G4 B z (nx B z s) false (nI m) (nI n)) := eX4_must_t hz4 hG4 hB hs
      refine fx_aload_n dX4_readItem_0 rfl rfl ?_
      refine fx_callVv dX4_readItem_1 vX4_kindTold lX4_301 (by decide) rfl (Nat.le_of_ble_eq_true rfl) eK rfl ?_
      refine fs_istore_n_1 dX4_readItem_4 rfl (by decide) ?_
      refine fx_iload_n dX4_readItem_5 rfl rfl ?_
      refine fx_if_lt (tgt := 113) dX4_readItem_6 (by decide) (hlen _ _) (fun hc6 => ?_) (fun hc6 => ?_)
      · exact absurd hc6 (nI_pos (by omega))
      · refine fx_aload_n dX4_readItem_9 rfl rfl ?_
        refine fx_aload_n dX4_readItem_10 rfl rfl ?_
        refine fx_get dX4_readItem_11 kX4_304 rfl rfl ?_
        rw [q19]
        refine fx_bipush (v := nI 8) dX4_readItem_14 (by decide) ?_
        refine fx_icmp_ge (tgt := 23) dX4_readItem_16 (by decide) (hlen _ _) (fun hc16 => ?_) (fun hc16 => ?_)
        · exact absurd hc16 (nI_ge hn (by decide))
        · refine fx_iconst (v := nI 1) dX4_readItem_19 (by decide) ?_
          refine fx_goto (tgt := 24) dX4_readItem_20 (by decide) ?_
          refine fx_callVn dX4_readItem_24 vX4_must lX4_290 (by decide) rfl (Nat.le_of_ble_eq_true rfl) eM rfl ?_
          refine fx_aload_n dX4_readItem_27 rfl rfl ?_
          refine fx_dup dX4_readItem_28 rfl ?_
          refine fx_get dX4_readItem_29 kX4_304 rfl rfl ?_
          rw [q19]
          refine fx_iconst (v := nI 1) dX4_readItem_32 (by decide) ?_
          refine fx_iadd dX4_readItem_33 ?_
          rw [nI_add]
          refine fx_put dX4_readItem_34 kX4_304 rfl (Nat.le_of_ble_eq_true rfl) (fun _ => rfl) rfl rfl (u4_19 ..) ?_
          rw [qM_19]
          exact K37
    · have eR : Mx mX1_readBell [.ref 25, .ref 9, .int (nI k)] (tW F N G B z s d (-1) V n h t) none (tW F N G B z s3 d3 (ft w3 s3) (if w3 = true then V else jcome V n (nI k) x1 x2 x3) (if w3 = true then n else n + 1) h t) := by
        refine mx_of (L := [some (.ref 25), some (.ref 9), some (.int (nI k)), none, none, none, none]) (by decide) (fun _ => rfl) (fun _ => Nat.le_of_ble_eq_true rfl) ?_
        cases w3
        · obtain ⟨rfl, q3, a3, b3, e3⟩ := f3 rfl
          obtain ⟨rfl, q2, a2, e2⟩ := f2' rfl
          obtain ⟨rfl, q1, a1, e1⟩ := f1' rfl
          rw [if_neg (by decide), if_neg (by decide), ← jcome_u]
          refine fx_aload_n dX1_readBell_0 rfl rfl ?_
          refine fx_get dX1_readBell_1 kX1_100 rfl rfl ?_
          rw [show qC (pF F 9 V n h) (nI (kd B z s)) (nI s) (nI (en B z s)) d (-1) 9 5 = nI n from rfl]
          refine fx_bipush (v := nI 8) dX1_readBell_4 (by decide) ?_
          refine fx_icmp_lt (tgt := 18) dX1_readBell_6 (by decide) rC_l (fun hc6 => ?_) (fun hc6 => ?_)
          · refine fx_aload_n dX1_readBell_18 rfl rfl ?_
            refine fx_callVn dX1_readBell_19 vX1_advance lX1_25 (by decide) rfl (Nat.le_of_ble_eq_true rfl) eA rfl ?_
            refine fx_aload_n dX1_readBell_22 rfl rfl ?_
            refine fx_ldcS (i := 11) dX1_readBell_23 (List.mem_of_getElem? (i := 7) rfl) (by decide) ?_
            refine fx_iconst (v := nI 0) dX1_readBell_25 (by decide) ?_
            refine fx_bipush (v := nI 63) dX1_readBell_26 (by decide) ?_
            refine fx_iconst (v := nI 0) dX1_readBell_28 (by decide) ?_
            refine fx_callVv dX1_readBell_29 vX1_takePerhaps lX1_107 (by decide) rfl (Nat.le_of_ble_eq_true rfl) i7 rfl ?_
            refine fs_istore_n_3 dX1_readBell_32 rfl (by decide) ?_
            refine fx_aload_n dX1_readBell_33 rfl rfl ?_
            refine fx_ldcS (i := 12) dX1_readBell_34 (List.mem_of_getElem? (i := 8) rfl) (by decide) ?_
            refine fx_iconst (v := nI 0) dX1_readBell_36 (by decide) ?_
            refine fx_bipush (v := nI 11) dX1_readBell_37 (by decide) ?_
            refine fx_iconst (v := nI 0) dX1_readBell_39 (by decide) ?_
            refine fx_callVv dX1_readBell_40 vX1_takePerhaps lX1_107 (by decide) rfl (Nat.le_of_ble_eq_true rfl) j7 rfl ?_
            refine fs_istore_4 dX1_readBell_43 rfl (by decide) ?_
            refine fx_aload_n dX1_readBell_45 rfl rfl ?_
            refine fx_ldcS (i := 13) dX1_readBell_46 (List.mem_of_getElem? (i := 9) rfl) (by decide) ?_
            refine fx_iconst (v := nI 1) dX1_readBell_48 (by decide) ?_
            refine fx_bipush (v := nI 99) dX1_readBell_49 (by decide) ?_
            refine fx_bipush (v := nI 10) dX1_readBell_51 (by decide) ?_
            refine fx_callVv dX1_readBell_53 vX1_takePerhaps lX1_107 (by decide) rfl (Nat.le_of_ble_eq_true rfl) k7 rfl ?_
            refine fs_istore_5 dX1_readBell_56 rfl (by decide) ?_
            refine fx_aload_n dX1_readBell_58 rfl rfl ?_
            refine fx_get dX1_readBell_59 kX1_19 rfl rfl ?_
            rw [r6]
            refine fx_if_ge (tgt := 91) dX1_readBell_62 (by decide) rC_l (fun hc62 => ?_) (fun hc62 => ?_)
            · exact absurd hc62 (show ¬ (0 : Int32) ≤ (-1) by decide)
            · refine fx_aload_n dX1_readBell_65 rfl rfl ?_
              refine fx_iload_n dX1_readBell_66 rfl rfl ?_
              refine fx_iload_n dX1_readBell_67 rfl rfl ?_
              refine fx_callVv dX1_readBell_68 vX2_addBell lX1_115 (by decide) rfl (Nat.le_of_ble_eq_true rfl) (tW_ad hn) rfl ?_
              refine fs_istore_6 dX1_readBell_71 rfl (by decide) ?_
              refine fx_aload_n dX1_readBell_73 rfl rfl ?_
              refine fx_get dX1_readBell_74 kX1_119 rfl rfl ?_
              refine fx_iload dX1_readBell_77 rfl ?_
              refine fx_iload dX1_readBell_79 rfl ?_
              refine fx_iast dX1_readBell_81 rfl (vp_in_nI hn (by decide)) wa_14 ?_
              rw [nI_clamp (by omega), tW_w2 hn]
              refine fx_aload_n dX1_readBell_82 rfl rfl ?_
              refine fx_get dX1_readBell_83 kX1_121 rfl rfl ?_
              refine fx_iload dX1_readBell_86 rfl ?_
              refine fx_iload dX1_readBell_88 rfl ?_
              refine fx_iast dX1_readBell_90 rfl (vp_in_nI hn (by decide)) wa_15 ?_
              rw [nI_clamp (by omega), tW_w3 hn]
              exact fx_vreq dX1_readBell_91 rfl rfl
          · exact absurd (nI_lt hn (by decide)) hc6
        · rw [if_pos rfl, if_pos rfl]
          refine fx_aload_n dX1_readBell_0 rfl rfl ?_
          refine fx_get dX1_readBell_1 kX1_100 rfl rfl ?_
          rw [show qC (pF F 9 V n h) (nI (kd B z s)) (nI s) (nI (en B z s)) d (-1) 9 5 = nI n from rfl]
          refine fx_bipush (v := nI 8) dX1_readBell_4 (by decide) ?_
          refine fx_icmp_lt (tgt := 18) dX1_readBell_6 (by decide) rC_l (fun hc6 => ?_) (fun hc6 => ?_)
          · refine fx_aload_n dX1_readBell_18 rfl rfl ?_
            refine fx_callVn dX1_readBell_19 vX1_advance lX1_25 (by decide) rfl (Nat.le_of_ble_eq_true rfl) eA rfl ?_
            refine fx_aload_n dX1_readBell_22 rfl rfl ?_
            refine fx_ldcS (i := 11) dX1_readBell_23 (List.mem_of_getElem? (i := 7) rfl) (by decide) ?_
            refine fx_iconst (v := nI 0) dX1_readBell_25 (by decide) ?_
            refine fx_bipush (v := nI 63) dX1_readBell_26 (by decide) ?_
            refine fx_iconst (v := nI 0) dX1_readBell_28 (by decide) ?_
            refine fx_callVv dX1_readBell_29 vX1_takePerhaps lX1_107 (by decide) rfl (Nat.le_of_ble_eq_true rfl) i7 rfl ?_
            refine fs_istore_n_3 dX1_readBell_32 rfl (by decide) ?_
            refine fx_aload_n dX1_readBell_33 rfl rfl ?_
            refine fx_ldcS (i := 12) dX1_readBell_34 (List.mem_of_getElem? (i := 8) rfl) (by decide) ?_
            refine fx_iconst (v := nI 0) dX1_readBell_36 (by decide) ?_
            refine fx_bipush (v := nI 11) dX1_readBell_37 (by decide) ?_
            refine fx_iconst (v := nI 0) dX1_readBell_39 (by decide) ?_
            refine fx_callVv dX1_readBell_40 vX1_takePerhaps lX1_107 (by decide) rfl (Nat.le_of_ble_eq_true rfl) j7 rfl ?_
            refine fs_istore_4 dX1_readBell_43 rfl (by decide) ?_
            refine fx_aload_n dX1_readBell_45 rfl rfl ?_
            refine fx_ldcS (i := 13) dX1_readBell_46 (List.mem_of_getElem? (i := 9) rfl) (by decide) ?_
            refine fx_iconst (v := nI 1) dX1_readBell_48 (by decide) ?_
            refine fx_bipush (v := nI 99) dX1_readBell_49 (by decide) ?_
            refine fx_bipush (v := nI 10) dX1_readBell_51 (by decide) ?_
            refine fx_callVv dX1_readBell_53 vX1_takePerhaps lX1_107 (by decide) rfl (Nat.le_of_ble_eq_true rfl) k7 rfl ?_
            refine fs_istore_5 dX1_readBell_56 rfl (by decide) ?_
            refine fx_aload_n dX1_readBell_58 rfl rfl ?_
            refine fx_get dX1_readBell_59 kX1_19 rfl rfl ?_
            rw [r6]
            refine fx_if_ge (tgt := 91) dX1_readBell_62 (by decide) rC_l (fun hc62 => ?_) (fun hc62 => ?_)
            · exact fx_vreq dX1_readBell_91 rfl rfl
            · exact absurd (nI_pos' (by omega)) hc62
          · exact absurd (nI_lt hn (by decide)) hc6
      refine mx_of (L := [some (.ref 25), some (.ref 9), none]) (by decide) (fun _ => rfl) (fun _ => Nat.le_of_ble_eq_true rfl) ?_
      refine fx_aload_n dX1_readItem_0 rfl rfl ?_
      refine fx_callVv dX1_readItem_1 vX1_kindOfWord lX1_51 (by decide) rfl (Nat.le_of_ble_eq_true rfl) eC rfl ?_
      refine fs_istore_n_2 dX1_readItem_4 rfl (by decide) ?_
      refine fx_iload_n dX1_readItem_5 rfl rfl ?_
      refine fx_if_lt (tgt := 18) dX1_readItem_6 (by decide) rC_l (fun hc6 => ?_) (fun hc6 => ?_)
      · exact absurd hc6 (nI_pos (by omega))
      · refine fx_aload_n dX1_readItem_9 rfl rfl ?_
        refine fx_aload_n dX1_readItem_10 rfl rfl ?_
        refine fx_iload_n dX1_readItem_11 rfl rfl ?_
        refine fx_callVn dX1_readItem_12 vX1_readBell lX1_54 (by decide) rfl (Nat.le_of_ble_eq_true rfl) eR rfl ?_
        refine fx_goto (tgt := 94) dX1_readItem_15 (by decide) ?_
        exact fx_vreq dX1_readItem_94 rfl rfl
  · obtain rfl : n = 8 := by omega
    refine ⟨true, s, nI k, nI 0, nI 0, nI 10, nI (8 + 1), 8, V, d, hs, fun q => absurd q (by decide), hd, fun q => absurd q (by decide), ?_, ?_⟩
    · refine mx_of (L := [some (.ref 0), none, none, none]) (by decide) (fun _ => rfl) (fun _ => Nat.le_of_ble_eq_true rfl) ?_
      have eM : Mx mX4_must [.ref 0, .int (nI 0)] (sN F4 G4 B z s false (nI m) (nI 8)) none (sN F4 G4 B z s true (nI m) (nI 8)) := eX4_must_f
      refine fx_aload_n dX4_readItem_0 rfl rfl ?_
      refine fx_callVv dX4_readItem_1 vX4_kindTold lX4_301 (by decide) rfl (Nat.le_of_ble_eq_true rfl) eK rfl ?_
      refine fs_istore_n_1 dX4_readItem_4 rfl (by decide) ?_
      refine fx_iload_n dX4_readItem_5 rfl rfl ?_
      refine fx_if_lt (tgt := 113) dX4_readItem_6 (by decide) rM_l (fun hc6 => ?_) (fun hc6 => ?_)
      · exact absurd hc6 (nI_pos (by omega))
      · refine fx_aload_n dX4_readItem_9 rfl rfl ?_
        refine fx_aload_n dX4_readItem_10 rfl rfl ?_
        refine fx_get dX4_readItem_11 kX4_304 rfl rfl ?_
        rw [q19]
        refine fx_bipush (v := nI 8) dX4_readItem_14 (by decide) ?_
        refine fx_icmp_ge (tgt := 23) dX4_readItem_16 (by decide) rM_l (fun hc16 => ?_) (fun hc16 => ?_)
        · refine fx_iconst (v := nI 0) dX4_readItem_23 (by decide) ?_
          refine fx_callVn dX4_readItem_24 vX4_must lX4_290 (by decide) rfl (Nat.le_of_ble_eq_true rfl) eM rfl ?_
          refine fx_aload_n dX4_readItem_27 rfl rfl ?_
          refine fx_dup dX4_readItem_28 rfl ?_
          refine fx_get dX4_readItem_29 kX4_304 rfl rfl ?_
          rw [q19]
          refine fx_iconst (v := nI 1) dX4_readItem_32 (by decide) ?_
          refine fx_iadd dX4_readItem_33 ?_
          rw [nI_add]
          refine fx_put dX4_readItem_34 kX4_304 rfl (Nat.le_of_ble_eq_true rfl) (fun _ => rfl) rfl rfl (u4_19 ..) ?_
          rw [qM_19]
          refine fx_aload_n dX4_readItem_37 rfl rfl ?_
          refine fx_ldcSw (i := 11) dX4_readItem_38 (List.mem_of_getElem? (i := 21) rfl) (by decide) ?_
          refine fx_callVv dX4_readItem_41 vX4_isNext lX4_308 (by decide) rfl (Nat.le_of_ble_eq_true rfl) eX4_isNext_w rfl ?_
          refine fx_if_eq (tgt := 57) dX4_readItem_44 (by decide) rM_l (fun hc44 => ?_) (fun hc44 => ?_)
          · refine fx_iconst (v := nI 0) dX4_readItem_57 (by decide) ?_
            refine fs_istore_n_2 dX4_readItem_58 rfl (by decide) ?_
            refine fx_aload_n dX4_readItem_59 rfl rfl ?_
            refine fx_ldcSw (i := 12) dX4_readItem_60 (List.mem_of_getElem? (i := 22) rfl) (by decide) ?_
            refine fx_callVv dX4_readItem_63 vX4_isNext lX4_308 (by decide) rfl (Nat.le_of_ble_eq_true rfl) eX4_isNext_w rfl ?_
            refine fx_if_eq (tgt := 79) dX4_readItem_66 (by decide) rM_l (fun hc66 => ?_) (fun hc66 => ?_)
            · refine fx_iconst (v := nI 0) dX4_readItem_79 (by decide) ?_
              refine fs_istore_n_3 dX4_readItem_80 rfl (by decide) ?_
              refine fx_aload_n dX4_readItem_81 rfl rfl ?_
              refine fx_iload_n dX4_readItem_82 rfl rfl ?_
              refine fx_iload_n dX4_readItem_83 rfl rfl ?_
              refine fx_iload_n dX4_readItem_84 rfl rfl ?_
              refine fx_aload_n dX4_readItem_85 rfl rfl ?_
              refine fx_ldcSw (i := 13) dX4_readItem_86 (List.mem_of_getElem? (i := 23) rfl) (by decide) ?_
              refine fx_callVv dX4_readItem_89 vX4_isNext lX4_308 (by decide) rfl (Nat.le_of_ble_eq_true rfl) eX4_isNext_w rfl ?_
              refine fx_if_eq (tgt := 105) dX4_readItem_92 (by decide) rM_l (fun hc92 => ?_) (fun hc92 => ?_)
              · refine fx_bipush (v := nI 10) dX4_readItem_105 (by decide) ?_
                refine fx_callVn dX4_readItem_107 vX4_item lX4_318 (by decide) rfl (Nat.le_of_ble_eq_true rfl) (eX4_item hm) rfl ?_
                refine fx_goto (tgt := 258) dX4_readItem_110 (by decide) ?_
                exact fx_vreq dX4_readItem_258 rfl rfl
              · exact absurd rfl hc92
            · exact absurd rfl hc66
          · exact absurd rfl hc44
        · exact absurd (Int32.le_refl _) hc16
    · have eR : Mx mX1_readBell [.ref 25, .ref 9, .int (nI k)] (tW F N G B z s d (-1) V 8 h t) none (tW F N G B z s d (ft true s) V 8 h t) := by
        refine mx_of (L := [some (.ref 25), some (.ref 9), some (.int (nI k)), none, none, none, none]) (by decide) (fun _ => rfl) (fun _ => Nat.le_of_ble_eq_true rfl) ?_
        refine fx_aload_n dX1_readBell_0 rfl rfl ?_
        refine fx_get dX1_readBell_1 kX1_100 rfl rfl ?_
        rw [show qC (pF F 9 V 8 h) (nI (kd B z s)) (nI s) (nI (en B z s)) d (-1) 9 5 = nI 8 from rfl]
        refine fx_bipush (v := nI 8) dX1_readBell_4 (by decide) ?_
        refine fx_icmp_lt (tgt := 18) dX1_readBell_6 (by decide) rC_l (fun hc6 => ?_) (fun hc6 => ?_)
        · exact absurd hc6 (by decide)
        · refine fx_aload_n dX1_readBell_9 rfl rfl ?_
          refine fx_aload_n dX1_readBell_10 rfl rfl ?_
          refine fx_get dX1_readBell_11 kX1_35 rfl rfl ?_
          rw [r3]
          refine fx_put dX1_readBell_14 kX1_19 rfl (Nat.le_of_ble_eq_true rfl) (fun _ => rfl) rfl rfl u1_6 ?_
          rw [qC_6]
          exact fx_vreq dX1_readBell_17 rfl rfl
      refine mx_of (L := [some (.ref 25), some (.ref 9), none]) (by decide) (fun _ => rfl) (fun _ => Nat.le_of_ble_eq_true rfl) ?_
      refine fx_aload_n dX1_readItem_0 rfl rfl ?_
      refine fx_callVv dX1_readItem_1 vX1_kindOfWord lX1_51 (by decide) rfl (Nat.le_of_ble_eq_true rfl) eC rfl ?_
      refine fs_istore_n_2 dX1_readItem_4 rfl (by decide) ?_
      refine fx_iload_n dX1_readItem_5 rfl rfl ?_
      refine fx_if_lt (tgt := 18) dX1_readItem_6 (by decide) rC_l (fun hc6 => ?_) (fun hc6 => ?_)
      · exact absurd hc6 (nI_pos (by omega))
      · refine fx_aload_n dX1_readItem_9 rfl rfl ?_
        refine fx_aload_n dX1_readItem_10 rfl rfl ?_
        refine fx_iload_n dX1_readItem_11 rfl rfl ?_
        refine fx_callVn dX1_readItem_12 vX1_readBell lX1_54 (by decide) rfl (Nat.le_of_ble_eq_true rfl) eR rfl ?_
        refine fx_goto (tgt := 94) dX1_readItem_15 (by decide) ?_
        exact fx_vreq dX1_readItem_94 rfl rfl
theorem jItem (hz4 : F4 10 = nI z) (hG4 : G4 8 = B) (hz : F 25 1 = nI z) (hb : ∀ i, i < z → G 26 i = B i) (hB : jBy B z) (hs : s ≤ z) (hm : m < 120) (hd : kd B z s = 2 → d = nI (vc B z s 0)) (hW : jW V n) : jIC F4 G4 F N G B z s m n V h t d := by
  by_cases hno : ∃ i, i < 11 ∧ iw B z s i = true
  · obtain ⟨i, hi, hw⟩ := hno
    by_cases h7 : i < 7
    · exact jI_bell h7 hz4 hG4 hz hb hB hs hm hd hW hw
    · rcases (show i = 7 ∨ i = 8 ∨ i = 9 ∨ i = 10 by omega) with rfl | rfl | rfl | rfl
      · exact jI_net hz4 hG4 hz hb hB hs hm hW hw
      · exact jI_thick hz4 hG4 hz hb hB hs hm hW hw
      · exact jI_hunter hz4 hG4 hz hb hB hs hm hW hw
      · exact jI_fear hz4 hG4 hz hb hB hs hm hW hw
  · exact jI_none hG4 hb hB hs hm hd (fun i hi => by
      cases e : iw B z s i
      · rfl
      · exact absurd ⟨i, hi, e⟩ hno)
end
