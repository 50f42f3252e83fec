/-! ===== items ===== -/
set_option maxRecDepth 100000
theorem iw_oth {B : Nat → Int32} {z s i j : Nat} (hi : i < 14) (hj : j < 14) (h : iw B z s i = true) (hne : j ≠ i) : iw B z s j = false := by
  cases q : iw B z s j
  · rfl
  · exact absurd (iw_one hj hi q h) hne
theorem jcome_u {V : Nat → Int32} {n : Nat} {k c t w : Int32} : upd (upd (jcome V n k c (nI 0) (nI 10)) (146 + 5 * n + 2) t) (146 + 5 * n + 3) w = jcome V n k c t w := by
  obtain ⟨a0, a1, a2, a3, a4⟩ := jcome_n (V := V) (n := n) (k := k) (c := c) (t := nI 0) (w := nI 10)
  obtain ⟨b0, b1, b2, b3, b4⟩ := jcome_n (V := V) (n := n) (k := k) (c := c) (t := t) (w := w)
  funext i
  by_cases e3 : i = 146 + 5 * n + 3
  · subst e3; rw [pk_us, b3]
  · rw [pk_un e3]
    by_cases e2 : i = 146 + 5 * n + 2
    · subst e2; rw [pk_us, b2]
    · rw [pk_un e2]
      by_cases e0 : i = 146 + 5 * n + 0
      · rw [e0, a0, b0]
      · by_cases e1 : i = 146 + 5 * n + 1
        · rw [e1, a1, b1]
        · by_cases e4 : i = 146 + 5 * n + 4
          · rw [e4, a4, b4]
          · by_cases e5 : i = 2
            · subst e5; unfold jcome; rw [pk_us, pk_us]
            · rw [jcome_o e5 (fun f hf => by omega), jcome_o e5 (fun f hf => by omega)]
section
variable {F : Nat → Nat → Int32} {N : Nat → Nat → Int64} {G : Nat → Nat → Int32} {V V' : Nat → Int32} {n n' : Nat} {h h' : Int32} {t t' : Nat} {a b c d e x : Int32}
theorem tW_I : jI (qC (pF F 9 V n h) a b c d e) (pN N 9 V t) (pG G 9 V) 9 V n h t := jI_else jI_p (fun _ => qC_o (by decide)) (fun _ => rfl) (fun _ _ _ => rfl)
theorem tW_c : jC (qC (pF F 9 V n h) a b c d e) (pN N 9 V t) (pG G 9 V) 9 V' n' h' t' = rC (qC (pF F 9 V' n' h') a b c d e) (pN N 9 V' t') (pG G 9 V') := by
  symm
  refine j_can tW_I ⟨fun p s q => ?_, fun p s q => ?_, fun p q => ?_⟩
  · by_cases hp : p = 25
    · subst hp; rfl
    · rw [qC_o hp, qC_o hp]
      by_cases h9 : p = 9
      · subst h9
        unfold pF
        rw [if_pos rfl, if_pos rfl, if_neg (fun z => q ⟨rfl, Or.inl z⟩), if_neg (fun z => q ⟨rfl, Or.inr (Or.inl z)⟩), if_neg (fun z => q ⟨rfl, Or.inr (Or.inr (Or.inl z))⟩), if_neg (fun z => q ⟨rfl, Or.inr (Or.inr (Or.inr (Or.inl z)))⟩), if_neg (fun z => q ⟨rfl, Or.inr (Or.inr (Or.inr (Or.inr z)))⟩), if_neg (fun z => q ⟨rfl, Or.inl z⟩), if_neg (fun z => q ⟨rfl, Or.inr (Or.inl z)⟩), if_neg (fun z => q ⟨rfl, Or.inr (Or.inr (Or.inl z))⟩), if_neg (fun z => q ⟨rfl, Or.inr (Or.inr (Or.inr (Or.inl z)))⟩), if_neg (fun z => q ⟨rfl, Or.inr (Or.inr (Or.inr (Or.inr z)))⟩)]
      · rw [pF_o h9, pF_o h9]
  · unfold pN
    by_cases h9 : p = 9
    · subst h9
      rw [if_pos rfl, if_pos rfl, if_neg (fun z => q ⟨rfl, Or.inl z⟩), if_neg (fun z => q ⟨rfl, Or.inr z⟩), if_neg (fun z => q ⟨rfl, Or.inl z⟩), if_neg (fun z => q ⟨rfl, Or.inr z⟩)]
    · rw [if_neg h9, if_neg h9]
  · rw [pG_o (by omega), pG_o (by omega)]
theorem wa_14 {A : Nat → Int32} : z_set (rC F N G) 14 (.inl (0, 8, .inl A)) = rC F N (ga G 14 A) := rfl
theorem wa_15 {A : Nat → Int32} : z_set (rC F N G) 15 (.inl (0, 8, .inl A)) = rC F N (ga G 15 A) := rfl
theorem tW_w2 {i : Nat} (hi : i < 8) : rC (qC (pF F 9 V n h) a b c d e) (pN N 9 V t) (ga (pG G 9 V) 14 (upd (pG G 9 V 14) i x)) = rC (qC (pF F 9 (upd V (146 + 5 * i + 2) x) n h) a b c d e) (pN N 9 (upd V (146 + 5 * i + 2) x) t) (pG G 9 (upd V (146 + 5 * i + 2) x)) :=
  (j_can (jI_w2 tW_I hi) (jFr_g (j := 5) jFr_r (by decide))).trans tW_c
theorem tW_w3 {i : Nat} (hi : i < 8) : rC (qC (pF F 9 V n h) a b c d e) (pN N 9 V t) (ga (pG G 9 V) 15 (upd (pG G 9 V 15) i x)) = rC (qC (pF F 9 (upd V (146 + 5 * i + 3) x) n h) a b c d e) (pN N 9 (upd V (146 + 5 * i + 3) x) t) (pG G 9 (upd V (146 + 5 * i + 3) x)) :=
  (j_can (jI_w3 tW_I hi) (jFr_g (j := 6) jFr_r (by decide))).trans tW_c
theorem tW_th {i : Nat} (hi : i < 64) : rC (qC (pF F 9 V n h) a b c d e) (pN N 9 V t) (ga (pG G 9 V) 10 (upd (pG G 9 V 10) i x)) = rC (qC (pF F 9 (upd V (82 + i) x) n h) a b c d e) (pN N 9 (upd V (82 + i) x) t) (pG G 9 (upd V (82 + i) x)) :=
  (j_can (jI_wth tW_I hi) (jFr_g (j := 1) jFr_r (by decide))).trans tW_c
theorem tW_hu {i : Nat} (hi : i < 4) : rC (qC (pF F 9 V n h) a b c d e) (pN N 9 V t) (ga (pG G 9 V) 11 (upd (pG G 9 V 11) i x)) = rC (qC (pF F 9 (upd V (14 + i) x) n h) a b c d e) (pN N 9 (upd V (14 + i) x) t) (pG G 9 (upd V (14 + i) x)) :=
  (j_can (jI_whu tW_I hi) (jFr_g (j := 2) jFr_r (by decide))).trans tW_c
theorem tW_fe : rC (f2 (qC (pF F 9 V n h) a b c d e) 9 4 x) (pN N 9 V t) (pG G 9 V) = rC (qC (pF F 9 (upd V 1 x) n h) a b c d e) (pN N 9 (upd V 1 x) t) (pG G 9 (upd V 1 x)) :=
  (j_can (jI_wf tW_I) (jFr_f (j := 4) jFr_r (by decide))).trans tW_c
theorem tW_se {i : Nat} (hi : i < 64) : Mx mX2_setNet [.ref 9, .int (nI i), .int (nI 1)] (rC (qC (pF F 9 V n h) a b c d e) (pN N 9 V t) (pG G 9 V)) none (rC (qC (pF F 9 (upd V (18 + i) (nI 1)) n h) a b c d e) (pN N 9 (upd V (18 + i) (nI 1)) t) (pG G 9 (upd V (18 + i) (nI 1)))) := by
  have q := eX2_setNet (b := true) zw9 (tW_I (F := F) (N := N) (G := G) (V := V) (n := n) (h := h) (t := t) (a := a) (b := b) (c := c) (d := d) (e := e)) hi
  rw [tW_c] at q
  exact q
theorem tW_ad {k y : Int32} (hn : n < 8) : Mx mX2_addBell [.ref 9, .int k, .int y] (rC (qC (pF F 9 V n h) a b c d e) (pN N 9 V t) (pG G 9 V)) (some (.int (nI n))) (rC (qC (pF F 9 (jcome V n k y (nI 0) (nI 10)) (n + 1) h) a b c d e) (pN N 9 (jcome V n k y (nI 0) (nI 10)) t) (pG G 9 (jcome V n k y (nI 0) (nI 10)))) := by
  have q := eX2_addBell (k := k) (c := y) zw9 (tW_I (F := F) (N := N) (G := G) (V := V) (n := n) (h := h) (t := t) (a := a) (b := b) (c := c) (d := d) (e := e)) hn
  rw [tW_c] at q
  exact q
end
abbrev tW (F : Nat → Nat → Int32) (N : Nat → Nat → Int64) (G : Nat → Nat → Int32) (B : Nat → Int32) (z s : Nat) (d f : Int32) (V : Nat → Int32) (n : Nat) (h : Int32) (t : Nat) : zH := sC (pF F 9 V n h) (pN N 9 V t) (pG G 9 V) B z s d f
/-- what an item does -/
def jIt (V : Nat → Int32) (n : Nat) (x1 x2 x3 x4 : Int32) (V' : Nat → Int32) (n' : Nat) : Prop :=
  (∃ p, (p = 1 ∨ 14 ≤ p) ∧ p < 146 ∧ x1 = nI (20 + p) ∧ V' = upd V p x2 ∧ n' = n ∧ jW V' n) ∨
  (∃ kk cc tt ww, kk < 7 ∧ cc < 64 ∧ tt < 12 ∧ 1 ≤ ww ∧ ww ≤ 99 ∧ n < 8 ∧ x1 = nI kk ∧ x2 = nI cc ∧ x3 = nI tt ∧ x4 = nI ww ∧ V' = jcome V n x1 x2 x3 x4 ∧ n' = n + 1)
def jIC (F4 : Nat → Int32) (G4 : Nat → Nat → Int32) (F : Nat → Nat → Int32) (N : Nat → Nat → Int64) (G : Nat → Nat → Int32) (B : Nat → Int32) (z s m n : Nat) (V : Nat → Int32) (h : Int32) (t : Nat) (d : Int32) : Prop :=
  ∃ (w : Bool) (s' : Nat) (x1 x2 x3 x4 nb : Int32) (n' : Nat) (V' : Nat → Int32) (d' : Int32), s' ≤ z ∧ (w = false → s < s') ∧ (kd B z s' = 2 → d' = nI (vc B z s' 0)) ∧ (w = false → jIt V n x1 x2 x3 x4 V' n' ∧ nb = nI n') ∧
    Mx mX4_readItem [.ref 0] (sN F4 G4 B z s false (nI m) (nI n)) none (rM (qM F4 (nI s') (nI (en B z s')) (nI (min 3 (kd B z s'))) (nI (va B z s')) (jB w) (nI (m + 1)) nb) (ga G4 10 (it4 (G4 10) m x1 x2 x3 x4))) ∧
    Mx mX1_readItem [.ref 25, .ref 9] (tW F N G B z s d (-1) V n h t) none (tW F N G B z s' d' (ft w s') V' n' h t)
section
variable {F4 : Nat → Int32} {G4 : Nat → Nat → Int32} {F : Nat → Nat → Int32} {N : Nat → Nat → Int64} {G : Nat → Nat → Int32} {B : Nat → Int32} {z s m n : Nat} {V : Nat → Int32} {h : Int32} {t : Nat} {d : Int32}
theorem jI_none (hG4 : G4 8 = B) (hb : ∀ i, i < z → G 26 i = B i) (hB : jBy B z) (hs : s ≤ z) (hm : m < 120) (hd : kd B z s = 2 → d = nI (vc B z s 0)) (hno : ∀ i, i < 11 → iw B z s i = false) : jIC F4 G4 F N G B z s m n V h t d := by
  have hz1 := hB.1
  have hb' : ∀ i, i < z → pG G 9 V 26 i = B i := fun i hi => by rw [pG_o (by decide)]; exact hb i hi
  have eK := eX4_kindTold (F := F4) (G := G4) (m := nI m) (n := nI n) (w := jB false) hG4 hB hs
  rw [kf_n (fun i hi => hno i (by omega))] at eK
  have eC := eX1_kindOfWord (F := pF F 9 V n h) (N := pN N 9 V t) (G := pG G 9 V) (d := d) (f := (-1)) hb' hB hs
  rw [kf_n (fun i hi => hno i (by omega))] at eC
  have e10 := eX4_isWord (F := F4) (G := G4) (m := nI m) (n := nI n) (w := jB false) hG4 hB hs (show 10 < 14 by decide)
  rw [hno 10 (by decide)] at e10
  have c7 := eX1_isWord (F := pF F 9 V n h) (N := pN N 9 V t) (G := pG G 9 V) (d := d) (f := (-1)) hb' hB hs (show 7 < 14 by decide)
  have c8 := eX1_isWord (F := pF F 9 V n h) (N := pN N 9 V t) (G := pG G 9 V) (d := d) (f := (-1)) hb' hB hs (show 8 < 14 by decide)
  have c9 := eX1_isWord (F := pF F 9 V n h) (N := pN N 9 V t) (G := pG G 9 V) (d := d) (f := (-1)) hb' hB hs (show 9 < 14 by decide)
  have c10 := eX1_isWord (F := pF F 9 V n h) (N := pN N 9 V t) (G := pG G 9 V) (d := d) (f := (-1)) hb' hB hs (show 10 < 14 by decide)
  rw [hno 7 (by decide)] at c7
  rw [hno 8 (by decide)] at c8
  rw [hno 9 (by decide)] at c9
  rw [hno 10 (by decide)] at c10
  refine ⟨true, s, nI 21, nI (va B z s), nI 0, nI 0, nI n, n, V, d, hs, fun q => absurd q (by decide), hd, fun q => absurd q (by decide), ?_, ?_⟩
  · refine mx_of (L := [some (.ref 0), none, none, none]) (by decide) (fun _ => rfl) (fun _ => Nat.le_of_ble_eq_true rfl) ?_
    refine fx_aload_n dX4_readItem_0 rfl rfl ?_
    refine fx_callVv dX4_readItem_1 vX4_kindTold lX4_301 (by decide) rfl (Nat.le_of_ble_eq_true rfl) eK rfl ?_
    refine fs_istore_n_1 dX4_readItem_4 rfl (by decide) ?_
    refine fx_iload_n dX4_readItem_5 rfl rfl ?_
    refine fx_if_lt (tgt := 113) dX4_readItem_6 (by decide) rM_l (fun hc6 => ?_) (fun hc6 => ?_)
    · refine fx_aload_n dX4_readItem_113 rfl rfl ?_
      refine fx_ldcSw (i := 7) dX4_readItem_114 (List.mem_of_getElem? (i := 24) rfl) (by decide) ?_
      refine fx_callVv dX4_readItem_117 vX4_isNext lX4_308 (by decide) rfl (Nat.le_of_ble_eq_true rfl) (eX4_isNext_n hG4 hB hs (by decide) (hno 7 (by decide))) rfl ?_
      refine fx_if_eq (tgt := 143) dX4_readItem_120 (by decide) rM_l (fun hc120 => ?_) (fun hc120 => ?_)
      · refine fx_aload_n dX4_readItem_143 rfl rfl ?_
        refine fx_ldcSw (i := 8) dX4_readItem_144 (List.mem_of_getElem? (i := 25) rfl) (by decide) ?_
        refine fx_callVv dX4_readItem_147 vX4_isNext lX4_308 (by decide) rfl (Nat.le_of_ble_eq_true rfl) (eX4_isNext_n hG4 hB hs (by decide) (hno 8 (by decide))) rfl ?_
        refine fx_if_eq (tgt := 181) dX4_readItem_150 (by decide) rM_l (fun hc150 => ?_) (fun hc150 => ?_)
        · refine fx_aload_n dX4_readItem_181 rfl rfl ?_
          refine fx_ldcSw (i := 9) dX4_readItem_182 (List.mem_of_getElem? (i := 26) rfl) (by decide) ?_
          refine fx_callVv dX4_readItem_185 vX4_isNext lX4_308 (by decide) rfl (Nat.le_of_ble_eq_true rfl) (eX4_isNext_n hG4 hB hs (by decide) (hno 9 (by decide))) rfl ?_
          refine fx_if_eq (tgt := 232) dX4_readItem_188 (by decide) rM_l (fun hc188 => ?_) (fun hc188 => ?_)
          · refine fx_aload_n dX4_readItem_232 rfl rfl ?_
            refine fx_aload_n dX4_readItem_233 rfl rfl ?_
            refine fx_ldcSw (i := 10) dX4_readItem_234 (List.mem_of_getElem? (i := 27) rfl) (by decide) ?_
            refine fx_callVv dX4_readItem_237 vX4_isWord lX4_297 (by decide) rfl (Nat.le_of_ble_eq_true rfl) e10 rfl ?_
            refine fx_callVn dX4_readItem_240 vX4_must lX4_290 (by decide) rfl (Nat.le_of_ble_eq_true rfl) eX4_must_f rfl ?_
            refine fx_aload_n dX4_readItem_243 rfl rfl ?_
            refine fx_bipush (v := nI 21) dX4_readItem_244 (by decide) ?_
            refine fx_aload_n dX4_readItem_246 rfl rfl ?_
            refine fx_iconst (v := nI 0) dX4_readItem_247 (by decide) ?_
            refine fx_bipush (v := nI 9) dX4_readItem_248 (by decide) ?_
            refine fx_callVv dX4_readItem_250 vX4_number lX4_311 (by decide) rfl (Nat.le_of_ble_eq_true rfl) eX4_number_w rfl ?_
            refine fx_iconst (v := nI 0) dX4_readItem_253 (by decide) ?_
            refine fx_iconst (v := nI 0) dX4_readItem_254 (by decide) ?_
            refine fx_callVn dX4_readItem_255 vX4_item lX4_318 (by decide) rfl (Nat.le_of_ble_eq_true rfl) (eX4_item hm) rfl ?_
            exact fx_vreq dX4_readItem_258 rfl rfl
          · exact absurd rfl hc188
        · exact absurd rfl hc150
      · exact absurd rfl hc120
    · exact absurd (by decide) hc6
  · refine mx_of (L := [some (.ref 25), some (.ref 9), none]) (by decide) (fun _ => rfl) (fun _ => Nat.le_of_ble_eq_true rfl) ?_
    refine fx_aload_n dX1_readItem_0 rfl rfl ?_
    refine fx_callVv dX1_readItem_1 vX1_kindOfWord lX1_51 (by decide) rfl (Nat.le_of_ble_eq_true rfl) eC rfl ?_
    refine fs_istore_n_2 dX1_readItem_4 rfl (by decide) ?_
    refine fx_iload_n dX1_readItem_5 rfl rfl ?_
    refine fx_if_lt (tgt := 18) dX1_readItem_6 (by decide) rC_l (fun hc6 => ?_) (fun hc6 => ?_)
    · refine fx_aload_n dX1_readItem_18 rfl rfl ?_
      refine fx_ldcS (i := 7) dX1_readItem_19 (List.mem_of_getElem? (i := 10) rfl) (by decide) ?_
      refine fx_callVv dX1_readItem_21 vX1_isWord lX1_60 (by decide) rfl (Nat.le_of_ble_eq_true rfl) c7 rfl ?_
      refine fx_if_eq (tgt := 35) dX1_readItem_24 (by decide) rC_l (fun hc24 => ?_) (fun hc24 => ?_)
      · refine fx_aload_n dX1_readItem_35 rfl rfl ?_
        refine fx_ldcS (i := 8) dX1_readItem_36 (List.mem_of_getElem? (i := 11) rfl) (by decide) ?_
        refine fx_callVv dX1_readItem_38 vX1_isWord lX1_60 (by decide) rfl (Nat.le_of_ble_eq_true rfl) c8 rfl ?_
        refine fx_if_eq (tgt := 52) dX1_readItem_41 (by decide) rC_l (fun hc41 => ?_) (fun hc41 => ?_)
        · refine fx_aload_n dX1_readItem_52 rfl rfl ?_
          refine fx_ldcS (i := 9) dX1_readItem_53 (List.mem_of_getElem? (i := 12) rfl) (by decide) ?_
          refine fx_callVv dX1_readItem_55 vX1_isWord lX1_60 (by decide) rfl (Nat.le_of_ble_eq_true rfl) c9 rfl ?_
          refine fx_if_eq (tgt := 69) dX1_readItem_58 (by decide) rC_l (fun hc58 => ?_) (fun hc58 => ?_)
          · refine fx_aload_n dX1_readItem_69 rfl rfl ?_
            refine fx_ldcS (i := 10) dX1_readItem_70 (List.mem_of_getElem? (i := 13) rfl) (by decide) ?_
            refine fx_callVv dX1_readItem_72 vX1_isWord lX1_60 (by decide) rfl (Nat.le_of_ble_eq_true rfl) c10 rfl ?_
            refine fx_if_eq (tgt := 86) dX1_readItem_75 (by decide) rC_l (fun hc75 => ?_) (fun hc75 => ?_)
            · refine fx_aload_n dX1_readItem_86 rfl rfl ?_
              refine fx_aload_n dX1_readItem_87 rfl rfl ?_
              refine fx_get dX1_readItem_88 kX1_35 rfl rfl ?_
              rw [r3]
              refine fx_put dX1_readItem_91 kX1_19 rfl (Nat.le_of_ble_eq_true rfl) (fun _ => rfl) rfl rfl u1_6 ?_
              rw [qC_6]
              exact fx_vreq dX1_readItem_94 rfl rfl
            · exact absurd rfl hc75
          · exact absurd rfl hc58
        · exact absurd rfl hc41
      · exact absurd rfl hc24
    · exact absurd (by decide) hc6
theorem jI_net (hz4 : F4 10 = nI z) (hG4 : G4 8 = B) (hz : F 25 1 = nI z) (hb : ∀ i, i < z → G 26 i = B i) (hB : jBy B z) (hs : s ≤ z) (hm : m < 120) (hW : jW V n) (hw : iw B z s 7 = true) : jIC F4 G4 F N G B z s m n V h t d := by
  have hz1 := hB.1
  have hz' : pF F 9 V n h 25 1 = nI z := (pF_o (by decide)).trans hz
  have hb' : ∀ i, i < z → pG G 9 V 26 i = B i := fun i hi => by rw [pG_o (by decide)]; exact hb i hi
  have ho := fun j hj hne => iw_oth (j := j) (show 7 < 14 by decide) hj hw hne
  have hk := iw_kd hw
  obtain ⟨nx1, nx2, nx3⟩ := nx_b hB hs
  have nx4 := nx3 (by rw [hk]; decide)
  have eK := eX4_kindTold (F := F4) (G := G4) (m := nI m) (n := nI n) (w := jB false) hG4 hB hs
  rw [kf_n (fun i hi => ho i (by omega) (by omega))] at eK
  have eC := eX1_kindOfWord (F := pF F 9 V n h) (N := pN N 9 V t) (G := pG G 9 V) (d := d) (f := (-1)) hb' hB hs
  rw [kf_n (fun i hi => ho i (by omega) (by omega))] at eC
  have c7 := eX1_isWord (F := pF F 9 V n h) (N := pN N 9 V t) (G := pG G 9 V) (d := d) (f := (-1)) hb' hB hs (show 7 < 14 by decide)
  rw [hw] at c7
  have eA := eX1_adv (N := pN N 9 V t) (d := d) (f := (-1)) hz' hb' hB hs
  obtain ⟨w', s', x, y, d', j1, j2, j3, j4, j5, j6, j7⟩ := jNum (F4 := F4) (G4 := G4) (F := pF F 9 V n h) (N := pN N 9 V t) (G := pG G 9 V) (d := nv B z (nx B z s) d) (w := false) (m := nI m) (n := nI n) (lo := 0) (hi := 63) hz4 hG4 hz' hb' hB nx2 nv_h (by decide) (by decide)
  refine ⟨w', s', nI 38 + x, nI 1, nI 0, nI 0, nI n, n, if w' = true then V else upd V (18 + x.toNatClampNeg) (nI 1), d', j2, fun _ => by omega, j3, fun q => ?_, ?_, ?_⟩
  · obtain ⟨-, v, v1, v2, rfl⟩ := j5 q
    rw [q, if_neg (by decide), nI_clamp (by omega)]
    exact ⟨Or.inl ⟨18 + v, by omega, by omega, by rw [nI_add]; congr 1; omega, rfl, rfl, jW_net hW (by omega) (Or.inr rfl)⟩, rfl⟩
  · refine mx_of (L := [some (.ref 0), none, none, none]) (by decide) (fun _ => rfl) (fun _ => Nat.le_of_ble_eq_true rfl) ?_
    refine fx_aload_n dX4_readItem_0 rfl rfl ?_
    refine fx_callVv dX4_readItem_1 vX4_kindTold lX4_301 (by decide) rfl (Nat.le_of_ble_eq_true rfl) eK rfl ?_
    refine fs_istore_n_1 dX4_readItem_4 rfl (by decide) ?_
    refine fx_iload_n dX4_readItem_5 rfl rfl ?_
    refine fx_if_lt (tgt := 113) dX4_readItem_6 (by decide) rM_l (fun hc6 => ?_) (fun hc6 => ?_)
    · refine fx_aload_n dX4_readItem_113 rfl rfl ?_
      refine fx_ldcSw (i := 7) dX4_readItem_114 (List.mem_of_getElem? (i := 24) rfl) (by decide) ?_
      refine fx_callVv dX4_readItem_117 vX4_isNext lX4_308 (by decide) rfl (Nat.le_of_ble_eq_true rfl) (eX4_isNext_y hz4 hG4 hB hs (by decide) hw) rfl ?_
      refine fx_if_eq (tgt := 143) dX4_readItem_120 (by decide) rM_l (fun hc120 => ?_) (fun hc120 => ?_)
      · exact absurd hc120 (by decide)
      · refine fx_aload_n dX4_readItem_123 rfl rfl ?_
        refine fx_bipush (v := nI 38) dX4_readItem_124 (by decide) ?_
        refine fx_aload_n dX4_readItem_126 rfl rfl ?_
        refine fx_iconst (v := nI 0) dX4_readItem_127 (by decide) ?_
        refine fx_bipush (v := nI 63) dX4_readItem_128 (by decide) ?_
        refine fx_callVv dX4_readItem_130 vX4_number lX4_311 (by decide) rfl (Nat.le_of_ble_eq_true rfl) j6 rfl ?_
        refine fx_iadd dX4_readItem_133 ?_
        refine fx_iconst (v := nI 1) dX4_readItem_134 (by decide) ?_
        refine fx_iconst (v := nI 0) dX4_readItem_135 (by decide) ?_
        refine fx_iconst (v := nI 0) dX4_readItem_136 (by decide) ?_
        refine fx_callVn dX4_readItem_137 vX4_item lX4_318 (by decide) rfl (Nat.le_of_ble_eq_true rfl) (eX4_item hm) rfl ?_
        refine fx_goto (tgt := 258) dX4_readItem_140 (by decide) ?_
        exact fx_vreq dX4_readItem_258 rfl rfl
    · exact absurd (by decide) hc6
  · have eR : Mx mX1_readNet [.ref 25, .ref 9] (tW F N G B z s d (-1) V n h t) none (tW F N G B z s' d' (ft w' s') (if w' = true then V else upd V (18 + x.toNatClampNeg) (nI 1)) n h t) := by
      refine mx_of (L := [some (.ref 25), some (.ref 9), none]) (by decide) (fun _ => rfl) (fun _ => Nat.le_of_ble_eq_true rfl) ?_
      cases w'
      · obtain ⟨rfl, v, v1, v2, rfl⟩ := j5 rfl
        rw [if_neg (by decide), nI_clamp (by omega)]
        refine fx_aload_n dX1_readNet_0 rfl rfl ?_
        refine fx_callVn dX1_readNet_1 vX1_advance lX1_25 (by decide) rfl (Nat.le_of_ble_eq_true rfl) eA rfl ?_
        refine fx_aload_n dX1_readNet_4 rfl rfl ?_
        refine fx_iconst (v := nI 0) dX1_readNet_5 (by decide) ?_
        refine fx_bipush (v := nI 63) dX1_readNet_6 (by decide) ?_
        refine fx_callVv dX1_readNet_8 vX1_takeNumber lX1_123 (by decide) rfl (Nat.le_of_ble_eq_true rfl) j7 rfl ?_
        refine fs_istore_n_2 dX1_readNet_11 rfl (by decide) ?_
        refine fx_aload_n dX1_readNet_12 rfl rfl ?_
        refine fx_get dX1_readNet_13 kX1_19 rfl rfl ?_
        rw [r6]
        refine fx_if_ge (tgt := 25) dX1_readNet_16 (by decide) rC_l (fun hc16 => ?_) (fun hc16 => ?_)
        · exact absurd hc16 (show ¬ (0 : Int32) ≤ (-1) by decide)
        · refine fx_aload_n dX1_readNet_19 rfl rfl ?_
          refine fx_iload_n dX1_readNet_20 rfl rfl ?_
          refine fx_iconst (v := nI 1) dX1_readNet_21 (by decide) ?_
          refine fx_callVn dX1_readNet_22 vX2_setNet lX1_126 (by decide) rfl (Nat.le_of_ble_eq_true rfl) (tW_se (by omega)) rfl ?_
          exact fx_vreq dX1_readNet_25 rfl rfl
      · rw [if_pos rfl]
        refine fx_aload_n dX1_readNet_0 rfl rfl ?_
        refine fx_callVn dX1_readNet_1 vX1_advance lX1_25 (by decide) rfl (Nat.le_of_ble_eq_true rfl) eA rfl ?_
        refine fx_aload_n dX1_readNet_4 rfl rfl ?_
        refine fx_iconst (v := nI 0) dX1_readNet_5 (by decide) ?_
        refine fx_bipush (v := nI 63) dX1_readNet_6 (by decide) ?_
        refine fx_callVv dX1_readNet_8 vX1_takeNumber lX1_123 (by decide) rfl (Nat.le_of_ble_eq_true rfl) j7 rfl ?_
        refine fs_istore_n_2 dX1_readNet_11 rfl (by decide) ?_
        refine fx_aload_n dX1_readNet_12 rfl rfl ?_
        refine fx_get dX1_readNet_13 kX1_19 rfl rfl ?_
        rw [r6]
        refine fx_if_ge (tgt := 25) dX1_readNet_16 (by decide) rC_l (fun hc16 => ?_) (fun hc16 => ?_)
        · exact fx_vreq dX1_readNet_25 rfl rfl
        · exact absurd (nI_pos' (by omega)) hc16
    refine mx_of (L := [some (.ref 25), some (.ref 9), none]) (by decide) (fun _ => rfl) (fun _ => Nat.le_of_ble_eq_true rfl) ?_
    refine fx_aload_n dX1_readItem_0 rfl rfl ?_
    refine fx_callVv dX1_readItem_1 vX1_kindOfWord lX1_51 (by decide) rfl (Nat.le_of_ble_eq_true rfl) eC rfl ?_
    refine fs_istore_n_2 dX1_readItem_4 rfl (by decide) ?_
    refine fx_iload_n dX1_readItem_5 rfl rfl ?_
    refine fx_if_lt (tgt := 18) dX1_readItem_6 (by decide) rC_l (fun hc6 => ?_) (fun hc6 => ?_)
    · refine fx_aload_n dX1_readItem_18 rfl rfl ?_
      refine fx_ldcS (i := 7) dX1_readItem_19 (List.mem_of_getElem? (i := 10) rfl) (by decide) ?_
      refine fx_callVv dX1_readItem_21 vX1_isWord lX1_60 (by decide) rfl (Nat.le_of_ble_eq_true rfl) c7 rfl ?_
      refine fx_if_eq (tgt := 35) dX1_readItem_24 (by decide) rC_l (fun hc24 => ?_) (fun hc24 => ?_)
      · exact absurd hc24 (by decide)
      · refine fx_aload_n dX1_readItem_27 rfl rfl ?_
        refine fx_aload_n dX1_readItem_28 rfl rfl ?_
        refine fx_callVn dX1_readItem_29 vX1_readNet lX1_64 (by decide) rfl (Nat.le_of_ble_eq_true rfl) eR rfl ?_
        refine fx_goto (tgt := 94) dX1_readItem_32 (by decide) ?_
        exact fx_vreq dX1_readItem_94 rfl rfl
    · exact absurd (by decide) hc6
theorem jI_fear (hz4 : F4 10 = nI z) (hG4 : G4 8 = B) (hz : F 25 1 = nI z) (hb : ∀ i, i < z → G 26 i = B i) (hB : jBy B z) (hs : s ≤ z) (hm : m < 120) (hW : jW V n) (hw : iw B z s 10 = true) : jIC F4 G4 F N G B z s m n V h t d := by
  have hz1 := hB.1
  have hz' : pF F 9 V n h 25 1 = nI z := (pF_o (by decide)).trans hz
  have hb' : ∀ i, i < z → pG G 9 V 26 i = B i := fun i hi => by rw [pG_o (by decide)]; exact hb i hi
  have ho := fun j hj hne => iw_oth (j := j) (show 10 < 14 by decide) hj hw hne
  have hk := iw_kd hw
  obtain ⟨nx1, nx2, nx3⟩ := nx_b hB hs
  have nx4 := nx3 (by rw [hk]; decide)
  have eK := eX4_kindTold (F := F4) (G := G4) (m := nI m) (n := nI n) (w := jB false) hG4 hB hs
  rw [kf_n (fun i hi => ho i (by omega) (by omega))] at eK
  have eC := eX1_kindOfWord (F := pF F 9 V n h) (N := pN N 9 V t) (G := pG G 9 V) (d := d) (f := (-1)) hb' hB hs
  rw [kf_n (fun i hi => ho i (by omega) (by omega))] at eC
  have e10 := eX4_isWord (F := F4) (G := G4) (m := nI m) (n := nI n) (w := jB false) hG4 hB hs (show 10 < 14 by decide)
  rw [hw] at e10
  have c7 := eX1_isWord (F := pF F 9 V n h) (N := pN N 9 V t) (G := pG G 9 V) (d := d) (f := (-1)) hb' hB hs (show 7 < 14 by decide)
  have c8 := eX1_isWord (F := pF F 9 V n h) (N := pN N 9 V t) (G := pG G 9 V) (d := d) (f := (-1)) hb' hB hs (show 8 < 14 by decide)
  have c9 := eX1_isWord (F := pF F 9 V n h) (N := pN N 9 V t) (G := pG G 9 V) (d := d) (f := (-1)) hb' hB hs (show 9 < 14 by decide)
  have c10 := eX1_isWord (F := pF F 9 V n h) (N := pN N 9 V t) (G := pG G 9 V) (d := d) (f := (-1)) hb' hB hs (show 10 < 14 by decide)
  rw [ho 7 (by decide) (by decide)] at c7
  rw [ho 8 (by decide) (by decide)] at c8
  rw [ho 9 (by decide) (by decide)] at c9
  rw [hw] at c10
  have eA := eX1_adv (N := pN N 9 V t) (d := d) (f := (-1)) hz' hb' hB hs
  obtain ⟨w', s', x, y, d', j1, j2, j3, j4, j5, j6, j7⟩ := jNum (F4 := F4) (G4 := G4) (F := pF F 9 V n h) (N := pN N 9 V t) (G := pG G 9 V) (d := nv B z (nx B z s) d) (w := false) (m := nI m) (n := nI n) (lo := 0) (hi := 9) hz4 hG4 hz' hb' hB nx2 nv_h (by decide) (by decide)
  refine ⟨w', s', nI 21, x, nI 0, nI 0, nI n, n, if w' = true then V else upd V 1 x, d', j2, fun _ => by omega, j3, fun q => ?_, ?_, ?_⟩
  · obtain ⟨-, v, v1, v2, rfl⟩ := j5 q
    rw [q, if_neg (by decide)]
    exact ⟨Or.inl ⟨1, Or.inl rfl, by decide, rfl, rfl, rfl, jW_fear hW v2⟩, rfl⟩
  · refine mx_of (L := [some (.ref 0), none, none, none]) (by decide) (fun _ => rfl) (fun _ => Nat.le_of_ble_eq_true rfl) ?_
    refine fx_aload_n dX4_readItem_0 rfl rfl ?_
    refine fx_callVv dX4_readItem_1 vX4_kindTold lX4_301 (by decide) rfl (Nat.le_of_ble_eq_true rfl) eK rfl ?_
    refine fs_istore_n_1 dX4_readItem_4 rfl (by decide) ?_
    refine fx_iload_n dX4_readItem_5 rfl rfl ?_
    refine fx_if_lt (tgt := 113) dX4_readItem_6 (by decide) rM_l (fun hc6 => ?_) (fun hc6 => ?_)
    · refine fx_aload_n dX4_readItem_113 rfl rfl ?_
      refine fx_ldcSw (i := 7) dX4_readItem_114 (List.mem_of_getElem? (i := 24) rfl) (by decide) ?_
      refine fx_callVv dX4_readItem_117 vX4_isNext lX4_308 (by decide) rfl (Nat.le_of_ble_eq_true rfl) (eX4_isNext_n hG4 hB hs (by decide) (ho 7 (by decide) (by decide))) rfl ?_
      refine fx_if_eq (tgt := 143) dX4_readItem_120 (by decide) rM_l (fun hc120 => ?_) (fun hc120 => ?_)
      · refine fx_aload_n dX4_readItem_143 rfl rfl ?_
        refine fx_ldcSw (i := 8) dX4_readItem_144 (List.mem_of_getElem? (i := 25) rfl) (by decide) ?_
        refine fx_callVv dX4_readItem_147 vX4_isNext lX4_308 (by decide) rfl (Nat.le_of_ble_eq_true rfl) (eX4_isNext_n hG4 hB hs (by decide) (ho 8 (by decide) (by decide))) rfl ?_
        refine fx_if_eq (tgt := 181) dX4_readItem_150 (by decide) rM_l (fun hc150 => ?_) (fun hc150 => ?_)
        · refine fx_aload_n dX4_readItem_181 rfl rfl ?_
          refine fx_ldcSw (i := 9) dX4_readItem_182 (List.mem_of_getElem? (i := 26) rfl) (by decide) ?_
          refine fx_callVv dX4_readItem_185 vX4_isNext lX4_308 (by decide) rfl (Nat.le_of_ble_eq_true rfl) (eX4_isNext_n hG4 hB hs (by decide) (ho 9 (by decide) (by decide))) rfl ?_
          refine fx_if_eq (tgt := 232) dX4_readItem_188 (by decide) rM_l (fun hc188 => ?_) (fun hc188 => ?_)
          · refine fx_aload_n dX4_readItem_232 rfl rfl ?_
            refine fx_aload_n dX4_readItem_233 rfl rfl ?_
            refine fx_ldcSw (i := 10) dX4_readItem_234 (List.mem_of_getElem? (i := 27) rfl) (by decide) ?_
            refine fx_callVv dX4_readItem_237 vX4_isWord lX4_297 (by decide) rfl (Nat.le_of_ble_eq_true rfl) e10 rfl ?_
            refine fx_callVn dX4_readItem_240 vX4_must lX4_290 (by decide) rfl (Nat.le_of_ble_eq_true rfl) (eX4_must_t hz4 hG4 hB hs) rfl ?_
            refine fx_aload_n dX4_readItem_243 rfl rfl ?_
            refine fx_bipush (v := nI 21) dX4_readItem_244 (by decide) ?_
            refine fx_aload_n dX4_readItem_246 rfl rfl ?_
            refine fx_iconst (v := nI 0) dX4_readItem_247 (by decide) ?_
            refine fx_bipush (v := nI 9) dX4_readItem_248 (by decide) ?_
            refine fx_callVv dX4_readItem_250 vX4_number lX4_311 (by decide) rfl (Nat.le_of_ble_eq_true rfl) j6 rfl ?_
            refine fx_iconst (v := nI 0) dX4_readItem_253 (by decide) ?_
            refine fx_iconst (v := nI 0) dX4_readItem_254 (by decide) ?_
            refine fx_callVn dX4_readItem_255 vX4_item lX4_318 (by decide) rfl (Nat.le_of_ble_eq_true rfl) (eX4_item hm) rfl ?_
            exact fx_vreq dX4_readItem_258 rfl rfl
          · exact absurd rfl hc188
        · exact absurd rfl hc150
      · exact absurd rfl hc120
    · exact absurd (by decide) hc6
  · have eR : Mx mX1_readFear [.ref 25, .ref 9] (tW F N G B z s d (-1) V n h t) none (tW F N G B z s' d' (ft w' s') (if w' = true then V else upd V 1 x) n h t) := by
      refine mx_of (L := [some (.ref 25), some (.ref 9), none]) (by decide) (fun _ => rfl) (fun _ => Nat.le_of_ble_eq_true rfl) ?_
      have hw9 := zw9
      cases w'
      · obtain ⟨rfl, v, v1, v2, rfl⟩ := j5 rfl
        rw [if_neg (by decide)]
        refine fx_aload_n dX1_readFear_0 rfl rfl ?_
        refine fx_callVn dX1_readFear_1 vX1_advance lX1_25 (by decide) rfl (Nat.le_of_ble_eq_true rfl) eA rfl ?_
        refine fx_aload_n dX1_readFear_4 rfl rfl ?_
        refine fx_iconst (v := nI 0) dX1_readFear_5 (by decide) ?_
        refine fx_bipush (v := nI 9) dX1_readFear_6 (by decide) ?_
        refine fx_callVv dX1_readFear_8 vX1_takeNumber lX1_123 (by decide) rfl (Nat.le_of_ble_eq_true rfl) j7 rfl ?_
        refine fs_istore_n_2 dX1_readFear_11 rfl (by decide) ?_
        refine fx_aload_n dX1_readFear_12 rfl rfl ?_
        refine fx_get dX1_readFear_13 kX1_19 rfl rfl ?_
        rw [r6]
        refine fx_if_ge (tgt := 24) dX1_readFear_16 (by decide) rC_l (fun hc16 => ?_) (fun hc16 => ?_)
        · exact absurd hc16 (show ¬ (0 : Int32) ≤ (-1) by decide)
        · refine fx_aload_n dX1_readFear_19 rfl rfl ?_
          refine fx_iload_n dX1_readFear_20 rfl rfl ?_
          refine fx_put dX1_readFear_21 kX1_136 rfl (Nat.le_of_ble_eq_true rfl) (fun _ => rfl) rfl rfl (u2_4 hw9) ?_
          rw [tW_fe]
          exact fx_vreq dX1_readFear_24 rfl rfl
      · rw [if_pos rfl]
        refine fx_aload_n dX1_readFear_0 rfl rfl ?_
        refine fx_callVn dX1_readFear_1 vX1_advance lX1_25 (by decide) rfl (Nat.le_of_ble_eq_true rfl) eA rfl ?_
        refine fx_aload_n dX1_readFear_4 rfl rfl ?_
        refine fx_iconst (v := nI 0) dX1_readFear_5 (by decide) ?_
        refine fx_bipush (v := nI 9) dX1_readFear_6 (by decide) ?_
        refine fx_callVv dX1_readFear_8 vX1_takeNumber lX1_123 (by decide) rfl (Nat.le_of_ble_eq_true rfl) j7 rfl ?_
        refine fs_istore_n_2 dX1_readFear_11 rfl (by decide) ?_
        refine fx_aload_n dX1_readFear_12 rfl rfl ?_
        refine fx_get dX1_readFear_13 kX1_19 rfl rfl ?_
        rw [r6]
        refine fx_if_ge (tgt := 24) dX1_readFear_16 (by decide) rC_l (fun hc16 => ?_) (fun hc16 => ?_)
        · exact fx_vreq dX1_readFear_24 rfl rfl
        · exact absurd (nI_pos' (by omega)) hc16
    refine mx_of (L := [some (.ref 25), some (.ref 9), none]) (by decide) (fun _ => rfl) (fun _ => Nat.le_of_ble_eq_true rfl) ?_
    refine fx_aload_n dX1_readItem_0 rfl rfl ?_
    refine fx_callVv dX1_readItem_1 vX1_kindOfWord lX1_51 (by decide) rfl (Nat.le_of_ble_eq_true rfl) eC rfl ?_
    refine fs_istore_n_2 dX1_readItem_4 rfl (by decide) ?_
    refine fx_iload_n dX1_readItem_5 rfl rfl ?_
    refine fx_if_lt (tgt := 18) dX1_readItem_6 (by decide) rC_l (fun hc6 => ?_) (fun hc6 => ?_)
    · refine fx_aload_n dX1_readItem_18 rfl rfl ?_
      refine fx_ldcS (i := 7) dX1_readItem_19 (List.mem_of_getElem? (i := 10) rfl) (by decide) ?_
      refine fx_callVv dX1_readItem_21 vX1_isWord lX1_60 (by decide) rfl (Nat.le_of_ble_eq_true rfl) c7 rfl ?_
      refine fx_if_eq (tgt := 35) dX1_readItem_24 (by decide) rC_l (fun hc24 => ?_) (fun hc24 => ?_)
      · refine fx_aload_n dX1_readItem_35 rfl rfl ?_
        refine fx_ldcS (i := 8) dX1_readItem_36 (List.mem_of_getElem? (i := 11) rfl) (by decide) ?_
        refine fx_callVv dX1_readItem_38 vX1_isWord lX1_60 (by decide) rfl (Nat.le_of_ble_eq_true rfl) c8 rfl ?_
        refine fx_if_eq (tgt := 52) dX1_readItem_41 (by decide) rC_l (fun hc41 => ?_) (fun hc41 => ?_)
        · refine fx_aload_n dX1_readItem_52 rfl rfl ?_
          refine fx_ldcS (i := 9) dX1_readItem_53 (List.mem_of_getElem? (i := 12) rfl) (by decide) ?_
          refine fx_callVv dX1_readItem_55 vX1_isWord lX1_60 (by decide) rfl (Nat.le_of_ble_eq_true rfl) c9 rfl ?_
          refine fx_if_eq (tgt := 69) dX1_readItem_58 (by decide) rC_l (fun hc58 => ?_) (fun hc58 => ?_)
          · refine fx_aload_n dX1_readItem_69 rfl rfl ?_
            refine fx_ldcS (i := 10) dX1_readItem_70 (List.mem_of_getElem? (i := 13) rfl) (by decide) ?_
            refine fx_callVv dX1_readItem_72 vX1_isWord lX1_60 (by decide) rfl (Nat.le_of_ble_eq_true rfl) c10 rfl ?_
            refine fx_if_eq (tgt := 86) dX1_readItem_75 (by decide) rC_l (fun hc75 => ?_) (fun hc75 => ?_)
            · exact absurd hc75 (by decide)
            · refine fx_aload_n dX1_readItem_78 rfl rfl ?_
              refine fx_aload_n dX1_readItem_79 rfl rfl ?_
              refine fx_callVn dX1_readItem_80 vX1_readFear lX1_79 (by decide) rfl (Nat.le_of_ble_eq_true rfl) eR rfl ?_
              refine fx_goto (tgt := 94) dX1_readItem_83 (by decide) ?_
              exact fx_vreq dX1_readItem_94 rfl rfl
          · exact absurd rfl hc58
        · exact absurd rfl hc41
      · exact absurd rfl hc24
    · exact absurd (by decide) hc6
theorem jI_thick (hz4 : F4 10 = nI z) (hG4 : G4 8 = B) (hz : F 25 1 = nI z) (hb : ∀ i, i < z → G 26 i = B i) (hB : jBy B z) (hs : s ≤ z) (hm : m < 120) (hW : jW V n) (hw : iw B z s 8 = true) : jIC F4 G4 F N G B z s m n V h t d := by
  have hz1 := hB.1
  have hz' : pF F 9 V n h 25 1 = nI z := (pF_o (by decide)).trans hz
  have hb' : ∀ i, i < z → pG G 9 V 26 i = B i := fun i hi => by rw [pG_o (by decide)]; exact hb i hi
  have ho := fun j hj hne => iw_oth (j := j) (show 8 < 14 by decide) hj hw hne
  have hk := iw_kd hw
  obtain ⟨nx1, nx2, nx3⟩ := nx_b hB hs
  have nx4 := nx3 (by rw [hk]; decide)
  have eK := eX4_kindTold (F := F4) (G := G4) (m := nI m) (n := nI n) (w := jB false) hG4 hB hs
  rw [kf_n (fun i hi => ho i (by omega) (by omega))] at eK
  have eC := eX1_kindOfWord (F := pF F 9 V n h) (N := pN N 9 V t) (G := pG G 9 V) (d := d) (f := (-1)) hb' hB hs
  rw [kf_n (fun i hi => ho i (by omega) (by omega))] at eC
  have c7 := eX1_isWord (F := pF F 9 V n h) (N := pN N 9 V t) (G := pG G 9 V) (d := d) (f := (-1)) hb' hB hs (show 7 < 14 by decide)
  have c8 := eX1_isWord (F := pF F 9 V n h) (N := pN N 9 V t) (G := pG G 9 V) (d := d) (f := (-1)) hb' hB hs (show 8 < 14 by decide)
  rw [ho 7 (by decide) (by decide)] at c7
  rw [hw] at c8
  have eA := eX1_adv (N := pN N 9 V t) (d := d) (f := (-1)) hz' hb' hB hs
  obtain ⟨w1, s1, x, y, d1, i1, i2, i3, i4, i5, i6, i7⟩ := jNum (F4 := F4) (G4 := G4) (F := pF F 9 V n h) (N := pN N 9 V t) (G := pG G 9 V) (d := nv B z (nx B z s) d) (w := false) (m := nI m) (n := nI n) (lo := 0) (hi := 63) hz4 hG4 hz' hb' hB nx2 nv_h (by decide) (by decide)
  obtain ⟨w', s', x', y', d', j1, j2, j3, j4, j5, j6, j7⟩ := jNum (F4 := F4) (G4 := G4) (F := pF F 9 V n h) (N := pN N 9 V t) (G := pG G 9 V) (d := d1) (w := w1) (m := nI m) (n := nI n) (lo := 0) (hi := 9) hz4 hG4 hz' hb' hB i2 i3 (by decide) (by decide)
  have hw1 : w' = false → w1 = false := fun q => by
    cases q1 : w1
    · rfl
    · rw [j4 q1] at q; exact absurd q (by decide)
  refine ⟨w', s', nI 102 + x, x', nI 0, nI 0, nI n, n, if w' = true then V else upd V (82 + x.toNatClampNeg) x', d', j2, fun _ => by omega, j3, fun q => ?_, ?_, ?_⟩
  · obtain ⟨-, v, v1, v2, rfl⟩ := i5 (hw1 q)
    obtain ⟨-, u, u1, u2, rfl⟩ := j5 q
    rw [q, if_neg (by decide), nI_clamp (by omega)]
    exact ⟨Or.inl ⟨82 + v, by omega, by omega, by rw [nI_add]; congr 1; omega, rfl, rfl, jW_th hW (by omega) u2⟩, rfl⟩
  · refine mx_of (L := [some (.ref 0), none, none, none]) (by decide) (fun _ => rfl) (fun _ => Nat.le_of_ble_eq_true rfl) ?_
    refine fx_aload_n dX4_readItem_0 rfl rfl ?_
    refine fx_callVv dX4_readItem_1 vX4_kindTold lX4_301 (by decide) rfl (Nat.le_of_ble_eq_true rfl) eK rfl ?_
    refine fs_istore_n_1 dX4_readItem_4 rfl (by decide) ?_
    refine fx_iload_n dX4_readItem_5 rfl rfl ?_
    refine fx_if_lt (tgt := 113) dX4_readItem_6 (by decide) rM_l (fun hc6 => ?_) (fun hc6 => ?_)
    · refine fx_aload_n dX4_readItem_113 rfl rfl ?_
      refine fx_ldcSw (i := 7) dX4_readItem_114 (List.mem_of_getElem? (i := 24) rfl) (by decide) ?_
      refine fx_callVv dX4_readItem_117 vX4_isNext lX4_308 (by decide) rfl (Nat.le_of_ble_eq_true rfl) (eX4_isNext_n hG4 hB hs (by decide) (ho 7 (by decide) (by decide))) rfl ?_
      refine fx_if_eq (tgt := 143) dX4_readItem_120 (by decide) rM_l (fun hc120 => ?_) (fun hc120 => ?_)
      · refine fx_aload_n dX4_readItem_143 rfl rfl ?_
        refine fx_ldcSw (i := 8) dX4_readItem_144 (List.mem_of_getElem? (i := 25) rfl) (by decide) ?_
        refine fx_callVv dX4_readItem_147 vX4_isNext lX4_308 (by decide) rfl (Nat.le_of_ble_eq_true rfl) (eX4_isNext_y hz4 hG4 hB hs (by decide) hw) rfl ?_
        refine fx_if_eq (tgt := 181) dX4_readItem_150 (by decide) rM_l (fun hc150 => ?_) (fun hc150 => ?_)
        · exact absurd hc150 (by decide)
        · refine fx_aload_n dX4_readItem_153 rfl rfl ?_
          refine fx_iconst (v := nI 0) dX4_readItem_154 (by decide) ?_
          refine fx_bipush (v := nI 63) dX4_readItem_155 (by decide) ?_
          refine fx_callVv dX4_readItem_157 vX4_number lX4_311 (by decide) rfl (Nat.le_of_ble_eq_true rfl) i6 rfl ?_
          refine fs_istore_n_2 dX4_readItem_160 rfl (by decide) ?_
          refine fx_aload_n dX4_readItem_161 rfl rfl ?_
          refine fx_bipush (v := nI 102) dX4_readItem_162 (by decide) ?_
          refine fx_iload_n dX4_readItem_164 rfl rfl ?_
          refine fx_iadd dX4_readItem_165 ?_
          refine fx_aload_n dX4_readItem_166 rfl rfl ?_
          refine fx_iconst (v := nI 0) dX4_readItem_167 (by decide) ?_
          refine fx_bipush (v := nI 9) dX4_readItem_168 (by decide) ?_
          refine fx_callVv dX4_readItem_170 vX4_number lX4_311 (by decide) rfl (Nat.le_of_ble_eq_true rfl) j6 rfl ?_
          refine fx_iconst (v := nI 0) dX4_readItem_173 (by decide) ?_
          refine fx_iconst (v := nI 0) dX4_readItem_174 (by decide) ?_
          refine fx_callVn dX4_readItem_175 vX4_item lX4_318 (by decide) rfl (Nat.le_of_ble_eq_true rfl) (eX4_item hm) rfl ?_
          refine fx_goto (tgt := 258) dX4_readItem_178 (by decide) ?_
          exact fx_vreq dX4_readItem_258 rfl rfl
      · exact absurd rfl hc120
    · exact absurd (by decide) hc6
  · have eR : Mx mX1_readThick [.ref 25, .ref 9] (tW F N G B z s d (-1) V n h t) none (tW F N G B z s' d' (ft w' s') (if w' = true then V else upd V (82 + x.toNatClampNeg) x') n h t) := by
      refine mx_of (L := [some (.ref 25), some (.ref 9), none, none]) (by decide) (fun _ => rfl) (fun _ => Nat.le_of_ble_eq_true rfl) ?_
      cases w'
      · obtain ⟨rfl, v, v1, v2, rfl⟩ := i5 (hw1 rfl)
        obtain ⟨rfl, u, u1, u2, rfl⟩ := j5 rfl
        rw [if_neg (by decide), nI_clamp (by omega)]
        refine fx_aload_n dX1_readThick_0 rfl rfl ?_
        refine fx_callVn dX1_readThick_1 vX1_advance lX1_25 (by decide) rfl (Nat.le_of_ble_eq_true rfl) eA rfl ?_
        refine fx_aload_n dX1_readThick_4 rfl rfl ?_
        refine fx_iconst (v := nI 0) dX1_readThick_5 (by decide) ?_
        refine fx_bipush (v := nI 63) dX1_readThick_6 (by decide) ?_
        refine fx_callVv dX1_readThick_8 vX1_takeNumber lX1_123 (by decide) rfl (Nat.le_of_ble_eq_true rfl) i7 rfl ?_
        refine fs_istore_n_2 dX1_readThick_11 rfl (by decide) ?_
        refine fx_aload_n dX1_readThick_12 rfl rfl ?_
        refine fx_iconst (v := nI 0) dX1_readThick_13 (by decide) ?_
        refine fx_bipush (v := nI 9) dX1_readThick_14 (by decide) ?_
        refine fx_callVv dX1_readThick_16 vX1_takeNumber lX1_123 (by decide) rfl (Nat.le_of_ble_eq_true rfl) j7 rfl ?_
        refine fs_istore_n_3 dX1_readThick_19 rfl (by decide) ?_
        refine fx_aload_n dX1_readThick_20 rfl rfl ?_
        refine fx_get dX1_readThick_21 kX1_19 rfl rfl ?_
        rw [r6]
        refine fx_if_ge (tgt := 34) dX1_readThick_24 (by decide) rC_l (fun hc24 => ?_) (fun hc24 => ?_)
        · exact absurd hc24 (show ¬ (0 : Int32) ≤ (-1) by decide)
        · refine fx_aload_n dX1_readThick_27 rfl rfl ?_
          refine fx_get dX1_readThick_28 kX1_130 rfl rfl ?_
          refine fx_iload_n dX1_readThick_31 rfl rfl ?_
          refine fx_iload_n dX1_readThick_32 rfl rfl ?_
          refine fx_iast dX1_readThick_33 rfl (vp_in_nI (by omega) (by decide)) wa_10 ?_
          rw [nI_clamp (by omega), tW_th (by omega)]
          exact fx_vreq dX1_readThick_34 rfl rfl
      · rw [if_pos rfl]
        refine fx_aload_n dX1_readThick_0 rfl rfl ?_
        refine fx_callVn dX1_readThick_1 vX1_advance lX1_25 (by decide) rfl (Nat.le_of_ble_eq_true rfl) eA rfl ?_
        refine fx_aload_n dX1_readThick_4 rfl rfl ?_
        refine fx_iconst (v := nI 0) dX1_readThick_5 (by decide) ?_
        refine fx_bipush (v := nI 63) dX1_readThick_6 (by decide) ?_
        refine fx_callVv dX1_readThick_8 vX1_takeNumber lX1_123 (by decide) rfl (Nat.le_of_ble_eq_true rfl) i7 rfl ?_
        refine fs_istore_n_2 dX1_readThick_11 rfl (by decide) ?_
        refine fx_aload_n dX1_readThick_12 rfl rfl ?_
        refine fx_iconst (v := nI 0) dX1_readThick_13 (by decide) ?_
        refine fx_bipush (v := nI 9) dX1_readThick_14 (by decide) ?_
        refine fx_callVv dX1_readThick_16 vX1_takeNumber lX1_123 (by decide) rfl (Nat.le_of_ble_eq_true rfl) j7 rfl ?_
        refine fs_istore_n_3 dX1_readThick_19 rfl (by decide) ?_
        refine fx_aload_n dX1_readThick_20 rfl rfl ?_
        refine fx_get dX1_readThick_21 kX1_19 rfl rfl ?_
        rw [r6]
        refine fx_if_ge (tgt := 34) dX1_readThick_24 (by decide) rC_l (fun hc24 => ?_) (fun hc24 => ?_)
        · exact fx_vreq dX1_readThick_34 rfl rfl
        · exact absurd (nI_pos' (by omega)) hc24
    refine mx_of (L := [some (.ref 25), some (.ref 9), none]) (by decide) (fun _ => rfl) (fun _ => Nat.le_of_ble_eq_true rfl) ?_
    refine fx_aload_n dX1_readItem_0 rfl rfl ?_
    refine fx_callVv dX1_readItem_1 vX1_kindOfWord lX1_51 (by decide) rfl (Nat.le_of_ble_eq_true rfl) eC rfl ?_
    refine fs_istore_n_2 dX1_readItem_4 rfl (by decide) ?_
    refine fx_iload_n dX1_readItem_5 rfl rfl ?_
    refine fx_if_lt (tgt := 18) dX1_readItem_6 (by decide) rC_l (fun hc6 => ?_) (fun hc6 => ?_)
    · refine fx_aload_n dX1_readItem_18 rfl rfl ?_
      refine fx_ldcS (i := 7) dX1_readItem_19 (List.mem_of_getElem? (i := 10) rfl) (by decide) ?_
      refine fx_callVv dX1_readItem_21 vX1_isWord lX1_60 (by decide) rfl (Nat.le_of_ble_eq_true rfl) c7 rfl ?_
      refine fx_if_eq (tgt := 35) dX1_readItem_24 (by decide) rC_l (fun hc24 => ?_) (fun hc24 => ?_)
      · refine fx_aload_n dX1_readItem_35 rfl rfl ?_
        refine fx_ldcS (i := 8) dX1_readItem_36 (List.mem_of_getElem? (i := 11) rfl) (by decide) ?_
        refine fx_callVv dX1_readItem_38 vX1_isWord lX1_60 (by decide) rfl (Nat.le_of_ble_eq_true rfl) c8 rfl ?_
        refine fx_if_eq (tgt := 52) dX1_readItem_41 (by decide) rC_l (fun hc41 => ?_) (fun hc41 => ?_)
        · exact absurd hc41 (by decide)
        · refine fx_aload_n dX1_readItem_44 rfl rfl ?_
          refine fx_aload_n dX1_readItem_45 rfl rfl ?_
          refine fx_callVn dX1_readItem_46 vX1_readThick lX1_69 (by decide) rfl (Nat.le_of_ble_eq_true rfl) eR rfl ?_
          refine fx_goto (tgt := 94) dX1_readItem_49 (by decide) ?_
          exact fx_vreq dX1_readItem_94 rfl rfl
      · exact absurd rfl hc24
    · exact absurd (by decide) hc6
end
