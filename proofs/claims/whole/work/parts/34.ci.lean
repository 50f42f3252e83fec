/-! ===== the class: an object of Woods becomes as another; nets, bells, traits ===== -/
set_option maxRecDepth 100000
theorem jcp_jth {V V2 a b : Nat → Int32} (ha : a = jth V) (hb : b = jth V2) : va_cpy a b 0 0 64 = jth V := by
  subst ha; subst hb
  funext c
  unfold va_cpy jth
  by_cases e : c < 64
  · rw [if_pos ⟨Nat.zero_le _, by omega⟩]; show (if 0 + (c - 0) < 64 then _ else _) = _; rw [show 0 + (c - 0) = c by omega]
  · rw [if_neg (fun z => e (by omega)), if_neg e, if_neg e]
theorem jcp_jhu {V V2 a b : Nat → Int32} (ha : a = jhu V) (hb : b = jhu V2) : va_cpy a b 0 0 4 = jhu V := by
  subst ha; subst hb
  funext c
  unfold va_cpy jhu
  by_cases e : c < 4
  · rw [if_pos ⟨Nat.zero_le _, by omega⟩]; show (if 0 + (c - 0) < 4 then _ else _) = _; rw [show 0 + (c - 0) = c by omega]
  · rw [if_neg (fun z => e (by omega)), if_neg e, if_neg e]
theorem jcp_jbf0 {V V2 a b : Nat → Int32} (ha : a = jbf V 0) (hb : b = jbf V2 0) : va_cpy a b 0 0 8 = jbf V 0 := by
  subst ha; subst hb
  funext c
  unfold va_cpy jbf
  by_cases e : c < 8
  · rw [if_pos ⟨Nat.zero_le _, by omega⟩]; show (if 0 + (c - 0) < 8 then _ else _) = _; rw [show 0 + (c - 0) = c by omega]
  · rw [if_neg (fun z => e (by omega)), if_neg e, if_neg e]
theorem jcp_jbf1 {V V2 a b : Nat → Int32} (ha : a = jbf V 1) (hb : b = jbf V2 1) : va_cpy a b 0 0 8 = jbf V 1 := by
  subst ha; subst hb
  funext c
  unfold va_cpy jbf
  by_cases e : c < 8
  · rw [if_pos ⟨Nat.zero_le _, by omega⟩]; show (if 0 + (c - 0) < 8 then _ else _) = _; rw [show 0 + (c - 0) = c by omega]
  · rw [if_neg (fun z => e (by omega)), if_neg e, if_neg e]
theorem jcp_jbf2 {V V2 a b : Nat → Int32} (ha : a = jbf V 2) (hb : b = jbf V2 2) : va_cpy a b 0 0 8 = jbf V 2 := by
  subst ha; subst hb
  funext c
  unfold va_cpy jbf
  by_cases e : c < 8
  · rw [if_pos ⟨Nat.zero_le _, by omega⟩]; show (if 0 + (c - 0) < 8 then _ else _) = _; rw [show 0 + (c - 0) = c by omega]
  · rw [if_neg (fun z => e (by omega)), if_neg e, if_neg e]
theorem jcp_jbf3 {V V2 a b : Nat → Int32} (ha : a = jbf V 3) (hb : b = jbf V2 3) : va_cpy a b 0 0 8 = jbf V 3 := by
  subst ha; subst hb
  funext c
  unfold va_cpy jbf
  by_cases e : c < 8
  · rw [if_pos ⟨Nat.zero_le _, by omega⟩]; show (if 0 + (c - 0) < 8 then _ else _) = _; rw [show 0 + (c - 0) = c by omega]
  · rw [if_neg (fun z => e (by omega)), if_neg e, if_neg e]
theorem jcp_jspt {V V2 a b : Nat → Int32} (ha : a = jspt V) (hb : b = jspt V2) : va_cpy a b 0 0 10 = jspt V := by
  subst ha; subst hb
  funext c
  unfold va_cpy jspt
  by_cases e : c < 10
  · rw [if_pos ⟨Nat.zero_le _, by omega⟩]; show (if 0 + (c - 0) < 10 then _ else _) = _; rw [show 0 + (c - 0) = c by omega]
  · rw [if_neg (fun z => e (by omega)), if_neg e, if_neg e]
section
variable {F : Nat → Nat → Int32} {N : Nat → Nat → Int64} {G : Nat → Nat → Int32} {w w2 : Nat} {V V2 : Nat → Int32} {n m2 : Nat} {h0 g2 : Int32} {t s2 : Nat}
theorem eX2_becomes (hw : zw w) (hw2 : zw w2) (hd : w2 + 8 ≤ w ∨ w + 8 ≤ w2) (hI : jI F N G w2 V n h0 t) (hT : jI F N G w V2 m2 g2 s2) : Mx mX2_becomes [.ref w, .ref w2] (rC F N G) none (jC F N G w V n h0 0) := by
  refine mx_of (L := [some (.ref w), some (.ref w2)]) (by decide) (fun _ => rfl) (fun _ => Nat.le_of_ble_eq_true rfl) ?_
  have hne : w2 ≠ w := by omega
  have c1 : va_cpy (G (w2 + 1)) (G (w + 1)) 0 0 64 = jth V := jcp_jth (by exact jI_a1 hI) (by exact jI_a1 hT)
  have c2 : va_cpy ((ga G (w + 1) (jth V)) (w2 + 2)) ((ga G (w + 1) (jth V)) (w + 2)) 0 0 4 = jhu V := jcp_jhu (by rw [ga_n _ _ (by omega)]; exact jI_a2 hI) (by rw [ga_n _ _ (by omega)]; exact jI_a2 hT)
  have c3 : va_cpy ((ga (ga G (w + 1) (jth V)) (w + 2) (jhu V)) (w2 + 3)) ((ga (ga G (w + 1) (jth V)) (w + 2) (jhu V)) (w + 3)) 0 0 8 = jbf V 0 := jcp_jbf0 (by rw [ga_n _ _ (by omega), ga_n _ _ (by omega)]; exact jI_a3 hI) (by rw [ga_n _ _ (by omega), ga_n _ _ (by omega)]; exact jI_a3 hT)
  have c4 : va_cpy ((ga (ga (ga G (w + 1) (jth V)) (w + 2) (jhu V)) (w + 3) (jbf V 0)) (w2 + 4)) ((ga (ga (ga G (w + 1) (jth V)) (w + 2) (jhu V)) (w + 3) (jbf V 0)) (w + 4)) 0 0 8 = jbf V 1 := jcp_jbf1 (by rw [ga_n _ _ (by omega), ga_n _ _ (by omega), ga_n _ _ (by omega)]; exact jI_a4 hI) (by rw [ga_n _ _ (by omega), ga_n _ _ (by omega), ga_n _ _ (by omega)]; exact jI_a4 hT)
  have c5 : va_cpy ((ga (ga (ga (ga G (w + 1) (jth V)) (w + 2) (jhu V)) (w + 3) (jbf V 0)) (w + 4) (jbf V 1)) (w2 + 5)) ((ga (ga (ga (ga G (w + 1) (jth V)) (w + 2) (jhu V)) (w + 3) (jbf V 0)) (w + 4) (jbf V 1)) (w + 5)) 0 0 8 = jbf V 2 := jcp_jbf2 (by rw [ga_n _ _ (by omega), ga_n _ _ (by omega), ga_n _ _ (by omega), ga_n _ _ (by omega)]; exact jI_a5 hI) (by rw [ga_n _ _ (by omega), ga_n _ _ (by omega), ga_n _ _ (by omega), ga_n _ _ (by omega)]; exact jI_a5 hT)
  have c6 : va_cpy ((ga (ga (ga (ga (ga G (w + 1) (jth V)) (w + 2) (jhu V)) (w + 3) (jbf V 0)) (w + 4) (jbf V 1)) (w + 5) (jbf V 2)) (w2 + 6)) ((ga (ga (ga (ga (ga G (w + 1) (jth V)) (w + 2) (jhu V)) (w + 3) (jbf V 0)) (w + 4) (jbf V 1)) (w + 5) (jbf V 2)) (w + 6)) 0 0 8 = jbf V 3 := jcp_jbf3 (by rw [ga_n _ _ (by omega), ga_n _ _ (by omega), ga_n _ _ (by omega), ga_n _ _ (by omega), ga_n _ _ (by omega)]; exact jI_a6 hI) (by rw [ga_n _ _ (by omega), ga_n _ _ (by omega), ga_n _ _ (by omega), ga_n _ _ (by omega), ga_n _ _ (by omega)]; exact jI_a6 hT)
  have c7 : va_cpy ((ga (ga (ga (ga (ga (ga G (w + 1) (jth V)) (w + 2) (jhu V)) (w + 3) (jbf V 0)) (w + 4) (jbf V 1)) (w + 5) (jbf V 2)) (w + 6) (jbf V 3)) (w2 + 7)) ((ga (ga (ga (ga (ga (ga G (w + 1) (jth V)) (w + 2) (jhu V)) (w + 3) (jbf V 0)) (w + 4) (jbf V 1)) (w + 5) (jbf V 2)) (w + 6) (jbf V 3)) (w + 7)) 0 0 10 = jspt V := jcp_jspt (by rw [ga_n _ _ (by omega), ga_n _ _ (by omega), ga_n _ _ (by omega), ga_n _ _ (by omega), ga_n _ _ (by omega), ga_n _ _ (by omega)]; exact jI_a7 hI) (by rw [ga_n _ _ (by omega), ga_n _ _ (by omega), ga_n _ _ (by omega), ga_n _ _ (by omega), ga_n _ _ (by omega), ga_n _ _ (by omega)]; exact jI_a7 hT)
  have hJ : jI (f2 (f2 (f2 (f2 (f2 F w 0 (h0)) w 4 (V 1)) w 5 (nI n)) w 10 (nI (jsN V n))) w 11 (V 3)) (n2 (n2 N w 1 (lN (jnm V 64))) w 13 (lN 0)) (ga (ga (ga (ga (ga (ga (ga G (w + 1) (jth V)) (w + 2) (jhu V)) (w + 3) (jbf V 0)) (w + 4) (jbf V 1)) (w + 5) (jbf V 2)) (w + 6) (jbf V 3)) (w + 7) (jspt V)) w V n h0 0 := by
    refine ⟨?_, ?_, ?_, ?_, ?_, ?_, ?_, ?_, ?_, ?_, ?_, ?_, ?_, ?_⟩
    · rw [f2_n _ _ (Or.inr (by decide)), f2_n _ _ (Or.inr (by decide)), f2_n _ _ (Or.inr (by decide)), f2_n _ _ (Or.inr (by decide)), f2_s]
    · rw [n2_n _ _ (Or.inr (by decide)), n2_s]
    · rw [f2_n _ _ (Or.inr (by decide)), f2_n _ _ (Or.inr (by decide)), f2_n _ _ (Or.inr (by decide)), f2_s]
    · rw [f2_n _ _ (Or.inr (by decide)), f2_n _ _ (Or.inr (by decide)), f2_s]
    · rw [f2_n _ _ (Or.inr (by decide)), f2_s]
    · rw [f2_s]
    · rw [n2_s]
    · rw [ga_n _ _ (by omega), ga_n _ _ (by omega), ga_n _ _ (by omega), ga_n _ _ (by omega), ga_n _ _ (by omega), ga_n _ _ (by omega), ga_s]
    · rw [ga_n _ _ (by omega), ga_n _ _ (by omega), ga_n _ _ (by omega), ga_n _ _ (by omega), ga_n _ _ (by omega), ga_s]
    · rw [ga_n _ _ (by omega), ga_n _ _ (by omega), ga_n _ _ (by omega), ga_n _ _ (by omega), ga_s]
    · rw [ga_n _ _ (by omega), ga_n _ _ (by omega), ga_n _ _ (by omega), ga_s]
    · rw [ga_n _ _ (by omega), ga_n _ _ (by omega), ga_s]
    · rw [ga_n _ _ (by omega), ga_s]
    · rw [ga_s]
  have hF : jFr F N G w (f2 (f2 (f2 (f2 (f2 F w 0 (h0)) w 4 (V 1)) w 5 (nI n)) w 10 (nI (jsN V n))) w 11 (V 3)) (n2 (n2 N w 1 (lN (jnm V 64))) w 13 (lN 0)) (ga (ga (ga (ga (ga (ga (ga G (w + 1) (jth V)) (w + 2) (jhu V)) (w + 3) (jbf V 0)) (w + 4) (jbf V 1)) (w + 5) (jbf V 2)) (w + 6) (jbf V 3)) (w + 7) (jspt V)) := (jFr_g (j := 7) (jFr_g (j := 6) (jFr_g (j := 5) (jFr_g (j := 4) (jFr_g (j := 3) (jFr_g (j := 2) (jFr_g (j := 1) (jFr_n (j := 13) (jFr_n (j := 1) (jFr_f (j := 11) (jFr_f (j := 10) (jFr_f (j := 5) (jFr_f (j := 4) (jFr_f (j := 0) jFr_r (by decide)) (by decide)) (by decide)) (by decide)) (by decide)) (by decide)) (by decide)) (by decide)) (by decide)) (by decide)) (by decide)) (by decide)) (by decide)) (by decide))
  refine fx_aload_n dX2_becomes_0 rfl rfl ?_
  refine fx_aload_n dX2_becomes_1 rfl rfl ?_
  refine fx_get dX2_becomes_2 kX2_40 (a2 (by assumption)) rfl ?_
  rw [jI_0 hI]
  refine fx_put dX2_becomes_5 kX2_40 (a2 (by assumption)) (Nat.le_of_ble_eq_true rfl) (fun _ => rfl) rfl rfl (u2_0 hw) ?_
  refine fx_aload_n dX2_becomes_8 rfl rfl ?_
  refine fx_aload_n dX2_becomes_9 rfl rfl ?_
  refine fx_get dX2_becomes_10 kX2_43 (a2 (by assumption)) rfl ?_
  rw [jI_m hI]
  refine fx_put dX2_becomes_13 kX2_43 (a2 (by assumption)) (Nat.le_of_ble_eq_true rfl) (fun _ => rfl) rfl rfl (u2_1 hw) ?_
  refine fx_aload_n dX2_becomes_16 rfl rfl ?_
  refine fx_aload_n dX2_becomes_17 rfl rfl ?_
  refine fx_get dX2_becomes_18 kX2_33 (a2 (by assumption)) rfl ?_
  rw [f2_n _ _ (Or.inl hne), jI_4 hI]
  refine fx_put dX2_becomes_21 kX2_33 (a2 (by assumption)) (Nat.le_of_ble_eq_true rfl) (fun _ => rfl) rfl rfl (u2_4 hw) ?_
  refine fx_aload_n dX2_becomes_24 rfl rfl ?_
  refine fx_aload_n dX2_becomes_25 rfl rfl ?_
  refine fx_get dX2_becomes_26 kX2_47 (a2 (by assumption)) rfl ?_
  rw [f2_n _ _ (Or.inl hne), f2_n _ _ (Or.inl hne), jI_5 hI]
  refine fx_put dX2_becomes_29 kX2_47 (a2 (by assumption)) (Nat.le_of_ble_eq_true rfl) (fun _ => rfl) rfl rfl (u2_5 hw) ?_
  refine fx_aload_n dX2_becomes_32 rfl rfl ?_
  refine fx_aload_n dX2_becomes_33 rfl rfl ?_
  refine fx_get dX2_becomes_34 kX2_50 (a2 (by assumption)) rfl ?_
  rw [f2_n _ _ (Or.inl hne), f2_n _ _ (Or.inl hne), f2_n _ _ (Or.inl hne), jI_c hI]
  refine fx_put dX2_becomes_37 kX2_50 (a2 (by assumption)) (Nat.le_of_ble_eq_true rfl) (fun _ => rfl) rfl rfl (u2_10 hw) ?_
  refine fx_aload_n dX2_becomes_40 rfl rfl ?_
  refine fx_aload_n dX2_becomes_41 rfl rfl ?_
  refine fx_get dX2_becomes_42 kX2_37 (a2 (by assumption)) rfl ?_
  rw [f2_n _ _ (Or.inl hne), f2_n _ _ (Or.inl hne), f2_n _ _ (Or.inl hne), f2_n _ _ (Or.inl hne), jI_z hI]
  refine fx_put dX2_becomes_45 kX2_37 (a2 (by assumption)) (Nat.le_of_ble_eq_true rfl) (fun _ => rfl) rfl rfl (u2_11 hw) ?_
  refine fx_aload_n dX2_becomes_48 rfl rfl ?_
  refine fx_lconst (v := 0) dX2_becomes_49 (by decide) ?_
  rw [show (0 : Int64) = lN 0 by decide]
  refine fx_put dX2_becomes_50 kX2_53 (a2 (by assumption)) (Nat.le_of_ble_eq_true rfl) (fun _ => rfl) rfl rfl (u2_13 hw) ?_
  refine fx_aload_n dX2_becomes_53 rfl rfl ?_
  refine fx_get dX2_becomes_54 kX2_9 (a2 (by assumption)) rfl ?_
  refine fx_iconst (v := nI 0) dX2_becomes_57 (by decide) ?_
  refine fx_aload_n dX2_becomes_58 rfl rfl ?_
  refine fx_get dX2_becomes_59 kX2_9 (a2 (by assumption)) rfl ?_
  refine fx_iconst (v := nI 0) dX2_becomes_62 (by decide) ?_
  refine fx_bipush (v := nI 64) dX2_becomes_63 (by decide) ?_
  refine fx_copy dX2_becomes_65 lX2_56 z_ac (by decide) (a2_1 hw2) (a2_1 hw) (by decide) (by decide) (by decide) (by decide) (by decide) (Nat.le_of_ble_eq_true rfl) (w2_1 hw) ?_
  rw [show (nI 0).toNatClampNeg = 0 by decide, show (nI 64).toNatClampNeg = 64 by decide, c1]
  refine fx_aload_n dX2_becomes_68 rfl rfl ?_
  refine fx_get dX2_becomes_69 kX2_15 (a2 (by assumption)) rfl ?_
  refine fx_iconst (v := nI 0) dX2_becomes_72 (by decide) ?_
  refine fx_aload_n dX2_becomes_73 rfl rfl ?_
  refine fx_get dX2_becomes_74 kX2_15 (a2 (by assumption)) rfl ?_
  refine fx_iconst (v := nI 0) dX2_becomes_77 (by decide) ?_
  refine fx_iconst (v := nI 4) dX2_becomes_78 (by decide) ?_
  refine fx_copy dX2_becomes_79 lX2_56 z_ac (by decide) (a2_2 hw2) (a2_2 hw) (by decide) (by decide) (by decide) (by decide) (by decide) (Nat.le_of_ble_eq_true rfl) (w2_2 hw) ?_
  rw [show (nI 0).toNatClampNeg = 0 by decide, show (nI 4).toNatClampNeg = 4 by decide, c2]
  refine fx_aload_n dX2_becomes_82 rfl rfl ?_
  refine fx_get dX2_becomes_83 kX2_18 (a2 (by assumption)) rfl ?_
  refine fx_iconst (v := nI 0) dX2_becomes_86 (by decide) ?_
  refine fx_aload_n dX2_becomes_87 rfl rfl ?_
  refine fx_get dX2_becomes_88 kX2_18 (a2 (by assumption)) rfl ?_
  refine fx_iconst (v := nI 0) dX2_becomes_91 (by decide) ?_
  refine fx_bipush (v := nI 8) dX2_becomes_92 (by decide) ?_
  refine fx_copy dX2_becomes_94 lX2_56 z_ac (by decide) (a2_3 hw2) (a2_3 hw) (by decide) (by decide) (by decide) (by decide) (by decide) (Nat.le_of_ble_eq_true rfl) (w2_3 hw) ?_
  rw [show (nI 0).toNatClampNeg = 0 by decide, show (nI 8).toNatClampNeg = 8 by decide, c3]
  refine fx_aload_n dX2_becomes_97 rfl rfl ?_
  refine fx_get dX2_becomes_98 kX2_21 (a2 (by assumption)) rfl ?_
  refine fx_iconst (v := nI 0) dX2_becomes_101 (by decide) ?_
  refine fx_aload_n dX2_becomes_102 rfl rfl ?_
  refine fx_get dX2_becomes_103 kX2_21 (a2 (by assumption)) rfl ?_
  refine fx_iconst (v := nI 0) dX2_becomes_106 (by decide) ?_
  refine fx_bipush (v := nI 8) dX2_becomes_107 (by decide) ?_
  refine fx_copy dX2_becomes_109 lX2_56 z_ac (by decide) (a2_4 hw2) (a2_4 hw) (by decide) (by decide) (by decide) (by decide) (by decide) (Nat.le_of_ble_eq_true rfl) (w2_4 hw) ?_
  rw [show (nI 0).toNatClampNeg = 0 by decide, show (nI 8).toNatClampNeg = 8 by decide, c4]
  refine fx_aload_n dX2_becomes_112 rfl rfl ?_
  refine fx_get dX2_becomes_113 kX2_24 (a2 (by assumption)) rfl ?_
  refine fx_iconst (v := nI 0) dX2_becomes_116 (by decide) ?_
  refine fx_aload_n dX2_becomes_117 rfl rfl ?_
  refine fx_get dX2_becomes_118 kX2_24 (a2 (by assumption)) rfl ?_
  refine fx_iconst (v := nI 0) dX2_becomes_121 (by decide) ?_
  refine fx_bipush (v := nI 8) dX2_becomes_122 (by decide) ?_
  refine fx_copy dX2_becomes_124 lX2_56 z_ac (by decide) (a2_5 hw2) (a2_5 hw) (by decide) (by decide) (by decide) (by decide) (by decide) (Nat.le_of_ble_eq_true rfl) (w2_5 hw) ?_
  rw [show (nI 0).toNatClampNeg = 0 by decide, show (nI 8).toNatClampNeg = 8 by decide, c5]
  refine fx_aload_n dX2_becomes_127 rfl rfl ?_
  refine fx_get dX2_becomes_128 kX2_27 (a2 (by assumption)) rfl ?_
  refine fx_iconst (v := nI 0) dX2_becomes_131 (by decide) ?_
  refine fx_aload_n dX2_becomes_132 rfl rfl ?_
  refine fx_get dX2_becomes_133 kX2_27 (a2 (by assumption)) rfl ?_
  refine fx_iconst (v := nI 0) dX2_becomes_136 (by decide) ?_
  refine fx_bipush (v := nI 8) dX2_becomes_137 (by decide) ?_
  refine fx_copy dX2_becomes_139 lX2_56 z_ac (by decide) (a2_6 hw2) (a2_6 hw) (by decide) (by decide) (by decide) (by decide) (by decide) (Nat.le_of_ble_eq_true rfl) (w2_6 hw) ?_
  rw [show (nI 0).toNatClampNeg = 0 by decide, show (nI 8).toNatClampNeg = 8 by decide, c6]
  refine fx_aload_n dX2_becomes_142 rfl rfl ?_
  refine fx_get dX2_becomes_143 kX2_30 (a2 (by assumption)) rfl ?_
  refine fx_iconst (v := nI 0) dX2_becomes_146 (by decide) ?_
  refine fx_aload_n dX2_becomes_147 rfl rfl ?_
  refine fx_get dX2_becomes_148 kX2_30 (a2 (by assumption)) rfl ?_
  refine fx_iconst (v := nI 0) dX2_becomes_151 (by decide) ?_
  refine fx_bipush (v := nI 10) dX2_becomes_152 (by decide) ?_
  refine fx_copy dX2_becomes_154 lX2_56 z_ac (by decide) (a2_7 hw2) (a2_7 hw) (by decide) (by decide) (by decide) (by decide) (by decide) (Nat.le_of_ble_eq_true rfl) (w2_7 hw) ?_
  rw [show (nI 0).toNatClampNeg = 0 by decide, show (nI 10).toNatClampNeg = 10 by decide, c7]
  exact fx_vreq dX2_becomes_157 rfl (j_can hJ hF)
end
