/-! ===== the class: worth, next cell ===== -/
set_option maxRecDepth 100000
theorem jsub_as (x a b : Int32) : x + a - b = x + (a - b) := by rw [Int32.sub_eq_add_neg, Int32.sub_eq_add_neg, Int32.add_assoc]
theorem jnear_or {V : Nat → Int32} {n b c kd : Nat} (hV : jW V n) (hc : c < 64) : ∀ o, o ≤ n → jnear V b c kd o = (-1) ∨ ∃ d, d ≤ 14 ∧ jnear V b c kd o = nI d := by
  intro o
  induction o with
  | zero => intro _; exact Or.inl rfl
  | succ o ih =>
    intro ho
    obtain ⟨-, ⟨a, ha, ea⟩, -⟩ := hV.2.2.1 o (by omega)
    have e1 : jnear V b c kd (o + 1) = if jnr V b kd o = true ∧ (jnear V b c kd o < 0 ∨ japart (nI c) (V (146 + 5 * o + 1)) < jnear V b c kd o) then japart (nI c) (V (146 + 5 * o + 1)) else jnear V b c kd o := rfl
    rw [e1]
    by_cases e : jnr V b kd o = true ∧ (jnear V b c kd o < 0 ∨ japart (nI c) (V (146 + 5 * o + 1)) < jnear V b c kd o)
    · rw [if_pos e, ea]
      obtain ⟨e1, e2⟩ := japN_e c hc a ha
      exact Or.inr ⟨_, e2, e1⟩
    · rw [if_neg e]; exact ih (by omega)
theorem jnr20_e {X y : Int32} (hy : y = (-1) ∨ ∃ d, d ≤ 14 ∧ y = nI d) : X + nI 20 - (if y < 0 then nI 20 else y) = X + jnr20 y + nI 0 := by
  rw [jsub_as]
  have h0 : ∀ z : Int32, z + nI 0 = z := fun z => by rw [nI_0, Int32.add_zero]
  rw [h0]
  congr 1
  rcases hy with rfl | ⟨d, hd, rfl⟩
  · decide
  · revert d; decide +kernel
theorem jlone_e {y : Int32} (hy : y = (-1) ∨ ∃ d, d ≤ 14 ∧ y = nI d) : (if y < 0 then nI 0 else y) = jmax (nI 0) y := by
  rcases hy with rfl | ⟨d, hd, rfl⟩
  · decide
  · revert d; decide +kernel
theorem jbs0 : ∀ c, c < 64 → (nI c < nI 8 → jbes c 0 = (-1)) ∧ (¬ nI c < nI 8 → jbes c 0 = nI c - nI 8) := by decide +kernel
theorem jbs1 : ∀ c, c < 64 → (nI 7 ≤ nI c - nI c / nI 8 * nI 8 → jbes c 1 = (-1)) ∧ (¬ nI 7 ≤ nI c - nI c / nI 8 * nI 8 → jbes c 1 = nI c + nI 1) := by decide +kernel
theorem jbs2 : ∀ c, c < 64 → (nI 56 ≤ nI c → jbes c 2 = (-1)) ∧ (¬ nI 56 ≤ nI c → jbes c 2 = nI c + nI 8) := by decide +kernel
theorem jbs3 : ∀ c, c < 64 → (nI c - nI c / nI 8 * nI 8 ≤ 0 → jbes c 3 = (-1)) ∧ (¬ nI c - nI c / nI 8 * nI 8 ≤ 0 → jbes c 3 = nI c - nI 1) := by decide +kernel
theorem eX2_cellBeside {c d : Nat} {h : zH} (hc : c < 64) (hd : d < 4) : Mx mX2_cellBeside [.int (nI c), .int (nI d)] h (some (.int (jbes c d))) h := by
  refine mx_of (L := [some (.int (nI c)), some (.int (nI d))]) (by decide) (fun _ => rfl) (fun _ => Nat.le_of_ble_eq_true rfl) ?_
  have T : ∀ q : Nat, Fx mX2_cellBeside (some (.int (jbes c d)), h) q [some (.int (nI c)), some (.int (nI d))] [] h → (q = 28 ∧ d = 0 ∨ q = 43 ∧ d = 1 ∨ q = 60 ∧ d = 2) → Fx mX2_cellBeside (some (.int (jbes c d)), h) 0 [some (.int (nI c)), some (.int (nI d))] [] h := by
    intro q k hq
    refine fx_iload_n dX2_cellBeside_0 rfl rfl ?_
    rcases hq with ⟨rfl, rfl⟩ | ⟨rfl, rfl⟩ | ⟨rfl, rfl⟩ <;> exact fx_tableIn dX2_cellBeside_1 (by decide) (by decide) rfl (by decide) k
  rcases (show d = 0 ∨ d = 1 ∨ d = 2 ∨ d = 3 by omega) with rfl | rfl | rfl | rfl
  · refine T 28 ?_ (by omega)
    refine fx_iload_n dX2_cellBeside_28 rfl rfl ?_
    refine fx_bipush (v := nI 8) dX2_cellBeside_29 (by decide) ?_
    refine fx_icmp_lt (tgt := 41) dX2_cellBeside_31 (by decide) rfl (fun hc31 => ?_) (fun hc31 => ?_)
    · refine fx_iconst (v := (-1)) dX2_cellBeside_41 (by decide) ?_
      exact fx_ireq dX2_cellBeside_42 rfl rfl (by first | exact ((jbs0 c hc).1 hc31).symm | exact ((jbs0 c hc).2 hc31).symm) rfl
    · refine fx_iload_n dX2_cellBeside_34 rfl rfl ?_
      refine fx_bipush (v := nI 8) dX2_cellBeside_35 (by decide) ?_
      refine fx_isub dX2_cellBeside_37 ?_
      refine fx_goto (tgt := 42) dX2_cellBeside_38 (by decide) ?_
      exact fx_ireq dX2_cellBeside_42 rfl rfl (by first | exact ((jbs0 c hc).1 hc31).symm | exact ((jbs0 c hc).2 hc31).symm) rfl
  · refine T 43 ?_ (by omega)
    refine fx_iload_n dX2_cellBeside_43 rfl rfl ?_
    refine fx_bipush (v := nI 8) dX2_cellBeside_44 (by decide) ?_
    refine fx_irem dX2_cellBeside_46 (by decide) ?_
    refine fx_bipush (v := nI 7) dX2_cellBeside_47 (by decide) ?_
    refine fx_icmp_ge (tgt := 58) dX2_cellBeside_49 (by decide) rfl (fun hc49 => ?_) (fun hc49 => ?_)
    · refine fx_iconst (v := (-1)) dX2_cellBeside_58 (by decide) ?_
      exact fx_ireq dX2_cellBeside_59 rfl rfl (by first | exact ((jbs1 c hc).1 hc49).symm | exact ((jbs1 c hc).2 hc49).symm) rfl
    · refine fx_iload_n dX2_cellBeside_52 rfl rfl ?_
      refine fx_iconst (v := nI 1) dX2_cellBeside_53 (by decide) ?_
      refine fx_iadd dX2_cellBeside_54 ?_
      refine fx_goto (tgt := 59) dX2_cellBeside_55 (by decide) ?_
      exact fx_ireq dX2_cellBeside_59 rfl rfl (by first | exact ((jbs1 c hc).1 hc49).symm | exact ((jbs1 c hc).2 hc49).symm) rfl
  · refine T 60 ?_ (by omega)
    refine fx_iload_n dX2_cellBeside_60 rfl rfl ?_
    refine fx_bipush (v := nI 56) dX2_cellBeside_61 (by decide) ?_
    refine fx_icmp_ge (tgt := 73) dX2_cellBeside_63 (by decide) rfl (fun hc63 => ?_) (fun hc63 => ?_)
    · refine fx_iconst (v := (-1)) dX2_cellBeside_73 (by decide) ?_
      exact fx_ireq dX2_cellBeside_74 rfl rfl (by first | exact ((jbs2 c hc).1 hc63).symm | exact ((jbs2 c hc).2 hc63).symm) rfl
    · refine fx_iload_n dX2_cellBeside_66 rfl rfl ?_
      refine fx_bipush (v := nI 8) dX2_cellBeside_67 (by decide) ?_
      refine fx_iadd dX2_cellBeside_69 ?_
      refine fx_goto (tgt := 74) dX2_cellBeside_70 (by decide) ?_
      exact fx_ireq dX2_cellBeside_74 rfl rfl (by first | exact ((jbs2 c hc).1 hc63).symm | exact ((jbs2 c hc).2 hc63).symm) rfl
  · refine fx_iload_n dX2_cellBeside_0 rfl rfl ?_
    refine fx_tableOut (tgt := 75) dX2_cellBeside_1 (Or.inr (by decide)) (by decide) ?_
    refine fx_iload_n dX2_cellBeside_75 rfl rfl ?_
    refine fx_bipush (v := nI 8) dX2_cellBeside_76 (by decide) ?_
    refine fx_irem dX2_cellBeside_78 (by decide) ?_
    refine fx_if_le (tgt := 88) dX2_cellBeside_79 (by decide) rfl (fun hc79 => ?_) (fun hc79 => ?_)
    · refine fx_iconst (v := (-1)) dX2_cellBeside_88 (by decide) ?_
      exact fx_ireq dX2_cellBeside_89 rfl rfl (by first | exact ((jbs3 c hc).1 hc79).symm | exact ((jbs3 c hc).2 hc79).symm) rfl
    · refine fx_iload_n dX2_cellBeside_82 rfl rfl ?_
      refine fx_iconst (v := nI 1) dX2_cellBeside_83 (by decide) ?_
      refine fx_isub dX2_cellBeside_84 ?_
      refine fx_goto (tgt := 89) dX2_cellBeside_85 (by decide) ?_
      exact fx_ireq dX2_cellBeside_89 rfl rfl (by first | exact ((jbs3 c hc).1 hc79).symm | exact ((jbs3 c hc).2 hc79).symm) rfl
section
variable {F : Nat → Nat → Int32} {N : Nat → Nat → Int64} {G : Nat → Nat → Int32} {w : Nat} {V : Nat → Int32} {n : Nat} {h0 : Int32} {t : Nat}
theorem eX2_worthFor {b c : Nat} (hw : zw w) (hI : jI F N G w V n h0 t) (hV : jW V n) (hb : b < n) (hc : c < 64) : Mx mX2_worthFor [.ref w, .int (nI b), .int (nI c)] (rC F N G) (some (.int (jworth V b c n))) (rC F N G) := by
  refine mx_of (L := [some (.ref w), some (.int (nI b)), some (.int (nI c)), none]) (by decide) (fun _ => rfl) (fun _ => Nat.le_of_ble_eq_true rfl) ?_
  have hn8 := hV.2.1
  obtain ⟨⟨kk, hkk, ekk⟩, -, -, -, -⟩ := hV.2.2.1 b hb
  have ew : jworth V b c n = jwk V b c n kk := by unfold jworth; rw [ekk, nI_clamp (by omega)]
  rw [ew]
  have o0 := jnear_or (b := b) (kd := 0) hV hc n (Nat.le_refl n)
  have o1 := jnear_or (b := b) (kd := 1) hV hc n (Nat.le_refl n)
  have K : Fx mX2_worthFor (some (.int (jwk V b c n kk)), rC F N G) 25 [some (.ref w), some (.int (nI b)), some (.int (nI c)), some (.int (jplain V c))] [.int (nI kk)] (rC F N G) := by
    rcases (show kk = 0 ∨ kk = 1 ∨ kk = 2 ∨ kk = 3 ∨ kk = 4 ∨ kk = 5 ∨ kk = 6 by omega) with rfl | rfl | rfl | rfl | rfl | rfl | rfl
    · refine fx_tableOut (tgt := 164) dX2_worthFor_25 (Or.inl (by decide)) (by decide) ?_
      refine fx_iload_n dX2_worthFor_164 rfl rfl ?_
      exact fx_ireq dX2_worthFor_165 rfl rfl rfl rfl
    · refine fx_tableIn (tgt := 64) dX2_worthFor_25 (by decide) (by decide) rfl (by decide) ?_
      refine fx_iload_n dX2_worthFor_64 rfl rfl ?_
      refine fx_bipush (v := nI 20) dX2_worthFor_65 (by decide) ?_
      refine fx_iadd dX2_worthFor_67 ?_
      refine fx_aload_n dX2_worthFor_68 rfl rfl ?_
      refine fx_iload_n dX2_worthFor_69 rfl rfl ?_
      refine fx_iload_n dX2_worthFor_70 rfl rfl ?_
      refine fx_iconst (v := nI 1) dX2_worthFor_71 (by decide) ?_
      refine fx_bipush (v := nI 20) dX2_worthFor_72 (by decide) ?_
      refine fx_callVv dX2_worthFor_74 vX2_nearestOther lX2_88 (by decide) (a2 hw) (Nat.le_of_ble_eq_true rfl) (eX2_nearestOther hw hI hV (by decide)) rfl ?_
      refine fx_isub dX2_worthFor_77 ?_
      exact fx_ireq dX2_worthFor_78 rfl rfl (jnr20_e o1) rfl
    · refine fx_tableIn (tgt := 103) dX2_worthFor_25 (by decide) (by decide) rfl (by decide) ?_
      refine fx_iload_n dX2_worthFor_103 rfl rfl ?_
      refine fx_aload_n dX2_worthFor_104 rfl rfl ?_
      refine fx_iload_n dX2_worthFor_105 rfl rfl ?_
      refine fx_iload_n dX2_worthFor_106 rfl rfl ?_
      refine fx_iconst (v := nI 0) dX2_worthFor_107 (by decide) ?_
      refine fx_iconst (v := nI 0) dX2_worthFor_108 (by decide) ?_
      refine fx_callVv dX2_worthFor_109 vX2_nearestOther lX2_88 (by decide) (a2 hw) (Nat.le_of_ble_eq_true rfl) (eX2_nearestOther hw hI hV (by decide)) rfl ?_
      refine fx_iadd dX2_worthFor_112 ?_
      exact fx_ireq dX2_worthFor_113 rfl rfl (by rw [jlone_e o0]; rfl) rfl
    · refine fx_tableIn (tgt := 114) dX2_worthFor_25 (by decide) (by decide) rfl (by decide) ?_
      refine fx_iload_n dX2_worthFor_114 rfl rfl ?_
      refine fx_aload_n dX2_worthFor_115 rfl rfl ?_
      refine fx_iload_n dX2_worthFor_116 rfl rfl ?_
      refine fx_iload_n dX2_worthFor_117 rfl rfl ?_
      refine fx_iconst (v := nI 0) dX2_worthFor_118 (by decide) ?_
      refine fx_iconst (v := nI 0) dX2_worthFor_119 (by decide) ?_
      refine fx_callVv dX2_worthFor_120 vX2_nearestOther lX2_88 (by decide) (a2 hw) (Nat.le_of_ble_eq_true rfl) (eX2_nearestOther hw hI hV (by decide)) rfl ?_
      refine fx_iadd dX2_worthFor_123 ?_
      refine fx_bipush (v := nI 7) dX2_worthFor_124 (by decide) ?_
      refine fx_iadd dX2_worthFor_126 ?_
      refine fx_iload_n dX2_worthFor_127 rfl rfl ?_
      refine fx_bipush (v := nI 8) dX2_worthFor_128 (by decide) ?_
      refine fx_idiv dX2_worthFor_130 (by decide) ?_
      refine fx_isub dX2_worthFor_131 ?_
      exact fx_ireq dX2_worthFor_132 rfl rfl (by rw [jlone_e o0]; rfl) rfl
    · refine fx_tableIn (tgt := 133) dX2_worthFor_25 (by decide) (by decide) rfl (by decide) ?_
      refine fx_iconst (v := nI 2) dX2_worthFor_133 (by decide) ?_
      refine fx_iload_n dX2_worthFor_134 rfl rfl ?_
      refine fx_aload_n dX2_worthFor_135 rfl rfl ?_
      refine fx_iload_n dX2_worthFor_136 rfl rfl ?_
      refine fx_iload_n dX2_worthFor_137 rfl rfl ?_
      refine fx_iconst (v := nI 0) dX2_worthFor_138 (by decide) ?_
      refine fx_iconst (v := nI 0) dX2_worthFor_139 (by decide) ?_
      refine fx_callVv dX2_worthFor_140 vX2_nearestOther lX2_88 (by decide) (a2 hw) (Nat.le_of_ble_eq_true rfl) (eX2_nearestOther hw hI hV (by decide)) rfl ?_
      refine fx_iadd dX2_worthFor_143 ?_
      refine fx_bipush (v := nI 7) dX2_worthFor_144 (by decide) ?_
      refine fx_iadd dX2_worthFor_146 ?_
      refine fx_iload_n dX2_worthFor_147 rfl rfl ?_
      refine fx_bipush (v := nI 8) dX2_worthFor_148 (by decide) ?_
      refine fx_idiv dX2_worthFor_150 (by decide) ?_
      refine fx_isub dX2_worthFor_151 ?_
      refine fx_imul dX2_worthFor_152 ?_
      exact fx_ireq dX2_worthFor_153 rfl rfl (by rw [jlone_e o0]; rfl) rfl
    · refine fx_tableIn (tgt := 154) dX2_worthFor_25 (by decide) (by decide) rfl (by decide) ?_
      refine fx_iload_n dX2_worthFor_154 rfl rfl ?_
      refine fx_iconst (v := nI 2) dX2_worthFor_155 (by decide) ?_
      refine fx_iload_n dX2_worthFor_156 rfl rfl ?_
      refine fx_iconst (v := nI 0) dX2_worthFor_157 (by decide) ?_
      refine fx_callSv dX2_worthFor_158 sX3_apart lX2_72 (by decide) (Nat.le_of_ble_eq_true rfl) eX3_apart rfl ?_
      refine fx_imul dX2_worthFor_161 ?_
      refine fx_isub dX2_worthFor_162 ?_
      exact fx_ireq dX2_worthFor_163 rfl rfl rfl rfl
    · refine fx_tableIn (tgt := 79) dX2_worthFor_25 (by decide) (by decide) rfl (by decide) ?_
      refine fx_iload_n dX2_worthFor_79 rfl rfl ?_
      refine fx_bipush (v := nI 20) dX2_worthFor_80 (by decide) ?_
      refine fx_iadd dX2_worthFor_82 ?_
      refine fx_aload_n dX2_worthFor_83 rfl rfl ?_
      refine fx_iload_n dX2_worthFor_84 rfl rfl ?_
      refine fx_iload_n dX2_worthFor_85 rfl rfl ?_
      refine fx_iconst (v := nI 1) dX2_worthFor_86 (by decide) ?_
      refine fx_bipush (v := nI 20) dX2_worthFor_87 (by decide) ?_
      refine fx_callVv dX2_worthFor_89 vX2_nearestOther lX2_88 (by decide) (a2 hw) (Nat.le_of_ble_eq_true rfl) (eX2_nearestOther hw hI hV (by decide)) rfl ?_
      refine fx_isub dX2_worthFor_92 ?_
      refine fx_iconst (v := nI 2) dX2_worthFor_93 (by decide) ?_
      refine fx_aload_n dX2_worthFor_94 rfl rfl ?_
      refine fx_get dX2_worthFor_95 kX2_9 (a2 hw) rfl ?_
      refine fx_iload_n dX2_worthFor_98 rfl rfl ?_
      refine fx_iald dX2_worthFor_99 (a2_1 hw) (vp_in_nI (by omega) (by decide)) ?_
      rw [nI_clamp (by omega), jI_a1 hI, jth_e hc]
      refine fx_imul dX2_worthFor_100 ?_
      refine fx_iadd dX2_worthFor_101 ?_
      exact fx_ireq dX2_worthFor_102 rfl rfl (by rw [jnr20_e o1, nI_0, Int32.add_zero]; rfl) rfl
  refine fx_bipush (v := nI 10) dX2_worthFor_0 (by decide) ?_
  refine fx_aload_n dX2_worthFor_2 rfl rfl ?_
  refine fx_iload_n dX2_worthFor_3 rfl rfl ?_
  refine fx_callVv dX2_worthFor_4 vX2_fromHunters lX2_84 (by decide) (a2 hw) (Nat.le_of_ble_eq_true rfl) (eX2_fromHunters hw hI) rfl ?_
  refine fx_imul dX2_worthFor_7 ?_
  refine fx_bipush (v := nI 9) dX2_worthFor_8 (by decide) ?_
  refine fx_iadd dX2_worthFor_10 ?_
  refine fx_aload_n dX2_worthFor_11 rfl rfl ?_
  refine fx_get dX2_worthFor_12 kX2_9 (a2 hw) rfl ?_
  refine fx_iload_n dX2_worthFor_15 rfl rfl ?_
  refine fx_iald dX2_worthFor_16 (a2_1 hw) (vp_in_nI (by omega) (by decide)) ?_
  rw [nI_clamp (by omega), jI_a1 hI, jth_e hc]
  refine fx_isub dX2_worthFor_17 ?_
  refine fs_istore_n_3 dX2_worthFor_18 rfl (by decide) ?_
  refine fx_aload_n dX2_worthFor_19 rfl rfl ?_
  refine fx_get dX2_worthFor_20 kX2_18 (a2 hw) rfl ?_
  refine fx_iload_n dX2_worthFor_23 rfl rfl ?_
  refine fx_iald dX2_worthFor_24 (a2_3 hw) (vp_in_nI (by omega) (by decide)) ?_
  rw [nI_clamp (by omega), jI_a3 hI, jbf_e (by omega), ekk]
  exact K
theorem eX2_nextCell {b : Nat} (hw : zw w) (hI : jI F N G w V n h0 t) (hV : jW V n) (hb : b < n) : Mx mX2_nextCell [.ref w, .int (nI b)] (rC F N G) (some (.int (nI (jnext V b n)))) (rC F N G) := by
  refine mx_of (L := [some (.ref w), some (.int (nI b)), none, none, none, none, none, none]) (by decide) (fun _ => rfl) (fun _ => Nat.le_of_ble_eq_true rfl) ?_
  have hn8 := hV.2.1
  obtain ⟨-, ⟨a, ha, ea⟩, -⟩ := hV.2.2.1 b hb
  have ej : jnext V b n = (jnx V b n a 4).1 := by unfold jnext; rw [ea, nI_clamp (by omega)]
  rw [ej]
  have H : ∀ (k u : Nat), u + k = 4 → ∀ x6 x7 : Option Value, Fx mX2_nextCell (some (.int (nI (jnx V b n a 4).1)), rC F N G) 20 [some (.ref w), some (.int (nI b)), some (.int (nI a)), some (.int (nI (jnx V b n a u).1)), some (.int (jnx V b n a u).2), some (.int (nI u)), x6, x7] [] (rC F N G) := by
    intro k
    induction k with
    | zero =>
      intro u hu x6 x7
      have hu' : u = 4 := by omega
      subst hu'
      refine fx_iload dX2_nextCell_20 rfl ?_
      refine fx_iconst (v := nI 4) dX2_nextCell_22 (by decide) ?_
      refine fx_icmp_ge (tgt := 68) dX2_nextCell_23 (by decide) rfl (fun hc23 => ?_) (fun hc23 => ?_)
      · refine fx_iload_n dX2_nextCell_68 rfl rfl ?_
        exact fx_ireq dX2_nextCell_69 rfl rfl rfl rfl
      · exact absurd (Int32.le_refl _) hc23
    | succ k ih =>
      intro u hu x6 x7
      have ih1 := ih (u + 1) (by omega)
      rcases jbes_or a ha u (by omega) with z | ⟨z1, z2⟩
      · have e1 : jnx V b n a (u + 1) = jnx V b n a u := if_pos (by rw [z]; decide)
        rw [e1] at ih1
        refine fx_iload dX2_nextCell_20 rfl ?_
        refine fx_iconst (v := nI 4) dX2_nextCell_22 (by decide) ?_
        refine fx_icmp_ge (tgt := 68) dX2_nextCell_23 (by decide) rfl (fun hc23 => ?_) (fun hc23 => ?_)
        · exact absurd hc23 (nI_ge (by omega) (by omega))
        · refine fx_iload_n dX2_nextCell_26 rfl rfl ?_
          refine fx_iload dX2_nextCell_27 rfl ?_
          refine fx_callSv dX2_nextCell_29 sX2_cellBeside lX2_102 (by decide) (Nat.le_of_ble_eq_true rfl) (eX2_cellBeside ha (by omega)) rfl ?_
          rw [z]
          refine fs_istore_6 dX2_nextCell_32 rfl (by decide) ?_
          refine fx_iload dX2_nextCell_34 rfl ?_
          refine fx_if_lt (tgt := 62) dX2_nextCell_36 (by decide) rfl (fun hc36 => ?_) (fun hc36 => ?_)
          · refine fs_iinc_5 (w := nI 1) dX2_nextCell_62 (by decide) rfl (by decide) ?_
            refine fx_goto (tgt := 20) dX2_nextCell_65 (by decide) ?_
            rw [nI_add]
            exact ih1 _ _
          · exact absurd (by decide) hc36
      · have z3 : ¬ jbes a u < 0 := by rw [z2]; exact nI_pos (by omega)
        have e1 : jnx V b n a (u + 1) = (if (jnx V b n a u).2 < jworth V b (jbesN a u) n then jbesN a u else (jnx V b n a u).1, jmax (jnx V b n a u).2 (jworth V b (jbesN a u) n)) := if_neg z3
        rw [e1] at ih1
        unfold jmax at ih1
        refine fx_iload dX2_nextCell_20 rfl ?_
        refine fx_iconst (v := nI 4) dX2_nextCell_22 (by decide) ?_
        refine fx_icmp_ge (tgt := 68) dX2_nextCell_23 (by decide) rfl (fun hc23 => ?_) (fun hc23 => ?_)
        · exact absurd hc23 (nI_ge (by omega) (by omega))
        · refine fx_iload_n dX2_nextCell_26 rfl rfl ?_
          refine fx_iload dX2_nextCell_27 rfl ?_
          refine fx_callSv dX2_nextCell_29 sX2_cellBeside lX2_102 (by decide) (Nat.le_of_ble_eq_true rfl) (eX2_cellBeside ha (by omega)) rfl ?_
          rw [z2]
          refine fs_istore_6 dX2_nextCell_32 rfl (by decide) ?_
          refine fx_iload dX2_nextCell_34 rfl ?_
          refine fx_if_lt (tgt := 62) dX2_nextCell_36 (by decide) rfl (fun hc36 => ?_) (fun hc36 => ?_)
          · exact absurd hc36 (nI_pos (by omega))
          · refine fx_aload_n dX2_nextCell_39 rfl rfl ?_
            refine fx_iload_n dX2_nextCell_40 rfl rfl ?_
            refine fx_iload dX2_nextCell_41 rfl ?_
            refine fx_callVv dX2_nextCell_43 vX2_worthFor lX2_99 (by decide) (a2 hw) (Nat.le_of_ble_eq_true rfl) (eX2_worthFor hw hI hV hb z1) rfl ?_
            refine fs_istore_7 dX2_nextCell_46 rfl (by decide) ?_
            refine fx_iload dX2_nextCell_48 rfl ?_
            refine fx_iload dX2_nextCell_50 rfl ?_
            refine fx_icmp_le (tgt := 62) dX2_nextCell_52 (by decide) rfl (fun hc52 => ?_) (fun hc52 => ?_)
            · refine fs_iinc_5 (w := nI 1) dX2_nextCell_62 (by decide) rfl (by decide) ?_
              refine fx_goto (tgt := 20) dX2_nextCell_65 (by decide) ?_
              rw [nI_add]
              first | (rw [if_pos (Int32.not_le.mp hc52), if_pos (Int32.not_le.mp hc52)] at ih1; exact ih1 _ _) | (rw [if_neg (Int32.not_lt.mpr hc52), if_neg (Int32.not_lt.mpr hc52)] at ih1; exact ih1 _ _)
            · refine fx_iload dX2_nextCell_55 rfl ?_
              refine fs_istore_4 dX2_nextCell_57 rfl (by decide) ?_
              refine fx_iload dX2_nextCell_59 rfl ?_
              refine fs_istore_n_3 dX2_nextCell_61 rfl (by decide) ?_
              refine fs_iinc_5 (w := nI 1) dX2_nextCell_62 (by decide) rfl (by decide) ?_
              refine fx_goto (tgt := 20) dX2_nextCell_65 (by decide) ?_
              rw [nI_add]
              first | (rw [if_pos (Int32.not_le.mp hc52), if_pos (Int32.not_le.mp hc52)] at ih1; exact ih1 _ _) | (rw [if_neg (Int32.not_lt.mpr hc52), if_neg (Int32.not_lt.mpr hc52)] at ih1; exact ih1 _ _)
  refine fx_aload_n dX2_nextCell_0 rfl rfl ?_
  refine fx_get dX2_nextCell_1 kX2_21 (a2 hw) rfl ?_
  refine fx_iload_n dX2_nextCell_4 rfl rfl ?_
  refine fx_iald dX2_nextCell_5 (a2_4 hw) (vp_in_nI (by omega) (by decide)) ?_
  rw [nI_clamp (by omega), jI_a4 hI, jbf_e (by omega), ea]
  refine fs_istore_n_2 dX2_nextCell_6 rfl (by decide) ?_
  refine fx_iload_n dX2_nextCell_7 rfl rfl ?_
  refine fs_istore_n_3 dX2_nextCell_8 rfl (by decide) ?_
  refine fx_aload_n dX2_nextCell_9 rfl rfl ?_
  refine fx_iload_n dX2_nextCell_10 rfl rfl ?_
  refine fx_iload_n dX2_nextCell_11 rfl rfl ?_
  refine fx_callVv dX2_nextCell_12 vX2_worthFor lX2_99 (by decide) (a2 hw) (Nat.le_of_ble_eq_true rfl) (eX2_worthFor hw hI hV hb ha) rfl ?_
  refine fs_istore_4 dX2_nextCell_15 rfl (by decide) ?_
  refine fx_iconst (v := nI 0) dX2_nextCell_17 (by decide) ?_
  refine fs_istore_5 dX2_nextCell_18 rfl (by decide) ?_
  exact H 4 0 (by omega) _ _
end
