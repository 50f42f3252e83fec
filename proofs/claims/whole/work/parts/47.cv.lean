/-! ===== pairs: stands, where, ear, whose ===== -/
set_option maxRecDepth 100000
theorem jct_1 (st : Nat → Bool) (ld : Nat → Nat) (l c : Nat) : jct st ld l (c + 1) = jct st ld l c + (if st c = true ∧ ld c = l then 1 else 0) := rfl
theorem jwo_1 (st : Nat → Bool) (ld : Nat → Nat) (c : Nat) : jwo st ld (c + 1) = if st c = true then max (jwo st ld c) (jct st ld (ld c) (c + 1)) else jwo st ld c := rfl
theorem jct_lab {st : Nat → Bool} {ld gl : Nat → Nat} {m c0 : Nat} (h : ∀ c, c < m → (ld c = ld c0 ↔ gl c = gl c0)) : ∀ c, c ≤ m → jct st ld (ld c0) c = jct st gl (gl c0) c := by
  intro c
  induction c with
  | zero => intro _; rfl
  | succ c ih =>
    intro hc
    rw [jct_1, jct_1, ih (by omega)]
    by_cases q : st c = true ∧ ld c = ld c0
    · rw [if_pos q, if_pos ⟨q.1, (h c (by omega)).mp q.2⟩]
    · rw [if_neg q, if_neg (fun z => q ⟨z.1, (h c (by omega)).mpr z.2⟩)]
theorem jwo_lab {st : Nat → Bool} {ld gl : Nat → Nat} {m : Nat} (h : ∀ c c0, c < m → c0 < m → (ld c = ld c0 ↔ gl c = gl c0)) : ∀ c, c ≤ m → jwo st ld c = jwo st gl c := by
  intro c
  induction c with
  | zero => intro _; rfl
  | succ c ih =>
    intro hc
    rw [jwo_1, jwo_1, ih (by omega), jct_lab (m := m) (fun d hd => h d c hd (by omega)) (c + 1) hc]
def jgl (w e c : Nat) : Nat := if 0 < jloN w c e then japN c e else 15
theorem jgl_e {w e : Nat} (he : e < 64) : ∀ c c0, c < 64 → c0 < 64 → (jloN w c e = jloN w c0 e ↔ jgl w e c = jgl w e c0) := by
  intro c c0 hc hc0
  have h1 := (japN_e c hc e he).2
  have h2 := (japN_e c0 hc0 e he).2
  unfold jgl jloN
  generalize japN c e = x at *
  generalize japN c0 e = y at *
  by_cases p : 0 < w - 3 * x <;> by_cases q : 0 < w - 3 * y
  · rw [if_pos p, if_pos q]; omega
  · rw [if_pos p, if_neg q]; omega
  · rw [if_neg p, if_pos q]; omega
  · rw [if_neg p, if_neg q]; omega
theorem jgl_lt {w e c : Nat} (he : e < 64) (hc : c < 64) : jgl w e c < 16 := by
  have h1 := (japN_e c hc e he).2
  unfold jgl
  split <;> omega
theorem jwo_m (st : Nat → Bool) (ld : Nat → Nat) (c : Nat) : jwo st ld c ≤ jwo st ld (c + 1) := by
  rw [jwo_1]
  split
  · exact Nat.le_max_left _ _
  · exact Nat.le_refl _
theorem jwo_md (st : Nat → Bool) (ld : Nat → Nat) (c : Nat) : ∀ d, jwo st ld c ≤ jwo st ld (c + d) := by
  intro d
  induction d with
  | zero => exact Nat.le_refl _
  | succ d ih => exact Nat.le_trans ih (jwo_m st ld (c + d))
theorem jwo_pos {st : Nat → Bool} {ld : Nat → Nat} {c m : Nat} (hc : c < m) (h : st c = true) : 1 ≤ jwo st ld m := by
  have e := jwo_md st ld (c + 1) (m - (c + 1))
  rw [show c + 1 + (m - (c + 1)) = m by omega] at e
  refine Nat.le_trans ?_ e
  rw [jwo_1, if_pos h]
  refine Nat.le_trans ?_ (Nat.le_max_right _ _)
  rw [jct_1, if_pos ⟨h, rfl⟩]
  omega
theorem jwo_zero {st : Nat → Bool} {ld : Nat → Nat} {m : Nat} (h : ∀ c, c < m → st c = false) : ∀ c, c ≤ m → jwo st ld c = 0 := by
  intro c
  induction c with
  | zero => intro _; rfl
  | succ c ih =>
    intro hc
    rw [jwo_1, h c (by omega), if_neg (by decide), ih (by omega)]
theorem jer_1 (g : Nat → Nat) (c : Nat) : jer g (c + 1) = if g c < (jer g c).2 then (c, g c) else jer g c := rfl
theorem jer_pos {g : Nat → Nat} (h : ∀ c, 1 ≤ g c) : ∀ c, 1 ≤ (jer g c).2 := by
  intro c
  induction c with
  | zero => exact (by decide : 1 ≤ 1000000)
  | succ c ih =>
    rw [jer_1]
    split
    · exact h c
    · exact ih
theorem jer_zero {g : Nat → Nat} (h : ∀ c, g c = 0) : ∀ c, (jer g (c + 1)).2 = 0 := by
  intro c
  rw [jer_1]
  by_cases q : g c < (jer g c).2
  · rw [if_pos q]; exact h c
  · rw [if_neg q]; have := h c; omega
theorem jstd_0 {st : Nat → Bool} (h : jstd st 64 = 0) : ∀ c, c < 64 → st c = false := by
  intro c hc
  have := jstd_b st c 64
  rw [h, Nat.zero_testBit, decide_eq_true hc, Bool.true_and] at this
  exact this.symm
theorem jstd_n0 {st : Nat → Bool} (h : ¬ jstd st 64 = 0) : ∃ c, c < 64 ∧ st c = true := by
  refine Decidable.byContradiction fun q => h ?_
  have hf : ∀ c, c < 64 → st c = false := fun c hc => by
    cases e : st c
    · rfl
    · exact absurd ⟨c, hc, e⟩ q
  apply Nat.eq_of_testBit_eq
  intro i
  rw [jstd_b, Nat.zero_testBit]
  by_cases hi : i < 64
  · rw [hf i hi, Bool.and_false]
  · rw [decide_eq_false hi, Bool.false_and]
theorem jlc_eq {x : Int64} (h : lg_cmp x 0 = 0) : x = lN 0 := by
  unfold lg_cmp at h
  split at h
  · exact absurd h (by decide)
  · split at h
    · rename_i q; exact q.trans (by decide)
    · exact absurd h (by decide)
theorem jlo_199 {G : Nat → Nat → Int32} {s : Int32} : jlo G s (nI 99) = jlo G s (nI 1) := by
  unfold jlo
  rw [show jwi (nI 99) (nI 1) (nI 99) = true by decide, show jwi (nI 1) (nI 1) (nI 99) = true by decide]
section
variable {F4 F4' : Nat → Int32} {G4 : Nat → Nat → Int32} {F : Nat → Nat → Int32} {N : Nat → Nat → Int64} {G : Nat → Nat → Int32} {P : Nat → Int32}
theorem jR_g4 {p : Nat} (R : jR F4 G4 F N G) (hp : p = 7 ∨ p = 10 ∨ p = 14) : jR F4 (ga G4 p P) F N G := by
  have c := R.2.2.2.1
  exact jR_o R (fun _ _ _ _ _ _ q => q) rfl (ga_n _ _ (by omega)) (ga_n _ _ (by omega)) (by rw [ga_n _ _ (by omega)]; exact c.2.2) (c.1.ga (by omega)) (jRr_4 R.2.2.2.2 rfl rfl (ga_n _ _ (by omega)) (ga_n _ _ (by omega)) (ga_n _ _ (by omega)) (ga_n _ _ (by omega)) (ga_n _ _ (by omega)))
theorem jR_37 (R : jR F4 G4 F N G) : jR F4 G4 F N (ga G 37 P) := by
  have c := R.2.2.2.1
  refine jR_o R (fun p V n h t hp q => jI_36 q (by rcases hp with rfl | rfl | rfl <;> decide)) rfl rfl rfl c.2.2 c.1 ?_
  obtain ⟨a, ⟨b1, b2⟩, ⟨z, c1, c2, c3, c4⟩, d1, d2⟩ := R.2.2.2.2
  refine ⟨a, ⟨?_, ?_⟩, ⟨z, c1, c2, c3, ?_⟩, d1, fun s hs => ?_⟩
  · rw [ga_n _ _ (by decide)]; exact b1
  · rw [ga_n _ _ (by decide)]; exact b2
  · rw [ga_n _ _ (by decide)]; exact c4
  · rw [ga_n _ _ (by omega)]; exact d2 s hs
theorem wa_37 {a : Nat → Int32} : z_set (rC F N G) 37 (.inl (0, 16, .inl a)) = rC F N (ga G 37 a) := rfl
theorem eX3_leftAtWorst {x w e : Nat} (hx : x < 2 ^ 64) (hw : w ≤ 99) (he : e < 64) : ∃ P' : Nat → Int32, Mx mX3_leftAtWorst [.ref 0, .long (lN x), .int (nI e), .int (nI w)] (rC F N G) (some (.int (nI (jwo (fun c => x.testBit c) (jgl w e) 64)))) (rC F N (ga G 37 P')) := by
  generalize hst : (fun c => x.testBit c) = st
  have hst' : ∀ c, x.testBit c = st c := fun c => by rw [← hst]
  have hP : ∀ l, l < 16 → jfill (fun _ => nI 0) (G 37) 16 l = nI 0 := fun l hl => if_pos hl
  generalize hPe : jfill (fun _ => nI 0) (G 37) 16 = P at hP
  refine ⟨jpa P st (jgl w e) 64, ?_⟩
  generalize hgl : jgl w e = gl
  have hgl' : ∀ c, jgl w e c = gl c := fun c => by rw [← hgl]
  refine mx_of (L := [some (.ref 0), some (.long (lN x)), none, some (.int (nI e)), some (.int (nI w)), none, none, none, none, none]) (by decide) (fun _ => rfl) (fun _ => Nat.le_of_ble_eq_true rfl) ?_
  have H : ∀ (k c : Nat), c + k = 64 → Fx mX3_leftAtWorst (some (.int (nI (jwo st gl 64))), rC F N (ga G 37 (jpa P st gl 64))) 34 [some (.ref 0), some (.long (lN x)), none, some (.int (nI e)), some (.int (nI w)), some (.int (nI 15)), some (.int (nI (jwo st gl c))), some (.int (nI c)), none, none] [] (rC F N (ga G 37 (jpa P st gl c))) := by
    intro k
    induction k with
    | zero =>
      intro c hc
      have hc' : c = 64 := by omega
      subst hc'
      refine fx_iload dX3_leftAtWorst_34 rfl ?_
      refine fx_bipush (v := nI 64) dX3_leftAtWorst_36 (by decide) ?_
      refine fx_icmp_ge (tgt := 108) dX3_leftAtWorst_38 (by decide) rfl (fun hc38 => ?_) (fun hc38 => ?_)
      · refine fx_iload dX3_leftAtWorst_108 rfl ?_
        exact fx_ireq dX3_leftAtWorst_110 rfl rfl rfl rfl
      · exact absurd (Int32.le_refl _) hc38
    | succ k ih =>
      intro c hc
      have hc64 : c < 64 := by omega
      have ih1 := ih (c + 1) (by omega)
      obtain ⟨ja, jb⟩ := japN_e c hc64 e he
      have hl16 := jgl_lt (w := w) he hc64
      have eL : jmax (nI 0) (nI w - nI 3 * nI (japN c e)) = nI (jloN w c e) := by
        have := jloud_n hw hc64 he
        unfold jloud at this
        rw [ja] at this
        exact this
      have eg : jgl w e c = if 0 < jloN w c e then japN c e else 15 := rfl
      rw [hgl'] at hl16 eg
      have hlw : jloN w c e ≤ w := Nat.sub_le _ _
      have eP : jpa P st gl c (gl c) = nI (jct st gl (gl c) c) := jpa_e (hP _ hl16) c
      have eP1 : jpa P st gl (c + 1) (gl c) = nI (jct st gl (gl c) (c + 1)) := jpa_e (hP _ hl16) (c + 1)
      have hle := jwo_le st gl c
      have hle2 := jct_le st gl (gl c) (c + 1)
      have ec := hst' c
      cases hb : st c
      · have e1 : jwo st gl (c + 1) = jwo st gl c := by rw [jwo_1, hb, if_neg (by decide)]
        have e2 : jpa P st gl (c + 1) = jpa P st gl c := by
          show upd (jpa P st gl c) (gl c) (jpa P st gl c (gl c) + jB (st c)) = _
          rw [hb, show jB false = 0 from rfl, Int32.add_zero, upd_id]
        rw [e1, e2] at ih1
        rw [hb] at ec
        refine fx_iload dX3_leftAtWorst_34 rfl ?_
        refine fx_bipush (v := nI 64) dX3_leftAtWorst_36 (by decide) ?_
        refine fx_icmp_ge (tgt := 108) dX3_leftAtWorst_38 (by decide) rC_l (fun hc38 => ?_) (fun hc38 => ?_)
        · exact absurd hc38 (nI_ge (by omega) (by omega))
        · refine fx_lload_n dX3_leftAtWorst_41 rfl rfl ?_
          refine fx_iload dX3_leftAtWorst_42 rfl ?_
          refine fx_callSv dX3_leftAtWorst_44 sX3_holds lX3_168 (by decide) (Nat.le_of_ble_eq_true rfl) (eX3_holds hx hc64) rfl ?_
          rw [ec]
          refine fx_if_eq (tgt := 102) dX3_leftAtWorst_47 (by decide) rC_l (fun hc47 => ?_) (fun hc47 => ?_)
          · refine fs_iinc_7 (w := nI 1) dX3_leftAtWorst_102 (by decide) rfl (by decide) ?_
            refine fx_goto (tgt := 34) dX3_leftAtWorst_105 (by decide) ?_
            rw [nI_add]
            exact ih1
          · exact absurd rfl hc47
      · have eW : jmax (nI (jwo st gl c)) (nI (jct st gl (gl c) (c + 1))) = nI (jwo st gl (c + 1)) := by
          rw [jmax_n (by omega) (by omega), jwo_1, hb, if_pos rfl]
        have eU : upd (jpa P st gl c) (gl c) (jpa P st gl c (gl c) + nI 1) = jpa P st gl (c + 1) := by
          show _ = upd (jpa P st gl c) (gl c) (jpa P st gl c (gl c) + jB (st c))
          rw [hb]; rfl
        rw [hb] at ec
        have K : ∀ l8 : Int32, Fx mX3_leftAtWorst (some (.int (nI (jwo st gl 64))), rC F N (ga G 37 (jpa P st gl 64))) 75 [some (.ref 0), some (.long (lN x)), none, some (.int (nI e)), some (.int (nI w)), some (.int (nI 15)), some (.int (nI (jwo st gl c))), some (.int (nI c)), some (.int l8), none] [.int (nI (gl c))] (rC F N (ga G 37 (jpa P st gl c))) := by
          intro l8
          refine fs_istore_9 dX3_leftAtWorst_75 rfl (by decide) ?_
          refine fx_aload_n dX3_leftAtWorst_77 rfl rfl ?_
          refine fx_get dX3_leftAtWorst_78 kX3_44 rfl rfl ?_
          refine fx_iload dX3_leftAtWorst_81 rfl ?_
          refine fx_dup2 dX3_leftAtWorst_83 rfl rfl ?_
          refine fx_iald dX3_leftAtWorst_84 rfl (vp_in_nI hl16 (by decide)) ?_
          rw [nI_clamp (by omega), ga_s]
          refine fx_iconst (v := nI 1) dX3_leftAtWorst_85 (by decide) ?_
          refine fx_iadd dX3_leftAtWorst_86 ?_
          refine fx_iast dX3_leftAtWorst_87 rfl (vp_in_nI hl16 (by decide)) wa_37 ?_
          rw [nI_clamp (by omega), ga_s, ga_ga, eU]
          refine fx_iload dX3_leftAtWorst_88 rfl ?_
          refine fx_aload_n dX3_leftAtWorst_90 rfl rfl ?_
          refine fx_get dX3_leftAtWorst_91 kX3_44 rfl rfl ?_
          refine fx_iload dX3_leftAtWorst_94 rfl ?_
          refine fx_iald dX3_leftAtWorst_96 rfl (vp_in_nI hl16 (by decide)) ?_
          rw [nI_clamp (by omega), ga_s, eP1]
          refine fx_max dX3_leftAtWorst_97 lX3_285 (by decide) (Nat.le_of_ble_eq_true rfl) ?_
          rw [eW]
          refine fs_istore_6 dX3_leftAtWorst_100 rfl (by decide) ?_
          refine fs_iinc_7 (w := nI 1) dX3_leftAtWorst_102 (by decide) rfl (by decide) ?_
          refine fx_goto (tgt := 34) dX3_leftAtWorst_105 (by decide) ?_
          rw [nI_add]
          refine fx_le ?_ ih1
          exact ⟨rfl, rfl, rfl, rfl, rfl, rfl, rfl, trivial⟩
        have K75 : ∀ (l8 : Int32) (y : Nat), y = gl c → Fx mX3_leftAtWorst (some (.int (nI (jwo st gl 64))), rC F N (ga G 37 (jpa P st gl 64))) 75 [some (.ref 0), some (.long (lN x)), none, some (.int (nI e)), some (.int (nI w)), some (.int (nI 15)), some (.int (nI (jwo st gl c))), some (.int (nI c)), some (.int l8), none] [.int (nI y)] (rC F N (ga G 37 (jpa P st gl c))) := fun l8 y hy => by rw [hy]; exact K l8
        have e15 : nI (jloN w c e) ≤ 0 → 15 = gl c := fun q => by
          rw [eg, if_neg (fun z => (nI_ge z (by omega)) (by rw [nI_0]; exact q))]
        have eja : ¬ nI (jloN w c e) ≤ 0 → japN c e = gl c := fun q => by
          rw [eg, if_pos (Nat.pos_of_ne_zero (fun z => q (by rw [z, nI_0]; exact Int32.le_refl _)))]
        refine fx_iload dX3_leftAtWorst_34 rfl ?_
        refine fx_bipush (v := nI 64) dX3_leftAtWorst_36 (by decide) ?_
        refine fx_icmp_ge (tgt := 108) dX3_leftAtWorst_38 (by decide) rC_l (fun hc38 => ?_) (fun hc38 => ?_)
        · exact absurd hc38 (nI_ge (by omega) (by omega))
        · refine fx_lload_n dX3_leftAtWorst_41 rfl rfl ?_
          refine fx_iload dX3_leftAtWorst_42 rfl ?_
          refine fx_callSv dX3_leftAtWorst_44 sX3_holds lX3_168 (by decide) (Nat.le_of_ble_eq_true rfl) (eX3_holds hx hc64) rfl ?_
          rw [ec]
          refine fx_if_eq (tgt := 102) dX3_leftAtWorst_47 (by decide) rC_l (fun hc47 => ?_) (fun hc47 => ?_)
          · exact absurd hc47 (by decide)
          · refine fx_iload dX3_leftAtWorst_50 rfl ?_
            refine fx_iload_n dX3_leftAtWorst_52 rfl rfl ?_
            refine fx_callSv dX3_leftAtWorst_53 sX3_apart lX3_148 (by decide) (Nat.le_of_ble_eq_true rfl) eX3_apart rfl ?_
            rw [ja]
            refine fs_istore_8 dX3_leftAtWorst_56 rfl (by decide) ?_
            refine fx_iload dX3_leftAtWorst_58 rfl ?_
            refine fx_iload dX3_leftAtWorst_60 rfl ?_
            refine fx_callSv dX3_leftAtWorst_62 sX3_loudness lX3_151 (by decide) (Nat.le_of_ble_eq_true rfl) eX3_loudness rfl ?_
            rw [eL]
            refine fx_if_le (tgt := 73) dX3_leftAtWorst_65 (by decide) rC_l (fun hc65 => ?_) (fun hc65 => ?_)
            · refine fx_iload dX3_leftAtWorst_73 rfl ?_
              first | exact K75 _ 15 (e15 hc65) | exact K75 _ _ (eja hc65)
            · refine fx_iload dX3_leftAtWorst_68 rfl ?_
              refine fx_goto (tgt := 75) dX3_leftAtWorst_70 (by decide) ?_
              first | exact K75 _ 15 (e15 hc65) | exact K75 _ _ (eja hc65)
  have H3 : ∀ (k i : Nat), i + k = 16 → Fx mX3_leftAtWorst (some (.int (nI (jwo st gl 64))), rC F N (ga G 37 (jpa P st gl 64))) 7 [some (.ref 0), some (.long (lN x)), none, some (.int (nI e)), some (.int (nI w)), some (.int (nI 15)), some (.int (nI i)), none, none, none] [] (rC F N (ga G 37 (jfill (fun _ => nI 0) (G 37) i))) := by
    intro k
    induction k with
    | zero =>
      intro i hi
      have hi' : i = 16 := by omega
      subst hi'
      rw [hPe]
      refine fx_iload dX3_leftAtWorst_7 rfl ?_
      refine fx_iload dX3_leftAtWorst_9 rfl ?_
      refine fx_icmp_gt (tgt := 28) dX3_leftAtWorst_11 (by decide) rC_l (fun hc11 => ?_) (fun hc11 => ?_)
      · refine fx_iconst (v := nI 0) dX3_leftAtWorst_28 (by decide) ?_
        refine fs_istore_6 dX3_leftAtWorst_29 rfl (by decide) ?_
        refine fx_iconst (v := nI 0) dX3_leftAtWorst_31 (by decide) ?_
        refine fs_istore_7 dX3_leftAtWorst_32 rfl (by decide) ?_
        exact H 64 0 (by omega)
      · exact absurd (nI_lt (by decide) (by decide)) hc11
    | succ k ih =>
      intro i hi
      have ih1 := ih (i + 1) (by omega)
      rw [← jfill_s (fun _ => nI 0) (G 37) i] at ih1
      refine fx_iload dX3_leftAtWorst_7 rfl ?_
      refine fx_iload dX3_leftAtWorst_9 rfl ?_
      refine fx_icmp_gt (tgt := 28) dX3_leftAtWorst_11 (by decide) rC_l (fun hc11 => ?_) (fun hc11 => ?_)
      · exact absurd hc11 (nI_nlt (by omega) (by omega))
      · refine fx_aload_n dX3_leftAtWorst_14 rfl rfl ?_
        refine fx_get dX3_leftAtWorst_15 kX3_44 rfl rfl ?_
        refine fx_iload dX3_leftAtWorst_18 rfl ?_
        refine fx_iconst (v := nI 0) dX3_leftAtWorst_20 (by decide) ?_
        refine fx_iast dX3_leftAtWorst_21 rfl (vp_in_nI (by omega) (by decide)) wa_37 ?_
        rw [nI_clamp (by omega), ga_s, ga_ga]
        refine fs_iinc_6 (w := nI 1) dX3_leftAtWorst_22 (by decide) rfl (by decide) ?_
        refine fx_goto (tgt := 7) dX3_leftAtWorst_25 (by decide) ?_
        rw [nI_add]
        exact ih1
  have H0 := H3 16 0 (by omega)
  rw [show jfill (fun _ => nI 0) (G 37) 0 = G 37 from rfl, ga_id] at H0
  refine fx_bipush (v := nI 15) dX3_leftAtWorst_0 (by decide) ?_
  refine fs_istore_5 dX3_leftAtWorst_2 rfl (by decide) ?_
  refine fx_iconst (v := nI 0) dX3_leftAtWorst_4 (by decide) ?_
  refine fs_istore_6 dX3_leftAtWorst_5 rfl (by decide) ?_
  exact H0
theorem P_stands (R : jR F4 G4 F N G) (s w : Int32) : jP mX4_stands mX3_stands [.int s, .int w] F4 G4 F N G := by
  have r := R.2.2.2.2
  have hS := r.2.2.2.1
  have eS := eX3_soundFault (N := N) (s := s) (w := w) r
  cases h : jlo G4 s w with
  | some k =>
    rw [h, show jsf (some k) = nI k from rfl] at eS
    have hk := jfd_7 (jlo_some h)
    refine ⟨_, _, _, _, _, _, eX4_stands_n hS h, ?_, jR_f R hk⟩
    refine mx_of (L := [some (.ref 0), some (.int s), some (.int w), none]) (by decide) (fun _ => rfl) (fun _ => Nat.le_of_ble_eq_true rfl) ?_
    refine fx_aload_n dX3_stands_0 rfl rfl ?_
    refine fx_iload_n dX3_stands_1 rfl rfl ?_
    refine fx_iload_n dX3_stands_2 rfl rfl ?_
    refine fx_callVv dX3_stands_3 vX3_soundFault lX3_175 (by decide) rfl (Nat.le_of_ble_eq_true rfl) eS rfl ?_
    refine fs_istore_n_3 dX3_stands_6 rfl (by decide) ?_
    refine fx_iload_n dX3_stands_7 rfl rfl ?_
    refine fx_iconst (v := (-1)) dX3_stands_8 (by decide) ?_
    refine fx_icmp_eq (tgt := 18) dX3_stands_9 (by decide) rC_l (fun hc9 => ?_) (fun hc9 => ?_)
    · exact absurd hc9 (nI_m1 (by omega))
    · refine fx_aload_n dX3_stands_12 rfl rfl ?_
      refine fx_iload_n dX3_stands_13 rfl rfl ?_
      refine fx_callVv dX3_stands_14 vX3_finding lX3_51 (by decide) rfl (Nat.le_of_ble_eq_true rfl) (eX3_finding hk) rfl ?_
      exact fx_ireq dX3_stands_17 rfl rfl rfl rfl
  | none =>
    obtain ⟨j, hj, rfl, h0, hw, -⟩ := jlo_none h
    obtain ⟨v, hv1, hv2, rfl⟩ := jwi1_of (k := 99) (by decide) hw
    rw [h, show jsf none = (-1) from rfl] at eS
    have hj4 : j < 4 := by omega
    obtain ⟨e1, e2, e3, e4⟩ := jR_sh r hj4
    have hq := zqj hj4
    have eC := eX3_standingCells (N := N) (w := v) (st := fun c => jso (G4 13) j (nI v) (nI c) (jsz G4 j / 2)) hq e2 e3 (fun c => jsl_e e4 _ (by omega))
    refine ⟨_, _, _, _, _, _, eX4_stands_y hS hj h, ?_, R⟩
    refine mx_of (L := [some (.ref 0), some (.int (nI j)), some (.int (nI v)), none]) (by decide) (fun _ => rfl) (fun _ => Nat.le_of_ble_eq_true rfl) ?_
    refine fx_aload_n dX3_stands_0 rfl rfl ?_
    refine fx_iload_n dX3_stands_1 rfl rfl ?_
    refine fx_iload_n dX3_stands_2 rfl rfl ?_
    refine fx_callVv dX3_stands_3 vX3_soundFault lX3_175 (by decide) rfl (Nat.le_of_ble_eq_true rfl) eS rfl ?_
    refine fs_istore_n_3 dX3_stands_6 rfl (by decide) ?_
    refine fx_iload_n dX3_stands_7 rfl rfl ?_
    refine fx_iconst (v := (-1)) dX3_stands_8 (by decide) ?_
    refine fx_icmp_eq (tgt := 18) dX3_stands_9 (by decide) rC_l (fun hc9 => ?_) (fun hc9 => ?_)
    · refine fx_aload_n dX3_stands_18 rfl rfl ?_
      refine fx_get dX3_stands_19 kX3_35 rfl rfl ?_
      refine fx_iload_n dX3_stands_22 rfl rfl ?_
      refine fx_aald dX3_stands_23 rfl (Or.inl rfl) (vp_in_nI (by omega) (by decide)) (rC_se (by omega)) ?_
      refine fx_iload_n dX3_stands_24 rfl rfl ?_
      refine fx_callSv dX3_stands_25 sX3_standingCells lX3_178 (by decide) (Nat.le_of_ble_eq_true rfl) eC rfl ?_
      refine fx_callSv dX3_stands_28 sJ13_bitCount_95d88 lX3_137 (by decide) (Nat.le_of_ble_eq_true rfl) (eJ13_bitCount_95d88 (jstd_64 _ (Nat.le_refl 64))) rfl ?_
      rw [jstd_p]
      exact fx_ireq dX3_stands_31 rfl rfl rfl rfl
    · exact absurd rfl hc9
def jow (F : Nat → Nat → Int32) (N : Nat → Nat → Int64) (G : Nat → Nat → Int32) (r : Nat) : Option Value × zH := if r = 64 then (some (.int (jfd 3)), rC F N (ga G 36 (jf1 (G 36) 3))) else (some (.int (nI r)), rC F N G)
theorem jow_l {F' : Nat → Nat → Int32} {N' : Nat → Nat → Int64} {G' : Nat → Nat → Int32} {r : Nat} : (rC F' N' G').length = (jow F N G r).2.length := by
  unfold jow
  by_cases q : r = 64
  · rw [if_pos q]; rfl
  · rw [if_neg q]; rfl
theorem P_where (R : jR F4 G4 F N G) (s w : Int32) : jP mX4_where mX3_where [.int s, .int w] F4 G4 F N G := by
  have r := R.2.2.2.2
  have hS := r.2.2.2.1
  have eS := eX3_soundFault (N := N) (s := s) (w := w) r
  cases h : jlo G4 s w with
  | some k =>
    rw [h, show jsf (some k) = nI k from rfl] at eS
    have hk := jfd_7 (jlo_some h)
    refine ⟨_, _, _, _, _, _, eX4_where_n hS h, ?_, jR_f R hk⟩
    refine mx_of (L := [some (.ref 0), some (.int s), some (.int w), none, none, none, none]) (by decide) (fun _ => rfl) (fun _ => Nat.le_of_ble_eq_true rfl) ?_
    refine fx_aload_n dX3_where_0 rfl rfl ?_
    refine fx_iload_n dX3_where_1 rfl rfl ?_
    refine fx_iload_n dX3_where_2 rfl rfl ?_
    refine fx_callVv dX3_where_3 vX3_soundFault lX3_175 (by decide) rfl (Nat.le_of_ble_eq_true rfl) eS rfl ?_
    refine fs_istore_n_3 dX3_where_6 rfl (by decide) ?_
    refine fx_iload_n dX3_where_7 rfl rfl ?_
    refine fx_iconst (v := (-1)) dX3_where_8 (by decide) ?_
    refine fx_icmp_eq (tgt := 18) dX3_where_9 (by decide) rC_l (fun hc9 => ?_) (fun hc9 => ?_)
    · exact absurd hc9 (nI_m1 (by omega))
    · refine fx_aload_n dX3_where_12 rfl rfl ?_
      refine fx_iload_n dX3_where_13 rfl rfl ?_
      refine fx_callVv dX3_where_14 vX3_finding lX3_51 (by decide) rfl (Nat.le_of_ble_eq_true rfl) (eX3_finding hk) rfl ?_
      exact fx_ireq dX3_where_17 rfl rfl rfl rfl
  | none =>
    obtain ⟨j, hj, rfl, h0, hw, -⟩ := jlo_none h
    obtain ⟨v, hv1, hv2, rfl⟩ := jwi1_of (k := 99) (by decide) hw
    rw [h, show jsf none = (-1) from rfl] at eS
    have hj4 : j < 4 := by omega
    obtain ⟨e1, e2, e3, e4⟩ := jR_sh r hj4
    have hq := zqj hj4
    have eC := eX3_standingCells (N := N) (w := v) (st := fun c => jso (G4 13) j (nI v) (nI c) (jsz G4 j / 2)) hq e2 e3 (fun c => jsl_e e4 _ (by omega))
    have e5 := fun r => eX4_where_y (F := F4) (r := r) hS hj h
    generalize hst : (fun c => jso (G4 13) j (nI v) (nI c) (jsz G4 j / 2)) = st at eC e5
    generalize hr : jfst st 0 64 = r0
    have e6 := e5 r0 hr
    have H : ∀ (k c : Nat), c + k = 64 → jfst st c k = r0 → Fx mX3_where (jow F N G r0) 33 [some (.ref 0), some (.int (nI j)), some (.int (nI v)), some (.int (-1)), some (.long (lN (jstd st 64))), none, some (.int (nI c))] [] (rC F N G) := by
      intro k
      induction k with
      | zero =>
        intro c hc hr
        have hc' : c = 64 := by omega
        subst hc'
        have hr' : r0 = 64 := hr.symm
        rw [hr', show jow F N G 64 = (some (.int (jfd 3)), rC F N (ga G 36 (jf1 (G 36) 3))) from if_pos rfl]
        refine fx_iload dX3_where_33 rfl ?_
        refine fx_bipush (v := nI 64) dX3_where_35 (by decide) ?_
        refine fx_icmp_ge (tgt := 59) dX3_where_37 (by decide) rC_l (fun hc37 => ?_) (fun hc37 => ?_)
        · refine fx_aload_n dX3_where_59 rfl rfl ?_
          refine fx_iconst (v := nI 3) dX3_where_60 (by decide) ?_
          refine fx_callVv dX3_where_61 vX3_finding lX3_51 (by decide) rfl (Nat.le_of_ble_eq_true rfl) (eX3_finding (k := 3) (by decide)) rfl ?_
          exact fx_ireq dX3_where_64 rfl rfl rfl rfl
        · exact absurd (Int32.le_refl _) hc37
      | succ k ih =>
        intro c hc hr
        have hb := jstd_b st c 64
        rw [decide_eq_true (show c < 64 by omega), Bool.true_and] at hb
        have e1 : jfst st c (k + 1) = if st c = true then c else jfst st (c + 1) k := rfl
        rw [e1] at hr
        cases hs : st c
        · rw [hs, if_neg (by decide)] at hr
          rw [hs] at hb
          have ih1 := ih (c + 1) (by omega) hr
          refine fx_iload dX3_where_33 rfl ?_
          refine fx_bipush (v := nI 64) dX3_where_35 (by decide) ?_
          refine fx_icmp_ge (tgt := 59) dX3_where_37 (by decide) jow_l (fun hc37 => ?_) (fun hc37 => ?_)
          · exact absurd hc37 (nI_ge (by omega) (by decide))
          · refine fx_lload dX3_where_40 rfl ?_
            refine fx_iload dX3_where_42 rfl ?_
            refine fx_callSv dX3_where_44 sX3_holds lX3_168 (by decide) (Nat.le_of_ble_eq_true rfl) (eX3_holds (jstd_64 _ (Nat.le_refl 64)) (by omega)) rfl ?_
            rw [hb]
            refine fx_if_eq (tgt := 53) dX3_where_47 (by decide) jow_l (fun hc47 => ?_) (fun hc47 => ?_)
            · refine fs_iinc_6 (w := nI 1) dX3_where_53 (by decide) rfl (by decide) ?_
              refine fx_goto (tgt := 33) dX3_where_56 (by decide) ?_
              rw [nI_add]
              exact ih1
            · exact absurd rfl hc47
        · rw [hs, if_pos rfl] at hr
          rw [hs] at hb
          rw [← hr, show jow F N G c = (some (.int (nI c)), rC F N G) from if_neg (by omega)]
          refine fx_iload dX3_where_33 rfl ?_
          refine fx_bipush (v := nI 64) dX3_where_35 (by decide) ?_
          refine fx_icmp_ge (tgt := 59) dX3_where_37 (by decide) rC_l (fun hc37 => ?_) (fun hc37 => ?_)
          · exact absurd hc37 (nI_ge (by omega) (by decide))
          · refine fx_lload dX3_where_40 rfl ?_
            refine fx_iload dX3_where_42 rfl ?_
            refine fx_callSv dX3_where_44 sX3_holds lX3_168 (by decide) (Nat.le_of_ble_eq_true rfl) (eX3_holds (jstd_64 _ (Nat.le_refl 64)) (by omega)) rfl ?_
            rw [hb]
            refine fx_if_eq (tgt := 53) dX3_where_47 (by decide) rC_l (fun hc47 => ?_) (fun hc47 => ?_)
            · exact absurd hc47 (by decide)
            · refine fx_iload dX3_where_50 rfl ?_
              exact fx_ireq dX3_where_52 rfl rfl rfl rfl
    have H0 := H 64 0 (by omega) hr
    by_cases hr0 : r0 = 64
    · rw [if_pos hr0, if_pos hr0] at e6
      rw [hr0, show jow F N G 64 = (some (.int (jfd 3)), rC F N (ga G 36 (jf1 (G 36) 3))) from if_pos rfl] at H0
      refine ⟨_, _, _, _, _, _, e6, ?_, jR_f R (by decide)⟩
      refine mx_of (L := [some (.ref 0), some (.int (nI j)), some (.int (nI v)), none, none, none, none]) (by decide) (fun _ => rfl) (fun _ => Nat.le_of_ble_eq_true rfl) ?_
      refine fx_aload_n dX3_where_0 rfl rfl ?_
      refine fx_iload_n dX3_where_1 rfl rfl ?_
      refine fx_iload_n dX3_where_2 rfl rfl ?_
      refine fx_callVv dX3_where_3 vX3_soundFault lX3_175 (by decide) rfl (Nat.le_of_ble_eq_true rfl) eS rfl ?_
      refine fs_istore_n_3 dX3_where_6 rfl (by decide) ?_
      refine fx_iload_n dX3_where_7 rfl rfl ?_
      refine fx_iconst (v := (-1)) dX3_where_8 (by decide) ?_
      refine fx_icmp_eq (tgt := 18) dX3_where_9 (by decide) rC_l (fun hc9 => ?_) (fun hc9 => ?_)
      · refine fx_aload_n dX3_where_18 rfl rfl ?_
        refine fx_get dX3_where_19 kX3_35 rfl rfl ?_
        refine fx_iload_n dX3_where_22 rfl rfl ?_
        refine fx_aald dX3_where_23 rfl (Or.inl rfl) (vp_in_nI (by omega) (by decide)) (rC_se (by omega)) ?_
        refine fx_iload_n dX3_where_24 rfl rfl ?_
        refine fx_callSv dX3_where_25 sX3_standingCells lX3_178 (by decide) (Nat.le_of_ble_eq_true rfl) eC rfl ?_
        refine fs_lstore_4 dX3_where_28 rfl (by decide) ?_
        refine fx_iconst (v := nI 0) dX3_where_30 (by decide) ?_
        refine fs_istore_6 dX3_where_31 rfl (by decide) ?_
        exact H0
      · exact absurd rfl hc9
    · rw [if_neg hr0, if_neg hr0] at e6
      rw [show jow F N G r0 = (some (.int (nI r0)), rC F N G) from if_neg hr0] at H0
      refine ⟨_, _, _, _, _, _, e6, ?_, R⟩
      refine mx_of (L := [some (.ref 0), some (.int (nI j)), some (.int (nI v)), none, none, none, none]) (by decide) (fun _ => rfl) (fun _ => Nat.le_of_ble_eq_true rfl) ?_
      refine fx_aload_n dX3_where_0 rfl rfl ?_
      refine fx_iload_n dX3_where_1 rfl rfl ?_
      refine fx_iload_n dX3_where_2 rfl rfl ?_
      refine fx_callVv dX3_where_3 vX3_soundFault lX3_175 (by decide) rfl (Nat.le_of_ble_eq_true rfl) eS rfl ?_
      refine fs_istore_n_3 dX3_where_6 rfl (by decide) ?_
      refine fx_iload_n dX3_where_7 rfl rfl ?_
      refine fx_iconst (v := (-1)) dX3_where_8 (by decide) ?_
      refine fx_icmp_eq (tgt := 18) dX3_where_9 (by decide) rC_l (fun hc9 => ?_) (fun hc9 => ?_)
      · refine fx_aload_n dX3_where_18 rfl rfl ?_
        refine fx_get dX3_where_19 kX3_35 rfl rfl ?_
        refine fx_iload_n dX3_where_22 rfl rfl ?_
        refine fx_aald dX3_where_23 rfl (Or.inl rfl) (vp_in_nI (by omega) (by decide)) (rC_se (by omega)) ?_
        refine fx_iload_n dX3_where_24 rfl rfl ?_
        refine fx_callSv dX3_where_25 sX3_standingCells lX3_178 (by decide) (Nat.le_of_ble_eq_true rfl) eC rfl ?_
        refine fs_lstore_4 dX3_where_28 rfl (by decide) ?_
        refine fx_iconst (v := nI 0) dX3_where_30 (by decide) ?_
        refine fs_istore_6 dX3_where_31 rfl (by decide) ?_
        exact H0
      · exact absurd rfl hc9
theorem P_ear (R : jR F4 G4 F N G) (s w : Int32) : jP mX4_ear mX3_ear [.int s, .int w] F4 G4 F N G := by
  have r := R.2.2.2.2
  have hS := r.2.2.2.1
  have eS := eX3_soundFault (N := N) (s := s) (w := w) r
  cases h : jlo G4 s w with
  | some k =>
    rw [h, show jsf (some k) = nI k from rfl] at eS
    have hk := jfd_7 (jlo_some h)
    refine ⟨_, _, _, _, _, _, eX4_ear_n hS h, ?_, jR_f R hk⟩
    refine mx_of (L := [some (.ref 0), some (.int s), some (.int w), none, none, none, none, none, none, none]) (by decide) (fun _ => rfl) (fun _ => Nat.le_of_ble_eq_true rfl) ?_
    refine fx_aload_n dX3_ear_0 rfl rfl ?_
    refine fx_iload_n dX3_ear_1 rfl rfl ?_
    refine fx_iload_n dX3_ear_2 rfl rfl ?_
    refine fx_callVv dX3_ear_3 vX3_soundFault lX3_175 (by decide) rfl (Nat.le_of_ble_eq_true rfl) eS rfl ?_
    refine fs_istore_n_3 dX3_ear_6 rfl (by decide) ?_
    refine fx_iload_n dX3_ear_7 rfl rfl ?_
    refine fx_iconst (v := (-1)) dX3_ear_8 (by decide) ?_
    refine fx_icmp_eq (tgt := 18) dX3_ear_9 (by decide) rC_l (fun hc9 => ?_) (fun hc9 => ?_)
    · exact absurd hc9 (nI_m1 (by omega))
    · refine fx_aload_n dX3_ear_12 rfl rfl ?_
      refine fx_iload_n dX3_ear_13 rfl rfl ?_
      refine fx_callVv dX3_ear_14 vX3_finding lX3_51 (by decide) rfl (Nat.le_of_ble_eq_true rfl) (eX3_finding hk) rfl ?_
      exact fx_ireq dX3_ear_17 rfl rfl rfl rfl
  | none =>
    obtain ⟨j, hj, rfl, h0, hw, -⟩ := jlo_none h
    obtain ⟨v, hv1, hv2, rfl⟩ := jwi1_of (k := 99) (by decide) hw
    rw [h, show jsf none = (-1) from rfl] at eS
    have hj4 : j < 4 := by omega
    obtain ⟨e1, e2, e3, e4⟩ := jR_sh r hj4
    have hq := zqj hj4
    have eC := eX3_standingCells (N := N) (w := v) (st := fun c => jso (G4 13) j (nI v) (nI c) (jsz G4 j / 2)) hq e2 e3 (fun c => jsl_e e4 _ (by omega))
    have e5 := fun a b => eX4_ear_y (F := F4) (a := a) (b := b) hS hj hv2 h
    generalize hst : (fun c => jso (G4 13) j (nI v) (nI c) (jsz G4 j / 2)) = st at eC e5
    generalize hg : (fun e => jwo st (fun c => jloN v c e) 64) = g at e5
    have hg' : ∀ e, g e = jwo st (fun c => jloN v c e) 64 := fun e => by rw [← hg]
    have hg64 : ∀ e, g e ≤ 64 := fun e => by rw [hg']; exact jwo_le _ _ 64
    generalize hr : jer g 64 = ab
    obtain ⟨a, b⟩ := ab
    obtain ⟨P0, e6⟩ := e5 a b hr
    have hx64 := jstd_64 st (Nat.le_refl 64)
    have hlt := jer_lt g
    by_cases hb : jstd st 64 = 0
    · have hb0 : b = 0 := by
        have q := jer_zero (g := g) (fun e => by rw [hg']; exact jwo_zero (jstd_0 hb) 64 (Nat.le_refl 64)) 63
        rw [hr] at q
        exact q
      rw [if_pos hb0, if_pos hb0] at e6
      have R2 := jR_f (k := 3) (jR_g4 (P := P0) R (Or.inl rfl)) (by decide)
      rw [ga_n _ _ (show (4 : Nat) ≠ 7 by decide)] at R2
      refine ⟨_, _, _, _, _, _, e6, ?_, R2⟩
      rw [hb] at eC
      refine mx_of (L := [some (.ref 0), some (.int (nI j)), some (.int (nI v)), none, none, none, none, none, none, none]) (by decide) (fun _ => rfl) (fun _ => Nat.le_of_ble_eq_true rfl) ?_
      refine fx_aload_n dX3_ear_0 rfl rfl ?_
      refine fx_iload_n dX3_ear_1 rfl rfl ?_
      refine fx_iload_n dX3_ear_2 rfl rfl ?_
      refine fx_callVv dX3_ear_3 vX3_soundFault lX3_175 (by decide) rfl (Nat.le_of_ble_eq_true rfl) eS rfl ?_
      refine fs_istore_n_3 dX3_ear_6 rfl (by decide) ?_
      refine fx_iload_n dX3_ear_7 rfl rfl ?_
      refine fx_iconst (v := (-1)) dX3_ear_8 (by decide) ?_
      refine fx_icmp_eq (tgt := 18) dX3_ear_9 (by decide) rC_l (fun hc9 => ?_) (fun hc9 => ?_)
      · refine fx_aload_n dX3_ear_18 rfl rfl ?_
        refine fx_get dX3_ear_19 kX3_35 rfl rfl ?_
        refine fx_iload_n dX3_ear_22 rfl rfl ?_
        refine fx_aald dX3_ear_23 rfl (Or.inl rfl) (vp_in_nI (by omega) (by decide)) (rC_se (by omega)) ?_
        refine fx_iload_n dX3_ear_24 rfl rfl ?_
        refine fx_callSv dX3_ear_25 sX3_standingCells lX3_178 (by decide) (Nat.le_of_ble_eq_true rfl) eC rfl ?_
        refine fs_lstore_4 dX3_ear_28 rfl (by decide) ?_
        refine fx_lload dX3_ear_30 rfl ?_
        refine fx_lconst (v := 0) dX3_ear_32 (by decide) ?_
        refine fx_lcmp dX3_ear_33 ?_
        refine fx_if_ne (tgt := 43) dX3_ear_34 (by decide) rC_l (fun hc34 => ?_) (fun hc34 => ?_)
        · exact absurd (by decide) hc34
        · refine fx_aload_n dX3_ear_37 rfl rfl ?_
          refine fx_iconst (v := nI 3) dX3_ear_38 (by decide) ?_
          refine fx_callVv dX3_ear_39 vX3_finding lX3_51 (by decide) rfl (Nat.le_of_ble_eq_true rfl) (eX3_finding (k := 3) (by decide)) rfl ?_
          exact fx_ireq dX3_ear_42 rfl rfl rfl rfl
      · exact absurd rfl hc9
    · have hb0 : ¬ b = 0 := by
        obtain ⟨c0, hc0, hs0⟩ := jstd_n0 hb
        have q := jer_pos (g := g) (fun e => by rw [hg']; exact jwo_pos hc0 hs0) 64
        rw [hr] at q
        have q' : 1 ≤ b := q
        omega
      rw [if_neg hb0, if_neg hb0] at e6
      have eW : ∀ (P : Nat → Int32) (e : Nat), e < 64 → ∃ P', Mx mX3_leftAtWorst [.ref 0, .long (lN (jstd st 64)), .int (nI e), .int (nI v)] (rC F N (ga G 37 P)) (some (.int (nI (g e)))) (rC F N (ga G 37 P')) := by
        intro P e he
        obtain ⟨P', q⟩ := eX3_leftAtWorst (F := F) (N := N) (G := ga G 37 P) hx64 hv2 he
        rw [ga_ga, show jwo (fun c => (jstd st 64).testBit c) (jgl v e) 64 = g e by
          rw [hg']
          have e7 := jwo_lab (st := st) (m := 64) (jgl_e (w := v) he) 64 (Nat.le_refl 64)
          rw [show (fun c => jloN v c e) = (fun c => jloN v c e) from rfl] at e7
          have e8 : ∀ c, c ≤ 64 → jct (fun c => (jstd st 64).testBit c) (jgl v e) = jct (fun c => (jstd st 64).testBit c) (jgl v e) := fun _ _ => rfl
          have e9 : ∀ l c, c ≤ 64 → jct (fun c => (jstd st 64).testBit c) (jgl v e) l c = jct st (jgl v e) l c := by
            intro l c
            induction c with
            | zero => intro _; rfl
            | succ c ih =>
              intro hc
              rw [jct_1, jct_1, ih (by omega), jstd_b, decide_eq_true (show c < 64 by omega), Bool.true_and]
          have e10 : ∀ c, c ≤ 64 → jwo (fun c => (jstd st 64).testBit c) (jgl v e) c = jwo st (jgl v e) c := by
            intro c
            induction c with
            | zero => intro _; rfl
            | succ c ih =>
              intro hc
              rw [jwo_1, jwo_1, ih (by omega), e9 _ (c + 1) hc, jstd_b, decide_eq_true (show c < 64 by omega), Bool.true_and]
          rw [e10 64 (Nat.le_refl 64)]
          exact e7.symm] at q
        exact ⟨P', q⟩
      have H : ∀ (k c : Nat), c + k = 64 → ∀ (P : Nat → Int32) (l9 : Option Value), ∃ P' : Nat → Int32, Fx mX3_ear (some (.int (nI a)), rC F N (ga G 37 P')) 53 [some (.ref 0), some (.int (nI j)), some (.int (nI v)), some (.int (-1)), some (.long (lN (jstd st 64))), none, some (.int (nI (jer g c).1)), some (.int (nI (min 65 (jer g c).2))), some (.int (nI c)), l9] [] (rC F N (ga G 37 P)) := by
        intro k
        induction k with
        | zero =>
          intro c hc P l9
          have hc' : c = 64 := by omega
          refine ⟨P, ?_⟩
          rw [hc', hr]
          refine fx_iload dX3_ear_53 rfl ?_
          refine fx_bipush (v := nI 64) dX3_ear_55 (by decide) ?_
          refine fx_icmp_ge (tgt := 92) dX3_ear_57 (by decide) rC_l (fun hc57 => ?_) (fun hc57 => ?_)
          · refine fx_iload dX3_ear_92 rfl ?_
            exact fx_ireq dX3_ear_94 rfl rfl rfl rfl
          · exact absurd (Int32.le_refl _) hc57
        | succ k ih =>
          intro c hc P l9
          obtain ⟨P1, e1⟩ := eW P c (by omega)
          obtain ⟨P2, K⟩ := ih (c + 1) (by omega) P1 (some (.int (nI (g c))))
          refine ⟨P2, ?_⟩
          rw [jer_1] at K
          have h2 := hg64 c
          by_cases q : g c < (jer g c).2
          · rw [if_pos q, show min 65 (c, g c).2 = g c by show min 65 (g c) = g c; omega] at K
            refine fx_iload dX3_ear_53 rfl ?_
            refine fx_bipush (v := nI 64) dX3_ear_55 (by decide) ?_
            refine fx_icmp_ge (tgt := 92) dX3_ear_57 (by decide) rC_l (fun hc57 => ?_) (fun hc57 => ?_)
            · exact absurd hc57 (nI_ge (by omega) (by omega))
            · refine fx_aload_n dX3_ear_60 rfl rfl ?_
              refine fx_lload dX3_ear_61 rfl ?_
              refine fx_iload dX3_ear_63 rfl ?_
              refine fx_iload_n dX3_ear_65 rfl rfl ?_
              refine fx_callVv dX3_ear_66 vX3_leftAtWorst lX3_182 (by decide) rfl (Nat.le_of_ble_eq_true rfl) e1 rfl ?_
              refine fs_istore_9 dX3_ear_69 rfl (by decide) ?_
              refine fx_iload dX3_ear_71 rfl ?_
              refine fx_iload dX3_ear_73 rfl ?_
              refine fx_icmp_ge (tgt := 86) dX3_ear_75 (by decide) rC_l (fun hc75 => ?_) (fun hc75 => ?_)
              · exact absurd hc75 (nI_ge (by omega) (by omega))
              · refine fx_iload dX3_ear_78 rfl ?_
                refine fs_istore_7 dX3_ear_80 rfl (by decide) ?_
                refine fx_iload dX3_ear_82 rfl ?_
                refine fs_istore_6 dX3_ear_84 rfl (by decide) ?_
                refine fs_iinc_8 (w := nI 1) dX3_ear_86 (by decide) rfl (by decide) ?_
                refine fx_goto (tgt := 53) dX3_ear_89 (by decide) ?_
                rw [nI_add]
                exact K
          · rw [if_neg q] at K
            refine fx_iload dX3_ear_53 rfl ?_
            refine fx_bipush (v := nI 64) dX3_ear_55 (by decide) ?_
            refine fx_icmp_ge (tgt := 92) dX3_ear_57 (by decide) rC_l (fun hc57 => ?_) (fun hc57 => ?_)
            · exact absurd hc57 (nI_ge (by omega) (by omega))
            · refine fx_aload_n dX3_ear_60 rfl rfl ?_
              refine fx_lload dX3_ear_61 rfl ?_
              refine fx_iload dX3_ear_63 rfl ?_
              refine fx_iload_n dX3_ear_65 rfl rfl ?_
              refine fx_callVv dX3_ear_66 vX3_leftAtWorst lX3_182 (by decide) rfl (Nat.le_of_ble_eq_true rfl) e1 rfl ?_
              refine fs_istore_9 dX3_ear_69 rfl (by decide) ?_
              refine fx_iload dX3_ear_71 rfl ?_
              refine fx_iload dX3_ear_73 rfl ?_
              refine fx_icmp_ge (tgt := 86) dX3_ear_75 (by decide) rC_l (fun hc75 => ?_) (fun hc75 => ?_)
              · refine fs_iinc_8 (w := nI 1) dX3_ear_86 (by decide) rfl (by decide) ?_
                refine fx_goto (tgt := 53) dX3_ear_89 (by decide) ?_
                rw [nI_add]
                exact K
              · exact absurd (nI_le (by omega) (by omega)) hc75
      obtain ⟨P', H0⟩ := H 64 0 (by omega) (G 37) none
      rw [ga_id] at H0
      refine ⟨_, _, _, _, _, _, e6, ?_, jR_37 (P := P') (jR_g4 (P := P0) R (Or.inl rfl))⟩
      have hlc : ¬ lg_cmp (lN (jstd st 64)) 0 = 0 := by
        intro q
        apply hb
        have q2 : lN (jstd st 64) = lN 0 := jlc_eq q
        have := congrArg (fun z : Int64 => z.toBitVec.toNat) q2
        simp only [wb_tn hx64, wb_tn (show 0 < 2 ^ 64 by decide)] at this
        exact this
      refine mx_of (L := [some (.ref 0), some (.int (nI j)), some (.int (nI v)), none, none, none, none, none, none, none]) (by decide) (fun _ => rfl) (fun _ => Nat.le_of_ble_eq_true rfl) ?_
      refine fx_aload_n dX3_ear_0 rfl rfl ?_
      refine fx_iload_n dX3_ear_1 rfl rfl ?_
      refine fx_iload_n dX3_ear_2 rfl rfl ?_
      refine fx_callVv dX3_ear_3 vX3_soundFault lX3_175 (by decide) rfl (Nat.le_of_ble_eq_true rfl) eS rfl ?_
      refine fs_istore_n_3 dX3_ear_6 rfl (by decide) ?_
      refine fx_iload_n dX3_ear_7 rfl rfl ?_
      refine fx_iconst (v := (-1)) dX3_ear_8 (by decide) ?_
      refine fx_icmp_eq (tgt := 18) dX3_ear_9 (by decide) rC_l (fun hc9 => ?_) (fun hc9 => ?_)
      · refine fx_aload_n dX3_ear_18 rfl rfl ?_
        refine fx_get dX3_ear_19 kX3_35 rfl rfl ?_
        refine fx_iload_n dX3_ear_22 rfl rfl ?_
        refine fx_aald dX3_ear_23 rfl (Or.inl rfl) (vp_in_nI (by omega) (by decide)) (rC_se (by omega)) ?_
        refine fx_iload_n dX3_ear_24 rfl rfl ?_
        refine fx_callSv dX3_ear_25 sX3_standingCells lX3_178 (by decide) (Nat.le_of_ble_eq_true rfl) eC rfl ?_
        refine fs_lstore_4 dX3_ear_28 rfl (by decide) ?_
        refine fx_lload dX3_ear_30 rfl ?_
        refine fx_lconst (v := 0) dX3_ear_32 (by decide) ?_
        refine fx_lcmp dX3_ear_33 ?_
        refine fx_if_ne (tgt := 43) dX3_ear_34 (by decide) rC_l (fun hc34 => ?_) (fun hc34 => ?_)
        · refine fx_iconst (v := nI 0) dX3_ear_43 (by decide) ?_
          refine fs_istore_6 dX3_ear_44 rfl (by decide) ?_
          refine fx_bipush (v := nI 65) dX3_ear_46 (by decide) ?_
          refine fs_istore_7 dX3_ear_48 rfl (by decide) ?_
          refine fx_iconst (v := nI 0) dX3_ear_50 (by decide) ?_
          refine fs_istore_8 dX3_ear_51 rfl (by decide) ?_
          exact H0
        · exact absurd hc34 hlc
      · exact absurd rfl hc9
theorem P_whose (R : jR F4 G4 F N G) (s : Int32) : jP mX4_whose mX3_whose [.int s] F4 G4 F N G := by
  have r := R.2.2.2.2
  have hS := r.2.2.2.1
  have eS := eX3_soundFault (N := N) (s := s) (w := nI 99) r
  rw [jlo_199] at eS
  cases h : jlo G4 s (nI 1) with
  | some k =>
    rw [h, show jsf (some k) = nI k from rfl] at eS
    have hk := jfd_7 (jlo_some h)
    refine ⟨_, _, _, _, _, _, eX4_whose_n hS h, ?_, jR_f R hk⟩
    refine mx_of (L := [some (.ref 0), some (.int s), none, none, none]) (by decide) (fun _ => rfl) (fun _ => Nat.le_of_ble_eq_true rfl) ?_
    refine fx_aload_n dX3_whose_0 rfl rfl ?_
    refine fx_iload_n dX3_whose_1 rfl rfl ?_
    refine fx_bipush (v := nI 99) dX3_whose_2 (by decide) ?_
    refine fx_callVv dX3_whose_4 vX3_soundFault lX3_175 (by decide) rfl (Nat.le_of_ble_eq_true rfl) eS rfl ?_
    refine fs_istore_n_2 dX3_whose_7 rfl (by decide) ?_
    refine fx_iload_n dX3_whose_8 rfl rfl ?_
    refine fx_iconst (v := (-1)) dX3_whose_9 (by decide) ?_
    refine fx_icmp_eq (tgt := 19) dX3_whose_10 (by decide) rC_l (fun hc10 => ?_) (fun hc10 => ?_)
    · exact absurd hc10 (nI_m1 (by omega))
    · refine fx_aload_n dX3_whose_13 rfl rfl ?_
      refine fx_iload_n dX3_whose_14 rfl rfl ?_
      refine fx_callVv dX3_whose_15 vX3_finding lX3_51 (by decide) rfl (Nat.le_of_ble_eq_true rfl) (eX3_finding hk) rfl ?_
      exact fx_ireq dX3_whose_18 rfl rfl rfl rfl
  | none =>
    obtain ⟨j, hj, rfl, h0, hw, -⟩ := jlo_none h
    rw [h, show jsf none = (-1) from rfl] at eS
    have hj4 : j < 4 := by omega
    obtain ⟨e1, e2, e3, e4⟩ := jR_sh r hj4
    have hq := zqj hj4
    have R0 := R
    obtain ⟨⟨n, t, hW, hSp, hH, ht, hI⟩, -⟩ := R
    have hn8 := hW.2.1
    have eT : ∀ w c : Int32, Mx mX0_tellsLoud [.ref (28 + 2 * j), .int w, .int c] (rC F N G) (some (.int (jB (jso (G4 13) j w c (jsz G4 j / 2))))) (rC F N G) := fun w c => by
      have q := eX0_tellsLoud (N := N) (G := G) (w := w) (c := c) hq e2 e3
      rw [jsl_e e4 _ (by omega)] at q
      exact q
    have e5 := eX4_whose_y (F := F4) hS hW hj h
    generalize hf : (fun w c => jso (G4 13) j w c (jsz G4 j / 2)) = f at e5
    have eT' : ∀ w c : Int32, Mx mX0_tellsLoud [.ref (28 + 2 * j), .int w, .int c] (rC F N G) (some (.int (jB (f w c)))) (rC F N G) := fun w c => by rw [← hf]; exact eT w c
    refine ⟨_, _, _, _, _, _, e5, ?_, R0⟩
    have H : ∀ (k b : Nat), b + k = n → Fx mX3_whose (some (.int (nI (jwh (G4 1) f n))), rC F N G) 24 [some (.ref 0), some (.int (nI j)), some (.int (-1)), some (.int (nI (jwh (G4 1) f b))), some (.int (nI b))] [] (rC F N G) := by
      intro k
      induction k with
      | zero =>
        intro b hb
        have hb' : b = n := by omega
        subst hb'
        refine fx_iload dX3_whose_24 rfl ?_
        refine fx_aload_n dX3_whose_26 rfl rfl ?_
        refine fx_get dX3_whose_27 kX3_10 rfl rfl ?_
        refine fx_get dX3_whose_30 kX3_84 rfl rfl ?_
        rw [jI_5 hI]
        refine fx_icmp_ge (tgt := 93) dX3_whose_33 (by decide) rfl (fun hc33 => ?_) (fun hc33 => ?_)
        · refine fx_iload_n dX3_whose_93 rfl rfl ?_
          exact fx_ireq dX3_whose_94 rfl rfl rfl rfl
        · exact absurd (Int32.le_refl _) hc33
      | succ k ih =>
        intro b hb
        have ih1 := ih (b + 1) (by omega)
        have e1 : jwh (G4 1) f (b + 1) = jwh (G4 1) f b ||| (if ¬ G4 1 (146 + 5 * b + 4) = nI 1 ∧ f (G4 1 (146 + 5 * b + 3)) (G4 1 (146 + 5 * b + 1)) = true then 2 ^ b else 0) := rfl
        rw [e1] at ih1
        have eF := eX2_isFree zw1 hI hn8 (show b < n by omega)
        by_cases hc : G4 1 (146 + 5 * b + 4) = nI 1
        · rw [if_neg (fun q => q.1 hc), Nat.or_zero] at ih1
          rw [decide_eq_true hc] at eF
          refine fx_iload dX3_whose_24 rfl ?_
          refine fx_aload_n dX3_whose_26 rfl rfl ?_
          refine fx_get dX3_whose_27 kX3_10 rfl rfl ?_
          refine fx_get dX3_whose_30 kX3_84 rfl rfl ?_
          rw [jI_5 hI]
          refine fx_icmp_ge (tgt := 93) dX3_whose_33 (by decide) rfl (fun hc33 => ?_) (fun hc33 => ?_)
          · exact absurd hc33 (nI_ge (by omega) (by omega))
          · refine fx_aload_n dX3_whose_36 rfl rfl ?_
            refine fx_get dX3_whose_37 kX3_10 rfl rfl ?_
            refine fx_iload dX3_whose_40 rfl ?_
            refine fx_callVv dX3_whose_42 vX2_isFree lX3_186 (by decide) rfl (Nat.le_of_ble_eq_true rfl) eF rfl ?_
            refine fx_if_eq (tgt := 87) dX3_whose_45 (by decide) rfl (fun hc45 => ?_) (fun hc45 => ?_)
            · refine fs_iinc_4 (w := nI 1) dX3_whose_87 (by decide) rfl (by decide) ?_
              refine fx_goto (tgt := 24) dX3_whose_90 (by decide) ?_
              rw [nI_add]
              exact ih1
            · exact absurd rfl hc45
        · rw [decide_eq_false hc] at eF
          cases hfb : f (G4 1 (146 + 5 * b + 3)) (G4 1 (146 + 5 * b + 1))
          · rw [hfb, if_neg (fun q => absurd q.2 (by decide)), Nat.or_zero] at ih1
            refine fx_iload dX3_whose_24 rfl ?_
            refine fx_aload_n dX3_whose_26 rfl rfl ?_
            refine fx_get dX3_whose_27 kX3_10 rfl rfl ?_
            refine fx_get dX3_whose_30 kX3_84 rfl rfl ?_
            rw [jI_5 hI]
            refine fx_icmp_ge (tgt := 93) dX3_whose_33 (by decide) rfl (fun hc33 => ?_) (fun hc33 => ?_)
            · exact absurd hc33 (nI_ge (by omega) (by omega))
            · refine fx_aload_n dX3_whose_36 rfl rfl ?_
              refine fx_get dX3_whose_37 kX3_10 rfl rfl ?_
              refine fx_iload dX3_whose_40 rfl ?_
              refine fx_callVv dX3_whose_42 vX2_isFree lX3_186 (by decide) rfl (Nat.le_of_ble_eq_true rfl) eF rfl ?_
              refine fx_if_eq (tgt := 87) dX3_whose_45 (by decide) rfl (fun hc45 => ?_) (fun hc45 => ?_)
              · exact absurd hc45 (by decide)
              · refine fx_aload_n dX3_whose_48 rfl rfl ?_
                refine fx_get dX3_whose_49 kX3_35 rfl rfl ?_
                refine fx_iload_n dX3_whose_52 rfl rfl ?_
                refine fx_aald dX3_whose_53 rfl (Or.inl rfl) (vp_in_nI (by omega) (by decide)) (rC_se (by omega)) ?_
                refine fx_aload_n dX3_whose_54 rfl rfl ?_
                refine fx_get dX3_whose_55 kX3_10 rfl rfl ?_
                refine fx_get dX3_whose_58 kX3_145 rfl rfl ?_
                refine fx_iload dX3_whose_61 rfl ?_
                refine fx_iald dX3_whose_63 rfl (vp_in_nI (by omega) (by decide)) ?_
                rw [nI_clamp (by omega), jA6 hI, jbf_e (by omega)]
                refine fx_aload_n dX3_whose_64 rfl rfl ?_
                refine fx_get dX3_whose_65 kX3_10 rfl rfl ?_
                refine fx_get dX3_whose_68 kX3_97 rfl rfl ?_
                refine fx_iload dX3_whose_71 rfl ?_
                refine fx_iald dX3_whose_73 rfl (vp_in_nI (by omega) (by decide)) ?_
                rw [nI_clamp (by omega), jA4 hI, jbf_e (by omega)]
                refine fx_callVv dX3_whose_74 vX0_tellsLoud lX3_189 (by decide) (a0 hq) (Nat.le_of_ble_eq_true rfl) (eT' _ _) rfl ?_
                rw [hfb]
                refine fx_if_eq (tgt := 87) dX3_whose_77 (by decide) rfl (fun hc77 => ?_) (fun hc77 => ?_)
                · refine fs_iinc_4 (w := nI 1) dX3_whose_87 (by decide) rfl (by decide) ?_
                  refine fx_goto (tgt := 24) dX3_whose_90 (by decide) ?_
                  rw [nI_add]
                  exact ih1
                · exact absurd rfl hc77
          · rw [hfb, if_pos ⟨hc, rfl⟩] at ih1
            refine fx_iload dX3_whose_24 rfl ?_
            refine fx_aload_n dX3_whose_26 rfl rfl ?_
            refine fx_get dX3_whose_27 kX3_10 rfl rfl ?_
            refine fx_get dX3_whose_30 kX3_84 rfl rfl ?_
            rw [jI_5 hI]
            refine fx_icmp_ge (tgt := 93) dX3_whose_33 (by decide) rfl (fun hc33 => ?_) (fun hc33 => ?_)
            · exact absurd hc33 (nI_ge (by omega) (by omega))
            · refine fx_aload_n dX3_whose_36 rfl rfl ?_
              refine fx_get dX3_whose_37 kX3_10 rfl rfl ?_
              refine fx_iload dX3_whose_40 rfl ?_
              refine fx_callVv dX3_whose_42 vX2_isFree lX3_186 (by decide) rfl (Nat.le_of_ble_eq_true rfl) eF rfl ?_
              refine fx_if_eq (tgt := 87) dX3_whose_45 (by decide) rfl (fun hc45 => ?_) (fun hc45 => ?_)
              · exact absurd hc45 (by decide)
              · refine fx_aload_n dX3_whose_48 rfl rfl ?_
                refine fx_get dX3_whose_49 kX3_35 rfl rfl ?_
                refine fx_iload_n dX3_whose_52 rfl rfl ?_
                refine fx_aald dX3_whose_53 rfl (Or.inl rfl) (vp_in_nI (by omega) (by decide)) (rC_se (by omega)) ?_
                refine fx_aload_n dX3_whose_54 rfl rfl ?_
                refine fx_get dX3_whose_55 kX3_10 rfl rfl ?_
                refine fx_get dX3_whose_58 kX3_145 rfl rfl ?_
                refine fx_iload dX3_whose_61 rfl ?_
                refine fx_iald dX3_whose_63 rfl (vp_in_nI (by omega) (by decide)) ?_
                rw [nI_clamp (by omega), jA6 hI, jbf_e (by omega)]
                refine fx_aload_n dX3_whose_64 rfl rfl ?_
                refine fx_get dX3_whose_65 kX3_10 rfl rfl ?_
                refine fx_get dX3_whose_68 kX3_97 rfl rfl ?_
                refine fx_iload dX3_whose_71 rfl ?_
                refine fx_iald dX3_whose_73 rfl (vp_in_nI (by omega) (by decide)) ?_
                rw [nI_clamp (by omega), jA4 hI, jbf_e (by omega)]
                refine fx_callVv dX3_whose_74 vX0_tellsLoud lX3_189 (by decide) (a0 hq) (Nat.le_of_ble_eq_true rfl) (eT' _ _) rfl ?_
                rw [hfb]
                refine fx_if_eq (tgt := 87) dX3_whose_77 (by decide) rfl (fun hc77 => ?_) (fun hc77 => ?_)
                · exact absurd hc77 (by decide)
                · refine fx_iload_n dX3_whose_80 rfl rfl ?_
                  refine fx_iconst (v := nI 1) dX3_whose_81 (by decide) ?_
                  refine fx_iload dX3_whose_82 rfl ?_
                  refine fx_ishl dX3_whose_84 ?_
                  rw [nI_shl1 b (by omega)]
                  refine fx_ior dX3_whose_85 ?_
                  rw [nI_or]
                  refine fs_istore_n_3 dX3_whose_86 rfl (by decide) ?_
                  refine fs_iinc_4 (w := nI 1) dX3_whose_87 (by decide) rfl (by decide) ?_
                  refine fx_goto (tgt := 24) dX3_whose_90 (by decide) ?_
                  rw [nI_add]
                  exact ih1
    have H0 := H n 0 (by omega)
    refine mx_of (L := [some (.ref 0), some (.int (nI j)), none, none, none]) (by decide) (fun _ => rfl) (fun _ => Nat.le_of_ble_eq_true rfl) ?_
    refine fx_aload_n dX3_whose_0 rfl rfl ?_
    refine fx_iload_n dX3_whose_1 rfl rfl ?_
    refine fx_bipush (v := nI 99) dX3_whose_2 (by decide) ?_
    refine fx_callVv dX3_whose_4 vX3_soundFault lX3_175 (by decide) rfl (Nat.le_of_ble_eq_true rfl) eS rfl ?_
    refine fs_istore_n_2 dX3_whose_7 rfl (by decide) ?_
    refine fx_iload_n dX3_whose_8 rfl rfl ?_
    refine fx_iconst (v := (-1)) dX3_whose_9 (by decide) ?_
    refine fx_icmp_eq (tgt := 19) dX3_whose_10 (by decide) rC_l (fun hc10 => ?_) (fun hc10 => ?_)
    · refine fx_iconst (v := nI 0) dX3_whose_19 (by decide) ?_
      refine fs_istore_n_3 dX3_whose_20 rfl (by decide) ?_
      refine fx_iconst (v := nI 0) dX3_whose_21 (by decide) ?_
      refine fs_istore_4 dX3_whose_22 rfl (by decide) ?_
      exact H0
    · exact absurd rfl hc10
end
