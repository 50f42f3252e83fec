/-! ===== texts: item by item ===== -/
set_option maxRecDepth 100000
def jCh (I : Nat → Int32) (V0 : Nat → Int32) (n0 : Nat) : Nat → (Nat → Int32) → Nat → Prop
  | 0, V, n => V = V0 ∧ n = n0
  | m + 1, V, n => ∃ V1 n1, jCh I V0 n0 m V1 n1 ∧ jIt V1 n1 (I (4 * m)) (I (4 * m + 1)) (I (4 * m + 2)) (I (4 * m + 3)) V n
theorem jCh_ext {I I' V0 : Nat → Int32} {n0 : Nat} : ∀ (m : Nat) (V : Nat → Int32) (n : Nat), (∀ i, i < 4 * m → I' i = I i) → jCh I V0 n0 m V n → jCh I' V0 n0 m V n := by
  intro m
  induction m with
  | zero => intro V n _ h; exact h
  | succ m ih =>
    intro V n hI h
    obtain ⟨V1, n1, h1, h2⟩ := h
    refine ⟨V1, n1, ih V1 n1 (fun i hi => hI i (by omega)) h1, ?_⟩
    rw [hI (4 * m) (by omega), hI (4 * m + 1) (by omega), hI (4 * m + 2) (by omega), hI (4 * m + 3) (by omega)]
    exact h2
theorem it4_e {I : Nat → Int32} {k : Nat} {x1 x2 x3 x4 : Int32} : it4 I k x1 x2 x3 x4 (4 * k) = x1 ∧ it4 I k x1 x2 x3 x4 (4 * k + 1) = x2 ∧ it4 I k x1 x2 x3 x4 (4 * k + 2) = x3 ∧ it4 I k x1 x2 x3 x4 (4 * k + 3) = x4 ∧ ∀ i, i < 4 * k → it4 I k x1 x2 x3 x4 i = I i := by
  unfold it4
  refine ⟨?_, ?_, ?_, pk_us, fun i hi => ?_⟩
  · rw [pk_un (by omega), pk_un (by omega), pk_un (by omega), pk_us]
  · rw [pk_un (by omega), pk_un (by omega), pk_us]
  · rw [pk_un (by omega), pk_us]
  · rw [pk_un (by omega), pk_un (by omega), pk_un (by omega), pk_un (by omega)]
theorem jIt_k {V V' : Nat → Int32} {n n' : Nat} {x1 x2 x3 x4 : Int32} (hW : jW V n) (h : jIt V n x1 x2 x3 x4 V' n') : jW V' n' ∧ (jSp V n → jSp V' n') ∧ V' 0 = V 0 := by
  rcases h with ⟨p, h1, h2, h3, rfl, rfl, h6⟩ | ⟨kk, cc, tt, ww, h1, h2, h3, h4, h5, h6, rfl, rfl, rfl, rfl, rfl, rfl⟩
  · refine ⟨h6, fun hS s hs => ?_, pk_un (by omega)⟩
    rw [pk_un (by omega)]
    exact hS s hs
  · exact ⟨jW_come hW h6 h1 h2 h3 h4 h5, jSp_come, jcome_o (by omega) (fun f hf => by omega)⟩
theorem jCh_k {I V0 : Nat → Int32} {n0 : Nat} (hW : jW V0 n0) : ∀ (m : Nat) (V : Nat → Int32) (n : Nat), jCh I V0 n0 m V n → jW V n ∧ (jSp V0 n0 → jSp V n) ∧ V 0 = V0 0 := by
  intro m
  induction m with
  | zero =>
    intro V n h
    obtain ⟨rfl, rfl⟩ := h
    exact ⟨hW, fun q => q, rfl⟩
  | succ m ih =>
    intro V n h
    obtain ⟨V1, n1, h1, h2⟩ := h
    obtain ⟨a1, a2, a3⟩ := ih V1 n1 h1
    obtain ⟨b1, b2, b3⟩ := jIt_k a1 h2
    exact ⟨b1, fun q => b2 (a2 q), b3.trans a3⟩
theorem jold {V : Nat → Int32} {n p : Nat} (h : jW V n) (h1 : p = 1 ∨ 14 ≤ p) (h2 : p < 146) : (-1) ≤ V p := by
  have key : V p = (-1) ∨ ∃ k, k < 100 ∧ V p = nI k := by
    obtain ⟨a1, a2, a3, a4, a5, a6, a7, a8⟩ := h
    rcases (show p = 1 ∨ (14 ≤ p ∧ p < 18) ∨ (18 ≤ p ∧ p < 82) ∨ (82 ≤ p ∧ p < 146) by omega) with q | q | q | q
    · obtain ⟨f, b1, b2⟩ := a7
      exact Or.inr ⟨f, by omega, by rw [q]; exact b2⟩
    · have := a4 (p - 14) (by omega)
      rw [show 14 + (p - 14) = p by omega] at this
      exact this.imp id (fun ⟨c, b1, b2⟩ => ⟨c, by omega, b2⟩)
    · have := a5 (p - 18) (by omega)
      rw [show 18 + (p - 18) = p by omega] at this
      exact Or.inr (this.elim (fun e => ⟨0, by decide, e⟩) (fun e => ⟨1, by decide, e⟩))
    · obtain ⟨t, b1, b2⟩ := a6 (p - 82) (by omega)
      rw [show 82 + (p - 82) = p by omega] at b2
      exact Or.inr ⟨t, by omega, b2⟩
  rcases key with e | ⟨k, hk, e⟩
  · rw [e]; exact Int32.le_refl _
  · rw [e]; exact Int32.le_trans (show (-1 : Int32) ≤ 0 by decide) (nI_pos' (by omega))
section
variable {F4 : Nat → Int32} {G4 : Nat → Nat → Int32} {F : Nat → Nat → Int32} {N : Nat → Nat → Int64} {G : Nat → Nat → Int32} {B : Nat → Int32} {z : Nat}
/-- the reference applies what it read -/
theorem jAp {F' : Nat → Int32} {I V0 : Nat → Int32} {n0 M : Nat} (hM : F' 18 = nI M) (hM2 : M ≤ 120) (hW : jW V0 n0) {out : Option Value × zH} (hout : ∀ F' G', (rM F' G').length = out.2.length) : ∀ (k : Nat) (V : Nat → Int32) (n : Nat), k ≤ M → jCh I V0 n0 k V n → Fx mX4_text out 113 [some (.ref 0), some (.int (nI k)), some (.int (nI k))] [] (rM F' (ga (ga G4 10 I) 1 V)) → Fx mX4_text out 113 [some (.ref 0), some (.int (nI 0)), some (.int (nI 0))] [] (rM F' (ga (ga G4 10 I) 1 V0)) := by
  intro k
  induction k with
  | zero =>
    intro V n _ h K
    obtain ⟨rfl, rfl⟩ := h
    exact K
  | succ k ih =>
    intro V n hk h K
    obtain ⟨V1, n1, h1, h2⟩ := h
    refine ih V1 n1 (by omega) h1 ?_
    have hW1 := (jCh_k hW k V1 n1 h1).1
    have g1 : ga (ga G4 10 I) 1 V1 1 = V1 := ga_s _ _ _
    have g10 : ga (ga G4 10 I) 1 V1 10 = I := by rw [ga_n _ _ (by decide), ga_s]
    rcases h2 with ⟨p, c1, c2, c3, rfl, rfl, c6⟩ | ⟨kk, cc, tt, ww, c1, c2, c3, c4, c5, c6, d1, d2, d3, d4, rfl, rfl⟩
    · have eT := eX4_isToldSo_p (F := F') (G := ga (ga G4 10 I) 1 V1) (k := k) (p := p) (by omega) (by omega) (by rw [g10]; exact c3)
      rw [g1, g10, ga_ga] at eT
      have ho := jold hW1 c1 c2
      refine fx_iload_n dX4_text_113 rfl rfl ?_
      refine fx_aload_n dX4_text_114 rfl rfl ?_
      refine fx_get dX4_text_115 kX4_294 rfl rfl ?_
      rw [hM]
      refine fx_icmp_ge (tgt := 146) dX4_text_118 (by decide) (hout _ _) (fun hc118 => ?_) (fun hc118 => ?_)
      · exact absurd hc118 (nI_ge (by omega) (by omega))
      · refine fx_iload_n dX4_text_121 rfl rfl ?_
        refine fx_aload_n dX4_text_122 rfl rfl ?_
        refine fx_iconst (v := nI 4) dX4_text_123 (by decide) ?_
        refine fx_iload_n dX4_text_124 rfl rfl ?_
        refine fx_imul dX4_text_125 ?_
        rw [show (nI 4 : Int32) * nI k = nI (4 * k) from pk_mul 4 k]
        refine fx_callVv dX4_text_126 vX4_isToldSo lX4_333 (by decide) rfl (Nat.le_of_ble_eq_true rfl) eT rfl ?_
        refine fx_iconst (v := (-1)) dX4_text_129 (by decide) ?_
        refine fx_icmp_ge (tgt := 137) dX4_text_130 (by decide) (hout _ _) (fun hc130 => ?_) (fun hc130 => ?_)
        · refine fx_iconst (v := nI 1) dX4_text_137 (by decide) ?_
          refine fx_iadd dX4_text_138 ?_
          rw [nI_add]
          refine fs_istore_n_1 dX4_text_139 rfl (by decide) ?_
          refine fs_iinc_2 (w := nI 1) dX4_text_140 (by decide) rfl (by decide) ?_
          refine fx_goto (tgt := 113) dX4_text_143 (by decide) ?_
          rw [nI_add]
          exact K
        · exact absurd ho hc130
    · have eT := eX4_isToldSo_b (F := F') (G := ga (ga G4 10 I) 1 V1) (k := k) (kk := kk) (n := n1) (by rw [g1]; exact hW1) c6 (by omega) c1 (by rw [g10]; exact d1)
      rw [g1, g10, ga_ga, ← d1] at eT
      refine fx_iload_n dX4_text_113 rfl rfl ?_
      refine fx_aload_n dX4_text_114 rfl rfl ?_
      refine fx_get dX4_text_115 kX4_294 rfl rfl ?_
      rw [hM]
      refine fx_icmp_ge (tgt := 146) dX4_text_118 (by decide) (hout _ _) (fun hc118 => ?_) (fun hc118 => ?_)
      · exact absurd hc118 (nI_ge (by omega) (by omega))
      · refine fx_iload_n dX4_text_121 rfl rfl ?_
        refine fx_aload_n dX4_text_122 rfl rfl ?_
        refine fx_iconst (v := nI 4) dX4_text_123 (by decide) ?_
        refine fx_iload_n dX4_text_124 rfl rfl ?_
        refine fx_imul dX4_text_125 ?_
        rw [show (nI 4 : Int32) * nI k = nI (4 * k) from pk_mul 4 k]
        refine fx_callVv dX4_text_126 vX4_isToldSo lX4_333 (by decide) rfl (Nat.le_of_ble_eq_true rfl) eT rfl ?_
        refine fx_iconst (v := (-1)) dX4_text_129 (by decide) ?_
        refine fx_icmp_ge (tgt := 137) dX4_text_130 (by decide) (hout _ _) (fun hc130 => ?_) (fun hc130 => ?_)
        · refine fx_iconst (v := nI 1) dX4_text_137 (by decide) ?_
          refine fx_iadd dX4_text_138 ?_
          rw [nI_add]
          refine fs_istore_n_1 dX4_text_139 rfl (by decide) ?_
          refine fs_iinc_2 (w := nI 1) dX4_text_140 (by decide) rfl (by decide) ?_
          refine fx_goto (tgt := 113) dX4_text_143 (by decide) ?_
          rw [nI_add]
          exact K
        · exact absurd (Int32.le_trans (show (-1 : Int32) ≤ 0 by decide) (nI_pos' (by omega))) hc130
/-- both sides, from behind an item to behind the last -/
theorem jLoop (hz4 : F4 10 = nI z) (hG4 : G4 8 = B) (hz : F 25 1 = nI z) (hb : ∀ i, i < z → G 26 i = B i) (hB : jBy B z) {V0 : Nat → Int32} {n0 : Nat} {h : Int32} {t : Nat} (hW0 : jW V0 n0) : ∀ (f : Nat) (w : Bool) (s m : Nat) (I V : Nat → Int32) (n : Nat) (d nb : Int32), (w = false → z ≤ s + f) → s ≤ z → 1 ≤ m → (kd B z s = 2 → d = nI (vc B z s 0)) → (w = false → jCh I V0 n0 m V n ∧ nb = nI n ∧ 2 * m ≤ s + 1) →
    ∃ (w' : Bool) (s' m' : Nat) (I' V' : Nat → Int32) (n' : Nat) (d' nb' : Int32), s' ≤ z ∧ (w' = false → jCh I' V0 n0 m' V' n' ∧ nb' = nI n' ∧ 2 * m' ≤ s' + 1 ∧ ¬ kd B z s' = 3) ∧
      (∀ out : Option Value × zH, (∀ F' G', (rM F' G').length = out.2.length) → Fx mX4_text out 74 [some (.ref 0), none, none] [] (rM (qM F4 (nI s') (nI (en B z s')) (nI (min 3 (kd B z s'))) (nI (va B z s')) (jB w') (nI m') nb') (ga G4 10 I')) → Fx mX4_text out 33 [some (.ref 0), none, none] [] (rM (qM F4 (nI s) (nI (en B z s)) (nI (min 3 (kd B z s))) (nI (va B z s)) (jB w) (nI m) nb) (ga G4 10 I))) ∧
      (∀ out : Option Value × zH, (∀ F' N' G', (rC F' N' G').length = out.2.length) → Fx mX1_readInto out 75 [some (.ref 25), some (.ref 9), some (.int (nI m')), none, none] [] (tW F N G B z s' d' (ft w' s') V' n' h t) → Fx mX1_readInto out 37 [some (.ref 25), some (.ref 9), some (.int (nI (m - 1))), none, some (.int (nI (m - 1)))] [] (tW F N G B z s d (ft w s) V n h t)) := by
  have hz1 := hB.1
  -- where no item follows
  have stop : ∀ (w : Bool) (s m : Nat) (I V : Nat → Int32) (n : Nat) (d nb : Int32), s ≤ z → 1 ≤ m → (w = false → jCh I V0 n0 m V n ∧ nb = nI n ∧ 2 * m ≤ s + 1) → (w = false → ¬ kd B z s = 3) →
    ∃ (w' : Bool) (s' m' : Nat) (I' V' : Nat → Int32) (n' : Nat) (d' nb' : Int32), s' ≤ z ∧ (w' = false → jCh I' V0 n0 m' V' n' ∧ nb' = nI n' ∧ 2 * m' ≤ s' + 1 ∧ ¬ kd B z s' = 3) ∧
      (∀ out : Option Value × zH, (∀ F' G', (rM F' G').length = out.2.length) → Fx mX4_text out 74 [some (.ref 0), none, none] [] (rM (qM F4 (nI s') (nI (en B z s')) (nI (min 3 (kd B z s'))) (nI (va B z s')) (jB w') (nI m') nb') (ga G4 10 I')) → Fx mX4_text out 33 [some (.ref 0), none, none] [] (rM (qM F4 (nI s) (nI (en B z s)) (nI (min 3 (kd B z s))) (nI (va B z s)) (jB w) (nI m) nb) (ga G4 10 I))) ∧
      (∀ out : Option Value × zH, (∀ F' N' G', (rC F' N' G').length = out.2.length) → Fx mX1_readInto out 75 [some (.ref 25), some (.ref 9), some (.int (nI m')), none, none] [] (tW F N G B z s' d' (ft w' s') V' n' h t) → Fx mX1_readInto out 37 [some (.ref 25), some (.ref 9), some (.int (nI (m - 1))), none, some (.int (nI (m - 1)))] [] (tW F N G B z s d (ft w s) V n h t)) := by
    intro w s m I V n d nb hs hm1 hw h3
    have hk4 := kd_le (B := B) (z := z) (s := s)
    refine ⟨w, s, m, I, V, n, d, nb, hs, fun q => ⟨(hw q).1, (hw q).2.1, (hw q).2.2, h3 q⟩, fun out hout K => ?_, fun out hout K => ?_⟩
    · cases w
      · have h3' := h3 rfl
        by_cases hk : kd B z s = 4
        · have hlt : s < z := Decidable.byContradiction fun q => by have := (kd_end hB).mpr q; omega
          have hne : ¬ B s = nI 59 := fun q => by
            have e : btk B z s = nI 59 := (btk_in hlt).trans q
            have h0 : ¬ btk B z s < 0 := by rw [e]; decide
            have h1 : ¬ plt (btk B z s) = true := by rw [e]; decide
            have h2 : ¬ pdg (btk B z s) = true := by rw [e]; decide
            rw [kd_3 h0 h1 h2 e] at hk
            omega
          refine fx_aload_n dX4_text_33 rfl rfl ?_
          refine fx_get dX4_text_34 kX4_284 rfl rfl ?_
          rw [q15]
          refine fx_if_ne (tgt := 74) dX4_text_37 (by decide) (hout _ _) (fun hc37 => ?_) (fun hc37 => ?_)
          · exact absurd rfl hc37
          · refine fx_aload_n dX4_text_40 rfl rfl ?_
            refine fx_get dX4_text_41 kX4_274 rfl rfl ?_
            rw [q13, hk]
            refine fx_iconst (v := nI 3) dX4_text_44 (by decide) ?_
            refine fx_icmp_ne (tgt := 74) dX4_text_45 (by decide) (hout _ _) (fun hc45 => ?_) (fun hc45 => ?_)
            · exact absurd (by decide) hc45
            · refine fx_aload_n dX4_text_48 rfl rfl ?_
              refine fx_get dX4_text_49 kX4_31 rfl rfl ?_
              refine fx_aload_n dX4_text_52 rfl rfl ?_
              refine fx_get dX4_text_53 kX4_265 rfl rfl ?_
              rw [q11]
              refine fx_iald dX4_text_56 rfl (vp_in_nI (by omega) (by decide)) ?_
              rw [nI_clamp (by omega), ga_n _ _ (show (8 : Nat) ≠ 10 by decide), hG4]
              refine fx_bipush (v := nI 59) dX4_text_57 (by decide) ?_
              refine fx_icmp_ne (tgt := 74) dX4_text_59 (by decide) (hout _ _) (fun hc59 => ?_) (fun hc59 => ?_)
              · rw [hk] at K
                exact K
              · exact absurd hc59 hne
        · refine fx_aload_n dX4_text_33 rfl rfl ?_
          refine fx_get dX4_text_34 kX4_284 rfl rfl ?_
          rw [q15]
          refine fx_if_ne (tgt := 74) dX4_text_37 (by decide) (hout _ _) (fun hc37 => ?_) (fun hc37 => ?_)
          · exact absurd rfl hc37
          · refine fx_aload_n dX4_text_40 rfl rfl ?_
            refine fx_get dX4_text_41 kX4_274 rfl rfl ?_
            rw [q13]
            refine fx_iconst (v := nI 3) dX4_text_44 (by decide) ?_
            refine fx_icmp_ne (tgt := 74) dX4_text_45 (by decide) (hout _ _) (fun hc45 => ?_) (fun hc45 => ?_)
            · exact K
            · exact absurd ((nI_eq (by omega) (by omega)).mp hc45) (by omega)
      · refine fx_aload_n dX4_text_33 rfl rfl ?_
        refine fx_get dX4_text_34 kX4_284 rfl rfl ?_
        rw [q15]
        refine fx_if_ne (tgt := 74) dX4_text_37 (by decide) (hout _ _) (fun hc37 => ?_) (fun hc37 => ?_)
        · exact K
        · exact absurd hc37 (by decide)
    · have K2 : ∀ l4 : Int32, Fx mX1_readInto out 75 [some (.ref 25), some (.ref 9), some (.int (nI m)), some (.int (nI 0)), some (.int l4)] [] (tW F N G B z s d (ft w s) V n h t) := by
        intro l4
        refine fx_le ?_ K
        exact ⟨rfl, rfl, rfl, trivial⟩
      have K59 : Fx mX1_readInto out 59 [some (.ref 25), some (.ref 9), some (.int (nI m)), none, some (.int (nI (m - 1)))] [] (tW F N G B z s d (ft w s) V n h t) := by
        refine fx_iconst (v := nI 0) dX1_readInto_59 (by decide) ?_
        refine fs_istore_n_3 dX1_readInto_60 rfl (by decide) ?_
        refine fx_iload_n dX1_readInto_61 rfl rfl ?_
        refine fx_if_eq (tgt := 69) dX1_readInto_62 (by decide) (hout _ _ _) (fun hc62 => ?_) (fun hc62 => ?_)
        · refine fs_iinc_4 (w := nI 1) dX1_readInto_69 (by decide) rfl (by decide) ?_
          refine fx_goto (tgt := 21) dX1_readInto_72 (by decide) ?_
          refine fx_iload dX1_readInto_21 rfl ?_
          refine fx_bipush (v := nI 120) dX1_readInto_23 (by decide) ?_
          refine fx_icmp_gt (tgt := 75) dX1_readInto_25 (by decide) (hout _ _ _) (fun hc25 => ?_) (fun hc25 => ?_)
          · exact K2 _
          · refine fx_iload_n dX1_readInto_28 rfl rfl ?_
            refine fx_if_eq (tgt := 75) dX1_readInto_29 (by decide) (hout _ _ _) (fun hc29 => ?_) (fun hc29 => ?_)
            · exact K2 _
            · exact absurd (by decide) hc29
        · exact absurd (by decide) hc62
      cases w
      · have h3' := h3 rfl
        refine fs_iinc_2 (w := nI 1) dX1_readInto_37 (by decide) rfl (by decide) ?_
        rw [nI_add, Nat.sub_add_cancel hm1]
        refine fx_aload_n dX1_readInto_40 rfl rfl ?_
        refine fx_get dX1_readInto_41 kX1_19 rfl rfl ?_
        rw [r6]
        refine fx_if_ge (tgt := 59) dX1_readInto_44 (by decide) (hout _ _ _) (fun hc44 => ?_) (fun hc44 => ?_)
        · exact K59
        · refine fx_aload_n dX1_readInto_47 rfl rfl ?_
          refine fx_get dX1_readInto_48 kX1_32 rfl rfl ?_
          rw [r2]
          refine fx_iconst (v := nI 3) dX1_readInto_51 (by decide) ?_
          refine fx_icmp_ne (tgt := 59) dX1_readInto_52 (by decide) (hout _ _ _) (fun hc52 => ?_) (fun hc52 => ?_)
          · exact K59
          · exact absurd ((nI_eq (by omega) (by omega)).mp hc52) h3'
      · refine fs_iinc_2 (w := nI 1) dX1_readInto_37 (by decide) rfl (by decide) ?_
        rw [nI_add, Nat.sub_add_cancel hm1]
        refine fx_aload_n dX1_readInto_40 rfl rfl ?_
        refine fx_get dX1_readInto_41 kX1_19 rfl rfl ?_
        rw [r6]
        refine fx_if_ge (tgt := 59) dX1_readInto_44 (by decide) (hout _ _ _) (fun hc44 => ?_) (fun hc44 => ?_)
        · exact K59
        · exact absurd (nI_pos' (by omega)) hc44
  intro f
  induction f with
  | zero =>
    intro w s m I V n d nb hf hs hm1 hd hw
    exact stop w s m I V n d nb hs hm1 hw (fun e => by have := hf e; rw [(kd_end hB).mpr (by omega)]; decide)
  | succ f ih =>
    intro w s m I V n d nb hf hs hm1 hd hw
    by_cases hgo : w = false ∧ kd B z s = 3
    · obtain ⟨rfl, hk⟩ := hgo
      obtain ⟨hch, rfl, h2m⟩ := hw rfl
      have hWn := (jCh_k hW0 m V n hch).1
      obtain ⟨nx1, nx2, nx3⟩ := nx_b hB hs
      have nx4 := nx3 (by rw [hk]; decide)
      have hlt : s < z := Decidable.byContradiction fun q => by have := (kd_end hB).mpr q; omega
      have hB59 : B s = nI 59 := (btk_in hlt).symm.trans (kd_sgn hk)
      obtain ⟨w1, s1, x1, x2, x3, x4, nb1, n1, V1, d1, p1, p2, p3, p4, p5, p6⟩ := jItem (F4 := F4) (G4 := ga G4 10 I) (F := F) (N := N) (G := G) (m := m) (n := n) (V := V) (h := h) (t := t) (d := nv B z (nx B z s) d) hz4 (by rw [ga_n _ _ (by decide)]; exact hG4) hz hb hB nx2 (by omega) nv_h hWn
      rw [ga_ga, ga_s] at p5
      obtain ⟨i1, i2, i3, i4, i5⟩ := it4_e (I := I) (k := m) (x1 := x1) (x2 := x2) (x3 := x3) (x4 := x4)
      obtain ⟨w', s', m', I', V', n', d', nb', q1, q2, q3, q4⟩ := ih w1 s1 (m + 1) (it4 I m x1 x2 x3 x4) V1 n1 d1 nb1 (fun e => by have := p2 e; have := hf rfl; omega) p1 (by omega) p3 (fun e => ⟨⟨V, n, jCh_ext m V n i5 hch, by rw [i1, i2, i3, i4]; exact (p4 e).1⟩, (p4 e).2, by have := p2 e; omega⟩)
      refine ⟨w', s', m', I', V', n', d', nb', q1, q2, fun out hout K => ?_, fun out hout K => ?_⟩
      · have K1 := q3 out hout K
        have eM : Mx mX4_must [.ref 0, .int (nI 1)] (sN F4 (ga G4 10 I) B z s false (nI m) (nI n)) none (sN F4 (ga G4 10 I) B z (nx B z s) false (nI m) (nI n)) := eX4_must_t hz4 (by rw [ga_n _ _ (by decide)]; exact hG4) hB hs
        refine fx_aload_n dX4_text_33 rfl rfl ?_
        refine fx_get dX4_text_34 kX4_284 rfl rfl ?_
        rw [q15]
        refine fx_if_ne (tgt := 74) dX4_text_37 (by decide) (hout _ _) (fun hc37 => ?_) (fun hc37 => ?_)
        · exact absurd rfl hc37
        · refine fx_aload_n dX4_text_40 rfl rfl ?_
          refine fx_get dX4_text_41 kX4_274 rfl rfl ?_
          rw [q13, hk]
          refine fx_iconst (v := nI 3) dX4_text_44 (by decide) ?_
          refine fx_icmp_ne (tgt := 74) dX4_text_45 (by decide) (hout _ _) (fun hc45 => ?_) (fun hc45 => ?_)
          · exact absurd (by decide) hc45
          · refine fx_aload_n dX4_text_48 rfl rfl ?_
            refine fx_get dX4_text_49 kX4_31 rfl rfl ?_
            refine fx_aload_n dX4_text_52 rfl rfl ?_
            refine fx_get dX4_text_53 kX4_265 rfl rfl ?_
            rw [q11]
            refine fx_iald dX4_text_56 rfl (vp_in_nI (by omega) (by decide)) ?_
            rw [nI_clamp (by omega), ga_n _ _ (show (8 : Nat) ≠ 10 by decide), hG4, hB59]
            refine fx_bipush (v := nI 59) dX4_text_57 (by decide) ?_
            refine fx_icmp_ne (tgt := 74) dX4_text_59 (by decide) (hout _ _) (fun hc59 => ?_) (fun hc59 => ?_)
            · exact absurd (by decide) hc59
            · rw [show nI (min 3 3) = nI (min 3 (kd B z s)) by rw [hk]]
              refine fx_aload_n dX4_text_62 rfl rfl ?_
              refine fx_iconst (v := nI 1) dX4_text_63 (by decide) ?_
              refine fx_callVn dX4_text_64 vX4_must lX4_290 (by decide) rfl (Nat.le_of_ble_eq_true rfl) eM rfl ?_
              refine fx_aload_n dX4_text_67 rfl rfl ?_
              refine fx_callVn dX4_text_68 vX4_readItem lX4_330 (by decide) rfl (Nat.le_of_ble_eq_true rfl) p5 rfl ?_
              refine fx_goto (tgt := 33) dX4_text_71 (by decide) ?_
              exact K1
      · have K1 := q4 out hout K
        rw [Nat.add_sub_cancel] at K1
        have hz' : pF F 9 V n h 25 1 = nI z := (pF_o (by decide)).trans hz
        have hb' : ∀ i, i < z → pG G 9 V 26 i = B i := fun i hi => by rw [pG_o (by decide)]; exact hb i hi
        have eA := eX1_adv (N := pN N 9 V t) (d := d) (f := (-1)) hz' hb' hB hs
        refine fs_iinc_2 (w := nI 1) dX1_readInto_37 (by decide) rfl (by decide) ?_
        rw [nI_add, Nat.sub_add_cancel hm1]
        refine fx_aload_n dX1_readInto_40 rfl rfl ?_
        refine fx_get dX1_readInto_41 kX1_19 rfl rfl ?_
        rw [r6]
        refine fx_if_ge (tgt := 59) dX1_readInto_44 (by decide) (hout _ _ _) (fun hc44 => ?_) (fun hc44 => ?_)
        · exact absurd hc44 (show ¬ (0 : Int32) ≤ (-1) by decide)
        · refine fx_aload_n dX1_readInto_47 rfl rfl ?_
          refine fx_get dX1_readInto_48 kX1_32 rfl rfl ?_
          rw [r2]
          refine fx_iconst (v := nI 3) dX1_readInto_51 (by decide) ?_
          refine fx_icmp_ne (tgt := 59) dX1_readInto_52 (by decide) (hout _ _ _) (fun hc52 => ?_) (fun hc52 => ?_)
          · exact absurd (by rw [hk]) hc52
          · refine fx_iconst (v := nI 1) dX1_readInto_55 (by decide) ?_
            refine fx_goto (tgt := 60) dX1_readInto_56 (by decide) ?_
            refine fs_istore_n_3 dX1_readInto_60 rfl (by decide) ?_
            refine fx_iload_n dX1_readInto_61 rfl rfl ?_
            refine fx_if_eq (tgt := 69) dX1_readInto_62 (by decide) (hout _ _ _) (fun hc62 => ?_) (fun hc62 => ?_)
            · exact absurd hc62 (by decide)
            · refine fx_aload_n dX1_readInto_65 rfl rfl ?_
              refine fx_callVn dX1_readInto_66 vX1_advance lX1_25 (by decide) rfl (Nat.le_of_ble_eq_true rfl) eA rfl ?_
              refine fs_iinc_4 (w := nI 1) dX1_readInto_69 (by decide) rfl (by decide) ?_
              rw [nI_add, Nat.sub_add_cancel hm1]
              refine fx_goto (tgt := 21) dX1_readInto_72 (by decide) ?_
              refine fx_iload dX1_readInto_21 rfl ?_
              refine fx_bipush (v := nI 120) dX1_readInto_23 (by decide) ?_
              refine fx_icmp_gt (tgt := 75) dX1_readInto_25 (by decide) (hout _ _ _) (fun hc25 => ?_) (fun hc25 => ?_)
              · exact absurd hc25 (nI_nlt (by omega) (by decide))
              · refine fx_iload_n dX1_readInto_28 rfl rfl ?_
                refine fx_if_eq (tgt := 75) dX1_readInto_29 (by decide) (hout _ _ _) (fun hc29 => ?_) (fun hc29 => ?_)
                · exact absurd hc29 (by decide)
                · refine fx_aload_n dX1_readInto_32 rfl rfl ?_
                  refine fx_aload_n dX1_readInto_33 rfl rfl ?_
                  refine fx_callVn dX1_readInto_34 vX1_readItem lX1_28 (by decide) rfl (Nat.le_of_ble_eq_true rfl) p6 rfl ?_
                  refine fx_le ?_ K1
                  exact ⟨rfl, rfl, rfl, rfl, trivial⟩
    · refine stop w s m I V n d nb hs hm1 hw (fun e q => hgo ⟨e, q⟩)
end
