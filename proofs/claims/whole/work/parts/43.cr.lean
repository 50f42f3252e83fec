/-! ===== pairs: kindFor, drive ===== -/
set_option maxRecDepth 100000
/-- locals that are no longer wanted -/
def z_le : List (Option Value) → List (Option Value) → Prop
  | [], _ => True
  | none :: A, [] => z_le A []
  | none :: A, _ :: B => z_le A B
  | some _ :: _, [] => False
  | some a :: A, b :: B => b = some a ∧ z_le A B
theorem z_le_in (ad : Nat → Nat) : ∀ (A B : List (Option Value)) (k : Nat) (q : Nat × Value), z_le A B → q ∈ z_L ad k A → q ∈ z_L ad k B := by
  intro A
  induction A with
  | nil => intro B k q _ hq; cases hq
  | cons a A ih =>
    intro B k q hle hq
    cases a with
    | none =>
      cases B with
      | nil => exact absurd (ih [] (k + 1) q hle hq) (by intro z; cases z)
      | cons b B =>
        have := ih B (k + 1) q hle hq
        cases b with
        | none => exact this
        | some v => exact List.mem_cons_of_mem _ this
    | some v =>
      cases B with
      | nil => exact absurd hle (fun z => z)
      | cons b B =>
        obtain ⟨rfl, h2⟩ := hle
        rcases List.mem_cons.mp hq with h | h
        · rw [h]; exact List.mem_cons_self
        · exact List.mem_cons_of_mem _ (ih B (k + 1) q h2 h)
theorem fx_le {M : zM} {out : Option Value × zH} {pc : Nat} {L L' : List (Option Value)} {S : List Value} {h : zH} (hle : z_le L' L) (k : Fx M out pc L' S h) : Fx M out pc L S h :=
  ⟨k.1, fun E D tA ad p l e s m args below meth c C H locs ls hl hP hS => k.2 E D tA ad p l e s m args below meth c C H locs ls ⟨hl.1, hl.2.1, fun q hq => hl.2.2 q (z_le_in ad L' L 0 q hle hq)⟩ hP hS⟩
section
variable {n b : Nat}
theorem jcnt_1 (V : Nat → Int32) (r : Nat) : jcnt V n b (r + 1) = if V (146 + 5 * b + 4) = nI 1 then 0 else jcnt (jhour V n) n b r + 1 := rfl
theorem jcnt_min (d : Nat) : ∀ (r : Nat) (V : Nat → Int32), jcnt V n b r = min r (jcnt V n b (r + d)) := by
  intro r
  induction r with
  | zero => intro V; rw [Nat.zero_min]; rfl
  | succ r ih =>
    intro V
    rw [show r + 1 + d = (r + d) + 1 by omega, jcnt_1, jcnt_1]
    by_cases q : V (146 + 5 * b + 4) = nI 1
    · rw [if_pos q, if_pos q, Nat.min_zero]
    · rw [if_neg q, if_neg q, ih (jhour V n)]
      omega
theorem jcnt_nc : ∀ (r : Nat) (V : Nat → Int32) (i : Nat), i < jcnt V n b r → ¬ jhrs V n i (146 + 5 * b + 4) = nI 1 := by
  intro r
  induction r with
  | zero => intro V i hi; exact absurd hi (Nat.not_lt_zero i)
  | succ r ih =>
    intro V i hi
    rw [jcnt_1] at hi
    by_cases q : V (146 + 5 * b + 4) = nI 1
    · rw [if_pos q] at hi; exact absurd hi (Nat.not_lt_zero i)
    · rw [if_neg q] at hi
      cases i with
      | zero => exact q
      | succ i =>
        rw [← jhrs_1]
        exact ih (jhour V n) i (by omega)
theorem jcnt_ca : ∀ (r : Nat) (V : Nat → Int32), jcnt V n b r < r → jhrs V n (jcnt V n b r) (146 + 5 * b + 4) = nI 1 := by
  intro r
  induction r with
  | zero => intro V h; exact absurd h (Nat.not_lt_zero _)
  | succ r ih =>
    intro V h
    rw [jcnt_1] at h ⊢
    by_cases q : V (146 + 5 * b + 4) = nI 1
    · rw [if_pos q]; exact q
    · rw [if_neg q] at h ⊢
      rw [← jhrs_1]
      exact ih (jhour V n) (by omega)
theorem jcv_r (V : Nat → Int32) (r : Nat) : (jcv V n b r ≤ r ∧ jcv V n b r = jcnt V n b r ∧ jhrs V n (jcnt V n b r) (146 + 5 * b + 4) = nI 1) ∨ (jcv V n b r = 1000000 ∧ jcnt V n b r = r ∧ ¬ jhrs V n (jcnt V n b r) (146 + 5 * b + 4) = nI 1) := by
  have hj := jcnt_le n b r V
  unfold jcv
  by_cases q : jhrs V n (jcnt V n b r) (146 + 5 * b + 4) = nI 1
  · rw [if_pos q]; exact Or.inl ⟨hj, rfl, q⟩
  · rw [if_neg q]
    refine Or.inr ⟨rfl, ?_, q⟩
    rcases Nat.lt_or_eq_of_le hj with h | h
    · exact absurd (jcnt_ca r V h) q
    · exact h
theorem jcv_sub (V : Nat → Int32) {r R : Nat} (h : r ≤ R) (hR : R < 1000) : jcv V n b r = if jcv V n b R ≤ r then jcv V n b R else 1000000 := by
  obtain ⟨d, rfl⟩ : ∃ d, R = r + d := ⟨R - r, by omega⟩
  have e := jcnt_min (n := n) (b := b) d r V
  rcases jcv_r (n := n) (b := b) V (r + d) with ⟨h1, h2, h3⟩ | ⟨h1, h2, h3⟩
  · by_cases q : jcv V n b (r + d) ≤ r
    · rw [if_pos q]
      have e2 : jcnt V n b r = jcnt V n b (r + d) := by omega
      show (if jhrs V n (jcnt V n b r) (146 + 5 * b + 4) = nI 1 then jcnt V n b r else 1000000) = _
      rw [e2, if_pos h3, h2]
    · rw [if_neg q]
      have e2 : jcnt V n b r = r := by omega
      show (if jhrs V n (jcnt V n b r) (146 + 5 * b + 4) = nI 1 then jcnt V n b r else 1000000) = _
      rw [e2, if_neg (jcnt_nc (r + d) V r (by omega))]
  · rw [h1, if_neg (by omega)]
    have e2 : jcnt V n b r = r := by omega
    show (if jhrs V n (jcnt V n b r) (146 + 5 * b + 4) = nI 1 then jcnt V n b r else 1000000) = _
    rw [e2]
    by_cases q : r < jcnt V n b (r + d)
    · rw [if_neg (jcnt_nc (r + d) V r q)]
    · have e3 : d = 0 := by omega
      subst e3
      rw [Nat.add_zero] at h2 h3
      rw [h2] at h3
      rw [if_neg h3]
end
section
variable {F : Nat → Nat → Int32} {N : Nat → Nat → Int64} {G : Nat → Nat → Int32} {a : Nat → Int32} {V : Nat → Int32} {n b : Nat} {h x : Int32} {t : Nat}
theorem wa_10 : z_set (rC F N G) 10 (.inl (0, 64, .inl a)) = rC F N (ga G 10 a) := rfl
theorem wa_11 : z_set (rC F N G) 11 (.inl (0, 4, .inl a)) = rC F N (ga G 11 a) := rfl
theorem wa_12 : z_set (rC F N G) 12 (.inl (0, 8, .inl a)) = rC F N (ga G 12 a) := rfl
theorem jKn (hb : b < 8) : rC (pF F 9 V n h) (pN N 9 V t) (ga (pG G 9 V) 12 (upd (pG G 9 V 12) b x)) = jC F N G 9 (upd V (146 + 5 * b + 0) x) n h t := j_can (jI_w0 jI_p hb) (jFr_g (j := 3) jFr_p (by decide))
theorem jHu {c : Nat} (hc : c < 4) : rC (pF F 9 V n h) (pN N 9 V t) (ga (pG G 9 V) 11 (upd (pG G 9 V 11) c x)) = jC F N G 9 (upd V (14 + c) x) n h t := j_can (jI_whu jI_p hc) (jFr_g (j := 2) jFr_p (by decide))
def jout (F : Nat → Nat → Int32) (N : Nat → Nat → Int64) (G : Nat → Nat → Int32) (x : Int32) (V : Nat → Int32) (n : Nat) (h : Int32) (t : Nat) : Option Value × zH := if x = (-1) then (some (.int (jfd 3)), rC (pF F 9 V n h) (pN N 9 V t) (ga (pG G 9 V) 36 (jf1 (G 36) 3))) else (some (.int x), jC F N G 9 V n h t)
theorem jout_l {F' : Nat → Nat → Int32} {N' : Nat → Nat → Int64} {G' : Nat → Nat → Int32} : (rC F' N' G').length = (jout F N G x V n h t).2.length := by
  unfold jout
  by_cases q : x = (-1)
  · rw [if_pos q]; rfl
  · rw [if_neg q]; rfl
end
section
variable {F4 F4' : Nat → Int32} {G4 : Nat → Nat → Int32} {F : Nat → Nat → Int32} {N : Nat → Nat → Int64} {G : Nat → Nat → Int32}
theorem jP_out {mr mc : zM} {as : List Value} {x m : Int32} {A V : Nat → Int32} {n t : Nat} {h : Int32} (R : jR F4 G4 F N G) (hA : ∀ k, 186 ≤ k → A k = 0) (e4 : Mx mr (.ref 0 :: as) (rM F4 G4) (some (.int (jonv x))) (jonw (upd F4 7 m) (ga G4 3 A) x)) (ec : Mx mc (.ref 0 :: as) (rC F N G) (jout F N G x V n h t).1 (jout F N G x V n h t).2) : jP mr mc as F4 G4 F N G := by
  unfold jonv jonw at e4
  unfold jout at ec
  by_cases q : x = (-1)
  · rw [if_pos q, if_pos q, show ga G4 3 A 4 = G4 4 from ga_n _ _ (by decide)] at e4
    rw [if_pos q] at ec
    exact ⟨_, _, _, _, _, _, e4, ec, jR_tf R hA (fun j hj => pk_un hj) (by decide)⟩
  · rw [if_neg q, if_neg q] at e4
    rw [if_neg q] at ec
    exact ⟨_, _, _, _, _, _, e4, ec, jR_t R hA (fun j hj => pk_un hj)⟩
theorem P_kindFor (R : jR F4 G4 F N G) (a : Int32) : jP mX4_kindFor mX3_kindFor [.int a] F4 G4 F N G := by
  have R0 := R
  obtain ⟨⟨n, t, hW, hS, hH, ht, hI⟩, ⟨V2, n2, h2, t2, i2⟩, -, ⟨c1, c2, c3⟩, -⟩ := R
  have hn8 := hW.2.1
  by_cases ha : jwi a (nI 0) (nI n - nI 1) = false
  · refine ⟨_, _, _, _, _, _, eX4_kindFor_n hW ha, ?_, jR_f R0 (by decide)⟩
    refine mx_of (L := [some (.ref 0), some (.int a), none, none, none, none, none]) (by decide) (fun _ => rfl) (fun _ => Nat.le_of_ble_eq_true rfl) ?_
    refine fx_aload_n dX3_kindFor_0 rfl rfl ?_
    refine fx_iload_n dX3_kindFor_1 rfl rfl ?_
    refine fx_callVv dX3_kindFor_2 vX3_isBell lX3_91 (by decide) rfl (Nat.le_of_ble_eq_true rfl) (eX3_isBell hI hn8) rfl ?_
    refine fx_if_ne (tgt := 14) dX3_kindFor_5 (by decide) rC_l (fun hc5 => ?_) (fun hc5 => ?_)
    · exact jtf ha (nI_ne0' hc5)
    · refine fx_aload_n dX3_kindFor_8 rfl rfl ?_
      refine fx_iconst (v := nI 0) dX3_kindFor_9 (by decide) ?_
      refine fx_callVv dX3_kindFor_10 vX3_finding lX3_51 (by decide) rfl (Nat.le_of_ble_eq_true rfl) (eX3_finding (k := 0) (by decide)) rfl ?_
      exact fx_ireq dX3_kindFor_13 rfl rfl rfl rfl
  · obtain ⟨b, hb, rfl⟩ := jbell_of hn8 (jbt_t ha)
    obtain ⟨m, A, hA, e4⟩ := eX4_kindFor_y (F := F4) c1 hW hb c3
    have H : ∀ (q k : Nat), k + q = 7 → ∀ (x : Int32) (Vx : Nat → Int32) (nx : Nat) (hx : Int32) (tx : Nat), (k = 0 ∨ x = (jkf (G4 1) n b k).1) → ∃ (V' : Nat → Int32) (n' : Nat) (h' : Int32) (t' : Nat), Fx mX3_kindFor (some (.int (jkf (G4 1) n b 7).1), jC F N G 9 V' n' h' t') 21 [some (.ref 0), some (.int (nI b)), some (.int x), some (.int (jkf (G4 1) n b k).2), some (.int (nI k)), none, none] [] (jC F N G 9 Vx nx hx tx) := by
      intro q
      induction q with
      | zero =>
        intro k hk x Vx nx hx tx hq
        have hk' : k = 7 := by omega
        subst hk'
        obtain rfl := hq.resolve_left (by decide)
        refine ⟨Vx, nx, hx, tx, ?_⟩
        refine fx_iload dX3_kindFor_21 rfl ?_
        refine fx_bipush (v := nI 7) dX3_kindFor_23 (by decide) ?_
        refine fx_icmp_ge (tgt := 94) dX3_kindFor_25 (by decide) rC_l (fun hc25 => ?_) (fun hc25 => ?_)
        · refine fx_iload_n dX3_kindFor_94 rfl rfl ?_
          exact fx_ireq dX3_kindFor_95 rfl rfl rfl rfl
        · exact absurd (Int32.le_refl _) hc25
      | succ q ih =>
        intro k hk x Vx nx hx tx hq
        have hWk := jW_f hW hb (show 0 < 5 by decide) (jgood_0 (show k < 7 by omega))
        have eT := jTi (F := F) (N := N) (G := G) (h := G4 1 0) (t := 0) (m := 60) (by decide) hb hWk (by decide)
        have e1 : jkf (G4 1) n b (k + 1) = (if (jkf (G4 1) n b k).2 < nI (min 60 (jcv (upd (G4 1) (146 + 5 * b + 0) (nI k)) n b 60)) then nI k else (jkf (G4 1) n b k).1, jmax (jkf (G4 1) n b k).2 (nI (min 60 (jcv (upd (G4 1) (146 + 5 * b + 0) (nI k)) n b 60)))) := rfl
        have hr := jcv_r (n := n) (b := b) (upd (G4 1) (146 + 5 * b + 0) (nI k)) 60
        have ihx := fun x' Vx nx hx tx => ih (k + 1) (by omega) x' Vx nx hx tx
        rw [e1] at ihx
        have hk0 : k = 0 → (jkf (G4 1) n b k).2 = (-1) := fun z => by subst z; rfl
        generalize hj : jkf (G4 1) n b k = J at *
        generalize hz : jcv (upd (G4 1) (146 + 5 * b + 0) (nI k)) n b 60 = z at *
        generalize (jrS (upd (G4 1) (146 + 5 * b + 0) (nI k)) n (G4 1 0) 0 (jta (upd (G4 1) (146 + 5 * b + 0) (nI k)) n (G4 1 0) 0 b 60 0).2) = S at *
        have K : ∀ l5 : Int32, ∃ (V' : Nat → Int32) (n' : Nat) (h' : Int32) (t' : Nat), Fx mX3_kindFor (some (.int (jkf (G4 1) n b 7).1), jC F N G 9 V' n' h' t') 74 [some (.ref 0), some (.int (nI b)), some (.int x), some (.int J.2), some (.int (nI k)), some (.int l5), none] [.int (nI (min 60 z))] (jC F N G 9 S.2.1 n S.2.2.1 S.2.2.2) := by
          intro l5
          by_cases hlt : J.2 < nI (min 60 z)
          · obtain ⟨V', n', h', t', ih1⟩ := ihx (nI k) S.2.1 n S.2.2.1 S.2.2.2 (Or.inr (by rw [if_pos hlt]))
            rw [show jmax J.2 (nI (min 60 z)) = nI (min 60 z) from if_pos hlt] at ih1
            refine ⟨V', n', h', t', ?_⟩
            refine fs_istore_6 dX3_kindFor_74 rfl (by decide) ?_
            refine fx_iload dX3_kindFor_76 rfl ?_
            refine fx_iload_n dX3_kindFor_78 rfl rfl ?_
            refine fx_icmp_le (tgt := 88) dX3_kindFor_79 (by decide) rC_l (fun hc79 => ?_) (fun hc79 => ?_)
            · exact absurd hlt (Int32.not_lt.mpr hc79)
            · refine fx_iload dX3_kindFor_82 rfl ?_
              refine fs_istore_n_3 dX3_kindFor_84 rfl (by decide) ?_
              refine fx_iload dX3_kindFor_85 rfl ?_
              refine fs_istore_n_2 dX3_kindFor_87 rfl (by decide) ?_
              refine fs_iinc_4 (w := nI 1) dX3_kindFor_88 (by decide) rfl (by decide) ?_
              refine fx_goto (tgt := 21) dX3_kindFor_91 (by decide) ?_
              rw [nI_add]
              refine fx_le ?_ ih1
              exact ⟨rfl, rfl, rfl, rfl, rfl, trivial⟩
          · have hx0 : k ≠ 0 := fun w => hlt (by rw [hk0 w]; exact Int32.lt_of_lt_of_le (show (-1 : Int32) < 0 by decide) (nI_pos' (by omega)))
            have hx1 : x = J.1 := hq.resolve_left hx0
            obtain ⟨V', n', h', t', ih1⟩ := ihx x S.2.1 n S.2.2.1 S.2.2.2 (Or.inr (by rw [if_neg hlt]; exact hx1))
            rw [show jmax J.2 (nI (min 60 z)) = J.2 from if_neg hlt] at ih1
            refine ⟨V', n', h', t', ?_⟩
            refine fs_istore_6 dX3_kindFor_74 rfl (by decide) ?_
            refine fx_iload dX3_kindFor_76 rfl ?_
            refine fx_iload_n dX3_kindFor_78 rfl rfl ?_
            refine fx_icmp_le (tgt := 88) dX3_kindFor_79 (by decide) rC_l (fun hc79 => ?_) (fun hc79 => ?_)
            · refine fs_iinc_4 (w := nI 1) dX3_kindFor_88 (by decide) rfl (by decide) ?_
              refine fx_goto (tgt := 21) dX3_kindFor_91 (by decide) ?_
              rw [nI_add]
              refine fx_le ?_ ih1
              exact ⟨rfl, rfl, rfl, rfl, rfl, trivial⟩
            · exact absurd (Int32.not_lt.mp hlt) hc79
        rcases hr with ⟨hr, -⟩ | ⟨hr, -⟩
        · rw [if_pos (by omega)] at eT
          obtain ⟨V', n', h', t', K1⟩ := K (nI z)
          refine ⟨V', n', h', t', ?_⟩
          refine fx_iload dX3_kindFor_21 rfl ?_
          refine fx_bipush (v := nI 7) dX3_kindFor_23 (by decide) ?_
          refine fx_icmp_ge (tgt := 94) dX3_kindFor_25 (by decide) rC_l (fun hc25 => ?_) (fun hc25 => ?_)
          · exact absurd hc25 (nI_ge (by omega) (by decide))
          · refine fx_aload_n dX3_kindFor_28 rfl rfl ?_
            refine fx_get dX3_kindFor_29 kX3_16 rfl rfl ?_
            refine fx_aload_n dX3_kindFor_32 rfl rfl ?_
            refine fx_get dX3_kindFor_33 kX3_10 rfl rfl ?_
            refine fx_callVn dX3_kindFor_36 vX2_becomes lX3_154 (by decide) rfl (Nat.le_of_ble_eq_true rfl) (jBe hI) rfl ?_
            refine fx_aload_n dX3_kindFor_39 rfl rfl ?_
            refine fx_get dX3_kindFor_40 kX3_16 rfl rfl ?_
            refine fx_get dX3_kindFor_43 kX3_172 rfl rfl ?_
            refine fx_iload_n dX3_kindFor_46 rfl rfl ?_
            refine fx_iload dX3_kindFor_47 rfl ?_
            refine fx_iast dX3_kindFor_49 rfl (vp_in_nI (by omega) (by decide)) wa_12 ?_
            rw [nI_clamp (by omega), jKn (by omega)]
            refine fx_aload_n dX3_kindFor_50 rfl rfl ?_
            refine fx_get dX3_kindFor_51 kX3_16 rfl rfl ?_
            refine fx_iload_n dX3_kindFor_54 rfl rfl ?_
            refine fx_bipush (v := nI 60) dX3_kindFor_55 (by decide) ?_
            refine fx_callVv dX3_kindFor_57 vX2_tillCaught lX3_162 (by decide) rfl (Nat.le_of_ble_eq_true rfl) eT rfl ?_
            refine fs_istore_5 dX3_kindFor_60 rfl (by decide) ?_
            refine fx_iload dX3_kindFor_62 rfl ?_
            refine fx_if_ge (tgt := 72) dX3_kindFor_64 (by decide) rC_l (fun hc64 => ?_) (fun hc64 => ?_)
            · refine fx_iload dX3_kindFor_72 rfl ?_
              rw [show nI z = nI (min 60 z) by rw [Nat.min_eq_right hr]] at K1 ⊢
              exact K1
            · exact absurd (nI_pos' (by omega)) hc64
        · rw [if_neg (by omega)] at eT
          obtain ⟨V', n', h', t', K1⟩ := K (-1)
          rw [show min 60 z = 60 by omega] at K1
          refine ⟨V', n', h', t', ?_⟩
          refine fx_iload dX3_kindFor_21 rfl ?_
          refine fx_bipush (v := nI 7) dX3_kindFor_23 (by decide) ?_
          refine fx_icmp_ge (tgt := 94) dX3_kindFor_25 (by decide) rC_l (fun hc25 => ?_) (fun hc25 => ?_)
          · exact absurd hc25 (nI_ge (by omega) (by decide))
          · refine fx_aload_n dX3_kindFor_28 rfl rfl ?_
            refine fx_get dX3_kindFor_29 kX3_16 rfl rfl ?_
            refine fx_aload_n dX3_kindFor_32 rfl rfl ?_
            refine fx_get dX3_kindFor_33 kX3_10 rfl rfl ?_
            refine fx_callVn dX3_kindFor_36 vX2_becomes lX3_154 (by decide) rfl (Nat.le_of_ble_eq_true rfl) (jBe hI) rfl ?_
            refine fx_aload_n dX3_kindFor_39 rfl rfl ?_
            refine fx_get dX3_kindFor_40 kX3_16 rfl rfl ?_
            refine fx_get dX3_kindFor_43 kX3_172 rfl rfl ?_
            refine fx_iload_n dX3_kindFor_46 rfl rfl ?_
            refine fx_iload dX3_kindFor_47 rfl ?_
            refine fx_iast dX3_kindFor_49 rfl (vp_in_nI (by omega) (by decide)) wa_12 ?_
            rw [nI_clamp (by omega), jKn (by omega)]
            refine fx_aload_n dX3_kindFor_50 rfl rfl ?_
            refine fx_get dX3_kindFor_51 kX3_16 rfl rfl ?_
            refine fx_iload_n dX3_kindFor_54 rfl rfl ?_
            refine fx_bipush (v := nI 60) dX3_kindFor_55 (by decide) ?_
            refine fx_callVv dX3_kindFor_57 vX2_tillCaught lX3_162 (by decide) rfl (Nat.le_of_ble_eq_true rfl) eT rfl ?_
            refine fs_istore_5 dX3_kindFor_60 rfl (by decide) ?_
            refine fx_iload dX3_kindFor_62 rfl ?_
            refine fx_if_ge (tgt := 72) dX3_kindFor_64 (by decide) rC_l (fun hc64 => ?_) (fun hc64 => ?_)
            · exact absurd hc64 (by decide)
            · refine fx_bipush (v := nI 60) dX3_kindFor_67 (by decide) ?_
              refine fx_goto (tgt := 74) dX3_kindFor_69 (by decide) ?_
              exact K1
    obtain ⟨V', n', h', t', H0⟩ := H 7 0 (by omega) (nI 0) V2 n2 h2 t2 (Or.inl rfl)
    refine ⟨_, _, _, _, _, _, e4, ?_, jR_t (V := V') (n := n') (h := h') (t := t') R0 hA (fun j hj => pk_un hj)⟩
    refine mx_of (L := [some (.ref 0), some (.int (nI b)), none, none, none, none, none]) (by decide) (fun _ => rfl) (fun _ => Nat.le_of_ble_eq_true rfl) ?_
    refine fx_aload_n dX3_kindFor_0 rfl rfl ?_
    refine fx_iload_n dX3_kindFor_1 rfl rfl ?_
    refine fx_callVv dX3_kindFor_2 vX3_isBell lX3_91 (by decide) rfl (Nat.le_of_ble_eq_true rfl) (eX3_isBell hI hn8) rfl ?_
    refine fx_if_ne (tgt := 14) dX3_kindFor_5 (by decide) rC_l (fun hc5 => ?_) (fun hc5 => ?_)
    · refine fx_iconst (v := nI 0) dX3_kindFor_14 (by decide) ?_
      refine fs_istore_n_2 dX3_kindFor_15 rfl (by decide) ?_
      refine fx_iconst (v := (-1)) dX3_kindFor_16 (by decide) ?_
      refine fs_istore_n_3 dX3_kindFor_17 rfl (by decide) ?_
      refine fx_iconst (v := nI 0) dX3_kindFor_18 (by decide) ?_
      refine fs_istore_4 dX3_kindFor_19 rfl (by decide) ?_
      rw [j_can i2 jFr_r]
      exact H0
    · exact absurd (nI_eq0' hc5) ha
theorem P_drive (R : jR F4 G4 F N G) (a b0 : Int32) : jP mX4_drive mX3_drive [.int a, .int b0] F4 G4 F N G := by
  have R0 := R
  obtain ⟨⟨n, t, hW, hS, hH, ht, hI⟩, ⟨V2, n2, h2, t2, i2⟩, -, ⟨c1, c2, c3⟩, -⟩ := R
  have hn8 := hW.2.1
  by_cases h : jwi a (nI 0) (nI 3) = false ∨ jwi b0 (nI 0) (nI n - nI 1) = false
  · refine ⟨_, _, _, _, _, _, eX4_drive_n hW h, ?_, jR_f R0 (by decide)⟩
    refine mx_of (L := [some (.ref 0), some (.int a), some (.int b0), none, none, none, none]) (by decide) (fun _ => rfl) (fun _ => Nat.le_of_ble_eq_true rfl) ?_
    refine fx_iload_n dX3_drive_0 rfl rfl ?_
    refine fx_callSv dX3_drive_1 sX3_isHunter lX3_71 (by decide) (Nat.le_of_ble_eq_true rfl) eX3_isHunter rfl ?_
    refine fx_if_eq (tgt := 15) dX3_drive_4 (by decide) rC_l (fun hc4 => ?_) (fun hc4 => ?_)
    · refine fx_aload_n dX3_drive_15 rfl rfl ?_
      refine fx_iconst (v := nI 0) dX3_drive_16 (by decide) ?_
      refine fx_callVv dX3_drive_17 vX3_finding lX3_51 (by decide) rfl (Nat.le_of_ble_eq_true rfl) (eX3_finding (k := 0) (by decide)) rfl ?_
      exact fx_ireq dX3_drive_20 rfl rfl rfl rfl
    · refine fx_aload_n dX3_drive_7 rfl rfl ?_
      refine fx_iload_n dX3_drive_8 rfl rfl ?_
      refine fx_callVv dX3_drive_9 vX3_isBell lX3_91 (by decide) rfl (Nat.le_of_ble_eq_true rfl) (eX3_isBell hI hn8) rfl ?_
      refine fx_if_ne (tgt := 21) dX3_drive_12 (by decide) rC_l (fun hc12 => ?_) (fun hc12 => ?_)
      · exact h.elim (fun q => jtf q (nI_ne0' hc4)) (fun q => jtf q (nI_ne0' hc12))
      · refine fx_aload_n dX3_drive_15 rfl rfl ?_
        refine fx_iconst (v := nI 0) dX3_drive_16 (by decide) ?_
        refine fx_callVv dX3_drive_17 vX3_finding lX3_51 (by decide) rfl (Nat.le_of_ble_eq_true rfl) (eX3_finding (k := 0) (by decide)) rfl ?_
        exact fx_ireq dX3_drive_20 rfl rfl rfl rfl
  · obtain ⟨u, hu, rfl⟩ := jwi_of (k := 3) (by decide) (jbt_t (fun q => h (Or.inl q)))
    obtain ⟨b, hb, rfl⟩ := jbell_of hn8 (jbt_t (fun q => h (Or.inr q)))
    obtain ⟨m, A, hA, e4⟩ := eX4_drive_y (F := F4) (h := u) c1 hW (by omega) hb c3
    have hx := jdv_or (G4 1) n u b 64
    generalize hX : (jdv (G4 1) n u b 64).1 = X at e4 hx
    have H : ∀ (q c : Nat), c + q = 64 → ∀ (l6 : Option Value) (Vx : Nat → Int32) (nx : Nat) (hx : Int32) (tx : Nat), ∃ (V' : Nat → Int32) (n' : Nat) (h' : Int32) (t' : Nat), Fx mX3_drive (jout F N G X V' n' h' t') 30 [some (.ref 0), some (.int (nI u)), some (.int (nI b)), some (.int (jdv (G4 1) n u b c).1), some (.int (nI (min 21 (jdv (G4 1) n u b c).2))), some (.int (nI c)), l6] [] (jC F N G 9 Vx nx hx tx) := by
      intro q
      induction q with
      | zero =>
        intro c hc l6 Vx nx hhx tx
        have hc' : c = 64 := by omega
        subst hc'
        refine ⟨Vx, nx, hhx, tx, ?_⟩
        rw [hX]
        rcases hx with hx | ⟨d, hd, hx⟩
        · rw [hx, show jout F N G (-1) Vx nx hhx tx = (some (.int (jfd 3)), rC (pF F 9 Vx nx hhx) (pN N 9 Vx tx) (ga (pG G 9 Vx) 36 (jf1 (G 36) 3))) from if_pos rfl]
          refine fx_iload dX3_drive_30 rfl ?_
          refine fx_bipush (v := nI 64) dX3_drive_32 (by decide) ?_
          refine fx_icmp_ge (tgt := 91) dX3_drive_34 (by decide) rC_l (fun hc34 => ?_) (fun hc34 => ?_)
          · refine fx_iload_n dX3_drive_91 rfl rfl ?_
            refine fx_if_ge (tgt := 103) dX3_drive_92 (by decide) rC_l (fun hc92 => ?_) (fun hc92 => ?_)
            · exact absurd hc92 (by decide)
            · refine fx_aload_n dX3_drive_95 rfl rfl ?_
              refine fx_iconst (v := nI 3) dX3_drive_96 (by decide) ?_
              refine fx_callVv dX3_drive_97 vX3_finding lX3_51 (by decide) rfl (Nat.le_of_ble_eq_true rfl) (jFi9 (k := 3) (by decide)) rfl ?_
              refine fx_goto (tgt := 104) dX3_drive_100 (by decide) ?_
              exact fx_ireq dX3_drive_104 rfl rfl rfl rfl
          · exact absurd (Int32.le_refl _) hc34
        · rw [hx, show jout F N G (nI d) Vx nx hhx tx = (some (.int (nI d)), jC F N G 9 Vx nx hhx tx) from if_neg (nI_m1 (by omega))]
          refine fx_iload dX3_drive_30 rfl ?_
          refine fx_bipush (v := nI 64) dX3_drive_32 (by decide) ?_
          refine fx_icmp_ge (tgt := 91) dX3_drive_34 (by decide) rC_l (fun hc34 => ?_) (fun hc34 => ?_)
          · refine fx_iload_n dX3_drive_91 rfl rfl ?_
            refine fx_if_ge (tgt := 103) dX3_drive_92 (by decide) rC_l (fun hc92 => ?_) (fun hc92 => ?_)
            · refine fx_iload_n dX3_drive_103 rfl rfl ?_
              exact fx_ireq dX3_drive_104 rfl rfl rfl rfl
            · exact absurd (nI_pos' (by omega)) hc92
          · exact absurd (Int32.le_refl _) hc34
      | succ q ih =>
        intro c hc l6 Vx nx hhx tx
        have hWk := jW_hunter hW (show u < 4 by omega) (Or.inr ⟨c, show c < 64 by omega, rfl⟩)
        have e1 : jdv (G4 1) n u b (c + 1) = (if jcv (upd (G4 1) (14 + u) (nI c)) n b 20 < (jdv (G4 1) n u b c).2 then nI c else (jdv (G4 1) n u b c).1, min (jdv (G4 1) n u b c).2 (jcv (upd (G4 1) (14 + u) (nI c)) n b 20)) := rfl
        have hr := jcv_r (n := n) (b := b) (upd (G4 1) (14 + u) (nI c)) 20
        have hl := jdv_le (G4 1) n u b c
        have ihx := fun l6 Vx nx hx tx => ih (c + 1) (by omega) l6 Vx nx hx tx
        rw [e1] at ihx
        generalize hj : jdv (G4 1) n u b c = J at *
        by_cases hf : min 21 J.2 = 0
        · have h0 : J.2 = 0 := by omega
          rw [if_neg (by omega), h0, Nat.zero_min] at ihx
          obtain ⟨V', n', h', t', ih1⟩ := ihx (some (.int (-1))) (upd (G4 1) (14 + u) (nI c)) n (G4 1 0) 0
          refine ⟨V', n', h', t', ?_⟩
          rw [h0]
          refine fx_iload dX3_drive_30 rfl ?_
          refine fx_bipush (v := nI 64) dX3_drive_32 (by decide) ?_
          refine fx_icmp_ge (tgt := 91) dX3_drive_34 (by decide) jout_l (fun hc34 => ?_) (fun hc34 => ?_)
          · exact absurd hc34 (nI_ge (by omega) (by decide))
          · refine fx_aload_n dX3_drive_37 rfl rfl ?_
            refine fx_get dX3_drive_38 kX3_16 rfl rfl ?_
            refine fx_aload_n dX3_drive_41 rfl rfl ?_
            refine fx_get dX3_drive_42 kX3_10 rfl rfl ?_
            refine fx_callVn dX3_drive_45 vX2_becomes lX3_154 (by decide) rfl (Nat.le_of_ble_eq_true rfl) (jBe hI) rfl ?_
            refine fx_aload_n dX3_drive_48 rfl rfl ?_
            refine fx_get dX3_drive_49 kX3_16 rfl rfl ?_
            refine fx_get dX3_drive_52 kX3_74 rfl rfl ?_
            refine fx_iload_n dX3_drive_55 rfl rfl ?_
            refine fx_iload dX3_drive_56 rfl ?_
            refine fx_iast dX3_drive_58 rfl (vp_in_nI (by omega) (by decide)) wa_11 ?_
            rw [nI_clamp (by omega), jHu (by omega)]
            refine fx_aload_n dX3_drive_59 rfl rfl ?_
            refine fx_get dX3_drive_60 kX3_16 rfl rfl ?_
            refine fx_iload_n dX3_drive_63 rfl rfl ?_
            refine fx_iload dX3_drive_64 rfl ?_
            refine fx_iconst (v := nI 1) dX3_drive_66 (by decide) ?_
            refine fx_isub dX3_drive_67 ?_
            refine fx_as (y := (-1)) (by decide) ?_
            refine fx_callVv dX3_drive_68 vX2_tillCaught lX3_162 (by decide) rfl (Nat.le_of_ble_eq_true rfl) jTn rfl ?_
            refine fs_istore_6 dX3_drive_71 rfl (by decide) ?_
            refine fx_iload dX3_drive_73 rfl ?_
            refine fx_if_lt (tgt := 85) dX3_drive_75 (by decide) jout_l (fun hc75 => ?_) (fun hc75 => ?_)
            · refine fs_iinc_5 (w := nI 1) dX3_drive_85 (by decide) rfl (by decide) ?_
              refine fx_goto (tgt := 30) dX3_drive_88 (by decide) ?_
              rw [nI_add]
              exact ih1
            · exact absurd (by decide) hc75
        · have eT := jTi (F := F) (N := N) (G := G) (h := G4 1 0) (t := 0) (b := b) (m := min 21 J.2 - 1) (by omega) hb hWk (by decide)
          rw [jcv_sub (upd (G4 1) (14 + u) (nI c)) (show min 21 J.2 - 1 ≤ 20 by omega) (by decide)] at eT
          generalize hz : jcv (upd (G4 1) (14 + u) (nI c)) n b 20 = z at *
          generalize (jrS (upd (G4 1) (14 + u) (nI c)) n (G4 1 0) 0 (jta (upd (G4 1) (14 + u) (nI c)) n (G4 1 0) 0 b (min 21 J.2 - 1) 0).2) = S at *
          by_cases hlt : z ≤ min 21 J.2 - 1
          · rw [if_pos hlt, if_pos (by omega)] at eT
            rw [if_pos (by omega), Nat.min_eq_right (by omega)] at ihx
            rw [show min 21 z = z by omega] at ihx
            obtain ⟨V', n', h', t', ih1⟩ := ihx (some (.int (nI z))) S.2.1 n S.2.2.1 S.2.2.2
            refine ⟨V', n', h', t', ?_⟩
            refine fx_iload dX3_drive_30 rfl ?_
            refine fx_bipush (v := nI 64) dX3_drive_32 (by decide) ?_
            refine fx_icmp_ge (tgt := 91) dX3_drive_34 (by decide) jout_l (fun hc34 => ?_) (fun hc34 => ?_)
            · exact absurd hc34 (nI_ge (by omega) (by decide))
            · refine fx_aload_n dX3_drive_37 rfl rfl ?_
              refine fx_get dX3_drive_38 kX3_16 rfl rfl ?_
              refine fx_aload_n dX3_drive_41 rfl rfl ?_
              refine fx_get dX3_drive_42 kX3_10 rfl rfl ?_
              refine fx_callVn dX3_drive_45 vX2_becomes lX3_154 (by decide) rfl (Nat.le_of_ble_eq_true rfl) (jBe hI) rfl ?_
              refine fx_aload_n dX3_drive_48 rfl rfl ?_
              refine fx_get dX3_drive_49 kX3_16 rfl rfl ?_
              refine fx_get dX3_drive_52 kX3_74 rfl rfl ?_
              refine fx_iload_n dX3_drive_55 rfl rfl ?_
              refine fx_iload dX3_drive_56 rfl ?_
              refine fx_iast dX3_drive_58 rfl (vp_in_nI (by omega) (by decide)) wa_11 ?_
              rw [nI_clamp (by omega), jHu (by omega)]
              refine fx_aload_n dX3_drive_59 rfl rfl ?_
              refine fx_get dX3_drive_60 kX3_16 rfl rfl ?_
              refine fx_iload_n dX3_drive_63 rfl rfl ?_
              refine fx_iload dX3_drive_64 rfl ?_
              refine fx_iconst (v := nI 1) dX3_drive_66 (by decide) ?_
              refine fx_isub dX3_drive_67 ?_
              rw [pk_sub (by omega)]
              refine fx_callVv dX3_drive_68 vX2_tillCaught lX3_162 (by decide) rfl (Nat.le_of_ble_eq_true rfl) eT rfl ?_
              refine fs_istore_6 dX3_drive_71 rfl (by decide) ?_
              refine fx_iload dX3_drive_73 rfl ?_
              refine fx_if_lt (tgt := 85) dX3_drive_75 (by decide) jout_l (fun hc75 => ?_) (fun hc75 => ?_)
              · exact absurd hc75 (nI_pos (by omega))
              · refine fx_iload dX3_drive_78 rfl ?_
                refine fs_istore_4 dX3_drive_80 rfl (by decide) ?_
                refine fx_iload dX3_drive_82 rfl ?_
                refine fs_istore_n_3 dX3_drive_84 rfl (by decide) ?_
                refine fs_iinc_5 (w := nI 1) dX3_drive_85 (by decide) rfl (by decide) ?_
                refine fx_goto (tgt := 30) dX3_drive_88 (by decide) ?_
                rw [nI_add]
                exact ih1
          · rw [if_neg hlt, if_neg (by decide)] at eT
            rw [if_neg (by omega), Nat.min_eq_left (by omega)] at ihx
            obtain ⟨V', n', h', t', ih1⟩ := ihx (some (.int (-1))) S.2.1 n S.2.2.1 S.2.2.2
            refine ⟨V', n', h', t', ?_⟩
            refine fx_iload dX3_drive_30 rfl ?_
            refine fx_bipush (v := nI 64) dX3_drive_32 (by decide) ?_
            refine fx_icmp_ge (tgt := 91) dX3_drive_34 (by decide) jout_l (fun hc34 => ?_) (fun hc34 => ?_)
            · exact absurd hc34 (nI_ge (by omega) (by decide))
            · refine fx_aload_n dX3_drive_37 rfl rfl ?_
              refine fx_get dX3_drive_38 kX3_16 rfl rfl ?_
              refine fx_aload_n dX3_drive_41 rfl rfl ?_
              refine fx_get dX3_drive_42 kX3_10 rfl rfl ?_
              refine fx_callVn dX3_drive_45 vX2_becomes lX3_154 (by decide) rfl (Nat.le_of_ble_eq_true rfl) (jBe hI) rfl ?_
              refine fx_aload_n dX3_drive_48 rfl rfl ?_
              refine fx_get dX3_drive_49 kX3_16 rfl rfl ?_
              refine fx_get dX3_drive_52 kX3_74 rfl rfl ?_
              refine fx_iload_n dX3_drive_55 rfl rfl ?_
              refine fx_iload dX3_drive_56 rfl ?_
              refine fx_iast dX3_drive_58 rfl (vp_in_nI (by omega) (by decide)) wa_11 ?_
              rw [nI_clamp (by omega), jHu (by omega)]
              refine fx_aload_n dX3_drive_59 rfl rfl ?_
              refine fx_get dX3_drive_60 kX3_16 rfl rfl ?_
              refine fx_iload_n dX3_drive_63 rfl rfl ?_
              refine fx_iload dX3_drive_64 rfl ?_
              refine fx_iconst (v := nI 1) dX3_drive_66 (by decide) ?_
              refine fx_isub dX3_drive_67 ?_
              rw [pk_sub (by omega)]
              refine fx_callVv dX3_drive_68 vX2_tillCaught lX3_162 (by decide) rfl (Nat.le_of_ble_eq_true rfl) eT rfl ?_
              refine fs_istore_6 dX3_drive_71 rfl (by decide) ?_
              refine fx_iload dX3_drive_73 rfl ?_
              refine fx_if_lt (tgt := 85) dX3_drive_75 (by decide) jout_l (fun hc75 => ?_) (fun hc75 => ?_)
              · refine fs_iinc_5 (w := nI 1) dX3_drive_85 (by decide) rfl (by decide) ?_
                refine fx_goto (tgt := 30) dX3_drive_88 (by decide) ?_
                rw [nI_add]
                exact ih1
              · exact absurd (by decide) hc75
    obtain ⟨V', n', h', t', H0⟩ := H 64 0 (by omega) none V2 n2 h2 t2
    refine jP_out (V := V') (n := n') (h := h') (t := t') R0 hA e4 ?_
    have el : (rC F N G).length = (jout F N G X V' n' h' t').2.length := jout_l
    refine mx_of (L := [some (.ref 0), some (.int (nI u)), some (.int (nI b)), none, none, none, none]) (by decide) (fun _ => rfl) (fun _ => Nat.le_of_ble_eq_true rfl) ?_
    refine fx_iload_n dX3_drive_0 rfl rfl ?_
    refine fx_callSv dX3_drive_1 sX3_isHunter lX3_71 (by decide) (Nat.le_of_ble_eq_true rfl) eX3_isHunter rfl ?_
    rw [jwi_n (by omega) (by decide)]
    refine fx_if_eq (tgt := 15) dX3_drive_4 (by decide) el (fun hc4 => ?_) (fun hc4 => ?_)
    · exact absurd hc4 (by decide)
    · refine fx_aload_n dX3_drive_7 rfl rfl ?_
      refine fx_iload_n dX3_drive_8 rfl rfl ?_
      refine fx_callVv dX3_drive_9 vX3_isBell lX3_91 (by decide) rfl (Nat.le_of_ble_eq_true rfl) (eX3_isBell hI hn8) rfl ?_
      refine fx_if_ne (tgt := 21) dX3_drive_12 (by decide) el (fun hc12 => ?_) (fun hc12 => ?_)
      · refine fx_iconst (v := (-1)) dX3_drive_21 (by decide) ?_
        refine fs_istore_n_3 dX3_drive_22 rfl (by decide) ?_
        refine fx_bipush (v := nI 21) dX3_drive_23 (by decide) ?_
        refine fs_istore_4 dX3_drive_25 rfl (by decide) ?_
        refine fx_iconst (v := nI 0) dX3_drive_27 (by decide) ?_
        refine fs_istore_5 dX3_drive_28 rfl (by decide) ?_
        rw [j_can i2 jFr_r]
        exact H0
      · exact absurd (nI_eq0' hc12) (fun q => h (Or.inr q))
end
