/-! ===== the pair of reference and class: what holds between two calls ===== -/
set_option maxRecDepth 100000
def jSp (V : Nat → Int32) (n : Nat) : Prop := ∀ s, s < 10 → V (4 + s) = (-1) ∨ ∃ b, b < n ∧ V (4 + s) = nI b
def jHr (V : Nat → Int32) : Prop := ∃ t, t ≤ 99999 ∧ V 0 = nI t
def jsm (a : Nat → Int32) : Nat → Int32
  | 0 => nI 0
  | k + 1 => jsm a k + a k
/-- findings, tape, sheets, whether an image is kept -/
def jRr (F4 : Nat → Int32) (G4 : Nat → Nat → Int32) (F : Nat → Nat → Int32) (G : Nat → Nat → Int32) : Prop :=
  (F 0 3 = F4 3 ∧ (F4 3 = nI 0 ∨ F4 3 = nI 1)) ∧ ((∀ k, k < 7 → G 36 k = G4 4 (k + 1)) ∧ G4 4 0 = jsm (G 36) 7) ∧
  (∃ z, z ≤ 120 ∧ F4 10 = nI z ∧ F 25 1 = nI z ∧ ∀ i, i < z → G 26 i = G4 8 i ∧ ∃ b, b < 256 ∧ G4 8 i = nI b) ∧
  (jS G4 ∧ ∀ s, s < 4 → F (28 + 2 * s) 0 = G4 11 s ∧ F (28 + 2 * s) 1 = G4 12 s ∧ ∀ i, i < 40 → G (28 + 2 * s + 1) i = G4 13 (40 * s + i))
def jR (F4 : Nat → Int32) (G4 : Nat → Nat → Int32) (F : Nat → Nat → Int32) (N : Nat → Nat → Int64) (G : Nat → Nat → Int32) : Prop :=
  (∃ n t, jW (G4 1) n ∧ jSp (G4 1) n ∧ jHr (G4 1) ∧ t < 2 ^ 64 ∧ jI F N G 1 (G4 1) n (G4 1 0) t) ∧
  (∃ V n h t, jI F N G 9 V n h t) ∧
  (∃ V n h t, jI F N G 17 V n h t ∧ (¬ F4 3 = 0 → V = G4 2 ∧ h = V 0 ∧ jW V n ∧ jSp V n ∧ jHr V)) ∧
  (jK G4 ∧ (∀ k, 186 ≤ k → G4 2 k = 0) ∧ ∀ k, 186 ≤ k → G4 3 k = 0) ∧ jRr F4 G4 F G
section
variable {F4 F4' : Nat → Int32} {G4 G4' : Nat → Nat → Int32} {F F' : Nat → Nat → Int32} {N N' : Nat → Nat → Int64} {G G' : Nat → Nat → Int32}
theorem jRr_fr {w : Nat} (hw : zw w) (q : jFr F N G w F' N' G') (k : jRr F4 G4 F G) : jRr F4 G4 F' G' := by
  have hw2 : 1 ≤ w ∧ w ≤ 17 := by rcases hw with rfl | rfl | rfl <;> decide
  obtain ⟨⟨a1, a2⟩, ⟨b1, b2⟩, ⟨z, c1, c2, c3, c4⟩, d1, d2⟩ := k
  have e1 : F' 0 3 = F 0 3 := q.1 _ _ (fun x => by omega)
  have e2 : F' 25 1 = F 25 1 := q.1 _ _ (fun x => by omega)
  have e3 : G' 36 = G 36 := q.2.2 _ (fun x => by omega)
  have e4 : G' 26 = G 26 := q.2.2 _ (fun x => by omega)
  refine ⟨⟨by rw [e1]; exact a1, a2⟩, ⟨by rw [e3]; exact b1, by rw [e3]; exact b2⟩, ⟨z, c1, c2, by rw [e2]; exact c3, by rw [e4]; exact c4⟩, d1, fun s hs => ?_⟩
  rw [q.1 (28 + 2 * s) 0 (fun x => by omega), q.1 (28 + 2 * s) 1 (fun x => by omega), q.2.2 (28 + 2 * s + 1) (fun x => by omega)]
  exact d2 s hs
theorem jRr_4 (k : jRr F4 G4 F G) (e3 : F4' 3 = F4 3) (e10 : F4' 10 = F4 10) (g4 : G4' 4 = G4 4) (g8 : G4' 8 = G4 8) (g11 : G4' 11 = G4 11) (g12 : G4' 12 = G4 12) (g13 : G4' 13 = G4 13) : jRr F4' G4' F G := by
  unfold jRr jS at *
  rw [e3, e10, g4, g8, g11, g12, g13]
  exact k
/-- the woods change -/
theorem jR_w {V : Nat → Int32} {n t : Nat} {h : Int32} (R : jR F4 G4 F N G) (hW : jW V n) (hS : jSp V n) (hH : jHr V) (ht : t < 2 ^ 64) (hh : h = V 0) (e : ∀ j, j ≠ 7 → F4' j = F4 j) : jR F4' (ga G4 1 V) (pF F 1 V n h) (pN N 1 V t) (pG G 1 V) := by
  subst hh
  obtain ⟨-, ⟨V2, n2, h2, t2, i2⟩, ⟨V3, n3, h3, t3, i3, k3⟩, ⟨c1, c2, c3⟩, r⟩ := R
  refine ⟨⟨n, t, ?_, ?_, ?_, ht, ?_⟩, ⟨V2, n2, h2, t2, jI_fr i2 jFr_p (Or.inl (by decide))⟩, ⟨V3, n3, h3, t3, jI_fr i3 jFr_p (Or.inl (by decide)), ?_⟩, ⟨c1.ga (by decide), ?_, ?_⟩, ?_⟩
  · rw [ga_s]; exact hW
  · rw [ga_s]; exact hS
  · rw [ga_s]; exact hH
  · rw [ga_s]; exact jI_p
  · rw [e 3 (by decide), ga_n _ _ (by decide)]; exact k3
  · rw [ga_n _ _ (by decide)]; exact c2
  · rw [ga_n _ _ (by decide)]; exact c3
  · exact jRr_4 (jRr_fr zw1 (jFr_p (N := N) (t := 0)) r) (e 3 (by decide)) (e 10 (by decide)) (ga_n _ _ (by decide)) (ga_n _ _ (by decide)) (ga_n _ _ (by decide)) (ga_n _ _ (by decide)) (ga_n _ _ (by decide))
/-- the trial's woods change, and the row aside -/
theorem jR_t {V A : Nat → Int32} {n t : Nat} {h : Int32} (R : jR F4 G4 F N G) (hA : ∀ k, 186 ≤ k → A k = 0) (e : ∀ j, j ≠ 7 → F4' j = F4 j) : jR F4' (ga G4 3 A) (pF F 9 V n h) (pN N 9 V t) (pG G 9 V) := by
  obtain ⟨⟨n1, t1, w1, w2, w3, w4, w5⟩, -, ⟨V3, n3, h3, t3, i3, k3⟩, ⟨c1, c2, c3⟩, r⟩ := R
  refine ⟨⟨n1, t1, ?_, ?_, ?_, w4, ?_⟩, ⟨V, n, h, t, jI_p⟩, ⟨V3, n3, h3, t3, jI_fr i3 jFr_p (Or.inl (by decide)), ?_⟩, ⟨c1.ga (by decide), ?_, ?_⟩, ?_⟩
  · rw [ga_n _ _ (by decide)]; exact w1
  · rw [ga_n _ _ (by decide)]; exact w2
  · rw [ga_n _ _ (by decide)]; exact w3
  · rw [ga_n _ _ (by decide)]; exact jI_fr w5 jFr_p (Or.inr (by decide))
  · rw [e 3 (by decide), ga_n _ _ (by decide)]; exact k3
  · rw [ga_n _ _ (by decide)]; exact c2
  · rw [ga_s]; exact hA
  · exact jRr_4 (jRr_fr zw9 (jFr_p (N := N) (t := 0)) r) (e 3 (by decide)) (e 10 (by decide)) (ga_n _ _ (by decide)) (ga_n _ _ (by decide)) (ga_n _ _ (by decide)) (ga_n _ _ (by decide)) (ga_n _ _ (by decide))
def jf1 (a : Nat → Int32) (k : Nat) : Nat → Int32 := upd a k (a k + nI 1)
theorem jsm_u (a : Nat → Int32) (k : Nat) : ∀ m, jsm (jf1 a k) m = if k < m then jsm a m + nI 1 else jsm a m := by
  intro m
  induction m with
  | zero => rfl
  | succ m ih =>
    show jsm (jf1 a k) m + jf1 a k m = if k < m + 1 then jsm a m + a m + nI 1 else jsm a m + a m
    rw [ih]
    unfold jf1
    by_cases e : m = k
    · subst e; rw [if_neg (Nat.lt_irrefl _), pk_us, if_pos (Nat.lt_succ_self _), Int32.add_assoc]
    · rw [pk_un e]
      by_cases q : k < m
      · rw [if_pos q, if_pos (by omega), Int32.add_assoc, Int32.add_comm (nI 1), ← Int32.add_assoc]
      · rw [if_neg q, if_neg (by omega)]
/-- nothing but G 36, G 4 changes there -/
theorem jI_36 {w : Nat} {V : Nat → Int32} {n : Nat} {h : Int32} {t p : Nat} {a : Nat → Int32} (k : jI F N G w V n h t) (hp : w + 7 < p) : jI F N (ga G p a) w V n h t := by
  obtain ⟨k1, k2, k3, k4, k5, k6, k7, k8, k9, k10, k11, k12, k13, k14⟩ := k
  refine ⟨k1, k2, k3, k4, k5, k6, k7, ?_, ?_, ?_, ?_, ?_, ?_, ?_⟩
  · rw [ga_n _ _ (by omega)]; exact k8
  · rw [ga_n _ _ (by omega)]; exact k9
  · rw [ga_n _ _ (by omega)]; exact k10
  · rw [ga_n _ _ (by omega)]; exact k11
  · rw [ga_n _ _ (by omega)]; exact k12
  · rw [ga_n _ _ (by omega)]; exact k13
  · rw [ga_n _ _ (by omega)]; exact k14
/-- the same without the woods: what other objects are -/
theorem jR_o (R : jR F4 G4 F N G) (w : ∀ p V n h t, zw p → jI F N G p V n h t → jI F' N' G' p V n h t) (e3 : F4' 3 = F4 3) (g1 : G4' 1 = G4 1) (g2 : G4' 2 = G4 2) (g3 : ∀ k, 186 ≤ k → G4' 3 k = 0) (gk : jK G4') (r : jRr F4' G4' F' G') : jR F4' G4' F' N' G' := by
  obtain ⟨⟨n1, t1, w1, w2, w3, w4, w5⟩, ⟨V2, n2, h2, t2, i2⟩, ⟨V3, n3, h3, t3, i3, k3⟩, ⟨c1, c2, c3⟩, -⟩ := R
  refine ⟨⟨n1, t1, ?_, ?_, ?_, w4, ?_⟩, ⟨V2, n2, h2, t2, w _ _ _ _ _ zw9 i2⟩, ⟨V3, n3, h3, t3, w _ _ _ _ _ zw17 i3, ?_⟩, ⟨gk, ?_, g3⟩, r⟩
  · rw [g1]; exact w1
  · rw [g1]; exact w2
  · rw [g1]; exact w3
  · rw [g1]; exact w _ _ _ _ _ zw1 w5
  · rw [e3, g2]; exact k3
  · rw [g2]; exact c2
theorem jR_f {k : Nat} (R : jR F4 G4 F N G) (hk : k < 7) : jR F4 (ga G4 4 (jfc (G4 4) k)) F N (ga G 36 (jf1 (G 36) k)) := by
  have r := R.2.2.2.2
  have c := R.2.2.2.1
  refine jR_o R (fun p V n h t hp q => jI_36 q (by rcases hp with rfl | rfl | rfl <;> decide)) rfl (ga_n _ _ (by decide)) (ga_n _ _ (by decide)) (by rw [ga_n _ _ (by decide)]; exact c.2.2) (c.1.ga (by decide)) ?_
  obtain ⟨a, ⟨b1, b2⟩, ⟨z, c1, c2, c3, c4⟩, d1, d2⟩ := r
  refine ⟨a, ⟨fun j hj => ?_, ?_⟩, ⟨z, c1, c2, c3, fun i hi => ?_⟩, ?_, fun s hs => ?_⟩
  · rw [ga_s, ga_s]
    unfold jf1 jfc
    rw [pk_un (show j + 1 ≠ 0 by omega)]
    by_cases e : j = k
    · subst e; rw [pk_us, pk_us, b1 j hj]
    · rw [pk_un e, pk_un (by omega), b1 j hj]
  · rw [ga_s, ga_s, jsm_u, if_pos hk]
    unfold jfc
    rw [pk_us, b2]
  · rw [ga_n _ _ (by decide), ga_n _ _ (by decide)]; exact c4 i hi
  · intro s hs; rw [ga_n _ _ (by decide), ga_n _ _ (by decide)]; exact d1 s hs
  · rw [ga_n _ _ (by omega), ga_n _ _ (by omega), ga_n _ _ (by omega), ga_n _ _ (by omega)]; exact d2 s hs
/-- both answer alike, and go on so -/
def jP (mr mc : zM) (as : List Value) (F4 : Nat → Int32) (G4 : Nat → Nat → Int32) (F : Nat → Nat → Int32) (N : Nat → Nat → Int64) (G : Nat → Nat → Int32) : Prop :=
  ∃ v : Int32, ∃ F4' G4' F' N' G', Mx mr (.ref 0 :: as) (rM F4 G4) (some (.int v)) (rM F4' G4') ∧ Mx mc (.ref 0 :: as) (rC F N G) (some (.int v)) (rC F' N' G') ∧ jR F4' G4' F' N' G'
def jPl (mr mc : zM) (as : List Value) (F4 : Nat → Int32) (G4 : Nat → Nat → Int32) (F : Nat → Nat → Int32) (N : Nat → Nat → Int64) (G : Nat → Nat → Int32) : Prop :=
  ∃ v : Int64, ∃ F4' G4' F' N' G', Mx mr (.ref 0 :: as) (rM F4 G4) (some (.long v)) (rM F4' G4') ∧ Mx mc (.ref 0 :: as) (rC F N G) (some (.long v)) (rC F' N' G') ∧ jR F4' G4' F' N' G'
theorem eX3_finding {k : Nat} (hk : k < 7) : Mx mX3_finding [.ref 0, .int (nI k)] (rC F N G) (some (.int (jfd k))) (rC F N (ga G 36 (jf1 (G 36) k))) := by
  refine mx_of (L := [some (.ref 0), some (.int (nI k))]) (by decide) (fun _ => rfl) (fun _ => Nat.le_of_ble_eq_true rfl) ?_
  refine fx_iload_n dX3_finding_0 rfl rfl ?_
  refine fx_if_lt (tgt := 20) dX3_finding_1 (by decide) rC_l (fun hc1 => ?_) (fun hc1 => ?_)
  · exact absurd hc1 (nI_pos (by omega))
  · refine fx_iload_n dX3_finding_4 rfl rfl ?_
    refine fx_bipush (v := nI 7) dX3_finding_5 (by decide) ?_
    refine fx_icmp_ge (tgt := 20) dX3_finding_7 (by decide) rC_l (fun hc7 => ?_) (fun hc7 => ?_)
    · exact absurd hc7 (nI_ge (by omega) (by omega))
    · refine fx_aload_n dX3_finding_10 rfl rfl ?_
      refine fx_get dX3_finding_11 kX3_40 rfl rfl ?_
      refine fx_iload_n dX3_finding_14 rfl rfl ?_
      refine fx_dup2 dX3_finding_15 rfl rfl ?_
      refine fx_iald dX3_finding_16 rfl (vp_in_nI hk (by decide)) ?_
      refine fx_iconst (v := nI 1) dX3_finding_17 (by decide) ?_
      refine fx_iadd dX3_finding_18 ?_
      refine fx_iast dX3_finding_19 rfl (vp_in_nI hk (by decide)) wc_36 ?_
      rw [nI_clamp (by omega)]
      refine fx_ldcw dX3_finding_20 qX3_278 ?_
      refine fx_iload_n dX3_finding_23 rfl rfl ?_
      refine fx_isub dX3_finding_24 ?_
      exact fx_ireq dX3_finding_25 rfl rfl rfl rfl
theorem jbell_c {v : Int32} {n : Nat} (hn : n ≤ 8) : (v < 0 → jwi v (nI 0) (nI n - nI 1) = false) ∧ (nI n ≤ v → jwi v (nI 0) (nI n - nI 1) = false) ∧ (¬ v < 0 → ¬ nI n ≤ v → jwi v (nI 0) (nI n - nI 1) = true) := by
  refine ⟨fun h => jwi_lo (by rw [nI_0]; exact h), fun h => ?_, fun h h2 => ?_⟩
  · cases e : jwi v (nI 0) (nI n - nI 1)
    · rfl
    · obtain ⟨b, hb, rfl⟩ := jbell_of hn e
      exact absurd h (nI_ge hb (by omega))
  · obtain ⟨b, hb, rfl⟩ := nI_of h
    have hl : b < n := by
      refine Nat.lt_of_not_le fun q => h2 (nI_le q hb)
    exact jbell_y hl hn
theorem eX3_isBell {V : Nat → Int32} {n : Nat} {h : Int32} {t : Nat} {v : Int32} (hI : jI F N G 1 V n h t) (hn : n ≤ 8) : Mx mX3_isBell [.ref 0, .int v] (rC F N G) (some (.int (jB (jwi v (nI 0) (nI n - nI 1))))) (rC F N G) := by
  refine mx_of (L := [some (.ref 0), some (.int v)]) (by decide) (fun _ => rfl) (fun _ => Nat.le_of_ble_eq_true rfl) ?_
  obtain ⟨j1, j2, j3⟩ := jbell_c (v := v) hn
  refine fx_iload_n dX3_isBell_0 rfl rfl ?_
  refine fx_if_lt (tgt := 19) dX3_isBell_1 (by decide) rfl (fun hc1 => ?_) (fun hc1 => ?_)
  · refine fx_iconst (v := nI 0) dX3_isBell_19 (by decide) ?_
    exact fx_ireq dX3_isBell_20 rfl (jB_n _) (by first | (rw [j1 hc1]; rfl) | (rw [j2 hc12]; rfl) | (rw [j3 hc1 hc12]; rfl)) rfl
  · refine fx_iload_n dX3_isBell_4 rfl rfl ?_
    refine fx_aload_n dX3_isBell_5 rfl rfl ?_
    refine fx_get dX3_isBell_6 kX3_10 rfl rfl ?_
    refine fx_get dX3_isBell_9 kX3_84 (a2 zw1) rfl ?_
    rw [jI_5 hI]
    refine fx_icmp_ge (tgt := 19) dX3_isBell_12 (by decide) rfl (fun hc12 => ?_) (fun hc12 => ?_)
    · refine fx_iconst (v := nI 0) dX3_isBell_19 (by decide) ?_
      exact fx_ireq dX3_isBell_20 rfl (jB_n _) (by first | (rw [j1 hc1]; rfl) | (rw [j2 hc12]; rfl) | (rw [j3 hc1 hc12]; rfl)) rfl
    · refine fx_iconst (v := nI 1) dX3_isBell_15 (by decide) ?_
      refine fx_goto (tgt := 20) dX3_isBell_16 (by decide) ?_
      exact fx_ireq dX3_isBell_20 rfl (jB_n _) (by first | (rw [j1 hc1]; rfl) | (rw [j2 hc12]; rfl) | (rw [j3 hc1 hc12]; rfl)) rfl
end
