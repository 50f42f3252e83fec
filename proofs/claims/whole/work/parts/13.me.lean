/-! ===== the reference: an hour, hours, what is put back ===== -/
set_option maxRecDepth 100000
theorem jB_f (b : Bool) : fits .boolean (.int (jB b)) = true := by cases b <;> decide
theorem ga_id (G : Nat → Nat → Int32) (k : Nat) : ga G k (G k) = G := by
  funext j
  unfold ga
  by_cases e : j = k
  · rw [if_pos e, e]
  · rw [if_neg e]
theorem upd_id (f : Nat → Int32) (k : Nat) : upd f k (f k) = f := by
  funext j
  unfold upd
  by_cases e : j = k
  · rw [if_pos e, e]
  · rw [if_neg e]
theorem ga_comm (G : Nat → Nat → Int32) {k l : Nat} (a b : Nat → Int32) (h : k ≠ l) : ga (ga G k a) l b = ga (ga G l b) k a := by
  funext j
  unfold ga
  by_cases e : j = k
  · by_cases e2 : j = l
    · exact absurd (e.symm.trans e2) h
    · rw [if_neg e2, if_pos e, if_pos e]
  · by_cases e2 : j = l
    · rw [if_pos e2, if_neg e, if_pos e2]
    · rw [if_neg e2, if_neg e, if_neg e, if_neg e2]
/-- what bells up to b did in an hour -/
def jhv (V : Nat → Int32) (n : Nat) : Nat → Nat → Int32
  | 0 => V
  | b + 1 => if jhv V n b (146 + 5 * b + 4) = nI 1 then jhv V n b else upd (upd (jhv V n b) (146 + 5 * b + 1) (nI (jnext (jhv V n b) b n))) (146 + 5 * b + 4) (jB (decide (jhv V n b (18 + jnext (jhv V n b) b n) = nI 1)))
def jhm (V : Nat → Int32) (n : Nat) : Nat → Bool
  | 0 => false
  | b + 1 => if jhv V n b (146 + 5 * b + 4) = nI 1 then jhm V n b else (jhm V n b || (!decide (nI (jnext (jhv V n b) b n) = jhv V n b (146 + 5 * b + 1)) || decide (jhv V n b (18 + jnext (jhv V n b) b n) = nI 1)))
def jhour (V : Nat → Int32) (n : Nat) : Nat → Int32 := upd (jhv V n n) 0 (jhv V n n 0 + nI 1)
def jmov (V : Nat → Int32) (n : Nat) : Bool := jhm V n n
def jhrs (V : Nat → Int32) (n : Nat) : Nat → Nat → Int32
  | 0 => V
  | k + 1 => jhour (jhrs V n k) n
def jmv (m : Int32) (V : Nat → Int32) (n : Nat) : Nat → Int32
  | 0 => m
  | k + 1 => jB (jmov (jhrs V n k) n)
theorem jW_h0 {V : Nat → Int32} {n : Nat} {x : Int32} (h : jW V n) : jW (upd V 0 x) n := by
  obtain ⟨h1, h2, h3, h4, h5, h6, h7, h8⟩ := h
  refine ⟨by rw [pk_un (by omega)]; exact h1, h2, fun o ho => ?_, fun q hq => by rw [pk_un (by omega)]; exact h4 q hq, fun q hq => by rw [pk_un (by omega)]; exact h5 q hq, fun q hq => by rw [pk_un (by omega)]; exact h6 q hq, by rw [pk_un (by omega)]; exact h7, fun k hk => by rw [pk_un (by omega)]; exact h8 k hk⟩
  rw [pk_un (by omega), pk_un (by omega), pk_un (by omega), pk_un (by omega), pk_un (by omega)]
  exact h3 o ho
theorem jgood_1 {c : Nat} (hc : c < 64) : jgood 1 (nI c) := ⟨fun h => absurd h (by decide), fun _ => ⟨c, hc, rfl⟩, fun h => absurd h (by decide), fun h => absurd h (by decide), fun h => absurd h (by decide)⟩
theorem jgood_4 (b : Bool) : jgood 4 (jB b) := ⟨fun h => absurd h (by decide), fun h => absurd h (by decide), fun h => absurd h (by decide), fun h => absurd h (by decide), fun _ => by cases b <;> decide⟩
theorem jW_hv {V : Nat → Int32} {n : Nat} (h : jW V n) : ∀ b, b ≤ n → jW (jhv V n b) n := by
  intro b
  induction b with
  | zero => intro _; exact h
  | succ b ih =>
    intro hb
    have h1 := ih (by omega)
    unfold jhv
    by_cases e : jhv V n b (146 + 5 * b + 4) = nI 1
    · rw [if_pos e]; exact h1
    · rw [if_neg e]
      exact jW_f (jW_f h1 (by omega) (by decide) (jgood_1 (jnext_lt h1 (by omega)))) (by omega) (by decide) (jgood_4 _)
theorem jW_hour {V : Nat → Int32} {n : Nat} (h : jW V n) : jW (jhour V n) n := jW_h0 (jW_hv h n (Nat.le_refl n))
theorem jW_hrs {V : Nat → Int32} {n : Nat} (h : jW V n) : ∀ k, jW (jhrs V n k) n := by
  intro k
  induction k with
  | zero => exact h
  | succ k ih => exact jW_hour ih
def jfill (f g : Nat → Int32) (i : Nat) : Nat → Int32 := fun k => if k < i then f k else g k
theorem jfill_s (f g : Nat → Int32) (i : Nat) : upd (jfill f g i) i (f i) = jfill f g (i + 1) := by
  funext k
  unfold upd jfill
  by_cases e : k = i
  · rw [if_pos e, if_pos (by omega), e]
  · rw [if_neg e]
    by_cases q : k < i
    · rw [if_pos q, if_pos (by omega)]
    · rw [if_neg q, if_neg (by omega)]
theorem jfill_e {f g : Nat → Int32} {i : Nat} (hf : ∀ k, i ≤ k → f k = 0) (hg : ∀ k, i ≤ k → g k = 0) : jfill f g i = f := by
  funext k
  unfold jfill
  by_cases e : k < i
  · rw [if_pos e]
  · rw [if_neg e, hf k (by omega), hg k (by omega)]
def zp (p : Nat) : Prop := p = 1 ∨ p = 2 ∨ p = 3
theorem a4p {F : Nat → Int32} {G : Nat → Nat → Int32} {p : Nat} (hp : zp p) : z_at (rM F G) p = some (.inl (0, 186, .inl (G p))) := by rcases hp with rfl | rfl | rfl <;> rfl
theorem w4p {F : Nat → Int32} {G : Nat → Nat → Int32} {p : Nat} (hp : zp p) {a : Nat → Int32} : z_set (rM F G) p (.inl (0, 186, .inl a)) = rM F (ga G p a) := by rcases hp with rfl | rfl | rfl <;> rfl
section
variable {F : Nat → Int32} {G : Nat → Nat → Int32} {n : Nat}
theorem eX4_copyRow {p q : Nat} (hp : zp p) (hq : zp q) (hpq : p ≠ q) (h1 : ∀ k, 186 ≤ k → G p k = 0) (h2 : ∀ k, 186 ≤ k → G q k = 0) : Mx mX4_copyRow [.ref p, .ref q] (rM F G) none (rM F (ga G q (G p))) := by
  refine mx_of (L := [some (.ref p), some (.ref q), none]) (by decide) (fun _ => rfl) (fun _ => Nat.le_of_ble_eq_true rfl) ?_
  have e0 : jfill (G p) (G q) 186 = G p := jfill_e h1 h2
  have H : ∀ (k i : Nat), i + k = 186 → Fx mX4_copyRow (none, rM F (ga G q (G p))) 2 [some (.ref p), some (.ref q), some (.int (nI i))] [] (rM F (ga G q (jfill (G p) (G q) i))) := by
    intro k
    induction k with
    | zero =>
      intro i hi
      have hi' : i = 186 := by omega
      subst hi'
      rw [e0]
      refine fx_iload_n dX4_copyRow_2 rfl rfl ?_
      refine fx_sipush (v := nI 186) dX4_copyRow_3 (by decide) ?_
      refine fx_icmp_ge (tgt := 21) dX4_copyRow_6 (by decide) rfl (fun hc6 => ?_) (fun hc6 => ?_)
      · exact fx_vreq dX4_copyRow_21 rfl rfl
      · exact absurd (Int32.le_refl _) hc6
    | succ k ih =>
      intro i hi
      refine fx_iload_n dX4_copyRow_2 rfl rfl ?_
      refine fx_sipush (v := nI 186) dX4_copyRow_3 (by decide) ?_
      refine fx_icmp_ge (tgt := 21) dX4_copyRow_6 (by decide) rfl (fun hc6 => ?_) (fun hc6 => ?_)
      · exact absurd hc6 (nI_ge (by omega) (by omega))
      · refine fx_aload_n dX4_copyRow_9 rfl rfl ?_
        refine fx_iload_n dX4_copyRow_10 rfl rfl ?_
        refine fx_aload_n dX4_copyRow_11 rfl rfl ?_
        refine fx_iload_n dX4_copyRow_12 rfl rfl ?_
        refine fx_iald dX4_copyRow_13 (a4p hp) (vp_in_nI (by omega) (by omega)) ?_
        refine fx_iast dX4_copyRow_14 (a4p hq) (vp_in_nI (by omega) (by omega)) (w4p hq) ?_
        rw [nI_clamp (by omega), ga_s, ga_n G _ hpq, jfill_s, ga_ga]
        refine fs_iinc_2 (w := nI 1) dX4_copyRow_15 (by decide) rfl (by decide) ?_
        refine fx_goto (tgt := 2) dX4_copyRow_18 (by decide) ?_
        rw [nI_add]
        exact ih (i + 1) (by omega)
  have H0 := H 186 0 (by omega)
  rw [show jfill (G p) (G q) 0 = G q from rfl, ga_id] at H0
  refine fx_iconst (v := nI 0) dX4_copyRow_0 (by decide) ?_
  refine fs_istore_n_2 dX4_copyRow_1 rfl (by decide) ?_
  exact H0
theorem eX4_putBack {v : Int32} (h1 : ∀ k, 186 ≤ k → G 1 k = 0) (h3 : ∀ k, 186 ≤ k → G 3 k = 0) : Mx mX4_putBack [.ref 0, .int v] (rM F G) (some (.int v)) (rM F (ga G 1 (G 3))) := by
  refine mx_of (L := [some (.ref 0), some (.int v)]) (by decide) (fun _ => rfl) (fun _ => Nat.le_of_ble_eq_true rfl) ?_
  refine fx_aload_n dX4_putBack_0 rfl rfl ?_
  refine fx_get dX4_putBack_1 kX4_16 rfl rfl ?_
  refine fx_aload_n dX4_putBack_4 rfl rfl ?_
  refine fx_get dX4_putBack_5 kX4_9 rfl rfl ?_
  refine fx_callSn dX4_putBack_8 sX4_copyRow lX4_70 (by decide) (Nat.le_of_ble_eq_true rfl) (eX4_copyRow (Or.inr (Or.inr rfl)) (Or.inl rfl) (by decide) h3 h1) rfl ?_
  refine fx_iload_n dX4_putBack_11 rfl rfl ?_
  exact fx_ireq dX4_putBack_12 rfl rfl rfl rfl
theorem eX4_hour (hK : jK G) (hV : jW (G 1) n) : Mx mX4_hour [.ref 0] (rM F G) none (rM (upd F 7 (jB (jmov (G 1) n))) (ga G 1 (jhour (G 1) n))) := by
  refine mx_of (L := [some (.ref 0), none, none]) (by decide) (fun _ => rfl) (fun _ => Nat.le_of_ble_eq_true rfl) ?_
  have hn8 := hV.2.1
  have H : ∀ (k b : Nat), b + k = n → ∀ (x2 : Option Value) (m : Bool) (W : Nat → Int32), m = jhm (G 1) n b → W = jhv (G 1) n b → Fx mX4_hour (none, rM (upd F 7 (jB (jmov (G 1) n))) (ga G 1 (jhour (G 1) n))) 7 [some (.ref 0), some (.int (nI b)), x2] [] (rM (upd F 7 (jB m)) (ga G 1 W)) := by
    intro k
    induction k with
    | zero =>
      intro b hb x2 m W em eW
      have hb' : b = n := by omega
      subst hb'
      have hW : jW W b := by rw [eW]; exact jW_hv hV b (Nat.le_refl b)
      refine fx_iload_n dX4_hour_7 rfl rfl ?_
      refine fx_aload_n dX4_hour_8 rfl rfl ?_
      refine fx_get dX4_hour_9 kX4_9 rfl rfl ?_
      refine fx_iconst (v := nI 2) dX4_hour_12 (by decide) ?_
      refine fx_iald dX4_hour_13 rfl (vp_in_nI (by decide) (by decide)) ?_
      rw [nI_clamp (n := 2) (by decide), ga_s, hW.1]
      refine fx_icmp_ge (tgt := 105) dX4_hour_14 (by decide) rfl (fun hc14 => ?_) (fun hc14 => ?_)
      · refine fx_aload_n dX4_hour_105 rfl rfl ?_
        refine fx_get dX4_hour_106 kX4_9 rfl rfl ?_
        refine fx_iconst (v := nI 0) dX4_hour_109 (by decide) ?_
        refine fx_dup2 dX4_hour_110 rfl rfl ?_
        refine fx_iald dX4_hour_111 rfl (vp_in_nI (by decide) (by decide)) ?_
        refine fx_iconst (v := nI 1) dX4_hour_112 (by decide) ?_
        refine fx_iadd dX4_hour_113 ?_
        refine fx_iast dX4_hour_114 rfl (vp_in_nI (by decide) (by decide)) (w4_1 ..) ?_
        exact fx_vreq dX4_hour_115 rfl (by rw [nI_clamp (n := 0) (by decide), ga_s, ga_ga, em, eW]; rfl)
      · exact absurd (Int32.le_refl _) hc14
    | succ k ih =>
      intro b hb x2 m W em eW
      have hW : jW W n := by rw [eW]; exact jW_hv hV b (by omega)
      have hn := jnext_lt hW (show b < n by omega)
      have eC := eX4_isCaught (F := upd F 7 (jB m)) (G := ga G 1 W) (b := b) (by omega)
      rw [ga_s] at eC
      have eN : Mx mX4_nextOf [.ref 0, .int (nI b)] (rM (upd F 7 (jB m)) (ga G 1 W)) (some (.int (nI (jnext W b n)))) (rM (upd F 7 (jB m)) (ga G 1 W)) := by
        have := eX4_nextOf (F := upd F 7 (jB m)) (G := ga G 1 W) (n := n) (b := b) (hK.ga (by decide)) (by rw [ga_s]; exact hW) (by omega)
        rw [ga_s] at this
        exact this
      have eT : ∀ (F2 : Nat → Int32) (W2 : Nat → Int32), Mx mX4_hasNet [.ref 0, .int (nI (jnext W b n))] (rM F2 (ga G 1 W2)) (some (.int (jB (decide (W2 (18 + jnext W b n) = nI 1))))) (rM F2 (ga G 1 W2)) := by
        intro F2 W2
        have := eX4_hasNet (F := F2) (G := ga G 1 W2) hn
        rw [ga_s] at this
        exact this
      have eB : ∀ (F2 : Nat → Int32), Mx mX4_bellIs [.ref 0, .int (nI b), .int (nI 1)] (rM F2 (ga G 1 W)) (some (.int (W (146 + 5 * b + 1)))) (rM F2 (ga G 1 W)) := by
        intro F2
        have := eM_bell (F := F2) (G := ga G 1 W) (b := b) (f := 1) (by omega) (by decide)
        rw [ga_s] at this
        exact this
      by_cases hcg : W (146 + 5 * b + 4) = nI 1
      · have e1 : jhv (G 1) n (b + 1) = W := by rw [eW] at hcg ⊢; exact if_pos hcg
        have e2 : jhm (G 1) n (b + 1) = m := by rw [em]; rw [eW] at hcg; exact if_pos hcg
        refine fx_iload_n dX4_hour_7 rfl rfl ?_
        refine fx_aload_n dX4_hour_8 rfl rfl ?_
        refine fx_get dX4_hour_9 kX4_9 rfl rfl ?_
        refine fx_iconst (v := nI 2) dX4_hour_12 (by decide) ?_
        refine fx_iald dX4_hour_13 rfl (vp_in_nI (by decide) (by decide)) ?_
        rw [nI_clamp (n := 2) (by decide), ga_s, hW.1]
        refine fx_icmp_ge (tgt := 105) dX4_hour_14 (by decide) rfl (fun hc14 => ?_) (fun hc14 => ?_)
        · exact absurd hc14 (nI_ge (by omega) (by omega))
        · refine fx_aload_n dX4_hour_17 rfl rfl ?_
          refine fx_iload_n dX4_hour_18 rfl rfl ?_
          refine fx_callVv dX4_hour_19 vX4_isCaught lX4_115 (by decide) rfl (Nat.le_of_ble_eq_true rfl) eC rfl ?_
          rw [decide_eq_true hcg]
          refine fx_if_ne (tgt := 99) dX4_hour_22 (by decide) rfl (fun hc22 => ?_) (fun hc22 => ?_)
          · refine fs_iinc_1 (w := nI 1) dX4_hour_99 (by decide) rfl (by decide) ?_
            refine fx_goto (tgt := 7) dX4_hour_102 (by decide) ?_
            rw [nI_add]
            exact ih (b + 1) (by omega) _ _ _ e2.symm e1.symm
          · exact absurd hc22 (by decide)
      · have e1 : jhv (G 1) n (b + 1) = upd (upd W (146 + 5 * b + 1) (nI (jnext W b n))) (146 + 5 * b + 4) (jB (decide (W (18 + jnext W b n) = nI 1))) := by rw [eW] at hcg ⊢; exact if_neg hcg
        have e2 : jhm (G 1) n (b + 1) = (m || (!decide (nI (jnext W b n) = W (146 + 5 * b + 1)) || decide (W (18 + jnext W b n) = nI 1))) := by rw [em]; rw [eW] at hcg ⊢; exact if_neg hcg
        have J62 : ∀ v : Bool, (m || (!decide (nI (jnext W b n) = W (146 + 5 * b + 1)) || decide (W (18 + jnext W b n) = nI 1))) = v → Fx mX4_hour (none, rM (upd F 7 (jB (jmov (G 1) n))) (ga G 1 (jhour (G 1) n))) 62 [some (.ref 0), some (.int (nI b)), some (.int (nI (jnext W b n)))] [.int (jB v), .ref 0] (rM (upd F 7 (jB m)) (ga G 1 W)) := by
          intro v hv
          have J98 : ∀ w : Bool, decide (W (18 + jnext W b n) = nI 1) = w → Fx mX4_hour (none, rM (upd F 7 (jB (jmov (G 1) n))) (ga G 1 (jhour (G 1) n))) 98 [some (.ref 0), some (.int (nI b)), some (.int (nI (jnext W b n)))] [.int (jB w), .int (jat (nI b) (nI 4)), .ref 1] (rM (upd F 7 (jB v)) (ga G 1 (upd W (146 + 5 * b + 1) (nI (jnext W b n))))) := by
            intro w hw
            refine fx_iast dX4_hour_98 rfl (jat_in (by omega) (by decide)) (w4_1 ..) ?_
            rw [jat_c (by omega) (by decide), ga_s, ga_ga, ← hw, ← e1]
            refine fs_iinc_1 (w := nI 1) dX4_hour_99 (by decide) rfl (by decide) ?_
            refine fx_goto (tgt := 7) dX4_hour_102 (by decide) ?_
            rw [nI_add]
            exact ih (b + 1) (by omega) _ _ _ (by rw [← hv]; exact e2.symm) rfl
          refine fx_put dX4_hour_62 kX4_162 rfl (Nat.le_of_ble_eq_true rfl) (fun _ => rfl) (jB_n _) (jB_f _) (u4_7 ..) ?_
          rw [upd_upd]
          refine fx_aload_n dX4_hour_65 rfl rfl ?_
          refine fx_get dX4_hour_66 kX4_9 rfl rfl ?_
          refine fx_iload_n dX4_hour_69 rfl rfl ?_
          refine fx_iconst (v := nI 1) dX4_hour_70 (by decide) ?_
          refine fx_callSv dX4_hour_71 sX4_at lX4_98 (by decide) (Nat.le_of_ble_eq_true rfl) eX4_at rfl ?_
          refine fx_iload_n dX4_hour_74 rfl rfl ?_
          refine fx_iast dX4_hour_75 rfl (jat_in (by omega) (by decide)) (w4_1 ..) ?_
          rw [jat_c (by omega) (by decide), ga_s, ga_ga]
          refine fx_aload_n dX4_hour_76 rfl rfl ?_
          refine fx_get dX4_hour_77 kX4_9 rfl rfl ?_
          refine fx_iload_n dX4_hour_80 rfl rfl ?_
          refine fx_iconst (v := nI 4) dX4_hour_81 (by decide) ?_
          refine fx_callSv dX4_hour_82 sX4_at lX4_98 (by decide) (Nat.le_of_ble_eq_true rfl) eX4_at rfl ?_
          refine fx_aload_n dX4_hour_85 rfl rfl ?_
          refine fx_iload_n dX4_hour_86 rfl rfl ?_
          refine fx_callVv dX4_hour_87 vX4_hasNet lX4_166 (by decide) rfl (Nat.le_of_ble_eq_true rfl) (eT _ _) rfl ?_
          rw [pk_un (show 18 + jnext W b n ≠ 146 + 5 * b + 1 by omega)]
          refine fx_if_eq (tgt := 97) dX4_hour_90 (by decide) rfl (fun hc90 => ?_) (fun hc90 => ?_)
          · refine fx_iconst (v := nI 0) dX4_hour_97 (by decide) ?_
            first | exact J98 true (nI_ne0' hc90) | exact J98 false (nI_eq0' hc90)
          · refine fx_iconst (v := nI 1) dX4_hour_93 (by decide) ?_
            refine fx_goto (tgt := 98) dX4_hour_94 (by decide) ?_
            first | exact J98 true (nI_ne0' hc90) | exact J98 false (nI_eq0' hc90)
        refine fx_iload_n dX4_hour_7 rfl rfl ?_
        refine fx_aload_n dX4_hour_8 rfl rfl ?_
        refine fx_get dX4_hour_9 kX4_9 rfl rfl ?_
        refine fx_iconst (v := nI 2) dX4_hour_12 (by decide) ?_
        refine fx_iald dX4_hour_13 rfl (vp_in_nI (by decide) (by decide)) ?_
        rw [nI_clamp (n := 2) (by decide), ga_s, hW.1]
        refine fx_icmp_ge (tgt := 105) dX4_hour_14 (by decide) rfl (fun hc14 => ?_) (fun hc14 => ?_)
        · exact absurd hc14 (nI_ge (by omega) (by omega))
        · refine fx_aload_n dX4_hour_17 rfl rfl ?_
          refine fx_iload_n dX4_hour_18 rfl rfl ?_
          refine fx_callVv dX4_hour_19 vX4_isCaught lX4_115 (by decide) rfl (Nat.le_of_ble_eq_true rfl) eC rfl ?_
          rw [decide_eq_false hcg]
          refine fx_if_ne (tgt := 99) dX4_hour_22 (by decide) rfl (fun hc22 => ?_) (fun hc22 => ?_)
          · exact absurd rfl hc22
          · refine fx_aload_n dX4_hour_25 rfl rfl ?_
            refine fx_iload_n dX4_hour_26 rfl rfl ?_
            refine fx_callVv dX4_hour_27 vX4_nextOf lX4_144 (by decide) rfl (Nat.le_of_ble_eq_true rfl) eN rfl ?_
            refine fs_istore_n_2 dX4_hour_30 rfl (by decide) ?_
            refine fx_aload_n dX4_hour_31 rfl rfl ?_
            refine fx_aload_n dX4_hour_32 rfl rfl ?_
            refine fx_get dX4_hour_33 kX4_162 rfl rfl ?_
            show Fx _ _ _ _ (.int (jB m) :: _) _
            refine fx_if_ne (tgt := 57) dX4_hour_36 (by decide) rfl (fun hc36 => ?_) (fun hc36 => ?_)
            · refine fx_iconst (v := nI 1) dX4_hour_57 (by decide) ?_
              refine fx_goto (tgt := 62) dX4_hour_58 (by decide) ?_
              first | exact fx_eq (J62 true (by rw [nI_ne0' hc36]; rfl)) rfl rfl rfl | exact fx_eq (J62 true (by rw [decide_eq_false hc46]; cases m <;> rfl)) rfl rfl rfl | exact fx_eq (J62 true (by rw [nI_ne0' hc54]; cases m <;> cases decide (nI (jnext W b n) = W (146 + 5 * b + 1)) <;> rfl)) rfl rfl rfl | exact fx_eq (J62 false (by rw [nI_eq0' hc36, nI_eq0' hc54, decide_eq_true hc46]; rfl)) rfl rfl rfl
            · refine fx_iload_n dX4_hour_39 rfl rfl ?_
              refine fx_aload_n dX4_hour_40 rfl rfl ?_
              refine fx_iload_n dX4_hour_41 rfl rfl ?_
              refine fx_iconst (v := nI 1) dX4_hour_42 (by decide) ?_
              refine fx_callVv dX4_hour_43 vX4_bellIs lX4_101 (by decide) rfl (Nat.le_of_ble_eq_true rfl) (eB _) rfl ?_
              refine fx_icmp_ne (tgt := 57) dX4_hour_46 (by decide) rfl (fun hc46 => ?_) (fun hc46 => ?_)
              · refine fx_iconst (v := nI 1) dX4_hour_57 (by decide) ?_
                refine fx_goto (tgt := 62) dX4_hour_58 (by decide) ?_
                first | exact fx_eq (J62 true (by rw [nI_ne0' hc36]; rfl)) rfl rfl rfl | exact fx_eq (J62 true (by rw [decide_eq_false hc46]; cases m <;> rfl)) rfl rfl rfl | exact fx_eq (J62 true (by rw [nI_ne0' hc54]; cases m <;> cases decide (nI (jnext W b n) = W (146 + 5 * b + 1)) <;> rfl)) rfl rfl rfl | exact fx_eq (J62 false (by rw [nI_eq0' hc36, nI_eq0' hc54, decide_eq_true hc46]; rfl)) rfl rfl rfl
              · refine fx_aload_n dX4_hour_49 rfl rfl ?_
                refine fx_iload_n dX4_hour_50 rfl rfl ?_
                refine fx_callVv dX4_hour_51 vX4_hasNet lX4_166 (by decide) rfl (Nat.le_of_ble_eq_true rfl) (eT _ _) rfl ?_
                refine fx_if_eq (tgt := 61) dX4_hour_54 (by decide) rfl (fun hc54 => ?_) (fun hc54 => ?_)
                · refine fx_iconst (v := nI 0) dX4_hour_61 (by decide) ?_
                  first | exact fx_eq (J62 true (by rw [nI_ne0' hc36]; rfl)) rfl rfl rfl | exact fx_eq (J62 true (by rw [decide_eq_false hc46]; cases m <;> rfl)) rfl rfl rfl | exact fx_eq (J62 true (by rw [nI_ne0' hc54]; cases m <;> cases decide (nI (jnext W b n) = W (146 + 5 * b + 1)) <;> rfl)) rfl rfl rfl | exact fx_eq (J62 false (by rw [nI_eq0' hc36, nI_eq0' hc54, decide_eq_true hc46]; rfl)) rfl rfl rfl
                · refine fx_iconst (v := nI 1) dX4_hour_57 (by decide) ?_
                  refine fx_goto (tgt := 62) dX4_hour_58 (by decide) ?_
                  first | exact fx_eq (J62 true (by rw [nI_ne0' hc36]; rfl)) rfl rfl rfl | exact fx_eq (J62 true (by rw [decide_eq_false hc46]; cases m <;> rfl)) rfl rfl rfl | exact fx_eq (J62 true (by rw [nI_ne0' hc54]; cases m <;> cases decide (nI (jnext W b n) = W (146 + 5 * b + 1)) <;> rfl)) rfl rfl rfl | exact fx_eq (J62 false (by rw [nI_eq0' hc36, nI_eq0' hc54, decide_eq_true hc46]; rfl)) rfl rfl rfl
  refine fx_aload_n dX4_hour_0 rfl rfl ?_
  refine fx_iconst (v := nI 0) dX4_hour_1 (by decide) ?_
  refine fx_put dX4_hour_2 kX4_162 rfl (Nat.le_of_ble_eq_true rfl) (fun _ => rfl) rfl rfl (u4_7 ..) ?_
  refine fx_iconst (v := nI 0) dX4_hour_5 (by decide) ?_
  refine fs_istore_n_1 dX4_hour_6 rfl (by decide) ?_
  exact fx_eq (H n 0 (by omega) _ false (G 1) rfl rfl) rfl rfl (by rw [ga_id]; rfl)
theorem eX4_hours {t : Nat} (ht : t < 1000) (hK : jK G) (hV : jW (G 1) n) : Mx mX4_hours [.ref 0, .int (nI t)] (rM F G) none (rM (upd F 7 (jmv (F 7) (G 1) n t)) (ga G 1 (jhrs (G 1) n t))) := by
  refine mx_of (L := [some (.ref 0), some (.int (nI t)), none]) (by decide) (fun _ => rfl) (fun _ => Nat.le_of_ble_eq_true rfl) ?_
  have H : ∀ (k i : Nat), i + k = t → Fx mX4_hours (none, rM (upd F 7 (jmv (F 7) (G 1) n t)) (ga G 1 (jhrs (G 1) n t))) 2 [some (.ref 0), some (.int (nI t)), some (.int (nI i))] [] (rM (upd F 7 (jmv (F 7) (G 1) n i)) (ga G 1 (jhrs (G 1) n i))) := by
    intro k
    induction k with
    | zero =>
      intro i hi
      have hi' : i = t := by omega
      subst hi'
      refine fx_iload_n dX4_hours_2 rfl rfl ?_
      refine fx_iload_n dX4_hours_3 rfl rfl ?_
      refine fx_icmp_ge (tgt := 17) dX4_hours_4 (by decide) rfl (fun hc4 => ?_) (fun hc4 => ?_)
      · exact fx_vreq dX4_hours_17 rfl rfl
      · exact absurd (Int32.le_refl _) hc4
    | succ k ih =>
      intro i hi
      have eH := eX4_hour (F := upd F 7 (jmv (F 7) (G 1) n i)) (G := ga G 1 (jhrs (G 1) n i)) (n := n) (hK.ga (by decide)) (by rw [ga_s]; exact jW_hrs hV i)
      rw [ga_s, upd_upd, ga_ga] at eH
      refine fx_iload_n dX4_hours_2 rfl rfl ?_
      refine fx_iload_n dX4_hours_3 rfl rfl ?_
      refine fx_icmp_ge (tgt := 17) dX4_hours_4 (by decide) rfl (fun hc4 => ?_) (fun hc4 => ?_)
      · exact absurd hc4 (nI_ge (by omega) (by omega))
      · refine fx_aload_n dX4_hours_7 rfl rfl ?_
        refine fx_callVn dX4_hours_8 vX4_hour lX4_169 (by decide) rfl (Nat.le_of_ble_eq_true rfl) eH rfl ?_
        refine fs_iinc_2 (w := nI 1) dX4_hours_11 (by decide) rfl (by decide) ?_
        refine fx_goto (tgt := 2) dX4_hours_14 (by decide) ?_
        rw [nI_add]
        exact ih (i + 1) (by omega)
  have H0 := H t 0 (by omega)
  rw [show jmv (F 7) (G 1) n 0 = F 7 from rfl, show jhrs (G 1) n 0 = G 1 from rfl, ga_id, upd_id] at H0
  refine fx_iconst (v := nI 0) dX4_hours_0 (by decide) ?_
  refine fs_istore_n_2 dX4_hours_1 rfl (by decide) ?_
  exact H0
end
