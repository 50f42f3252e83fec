/-! ===== tokens ===== -/
set_option maxRecDepth 100000
def btk (B : Nat → Int32) (z k : Nat) : Int32 := if k < z then B k else (-1)
def rnp (p : Int32 → Bool) (B : Nat → Int32) (z : Nat) : Nat → Nat → Nat
  | 0, e => e
  | f + 1, e => if p (btk B z e) = true then rnp p B z f (e + 1) else e
def rn (p : Int32 → Bool) (B : Nat → Int32) (z e : Nat) : Nat := rnp p B z (z - e) e
def plt (x : Int32) : Bool := jwi x (nI 97) (nI 122)
def pdg (x : Int32) : Bool := jwi x (nI 48) (nI 57)
def psp (x : Int32) : Bool := decide (x = nI 32)
theorem plt_m : plt (-1) = false := by decide
theorem pdg_m : pdg (-1) = false := by decide
theorem psp_m : psp (-1) = false := by decide
section
variable {p : Int32 → Bool} {B : Nat → Int32} {z : Nat}
theorem btk_in {k : Nat} (h : k < z) : btk B z k = B k := if_pos h
theorem btk_out {k : Nat} (h : ¬ k < z) : btk B z k = (-1) := if_neg h
theorem btk_lt (hp : p (-1) = false) {e : Nat} (h : p (btk B z e) = true) : e < z := by
  refine Decidable.byContradiction fun q => ?_
  rw [btk_out q, hp] at h
  exact absurd h (by decide)
theorem rn_y (hp : p (-1) = false) {e : Nat} (h : p (btk B z e) = true) : rn p B z e = rn p B z (e + 1) := by
  have hl := btk_lt hp h
  unfold rn
  rw [show z - e = (z - (e + 1)) + 1 by omega]
  show (if p (btk B z e) = true then rnp p B z (z - (e + 1)) (e + 1) else e) = _
  rw [if_pos h]
theorem rn_n {e : Nat} (h : ¬ p (btk B z e) = true) : rn p B z e = e := by
  unfold rn
  cases z - e with
  | zero => rfl
  | succ f =>
    show (if p (btk B z e) = true then rnp p B z f (e + 1) else e) = _
    rw [if_neg h]
theorem rn_all (hp : p (-1) = false) : ∀ (d e : Nat), e + d = z → (e ≤ rn p B z e ∧ rn p B z e ≤ z ∧ ¬ p (btk B z (rn p B z e)) = true) := by
  intro d
  induction d with
  | zero =>
    intro e he
    have h : ¬ p (btk B z e) = true := fun q => by have := btk_lt hp q; omega
    rw [rn_n h]
    exact ⟨Nat.le_refl _, by omega, h⟩
  | succ d ih =>
    intro e he
    by_cases h : p (btk B z e) = true
    · rw [rn_y hp h]
      obtain ⟨a, b, c⟩ := ih (e + 1) (by omega)
      exact ⟨by omega, b, c⟩
    · rw [rn_n h]
      exact ⟨Nat.le_refl _, by omega, h⟩
theorem rn_ge (hp : p (-1) = false) {e : Nat} (he : e ≤ z) : e ≤ rn p B z e := (rn_all hp (z - e) e (by omega)).1
theorem rn_le (hp : p (-1) = false) {e : Nat} (he : e ≤ z) : rn p B z e ≤ z := (rn_all hp (z - e) e (by omega)).2.1
end
def vlp (B : Nat → Int32) (z : Nat) : Nat → Nat → Nat → Nat
  | 0, _, v => v
  | f + 1, e, v => if pdg (btk B z e) = true then vlp B z f (e + 1) (min 1000 (10 * v + ((btk B z e).toNatClampNeg - 48))) else v
def vl (B : Nat → Int32) (z e v : Nat) : Nat := vlp B z (z - e) e v
def vcp (B : Nat → Int32) (z : Nat) : Nat → Nat → Nat → Nat
  | 0, _, v => v
  | f + 1, e, v => if pdg (btk B z e) = true then vcp B z f (e + 1) (if v < 1000 then 10 * v + ((btk B z e).toNatClampNeg - 48) else 1000) else v
def vc (B : Nat → Int32) (z e v : Nat) : Nat := vcp B z (z - e) e v
section
variable {B : Nat → Int32} {z : Nat}
theorem vl_y {e v : Nat} (h : pdg (btk B z e) = true) : vl B z e v = vl B z (e + 1) (min 1000 (10 * v + ((btk B z e).toNatClampNeg - 48))) := by
  have hl := btk_lt pdg_m h
  unfold vl
  rw [show z - e = (z - (e + 1)) + 1 by omega]
  show (if pdg (btk B z e) = true then _ else _) = _
  rw [if_pos h]
theorem vl_n {e v : Nat} (h : ¬ pdg (btk B z e) = true) : vl B z e v = v := by
  unfold vl
  cases z - e with
  | zero => rfl
  | succ f =>
    show (if pdg (btk B z e) = true then _ else _) = _
    rw [if_neg h]
theorem vc_y {e v : Nat} (h : pdg (btk B z e) = true) : vc B z e v = vc B z (e + 1) (if v < 1000 then 10 * v + ((btk B z e).toNatClampNeg - 48) else 1000) := by
  have hl := btk_lt pdg_m h
  unfold vc
  rw [show z - e = (z - (e + 1)) + 1 by omega]
  show (if pdg (btk B z e) = true then _ else _) = _
  rw [if_pos h]
theorem vc_n {e v : Nat} (h : ¬ pdg (btk B z e) = true) : vc B z e v = v := by
  unfold vc
  cases z - e with
  | zero => rfl
  | succ f =>
    show (if pdg (btk B z e) = true then _ else _) = _
    rw [if_neg h]
theorem pdg_of {x : Int32} (h : pdg x = true) : ∃ b, 48 ≤ b ∧ b ≤ 57 ∧ x = nI b := by
  unfold pdg jwi at h
  rw [Bool.and_eq_true, decide_eq_true_eq, decide_eq_true_eq] at h
  have h0 : ¬ x < 0 := fun q => absurd (Int32.lt_of_le_of_lt h.1 q) (by decide)
  obtain ⟨b, hb, rfl⟩ := nI_of h0
  exact ⟨b, (nI_leI (by decide) hb).mp h.1, (nI_leI hb (by decide)).mp h.2, rfl⟩
theorem plt_of {x : Int32} (h : plt x = true) : ∃ b, 97 ≤ b ∧ b ≤ 122 ∧ x = nI b := by
  unfold plt jwi at h
  rw [Bool.and_eq_true, decide_eq_true_eq, decide_eq_true_eq] at h
  have h0 : ¬ x < 0 := fun q => absurd (Int32.lt_of_le_of_lt h.1 q) (by decide)
  obtain ⟨b, hb, rfl⟩ := nI_of h0
  exact ⟨b, (nI_leI (by decide) hb).mp h.1, (nI_leI hb (by decide)).mp h.2, rfl⟩
theorem vl_vc : ∀ (d e v : Nat), e + d = z → v ≤ 9999 → (vl B z e (min 1000 v) = min 1000 (vc B z e v) ∧ vc B z e v ≤ 9999) := by
  intro d
  induction d with
  | zero =>
    intro e v he hv
    have h : ¬ pdg (btk B z e) = true := fun q => by have := btk_lt pdg_m q; omega
    rw [vl_n h, vc_n h]
    exact ⟨rfl, hv⟩
  | succ d ih =>
    intro e v he hv
    by_cases h : pdg (btk B z e) = true
    · obtain ⟨b, h1, h2, h3⟩ := pdg_of h
      rw [vl_y h, vc_y h, h3, nI_clamp (by omega)]
      by_cases q : v < 1000
      · rw [if_pos q, Nat.min_eq_right (show v ≤ 1000 by omega)]
        exact ih (e + 1) _ (by omega) (by omega)
      · rw [if_neg q, Nat.min_eq_left (show 1000 ≤ v by omega)]
        have := ih (e + 1) 1000 (by omega) (by omega)
        rw [show min 1000 (10 * 1000 + (b - 48)) = min 1000 1000 by omega]
        exact this
    · rw [vl_n h, vc_n h]
      exact ⟨rfl, hv⟩
theorem vl_le : ∀ (d e v : Nat), e + d = z → v ≤ 1000 → vl B z e v ≤ 1000 := by
  intro d e v he hv
  have := vl_vc (B := B) d e v he (by omega)
  rw [Nat.min_eq_right hv] at this
  rw [this.1]
  exact Nat.min_le_left _ _
end
/-- the sort of the token that begins at s (0: end, 1: word, 2: number, 3: ';', 4: else), its end, its value -/
def kd (B : Nat → Int32) (z s : Nat) : Nat := if btk B z s < 0 then 0 else if plt (btk B z s) = true then 1 else if pdg (btk B z s) = true then 2 else if btk B z s = nI 59 then 3 else 4
def en (B : Nat → Int32) (z s : Nat) : Nat := if kd B z s = 0 then s else if kd B z s = 1 then rn plt B z s else if kd B z s = 2 then rn pdg B z s else s + 1
def va (B : Nat → Int32) (z s : Nat) : Nat := if kd B z s = 2 then vl B z s 0 else 0
def sk (B : Nat → Int32) (z e : Nat) : Nat := rn psp B z e
def nx (B : Nat → Int32) (z s : Nat) : Nat := sk B z (en B z s)
def jBy (B : Nat → Int32) (z : Nat) : Prop := z ≤ 120 ∧ ∀ i, i < z → ∃ b, b < 256 ∧ B i = nI b
section
variable {B : Nat → Int32} {z s : Nat}
theorem kd_0 (h : btk B z s < 0) : kd B z s = 0 := if_pos h
theorem kd_1 (h0 : ¬ btk B z s < 0) (h : plt (btk B z s) = true) : kd B z s = 1 := by unfold kd; rw [if_neg h0, if_pos h]
theorem kd_2 (h0 : ¬ btk B z s < 0) (h1 : ¬ plt (btk B z s) = true) (h : pdg (btk B z s) = true) : kd B z s = 2 := by unfold kd; rw [if_neg h0, if_neg h1, if_pos h]
theorem kd_3 (h0 : ¬ btk B z s < 0) (h1 : ¬ plt (btk B z s) = true) (h2 : ¬ pdg (btk B z s) = true) (h : btk B z s = nI 59) : kd B z s = 3 := by unfold kd; rw [if_neg h0, if_neg h1, if_neg h2, if_pos h]
theorem kd_4 (h0 : ¬ btk B z s < 0) (h1 : ¬ plt (btk B z s) = true) (h2 : ¬ pdg (btk B z s) = true) (h : ¬ btk B z s = nI 59) : kd B z s = 4 := by unfold kd; rw [if_neg h0, if_neg h1, if_neg h2, if_neg h]
theorem kd_le : kd B z s ≤ 4 := by unfold kd; split; decide; split; decide; split; decide; split <;> decide
theorem btk_nn (hB : jBy B z) (h : s < z) : ¬ btk B z s < 0 := by
  obtain ⟨b, hb, e⟩ := hB.2 s h
  rw [btk_in h, e]
  exact nI_pos (by omega)
theorem kd_end (hB : jBy B z) : kd B z s = 0 ↔ ¬ s < z := by
  constructor
  · intro h q
    have h0 := btk_nn hB q
    by_cases h1 : plt (btk B z s) = true
    · rw [kd_1 h0 h1] at h; omega
    · by_cases h2 : pdg (btk B z s) = true
      · rw [kd_2 h0 h1 h2] at h; omega
      · by_cases h3 : btk B z s = nI 59
        · rw [kd_3 h0 h1 h2 h3] at h; omega
        · rw [kd_4 h0 h1 h2 h3] at h; omega
  · intro h
    exact kd_0 (by rw [btk_out h]; decide)
theorem kd_word (h : kd B z s = 1) : plt (btk B z s) = true := by
  unfold kd at h
  split at h
  · omega
  · split at h
    · assumption
    · split at h
      · omega
      · split at h <;> omega
theorem kd_num (h : kd B z s = 2) : pdg (btk B z s) = true := by
  unfold kd at h
  split at h
  · omega
  · split at h
    · omega
    · split at h
      · assumption
      · split at h <;> omega
theorem kd_sgn (h : kd B z s = 3) : btk B z s = nI 59 := by
  unfold kd at h
  split at h
  · omega
  · split at h
    · omega
    · split at h
      · omega
      · split at h
        · assumption
        · omega
theorem en_b (hB : jBy B z) (hs : s ≤ z) : s ≤ en B z s ∧ en B z s ≤ z ∧ (¬ kd B z s = 0 → s < en B z s) := by
  unfold en
  by_cases h0 : kd B z s = 0
  · rw [if_pos h0]; exact ⟨Nat.le_refl _, hs, fun q => absurd h0 q⟩
  · rw [if_neg h0]
    have hlt : s < z := Decidable.byContradiction fun q => h0 ((kd_end hB).mpr q)
    by_cases h1 : kd B z s = 1
    · rw [if_pos h1, rn_y plt_m (kd_word h1)]
      have := rn_ge (B := B) plt_m (show s + 1 ≤ z by omega)
      exact ⟨by omega, rn_le plt_m (by omega), fun _ => by omega⟩
    · rw [if_neg h1]
      by_cases h2 : kd B z s = 2
      · rw [if_pos h2, rn_y pdg_m (kd_num h2)]
        have := rn_ge (B := B) pdg_m (show s + 1 ≤ z by omega)
        exact ⟨by omega, rn_le pdg_m (by omega), fun _ => by omega⟩
      · rw [if_neg h2]; exact ⟨by omega, by omega, fun _ => by omega⟩
theorem sk_le {e : Nat} (he : e ≤ z) : sk B z e ≤ z := rn_le psp_m he
theorem sk_ge {e : Nat} (he : e ≤ z) : e ≤ sk B z e := rn_ge psp_m he
theorem nx_b (hB : jBy B z) (hs : s ≤ z) : s ≤ nx B z s ∧ nx B z s ≤ z ∧ (¬ kd B z s = 0 → s < nx B z s) := by
  obtain ⟨a, b, c⟩ := en_b hB hs
  have d := sk_ge (B := B) b
  unfold nx
  exact ⟨by omega, sk_le b, fun q => by have := c q; omega⟩
theorem va_le (hs : s ≤ z) : va B z s ≤ 1000 := by
  unfold va
  split
  · exact vl_le (z - s) s 0 (by omega) (by decide)
  · decide
end
/-! words -/
def iwp (B : Nat → Int32) (s i : Nat) : Nat → Bool
  | 0 => true
  | k + 1 => iwp B s i k && decide (B (s + k) = jbyt i k)
def iw (B : Nat → Int32) (z s i : Nat) : Bool := decide (kd B z s = 1) && (decide (en B z s - s = jlen i) && iwp B s i (jlen i))
section
variable {B : Nat → Int32} {z s i : Nat}
theorem iwp_1 (k : Nat) : iwp B s i (k + 1) = (iwp B s i k && decide (B (s + k) = jbyt i k)) := rfl
theorem iwp_f {k : Nat} (h : iwp B s i k = false) : ∀ d, iwp B s i (k + d) = false := by
  intro d
  induction d with
  | zero => exact h
  | succ d ih => rw [← Nat.add_assoc, iwp_1, ih, Bool.false_and]
theorem iwp_e : ∀ k, iwp B s i k = true → ∀ j, j < k → B (s + j) = jbyt i j := by
  intro k
  induction k with
  | zero => intro _ j hj; exact absurd hj (Nat.not_lt_zero j)
  | succ k ih =>
    intro h j hj
    rw [iwp_1, Bool.and_eq_true, decide_eq_true_eq] at h
    rcases Nat.lt_or_eq_of_le (Nat.le_of_lt_succ hj) with q | q
    · exact ih h.1 j q
    · subst q; exact h.2
theorem jwords : ∀ i, i < 14 → ∀ j, j < 14 → jlen i = jlen j → (∀ k, k < jlen i → jbyt i k = jbyt j k) → i = j := by decide +kernel
theorem iw_one {j : Nat} (hi : i < 14) (hj : j < 14) (h : iw B z s i = true) (h2 : iw B z s j = true) : i = j := by
  unfold iw at h h2
  rw [Bool.and_eq_true, Bool.and_eq_true, decide_eq_true_eq, decide_eq_true_eq] at h h2
  have e : jlen i = jlen j := h.2.1.symm.trans h2.2.1
  refine jwords i hi j hj e (fun k hk => ?_)
  rw [← iwp_e _ h.2.2 k hk]
  exact iwp_e _ h2.2.2 k (by omega)
theorem iw_kd (h : iw B z s i = true) : kd B z s = 1 := by
  unfold iw at h
  rw [Bool.and_eq_true, decide_eq_true_eq] at h
  exact h.1
end
