/-! ===== a net where no bell comes changes nothing ===== -/
set_option maxRecDepth 100000
/-- rows that differ in their hours and in one cell's net alone -/
def jX (c : Nat) (V V' : Nat → Int32) : Prop := ∀ i, i ≠ 0 → i ≠ 18 + c → V i = V' i
section
variable {V V' : Nat → Int32} {n c : Nat}
theorem jX_u (e : jX c V V') (k : Nat) (x : Int32) : jX c (upd V k x) (upd V' k x) := by
  intro i hi hc
  by_cases q : i = k
  · subst q; rw [pk_us, pk_us]
  · rw [pk_un q, pk_un q]; exact e i hi hc
theorem jX_far (e : jX c V V') (a : Nat) : ∀ k, k ≤ 4 → jfar V a k = jfar V' a k := by
  intro k
  induction k with
  | zero => intro _; exact e 1 (by decide) (by omega)
  | succ k ih =>
    intro hk
    have e1 : ∀ W, jfar W a (k + 1) = if W (14 + k) < 0 then jfar W a k else jmin (jfar W a k) (japart (nI a) (W (14 + k))) := fun W => rfl
    rw [e1, e1, ih (by omega), e (14 + k) (by omega) (by omega)]
theorem jX_plain (hc : c < 64) (e : jX c V V') (a : Nat) : jplain V a = jplain V' a := by unfold jplain; rw [jX_far e a 4 (by decide), e (82 + a) (by omega) (by omega)]
theorem jX_near (hc : c < 64) (e : jX c V V') (b a kd : Nat) : ∀ o, jnear V b a kd o = jnear V' b a kd o := by
  intro o
  induction o with
  | zero => rfl
  | succ o ih =>
    have e1 : ∀ W, jnear W b a kd (o + 1) = if jnr W b kd o = true ∧ (jnear W b a kd o < 0 ∨ japart (nI a) (W (146 + 5 * o + 1)) < jnear W b a kd o) then japart (nI a) (W (146 + 5 * o + 1)) else jnear W b a kd o := fun W => rfl
    have e2 : jnr V b kd o = jnr V' b kd o := by unfold jnr; rw [e (146 + 5 * o + 4) (by omega) (by omega), e (146 + 5 * o + 0) (by omega) (by omega)]
    rw [e1, e1, ih, e2, e (146 + 5 * o + 1) (by omega) (by omega)]
theorem jX_worth (hc : c < 64) (e : jX c V V') (b a : Nat) : jworth V b a n = jworth V' b a n := by
  unfold jworth jwk jten jlone
  rw [e (146 + 5 * b + 0) (by omega) (by omega), jX_plain hc e, jX_near hc e b a 0, jX_near hc e b a 1, e (82 + a) (by omega) (by omega)]
theorem jX_nx (hc : c < 64) (e : jX c V V') (b a : Nat) : ∀ k, jnx V b n a k = jnx V' b n a k := by
  intro k
  induction k with
  | zero => show (a, _) = (a, _); rw [jX_worth hc e]
  | succ k ih =>
    have e1 : ∀ W, jnx W b n a (k + 1) = if jbes a k < 0 then jnx W b n a k else (if (jnx W b n a k).2 < jworth W b (jbesN a k) n then jbesN a k else (jnx W b n a k).1, jmax (jnx W b n a k).2 (jworth W b (jbesN a k) n)) := fun W => rfl
    rw [e1, e1, ih, jX_worth hc e]
theorem jX_next (hc : c < 64) (e : jX c V V') (b : Nat) : jnext V b n = jnext V' b n := by unfold jnext; rw [e (146 + 5 * b + 1) (by omega) (by omega), jX_nx hc e]
theorem jbit_or {x a k : Nat} (h : (x ||| 2 ^ a).testBit k = false) : x.testBit k = false ∧ a ≠ k := by
  rw [Nat.testBit_or, Nat.testBit_two_pow, Bool.or_eq_false_iff, decide_eq_false_iff_not] at h
  exact h
theorem jtd_bit {t : Nat} : ∀ b, (jtd V n t b).testBit c = false → t.testBit c = false := by
  intro b
  induction b with
  | zero => exact fun h => h
  | succ b ih =>
    rw [jtd_1]
    by_cases q : jhv V n b (146 + 5 * b + 4) = nI 1
    · rw [if_pos q]; exact ih
    · rw [if_neg q]; exact fun h => ih (jbit_or h).1
theorem jX_hv (hc : c < 64) {t : Nat} (e : jX c V V') : ∀ b, (jtd V n t b).testBit c = false → jX c (jhv V n b) (jhv V' n b) := by
  intro b
  induction b with
  | zero => exact fun _ => e
  | succ b ih =>
    intro hb
    rw [jtd_1] at hb
    by_cases q : jhv V n b (146 + 5 * b + 4) = nI 1
    · rw [if_pos q] at hb
      have ih1 := ih hb
      have q2 : jhv V' n b (146 + 5 * b + 4) = nI 1 := by rw [← ih1 (146 + 5 * b + 4) (by omega) (by omega)]; exact q
      rw [jhv_1, jhv_1, if_pos q, if_pos q2]
      exact ih1
    · rw [if_neg q] at hb
      obtain ⟨hb1, hb2⟩ := jbit_or hb
      have ih1 := ih hb1
      have q2 : ¬ jhv V' n b (146 + 5 * b + 4) = nI 1 := by rw [← ih1 (146 + 5 * b + 4) (by omega) (by omega)]; exact q
      rw [jhv_1, jhv_1, if_neg q, if_neg q2, ← jX_next hc ih1, ← ih1 (18 + jnext (jhv V n b) b n) (by omega) (by omega)]
      exact jX_u (jX_u ih1 _ _) _ _
theorem jX_hour (hc : c < 64) {t : Nat} (e : jX c V V') (h : (jtd V n t n).testBit c = false) : jX c (jhour V n) (jhour V' n) := fun i hi h2 => by
  unfold jhour
  rw [pk_un hi, pk_un hi]
  exact jX_hv hc e n h i hi h2
theorem jE_td {t : Nat} (e : jE V V') : ∀ b, jtd V n t b = jtd V' n t b := by
  intro b
  induction b with
  | zero => rfl
  | succ b ih =>
    have i := jE_hv (n := n) e b
    rw [jtd_1, jtd_1, ← i (146 + 5 * b + 4) (by omega), ← jE_next i, ih]
theorem jrS_f {h : Int32} {t : Nat} (hV : jW V n) (ht : t < 2 ^ 64) : ∀ k, (jrS V n h t k).1 = false → ∃ t', jtd (jrS V n h t k).2.1 n t' n = (jrS V n h t k).2.2.2 := by
  intro k
  induction k with
  | zero => intro q; exact absurd (show true = false from q) (by decide)
  | succ k ih =>
    rw [jrS_1]
    by_cases e : (jrS V n h t k).1 = true
    · rw [if_pos e]
      intro q
      have q' : jmov (jrS V n h t k).2.1 n = false := q
      refine ⟨(jrS V n h t k).2.2.2, ?_⟩
      show jtd (jhv (jrS V n h t k).2.1 n n) n (jrS V n h t k).2.2.2 n = jtd (jrS V n h t k).2.1 n (jrS V n h t k).2.2.2 n
      rw [jhv_id (jrS_W (h := h) hV ht k).1 n (Nat.le_refl n) q']
    · rw [if_neg e]; exact ih
theorem jrS_x (hc : c < 64) {h : Int32} {t : Nat} (hV : jW V n) (ht : t < 2 ^ 64) (e : jX c V V') : ∀ k, (jrS V n h t k).2.2.2.testBit c = false → jX c (jhrs V n k) (jhrs V' n k) := by
  intro k
  induction k with
  | zero => exact fun _ => e
  | succ k ih =>
    intro hb
    have hE := (jrS_E (h := h) hV ht k).1
    have key : (jrS V n h t k).2.2.2.testBit c = false ∧ ∃ t', (jtd (jhrs V n k) n t' n).testBit c = false := by
      rw [jrS_1] at hb
      by_cases q : (jrS V n h t k).1 = true
      · rw [if_pos q] at hb
        have hb' : (jtd (jrS V n h t k).2.1 n (jrS V n h t k).2.2.2 n).testBit c = false := hb
        exact ⟨jtd_bit n hb', _, by rw [← jE_td hE]; exact hb'⟩
      · rw [if_neg q] at hb
        obtain ⟨t', ht'⟩ := jrS_f (h := h) hV ht k (jbt_f' q)
        exact ⟨hb, t', by rw [← jE_td hE, ht']; exact hb⟩
    obtain ⟨k1, t', k2⟩ := key
    exact jX_hour hc (ih k1) k2
theorem jrS_m {h : Int32} {t : Nat} : ∀ d k, (jrS V n h t (k + d)).2.2.2.testBit c = false → (jrS V n h t k).2.2.2.testBit c = false := by
  intro d
  induction d with
  | zero => exact fun _ q => q
  | succ d ih =>
    intro k q
    rw [← Nat.add_assoc, jrS_1] at q
    by_cases e : (jrS V n h t (k + d)).1 = true
    · rw [if_pos e] at q
      exact ih k (jtd_bit n q)
    · rw [if_neg e] at q
      exact ih k q
theorem jta_p {h : Int32} {t b : Nat} : ∀ k i, (jta V n h t b k i).2 ≤ i + k + 1 ∧ ((jrS V n h t (jta V n h t b k i).2).2.1 (146 + 5 * b + 4) = nI 1 ∨ (jrS V n h t (jta V n h t b k i).2).1 = false ∨ (jta V n h t b k i).2 = i + k) := by
  intro k
  induction k with
  | zero =>
    intro i
    show (if (jrS V n h t i).2.1 (146 + 5 * b + 4) = nI 1 then (nI i, i) else ((-1), i)).2 ≤ _ ∧ _
    have e : jta V n h t b 0 i = if (jrS V n h t i).2.1 (146 + 5 * b + 4) = nI 1 then (nI i, i) else ((-1), i) := rfl
    rw [e]
    by_cases q : (jrS V n h t i).2.1 (146 + 5 * b + 4) = nI 1
    · rw [if_pos q]; exact ⟨by show i ≤ _; omega, Or.inl q⟩
    · rw [if_neg q]; exact ⟨by show i ≤ _; omega, Or.inr (Or.inr rfl)⟩
  | succ k ih =>
    intro i
    have e : jta V n h t b (k + 1) i = if (jrS V n h t i).2.1 (146 + 5 * b + 4) = nI 1 then (nI i, i) else if (jrS V n h t (i + 1)).1 = true then jta V n h t b k (i + 1) else ((-1), i + 1) := rfl
    rw [e]
    by_cases q : (jrS V n h t i).2.1 (146 + 5 * b + 4) = nI 1
    · rw [if_pos q]; exact ⟨by show i ≤ _; omega, Or.inl q⟩
    · rw [if_neg q]
      by_cases q2 : (jrS V n h t (i + 1)).1 = true
      · rw [if_pos q2]
        obtain ⟨a1, a2⟩ := ih (i + 1)
        exact ⟨by omega, a2.imp id (fun z => z.imp id (fun z => by omega))⟩
      · rw [if_neg q2]; exact ⟨by show i + 1 ≤ _; omega, Or.inr (Or.inl (jbt_f' q2))⟩
theorem jcv_eq {b r K : Nat} (hag : ∀ i, i ≤ K → (jhrs V n i (146 + 5 * b + 4) = jhrs V' n i (146 + 5 * b + 4))) (hK : r ≤ K ∨ jhrs V n K (146 + 5 * b + 4) = nI 1) : jcv V n b r = jcv V' n b r := by
  have hx := jcnt_le n b r V
  have hy := jcnt_le n b r V'
  have hxK : jcnt V n b r ≤ K := by
    rcases hK with h | h
    · omega
    · exact Nat.le_of_not_lt (fun q => jcnt_nc r V K q h)
  have e : jcnt V n b r = jcnt V' n b r := by
    rcases Nat.lt_trichotomy (jcnt V n b r) (jcnt V' n b r) with h | h | h
    · exact absurd (by rw [← hag _ hxK]; exact jcnt_ca r V (by omega)) (jcnt_nc r V' _ h)
    · exact h
    · exact absurd (by rw [hag _ (by omega)]; exact jcnt_ca r V' (by omega)) (jcnt_nc r V _ h)
  unfold jcv
  rw [← e, hag _ hxK]
/-- a net at a cell that is not trodden while one is waited for -/
theorem jtr_cv {h : Int32} {b : Nat} {x : Int32} (hc : c < 64) (hV : jW V n) (hb : (jrS V n h 0 (jta V n h 0 b 20 0).2).2.2.2.testBit c = false) : jcv (upd V (18 + c) x) n b 20 = jcv V n b 20 := by
  have e : jX c V (upd V (18 + c) x) := fun i _ h2 => by rw [pk_un h2]
  obtain ⟨-, hp⟩ := jta_p (V := V) (n := n) (h := h) (t := 0) (b := b) 20 0
  generalize (jta V n h 0 b 20 0).2 = K at hb hp
  have hall : ∀ i, i ≤ K → jX c (jhrs V n i) (jhrs (upd V (18 + c) x) n i) := fun i hi => by
    refine jrS_x (h := h) (t := 0) hc hV (by decide) e i ?_
    refine jrS_m (K - i) i ?_
    rw [show i + (K - i) = K by omega]
    exact hb
  symm
  rcases hp with hp | hp | hp
  · refine jcv_eq (K := K) (fun i hi => hall i hi _ (by omega) (by omega)) (Or.inr ?_)
    rw [← (jrS_E (h := h) (t := 0) hV (by decide) K).1 _ (by omega)]
    exact hp
  · refine jcv_eq (K := K + 20) (fun i _ => ?_) (Or.inl (by omega))
    by_cases hi : i ≤ K
    · exact hall i hi _ (by omega) (by omega)
    · refine jrS_x (h := h) (t := 0) hc hV (by decide) e i ?_ _ (by omega) (by omega)
      have := jrS_stop hp (i - K)
      rw [show K + (i - K) = i by omega] at this
      rw [this]
      exact hb
  · exact jcv_eq (K := K) (fun i hi => hall i hi _ (by omega) (by omega)) (Or.inl (by omega))
/-- a net at a cell that is not trodden in some hours -/
theorem jtr_sN {h : Int32} {m : Nat} {x : Int32} (hc : c < 64) (hV : jW V n) (hb : (jrS V n h 0 m).2.2.2.testBit c = false) : jsN (jhrs (upd V (18 + c) x) n m) n = jsN (jhrs V n m) n := by
  have e : jX c V (upd V (18 + c) x) := fun i _ h2 => by rw [pk_un h2]
  have q := jrS_x hc hV (by decide) e m hb
  have H : ∀ b, jsN (jhrs (upd V (18 + c) x) n m) b = jsN (jhrs V n m) b := by
    intro b
    induction b with
    | zero => rfl
    | succ b ih => rw [jsN_1, jsN_1, ih, q (146 + 5 * b + 4) (by omega) (by omega)]
  exact H n
end
