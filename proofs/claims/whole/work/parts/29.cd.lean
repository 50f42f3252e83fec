/-! ===== the class: how an object of Woods stands to the reference's row ===== -/
set_option maxRecDepth 100000
/-- the nets below k as a number -/
def jnm (V : Nat → Int32) : Nat → Nat
  | 0 => 0
  | k + 1 => jnm V k ||| (if V (18 + k) = nI 1 then 2 ^ k else 0)
theorem jnm_1 (V : Nat → Int32) (k : Nat) : jnm V (k + 1) = jnm V k ||| (if V (18 + k) = nI 1 then 2 ^ k else 0) := rfl
theorem jnm_b (V : Nat → Int32) (c : Nat) : ∀ k, (jnm V k).testBit c = (decide (c < k) && decide (V (18 + c) = nI 1)) := by
  intro k
  induction k with
  | zero => show (0 : Nat).testBit c = _; simp
  | succ k ih =>
    rw [jnm_1, Nat.testBit_or, ih]
    by_cases hv : V (18 + k) = nI 1
    · rw [if_pos hv, Nat.testBit_two_pow]
      by_cases e : k = c
      · subst e; simp [hv]
      · simp only [e, decide_false, Bool.or_false]
        congr 1
        exact decide_eq_decide.mpr ⟨fun q => by omega, fun q => by omega⟩
    · rw [if_neg hv, Nat.zero_testBit, Bool.or_false]
      by_cases e : k = c
      · subst e; simp [hv]
      · congr 1
        exact decide_eq_decide.mpr ⟨fun q => by omega, fun q => by omega⟩
theorem jnm_lt (V : Nat → Int32) : ∀ k, jnm V k < 2 ^ k := by
  intro k
  induction k with
  | zero => exact (by decide : 0 < 2 ^ 0)
  | succ k ih =>
    rw [jnm_1]
    refine Nat.or_lt_two_pow (Nat.lt_of_lt_of_le ih (Nat.pow_le_pow_right (by decide) (by omega))) ?_
    by_cases e : V (18 + k) = nI 1
    · rw [if_pos e]; exact Nat.pow_lt_pow_right (by decide) (by omega)
    · rw [if_neg e]; exact Nat.pow_pos (by decide)
theorem jsN_b (V : Nat → Int32) (c : Nat) : ∀ k, (jsN V k).testBit c = (decide (c < k) && decide (V (146 + 5 * c + 4) = nI 1)) := by
  intro k
  induction k with
  | zero => show (0 : Nat).testBit c = _; simp
  | succ k ih =>
    rw [jsN_1, Nat.testBit_or, ih]
    by_cases hv : V (146 + 5 * k + 4) = nI 1
    · rw [if_pos hv, Nat.testBit_two_pow]
      by_cases e : k = c
      · subst e; simp [hv]
      · simp only [e, decide_false, Bool.or_false]
        congr 1
        exact decide_eq_decide.mpr ⟨fun q => by omega, fun q => by omega⟩
    · rw [if_neg hv, Nat.zero_testBit, Bool.or_false]
      by_cases e : k = c
      · subst e; simp [hv]
      · congr 1
        exact decide_eq_decide.mpr ⟨fun q => by omega, fun q => by omega⟩
def jth (V : Nat → Int32) : Nat → Int32 := fun c => if c < 64 then V (82 + c) else 0
def jhu (V : Nat → Int32) : Nat → Int32 := fun c => if c < 4 then V (14 + c) else 0
def jbf (V : Nat → Int32) (f : Nat) : Nat → Int32 := fun b => if b < 8 then V (146 + 5 * b + f) else 0
def jspt (V : Nat → Int32) : Nat → Int32 := fun s => if s < 10 then V (4 + s) else 0
theorem jth_e {V : Nat → Int32} {c : Nat} (h : c < 64) : jth V c = V (82 + c) := if_pos h
theorem jhu_e {V : Nat → Int32} {c : Nat} (h : c < 4) : jhu V c = V (14 + c) := if_pos h
theorem jbf_e {V : Nat → Int32} {f b : Nat} (h : b < 8) : jbf V f b = V (146 + 5 * b + f) := if_pos h
theorem jspt_e {V : Nat → Int32} {c : Nat} (h : c < 10) : jspt V c = V (4 + c) := if_pos h
/-- the object at w is the row V with n bells, its hour h, its trod cells t -/
def jI (F : Nat → Nat → Int32) (N : Nat → Nat → Int64) (G : Nat → Nat → Int32) (w : Nat) (V : Nat → Int32) (n : Nat) (h : Int32) (t : Nat) : Prop :=
  F w 0 = h ∧ N w 1 = lN (jnm V 64) ∧ F w 4 = V 1 ∧ F w 5 = nI n ∧ F w 10 = nI (jsN V n) ∧ F w 11 = V 3 ∧ N w 13 = lN t ∧
  G (w + 1) = jth V ∧ G (w + 2) = jhu V ∧ G (w + 3) = jbf V 0 ∧ G (w + 4) = jbf V 1 ∧ G (w + 5) = jbf V 2 ∧ G (w + 6) = jbf V 3 ∧ G (w + 7) = jspt V
def pF (F : Nat → Nat → Int32) (w : Nat) (V : Nat → Int32) (n : Nat) (h : Int32) : Nat → Nat → Int32 := fun p s =>
  if p = w then (if s = 0 then h else if s = 4 then V 1 else if s = 5 then nI n else if s = 10 then nI (jsN V n) else if s = 11 then V 3 else F p s) else F p s
def pN (N : Nat → Nat → Int64) (w : Nat) (V : Nat → Int32) (t : Nat) : Nat → Nat → Int64 := fun p s =>
  if p = w then (if s = 1 then lN (jnm V 64) else if s = 13 then lN t else N p s) else N p s
def pG (G : Nat → Nat → Int32) (w : Nat) (V : Nat → Int32) : Nat → Nat → Int32 := fun p =>
  if p = w + 1 then jth V else if p = w + 2 then jhu V else if p = w + 3 then jbf V 0 else if p = w + 4 then jbf V 1 else if p = w + 5 then jbf V 2 else if p = w + 6 then jbf V 3 else if p = w + 7 then jspt V else G p
/-- outside the object at w nothing differs -/
def jFr (F : Nat → Nat → Int32) (N : Nat → Nat → Int64) (G : Nat → Nat → Int32) (w : Nat) (F' : Nat → Nat → Int32) (N' : Nat → Nat → Int64) (G' : Nat → Nat → Int32) : Prop :=
  (∀ p s, ¬ (p = w ∧ (s = 0 ∨ s = 4 ∨ s = 5 ∨ s = 10 ∨ s = 11)) → F' p s = F p s) ∧ (∀ p s, ¬ (p = w ∧ (s = 1 ∨ s = 13)) → N' p s = N p s) ∧ ∀ p, ¬ (w + 1 ≤ p ∧ p ≤ w + 7) → G' p = G p
theorem jFr_r {F : Nat → Nat → Int32} {N : Nat → Nat → Int64} {G : Nat → Nat → Int32} {w : Nat} : jFr F N G w F N G := ⟨fun _ _ _ => rfl, fun _ _ _ => rfl, fun _ _ => rfl⟩
section
variable {F F' : Nat → Nat → Int32} {N N' : Nat → Nat → Int64} {G G' : Nat → Nat → Int32} {w : Nat} {V V' : Nat → Int32} {n n' : Nat} {h h' : Int32} {t t' : Nat}
theorem jFr_f (k : jFr F N G w F' N' G') {j : Nat} {v : Int32} (hj : j = 0 ∨ j = 4 ∨ j = 5 ∨ j = 10 ∨ j = 11) : jFr F N G w (f2 F' w j v) N' G' := by
  refine ⟨fun p s q => ?_, k.2.1, k.2.2⟩
  rw [f2_n _ _ ((Decidable.em (p = w)).elim (fun e => Or.inr (fun q2 => q ⟨e, by rw [q2]; exact hj⟩)) Or.inl)]
  exact k.1 p s q
theorem jFr_n (k : jFr F N G w F' N' G') {j : Nat} {v : Int64} (hj : j = 1 ∨ j = 13) : jFr F N G w F' (n2 N' w j v) G' := by
  refine ⟨k.1, fun p s q => ?_, k.2.2⟩
  rw [n2_n _ _ ((Decidable.em (p = w)).elim (fun e => Or.inr (fun q2 => q ⟨e, by rw [q2]; exact hj⟩)) Or.inl)]
  exact k.2.1 p s q
theorem jFr_g (k : jFr F N G w F' N' G') {j : Nat} {a : Nat → Int32} (hj : 1 ≤ j ∧ j ≤ 7) : jFr F N G w F' N' (ga G' (w + j) a) := by
  refine ⟨k.1, k.2.1, fun p q => ?_⟩
  rw [ga_n _ _ (fun e => q (by omega))]
  exact k.2.2 p q
theorem jFr_p : jFr F N G w (pF F w V n h) (pN N w V t) (pG G w V) := by
  refine ⟨fun p s q => ?_, fun p s q => ?_, fun p q => ?_⟩
  · unfold pF
    by_cases e : p = w
    · rw [if_pos e, if_neg (fun z => q ⟨e, by omega⟩), if_neg (fun z => q ⟨e, by omega⟩), if_neg (fun z => q ⟨e, by omega⟩), if_neg (fun z => q ⟨e, by omega⟩), if_neg (fun z => q ⟨e, by omega⟩)]
    · rw [if_neg e]
  · unfold pN
    by_cases e : p = w
    · rw [if_pos e, if_neg (fun z => q ⟨e, by omega⟩), if_neg (fun z => q ⟨e, by omega⟩)]
    · rw [if_neg e]
  · unfold pG
    rw [if_neg (by omega), if_neg (by omega), if_neg (by omega), if_neg (by omega), if_neg (by omega), if_neg (by omega), if_neg (by omega)]
theorem jI_p : jI (pF F w V n h) (pN N w V t) (pG G w V) w V n h t := by
  refine ⟨?_, ?_, ?_, ?_, ?_, ?_, ?_, ?_, ?_, ?_, ?_, ?_, ?_, ?_⟩
  · unfold pF; rw [if_pos rfl, if_pos rfl]
  · unfold pN; rw [if_pos rfl, if_pos rfl]
  · unfold pF; rw [if_pos rfl, if_neg (by decide), if_pos rfl]
  · unfold pF; rw [if_pos rfl, if_neg (by decide), if_neg (by decide), if_pos rfl]
  · unfold pF; rw [if_pos rfl, if_neg (by decide), if_neg (by decide), if_neg (by decide), if_pos rfl]
  · unfold pF; rw [if_pos rfl, if_neg (by decide), if_neg (by decide), if_neg (by decide), if_neg (by decide), if_pos rfl]
  · unfold pN; rw [if_pos rfl, if_neg (by decide), if_pos rfl]
  · unfold pG; rw [if_pos rfl]
  · unfold pG; rw [if_neg (by omega), if_pos rfl]
  · unfold pG; rw [if_neg (by omega), if_neg (by omega), if_pos rfl]
  · unfold pG; rw [if_neg (by omega), if_neg (by omega), if_neg (by omega), if_pos rfl]
  · unfold pG; rw [if_neg (by omega), if_neg (by omega), if_neg (by omega), if_neg (by omega), if_pos rfl]
  · unfold pG; rw [if_neg (by omega), if_neg (by omega), if_neg (by omega), if_neg (by omega), if_neg (by omega), if_pos rfl]
  · unfold pG; rw [if_neg (by omega), if_neg (by omega), if_neg (by omega), if_neg (by omega), if_neg (by omega), if_neg (by omega), if_pos rfl]
/-- a world whose object at w is V is the canonical one -/
theorem j_can (k : jI F' N' G' w V n h t) (q : jFr F N G w F' N' G') : rC F' N' G' = rC (pF F w V n h) (pN N w V t) (pG G w V) := by
  obtain ⟨k1, k2, k3, k4, k5, k6, k7, k8, k9, k10, k11, k12, k13, k14⟩ := k
  have e1 : F' = pF F w V n h := by
    funext p s
    unfold pF
    by_cases e : p = w
    · subst e
      rw [if_pos rfl]
      by_cases s0 : s = 0
      · subst s0; rw [if_pos rfl]; exact k1
      · rw [if_neg s0]
        by_cases s4 : s = 4
        · subst s4; rw [if_pos rfl]; exact k3
        · rw [if_neg s4]
          by_cases s5 : s = 5
          · subst s5; rw [if_pos rfl]; exact k4
          · rw [if_neg s5]
            by_cases s10 : s = 10
            · subst s10; rw [if_pos rfl]; exact k5
            · rw [if_neg s10]
              by_cases s11 : s = 11
              · subst s11; rw [if_pos rfl]; exact k6
              · rw [if_neg s11]; exact q.1 _ _ (fun z => by omega)
    · rw [if_neg e]; exact q.1 _ _ (fun z => e z.1)
  have e2 : N' = pN N w V t := by
    funext p s
    unfold pN
    by_cases e : p = w
    · subst e
      rw [if_pos rfl]
      by_cases s0 : s = 1
      · subst s0; rw [if_pos rfl]; exact k2
      · rw [if_neg s0]
        by_cases s4 : s = 13
        · subst s4; rw [if_pos rfl]; exact k7
        · rw [if_neg s4]; exact q.2.1 _ _ (fun z => by omega)
    · rw [if_neg e]; exact q.2.1 _ _ (fun z => e z.1)
  have e3 : G' = pG G w V := by
    funext p
    unfold pG
    by_cases a1 : p = w + 1
    · subst a1; rw [if_pos rfl]; exact k8
    · rw [if_neg a1]
      by_cases a2 : p = w + 2
      · subst a2; rw [if_pos rfl]; exact k9
      · rw [if_neg a2]
        by_cases a3 : p = w + 3
        · subst a3; rw [if_pos rfl]; exact k10
        · rw [if_neg a3]
          by_cases a4 : p = w + 4
          · subst a4; rw [if_pos rfl]; exact k11
          · rw [if_neg a4]
            by_cases a5 : p = w + 5
            · subst a5; rw [if_pos rfl]; exact k12
            · rw [if_neg a5]
              by_cases a6 : p = w + 6
              · subst a6; rw [if_pos rfl]; exact k13
              · rw [if_neg a6]
                by_cases a7 : p = w + 7
                · subst a7; rw [if_pos rfl]; exact k14
                · rw [if_neg a7]; exact q.2.2 _ (fun z => by omega)
  rw [e1, e2, e3]
/-- two rows that differ in their hours alone give one object -/
theorem jI_v (k : jI F N G w V n h t) (e : ∀ i, i ≠ 0 → V' i = V i) : jI F N G w V' n h t := by
  have m : ∀ i, jnm V' i = jnm V i := by
    intro i
    induction i with
    | zero => rfl
    | succ i ih => rw [jnm_1, jnm_1, ih, e _ (by omega)]
  have c : ∀ i, jsN V' i = jsN V i := by
    intro i
    induction i with
    | zero => rfl
    | succ i ih => rw [jsN_1, jsN_1, ih, e _ (by omega)]
  have b : ∀ f, jbf V' f = jbf V f := by
    intro f; funext i; unfold jbf; rw [e _ (by omega)]
  have e1 : jth V' = jth V := by funext i; unfold jth; rw [e _ (by omega)]
  have e2 : jhu V' = jhu V := by funext i; unfold jhu; rw [e _ (by omega)]
  have e3 : jspt V' = jspt V := by funext i; unfold jspt; rw [e _ (by omega)]
  obtain ⟨k1, k2, k3, k4, k5, k6, k7, k8, k9, k10, k11, k12, k13, k14⟩ := k
  exact ⟨k1, by rw [m]; exact k2, by rw [e _ (by decide)]; exact k3, k4, by rw [c]; exact k5, by rw [e _ (by decide)]; exact k6, k7, by rw [e1]; exact k8, by rw [e2]; exact k9, by rw [b]; exact k10, by rw [b]; exact k11, by rw [b]; exact k12, by rw [b]; exact k13, by rw [e3]; exact k14⟩
/-- what is done to other objects leaves it -/
theorem jI_fr {w2 : Nat} (k : jI F N G w V n h t) (q : jFr F N G w2 F' N' G') (d : w2 + 8 ≤ w ∨ w + 8 ≤ w2) : jI F' N' G' w V n h t := by
  obtain ⟨k1, k2, k3, k4, k5, k6, k7, k8, k9, k10, k11, k12, k13, k14⟩ := k
  refine ⟨?_, ?_, ?_, ?_, ?_, ?_, ?_, ?_, ?_, ?_, ?_, ?_, ?_, ?_⟩
  · rw [q.1 _ _ (fun z => by omega)]; exact k1
  · rw [q.2.1 _ _ (fun z => by omega)]; exact k2
  · rw [q.1 _ _ (fun z => by omega)]; exact k3
  · rw [q.1 _ _ (fun z => by omega)]; exact k4
  · rw [q.1 _ _ (fun z => by omega)]; exact k5
  · rw [q.1 _ _ (fun z => by omega)]; exact k6
  · rw [q.2.1 _ _ (fun z => by omega)]; exact k7
  · rw [q.2.2 _ (fun z => by omega)]; exact k8
  · rw [q.2.2 _ (fun z => by omega)]; exact k9
  · rw [q.2.2 _ (fun z => by omega)]; exact k10
  · rw [q.2.2 _ (fun z => by omega)]; exact k11
  · rw [q.2.2 _ (fun z => by omega)]; exact k12
  · rw [q.2.2 _ (fun z => by omega)]; exact k13
  · rw [q.2.2 _ (fun z => by omega)]; exact k14
end
