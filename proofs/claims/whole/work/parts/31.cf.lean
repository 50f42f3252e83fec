/-! ===== the class: writes to an object of Woods ===== -/
set_option maxRecDepth 100000
theorem jnm_u {V : Nat → Int32} {i : Nat} {x : Int32} (hi : i < 18 ∨ 82 ≤ i) : jnm (upd V i x) 64 = jnm V 64 := by
  have : ∀ k, k ≤ 64 → jnm (upd V i x) k = jnm V k := by
    intro k
    induction k with
    | zero => intro _; rfl
    | succ k ih => intro hk; rw [jnm_1, jnm_1, ih (by omega), pk_un (by omega)]
  exact this 64 (Nat.le_refl 64)
theorem jsN_u {V : Nat → Int32} {i : Nat} {x : Int32} (hi : ∀ o, 146 + 5 * o + 4 ≠ i) : ∀ n, jsN (upd V i x) n = jsN V n := by
  intro k
  induction k with
  | zero => rfl
  | succ k ih => rw [jsN_1, jsN_1, ih, pk_un (hi k)]
theorem jth_u {V : Nat → Int32} {i : Nat} {x : Int32} (hi : i < 82 ∨ 146 ≤ i) : jth (upd V i x) = jth V := by
  funext c; unfold jth
  by_cases e : c < 64
  · rw [if_pos e, if_pos e, pk_un (by omega)]
  · rw [if_neg e, if_neg e]
theorem jhu_u {V : Nat → Int32} {i : Nat} {x : Int32} (hi : i < 14 ∨ 18 ≤ i) : jhu (upd V i x) = jhu V := by
  funext c; unfold jhu
  by_cases e : c < 4
  · rw [if_pos e, if_pos e, pk_un (by omega)]
  · rw [if_neg e, if_neg e]
theorem jspt_u {V : Nat → Int32} {i : Nat} {x : Int32} (hi : i < 4 ∨ 14 ≤ i) : jspt (upd V i x) = jspt V := by
  funext c; unfold jspt
  by_cases e : c < 10
  · rw [if_pos e, if_pos e, pk_un (by omega)]
  · rw [if_neg e, if_neg e]
theorem jbf_u {V : Nat → Int32} {f i : Nat} {x : Int32} (hi : ∀ o, 146 + 5 * o + f ≠ i) : jbf (upd V i x) f = jbf V f := by
  funext c; unfold jbf
  rw [pk_un (hi c)]
theorem jth_s {V : Nat → Int32} {c : Nat} {x : Int32} (hc : c < 64) : jth (upd V (82 + c) x) = upd (jth V) c x := by
  funext j; unfold jth
  by_cases e : j = c
  · subst e; rw [if_pos hc, pk_us, pk_us]
  · rw [pk_un (by omega), pk_un e]
theorem jhu_s {V : Nat → Int32} {c : Nat} {x : Int32} (hc : c < 4) : jhu (upd V (14 + c) x) = upd (jhu V) c x := by
  funext j; unfold jhu
  by_cases e : j = c
  · subst e; rw [if_pos hc, pk_us, pk_us]
  · rw [pk_un (by omega), pk_un e]
theorem jspt_s {V : Nat → Int32} {c : Nat} {x : Int32} (hc : c < 10) : jspt (upd V (4 + c) x) = upd (jspt V) c x := by
  funext j; unfold jspt
  by_cases e : j = c
  · subst e; rw [if_pos hc, pk_us, pk_us]
  · rw [pk_un (by omega), pk_un e]
theorem jbf_s {V : Nat → Int32} {f b : Nat} {x : Int32} (hb : b < 8) : jbf (upd V (146 + 5 * b + f) x) f = upd (jbf V f) b x := by
  funext j; unfold jbf
  by_cases e : j = b
  · subst e; rw [if_pos hb, pk_us, pk_us]
  · rw [pk_un (by omega), pk_un e]
theorem jsN_s {V : Nat → Int32} {n b : Nat} (hb : b < n) : jsN (upd V (146 + 5 * b + 4) (nI 1)) n = jsN V n ||| 2 ^ b := by
  apply Nat.eq_of_testBit_eq
  intro i
  rw [Nat.testBit_or, jsN_b, jsN_b, Nat.testBit_two_pow]
  by_cases e : b = i
  · subst e; rw [pk_us]; simp [hb]
  · rw [pk_un (by omega)]; simp [e]
theorem jnm_s {V : Nat → Int32} {c : Nat} (hc : c < 64) : jnm (upd V (18 + c) (nI 1)) 64 = jnm V 64 ||| 2 ^ c := by
  apply Nat.eq_of_testBit_eq
  intro i
  rw [Nat.testBit_or, jnm_b, jnm_b, Nat.testBit_two_pow]
  by_cases e : c = i
  · subst e; rw [pk_us]; simp [hc]
  · rw [pk_un (by omega)]; simp [e]
section
variable {F F' : Nat → Nat → Int32} {N N' : Nat → Nat → Int64} {G G' : Nat → Nat → Int32} {w : Nat} {V V' : Nat → Int32} {n n' : Nat} {h0 h' : Int32} {t t' : Nat}
theorem jI_w0 (k : jI F N G w V n h0 t) {b : Nat} {x : Int32} (hb : b < 8) : jI F N (ga G (w + 3) (upd (G (w + 3)) b x)) w (upd V (146 + 5 * b + 0) x) n h0 t := by
  refine ⟨?_, ?_, ?_, ?_, ?_, ?_, ?_, ?_, ?_, ?_, ?_, ?_, ?_, ?_⟩
  · exact jI_0 k
  · rw [jnm_u (by omega)]; exact jI_m k
  · rw [pk_un (by omega)]; exact jI_4 k
  · exact jI_5 k
  · rw [jsN_u (fun o => by omega)]; exact jI_c k
  · rw [pk_un (by omega)]; exact jI_z k
  · exact jI_t k
  · rw [ga_n _ _ (by omega), jth_u (by omega)]; exact jI_a1 k
  · rw [ga_n _ _ (by omega), jhu_u (by omega)]; exact jI_a2 k
  · rw [ga_s, jbf_s hb, jI_a3 k]
  · rw [ga_n _ _ (by omega), jbf_u (fun o => by omega)]; exact jI_a4 k
  · rw [ga_n _ _ (by omega), jbf_u (fun o => by omega)]; exact jI_a5 k
  · rw [ga_n _ _ (by omega), jbf_u (fun o => by omega)]; exact jI_a6 k
  · rw [ga_n _ _ (by omega), jspt_u (by omega)]; exact jI_a7 k
theorem jI_w1 (k : jI F N G w V n h0 t) {b : Nat} {x : Int32} (hb : b < 8) : jI F N (ga G (w + 4) (upd (G (w + 4)) b x)) w (upd V (146 + 5 * b + 1) x) n h0 t := by
  refine ⟨?_, ?_, ?_, ?_, ?_, ?_, ?_, ?_, ?_, ?_, ?_, ?_, ?_, ?_⟩
  · exact jI_0 k
  · rw [jnm_u (by omega)]; exact jI_m k
  · rw [pk_un (by omega)]; exact jI_4 k
  · exact jI_5 k
  · rw [jsN_u (fun o => by omega)]; exact jI_c k
  · rw [pk_un (by omega)]; exact jI_z k
  · exact jI_t k
  · rw [ga_n _ _ (by omega), jth_u (by omega)]; exact jI_a1 k
  · rw [ga_n _ _ (by omega), jhu_u (by omega)]; exact jI_a2 k
  · rw [ga_n _ _ (by omega), jbf_u (fun o => by omega)]; exact jI_a3 k
  · rw [ga_s, jbf_s hb, jI_a4 k]
  · rw [ga_n _ _ (by omega), jbf_u (fun o => by omega)]; exact jI_a5 k
  · rw [ga_n _ _ (by omega), jbf_u (fun o => by omega)]; exact jI_a6 k
  · rw [ga_n _ _ (by omega), jspt_u (by omega)]; exact jI_a7 k
theorem jI_w2 (k : jI F N G w V n h0 t) {b : Nat} {x : Int32} (hb : b < 8) : jI F N (ga G (w + 5) (upd (G (w + 5)) b x)) w (upd V (146 + 5 * b + 2) x) n h0 t := by
  refine ⟨?_, ?_, ?_, ?_, ?_, ?_, ?_, ?_, ?_, ?_, ?_, ?_, ?_, ?_⟩
  · exact jI_0 k
  · rw [jnm_u (by omega)]; exact jI_m k
  · rw [pk_un (by omega)]; exact jI_4 k
  · exact jI_5 k
  · rw [jsN_u (fun o => by omega)]; exact jI_c k
  · rw [pk_un (by omega)]; exact jI_z k
  · exact jI_t k
  · rw [ga_n _ _ (by omega), jth_u (by omega)]; exact jI_a1 k
  · rw [ga_n _ _ (by omega), jhu_u (by omega)]; exact jI_a2 k
  · rw [ga_n _ _ (by omega), jbf_u (fun o => by omega)]; exact jI_a3 k
  · rw [ga_n _ _ (by omega), jbf_u (fun o => by omega)]; exact jI_a4 k
  · rw [ga_s, jbf_s hb, jI_a5 k]
  · rw [ga_n _ _ (by omega), jbf_u (fun o => by omega)]; exact jI_a6 k
  · rw [ga_n _ _ (by omega), jspt_u (by omega)]; exact jI_a7 k
theorem jI_w3 (k : jI F N G w V n h0 t) {b : Nat} {x : Int32} (hb : b < 8) : jI F N (ga G (w + 6) (upd (G (w + 6)) b x)) w (upd V (146 + 5 * b + 3) x) n h0 t := by
  refine ⟨?_, ?_, ?_, ?_, ?_, ?_, ?_, ?_, ?_, ?_, ?_, ?_, ?_, ?_⟩
  · exact jI_0 k
  · rw [jnm_u (by omega)]; exact jI_m k
  · rw [pk_un (by omega)]; exact jI_4 k
  · exact jI_5 k
  · rw [jsN_u (fun o => by omega)]; exact jI_c k
  · rw [pk_un (by omega)]; exact jI_z k
  · exact jI_t k
  · rw [ga_n _ _ (by omega), jth_u (by omega)]; exact jI_a1 k
  · rw [ga_n _ _ (by omega), jhu_u (by omega)]; exact jI_a2 k
  · rw [ga_n _ _ (by omega), jbf_u (fun o => by omega)]; exact jI_a3 k
  · rw [ga_n _ _ (by omega), jbf_u (fun o => by omega)]; exact jI_a4 k
  · rw [ga_n _ _ (by omega), jbf_u (fun o => by omega)]; exact jI_a5 k
  · rw [ga_s, jbf_s hb, jI_a6 k]
  · rw [ga_n _ _ (by omega), jspt_u (by omega)]; exact jI_a7 k
theorem jI_wth (k : jI F N G w V n h0 t) {c : Nat} {x : Int32} (hc : c < 64) : jI F N (ga G (w + 1) (upd (G (w + 1)) c x)) w (upd V (82 + c) x) n h0 t := by
  refine ⟨?_, ?_, ?_, ?_, ?_, ?_, ?_, ?_, ?_, ?_, ?_, ?_, ?_, ?_⟩
  · exact jI_0 k
  · rw [jnm_u (by omega)]; exact jI_m k
  · rw [pk_un (by omega)]; exact jI_4 k
  · exact jI_5 k
  · rw [jsN_u (fun o => by omega)]; exact jI_c k
  · rw [pk_un (by omega)]; exact jI_z k
  · exact jI_t k
  · rw [ga_s, jth_s hc, jI_a1 k]
  · rw [ga_n _ _ (by omega), jhu_u (by omega)]; exact jI_a2 k
  · rw [ga_n _ _ (by omega), jbf_u (fun o => by omega)]; exact jI_a3 k
  · rw [ga_n _ _ (by omega), jbf_u (fun o => by omega)]; exact jI_a4 k
  · rw [ga_n _ _ (by omega), jbf_u (fun o => by omega)]; exact jI_a5 k
  · rw [ga_n _ _ (by omega), jbf_u (fun o => by omega)]; exact jI_a6 k
  · rw [ga_n _ _ (by omega), jspt_u (by omega)]; exact jI_a7 k
theorem jI_whu (k : jI F N G w V n h0 t) {c : Nat} {x : Int32} (hc : c < 4) : jI F N (ga G (w + 2) (upd (G (w + 2)) c x)) w (upd V (14 + c) x) n h0 t := by
  refine ⟨?_, ?_, ?_, ?_, ?_, ?_, ?_, ?_, ?_, ?_, ?_, ?_, ?_, ?_⟩
  · exact jI_0 k
  · rw [jnm_u (by omega)]; exact jI_m k
  · rw [pk_un (by omega)]; exact jI_4 k
  · exact jI_5 k
  · rw [jsN_u (fun o => by omega)]; exact jI_c k
  · rw [pk_un (by omega)]; exact jI_z k
  · exact jI_t k
  · rw [ga_n _ _ (by omega), jth_u (by omega)]; exact jI_a1 k
  · rw [ga_s, jhu_s hc, jI_a2 k]
  · rw [ga_n _ _ (by omega), jbf_u (fun o => by omega)]; exact jI_a3 k
  · rw [ga_n _ _ (by omega), jbf_u (fun o => by omega)]; exact jI_a4 k
  · rw [ga_n _ _ (by omega), jbf_u (fun o => by omega)]; exact jI_a5 k
  · rw [ga_n _ _ (by omega), jbf_u (fun o => by omega)]; exact jI_a6 k
  · rw [ga_n _ _ (by omega), jspt_u (by omega)]; exact jI_a7 k
theorem jI_wsp (k : jI F N G w V n h0 t) {c : Nat} {x : Int32} (hc : c < 10) : jI F N (ga G (w + 7) (upd (G (w + 7)) c x)) w (upd V (4 + c) x) n h0 t := by
  refine ⟨?_, ?_, ?_, ?_, ?_, ?_, ?_, ?_, ?_, ?_, ?_, ?_, ?_, ?_⟩
  · exact jI_0 k
  · rw [jnm_u (by omega)]; exact jI_m k
  · rw [pk_un (by omega)]; exact jI_4 k
  · exact jI_5 k
  · rw [jsN_u (fun o => by omega)]; exact jI_c k
  · rw [pk_un (by omega)]; exact jI_z k
  · exact jI_t k
  · rw [ga_n _ _ (by omega), jth_u (by omega)]; exact jI_a1 k
  · rw [ga_n _ _ (by omega), jhu_u (by omega)]; exact jI_a2 k
  · rw [ga_n _ _ (by omega), jbf_u (fun o => by omega)]; exact jI_a3 k
  · rw [ga_n _ _ (by omega), jbf_u (fun o => by omega)]; exact jI_a4 k
  · rw [ga_n _ _ (by omega), jbf_u (fun o => by omega)]; exact jI_a5 k
  · rw [ga_n _ _ (by omega), jbf_u (fun o => by omega)]; exact jI_a6 k
  · rw [ga_s, jspt_s hc, jI_a7 k]
theorem jI_wf (k : jI F N G w V n h0 t) {x : Int32} : jI (f2 F w 4 x) N G w (upd V 1 x) n h0 t := by
  refine ⟨?_, ?_, ?_, ?_, ?_, ?_, ?_, ?_, ?_, ?_, ?_, ?_, ?_, ?_⟩
  · rw [f2_n _ _ (Or.inr (by decide))]; exact jI_0 k
  · rw [jnm_u (by omega)]; exact jI_m k
  · rw [f2_s, pk_us]
  · rw [f2_n _ _ (Or.inr (by decide))]; exact jI_5 k
  · rw [f2_n _ _ (Or.inr (by decide)), jsN_u (fun o => by omega)]; exact jI_c k
  · rw [f2_n _ _ (Or.inr (by decide)), pk_un (by omega)]; exact jI_z k
  · exact jI_t k
  · rw [jth_u (by omega)]; exact jI_a1 k
  · rw [jhu_u (by omega)]; exact jI_a2 k
  · rw [jbf_u (fun o => by omega)]; exact jI_a3 k
  · rw [jbf_u (fun o => by omega)]; exact jI_a4 k
  · rw [jbf_u (fun o => by omega)]; exact jI_a5 k
  · rw [jbf_u (fun o => by omega)]; exact jI_a6 k
  · rw [jspt_u (by omega)]; exact jI_a7 k
theorem jI_wz (k : jI F N G w V n h0 t) {x : Int32} : jI (f2 F w 11 x) N G w (upd V 3 x) n h0 t := by
  refine ⟨?_, ?_, ?_, ?_, ?_, ?_, ?_, ?_, ?_, ?_, ?_, ?_, ?_, ?_⟩
  · rw [f2_n _ _ (Or.inr (by decide))]; exact jI_0 k
  · rw [jnm_u (by omega)]; exact jI_m k
  · rw [f2_n _ _ (Or.inr (by decide)), pk_un (by omega)]; exact jI_4 k
  · rw [f2_n _ _ (Or.inr (by decide))]; exact jI_5 k
  · rw [f2_n _ _ (Or.inr (by decide)), jsN_u (fun o => by omega)]; exact jI_c k
  · rw [f2_s, pk_us]
  · exact jI_t k
  · rw [jth_u (by omega)]; exact jI_a1 k
  · rw [jhu_u (by omega)]; exact jI_a2 k
  · rw [jbf_u (fun o => by omega)]; exact jI_a3 k
  · rw [jbf_u (fun o => by omega)]; exact jI_a4 k
  · rw [jbf_u (fun o => by omega)]; exact jI_a5 k
  · rw [jbf_u (fun o => by omega)]; exact jI_a6 k
  · rw [jspt_u (by omega)]; exact jI_a7 k
theorem jI_wc (k : jI F N G w V n h0 t) {b : Nat} {x v : Int32} (e : v = nI (jsN (upd V (146 + 5 * b + 4) x) n)) : jI (f2 F w 10 v) N G w (upd V (146 + 5 * b + 4) x) n h0 t := by
  refine ⟨?_, ?_, ?_, ?_, ?_, ?_, ?_, ?_, ?_, ?_, ?_, ?_, ?_, ?_⟩
  · rw [f2_n _ _ (Or.inr (by decide))]; exact jI_0 k
  · rw [jnm_u (by omega)]; exact jI_m k
  · rw [f2_n _ _ (Or.inr (by decide)), pk_un (by omega)]; exact jI_4 k
  · rw [f2_n _ _ (Or.inr (by decide))]; exact jI_5 k
  · rw [f2_s, e]
  · rw [f2_n _ _ (Or.inr (by decide)), pk_un (by omega)]; exact jI_z k
  · exact jI_t k
  · rw [jth_u (by omega)]; exact jI_a1 k
  · rw [jhu_u (by omega)]; exact jI_a2 k
  · rw [jbf_u (fun o => by omega)]; exact jI_a3 k
  · rw [jbf_u (fun o => by omega)]; exact jI_a4 k
  · rw [jbf_u (fun o => by omega)]; exact jI_a5 k
  · rw [jbf_u (fun o => by omega)]; exact jI_a6 k
  · rw [jspt_u (by omega)]; exact jI_a7 k
theorem jI_wm (k : jI F N G w V n h0 t) {c : Nat} {x : Int32} {v : Int64} (hc : c < 64) (e : v = lN (jnm (upd V (18 + c) x) 64)) : jI F (n2 N w 1 v) G w (upd V (18 + c) x) n h0 t := by
  refine ⟨?_, ?_, ?_, ?_, ?_, ?_, ?_, ?_, ?_, ?_, ?_, ?_, ?_, ?_⟩
  · exact jI_0 k
  · rw [n2_s, e]
  · rw [pk_un (by omega)]; exact jI_4 k
  · exact jI_5 k
  · rw [jsN_u (fun o => by omega)]; exact jI_c k
  · rw [pk_un (by omega)]; exact jI_z k
  · rw [n2_n _ _ (Or.inr (by decide))]; exact jI_t k
  · rw [jth_u (by omega)]; exact jI_a1 k
  · rw [jhu_u (by omega)]; exact jI_a2 k
  · rw [jbf_u (fun o => by omega)]; exact jI_a3 k
  · rw [jbf_u (fun o => by omega)]; exact jI_a4 k
  · rw [jbf_u (fun o => by omega)]; exact jI_a5 k
  · rw [jbf_u (fun o => by omega)]; exact jI_a6 k
  · rw [jspt_u (by omega)]; exact jI_a7 k
theorem jI_wt (k : jI F N G w V n h0 t) {t2 : Nat} {v : Int64} (e : v = lN t2) : jI F (n2 N w 13 v) G w V n h0 t2 := by
  refine ⟨?_, ?_, ?_, ?_, ?_, ?_, ?_, ?_, ?_, ?_, ?_, ?_, ?_, ?_⟩
  · exact jI_0 k
  · rw [n2_n _ _ (Or.inr (by decide))]; exact jI_m k
  · exact jI_4 k
  · exact jI_5 k
  · exact jI_c k
  · exact jI_z k
  · rw [n2_s, e]
  · exact jI_a1 k
  · exact jI_a2 k
  · exact jI_a3 k
  · exact jI_a4 k
  · exact jI_a5 k
  · exact jI_a6 k
  · exact jI_a7 k
theorem jI_wh (k : jI F N G w V n h0 t) {v : Int32} : jI (f2 F w 0 v) N G w V n v t := by
  refine ⟨?_, ?_, ?_, ?_, ?_, ?_, ?_, ?_, ?_, ?_, ?_, ?_, ?_, ?_⟩
  · rw [f2_s]
  · exact jI_m k
  · rw [f2_n _ _ (Or.inr (by decide))]; exact jI_4 k
  · rw [f2_n _ _ (Or.inr (by decide))]; exact jI_5 k
  · rw [f2_n _ _ (Or.inr (by decide))]; exact jI_c k
  · rw [f2_n _ _ (Or.inr (by decide))]; exact jI_z k
  · exact jI_t k
  · exact jI_a1 k
  · exact jI_a2 k
  · exact jI_a3 k
  · exact jI_a4 k
  · exact jI_a5 k
  · exact jI_a6 k
  · exact jI_a7 k
end
