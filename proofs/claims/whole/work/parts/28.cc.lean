/-! ===== the class: bits of a long ===== -/
set_option maxRecDepth 100000
/-- bits of x below k -/
def jcb (x : Nat) : Nat → Nat
  | 0 => 0
  | k + 1 => jcb x k + (if x.testBit k = true then 1 else 0)
theorem jcb_1 (x k : Nat) : jcb x (k + 1) = jcb x k + (if x.testBit k = true then 1 else 0) := rfl
theorem jcb_h (x : Nat) : ∀ k, jcb x (k + 1) = jcb (x / 2) k + x % 2 := by
  intro k
  induction k with
  | zero =>
    have := jbit_e x 0
    rw [Nat.pow_zero, Nat.div_one] at this
    rw [jcb_1, ← this]
    rfl
  | succ k ih => rw [jcb_1 x (k + 1), ih, jcb_1 (x / 2) k, Nat.testBit_succ]; omega
theorem jcb_p : ∀ k x, jcb x k = jpop k x := by
  intro k
  induction k with
  | zero => intro x; rfl
  | succ k ih => intro x; rw [jcb_h, ih]; rfl
theorem jpop_8 (k x : Nat) : jpop (k + 8) x = jpop k (x / 256) + jpop 8 (x % 256) := by
  show jpop k (x / 2 / 2 / 2 / 2 / 2 / 2 / 2 / 2) + x / 2 / 2 / 2 / 2 / 2 / 2 / 2 % 2 + x / 2 / 2 / 2 / 2 / 2 / 2 % 2 + x / 2 / 2 / 2 / 2 / 2 % 2 + x / 2 / 2 / 2 / 2 % 2 + x / 2 / 2 / 2 % 2 + x / 2 / 2 % 2 + x / 2 % 2 + x % 2 = jpop k (x / 256) + (0 + x % 256 / 2 / 2 / 2 / 2 / 2 / 2 / 2 % 2 + x % 256 / 2 / 2 / 2 / 2 / 2 / 2 % 2 + x % 256 / 2 / 2 / 2 / 2 / 2 % 2 + x % 256 / 2 / 2 / 2 / 2 % 2 + x % 256 / 2 / 2 / 2 % 2 + x % 256 / 2 / 2 % 2 + x % 256 / 2 % 2 + x % 256 % 2)
  rw [show x / 2 / 2 / 2 / 2 / 2 / 2 / 2 / 2 = x / 256 by omega]
  omega
/-- a mask of n bytes m -/
def jmk (m : Nat) : Nat → Nat
  | 0 => 0
  | n + 1 => m + 256 * jmk m n
theorem jand_s {a b m k : Nat} (ha : a < 256) (hm : m < 256) : (a + 256 * b) &&& (m + 256 * k) = (a &&& m) + 256 * (b &&& k) := by
  have h1 : ((a + 256 * b) &&& (m + 256 * k)) % 2 ^ 8 = a &&& m := by rw [Nat.and_mod_two_pow, show (a + 256 * b) % 2 ^ 8 = a by omega, show (m + 256 * k) % 2 ^ 8 = m by omega]
  have h2 : ((a + 256 * b) &&& (m + 256 * k)) / 2 ^ 8 = b &&& k := by rw [Nat.and_div_two_pow, show (a + 256 * b) / 2 ^ 8 = b by omega, show (m + 256 * k) / 2 ^ 8 = k by omega]
  omega
def js1 (n x : Nat) : Nat := x - (x / 2 &&& jmk 85 n)
def js2 (n x : Nat) : Nat := (x &&& jmk 51 n) + (x / 4 &&& jmk 51 n)
def js3 (n x : Nat) : Nat := (x + x / 16) &&& jmk 15 n
theorem jb1 : ∀ a, a < 256 → ∀ p, p < 2 → (a / 2 + 128 * p) &&& 85 = a / 2 &&& 85 := by decide +kernel
theorem jb2 : ∀ a, a < 256 → ∀ p, p < 4 → (a / 4 + 64 * p) &&& 51 = a / 4 &&& 51 := by decide +kernel
theorem jb3 : ∀ a, a ≤ 68 → ∀ p, p ≤ 4 → (a + a / 16 + 16 * p) &&& 15 = (a + a / 16) &&& 15 := by decide +kernel
theorem jb4 : ∀ a, a < 256 → (a - (a / 2 &&& 85)) < 256 ∧ (a / 2 &&& 85) ≤ a ∧ ((a &&& 51) + (a / 4 &&& 51)) ≤ 102 := by decide +kernel
theorem jb5 : ∀ a, a < 256 → (((a - (a / 2 &&& 85)) &&& 51) + ((a - (a / 2 &&& 85)) / 4 &&& 51)) ≤ 68 ∧ (((a - (a / 2 &&& 85)) &&& 51) + ((a - (a / 2 &&& 85)) / 4 &&& 51)) % 16 ≤ 4 ∧ ((((a - (a / 2 &&& 85)) &&& 51) + ((a - (a / 2 &&& 85)) / 4 &&& 51)) + (((a - (a / 2 &&& 85)) &&& 51) + ((a - (a / 2 &&& 85)) / 4 &&& 51)) / 16) &&& 15 = jpop 8 a := by decide +kernel
theorem js1_s {a b n : Nat} (ha : a < 256) : js1 (n + 1) (a + 256 * b) = (a - (a / 2 &&& 85)) + 256 * js1 n b := by
  unfold js1
  rw [show (a + 256 * b) / 2 = (a / 2 + 128 * (b % 2)) + 256 * (b / 2) by omega]
  show a + 256 * b - (_ &&& (85 + 256 * jmk 85 n)) = _
  rw [jand_s (by omega) (by decide), jb1 a ha _ (Nat.mod_lt _ (by decide))]
  have h1 := (jb4 a ha).2.1
  have h2 : (b / 2 &&& jmk 85 n) ≤ b := Nat.le_trans Nat.and_le_left (Nat.div_le_self _ _)
  omega
theorem js2_s {a b n : Nat} (ha : a < 256) : js2 (n + 1) (a + 256 * b) = ((a &&& 51) + (a / 4 &&& 51)) + 256 * js2 n b := by
  unfold js2
  rw [show (a + 256 * b) / 4 = (a / 4 + 64 * (b % 4)) + 256 * (b / 4) by omega]
  show ((a + 256 * b) &&& (51 + 256 * jmk 51 n)) + (_ &&& (51 + 256 * jmk 51 n)) = _
  rw [jand_s (by omega) (by decide), jand_s (by omega) (by decide), jb2 a ha _ (Nat.mod_lt _ (by decide))]
  omega
theorem js_t : ∀ n x, js2 n (js1 n x) % 16 ≤ 4 ∧ js3 n (js2 n (js1 n x)) = (if n = 0 then 0 else jpop 8 (x % 256) + 256 * js3 (n - 1) (js2 (n - 1) (js1 (n - 1) (x / 256)))) := by
  intro n
  induction n with
  | zero => intro x; exact ⟨by show (((x - _) &&& 0) + (_ &&& 0)) % 16 ≤ 4; simp, by show _ &&& 0 = 0; simp⟩
  | succ n ih =>
    intro x
    have e : x = x % 256 + 256 * (x / 256) := by omega
    have ha : x % 256 < 256 := Nat.mod_lt _ (by decide)
    generalize x % 256 = a at *
    generalize x / 256 = b at *
    obtain ⟨h1, h2⟩ := ih b
    obtain ⟨g1, g2, g3⟩ := jb5 a ha
    rw [e, js1_s ha, js2_s (jb4 a ha).1]
    refine ⟨by omega, ?_⟩
    rw [if_neg (by omega)]
    show js3 (n + 1) _ = _ + 256 * js3 n (js2 n (js1 n b))
    generalize js2 n (js1 n b) = c at *
    generalize hy : ((a - (a / 2 &&& 85)) &&& 51) + ((a - (a / 2 &&& 85)) / 4 &&& 51) = y at *
    unfold js3
    rw [show y + 256 * c + (y + 256 * c) / 16 = (y + y / 16 + 16 * (c % 16)) + 256 * (c + c / 16) by omega]
    show _ &&& (15 + 256 * jmk 15 n) = _
    rw [jand_s (by omega) (by decide), jb3 y g1 _ h1, g3]
theorem js_u (n x : Nat) : js3 (n + 1) (js2 (n + 1) (js1 (n + 1) x)) = jpop 8 (x % 256) + 256 * js3 n (js2 n (js1 n (x / 256))) := (js_t (n + 1) x).2
theorem jdm {u v d : Nat} (h : u < d) : (u + d * v) / d = v := by rw [Nat.add_mul_div_left _ _ (by omega), Nat.div_eq_of_lt h, Nat.zero_add]
theorem jsa (a b c d e f g h : Nat) : (a + 256 * (b + 256 * (c + 256 * (d + 256 * (e + 256 * (f + 256 * (g + 256 * h))))))) + (b + 256 * (c + 256 * (d + 256 * (e + 256 * (f + 256 * (g + 256 * h)))))) = ((a + b) + 256 * (b + c)) + 65536 * ((c + d) + 256 * ((d + e) + 256 * ((e + f) + 256 * ((f + g) + 256 * ((g + h) + 256 * h))))) := by omega
theorem jsb2 (x c d e f g h : Nat) : (x + 65536 * ((c + d) + 256 * ((d + e) + 256 * ((e + f) + 256 * ((f + g) + 256 * ((g + h) + 256 * h)))))) + ((c + d) + 256 * ((d + e) + 256 * ((e + f) + 256 * ((f + g) + 256 * ((g + h) + 256 * h))))) = (x + (c + d) + 256 * (d + e) + 65536 * ((c + d) + (e + f) + 256 * (d + e) + 256 * (f + g))) + 4294967296 * ((e + f + g + h) + 256 * ((f + g + h) + 256 * ((g + h) + 256 * h))) := by omega
theorem jsum8 {a b c d e f g h y : Nat} (ha : a ≤ 8) (hb : b ≤ 8) (hc : c ≤ 8) (hd : d ≤ 8) (he : e ≤ 8) (hf : f ≤ 8) (hg : g ≤ 8) (hh : h ≤ 8) (hy : y = a + 256 * (b + 256 * (c + 256 * (d + 256 * (e + 256 * (f + 256 * (g + 256 * h))))))) :
    (y + y / 256 + (y + y / 256) / 65536 + (y + y / 256 + (y + y / 256) / 65536) / 4294967296) % 128 = h + g + f + e + d + c + b + a ∧ y < 2 ^ 60 := by
  refine ⟨?_, by omega⟩
  have h1 : y / 256 = b + 256 * (c + 256 * (d + 256 * (e + 256 * (f + 256 * (g + 256 * h))))) := by rw [hy]; exact jdm (by omega)
  rw [h1, hy, jsa, jdm (by omega), jsb2, jdm (by omega)]
  generalize (f + g + h) + 256 * ((g + h) + 256 * h) = R
  clear h1 hy
  omega
theorem jmk8 : jmk 85 8 = 6148914691236517205 ∧ jmk 51 8 = 3689348814741910323 ∧ jmk 15 8 = 1085102592571150095 := by decide +kernel
theorem jpop8_le : ∀ a, a < 256 → jpop 8 a ≤ 8 := by decide +kernel
theorem jpop64 {x : Nat} (hx : x < 2 ^ 64) : ∃ y, y = js3 8 (js2 8 (js1 8 x)) ∧ (y + y / 256 + (y + y / 256) / 65536 + (y + y / 256 + (y + y / 256) / 65536) / 4294967296) % 128 = jpop 64 x ∧ y < 2 ^ 60 := by
  refine ⟨_, rfl, ?_⟩
  have m : ∀ z, jpop 8 (z % 256) ≤ 8 := fun z => jpop8_le _ (Nat.mod_lt _ (by decide))
  have e0 : jpop 64 x = jpop 8 (x / 256 / 256 / 256 / 256 / 256 / 256 / 256 % 256) + jpop 8 (x / 256 / 256 / 256 / 256 / 256 / 256 % 256) + jpop 8 (x / 256 / 256 / 256 / 256 / 256 % 256) + jpop 8 (x / 256 / 256 / 256 / 256 % 256) + jpop 8 (x / 256 / 256 / 256 % 256) + jpop 8 (x / 256 / 256 % 256) + jpop 8 (x / 256 % 256) + jpop 8 (x % 256) := by
    rw [jpop_8 56, jpop_8 48, jpop_8 40, jpop_8 32, jpop_8 24, jpop_8 16, jpop_8 8, show x / 256 / 256 / 256 / 256 / 256 / 256 / 256 = x / 256 / 256 / 256 / 256 / 256 / 256 / 256 % 256 by omega]
    rw [Nat.mod_mod]
  rw [e0]
  refine jsum8 (m _) (m _) (m _) (m _) (m _) (m _) (m _) (m _) ?_
  rw [js_u 7, js_u 6, js_u 5, js_u 4, js_u 3, js_u 2, js_u 1, js_u 0]
  show _ = _
  rw [show js3 0 (js2 0 (js1 0 (x / 256 / 256 / 256 / 256 / 256 / 256 / 256 / 256))) = 0 from (js_t 0 _).2, Nat.mul_zero, Nat.add_zero]
theorem jsh (k : Nat) (hk : k < 64) {x : Nat} (hx : x < 2 ^ 64) (d : Nat) (hd : 2 ^ k = d) : ((lN x).toUInt64 >>> ((nI k).toInt64.toUInt64 &&& Int64.toUInt64 63)).toInt64 = lN (x / d) := by rw [wb_shr hx hk, hd]
theorem jan {x : Nat} (hx : x < 2 ^ 64) {m : Int64} (d : Nat) (hm : m = lN d) (hd : d < 2 ^ 64) : lN x &&& m = lN (x &&& d) := by rw [hm, wb_and hx hd]
theorem jan7 {n m : Nat} (h : n % 128 = m) : nI n &&& nI 127 = nI m := by
  rw [pk_and (nI n) 7 (by decide)]
  show nI (n % 2 ^ 32 % 2 ^ 7) = nI m
  rw [← h, show n % 2 ^ 32 % 2 ^ 7 = n % 128 by omega]
theorem eJ13_bitCount_95d88 {x : Nat} {h : zH} (hx : x < 2 ^ 64) : Mx mJ13_bitCount_95d88 [.long (lN x)] h (some (.int (nI (jpop 64 x)))) h := by
  refine mx_of (L := [some (.long (lN x)), none]) (by decide) (fun _ => rfl) (fun _ => Nat.le_of_ble_eq_true rfl) ?_
  obtain ⟨y, hy, e, hy60⟩ := jpop64 hx
  obtain ⟨k1, k2, k3⟩ := jmk8
  have e1 : js1 8 x = x - (x / 2 &&& 6148914691236517205) := by unfold js1; rw [k1]
  have l1 : (x / 2 &&& 6148914691236517205) ≤ x := Nat.le_trans Nat.and_le_left (Nat.div_le_self _ _)
  generalize h1 : js1 8 x = x1 at *
  have b1 : x1 < 2 ^ 64 := by omega
  have e2 : js2 8 x1 = (x1 &&& 3689348814741910323) + (x1 / 4 &&& 3689348814741910323) := by unfold js2; rw [k2]
  have l2 : (x1 &&& 3689348814741910323) ≤ 3689348814741910323 := Nat.and_le_right
  have l3 : (x1 / 4 &&& 3689348814741910323) ≤ 3689348814741910323 := Nat.and_le_right
  generalize h2 : js2 8 x1 = x2 at *
  have b2 : x2 < 2 ^ 63 := by omega
  have e3 : js3 8 x2 = (x2 + x2 / 16) &&& 1085102592571150095 := by unfold js3; rw [k3]
  generalize h3 : js3 8 x2 = x3 at *
  subst hy
  refine fx_lload_n dJ13_bitCount_95d88_0 rfl rfl ?_
  refine fx_lload_n dJ13_bitCount_95d88_1 rfl rfl ?_
  refine fx_iconst (v := nI 1) dJ13_bitCount_95d88_2 (by decide) ?_
  refine fx_lushr dJ13_bitCount_95d88_3 ?_
  rw [jsh 1 (by decide) hx 2 rfl]
  refine fx_ldc2 dJ13_bitCount_95d88_4 qJ13_314 ?_
  refine fx_land dJ13_bitCount_95d88_7 ?_
  rw [jan (by omega) 6148914691236517205 (by decide) (by decide)]
  refine fx_lsub dJ13_bitCount_95d88_8 ?_
  rw [lN_sub l1, ← e1]
  refine fs_lstore_n_0 dJ13_bitCount_95d88_9 rfl (by decide) ?_
  refine fx_lload_n dJ13_bitCount_95d88_10 rfl rfl ?_
  refine fx_ldc2 dJ13_bitCount_95d88_11 qJ13_316 ?_
  refine fx_land dJ13_bitCount_95d88_14 ?_
  rw [jan b1 3689348814741910323 (by decide) (by decide)]
  refine fx_lload_n dJ13_bitCount_95d88_15 rfl rfl ?_
  refine fx_iconst (v := nI 2) dJ13_bitCount_95d88_16 (by decide) ?_
  refine fx_lushr dJ13_bitCount_95d88_17 ?_
  rw [jsh 2 (by decide) b1 4 rfl]
  refine fx_ldc2 dJ13_bitCount_95d88_18 qJ13_316 ?_
  refine fx_land dJ13_bitCount_95d88_21 ?_
  rw [jan (by omega) 3689348814741910323 (by decide) (by decide)]
  refine fx_ladd dJ13_bitCount_95d88_22 ?_
  rw [lN_add, ← e2]
  refine fs_lstore_n_0 dJ13_bitCount_95d88_23 rfl (by decide) ?_
  refine fx_lload_n dJ13_bitCount_95d88_24 rfl rfl ?_
  refine fx_lload_n dJ13_bitCount_95d88_25 rfl rfl ?_
  refine fx_iconst (v := nI 4) dJ13_bitCount_95d88_26 (by decide) ?_
  refine fx_lushr dJ13_bitCount_95d88_27 ?_
  rw [jsh 4 (by decide) (by omega) 16 rfl]
  refine fx_ladd dJ13_bitCount_95d88_28 ?_
  rw [lN_add]
  refine fx_ldc2 dJ13_bitCount_95d88_29 qJ13_318 ?_
  refine fx_land dJ13_bitCount_95d88_32 ?_
  rw [jan (by omega) 1085102592571150095 (by decide) (by decide), ← e3]
  refine fs_lstore_n_0 dJ13_bitCount_95d88_33 rfl (by decide) ?_
  refine fx_lload_n dJ13_bitCount_95d88_34 rfl rfl ?_
  refine fx_lload_n dJ13_bitCount_95d88_35 rfl rfl ?_
  refine fx_bipush (v := nI 8) dJ13_bitCount_95d88_36 (by decide) ?_
  refine fx_lushr dJ13_bitCount_95d88_38 ?_
  rw [jsh 8 (by decide) (by omega) 256 rfl]
  refine fx_ladd dJ13_bitCount_95d88_39 ?_
  rw [lN_add]
  refine fs_lstore_n_0 dJ13_bitCount_95d88_40 rfl (by decide) ?_
  refine fx_lload_n dJ13_bitCount_95d88_41 rfl rfl ?_
  refine fx_lload_n dJ13_bitCount_95d88_42 rfl rfl ?_
  refine fx_bipush (v := nI 16) dJ13_bitCount_95d88_43 (by decide) ?_
  refine fx_lushr dJ13_bitCount_95d88_45 ?_
  rw [jsh 16 (by decide) (by omega) 65536 rfl]
  refine fx_ladd dJ13_bitCount_95d88_46 ?_
  rw [lN_add]
  refine fs_lstore_n_0 dJ13_bitCount_95d88_47 rfl (by decide) ?_
  refine fx_lload_n dJ13_bitCount_95d88_48 rfl rfl ?_
  refine fx_lload_n dJ13_bitCount_95d88_49 rfl rfl ?_
  refine fx_bipush (v := nI 32) dJ13_bitCount_95d88_50 (by decide) ?_
  refine fx_lushr dJ13_bitCount_95d88_52 ?_
  rw [jsh 32 (by decide) (by omega) 4294967296 rfl]
  refine fx_ladd dJ13_bitCount_95d88_53 ?_
  rw [lN_add]
  refine fs_lstore_n_0 dJ13_bitCount_95d88_54 rfl (by decide) ?_
  refine fx_lload_n dJ13_bitCount_95d88_55 rfl rfl ?_
  refine fx_l2i dJ13_bitCount_95d88_56 ?_
  rw [lN_i]
  refine fx_bipush (v := nI 127) dJ13_bitCount_95d88_57 (by decide) ?_
  refine fx_iand dJ13_bitCount_95d88_59 ?_
  exact fx_ireq dJ13_bitCount_95d88_60 rfl rfl (jan7 e) rfl
