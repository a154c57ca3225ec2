section QM2
def pm_ev (R : Nat → Int64) (mk : Int32) (j : Nat) : Nat → Int32
  | 0 => 0
  | k + 1 => if pm_ev R mk j k = 0 then pf_bm R mk (21 * j + (k + 1)) else 1
theorem pm_ev_s (R : Nat → Int64) (mk : Int32) (j k : Nat) : pm_ev R mk j (k + 1) = if pm_ev R mk j k = 0 then pf_bm R mk (21 * j + (k + 1)) else 1 := rfl
def pm_cnt (R : Nat → Int64) (mk : Int32) (yr : Nat) : Nat → Int32
  | 0 => 0
  | j + 1 => if pm_ev R mk j yr = 0 then pm_cnt R mk yr j else pm_cnt R mk yr j + 1
theorem pm_cnt_s (R : Nat → Int64) (mk : Int32) (yr j : Nat) : pm_cnt R mk yr (j + 1) = if pm_ev R mk j yr = 0 then pm_cnt R mk yr j else pm_cnt R mk yr j + 1 := rfl
def pm_tr (a b c : Int32) : Int32 := if a = 0 then 1 else if b = 0 then 2 else if c = 0 then 2 else 0
theorem pm_tr_0 {a b c : Int32} (h : pm_tr a b c ≤ 0) : ¬ a = 0 ∧ ¬ b = 0 ∧ ¬ c = 0 := by
  unfold pm_tr at h
  split at h
  · exact absurd h (by decide)
  · split at h
    · exact absurd h (by decide)
    · split at h
      · exact absurd h (by decide)
      · exact ⟨by assumption, by assumption, by assumption⟩
theorem pm_t1_0 {a : Int32} (h : pm_t1 a = 0) : ¬ a = 0 := fun q => by
  unfold pm_t1 at h
  rw [if_pos q] at h
  exact absurd h (by decide)
def pm_t4 (r a b c : Int32) : Int32 := if r = 0 then 1 else if a = 0 then (if b = 0 then (if c = 0 then 2 else 0) else 2) else 2
theorem pm_t4_0 {r a b c : Int32} (h : pm_t4 r a b c ≤ 0) : ¬ r = 0 ∧ a = 0 ∧ b = 0 ∧ ¬ c = 0 := by
  unfold pm_t4 at h
  split at h
  · exact absurd h (by decide)
  · split at h
    · split at h
      · split at h
        · exact absurd h (by decide)
        · exact ⟨by assumption, by assumption, by assumption, by assumption⟩
      · exact absurd h (by decide)
    · exact absurd h (by decide)
def pm_td (S : Nat → Nat → Int64) (w : Int32) (p : Nat) : Int64 := if w = 0 then S 1 p else if w = 1 then S 2 p else if w = 2 then S 3 p else S 4 p
def pm_part (a b : Nat) (pt : Int32) : Int64 := if pt = 0 then lN a / lN (Nat.gcd a b) else lN b / lN (Nat.gcd a b)
theorem qn_lN0 {u : Nat} (h : lN u = 0) (hu : u < 2 ^ 63) : u = 0 := (pk_lEQ (b := 0) hu (by decide)).mp h
theorem qn_lN1 {u : Nat} (h : ¬ lN u = 0) : 0 < u := by
  rcases Nat.eq_zero_or_pos u with z | z
  · subst z; exact absurd rfl h
  · exact z
theorem qn_lNn {u : Nat} (h : 0 < u) (hu : u < 2 ^ 63) : ¬ lN u = 0 := fun q => by
  have := qn_lN0 q hu
  omega
theorem qn_gcdlt {a b : Nat} (hb : 0 < b) (h : b < 2 ^ 63) : Nat.gcd a b < 2 ^ 63 := Nat.lt_of_le_of_lt (Nat.gcd_le_right a hb) h
def pm_t5 (r b c : Int32) : Int32 := if r = 0 then 1 else if b = 0 then (if c = 0 then 2 else 0) else 2
theorem pm_t5_0 {r b c : Int32} (h : pm_t5 r b c ≤ 0) : ¬ r = 0 ∧ b = 0 ∧ ¬ c = 0 := by
  unfold pm_t5 at h
  split at h
  · exact absurd h (by decide)
  · split at h
    · split at h
      · exact absurd h (by decide)
      · exact ⟨by assumption, by assumption, by assumption⟩
    · exact absurd h (by decide)
theorem qm_exit {α : Type} {T : Int32} {f : Nat → α} {k n : Nat} {z : α} (hT : k = 0 ∨ T = 0) (hk : T = 0 → k = n) (h0 : f 0 = z) : f k = pm_sel T (f n) z := by
  by_cases q : T = 0
  · unfold pm_sel
    rw [if_pos q, hk q]
  · unfold pm_sel
    rw [if_neg q]
    rcases hT with z1 | z1
    · rw [z1]; exact h0
    · exact absurd z1 q
def pm_bn (R : Nat → Int64) (mk : Int32) (y : Nat) : Nat → Nat
  | 0 => 0
  | j + 1 => if mk.toInt64 ≤ R (21 * j + y) then pm_bn R mk y j else pm_bn R mk y j + 1
theorem pm_bn_s (R : Nat → Int64) (mk : Int32) (y j : Nat) : pm_bn R mk y (j + 1) = if mk.toInt64 ≤ R (21 * j + y) then pm_bn R mk y j else pm_bn R mk y j + 1 := rfl
theorem pm_bn_le (R : Nat → Int64) (mk : Int32) (y : Nat) : ∀ j, pm_bn R mk y j ≤ j
  | 0 => Nat.le_refl 0
  | j + 1 => by
    rw [pm_bn_s]
    have := pm_bn_le R mk y j
    split <;> omega
theorem qn_le0I {t : Int32} (h : t ≤ 0) (h2 : t = 0 ∨ t = 1 ∨ t = 2 ∨ t = 3) : t = 0 := by
  rcases h2 with rfl | rfl | rfl | rfl
  · rfl
  all_goals exact absurd h (by decide)
theorem pm_t5_v (r b c : Int32) : pm_t5 r b c = 0 ∨ pm_t5 r b c = 1 ∨ pm_t5 r b c = 2 ∨ pm_t5 r b c = 3 := by
  unfold pm_t5; split <;> (try split) <;> (try split) <;> simp
def pm_ab (x : Int64) : Int64 := if 0 ≤ x then x else -x
def pm_st (R : Nat → Int64) (se : Nat) : Nat → Int64
  | 0 => 0
  | k + 1 => pm_st R se k + pm_ab (R (21 * se + (k + 2)) - R (21 * se + (k + 2) - 1))
theorem pm_r1_0 {r a : Int32} (h : pm_r1 r a = 0) : ¬ r = 0 ∧ a = 0 := by
  unfold pm_r1 at h
  split at h
  · exact absurd h (by decide)
  · split at h
    · exact ⟨by assumption, by assumption⟩
    · exact absurd h (by decide)
def pm_t7 (r a b : Int32) : Int32 := if r = 0 then 1 else if a = 0 then (if b = 0 then 3 else 0) else 2
theorem pm_t7_0 {r a b : Int32} (h : pm_t7 r a b = 0) : ¬ r = 0 ∧ a = 0 ∧ ¬ b = 0 := by
  unfold pm_t7 at h
  split at h
  · exact absurd h (by decide)
  · split at h
    · split at h
      · exact absurd h (by decide)
      · exact ⟨by assumption, by assumption, by assumption⟩
    · exact absurd h (by decide)
theorem pm_t7_v (r b c : Int32) : pm_t7 r b c = 0 ∨ pm_t7 r b c = 1 ∨ pm_t7 r b c = 2 ∨ pm_t7 r b c = 3 := by
  unfold pm_t7; split <;> (try split) <;> (try split) <;> simp
def pm_gd (R : Nat → Int64) (mk : Int32) (se y : Nat) : Nat → Int32
  | 0 => 1
  | d + 1 => if pm_gd R mk se y d = 0 then 0 else if R (21 * se + (y + d)) < mk.toInt64 then 0 else 1
theorem pm_gd_s (R : Nat → Int64) (mk : Int32) (se y d : Nat) : pm_gd R mk se y (d + 1) = if pm_gd R mk se y d = 0 then 0 else if R (21 * se + (y + d)) < mk.toInt64 then 0 else 1 := rfl
def pm_sr (F : Nat → Int32) : Nat → Int32
  | 0 => -1
  | i + 1 => if pm_sr F i = -1 then (if F i = 0 then -1 else nI (i + 1)) else pm_sr F i
theorem pm_sr_old {F : Nat → Int32} {i : Nat} (h : pm_sr F i = -1) (h0 : F i = 0) : pm_sr F (i + 1) = -1 := by
  show (if pm_sr F i = -1 then (if F i = 0 then _ else _) else _) = _
  rw [if_pos h, if_pos h0]
theorem pm_sr_up {F : Nat → Int32} : ∀ {k n : Nat}, k ≤ n → ¬ pm_sr F k = -1 → pm_sr F n = pm_sr F k
  | k, 0, h, q => by rw [show k = 0 by omega]
  | k, n + 1, h, q => by
    rcases Nat.lt_or_ge k (n + 1) with z | z
    · have ih := pm_sr_up (k := k) (n := n) (by omega) q
      show (if pm_sr F n = -1 then _ else pm_sr F n) = _
      rw [if_neg (by rw [ih]; exact q), ih]
    · rw [show k = n + 1 by omega]
theorem pm_sr_at {F : Nat → Int32} {i n : Nat} (hi : i < n) (hn : n < 2 ^ 30) (h : pm_sr F i = -1) (h0 : ¬ F i = 0) : nI (i + 1) = pm_sr F n := by
  have e : pm_sr F (i + 1) = nI (i + 1) := by
    show (if pm_sr F i = -1 then (if F i = 0 then _ else _) else _) = _
    rw [if_pos h, if_neg h0]
  rw [pm_sr_up (k := i + 1) hi (by rw [e]; exact qn_m1 (by omega)), e]
def pm_F (R : Nat → Int64) (mk : Int32) (se sn : Nat) : Nat → Int32 := fun i => pm_gd R mk se (i + 1) sn
def pm_t8 (r b a : Int32) : Int32 := if r = 0 then 1 else if b = 0 then (if a = 0 then 0 else 2) else 2
theorem pm_t8_0 {r b a : Int32} (h : pm_t8 r b a = 0) : ¬ r = 0 ∧ b = 0 ∧ a = 0 := by
  unfold pm_t8 at h
  split at h
  · exact absurd h (by decide)
  · split at h
    · split at h
      · exact ⟨by assumption, by assumption, by assumption⟩
      · exact absurd h (by decide)
    · exact absurd h (by decide)
def pm_lt (d : Int64) (o j : Nat) : Nat := if d < 0 then 1 else if d = 0 then (if nI j ≤ nI o then 0 else 1) else 0
def pm_bf (R : Nat → Int64) (y j : Nat) : Nat → Nat
  | 0 => 0
  | o + 1 => pm_bf R y j o + pm_lt (R (21 * o + y) - R (21 * j + y)) o j
theorem pm_bf_s (R : Nat → Int64) (y j o : Nat) : pm_bf R y j (o + 1) = pm_bf R y j o + pm_lt (R (21 * o + y) - R (21 * j + y)) o j := rfl
theorem pm_bf_le (R : Nat → Int64) (y j : Nat) : ∀ o, pm_bf R y j o ≤ o
  | 0 => Nat.le_refl 0
  | o + 1 => by
    rw [pm_bf_s]
    have := pm_bf_le R y j o
    have h2 : pm_lt (R (21 * o + y) - R (21 * j + y)) o j ≤ 1 := by
      unfold pm_lt; split <;> (try split) <;> (try split) <;> decide
    omega
def pm_rs (f : Nat → Nat) (g : Nat → Int64) (k : Nat) : Nat → Option Int64
  | 0 => none
  | j + 1 => match pm_rs f g k j with
    | some v => some v
    | none => if f j = k then some (g j) else none
theorem pm_rs_old {f : Nat → Nat} {g : Nat → Int64} {k j : Nat} (h : pm_rs f g k j = none) (h0 : ¬ f j = k) : pm_rs f g k (j + 1) = none := by
  simp only [pm_rs, h, if_neg h0]
theorem pm_rs_new {f : Nat → Nat} {g : Nat → Int64} {k j : Nat} (h : pm_rs f g k j = none) (h0 : f j = k) : pm_rs f g k (j + 1) = some (g j) := by
  simp only [pm_rs, h, if_pos h0]
theorem pm_rs_up {f : Nat → Nat} {g : Nat → Int64} {k : Nat} {v : Int64} : ∀ {j n : Nat}, j ≤ n → pm_rs f g k j = some v → pm_rs f g k n = some v
  | j, 0, h, q => by rw [show j = 0 by omega] at q; exact q
  | j, n + 1, h, q => by
    rcases Nat.lt_or_ge j (n + 1) with z | z
    · have ih := pm_rs_up (j := j) (n := n) (by omega) q
      simp only [pm_rs, ih]
    · rw [show j = n + 1 by omega] at q; exact q
def pm_sumY (R : Nat → Int64) (fr : Nat) (a : Int64) : Nat → Int64
  | 0 => a
  | k + 1 => pm_sumY R fr a k + R (fr + (k + 1))
def pm_sumA (R : Nat → Int64) (ba yr : Nat) : Nat → Int64
  | 0 => 0
  | j + 1 => pm_sumY R (ba + 21 * j) (pm_sumA R ba yr j) yr
def pm_sumL (R : Nat → Int64) (yr : Nat) : Nat → Int64
  | 0 => 0
  | j + 1 => pm_sumL R yr j + R (21 * j + yr)
def pm_t9 (r a b : Int32) : Int32 := if r = 0 then 1 else if a = 0 then 2 else if b = 0 then 2 else 0
theorem pm_t9_0 {r a b : Int32} (h : pm_t9 r a b ≤ 0) : ¬ r = 0 ∧ ¬ a = 0 ∧ ¬ b = 0 := by
  unfold pm_t9 at h
  split at h
  · exact absurd h (by decide)
  · split at h
    · exact absurd h (by decide)
    · split at h
      · exact absurd h (by decide)
      · exact ⟨by assumption, by assumption, by assumption⟩
def pm_mean (A0 B0 sd yr : Nat) (w pt : Int32) : Int64 := if w = 0 then pm_part A0 (sd * yr) pt else pm_part B0 sd pt
def pm_tt (r a : Int32) : Int32 := if r = 0 then 1 else if a = 0 then 2 else 0
theorem pm_tt_0 {r a : Int32} (h : pm_tt r a ≤ 0) : ¬ r = 0 ∧ ¬ a = 0 := by
  unfold pm_tt at h
  split at h
  · exact absurd h (by decide)
  · split at h
    · exact absurd h (by decide)
    · exact ⟨by assumption, by assumption⟩
def pm_t0 (r : Int32) : Int32 := if r = 0 then 1 else 0
theorem pm_t0_0 {r : Int32} (h : pm_t0 r = 0) : ¬ r = 0 := fun q => by
  unfold pm_t0 at h
  rw [if_pos q] at h
  exact absurd h (by decide)
def pm_tst (nl wl rl dil lol hil : Nat → Int64) (rr sp dl : Nat) (yg ch : Int32) (yr sd : Nat) (S : Nat → Nat → Int64) : Nat → (Nat → Nat → Int64)
  | 0 => S
  | k + 1 => pm_go nl wl rl dil lol hil rr (50 * nI k) sp dl yg ch 336 yr (pm_tst nl wl rl dil lol hil rr sp dl yg ch yr sd S k) sd
def pm_tv (nl wl rl dil lol hil : Nat → Int64) (rr sp dl : Nat) (yg ch : Int32) (yr sd : Nat) (S : Nat → Nat → Int64) (k : Nat) : Int64 := pm_sumA (pm_tst nl wl rl dil lol hil rr sp dl yg ch yr sd S (k + 1) 2) 336 yr sd
def pm_tq (v : Nat → Int64) : Nat → Int32 × Int64
  | 0 => (0, -1)
  | k + 1 => if v k ≤ (pm_tq v k).2 then pm_tq v k else (nI k, v k)
theorem pm_tq_y {v : Nat → Int64} {k : Nat} (h : v k ≤ (pm_tq v k).2) : pm_tq v (k + 1) = pm_tq v k := if_pos h
theorem pm_tq_n {v : Nat → Int64} {k : Nat} (h : ¬ v k ≤ (pm_tq v k).2) : pm_tq v (k + 1) = (nI k, v k) := if_neg h
theorem qn_ro {n : Nat} {P : Prop} (h : ¬ nI n = 0) (hp : n = 0 ∨ P) : P := by
  rcases hp with z | z
  · subst z
    exact absurd rfl h
  · exact z
theorem qn_z {t : Int32} (h : t = 0) : t ≤ 0 := by rw [h]; decide
theorem qn_geN {b n : Nat} (h : nI b ≤ nI n) (hb : b < 2 ^ 31 ∧ n < 2 ^ 31) : b ≤ n := (nI_leI hb.1 hb.2).mp h
theorem qn_ngeN {b n : Nat} (h : ¬ nI b ≤ nI n) (hb : b < 2 ^ 31 ∧ n < 2 ^ 31) : n < b := by
  have : ¬ b ≤ n := fun q => h ((nI_leI hb.1 hb.2).mpr q)
  omega
theorem qn_rsI {a : Int32} {S i : Nat} (ha : a = nI S) : nI (i + 1) + a - 1 = nI (i + S) := by
  rw [ha, nI_add, qn_sub1 (by omega)]
  congr 1
  omega
theorem qn_rsi {a : Int32} {i yr : Nat} (ha : a = nI a.toNatClampNeg) (h : ¬ nI yr < nI (i + 1) + a - 1) (hb : yr < 2 ^ 31 ∧ i + a.toNatClampNeg < 2 ^ 31) : i + a.toNatClampNeg ≤ yr := by
  rw [qn_rsI ha] at h
  exact qn_ngtN h hb
theorem qn_rs {a : Int32} {i yr : Nat} {F : Nat → Int32} (ha : a = nI a.toNatClampNeg ∧ 1 ≤ a.toNatClampNeg ∧ a.toNatClampNeg ≤ 20) (h : nI yr < nI (i + 1) + a - 1) (hy : yr ≤ 20) (hi : i ≤ yr + 1 - a.toNatClampNeg) (hv : pm_sr F i = -1) : pm_sr F (yr + 1 - a.toNatClampNeg) = -1 := by
  rw [qn_rsI ha.1] at h
  have := qn_gtN h (by omega)
  rw [show yr + 1 - a.toNatClampNeg = i by omega]
  exact hv
theorem qn_sel0 {T : Int32} {v : Int64} (h : T = 0 → v = 0) : (0 : Int64) = pm_sel T v 0 := by
  unfold pm_sel
  by_cases q : T = 0
  · rw [if_pos q, h q]
  · rw [if_neg q]
end QM2
