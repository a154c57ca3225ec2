section QN
theorem qn_ge {i b : Nat} (h : nI b ≤ nI i) (hi : i ≤ b) (hb : b < 2 ^ 31) : i = b := by
  have := (nI_leI (by omega) (by omega)).mp h
  omega
theorem qn_nge {i b : Nat} (h : ¬ nI b ≤ nI i) (hb : b < 2 ^ 31 ∧ i < 2 ^ 31) : i < b := by
  have : ¬ b ≤ i := fun q => h ((nI_leI hb.1 hb.2).mpr q)
  omega
theorem qn_le0 {a : Nat} (h : nI a ≤ 0) (ha : a < 2 ^ 31) : a = 0 := by
  have := (nI_leI (b := 0) ha (by decide)).mp h
  omega
theorem qn_nle0 {a : Nat} (h : ¬ nI a ≤ 0) (ha : a < 2 ^ 31) : 0 < a := by
  rcases Nat.eq_zero_or_pos a with z | z
  · subst z; exact absurd (by decide) h
  · exact z
theorem qn_gtN {b n : Nat} (h : nI b < nI n) (hb : b < 2 ^ 31 ∧ n < 2 ^ 31) : b < n := (nI_ltI hb.1 hb.2).mp h
theorem qn_ngtN {b n : Nat} (h : ¬ nI b < nI n) (hb : b < 2 ^ 31 ∧ n < 2 ^ 31) : n ≤ b := by
  have : ¬ b < n := fun q => h ((nI_ltI hb.1 hb.2).mpr q)
  omega
theorem qn_gt {b k : Nat} (h : nI b < nI (k + 1)) (hb : b < 2 ^ 31 ∧ k + 1 < 2 ^ 31) (hk : k ≤ b) : k = b := by
  have := qn_gtN h hb
  omega
theorem qn_ngt {b k : Nat} (h : ¬ nI b < nI (k + 1)) (hb : b < 2 ^ 31 ∧ k + 1 < 2 ^ 31) : k < b := by
  have := qn_ngtN h hb
  omega
theorem qn_nlt2 {y : Nat} (h : ¬ nI y < 2) (hy : y < 2 ^ 31) : 2 ≤ y := by
  have : ¬ y < 2 := fun q => h ((nI_ltI (b := 2) hy (by decide)).mpr q)
  omega
theorem qn_odd {sp : Nat} (h : sp ≤ 50) : ¬ 2 * nI sp + 1 = 0 := by
  rw [show (2 : Int32) = nI 2 from rfl, pk_mul, show (1 : Int32) = nI 1 from rfl, nI_add]
  exact nI_ne0 (by omega) (by omega)
theorem qn_dz {lo hi x : Int64} (h1 : lo ≤ x) (h2 : x < hi) : ¬ hi - lo = 0 := by
  intro h
  have e : hi = lo := by
    have e1 : hi - lo + lo = 0 + lo := by rw [h]
    rwa [Int64.sub_add_cancel, Int64.zero_add] at e1
  subst e
  have a := Int64.le_iff_toInt_le.mp h1
  have b := Int64.lt_iff_toInt_lt.mp h2
  omega
end QN
section QF
/-! the arithmetic of the component, as its loops do it -/
theorem qn_sub1 {a : Nat} (h : 0 < a) : nI a - 1 = nI (a - 1) := by
  have e := pk_sub (a := a) (b := 1) h
  rw [← e]
  rfl
def pf_begin (nu : Nat → Int32) (lv : Nat → Int64) : Nat → (Nat → Int64)
  | 0 => lv
  | k + 1 => vp_updL (pf_begin nu lv k) k (nu k).toInt64
def pf_ripe (lv : Nat → Int64) (wt rp : Nat → Int32) : Nat → Int64
  | 0 => 0
  | k + 1 => pf_ripe lv wt rp k + lv k * (wt k).toInt64 * (rp k).toInt64 / 1000
def pf_total (lv : Nat → Int64) (wt : Nat → Int32) : Nat → Int64
  | 0 => 0
  | k + 1 => pf_total lv wt k + lv k * (wt k).toInt64
def pf_tk (lv : Nat → Int64) (al tt : Int64) : Nat → (Nat → Int64)
  | 0 => lv
  | k + 1 => vp_updL (pf_tk lv al tt k) k (pf_tk lv al tt k k - pf_tk lv al tt k k * al / tt)
def pf_ct (lv : Nat → Int64) (wt : Nat → Int32) (al tt : Int64) : Nat → Int64
  | 0 => 0
  | k + 1 => pf_ct lv wt al tt k + pf_tk lv al tt k k * al / tt * (wt k).toInt64
def pf_take (lv : Nat → Int64) (al tt : Int64) : Nat → Int64 := if 0 < tt then pf_tk lv al tt 6 else lv
def pf_caught (lv : Nat → Int64) (wt : Nat → Int32) (al tt : Int64) : Int64 := if 0 < tt then pf_ct lv wt al tt 6 else 0
def pf_dead (lv : Nat → Int64) (di : Nat → Int32) : Nat → (Nat → Int64)
  | 0 => lv
  | k + 1 => vp_updL (pf_dead lv di k) k (pf_dead lv di k k - pf_dead lv di k k * (di k).toInt64 / 1000)
/-- ages 4 .. a + 1 have moved up -/
def pf_sh (lv : Nat → Int64) : Nat → (Nat → Int64)
  | 0 => lv
  | k + 1 => vp_updL (pf_sh lv k) (4 - k) (pf_sh lv k (4 - k - 1))
def pf_grow (lv : Nat → Int64) (born : Int64) : Nat → Int64 := vp_updL (pf_sh (vp_updL lv 5 (lv 5 + lv 4)) 4) 0 born
end QF
section QG
/-- a story's rows: row what, place ix -/
def pf_put (M : Nat → Nat → Int64) (w ix : Nat) (x : Int64) : Nat → Nat → Int64 := fun j => if j = w then vp_updL (M w) ix x else M j
def pf_gf (r : Nat → Nat) : Nat → Option Nat := fun i => if i < 4 then some (r i) else none
theorem qn_gf {r : Nat → Nat} {w : Nat} (h : w < 4) : pf_gf r w = some (r w) := if_pos h
theorem qn_lt4 {w : Nat} (h : w < 4) : w = 0 ∨ w = 1 ∨ w = 2 ∨ w = 3 := by omega
def pf_ix (se y : Nat) : Nat := se * 20 + y - 1
theorem pf_ix_lt {se y : Nat} (h1 : se < 16) (h2 : 1 ≤ y) (h3 : y ≤ 20) : pf_ix se y < 320 := by unfold pf_ix; omega
theorem qn_ix {se y : Nat} (h2 : 1 ≤ y) : nI se * 20 + nI y - 1 = nI (pf_ix se y) := by
  unfold pf_ix
  rw [show (20 : Int32) = nI 20 from rfl, pk_mul, nI_add, qn_sub1 (by omega)]
def pf_draw (a b c : Int32) : Int32 := (((((31 * a) + (7 * b) + c) * 1103515245 + 12345) * 1103515245 + 12345).toUInt32 >>> ((16 : Int32).toUInt32 &&& Int32.toUInt32 31)).toInt32
def pf_ys (y dl : Nat) : Nat := if y - dl ≤ 1 then 1 else y - dl
theorem pf_ys_in {y dl : Nat} (h : 1 ≤ y) : 1 ≤ pf_ys y dl ∧ pf_ys y dl ≤ y := by unfold pf_ys; split <;> omega
theorem qn_ys {y dl : Nat} (hy : y ≤ 20) (hd : dl ≤ 3) : (if (1 : Int32) < nI y - nI dl then nI y - nI dl else 1) = nI (pf_ys y dl) := by
  unfold pf_ys
  by_cases h : dl ≤ y
  · rw [pk_sub h]
    by_cases h1 : y - dl ≤ 1
    · rw [if_neg (show ¬ (1 : Int32) < nI (y - dl) from nI_nlt (b := y - dl) (a := 1) h1 (by decide)), if_pos h1]
      rfl
    · rw [if_pos (show (1 : Int32) < nI (y - dl) from nI_lt (a := 1) (by omega) (by omega)), if_neg h1]
  · have hneg : ¬ (1 : Int32) < nI y - nI dl := fun q => by
      have h3 := pk_sneg (a := y) (b := dl) (by omega) (by omega)
      exact absurd (Int32.lt_trans q h3) (by decide)
    rw [if_neg hneg, if_pos (show y - dl ≤ 1 by omega)]
    rfl
def pf_rem (x y : Int32) : Int32 := x - x / y * y
def pf_pct (se y sp : Nat) : Int32 := 100 - nI sp + pf_rem (pf_draw (nI se) (nI y) 1) (2 * nI sp + 1)
def pf_seen (M0 : Nat → Int64) (se y sp dl : Nat) : Int64 := M0 (pf_ix se (pf_ys y dl)) * (pf_pct se y sp).toInt64 / 100
def pf_rate (lo hi x : Int64) (ra : Int32) : Int64 := if lo ≤ x then (if x < hi then ra.toInt64 * (x - lo) / (hi - lo) else ra.toInt64) else 0
def pf_min (x y : Int64) : Int64 := if y < x then y else x
def pf_abs (x : Int64) : Int64 := if 0 < x then x else -x
def pf_max (x y : Int64) : Int64 := if y < x then x else y
def pf_cap (b wa : Int64) (ch : Int32) : Int64 := pf_max (b - b * ch.toInt64 / 1000) (pf_min (b + b * ch.toInt64 / 1000) wa)
def pf_lim (M2 : Nat → Int64) (wa : Int64) (se y : Nat) (ch : Int32) : Int64 := if nI y < 2 then wa else if ch < 1000 then pf_cap (M2 (pf_ix se (y - 1))) wa ch else wa
def pf_born (se y : Nat) (yg : Int32) : Int64 := yg.toInt64 * (50 + pf_rem (pf_draw (nI se) (nI y) 0) 101).toInt64 / 100
end QG
section QY
def pf_Ma (wt rp : Nat → Int32) (se y : Nat) (lv : Nat → Int64) (M : Nat → Nat → Int64) : Nat → Nat → Int64 := pf_put M 0 (pf_ix se y) (pf_ripe lv wt rp 6)
def pf_sn (wt rp : Nat → Int32) (sp dl se y : Nat) (lv : Nat → Int64) (M : Nat → Nat → Int64) : Int64 := pf_seen (pf_Ma wt rp se y lv M 0) se y sp dl
def pf_Mb (wt rp : Nat → Int32) (sp dl se y : Nat) (lv : Nat → Int64) (M : Nat → Nat → Int64) : Nat → Nat → Int64 := pf_put (pf_Ma wt rp se y lv M) 3 (pf_ix se y) (pf_sn wt rp sp dl se y lv M)
def pf_wa (wt rp : Nat → Int32) (lo hi : Int64) (rt : Int32) (sp dl se y : Nat) (lv : Nat → Int64) (M : Nat → Nat → Int64) : Int64 := pf_total lv wt 6 * pf_rate lo hi (pf_sn wt rp sp dl se y lv M) rt / 1000
def pf_al (wt rp : Nat → Int32) (lo hi : Int64) (rt : Int32) (sp dl : Nat) (ch : Int32) (se y : Nat) (lv : Nat → Int64) (M : Nat → Nat → Int64) : Int64 := pf_min (pf_lim (pf_Mb wt rp sp dl se y lv M 2) (pf_wa wt rp lo hi rt sp dl se y lv M) se y ch) (pf_total lv wt 6)
def pf_Mc (wt rp : Nat → Int32) (lo hi : Int64) (rt : Int32) (sp dl : Nat) (ch : Int32) (se y : Nat) (lv : Nat → Int64) (M : Nat → Nat → Int64) : Nat → Nat → Int64 := pf_put (pf_Mb wt rp sp dl se y lv M) 2 (pf_ix se y) (pf_al wt rp lo hi rt sp dl ch se y lv M)
/-- the rows behind a year -/
def pf_yM (wt rp : Nat → Int32) (lo hi : Int64) (rt : Int32) (sp dl : Nat) (ch : Int32) (se y : Nat) (lv : Nat → Int64) (M : Nat → Nat → Int64) : Nat → Nat → Int64 := pf_put (pf_Mc wt rp lo hi rt sp dl ch se y lv M) 1 (pf_ix se y) (pf_caught lv wt (pf_al wt rp lo hi rt sp dl ch se y lv M) (pf_total lv wt 6))
/-- the fish behind a year -/
def pf_yl (wt rp di : Nat → Int32) (lo hi : Int64) (rt : Int32) (sp dl : Nat) (yg ch : Int32) (se y : Nat) (lv : Nat → Int64) (M : Nat → Nat → Int64) : Nat → Int64 := pf_grow (pf_dead (pf_take lv (pf_al wt rp lo hi rt sp dl ch se y lv M) (pf_total lv wt 6)) di 6) (pf_born se y yg)
/-- k years of a seed -/
def pf_yrs (wt rp di : Nat → Int32) (lo hi : Int64) (rt : Int32) (sp dl : Nat) (yg ch : Int32) (se : Nat) (lv : Nat → Int64) (M : Nat → Nat → Int64) : Nat → (Nat → Int64) × (Nat → Nat → Int64)
  | 0 => (lv, M)
  | k + 1 => (pf_yl wt rp di lo hi rt sp dl yg ch se (k + 1) (pf_yrs wt rp di lo hi rt sp dl yg ch se lv M k).1 (pf_yrs wt rp di lo hi rt sp dl yg ch se lv M k).2, pf_yM wt rp lo hi rt sp dl ch se (k + 1) (pf_yrs wt rp di lo hi rt sp dl yg ch se lv M k).1 (pf_yrs wt rp di lo hi rt sp dl yg ch se lv M k).2)
/-- j seeds -/
def pf_all (nu wt rp di : Nat → Int32) (lo hi : Int64) (rt : Int32) (sp dl : Nat) (yg ch : Int32) (yr : Nat) (lv : Nat → Int64) (M : Nat → Nat → Int64) : Nat → (Nat → Int64) × (Nat → Nat → Int64)
  | 0 => (lv, M)
  | j + 1 => pf_yrs wt rp di lo hi rt sp dl yg ch j (pf_begin nu (pf_all nu wt rp di lo hi rt sp dl yg ch yr lv M j).1 6) (pf_all nu wt rp di lo hi rt sp dl yg ch yr lv M j).2 yr
def pf_sumY (R : Nat → Int64) (se f : Nat) (a : Int64) : Nat → Int64
  | 0 => a
  | k + 1 => pf_sumY R se f a k + R (pf_ix se (f + k))
def pf_sumA (R : Nat → Int64) (f yr : Nat) : Nat → Int64
  | 0 => 0
  | j + 1 => pf_sumY R j f (pf_sumA R f yr j) (yr + 1 - f)
def pf_bm (R : Nat → Int64) (mk : Int32) (ix : Nat) : Int32 := if mk.toInt64 ≤ R ix then 0 else 1
def pf_ev (R : Nat → Int64) (mk : Int32) (se : Nat) : Nat → Int32
  | 0 => 0
  | k + 1 => if pf_ev R mk se k = 0 then pf_bm R mk (pf_ix se (k + 1)) else 1
theorem pf_bm_01 (R : Nat → Int64) (mk : Int32) (ix : Nat) : pf_bm R mk ix = 0 ∨ pf_bm R mk ix = 1 := by unfold pf_bm; split <;> simp
theorem pf_ev_01 (R : Nat → Int64) (mk : Int32) (se : Nat) : ∀ k, pf_ev R mk se k = 0 ∨ pf_ev R mk se k = 1
  | 0 => Or.inl rfl
  | k + 1 => by
    unfold pf_ev
    split
    · exact pf_bm_01 _ _ _
    · exact Or.inr rfl
theorem pf_ev_up {R : Nat → Int64} {mk : Int32} {se : Nat} : ∀ {k n : Nat}, k ≤ n → ¬ pf_ev R mk se k = 0 → pf_ev R mk se n = 1
  | k, 0, h, q => by
    have e : k = 0 := by omega
    subst e
    exact absurd rfl q
  | k, n + 1, h, q => by
    rcases Nat.lt_or_ge k (n + 1) with z | z
    · unfold pf_ev
      rw [if_neg]
      rw [pf_ev_up (k := k) (n := n) (by omega) q]
      decide
    · have e : k = n + 1 := by omega
      subst e
      rcases pf_ev_01 R mk se (n + 1) with z2 | z2
      · exact absurd z2 q
      · exact z2
def pf_cnt (R : Nat → Int64) (mk : Int32) (yr : Nat) : Nat → Int32
  | 0 => 0
  | j + 1 => if pf_ev R mk j yr = 0 then pf_cnt R mk yr j else pf_cnt R mk yr j + 1
def pf_ins (x : Int64) : Nat → (Nat → Int64) → (Nat → Int64)
  | 0, f => vp_updL f 0 x
  | p + 1, f => if x < f p then pf_ins x p (vp_updL f (p + 1) (f p)) else vp_updL f (p + 1) x
def pf_gcd : Nat → Int64 → Int64 → Int64
  | 0, a, _ => a
  | n + 1, a, b => if b = 0 then a else pf_gcd n b (a - a / b * b)
def pf_div (a b : Int64) : Int64 := pf_max 1 (pf_gcd 200 a b)
def pf_part (a b : Int64) (pt : Int32) : Int64 := (if pt = 0 then a else b) / pf_div a b
theorem pf_div_ne (a b : Int64) : ¬ pf_div a b = 0 := by
  unfold pf_div pf_max
  intro h
  split at h
  · exact absurd h (by decide)
  · next q => rw [h] at q; exact absurd (by decide) q
theorem qn_ins {f : Nat → Int64} {x : Int64} {i : Nat} (h0 : 0 < i) (h : ¬ f (i - 1) ≤ x) : pf_ins x i f = pf_ins x (i - 1) (vp_updL f i (f (i - 1))) := by
  obtain ⟨k, rfl⟩ : ∃ k, i = k + 1 := ⟨i - 1, by omega⟩
  have h2 : x < f k := Int64.not_le.mp h
  show (if x < f k then _ else _) = _
  rw [if_pos h2]
  rfl
theorem qn_ins1 {f : Nat → Int64} {x : Int64} {i : Nat} (h0 : 0 < i) (h : f (i - 1) ≤ x) : pf_ins x i f = vp_updL f i x := by
  obtain ⟨k, rfl⟩ : ∃ k, i = k + 1 := ⟨i - 1, by omega⟩
  have h2 : ¬ x < f k := Int64.not_lt.mpr h
  show (if x < f k then _ else _) = _
  rw [if_neg h2]
theorem qn_gcd {k : Nat} {u v : Int64} (hk : k < 200) (h : ¬ v = 0) : pf_gcd (200 - k) u v = pf_gcd (200 - (k + 1)) v (u - u / v * v) := by
  rw [show 200 - k = (200 - (k + 1)) + 1 by omega]
  show (if v = 0 then _ else _) = _
  rw [if_neg h]
theorem qn_gcd0 {k : Nat} {u : Int64} (hk : k < 200) : pf_gcd (200 - k) u 0 = u := by
  rw [show 200 - k = (200 - (k + 1)) + 1 by omega]
  rfl
end QY
