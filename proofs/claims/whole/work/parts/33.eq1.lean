section QE1
/-! bounds: a long that is a number of at most n -/
def bd (x : Int64) (n : Nat) : Prop := ∃ k : Nat, x = lN k ∧ k ≤ n
theorem bd_mono {x : Int64} {a b : Nat} (h : bd x a) (hab : a ≤ b) : bd x b := by
  obtain ⟨k, e, hk⟩ := h
  exact ⟨k, e, Nat.le_trans hk hab⟩
theorem bd_0 (n : Nat) : bd 0 n := ⟨0, rfl, Nat.zero_le _⟩
theorem bd_add {x y : Int64} {a b : Nat} (h : bd x a) (h2 : bd y b) : bd (x + y) (a + b) := by
  obtain ⟨k, rfl, hk⟩ := h
  obtain ⟨j, rfl, hj⟩ := h2
  exact ⟨k + j, lN_add k j, Nat.add_le_add hk hj⟩
theorem bd_mul {x y : Int64} {a b : Nat} (h : bd x a) (h2 : bd y b) : bd (x * y) (a * b) := by
  obtain ⟨k, rfl, hk⟩ := h
  obtain ⟨j, rfl, hj⟩ := h2
  exact ⟨k * j, lN_mul k j, Nat.mul_le_mul hk hj⟩
theorem bd_div {x : Int64} {a d : Nat} (h : bd x a) (ha : a < 2 ^ 63) (h0 : 0 < d) (hd : d < 2 ^ 63) : bd (x / lN d) (a / d) := by
  obtain ⟨k, rfl, hk⟩ := h
  exact ⟨k / d, pk_lDiv (by omega) h0 hd, Nat.div_le_div_right hk⟩
theorem bd_i {x : Int32} {n : Nat} (h0 : ¬ x < 0) (h1 : x ≤ nI n) (hn : n < 2 ^ 31) : bd x.toInt64 n := by
  obtain ⟨k, hk, rfl⟩ := nI_of h0
  exact ⟨k, nI_l hk, (nI_leI hk hn).mp h1⟩
theorem bd_nI {k n : Nat} (hk : k ≤ n) (hn : n < 2 ^ 31) : bd (nI k).toInt64 n := ⟨k, nI_l (by omega), hk⟩
/-- a share of x: x * c / t, with c at most t -/
theorem bd_share {x c t : Int64} {a T : Nat} (h : bd x a) (hc : bd c T) (ht : bd t T) (hct : c ≤ t) (h0 : 0 < t) (hA : a * T < 2 ^ 63) : ∃ k j : Nat, x = lN k ∧ x * c / t = lN j ∧ j ≤ k ∧ k ≤ a := by
  obtain ⟨k, rfl, hk⟩ := h
  obtain ⟨q, rfl, hq⟩ := hc
  obtain ⟨r, rfl, hr⟩ := ht
  by_cases ha : a = 0
  · have hk0 : k = 0 := by omega
    subst hk0
    refine ⟨0, 0, rfl, ?_, Nat.le_refl 0, Nat.zero_le _⟩
    rw [show lN 0 * lN q = lN 0 by rw [lN_mul, Nat.zero_mul]]
    exact Int64.zero_div
  · have hT : T < 2 ^ 63 := Nat.lt_of_le_of_lt (Nat.le_mul_of_pos_left T (Nat.pos_of_ne_zero ha)) hA
    have hqr : q ≤ r := (pk_lLE (by omega) (by omega)).mp hct
    have hr0 : 0 < r := (pk_lLT (a := 0) (by decide) (by omega)).mp h0
    have hkq : k * q < 2 ^ 63 := Nat.lt_of_le_of_lt (Nat.mul_le_mul hk hq) hA
    refine ⟨k, k * q / r, rfl, ?_, ?_, hk⟩
    · rw [lN_mul, pk_lDiv hkq hr0 (by omega)]
    · exact Nat.div_le_of_le_mul (by rw [Nat.mul_comm r k]; exact Nat.mul_le_mul_left k hqr)
theorem bd_min {x y : Int64} {n : Nat} (h : bd x n) (h2 : bd y n) : bd (pf_min x y) n := by unfold pf_min; split <;> assumption
theorem bd_max {x y : Int64} {n : Nat} (h : bd x n) (h2 : bd y n) : bd (pf_max x y) n := by unfold pf_max; split <;> assumption
theorem pf_min_le (x y : Int64) : pf_min x y ≤ y := by
  unfold pf_min
  split
  · exact Int64.le_refl _
  · exact Int64.not_lt.mp (by assumption)
/-! arrays that a loop maps place by place -/
def pw (G : Nat → Int64 → Int64) (f : Nat → Int64) : Nat → (Nat → Int64)
  | 0 => f
  | k + 1 => vp_updL (pw G f k) k (G k (pw G f k k))
theorem pw_at (G : Nat → Int64 → Int64) (f : Nat → Int64) : ∀ n i, pw G f n i = if i < n then G i (f i) else f i
  | 0, i => by rw [if_neg (Nat.not_lt_zero i)]; rfl
  | n + 1, i => by
    show vp_updL (pw G f n) n (G n (pw G f n n)) i = _
    unfold vp_updL
    by_cases e : i = n
    · subst e
      rw [if_pos rfl, if_pos (Nat.lt_succ_self _), pw_at G f i i, if_neg (Nat.lt_irrefl _)]
    · rw [if_neg e, pw_at G f n i]
      by_cases h : i < n
      · rw [if_pos h, if_pos (Nat.lt_succ_of_lt h)]
      · rw [if_neg h, if_neg (by omega)]
theorem pf_tk_pw (lv : Nat → Int64) (al tt : Int64) : ∀ n, pf_tk lv al tt n = pw (fun _ x => x - x * al / tt) lv n
  | 0 => rfl
  | n + 1 => by
    show vp_updL (pf_tk lv al tt n) n _ = vp_updL _ _ _
    rw [pf_tk_pw lv al tt n]
theorem pf_dead_pw (lv : Nat → Int64) (di : Nat → Int32) : ∀ n, pf_dead lv di n = pw (fun k x => x - x * (di k).toInt64 / 1000) lv n
  | 0 => rfl
  | n + 1 => by
    show vp_updL (pf_dead lv di n) n _ = vp_updL _ _ _
    rw [pf_dead_pw lv di n]
theorem pf_begin_pw (nu : Nat → Int32) (lv : Nat → Int64) : ∀ n, pf_begin nu lv n = pw (fun k _ => (nu k).toInt64) lv n
  | 0 => rfl
  | n + 1 => by
    show vp_updL (pf_begin nu lv n) n _ = vp_updL _ _ _
    rw [pf_begin_pw nu lv n]
theorem pm_beg_pw (nl f : Nat → Int64) : ∀ n, pm_beg nl f n = pw (fun k _ => nl k) f n
  | 0 => rfl
  | n + 1 => by
    show vp_updL (pm_beg nl f n) n _ = vp_updL _ _ _
    rw [pm_beg_pw nl f n]
theorem pm_nw_pw (nw dil : Nat → Int64) (c t : Int64) : ∀ n, pm_nw nw dil c t n = pw (fun k x => x - (if t = 0 then 0 else x * c / t) - (x - (if t = 0 then 0 else x * c / t)) * dil k / 1000) nw n
  | 0 => rfl
  | n + 1 => by
    show vp_updL (pm_nw nw dil c t n) n _ = vp_updL _ _ _
    rw [pm_nw_pw nw dil c t n]
    rfl
def pl_L (f : Nat → Int32) : Nat → Int64 := fun k => (f k).toInt64
theorem pl_L_upd (f : Nat → Int32) (k : Nat) (x : Int32) : vp_updL (pl_L f) k x.toInt64 = pl_L (upd f k x) := funext fun j => by
  unfold vp_updL pl_L upd
  split <;> rfl
theorem pf_grow_at (f : Nat → Int64) (b : Int64) : pf_grow f b 0 = b ∧ pf_grow f b 1 = f 0 ∧ pf_grow f b 2 = f 1 ∧ pf_grow f b 3 = f 2 ∧ pf_grow f b 4 = f 3 ∧ pf_grow f b 5 = f 5 + f 4 := by
  refine ⟨?_, ?_, ?_, ?_, ?_, ?_⟩ <;> simp [pf_grow, pf_sh, vp_updL]
theorem lt6 {P : Nat → Prop} (h0 : P 0) (h1 : P 1) (h2 : P 2) (h3 : P 3) (h4 : P 4) (h5 : P 5) : ∀ i, i < 6 → P i := fun i hi => by
  rcases (show i = 0 ∨ i = 1 ∨ i = 2 ∨ i = 3 ∨ i = 4 ∨ i = 5 by omega) with rfl | rfl | rfl | rfl | rfl | rfl <;> assumption
theorem pf_grow_eq {f g : Nat → Int64} (b : Int64) (h : ∀ i, i < 6 → f i = g i) : ∀ i, i < 6 → pf_grow f b i = pf_grow g b i := by
  obtain ⟨a0, a1, a2, a3, a4, a5⟩ := pf_grow_at f b
  obtain ⟨b0, b1, b2, b3, b4, b5⟩ := pf_grow_at g b
  refine lt6 ?_ ?_ ?_ ?_ ?_ ?_
  · rw [a0, b0]
  · rw [a1, b1, h 0 (by decide)]
  · rw [a2, b2, h 1 (by decide)]
  · rw [a3, b3, h 2 (by decide)]
  · rw [a4, b4, h 3 (by decide)]
  · rw [a5, b5, h 5 (by decide), h 4 (by decide)]
theorem pm_ripe_eq {nw lv : Nat → Int64} {wt rp : Nat → Int32} : ∀ n, (∀ i, i < n → nw i = lv i) → pm_ripe nw (pl_L wt) (pl_L rp) n = pf_ripe lv wt rp n
  | 0, _ => rfl
  | n + 1, h => by
    show pm_ripe nw (pl_L wt) (pl_L rp) n + nw n * pl_L wt n * pl_L rp n / 1000 = pf_ripe lv wt rp n + _
    rw [pm_ripe_eq n (fun i hi => h i (by omega)), h n (by omega)]
    rfl
theorem pm_tot_eq {nw lv : Nat → Int64} {wt : Nat → Int32} : ∀ n, (∀ i, i < n → nw i = lv i) → pm_tot nw (pl_L wt) n = pf_total lv wt n
  | 0, _ => rfl
  | n + 1, h => by
    show pm_tot nw (pl_L wt) n + nw n * pl_L wt n = pf_total lv wt n + _
    rw [pm_tot_eq n (fun i hi => h i (by omega)), h n (by omega)]
    rfl
theorem pm_pct {se y sp : Nat} : 100 + pm_e se y sp = pf_pct se y sp := by
  unfold pm_e pf_pct
  rw [Int32.sub_eq_add_neg, Int32.sub_eq_add_neg]
  ac_rfl
theorem pm_mn_eq (c t : Int64) : pm_mn c t = pf_min c t := by
  unfold pm_mn pf_min
  by_cases h : c ≤ t
  · rw [if_pos h, if_neg (Int64.not_lt.mpr h)]
  · rw [if_neg h, if_pos (Int64.not_le.mp h)]
theorem pm_up_eq (la m c : Int64) : pm_up la m c = pf_min (la + m) c := by
  unfold pm_up pf_min
  by_cases h : c ≤ la + m
  · rw [if_pos h]
    by_cases h2 : c < la + m
    · rw [if_pos h2]
    · rw [if_neg h2]
      exact Int64.le_antisymm h (Int64.not_lt.mp h2)
  · rw [if_neg h, if_neg (fun q => h (Int64.le_of_lt q))]
theorem pm_dn_eq (la m c : Int64) : pm_dn la m c = pf_max (la - m) c := by
  unfold pm_dn pf_max
  by_cases h : la - m ≤ c
  · rw [if_pos h, if_neg (Int64.not_lt.mpr h)]
  · rw [if_neg h, if_pos (Int64.not_le.mp h)]
theorem pm_lim_eq {ct : Nat → Int64} {M2 : Nat → Int64} {fr se y : Nat} {ch : Int32} {c : Int64} (hy : 1 ≤ y) (hy2 : y ≤ 20) (h : 2 ≤ y → ct (fr + y - 1) = M2 (pf_ix se (y - 1))) : pm_lim ct fr y ch c = pf_lim M2 c se y ch := by
  unfold pm_lim pf_lim
  by_cases q : nI y ≤ 1
  · rw [if_pos q, if_pos (by
      have := (nI_leI (b := 1) (by omega) (by decide)).mp q
      exact nI_lt (b := 2) (by omega) (by decide))]
  · have q2 : 2 ≤ y := by
      have : ¬ y ≤ 1 := fun z => q ((nI_leI (b := 1) (by omega) (by decide)).mpr z)
      omega
    have hn2 : ¬ nI y < 2 := fun z => by
      have := (nI_ltI (b := 2) (by omega) (by decide)).mp z
      omega
    rw [if_neg q, if_neg hn2]
    by_cases r : 1000 ≤ ch
    · rw [if_pos r, if_neg (Int32.not_lt.mpr r)]
    · rw [if_neg r, if_pos (Int32.not_le.mp r)]
      unfold pm_cl pf_cap
      rw [h q2, pm_up_eq, pm_dn_eq]
end QE1
