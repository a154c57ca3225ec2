section QE4
theorem pf_yM_out {wt rp : Nat → Int32} {lo hi : Int64} {rt : Int32} {sp dl : Nat} {ch : Int32} {se y : Nat} {lv : Nat → Int64} {M : Nat → Nat → Int64} {w i : Nat} (hw : w < 4) (hne : i ≠ pf_ix se y) : pf_yM wt rp lo hi rt sp dl ch se y lv M w i = M w i := by
  rcases qn_lt4 hw with rfl | rfl | rfl | rfl
  · rw [pf_y0, pk_uLn hne]
  · rw [pf_y1, pk_uLn hne]
  · rw [pf_y2, pk_uLn hne]
  · rw [pf_y3, pk_uLn hne]
theorem pm_yr_out {wl rl dil lol hil : Nat → Int64} {rx : Nat} {rt : Int32} {sp dl : Nat} {yg ch : Int32} {fr y se : Nat} {S : Nat → Nat → Int64} {w i : Nat} (hw : w < 4) (hi : i ≠ fr + y) : pm_yr wl rl dil lol hil rx rt sp dl yg ch fr y se S (w + 1) i = S (w + 1) i := by
  rcases qn_lt4 hw with rfl | rfl | rfl | rfl
  · exact pk_uLn hi
  · exact pk_uLn hi
  · exact pk_uLn hi
  · exact pk_uLn hi
theorem yrs_ok {wt rp di : Nat → Int32} {lol hil : Nat → Int64} {rx : Nat} {rt : Int32} {sp dl : Nat} {yg ch : Int32} {fr se : Nat} {lv : Nat → Int64} {M S : Nat → Nat → Int64} (P : pb wt rp di (lol rx) (hil rx) rt sp dl yg ch) (hl : lb 0 lv) (h0 : ∀ i, i < 6 → S 0 i = lv i) :
    ∀ k, k ≤ 20 → lb k (pf_yrs wt rp di (lol rx) (hil rx) rt sp dl yg ch se lv M k).1 ∧ rwb (pf_yrs wt rp di (lol rx) (hil rx) rt sp dl yg ch se lv M k).2 se k ∧ rel fr se k (pf_yrs wt rp di (lol rx) (hil rx) rt sp dl yg ch se lv M k).1 (pf_yrs wt rp di (lol rx) (hil rx) rt sp dl yg ch se lv M k).2 (pm_yrs (pl_L wt) (pl_L rp) (pl_L di) lol hil rx rt sp dl yg ch fr se S k) ∧
      (∀ w i, w < 4 → (∀ y, 1 ≤ y → y ≤ k → i ≠ pf_ix se y) → (pf_yrs wt rp di (lol rx) (hil rx) rt sp dl yg ch se lv M k).2 w i = M w i) ∧ (∀ w i, w < 4 → (∀ y, 1 ≤ y → y ≤ k → i ≠ fr + y) → pm_yrs (pl_L wt) (pl_L rp) (pl_L di) lol hil rx rt sp dl yg ch fr se S k (w + 1) i = S (w + 1) i)
  | 0, _ => ⟨hl, fun y h1 h2 => by omega, ⟨h0, fun y h1 h2 => by omega⟩, fun _ _ _ _ => rfl, fun _ _ _ _ => rfl⟩
  | k + 1, hk => by
    obtain ⟨a1, a2, a3, a4, a5⟩ := yrs_ok (fr := fr) (se := se) (M := M) P hl h0 k (by omega)
    refine ⟨lb_step P a1 (by omega) a2, rwb_step P a1 (by omega) a2, rel_step P a1 (by omega) a2 a3, fun w i hw hi => ?_, fun w i hw hi => ?_⟩
    · exact (pf_yM_out hw (hi (k + 1) (by omega) (Nat.le_refl _))).trans (a4 w i hw (fun y h1 h2 => hi y h1 (by omega)))
    · exact (pm_yr_out hw (hi (k + 1) (by omega) (Nat.le_refl _))).trans (a5 w i hw (fun y h1 h2 => hi y h1 (by omega)))
/-- what the rows of n seeds say on both sides -/
def relA (ba n yr : Nat) (M S : Nat → Nat → Int64) : Prop := ∀ s, s < n → ∀ y, 1 ≤ y → y ≤ yr → (S 1 (ba + 21 * s + y) = M 0 (pf_ix s y) ∧ S 2 (ba + 21 * s + y) = M 1 (pf_ix s y) ∧ S 3 (ba + 21 * s + y) = M 2 (pf_ix s y) ∧ S 4 (ba + 21 * s + y) = M 3 (pf_ix s y)) ∧ bd (M 0 (pf_ix s y)) TB ∧ bd (M 1 (pf_ix s y)) TB
theorem all_ok {nu wt rp di : Nat → Int32} {lol hil : Nat → Int64} {rx : Nat} {rt : Int32} {sp dl : Nat} {yg ch : Int32} {ba yr : Nat} {lv : Nat → Int64} {M S : Nat → Nat → Int64} (P : pb wt rp di (lol rx) (hil rx) rt sp dl yg ch) (hn : ∀ k, bd (nu k).toInt64 100000) (hyr : yr ≤ 20) :
    ∀ n, relA ba n yr (pf_all nu wt rp di (lol rx) (hil rx) rt sp dl yg ch yr lv M n).2 (pm_go (pl_L nu) (pl_L wt) (pl_L rp) (pl_L di) lol hil rx rt sp dl yg ch ba yr S n)
  | 0 => fun s hs => by omega
  | n + 1 => by
    have ih := all_ok (ba := ba) (lv := lv) (M := M) (S := S) P hn hyr n
    have hb : ∀ i, i < 6 → pf_begin nu (pf_all nu wt rp di (lol rx) (hil rx) rt sp dl yg ch yr lv M n).1 6 i = (nu i).toInt64 := fun i hi => by rw [pf_begin_pw, pw_at, if_pos hi]
    have hl : lb 0 (pf_begin nu (pf_all nu wt rp di (lol rx) (hil rx) rt sp dl yg ch yr lv M n).1 6) := ⟨fun i hi => by rw [hb i (by omega)]; exact bd_mono (hn i) (by decide), by rw [hb 5 (by decide)]; exact hn 5⟩
    have h0 : ∀ i, i < 6 → pm_s0 (pm_go (pl_L nu) (pl_L wt) (pl_L rp) (pl_L di) lol hil rx rt sp dl yg ch ba yr S n) (pm_beg (pl_L nu) (pm_go (pl_L nu) (pl_L wt) (pl_L rp) (pl_L di) lol hil rx rt sp dl yg ch ba yr S n 0) 6) 0 i = pf_begin nu (pf_all nu wt rp di (lol rx) (hil rx) rt sp dl yg ch yr lv M n).1 6 i := fun i hi => by
      rw [hb i hi]
      show pm_beg (pl_L nu) _ 6 i = _
      rw [pm_beg_pw, pw_at, if_pos hi]
      rfl
    obtain ⟨a1, a2, a3, a4, a5⟩ := yrs_ok (fr := ba + 21 * n) (se := n) (M := (pf_all nu wt rp di (lol rx) (hil rx) rt sp dl yg ch yr lv M n).2) P hl h0 yr hyr
    intro s hs y h1 h2
    by_cases e : s = n
    · subst e
      exact ⟨a3.2 y h1 h2, (a2 y h1 h2).1, (a2 y h1 h2).2.1⟩
    · have hx : ∀ z, 1 ≤ z → z ≤ yr → pf_ix s y ≠ pf_ix n z := fun z z1 z2 q => e (pf_ix_inj h1 (by omega) z1 (by omega) q).1
      have hz : ∀ z, 1 ≤ z → z ≤ yr → ba + 21 * s + y ≠ ba + 21 * n + z := fun z z1 z2 => by omega
      have b := ih s (by omega) y h1 h2
      have c : ∀ w, w < 4 → (pf_all nu wt rp di (lol rx) (hil rx) rt sp dl yg ch yr lv M (n + 1)).2 w (pf_ix s y) = (pf_all nu wt rp di (lol rx) (hil rx) rt sp dl yg ch yr lv M n).2 w (pf_ix s y) := fun w hw => a4 w _ hw hx
      have d : ∀ w, w < 4 → pm_go (pl_L nu) (pl_L wt) (pl_L rp) (pl_L di) lol hil rx rt sp dl yg ch ba yr S (n + 1) (w + 1) (ba + 21 * s + y) = pm_go (pl_L nu) (pl_L wt) (pl_L rp) (pl_L di) lol hil rx rt sp dl yg ch ba yr S n (w + 1) (ba + 21 * s + y) := fun w hw => a5 w _ hw hz
      rw [c 0 (by decide), c 1 (by decide), c 2 (by decide), c 3 (by decide), d 0 (by decide), d 1 (by decide), d 2 (by decide), d 3 (by decide)]
      exact b
/-- base 336 leaves the rows of base 0 alone -/
theorem yrs_out {wl rl dil lol hil : Nat → Int64} {rx : Nat} {rt : Int32} {sp dl : Nat} {yg ch : Int32} {fr se : Nat} {S : Nat → Nat → Int64} {w i : Nat} (hw : w < 4) (hi : i ≤ fr) : ∀ k, pm_yrs wl rl dil lol hil rx rt sp dl yg ch fr se S k (w + 1) i = S (w + 1) i
  | 0 => rfl
  | k + 1 => (pm_yr_out hw (by omega)).trans (yrs_out hw hi k)
theorem go_out {nl wl rl dil lol hil : Nat → Int64} {rx : Nat} {rt : Int32} {sp dl : Nat} {yg ch : Int32} {ba yr : Nat} {S : Nat → Nat → Int64} {w i : Nat} (hw : w < 4) (hi : i ≤ ba) : ∀ n, pm_go nl wl rl dil lol hil rx rt sp dl yg ch ba yr S n (w + 1) i = S (w + 1) i
  | 0 => rfl
  | n + 1 => (yrs_out hw (by omega) yr).trans (go_out hw hi n)
theorem relA_out {yr sd : Nat} {M S S' : Nat → Nat → Int64} (h : relA 0 sd yr M S) (hsd : sd ≤ 16) (hyr : yr ≤ 20) (hS : ∀ w i, w < 4 → i ≤ 336 → S' (w + 1) i = S (w + 1) i) : relA 0 sd yr M S' := by
  intro s hs y h1 h2
  have b := h s hs y h1 h2
  rw [hS 0 _ (by decide) (by omega), hS 1 _ (by decide) (by omega), hS 2 _ (by decide) (by omega), hS 3 _ (by decide) (by omega)]
  exact b
theorem sumY_eq {ba n yr : Nat} {M S : Nat → Nat → Int64} (h : relA ba n yr M S) {s : Nat} (hs : s < n) {a : Int64} : ∀ k, k ≤ yr → pf_sumY (M 1) s 1 a k = pm_sumY (S 2) (ba + 21 * s) a k
  | 0, _ => rfl
  | k + 1, hk => by
    show pf_sumY (M 1) s 1 a k + M 1 (pf_ix s (1 + k)) = pm_sumY (S 2) (ba + 21 * s) a k + S 2 (ba + 21 * s + (k + 1))
    rw [sumY_eq h hs k (by omega), (h s hs (k + 1) (by omega) hk).1.2.1, Nat.add_comm 1 k]
theorem sumA_eq {ba n yr : Nat} {M S : Nat → Nat → Int64} (h : relA ba n yr M S) : ∀ j, j ≤ n → pf_sumA (M 1) 1 yr j = pm_sumA (S 2) ba yr j
  | 0, _ => rfl
  | j + 1, hj => by
    show pf_sumY (M 1) j 1 (pf_sumA (M 1) 1 yr j) (yr + 1 - 1) = pm_sumY (S 2) (ba + 21 * j) (pm_sumA (S 2) ba yr j) yr
    rw [sumA_eq h j (by omega), Nat.add_sub_cancel]
    exact sumY_eq h (by omega) yr (Nat.le_refl _)
theorem sumL_eq {n yr : Nat} {M S : Nat → Nat → Int64} (h : relA 0 n yr M S) (h1 : 1 ≤ yr) : ∀ j, j ≤ n → pf_sumA (M 0) yr yr j = pm_sumL (S 1) yr j
  | 0, _ => rfl
  | j + 1, hj => by
    show pf_sumY (M 0) j yr (pf_sumA (M 0) yr yr j) (yr + 1 - yr) = pm_sumL (S 1) yr j + S 1 (21 * j + yr)
    rw [show yr + 1 - yr = 1 by omega]
    show pf_sumA (M 0) yr yr j + M 0 (pf_ix j (yr + 0)) = _
    have := (h j (by omega) yr h1 (Nat.le_refl _)).1.1
    rw [Nat.zero_add] at this
    rw [sumL_eq h h1 j (by omega), this]
    rfl
theorem sumY_bd {ba n yr : Nat} {M S : Nat → Nat → Int64} (h : relA ba n yr M S) {s : Nat} (hs : s < n) {a : Int64} {b : Nat} (ha : bd a b) : ∀ k, k ≤ yr → bd (pm_sumY (S 2) (ba + 21 * s) a k) (b + TB * k)
  | 0, _ => ha
  | k + 1, hk => by
    have h1 := h s hs (k + 1) (by omega) hk
    have h2 : bd (S 2 (ba + 21 * s + (k + 1))) TB := by rw [h1.1.2.1]; exact h1.2.2
    exact bd_mono (bd_add (sumY_bd h hs ha k (by omega)) h2) (by rw [Nat.mul_add, Nat.mul_one, Nat.add_assoc]; exact Nat.le_refl _)
theorem sumA_bd {ba n yr : Nat} {M S : Nat → Nat → Int64} (h : relA ba n yr M S) : ∀ j, j ≤ n → bd (pm_sumA (S 2) ba yr j) (TB * yr * j)
  | 0, _ => bd_0 _
  | j + 1, hj => bd_mono (sumY_bd h (by omega) (sumA_bd h j (by omega)) yr (Nat.le_refl _)) (by rw [Nat.mul_add, Nat.mul_one]; exact Nat.le_refl _)
theorem sumL_bd {n yr : Nat} {M S : Nat → Nat → Int64} (h : relA 0 n yr M S) (h1 : 1 ≤ yr) : ∀ j, j ≤ n → bd (pm_sumL (S 1) yr j) (TB * j)
  | 0, _ => bd_0 _
  | j + 1, hj => by
    have q := h j (by omega) yr h1 (Nat.le_refl _)
    have h2 : bd (S 1 (21 * j + yr)) TB := by
      have := q.1.1
      rw [Nat.zero_add] at this
      rw [this]
      exact q.2.1
    exact bd_mono (bd_add (sumL_bd h h1 j (by omega)) h2) (by rw [Nat.mul_add, Nat.mul_one]; exact Nat.le_refl _)
theorem bm_eq {n yr : Nat} {M S : Nat → Nat → Int64} (h : relA 0 n yr M S) {mk : Int32} {s y : Nat} (hs : s < n) (h1 : 1 ≤ y) (h2 : y ≤ yr) : pf_bm (S 1) mk (21 * s + y) = pf_bm (M 0) mk (pf_ix s y) := by
  have := (h s hs y h1 h2).1.1
  rw [Nat.zero_add] at this
  unfold pf_bm
  rw [this]
theorem ev_eq {n yr : Nat} {M S : Nat → Nat → Int64} (h : relA 0 n yr M S) {mk : Int32} {s : Nat} (hs : s < n) : ∀ k, k ≤ yr → pm_ev (S 1) mk s k = pf_ev (M 0) mk s k
  | 0, _ => rfl
  | k + 1, hk => by
    show (if pm_ev (S 1) mk s k = 0 then pf_bm (S 1) mk (21 * s + (k + 1)) else 1) = (if pf_ev (M 0) mk s k = 0 then _ else 1)
    rw [ev_eq h hs k (by omega), bm_eq h hs (by omega) hk]
theorem cnt_eq {n yr : Nat} {M S : Nat → Nat → Int64} (h : relA 0 n yr M S) {mk : Int32} : ∀ j, j ≤ n → pm_cnt (S 1) mk yr j = pf_cnt (M 0) mk yr j
  | 0, _ => rfl
  | j + 1, hj => by
    show (if pm_ev (S 1) mk j yr = 0 then _ else _) = (if pf_ev (M 0) mk j yr = 0 then _ else _)
    rw [ev_eq h (by omega) yr (Nat.le_refl _), cnt_eq h j (by omega)]
theorem blw_eq {n yr : Nat} {M S : Nat → Nat → Int64} (h : relA 0 n yr M S) {mk : Int32} {y : Nat} (h1 : 1 ≤ y) (h2 : y ≤ yr) : ∀ j, j ≤ n → pf_blw (M 0) mk y j = nI (pm_bn (S 1) mk y j)
  | 0, _ => rfl
  | j + 1, hj => by
    show (if pf_bm (M 0) mk (pf_ix j y) = 0 then _ else _) = nI (if mk.toInt64 ≤ S 1 (21 * j + y) then _ else _)
    rw [← bm_eq h (by omega) h1 h2, blw_eq h h1 h2 j (by omega)]
    unfold pf_bm
    by_cases q : mk.toInt64 ≤ S 1 (21 * j + y)
    · rw [if_pos q, if_pos q, if_pos rfl]
    · rw [if_neg q, if_neg q, if_neg (by decide), nI_1]
theorem abs_eq (x : Int64) : pm_ab x = pf_abs x := by
  unfold pm_ab pf_abs
  by_cases h : 0 < x
  · rw [if_pos h, if_pos (Int64.le_of_lt h)]
  · rw [if_neg h]
    by_cases q : 0 ≤ x
    · have e : x = 0 := Int64.le_antisymm (Int64.not_lt.mp h) q
      rw [if_pos q, e]
      rfl
    · rw [if_neg q]
theorem st_eq {n yr : Nat} {M S : Nat → Nat → Int64} (h : relA 0 n yr M S) {s : Nat} (hs : s < n) : ∀ k, k + 1 ≤ yr → pm_st (S 2) s k = pf_std (M 1) s k
  | 0, _ => rfl
  | k + 1, hk => by
    show pm_st (S 2) s k + pm_ab (S 2 (21 * s + (k + 2)) - S 2 (21 * s + (k + 2) - 1)) = pf_std (M 1) s k + pf_abs (M 1 (pf_ix s (k + 2)) - M 1 (pf_ix s (k + 2 - 1)))
    have a := (h s hs (k + 2) (by omega) (by omega)).1.2.1
    have b := (h s hs (k + 1) (by omega) (by omega)).1.2.1
    rw [Nat.zero_add] at a b
    rw [st_eq h hs k (by omega), abs_eq, a, show 21 * s + (k + 2) - 1 = 21 * s + (k + 1) by omega, b]
    rfl
end QE4
