section QE2
theorem pf_draw_in (a b c : Int32) : ∃ d : Nat, d < 65536 ∧ pf_draw a b c = nI d := by
  unfold pf_draw
  generalize ((31 * a + 7 * b + c) * 1103515245 + 12345) * 1103515245 + 12345 = x
  have h := pk_ushr x 16 16 (by decide)
  generalize hv : (x.toUInt32 >>> ((16 : Int32).toUInt32 &&& Int32.toUInt32 31)).toInt32 = v at h
  have hx : x.toBitVec.toNat < 2 ^ 32 := x.toBitVec.isLt
  have hd : x.toBitVec.toNat / 2 ^ 16 < 65536 := by omega
  refine ⟨x.toBitVec.toNat / 2 ^ 16, hd, ?_⟩
  have e : v.toBitVec.toNat = (nI (x.toBitVec.toNat / 2 ^ 16)).toBitVec.toNat := by rw [h, pk_tn (by omega)]
  exact Int32.toBitVec_inj.mp (BitVec.eq_of_toNat_eq e)
theorem pf_rem_in {a b c : Int32} {d : Nat} (h0 : 0 < d) (hd : d < 2 ^ 31) : ∃ r : Nat, r < d ∧ pf_rem (pf_draw a b c) (nI d) = nI r := by
  obtain ⟨x, hx, e⟩ := pf_draw_in a b c
  refine ⟨x % d, Nat.mod_lt x h0, ?_⟩
  unfold pf_rem
  rw [e, pk_rem (by omega) h0 hd]
theorem pf_pct_in {se y sp : Nat} (h : sp ≤ 50) : bd (pf_pct se y sp).toInt64 150 := by
  unfold pf_pct
  rw [show (2 : Int32) * nI sp + 1 = nI (2 * sp + 1) by rw [show (2 : Int32) = nI 2 from rfl, pk_mul, nI_1]]
  obtain ⟨r, hr, e⟩ := pf_rem_in (a := nI se) (b := nI y) (c := 1) (d := 2 * sp + 1) (by omega) (by omega)
  rw [e, show (100 : Int32) = nI 100 from rfl, pk_sub (by omega), nI_add]
  exact bd_nI (by omega) (by decide)
theorem pf_born_in {se y : Nat} {yg : Int32} (h : bd yg.toInt64 100000) : bd (pf_born se y yg) 150000 := by
  unfold pf_born
  obtain ⟨r, hr, e⟩ := pf_rem_in (a := nI se) (b := nI y) (c := 0) (d := 101) (by decide) (by decide)
  rw [show pf_rem (pf_draw (nI se) (nI y) 0) 101 = nI r from e, show (50 : Int32) = nI 50 from rfl, nI_add]
  exact bd_mono (bd_div (d := 100) (bd_mul h (bd_nI (k := 50 + r) (n := 150) (by omega) (by decide))) (by decide) (by decide) (by decide)) (by decide)
def TB : Nat := 40000000000
/-- what is asked of the numbers that a run takes -/
def pb (wt rp di : Nat → Int32) (lo hi : Int64) (rt : Int32) (sp dl : Nat) (yg ch : Int32) : Prop := (∀ k, bd (wt k).toInt64 10000) ∧ (∀ k, bd (rp k).toInt64 1000) ∧ (∀ k, bd (di k).toInt64 1000) ∧ bd lo (2 ^ 31) ∧ bd hi (2 ^ 31) ∧ bd rt.toInt64 900 ∧ sp ≤ 50 ∧ dl ≤ 3 ∧ bd yg.toInt64 100000 ∧ bd ch.toInt64 1000
def lb (k : Nat) (lv : Nat → Int64) : Prop := (∀ i, i < 5 → bd (lv i) 150000) ∧ bd (lv 5) (100000 + 150000 * k)
theorem lb_total {k : Nat} {lv : Nat → Int64} {wt : Nat → Int32} (hw : ∀ k, bd (wt k).toInt64 10000) (h : lb k lv) (hk : k ≤ 19) : bd (pf_total lv wt 6) TB := by
  have h5 : bd (lv 5) 3100000 := bd_mono h.2 (by omega)
  have e := bd_add (bd_add (bd_add (bd_add (bd_add (bd_add (bd_0 0) (bd_mul (h.1 0 (by decide)) (hw 0))) (bd_mul (h.1 1 (by decide)) (hw 1))) (bd_mul (h.1 2 (by decide)) (hw 2))) (bd_mul (h.1 3 (by decide)) (hw 3))) (bd_mul (h.1 4 (by decide)) (hw 4))) (bd_mul h5 (hw 5))
  exact bd_mono e (by decide)
theorem bd_k {x : Int64} {a : Nat} (h : bd x a) (ha : a < 2 ^ 63) : bd (x / 1000) (a / 1000) := bd_div (d := 1000) h ha (by decide) (by decide)
theorem lb_ripe {k : Nat} {lv : Nat → Int64} {wt rp : Nat → Int32} (hw : ∀ k, bd (wt k).toInt64 10000) (hr : ∀ k, bd (rp k).toInt64 1000) (h : lb k lv) (hk : k ≤ 19) : bd (pf_ripe lv wt rp 6) TB := by
  have h5 : bd (lv 5) 3100000 := bd_mono h.2 (by omega)
  have t : ∀ i, i < 5 → bd (lv i * (wt i).toInt64 * (rp i).toInt64 / 1000) (150000 * 10000 * 1000 / 1000) := fun i hi => bd_k (bd_mul (bd_mul (h.1 i hi) (hw i)) (hr i)) (by decide)
  have e := bd_add (bd_add (bd_add (bd_add (bd_add (bd_add (bd_0 0) (t 0 (by decide))) (t 1 (by decide))) (t 2 (by decide))) (t 3 (by decide))) (t 4 (by decide))) (bd_k (bd_mul (bd_mul h5 (hw 5)) (hr 5)) (by decide))
  exact bd_mono e (by decide)
theorem pf_rate_in {lo hi x : Int64} {rt : Int32} {n : Nat} (hl : bd lo (2 ^ 31)) (hh : bd hi (2 ^ 31)) (hx : bd x n) (hn : n * 900 < 2 ^ 63) (hn2 : n < 2 ^ 63) (hr : bd rt.toInt64 900) : bd (pf_rate lo hi x rt) 900 := by
  unfold pf_rate
  obtain ⟨a, rfl, ha⟩ := hl
  obtain ⟨b, rfl, hb⟩ := hh
  obtain ⟨q, rfl, hq⟩ := hx
  obtain ⟨r, er, hr2⟩ := hr
  rw [er]
  split
  · next h1 =>
    split
    · next h2 =>
      have a1 : a ≤ q := (pk_lLE (by omega) (by omega)).mp h1
      have a2 : q < b := (pk_lLT (by omega) (by omega)).mp h2
      rw [lN_sub a1, lN_sub (by omega), lN_mul]
      have hm : r * (q - a) < 2 ^ 63 := Nat.lt_of_le_of_lt (Nat.mul_le_mul hr2 (show q - a ≤ n by omega)) (by rw [Nat.mul_comm]; exact hn)
      refine ⟨r * (q - a) / (b - a), pk_lDiv hm (by omega) (by omega), ?_⟩
      refine Nat.le_trans (Nat.div_le_of_le_mul ?_) hr2
      rw [Nat.mul_comm (b - a) r]
      exact Nat.mul_le_mul_left r (by omega)
    · exact ⟨r, rfl, hr2⟩
  · exact bd_0 _
theorem pf_cap_in {b wa : Int64} {ch : Int32} (hb : bd b TB) (hw : bd wa TB) (hc : bd ch.toInt64 1000) : bd (pf_cap b wa ch) TB := by
  unfold pf_cap
  obtain ⟨n, rfl, hn⟩ := hb
  obtain ⟨q, eq, hq⟩ := hc
  rw [eq, lN_mul, show (1000 : Int64) = lN 1000 from rfl, pk_lDiv (Nat.lt_of_le_of_lt (Nat.mul_le_mul hn hq) (by decide)) (by decide) (by decide)]
  have h1 : n * q / 1000 ≤ n := Nat.div_le_of_le_mul (by rw [Nat.mul_comm 1000 n]; exact Nat.mul_le_mul_left n hq)
  refine bd_max ?_ ?_
  · rw [lN_sub h1]
    exact ⟨_, rfl, by omega⟩
  · unfold pf_min
    split
    · exact hw
    · next h2 =>
      have h3 := Int64.not_lt.mp h2
      rw [lN_add] at h3 ⊢
      obtain ⟨z, rfl, hz⟩ := hw
      have hTB : TB < 2 ^ 62 := by decide
      have := (pk_lLE (by omega) (by omega)).mp h3
      exact ⟨_, rfl, by omega⟩
theorem pf_lim_in {M2 : Nat → Int64} {wa : Int64} {se y : Nat} {ch : Int32} (hm : 2 ≤ y → bd (M2 (pf_ix se (y - 1))) TB) (hy : y ≤ 20) (hw : bd wa TB) (hc : bd ch.toInt64 1000) : bd (pf_lim M2 wa se y ch) TB := by
  unfold pf_lim
  split
  · exact hw
  · next h =>
    split
    · exact pf_cap_in (hm (qn_nlt2 h (by omega))) hw hc
    · exact hw
def rwb (M : Nat → Nat → Int64) (se k : Nat) : Prop := ∀ y, 1 ≤ y → y ≤ k → bd (M 0 (pf_ix se y)) TB ∧ bd (M 1 (pf_ix se y)) TB ∧ bd (M 2 (pf_ix se y)) TB
theorem pf_ix_inj {s t y z : Nat} (hy : 1 ≤ y) (hy2 : y ≤ 20) (hz : 1 ≤ z) (hz2 : z ≤ 20) (h : pf_ix s y = pf_ix t z) : s = t ∧ y = z := by
  unfold pf_ix at h
  omega
theorem pf_y0 (wt rp : Nat → Int32) (lo hi : Int64) (rt : Int32) (sp dl : Nat) (ch : Int32) (se y : Nat) (lv : Nat → Int64) (M : Nat → Nat → Int64) : pf_yM wt rp lo hi rt sp dl ch se y lv M 0 = vp_updL (M 0) (pf_ix se y) (pf_ripe lv wt rp 6) := rfl
theorem pf_y1 (wt rp : Nat → Int32) (lo hi : Int64) (rt : Int32) (sp dl : Nat) (ch : Int32) (se y : Nat) (lv : Nat → Int64) (M : Nat → Nat → Int64) : pf_yM wt rp lo hi rt sp dl ch se y lv M 1 = vp_updL (M 1) (pf_ix se y) (pf_caught lv wt (pf_al wt rp lo hi rt sp dl ch se y lv M) (pf_total lv wt 6)) := rfl
theorem pf_y2 (wt rp : Nat → Int32) (lo hi : Int64) (rt : Int32) (sp dl : Nat) (ch : Int32) (se y : Nat) (lv : Nat → Int64) (M : Nat → Nat → Int64) : pf_yM wt rp lo hi rt sp dl ch se y lv M 2 = vp_updL (M 2) (pf_ix se y) (pf_al wt rp lo hi rt sp dl ch se y lv M) := rfl
theorem pf_y3 (wt rp : Nat → Int32) (lo hi : Int64) (rt : Int32) (sp dl : Nat) (ch : Int32) (se y : Nat) (lv : Nat → Int64) (M : Nat → Nat → Int64) : pf_yM wt rp lo hi rt sp dl ch se y lv M 3 = vp_updL (M 3) (pf_ix se y) (pf_sn wt rp sp dl se y lv M) := rfl
theorem pf_al_in {wt rp di : Nat → Int32} {lo hi : Int64} {rt : Int32} {sp dl : Nat} {yg ch : Int32} {se k : Nat} {lv : Nat → Int64} {M : Nat → Nat → Int64} (P : pb wt rp di lo hi rt sp dl yg ch) (hl : lb k lv) (hk : k ≤ 19) (hr : rwb M se k) : bd (pf_al wt rp lo hi rt sp dl ch se (k + 1) lv M) TB ∧ pf_al wt rp lo hi rt sp dl ch se (k + 1) lv M ≤ pf_total lv wt 6 := by
  obtain ⟨p1, p2, p3, p4, p5, p6, p7, p8, p9, p10⟩ := P
  have ht := lb_total p1 hl hk
  have hri := lb_ripe p1 p2 hl hk
  have hsn : bd (pf_sn wt rp sp dl se (k + 1) lv M) 60000000000 := by
    unfold pf_sn pf_seen
    have hys := pf_ys_in (y := k + 1) (dl := dl) (by omega)
    have hm : bd (pf_Ma wt rp se (k + 1) lv M 0 (pf_ix se (pf_ys (k + 1) dl))) TB := by
      show bd (vp_updL (M 0) (pf_ix se (k + 1)) (pf_ripe lv wt rp 6) (pf_ix se (pf_ys (k + 1) dl))) TB
      unfold vp_updL
      split
      · exact hri
      · next q =>
        have : pf_ys (k + 1) dl ≠ k + 1 := fun z => q (by rw [z])
        exact (hr _ hys.1 (by omega)).1
    exact bd_mono (bd_div (d := 100) (bd_mul hm (pf_pct_in p7)) (by decide) (by decide) (by decide)) (by decide)
  have hwa : bd (pf_wa wt rp lo hi rt sp dl se (k + 1) lv M) TB := by
    unfold pf_wa
    exact bd_mono (bd_k (bd_mul ht (pf_rate_in p4 p5 hsn (by decide) (by decide) p6)) (by decide)) (by decide)
  refine ⟨?_, pf_min_le _ _⟩
  unfold pf_al
  refine bd_min (pf_lim_in (fun h2 => ?_) (by omega) hwa p10) ht
  exact (hr k (by omega) (by omega)).2.2
end QE2
