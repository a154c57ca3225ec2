section QE3
theorem bd_left {x al tt : Int64} {a : Nat} (h : bd x a) (ha : bd al TB) (ht : bd tt TB) (hle : al ≤ tt) (h0 : 0 < tt) (hA : a * TB < 2 ^ 63) : bd (x - x * al / tt) a ∧ bd (x * al / tt) a := by
  obtain ⟨k, j, e1, e2, hj, hk⟩ := bd_share h ha ht hle h0 hA
  rw [e2, e1, lN_sub hj]
  exact ⟨⟨_, rfl, by omega⟩, ⟨_, rfl, by omega⟩⟩
theorem bd_dead {x d : Int64} {a : Nat} (h : bd x a) (hd : bd d 1000) (hA : a * 1000 < 2 ^ 63) : bd (x - x * d / 1000) a := by
  obtain ⟨n, rfl, hn⟩ := h
  obtain ⟨q, rfl, hq⟩ := hd
  rw [lN_mul, show (1000 : Int64) = lN 1000 from rfl, pk_lDiv (Nat.lt_of_le_of_lt (Nat.mul_le_mul hn hq) hA) (by decide) (by decide)]
  have h1 : n * q / 1000 ≤ n := Nat.div_le_of_le_mul (by rw [Nat.mul_comm 1000 n]; exact Nat.mul_le_mul_left n hq)
  rw [lN_sub h1]
  exact ⟨_, rfl, by omega⟩
theorem pf_take_at {lv : Nat → Int64} {al tt : Int64} {i : Nat} (hi : i < 6) : pf_take lv al tt i = if 0 < tt then lv i - lv i * al / tt else lv i := by
  unfold pf_take
  by_cases h : 0 < tt
  · rw [if_pos h, if_pos h, pf_tk_pw, pw_at, if_pos hi]
  · rw [if_neg h, if_neg h]
theorem pf_dead_at {f : Nat → Int64} {di : Nat → Int32} {i : Nat} (hi : i < 6) : pf_dead f di 6 i = f i - f i * (di i).toInt64 / 1000 := by
  rw [pf_dead_pw, pw_at, if_pos hi]
theorem bd_year {lv : Nat → Int64} {di : Nat → Int32} {al tt : Int64} {i a : Nat} (hi : i < 6) (h : bd (lv i) a) (ha : bd al TB) (ht : bd tt TB) (hle : al ≤ tt) (hA : a * TB < 2 ^ 63) (hA2 : a * 1000 < 2 ^ 63) (hd : ∀ k, bd (di k).toInt64 1000) : bd (pf_dead (pf_take lv al tt) di 6 i) a := by
  rw [pf_dead_at hi]
  refine bd_dead ?_ (hd i) hA2
  rw [pf_take_at hi]
  split
  · next q => exact (bd_left h ha ht hle q hA).1
  · exact h
theorem lb_step {wt rp di : Nat → Int32} {lo hi : Int64} {rt : Int32} {sp dl : Nat} {yg ch : Int32} {se k : Nat} {lv : Nat → Int64} {M : Nat → Nat → Int64} (P : pb wt rp di lo hi rt sp dl yg ch) (hl : lb k lv) (hk : k ≤ 19) (hr : rwb M se k) : lb (k + 1) (pf_yl wt rp di lo hi rt sp dl yg ch se (k + 1) lv M) := by
  obtain ⟨ha, hle⟩ := pf_al_in P hl hk hr
  obtain ⟨p1, p2, p3, p4, p5, p6, p7, p8, p9, p10⟩ := P
  have ht := lb_total p1 hl hk
  unfold pf_yl
  generalize pf_al wt rp lo hi rt sp dl ch se (k + 1) lv M = al at ha hle
  have hf : ∀ i, i < 5 → bd (pf_dead (pf_take lv al (pf_total lv wt 6)) di 6 i) 150000 := fun i hi => bd_year (by omega) (hl.1 i hi) ha ht hle (by decide) (by decide) p3
  have h5 : bd (pf_dead (pf_take lv al (pf_total lv wt 6)) di 6 5) (100000 + 150000 * k) := by
    refine bd_year (by decide) hl.2 ha ht hle ?_ ?_ p3
    · exact Nat.lt_of_le_of_lt (Nat.mul_le_mul_right TB (show 100000 + 150000 * k ≤ 3000000 by omega)) (by decide)
    · omega
  obtain ⟨a0, a1, a2, a3, a4, a5⟩ := pf_grow_at (pf_dead (pf_take lv al (pf_total lv wt 6)) di 6) (pf_born se (k + 1) yg)
  refine ⟨fun i hi => ?_, ?_⟩
  · rcases (show i = 0 ∨ i = 1 ∨ i = 2 ∨ i = 3 ∨ i = 4 by omega) with rfl | rfl | rfl | rfl | rfl
    · rw [a0]; exact pf_born_in p9
    · rw [a1]; exact hf 0 (by decide)
    · rw [a2]; exact hf 1 (by decide)
    · rw [a3]; exact hf 2 (by decide)
    · rw [a4]; exact hf 3 (by decide)
  · rw [a5]
    exact bd_mono (bd_add h5 (hf 4 (by decide))) (by omega)
theorem pf_ct_s {lv : Nat → Int64} {wt : Nat → Int32} {al tt : Int64} (k : Nat) : pf_ct lv wt al tt (k + 1) = pf_ct lv wt al tt k + lv k * al / tt * (wt k).toInt64 := by
  show pf_ct lv wt al tt k + pf_tk lv al tt k k * al / tt * (wt k).toInt64 = _
  rw [pf_tk_pw, pw_at, if_neg (Nat.lt_irrefl k)]
theorem pf_caught_in {k : Nat} {lv : Nat → Int64} {wt : Nat → Int32} {al tt : Int64} (hw : ∀ k, bd (wt k).toInt64 10000) (hl : lb k lv) (hk : k ≤ 19) (ha : bd al TB) (ht : bd tt TB) (hle : al ≤ tt) : bd (pf_caught lv wt al tt) TB := by
  unfold pf_caught
  split
  · next q =>
    have h5 : bd (lv 5) 3100000 := bd_mono hl.2 (by omega)
    have t : ∀ i, i < 5 → bd (lv i * al / tt * (wt i).toInt64) (150000 * 10000) := fun i hi => bd_mul (bd_left (hl.1 i hi) ha ht hle q (by decide)).2 (hw i)
    have t5 : bd (lv 5 * al / tt * (wt 5).toInt64) (3100000 * 10000) := bd_mul (bd_left h5 ha ht hle q (by decide)).2 (hw 5)
    rw [pf_ct_s, pf_ct_s, pf_ct_s, pf_ct_s, pf_ct_s, pf_ct_s]
    have e := bd_add (bd_add (bd_add (bd_add (bd_add (bd_add (bd_0 0) (t 0 (by decide))) (t 1 (by decide))) (t 2 (by decide))) (t 3 (by decide))) (t 4 (by decide))) t5
    exact bd_mono e (by decide)
  · exact bd_0 _
theorem rwb_step {wt rp di : Nat → Int32} {lo hi : Int64} {rt : Int32} {sp dl : Nat} {yg ch : Int32} {se k : Nat} {lv : Nat → Int64} {M : Nat → Nat → Int64} (P : pb wt rp di lo hi rt sp dl yg ch) (hl : lb k lv) (hk : k ≤ 19) (hr : rwb M se k) : rwb (pf_yM wt rp lo hi rt sp dl ch se (k + 1) lv M) se (k + 1) := by
  obtain ⟨ha, hle⟩ := pf_al_in P hl hk hr
  obtain ⟨p1, p2, p3, p4, p5, p6, p7, p8, p9, p10⟩ := P
  have ht := lb_total p1 hl hk
  intro y h1 h2
  rw [pf_y0, pf_y1, pf_y2]
  by_cases e : y = k + 1
  · subst e
    rw [pk_uLs, pk_uLs, pk_uLs]
    exact ⟨lb_ripe p1 p2 hl hk, pf_caught_in p1 hl hk ha ht hle, ha⟩
  · have hne : pf_ix se y ≠ pf_ix se (k + 1) := fun q => e (pf_ix_inj h1 (by omega) (by omega) (by omega) q).2
    rw [pk_uLn hne, pk_uLn hne, pk_uLn hne]
    exact hr y h1 (by omega)
/-- the two sides stand alike behind k years of a seed -/
def rel (fr se k : Nat) (lv : Nat → Int64) (M S : Nat → Nat → Int64) : Prop := (∀ i, i < 6 → S 0 i = lv i) ∧ ∀ y, 1 ≤ y → y ≤ k → S 1 (fr + y) = M 0 (pf_ix se y) ∧ S 2 (fr + y) = M 1 (pf_ix se y) ∧ S 3 (fr + y) = M 2 (pf_ix se y) ∧ S 4 (fr + y) = M 3 (pf_ix se y)
theorem pm_cg_s {nw wl dil : Nat → Int64} {c t : Int64} (k : Nat) : pm_cg nw wl dil c t (k + 1) = pm_cg nw wl dil c t k + (if t = 0 then 0 else nw k * c / t) * wl k := by
  show pm_cg nw wl dil c t k + pm_tk (pm_nw nw dil c t k) c t k * wl k = _
  unfold pm_tk
  rw [pm_nw_pw, pw_at, if_neg (Nat.lt_irrefl k)]
theorem bd_pos {t : Int64} {n : Nat} (h : bd t n) (hn : n < 2 ^ 63) : t = 0 ∨ 0 < t := by
  obtain ⟨k, rfl, hk⟩ := h
  rcases Nat.eq_zero_or_pos k with z | z
  · exact Or.inl (by rw [z]; rfl)
  · exact Or.inr ((pk_lLT (a := 0) (by decide) (by omega)).mpr z)
theorem pm_cg_eq {nw lv : Nat → Int64} {wt : Nat → Int32} {dil : Nat → Int64} {c t : Int64} (ht : bd t TB) (h : ∀ i, i < 6 → nw i = lv i) : pm_cg nw (pl_L wt) dil c t 6 = pf_caught lv wt c t := by
  unfold pf_caught
  rcases bd_pos ht (by decide) with z | z
  · have e : ∀ n, pm_cg nw (pl_L wt) dil c t n = 0 := fun n => by
      induction n with
      | zero => rfl
      | succ n ih => rw [pm_cg_s, ih, if_pos z, Int64.zero_mul]; rfl
    rw [e, if_neg (by rw [z]; decide)]
  · have hz : ¬ t = 0 := fun q => by rw [q] at z; exact absurd z (by decide)
    have e : ∀ n, n ≤ 6 → pm_cg nw (pl_L wt) dil c t n = pf_ct lv wt c t n := fun n => by
      induction n with
      | zero => intro _; rfl
      | succ n ih => intro hn; rw [pm_cg_s, pf_ct_s, ih (by omega), if_neg hz, h n (by omega)]; rfl
    rw [if_pos z, e 6 (Nat.le_refl 6)]
theorem pm_nw_eq {nw lv : Nat → Int64} {di : Nat → Int32} {c t : Int64} (ht : bd t TB) (h : ∀ i, i < 6 → nw i = lv i) : ∀ i, i < 6 → pm_nw nw (pl_L di) c t 6 i = pf_dead (pf_take lv c t) di 6 i := by
  intro i hi
  rw [pm_nw_pw, pw_at, if_pos hi, pf_dead_at hi, pf_take_at hi, h i hi]
  rcases bd_pos ht (by decide) with z | z
  · rw [if_pos z, if_neg (show ¬ 0 < t by rw [z]; decide), Int64.sub_zero]
    rfl
  · have hz : ¬ t = 0 := fun q => by rw [q] at z; exact absurd z (by decide)
    rw [if_neg hz, if_pos z]
    rfl
theorem rel_step {wt rp di : Nat → Int32} {lol hil : Nat → Int64} {rx : Nat} {rt : Int32} {sp dl : Nat} {yg ch : Int32} {fr se k : Nat} {lv : Nat → Int64} {M S : Nat → Nat → Int64} (P : pb wt rp di (lol rx) (hil rx) rt sp dl yg ch) (hl : lb k lv) (hk : k ≤ 19) (hr : rwb M se k) (h : rel fr se k lv M S) :
    rel fr se (k + 1) (pf_yl wt rp di (lol rx) (hil rx) rt sp dl yg ch se (k + 1) lv M) (pf_yM wt rp (lol rx) (hil rx) rt sp dl ch se (k + 1) lv M) (pm_yr (pl_L wt) (pl_L rp) (pl_L di) lol hil rx rt sp dl yg ch fr (k + 1) se S) := by
  obtain ⟨h0, hrow⟩ := h
  have ht := lb_total P.1 hl hk
  have e1 : pm_ripe (S 0) (pl_L wt) (pl_L rp) 6 = pf_ripe lv wt rp 6 := pm_ripe_eq 6 h0
  have e2 : pm_tot (S 0) (pl_L wt) 6 = pf_total lv wt 6 := pm_tot_eq 6 h0
  have e4 : pm_y4 (pl_L wt) (pl_L rp) sp dl fr (k + 1) se S = pf_sn wt rp sp dl se (k + 1) lv M := by
    unfold pm_y4 pm_sv pf_sn pf_seen
    rw [pm_pct]
    have hys := pf_ys_in (y := k + 1) (dl := dl) (by omega)
    have e : pm_y1 (pl_L wt) (pl_L rp) fr (k + 1) S (fr + pf_ys (k + 1) dl) = pf_Ma wt rp se (k + 1) lv M 0 (pf_ix se (pf_ys (k + 1) dl)) := by
      show vp_updL (S 1) (fr + (k + 1)) (pm_ripe (S 0) (pl_L wt) (pl_L rp) 6) (fr + pf_ys (k + 1) dl) = vp_updL (M 0) (pf_ix se (k + 1)) (pf_ripe lv wt rp 6) (pf_ix se (pf_ys (k + 1) dl))
      by_cases q : pf_ys (k + 1) dl = k + 1
      · rw [q, pk_uLs, pk_uLs, e1]
      · rw [pk_uLn (by omega), pk_uLn (fun z => q (pf_ix_inj hys.1 (by omega) (by omega) (by omega) z).2)]
        exact (hrow _ hys.1 (by omega)).1
    rw [e]
  have ec : pm_c2 (pl_L wt) (pl_L rp) lol hil rx rt sp dl ch fr (k + 1) se S = pf_al wt rp (lol rx) (hil rx) rt sp dl ch se (k + 1) lv M := by
    unfold pm_c2 pm_c1 pm_c0 pf_al pf_wa
    rw [e2, e4, pm_mn_eq]
    have := pm_lim_eq (ct := S 3) (M2 := M 2) (fr := fr) (se := se) (y := k + 1) (ch := ch) (c := pf_total lv wt 6 * pf_rate (lol rx) (hil rx) (pf_sn wt rp sp dl se (k + 1) lv M) rt / 1000) (by omega) (by omega) (fun h2 => by
      have := (hrow k (by omega) (Nat.le_refl k)).2.2.1
      rw [show fr + (k + 1) - 1 = fr + k by omega, show k + 1 - 1 = k by omega]
      exact this)
    rw [this]
    rfl
  refine ⟨?_, fun y h1 h2 => ?_⟩
  · show ∀ i, i < 6 → pf_grow (pm_nw (S 0) (pl_L di) (pm_c2 (pl_L wt) (pl_L rp) lol hil rx rt sp dl ch fr (k + 1) se S) (pm_tot (S 0) (pl_L wt) 6) 6) (pf_born se (k + 1) yg) i = _
    rw [ec, e2]
    exact pf_grow_eq _ (pm_nw_eq ht h0)
  · rw [pf_y0, pf_y1, pf_y2, pf_y3]
    show vp_updL (S 1) (fr + (k + 1)) (pm_ripe (S 0) (pl_L wt) (pl_L rp) 6) (fr + y) = _ ∧ vp_updL (S 2) (fr + (k + 1)) (pm_cg (S 0) (pl_L wt) (pl_L di) (pm_c2 (pl_L wt) (pl_L rp) lol hil rx rt sp dl ch fr (k + 1) se S) (pm_tot (S 0) (pl_L wt) 6) 6) (fr + y) = _ ∧ vp_updL (S 3) (fr + (k + 1)) (pm_c2 (pl_L wt) (pl_L rp) lol hil rx rt sp dl ch fr (k + 1) se S) (fr + y) = _ ∧ vp_updL (S 4) (fr + (k + 1)) (pm_y4 (pl_L wt) (pl_L rp) sp dl fr (k + 1) se S) (fr + y) = _
    rw [ec, e1, e2, e4, pm_cg_eq ht h0]
    by_cases e : y = k + 1
    · subst e
      rw [pk_uLs, pk_uLs, pk_uLs, pk_uLs, pk_uLs, pk_uLs, pk_uLs, pk_uLs]
      exact ⟨rfl, rfl, rfl, rfl⟩
    · have hne : pf_ix se y ≠ pf_ix se (k + 1) := fun q => e (pf_ix_inj h1 (by omega) (by omega) (by omega) q).2
      have hn2 : fr + y ≠ fr + (k + 1) := by omega
      rw [pk_uLn hne, pk_uLn hne, pk_uLn hne, pk_uLn hne, pk_uLn hn2, pk_uLn hn2, pk_uLn hn2, pk_uLn hn2]
      exact hrow y h1 (by omega)
end QE3
