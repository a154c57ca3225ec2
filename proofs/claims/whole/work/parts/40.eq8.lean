section QE8
def LI (n ru sp dl rr yr sd rn : Nat) (yg ch : Int32) (nu wt rp di lo hi ra : Nat → Int32) (M S : Nat → Nat → Int64) : Prop :=
  (ru ≤ 6 ∧ sp ≤ 50 ∧ dl ≤ 3 ∧ rn ≤ n ∧ sd ≤ 16 ∧ yr ≤ 20 ∧ (rn = 0 ∨ (1 ≤ sd ∧ 1 ≤ yr ∧ rr < 6))) ∧ ((∀ k, bd (nu k).toInt64 100000) ∧ (∀ k, bd (wt k).toInt64 10000) ∧ (∀ k, bd (rp k).toInt64 1000) ∧ (∀ k, bd (di k).toInt64 1000)) ∧ (bd yg.toInt64 100000 ∧ bd ch.toInt64 1000 ∧ (∀ k, bd (lo k).toInt64 (2 ^ 31)) ∧ (∀ k, bd (hi k).toInt64 (2 ^ 31)) ∧ (∀ k, bd (ra k).toInt64 900)) ∧ (rn = 0 ∨ relA 0 sd yr M S)
theorem px_or_none {a b : Option String} (h : px_or a b = none) : a = none ∧ b = none := by
  cases a with
  | none => exact ⟨rfl, h⟩
  | some e => cases h
theorem bd_px {a : Int32} {t : Nat} (h : px_num a 0 (nI t) = none) (ht : t < 2 ^ 31) : bd a.toInt64 t := bd_i (px_num_none h).1 (px_num_none h).2 ht
theorem bd_upd {f : Nat → Int32} {k n : Nat} {x : Int32} (h : ∀ k, bd (f k).toInt64 n) (hx : bd x.toInt64 n) : ∀ j, bd (upd f k x j).toInt64 n := fun j => by
  unfold upd
  split
  · exact hx
  · exact h j
section V
variable {n ru sp dl rr yr sd rn : Nat} {yg ch : Int32} {nu wt rp di lo hi ra : Nat → Int32} {M S : Nat → Nat → Int64}
theorem LI_mono (I : LI n ru sp dl rr yr sd rn yg ch nu wt rp di lo hi ra M S) : LI (n + 1) ru sp dl rr yr sd rn yg ch nu wt rp di lo hi ra M S := by
  obtain ⟨⟨h1, h2, h3, h4, h5, h6, h7⟩, h8, h9, h10⟩ := I
  exact ⟨⟨h1, h2, h3, by omega, h5, h6, h7⟩, h8, h9, h10⟩
theorem LI_age (I : LI n ru sp dl rr yr sd rn yg ch nu wt rp di lo hi ra M S) {k : Nat} {a0 a1 a2 a3 a4 : Int32} (h : px_or (px_place a0 0 5) (px_or (px_num a1 0 100000) (px_or (px_num a2 0 10000) (px_or (px_num a3 0 1000) (px_num a4 0 1000)))) = none) : LI (n + 1) ru sp dl rr yr sd rn yg ch (upd nu k a1) (upd wt k a2) (upd rp k a3) (upd di k a4) lo hi ra M S := by
  obtain ⟨⟨h1, h2, h3, h4, h5, h6, h7⟩, ⟨b1, b2, b3, b4⟩, h9, h10⟩ := I
  obtain ⟨-, h⟩ := px_or_none h
  obtain ⟨q1, h⟩ := px_or_none h
  obtain ⟨q2, h⟩ := px_or_none h
  obtain ⟨q3, q4⟩ := px_or_none h
  exact ⟨⟨h1, h2, h3, by omega, h5, h6, h7⟩, ⟨bd_upd b1 (bd_px (t := 100000) q1 (by decide)), bd_upd b2 (bd_px (t := 10000) q2 (by decide)), bd_upd b3 (bd_px (t := 1000) q3 (by decide)), bd_upd b4 (bd_px (t := 1000) q4 (by decide))⟩, h9, h10⟩
theorem LI_young (I : LI n ru sp dl rr yr sd rn yg ch nu wt rp di lo hi ra M S) {a0 : Int32} (h : px_num a0 0 100000 = none) : LI (n + 1) ru sp dl rr yr sd rn a0 ch nu wt rp di lo hi ra M S := by
  obtain ⟨⟨h1, h2, h3, h4, h5, h6, h7⟩, h8, ⟨c1, c2, c3, c4, c5⟩, h10⟩ := I
  exact ⟨⟨h1, h2, h3, by omega, h5, h6, h7⟩, h8, ⟨bd_px (t := 100000) h (by decide), c2, c3, c4, c5⟩, h10⟩
theorem LI_change (I : LI n ru sp dl rr yr sd rn yg ch nu wt rp di lo hi ra M S) {a0 : Int32} (h : px_num a0 0 1000 = none) : LI (n + 1) ru sp dl rr yr sd rn yg a0 nu wt rp di lo hi ra M S := by
  obtain ⟨⟨h1, h2, h3, h4, h5, h6, h7⟩, h8, ⟨c1, c2, c3, c4, c5⟩, h10⟩ := I
  exact ⟨⟨h1, h2, h3, by omega, h5, h6, h7⟩, h8, ⟨c1, bd_px (t := 1000) h (by decide), c3, c4, c5⟩, h10⟩
theorem LI_error (I : LI n ru sp dl rr yr sd rn yg ch nu wt rp di lo hi ra M S) {a0 a1 : Int32} (h : px_or (px_num a0 0 50) (px_num a1 0 3) = none) : LI (n + 1) ru a0.toNatClampNeg a1.toNatClampNeg rr yr sd rn yg ch nu wt rp di lo hi ra M S := by
  obtain ⟨⟨h1, h2, h3, h4, h5, h6, h7⟩, h8, h9, h10⟩ := I
  obtain ⟨q1, q2⟩ := px_or_none h
  exact ⟨⟨h1, (qn_nu (f := 0) (t := 50) q1 (by decide) (by decide)).2.2, (qn_nu (f := 0) (t := 3) q2 (by decide) (by decide)).2.2, by omega, h5, h6, h7⟩, h8, h9, h10⟩
theorem LI_rule (I : LI n ru sp dl rr yr sd rn yg ch nu wt rp di lo hi ra M S) {k : Nat} {a0 a1 a2 : Int32} (h : px_or (px_num a1 0 2000000000) (px_or (px_num a0 0 a1) (px_or (px_num a2 0 900) (px_room (nI ru)))) = none) : LI (n + 1) (ru + 1) sp dl rr yr sd rn yg ch nu wt rp di (upd lo k a0) (upd hi k a1) (upd ra k a2) M S := by
  obtain ⟨⟨h1, h2, h3, h4, h5, h6, h7⟩, h8, ⟨c1, c2, c3, c4, c5⟩, h10⟩ := I
  obtain ⟨q1, h⟩ := px_or_none h
  obtain ⟨q0, h⟩ := px_or_none h
  obtain ⟨q2, q3⟩ := px_or_none h
  have r : ru < 6 := by
    unfold px_room at q3
    split at q3
    · next z => exact qn_lt (b := 6) z (by omega)
    · cases q3
  have e1 : bd a1.toInt64 (2 ^ 31) := bd_mono (bd_px (t := 2000000000) q1 (by decide)) (by decide)
  have e0 : bd a0.toInt64 (2 ^ 31) := by
    have z0 := px_num_none q0
    have z1 := px_num_none q1
    exact bd_mono (bd_i (n := 2000000000) z0.1 (Int32.le_trans z0.2 z1.2) (by decide)) (by decide)
  exact ⟨⟨by omega, h2, h3, by omega, h5, h6, h7⟩, h8, ⟨c1, c2, bd_upd c3 e0, bd_upd c4 e1, bd_upd c5 (bd_px (t := 900) q2 (by decide))⟩, h10⟩
theorem LI_S {S' : Nat → Nat → Int64} (I : LI n ru sp dl rr yr sd rn yg ch nu wt rp di lo hi ra M S) (hS : ∀ w i, w < 4 → i ≤ 336 → S' (w + 1) i = S (w + 1) i) : LI (n + 1) ru sp dl rr yr sd rn yg ch nu wt rp di lo hi ra M S' := by
  obtain ⟨⟨h1, h2, h3, h4, h5, h6, h7⟩, h8, h9, h10⟩ := I
  exact ⟨⟨h1, h2, h3, by omega, h5, h6, h7⟩, h8, h9, h10.imp id (fun r => relA_out r h5 h6 hS)⟩
theorem LI_pb (I : LI n ru sp dl rr yr sd rn yg ch nu wt rp di lo hi ra M S) {rx : Nat} {rt : Int32} (h : bd rt.toInt64 900) : pb wt rp di (pl_L lo rx) (pl_L hi rx) rt sp dl yg ch := ⟨I.2.1.2.1, I.2.1.2.2.1, I.2.1.2.2.2, I.2.2.1.2.2.1 rx, I.2.2.1.2.2.2.1 rx, h, I.1.2.1, I.1.2.2.1, I.2.2.1.1, I.2.2.1.2.1⟩
theorem LI_run (I : LI n ru sp dl rr yr sd rn yg ch nu wt rp di lo hi ra M S) {lv : Nat → Int64} {a0 a1 a2 : Int32} (h : px_or (px_place a0 0 (nI ru - 1)) (px_or (px_num a1 1 20) (px_num a2 1 16)) = none) : relA 0 a2.toNatClampNeg a1.toNatClampNeg (pf_all nu wt rp di (lo a0.toNatClampNeg).toInt64 (hi a0.toNatClampNeg).toInt64 (ra a0.toNatClampNeg) sp dl yg ch a1.toNatClampNeg lv M a2.toNatClampNeg).2 (pm_go (pl_L nu) (pl_L wt) (pl_L rp) (pl_L di) (pl_L lo) (pl_L hi) a0.toNatClampNeg (ra a0.toNatClampNeg) sp dl yg ch 0 a1.toNatClampNeg S a2.toNatClampNeg) ∧ LI (n + 1) ru sp dl a0.toNatClampNeg a1.toNatClampNeg a2.toNatClampNeg (rn + 1) yg ch nu wt rp di lo hi ra (pf_all nu wt rp di (lo a0.toNatClampNeg).toInt64 (hi a0.toNatClampNeg).toInt64 (ra a0.toNatClampNeg) sp dl yg ch a1.toNatClampNeg lv M a2.toNatClampNeg).2 (pm_go (pl_L nu) (pl_L wt) (pl_L rp) (pl_L di) (pl_L lo) (pl_L hi) a0.toNatClampNeg (ra a0.toNatClampNeg) sp dl yg ch 0 a1.toNatClampNeg S a2.toNatClampNeg) := by
  obtain ⟨q0, h⟩ := px_or_none h
  obtain ⟨q1, q2⟩ := px_or_none h
  have p0 := qn_plm q0 (by have := I.1.1; omega)
  have p1 := qn_nu (f := 1) (t := 20) q1 (by decide) (by decide)
  have p2 := qn_nu (f := 1) (t := 16) q2 (by decide) (by decide)
  have A := all_ok (nu := nu) (lol := pl_L lo) (hil := pl_L hi) (rx := a0.toNatClampNeg) (ba := 0) (yr := a1.toNatClampNeg) (lv := lv) (M := M) (S := S) (LI_pb I (I.2.2.1.2.2.2.2 a0.toNatClampNeg)) I.2.1.1 p1.2.2 a2.toNatClampNeg
  refine ⟨A, ?_⟩
  obtain ⟨⟨h1, h2, h3, h4, h5, h6, h7⟩, h8, h9, h10⟩ := I
  exact ⟨⟨h1, h2, h3, by omega, p2.2.2, p1.2.2, Or.inr ⟨p2.2.1, p1.2.1, by omega⟩⟩, h8, h9, Or.inr A⟩
theorem LI_rel (I : LI n ru sp dl rr yr sd rn yg ch nu wt rp di lo hi ra M S) (h : px_run (nI rn) = none) (hn : n < 2 ^ 30) : relA 0 sd yr M S ∧ 1 ≤ sd ∧ 1 ≤ yr ∧ rr < 6 := by
  refine ⟨qn_run h (by have := I.1.2.2.2.1; omega) I.2.2.2, ?_⟩
  exact qn_run h (by have := I.1.2.2.2.1; omega) I.1.2.2.2.2.2.2
theorem v_told (R : relA 0 sd yr M S) (hsd : sd ≤ 16) (hyr : yr ≤ 20) {a0 a1 a2 : Int32} (h0 : px_place a0 0 (nI sd - 1) = none) (h1 : px_place a1 1 (nI yr) = none) (h2 : px_place a2 0 3 = none) : M a2.toNatClampNeg (pf_ix a0.toNatClampNeg a1.toNatClampNeg) = pm_td S a2 (21 * a0.toNatClampNeg + a1.toNatClampNeg) := by
  have p0 := qn_plm h0 (by omega)
  have p1 := qn_pl (f := 1) (t := yr) h1 (by omega) (by decide)
  have p2 := qn_pl (f := 0) (t := 3) h2 (by decide) (by decide)
  have b := (R _ p0.2 _ p1.2.1 p1.2.2).1
  rw [Nat.zero_add] at b
  unfold pm_td
  obtain ⟨k, hk⟩ : ∃ k, a2.toNatClampNeg = k := ⟨_, rfl⟩
  rw [hk] at p2 ⊢
  rcases (show k = 0 ∨ k = 1 ∨ k = 2 ∨ k = 3 by omega) with rfl | rfl | rfl | rfl
  · rw [if_pos (show a2 = 0 from p2.1)]; exact b.1.symm
  · rw [p2.1, if_neg (by decide), if_pos (by decide)]; exact b.2.1.symm
  · rw [p2.1, if_neg (by decide), if_neg (by decide), if_pos (by decide)]; exact b.2.2.1.symm
  · rw [p2.1, if_neg (by decide), if_neg (by decide), if_neg (by decide)]; exact b.2.2.2.symm
theorem v_below (R : relA 0 sd yr M S) (hsd : sd ≤ 16) (hyr : yr ≤ 20) (hs1 : 1 ≤ sd) {mk a0 a1 : Int32} (h0 : px_place a0 1 (nI yr) = none) : pf_part (pf_blw (M 0) mk a0.toNatClampNeg sd).toInt64 (nI sd).toInt64 a1 = pm_part (pm_bn (S 1) mk a0.toNatClampNeg sd) sd a1 := by
  have p1 := qn_pl (f := 1) (t := yr) h0 (by omega) (by decide)
  have hb := pm_bn_le (S 1) mk a0.toNatClampNeg sd
  rw [blw_eq R p1.2.1 p1.2.2 sd (Nat.le_refl _), nI_l (by omega), nI_l (by omega)]
  exact part_eq (by omega) hs1 (by omega) a1
theorem v_mean (R : relA 0 sd yr M S) (hsd : sd ≤ 16) (hyr : yr ≤ 20) (hs1 : 1 ≤ sd) (hy1 : 1 ≤ yr) {A0 B0 : Nat} (hA : pm_sumA (S 2) 0 yr sd = lN A0 ∧ A0 < 2 ^ 63) (hB : pm_sumL (S 1) yr sd = lN B0 ∧ B0 < 2 ^ 63) {a0 a1 : Int32} : pf_mean M yr sd a0 a1 = pm_mean A0 B0 sd yr a0 a1 := by
  unfold pf_mean pm_mean
  rw [sumA_eq R sd (Nat.le_refl _), sumL_eq R hy1 sd (Nat.le_refl _), hA.1, hB.1, pk_mul, nI_l (Nat.lt_of_le_of_lt (Nat.mul_le_mul hsd hyr) (by decide)), nI_l (by omega)]
  rw [part_eq hA.2 (Nat.mul_pos hs1 hy1) (Nat.le_trans (Nat.mul_le_mul hsd hyr) (by decide)), part_eq hB.2 hs1 (by omega)]
theorem LI_AB (I : LI n ru sp dl rr yr sd rn yg ch nu wt rp di lo hi ra M S) : ∃ A0 B0 : Nat, (rn = 0 ∨ (pm_sumA (S 2) 0 yr sd = lN A0 ∧ A0 < 2 ^ 63)) ∧ (rn = 0 ∨ (pm_sumL (S 1) yr sd = lN B0 ∧ B0 < 2 ^ 63)) := by
  obtain ⟨⟨h1, h2, h3, h4, h5, h6, h7⟩, h8, h9, h10⟩ := I
  rcases h10 with z | R
  · exact ⟨0, 0, Or.inl z, Or.inl z⟩
  · rcases h7 with z | h7
    · exact ⟨0, 0, Or.inl z, Or.inl z⟩
    · obtain ⟨a, ea, ha⟩ := sumA_bd R sd (Nat.le_refl _)
      obtain ⟨b, eb, hb⟩ := sumL_bd R h7.2.1 sd (Nat.le_refl _)
      refine ⟨a, b, Or.inr ⟨ea, ?_⟩, Or.inr ⟨eb, ?_⟩⟩
      · exact Nat.lt_of_le_of_lt (Nat.le_trans ha (Nat.mul_le_mul (Nat.mul_le_mul_left TB h6) h5)) (by decide)
      · exact Nat.lt_of_le_of_lt (Nat.le_trans hb (Nat.mul_le_mul_left TB h5)) (by decide)
theorem v_table (I : LI n ru sp dl rr yr sd rn yg ch nu wt rp di lo hi ra M S) {lv : Nat → Int64} {M2 : Nat → Nat → Int64} {a0 : Int32} (h0 : px_place a0 0 18 = none) : pf_sumA ((pf_all nu wt rp di (lo rr).toInt64 (hi rr).toInt64 (50 * a0) sp dl yg ch yr lv M2 sd).2 1) 1 yr sd = pm_sumA (pm_go (pl_L nu) (pl_L wt) (pl_L rp) (pl_L di) (pl_L lo) (pl_L hi) rr (50 * a0) sp dl yg ch 336 yr S sd 2) 336 yr sd := by
  have p := qn_pl (f := 0) (t := 18) h0 (by decide) (by decide)
  have hb : bd ((50 : Int32) * a0).toInt64 900 := by
    rw [p.1]
    exact bd_rate p.2.2
  have A := all_ok (nu := nu) (lol := pl_L lo) (hil := pl_L hi) (rx := rr) (rt := 50 * a0) (ba := 336) (yr := yr) (lv := lv) (M := M2) (S := S) (LI_pb I hb) I.2.1.1 I.1.2.2.2.2.2.1 sd
  exact sumA_eq A sd (Nat.le_refl _)
theorem v_top (I : LI n ru sp dl rr yr sd rn yg ch nu wt rp di lo hi ra M S) {lv : Nat → Int64} {M2 : Nat → Nat → Int64} : (pf_tp (pf_tv nu wt rp di (lo rr).toInt64 (hi rr).toInt64 sp dl yg ch yr sd lv M2) 18).1 = (pm_tq (pm_tv (pl_L nu) (pl_L wt) (pl_L rp) (pl_L di) (pl_L lo) (pl_L hi) rr sp dl yg ch yr sd S) 19).1 :=
  top_eq I.2.1.1 I.2.1.2.1 I.2.1.2.2.1 I.2.1.2.2.2 (I.2.2.1.2.2.1 rr) (I.2.2.1.2.2.2.1 rr) I.1.2.1 I.1.2.2.1 I.2.2.1.1 I.2.2.1.2.1 I.1.2.2.2.2.2.1 I.1.2.2.2.2.1
theorem v_rank (R : relA 0 sd yr M S) (hsd : sd ≤ 16) (hyr : yr ≤ 20) {od : Nat → Int64} {a0 a1 : Int32} (h0 : px_place a0 1 (nI yr) = none) (h1 : px_place a1 0 (nI sd - 1) = none) : pf_srt (M 0) a0.toNatClampNeg od sd a1.toNatClampNeg = (pm_rs (fun j => pm_bf (S 1) a0.toNatClampNeg j sd) (fun j => S 1 (21 * j + a0.toNatClampNeg)) a1.toNatClampNeg sd).getD 0 := by
  have p0 := qn_pl (f := 1) (t := yr) h0 (by omega) (by decide)
  have p1 := qn_plm h1 (by omega)
  exact (rank_eq R p0.2.1 p0.2.2 p1.2 hsd).symm
theorem v_steady (R : relA 0 sd yr M S) (hsd : sd ≤ 16) (hy1 : 1 ≤ yr) {a0 : Int32} (h0 : px_place a0 0 (nI sd - 1) = none) : pf_std (M 1) a0.toNatClampNeg (yr - 1) = pm_st (S 2) a0.toNatClampNeg (yr - 1) := by
  have p0 := qn_plm h0 (by omega)
  exact (st_eq R p0.2 (yr - 1) (by omega)).symm
theorem v_recovers (R : relA 0 sd yr M S) (hsd : sd ≤ 16) (hyr : yr ≤ 20) {mk a0 a1 : Int32} (h0 : px_place a0 0 (nI sd - 1) = none) (h1 : px_num a1 1 20 = none) : pf_rc (M 0) mk a0.toNatClampNeg a1.toNatClampNeg yr = pm_sr (pm_F (S 1) mk a0.toNatClampNeg a1.toNatClampNeg) (yr + 1 - a1.toNatClampNeg) := by
  have p0 := qn_plm h0 (by omega)
  have p1 := qn_nu (f := 1) (t := 20) h1 (by decide) (by decide)
  exact rc_eq R p0.2 p1.2.1 hyr yr (Nat.le_refl _)
end V
end QE8
