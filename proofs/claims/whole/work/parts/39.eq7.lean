section QE7
abbrev tt (ex : Option String) (T : Int32) (cd : String → Int32) : Prop := (ex = none ∧ T = 0) ∨ ∃ E : String, ex = some E ∧ T = cd E ∧ ¬ T = 0 ∧ ¬ T ≤ 0
theorem pp_place (a f t : Int32) : (px_place a f t = none ∧ pm_in a f t = 1) ∨ (px_place a f t = some "java/lang/IndexOutOfBoundsException" ∧ pm_in a f t = 0) := by
  unfold px_place pm_in
  by_cases h : a < f
  · rw [if_pos h, if_pos h]; exact Or.inr ⟨rfl, rfl⟩
  · rw [if_neg h, if_neg h]
    by_cases h2 : a ≤ t
    · rw [if_pos h2, if_neg (Int32.not_lt.mpr h2)]; exact Or.inl ⟨rfl, rfl⟩
    · rw [if_neg h2, if_pos (Int32.not_le.mp h2)]; exact Or.inr ⟨rfl, rfl⟩
theorem pp_num (a f t : Int32) : (px_num a f t = none ∧ pm_in a f t = 1) ∨ (px_num a f t = some "java/lang/IllegalArgumentException" ∧ pm_in a f t = 0) := by
  unfold px_num pm_in
  by_cases h : a < f
  · rw [if_pos h, if_pos h]; exact Or.inr ⟨rfl, rfl⟩
  · rw [if_neg h, if_neg h]
    by_cases h2 : a ≤ t
    · rw [if_pos h2, if_neg (Int32.not_lt.mpr h2)]; exact Or.inl ⟨rfl, rfl⟩
    · rw [if_neg h2, if_pos (Int32.not_le.mp h2)]; exact Or.inr ⟨rfl, rfl⟩

theorem pm_t4_r {r a b c : Int32} (h : ¬ r = 0) : pm_t4 r a b c = pm_t4 1 a b c := by unfold pm_t4; rw [if_neg h, if_neg (show ¬ (1 : Int32) = 0 by decide)]
theorem pm_t5_r {r a b : Int32} (h : ¬ r = 0) : pm_t5 r a b = pm_t5 1 a b := by unfold pm_t5; rw [if_neg h, if_neg (show ¬ (1 : Int32) = 0 by decide)]
theorem pm_r1_r {r a : Int32} (h : ¬ r = 0) : pm_r1 r a = pm_r1 1 a := by unfold pm_r1; rw [if_neg h, if_neg (show ¬ (1 : Int32) = 0 by decide)]
theorem pm_t7_r {r a b : Int32} (h : ¬ r = 0) : pm_t7 r a b = pm_t7 1 a b := by unfold pm_t7; rw [if_neg h, if_neg (show ¬ (1 : Int32) = 0 by decide)]
theorem pm_t8_r {r a b : Int32} (h : ¬ r = 0) : pm_t8 r a b = pm_t8 1 a b := by unfold pm_t8; rw [if_neg h, if_neg (show ¬ (1 : Int32) = 0 by decide)]
theorem pm_t9_r {r a b : Int32} (h : ¬ r = 0) : pm_t9 r a b = pm_t9 1 a b := by unfold pm_t9; rw [if_neg h, if_neg (show ¬ (1 : Int32) = 0 by decide)]
theorem pm_tt_r {r a : Int32} (h : ¬ r = 0) : pm_tt r a = pm_tt 1 a := by unfold pm_tt; rw [if_neg h, if_neg (show ¬ (1 : Int32) = 0 by decide)]
theorem pm_t0_r {r : Int32} (h : ¬ r = 0) : pm_t0 r = pm_t0 1 := by unfold pm_t0; rw [if_neg h, if_neg (show ¬ (1 : Int32) = 0 by decide)]
theorem tt_age (a0 a1 a2 a3 a4 : Int32) : tt (px_or (px_place a0 0 5) (px_or (px_num a1 0 100000) (px_or (px_num a2 0 10000) (px_or (px_num a3 0 1000) (px_num a4 0 1000))))) (pm_t2 (pm_in a0 0 5) (pm_g4 (pm_in a1 0 100000) (pm_in a2 0 10000) (pm_in a3 0 1000) (pm_in a4 0 1000))) (pl_c2 "java/lang/IndexOutOfBoundsException") := by
  rcases pp_place a0 0 5 with ⟨h0, g0⟩ | ⟨h0, g0⟩ <;>
  rcases pp_num a1 0 100000 with ⟨h1, g1⟩ | ⟨h1, g1⟩ <;>
  rcases pp_num a2 0 10000 with ⟨h2, g2⟩ | ⟨h2, g2⟩ <;>
  rcases pp_num a3 0 1000 with ⟨h3, g3⟩ | ⟨h3, g3⟩ <;>
  rcases pp_num a4 0 1000 with ⟨h4, g4⟩ | ⟨h4, g4⟩ <;>
  rw [h0, g0, h1, g1, h2, g2, h3, g3, h4, g4] <;>
  first | exact Or.inl ⟨rfl, rfl⟩ | exact Or.inr ⟨_, rfl, by decide, by decide, by decide⟩
theorem tt_young (a0 : Int32) : tt (px_num a0 0 100000) (pm_t1 (pm_in a0 0 100000)) (pl_c1) := by
  rcases pp_num a0 0 100000 with ⟨h0, g0⟩ | ⟨h0, g0⟩ <;>
  rw [h0, g0] <;>
  first | exact Or.inl ⟨rfl, rfl⟩ | exact Or.inr ⟨_, rfl, by decide, by decide, by decide⟩
theorem tt_change (a0 : Int32) : tt (px_num a0 0 1000) (pm_t1 (pm_in a0 0 1000)) (pl_c1) := by
  rcases pp_num a0 0 1000 with ⟨h0, g0⟩ | ⟨h0, g0⟩ <;>
  rw [h0, g0] <;>
  first | exact Or.inl ⟨rfl, rfl⟩ | exact Or.inr ⟨_, rfl, by decide, by decide, by decide⟩
theorem tt_error (a0 a1 : Int32) : tt (px_or (px_num a0 0 50) (px_num a1 0 3)) (pm_te (pm_in a0 0 50) (pm_in a1 0 3)) (pl_c1) := by
  rcases pp_num a0 0 50 with ⟨h0, g0⟩ | ⟨h0, g0⟩ <;>
  rcases pp_num a1 0 3 with ⟨h1, g1⟩ | ⟨h1, g1⟩ <;>
  rw [h0, g0, h1, g1] <;>
  first | exact Or.inl ⟨rfl, rfl⟩ | exact Or.inr ⟨_, rfl, by decide, by decide, by decide⟩
theorem qn_max (a : Int32) : a ≤ 2147483647 := Int32.le_iff_toInt_le.mpr (by have := a.toInt_le; have e : (2147483647 : Int32).toInt = 2147483647 := rfl; omega)
theorem tt_mark (a0 : Int32) : tt (px_num a0 0 2147483647) (pm_neg a0) pl_c1 := by
  unfold px_num pm_neg
  by_cases h : a0 < 0
  · rw [if_pos h, if_neg (Int32.not_le.mpr h)]
    exact Or.inr ⟨_, rfl, by decide, by decide, by decide⟩
  · rw [if_neg h, if_pos (qn_max a0), if_pos (Int32.not_lt.mp h)]
    exact Or.inl ⟨rfl, rfl⟩
theorem tt_told (rn sd yr : Nat) (hrn : rn < 2 ^ 31) (a0 a1 a2 : Int32) : tt (px_or (px_run (nI rn)) (px_or (px_place a0 0 (nI sd - 1)) (px_or (px_place a1 1 (nI yr)) (px_place a2 0 3)))) (pm_t4 (nI rn) (pm_t1 (pm_in a0 0 (nI sd - 1))) (pm_t1 (pm_in a1 1 (nI yr))) (pm_in a2 0 3)) (pl_c2 "java/lang/IllegalStateException") := by
  rcases Nat.eq_zero_or_pos rn with z | z
  · rw [z]; exact Or.inr ⟨"java/lang/IllegalStateException", rfl, by first | rfl | decide, by first | decide | (intro q; cases q), by first | decide | (intro q; cases q)⟩
  · have hr : ¬ nI rn = 0 := nI_ne0 z hrn
    rw [show px_run (nI rn) = none from if_neg hr, pm_t4_r hr]
    rcases pp_place a0 0 (nI sd - 1) with ⟨h0, g0⟩ | ⟨h0, g0⟩ <;>
    rcases pp_place a1 1 (nI yr) with ⟨h1, g1⟩ | ⟨h1, g1⟩ <;>
    rcases pp_place a2 0 3 with ⟨h2, g2⟩ | ⟨h2, g2⟩ <;>
    rw [h0, g0, h1, g1, h2, g2] <;>
    first | exact Or.inl ⟨rfl, rfl⟩ | exact Or.inr ⟨_, rfl, by decide, by decide, by decide⟩
theorem tt_below (rn sd yr : Nat) (hrn : rn < 2 ^ 31) (a0 a1 : Int32) : tt (px_or (px_run (nI rn)) (px_or (px_place a0 1 (nI yr)) (px_place a1 0 1))) (pm_t5 (nI rn) (pm_t1 (pm_in a0 1 (nI yr))) (pm_in a1 0 1)) (pl_c2 "java/lang/IllegalStateException") := by
  rcases Nat.eq_zero_or_pos rn with z | z
  · rw [z]; exact Or.inr ⟨"java/lang/IllegalStateException", rfl, by first | rfl | decide, by first | decide | (intro q; cases q), by first | decide | (intro q; cases q)⟩
  · have hr : ¬ nI rn = 0 := nI_ne0 z hrn
    rw [show px_run (nI rn) = none from if_neg hr, pm_t5_r hr]
    rcases pp_place a0 1 (nI yr) with ⟨h0, g0⟩ | ⟨h0, g0⟩ <;>
    rcases pp_place a1 0 1 with ⟨h1, g1⟩ | ⟨h1, g1⟩ <;>
    rw [h0, g0, h1, g1] <;>
    first | exact Or.inl ⟨rfl, rfl⟩ | exact Or.inr ⟨_, rfl, by decide, by decide, by decide⟩
theorem tt_steady (rn sd yr : Nat) (hrn : rn < 2 ^ 31) (a0 : Int32) : tt (px_or (px_run (nI rn)) (px_place a0 0 (nI sd - 1))) (pm_r1 (nI rn) (pm_t1 (pm_in a0 0 (nI sd - 1)))) (pl_c2 "java/lang/IllegalStateException") := by
  rcases Nat.eq_zero_or_pos rn with z | z
  · rw [z]; exact Or.inr ⟨"java/lang/IllegalStateException", rfl, by first | rfl | decide, by first | decide | (intro q; cases q), by first | decide | (intro q; cases q)⟩
  · have hr : ¬ nI rn = 0 := nI_ne0 z hrn
    rw [show px_run (nI rn) = none from if_neg hr, pm_r1_r hr]
    rcases pp_place a0 0 (nI sd - 1) with ⟨h0, g0⟩ | ⟨h0, g0⟩ <;>
    rw [h0, g0] <;>
    first | exact Or.inl ⟨rfl, rfl⟩ | exact Or.inr ⟨_, rfl, by decide, by decide, by decide⟩
theorem tt_recovers (rn sd yr : Nat) (hrn : rn < 2 ^ 31) (a0 a1 : Int32) : tt (px_or (px_run (nI rn)) (px_or (px_place a0 0 (nI sd - 1)) (px_num a1 1 20))) (pm_t7 (nI rn) (pm_t1 (pm_in a0 0 (nI sd - 1))) (pm_in a1 1 20)) (pl_c3 "java/lang/IllegalStateException" "java/lang/IndexOutOfBoundsException") := by
  rcases Nat.eq_zero_or_pos rn with z | z
  · rw [z]; exact Or.inr ⟨"java/lang/IllegalStateException", rfl, by first | rfl | decide, by first | decide | (intro q; cases q), by first | decide | (intro q; cases q)⟩
  · have hr : ¬ nI rn = 0 := nI_ne0 z hrn
    rw [show px_run (nI rn) = none from if_neg hr, pm_t7_r hr]
    rcases pp_place a0 0 (nI sd - 1) with ⟨h0, g0⟩ | ⟨h0, g0⟩ <;>
    rcases pp_num a1 1 20 with ⟨h1, g1⟩ | ⟨h1, g1⟩ <;>
    rw [h0, g0, h1, g1] <;>
    first | exact Or.inl ⟨rfl, rfl⟩ | exact Or.inr ⟨_, rfl, by decide, by decide, by decide⟩
theorem tt_rank (rn sd yr : Nat) (hrn : rn < 2 ^ 31) (a0 a1 : Int32) : tt (px_or (px_run (nI rn)) (px_or (px_place a0 1 (nI yr)) (px_place a1 0 (nI sd - 1)))) (pm_t8 (nI rn) (pm_t1 (pm_in a0 1 (nI yr))) (pm_t1 (pm_in a1 0 (nI sd - 1)))) (pl_c2 "java/lang/IllegalStateException") := by
  rcases Nat.eq_zero_or_pos rn with z | z
  · rw [z]; exact Or.inr ⟨"java/lang/IllegalStateException", rfl, by first | rfl | decide, by first | decide | (intro q; cases q), by first | decide | (intro q; cases q)⟩
  · have hr : ¬ nI rn = 0 := nI_ne0 z hrn
    rw [show px_run (nI rn) = none from if_neg hr, pm_t8_r hr]
    rcases pp_place a0 1 (nI yr) with ⟨h0, g0⟩ | ⟨h0, g0⟩ <;>
    rcases pp_place a1 0 (nI sd - 1) with ⟨h1, g1⟩ | ⟨h1, g1⟩ <;>
    rw [h0, g0, h1, g1] <;>
    first | exact Or.inl ⟨rfl, rfl⟩ | exact Or.inr ⟨_, rfl, by decide, by decide, by decide⟩
theorem tt_mean (rn sd yr : Nat) (hrn : rn < 2 ^ 31) (a0 a1 : Int32) : tt (px_or (px_run (nI rn)) (px_or (px_place a0 0 1) (px_place a1 0 1))) (pm_t9 (nI rn) (pm_in a0 0 1) (pm_in a1 0 1)) (pl_c2 "java/lang/IllegalStateException") := by
  rcases Nat.eq_zero_or_pos rn with z | z
  · rw [z]; exact Or.inr ⟨"java/lang/IllegalStateException", rfl, by first | rfl | decide, by first | decide | (intro q; cases q), by first | decide | (intro q; cases q)⟩
  · have hr : ¬ nI rn = 0 := nI_ne0 z hrn
    rw [show px_run (nI rn) = none from if_neg hr, pm_t9_r hr]
    rcases pp_place a0 0 1 with ⟨h0, g0⟩ | ⟨h0, g0⟩ <;>
    rcases pp_place a1 0 1 with ⟨h1, g1⟩ | ⟨h1, g1⟩ <;>
    rw [h0, g0, h1, g1] <;>
    first | exact Or.inl ⟨rfl, rfl⟩ | exact Or.inr ⟨_, rfl, by decide, by decide, by decide⟩
theorem tt_table (rn sd yr : Nat) (hrn : rn < 2 ^ 31) (a0 : Int32) : tt (px_or (px_run (nI rn)) (px_place a0 0 18)) (pm_tt (nI rn) (pm_in a0 0 18)) (pl_c2 "java/lang/IllegalStateException") := by
  rcases Nat.eq_zero_or_pos rn with z | z
  · rw [z]; exact Or.inr ⟨"java/lang/IllegalStateException", rfl, by first | rfl | decide, by first | decide | (intro q; cases q), by first | decide | (intro q; cases q)⟩
  · have hr : ¬ nI rn = 0 := nI_ne0 z hrn
    rw [show px_run (nI rn) = none from if_neg hr, pm_tt_r hr]
    rcases pp_place a0 0 18 with ⟨h0, g0⟩ | ⟨h0, g0⟩ <;>
    rw [h0, g0] <;>
    first | exact Or.inl ⟨rfl, rfl⟩ | exact Or.inr ⟨_, rfl, by decide, by decide, by decide⟩
theorem tt_top (rn sd yr : Nat) (hrn : rn < 2 ^ 31) : tt (px_run (nI rn)) (pm_t0 (nI rn)) (pl_c1) := by
  rcases Nat.eq_zero_or_pos rn with z | z
  · rw [z]; exact Or.inr ⟨"java/lang/IllegalStateException", rfl, by first | rfl | decide, by first | decide | (intro q; cases q), by first | decide | (intro q; cases q)⟩
  · have hr : ¬ nI rn = 0 := nI_ne0 z hrn
    rw [show px_run (nI rn) = none from if_neg hr, pm_t0_r hr]
    first | exact Or.inl ⟨rfl, rfl⟩ | exact Or.inr ⟨_, rfl, by decide, by decide, by decide⟩
theorem tt_run_ (a0 b a1 a2 : Int32) : tt (px_or (px_place a0 0 b) (px_or (px_num a1 1 20) (px_num a2 1 16))) (pm_tr (pm_in a0 0 b) (pm_in a1 1 20) (pm_in a2 1 16)) (pl_c2 "java/lang/IndexOutOfBoundsException") := by
  rcases pp_place a0 0 b with ⟨h0, g0⟩ | ⟨h0, g0⟩ <;>
  rcases pp_num a1 1 20 with ⟨h1, g1⟩ | ⟨h1, g1⟩ <;>
  rcases pp_num a2 1 16 with ⟨h2, g2⟩ | ⟨h2, g2⟩ <;>
  rw [h0, g0, h1, g1, h2, g2] <;>
  first | exact Or.inl ⟨rfl, rfl⟩ | exact Or.inr ⟨_, rfl, by decide, by decide, by decide⟩
theorem pm_gr_0 {a0 a1 c : Int32} (h : px_num a1 0 2000000000 = some "java/lang/IllegalArgumentException" ∨ px_num a0 0 a1 = some "java/lang/IllegalArgumentException") : pm_gr (pm_in a0 0 2000000000) (pm_in a1 0 2000000000) a0 a1 c = 0 := by
  unfold pm_gr
  by_cases e0 : pm_in a0 0 2000000000 = 0
  · rw [if_pos e0]
  · rw [if_neg e0]
    by_cases e1 : pm_in a1 0 2000000000 = 0
    · rw [if_pos e1]
    · rw [if_neg e1]
      rcases h with h | h
      · rcases pp_num a1 0 2000000000 with ⟨h1, -⟩ | ⟨-, g1⟩
        · rw [h1] at h; cases h
        · exact absurd g1 e1
      · have : a1 < a0 := by
          unfold px_num at h
          split at h
          · next q => exact absurd (show pm_in a0 0 2000000000 = 0 from if_pos q) e0
          · split at h
            · cases h
            · next q => exact Int32.not_le.mp q
        rw [if_pos this]
theorem pm_gr_1 {a0 a1 c : Int32} (h1 : px_num a1 0 2000000000 = none) (h0 : px_num a0 0 a1 = none) : pm_gr (pm_in a0 0 2000000000) (pm_in a1 0 2000000000) a0 a1 c = if c = 0 then 0 else 1 := by
  have q1 := px_num_none h1
  have q0 := px_num_none h0
  have e1 : pm_in a1 0 2000000000 = 1 := by
    rcases pp_num a1 0 2000000000 with ⟨-, g⟩ | ⟨g, -⟩
    · exact g
    · rw [h1] at g; cases g
  have e0 : pm_in a0 0 2000000000 = 1 := by
    unfold pm_in
    rw [if_neg q0.1, if_neg (Int32.not_lt.mpr (Int32.le_trans q0.2 q1.2))]
  unfold pm_gr
  rw [e0, e1, if_neg (by decide), if_neg (by decide), if_neg (Int32.not_lt.mpr q0.2)]
theorem tt_rule (a0 a1 a2 : Int32) (ru : Nat) (hru : ru ≤ 6) : tt (px_or (px_num a1 0 2000000000) (px_or (px_num a0 0 a1) (px_or (px_num a2 0 900) (px_room (nI ru))))) (pm_t3 (pm_gr (pm_in a0 0 2000000000) (pm_in a1 0 2000000000) a0 a1 (pm_in a2 0 900)) (nI ru)) (pl_c2 "java/lang/IllegalArgumentException") := by
  rcases pp_num a1 0 2000000000 with ⟨h1, -⟩ | ⟨h1, -⟩
  · rcases pp_num a0 0 a1 with ⟨h0, -⟩ | ⟨h0, -⟩
    · rw [pm_gr_1 h1 h0, h1, h0]
      rcases pp_num a2 0 900 with ⟨h2, g2⟩ | ⟨h2, g2⟩
      · rw [h2, g2]
        rcases Nat.lt_or_ge ru 6 with z | z
        · have e : ¬ nI ru = 6 := fun q => by
            have := (nI_eq (b := 6) (by omega) (by decide)).mp q
            omega
          rw [show px_room (nI ru) = none from if_pos (nI_lt (b := 6) z (by decide))]
          unfold pm_t3
          rw [if_neg (show ¬ (1 : Int32) = 0 by decide), if_neg (show ¬ (1 : Int32) = 0 by decide), if_neg e]
          exact Or.inl ⟨rfl, rfl⟩
        · have e : ru = 6 := by omega
          rw [e]
          exact Or.inr ⟨_, rfl, by decide, by decide, by decide⟩
      · rw [h2, g2]
        unfold pm_t3
        rw [if_pos rfl, if_pos rfl]
        exact Or.inr ⟨_, rfl, by decide, by decide, by decide⟩
    · rw [pm_gr_0 (Or.inr h0), h1, h0]
      unfold pm_t3
      rw [if_pos rfl]
      exact Or.inr ⟨_, rfl, by decide, by decide, by decide⟩
  · rw [pm_gr_0 (Or.inl h1), h1]
    unfold pm_t3
    rw [if_pos rfl]
    exact Or.inr ⟨_, rfl, by decide, by decide, by decide⟩
theorem tst_out {nl wl rl dil lol hil : Nat → Int64} {rr sp dl : Nat} {yg ch : Int32} {yr sd : Nat} {S : Nat → Nat → Int64} {w i : Nat} (hw : w < 4) (hi : i ≤ 336) : ∀ k, pm_tst nl wl rl dil lol hil rr sp dl yg ch yr sd S k (w + 1) i = S (w + 1) i
  | 0 => rfl
  | k + 1 => (go_out hw hi sd).trans (tst_out hw hi k)
theorem bd_rate {k : Nat} (hk : k ≤ 18) : bd ((50 : Int32) * nI k).toInt64 900 := by
  rw [show (50 : Int32) = nI 50 from rfl, pk_mul]
  exact bd_nI (by omega) (by decide)
theorem tp_eq {v : Nat → Int64} {w : Nat → Int64} (h : ∀ k, k ≤ 18 → v k = w k) (h0 : ¬ w 0 ≤ -1) : ∀ j, j ≤ 18 → pf_tp v j = pm_tq w (j + 1)
  | 0, _ => by
    rw [pm_tq_n (k := 0) h0, ← h 0 (by decide)]
    rfl
  | j + 1, hj => by
    have ih := tp_eq h h0 j (by omega)
    by_cases q : (pf_tp v j).2 < v (j + 1)
    · rw [pf_tp_y q, pm_tq_n (k := j + 1) (by rw [← ih, ← h (j + 1) hj]; exact Int64.not_le.mpr q), ← h (j + 1) hj]
    · rw [pf_tp_n q, pm_tq_y (k := j + 1) (by rw [← ih, ← h (j + 1) hj]; exact Int64.not_lt.mp q), ih]
theorem bd_nn {x : Int64} {n : Nat} (h : bd x n) (hn : n < 2 ^ 63) : ¬ x ≤ -1 := by
  obtain ⟨k, rfl, hk⟩ := h
  intro q
  have := Int64.le_iff_toInt_le.mp q
  rw [pk_lT (by omega)] at this
  have e : (-1 : Int64).toInt = -1 := by decide
  omega
theorem top_eq {nu wt rp di lo hi : Nat → Int32} {rr sp dl : Nat} {yg ch : Int32} {yr sd : Nat} {lv : Nat → Int64} {M S : Nat → Nat → Int64} (hn : ∀ k, bd (nu k).toInt64 100000) (hw : ∀ k, bd (wt k).toInt64 10000) (hp : ∀ k, bd (rp k).toInt64 1000) (hd : ∀ k, bd (di k).toInt64 1000) (hl : bd (lo rr).toInt64 (2 ^ 31)) (hh : bd (hi rr).toInt64 (2 ^ 31)) (hsp : sp ≤ 50) (hdl : dl ≤ 3) (hy : bd yg.toInt64 100000) (hc : bd ch.toInt64 1000) (hyr : yr ≤ 20) (hsd : sd ≤ 16) :
    (pf_tp (pf_tv nu wt rp di (lo rr).toInt64 (hi rr).toInt64 sp dl yg ch yr sd lv M) 18).1 = (pm_tq (pm_tv (pl_L nu) (pl_L wt) (pl_L rp) (pl_L di) (pl_L lo) (pl_L hi) rr sp dl yg ch yr sd S) 19).1 := by
  have key : ∀ k, k ≤ 18 → pf_tv nu wt rp di (lo rr).toInt64 (hi rr).toInt64 sp dl yg ch yr sd lv M k = pm_tv (pl_L nu) (pl_L wt) (pl_L rp) (pl_L di) (pl_L lo) (pl_L hi) rr sp dl yg ch yr sd S k ∧ bd (pm_tv (pl_L nu) (pl_L wt) (pl_L rp) (pl_L di) (pl_L lo) (pl_L hi) rr sp dl yg ch yr sd S k) (TB * 20 * 16) := by
    intro k hk
    have A := all_ok (nu := nu) (wt := wt) (rp := rp) (di := di) (lol := pl_L lo) (hil := pl_L hi) (rx := rr) (rt := 50 * nI k) (sp := sp) (dl := dl) (yg := yg) (ch := ch) (ba := 336) (yr := yr) (lv := (pf_tst nu wt rp di (lo rr).toInt64 (hi rr).toInt64 sp dl yg ch yr sd lv M k).1) (M := (pf_tst nu wt rp di (lo rr).toInt64 (hi rr).toInt64 sp dl yg ch yr sd lv M k).2) (S := pm_tst (pl_L nu) (pl_L wt) (pl_L rp) (pl_L di) (pl_L lo) (pl_L hi) rr sp dl yg ch yr sd S k) ⟨hw, hp, hd, hl, hh, bd_rate hk, hsp, hdl, hy, hc⟩ hn hyr sd
    exact ⟨sumA_eq A sd (Nat.le_refl _), bd_mono (sumA_bd A sd (Nat.le_refl _)) (Nat.mul_le_mul (Nat.mul_le_mul_left TB hyr) hsd)⟩
  rw [tp_eq (fun k hk => (key k hk).1) (bd_nn (key 0 (by decide)).2 (by decide)) 18 (Nat.le_refl _)]
end QE7
