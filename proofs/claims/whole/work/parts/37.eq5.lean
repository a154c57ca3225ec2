section QE5
theorem gcd_fuel : ∀ (j a b n : Nat), b < 2 ^ j → 2 * j + 1 ≤ n → a < 2 ^ 63 → b < 2 ^ 63 → pf_gcd n (lN a) (lN b) = lN (Nat.gcd a b)
  | 0, a, b, n, hb, hn, ha, hb2 => by
    have e : b = 0 := by omega
    subst e
    obtain ⟨m, rfl⟩ : ∃ m, n = m + 1 := ⟨n - 1, by omega⟩
    rw [Nat.gcd_zero_right]
    rfl
  | j + 1, a, b, n, hb, hn, ha, hb2 => by
    obtain ⟨m, rfl⟩ : ∃ m, n = m + 2 := ⟨n - 2, by omega⟩
    by_cases e : b = 0
    · subst e
      rw [Nat.gcd_zero_right]
      rfl
    · have hb0 : 0 < b := Nat.pos_of_ne_zero e
      show (if lN b = 0 then _ else pf_gcd (m + 1) (lN b) (lN a - lN a / lN b * lN b)) = _
      rw [if_neg (qn_lNn hb0 hb2), pk_lRem ha hb0 hb2]
      have h1 : a % b < b := Nat.mod_lt a hb0
      rw [show Nat.gcd a b = Nat.gcd b (a % b) by rw [Nat.gcd_comm a b, Nat.gcd_rec b a, Nat.gcd_comm]]
      generalize a % b = c at h1
      by_cases e2 : c = 0
      · subst e2
        rw [Nat.gcd_zero_right]
        rfl
      · have hc0 : 0 < c := Nat.pos_of_ne_zero e2
        show (if lN c = 0 then _ else pf_gcd m (lN c) (lN b - lN b / lN c * lN c)) = _
        rw [if_neg (qn_lNn hc0 (by omega)), pk_lRem hb2 hc0 (by omega)]
        have h2 : 2 * (b % c) < b := by
          have q1 := Nat.mod_lt b hc0
          have q2 := Nat.div_add_mod b c
          have q3 : 1 ≤ b / c := Nat.div_pos (by omega) hc0
          have q4 : c ≤ c * (b / c) := Nat.le_mul_of_pos_right c q3
          omega
        rw [show Nat.gcd b c = Nat.gcd c (b % c) by rw [Nat.gcd_comm b c, Nat.gcd_rec c b, Nat.gcd_comm]]
        exact gcd_fuel j c (b % c) m (by rw [Nat.pow_succ] at hb; omega) (by omega) (by omega) (by omega)
theorem part_eq {a b : Nat} (ha : a < 2 ^ 63) (hb0 : 0 < b) (hb : b ≤ 400) (pt : Int32) : pf_part (lN a) (lN b) pt = pm_part a b pt := by
  have g := gcd_fuel 9 a b 200 (by omega) (by decide) ha (by omega)
  have hg : 0 < Nat.gcd a b := Nat.gcd_pos_of_pos_right a hb0
  have hg2 : Nat.gcd a b ≤ b := Nat.gcd_le_right a hb0
  have e : pf_div (lN a) (lN b) = lN (Nat.gcd a b) := by
    unfold pf_div
    rw [g]
    unfold pf_max
    split
    · next h =>
      have := (pk_lLT (b := 1) (by omega) (by decide)).mp h
      omega
    · rfl
  unfold pf_part pm_part
  rw [e]
  by_cases h : pt = 0
  · rw [if_pos h, if_pos h]
  · rw [if_neg h, if_neg h]
/-! the first year from which on -/
theorem bm_lt {R : Nat → Int64} {mk : Int32} {ix : Nat} : pf_bm R mk ix = 0 ↔ ¬ R ix < mk.toInt64 := by
  unfold pf_bm
  by_cases h : mk.toInt64 ≤ R ix
  · rw [if_pos h]
    exact ⟨fun _ => Int64.not_lt.mpr h, fun _ => rfl⟩
  · rw [if_neg h]
    exact ⟨fun q => absurd q (by decide), fun q => absurd (Int64.not_lt.mp q) h⟩
theorem gd_iff {R : Nat → Int64} {mk : Int32} {se y : Nat} : ∀ n, ¬ pm_gd R mk se y n = 0 ↔ ∀ d, d < n → ¬ R (21 * se + (y + d)) < mk.toInt64
  | 0 => ⟨fun _ d hd => by omega, fun _ => by show ¬ (1 : Int32) = 0; decide⟩
  | n + 1 => by
    rw [pm_gd_s]
    have ih := gd_iff (R := R) (mk := mk) (se := se) (y := y) n
    by_cases h : pm_gd R mk se y n = 0
    · rw [if_pos h]
      refine ⟨fun q => absurd rfl q, fun q => ?_⟩
      exact absurd h (ih.mpr (fun d hd => q d (by omega)))
    · rw [if_neg h]
      by_cases h2 : R (21 * se + (y + n)) < mk.toInt64
      · rw [if_pos h2]
        exact ⟨fun q => absurd rfl q, fun q => absurd h2 (q n (by omega))⟩
      · rw [if_neg h2]
        refine ⟨fun _ d hd => ?_, fun _ => by decide⟩
        by_cases e : d = n
        · rw [e]; exact h2
        · exact ih.mp h d (by omega)
theorem gc_iff {R : Nat → Int64} {mk : Int32} {se : Nat} : ∀ k n, n ≤ pf_gc R mk se k ↔ (n ≤ k ∧ ∀ d, d < n → pf_bm R mk (pf_ix se (k - d)) = 0)
  | 0, n => by
    refine ⟨fun h => ⟨h, fun d hd => ?_⟩, fun h => h.1⟩
    have h : n ≤ 0 := h
    omega
  | k + 1, n => by
    have ih := gc_iff (R := R) (mk := mk) (se := se) k
    show n ≤ (if pf_bm R mk (pf_ix se (k + 1)) = 0 then pf_gc R mk se k + 1 else 0) ↔ _
    by_cases h : pf_bm R mk (pf_ix se (k + 1)) = 0
    · rw [if_pos h]
      refine ⟨fun q => ?_, fun q => ?_⟩
      · have q2 := (ih (n - 1)).mp (by omega)
        refine ⟨by omega, fun d hd => ?_⟩
        rcases Nat.eq_zero_or_pos d with z | z
        · subst z; exact h
        · rw [show k + 1 - d = k - (d - 1) by omega]
          exact q2.2 (d - 1) (by omega)
      · have := (ih (n - 1)).mpr ⟨by omega, fun d hd => by
          have := q.2 (d + 1) (by omega)
          rwa [show k + 1 - (d + 1) = k - d by omega] at this⟩
        omega
    · rw [if_neg h]
      refine ⟨fun q => ?_, fun q => ?_⟩
      · refine ⟨by omega, fun d hd => by omega⟩
      · rcases Nat.eq_zero_or_pos n with z | z
        · omega
        · exact absurd (q.2 0 z) h
theorem gc_step (R : Nat → Int64) (mk : Int32) (se k : Nat) : pf_gc R mk se (k + 1) ≤ pf_gc R mk se k + 1 := by
  have e : pf_gc R mk se (k + 1) = if pf_bm R mk (pf_ix se (k + 1)) = 0 then pf_gc R mk se k + 1 else 0 := rfl
  rw [e]
  split
  · exact Nat.le_refl _
  · exact Nat.zero_le _
theorem rc_none {R : Nat → Int64} {mk : Int32} {se sn : Nat} (hs : 1 ≤ sn) : ∀ k, k < 2 ^ 30 → pf_rc R mk se sn k = -1 → pf_gc R mk se k < sn
  | 0, _, _ => hs
  | k + 1, hk, h => by
    have h1 : pf_rc R mk se sn k = -1 := by
      by_cases q : pf_rc R mk se sn k = -1
      · exact q
      · exact absurd h (by rw [pf_rc_up (k := k) (n := k + 1) (by omega) q]; exact q)
    have ih := rc_none hs k (by omega) h1
    have h2 : ¬ pf_gc R mk se (k + 1) = sn := fun q => by
      rw [pf_rc_new h1 q] at h
      exact qn_m1 (by omega) h
    have h3 := gc_step R mk se k
    omega
theorem rc_eq {n yr : Nat} {M S : Nat → Nat → Int64} (h : relA 0 n yr M S) {mk : Int32} {se sn : Nat} (hs : se < n) (h1 : 1 ≤ sn) (hyr : yr ≤ 20) : ∀ k, k ≤ yr → pf_rc (M 0) mk se sn k = pm_sr (pm_F (S 1) mk se sn) (k + 1 - sn)
  | 0, _ => by rw [show 0 + 1 - sn = 0 by omega]; rfl
  | k + 1, hk => by
    have ih := rc_eq h (mk := mk) hs h1 hyr k (by omega)
    by_cases q : k + 1 < sn
    · rw [show k + 1 + 1 - sn = 0 by omega]
      rw [show k + 1 - sn = 0 by omega] at ih
      exact pf_rc_old ih (fun z => by have := pf_gc_le (M 0) mk se (k + 1); omega)
    · obtain ⟨i, hi⟩ : ∃ i, k + 1 - sn = i := ⟨_, rfl⟩
      rw [show k + 1 + 1 - sn = i + 1 by omega]
      rw [hi] at ih
      show (if pf_rc (M 0) mk se sn k = -1 then _ else _) = (if pm_sr (pm_F (S 1) mk se sn) i = -1 then _ else _)
      rw [ih]
      by_cases z : pm_sr (pm_F (S 1) mk se sn) i = -1
      · rw [if_pos z, if_pos z]
        have hlt := rc_none h1 k (by omega) (ih.trans z)
        have key : pf_gc (M 0) mk se (k + 1) = sn ↔ ¬ pm_F (S 1) mk se sn i = 0 := by
          unfold pm_F
          rw [gd_iff]
          have hle := gc_step (M 0) mk se k
          have g := gc_iff (R := M 0) (mk := mk) (se := se) (k + 1) sn
          have conv : (∀ d, d < sn → pf_bm (M 0) mk (pf_ix se (k + 1 - d)) = 0) ↔ ∀ d, d < sn → ¬ S 1 (21 * se + (i + 1 + d)) < mk.toInt64 := by
            refine ⟨fun a d hd => ?_, fun a d hd => ?_⟩
            · have := a (sn - 1 - d) (by omega)
              rw [show k + 1 - (sn - 1 - d) = i + 1 + d by omega, ← bm_eq h hs (by omega) (by omega)] at this
              exact bm_lt.mp this
            · have := a (sn - 1 - d) (by omega)
              rw [← bm_eq h hs (by omega) (by omega), bm_lt]
              rwa [show i + 1 + (sn - 1 - d) = k + 1 - d by omega] at this
          rw [← conv]
          refine ⟨fun a => (g.mp (by omega)).2, fun a => ?_⟩
          have := g.mpr ⟨by omega, a⟩
          omega
        by_cases w : pm_F (S 1) mk se sn i = 0
        · rw [if_pos w, if_neg (fun a => key.mp a w)]
        · rw [if_neg w, if_pos (key.mpr w)]
          rw [hi]
      · rw [if_neg z, if_neg z]
end QE5
