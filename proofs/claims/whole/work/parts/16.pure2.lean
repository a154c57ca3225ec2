section QP2
theorem px_place_none {a f t : Int32} (h : px_place a f t = none) : ¬ a < f ∧ a ≤ t := by
  unfold px_place at h
  split at h
  · cases h
  · split at h
    · exact ⟨by assumption, by assumption⟩
    · cases h
theorem px_num_none {a f t : Int32} (h : px_num a f t = none) : ¬ a < f ∧ a ≤ t := by
  unfold px_num at h
  split at h
  · cases h
  · split at h
    · exact ⟨by assumption, by assumption⟩
    · cases h
theorem qn_between {a : Int32} {f t : Nat} (ht : t < 2 ^ 31) (hf : f < 2 ^ 31) (h1 : ¬ a < nI f) (h2 : a ≤ nI t) : a = nI a.toNatClampNeg ∧ f ≤ a.toNatClampNeg ∧ a.toNatClampNeg ≤ t := by
  have h0 : ¬ a < 0 := fun q => h1 (by
    have q1 := Int32.lt_iff_toInt_lt.mp q
    apply Int32.lt_iff_toInt_lt.mpr
    rw [nI_toInt hf]
    have : (0 : Int32).toInt = 0 := rfl
    omega)
  obtain ⟨k, hk, rfl⟩ := nI_of h0
  rw [nI_clamp hk]
  refine ⟨rfl, ?_, (nI_leI hk ht).mp h2⟩
  have : ¬ k < f := fun q => h1 ((nI_ltI hk hf).mpr q)
  omega
theorem qn_pl {a : Int32} {f t : Nat} (h : px_place a (nI f) (nI t) = none) (ht : t < 2 ^ 31) (hf : f < 2 ^ 31) : a = nI a.toNatClampNeg ∧ f ≤ a.toNatClampNeg ∧ a.toNatClampNeg ≤ t :=
  qn_between ht hf (px_place_none h).1 (px_place_none h).2
theorem qn_nu {a : Int32} {f t : Nat} (h : px_num a (nI f) (nI t) = none) (ht : t < 2 ^ 31) (hf : f < 2 ^ 31) : a = nI a.toNatClampNeg ∧ f ≤ a.toNatClampNeg ∧ a.toNatClampNeg ≤ t :=
  qn_between ht hf (px_num_none h).1 (px_num_none h).2
theorem qn_plm {a : Int32} {n : Nat} (h : px_place a 0 (nI n - 1) = none) (hn : n < 2 ^ 31) : a = nI a.toNatClampNeg ∧ a.toNatClampNeg < n := by
  rcases Nat.eq_zero_or_pos n with z | z
  · subst z
    have h1 := (px_place_none h).1
    have h2 := (px_place_none h).2
    exfalso
    have q2 := Int32.le_iff_toInt_le.mp h2
    have e : (nI 0 - 1).toInt = -1 := by decide
    apply h1
    apply Int32.lt_iff_toInt_lt.mpr
    have : (0 : Int32).toInt = 0 := rfl
    omega
  · rw [qn_sub1 z] at h
    obtain ⟨h1, -, h3⟩ := qn_pl (f := 0) h (by omega) (by decide)
    exact ⟨h1, by omega⟩
theorem qn_run {n : Nat} {P : Prop} (h : px_run (nI n) = none) (hn : n < 2 ^ 31) (hp : n = 0 ∨ P) : P := by
  rcases hp with z | z
  · subst z
    exact absurd h (by decide)
  · exact z
def pf_blw (R : Nat → Int64) (mk : Int32) (y : Nat) : Nat → Int32
  | 0 => 0
  | j + 1 => if pf_bm R mk (pf_ix j y) = 0 then pf_blw R mk y j else pf_blw R mk y j + 1
def pf_std (R : Nat → Int64) (se : Nat) : Nat → Int64
  | 0 => 0
  | k + 1 => pf_std R se k + pf_abs (R (pf_ix se (k + 2)) - R (pf_ix se (k + 2 - 1)))
/-- how many years end with year k + 1 without one below the mark -/
def pf_gc (R : Nat → Int64) (mk : Int32) (se : Nat) : Nat → Nat
  | 0 => 0
  | k + 1 => if pf_bm R mk (pf_ix se (k + 1)) = 0 then pf_gc R mk se k + 1 else 0
theorem pf_gc_le (R : Nat → Int64) (mk : Int32) (se : Nat) : ∀ k, pf_gc R mk se k ≤ k
  | 0 => Nat.le_refl 0
  | k + 1 => by
    unfold pf_gc
    have := pf_gc_le R mk se k
    split <;> omega
def pf_rc (R : Nat → Int64) (mk : Int32) (se sn : Nat) : Nat → Int32
  | 0 => -1
  | k + 1 => if pf_rc R mk se sn k = -1 then (if pf_gc R mk se (k + 1) = sn then nI (k + 1 - sn + 1) else -1) else pf_rc R mk se sn k
theorem qn_m1 {n : Nat} (h : n < 2 ^ 31) : ¬ nI n = -1 := fun q => by
  have e := congrArg Int32.toInt q
  rw [nI_toInt h] at e
  have : (-1 : Int32).toInt = -1 := by decide
  omega
theorem pf_rc_up {R : Nat → Int64} {mk : Int32} {se sn : Nat} : ∀ {k n : Nat}, k ≤ n → ¬ pf_rc R mk se sn k = -1 → pf_rc R mk se sn n = pf_rc R mk se sn k
  | k, 0, h, q => by
    have e : k = 0 := by omega
    rw [e]
  | k, n + 1, h, q => by
    rcases Nat.lt_or_ge k (n + 1) with z | z
    · have ih := pf_rc_up (k := k) (n := n) (by omega) q
      show (if pf_rc R mk se sn n = -1 then _ else pf_rc R mk se sn n) = _
      rw [if_neg (by rw [ih]; exact q), ih]
    · have e : k = n + 1 := by omega
      rw [e]
theorem pf_rc_new {R : Nat → Int64} {mk : Int32} {se sn k : Nat} (h0 : pf_rc R mk se sn k = -1) (h : pf_gc R mk se (k + 1) = sn) : pf_rc R mk se sn (k + 1) = nI (k + 1 - sn + 1) := by
  show (if pf_rc R mk se sn k = -1 then (if pf_gc R mk se (k + 1) = sn then _ else _) else _) = _
  rw [if_pos h0, if_pos h]
theorem pf_rc_old {R : Nat → Int64} {mk : Int32} {se sn k : Nat} (h0 : pf_rc R mk se sn k = -1) (h : ¬ pf_gc R mk se (k + 1) = sn) : pf_rc R mk se sn (k + 1) = -1 := by
  show (if pf_rc R mk se sn k = -1 then (if pf_gc R mk se (k + 1) = sn then _ else _) else _) = _
  rw [if_pos h0, if_neg h]
theorem pf_rc_at {R : Nat → Int64} {mk : Int32} {se sn k yr : Nat} (hk : k < yr) (hy : yr ≤ 20) (h0 : pf_rc R mk se sn k = -1) (h : pf_gc R mk se (k + 1) = sn) : nI (k + 1 - sn + 1) = pf_rc R mk se sn yr := by
  have e := pf_rc_new h0 h
  rw [pf_rc_up (k := k + 1) hk (by rw [e]; exact qn_m1 (by omega)), e]
def pf_srt (R : Nat → Int64) (y : Nat) (od : Nat → Int64) : Nat → (Nat → Int64)
  | 0 => od
  | j + 1 => pf_ins (R (pf_ix j y)) j (pf_srt R y od j)
def pf_mean (M : Nat → Nat → Int64) (yr sd : Nat) (what pt : Int32) : Int64 := if what = 0 then pf_part (pf_sumA (M 1) 1 yr sd) (nI sd * nI yr).toInt64 pt else pf_part (pf_sumA (M 0) yr yr sd) (nI sd).toInt64 pt
def pf_count (w : Int32) (ru yr sd rn : Nat) : Int32 := if w = 0 then nI ru else if w = 1 then nI yr else if w = 2 then nI sd else if w = 3 then nI rn else -1
/-- the trial's fish and rows behind k rates -/
def pf_tst (nu wt rp di : Nat → Int32) (lo hi : Int64) (sp dl : Nat) (yg ch : Int32) (yr sd : Nat) (lv : Nat → Int64) (M : Nat → Nat → Int64) : Nat → (Nat → Int64) × (Nat → Nat → Int64)
  | 0 => (lv, M)
  | k + 1 => pf_all nu wt rp di lo hi (50 * nI k) sp dl yg ch yr (pf_tst nu wt rp di lo hi sp dl yg ch yr sd lv M k).1 (pf_tst nu wt rp di lo hi sp dl yg ch yr sd lv M k).2 sd
def pf_tv (nu wt rp di : Nat → Int32) (lo hi : Int64) (sp dl : Nat) (yg ch : Int32) (yr sd : Nat) (lv : Nat → Int64) (M : Nat → Nat → Int64) (k : Nat) : Int64 := pf_sumA ((pf_tst nu wt rp di lo hi sp dl yg ch yr sd lv M (k + 1)).2 1) 1 yr sd
def pf_tp (v : Nat → Int64) : Nat → Int32 × Int64
  | 0 => (0, v 0)
  | j + 1 => if (pf_tp v j).2 < v (j + 1) then (nI (j + 1), v (j + 1)) else pf_tp v j
theorem pf_tp_y {v : Nat → Int64} {j : Nat} (h : (pf_tp v j).2 < v (j + 1)) : pf_tp v (j + 1) = (nI (j + 1), v (j + 1)) := if_pos h
theorem pf_tp_n {v : Nat → Int64} {j : Nat} (h : ¬ (pf_tp v j).2 < v (j + 1)) : pf_tp v (j + 1) = pf_tp v j := if_neg h
theorem qn_lt {a b : Nat} (h : nI a < nI b) (hb : a < 2 ^ 31 ∧ b < 2 ^ 31) : a < b := (nI_ltI hb.1 hb.2).mp h
end QP2
