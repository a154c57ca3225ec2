section QE6
/-! places by counting -/
def cn (P : Nat → Nat) : Nat → Nat
  | 0 => 0
  | n + 1 => cn P n + P n
theorem cn_s (P : Nat → Nat) (n : Nat) : cn P (n + 1) = cn P n + P n := rfl
theorem cn_congr {P Q : Nat → Nat} : ∀ n, (∀ i, i < n → P i = Q i) → cn P n = cn Q n
  | 0, _ => rfl
  | n + 1, h => by rw [cn_s, cn_s, cn_congr n (fun i hi => h i (by omega)), h n (by omega)]
theorem cn_top {P : Nat → Nat} (h1 : ∀ i, P i ≤ 1) : ∀ n, cn P n ≤ n
  | 0 => Nat.le_refl 0
  | n + 1 => by
    rw [cn_s]
    have := cn_top h1 n
    have := h1 n
    omega
theorem cn_le {P : Nat → Nat} {k : Nat} (h1 : ∀ i, P i ≤ 1) : ∀ n, (∀ i, k ≤ i → i < n → P i = 0) → cn P n ≤ k
  | 0, _ => Nat.zero_le _
  | n + 1, h => by
    rw [cn_s]
    rcases Nat.lt_or_ge n k with z | z
    · have := cn_top h1 n
      have := h1 n
      omega
    · rw [h n z (by omega)]
      exact cn_le h1 n (fun i h1 h2 => h i h1 (by omega))
def lt_ (f : Nat → Int64) (w : Int64) : Nat → Nat := fun i => if f i < w then 1 else 0
def eq_ (f : Nat → Int64) (w : Int64) : Nat → Nat := fun i => if f i = w then 1 else 0
theorem cn_0 (P : Nat → Nat) : cn P 0 = 0 := rfl
theorem lt_at (f : Nat → Int64) (w : Int64) (i : Nat) : lt_ f w i = if f i < w then 1 else 0 := rfl
theorem eq_at (f : Nat → Int64) (w : Int64) (i : Nat) : eq_ f w i = if f i = w then 1 else 0 := rfl
theorem lt_1 (f : Nat → Int64) (w : Int64) (i : Nat) : lt_ f w i ≤ 1 := by unfold lt_; split <;> decide
theorem cn_upd {f : Nat → Int64} {p : Nat} {x w : Int64} : cn (lt_ (vp_updL f p x) w) p = cn (lt_ f w) p ∧ cn (eq_ (vp_updL f p x) w) p = cn (eq_ f w) p := by
  refine ⟨cn_congr p (fun i hi => ?_), cn_congr p (fun i hi => ?_)⟩
  · unfold lt_; rw [pk_uLn (by omega)]
  · unfold eq_; rw [pk_uLn (by omega)]
theorem ins_out {x : Int64} : ∀ p (f : Nat → Int64) i, p < i → pf_ins x p f i = f i
  | 0, f, i, h => pk_uLn (by omega)
  | p + 1, f, i, h => by
    show (if x < f p then pf_ins x p (vp_updL f (p + 1) (f p)) else vp_updL f (p + 1) x) i = f i
    split
    · rw [ins_out p _ i (by omega), pk_uLn (by omega)]
    · exact pk_uLn (by omega)
theorem ins_cn {x w : Int64} (p : Nat) : ∀ (f : Nat → Int64), cn (lt_ (pf_ins x p f) w) (p + 1) = cn (lt_ f w) p + (if x < w then 1 else 0) ∧ cn (eq_ (pf_ins x p f) w) (p + 1) = cn (eq_ f w) p + (if x = w then 1 else 0) := by
  induction p with
  | zero =>
    intro f
    have e : pf_ins x 0 f 0 = x := pk_uLs
    constructor
    · rw [cn_s, lt_at, e, cn_0, cn_0]
    · rw [cn_s, eq_at, e, cn_0, cn_0]
  | succ p ih0 =>
    intro f
    by_cases h : x < f p
    · have e : pf_ins x (p + 1) f = pf_ins x p (vp_updL f (p + 1) (f p)) := if_pos h
      have ih := ih0 (vp_updL f (p + 1) (f p))
      have e1 : pf_ins x p (vp_updL f (p + 1) (f p)) (p + 1) = f p := by rw [ins_out p _ (p + 1) (by omega), pk_uLs]
      have c1 : cn (lt_ (vp_updL f (p + 1) (f p)) w) p = cn (lt_ f w) p := cn_congr p (fun i hi => by unfold lt_; rw [pk_uLn (by omega)])
      have c2 : cn (eq_ (vp_updL f (p + 1) (f p)) w) p = cn (eq_ f w) p := cn_congr p (fun i hi => by unfold eq_; rw [pk_uLn (by omega)])
      rw [e]
      constructor
      · rw [cn_s, ih.1, c1, cn_s, lt_at, lt_at, e1]
        omega
      · rw [cn_s, ih.2, c2, cn_s, eq_at, eq_at, e1]
        omega
    · have e : pf_ins x (p + 1) f = vp_updL f (p + 1) x := if_neg h
      rw [e]
      constructor
      · rw [cn_s, cn_upd.1, lt_at, pk_uLs]
      · rw [cn_s, cn_upd.2, eq_at, pk_uLs]
def srt (f : Nat → Int64) (n : Nat) : Prop := ∀ i j, i ≤ j → j < n → f i ≤ f j
theorem ins_last {x : Int64} : ∀ p (f : Nat → Int64) (b : Int64), x ≤ b → (∀ i, i < p → f i ≤ b) → ∀ i, i ≤ p → pf_ins x p f i ≤ b
  | 0, f, b, hx, hf, i, hi => by
    have e : i = 0 := by omega
    subst e
    rw [show pf_ins x 0 f 0 = x from pk_uLs]
    exact hx
  | p + 1, f, b, hx, hf, i, hi => by
    show (if x < f p then pf_ins x p (vp_updL f (p + 1) (f p)) else vp_updL f (p + 1) x) i ≤ b
    split
    · by_cases e : i = p + 1
      · rw [e, ins_out p _ (p + 1) (by omega), pk_uLs]
        exact hf p (by omega)
      · exact ins_last p _ b hx (fun j hj => by rw [pk_uLn (by omega)]; exact hf j (by omega)) i (by omega)
    · by_cases e : i = p + 1
      · rw [e, pk_uLs]; exact hx
      · rw [pk_uLn e]; exact hf i (by omega)
theorem ins_srt {x : Int64} : ∀ p (f : Nat → Int64), srt f p → srt (pf_ins x p f) (p + 1)
  | 0, f, _ => fun i j h1 h2 => by
    have e1 : i = 0 := by omega
    have e2 : j = 0 := by omega
    rw [e1, e2]
    exact Int64.le_refl _
  | p + 1, f, h => by
    intro i j h1 h2
    show (if x < f p then pf_ins x p (vp_updL f (p + 1) (f p)) else vp_updL f (p + 1) x) i ≤ (if x < f p then pf_ins x p (vp_updL f (p + 1) (f p)) else vp_updL f (p + 1) x) j
    by_cases hx : x < f p
    · rw [if_pos hx]
      have ih := ins_srt (x := x) p (vp_updL f (p + 1) (f p)) (fun a b q1 q2 => by rw [pk_uLn (by omega), pk_uLn (by omega)]; exact h a b q1 (by omega))
      by_cases e : j = p + 1
      · rw [e, ins_out p _ (p + 1) (by omega), pk_uLs]
        by_cases e3 : i = p + 1
        · rw [e3, ins_out p _ (p + 1) (by omega), pk_uLs]; exact Int64.le_refl _
        · exact ins_last p _ (f p) (Int64.le_of_lt hx) (fun a ha => by rw [pk_uLn (by omega)]; exact h a p (by omega) (by omega)) i (by omega)
      · exact ih i j h1 (by omega)
    · rw [if_neg hx]
      by_cases e : j = p + 1
      · rw [e, pk_uLs]
        by_cases e3 : i = p + 1
        · rw [e3, pk_uLs]; exact Int64.le_refl _
        · rw [pk_uLn e3]
          exact Int64.le_trans (h i p (by omega) (by omega)) (Int64.not_lt.mp hx)
      · rw [pk_uLn e, pk_uLn (by omega)]
        exact h i j h1 (by omega)
theorem srt_all {R : Nat → Int64} {y : Nat} {od : Nat → Int64} {w : Int64} (n : Nat) : srt (pf_srt R y od n) n ∧ cn (lt_ (pf_srt R y od n) w) n = cn (lt_ (fun s => R (pf_ix s y)) w) n ∧ cn (eq_ (pf_srt R y od n) w) n = cn (eq_ (fun s => R (pf_ix s y)) w) n := by
  induction n with
  | zero => exact ⟨fun i j h1 h2 => by omega, by rw [cn_0, cn_0], by rw [cn_0, cn_0]⟩
  | succ n ih =>
    obtain ⟨a1, a2, a3⟩ := ih
    have c := ins_cn (x := R (pf_ix n y)) (w := w) n (pf_srt R y od n)
    refine ⟨ins_srt n _ a1, ?_, ?_⟩
    · show cn (lt_ (pf_ins (R (pf_ix n y)) n (pf_srt R y od n)) w) (n + 1) = _
      rw [c.1, a2, cn_s, lt_at]
    · show cn (eq_ (pf_ins (R (pf_ix n y)) n (pf_srt R y od n)) w) (n + 1) = _
      rw [c.2, a3, cn_s, eq_at]
theorem cn_or {f : Nat → Int64} {w : Int64} {k : Nat} : ∀ n, k ≤ n → (∀ i, i < k → f i ≤ w) → k ≤ cn (lt_ f w) n + cn (eq_ f w) n
  | 0, hk, _ => by omega
  | n + 1, hk, h => by
    rw [cn_s, cn_s]
    rcases Nat.lt_or_ge n k with z | z
    · have := cn_or (f := f) (w := w) (k := n) n (Nat.le_refl n) (fun i hi => h i (by omega))
      have q := h n z
      by_cases e : f n = w
      · have : eq_ f w n = 1 := if_pos e
        omega
      · have l : f n < w := by
          rcases Int64.lt_or_eq_of_le q with r | r
          · exact r
          · exact absurd r e
        have : lt_ f w n = 1 := if_pos l
        omega
    · have := cn_or (f := f) (w := w) (k := k) n z h
      omega
/-- the k-th that is w -/
theorem nth_eq {v : Nat → Int64} {w : Int64} : ∀ n k, k < cn (eq_ v w) n → ∃ s, s < n ∧ v s = w ∧ cn (eq_ v w) s = k
  | 0, k, h => absurd h (Nat.not_lt_zero _)
  | n + 1, k, h => by
    rw [cn_s] at h
    by_cases q : k < cn (eq_ v w) n
    · obtain ⟨s, h1, h2, h3⟩ := nth_eq n k q
      exact ⟨s, by omega, h2, h3⟩
    · by_cases e : v n = w
      · have e1 : eq_ v w n = 1 := if_pos e
        exact ⟨n, by omega, e, by omega⟩
      · have e1 : eq_ v w n = 0 := if_neg e
        omega
theorem lN_dlt {a b : Nat} (ha : a ≤ TB) (hb : b ≤ TB) : (lN a - lN b < 0 ↔ a < b) ∧ (lN a - lN b = 0 ↔ a = b) := by
  have hT : TB < 2 ^ 40 := by decide
  have e : (lN a - lN b).toInt = (a : Int) - b := by
    rw [Int64.toInt_sub, pk_lT (by omega), pk_lT (by omega)]
    apply Int.bmod_eq_of_le
    · omega
    · omega
  constructor
  · rw [Int64.lt_iff_toInt_lt, e]
    have : (0 : Int64).toInt = 0 := rfl
    rw [this]
    omega
  · rw [← Int64.toInt_inj, e]
    have : (0 : Int64).toInt = 0 := rfl
    rw [this]
    omega
theorem bf_eq {v : Nat → Int64} {R : Nat → Int64} {y j n : Nat} (hv : ∀ s, s < n → R (21 * s + y) = v s) (hb : ∀ s, s < n → bd (v s) TB) (hj : j < n) (hn : n ≤ 16) : ∀ o, o ≤ n → pm_bf R y j o = cn (lt_ v (v j)) o + cn (eq_ v (v j)) (if o ≤ j then o else j)
  | 0, _ => by rw [if_pos (Nat.zero_le j)]; rfl
  | o + 1, ho => by
    rw [pm_bf_s, bf_eq hv hb hj hn o (by omega), hv o (by omega), hv j hj, cn_s]
    obtain ⟨a, ea, ha⟩ := hb o (by omega)
    obtain ⟨b, eb, hb2⟩ := hb j hj
    have d := lN_dlt ha hb2
    have hT : TB < 2 ^ 40 := by decide
    have l : v o < v j ↔ a < b := by rw [ea, eb]; exact pk_lLT (by omega) (by omega)
    have q : v o = v j ↔ a = b := by rw [ea, eb]; exact pk_lEQ (by omega) (by omega)
    have t : pm_lt (v o - v j) o j = lt_ v (v j) o + (if a = b then (if o < j then 1 else 0) else 0) := by
      unfold pm_lt lt_
      rw [ea, eb]
      rw [ea, eb] at l
      by_cases h1 : a < b
      · rw [if_pos (d.1.mpr h1), if_pos (l.mpr h1), if_neg (by omega)]
      · rw [if_neg (fun z => h1 (d.1.mp z)), if_neg (fun z => h1 (l.mp z))]
        by_cases h2 : a = b
        · rw [if_pos (d.2.mpr h2), if_pos h2]
          by_cases h3 : o < j
          · rw [if_neg (fun z => by have := (nI_leI (by omega) (by omega)).mp z; omega), if_pos h3]
          · rw [if_pos ((nI_leI (by omega) (by omega)).mpr (by omega)), if_neg h3]
        · rw [if_neg (fun z => h2 (d.2.mp z)), if_neg h2]
    rw [t]
    by_cases h3 : o < j
    · rw [if_pos (show o ≤ j by omega), if_pos (show o + 1 ≤ j by omega), cn_s (eq_ v (v j))]
      have : eq_ v (v j) o = (if a = b then 1 else 0) := by
        unfold eq_
        by_cases z : a = b
        · rw [if_pos z, if_pos (q.mpr z)]
        · rw [if_neg z, if_neg (fun u => z (q.mp u))]
      rw [this, if_pos h3]
      omega
    · rw [if_neg (show ¬ o + 1 ≤ j by omega), if_neg h3]
      have e2 : (if o ≤ j then o else j) = j := by split <;> omega
      rw [e2]
      have : (if a = b then 0 else 0) = 0 := by split <;> rfl
      omega
theorem rs_ex {f : Nat → Nat} {g : Nat → Int64} {k : Nat} : ∀ n, (∃ s, s < n ∧ f s = k) → ∃ s, s < n ∧ f s = k ∧ pm_rs f g k n = some (g s)
  | 0, h => by obtain ⟨s, h1, -⟩ := h; omega
  | n + 1, h => by
    by_cases q : ∃ s, s < n ∧ f s = k
    · obtain ⟨s, h1, h2, h3⟩ := rs_ex n q
      exact ⟨s, by omega, h2, pm_rs_up (Nat.le_succ n) h3⟩
    · obtain ⟨s, h1, h2⟩ := h
      have e : s = n := by
        rcases Nat.lt_or_ge s n with z | z
        · exact absurd ⟨s, z, h2⟩ q
        · omega
      subst e
      refine ⟨s, h1, h2, pm_rs_new ?_ h2⟩
      clear h1
      have : ∀ m, m ≤ s → pm_rs f g k m = none := by
        intro m
        induction m with
        | zero => intro _; rfl
        | succ m ih => intro hm; exact pm_rs_old (ih (by omega)) (fun z => q ⟨m, by omega, z⟩)
      exact this s (Nat.le_refl s)
theorem rank_eq {n yr : Nat} {M S : Nat → Nat → Int64} (h : relA 0 n yr M S) {y k : Nat} {od : Nat → Int64} (h1 : 1 ≤ y) (h2 : y ≤ yr) (hk : k < n) (hn : n ≤ 16) : (pm_rs (fun j => pm_bf (S 1) y j n) (fun j => S 1 (21 * j + y)) k n).getD 0 = pf_srt (M 0) y od n k := by
  have hv : ∀ s, s < n → S 1 (21 * s + y) = M 0 (pf_ix s y) := fun s hs => by
    have := (h s hs y h1 h2).1.1
    rwa [Nat.zero_add] at this
  have hb : ∀ s, s < n → bd (M 0 (pf_ix s y)) TB := fun s hs => (h s hs y h1 h2).2.1
  have bf : ∀ j, j < n → pm_bf (S 1) y j n = cn (lt_ (fun s => M 0 (pf_ix s y)) (M 0 (pf_ix j y))) n + cn (eq_ (fun s => M 0 (pf_ix s y)) (M 0 (pf_ix j y))) j := fun j hj => by
    have := bf_eq (v := fun s => M 0 (pf_ix s y)) hv hb hj hn n (Nat.le_refl n)
    rwa [if_neg (show ¬ n ≤ j by omega)] at this
  obtain ⟨w, hw⟩ : ∃ w, pf_srt (M 0) y od n k = w := ⟨_, rfl⟩
  obtain ⟨a1, a2, a3⟩ := srt_all (R := M 0) (y := y) (od := od) (w := w) n
  have lo : cn (lt_ (pf_srt (M 0) y od n) w) n ≤ k := cn_le (lt_1 _ _) n (fun i q1 q2 => by
    unfold lt_
    rw [← hw]
    exact if_neg (Int64.not_lt.mpr (a1 k i q1 q2)))
  have hi : k + 1 ≤ cn (lt_ (pf_srt (M 0) y od n) w) n + cn (eq_ (pf_srt (M 0) y od n) w) n := cn_or n (by omega) (fun i q => by rw [← hw]; exact a1 i k (by omega) hk)
  rw [a2] at lo
  rw [a2, a3] at hi
  obtain ⟨s, s1, s2, s3⟩ := nth_eq (v := fun s => M 0 (pf_ix s y)) (w := w) n (k - cn (lt_ (fun s => M 0 (pf_ix s y)) w) n) (by omega)
  have s2 : M 0 (pf_ix s y) = w := s2
  have ex : ∃ s, s < n ∧ (fun j => pm_bf (S 1) y j n) s = k := ⟨s, s1, by
    show pm_bf (S 1) y s n = k
    rw [bf s s1, s2, s3]
    omega⟩
  obtain ⟨t, t1, t2, t3⟩ := rs_ex (g := fun j => S 1 (21 * j + y)) n ex
  rw [t3]
  show S 1 (21 * t + y) = _
  rw [hv t t1, hw]
  have t2 : pm_bf (S 1) y t n = k := t2
  rw [bf t t1] at t2
  have t4 : cn (eq_ (fun s => M 0 (pf_ix s y)) (M 0 (pf_ix t y))) t + 1 ≤ cn (eq_ (fun s => M 0 (pf_ix s y)) (M 0 (pf_ix t y))) n := by
    have : ∀ m, t + 1 ≤ m → cn (eq_ (fun s => M 0 (pf_ix s y)) (M 0 (pf_ix t y))) t + 1 ≤ cn (eq_ (fun s => M 0 (pf_ix s y)) (M 0 (pf_ix t y))) m := by
      intro m
      induction m with
      | zero => intro q; omega
      | succ m ih =>
        intro q
        rw [cn_s]
        by_cases e : m = t
        · subst e
          have : eq_ (fun s => M 0 (pf_ix s y)) (M 0 (pf_ix m y)) m = 1 := if_pos rfl
          omega
        · have := ih (by omega)
          omega
    exact this n (by omega)
  generalize hz : M 0 (pf_ix t y) = z at t2 t4
  have mono : ∀ (u x : Int64), u < x → cn (lt_ (fun s => M 0 (pf_ix s y)) u) n + cn (eq_ (fun s => M 0 (pf_ix s y)) u) n ≤ cn (lt_ (fun s => M 0 (pf_ix s y)) x) n := by
    intro u x hux
    have : ∀ m, cn (lt_ (fun s => M 0 (pf_ix s y)) u) m + cn (eq_ (fun s => M 0 (pf_ix s y)) u) m ≤ cn (lt_ (fun s => M 0 (pf_ix s y)) x) m := by
      intro m
      induction m with
      | zero => exact Nat.le_refl _
      | succ m ih =>
        rw [cn_s, cn_s, cn_s]
        have key : lt_ (fun s => M 0 (pf_ix s y)) u m + eq_ (fun s => M 0 (pf_ix s y)) u m ≤ lt_ (fun s => M 0 (pf_ix s y)) x m := by
          show (if M 0 (pf_ix m y) < u then 1 else 0) + (if M 0 (pf_ix m y) = u then 1 else 0) ≤ (if M 0 (pf_ix m y) < x then 1 else 0)
          by_cases c1 : M 0 (pf_ix m y) < u
          · have c2 : ¬ M 0 (pf_ix m y) = u := fun e => by rw [e] at c1; exact Int64.lt_irrefl c1
            rw [if_pos c1, if_neg c2, if_pos (Int64.lt_trans c1 hux)]
            exact Nat.le_refl _
          · rw [if_neg c1]
            by_cases c2 : M 0 (pf_ix m y) = u
            · rw [if_pos c2, if_pos (by rw [c2]; exact hux)]
              exact Nat.le_refl _
            · rw [if_neg c2]
              exact Nat.zero_le _
        omega
    exact this n
  rcases Int64.lt_or_eq_of_le (Int64.le_refl z) with _ | _
  all_goals
    by_cases c : z < w
    · have := mono z w c
      omega
    · by_cases c2 : w < z
      · have := mono w z c2
        omega
      · exact Int64.le_antisymm (Int64.not_lt.mp c2) (Int64.not_lt.mp c)
end QE6
