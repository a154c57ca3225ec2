section QM1
def pm_in (v a b : Int32) : Int32 := if v < a then 0 else if b < v then 0 else 1
def pm_g4 (a b c d : Int32) : Int32 := if a = 0 then 0 else if b = 0 then 0 else if c = 0 then 0 else if d = 0 then 0 else 1
def pm_t2 (a g : Int32) : Int32 := if a = 0 then 1 else if g = 0 then 2 else 0
def pm_t1 (a : Int32) : Int32 := if a = 0 then 1 else 0
def pm_neg (a : Int32) : Int32 := if 0 ≤ a then 0 else 1
def pm_sel {α : Type} (t : Int32) (a b : α) : α := if t = 0 then a else b
def pm_sl {α : Type} (t : Int32) (a b : α) : α := if t ≤ 0 then a else b
def pm_gr (a b : Int32) (lo hi c : Int32) : Int32 := if a = 0 then 0 else if b = 0 then 0 else if hi < lo then 0 else if c = 0 then 0 else 1
def pm_t3 (g r : Int32) : Int32 := if g = 0 then 1 else if r = 6 then 2 else 0
def pm_te (a b : Int32) : Int32 := if a = 0 then 1 else if b = 0 then 1 else 0
/-- no run: 1; else one of two is wrong: 2 -/
def pm_r1 (r a : Int32) : Int32 := if r = 0 then 1 else if a = 0 then 0 else 2
theorem pm_in_ok {a : Int32} {f t : Nat} (h : ¬ pm_in a (nI f) (nI t) = 0) (ht : t < 2 ^ 31) (hf : f < 2 ^ 31) : a = nI a.toNatClampNeg ∧ f ≤ a.toNatClampNeg ∧ a.toNatClampNeg ≤ t := by
  unfold pm_in at h
  split at h
  · exact absurd rfl h
  · split at h
    · exact absurd rfl h
    · exact qn_between ht hf (by assumption) (Int32.not_lt.mp (by assumption))
theorem pm_in_okm {a : Int32} {n : Nat} (h : ¬ pm_in a 0 (nI n - 1) = 0) (hn : n < 2 ^ 31) : a = nI a.toNatClampNeg ∧ a.toNatClampNeg < n := by
  apply qn_plm (n := n) _ hn
  unfold pm_in at h
  unfold px_place
  split at h
  · exact absurd rfl h
  · next q1 =>
    split at h
    · exact absurd rfl h
    · next q2 => rw [if_neg q1, if_pos (Int32.not_lt.mp q2)]
theorem pm_t2_0 {a g : Int32} (h : pm_t2 a g = 0) : ¬ a = 0 ∧ ¬ g = 0 := by
  unfold pm_t2 at h
  split at h
  · exact absurd h (by decide)
  · split at h
    · exact absurd h (by decide)
    · exact ⟨by assumption, by assumption⟩
theorem pm_t3_0 {g r : Int32} (h : pm_t3 g r ≤ 0) : ¬ g = 0 ∧ ¬ r = 6 := by
  unfold pm_t3 at h
  split at h
  · exact absurd h (by decide)
  · split at h
    · exact absurd h (by decide)
    · exact ⟨by assumption, by assumption⟩
theorem pm_te_0 {a b : Int32} (h : pm_te a b = 0) : ¬ a = 0 ∧ ¬ b = 0 := by
  unfold pm_te at h
  split at h
  · exact absurd h (by decide)
  · split at h
    · exact absurd h (by decide)
    · exact ⟨by assumption, by assumption⟩
theorem qn_ru {r : Nat} (h : ¬ nI r = 6) (hr : r ≤ 6) : r < 6 := by
  rcases Nat.lt_or_ge r 6 with z | z
  · exact z
  · exact absurd (by rw [show r = 6 by omega]; rfl) h
def pm_it (x : Int32) : Nat → Int32
  | 0 => x
  | k + 1 => pm_it x k * 1103515245 + 12345
def pm_ripe (nw wl rl : Nat → Int64) : Nat → Int64
  | 0 => 0
  | k + 1 => pm_ripe nw wl rl k + nw k * wl k * rl k / 1000
def pm_tot (nw wl : Nat → Int64) : Nat → Int64
  | 0 => 0
  | k + 1 => pm_tot nw wl k + nw k * wl k
theorem qn_uu {f : Nat → Int64} {p : Nat} {a b : Int64} : vp_updL (vp_updL f p a) p b = vp_updL f p b := funext fun j => by unfold vp_updL; split <;> rfl
def pm_e (se y sp : Nat) : Int32 := pf_rem (pf_draw (nI se) (nI y) 1) (2 * nI sp + 1) - nI sp
def pm_sv (ms : Nat → Int64) (fr y se sp dl : Nat) : Int64 := ms (fr + pf_ys y dl) * (100 + pm_e se y sp).toInt64 / 100
def pm_up (la m c : Int64) : Int64 := if c ≤ la + m then c else la + m
def pm_dn (la m c : Int64) : Int64 := if la - m ≤ c then c else la - m
def pm_cl (ct : Nat → Int64) (p : Nat) (ch : Int32) (c : Int64) : Int64 := pm_dn (ct (p - 1)) (ct (p - 1) * ch.toInt64 / 1000) (pm_up (ct (p - 1)) (ct (p - 1) * ch.toInt64 / 1000) c)
def pm_lim (ct : Nat → Int64) (fr y : Nat) (ch : Int32) (c : Int64) : Int64 := if nI y ≤ 1 then c else if 1000 ≤ ch then c else pm_cl ct (fr + y) ch c
def pm_mn (c t : Int64) : Int64 := if c ≤ t then c else t
def pm_tk (nw : Nat → Int64) (c t : Int64) (k : Nat) : Int64 := if t = 0 then 0 else nw k * c / t
def pm_nw (nw dil : Nat → Int64) (c t : Int64) : Nat → (Nat → Int64)
  | 0 => nw
  | k + 1 => vp_updL (pm_nw nw dil c t k) k (pm_nw nw dil c t k k - pm_tk (pm_nw nw dil c t k) c t k - (pm_nw nw dil c t k k - pm_tk (pm_nw nw dil c t k) c t k) * dil k / 1000)
def pm_cg (nw wl dil : Nat → Int64) (c t : Int64) : Nat → Int64
  | 0 => 0
  | k + 1 => pm_cg nw wl dil c t k + pm_tk (pm_nw nw dil c t k) c t k * wl k
/-- S 0: the fish; S 1: masses; S 2: caught; S 3: catches; S 4: seen -/
def pm_y1 (wl rl : Nat → Int64) (fr y : Nat) (S : Nat → Nat → Int64) : Nat → Int64 := vp_updL (S 1) (fr + y) (pm_ripe (S 0) wl rl 6)
def pm_y4 (wl rl : Nat → Int64) (sp dl fr y se : Nat) (S : Nat → Nat → Int64) : Int64 := pm_sv (pm_y1 wl rl fr y S) fr y se sp dl
def pm_c0 (wl rl lol hil : Nat → Int64) (rx : Nat) (rt : Int32) (sp dl fr y se : Nat) (S : Nat → Nat → Int64) : Int64 := pm_tot (S 0) wl 6 * pf_rate (lol rx) (hil rx) (pm_y4 wl rl sp dl fr y se S) rt / 1000
def pm_c1 (wl rl lol hil : Nat → Int64) (rx : Nat) (rt : Int32) (sp dl : Nat) (ch : Int32) (fr y se : Nat) (S : Nat → Nat → Int64) : Int64 := pm_lim (S 3) fr y ch (pm_c0 wl rl lol hil rx rt sp dl fr y se S)
def pm_c2 (wl rl lol hil : Nat → Int64) (rx : Nat) (rt : Int32) (sp dl : Nat) (ch : Int32) (fr y se : Nat) (S : Nat → Nat → Int64) : Int64 := pm_mn (pm_c1 wl rl lol hil rx rt sp dl ch fr y se S) (pm_tot (S 0) wl 6)
def pm_yr (wl rl dil lol hil : Nat → Int64) (rx : Nat) (rt : Int32) (sp dl : Nat) (yg ch : Int32) (fr y se : Nat) (S : Nat → Nat → Int64) : Nat → Nat → Int64 := fun j => match j with
  | 0 => pf_grow (pm_nw (S 0) dil (pm_c2 wl rl lol hil rx rt sp dl ch fr y se S) (pm_tot (S 0) wl 6) 6) (pf_born se y yg)
  | 1 => pm_y1 wl rl fr y S
  | 2 => vp_updL (S 2) (fr + y) (pm_cg (S 0) wl dil (pm_c2 wl rl lol hil rx rt sp dl ch fr y se S) (pm_tot (S 0) wl 6) 6)
  | 3 => vp_updL (S 3) (fr + y) (pm_c2 wl rl lol hil rx rt sp dl ch fr y se S)
  | _ => vp_updL (S 4) (fr + y) (pm_y4 wl rl sp dl fr y se S)
def pm_yrs (wl rl dil lol hil : Nat → Int64) (rx : Nat) (rt : Int32) (sp dl : Nat) (yg ch : Int32) (fr se : Nat) (S : Nat → Nat → Int64) : Nat → (Nat → Nat → Int64)
  | 0 => S
  | k + 1 => pm_yr wl rl dil lol hil rx rt sp dl yg ch fr (k + 1) se (pm_yrs wl rl dil lol hil rx rt sp dl yg ch fr se S k)
def pm_beg (nl : Nat → Int64) (f : Nat → Int64) : Nat → (Nat → Int64)
  | 0 => f
  | k + 1 => vp_updL (pm_beg nl f k) k (nl k)
def pm_s0 (S : Nat → Nat → Int64) (f : Nat → Int64) : Nat → Nat → Int64 := fun j => match j with
  | 0 => f
  | k + 1 => S (k + 1)
def pm_go (nl wl rl dil lol hil : Nat → Int64) (rx : Nat) (rt : Int32) (sp dl : Nat) (yg ch : Int32) (ba yr : Nat) (S : Nat → Nat → Int64) : Nat → (Nat → Nat → Int64)
  | 0 => S
  | j + 1 => pm_yrs wl rl dil lol hil rx rt sp dl yg ch (ba + 21 * j) j (pm_s0 (pm_go nl wl rl dil lol hil rx rt sp dl yg ch ba yr S j) (pm_beg nl (pm_go nl wl rl dil lol hil rx rt sp dl yg ch ba yr S j 0) 6)) yr
theorem qn_yI {y dl : Nat} (h : ¬ 1 ≤ nI y - nI dl) (hy : y ≤ 20) (hd : dl ≤ 3) : (1 : Int32) = nI (pf_ys y dl) := by
  rw [← qn_ys hy hd, if_neg (fun q => h (Int32.le_of_lt q))]
theorem qn_yJ {y dl : Nat} (h : 1 ≤ nI y - nI dl) (hy : y ≤ 20) (hd : dl ≤ 3) : nI y - nI dl = nI (pf_ys y dl) := by
  rw [← qn_ys hy hd]
  by_cases q : (1 : Int32) < nI y - nI dl
  · rw [if_pos q]
  · rw [if_neg q]
    exact Int32.le_antisymm (Int32.not_lt.mp q) h
end QM1
