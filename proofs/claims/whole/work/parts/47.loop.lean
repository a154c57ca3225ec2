/-! THE CLAIM OUT OF ONE WALK OF THE LAW'S BODY. Your part is whole_start (and what it stands on); all else here is the same for every law, but numbers. -/
def R_law : String := "OutlookOddsLaw"
def lw_P (b : Addr) (xs : List Int32) (args : Array Value) (s : State) : Prop := args = #[.ref b] ∧ s.IntsAt b xs ∧ xs.length ≤ 3072 ∧ (Jvm.Cond.and given_1 narrow_1).before args s = true
def lw_Q (_ : Array Value) (s : State) (o : Outcome) (t : State) : Prop := o = .returned (some (.int 1)) ∧ Framed s o t [] 601024 7293034
def lw_Z (below : List Frame) (a : Array Value) (s : State) : State → Prop := fun t => ∃ o, t.status = .running ∧ Ended t below o ∧ lw_Q a s o t
/-- the law's own end, with 1 on the stack, nothing written that was there before, its room as the claim has it -/
theorem lw_ret {p : Program} {l : Launch} {e : Env} {s : State} {m : MethodId} {below : List Frame} {meth : Method} {c : Code} {b : Nat} (hx : p.tables.exec = Jvm.exec) (hb : c.code = code) (hr : meth.sig.returnType = ret) (hlocks : meth.locks = false) {pc : Nat} {H : Heap} {ls : Array Slot} (hdg : decode code pc = .ok (.ireturn, 1)) : W p l e room_1 s m #[Value.ref b] below meth c H [] 601024 7293034 (lw_Z below #[Value.ref b] s) (F0 m pc ls [.int 1]) := by
  intro T hT X
  obtain ⟨fs, hret, hrun, hended, hW, hframe⟩ := X.leave (v := some (.int 1)) (hlocks := hlocks) (fun h => by rw [hr] at h; cases h)
  have hmeth' : T.vm.method? m = some meth := X.method'
  refine ⟨T.setFrames fs, ?_, .returned (some (.int 1)), hrun, hended, rfl, ⟨_, rfl⟩, hW, hframe⟩
  jvm_step X.here [X.here.top, hx, hb, hdg, hmeth', hr, ret, narrow_b1]
  (try refine ⟨rfl, ?_⟩); (try refine ⟨rfl, ?_⟩)
  first | (intro acts; rw [hret _ acts rfl rfl rfl]) | rw [hret _ _ rfl rfl rfl]
  exact Steps.refl _
/-- what holds at the law's entry: the machine, the code, the tables' words (any of lw_tbl by 'hts w (by decide +kernel)'), the script of L ints xs at the cell b, what the Statement gives of the start (any of its parts by flat_of_before) -/
def lw_At (p : Program) (s : State) (m : MethodId) (meth : Method) (c : Code) (b L : Nat) (xs : Nat → Int32) : Prop :=
  p.tables.exec = Jvm.exec ∧ c.code = code ∧ meth.sig.returnType = ret ∧ c.maxLocals = 8 ∧ s.vm.findClass R_law = some m.cls ∧ (∀ w ∈ lw_tbl, w.before #[Value.ref b] s = true) ∧ va_X b L xs s s.heap ∧ b < s.heap.size ∧ meth.locks = false ∧ (Jvm.Cond.and given_1 narrow_1).before #[Value.ref b] s = true
section QLP
theorem qn_len {L i : Nat} (hL : L ≤ 3072) (hi : i ≤ 3072) (h : ¬ (nI L - 6 : Int32) < nI i) : i + 6 ≤ L := by
  have h1 := pk_sub_toInt (a := L) (b := 6) (by omega) (by decide)
  have h2 : (nI i).toInt = (i : Int) := nI_toInt (by omega)
  rw [Int32.lt_iff_toInt_lt, show (6 : Int32) = nI 6 from rfl, h1, h2] at h
  omega
set_option maxHeartbeats 4000000 in
set_option maxRecDepth 100000 in
theorem law_loop {p : Program} {l : Launch} {e : Env} {s : State} {m : MethodId} {below : List Frame} {meth : Method} {c : Code} {b L : Nat} {xs : Nat → Int32} {dC : Nat → ClassId} {dI : Nat → Nat → Nat} {cI cJ cG : ClassId} (X : LX p l s m c (fun q => s.heap.size ≤ q) b L xs dC dI cI cJ cG) (hr : meth.sig.returnType = ret) (hlocks : meth.locks = false) (o0 o1 o2 o3 o4 o5 o6 o7 z1 z2 z3 z4 z5 qg tg : Nat) (qr tr : Nat → Nat) (m0 m1 m2 m3 m4 m5 m6 m7 m8 m9 m10 m11 m12 ho : Nat) : ∀ (k n : Nat), L + 6 ≤ 6 * n + 6 * k → 6 * n ≤ L → ∀ (ru sp dl rr yr sd rn : Nat) (th yg ch mk : Int32) (nu wt rp di lo hi ra : Nat → Int32) (lv od ou : Nat → Int64) (M M2 S : Nat → Nat → Int64), LI n ru sp dl rr yr sd rn yg ch nu wt rp di lo hi ra M S → ∀ (H : Heap) (locs : List Loc), va_P (dC, dI) qCl (LWd cI cJ cG o0 o1 o2 o3 o4 o5 o6 o7 z1 z2 z3 z4 z5 qg tg qr tr m0 m1 m2 m3 m4 m5 m6 m7 m8 m9 m10 m11 m12 ho ru sp dl rr yr sd rn th yg ch mk nu wt rp di lo hi ra lv od ou M M2 S) H → va_D (fun q => s.heap.size ≤ q) (LWd cI cJ cG o0 o1 o2 o3 o4 o5 o6 o7 z1 z2 z3 z4 z5 qg tg qr tr m0 m1 m2 m3 m4 m5 m6 m7 m8 m9 m10 m11 m12 ho ru sp dl rr yr sd rn th yg ch mk nu wt rp di lo hi ra lv od ou M M2 S) → va_S (fun q => s.heap.size ≤ q) s.heap H locs → ∀ (ls : Array Slot), lv_has ls 8 [(0, .ref b), (1, .ref o0), (2, .ref m0), (3, .ref ho), (4, .int (nI (6 * n)))] → W p l e room_1 s m #[Value.ref b] below meth c H locs (37 + 5 * n) (5416 + 30 * n) (lw_Z below #[Value.ref b] s) (F0 m 23 ls []) := by
  obtain ⟨hx, hb, hml, hown, hts, hA, hK, hZ, hst, hX, hbl, hbA, hL⟩ := id X
  intro k
  induction k with
  | zero => intro n h1 h2; exact absurd h1 (by omega)
  | succ k ih =>
    intro n h1 h2 ru sp dl rr yr sd rn th yg ch mk nu wt rp di lo hi ra lv od ou M M2 S I H locs hP hD hS ls hl
    refine lv_iload hx hb dL_law_23 (lv_at hl 4 rfl) ?_
    refine lv_aload_n hx hb dL_law_25 rfl (lv_at hl 0 rfl) ?_
    refine va_slen hx hb hX hbl hbA hS dL_law_26 ?_
    refine lv_bipush (v := 6) hx hb dL_law_27 (by decide) ?_
    refine lv_isub hx hb dL_law_29 ?_
    refine lv_icmp_gt (tgt := 1167) hx hb dL_law_30 (by decide) (fun h => ?_) (fun h => ?_)
    · refine lv_iconst (v := 1) hx hb dL_law_1167 (by decide) ?_
      refine va_forget (fun q hq => hS.2.2 q hq) ?_
      refine W.widen (k := 601024) (n := 7293034) (by omega) (by omega) ?_
      exact lw_ret hx hb hr hlocks dL_law_1168
    · have hi6 := qn_len (L := L) (i := 6 * n) hL (by omega) h
      have hk : LK p l e s m below meth c (lw_Z below #[Value.ref b] s) (fun q => s.heap.size ≤ q) b dC dI cI cJ cG o0 o1 o2 o3 o4 o5 o6 o7 z1 z2 z3 z4 z5 qg tg qr tr m0 m1 m2 m3 m4 m5 m6 m7 m8 m9 m10 m11 m12 ho (6 * n) (n + 1) (37 + 5 * n + 5) (5416 + 30 * n + 30) := by
        intro ru sp dl rr yr sd rn th yg ch mk nu wt rp di lo hi ra lv od ou M M2 S I H locs hP hD hS ls hl
        refine lv_iinc (k := 4) (v := nI (6 * (n + 1))) (lv' := [(4, .int (nI (6 * (n + 1)))), (0, .ref b), (1, .ref o0), (2, .ref m0), (3, .ref ho)]) hx hb dL_law_1161 hl rfl ((nI_add (6 * n) 6).trans (congrArg nI (by omega))) (by decide) rfl (fun ls hl => ?_)
        refine lv_goto (tgt := 23) hx hb dL_law_1164 (by decide) ?_
        refine W.widen (k := 37 + 5 * (n + 1)) (n := 5416 + 30 * (n + 1)) (by omega) (by omega) ?_
        exact ih (n + 1) (by omega) (by omega) ru sp dl rr yr sd rn th yg ch mk nu wt rp di lo hi ra lv od ou M M2 S I H locs hP hD hS ls (lv_sub hl [1, 2, 3, 4, 0] rfl)
      refine lv_aload_n hx hb dL_law_33 rfl (lv_at hl 0 rfl) ?_
      refine lv_iload hx hb dL_law_34 (lv_at hl 4 rfl) ?_
      refine qr_sld (k := 6 * n) hx hb hX hbl hbA hS rfl (by omega) (by omega) dL_law_36 ?_
      refine lv_bipush (v := 31) hx hb dL_law_37 (by decide) ?_
      refine lv_iand hx hb dL_law_39 ?_
      obtain ⟨j, hj, hje⟩ := pk_andE (xs (6 * n)) (m := 31) 5 (by decide)
      refine qr_topi hje ?_
      by_cases h16 : j ≤ 16
      · rcases (by omega : j = 0 ∨ j = 1 ∨ j = 2 ∨ j = 3 ∨ j = 4 ∨ j = 5 ∨ j = 6 ∨ j = 7 ∨ j = 8 ∨ j = 9 ∨ j = 10 ∨ j = 11 ∨ j = 12 ∨ j = 13 ∨ j = 14 ∨ j = 15 ∨ j = 16) with rfl | rfl | rfl | rfl | rfl | rfl | rfl | rfl | rfl | rfl | rfl | rfl | rfl | rfl | rfl | rfl | rfl
        · refine lv_tableIn (tgt := 124) (off := 84) hx hb dL_law_40 (by decide) (by decide) (by decide) (by decide) ?_
          exact f_age X o0 o1 o2 o3 o4 o5 o6 o7 z1 z2 z3 z4 z5 qg tg qr tr m0 m1 m2 m3 m4 m5 m6 m7 m8 m9 m10 m11 m12 ho ru sp dl rr yr sd rn th yg ch mk nu wt rp di lo hi ra lv od ou M M2 S (6 * n) n (37 + 5 * n) (5416 + 30 * n) hi6 (by omega) (by omega) (by omega) I H locs hP hD hS ls hl hk
        · refine lv_tableIn (tgt := 208) (off := 168) hx hb dL_law_40 (by decide) (by decide) (by decide) (by decide) ?_
          exact f_young X o0 o1 o2 o3 o4 o5 o6 o7 z1 z2 z3 z4 z5 qg tg qr tr m0 m1 m2 m3 m4 m5 m6 m7 m8 m9 m10 m11 m12 ho ru sp dl rr yr sd rn th yg ch mk nu wt rp di lo hi ra lv od ou M M2 S (6 * n) n (37 + 5 * n) (5416 + 30 * n) hi6 (by omega) (by omega) (by omega) I H locs hP hD hS ls hl hk
        · refine lv_tableIn (tgt := 264) (off := 224) hx hb dL_law_40 (by decide) (by decide) (by decide) (by decide) ?_
          exact f_rule X o0 o1 o2 o3 o4 o5 o6 o7 z1 z2 z3 z4 z5 qg tg qr tr m0 m1 m2 m3 m4 m5 m6 m7 m8 m9 m10 m11 m12 ho ru sp dl rr yr sd rn th yg ch mk nu wt rp di lo hi ra lv od ou M M2 S (6 * n) n (37 + 5 * n) (5416 + 30 * n) hi6 (by omega) (by omega) (by omega) I H locs hP hD hS ls hl hk
        · refine lv_tableIn (tgt := 344) (off := 304) hx hb dL_law_40 (by decide) (by decide) (by decide) (by decide) ?_
          exact f_change X o0 o1 o2 o3 o4 o5 o6 o7 z1 z2 z3 z4 z5 qg tg qr tr m0 m1 m2 m3 m4 m5 m6 m7 m8 m9 m10 m11 m12 ho ru sp dl rr yr sd rn th yg ch mk nu wt rp di lo hi ra lv od ou M M2 S (6 * n) n (37 + 5 * n) (5416 + 30 * n) hi6 (by omega) (by omega) (by omega) I H locs hP hD hS ls hl hk
        · refine lv_tableIn (tgt := 400) (off := 360) hx hb dL_law_40 (by decide) (by decide) (by decide) (by decide) ?_
          exact f_error X o0 o1 o2 o3 o4 o5 o6 o7 z1 z2 z3 z4 z5 qg tg qr tr m0 m1 m2 m3 m4 m5 m6 m7 m8 m9 m10 m11 m12 ho ru sp dl rr yr sd rn th yg ch mk nu wt rp di lo hi ra lv od ou M M2 S (6 * n) n (37 + 5 * n) (5416 + 30 * n) hi6 (by omega) (by omega) (by omega) I H locs hP hD hS ls hl hk
        · refine lv_tableIn (tgt := 448) (off := 408) hx hb dL_law_40 (by decide) (by decide) (by decide) (by decide) ?_
          exact f_mark X o0 o1 o2 o3 o4 o5 o6 o7 z1 z2 z3 z4 z5 qg tg qr tr m0 m1 m2 m3 m4 m5 m6 m7 m8 m9 m10 m11 m12 ho ru sp dl rr yr sd rn th yg ch mk nu wt rp di lo hi ra lv od ou M M2 S (6 * n) n (37 + 5 * n) (5416 + 30 * n) hi6 (by omega) (by omega) (by omega) I H locs hP hD hS ls hl hk
        · refine lv_tableIn (tgt := 504) (off := 464) hx hb dL_law_40 (by decide) (by decide) (by decide) (by decide) ?_
          exact f_draw X o0 o1 o2 o3 o4 o5 o6 o7 z1 z2 z3 z4 z5 qg tg qr tr m0 m1 m2 m3 m4 m5 m6 m7 m8 m9 m10 m11 m12 ho ru sp dl rr yr sd rn th yg ch mk nu wt rp di lo hi ra lv od ou M M2 S (6 * n) n (37 + 5 * n) (5416 + 30 * n) hi6 (by omega) (by omega) (by omega) I H locs hP hD hS ls hl hk
        · refine lv_tableIn (tgt := 553) (off := 513) hx hb dL_law_40 (by decide) (by decide) (by decide) (by decide) ?_
          exact f_run X o0 o1 o2 o3 o4 o5 o6 o7 z1 z2 z3 z4 z5 qg tg qr tr m0 m1 m2 m3 m4 m5 m6 m7 m8 m9 m10 m11 m12 ho ru sp dl rr yr sd rn th yg ch mk nu wt rp di lo hi ra lv od ou M M2 S (6 * n) n (37 + 5 * n) (5416 + 30 * n) hi6 (by omega) (by omega) (by omega) I H locs hP hD hS ls hl hk
        · refine lv_tableIn (tgt := 633) (off := 593) hx hb dL_law_40 (by decide) (by decide) (by decide) (by decide) ?_
          exact f_told X o0 o1 o2 o3 o4 o5 o6 o7 z1 z2 z3 z4 z5 qg tg qr tr m0 m1 m2 m3 m4 m5 m6 m7 m8 m9 m10 m11 m12 ho ru sp dl rr yr sd rn th yg ch mk nu wt rp di lo hi ra lv od ou M M2 S (6 * n) n (37 + 5 * n) (5416 + 30 * n) hi6 (by omega) (by omega) (by omega) I H locs hP hD hS ls hl hk
        · refine lv_tableIn (tgt := 712) (off := 672) hx hb dL_law_40 (by decide) (by decide) (by decide) (by decide) ?_
          exact f_below X o0 o1 o2 o3 o4 o5 o6 o7 z1 z2 z3 z4 z5 qg tg qr tr m0 m1 m2 m3 m4 m5 m6 m7 m8 m9 m10 m11 m12 ho ru sp dl rr yr sd rn th yg ch mk nu wt rp di lo hi ra lv od ou M M2 S (6 * n) n (37 + 5 * n) (5416 + 30 * n) hi6 (by omega) (by omega) (by omega) I H locs hP hD hS ls hl hk
        · refine lv_tableIn (tgt := 780) (off := 740) hx hb dL_law_40 (by decide) (by decide) (by decide) (by decide) ?_
          exact f_steady X o0 o1 o2 o3 o4 o5 o6 o7 z1 z2 z3 z4 z5 qg tg qr tr m0 m1 m2 m3 m4 m5 m6 m7 m8 m9 m10 m11 m12 ho ru sp dl rr yr sd rn th yg ch mk nu wt rp di lo hi ra lv od ou M M2 S (6 * n) n (37 + 5 * n) (5416 + 30 * n) hi6 (by omega) (by omega) (by omega) I H locs hP hD hS ls hl hk
        · refine lv_tableIn (tgt := 835) (off := 795) hx hb dL_law_40 (by decide) (by decide) (by decide) (by decide) ?_
          exact f_recovers X o0 o1 o2 o3 o4 o5 o6 o7 z1 z2 z3 z4 z5 qg tg qr tr m0 m1 m2 m3 m4 m5 m6 m7 m8 m9 m10 m11 m12 ho ru sp dl rr yr sd rn th yg ch mk nu wt rp di lo hi ra lv od ou M M2 S (6 * n) n (37 + 5 * n) (5416 + 30 * n) hi6 (by omega) (by omega) (by omega) I H locs hP hD hS ls hl hk
        · refine lv_tableIn (tgt := 903) (off := 863) hx hb dL_law_40 (by decide) (by decide) (by decide) (by decide) ?_
          exact f_rank X o0 o1 o2 o3 o4 o5 o6 o7 z1 z2 z3 z4 z5 qg tg qr tr m0 m1 m2 m3 m4 m5 m6 m7 m8 m9 m10 m11 m12 ho ru sp dl rr yr sd rn th yg ch mk nu wt rp di lo hi ra lv od ou M M2 S (6 * n) n (37 + 5 * n) (5416 + 30 * n) hi6 (by omega) (by omega) (by omega) I H locs hP hD hS ls hl hk
        · refine lv_tableIn (tgt := 970) (off := 930) hx hb dL_law_40 (by decide) (by decide) (by decide) (by decide) ?_
          exact f_mean X o0 o1 o2 o3 o4 o5 o6 o7 z1 z2 z3 z4 z5 qg tg qr tr m0 m1 m2 m3 m4 m5 m6 m7 m8 m9 m10 m11 m12 ho ru sp dl rr yr sd rn th yg ch mk nu wt rp di lo hi ra lv od ou M M2 S (6 * n) n (37 + 5 * n) (5416 + 30 * n) hi6 (by omega) (by omega) (by omega) I H locs hP hD hS ls hl hk
        · refine lv_tableIn (tgt := 1037) (off := 997) hx hb dL_law_40 (by decide) (by decide) (by decide) (by decide) ?_
          exact f_table X o0 o1 o2 o3 o4 o5 o6 o7 z1 z2 z3 z4 z5 qg tg qr tr m0 m1 m2 m3 m4 m5 m6 m7 m8 m9 m10 m11 m12 ho ru sp dl rr yr sd rn th yg ch mk nu wt rp di lo hi ra lv od ou M M2 S (6 * n) n (37 + 5 * n) (5416 + 30 * n) hi6 (by omega) (by omega) (by omega) I H locs hP hD hS ls hl hk
        · refine lv_tableIn (tgt := 1092) (off := 1052) hx hb dL_law_40 (by decide) (by decide) (by decide) (by decide) ?_
          exact f_top X o0 o1 o2 o3 o4 o5 o6 o7 z1 z2 z3 z4 z5 qg tg qr tr m0 m1 m2 m3 m4 m5 m6 m7 m8 m9 m10 m11 m12 ho ru sp dl rr yr sd rn th yg ch mk nu wt rp di lo hi ra lv od ou M M2 S (6 * n) n (37 + 5 * n) (5416 + 30 * n) hi6 (by omega) (by omega) (by omega) I H locs hP hD hS ls hl hk
        · refine lv_tableIn (tgt := 1136) (off := 1096) hx hb dL_law_40 (by decide) (by decide) (by decide) (by decide) ?_
          exact f_count X o0 o1 o2 o3 o4 o5 o6 o7 z1 z2 z3 z4 z5 qg tg qr tr m0 m1 m2 m3 m4 m5 m6 m7 m8 m9 m10 m11 m12 ho ru sp dl rr yr sd rn th yg ch mk nu wt rp di lo hi ra lv od ou M M2 S (6 * n) n (37 + 5 * n) (5416 + 30 * n) hi6 (by omega) (by omega) (by omega) I H locs hP hD hS ls hl hk
      · refine lv_tableOut (tgt := 1161) hx hb dL_law_40 (Or.inr ?_) (by decide) ?_
        · rw [nI_toInt (by omega)]
          omega
        · refine W.widen (k := 37 + 5 * n + 5) (n := 5416 + 30 * n + 30) (by omega) (by omega) ?_
          exact hk ru sp dl rr yr sd rn th yg ch mk nu wt rp di lo hi ra lv od ou M M2 S (LI_mono I) H locs hP hD hS ls hl
end QLP
